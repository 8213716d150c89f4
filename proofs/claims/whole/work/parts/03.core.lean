/-! The state of class and reference as one table of ints (M r i: row r, place i), and the world of cells that holds it. -/
abbrev St : Type := (Nat → Nat → Int32) × (Nat × (Nat × ((Nat → Int32) × UInt64)))
def up2 (M : Nat → Nat → Int32) (r i : Nat) (v : Int32) : Nat → Nat → Int32 := fun r' i' => if r' = r ∧ i' = i then v else M r' i'
def sup (X : St) (r i : Nat) (v : Int32) : St := (up2 X.1 r i v, X.2)
abbrev GT : Type := va_G × ((Nat → Nat) × ((Nat → Nat) × Nat))
abbrev gD (G : GT) : va_G := G.1
abbrev cy (G : GT) : Nat → Nat := G.2.1
abbrev ad (G : GT) : Nat → Nat := G.2.2.1
abbrev Ab (G : GT) : Nat → Prop := fun q => G.2.2.2 ≤ q
def tr (n : Nat) (f : Nat → Int32) : Nat → Int32 := fun j => if j < n then f j else 0
theorem tr_at {n : Nat} {f : Nat → Int32} {j : Nat} (h : j < n) : tr n f j = f j := if_pos h
theorem up2_same (M : Nat → Nat → Int32) (r i : Nat) (v : Int32) : up2 M r i v r i = v := if_pos ⟨rfl, rfl⟩
theorem up2_ne {M : Nat → Nat → Int32} {r i r' i' : Nat} {v : Int32} (h : ¬ (r' = r ∧ i' = i)) : up2 M r i v r' i' = M r' i' := if_neg h
theorem tr_upd {n : Nat} {M : Nat → Nat → Int32} {r i j : Nat} {v : Int32} (hj : j < n) : upd (tr n fun k => M r (i + k)) j v = tr n fun k => up2 M r (i + j) v r (i + k) := by
  funext k
  by_cases hk : k = j
  · subst hk
    rw [tr_at hj, up2_same]
    exact if_pos rfl
  · by_cases h : k < n
    · rw [tr_at h, up2_ne (by omega)]
      exact (if_neg hk).trans (tr_at h)
    · exact (if_neg hk).trans ((if_neg h).trans (if_neg h).symm)
theorem tr_congr {n : Nat} {f g : Nat → Int32} (h : ∀ j, j < n → f j = g j) : tr n f = tr n g := by
  funext j
  by_cases hj : j < n
  · rw [tr_at hj, tr_at hj, h j hj]
  · exact (if_neg hj).trans (if_neg hj).symm
theorem vlit {x : Int32} {n : Nat} (h : ¬ (x < 0 ∨ n ≤ x.toNatClampNeg)) : vp_in x n := h
def mixO (G : GT) (a : Nat) : va_E := .inr (5, [.ref (ad G a)])
def iarr (G : GT) (n : Nat) (f : Nat → Int32) : va_E := .inl (cy G 0, n, .inl (tr n f))
def vesO (G : GT) (a : Nat) (L t : Int32) : va_E := .inr (8, [.ref (ad G a), .int L, .int t])
def rarr (G : GT) (c n : Nat) (f : Nat → Nat) : va_E := .inl (cy G c, n, .inr (.inr (.inr (.inr (fun j => if j < n then some (ad G (f j)) else none)))))
/-- a group of vessels from the object b + o0, three objects each; from place i0, st places each -/
def vgrp (G : GT) (M : Nat → Nat → Int32) (p b o0 i0 st : Nat) (L : Int32) (o : Nat) : va_E := match (o - o0) % 3 with
  | 0 => vesO G (b + o + 1) L (M p (i0 + st * ((o - o0) / 3) + 4))
  | 1 => mixO G (b + o + 1)
  | _ => iarr G 4 fun j => M p (i0 + st * ((o - o0) / 3) + j)
def mgrp (G : GT) (M : Nat → Nat → Int32) (p b o0 i0 st : Nat) (o : Nat) : va_E := match (o - o0) % 2 with
  | 0 => mixO G (b + o + 1)
  | _ => iarr G 4 fun j => M p (i0 + st * ((o - o0) / 2) + j)
/-- the cells of plant p, its objects from 65 * p on; the places as in the reference's row v -/
def pcell (G : GT) (M : Nat → Nat → Int32) (p o : Nat) : va_E := match o with
  | 0 => .inr (6, [.ref (ad G (65 * p + 1)), .ref (ad G (65 * p + 2)), .ref (ad G (65 * p + 3)), .ref (ad G (65 * p + 4)), .ref (ad G (65 * p + 5)), .int (M p 42), .ref (ad G (65 * p + 6)), .int (M p 43), .ref (ad G (65 * p + 7)), .ref (ad G (65 * p + 9)), .int (M p 0)])
  | 1 => rarr G 5 3 (fun f => 65 * p + (11 + 3 * f))
  | 2 => iarr G 3 (fun f => M p (14 + 6 * f))
  | 3 => rarr G 5 3 (fun f => 65 * p + (20 + 3 * f))
  | 4 => rarr G 6 6 (fun f => 65 * p + (29 + 2 * f))
  | 5 => iarr G 6 (fun f => M p (48 + 6 * f))
  | 6 => rarr G 6 12 (fun f => 65 * p + (41 + 2 * f))
  | 7 => mixO G (65 * p + 8)
  | 8 => iarr G 4 (fun j => M p (1 + j))
  | 9 => mixO G (65 * p + 10)
  | 10 => iarr G 4 (fun j => M p (5 + j))
  | o => if o < 20 then vgrp G M p (65 * p) 11 9 6 10 o else if o < 29 then vgrp G M p (65 * p) 20 27 5 0 o else if o < 41 then mgrp G M p (65 * p) 29 44 6 o else mgrp G M p (65 * p) 41 80 4 o
/-- the other cells, by their number behind the plants -/
def scell (G : GT) (X : St) (o : Nat) : va_E := match o with
  | 0 => .inr (9, [.ref (ad G 0), .ref (ad G 716), .ref (ad G 650), .int (X.1 11 0), .ref (ad G 718), .int (X.1 11 1), .int (X.1 11 2), .ref (ad G 722)])
  | 1 => .inr (4, [.ref (ad G 717), .int (X.1 11 3), .int (X.1 11 4)])
  | 2 => rarr G 7 9 (fun k => 65 * (k + 1) + 0)
  | 3 => .inr (7, [.ref (ad G 719), .int (X.1 11 5), .int (X.1 11 6), .ref (ad G 720), .ref (ad G 721), .int (X.1 11 7)])
  | 4 => .inl (cy G 1, 60, .inl (tr 60 fun j => X.1 12 (0 + j)))
  | 5 => .inl (cy G 8, 60, .inr (.inr (.inr (.inr (fun j => if j < 60 then (if X.1 13 j = 0 then none else some (cy G (19 + (X.1 13 j).toNatClampNeg))) else none)))))
  | 6 => .inl (cy G 9, 60, .inr (.inr (.inr (.inr (fun j => if j < 60 then some (ad G (738 + j)) else none)))))
  | 7 => .inr (1, [.ref X.2.1, .int (X.1 11 8), .int (X.1 11 9), .int (X.1 11 10)])
  | 8 => .inr (10, [.int (X.1 15 0), .int (X.1 15 1), .int (X.1 15 2), .int (X.1 15 3), .int (X.1 15 4), .ref (ad G 724), .ref (ad G 725), .ref (ad G 726), .ref (ad G 727), .ref (ad G 728), .ref (ad G 729), .ref (ad G 730), .ref (ad G 731), .ref (ad G 732), .ref (ad G 733), .ref (ad G 734), .int (X.1 15 5), .int (X.1 15 6), .int (X.1 15 7), .int (X.1 15 8), .int (X.1 15 9), .int (X.1 15 10)])
  | 9 => iarr G 128 (fun j => X.1 16 (0 + j))
  | 10 => iarr G 128 (fun j => X.1 17 (0 + j))
  | 11 => iarr G 128 (fun j => X.1 18 (0 + j))
  | 12 => iarr G 1024 (fun j => X.1 19 (0 + j))
  | 13 => iarr G 4 (fun j => X.1 20 (0 + j))
  | 14 => iarr G 4 (fun j => X.1 21 (0 + j))
  | 15 => iarr G 60 (fun j => X.1 22 (0 + j))
  | 16 => iarr G 40 (fun j => X.1 23 (0 + j))
  | 17 => iarr G 10 (fun j => X.1 24 (0 + j))
  | 18 => iarr G 53 (fun j => X.1 25 (0 + j))
  | 19 => iarr G 11 (fun j => X.1 26 (0 + j))
  | 20 => .inl (cy G 3, 1, .inr (.inl (fun _ => (X.1 27 0).toInt64)))
  | 21 => .inl (cy G 4, 1, .inr (.inr (.inr (.inl (fun _ => X.2.2.2.2)))))
  | 22 => .inl (cy G 2, X.2.2.1, .inl X.2.2.2.1)
  | o => iarr G 3 (fun j => X.1 14 (3 * (o - 23) + j))
def cell (G : GT) (X : St) (k : Nat) : va_E := if k < 715 then pcell G X.1 (k / 65) (k % 65) else scell G X (k - 715)
/-- the address of object k: that of the builder's bytes moves -/
def adx (G : GT) (X : St) (k : Nat) : Nat := if k = 737 then X.2.1 else ad G k
def NK : Nat := 798
def wl (G : GT) (X : St) : va_W := (List.range NK).map fun k => (adx G X k, cell G X k)
def Wd (G : GT) (X : St) (H : Heap) : Prop := va_P (gD G) vwCl (wl G X) H ∧ va_D (Ab G) (wl G X)
theorem wl_at {G : GT} {X : St} {k : Nat} {e : va_E} (hk : k < NK) (h7 : k ≠ 737) (he : cell G X k = e) : (wl G X)[k]? = some (ad G k, e) := by
  subst he
  simp [wl, hk, adx, h7]
theorem wl_set {G : GT} {X Y : St} {k : Nat} {e : va_E} (hk : k < NK) (h7 : k ≠ 737) (hd : Y.2 = X.2) (he : cell G Y k = e) (ho : ∀ j, j < NK → j ≠ k → cell G Y j = cell G X j) : (wl G X).set k (ad G k, e) = wl G Y := by
  apply List.ext_getElem?
  intro j
  by_cases hj : j = k
  · subst hj
    rw [List.getElem?_set_self (by simpa [wl] using hk), wl_at hk h7 he]
  · rw [List.getElem?_set_ne (Ne.symm hj)]
    by_cases hl : j < NK
    · simp [wl, hl, adx, hd, ho j hl hj]
    · simp [wl, hl]
/-- which object a place belongs to, plants -/
def owp (i : Nat) : Nat := if i = 0 then 0 else if i < 5 then 8 else if i < 9 then 10 else if i < 27 then (if (i - 9) % 6 = 4 then 11 + 3 * ((i - 9) / 6) else if (i - 9) % 6 = 5 then 2 else 13 + 3 * ((i - 9) / 6)) else if i < 42 then (if (i - 27) % 5 = 4 then 20 + 3 * ((i - 27) / 5) else 22 + 3 * ((i - 27) / 5)) else if i < 44 then 0 else if i < 80 then (if (i - 44) % 6 < 4 then 30 + 2 * ((i - 44) / 6) else 5) else 42 + 2 * ((i - 80) / 4)
def ow (r i : Nat) : Nat := if r < 11 then 65 * r + owp i else match r with
  | 11 => if i < 3 then 715 else if i < 5 then 716 else if i < 8 then 718 else 722
  | 12 => 719
  | 13 => 720
  | 14 => 738 + i / 3
  | 15 => 723
  | r => 708 + r

theorem ow_p {p : Nat} (hp : p < 11) (i : Nat) : ow p i = 65 * p + owp i := if_pos hp
theorem up_key {M : Nat → Nat → Int32} {r i p c k : Nat} {v : Int32} (h : ow r i ≠ k) (hc : ow p c = k) : up2 M r i v p c = M p c := up2_ne (fun ⟨h1, h2⟩ => h (by subst h1; subst h2; exact hc))
theorem iarr_congr {G : GT} {n : Nat} {f g : Nat → Int32} (h : ∀ j, j < n → f j = g j) : iarr G n f = iarr G n g := by
  unfold iarr
  rw [tr_congr h]
theorem pcell_ne_0 {G : GT} {M : Nat → Nat → Int32} {p r i : Nat} {v : Int32} (hp : p < 11) (h : ow r i ≠ 65 * p + 0) : pcell G (up2 M r i v) p 0 = pcell G M p 0 := by
  have e1 : up2 M r i v p 42 = M p 42 := up_key h (ow_p hp 42)
  have e2 : up2 M r i v p 43 = M p 43 := up_key h (ow_p hp 43)
  have e3 : up2 M r i v p 0 = M p 0 := up_key h (ow_p hp 0)
  show Sum.inr _ = Sum.inr _
  rw [e1, e2, e3]
theorem pcell_ne_1 {G : GT} {M : Nat → Nat → Int32} {p r i : Nat} {v : Int32} (hp : p < 11) (h : ow r i ≠ 65 * p + 1) : pcell G (up2 M r i v) p 1 = pcell G M p 1 := rfl
theorem pcell_ne_2 {G : GT} {M : Nat → Nat → Int32} {p r i : Nat} {v : Int32} (hp : p < 11) (h : ow r i ≠ 65 * p + 2) : pcell G (up2 M r i v) p 2 = pcell G M p 2 := iarr_congr (n := 3) (f := fun j => up2 M r i v p (14 + 6 * j)) (g := fun j => M p (14 + 6 * j)) fun j hj => up_key h (by rcases (show j = 0 ∨ j = 1 ∨ j = 2 by omega) with rfl | rfl | rfl <;> exact ow_p hp _)
theorem pcell_ne_3 {G : GT} {M : Nat → Nat → Int32} {p r i : Nat} {v : Int32} (hp : p < 11) (h : ow r i ≠ 65 * p + 3) : pcell G (up2 M r i v) p 3 = pcell G M p 3 := rfl
theorem pcell_ne_4 {G : GT} {M : Nat → Nat → Int32} {p r i : Nat} {v : Int32} (hp : p < 11) (h : ow r i ≠ 65 * p + 4) : pcell G (up2 M r i v) p 4 = pcell G M p 4 := rfl
theorem pcell_ne_5 {G : GT} {M : Nat → Nat → Int32} {p r i : Nat} {v : Int32} (hp : p < 11) (h : ow r i ≠ 65 * p + 5) : pcell G (up2 M r i v) p 5 = pcell G M p 5 := iarr_congr (n := 6) (f := fun j => up2 M r i v p (48 + 6 * j)) (g := fun j => M p (48 + 6 * j)) fun j hj => up_key h (by rcases (show j = 0 ∨ j = 1 ∨ j = 2 ∨ j = 3 ∨ j = 4 ∨ j = 5 by omega) with rfl | rfl | rfl | rfl | rfl | rfl <;> exact ow_p hp _)
theorem pcell_ne_6 {G : GT} {M : Nat → Nat → Int32} {p r i : Nat} {v : Int32} (hp : p < 11) (h : ow r i ≠ 65 * p + 6) : pcell G (up2 M r i v) p 6 = pcell G M p 6 := rfl
theorem pcell_ne_7 {G : GT} {M : Nat → Nat → Int32} {p r i : Nat} {v : Int32} (hp : p < 11) (h : ow r i ≠ 65 * p + 7) : pcell G (up2 M r i v) p 7 = pcell G M p 7 := rfl
theorem pcell_ne_8 {G : GT} {M : Nat → Nat → Int32} {p r i : Nat} {v : Int32} (hp : p < 11) (h : ow r i ≠ 65 * p + 8) : pcell G (up2 M r i v) p 8 = pcell G M p 8 := iarr_congr (n := 4) (f := fun j => up2 M r i v p (1 + j)) (g := fun j => M p (1 + j)) fun j hj => up_key h (by rcases (show j = 0 ∨ j = 1 ∨ j = 2 ∨ j = 3 by omega) with rfl | rfl | rfl | rfl <;> exact ow_p hp _)
theorem pcell_ne_9 {G : GT} {M : Nat → Nat → Int32} {p r i : Nat} {v : Int32} (hp : p < 11) (h : ow r i ≠ 65 * p + 9) : pcell G (up2 M r i v) p 9 = pcell G M p 9 := rfl
theorem pcell_ne_10 {G : GT} {M : Nat → Nat → Int32} {p r i : Nat} {v : Int32} (hp : p < 11) (h : ow r i ≠ 65 * p + 10) : pcell G (up2 M r i v) p 10 = pcell G M p 10 := iarr_congr (n := 4) (f := fun j => up2 M r i v p (5 + j)) (g := fun j => M p (5 + j)) fun j hj => up_key h (by rcases (show j = 0 ∨ j = 1 ∨ j = 2 ∨ j = 3 by omega) with rfl | rfl | rfl | rfl <;> exact ow_p hp _)
theorem pcell_ne_11 {G : GT} {M : Nat → Nat → Int32} {p r i : Nat} {v : Int32} (hp : p < 11) (h : ow r i ≠ 65 * p + 11) : pcell G (up2 M r i v) p 11 = pcell G M p 11 := by
  have e1 : up2 M r i v p 13 = M p 13 := up_key h (ow_p hp 13)
  show vesO _ _ _ (up2 M r i v p 13) = vesO _ _ _ (M p 13)
  rw [e1]
theorem pcell_ne_12 {G : GT} {M : Nat → Nat → Int32} {p r i : Nat} {v : Int32} (hp : p < 11) (h : ow r i ≠ 65 * p + 12) : pcell G (up2 M r i v) p 12 = pcell G M p 12 := rfl
theorem pcell_ne_13 {G : GT} {M : Nat → Nat → Int32} {p r i : Nat} {v : Int32} (hp : p < 11) (h : ow r i ≠ 65 * p + 13) : pcell G (up2 M r i v) p 13 = pcell G M p 13 := iarr_congr (n := 4) (f := fun j => up2 M r i v p (9 + j)) (g := fun j => M p (9 + j)) fun j hj => up_key h (by rcases (show j = 0 ∨ j = 1 ∨ j = 2 ∨ j = 3 by omega) with rfl | rfl | rfl | rfl <;> exact ow_p hp _)
theorem pcell_ne_14 {G : GT} {M : Nat → Nat → Int32} {p r i : Nat} {v : Int32} (hp : p < 11) (h : ow r i ≠ 65 * p + 14) : pcell G (up2 M r i v) p 14 = pcell G M p 14 := by
  have e1 : up2 M r i v p 19 = M p 19 := up_key h (ow_p hp 19)
  show vesO _ _ _ (up2 M r i v p 19) = vesO _ _ _ (M p 19)
  rw [e1]
theorem pcell_ne_15 {G : GT} {M : Nat → Nat → Int32} {p r i : Nat} {v : Int32} (hp : p < 11) (h : ow r i ≠ 65 * p + 15) : pcell G (up2 M r i v) p 15 = pcell G M p 15 := rfl
theorem pcell_ne_16 {G : GT} {M : Nat → Nat → Int32} {p r i : Nat} {v : Int32} (hp : p < 11) (h : ow r i ≠ 65 * p + 16) : pcell G (up2 M r i v) p 16 = pcell G M p 16 := iarr_congr (n := 4) (f := fun j => up2 M r i v p (15 + j)) (g := fun j => M p (15 + j)) fun j hj => up_key h (by rcases (show j = 0 ∨ j = 1 ∨ j = 2 ∨ j = 3 by omega) with rfl | rfl | rfl | rfl <;> exact ow_p hp _)
theorem pcell_ne_17 {G : GT} {M : Nat → Nat → Int32} {p r i : Nat} {v : Int32} (hp : p < 11) (h : ow r i ≠ 65 * p + 17) : pcell G (up2 M r i v) p 17 = pcell G M p 17 := by
  have e1 : up2 M r i v p 25 = M p 25 := up_key h (ow_p hp 25)
  show vesO _ _ _ (up2 M r i v p 25) = vesO _ _ _ (M p 25)
  rw [e1]
theorem pcell_ne_18 {G : GT} {M : Nat → Nat → Int32} {p r i : Nat} {v : Int32} (hp : p < 11) (h : ow r i ≠ 65 * p + 18) : pcell G (up2 M r i v) p 18 = pcell G M p 18 := rfl
theorem pcell_ne_19 {G : GT} {M : Nat → Nat → Int32} {p r i : Nat} {v : Int32} (hp : p < 11) (h : ow r i ≠ 65 * p + 19) : pcell G (up2 M r i v) p 19 = pcell G M p 19 := iarr_congr (n := 4) (f := fun j => up2 M r i v p (21 + j)) (g := fun j => M p (21 + j)) fun j hj => up_key h (by rcases (show j = 0 ∨ j = 1 ∨ j = 2 ∨ j = 3 by omega) with rfl | rfl | rfl | rfl <;> exact ow_p hp _)
theorem pcell_ne_20 {G : GT} {M : Nat → Nat → Int32} {p r i : Nat} {v : Int32} (hp : p < 11) (h : ow r i ≠ 65 * p + 20) : pcell G (up2 M r i v) p 20 = pcell G M p 20 := by
  have e1 : up2 M r i v p 31 = M p 31 := up_key h (ow_p hp 31)
  show vesO _ _ _ (up2 M r i v p 31) = vesO _ _ _ (M p 31)
  rw [e1]
theorem pcell_ne_21 {G : GT} {M : Nat → Nat → Int32} {p r i : Nat} {v : Int32} (hp : p < 11) (h : ow r i ≠ 65 * p + 21) : pcell G (up2 M r i v) p 21 = pcell G M p 21 := rfl
theorem pcell_ne_22 {G : GT} {M : Nat → Nat → Int32} {p r i : Nat} {v : Int32} (hp : p < 11) (h : ow r i ≠ 65 * p + 22) : pcell G (up2 M r i v) p 22 = pcell G M p 22 := iarr_congr (n := 4) (f := fun j => up2 M r i v p (27 + j)) (g := fun j => M p (27 + j)) fun j hj => up_key h (by rcases (show j = 0 ∨ j = 1 ∨ j = 2 ∨ j = 3 by omega) with rfl | rfl | rfl | rfl <;> exact ow_p hp _)
theorem pcell_ne_23 {G : GT} {M : Nat → Nat → Int32} {p r i : Nat} {v : Int32} (hp : p < 11) (h : ow r i ≠ 65 * p + 23) : pcell G (up2 M r i v) p 23 = pcell G M p 23 := by
  have e1 : up2 M r i v p 36 = M p 36 := up_key h (ow_p hp 36)
  show vesO _ _ _ (up2 M r i v p 36) = vesO _ _ _ (M p 36)
  rw [e1]
theorem pcell_ne_24 {G : GT} {M : Nat → Nat → Int32} {p r i : Nat} {v : Int32} (hp : p < 11) (h : ow r i ≠ 65 * p + 24) : pcell G (up2 M r i v) p 24 = pcell G M p 24 := rfl
theorem pcell_ne_25 {G : GT} {M : Nat → Nat → Int32} {p r i : Nat} {v : Int32} (hp : p < 11) (h : ow r i ≠ 65 * p + 25) : pcell G (up2 M r i v) p 25 = pcell G M p 25 := iarr_congr (n := 4) (f := fun j => up2 M r i v p (32 + j)) (g := fun j => M p (32 + j)) fun j hj => up_key h (by rcases (show j = 0 ∨ j = 1 ∨ j = 2 ∨ j = 3 by omega) with rfl | rfl | rfl | rfl <;> exact ow_p hp _)
theorem pcell_ne_26 {G : GT} {M : Nat → Nat → Int32} {p r i : Nat} {v : Int32} (hp : p < 11) (h : ow r i ≠ 65 * p + 26) : pcell G (up2 M r i v) p 26 = pcell G M p 26 := by
  have e1 : up2 M r i v p 41 = M p 41 := up_key h (ow_p hp 41)
  show vesO _ _ _ (up2 M r i v p 41) = vesO _ _ _ (M p 41)
  rw [e1]
theorem pcell_ne_27 {G : GT} {M : Nat → Nat → Int32} {p r i : Nat} {v : Int32} (hp : p < 11) (h : ow r i ≠ 65 * p + 27) : pcell G (up2 M r i v) p 27 = pcell G M p 27 := rfl
theorem pcell_ne_28 {G : GT} {M : Nat → Nat → Int32} {p r i : Nat} {v : Int32} (hp : p < 11) (h : ow r i ≠ 65 * p + 28) : pcell G (up2 M r i v) p 28 = pcell G M p 28 := iarr_congr (n := 4) (f := fun j => up2 M r i v p (37 + j)) (g := fun j => M p (37 + j)) fun j hj => up_key h (by rcases (show j = 0 ∨ j = 1 ∨ j = 2 ∨ j = 3 by omega) with rfl | rfl | rfl | rfl <;> exact ow_p hp _)
theorem pcell_ne_29 {G : GT} {M : Nat → Nat → Int32} {p r i : Nat} {v : Int32} (hp : p < 11) (h : ow r i ≠ 65 * p + 29) : pcell G (up2 M r i v) p 29 = pcell G M p 29 := rfl
theorem pcell_ne_30 {G : GT} {M : Nat → Nat → Int32} {p r i : Nat} {v : Int32} (hp : p < 11) (h : ow r i ≠ 65 * p + 30) : pcell G (up2 M r i v) p 30 = pcell G M p 30 := iarr_congr (n := 4) (f := fun j => up2 M r i v p (44 + j)) (g := fun j => M p (44 + j)) fun j hj => up_key h (by rcases (show j = 0 ∨ j = 1 ∨ j = 2 ∨ j = 3 by omega) with rfl | rfl | rfl | rfl <;> exact ow_p hp _)
theorem pcell_ne_31 {G : GT} {M : Nat → Nat → Int32} {p r i : Nat} {v : Int32} (hp : p < 11) (h : ow r i ≠ 65 * p + 31) : pcell G (up2 M r i v) p 31 = pcell G M p 31 := rfl
theorem pcell_ne_32 {G : GT} {M : Nat → Nat → Int32} {p r i : Nat} {v : Int32} (hp : p < 11) (h : ow r i ≠ 65 * p + 32) : pcell G (up2 M r i v) p 32 = pcell G M p 32 := iarr_congr (n := 4) (f := fun j => up2 M r i v p (50 + j)) (g := fun j => M p (50 + j)) fun j hj => up_key h (by rcases (show j = 0 ∨ j = 1 ∨ j = 2 ∨ j = 3 by omega) with rfl | rfl | rfl | rfl <;> exact ow_p hp _)
theorem pcell_ne_33 {G : GT} {M : Nat → Nat → Int32} {p r i : Nat} {v : Int32} (hp : p < 11) (h : ow r i ≠ 65 * p + 33) : pcell G (up2 M r i v) p 33 = pcell G M p 33 := rfl
theorem pcell_ne_34 {G : GT} {M : Nat → Nat → Int32} {p r i : Nat} {v : Int32} (hp : p < 11) (h : ow r i ≠ 65 * p + 34) : pcell G (up2 M r i v) p 34 = pcell G M p 34 := iarr_congr (n := 4) (f := fun j => up2 M r i v p (56 + j)) (g := fun j => M p (56 + j)) fun j hj => up_key h (by rcases (show j = 0 ∨ j = 1 ∨ j = 2 ∨ j = 3 by omega) with rfl | rfl | rfl | rfl <;> exact ow_p hp _)
theorem pcell_ne_35 {G : GT} {M : Nat → Nat → Int32} {p r i : Nat} {v : Int32} (hp : p < 11) (h : ow r i ≠ 65 * p + 35) : pcell G (up2 M r i v) p 35 = pcell G M p 35 := rfl
theorem pcell_ne_36 {G : GT} {M : Nat → Nat → Int32} {p r i : Nat} {v : Int32} (hp : p < 11) (h : ow r i ≠ 65 * p + 36) : pcell G (up2 M r i v) p 36 = pcell G M p 36 := iarr_congr (n := 4) (f := fun j => up2 M r i v p (62 + j)) (g := fun j => M p (62 + j)) fun j hj => up_key h (by rcases (show j = 0 ∨ j = 1 ∨ j = 2 ∨ j = 3 by omega) with rfl | rfl | rfl | rfl <;> exact ow_p hp _)
theorem pcell_ne_37 {G : GT} {M : Nat → Nat → Int32} {p r i : Nat} {v : Int32} (hp : p < 11) (h : ow r i ≠ 65 * p + 37) : pcell G (up2 M r i v) p 37 = pcell G M p 37 := rfl
theorem pcell_ne_38 {G : GT} {M : Nat → Nat → Int32} {p r i : Nat} {v : Int32} (hp : p < 11) (h : ow r i ≠ 65 * p + 38) : pcell G (up2 M r i v) p 38 = pcell G M p 38 := iarr_congr (n := 4) (f := fun j => up2 M r i v p (68 + j)) (g := fun j => M p (68 + j)) fun j hj => up_key h (by rcases (show j = 0 ∨ j = 1 ∨ j = 2 ∨ j = 3 by omega) with rfl | rfl | rfl | rfl <;> exact ow_p hp _)
theorem pcell_ne_39 {G : GT} {M : Nat → Nat → Int32} {p r i : Nat} {v : Int32} (hp : p < 11) (h : ow r i ≠ 65 * p + 39) : pcell G (up2 M r i v) p 39 = pcell G M p 39 := rfl
theorem pcell_ne_40 {G : GT} {M : Nat → Nat → Int32} {p r i : Nat} {v : Int32} (hp : p < 11) (h : ow r i ≠ 65 * p + 40) : pcell G (up2 M r i v) p 40 = pcell G M p 40 := iarr_congr (n := 4) (f := fun j => up2 M r i v p (74 + j)) (g := fun j => M p (74 + j)) fun j hj => up_key h (by rcases (show j = 0 ∨ j = 1 ∨ j = 2 ∨ j = 3 by omega) with rfl | rfl | rfl | rfl <;> exact ow_p hp _)
theorem pcell_ne_41 {G : GT} {M : Nat → Nat → Int32} {p r i : Nat} {v : Int32} (hp : p < 11) (h : ow r i ≠ 65 * p + 41) : pcell G (up2 M r i v) p 41 = pcell G M p 41 := rfl
theorem pcell_ne_42 {G : GT} {M : Nat → Nat → Int32} {p r i : Nat} {v : Int32} (hp : p < 11) (h : ow r i ≠ 65 * p + 42) : pcell G (up2 M r i v) p 42 = pcell G M p 42 := iarr_congr (n := 4) (f := fun j => up2 M r i v p (80 + j)) (g := fun j => M p (80 + j)) fun j hj => up_key h (by rcases (show j = 0 ∨ j = 1 ∨ j = 2 ∨ j = 3 by omega) with rfl | rfl | rfl | rfl <;> exact ow_p hp _)
theorem pcell_ne_43 {G : GT} {M : Nat → Nat → Int32} {p r i : Nat} {v : Int32} (hp : p < 11) (h : ow r i ≠ 65 * p + 43) : pcell G (up2 M r i v) p 43 = pcell G M p 43 := rfl
theorem pcell_ne_44 {G : GT} {M : Nat → Nat → Int32} {p r i : Nat} {v : Int32} (hp : p < 11) (h : ow r i ≠ 65 * p + 44) : pcell G (up2 M r i v) p 44 = pcell G M p 44 := iarr_congr (n := 4) (f := fun j => up2 M r i v p (84 + j)) (g := fun j => M p (84 + j)) fun j hj => up_key h (by rcases (show j = 0 ∨ j = 1 ∨ j = 2 ∨ j = 3 by omega) with rfl | rfl | rfl | rfl <;> exact ow_p hp _)
theorem pcell_ne_45 {G : GT} {M : Nat → Nat → Int32} {p r i : Nat} {v : Int32} (hp : p < 11) (h : ow r i ≠ 65 * p + 45) : pcell G (up2 M r i v) p 45 = pcell G M p 45 := rfl
theorem pcell_ne_46 {G : GT} {M : Nat → Nat → Int32} {p r i : Nat} {v : Int32} (hp : p < 11) (h : ow r i ≠ 65 * p + 46) : pcell G (up2 M r i v) p 46 = pcell G M p 46 := iarr_congr (n := 4) (f := fun j => up2 M r i v p (88 + j)) (g := fun j => M p (88 + j)) fun j hj => up_key h (by rcases (show j = 0 ∨ j = 1 ∨ j = 2 ∨ j = 3 by omega) with rfl | rfl | rfl | rfl <;> exact ow_p hp _)
theorem pcell_ne_47 {G : GT} {M : Nat → Nat → Int32} {p r i : Nat} {v : Int32} (hp : p < 11) (h : ow r i ≠ 65 * p + 47) : pcell G (up2 M r i v) p 47 = pcell G M p 47 := rfl
theorem pcell_ne_48 {G : GT} {M : Nat → Nat → Int32} {p r i : Nat} {v : Int32} (hp : p < 11) (h : ow r i ≠ 65 * p + 48) : pcell G (up2 M r i v) p 48 = pcell G M p 48 := iarr_congr (n := 4) (f := fun j => up2 M r i v p (92 + j)) (g := fun j => M p (92 + j)) fun j hj => up_key h (by rcases (show j = 0 ∨ j = 1 ∨ j = 2 ∨ j = 3 by omega) with rfl | rfl | rfl | rfl <;> exact ow_p hp _)
theorem pcell_ne_49 {G : GT} {M : Nat → Nat → Int32} {p r i : Nat} {v : Int32} (hp : p < 11) (h : ow r i ≠ 65 * p + 49) : pcell G (up2 M r i v) p 49 = pcell G M p 49 := rfl
theorem pcell_ne_50 {G : GT} {M : Nat → Nat → Int32} {p r i : Nat} {v : Int32} (hp : p < 11) (h : ow r i ≠ 65 * p + 50) : pcell G (up2 M r i v) p 50 = pcell G M p 50 := iarr_congr (n := 4) (f := fun j => up2 M r i v p (96 + j)) (g := fun j => M p (96 + j)) fun j hj => up_key h (by rcases (show j = 0 ∨ j = 1 ∨ j = 2 ∨ j = 3 by omega) with rfl | rfl | rfl | rfl <;> exact ow_p hp _)
theorem pcell_ne_51 {G : GT} {M : Nat → Nat → Int32} {p r i : Nat} {v : Int32} (hp : p < 11) (h : ow r i ≠ 65 * p + 51) : pcell G (up2 M r i v) p 51 = pcell G M p 51 := rfl
theorem pcell_ne_52 {G : GT} {M : Nat → Nat → Int32} {p r i : Nat} {v : Int32} (hp : p < 11) (h : ow r i ≠ 65 * p + 52) : pcell G (up2 M r i v) p 52 = pcell G M p 52 := iarr_congr (n := 4) (f := fun j => up2 M r i v p (100 + j)) (g := fun j => M p (100 + j)) fun j hj => up_key h (by rcases (show j = 0 ∨ j = 1 ∨ j = 2 ∨ j = 3 by omega) with rfl | rfl | rfl | rfl <;> exact ow_p hp _)
theorem pcell_ne_53 {G : GT} {M : Nat → Nat → Int32} {p r i : Nat} {v : Int32} (hp : p < 11) (h : ow r i ≠ 65 * p + 53) : pcell G (up2 M r i v) p 53 = pcell G M p 53 := rfl
theorem pcell_ne_54 {G : GT} {M : Nat → Nat → Int32} {p r i : Nat} {v : Int32} (hp : p < 11) (h : ow r i ≠ 65 * p + 54) : pcell G (up2 M r i v) p 54 = pcell G M p 54 := iarr_congr (n := 4) (f := fun j => up2 M r i v p (104 + j)) (g := fun j => M p (104 + j)) fun j hj => up_key h (by rcases (show j = 0 ∨ j = 1 ∨ j = 2 ∨ j = 3 by omega) with rfl | rfl | rfl | rfl <;> exact ow_p hp _)
theorem pcell_ne_55 {G : GT} {M : Nat → Nat → Int32} {p r i : Nat} {v : Int32} (hp : p < 11) (h : ow r i ≠ 65 * p + 55) : pcell G (up2 M r i v) p 55 = pcell G M p 55 := rfl
theorem pcell_ne_56 {G : GT} {M : Nat → Nat → Int32} {p r i : Nat} {v : Int32} (hp : p < 11) (h : ow r i ≠ 65 * p + 56) : pcell G (up2 M r i v) p 56 = pcell G M p 56 := iarr_congr (n := 4) (f := fun j => up2 M r i v p (108 + j)) (g := fun j => M p (108 + j)) fun j hj => up_key h (by rcases (show j = 0 ∨ j = 1 ∨ j = 2 ∨ j = 3 by omega) with rfl | rfl | rfl | rfl <;> exact ow_p hp _)
theorem pcell_ne_57 {G : GT} {M : Nat → Nat → Int32} {p r i : Nat} {v : Int32} (hp : p < 11) (h : ow r i ≠ 65 * p + 57) : pcell G (up2 M r i v) p 57 = pcell G M p 57 := rfl
theorem pcell_ne_58 {G : GT} {M : Nat → Nat → Int32} {p r i : Nat} {v : Int32} (hp : p < 11) (h : ow r i ≠ 65 * p + 58) : pcell G (up2 M r i v) p 58 = pcell G M p 58 := iarr_congr (n := 4) (f := fun j => up2 M r i v p (112 + j)) (g := fun j => M p (112 + j)) fun j hj => up_key h (by rcases (show j = 0 ∨ j = 1 ∨ j = 2 ∨ j = 3 by omega) with rfl | rfl | rfl | rfl <;> exact ow_p hp _)
theorem pcell_ne_59 {G : GT} {M : Nat → Nat → Int32} {p r i : Nat} {v : Int32} (hp : p < 11) (h : ow r i ≠ 65 * p + 59) : pcell G (up2 M r i v) p 59 = pcell G M p 59 := rfl
theorem pcell_ne_60 {G : GT} {M : Nat → Nat → Int32} {p r i : Nat} {v : Int32} (hp : p < 11) (h : ow r i ≠ 65 * p + 60) : pcell G (up2 M r i v) p 60 = pcell G M p 60 := iarr_congr (n := 4) (f := fun j => up2 M r i v p (116 + j)) (g := fun j => M p (116 + j)) fun j hj => up_key h (by rcases (show j = 0 ∨ j = 1 ∨ j = 2 ∨ j = 3 by omega) with rfl | rfl | rfl | rfl <;> exact ow_p hp _)
theorem pcell_ne_61 {G : GT} {M : Nat → Nat → Int32} {p r i : Nat} {v : Int32} (hp : p < 11) (h : ow r i ≠ 65 * p + 61) : pcell G (up2 M r i v) p 61 = pcell G M p 61 := rfl
theorem pcell_ne_62 {G : GT} {M : Nat → Nat → Int32} {p r i : Nat} {v : Int32} (hp : p < 11) (h : ow r i ≠ 65 * p + 62) : pcell G (up2 M r i v) p 62 = pcell G M p 62 := iarr_congr (n := 4) (f := fun j => up2 M r i v p (120 + j)) (g := fun j => M p (120 + j)) fun j hj => up_key h (by rcases (show j = 0 ∨ j = 1 ∨ j = 2 ∨ j = 3 by omega) with rfl | rfl | rfl | rfl <;> exact ow_p hp _)
theorem pcell_ne_63 {G : GT} {M : Nat → Nat → Int32} {p r i : Nat} {v : Int32} (hp : p < 11) (h : ow r i ≠ 65 * p + 63) : pcell G (up2 M r i v) p 63 = pcell G M p 63 := rfl
theorem pcell_ne_64 {G : GT} {M : Nat → Nat → Int32} {p r i : Nat} {v : Int32} (hp : p < 11) (h : ow r i ≠ 65 * p + 64) : pcell G (up2 M r i v) p 64 = pcell G M p 64 := iarr_congr (n := 4) (f := fun j => up2 M r i v p (124 + j)) (g := fun j => M p (124 + j)) fun j hj => up_key h (by rcases (show j = 0 ∨ j = 1 ∨ j = 2 ∨ j = 3 by omega) with rfl | rfl | rfl | rfl <;> exact ow_p hp _)
theorem pcell_ne {G : GT} {M : Nat → Nat → Int32} {p r i : Nat} {v : Int32} (hp : p < 11) : ∀ o, o < 65 → ow r i ≠ 65 * p + o → pcell G (up2 M r i v) p o = pcell G M p o
  | 0, _, h => pcell_ne_0 hp h
  | 1, _, h => pcell_ne_1 hp h
  | 2, _, h => pcell_ne_2 hp h
  | 3, _, h => pcell_ne_3 hp h
  | 4, _, h => pcell_ne_4 hp h
  | 5, _, h => pcell_ne_5 hp h
  | 6, _, h => pcell_ne_6 hp h
  | 7, _, h => pcell_ne_7 hp h
  | 8, _, h => pcell_ne_8 hp h
  | 9, _, h => pcell_ne_9 hp h
  | 10, _, h => pcell_ne_10 hp h
  | 11, _, h => pcell_ne_11 hp h
  | 12, _, h => pcell_ne_12 hp h
  | 13, _, h => pcell_ne_13 hp h
  | 14, _, h => pcell_ne_14 hp h
  | 15, _, h => pcell_ne_15 hp h
  | 16, _, h => pcell_ne_16 hp h
  | 17, _, h => pcell_ne_17 hp h
  | 18, _, h => pcell_ne_18 hp h
  | 19, _, h => pcell_ne_19 hp h
  | 20, _, h => pcell_ne_20 hp h
  | 21, _, h => pcell_ne_21 hp h
  | 22, _, h => pcell_ne_22 hp h
  | 23, _, h => pcell_ne_23 hp h
  | 24, _, h => pcell_ne_24 hp h
  | 25, _, h => pcell_ne_25 hp h
  | 26, _, h => pcell_ne_26 hp h
  | 27, _, h => pcell_ne_27 hp h
  | 28, _, h => pcell_ne_28 hp h
  | 29, _, h => pcell_ne_29 hp h
  | 30, _, h => pcell_ne_30 hp h
  | 31, _, h => pcell_ne_31 hp h
  | 32, _, h => pcell_ne_32 hp h
  | 33, _, h => pcell_ne_33 hp h
  | 34, _, h => pcell_ne_34 hp h
  | 35, _, h => pcell_ne_35 hp h
  | 36, _, h => pcell_ne_36 hp h
  | 37, _, h => pcell_ne_37 hp h
  | 38, _, h => pcell_ne_38 hp h
  | 39, _, h => pcell_ne_39 hp h
  | 40, _, h => pcell_ne_40 hp h
  | 41, _, h => pcell_ne_41 hp h
  | 42, _, h => pcell_ne_42 hp h
  | 43, _, h => pcell_ne_43 hp h
  | 44, _, h => pcell_ne_44 hp h
  | 45, _, h => pcell_ne_45 hp h
  | 46, _, h => pcell_ne_46 hp h
  | 47, _, h => pcell_ne_47 hp h
  | 48, _, h => pcell_ne_48 hp h
  | 49, _, h => pcell_ne_49 hp h
  | 50, _, h => pcell_ne_50 hp h
  | 51, _, h => pcell_ne_51 hp h
  | 52, _, h => pcell_ne_52 hp h
  | 53, _, h => pcell_ne_53 hp h
  | 54, _, h => pcell_ne_54 hp h
  | 55, _, h => pcell_ne_55 hp h
  | 56, _, h => pcell_ne_56 hp h
  | 57, _, h => pcell_ne_57 hp h
  | 58, _, h => pcell_ne_58 hp h
  | 59, _, h => pcell_ne_59 hp h
  | 60, _, h => pcell_ne_60 hp h
  | 61, _, h => pcell_ne_61 hp h
  | 62, _, h => pcell_ne_62 hp h
  | 63, _, h => pcell_ne_63 hp h
  | 64, _, h => pcell_ne_64 hp h
  | n + 65, h, _ => absurd h (by omega)
theorem iarr_sne {G : GT} {X : St} {n r i r' i' k : Nat} {v : Int32} (h : ow r i ≠ k) (hc : ∀ j, j < n → ow r' (i' + j) = k) : iarr G n (fun j => (sup X r i v).1 r' (i' + j)) = iarr G n (fun j => X.1 r' (i' + j)) := iarr_congr fun j hj => up_key h (hc j hj)
theorem scell_ne_0 {G : GT} {X : St} {r i : Nat} {v : Int32} (h : ow r i ≠ 715) : scell G (sup X r i v) 0 = scell G X 0 := by
  have e0 : up2 X.1 r i v 11 0 = X.1 11 0 := up_key h rfl
  have e1 : up2 X.1 r i v 11 1 = X.1 11 1 := up_key h rfl
  have e2 : up2 X.1 r i v 11 2 = X.1 11 2 := up_key h rfl
  show Sum.inr _ = Sum.inr _
  rw [show (sup X r i v).1 = up2 X.1 r i v from rfl, e0, e1, e2]
theorem scell_ne_1 {G : GT} {X : St} {r i : Nat} {v : Int32} (h : ow r i ≠ 716) : scell G (sup X r i v) 1 = scell G X 1 := by
  have e0 : up2 X.1 r i v 11 3 = X.1 11 3 := up_key h rfl
  have e1 : up2 X.1 r i v 11 4 = X.1 11 4 := up_key h rfl
  show Sum.inr _ = Sum.inr _
  rw [show (sup X r i v).1 = up2 X.1 r i v from rfl, e0, e1]
theorem scell_ne_2 {G : GT} {X : St} {r i : Nat} {v : Int32} (h : ow r i ≠ 717) : scell G (sup X r i v) 2 = scell G X 2 := rfl
theorem scell_ne_3 {G : GT} {X : St} {r i : Nat} {v : Int32} (h : ow r i ≠ 718) : scell G (sup X r i v) 3 = scell G X 3 := by
  have e0 : up2 X.1 r i v 11 5 = X.1 11 5 := up_key h rfl
  have e1 : up2 X.1 r i v 11 6 = X.1 11 6 := up_key h rfl
  have e2 : up2 X.1 r i v 11 7 = X.1 11 7 := up_key h rfl
  show Sum.inr _ = Sum.inr _
  rw [show (sup X r i v).1 = up2 X.1 r i v from rfl, e0, e1, e2]
theorem scell_ne_4 {G : GT} {X : St} {r i : Nat} {v : Int32} (h : ow r i ≠ 719) : scell G (sup X r i v) 4 = scell G X 4 := congrArg (fun f => (Sum.inl (cy G 1, 60, Sum.inl f) : va_E)) (tr_congr (n := 60) (f := fun j => up2 X.1 r i v 12 (0 + j)) (g := fun j => X.1 12 (0 + j)) fun j hj => up_key h rfl)
theorem scell_ne_5 {G : GT} {X : St} {r i : Nat} {v : Int32} (h : ow r i ≠ 720) : scell G (sup X r i v) 5 = scell G X 5 := by
  have e : ∀ j, up2 X.1 r i v 13 j = X.1 13 j := fun j => up_key h rfl
  show Sum.inl _ = Sum.inl _
  simp only [sup, e]
theorem scell_ne_6 {G : GT} {X : St} {r i : Nat} {v : Int32} (h : ow r i ≠ 721) : scell G (sup X r i v) 6 = scell G X 6 := by
  show Sum.inl _ = Sum.inl _
  simp only [sup]
theorem scell_ne_7 {G : GT} {X : St} {r i : Nat} {v : Int32} (h : ow r i ≠ 722) : scell G (sup X r i v) 7 = scell G X 7 := by
  have e0 : up2 X.1 r i v 11 8 = X.1 11 8 := up_key h rfl
  have e1 : up2 X.1 r i v 11 9 = X.1 11 9 := up_key h rfl
  have e2 : up2 X.1 r i v 11 10 = X.1 11 10 := up_key h rfl
  show Sum.inr _ = Sum.inr _
  rw [show (sup X r i v).1 = up2 X.1 r i v from rfl, e0, e1, e2]
  rfl
theorem scell_ne_8 {G : GT} {X : St} {r i : Nat} {v : Int32} (h : ow r i ≠ 723) : scell G (sup X r i v) 8 = scell G X 8 := by
  have e0 : up2 X.1 r i v 15 0 = X.1 15 0 := up_key h rfl
  have e1 : up2 X.1 r i v 15 1 = X.1 15 1 := up_key h rfl
  have e2 : up2 X.1 r i v 15 2 = X.1 15 2 := up_key h rfl
  have e3 : up2 X.1 r i v 15 3 = X.1 15 3 := up_key h rfl
  have e4 : up2 X.1 r i v 15 4 = X.1 15 4 := up_key h rfl
  have e5 : up2 X.1 r i v 15 5 = X.1 15 5 := up_key h rfl
  have e6 : up2 X.1 r i v 15 6 = X.1 15 6 := up_key h rfl
  have e7 : up2 X.1 r i v 15 7 = X.1 15 7 := up_key h rfl
  have e8 : up2 X.1 r i v 15 8 = X.1 15 8 := up_key h rfl
  have e9 : up2 X.1 r i v 15 9 = X.1 15 9 := up_key h rfl
  have e10 : up2 X.1 r i v 15 10 = X.1 15 10 := up_key h rfl
  show Sum.inr _ = Sum.inr _
  rw [show (sup X r i v).1 = up2 X.1 r i v from rfl, e0, e1, e2, e3, e4, e5, e6, e7, e8, e9, e10]
theorem scell_ne_9 {G : GT} {X : St} {r i : Nat} {v : Int32} (h : ow r i ≠ 724) : scell G (sup X r i v) 9 = scell G X 9 := iarr_sne (n := 128) (r' := 16) (i' := 0) h fun j hj => rfl
theorem scell_ne_10 {G : GT} {X : St} {r i : Nat} {v : Int32} (h : ow r i ≠ 725) : scell G (sup X r i v) 10 = scell G X 10 := iarr_sne (n := 128) (r' := 17) (i' := 0) h fun j hj => rfl
theorem scell_ne_11 {G : GT} {X : St} {r i : Nat} {v : Int32} (h : ow r i ≠ 726) : scell G (sup X r i v) 11 = scell G X 11 := iarr_sne (n := 128) (r' := 18) (i' := 0) h fun j hj => rfl
theorem scell_ne_12 {G : GT} {X : St} {r i : Nat} {v : Int32} (h : ow r i ≠ 727) : scell G (sup X r i v) 12 = scell G X 12 := iarr_sne (n := 1024) (r' := 19) (i' := 0) h fun j hj => rfl
theorem scell_ne_13 {G : GT} {X : St} {r i : Nat} {v : Int32} (h : ow r i ≠ 728) : scell G (sup X r i v) 13 = scell G X 13 := iarr_sne (n := 4) (r' := 20) (i' := 0) h fun j hj => rfl
theorem scell_ne_14 {G : GT} {X : St} {r i : Nat} {v : Int32} (h : ow r i ≠ 729) : scell G (sup X r i v) 14 = scell G X 14 := iarr_sne (n := 4) (r' := 21) (i' := 0) h fun j hj => rfl
theorem scell_ne_15 {G : GT} {X : St} {r i : Nat} {v : Int32} (h : ow r i ≠ 730) : scell G (sup X r i v) 15 = scell G X 15 := iarr_sne (n := 60) (r' := 22) (i' := 0) h fun j hj => rfl
theorem scell_ne_16 {G : GT} {X : St} {r i : Nat} {v : Int32} (h : ow r i ≠ 731) : scell G (sup X r i v) 16 = scell G X 16 := iarr_sne (n := 40) (r' := 23) (i' := 0) h fun j hj => rfl
theorem scell_ne_17 {G : GT} {X : St} {r i : Nat} {v : Int32} (h : ow r i ≠ 732) : scell G (sup X r i v) 17 = scell G X 17 := iarr_sne (n := 10) (r' := 24) (i' := 0) h fun j hj => rfl
theorem scell_ne_18 {G : GT} {X : St} {r i : Nat} {v : Int32} (h : ow r i ≠ 733) : scell G (sup X r i v) 18 = scell G X 18 := iarr_sne (n := 53) (r' := 25) (i' := 0) h fun j hj => rfl
theorem scell_ne_19 {G : GT} {X : St} {r i : Nat} {v : Int32} (h : ow r i ≠ 734) : scell G (sup X r i v) 19 = scell G X 19 := iarr_sne (n := 11) (r' := 26) (i' := 0) h fun j hj => rfl
theorem scell_ne_20 {G : GT} {X : St} {r i : Nat} {v : Int32} (h : ow r i ≠ 735) : scell G (sup X r i v) 20 = scell G X 20 := by
  have e : up2 X.1 r i v 27 0 = X.1 27 0 := up_key h rfl
  show Sum.inl _ = Sum.inl _
  simp only [sup, e]
theorem scell_ne_21 {G : GT} {X : St} {r i : Nat} {v : Int32} (h : ow r i ≠ 736) : scell G (sup X r i v) 21 = scell G X 21 := by
  show Sum.inl _ = Sum.inl _
  simp only [sup]
theorem scell_ne_22 {G : GT} {X : St} {r i : Nat} {v : Int32} (h : ow r i ≠ 737) : scell G (sup X r i v) 22 = scell G X 22 := by
  show Sum.inl _ = Sum.inl _
  simp only [sup]
theorem scell_ne {G : GT} {X : St} {r i : Nat} {v : Int32} : ∀ o, o < 83 → ow r i ≠ 715 + o → scell G (sup X r i v) o = scell G X o
  | 0, _, h => scell_ne_0 h
  | 1, _, h => scell_ne_1 h
  | 2, _, h => scell_ne_2 h
  | 3, _, h => scell_ne_3 h
  | 4, _, h => scell_ne_4 h
  | 5, _, h => scell_ne_5 h
  | 6, _, h => scell_ne_6 h
  | 7, _, h => scell_ne_7 h
  | 8, _, h => scell_ne_8 h
  | 9, _, h => scell_ne_9 h
  | 10, _, h => scell_ne_10 h
  | 11, _, h => scell_ne_11 h
  | 12, _, h => scell_ne_12 h
  | 13, _, h => scell_ne_13 h
  | 14, _, h => scell_ne_14 h
  | 15, _, h => scell_ne_15 h
  | 16, _, h => scell_ne_16 h
  | 17, _, h => scell_ne_17 h
  | 18, _, h => scell_ne_18 h
  | 19, _, h => scell_ne_19 h
  | 20, _, h => scell_ne_20 h
  | 21, _, h => scell_ne_21 h
  | 22, _, h => scell_ne_22 h
  | n + 23, hn, h => iarr_congr (n := 3) (f := fun j => up2 X.1 r i v 14 (3 * (n + 23 - 23) + j)) (g := fun j => X.1 14 (3 * (n + 23 - 23) + j)) fun j hj => up_key h (by show 738 + (3 * (n + 23 - 23) + j) / 3 = 715 + (n + 23); omega)
theorem cell_ne {G : GT} {X : St} {r i : Nat} {v : Int32} {k : Nat} (hk : k < NK) (h : ow r i ≠ k) : cell G (sup X r i v) k = cell G X k := by
  unfold cell
  by_cases h1 : k < 715
  · rw [if_pos h1, if_pos h1]
    exact pcell_ne (by omega) (k % 65) (by omega) (by omega)
  · rw [if_neg h1, if_neg h1]
    have : k < 798 := hk
    exact scell_ne (k - 715) (by omega) (by omega)
theorem cell_p {G : GT} {X : St} {p o : Nat} (hp : p < 11) (ho : o < 65) : cell G X (65 * p + o) = pcell G X.1 p o := by
  unfold cell
  rw [if_pos (by omega), show (65 * p + o) / 65 = p by omega, show (65 * p + o) % 65 = o by omega]
theorem cell_s {G : GT} {X : St} {o : Nat} : cell G X (715 + o) = scell G X o := by
  unfold cell
  rw [if_neg (by omega), show 715 + o - 715 = o by omega]
