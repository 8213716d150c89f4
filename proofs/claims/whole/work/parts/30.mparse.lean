/-! The reference's parser, letter by letter. -/
def sgM (t : Nat → Int32) (L p : Nat) : Int32 := if L ≤ p then -1 else t p
def ps (w : Nat → Int32) (p b : Nat) : Nat → Int32 := upd (upd w (6) (nI p)) (9) (nI b)
theorem ps_6 {w : Nat → Int32} {p b : Nat} : ps w p b 6 = nI p := (pk_un (by decide)).trans pk_us
theorem ps_9 {w : Nat → Int32} {p b : Nat} : ps w p b 9 = nI b := pk_us
theorem ps_o {w : Nat → Int32} {p b j : Nat} (h : j ≠ 6) (h2 : j ≠ 9) : ps w p b j = w j := (pk_un h2).trans (pk_un h)
theorem ps_c {w : Nat → Int32} {a b : Int32} : upd (upd w (9) a) (6) b = upd (upd w (6) b) (9) a := by
  funext j
  by_cases h : j = 6
  · subst h
    rw [pk_us, pk_un (by decide), pk_us]
  · by_cases h2 : j = 9
    · subst h2
      rw [pk_us, pk_un (by decide), pk_us]
    · rw [pk_un h, pk_un h2, pk_un h2, pk_un h]
theorem up_up {w : Nat → Int32} {i : Nat} {a b : Int32} : upd (upd w i a) i b = upd w i b := by
  funext j
  by_cases e : j = i
  · subst e
    rw [pk_us, pk_us]
  · rw [pk_un e, pk_un e, pk_un e]
theorem ps_9u {w : Nat → Int32} {p b b' : Nat} : upd (ps w p b) (9) (nI b') = ps w p b' := up_up
theorem ps_6u {w : Nat → Int32} {p b p' : Nat} : upd (ps w p b) (6) (nI p') = ps w p' b := by
  unfold ps
  rw [ps_c, up_up]
theorem ps_96 {w : Nat → Int32} {p b b' p' : Nat} : upd (upd (ps w p b) (9) (nI b')) (6) (nI p') = ps w p' b' := by
  rw [ps_9u, ps_6u]
theorem ps_ps {w : Nat → Int32} {p b p' b' : Nat} : ps (ps w p b) p' b' = ps w p' b' := by
  show upd (upd (ps w p b) (6) (nI p')) (9) (nI b') = _
  rw [ps_6u, ps_9u]
theorem ps_self {w : Nat → Int32} {p : Nat} (h6 : w 6 = nI p) (h9 : w 9 = 0) : ps w p 0 = w := by
  funext j
  by_cases h : j = 9
  · subst h
    exact pk_us.trans h9.symm
  · by_cases h2 : j = 6
    · subst h2
      exact ps_6.trans h6.symm
    · exact ps_o h2 h
theorem sg_lt {t : Nat → Int32} {L p : Nat} {x : Int32} (h : sgM t L p = x) (hx : ¬ x = -1) : p < L := Nat.lt_of_not_le fun q => hx (h.symm.trans (if_pos q))
theorem sg_in {t : Nat → Int32} {L p : Nat} (h : ¬ oM_isIn (sgM t L p) 48 57 = 0) : p < L := Nat.lt_of_not_le fun q => h (by
  rw [show sgM t L p = -1 from if_pos q]
  decide)
theorem sg_kind {t : Nat → Int32} {L p : Nat} (h : 0 ≤ oM_kind (sgM t L p)) : p < L := Nat.lt_of_not_le fun q => by
  rw [show sgM t L p = -1 from if_pos q] at h
  exact absurd h (by decide)
def dgL (t : Nat → Int32) (L : Nat) : Nat → Nat → Nat → Int32 → Int32 × (Nat × Nat)
  | 0, p, k, n => (n, p, k)
  | q + 1, p, k, n => if oM_isIn (sgM t L p) 48 57 = 0 then (n, p, k) else dgL t L q (p + 1) (k + 1) (10 * n + sgM t L p - 48)
def dgM (t : Nat → Int32) (L m p : Nat) : Int32 × (Nat × Nat) := ((dgL t L m p 0 0).1, ((dgL t L m p 0 0).2.1, if (dgL t L m p 0 0).2.2 = 0 then 1 else 0))
theorem dgM_of {t : Nat → Int32} {L m p p' k : Nat} {n : Int32} (h : dgL t L m p 0 0 = (n, p', k)) : (k = 0 → dgM t L m p = (n, p', 1)) ∧ (¬ k = 0 → dgM t L m p = (n, p', 0)) := by
  unfold dgM
  rw [h]
  exact ⟨fun q => congrArg (fun z => (n, (p', z))) (if_pos q), fun q => congrArg (fun z => (n, (p', z))) (if_neg q)⟩
theorem dgL_le {t : Nat → Int32} {L : Nat} : ∀ (q p k : Nat) (n : Int32), p ≤ L → p ≤ (dgL t L q p k n).2.1 ∧ (dgL t L q p k n).2.1 ≤ L
  | 0, _, _, _, h => ⟨Nat.le_refl _, h⟩
  | q + 1, p, k, n, h => by
    by_cases hb : oM_isIn (sgM t L p) 48 57 = 0
    · rw [show dgL t L (q + 1) p k n = (n, p, k) from if_pos hb]
      exact ⟨Nat.le_refl _, h⟩
    · rw [show dgL t L (q + 1) p k n = dgL t L q (p + 1) (k + 1) (10 * n + sgM t L p - 48) from if_neg hb]
      have := dgL_le (t := t) q (p + 1) (k + 1) (10 * n + sgM t L p - 48) (sg_in hb)
      exact ⟨by omega, this.2⟩
theorem dgM_le {t : Nat → Int32} {L m p p' b : Nat} {n : Int32} (h : p ≤ L) (e : dgM t L m p = (n, p', b)) : p' ≤ L := by
  have := (dgL_le (t := t) m p 0 0 h).2
  rw [← show (dgM t L m p).2.1 = p' by rw [e]]
  exact this
theorem dgM_ge {t : Nat → Int32} {L m p p' b : Nat} {n : Int32} (h : p ≤ L) (e : dgM t L m p = (n, p', b)) : p ≤ p' := by
  have := (dgL_le (t := t) m p 0 0 h).1
  rw [← show (dgM t L m p).2.1 = p' by rw [e]]
  exact this
theorem dgM_b {t : Nat → Int32} {L m p p' b : Nat} {n : Int32} (e : dgM t L m p = (n, p', b)) : b = 0 ∨ b = 1 := by
  rw [← show (dgM t L m p).2.2 = b by rw [e]]
  unfold dgM
  by_cases h : (dgL t L m p 0 0).2.2 = 0
  · right
    exact if_pos h
  · left
    exact if_neg h
def bhM (t : Nat → Int32) (L m p : Nat) : Int32 × (Nat × Nat) := if sgM t L p = 32 then dgM t L m (p + 1) else (0, (p, 1))
theorem bhM_le {t : Nat → Int32} {L m p p' b : Nat} {n : Int32} (h : p ≤ L) (e : bhM t L m p = (n, p', b)) : p' ≤ L := by
  unfold bhM at e
  by_cases hs : sgM t L p = 32
  · rw [if_pos hs] at e
    exact dgM_le (sg_lt hs (by decide)) e
  · rw [if_neg hs] at e
    cases e
    exact h
theorem bhM_ge {t : Nat → Int32} {L m p p' b : Nat} {n : Int32} (_h : p ≤ L) (e : bhM t L m p = (n, p', b)) : p ≤ p' := by
  unfold bhM at e
  by_cases hs : sgM t L p = 32
  · rw [if_pos hs] at e
    have := dgM_ge (sg_lt hs (by decide)) e
    omega
  · rw [if_neg hs] at e
    cases e
    exact Nat.le_refl _
theorem bhM_b {t : Nat → Int32} {L m p p' b : Nat} {n : Int32} (e : bhM t L m p = (n, p', b)) : b = 0 ∨ b = 1 := by
  unfold bhM at e
  by_cases hs : sgM t L p = 32
  · rw [if_pos hs] at e
    exact dgM_b e
  · rw [if_neg hs] at e
    cases e
    exact .inr rfl
def mtM (t : Nat → Int32) (L p : Nat) : Int32 × (Nat × Nat) := if sgM t L p = 32 then (if 0 ≤ oM_kind (sgM t L (p + 1)) then (oM_kind (sgM t L (p + 1)), (p + 1 + 1, 0)) else (oM_kind (sgM t L (p + 1)), (p + 1, 1))) else (0, (p, 1))
theorem mtM_c {t : Nat → Int32} {L p p' b : Nat} {n : Int32} (h : p ≤ L) (e : mtM t L p = (n, p', b)) : p ≤ p' ∧ p' ≤ L ∧ (b = 0 ∨ b = 1) ∧ (b = 0 → ∃ k, k < 4 ∧ n = nI k) := by
  unfold mtM at e
  by_cases hs : sgM t L p = 32
  · rw [if_pos hs] at e
    have h1 : p < L := sg_lt hs (by decide)
    by_cases hk : 0 ≤ oM_kind (sgM t L (p + 1))
    · rw [if_pos hk] at e
      have h2 : p + 1 < L := sg_kind hk
      cases e
      exact ⟨by omega, by omega, .inl rfl, fun _ => kind_ge hk⟩
    · rw [if_neg hk] at e
      cases e
      exact ⟨by omega, by omega, .inr rfl, fun q => absurd q (by decide)⟩
  · rw [if_neg hs] at e
    cases e
    exact ⟨Nat.le_refl _, h, .inr rfl, fun q => absurd q (by decide)⟩
theorem mtM_le {t : Nat → Int32} {L p p' b : Nat} {n : Int32} (h : p ≤ L) (e : mtM t L p = (n, p', b)) : p' ≤ L := (mtM_c h e).2.1
theorem mtM_b {t : Nat → Int32} {L p p' b : Nat} {n : Int32} (e : mtM t L p = (n, p', b)) : b = 0 ∨ b = 1 := by
  unfold mtM at e
  split at e
  · split at e
    · cases e
      exact .inl rfl
    · cases e
      exact .inr rfl
  · cases e
    exact .inr rfl
theorem mtM_k {t : Nat → Int32} {L p p' : Nat} {n : Int32} (e : mtM t L p = (n, p', 0)) : ∃ k, k < 4 ∧ n = nI k := by
  unfold mtM at e
  split at e
  · split at e
    · rename_i hk
      cases e
      exact kind_ge hk
    · cases e
  · cases e
def wa (j : Nat) : Nat := [0, 7, 12, 17, 21, 26, 32, 37, 43, 48, 53].getD j 53
def wcc (j : Nat) : Nat := [99, 104, 97, 114, 103, 101, 32, 102, 105, 114, 101, 32, 115, 107, 105, 109, 32, 116, 97, 112, 32, 98, 97, 99, 107, 32, 109, 111, 117, 108, 100, 32, 112, 111, 117, 114, 32, 98, 114, 101, 97, 107, 32, 109, 101, 108, 116, 32, 119, 97, 105, 116, 32].getD j 32
def WdOk (w25 w26 : Nat → Int32) : Prop := (∀ j, j < 53 → w25 j = nI (wcc j)) ∧ (∀ j, j < 11 → w26 j = nI (wa j))
theorem wa_le (j : Nat) : wa j ≤ 53 := by
  by_cases h : j < 11
  · have : ∀ j, j < 11 → wa j ≤ 53 := by decide
    exact this j h
  · unfold wa
    rw [List.getD_eq_getElem?_getD, List.getElem?_eq_none (by simpa using Nat.le_of_not_lt h)]
    exact Nat.le_refl _
theorem wcc_lt (j : Nat) : wcc j < 128 := by
  by_cases h : j < 53
  · have : ∀ j, j < 53 → wcc j < 128 := by decide +kernel
    exact this j h
  · unfold wcc
    rw [List.getD_eq_getElem?_getD, List.getElem?_eq_none (by simpa using Nat.le_of_not_lt h)]
    decide
def oneR (w : Nat → Int32) : Nat → Int32 := upd (upd (upd (upd (upd (upd (upd (upd (upd (upd w (0) 1) (1) 1) (2) 1) (3) 1) (4) 1) (5) 1) (6) 1) (7) 1) (8) 1) (9) 1
def cA (n : Nat) (sg : Int32) (w : Nat) : Int32 := if nI (wa (w + 1)) ≤ nI (wa w + n) then 0 else if nI (wcc (wa w + n)) = sg then 1 else 0
def laA (z : Nat → Int32) (n : Nat) (sg : Int32) : Nat → (Nat → Int32) × Int32
  | 0 => (z, 0)
  | w + 1 => (upd (laA z n sg w).1 w ((laA z n sg w).1 w &&& cA n sg w), (laA z n sg w).2 ||| (if upd (laA z n sg w).1 w ((laA z n sg w).1 w &&& cA n sg w) w = 1 then 1 else 0))
def lbB (z : Nat → Int32) (n : Nat) (iv : Int32) : Nat → Int32
  | 0 => iv
  | w + 1 => if z w = 1 then (if nI (wa w + n) = nI (wa (w + 1)) then nI w else lbB z n iv w) else lbB z n iv w
def wlL (t : Nat → Int32) (L p : Nat) : Nat → Nat → (Nat → Int32) → Int32 → Int32 × (Nat × (Nat × (Nat → Int32)))
  | 0, n, z, iv => (iv, (p + n, (1, z)))
  | q + 1, n, z, iv =>
    if (laA z n (sgM t L (p + n)) 10).2 = 0 then (lbB (laA z n (sgM t L (p + n)) 10).1 (n + 1) iv 10, (p + n, (1, (laA z n (sgM t L (p + n)) 10).1)))
    else if 0 ≤ lbB (laA z n (sgM t L (p + n)) 10).1 (n + 1) iv 10 then (lbB (laA z n (sgM t L (p + n)) 10).1 (n + 1) iv 10, (p + n + 1, (0, (laA z n (sgM t L (p + n)) 10).1)))
    else wlL t L p q (n + 1) (laA z n (sgM t L (p + n)) 10).1 (lbB (laA z n (sgM t L (p + n)) 10).1 (n + 1) iv 10)
def wdM (t : Nat → Int32) (L p : Nat) (z : Nat → Int32) : Int32 × (Nat × (Nat × (Nat → Int32))) := wlL t L p 8 0 (oneR z) (-1)
theorem laA_zero {z : Nat → Int32} {n : Nat} {sg : Int32} (h : ∀ w, w < 10 → cA n sg w = 0) : ∀ k, k ≤ 10 → (laA z n sg k).2 = 0
  | 0, _ => rfl
  | k + 1, hk => by
    have e : laA z n sg (k + 1) = (upd (laA z n sg k).1 k ((laA z n sg k).1 k &&& cA n sg k), (laA z n sg k).2 ||| (if upd (laA z n sg k).1 k ((laA z n sg k).1 k &&& cA n sg k) k = 1 then 1 else 0)) := rfl
    rw [e, h k (by omega), laA_zero h k (by omega), pk_us, Int32.and_zero]
    rfl
theorem laA_lt7 {z za : Nat → Int32} {n : Nat} {sg mo : Int32} (e : laA z n sg 10 = (za, mo)) (hn : n ≤ 7) (h : ¬ mo = 0) : n + 1 ≤ 7 := by
  refine Nat.succ_le_of_lt (Nat.lt_of_not_le fun h7 => h ?_)
  have h0 : ∀ w, w < 10 → cA n sg w = 0 := fun w hw => if_pos ((nI_leI (by have := wa_le (w + 1); omega) (by have := wa_le w; omega)).mpr (by
      have : ∀ w, w < 10 → wa (w + 1) ≤ wa w + 7 := by decide
      have := this w hw
      omega))
  have := laA_zero (z := z) h0 10 (Nat.le_refl _)
  rw [e] at this
  exact this
theorem laA_ltL {t z za : Nat → Int32} {L p n : Nat} {mo : Int32} (e : laA z n (sgM t L p) 10 = (za, mo)) (h : ¬ mo = 0) : p < L := by
  refine Nat.lt_of_not_le fun h7 => h ?_
  have h0 : ∀ w, w < 10 → cA n (sgM t L p) w = 0 := fun w _ => by
    rw [show sgM t L p = -1 from if_pos h7]
    unfold cA
    split
    · rfl
    · refine if_neg fun q => ?_
      have h9 : ∀ c, c < 128 → ¬ nI c = -1 := by decide
      exact h9 _ (wcc_lt _) q
  have := laA_zero (z := z) h0 10 (Nat.le_refl _)
  rw [e] at this
  exact this
def ca2 (t : Nat → Int32) (L p : Nat) : Int32 × (Int32 × (Int32 × (Nat × Nat))) := ((dgM t L 1 p).1, (0, (0, ((dgM t L 1 p).2.1, (dgM t L 1 p).2.2))))
def ca5 (t : Nat → Int32) (L p : Nat) : Int32 × (Int32 × (Int32 × (Nat × Nat))) := ((dgM t L 3 p).1, (0, (0, ((dgM t L 3 p).2.1, (dgM t L 3 p).2.2))))
def caB (t : Nat → Int32) (L : Nat) (d : Int32 × (Nat × Nat)) : Int32 × (Int32 × (Int32 × (Nat × Nat))) := if d.2.2 = 0 then (d.1, ((bhM t L 1 d.2.1).1, (0, ((bhM t L 1 d.2.1).2.1, (bhM t L 1 d.2.1).2.2)))) else (d.1, (0, (0, (d.2.1, 1))))
def caA (t : Nat → Int32) (L p : Nat) : Int32 × (Int32 × (Int32 × (Nat × Nat))) := caB t L (dgM t L 1 p)
def ca8 (t : Nat → Int32) (L p : Nat) : Int32 × (Int32 × (Int32 × (Nat × Nat))) := caB t L (dgM t L 3 p)
def ca0 (t : Nat → Int32) (L p : Nat) : Int32 × (Int32 × (Int32 × (Nat × Nat))) :=
  if (dgM t L 1 p).2.2 = 0 then
    (if (mtM t L (dgM t L 1 p).2.1).2.2 = 0 then ((dgM t L 1 p).1, ((mtM t L (dgM t L 1 p).2.1).1, ((dgM t L 3 (mtM t L (dgM t L 1 p).2.1).2.1).1, ((dgM t L 3 (mtM t L (dgM t L 1 p).2.1).2.1).2.1, (dgM t L 3 (mtM t L (dgM t L 1 p).2.1).2.1).2.2))))
     else ((dgM t L 1 p).1, ((mtM t L (dgM t L 1 p).2.1).1, (0, ((mtM t L (dgM t L 1 p).2.1).2.1, 1)))))
  else ((dgM t L 1 p).1, (0, (0, ((dgM t L 1 p).2.1, 1))))
def ca3 (t : Nat → Int32) (L p : Nat) : Int32 × (Int32 × (Int32 × (Nat × Nat))) :=
  if (dgM t L 1 p).2.2 = 0 then
    (if (bhM t L 1 (dgM t L 1 p).2.1).2.2 = 0 then ((dgM t L 1 p).1, ((bhM t L 1 (dgM t L 1 p).2.1).1, ((bhM t L 3 (bhM t L 1 (dgM t L 1 p).2.1).2.1).1, ((bhM t L 3 (bhM t L 1 (dgM t L 1 p).2.1).2.1).2.1, (bhM t L 3 (bhM t L 1 (dgM t L 1 p).2.1).2.1).2.2))))
     else ((dgM t L 1 p).1, ((bhM t L 1 (dgM t L 1 p).2.1).1, (0, ((bhM t L 1 (dgM t L 1 p).2.1).2.1, 1)))))
  else ((dgM t L 1 p).1, (0, (0, ((dgM t L 1 p).2.1, 1))))
def doM (k : Nat) (w15 w16 w20 w21 : Nat → Int32) (a b c_ : Int32) : (Nat → Int32) × ((Nat → Int32) × (Nat → Int32)) := match k with
  | 0 => ((oM_charges w15 w16 w20 a b c_).2.1, ((oM_charges w15 w16 w20 a b c_).2.2.1, (oM_charges w15 w16 w20 a b c_).2.2.2))
  | 1 => ((oM_fires w15 w16 a b).2.1, ((oM_fires w15 w16 a b).2.2, w20))
  | 2 => ((oM_skims w15 w16 w21 a).2.1, ((oM_skims w15 w16 w21 a).2.2, w20))
  | 3 => ((oM_taps w15 w16 w20 w21 a b c_).2.1, ((oM_taps w15 w16 w20 w21 a b c_).2.2.1, (oM_taps w15 w16 w20 w21 a b c_).2.2.2))
  | 4 => ((oM_backs w15 w16 w20 a b).2.1, ((oM_backs w15 w16 w20 a b).2.2.1, (oM_backs w15 w16 w20 a b).2.2.2))
  | 5 => ((oM_addsMould w15 w16 a).2.1, ((oM_addsMould w15 w16 a).2.2, w20))
  | 6 => ((oM_pours w15 w16 w20 w21 a b).2.1, ((oM_pours w15 w16 w20 w21 a b).2.2.1, (oM_pours w15 w16 w20 w21 a b).2.2.2))
  | 7 => ((oM_breaks w15 w16 a).2.1, ((oM_breaks w15 w16 a).2.2, w20))
  | 8 => ((oM_melts w15 w16 w20 a b).2.1, ((oM_melts w15 w16 w20 a b).2.2.1, (oM_melts w15 w16 w20 a b).2.2.2))
  | _ => ((oM_passes w15 w16 w21 a).2.1, ((oM_passes w15 w16 w21 a).2.2, w20))
set_option maxHeartbeats 4000000 in
set_option maxRecDepth 100000 in
theorem cX8_sign_ok (l : Launch) (G : GT) (X : St) (pp L : Nat) (hp : pp ≤ L) (hL : L ≤ 60) (e6 : X.1 15 6 = nI pp) (e7 : X.1 15 7 = nI L) : MetI l G yX8_sign (wsG yX8_sign cX8_sign 1 (some .int)) (rmz 0 0) [.ref (ad G 723)] X (fun res Y => res = sgM (X.1 22) L pp ∧ Y = X) := by
  refine g_met (cc := cX8_sign) (maxL := 1) (ret := (some .int)) (by decide) rfl (Nat.le_of_ble_eq_true rfl) ?_
  intro p e s m below meth c ls C hr hlk hnm hW hl
  have hx := C.1.1
  have hb := C.1.2.1
  have hS : va_S (Ab G) s.heap s.heap [] := va_S.rf
  have hl : lv_has ls 1 [(0, .ref (ad G 723))] := hl
  refine lv_aload_n hx hb dX8_sign_0 rfl (lv_at hl 0 rfl) ?_
  refine gM_here C hW (hwc hwX8) (mc qw_1493) dX8_sign_1 ?_
  refine g_top (y := nI pp) e6 ?_
  refine lv_aload_n hx hb dX8_sign_4 rfl (lv_at hl 0 rfl) ?_
  refine gM_end C hW (hwc hwX8) (mc qw_1494) dX8_sign_5 ?_
  refine g_top (y := nI L) e7 ?_
  refine lv_icmp_ge (tgt := 23) hx hb dX8_sign_8 (by decide) (fun b_1 => ?_) (fun b_1 => ?_)
  · have fb_1 : L ≤ pp := (nI_leI (a := L) (b := pp) (by omega) (by omega)).mp b_1
    refine lv_iconst (v := (-1)) hx hb dX8_sign_23 (by decide) ?_
    exact g_iret C hr hlk hW hS dX8_sign_24 (by exact ⟨(if_pos fb_1).symm, rfl⟩)
  · have fb_1 : ¬ L ≤ pp := fun q9 => b_1 ((nI_leI (a := L) (b := pp) (by omega) (by omega)).mpr q9)
    refine lv_aload_n hx hb dX8_sign_11 rfl (lv_at hl 0 rfl) ?_
    refine gM_text C hW (hwc hwX8) (mc qw_1487) dX8_sign_12 ?_
    refine lv_aload_n hx hb dX8_sign_15 rfl (lv_at hl 0 rfl) ?_
    refine gM_here C hW (hwc hwX8) (mc qw_1493) dX8_sign_16 ?_
    refine g_top (y := nI pp) e6 ?_
    refine gm_mtextld C hW pp (nI_clamp (by omega)) (vp_in_nI (show pp < 60 by omega) (by decide)) dX8_sign_19 ?_
    refine lv_goto (tgt := 24) hx hb dX8_sign_20 (by decide) ?_
    exact g_iret C hr hlk hW hS dX8_sign_24 (by exact ⟨(if_neg fb_1).symm, rfl⟩)

set_option maxHeartbeats 4000000 in
set_option maxRecDepth 100000 in
theorem cX8_mark_ok (l : Launch) (G : GT) (X : St) (pp L : Nat) (hp : pp ≤ L) (hL : L ≤ 60) (e6 : X.1 15 6 = nI pp) (e7 : X.1 15 7 = nI L) (e9 : X.1 15 9 = 0) (x : Int32) (hx9 : ¬ x = -1) : MetV l G yX8_mark (wsG yX8_mark cX8_mark 2 none) (rmz 1 20) [.ref (ad G 723), .int x] X (fun Y => Y = setRow X 15 (ps (X.1 15) (if sgM (X.1 22) L pp = x then pp + 1 else pp) (if sgM (X.1 22) L pp = x then 0 else 1))) := by
  refine g_met (cc := cX8_mark) (maxL := 2) (ret := none) (by decide) rfl (Nat.le_of_ble_eq_true rfl) ?_
  intro p e s m below meth c ls C hr hlk hnm hW hl
  have hx := C.1.1
  have hb := C.1.2.1
  have hS : va_S (Ab G) s.heap s.heap [] := va_S.rf
  have hl : lv_has ls 2 [(0, .ref (ad G 723)), (1, .int x)] := hl
  have hW : Wd G (setRow (X) 15 (X.1 15)) s.heap := Wd.cast ((sr_same (X := X) (r := 15) rfl)).symm hW
  refine lv_aload_n hx hb dX8_mark_0 rfl (lv_at hl 0 rfl) ?_
  refine gM_isWrong C hW (hwc hwX8) (mc qw_1496) dX8_mark_1 ?_
  refine g_top (y := X.1 15 (9)) (congrFun rd_out _) ?_
  refine g_top (y := 0) e9 ?_
  refine lv_if_eq (tgt := 8) hx hb dX8_mark_4 (by decide) (fun _ => ?_) (fun h9 => absurd h9 (by decide))
  refine lv_aload_n hx hb dX8_mark_8 rfl (lv_at hl 0 rfl) ?_
  refine lv_aload_n hx hb dX8_mark_9 rfl (lv_at hl 0 rfl) ?_
  refine g_calli (va_runV (As := []) (rest := [.ref (ad G 723)]) C.1 (cX8_sign_ok l G (setRow X 15 (X.1 15)) pp L (show pp ≤ L by omega) hL e6 e7) (cwV 0 C.1.2.2.2.2 (gV qw_1899 qw_1901 qw_64 qw_81 qw_1902) rfl rfl rfl (by decide +kernel) ⟨Nat.le_of_ble_eq_true rfl, Nat.le_of_ble_eq_true rfl⟩) (g_rModel C hW hS []) rfl rfl hl.1 rfl (lv_room (Nat.le_of_ble_eq_true rfl)) dX8_mark_10 ⟨Nat.zero_le _, Nat.zero_le _⟩) hS (fun r_2 Y_3 H_4 locs_5 hW_6 hS_7 h_1 => ?_)
  obtain ⟨h_1, hy_8⟩ := h_1
  replace hy_8 := hy_8.symm
  subst hy_8
  replace h_1 : r_2 = sgM (X.1 22) L pp := h_1
  subst h_1
  refine lv_iload_n hx hb dX8_mark_13 rfl (lv_at hl 1 rfl) ?_
  refine lv_icmp_eq (tgt := 21) hx hb dX8_mark_14 (by decide) (fun b_9 => ?_) (fun b_9 => ?_)
  · refine lv_iconst (v := 0) hx hb dX8_mark_21 (by decide) ?_
    refine gM_isWrongP C hW_6 hS_7 (hwc hwX8) (mc qw_1496) rfl rfl dX8_mark_22 (fun H_10 locs_11 hW_12 hS_13 => ?_)
    obtain ⟨w_14, ew_14⟩ : ∃ Z9, Z9 = upd (X.1 15) (9) 0 := ⟨_, rfl⟩
    have kn_15 : w_14 (6) = nI pp := by rw [ew_14]; exact (pk_un (by omega)).trans e6
    have kn_16 : w_14 (7) = nI L := by rw [ew_14]; exact (pk_un (by omega)).trans e7
    have kn_17 : w_14 (9) = 0 := by rw [ew_14]; exact pk_us
    have hW_18 : Wd G (setRow X 15 w_14) H_10 := Wd.cast (by rw [ew_14]; exact st_out) hW_12
    refine lv_aload_n hx hb dX8_mark_25 rfl (lv_at hl 0 rfl) ?_
    refine lv_dup hx hb dX8_mark_26 rfl ?_
    refine gM_here C hW_18 (hwc hwX8) (mc qw_1493) dX8_mark_27 ?_
    refine g_top (y := w_14 (6)) (congrFun rd_out _) ?_
    refine g_top (y := nI pp) kn_15 ?_
    refine lv_aload_n hx hb dX8_mark_30 rfl (lv_at hl 0 rfl) ?_
    refine gM_isWrong C hW_18 (hwc hwX8) (mc qw_1496) dX8_mark_31 ?_
    refine g_top (y := w_14 (9)) (congrFun rd_out _) ?_
    refine g_top (y := 0) kn_17 ?_
    refine lv_if_eq (tgt := 41) hx hb dX8_mark_34 (by decide) (fun _ => ?_) (fun h9 => absurd h9 (by decide))
    refine lv_iconst (v := 1) hx hb dX8_mark_41 (by decide) ?_
    refine lv_iadd hx hb dX8_mark_42 ?_
    refine g_top (y := nI (pp + 1)) (nI_add pp 1) ?_
    refine gM_hereP C hW_18 hS_13 (hwc hwX8) (mc qw_1493) dX8_mark_43 (fun H_19 locs_20 hW_21 hS_22 => ?_)
    obtain ⟨w_23, ew_23⟩ : ∃ Z9, Z9 = upd w_14 (6) (nI (pp + 1)) := ⟨_, rfl⟩
    have kn_24 : w_23 (7) = nI L := by rw [ew_23]; exact (pk_un (by omega)).trans kn_16
    have kn_25 : w_23 (9) = 0 := by rw [ew_23]; exact (pk_un (by omega)).trans kn_17
    have kn_26 : w_23 (6) = nI (pp + 1) := by rw [ew_23]; exact pk_us
    have hW_27 : Wd G (setRow X 15 w_23) H_19 := Wd.cast (by rw [ew_23]; exact st_out) hW_21
    exact g_vret C hr hlk hW_27 hS_22 dX8_mark_46 (by subst ew_23; subst ew_14; rw [if_pos b_9, if_pos b_9, ps_c]; (try rfl))
  · refine lv_iconst (v := 1) hx hb dX8_mark_17 (by decide) ?_
    refine lv_goto (tgt := 22) hx hb dX8_mark_18 (by decide) ?_
    refine gM_isWrongP C hW_6 hS_7 (hwc hwX8) (mc qw_1496) rfl rfl dX8_mark_22 (fun H_28 locs_29 hW_30 hS_31 => ?_)
    obtain ⟨w_32, ew_32⟩ : ∃ Z9, Z9 = upd (X.1 15) (9) 1 := ⟨_, rfl⟩
    have kn_33 : w_32 (6) = nI pp := by rw [ew_32]; exact (pk_un (by omega)).trans e6
    have kn_34 : w_32 (7) = nI L := by rw [ew_32]; exact (pk_un (by omega)).trans e7
    have kn_35 : w_32 (9) = 1 := by rw [ew_32]; exact pk_us
    have hW_36 : Wd G (setRow X 15 w_32) H_28 := Wd.cast (by rw [ew_32]; exact st_out) hW_30
    refine lv_aload_n hx hb dX8_mark_25 rfl (lv_at hl 0 rfl) ?_
    refine lv_dup hx hb dX8_mark_26 rfl ?_
    refine gM_here C hW_36 (hwc hwX8) (mc qw_1493) dX8_mark_27 ?_
    refine g_top (y := w_32 (6)) (congrFun rd_out _) ?_
    refine g_top (y := nI pp) kn_33 ?_
    refine lv_aload_n hx hb dX8_mark_30 rfl (lv_at hl 0 rfl) ?_
    refine gM_isWrong C hW_36 (hwc hwX8) (mc qw_1496) dX8_mark_31 ?_
    refine g_top (y := w_32 (9)) (congrFun rd_out _) ?_
    refine g_top (y := 1) kn_35 ?_
    refine lv_if_eq (tgt := 41) hx hb dX8_mark_34 (by decide) (fun h9 => absurd h9 (by decide)) (fun _ => ?_)
    refine lv_iconst (v := 0) hx hb dX8_mark_37 (by decide) ?_
    refine lv_goto (tgt := 42) hx hb dX8_mark_38 (by decide) ?_
    refine lv_iadd hx hb dX8_mark_42 ?_
    refine g_top (y := (nI pp)) (Int32.add_zero _) ?_
    refine gM_hereP C hW_36 hS_31 (hwc hwX8) (mc qw_1493) dX8_mark_43 (fun H_37 locs_38 hW_39 hS_40 => ?_)
    obtain ⟨w_41, ew_41⟩ : ∃ Z9, Z9 = upd w_32 (6) (nI pp) := ⟨_, rfl⟩
    have kn_42 : w_41 (7) = nI L := by rw [ew_41]; exact (pk_un (by omega)).trans kn_34
    have kn_43 : w_41 (9) = 1 := by rw [ew_41]; exact (pk_un (by omega)).trans kn_35
    have kn_44 : w_41 (6) = nI pp := by rw [ew_41]; exact pk_us
    have hW_45 : Wd G (setRow X 15 w_41) H_37 := Wd.cast (by rw [ew_41]; exact st_out) hW_39
    exact g_vret C hr hlk hW_45 hS_40 dX8_mark_46 (by subst ew_41; subst ew_32; rw [if_neg b_9, if_neg b_9, ps_c]; (try rfl))

set_option maxHeartbeats 4000000 in
set_option maxRecDepth 100000 in
theorem cX8_digits_ok (l : Launch) (G : GT) (X : St) (pp L : Nat) (hp : pp ≤ L) (hL : L ≤ 60) (e6 : X.1 15 6 = nI pp) (e7 : X.1 15 7 = nI L) (e9 : X.1 15 9 = 0) (mx : Nat) (hmx : mx ≤ 3) : MetI l G yX8_digits (wsG yX8_digits cX8_digits 4 (some .int)) (rmz 1 22) [.ref (ad G 723), .int (nI mx)] X (fun res Y => res = (dgM (X.1 22) L mx pp).1 ∧ Y = setRow X 15 (ps (X.1 15) (dgM (X.1 22) L mx pp).2.1 (dgM (X.1 22) L mx pp).2.2)) := by
  refine g_met (cc := cX8_digits) (maxL := 4) (ret := (some .int)) (by decide) rfl (Nat.le_of_ble_eq_true rfl) ?_
  intro p e s m below meth c ls C hr hlk hnm hW hl
  have hx := C.1.1
  have hb := C.1.2.1
  have hS : va_S (Ab G) s.heap s.heap [] := va_S.rf
  have hl : lv_has ls 4 [(0, .ref (ad G 723)), (1, .int (nI mx))] := hl
  have hW : Wd G (setRow (X) 15 (X.1 15)) s.heap := Wd.cast ((sr_same (X := X) (r := 15) rfl)).symm hW
  refine lv_iconst (v := 0) hx hb dX8_digits_0 (by decide) ?_
  refine lv_istore_n (lv' := [(2, .int 0), (0, .ref (ad G 723)), (1, .int (nI mx))]) hx hb dX8_digits_1 rfl hl (by decide) rfl (fun ls_1 hl_2 => ?_)
  refine lv_iconst (v := 0) hx hb dX8_digits_2 (by decide) ?_
  refine lv_istore_n (lv' := [(3, .int 0), (2, .int 0), (0, .ref (ad G 723)), (1, .int (nI mx))]) hx hb dX8_digits_3 rfl hl_2 (by decide) rfl (fun ls_3 hl_4 => ?_)
  have loop : ∀ (q : Nat) (kk : Nat) (nn : Int32) (yy : Nat → Int32) (H : Heap) (locs : List Loc) (ls : Array Slot), kk + q = mx → pp + kk ≤ L → dgL (X.1 22) L q (pp + kk) kk nn = dgL (X.1 22) L mx pp 0 0 → yy = ps (X.1 15) (pp + kk) 0 → Wd G (setRow X 15 yy) H → va_S (Ab G) s.heap H locs → lv_has ls 4 [(2, .int nn), (3, .int (nI kk)), (0, .ref (ad G 723)), (1, .int (nI mx))] → W p l e (rmz 1 22) s m ([.ref (ad G 723), .int (nI mx)] : List Value).toArray below meth c H locs 0 0 (MQ below (Ki G (fun res Y => res = (dgM (X.1 22) L mx pp).1 ∧ Y = setRow X 15 (ps (X.1 15) (dgM (X.1 22) L mx pp).2.1 (dgM (X.1 22) L mx pp).2.2))) ([.ref (ad G 723), .int (nI mx)] : List Value).toArray s 0 0 (Ab G)) (F0 m 4 ls []) := by
    intro q
    induction q with
    | zero =>
      intro kk nn yy H locs ls hq hkp hf hy hW hS hl
      have hy6 : yy (6) = nI (pp + kk) := by rw [hy]; exact ps_6
      have hy7 : yy (7) = nI L := by rw [hy]; exact (ps_o (by decide) (by decide)).trans e7
      have hy9 : yy (9) = 0 := by rw [hy]; exact ps_9
      have e8 : dgL (X.1 22) L mx pp 0 0 = (nn, pp + kk, kk) := hf.symm
      refine lv_aload_n hx hb dX8_digits_4 rfl (lv_at hl 2 rfl) ?_
      refine gM_isWrong C hW (hwc hwX8) (mc qw_1496) dX8_digits_5 ?_
      refine g_top (y := yy (9)) (congrFun rd_out _) ?_
      refine g_top (y := 0) hy9 ?_
      refine lv_if_ne (tgt := 59) hx hb dX8_digits_8 (by decide) (fun h9 => absurd h9 (by decide)) (fun _ => ?_)
      refine lv_iload_n hx hb dX8_digits_11 rfl (lv_at hl 1 rfl) ?_
      refine lv_iload_n hx hb dX8_digits_12 rfl (lv_at hl 3 rfl) ?_
      refine lv_icmp_ge (tgt := 59) hx hb dX8_digits_13 (by decide) (fun _ => ?_) (fun h9 => absurd (nI_le (a := mx) (b := kk) (by omega) (by omega)) h9)
      refine lv_aload_n hx hb dX8_digits_59 rfl (lv_at hl 2 rfl) ?_
      refine lv_dup hx hb dX8_digits_60 rfl ?_
      refine gM_isWrong C hW (hwc hwX8) (mc qw_1496) dX8_digits_61 ?_
      refine g_top (y := yy (9)) (congrFun rd_out _) ?_
      refine g_top (y := 0) hy9 ?_
      refine lv_iload_n hx hb dX8_digits_64 rfl (lv_at hl 1 rfl) ?_
      refine lv_if_ne (tgt := 72) hx hb dX8_digits_65 (by decide) (fun b_5 => ?_) (fun b_5 => ?_)
      · have fb_5 : ¬ kk = 0 := fun q9 => b_5 ((nI_eq (a := kk) (b := 0) (by omega) (by omega)).mpr q9)
        refine lv_iconst (v := 0) hx hb dX8_digits_72 (by decide) ?_
        refine lv_ior hx hb dX8_digits_73 ?_
        refine g_top (y := 0) (by decide) ?_
        refine gM_isWrongP C hW hS (hwc hwX8) (mc qw_1496) rfl rfl dX8_digits_74 (fun H_6 locs_7 hW_8 hS_9 => ?_)
        obtain ⟨w_10, ew_10⟩ : ∃ Z9, Z9 = upd yy (9) 0 := ⟨_, rfl⟩
        have kn_11 : w_10 (6) = nI (pp + kk) := by rw [ew_10]; exact (pk_un (by omega)).trans hy6
        have kn_12 : w_10 (7) = nI L := by rw [ew_10]; exact (pk_un (by omega)).trans hy7
        have kn_13 : w_10 (9) = 0 := by rw [ew_10]; exact pk_us
        have hW_14 : Wd G (setRow X 15 w_10) H_6 := Wd.cast (by rw [ew_10]; exact st_out) hW_8
        refine lv_iload_n hx hb dX8_digits_77 rfl (lv_at hl 0 rfl) ?_
        exact g_iret C hr hlk hW_14 hS_9 dX8_digits_78 (by have e9 : dgM (X.1 22) L mx pp = (nn, pp + kk, 0) := (dgM_of e8).2 fb_5; subst ew_10; rw [e9]; exact ⟨rfl, by rw [hy]; exact congrArg (setRow X 15) ps_9u⟩)
      · have fb_5 : kk = 0 := (nI_eq (a := kk) (b := 0) (by omega) (by omega)).mp b_5
        refine lv_iconst (v := 1) hx hb dX8_digits_68 (by decide) ?_
        refine lv_goto (tgt := 73) hx hb dX8_digits_69 (by decide) ?_
        refine lv_ior hx hb dX8_digits_73 ?_
        refine g_top (y := 1) (by decide) ?_
        refine gM_isWrongP C hW hS (hwc hwX8) (mc qw_1496) rfl rfl dX8_digits_74 (fun H_15 locs_16 hW_17 hS_18 => ?_)
        obtain ⟨w_19, ew_19⟩ : ∃ Z9, Z9 = upd yy (9) 1 := ⟨_, rfl⟩
        have kn_20 : w_19 (6) = nI (pp + kk) := by rw [ew_19]; exact (pk_un (by omega)).trans hy6
        have kn_21 : w_19 (7) = nI L := by rw [ew_19]; exact (pk_un (by omega)).trans hy7
        have kn_22 : w_19 (9) = 1 := by rw [ew_19]; exact pk_us
        have hW_23 : Wd G (setRow X 15 w_19) H_15 := Wd.cast (by rw [ew_19]; exact st_out) hW_17
        refine lv_iload_n hx hb dX8_digits_77 rfl (lv_at hl 0 rfl) ?_
        exact g_iret C hr hlk hW_23 hS_18 dX8_digits_78 (by have e9 : dgM (X.1 22) L mx pp = (nn, pp + kk, 1) := (dgM_of e8).1 fb_5; subst ew_19; rw [e9]; exact ⟨rfl, by rw [hy]; exact congrArg (setRow X 15) ps_9u⟩)
    | succ q ih =>
      intro kk nn yy H locs ls hq hkp hf hy hW hS hl
      have hy6 : yy (6) = nI (pp + kk) := by rw [hy]; exact ps_6
      have hy7 : yy (7) = nI L := by rw [hy]; exact (ps_o (by decide) (by decide)).trans e7
      have hy9 : yy (9) = 0 := by rw [hy]; exact ps_9
      refine lv_aload_n hx hb dX8_digits_4 rfl (lv_at hl 2 rfl) ?_
      refine gM_isWrong C hW (hwc hwX8) (mc qw_1496) dX8_digits_5 ?_
      refine g_top (y := yy (9)) (congrFun rd_out _) ?_
      refine g_top (y := 0) hy9 ?_
      refine lv_if_ne (tgt := 59) hx hb dX8_digits_8 (by decide) (fun h9 => absurd h9 (by decide)) (fun _ => ?_)
      refine lv_iload_n hx hb dX8_digits_11 rfl (lv_at hl 1 rfl) ?_
      refine lv_iload_n hx hb dX8_digits_12 rfl (lv_at hl 3 rfl) ?_
      refine lv_icmp_ge (tgt := 59) hx hb dX8_digits_13 (by decide) (fun h9 => absurd h9 (nI_ge (a := kk) (b := mx) (by omega) (by omega))) (fun _ => ?_)
      refine lv_aload_n hx hb dX8_digits_16 rfl (lv_at hl 2 rfl) ?_
      refine g_calli (va_runV (As := []) (rest := []) C.1 (cX8_sign_ok l G (setRow X 15 yy) (pp + kk) L (show pp + kk ≤ L by omega) hL hy6 hy7) (cwV 0 C.1.2.2.2.2 (gV qw_1899 qw_1901 qw_64 qw_81 qw_1902) rfl rfl rfl (by decide +kernel) ⟨Nat.le_of_ble_eq_true rfl, Nat.le_of_ble_eq_true rfl⟩) (g_rModel C hW hS []) rfl rfl hl.1 rfl (lv_room (Nat.le_of_ble_eq_true rfl)) dX8_digits_17 ⟨Nat.zero_le _, Nat.zero_le _⟩) hS (fun r_25 Y_26 H_27 locs_28 hW_29 hS_30 h_24 => ?_)
      obtain ⟨h_24, hy_31⟩ := h_24
      replace hy_31 := hy_31.symm
      subst hy_31
      replace h_24 : r_25 = sgM (X.1 22) L (pp + kk) := h_24
      subst h_24
      refine lv_bipush (v := 48) hx hb dX8_digits_20 (by decide) ?_
      refine lv_bipush (v := 57) hx hb dX8_digits_22 (by decide) ?_
      refine g_calli (va_runS (As := [.int (sgM (X.1 22) L (pp + kk)), .int 48, .int 57]) (rest := []) C.1 (cX8_isIn_ok l G (setRow X 15 yy) (sgM (X.1 22) L (pp + kk)) 48 57) (va_cwS 3 C.1.2.2.2.2 (gS qw_1568 qw_1569 qw_81 qw_1570) rfl rfl rfl (by decide +kernel) ⟨Nat.le_of_ble_eq_true rfl, Nat.le_of_ble_eq_true rfl⟩) (g_pre C hW_29 hS_30 [.int (sgM (X.1 22) L (pp + kk)), .int 48, .int 57]) rfl rfl hl.1 rfl (lv_room (Nat.le_of_ble_eq_true rfl)) dX8_digits_24 ⟨Nat.zero_le _, Nat.zero_le _⟩) hS_30 (fun r_33 Y_34 H_35 locs_36 hW_37 hS_38 h_32 => ?_)
      obtain ⟨h_32, hy_39⟩ := h_32
      replace hy_39 := hy_39.symm
      subst hy_39
      replace h_32 : r_33 = oM_isIn (sgM (X.1 22) L (pp + kk)) 48 57 := h_32
      subst h_32
      refine lv_if_eq (tgt := 59) hx hb dX8_digits_27 (by decide) (fun b_40 => ?_) (fun b_40 => ?_)
      · refine lv_aload_n hx hb dX8_digits_59 rfl (lv_at hl 2 rfl) ?_
        refine lv_dup hx hb dX8_digits_60 rfl ?_
        refine gM_isWrong C hW_37 (hwc hwX8) (mc qw_1496) dX8_digits_61 ?_
        refine g_top (y := yy (9)) (congrFun rd_out _) ?_
        refine g_top (y := 0) hy9 ?_
        refine lv_iload_n hx hb dX8_digits_64 rfl (lv_at hl 1 rfl) ?_
        refine lv_if_ne (tgt := 72) hx hb dX8_digits_65 (by decide) (fun b_41 => ?_) (fun b_41 => ?_)
        · have fb_41 : ¬ kk = 0 := fun q9 => b_41 ((nI_eq (a := kk) (b := 0) (by omega) (by omega)).mpr q9)
          refine lv_iconst (v := 0) hx hb dX8_digits_72 (by decide) ?_
          refine lv_ior hx hb dX8_digits_73 ?_
          refine g_top (y := 0) (by decide) ?_
          refine gM_isWrongP C hW_37 hS_38 (hwc hwX8) (mc qw_1496) rfl rfl dX8_digits_74 (fun H_42 locs_43 hW_44 hS_45 => ?_)
          obtain ⟨w_46, ew_46⟩ : ∃ Z9, Z9 = upd yy (9) 0 := ⟨_, rfl⟩
          have kn_47 : w_46 (6) = nI (pp + kk) := by rw [ew_46]; exact (pk_un (by omega)).trans hy6
          have kn_48 : w_46 (7) = nI L := by rw [ew_46]; exact (pk_un (by omega)).trans hy7
          have kn_49 : w_46 (9) = 0 := by rw [ew_46]; exact pk_us
          have hW_50 : Wd G (setRow X 15 w_46) H_42 := Wd.cast (by rw [ew_46]; exact st_out) hW_44
          refine lv_iload_n hx hb dX8_digits_77 rfl (lv_at hl 0 rfl) ?_
          exact g_iret C hr hlk hW_50 hS_45 dX8_digits_78 (by have e8 : dgL (X.1 22) L mx pp 0 0 = (nn, pp + kk, kk) := hf.symm.trans (if_pos b_40); have e9 : dgM (X.1 22) L mx pp = (nn, pp + kk, 0) := (dgM_of e8).2 fb_41; subst ew_46; rw [e9]; exact ⟨rfl, by rw [hy]; exact congrArg (setRow X 15) ps_9u⟩)
        · have fb_41 : kk = 0 := (nI_eq (a := kk) (b := 0) (by omega) (by omega)).mp b_41
          refine lv_iconst (v := 1) hx hb dX8_digits_68 (by decide) ?_
          refine lv_goto (tgt := 73) hx hb dX8_digits_69 (by decide) ?_
          refine lv_ior hx hb dX8_digits_73 ?_
          refine g_top (y := 1) (by decide) ?_
          refine gM_isWrongP C hW_37 hS_38 (hwc hwX8) (mc qw_1496) rfl rfl dX8_digits_74 (fun H_51 locs_52 hW_53 hS_54 => ?_)
          obtain ⟨w_55, ew_55⟩ : ∃ Z9, Z9 = upd yy (9) 1 := ⟨_, rfl⟩
          have kn_56 : w_55 (6) = nI (pp + kk) := by rw [ew_55]; exact (pk_un (by omega)).trans hy6
          have kn_57 : w_55 (7) = nI L := by rw [ew_55]; exact (pk_un (by omega)).trans hy7
          have kn_58 : w_55 (9) = 1 := by rw [ew_55]; exact pk_us
          have hW_59 : Wd G (setRow X 15 w_55) H_51 := Wd.cast (by rw [ew_55]; exact st_out) hW_53
          refine lv_iload_n hx hb dX8_digits_77 rfl (lv_at hl 0 rfl) ?_
          exact g_iret C hr hlk hW_59 hS_54 dX8_digits_78 (by have e8 : dgL (X.1 22) L mx pp 0 0 = (nn, pp + kk, kk) := hf.symm.trans (if_pos b_40); have e9 : dgM (X.1 22) L mx pp = (nn, pp + kk, 1) := (dgM_of e8).1 fb_41; subst ew_55; rw [e9]; exact ⟨rfl, by rw [hy]; exact congrArg (setRow X 15) ps_9u⟩)
      · refine lv_bipush (v := 10) hx hb dX8_digits_30 (by decide) ?_
        refine lv_iload_n hx hb dX8_digits_32 rfl (lv_at hl 0 rfl) ?_
        refine lv_imul hx hb dX8_digits_33 ?_
        refine lv_aload_n hx hb dX8_digits_34 rfl (lv_at hl 2 rfl) ?_
        refine g_calli (va_runV (As := []) (rest := [.int (10 * nn)]) C.1 (cX8_sign_ok l G (setRow X 15 yy) (pp + kk) L (show pp + kk ≤ L by omega) hL hy6 hy7) (cwV 0 C.1.2.2.2.2 (gV qw_1899 qw_1901 qw_64 qw_81 qw_1902) rfl rfl rfl (by decide +kernel) ⟨Nat.le_of_ble_eq_true rfl, Nat.le_of_ble_eq_true rfl⟩) (g_rModel C hW_37 hS_38 []) rfl rfl hl.1 rfl (lv_room (Nat.le_of_ble_eq_true rfl)) dX8_digits_35 ⟨Nat.zero_le _, Nat.zero_le _⟩) hS_38 (fun r_61 Y_62 H_63 locs_64 hW_65 hS_66 h_60 => ?_)
        obtain ⟨h_60, hy_67⟩ := h_60
        replace hy_67 := hy_67.symm
        subst hy_67
        replace h_60 : r_61 = sgM (X.1 22) L (pp + kk) := h_60
        subst h_60
        refine lv_iadd hx hb dX8_digits_38 ?_
        refine lv_bipush (v := 48) hx hb dX8_digits_39 (by decide) ?_
        refine lv_isub hx hb dX8_digits_41 ?_
        refine lv_topi (fun v_68 ev_68 => ?_)
        refine lv_istore_n (lv' := [(2, .int v_68), (3, .int (nI kk)), (0, .ref (ad G 723)), (1, .int (nI mx))]) hx hb dX8_digits_42 rfl hl (by decide) rfl (fun ls_69 hl_70 => ?_)
        refine lv_aload_n hx hb dX8_digits_43 rfl (lv_at hl_70 2 rfl) ?_
        refine lv_dup hx hb dX8_digits_44 rfl ?_
        refine gM_here C hW_65 (hwc hwX8) (mc qw_1493) dX8_digits_45 ?_
        refine g_top (y := yy (6)) (congrFun rd_out _) ?_
        refine g_top (y := nI (pp + kk)) hy6 ?_
        refine lv_iconst (v := 1) hx hb dX8_digits_48 (by decide) ?_
        refine lv_iadd hx hb dX8_digits_49 ?_
        refine g_top (y := nI (pp + kk + 1)) (nI_add (pp + kk) 1) ?_
        refine gM_hereP C hW_65 hS_66 (hwc hwX8) (mc qw_1493) dX8_digits_50 (fun H_71 locs_72 hW_73 hS_74 => ?_)
        obtain ⟨w_75, ew_75⟩ : ∃ Z9, Z9 = upd yy (6) (nI (pp + kk + 1)) := ⟨_, rfl⟩
        have kn_76 : w_75 (7) = nI L := by rw [ew_75]; exact (pk_un (by omega)).trans hy7
        have kn_77 : w_75 (9) = 0 := by rw [ew_75]; exact (pk_un (by omega)).trans hy9
        have kn_78 : w_75 (6) = nI (pp + kk + 1) := by rw [ew_75]; exact pk_us
        have hW_79 : Wd G (setRow X 15 w_75) H_71 := Wd.cast (by rw [ew_75]; exact st_out) hW_73
        refine lv_iinc (v := nI (kk + 1)) (lv' := [(3, .int (nI (kk + 1))), (2, .int v_68), (0, .ref (ad G 723)), (1, .int (nI mx))]) hx hb dX8_digits_53 hl_70 (k := 1) rfl (nI_1 kk) (by decide) rfl (fun ls_80 hl_81 => ?_)
        refine lv_goto (tgt := 4) hx hb dX8_digits_56 (by decide) ?_
        exact ih (kk + 1) v_68 w_75 H_71 locs_72 ls_80 (by omega) (by have := sg_in b_40; omega) (by subst ew_75; subst ev_68; exact (if_neg b_40).symm.trans hf) (by subst ew_75; subst ev_68; rw [hy]; exact ps_6u) hW_79 hS_74 (lv_sub hl_81 [1, 0, 2, 3] rfl)
  exact loop mx 0 0 (X.1 15) s.heap [] ls_3 (by omega) (by omega) rfl (ps_self e6 e9).symm hW hS (lv_sub hl_4 [1, 0, 2, 3] rfl)

set_option maxHeartbeats 4000000 in
set_option maxRecDepth 100000 in
theorem cX8_behind_ok (l : Launch) (G : GT) (X : St) (pp L : Nat) (hp : pp ≤ L) (hL : L ≤ 60) (e6 : X.1 15 6 = nI pp) (e7 : X.1 15 7 = nI L) (e9 : X.1 15 9 = 0) (mx : Nat) (hmx : mx ≤ 3) : MetI l G yX8_behind (wsG yX8_behind cX8_behind 2 (some .int)) (rmz 2 45) [.ref (ad G 723), .int (nI mx)] X (fun res Y => res = (bhM (X.1 22) L mx pp).1 ∧ Y = setRow X 15 (ps (X.1 15) (bhM (X.1 22) L mx pp).2.1 (bhM (X.1 22) L mx pp).2.2)) := by
  refine g_met (cc := cX8_behind) (maxL := 2) (ret := (some .int)) (by decide) rfl (Nat.le_of_ble_eq_true rfl) ?_
  intro p e s m below meth c ls C hr hlk hnm hW hl
  have hx := C.1.1
  have hb := C.1.2.1
  have hS : va_S (Ab G) s.heap s.heap [] := va_S.rf
  have hl : lv_has ls 2 [(0, .ref (ad G 723)), (1, .int (nI mx))] := hl
  have hW : Wd G (setRow (X) 15 (X.1 15)) s.heap := Wd.cast ((sr_same (X := X) (r := 15) rfl)).symm hW
  refine lv_aload_n hx hb dX8_behind_0 rfl (lv_at hl 0 rfl) ?_
  refine lv_bipush (v := 32) hx hb dX8_behind_1 (by decide) ?_
  refine g_callv (va_runV (As := [.int 32]) (rest := []) C.1 (cX8_mark_ok l G (setRow X 15 (X.1 15)) pp L (show pp ≤ L by omega) hL e6 e7 e9 32 (by decide)) (cwV 1 C.1.2.2.2.2 (gV qw_1911 qw_1913 qw_67 qw_81 qw_1914) rfl rfl rfl (by decide +kernel) ⟨Nat.le_of_ble_eq_true rfl, Nat.le_of_ble_eq_true rfl⟩) (g_rModel C hW hS [.int 32]) rfl rfl hl.1 rfl (lv_room (Nat.le_of_ble_eq_true rfl)) dX8_behind_3 ⟨Nat.zero_le _, Nat.zero_le _⟩) hS (fun Y_2 H_3 locs_4 hW_5 hS_6 h_1 => ?_)
  replace h_1 : Y_2 = setRow (setRow X 15 (X.1 15)) 15 (ps (X.1 15) (if sgM (X.1 22) L pp = 32 then pp + 1 else pp) (if sgM (X.1 22) L pp = 32 then 0 else 1)) := h_1
  by_cases b_7 : sgM (X.1 22) L pp = 32
  · rw [if_pos b_7, if_pos b_7] at h_1
    have hb_7 : pp < L := sg_lt b_7 (by decide)
    replace h_1 : Y_2 = setRow (setRow X 15 (X.1 15)) 15 (ps (X.1 15) (pp + 1) 0) := h_1
    obtain ⟨w_8, ew_8⟩ : ∃ Z9, Z9 = ps (X.1 15) (pp + 1) 0 := ⟨_, rfl⟩
    have qqw_8 : Y_2 = setRow (setRow X 15 (X.1 15)) 15 w_8 := by rw [h_1, ew_8]
    have hW_9 : Wd G (setRow X 15 w_8) H_3 := Wd.cast ((qqw_8).trans (congrArg (fun Z9 => Z9) sr_out)) hW_5
    have kn_10 : w_8 (7) = nI L := by rw [ew_8]; exact (ps_o (by decide) (by decide)).trans e7
    have kn_11 : w_8 (6) = nI (pp + 1) := by rw [ew_8]; exact ps_6
    have kn_12 : w_8 (9) = 0 := by rw [ew_8]; exact ps_9
    refine lv_aload_n hx hb dX8_behind_6 rfl (lv_at hl 0 rfl) ?_
    refine gM_isWrong C hW_9 (hwc hwX8) (mc qw_1496) dX8_behind_7 ?_
    refine g_top (y := w_8 (9)) (congrFun rd_out _) ?_
    refine g_top (y := 0) kn_12 ?_
    refine lv_if_eq (tgt := 17) hx hb dX8_behind_10 (by decide) (fun _ => ?_) (fun h9 => absurd h9 (by decide))
    refine lv_aload_n hx hb dX8_behind_17 rfl (lv_at hl 0 rfl) ?_
    refine lv_iload_n hx hb dX8_behind_18 rfl (lv_at hl 1 rfl) ?_
    refine g_calli (va_runV (As := [.int (nI mx)]) (rest := []) C.1 (cX8_digits_ok l G (setRow X 15 w_8) (pp + 1) L (show pp + 1 ≤ L by omega) hL kn_11 kn_10 kn_12 mx (by omega)) (cwV 1 C.1.2.2.2.2 (gV qw_1903 qw_1905 qw_65 qw_81 qw_1906) rfl rfl rfl (by decide +kernel) ⟨Nat.le_of_ble_eq_true rfl, Nat.le_of_ble_eq_true rfl⟩) (g_rModel C hW_9 hS_6 [.int (nI mx)]) rfl rfl hl.1 rfl (lv_room (Nat.le_of_ble_eq_true rfl)) dX8_behind_19 ⟨Nat.zero_le _, Nat.zero_le _⟩) hS_6 (fun r_14 Y_15 H_16 locs_17 hW_18 hS_19 h_13 => ?_)
    replace h_13 : r_14 = (dgM (X.1 22) L mx (pp + 1)).1 ∧ Y_15 = setRow (setRow X 15 w_8) 15 (ps w_8 (dgM (X.1 22) L mx (pp + 1)).2.1 (dgM (X.1 22) L mx (pp + 1)).2.2) := h_13
    obtain ⟨n_20, p_21, c_22, hd_23⟩ : ∃ x9 y9 z9, dgM (X.1 22) L mx (pp + 1) = (x9, y9, z9) := ⟨_, _, _, rfl⟩
    rw [hd_23] at h_13
    obtain ⟨h_24, h_13⟩ := h_13
    replace h_24 : r_14 = n_20 := h_24
    subst h_24
    have hp_21 : p_21 ≤ L := dgM_le (show pp + 1 ≤ L by omega) hd_23
    rcases dgM_b hd_23 with hbc_22 | hbc_22
    · rw [hbc_22] at hd_23 h_13
      replace h_13 : Y_15 = setRow (setRow X 15 w_8) 15 (ps w_8 p_21 0) := h_13
      replace h_13 : Y_15 = setRow (setRow X 15 w_8) 15 (ps w_8 p_21 0) := h_13
      obtain ⟨w_25, ew_25⟩ : ∃ Z9, Z9 = ps w_8 p_21 0 := ⟨_, rfl⟩
      have qqw_25 : Y_15 = setRow (setRow X 15 w_8) 15 w_25 := by rw [h_13, ew_25]
      have hW_26 : Wd G (setRow X 15 w_25) H_16 := Wd.cast ((qqw_25).trans (congrArg (fun Z9 => Z9) sr_out)) hW_18
      have kn_27 : w_25 (7) = nI L := by rw [ew_25]; exact (ps_o (by decide) (by decide)).trans kn_10
      have kn_28 : w_25 (6) = nI p_21 := by rw [ew_25]; exact ps_6
      have kn_29 : w_25 (9) = 0 := by rw [ew_25]; exact ps_9
      exact g_iret C hr hlk hW_26 hS_19 dX8_behind_22 (by subst ew_25; subst ew_8; exact ⟨(by simp only [bhM, eq_true b_7, hd_23, if_true, if_false]; try rfl), (by simp only [bhM, eq_true b_7, hd_23, if_true, if_false, ps_ps]; try rfl)⟩)
    · rw [hbc_22] at hd_23 h_13
      replace h_13 : Y_15 = setRow (setRow X 15 w_8) 15 (ps w_8 p_21 1) := h_13
      replace h_13 : Y_15 = setRow (setRow X 15 w_8) 15 (ps w_8 p_21 1) := h_13
      obtain ⟨w_30, ew_30⟩ : ∃ Z9, Z9 = ps w_8 p_21 1 := ⟨_, rfl⟩
      have qqw_30 : Y_15 = setRow (setRow X 15 w_8) 15 w_30 := by rw [h_13, ew_30]
      have hW_31 : Wd G (setRow X 15 w_30) H_16 := Wd.cast ((qqw_30).trans (congrArg (fun Z9 => Z9) sr_out)) hW_18
      have kn_32 : w_30 (7) = nI L := by rw [ew_30]; exact (ps_o (by decide) (by decide)).trans kn_10
      have kn_33 : w_30 (6) = nI p_21 := by rw [ew_30]; exact ps_6
      have kn_34 : w_30 (9) = 1 := by rw [ew_30]; exact ps_9
      exact g_iret C hr hlk hW_31 hS_19 dX8_behind_22 (by subst ew_30; subst ew_8; exact ⟨(by simp only [bhM, eq_true b_7, hd_23, if_true, if_false]; try rfl), (by simp only [bhM, eq_true b_7, hd_23, if_true, if_false, ps_ps]; try rfl)⟩)
  · rw [if_neg b_7, if_neg b_7] at h_1
    replace h_1 : Y_2 = setRow (setRow X 15 (X.1 15)) 15 (ps (X.1 15) pp 1) := h_1
    obtain ⟨w_35, ew_35⟩ : ∃ Z9, Z9 = ps (X.1 15) pp 1 := ⟨_, rfl⟩
    have qqw_35 : Y_2 = setRow (setRow X 15 (X.1 15)) 15 w_35 := by rw [h_1, ew_35]
    have hW_36 : Wd G (setRow X 15 w_35) H_3 := Wd.cast ((qqw_35).trans (congrArg (fun Z9 => Z9) sr_out)) hW_5
    have kn_37 : w_35 (7) = nI L := by rw [ew_35]; exact (ps_o (by decide) (by decide)).trans e7
    have kn_38 : w_35 (6) = nI pp := by rw [ew_35]; exact ps_6
    have kn_39 : w_35 (9) = 1 := by rw [ew_35]; exact ps_9
    refine lv_aload_n hx hb dX8_behind_6 rfl (lv_at hl 0 rfl) ?_
    refine gM_isWrong C hW_36 (hwc hwX8) (mc qw_1496) dX8_behind_7 ?_
    refine g_top (y := w_35 (9)) (congrFun rd_out _) ?_
    refine g_top (y := 1) kn_39 ?_
    refine lv_if_eq (tgt := 17) hx hb dX8_behind_10 (by decide) (fun h9 => absurd h9 (by decide)) (fun _ => ?_)
    refine lv_iconst (v := 0) hx hb dX8_behind_13 (by decide) ?_
    refine lv_goto (tgt := 22) hx hb dX8_behind_14 (by decide) ?_
    exact g_iret C hr hlk hW_36 hS_6 dX8_behind_22 (by subst ew_35; exact ⟨(by simp only [bhM, b_7, if_true, if_false]; try rfl), (by simp only [bhM, b_7, if_true, if_false, ps_ps]; try rfl)⟩)

set_option maxHeartbeats 4000000 in
set_option maxRecDepth 100000 in
theorem cX8_material_ok (l : Launch) (G : GT) (X : St) (pp L : Nat) (hp : pp ≤ L) (hL : L ≤ 60) (e6 : X.1 15 6 = nI pp) (e7 : X.1 15 7 = nI L) (e9 : X.1 15 9 = 0) : MetI l G yX8_material (wsG yX8_material cX8_material 2 (some .int)) (rmz 2 41) [.ref (ad G 723)] X (fun res Y => res = (mtM (X.1 22) L pp).1 ∧ Y = setRow X 15 (ps (X.1 15) (mtM (X.1 22) L pp).2.1 (mtM (X.1 22) L pp).2.2)) := by
  refine g_met (cc := cX8_material) (maxL := 2) (ret := (some .int)) (by decide) rfl (Nat.le_of_ble_eq_true rfl) ?_
  intro p e s m below meth c ls C hr hlk hnm hW hl
  have hx := C.1.1
  have hb := C.1.2.1
  have hS : va_S (Ab G) s.heap s.heap [] := va_S.rf
  have hl : lv_has ls 2 [(0, .ref (ad G 723))] := hl
  have hW : Wd G (setRow (X) 15 (X.1 15)) s.heap := Wd.cast ((sr_same (X := X) (r := 15) rfl)).symm hW
  refine lv_aload_n hx hb dX8_material_0 rfl (lv_at hl 0 rfl) ?_
  refine lv_bipush (v := 32) hx hb dX8_material_1 (by decide) ?_
  refine g_callv (va_runV (As := [.int 32]) (rest := []) C.1 (cX8_mark_ok l G (setRow X 15 (X.1 15)) pp L (show pp ≤ L by omega) hL e6 e7 e9 32 (by decide)) (cwV 1 C.1.2.2.2.2 (gV qw_1911 qw_1913 qw_67 qw_81 qw_1914) rfl rfl rfl (by decide +kernel) ⟨Nat.le_of_ble_eq_true rfl, Nat.le_of_ble_eq_true rfl⟩) (g_rModel C hW hS [.int 32]) rfl rfl hl.1 rfl (lv_room (Nat.le_of_ble_eq_true rfl)) dX8_material_3 ⟨Nat.zero_le _, Nat.zero_le _⟩) hS (fun Y_2 H_3 locs_4 hW_5 hS_6 h_1 => ?_)
  replace h_1 : Y_2 = setRow (setRow X 15 (X.1 15)) 15 (ps (X.1 15) (if sgM (X.1 22) L pp = 32 then pp + 1 else pp) (if sgM (X.1 22) L pp = 32 then 0 else 1)) := h_1
  by_cases b_7 : sgM (X.1 22) L pp = 32
  · rw [if_pos b_7, if_pos b_7] at h_1
    have hb_7 : pp < L := sg_lt b_7 (by decide)
    replace h_1 : Y_2 = setRow (setRow X 15 (X.1 15)) 15 (ps (X.1 15) (pp + 1) 0) := h_1
    obtain ⟨w_8, ew_8⟩ : ∃ Z9, Z9 = ps (X.1 15) (pp + 1) 0 := ⟨_, rfl⟩
    have qqw_8 : Y_2 = setRow (setRow X 15 (X.1 15)) 15 w_8 := by rw [h_1, ew_8]
    have hW_9 : Wd G (setRow X 15 w_8) H_3 := Wd.cast ((qqw_8).trans (congrArg (fun Z9 => Z9) sr_out)) hW_5
    have kn_10 : w_8 (7) = nI L := by rw [ew_8]; exact (ps_o (by decide) (by decide)).trans e7
    have kn_11 : w_8 (6) = nI (pp + 1) := by rw [ew_8]; exact ps_6
    have kn_12 : w_8 (9) = 0 := by rw [ew_8]; exact ps_9
    refine lv_aload_n hx hb dX8_material_6 rfl (lv_at hl 0 rfl) ?_
    refine gM_isWrong C hW_9 (hwc hwX8) (mc qw_1496) dX8_material_7 ?_
    refine g_top (y := w_8 (9)) (congrFun rd_out _) ?_
    refine g_top (y := 0) kn_12 ?_
    refine lv_if_eq (tgt := 15) hx hb dX8_material_10 (by decide) (fun _ => ?_) (fun h9 => absurd h9 (by decide))
    refine lv_aload_n hx hb dX8_material_15 rfl (lv_at hl 0 rfl) ?_
    refine g_calli (va_runV (As := []) (rest := []) C.1 (cX8_sign_ok l G (setRow X 15 w_8) (pp + 1) L (show pp + 1 ≤ L by omega) hL kn_11 kn_10) (cwV 0 C.1.2.2.2.2 (gV qw_1899 qw_1901 qw_64 qw_81 qw_1902) rfl rfl rfl (by decide +kernel) ⟨Nat.le_of_ble_eq_true rfl, Nat.le_of_ble_eq_true rfl⟩) (g_rModel C hW_9 hS_6 []) rfl rfl hl.1 rfl (lv_room (Nat.le_of_ble_eq_true rfl)) dX8_material_16 ⟨Nat.zero_le _, Nat.zero_le _⟩) hS_6 (fun r_14 Y_15 H_16 locs_17 hW_18 hS_19 h_13 => ?_)
    obtain ⟨h_13, hy_20⟩ := h_13
    replace hy_20 := hy_20.symm
    subst hy_20
    replace h_13 : r_14 = sgM (X.1 22) L (pp + 1) := h_13
    subst h_13
    refine g_calli (va_runS (As := [.int (sgM (X.1 22) L (pp + 1))]) (rest := []) C.1 (cX8_kind_ok l G (setRow X 15 w_8) (sgM (X.1 22) L (pp + 1))) (va_cwS 1 C.1.2.2.2.2 (gS qw_1558 qw_1559 qw_81 qw_1560) rfl rfl rfl (by decide +kernel) ⟨Nat.le_of_ble_eq_true rfl, Nat.le_of_ble_eq_true rfl⟩) (g_pre C hW_18 hS_19 [.int (sgM (X.1 22) L (pp + 1))]) rfl rfl hl.1 rfl (lv_room (Nat.le_of_ble_eq_true rfl)) dX8_material_19 ⟨Nat.zero_le _, Nat.zero_le _⟩) hS_19 (fun r_22 Y_23 H_24 locs_25 hW_26 hS_27 h_21 => ?_)
    obtain ⟨h_21, hy_28⟩ := h_21
    replace hy_28 := hy_28.symm
    subst hy_28
    replace h_21 : r_22 = oM_kind (sgM (X.1 22) L (pp + 1)) := h_21
    subst h_21
    refine lv_topi (fun v_29 ev_29 => ?_)
    refine lv_istore_n (lv' := [(1, .int v_29), (0, .ref (ad G 723))]) hx hb dX8_material_22 rfl hl (by decide) rfl (fun ls_30 hl_31 => ?_)
    refine lv_aload_n hx hb dX8_material_23 rfl (lv_at hl_31 1 rfl) ?_
    refine lv_iload_n hx hb dX8_material_24 rfl (lv_at hl_31 0 rfl) ?_
    refine lv_if_ge (tgt := 32) hx hb dX8_material_25 (by decide) (fun b_32 => ?_) (fun b_32 => ?_)
    · have hb_32 : pp + 1 < L := sg_kind (by rw [← ev_29]; exact b_32)
      refine lv_iconst (v := 0) hx hb dX8_material_32 (by decide) ?_
      refine gM_isWrongP C hW_26 hS_27 (hwc hwX8) (mc qw_1496) rfl rfl dX8_material_33 (fun H_33 locs_34 hW_35 hS_36 => ?_)
      obtain ⟨w_37, ew_37⟩ : ∃ Z9, Z9 = upd w_8 (9) 0 := ⟨_, rfl⟩
      have kn_38 : w_37 (7) = nI L := by rw [ew_37]; exact (pk_un (by omega)).trans kn_10
      have kn_39 : w_37 (6) = nI (pp + 1) := by rw [ew_37]; exact (pk_un (by omega)).trans kn_11
      have kn_40 : w_37 (9) = 0 := by rw [ew_37]; exact pk_us
      have hW_41 : Wd G (setRow X 15 w_37) H_33 := Wd.cast (by rw [ew_37]; exact st_out) hW_35
      refine lv_aload_n hx hb dX8_material_36 rfl (lv_at hl_31 1 rfl) ?_
      refine lv_dup hx hb dX8_material_37 rfl ?_
      refine gM_here C hW_41 (hwc hwX8) (mc qw_1493) dX8_material_38 ?_
      refine g_top (y := w_37 (6)) (congrFun rd_out _) ?_
      refine g_top (y := nI (pp + 1)) kn_39 ?_
      refine lv_aload_n hx hb dX8_material_41 rfl (lv_at hl_31 1 rfl) ?_
      refine gM_isWrong C hW_41 (hwc hwX8) (mc qw_1496) dX8_material_42 ?_
      refine g_top (y := w_37 (9)) (congrFun rd_out _) ?_
      refine g_top (y := 0) kn_40 ?_
      refine lv_if_eq (tgt := 52) hx hb dX8_material_45 (by decide) (fun _ => ?_) (fun h9 => absurd h9 (by decide))
      refine lv_iconst (v := 1) hx hb dX8_material_52 (by decide) ?_
      refine lv_iadd hx hb dX8_material_53 ?_
      refine g_top (y := nI (pp + 1 + 1)) (nI_add (pp + 1) 1) ?_
      refine gM_hereP C hW_41 hS_36 (hwc hwX8) (mc qw_1493) dX8_material_54 (fun H_42 locs_43 hW_44 hS_45 => ?_)
      obtain ⟨w_46, ew_46⟩ : ∃ Z9, Z9 = upd w_37 (6) (nI (pp + 1 + 1)) := ⟨_, rfl⟩
      have kn_47 : w_46 (7) = nI L := by rw [ew_46]; exact (pk_un (by omega)).trans kn_38
      have kn_48 : w_46 (9) = 0 := by rw [ew_46]; exact (pk_un (by omega)).trans kn_40
      have kn_49 : w_46 (6) = nI (pp + 1 + 1) := by rw [ew_46]; exact pk_us
      have hW_50 : Wd G (setRow X 15 w_46) H_42 := Wd.cast (by rw [ew_46]; exact st_out) hW_44
      refine lv_iload_n hx hb dX8_material_57 rfl (lv_at hl_31 0 rfl) ?_
      exact g_iret C hr hlk hW_50 hS_45 dX8_material_58 (by subst ew_46; subst ew_37; subst ev_29; subst ew_8; exact ⟨(by simp only [mtM, eq_true b_7, b_32, if_true, if_false]; try rfl), (by simp only [mtM, eq_true b_7, b_32, if_true, if_false, ps_ps]; first | done | exact congrArg (setRow X 15) ps_96 | rfl)⟩)
    · refine lv_iconst (v := 1) hx hb dX8_material_28 (by decide) ?_
      refine lv_goto (tgt := 33) hx hb dX8_material_29 (by decide) ?_
      refine gM_isWrongP C hW_26 hS_27 (hwc hwX8) (mc qw_1496) rfl rfl dX8_material_33 (fun H_51 locs_52 hW_53 hS_54 => ?_)
      obtain ⟨w_55, ew_55⟩ : ∃ Z9, Z9 = upd w_8 (9) 1 := ⟨_, rfl⟩
      have kn_56 : w_55 (7) = nI L := by rw [ew_55]; exact (pk_un (by omega)).trans kn_10
      have kn_57 : w_55 (6) = nI (pp + 1) := by rw [ew_55]; exact (pk_un (by omega)).trans kn_11
      have kn_58 : w_55 (9) = 1 := by rw [ew_55]; exact pk_us
      have hW_59 : Wd G (setRow X 15 w_55) H_51 := Wd.cast (by rw [ew_55]; exact st_out) hW_53
      refine lv_aload_n hx hb dX8_material_36 rfl (lv_at hl_31 1 rfl) ?_
      refine lv_dup hx hb dX8_material_37 rfl ?_
      refine gM_here C hW_59 (hwc hwX8) (mc qw_1493) dX8_material_38 ?_
      refine g_top (y := w_55 (6)) (congrFun rd_out _) ?_
      refine g_top (y := nI (pp + 1)) kn_57 ?_
      refine lv_aload_n hx hb dX8_material_41 rfl (lv_at hl_31 1 rfl) ?_
      refine gM_isWrong C hW_59 (hwc hwX8) (mc qw_1496) dX8_material_42 ?_
      refine g_top (y := w_55 (9)) (congrFun rd_out _) ?_
      refine g_top (y := 1) kn_58 ?_
      refine lv_if_eq (tgt := 52) hx hb dX8_material_45 (by decide) (fun h9 => absurd h9 (by decide)) (fun _ => ?_)
      refine lv_iconst (v := 0) hx hb dX8_material_48 (by decide) ?_
      refine lv_goto (tgt := 53) hx hb dX8_material_49 (by decide) ?_
      refine lv_iadd hx hb dX8_material_53 ?_
      refine g_top (y := (nI (pp + 1))) (Int32.add_zero _) ?_
      refine gM_hereP C hW_59 hS_54 (hwc hwX8) (mc qw_1493) dX8_material_54 (fun H_60 locs_61 hW_62 hS_63 => ?_)
      obtain ⟨w_64, ew_64⟩ : ∃ Z9, Z9 = upd w_55 (6) (nI (pp + 1)) := ⟨_, rfl⟩
      have kn_65 : w_64 (7) = nI L := by rw [ew_64]; exact (pk_un (by omega)).trans kn_56
      have kn_66 : w_64 (9) = 1 := by rw [ew_64]; exact (pk_un (by omega)).trans kn_58
      have kn_67 : w_64 (6) = nI (pp + 1) := by rw [ew_64]; exact pk_us
      have hW_68 : Wd G (setRow X 15 w_64) H_60 := Wd.cast (by rw [ew_64]; exact st_out) hW_62
      refine lv_iload_n hx hb dX8_material_57 rfl (lv_at hl_31 0 rfl) ?_
      exact g_iret C hr hlk hW_68 hS_63 dX8_material_58 (by subst ew_64; subst ew_55; subst ev_29; subst ew_8; exact ⟨(by simp only [mtM, eq_true b_7, b_32, if_true, if_false]; try rfl), (by simp only [mtM, eq_true b_7, b_32, if_true, if_false, ps_ps]; first | done | exact congrArg (setRow X 15) ps_96 | rfl)⟩)
  · rw [if_neg b_7, if_neg b_7] at h_1
    replace h_1 : Y_2 = setRow (setRow X 15 (X.1 15)) 15 (ps (X.1 15) pp 1) := h_1
    obtain ⟨w_69, ew_69⟩ : ∃ Z9, Z9 = ps (X.1 15) pp 1 := ⟨_, rfl⟩
    have qqw_69 : Y_2 = setRow (setRow X 15 (X.1 15)) 15 w_69 := by rw [h_1, ew_69]
    have hW_70 : Wd G (setRow X 15 w_69) H_3 := Wd.cast ((qqw_69).trans (congrArg (fun Z9 => Z9) sr_out)) hW_5
    have kn_71 : w_69 (7) = nI L := by rw [ew_69]; exact (ps_o (by decide) (by decide)).trans e7
    have kn_72 : w_69 (6) = nI pp := by rw [ew_69]; exact ps_6
    have kn_73 : w_69 (9) = 1 := by rw [ew_69]; exact ps_9
    refine lv_aload_n hx hb dX8_material_6 rfl (lv_at hl 0 rfl) ?_
    refine gM_isWrong C hW_70 (hwc hwX8) (mc qw_1496) dX8_material_7 ?_
    refine g_top (y := w_69 (9)) (congrFun rd_out _) ?_
    refine g_top (y := 1) kn_73 ?_
    refine lv_if_eq (tgt := 15) hx hb dX8_material_10 (by decide) (fun h9 => absurd h9 (by decide)) (fun _ => ?_)
    refine lv_iconst (v := 0) hx hb dX8_material_13 (by decide) ?_
    exact g_iret C hr hlk hW_70 hS_6 dX8_material_14 (by subst ew_69; exact ⟨(by simp only [mtM, b_7, if_true, if_false]; try rfl), (by simp only [mtM, b_7, if_true, if_false, ps_ps]; first | done | exact congrArg (setRow X 15) ps_96 | rfl)⟩)

set_option maxHeartbeats 4000000 in
set_option maxRecDepth 100000 in
theorem cX8_word_ok (l : Launch) (G : GT) (X : St) (pp L : Nat) (hp : pp ≤ L) (hL : L ≤ 60) (e6 : X.1 15 6 = nI pp) (e7 : X.1 15 7 = nI L) (e9 : X.1 15 9 = 0) (hwd : WdOk (X.1 25) (X.1 26)) : MetI l G yX8_word (wsG yX8_word cX8_word 5 (some .int)) (rmz 1 20) [.ref (ad G 723)] X (fun res Y => res = (wdM (X.1 22) L pp (X.1 24)).1 ∧ Y = setRow (setRow X 15 (ps (X.1 15) (wdM (X.1 22) L pp (X.1 24)).2.1 (wdM (X.1 22) L pp (X.1 24)).2.2.1)) 24 (wdM (X.1 22) L pp (X.1 24)).2.2.2) := by
  refine g_met (cc := cX8_word) (maxL := 5) (ret := (some .int)) (by decide) rfl (Nat.le_of_ble_eq_true rfl) ?_
  intro p e s m below meth c ls C hr hlk hnm hW hl
  have hx := C.1.1
  have hb := C.1.2.1
  have hS : va_S (Ab G) s.heap s.heap [] := va_S.rf
  have hl : lv_has ls 5 [(0, .ref (ad G 723))] := hl
  have hW : Wd G (setRow (setRow (X) 15 (X.1 15)) 24 (X.1 24)) s.heap := Wd.cast (((sr_same (X := setRow (X) 15 (X.1 15)) (r := 24) rfl).trans (sr_same (X := X) (r := 15) rfl))).symm hW
  refine lv_iconst (v := 0) hx hb dX8_word_0 (by decide) ?_
  refine lv_istore_n (lv' := [(1, .int 0), (0, .ref (ad G 723))]) hx hb dX8_word_1 rfl hl (by decide) rfl (fun ls_1 hl_2 => ?_)
  refine lv_iload_n hx hb dX8_word_2 rfl (lv_at hl_2 0 rfl) ?_
  refine lv_bipush (v := 10) hx hb dX8_word_3 (by decide) ?_
  refine lv_icmp_ge (tgt := 21) hx hb dX8_word_5 (by decide) (fun h9 => absurd h9 (by decide)) (fun _ => ?_)
  refine lv_aload_n hx hb dX8_word_8 rfl (lv_at hl_2 1 rfl) ?_
  refine gM_isLeft C hW (hwc hwX8) (mc qw_1489) dX8_word_9 ?_
  refine lv_iload_n hx hb dX8_word_12 rfl (lv_at hl_2 0 rfl) ?_
  refine lv_iconst (v := 1) hx hb dX8_word_13 (by decide) ?_
  refine gm_isLeftst C hW hS 0 (by decide) (vlit (by decide)) dX8_word_14 (fun H_3 locs_4 hW_5 hS_6 => ?_)
  obtain ⟨w_7, ew_7⟩ : ∃ Z9, Z9 = upd (X.1 24) (0) 1 := ⟨_, rfl⟩
  have kn_8 : w_7 (0) = 1 := by rw [ew_7]; exact pk_us
  have hW_9 : Wd G (setRow (setRow X 15 (X.1 15)) 24 w_7) H_3 := Wd.cast (by rw [ew_7]; exact st_out) hW_5
  refine lv_iinc (v := 1) (lv' := [(1, .int 1), (0, .ref (ad G 723))]) hx hb dX8_word_15 hl_2 (k := 0) rfl (by decide) (by decide) rfl (fun ls_10 hl_11 => ?_)
  refine lv_goto (tgt := 2) hx hb dX8_word_18 (by decide) ?_
  refine lv_iload_n hx hb dX8_word_2 rfl (lv_at hl_11 0 rfl) ?_
  refine lv_bipush (v := 10) hx hb dX8_word_3 (by decide) ?_
  refine lv_icmp_ge (tgt := 21) hx hb dX8_word_5 (by decide) (fun h9 => absurd h9 (by decide)) (fun _ => ?_)
  refine lv_aload_n hx hb dX8_word_8 rfl (lv_at hl_11 1 rfl) ?_
  refine gM_isLeft C hW_9 (hwc hwX8) (mc qw_1489) dX8_word_9 ?_
  refine lv_iload_n hx hb dX8_word_12 rfl (lv_at hl_11 0 rfl) ?_
  refine lv_iconst (v := 1) hx hb dX8_word_13 (by decide) ?_
  refine gm_isLeftst C hW_9 hS_6 1 (by decide) (vlit (by decide)) dX8_word_14 (fun H_12 locs_13 hW_14 hS_15 => ?_)
  obtain ⟨w_16, ew_16⟩ : ∃ Z9, Z9 = upd w_7 (1) 1 := ⟨_, rfl⟩
  have kn_17 : w_16 (0) = 1 := by rw [ew_16]; exact (pk_un (by omega)).trans kn_8
  have kn_18 : w_16 (1) = 1 := by rw [ew_16]; exact pk_us
  have hW_19 : Wd G (setRow (setRow X 15 (X.1 15)) 24 w_16) H_12 := Wd.cast (by rw [ew_16]; exact st_out) hW_14
  refine lv_iinc (v := 2) (lv' := [(1, .int 2), (0, .ref (ad G 723))]) hx hb dX8_word_15 hl_11 (k := 0) rfl (by decide) (by decide) rfl (fun ls_20 hl_21 => ?_)
  refine lv_goto (tgt := 2) hx hb dX8_word_18 (by decide) ?_
  refine lv_iload_n hx hb dX8_word_2 rfl (lv_at hl_21 0 rfl) ?_
  refine lv_bipush (v := 10) hx hb dX8_word_3 (by decide) ?_
  refine lv_icmp_ge (tgt := 21) hx hb dX8_word_5 (by decide) (fun h9 => absurd h9 (by decide)) (fun _ => ?_)
  refine lv_aload_n hx hb dX8_word_8 rfl (lv_at hl_21 1 rfl) ?_
  refine gM_isLeft C hW_19 (hwc hwX8) (mc qw_1489) dX8_word_9 ?_
  refine lv_iload_n hx hb dX8_word_12 rfl (lv_at hl_21 0 rfl) ?_
  refine lv_iconst (v := 1) hx hb dX8_word_13 (by decide) ?_
  refine gm_isLeftst C hW_19 hS_15 2 (by decide) (vlit (by decide)) dX8_word_14 (fun H_22 locs_23 hW_24 hS_25 => ?_)
  obtain ⟨w_26, ew_26⟩ : ∃ Z9, Z9 = upd w_16 (2) 1 := ⟨_, rfl⟩
  have kn_27 : w_26 (0) = 1 := by rw [ew_26]; exact (pk_un (by omega)).trans kn_17
  have kn_28 : w_26 (1) = 1 := by rw [ew_26]; exact (pk_un (by omega)).trans kn_18
  have kn_29 : w_26 (2) = 1 := by rw [ew_26]; exact pk_us
  have hW_30 : Wd G (setRow (setRow X 15 (X.1 15)) 24 w_26) H_22 := Wd.cast (by rw [ew_26]; exact st_out) hW_24
  refine lv_iinc (v := 3) (lv' := [(1, .int 3), (0, .ref (ad G 723))]) hx hb dX8_word_15 hl_21 (k := 0) rfl (by decide) (by decide) rfl (fun ls_31 hl_32 => ?_)
  refine lv_goto (tgt := 2) hx hb dX8_word_18 (by decide) ?_
  refine lv_iload_n hx hb dX8_word_2 rfl (lv_at hl_32 0 rfl) ?_
  refine lv_bipush (v := 10) hx hb dX8_word_3 (by decide) ?_
  refine lv_icmp_ge (tgt := 21) hx hb dX8_word_5 (by decide) (fun h9 => absurd h9 (by decide)) (fun _ => ?_)
  refine lv_aload_n hx hb dX8_word_8 rfl (lv_at hl_32 1 rfl) ?_
  refine gM_isLeft C hW_30 (hwc hwX8) (mc qw_1489) dX8_word_9 ?_
  refine lv_iload_n hx hb dX8_word_12 rfl (lv_at hl_32 0 rfl) ?_
  refine lv_iconst (v := 1) hx hb dX8_word_13 (by decide) ?_
  refine gm_isLeftst C hW_30 hS_25 3 (by decide) (vlit (by decide)) dX8_word_14 (fun H_33 locs_34 hW_35 hS_36 => ?_)
  obtain ⟨w_37, ew_37⟩ : ∃ Z9, Z9 = upd w_26 (3) 1 := ⟨_, rfl⟩
  have kn_38 : w_37 (0) = 1 := by rw [ew_37]; exact (pk_un (by omega)).trans kn_27
  have kn_39 : w_37 (1) = 1 := by rw [ew_37]; exact (pk_un (by omega)).trans kn_28
  have kn_40 : w_37 (2) = 1 := by rw [ew_37]; exact (pk_un (by omega)).trans kn_29
  have kn_41 : w_37 (3) = 1 := by rw [ew_37]; exact pk_us
  have hW_42 : Wd G (setRow (setRow X 15 (X.1 15)) 24 w_37) H_33 := Wd.cast (by rw [ew_37]; exact st_out) hW_35
  refine lv_iinc (v := 4) (lv' := [(1, .int 4), (0, .ref (ad G 723))]) hx hb dX8_word_15 hl_32 (k := 0) rfl (by decide) (by decide) rfl (fun ls_43 hl_44 => ?_)
  refine lv_goto (tgt := 2) hx hb dX8_word_18 (by decide) ?_
  refine lv_iload_n hx hb dX8_word_2 rfl (lv_at hl_44 0 rfl) ?_
  refine lv_bipush (v := 10) hx hb dX8_word_3 (by decide) ?_
  refine lv_icmp_ge (tgt := 21) hx hb dX8_word_5 (by decide) (fun h9 => absurd h9 (by decide)) (fun _ => ?_)
  refine lv_aload_n hx hb dX8_word_8 rfl (lv_at hl_44 1 rfl) ?_
  refine gM_isLeft C hW_42 (hwc hwX8) (mc qw_1489) dX8_word_9 ?_
  refine lv_iload_n hx hb dX8_word_12 rfl (lv_at hl_44 0 rfl) ?_
  refine lv_iconst (v := 1) hx hb dX8_word_13 (by decide) ?_
  refine gm_isLeftst C hW_42 hS_36 4 (by decide) (vlit (by decide)) dX8_word_14 (fun H_45 locs_46 hW_47 hS_48 => ?_)
  obtain ⟨w_49, ew_49⟩ : ∃ Z9, Z9 = upd w_37 (4) 1 := ⟨_, rfl⟩
  have kn_50 : w_49 (0) = 1 := by rw [ew_49]; exact (pk_un (by omega)).trans kn_38
  have kn_51 : w_49 (1) = 1 := by rw [ew_49]; exact (pk_un (by omega)).trans kn_39
  have kn_52 : w_49 (2) = 1 := by rw [ew_49]; exact (pk_un (by omega)).trans kn_40
  have kn_53 : w_49 (3) = 1 := by rw [ew_49]; exact (pk_un (by omega)).trans kn_41
  have kn_54 : w_49 (4) = 1 := by rw [ew_49]; exact pk_us
  have hW_55 : Wd G (setRow (setRow X 15 (X.1 15)) 24 w_49) H_45 := Wd.cast (by rw [ew_49]; exact st_out) hW_47
  refine lv_iinc (v := 5) (lv' := [(1, .int 5), (0, .ref (ad G 723))]) hx hb dX8_word_15 hl_44 (k := 0) rfl (by decide) (by decide) rfl (fun ls_56 hl_57 => ?_)
  refine lv_goto (tgt := 2) hx hb dX8_word_18 (by decide) ?_
  refine lv_iload_n hx hb dX8_word_2 rfl (lv_at hl_57 0 rfl) ?_
  refine lv_bipush (v := 10) hx hb dX8_word_3 (by decide) ?_
  refine lv_icmp_ge (tgt := 21) hx hb dX8_word_5 (by decide) (fun h9 => absurd h9 (by decide)) (fun _ => ?_)
  refine lv_aload_n hx hb dX8_word_8 rfl (lv_at hl_57 1 rfl) ?_
  refine gM_isLeft C hW_55 (hwc hwX8) (mc qw_1489) dX8_word_9 ?_
  refine lv_iload_n hx hb dX8_word_12 rfl (lv_at hl_57 0 rfl) ?_
  refine lv_iconst (v := 1) hx hb dX8_word_13 (by decide) ?_
  refine gm_isLeftst C hW_55 hS_48 5 (by decide) (vlit (by decide)) dX8_word_14 (fun H_58 locs_59 hW_60 hS_61 => ?_)
  obtain ⟨w_62, ew_62⟩ : ∃ Z9, Z9 = upd w_49 (5) 1 := ⟨_, rfl⟩
  have kn_63 : w_62 (0) = 1 := by rw [ew_62]; exact (pk_un (by omega)).trans kn_50
  have kn_64 : w_62 (1) = 1 := by rw [ew_62]; exact (pk_un (by omega)).trans kn_51
  have kn_65 : w_62 (2) = 1 := by rw [ew_62]; exact (pk_un (by omega)).trans kn_52
  have kn_66 : w_62 (3) = 1 := by rw [ew_62]; exact (pk_un (by omega)).trans kn_53
  have kn_67 : w_62 (4) = 1 := by rw [ew_62]; exact (pk_un (by omega)).trans kn_54
  have kn_68 : w_62 (5) = 1 := by rw [ew_62]; exact pk_us
  have hW_69 : Wd G (setRow (setRow X 15 (X.1 15)) 24 w_62) H_58 := Wd.cast (by rw [ew_62]; exact st_out) hW_60
  refine lv_iinc (v := 6) (lv' := [(1, .int 6), (0, .ref (ad G 723))]) hx hb dX8_word_15 hl_57 (k := 0) rfl (by decide) (by decide) rfl (fun ls_70 hl_71 => ?_)
  refine lv_goto (tgt := 2) hx hb dX8_word_18 (by decide) ?_
  refine lv_iload_n hx hb dX8_word_2 rfl (lv_at hl_71 0 rfl) ?_
  refine lv_bipush (v := 10) hx hb dX8_word_3 (by decide) ?_
  refine lv_icmp_ge (tgt := 21) hx hb dX8_word_5 (by decide) (fun h9 => absurd h9 (by decide)) (fun _ => ?_)
  refine lv_aload_n hx hb dX8_word_8 rfl (lv_at hl_71 1 rfl) ?_
  refine gM_isLeft C hW_69 (hwc hwX8) (mc qw_1489) dX8_word_9 ?_
  refine lv_iload_n hx hb dX8_word_12 rfl (lv_at hl_71 0 rfl) ?_
  refine lv_iconst (v := 1) hx hb dX8_word_13 (by decide) ?_
  refine gm_isLeftst C hW_69 hS_61 6 (by decide) (vlit (by decide)) dX8_word_14 (fun H_72 locs_73 hW_74 hS_75 => ?_)
  obtain ⟨w_76, ew_76⟩ : ∃ Z9, Z9 = upd w_62 (6) 1 := ⟨_, rfl⟩
  have kn_77 : w_76 (0) = 1 := by rw [ew_76]; exact (pk_un (by omega)).trans kn_63
  have kn_78 : w_76 (1) = 1 := by rw [ew_76]; exact (pk_un (by omega)).trans kn_64
  have kn_79 : w_76 (2) = 1 := by rw [ew_76]; exact (pk_un (by omega)).trans kn_65
  have kn_80 : w_76 (3) = 1 := by rw [ew_76]; exact (pk_un (by omega)).trans kn_66
  have kn_81 : w_76 (4) = 1 := by rw [ew_76]; exact (pk_un (by omega)).trans kn_67
  have kn_82 : w_76 (5) = 1 := by rw [ew_76]; exact (pk_un (by omega)).trans kn_68
  have kn_83 : w_76 (6) = 1 := by rw [ew_76]; exact pk_us
  have hW_84 : Wd G (setRow (setRow X 15 (X.1 15)) 24 w_76) H_72 := Wd.cast (by rw [ew_76]; exact st_out) hW_74
  refine lv_iinc (v := 7) (lv' := [(1, .int 7), (0, .ref (ad G 723))]) hx hb dX8_word_15 hl_71 (k := 0) rfl (by decide) (by decide) rfl (fun ls_85 hl_86 => ?_)
  refine lv_goto (tgt := 2) hx hb dX8_word_18 (by decide) ?_
  refine lv_iload_n hx hb dX8_word_2 rfl (lv_at hl_86 0 rfl) ?_
  refine lv_bipush (v := 10) hx hb dX8_word_3 (by decide) ?_
  refine lv_icmp_ge (tgt := 21) hx hb dX8_word_5 (by decide) (fun h9 => absurd h9 (by decide)) (fun _ => ?_)
  refine lv_aload_n hx hb dX8_word_8 rfl (lv_at hl_86 1 rfl) ?_
  refine gM_isLeft C hW_84 (hwc hwX8) (mc qw_1489) dX8_word_9 ?_
  refine lv_iload_n hx hb dX8_word_12 rfl (lv_at hl_86 0 rfl) ?_
  refine lv_iconst (v := 1) hx hb dX8_word_13 (by decide) ?_
  refine gm_isLeftst C hW_84 hS_75 7 (by decide) (vlit (by decide)) dX8_word_14 (fun H_87 locs_88 hW_89 hS_90 => ?_)
  obtain ⟨w_91, ew_91⟩ : ∃ Z9, Z9 = upd w_76 (7) 1 := ⟨_, rfl⟩
  have kn_92 : w_91 (0) = 1 := by rw [ew_91]; exact (pk_un (by omega)).trans kn_77
  have kn_93 : w_91 (1) = 1 := by rw [ew_91]; exact (pk_un (by omega)).trans kn_78
  have kn_94 : w_91 (2) = 1 := by rw [ew_91]; exact (pk_un (by omega)).trans kn_79
  have kn_95 : w_91 (3) = 1 := by rw [ew_91]; exact (pk_un (by omega)).trans kn_80
  have kn_96 : w_91 (4) = 1 := by rw [ew_91]; exact (pk_un (by omega)).trans kn_81
  have kn_97 : w_91 (5) = 1 := by rw [ew_91]; exact (pk_un (by omega)).trans kn_82
  have kn_98 : w_91 (6) = 1 := by rw [ew_91]; exact (pk_un (by omega)).trans kn_83
  have kn_99 : w_91 (7) = 1 := by rw [ew_91]; exact pk_us
  have hW_100 : Wd G (setRow (setRow X 15 (X.1 15)) 24 w_91) H_87 := Wd.cast (by rw [ew_91]; exact st_out) hW_89
  refine lv_iinc (v := 8) (lv' := [(1, .int 8), (0, .ref (ad G 723))]) hx hb dX8_word_15 hl_86 (k := 0) rfl (by decide) (by decide) rfl (fun ls_101 hl_102 => ?_)
  refine lv_goto (tgt := 2) hx hb dX8_word_18 (by decide) ?_
  refine lv_iload_n hx hb dX8_word_2 rfl (lv_at hl_102 0 rfl) ?_
  refine lv_bipush (v := 10) hx hb dX8_word_3 (by decide) ?_
  refine lv_icmp_ge (tgt := 21) hx hb dX8_word_5 (by decide) (fun h9 => absurd h9 (by decide)) (fun _ => ?_)
  refine lv_aload_n hx hb dX8_word_8 rfl (lv_at hl_102 1 rfl) ?_
  refine gM_isLeft C hW_100 (hwc hwX8) (mc qw_1489) dX8_word_9 ?_
  refine lv_iload_n hx hb dX8_word_12 rfl (lv_at hl_102 0 rfl) ?_
  refine lv_iconst (v := 1) hx hb dX8_word_13 (by decide) ?_
  refine gm_isLeftst C hW_100 hS_90 8 (by decide) (vlit (by decide)) dX8_word_14 (fun H_103 locs_104 hW_105 hS_106 => ?_)
  obtain ⟨w_107, ew_107⟩ : ∃ Z9, Z9 = upd w_91 (8) 1 := ⟨_, rfl⟩
  have kn_108 : w_107 (0) = 1 := by rw [ew_107]; exact (pk_un (by omega)).trans kn_92
  have kn_109 : w_107 (1) = 1 := by rw [ew_107]; exact (pk_un (by omega)).trans kn_93
  have kn_110 : w_107 (2) = 1 := by rw [ew_107]; exact (pk_un (by omega)).trans kn_94
  have kn_111 : w_107 (3) = 1 := by rw [ew_107]; exact (pk_un (by omega)).trans kn_95
  have kn_112 : w_107 (4) = 1 := by rw [ew_107]; exact (pk_un (by omega)).trans kn_96
  have kn_113 : w_107 (5) = 1 := by rw [ew_107]; exact (pk_un (by omega)).trans kn_97
  have kn_114 : w_107 (6) = 1 := by rw [ew_107]; exact (pk_un (by omega)).trans kn_98
  have kn_115 : w_107 (7) = 1 := by rw [ew_107]; exact (pk_un (by omega)).trans kn_99
  have kn_116 : w_107 (8) = 1 := by rw [ew_107]; exact pk_us
  have hW_117 : Wd G (setRow (setRow X 15 (X.1 15)) 24 w_107) H_103 := Wd.cast (by rw [ew_107]; exact st_out) hW_105
  refine lv_iinc (v := 9) (lv' := [(1, .int 9), (0, .ref (ad G 723))]) hx hb dX8_word_15 hl_102 (k := 0) rfl (by decide) (by decide) rfl (fun ls_118 hl_119 => ?_)
  refine lv_goto (tgt := 2) hx hb dX8_word_18 (by decide) ?_
  refine lv_iload_n hx hb dX8_word_2 rfl (lv_at hl_119 0 rfl) ?_
  refine lv_bipush (v := 10) hx hb dX8_word_3 (by decide) ?_
  refine lv_icmp_ge (tgt := 21) hx hb dX8_word_5 (by decide) (fun h9 => absurd h9 (by decide)) (fun _ => ?_)
  refine lv_aload_n hx hb dX8_word_8 rfl (lv_at hl_119 1 rfl) ?_
  refine gM_isLeft C hW_117 (hwc hwX8) (mc qw_1489) dX8_word_9 ?_
  refine lv_iload_n hx hb dX8_word_12 rfl (lv_at hl_119 0 rfl) ?_
  refine lv_iconst (v := 1) hx hb dX8_word_13 (by decide) ?_
  refine gm_isLeftst C hW_117 hS_106 9 (by decide) (vlit (by decide)) dX8_word_14 (fun H_120 locs_121 hW_122 hS_123 => ?_)
  obtain ⟨w_124, ew_124⟩ : ∃ Z9, Z9 = upd w_107 (9) 1 := ⟨_, rfl⟩
  have kn_125 : w_124 (0) = 1 := by rw [ew_124]; exact (pk_un (by omega)).trans kn_108
  have kn_126 : w_124 (1) = 1 := by rw [ew_124]; exact (pk_un (by omega)).trans kn_109
  have kn_127 : w_124 (2) = 1 := by rw [ew_124]; exact (pk_un (by omega)).trans kn_110
  have kn_128 : w_124 (3) = 1 := by rw [ew_124]; exact (pk_un (by omega)).trans kn_111
  have kn_129 : w_124 (4) = 1 := by rw [ew_124]; exact (pk_un (by omega)).trans kn_112
  have kn_130 : w_124 (5) = 1 := by rw [ew_124]; exact (pk_un (by omega)).trans kn_113
  have kn_131 : w_124 (6) = 1 := by rw [ew_124]; exact (pk_un (by omega)).trans kn_114
  have kn_132 : w_124 (7) = 1 := by rw [ew_124]; exact (pk_un (by omega)).trans kn_115
  have kn_133 : w_124 (8) = 1 := by rw [ew_124]; exact (pk_un (by omega)).trans kn_116
  have kn_134 : w_124 (9) = 1 := by rw [ew_124]; exact pk_us
  have hW_135 : Wd G (setRow (setRow X 15 (X.1 15)) 24 w_124) H_120 := Wd.cast (by rw [ew_124]; exact st_out) hW_122
  refine lv_iinc (v := 10) (lv' := [(1, .int 10), (0, .ref (ad G 723))]) hx hb dX8_word_15 hl_119 (k := 0) rfl (by decide) (by decide) rfl (fun ls_136 hl_137 => ?_)
  refine lv_goto (tgt := 2) hx hb dX8_word_18 (by decide) ?_
  refine lv_iload_n hx hb dX8_word_2 rfl (lv_at hl_137 0 rfl) ?_
  refine lv_bipush (v := 10) hx hb dX8_word_3 (by decide) ?_
  refine lv_icmp_ge (tgt := 21) hx hb dX8_word_5 (by decide) (fun _ => ?_) (fun h9 => absurd h9 (by decide))
  refine lv_iconst (v := 0) hx hb dX8_word_21 (by decide) ?_
  refine lv_istore_n (lv' := [(1, .int 0), (0, .ref (ad G 723))]) hx hb dX8_word_22 rfl hl_137 (by decide) rfl (fun ls_138 hl_139 => ?_)
  refine lv_iconst (v := (-1)) hx hb dX8_word_23 (by decide) ?_
  refine lv_istore_n (lv' := [(2, .int (-1)), (1, .int 0), (0, .ref (ad G 723))]) hx hb dX8_word_24 rfl hl_139 (by decide) rfl (fun ls_140 hl_141 => ?_)
  refine lv_iload_n hx hb dX8_word_25 rfl (lv_at hl_141 0 rfl) ?_
  refine lv_if_ge (tgt := 222) hx hb dX8_word_26 (by decide) (fun h9 => absurd h9 (by decide)) (fun _ => ?_)
  refine lv_aload_n hx hb dX8_word_29 rfl (lv_at hl_141 2 rfl) ?_
  refine gM_isWrong C hW_135 (hwc hwX8) (mc qw_1496) dX8_word_30 ?_
  refine g_top (y := X.1 15 (9)) (congrFun (rd_in (by decide) rd_out) _) ?_
  refine g_top (y := 0) e9 ?_
  refine lv_if_ne (tgt := 222) hx hb dX8_word_33 (by decide) (fun h9 => absurd h9 (by decide)) (fun _ => ?_)
  have loop : ∀ (q : Nat) (nn : Nat) (iv : Int32) (yy zz : Nat → Int32) (H : Heap) (locs : List Loc) (ls : Array Slot), nn + q = 8 → nn ≤ 7 → pp + nn ≤ L → yy = ps (X.1 15) (pp + nn) 0 → wlL (X.1 22) L pp q nn zz iv = wlL (X.1 22) L pp 8 0 (oneR (X.1 24)) (-1) → Wd G (setRow (setRow X 15 yy) 24 zz) H → va_S (Ab G) s.heap H locs → lv_has ls 5 [(2, .int iv), (1, .int (nI nn)), (0, .ref (ad G 723))] → W p l e (rmz 1 20) s m ([.ref (ad G 723)] : List Value).toArray below meth c H locs 0 0 (MQ below (Ki G (fun res Y => res = (wdM (X.1 22) L pp (X.1 24)).1 ∧ Y = setRow (setRow X 15 (ps (X.1 15) (wdM (X.1 22) L pp (X.1 24)).2.1 (wdM (X.1 22) L pp (X.1 24)).2.2.1)) 24 (wdM (X.1 22) L pp (X.1 24)).2.2.2)) ([.ref (ad G 723)] : List Value).toArray s 0 0 (Ab G)) (F0 m 36 ls []) := by
    intro q
    induction q with
    | zero =>
      intro nn iv yy zz H locs ls hq hn7 hpl hy hf hW hS hl
      exact absurd hn7 (by omega)
    | succ q ih =>
      intro nn iv yy zz H locs ls hq hn7 hpl hy hf hW hS hl
      have hy6 : yy (6) = nI (pp + nn) := by rw [hy]; exact ps_6
      have hy7 : yy (7) = nI L := by rw [hy]; exact (ps_o (by decide) (by decide)).trans e7
      have hy9 : yy (9) = 0 := by rw [hy]; exact ps_9
      refine lv_iconst (v := 0) hx hb dX8_word_36 (by decide) ?_
      refine lv_istore_n (lv' := [(3, .int 0), (2, .int iv), (1, .int (nI nn)), (0, .ref (ad G 723))]) hx hb dX8_word_37 rfl hl (by decide) rfl (fun ls_142 hl_143 => ?_)
      refine lv_iconst (v := 0) hx hb dX8_word_38 (by decide) ?_
      refine lv_istore (lv' := [(4, .int 0), (3, .int 0), (2, .int iv), (1, .int (nI nn)), (0, .ref (ad G 723))]) hx hb dX8_word_39 hl_143 (by decide) rfl (fun ls_144 hl_145 => ?_)
      have loopa : ∀ (qa : Nat) (ww : Nat) (mo : Int32) (za : Nat → Int32) (H : Heap) (locs : List Loc) (ls : Array Slot), ww + qa = 10 → laA zz nn (sgM (X.1 22) L (pp + nn)) ww = (za, mo) → Wd G (setRow (setRow X 15 yy) 24 za) H → va_S (Ab G) s.heap H locs → lv_has ls 5 [(4, .int (nI ww)), (3, .int mo), (2, .int iv), (1, .int (nI nn)), (0, .ref (ad G 723))] → W p l e (rmz 1 20) s m ([.ref (ad G 723)] : List Value).toArray below meth c H locs 0 0 (MQ below (Ki G (fun res Y => res = (wdM (X.1 22) L pp (X.1 24)).1 ∧ Y = setRow (setRow X 15 (ps (X.1 15) (wdM (X.1 22) L pp (X.1 24)).2.1 (wdM (X.1 22) L pp (X.1 24)).2.2.1)) 24 (wdM (X.1 22) L pp (X.1 24)).2.2.2)) ([.ref (ad G 723)] : List Value).toArray s 0 0 (Ab G)) (F0 m 41 ls []) := by
        intro qa
        induction qa with
        | zero =>
          intro ww mo za H locs ls hqa hA hW hS hl
          have hww : ww = 10 := by omega
          have hA9 : laA zz nn (sgM (X.1 22) L (pp + nn)) 10 = (za, mo) := by rw [← hww]; exact hA
          refine lv_iload hx hb dX8_word_41 (lv_at hl 0 rfl) ?_
          refine lv_bipush (v := 10) hx hb dX8_word_43 (by decide) ?_
          refine lv_icmp_ge (tgt := 130) hx hb dX8_word_45 (by decide) (fun _ => ?_) (fun h9 => absurd (nI_le (a := 10) (b := ww) (by omega) (by omega)) h9)
          refine lv_aload_n hx hb dX8_word_130 rfl (lv_at hl 4 rfl) ?_
          refine lv_iload_n hx hb dX8_word_131 rfl (lv_at hl 1 rfl) ?_
          refine lv_if_ne (tgt := 139) hx hb dX8_word_132 (by decide) (fun b_146 => ?_) (fun b_146 => ?_)
          · refine lv_iconst (v := 0) hx hb dX8_word_139 (by decide) ?_
            refine gM_isWrongP C hW hS (hwc hwX8) (mc qw_1496) rfl rfl dX8_word_140 (fun H_147 locs_148 hW_149 hS_150 => ?_)
            obtain ⟨w_151, ew_151⟩ : ∃ Z9, Z9 = upd yy (9) 0 := ⟨_, rfl⟩
            have kn_152 : w_151 (6) = nI (pp + nn) := by rw [ew_151]; exact (pk_un (by omega)).trans hy6
            have kn_153 : w_151 (7) = nI L := by rw [ew_151]; exact (pk_un (by omega)).trans hy7
            have kn_154 : w_151 (9) = 0 := by rw [ew_151]; exact pk_us
            have hW_155 : Wd G (setRow (setRow X 15 w_151) 24 za) H_147 := Wd.cast (by rw [ew_151]; exact (st_in (by decide) st_out)) hW_149
            refine lv_aload_n hx hb dX8_word_143 rfl (lv_at hl 4 rfl) ?_
            refine lv_dup hx hb dX8_word_144 rfl ?_
            refine gM_here C hW_155 (hwc hwX8) (mc qw_1493) dX8_word_145 ?_
            refine g_top (y := w_151 (6)) (congrFun (rd_in (by decide) rd_out) _) ?_
            refine g_top (y := nI (pp + nn)) kn_152 ?_
            refine lv_iload_n hx hb dX8_word_148 rfl (lv_at hl 1 rfl) ?_
            refine lv_if_eq (tgt := 156) hx hb dX8_word_149 (by decide) (fun h9 => absurd h9 b_146) (fun _ => ?_)
            refine lv_iconst (v := 1) hx hb dX8_word_152 (by decide) ?_
            refine lv_goto (tgt := 157) hx hb dX8_word_153 (by decide) ?_
            refine lv_iadd hx hb dX8_word_157 ?_
            refine g_top (y := nI (pp + nn + 1)) (nI_add (pp + nn) 1) ?_
            refine gM_hereP C hW_155 hS_150 (hwc hwX8) (mc qw_1493) dX8_word_158 (fun H_156 locs_157 hW_158 hS_159 => ?_)
            obtain ⟨w_160, ew_160⟩ : ∃ Z9, Z9 = upd w_151 (6) (nI (pp + nn + 1)) := ⟨_, rfl⟩
            have kn_161 : w_160 (7) = nI L := by rw [ew_160]; exact (pk_un (by omega)).trans kn_153
            have kn_162 : w_160 (9) = 0 := by rw [ew_160]; exact (pk_un (by omega)).trans kn_154
            have kn_163 : w_160 (6) = nI (pp + nn + 1) := by rw [ew_160]; exact pk_us
            have hW_164 : Wd G (setRow (setRow X 15 w_160) 24 za) H_156 := Wd.cast (by rw [ew_160]; exact (st_in (by decide) st_out)) hW_158
            refine lv_iinc (v := nI (nn + 1)) (lv' := [(1, .int (nI (nn + 1))), (4, .int (nI ww)), (3, .int mo), (2, .int iv), (0, .ref (ad G 723))]) hx hb dX8_word_161 hl (k := 3) rfl (nI_1 nn) (by decide) rfl (fun ls_165 hl_166 => ?_)
            refine lv_iconst (v := 0) hx hb dX8_word_164 (by decide) ?_
            refine lv_istore (lv' := [(4, .int 0), (1, .int (nI (nn + 1))), (3, .int mo), (2, .int iv), (0, .ref (ad G 723))]) hx hb dX8_word_165 hl_166 (by decide) rfl (fun ls_167 hl_168 => ?_)
            have loopb : ∀ (qb : Nat) (w2 : Nat) (iw : Int32) (H : Heap) (locs : List Loc) (ls : Array Slot), w2 + qb = 10 → lbB za (nn + 1) iv w2 = iw → Wd G (setRow (setRow X 15 w_160) 24 za) H → va_S (Ab G) s.heap H locs → lv_has ls 5 [(4, .int (nI w2)), (2, .int iw), (1, .int (nI (nn + 1))), (0, .ref (ad G 723))] → W p l e (rmz 1 20) s m ([.ref (ad G 723)] : List Value).toArray below meth c H locs 0 0 (MQ below (Ki G (fun res Y => res = (wdM (X.1 22) L pp (X.1 24)).1 ∧ Y = setRow (setRow X 15 (ps (X.1 15) (wdM (X.1 22) L pp (X.1 24)).2.1 (wdM (X.1 22) L pp (X.1 24)).2.2.1)) 24 (wdM (X.1 22) L pp (X.1 24)).2.2.2)) ([.ref (ad G 723)] : List Value).toArray s 0 0 (Ab G)) (F0 m 167 ls []) := by
              intro qb
              induction qb with
              | zero =>
                intro w2 iw H locs ls hqb hB hW hS hl
                have hB9 : lbB za (nn + 1) iv 10 = iw := by rw [← show w2 = 10 by omega]; exact hB
                refine lv_iload hx hb dX8_word_167 (lv_at hl 0 rfl) ?_
                refine lv_bipush (v := 10) hx hb dX8_word_169 (by decide) ?_
                refine lv_icmp_ge (tgt := 219) hx hb dX8_word_171 (by decide) (fun _ => ?_) (fun h9 => absurd (nI_le (a := 10) (b := w2) (by omega) (by omega)) h9)
                refine lv_goto (tgt := 25) hx hb dX8_word_219 (by decide) ?_
                refine lv_iload_n hx hb dX8_word_25 rfl (lv_at hl 1 rfl) ?_
                refine lv_if_ge (tgt := 222) hx hb dX8_word_26 (by decide) (fun b_169 => ?_) (fun b_169 => ?_)
                · refine lv_iload_n hx hb dX8_word_222 rfl (lv_at hl 1 rfl) ?_
                  exact g_iret C hr hlk hW hS dX8_word_223 (by rw [wlL] at hf; simp only [hA9, hB9, b_146, b_169, if_true, if_false] at hf; rw [show wdM (X.1 22) L pp (X.1 24) = _ from hf.symm]; exact ⟨rfl, by subst ew_160; subst ew_151; rw [hy]; exact congrArg (fun z9 => setRow (setRow X 15 z9) 24 za) ps_96⟩)
                · refine lv_aload_n hx hb dX8_word_29 rfl (lv_at hl 3 rfl) ?_
                  refine gM_isWrong C hW (hwc hwX8) (mc qw_1496) dX8_word_30 ?_
                  refine g_top (y := w_160 (9)) (congrFun (rd_in (by decide) rd_out) _) ?_
                  refine g_top (y := 0) kn_162 ?_
                  refine lv_if_ne (tgt := 222) hx hb dX8_word_33 (by decide) (fun h9 => absurd h9 (by decide)) (fun _ => ?_)
                  exact ih (nn + 1) iw w_160 za H locs ls (by omega) (laA_lt7 hA9 hn7 b_146) (by have := laA_ltL hA9 b_146; omega) (by subst ew_160; subst ew_151; rw [hy]; exact ps_96) (by rw [wlL] at hf; simp only [hA9, hB9, b_146, b_169, if_false] at hf; exact hf) hW hS (lv_sub hl [1, 2, 3] rfl)
              | succ qb ihb =>
                intro w2 iw H locs ls hqb hB hW hS hl
                have hwb1 := wa_le w2
                have hwb2 := wa_le (w2 + 1)
                refine lv_iload hx hb dX8_word_167 (lv_at hl 0 rfl) ?_
                refine lv_bipush (v := 10) hx hb dX8_word_169 (by decide) ?_
                refine lv_icmp_ge (tgt := 219) hx hb dX8_word_171 (by decide) (fun h9 => absurd h9 (nI_ge (a := w2) (b := 10) (by omega) (by omega))) (fun _ => ?_)
                refine lv_aload_n hx hb dX8_word_174 rfl (lv_at hl 3 rfl) ?_
                refine gM_isLeft C hW (hwc hwX8) (mc qw_1489) dX8_word_175 ?_
                refine lv_iload hx hb dX8_word_178 (lv_at hl 0 rfl) ?_
                refine gm_isLeftld C hW w2 (nI_clamp (by omega)) (vp_in_nI (show w2 < 10 by omega) (by decide)) dX8_word_180 ?_
                refine g_top (y := za (w2)) (congrFun rd_out _) ?_
                refine lv_iconst (v := 1) hx hb dX8_word_181 (by decide) ?_
                refine lv_icmp_ne (tgt := 211) hx hb dX8_word_182 (by decide) (fun b_170 => ?_) (fun b_170 => ?_)
                · refine lv_iload_n hx hb dX8_word_211 rfl (lv_at hl 1 rfl) ?_
                  refine lv_istore_n (lv' := [(2, .int iw), (4, .int (nI w2)), (1, .int (nI (nn + 1))), (0, .ref (ad G 723))]) hx hb dX8_word_212 rfl hl (by decide) rfl (fun ls_171 hl_172 => ?_)
                  refine lv_iinc (v := nI (w2 + 1)) (lv' := [(4, .int (nI (w2 + 1))), (2, .int iw), (1, .int (nI (nn + 1))), (0, .ref (ad G 723))]) hx hb dX8_word_213 hl_172 (k := 1) rfl (nI_1 w2) (by decide) rfl (fun ls_173 hl_174 => ?_)
                  refine lv_goto (tgt := 167) hx hb dX8_word_216 (by decide) ?_
                  exact ihb (w2 + 1) iw H locs ls_173 (by omega) (by simp only [lbB, hB, b_170, if_true, if_false]; (try rfl)) hW hS (lv_sub hl_174 [0, 1, 2, 3] rfl)
                · refine lv_aload_n hx hb dX8_word_185 rfl (lv_at hl 3 rfl) ?_
                  refine gM_wordAt C hW (hwc hwX8) (mc qw_1491) dX8_word_186 ?_
                  refine lv_iload hx hb dX8_word_189 (lv_at hl 0 rfl) ?_
                  refine gm_wordAtld C hW w2 (nI_clamp (by omega)) (vp_in_nI (show w2 < 11 by omega) (by decide)) dX8_word_191 ?_
                  refine g_top (y := X.1 26 (w2)) (congrFun (rd_in (by decide) (rd_in (by decide) rfl)) _) ?_
                  refine g_top (y := nI (wa w2)) (hwd.2 w2 (by omega)) ?_
                  refine lv_iload_n hx hb dX8_word_192 rfl (lv_at hl 2 rfl) ?_
                  refine lv_iadd hx hb dX8_word_193 ?_
                  refine g_top (y := nI (wa w2 + (nn + 1))) (nI_add (wa w2) (nn + 1)) ?_
                  refine lv_aload_n hx hb dX8_word_194 rfl (lv_at hl 3 rfl) ?_
                  refine gM_wordAt C hW (hwc hwX8) (mc qw_1491) dX8_word_195 ?_
                  refine lv_iload hx hb dX8_word_198 (lv_at hl 0 rfl) ?_
                  refine lv_iconst (v := 1) hx hb dX8_word_200 (by decide) ?_
                  refine lv_iadd hx hb dX8_word_201 ?_
                  refine g_top (y := nI (w2 + 1)) (nI_add w2 1) ?_
                  refine gm_wordAtld C hW (w2 + 1) (nI_clamp (by omega)) (vp_in_nI (show w2 + 1 < 11 by omega) (by decide)) dX8_word_202 ?_
                  refine g_top (y := X.1 26 (w2 + 1)) (congrFun (rd_in (by decide) (rd_in (by decide) rfl)) _) ?_
                  refine g_top (y := nI (wa (w2 + 1))) (hwd.2 (w2 + 1) (by omega)) ?_
                  refine lv_icmp_ne (tgt := 211) hx hb dX8_word_203 (by decide) (fun b_175 => ?_) (fun b_175 => ?_)
                  · have fb_175 : ¬ wa w2 + (nn + 1) = wa (w2 + 1) := fun q9 => b_175 ((nI_eq (a := wa w2 + (nn + 1)) (b := wa (w2 + 1)) (by omega) (by omega)).mpr q9)
                    refine lv_iload_n hx hb dX8_word_211 rfl (lv_at hl 1 rfl) ?_
                    refine lv_istore_n (lv' := [(2, .int iw), (4, .int (nI w2)), (1, .int (nI (nn + 1))), (0, .ref (ad G 723))]) hx hb dX8_word_212 rfl hl (by decide) rfl (fun ls_176 hl_177 => ?_)
                    refine lv_iinc (v := nI (w2 + 1)) (lv' := [(4, .int (nI (w2 + 1))), (2, .int iw), (1, .int (nI (nn + 1))), (0, .ref (ad G 723))]) hx hb dX8_word_213 hl_177 (k := 1) rfl (nI_1 w2) (by decide) rfl (fun ls_178 hl_179 => ?_)
                    refine lv_goto (tgt := 167) hx hb dX8_word_216 (by decide) ?_
                    exact ihb (w2 + 1) iw H locs ls_178 (by omega) (by simp only [lbB, hB, eq_true b_170, b_175, if_true, if_false]; (try rfl)) hW hS (lv_sub hl_179 [0, 1, 2, 3] rfl)
                  · have fb_175 : wa w2 + (nn + 1) = wa (w2 + 1) := (nI_eq (a := wa w2 + (nn + 1)) (b := wa (w2 + 1)) (by omega) (by omega)).mp b_175
                    refine lv_iload hx hb dX8_word_206 (lv_at hl 0 rfl) ?_
                    refine lv_goto (tgt := 212) hx hb dX8_word_208 (by decide) ?_
                    refine lv_istore_n (lv' := [(2, .int (nI w2)), (4, .int (nI w2)), (1, .int (nI (nn + 1))), (0, .ref (ad G 723))]) hx hb dX8_word_212 rfl hl (by decide) rfl (fun ls_180 hl_181 => ?_)
                    refine lv_iinc (v := nI (w2 + 1)) (lv' := [(4, .int (nI (w2 + 1))), (2, .int (nI w2)), (1, .int (nI (nn + 1))), (0, .ref (ad G 723))]) hx hb dX8_word_213 hl_181 (k := 1) rfl (nI_1 w2) (by decide) rfl (fun ls_182 hl_183 => ?_)
                    refine lv_goto (tgt := 167) hx hb dX8_word_216 (by decide) ?_
                    exact ihb (w2 + 1) (nI w2) H locs ls_182 (by omega) (by simp only [lbB, hB, eq_true b_170, eq_true b_175, if_true, if_false]; (try rfl)) hW hS (lv_sub hl_183 [0, 1, 2, 3] rfl)
            exact loopb 10 0 iv H_156 locs_157 ls_167 rfl rfl hW_164 hS_159 (lv_sub hl_168 [0, 3, 1, 4] rfl)
          · refine lv_iconst (v := 1) hx hb dX8_word_135 (by decide) ?_
            refine lv_goto (tgt := 140) hx hb dX8_word_136 (by decide) ?_
            refine gM_isWrongP C hW hS (hwc hwX8) (mc qw_1496) rfl rfl dX8_word_140 (fun H_184 locs_185 hW_186 hS_187 => ?_)
            obtain ⟨w_188, ew_188⟩ : ∃ Z9, Z9 = upd yy (9) 1 := ⟨_, rfl⟩
            have kn_189 : w_188 (6) = nI (pp + nn) := by rw [ew_188]; exact (pk_un (by omega)).trans hy6
            have kn_190 : w_188 (7) = nI L := by rw [ew_188]; exact (pk_un (by omega)).trans hy7
            have kn_191 : w_188 (9) = 1 := by rw [ew_188]; exact pk_us
            have hW_192 : Wd G (setRow (setRow X 15 w_188) 24 za) H_184 := Wd.cast (by rw [ew_188]; exact (st_in (by decide) st_out)) hW_186
            refine lv_aload_n hx hb dX8_word_143 rfl (lv_at hl 4 rfl) ?_
            refine lv_dup hx hb dX8_word_144 rfl ?_
            refine gM_here C hW_192 (hwc hwX8) (mc qw_1493) dX8_word_145 ?_
            refine g_top (y := w_188 (6)) (congrFun (rd_in (by decide) rd_out) _) ?_
            refine g_top (y := nI (pp + nn)) kn_189 ?_
            refine lv_iload_n hx hb dX8_word_148 rfl (lv_at hl 1 rfl) ?_
            refine lv_if_eq (tgt := 156) hx hb dX8_word_149 (by decide) (fun _ => ?_) (fun h9 => absurd b_146 h9)
            refine lv_iconst (v := 0) hx hb dX8_word_156 (by decide) ?_
            refine lv_iadd hx hb dX8_word_157 ?_
            refine g_top (y := (nI (pp + nn))) (Int32.add_zero _) ?_
            refine gM_hereP C hW_192 hS_187 (hwc hwX8) (mc qw_1493) dX8_word_158 (fun H_193 locs_194 hW_195 hS_196 => ?_)
            obtain ⟨w_197, ew_197⟩ : ∃ Z9, Z9 = upd w_188 (6) (nI (pp + nn)) := ⟨_, rfl⟩
            have kn_198 : w_197 (7) = nI L := by rw [ew_197]; exact (pk_un (by omega)).trans kn_190
            have kn_199 : w_197 (9) = 1 := by rw [ew_197]; exact (pk_un (by omega)).trans kn_191
            have kn_200 : w_197 (6) = nI (pp + nn) := by rw [ew_197]; exact pk_us
            have hW_201 : Wd G (setRow (setRow X 15 w_197) 24 za) H_193 := Wd.cast (by rw [ew_197]; exact (st_in (by decide) st_out)) hW_195
            refine lv_iinc (v := nI (nn + 1)) (lv' := [(1, .int (nI (nn + 1))), (4, .int (nI ww)), (3, .int mo), (2, .int iv), (0, .ref (ad G 723))]) hx hb dX8_word_161 hl (k := 3) rfl (nI_1 nn) (by decide) rfl (fun ls_202 hl_203 => ?_)
            refine lv_iconst (v := 0) hx hb dX8_word_164 (by decide) ?_
            refine lv_istore (lv' := [(4, .int 0), (1, .int (nI (nn + 1))), (3, .int mo), (2, .int iv), (0, .ref (ad G 723))]) hx hb dX8_word_165 hl_203 (by decide) rfl (fun ls_204 hl_205 => ?_)
            have loopb : ∀ (qb : Nat) (w2 : Nat) (iw : Int32) (H : Heap) (locs : List Loc) (ls : Array Slot), w2 + qb = 10 → lbB za (nn + 1) iv w2 = iw → Wd G (setRow (setRow X 15 w_197) 24 za) H → va_S (Ab G) s.heap H locs → lv_has ls 5 [(4, .int (nI w2)), (2, .int iw), (1, .int (nI (nn + 1))), (0, .ref (ad G 723))] → W p l e (rmz 1 20) s m ([.ref (ad G 723)] : List Value).toArray below meth c H locs 0 0 (MQ below (Ki G (fun res Y => res = (wdM (X.1 22) L pp (X.1 24)).1 ∧ Y = setRow (setRow X 15 (ps (X.1 15) (wdM (X.1 22) L pp (X.1 24)).2.1 (wdM (X.1 22) L pp (X.1 24)).2.2.1)) 24 (wdM (X.1 22) L pp (X.1 24)).2.2.2)) ([.ref (ad G 723)] : List Value).toArray s 0 0 (Ab G)) (F0 m 167 ls []) := by
              intro qb
              induction qb with
              | zero =>
                intro w2 iw H locs ls hqb hB hW hS hl
                have hB9 : lbB za (nn + 1) iv 10 = iw := by rw [← show w2 = 10 by omega]; exact hB
                refine lv_iload hx hb dX8_word_167 (lv_at hl 0 rfl) ?_
                refine lv_bipush (v := 10) hx hb dX8_word_169 (by decide) ?_
                refine lv_icmp_ge (tgt := 219) hx hb dX8_word_171 (by decide) (fun _ => ?_) (fun h9 => absurd (nI_le (a := 10) (b := w2) (by omega) (by omega)) h9)
                refine lv_goto (tgt := 25) hx hb dX8_word_219 (by decide) ?_
                refine lv_iload_n hx hb dX8_word_25 rfl (lv_at hl 1 rfl) ?_
                refine lv_if_ge (tgt := 222) hx hb dX8_word_26 (by decide) (fun b_206 => ?_) (fun b_206 => ?_)
                · refine lv_iload_n hx hb dX8_word_222 rfl (lv_at hl 1 rfl) ?_
                  exact g_iret C hr hlk hW hS dX8_word_223 (by rw [wlL] at hf; simp only [hA9, hB9, eq_true b_146, b_206, if_true, if_false] at hf; rw [show wdM (X.1 22) L pp (X.1 24) = _ from hf.symm]; exact ⟨rfl, by subst ew_197; subst ew_188; rw [hy]; exact congrArg (fun z9 => setRow (setRow X 15 z9) 24 za) ps_96⟩)
                · refine lv_aload_n hx hb dX8_word_29 rfl (lv_at hl 3 rfl) ?_
                  refine gM_isWrong C hW (hwc hwX8) (mc qw_1496) dX8_word_30 ?_
                  refine g_top (y := w_197 (9)) (congrFun (rd_in (by decide) rd_out) _) ?_
                  refine g_top (y := 1) kn_199 ?_
                  refine lv_if_ne (tgt := 222) hx hb dX8_word_33 (by decide) (fun _ => ?_) (fun h9 => absurd h9 (by decide))
                  refine lv_iload_n hx hb dX8_word_222 rfl (lv_at hl 1 rfl) ?_
                  exact g_iret C hr hlk hW hS dX8_word_223 (by rw [wlL] at hf; simp only [hA9, hB9, eq_true b_146, b_206, if_true, if_false] at hf; rw [show wdM (X.1 22) L pp (X.1 24) = _ from hf.symm]; exact ⟨rfl, by subst ew_197; subst ew_188; rw [hy]; exact congrArg (fun z9 => setRow (setRow X 15 z9) 24 za) ps_96⟩)
              | succ qb ihb =>
                intro w2 iw H locs ls hqb hB hW hS hl
                have hwb1 := wa_le w2
                have hwb2 := wa_le (w2 + 1)
                refine lv_iload hx hb dX8_word_167 (lv_at hl 0 rfl) ?_
                refine lv_bipush (v := 10) hx hb dX8_word_169 (by decide) ?_
                refine lv_icmp_ge (tgt := 219) hx hb dX8_word_171 (by decide) (fun h9 => absurd h9 (nI_ge (a := w2) (b := 10) (by omega) (by omega))) (fun _ => ?_)
                refine lv_aload_n hx hb dX8_word_174 rfl (lv_at hl 3 rfl) ?_
                refine gM_isLeft C hW (hwc hwX8) (mc qw_1489) dX8_word_175 ?_
                refine lv_iload hx hb dX8_word_178 (lv_at hl 0 rfl) ?_
                refine gm_isLeftld C hW w2 (nI_clamp (by omega)) (vp_in_nI (show w2 < 10 by omega) (by decide)) dX8_word_180 ?_
                refine g_top (y := za (w2)) (congrFun rd_out _) ?_
                refine lv_iconst (v := 1) hx hb dX8_word_181 (by decide) ?_
                refine lv_icmp_ne (tgt := 211) hx hb dX8_word_182 (by decide) (fun b_207 => ?_) (fun b_207 => ?_)
                · refine lv_iload_n hx hb dX8_word_211 rfl (lv_at hl 1 rfl) ?_
                  refine lv_istore_n (lv' := [(2, .int iw), (4, .int (nI w2)), (1, .int (nI (nn + 1))), (0, .ref (ad G 723))]) hx hb dX8_word_212 rfl hl (by decide) rfl (fun ls_208 hl_209 => ?_)
                  refine lv_iinc (v := nI (w2 + 1)) (lv' := [(4, .int (nI (w2 + 1))), (2, .int iw), (1, .int (nI (nn + 1))), (0, .ref (ad G 723))]) hx hb dX8_word_213 hl_209 (k := 1) rfl (nI_1 w2) (by decide) rfl (fun ls_210 hl_211 => ?_)
                  refine lv_goto (tgt := 167) hx hb dX8_word_216 (by decide) ?_
                  exact ihb (w2 + 1) iw H locs ls_210 (by omega) (by simp only [lbB, hB, b_207, if_true, if_false]; (try rfl)) hW hS (lv_sub hl_211 [0, 1, 2, 3] rfl)
                · refine lv_aload_n hx hb dX8_word_185 rfl (lv_at hl 3 rfl) ?_
                  refine gM_wordAt C hW (hwc hwX8) (mc qw_1491) dX8_word_186 ?_
                  refine lv_iload hx hb dX8_word_189 (lv_at hl 0 rfl) ?_
                  refine gm_wordAtld C hW w2 (nI_clamp (by omega)) (vp_in_nI (show w2 < 11 by omega) (by decide)) dX8_word_191 ?_
                  refine g_top (y := X.1 26 (w2)) (congrFun (rd_in (by decide) (rd_in (by decide) rfl)) _) ?_
                  refine g_top (y := nI (wa w2)) (hwd.2 w2 (by omega)) ?_
                  refine lv_iload_n hx hb dX8_word_192 rfl (lv_at hl 2 rfl) ?_
                  refine lv_iadd hx hb dX8_word_193 ?_
                  refine g_top (y := nI (wa w2 + (nn + 1))) (nI_add (wa w2) (nn + 1)) ?_
                  refine lv_aload_n hx hb dX8_word_194 rfl (lv_at hl 3 rfl) ?_
                  refine gM_wordAt C hW (hwc hwX8) (mc qw_1491) dX8_word_195 ?_
                  refine lv_iload hx hb dX8_word_198 (lv_at hl 0 rfl) ?_
                  refine lv_iconst (v := 1) hx hb dX8_word_200 (by decide) ?_
                  refine lv_iadd hx hb dX8_word_201 ?_
                  refine g_top (y := nI (w2 + 1)) (nI_add w2 1) ?_
                  refine gm_wordAtld C hW (w2 + 1) (nI_clamp (by omega)) (vp_in_nI (show w2 + 1 < 11 by omega) (by decide)) dX8_word_202 ?_
                  refine g_top (y := X.1 26 (w2 + 1)) (congrFun (rd_in (by decide) (rd_in (by decide) rfl)) _) ?_
                  refine g_top (y := nI (wa (w2 + 1))) (hwd.2 (w2 + 1) (by omega)) ?_
                  refine lv_icmp_ne (tgt := 211) hx hb dX8_word_203 (by decide) (fun b_212 => ?_) (fun b_212 => ?_)
                  · have fb_212 : ¬ wa w2 + (nn + 1) = wa (w2 + 1) := fun q9 => b_212 ((nI_eq (a := wa w2 + (nn + 1)) (b := wa (w2 + 1)) (by omega) (by omega)).mpr q9)
                    refine lv_iload_n hx hb dX8_word_211 rfl (lv_at hl 1 rfl) ?_
                    refine lv_istore_n (lv' := [(2, .int iw), (4, .int (nI w2)), (1, .int (nI (nn + 1))), (0, .ref (ad G 723))]) hx hb dX8_word_212 rfl hl (by decide) rfl (fun ls_213 hl_214 => ?_)
                    refine lv_iinc (v := nI (w2 + 1)) (lv' := [(4, .int (nI (w2 + 1))), (2, .int iw), (1, .int (nI (nn + 1))), (0, .ref (ad G 723))]) hx hb dX8_word_213 hl_214 (k := 1) rfl (nI_1 w2) (by decide) rfl (fun ls_215 hl_216 => ?_)
                    refine lv_goto (tgt := 167) hx hb dX8_word_216 (by decide) ?_
                    exact ihb (w2 + 1) iw H locs ls_215 (by omega) (by simp only [lbB, hB, eq_true b_207, b_212, if_true, if_false]; (try rfl)) hW hS (lv_sub hl_216 [0, 1, 2, 3] rfl)
                  · have fb_212 : wa w2 + (nn + 1) = wa (w2 + 1) := (nI_eq (a := wa w2 + (nn + 1)) (b := wa (w2 + 1)) (by omega) (by omega)).mp b_212
                    refine lv_iload hx hb dX8_word_206 (lv_at hl 0 rfl) ?_
                    refine lv_goto (tgt := 212) hx hb dX8_word_208 (by decide) ?_
                    refine lv_istore_n (lv' := [(2, .int (nI w2)), (4, .int (nI w2)), (1, .int (nI (nn + 1))), (0, .ref (ad G 723))]) hx hb dX8_word_212 rfl hl (by decide) rfl (fun ls_217 hl_218 => ?_)
                    refine lv_iinc (v := nI (w2 + 1)) (lv' := [(4, .int (nI (w2 + 1))), (2, .int (nI w2)), (1, .int (nI (nn + 1))), (0, .ref (ad G 723))]) hx hb dX8_word_213 hl_218 (k := 1) rfl (nI_1 w2) (by decide) rfl (fun ls_219 hl_220 => ?_)
                    refine lv_goto (tgt := 167) hx hb dX8_word_216 (by decide) ?_
                    exact ihb (w2 + 1) (nI w2) H locs ls_219 (by omega) (by simp only [lbB, hB, eq_true b_207, eq_true b_212, if_true, if_false]; (try rfl)) hW hS (lv_sub hl_220 [0, 1, 2, 3] rfl)
            exact loopb 10 0 iv H_193 locs_194 ls_204 rfl rfl hW_201 hS_196 (lv_sub hl_205 [0, 3, 1, 4] rfl)
        | succ qa iha =>
          intro ww mo za H locs ls hqa hA hW hS hl
          have hwb1 := wa_le ww
          have hwb2 := wa_le (ww + 1)
          refine lv_iload hx hb dX8_word_41 (lv_at hl 0 rfl) ?_
          refine lv_bipush (v := 10) hx hb dX8_word_43 (by decide) ?_
          refine lv_icmp_ge (tgt := 130) hx hb dX8_word_45 (by decide) (fun h9 => absurd h9 (nI_ge (a := ww) (b := 10) (by omega) (by omega))) (fun _ => ?_)
          refine lv_aload_n hx hb dX8_word_48 rfl (lv_at hl 4 rfl) ?_
          refine gM_isLeft C hW (hwc hwX8) (mc qw_1489) dX8_word_49 ?_
          refine lv_iload hx hb dX8_word_52 (lv_at hl 0 rfl) ?_
          refine lv_dup2_11 hx hb dX8_word_54 rfl rfl ?_
          refine gm_isLeftld C hW ww (nI_clamp (by omega)) (vp_in_nI (show ww < 10 by omega) (by decide)) dX8_word_55 ?_
          refine g_top (y := za (ww)) (congrFun rd_out _) ?_
          refine lv_aload_n hx hb dX8_word_56 rfl (lv_at hl 4 rfl) ?_
          refine gM_wordAt C hW (hwc hwX8) (mc qw_1491) dX8_word_57 ?_
          refine lv_iload hx hb dX8_word_60 (lv_at hl 0 rfl) ?_
          refine gm_wordAtld C hW ww (nI_clamp (by omega)) (vp_in_nI (show ww < 11 by omega) (by decide)) dX8_word_62 ?_
          refine g_top (y := X.1 26 (ww)) (congrFun (rd_in (by decide) (rd_in (by decide) rfl)) _) ?_
          refine g_top (y := nI (wa ww)) (hwd.2 ww (by omega)) ?_
          refine lv_iload_n hx hb dX8_word_63 rfl (lv_at hl 3 rfl) ?_
          refine lv_iadd hx hb dX8_word_64 ?_
          refine g_top (y := nI (wa ww + nn)) (nI_add (wa ww) nn) ?_
          refine lv_aload_n hx hb dX8_word_65 rfl (lv_at hl 4 rfl) ?_
          refine gM_wordAt C hW (hwc hwX8) (mc qw_1491) dX8_word_66 ?_
          refine lv_iload hx hb dX8_word_69 (lv_at hl 0 rfl) ?_
          refine lv_iconst (v := 1) hx hb dX8_word_71 (by decide) ?_
          refine lv_iadd hx hb dX8_word_72 ?_
          refine g_top (y := nI (ww + 1)) (nI_add ww 1) ?_
          refine gm_wordAtld C hW (ww + 1) (nI_clamp (by omega)) (vp_in_nI (show ww + 1 < 11 by omega) (by decide)) dX8_word_73 ?_
          refine g_top (y := X.1 26 (ww + 1)) (congrFun (rd_in (by decide) (rd_in (by decide) rfl)) _) ?_
          refine g_top (y := nI (wa (ww + 1))) (hwd.2 (ww + 1) (by omega)) ?_
          refine lv_icmp_ge (tgt := 102) hx hb dX8_word_74 (by decide) (fun b_221 => ?_) (fun b_221 => ?_)
          · have fb_221 : (wa (ww + 1)) ≤ (wa ww + nn) := (nI_leI (a := wa (ww + 1)) (b := wa ww + nn) (by omega) (by omega)).mp b_221
            refine lv_iconst (v := 0) hx hb dX8_word_102 (by decide) ?_
            refine lv_iand hx hb dX8_word_103 ?_
            refine gm_isLeftst C hW hS ww (nI_clamp (by omega)) (vp_in_nI (show ww < 10 by omega) (by decide)) dX8_word_104 (fun H_222 locs_223 hW_224 hS_225 => ?_)
            obtain ⟨w_226, ew_226⟩ : ∃ Z9, Z9 = upd za (ww) ((za (ww)) &&& 0) := ⟨_, rfl⟩
            have hW_227 : Wd G (setRow (setRow X 15 yy) 24 w_226) H_222 := Wd.cast (by rw [ew_226]; exact st_out) hW_224
            refine lv_iload_n hx hb dX8_word_105 rfl (lv_at hl 1 rfl) ?_
            refine lv_aload_n hx hb dX8_word_106 rfl (lv_at hl 4 rfl) ?_
            refine gM_isLeft C hW_227 (hwc hwX8) (mc qw_1489) dX8_word_107 ?_
            refine lv_iload hx hb dX8_word_110 (lv_at hl 0 rfl) ?_
            refine gm_isLeftld C hW_227 ww (nI_clamp (by omega)) (vp_in_nI (show ww < 10 by omega) (by decide)) dX8_word_112 ?_
            refine g_top (y := w_226 (ww)) (congrFun rd_out _) ?_
            refine lv_iconst (v := 1) hx hb dX8_word_113 (by decide) ?_
            refine lv_icmp_ne (tgt := 121) hx hb dX8_word_114 (by decide) (fun b_228 => ?_) (fun b_228 => ?_)
            · refine lv_iconst (v := 0) hx hb dX8_word_121 (by decide) ?_
              refine lv_ior hx hb dX8_word_122 ?_
              refine lv_topi (fun v_229 ev_229 => ?_)
              refine lv_istore_n (lv' := [(3, .int v_229), (4, .int (nI ww)), (2, .int iv), (1, .int (nI nn)), (0, .ref (ad G 723))]) hx hb dX8_word_123 rfl hl (by decide) rfl (fun ls_230 hl_231 => ?_)
              refine lv_iinc (v := nI (ww + 1)) (lv' := [(4, .int (nI (ww + 1))), (3, .int v_229), (2, .int iv), (1, .int (nI nn)), (0, .ref (ad G 723))]) hx hb dX8_word_124 hl_231 (k := 1) rfl (nI_1 ww) (by decide) rfl (fun ls_232 hl_233 => ?_)
              refine lv_goto (tgt := 41) hx hb dX8_word_127 (by decide) ?_
              exact iha (ww + 1) v_229 w_226 H_222 locs_223 ls_232 (by omega) (by subst ev_229; subst ew_226; simp only [laA, hA, cA, b_221, b_228, if_true, if_false]; (try rfl)) hW_227 hS_225 (lv_sub hl_233 [0, 1, 2, 3, 4] rfl)
            · refine lv_iconst (v := 1) hx hb dX8_word_117 (by decide) ?_
              refine lv_goto (tgt := 122) hx hb dX8_word_118 (by decide) ?_
              refine lv_ior hx hb dX8_word_122 ?_
              refine lv_topi (fun v_234 ev_234 => ?_)
              refine lv_istore_n (lv' := [(3, .int v_234), (4, .int (nI ww)), (2, .int iv), (1, .int (nI nn)), (0, .ref (ad G 723))]) hx hb dX8_word_123 rfl hl (by decide) rfl (fun ls_235 hl_236 => ?_)
              refine lv_iinc (v := nI (ww + 1)) (lv' := [(4, .int (nI (ww + 1))), (3, .int v_234), (2, .int iv), (1, .int (nI nn)), (0, .ref (ad G 723))]) hx hb dX8_word_124 hl_236 (k := 1) rfl (nI_1 ww) (by decide) rfl (fun ls_237 hl_238 => ?_)
              refine lv_goto (tgt := 41) hx hb dX8_word_127 (by decide) ?_
              exact iha (ww + 1) v_234 w_226 H_222 locs_223 ls_237 (by omega) (by subst ev_234; subst ew_226; simp only [laA, hA, cA, b_221, eq_true b_228, if_true, if_false]; (try rfl)) hW_227 hS_225 (lv_sub hl_238 [0, 1, 2, 3, 4] rfl)
          · have fb_221 : ¬ (wa (ww + 1)) ≤ (wa ww + nn) := fun q9 => b_221 ((nI_leI (a := wa (ww + 1)) (b := wa ww + nn) (by omega) (by omega)).mpr q9)
            refine lv_aload_n hx hb dX8_word_77 rfl (lv_at hl 4 rfl) ?_
            refine gM_words C hW (hwc hwX8) (mc qw_1490) dX8_word_78 ?_
            refine lv_aload_n hx hb dX8_word_81 rfl (lv_at hl 4 rfl) ?_
            refine gM_wordAt C hW (hwc hwX8) (mc qw_1491) dX8_word_82 ?_
            refine lv_iload hx hb dX8_word_85 (lv_at hl 0 rfl) ?_
            refine gm_wordAtld C hW ww (nI_clamp (by omega)) (vp_in_nI (show ww < 11 by omega) (by decide)) dX8_word_87 ?_
            refine g_top (y := X.1 26 (ww)) (congrFun (rd_in (by decide) (rd_in (by decide) rfl)) _) ?_
            refine g_top (y := nI (wa ww)) (hwd.2 ww (by omega)) ?_
            refine lv_iload_n hx hb dX8_word_88 rfl (lv_at hl 3 rfl) ?_
            refine lv_iadd hx hb dX8_word_89 ?_
            refine g_top (y := nI (wa ww + nn)) (nI_add (wa ww) nn) ?_
            refine gm_wordsld C hW (wa ww + nn) (nI_clamp (by omega)) (vp_in_nI (show wa ww + nn < 53 by omega) (by decide)) dX8_word_90 ?_
            refine g_top (y := X.1 25 (wa ww + nn)) (congrFun (rd_in (by decide) (rd_in (by decide) rfl)) _) ?_
            refine g_top (y := nI (wcc (wa ww + nn))) (hwd.1 (wa ww + nn) (by omega)) ?_
            refine lv_aload_n hx hb dX8_word_91 rfl (lv_at hl 4 rfl) ?_
            refine g_calli (va_runV (As := []) (rest := [.int (nI (wcc (wa ww + nn))), .int (za (ww)), .int (nI ww), .ref (ad G 732)]) C.1 (cX8_sign_ok l G (setRow (setRow X 15 yy) 24 za) (pp + nn) L (show pp + nn ≤ L by omega) hL hy6 hy7) (cwV 0 C.1.2.2.2.2 (gV qw_1899 qw_1901 qw_64 qw_81 qw_1902) rfl rfl rfl (by decide +kernel) ⟨Nat.le_of_ble_eq_true rfl, Nat.le_of_ble_eq_true rfl⟩) (g_rModel C hW hS []) rfl rfl hl.1 rfl (lv_room (Nat.le_of_ble_eq_true rfl)) dX8_word_92 ⟨Nat.zero_le _, Nat.zero_le _⟩) hS (fun r_240 Y_241 H_242 locs_243 hW_244 hS_245 h_239 => ?_)
            obtain ⟨h_239, hy_246⟩ := h_239
            replace hy_246 := hy_246.symm
            subst hy_246
            replace h_239 : r_240 = sgM (X.1 22) L (pp + nn) := h_239
            subst h_239
            refine lv_icmp_ne (tgt := 102) hx hb dX8_word_95 (by decide) (fun b_247 => ?_) (fun b_247 => ?_)
            · refine lv_iconst (v := 0) hx hb dX8_word_102 (by decide) ?_
              refine lv_iand hx hb dX8_word_103 ?_
              refine gm_isLeftst C hW_244 hS_245 ww (nI_clamp (by omega)) (vp_in_nI (show ww < 10 by omega) (by decide)) dX8_word_104 (fun H_248 locs_249 hW_250 hS_251 => ?_)
              obtain ⟨w_252, ew_252⟩ : ∃ Z9, Z9 = upd za (ww) ((za (ww)) &&& 0) := ⟨_, rfl⟩
              have hW_253 : Wd G (setRow (setRow X 15 yy) 24 w_252) H_248 := Wd.cast (by rw [ew_252]; exact st_out) hW_250
              refine lv_iload_n hx hb dX8_word_105 rfl (lv_at hl 1 rfl) ?_
              refine lv_aload_n hx hb dX8_word_106 rfl (lv_at hl 4 rfl) ?_
              refine gM_isLeft C hW_253 (hwc hwX8) (mc qw_1489) dX8_word_107 ?_
              refine lv_iload hx hb dX8_word_110 (lv_at hl 0 rfl) ?_
              refine gm_isLeftld C hW_253 ww (nI_clamp (by omega)) (vp_in_nI (show ww < 10 by omega) (by decide)) dX8_word_112 ?_
              refine g_top (y := w_252 (ww)) (congrFun rd_out _) ?_
              refine lv_iconst (v := 1) hx hb dX8_word_113 (by decide) ?_
              refine lv_icmp_ne (tgt := 121) hx hb dX8_word_114 (by decide) (fun b_254 => ?_) (fun b_254 => ?_)
              · refine lv_iconst (v := 0) hx hb dX8_word_121 (by decide) ?_
                refine lv_ior hx hb dX8_word_122 ?_
                refine lv_topi (fun v_255 ev_255 => ?_)
                refine lv_istore_n (lv' := [(3, .int v_255), (4, .int (nI ww)), (2, .int iv), (1, .int (nI nn)), (0, .ref (ad G 723))]) hx hb dX8_word_123 rfl hl (by decide) rfl (fun ls_256 hl_257 => ?_)
                refine lv_iinc (v := nI (ww + 1)) (lv' := [(4, .int (nI (ww + 1))), (3, .int v_255), (2, .int iv), (1, .int (nI nn)), (0, .ref (ad G 723))]) hx hb dX8_word_124 hl_257 (k := 1) rfl (nI_1 ww) (by decide) rfl (fun ls_258 hl_259 => ?_)
                refine lv_goto (tgt := 41) hx hb dX8_word_127 (by decide) ?_
                exact iha (ww + 1) v_255 w_252 H_248 locs_249 ls_258 (by omega) (by subst ev_255; subst ew_252; simp only [laA, hA, cA, b_221, b_247, b_254, if_true, if_false]; (try rfl)) hW_253 hS_251 (lv_sub hl_259 [0, 1, 2, 3, 4] rfl)
              · refine lv_iconst (v := 1) hx hb dX8_word_117 (by decide) ?_
                refine lv_goto (tgt := 122) hx hb dX8_word_118 (by decide) ?_
                refine lv_ior hx hb dX8_word_122 ?_
                refine lv_topi (fun v_260 ev_260 => ?_)
                refine lv_istore_n (lv' := [(3, .int v_260), (4, .int (nI ww)), (2, .int iv), (1, .int (nI nn)), (0, .ref (ad G 723))]) hx hb dX8_word_123 rfl hl (by decide) rfl (fun ls_261 hl_262 => ?_)
                refine lv_iinc (v := nI (ww + 1)) (lv' := [(4, .int (nI (ww + 1))), (3, .int v_260), (2, .int iv), (1, .int (nI nn)), (0, .ref (ad G 723))]) hx hb dX8_word_124 hl_262 (k := 1) rfl (nI_1 ww) (by decide) rfl (fun ls_263 hl_264 => ?_)
                refine lv_goto (tgt := 41) hx hb dX8_word_127 (by decide) ?_
                exact iha (ww + 1) v_260 w_252 H_248 locs_249 ls_263 (by omega) (by subst ev_260; subst ew_252; simp only [laA, hA, cA, b_221, b_247, eq_true b_254, if_true, if_false]; (try rfl)) hW_253 hS_251 (lv_sub hl_264 [0, 1, 2, 3, 4] rfl)
            · refine lv_iconst (v := 1) hx hb dX8_word_98 (by decide) ?_
              refine lv_goto (tgt := 103) hx hb dX8_word_99 (by decide) ?_
              refine lv_iand hx hb dX8_word_103 ?_
              refine gm_isLeftst C hW_244 hS_245 ww (nI_clamp (by omega)) (vp_in_nI (show ww < 10 by omega) (by decide)) dX8_word_104 (fun H_265 locs_266 hW_267 hS_268 => ?_)
              obtain ⟨w_269, ew_269⟩ : ∃ Z9, Z9 = upd za (ww) ((za (ww)) &&& 1) := ⟨_, rfl⟩
              have hW_270 : Wd G (setRow (setRow X 15 yy) 24 w_269) H_265 := Wd.cast (by rw [ew_269]; exact st_out) hW_267
              refine lv_iload_n hx hb dX8_word_105 rfl (lv_at hl 1 rfl) ?_
              refine lv_aload_n hx hb dX8_word_106 rfl (lv_at hl 4 rfl) ?_
              refine gM_isLeft C hW_270 (hwc hwX8) (mc qw_1489) dX8_word_107 ?_
              refine lv_iload hx hb dX8_word_110 (lv_at hl 0 rfl) ?_
              refine gm_isLeftld C hW_270 ww (nI_clamp (by omega)) (vp_in_nI (show ww < 10 by omega) (by decide)) dX8_word_112 ?_
              refine g_top (y := w_269 (ww)) (congrFun rd_out _) ?_
              refine lv_iconst (v := 1) hx hb dX8_word_113 (by decide) ?_
              refine lv_icmp_ne (tgt := 121) hx hb dX8_word_114 (by decide) (fun b_271 => ?_) (fun b_271 => ?_)
              · refine lv_iconst (v := 0) hx hb dX8_word_121 (by decide) ?_
                refine lv_ior hx hb dX8_word_122 ?_
                refine lv_topi (fun v_272 ev_272 => ?_)
                refine lv_istore_n (lv' := [(3, .int v_272), (4, .int (nI ww)), (2, .int iv), (1, .int (nI nn)), (0, .ref (ad G 723))]) hx hb dX8_word_123 rfl hl (by decide) rfl (fun ls_273 hl_274 => ?_)
                refine lv_iinc (v := nI (ww + 1)) (lv' := [(4, .int (nI (ww + 1))), (3, .int v_272), (2, .int iv), (1, .int (nI nn)), (0, .ref (ad G 723))]) hx hb dX8_word_124 hl_274 (k := 1) rfl (nI_1 ww) (by decide) rfl (fun ls_275 hl_276 => ?_)
                refine lv_goto (tgt := 41) hx hb dX8_word_127 (by decide) ?_
                exact iha (ww + 1) v_272 w_269 H_265 locs_266 ls_275 (by omega) (by subst ev_272; subst ew_269; simp only [laA, hA, cA, b_221, eq_true b_247, b_271, if_true, if_false]; (try rfl)) hW_270 hS_268 (lv_sub hl_276 [0, 1, 2, 3, 4] rfl)
              · refine lv_iconst (v := 1) hx hb dX8_word_117 (by decide) ?_
                refine lv_goto (tgt := 122) hx hb dX8_word_118 (by decide) ?_
                refine lv_ior hx hb dX8_word_122 ?_
                refine lv_topi (fun v_277 ev_277 => ?_)
                refine lv_istore_n (lv' := [(3, .int v_277), (4, .int (nI ww)), (2, .int iv), (1, .int (nI nn)), (0, .ref (ad G 723))]) hx hb dX8_word_123 rfl hl (by decide) rfl (fun ls_278 hl_279 => ?_)
                refine lv_iinc (v := nI (ww + 1)) (lv' := [(4, .int (nI (ww + 1))), (3, .int v_277), (2, .int iv), (1, .int (nI nn)), (0, .ref (ad G 723))]) hx hb dX8_word_124 hl_279 (k := 1) rfl (nI_1 ww) (by decide) rfl (fun ls_280 hl_281 => ?_)
                refine lv_goto (tgt := 41) hx hb dX8_word_127 (by decide) ?_
                exact iha (ww + 1) v_277 w_269 H_265 locs_266 ls_280 (by omega) (by subst ev_277; subst ew_269; simp only [laA, hA, cA, b_221, eq_true b_247, eq_true b_271, if_true, if_false]; (try rfl)) hW_270 hS_268 (lv_sub hl_281 [0, 1, 2, 3, 4] rfl)
      exact loopa 10 0 0 zz H locs ls_144 rfl rfl hW hS (lv_sub hl_145 [0, 1, 2, 3, 4] rfl)
  exact loop 8 0 (-1) (X.1 15) w_124 H_120 locs_121 ls_140 (by omega) (by omega) (by omega) (by subst ew_124; subst ew_107; subst ew_91; subst ew_76; subst ew_62; subst ew_49; subst ew_37; subst ew_26; subst ew_16; subst ew_7; exact (ps_self e6 e9).symm) (by subst ew_124; subst ew_107; subst ew_91; subst ew_76; subst ew_62; subst ew_49; subst ew_37; subst ew_26; subst ew_16; subst ew_7; rfl) hW_135 hS_123 (lv_sub hl_141 [0, 1, 2] rfl)

set_option maxHeartbeats 4000000 in
set_option maxRecDepth 100000 in
theorem cX8_does0_ok (l : Launch) (G : GT) (X : St) (a b c_ : Int32) (hm : MInv (X.1 16)) (hk4 : ¬ b < 0 → ∃ k, k < 4 ∧ b = nI k) : MetI l G yX8_does (wsG yX8_does cX8_does 5 (some .int)) (rmz 3 71) [.ref (ad G 723), .int 0, .int a, .int b, .int c_] X (fun _res Y => Y = setRow (setRow (setRow X 15 (doM 0 (X.1 15) (X.1 16) (X.1 20) (X.1 21) a b c_).1) 16 (doM 0 (X.1 15) (X.1 16) (X.1 20) (X.1 21) a b c_).2.1) 20 (doM 0 (X.1 15) (X.1 16) (X.1 20) (X.1 21) a b c_).2.2) := by
  refine g_met (cc := cX8_does) (maxL := 5) (ret := (some .int)) (by decide) rfl (Nat.le_of_ble_eq_true rfl) ?_
  intro p e s m below meth c ls C hr hlk hnm hW hl
  have hx := C.1.1
  have hb := C.1.2.1
  have hS : va_S (Ab G) s.heap s.heap [] := va_S.rf
  have hl : lv_has ls 5 [(0, .ref (ad G 723)), (1, .int 0), (2, .int a), (3, .int b), (4, .int c_)] := hl
  have hW : Wd G (setRow (setRow (setRow (X) 15 (X.1 15)) 16 (X.1 16)) 20 (X.1 20)) s.heap := Wd.cast ((((sr_same (X := setRow (setRow (X) 15 (X.1 15)) 16 (X.1 16)) (r := 20) rfl).trans (sr_same (X := setRow (X) 15 (X.1 15)) (r := 16) rfl)).trans (sr_same (X := X) (r := 15) rfl))).symm hW
  refine lv_iload_n hx hb dX8_does_0 rfl (lv_at hl 1 rfl) ?_
  refine lv_tableIn (tgt := 52) hx hb dX8_does_1 (by decide) (by decide) rfl (by decide) ?_
  refine lv_aload_n hx hb dX8_does_52 rfl (lv_at hl 0 rfl) ?_
  refine lv_iload_n hx hb dX8_does_53 rfl (lv_at hl 2 rfl) ?_
  refine lv_iload_n hx hb dX8_does_54 rfl (lv_at hl 3 rfl) ?_
  refine lv_iload hx hb dX8_does_55 (lv_at hl 4 rfl) ?_
  refine g_calli (va_runV (As := [.int a, .int b, .int c_]) (rest := []) C.1 (cX8_charges_ok l G (setRow (setRow (setRow X 15 (X.1 15)) 16 (X.1 16)) 20 (X.1 20)) a b c_ hm hk4) (cwV 3 C.1.2.2.2.2 (gV qw_1561 qw_1563 qw_30 qw_81 qw_1564) rfl rfl rfl (by decide +kernel) ⟨Nat.le_of_ble_eq_true rfl, Nat.le_of_ble_eq_true rfl⟩) (g_rModel C hW hS [.int a, .int b, .int c_]) rfl rfl hl.1 rfl (lv_room (Nat.le_of_ble_eq_true rfl)) dX8_does_57 ⟨Nat.zero_le _, Nat.zero_le _⟩) hS (fun r_2 Y_3 H_4 locs_5 hW_6 hS_7 h_1 => ?_)
  obtain ⟨h_8, h_1⟩ := h_1
  replace h_8 : r_2 = (oM_charges (X.1 15) (X.1 16) (X.1 20) a b c_).1 := h_8
  subst h_8
  replace h_1 : Y_3 = setRow (setRow (setRow (setRow (setRow (setRow X 15 (X.1 15)) 16 (X.1 16)) 20 (X.1 20)) 15 ((oM_charges (X.1 15) (X.1 16) (X.1 20) a b c_).2.1)) 16 ((oM_charges (X.1 15) (X.1 16) (X.1 20) a b c_).2.2.1)) 20 ((oM_charges (X.1 15) (X.1 16) (X.1 20) a b c_).2.2.2) := h_1
  obtain ⟨w_9, ew_9⟩ : ∃ Z9, Z9 = (oM_charges (X.1 15) (X.1 16) (X.1 20) a b c_).2.1 := ⟨_, rfl⟩
  obtain ⟨w_10, ew_10⟩ : ∃ Z9, Z9 = (oM_charges (X.1 15) (X.1 16) (X.1 20) a b c_).2.2.1 := ⟨_, rfl⟩
  obtain ⟨w_11, ew_11⟩ : ∃ Z9, Z9 = (oM_charges (X.1 15) (X.1 16) (X.1 20) a b c_).2.2.2 := ⟨_, rfl⟩
  have qqw_9 : Y_3 = setRow (setRow (setRow (setRow (setRow (setRow X 15 (X.1 15)) 16 (X.1 16)) 20 (X.1 20)) 15 w_9) 16 w_10) 20 w_11 := by rw [h_1, ew_9, ew_10, ew_11]
  have hW_12 : Wd G (setRow (setRow (setRow X 15 w_9) 16 w_10) 20 w_11) H_4 := Wd.cast ((((qqw_9).trans (congrArg (fun Z9 => setRow (setRow (Z9) 16 w_10) 20 w_11) (sr_in (by decide) (sr_in (by decide) sr_out)))).trans (congrArg (fun Z9 => setRow (Z9) 20 w_11) (sr_in (by decide) sr_out))).trans (congrArg (fun Z9 => Z9) sr_out)) hW_6
  exact g_iret C hr hlk hW_12 hS_7 dX8_does_60 (by subst ew_11; subst ew_10; subst ew_9; rfl)

set_option maxHeartbeats 4000000 in
set_option maxRecDepth 100000 in
theorem cX8_does1_ok (l : Launch) (G : GT) (X : St) (a b c_ : Int32) (hm : MInv (X.1 16)) : MetI l G yX8_does (wsG yX8_does cX8_does 5 (some .int)) (rmz 3 65) [.ref (ad G 723), .int 1, .int a, .int b, .int c_] X (fun _res Y => Y = setRow (setRow (setRow X 15 (doM 1 (X.1 15) (X.1 16) (X.1 20) (X.1 21) a b c_).1) 16 (doM 1 (X.1 15) (X.1 16) (X.1 20) (X.1 21) a b c_).2.1) 20 (doM 1 (X.1 15) (X.1 16) (X.1 20) (X.1 21) a b c_).2.2) := by
  refine g_met (cc := cX8_does) (maxL := 5) (ret := (some .int)) (by decide) rfl (Nat.le_of_ble_eq_true rfl) ?_
  intro p e s m below meth c ls C hr hlk hnm hW hl
  have hx := C.1.1
  have hb := C.1.2.1
  have hS : va_S (Ab G) s.heap s.heap [] := va_S.rf
  have hl : lv_has ls 5 [(0, .ref (ad G 723)), (1, .int 1), (2, .int a), (3, .int b), (4, .int c_)] := hl
  have hW : Wd G (setRow (setRow (setRow (X) 15 (X.1 15)) 16 (X.1 16)) 20 (X.1 20)) s.heap := Wd.cast ((((sr_same (X := setRow (setRow (X) 15 (X.1 15)) 16 (X.1 16)) (r := 20) rfl).trans (sr_same (X := setRow (X) 15 (X.1 15)) (r := 16) rfl)).trans (sr_same (X := X) (r := 15) rfl))).symm hW
  refine lv_iload_n hx hb dX8_does_0 rfl (lv_at hl 1 rfl) ?_
  refine lv_tableIn (tgt := 61) hx hb dX8_does_1 (by decide) (by decide) rfl (by decide) ?_
  refine lv_aload_n hx hb dX8_does_61 rfl (lv_at hl 0 rfl) ?_
  refine lv_iload_n hx hb dX8_does_62 rfl (lv_at hl 2 rfl) ?_
  refine lv_iload_n hx hb dX8_does_63 rfl (lv_at hl 3 rfl) ?_
  refine g_calli (va_runV (As := [.int a, .int b]) (rest := []) C.1 (cX8_fires_ok l G (setRow (setRow (setRow X 15 (X.1 15)) 16 (X.1 16)) 20 (X.1 20)) a b) (cwV 2 C.1.2.2.2.2 (gV qw_1599 qw_1601 qw_37 qw_81 qw_1602) rfl rfl rfl (by decide +kernel) ⟨Nat.le_of_ble_eq_true rfl, Nat.le_of_ble_eq_true rfl⟩) (g_rModel C hW hS [.int a, .int b]) rfl rfl hl.1 rfl (lv_room (Nat.le_of_ble_eq_true rfl)) dX8_does_64 ⟨Nat.zero_le _, Nat.zero_le _⟩) hS (fun r_2 Y_3 H_4 locs_5 hW_6 hS_7 h_1 => ?_)
  obtain ⟨h_8, h_1⟩ := h_1
  replace h_8 : r_2 = (oM_fires (X.1 15) (X.1 16) a b).1 := h_8
  subst h_8
  replace h_1 : Y_3 = setRow (setRow (setRow (setRow (setRow X 15 (X.1 15)) 16 (X.1 16)) 20 (X.1 20)) 15 ((oM_fires (X.1 15) (X.1 16) a b).2.1)) 16 ((oM_fires (X.1 15) (X.1 16) a b).2.2) := h_1
  obtain ⟨w_9, ew_9⟩ : ∃ Z9, Z9 = (oM_fires (X.1 15) (X.1 16) a b).2.1 := ⟨_, rfl⟩
  obtain ⟨w_10, ew_10⟩ : ∃ Z9, Z9 = (oM_fires (X.1 15) (X.1 16) a b).2.2 := ⟨_, rfl⟩
  have qqw_9 : Y_3 = setRow (setRow (setRow (setRow (setRow X 15 (X.1 15)) 16 (X.1 16)) 20 (X.1 20)) 15 w_9) 16 w_10 := by rw [h_1, ew_9, ew_10]
  have hW_11 : Wd G (setRow (setRow (setRow X 15 w_9) 16 w_10) 20 (X.1 20)) H_4 := Wd.cast (((qqw_9).trans (congrArg (fun Z9 => setRow (Z9) 16 w_10) (sr_in (by decide) (sr_in (by decide) sr_out)))).trans (congrArg (fun Z9 => Z9) (sr_in (by decide) sr_out))) hW_6
  exact g_iret C hr hlk hW_11 hS_7 dX8_does_67 (by subst ew_10; subst ew_9; rfl)

set_option maxHeartbeats 4000000 in
set_option maxRecDepth 100000 in
theorem cX8_does2_ok (l : Launch) (G : GT) (X : St) (a b c_ : Int32) (hm : MInv (X.1 16)) : MetI l G yX8_does (wsG yX8_does cX8_does 5 (some .int)) (rmz 4 90) [.ref (ad G 723), .int 2, .int a, .int b, .int c_] X (fun _res Y => Y = setRow (setRow (setRow X 15 (doM 2 (X.1 15) (X.1 16) (X.1 20) (X.1 21) a b c_).1) 16 (doM 2 (X.1 15) (X.1 16) (X.1 20) (X.1 21) a b c_).2.1) 20 (doM 2 (X.1 15) (X.1 16) (X.1 20) (X.1 21) a b c_).2.2) := by
  refine g_met (cc := cX8_does) (maxL := 5) (ret := (some .int)) (by decide) rfl (Nat.le_of_ble_eq_true rfl) ?_
  intro p e s m below meth c ls C hr hlk hnm hW hl
  have hx := C.1.1
  have hb := C.1.2.1
  have hS : va_S (Ab G) s.heap s.heap [] := va_S.rf
  have hl : lv_has ls 5 [(0, .ref (ad G 723)), (1, .int 2), (2, .int a), (3, .int b), (4, .int c_)] := hl
  have hW : Wd G (setRow (setRow (setRow (X) 15 (X.1 15)) 16 (X.1 16)) 20 (X.1 20)) s.heap := Wd.cast ((((sr_same (X := setRow (setRow (X) 15 (X.1 15)) 16 (X.1 16)) (r := 20) rfl).trans (sr_same (X := setRow (X) 15 (X.1 15)) (r := 16) rfl)).trans (sr_same (X := X) (r := 15) rfl))).symm hW
  refine lv_iload_n hx hb dX8_does_0 rfl (lv_at hl 1 rfl) ?_
  refine lv_tableIn (tgt := 68) hx hb dX8_does_1 (by decide) (by decide) rfl (by decide) ?_
  refine lv_aload_n hx hb dX8_does_68 rfl (lv_at hl 0 rfl) ?_
  refine lv_iload_n hx hb dX8_does_69 rfl (lv_at hl 2 rfl) ?_
  refine g_calli (va_runV (As := [.int a]) (rest := []) C.1 (cX8_skims_ok l G (setRow (setRow (setRow X 15 (X.1 15)) 16 (X.1 16)) 20 (X.1 20)) a) (cwV 1 C.1.2.2.2.2 (gV qw_1607 qw_1609 qw_38 qw_81 qw_1610) rfl rfl rfl (by decide +kernel) ⟨Nat.le_of_ble_eq_true rfl, Nat.le_of_ble_eq_true rfl⟩) (g_rModel C hW hS [.int a]) rfl rfl hl.1 rfl (lv_room (Nat.le_of_ble_eq_true rfl)) dX8_does_70 ⟨Nat.zero_le _, Nat.zero_le _⟩) hS (fun r_2 Y_3 H_4 locs_5 hW_6 hS_7 h_1 => ?_)
  obtain ⟨h_8, h_1⟩ := h_1
  replace h_8 : r_2 = (oM_skims (X.1 15) (X.1 16) (X.1 21) a).1 := h_8
  subst h_8
  replace h_1 : Y_3 = setRow (setRow (setRow (setRow (setRow X 15 (X.1 15)) 16 (X.1 16)) 20 (X.1 20)) 15 ((oM_skims (X.1 15) (X.1 16) (X.1 21) a).2.1)) 16 ((oM_skims (X.1 15) (X.1 16) (X.1 21) a).2.2) := h_1
  obtain ⟨w_9, ew_9⟩ : ∃ Z9, Z9 = (oM_skims (X.1 15) (X.1 16) (X.1 21) a).2.1 := ⟨_, rfl⟩
  obtain ⟨w_10, ew_10⟩ : ∃ Z9, Z9 = (oM_skims (X.1 15) (X.1 16) (X.1 21) a).2.2 := ⟨_, rfl⟩
  have qqw_9 : Y_3 = setRow (setRow (setRow (setRow (setRow X 15 (X.1 15)) 16 (X.1 16)) 20 (X.1 20)) 15 w_9) 16 w_10 := by rw [h_1, ew_9, ew_10]
  have hW_11 : Wd G (setRow (setRow (setRow X 15 w_9) 16 w_10) 20 (X.1 20)) H_4 := Wd.cast (((qqw_9).trans (congrArg (fun Z9 => setRow (Z9) 16 w_10) (sr_in (by decide) (sr_in (by decide) sr_out)))).trans (congrArg (fun Z9 => Z9) (sr_in (by decide) sr_out))) hW_6
  exact g_iret C hr hlk hW_11 hS_7 dX8_does_73 (by subst ew_10; subst ew_9; rfl)

set_option maxHeartbeats 4000000 in
set_option maxRecDepth 100000 in
theorem cX8_does3_ok (l : Launch) (G : GT) (X : St) (a b c_ : Int32) (hm : MInv (X.1 16)) : MetI l G yX8_does (wsG yX8_does cX8_does 5 (some .int)) (rmz 4 88) [.ref (ad G 723), .int 3, .int a, .int b, .int c_] X (fun _res Y => Y = setRow (setRow (setRow X 15 (doM 3 (X.1 15) (X.1 16) (X.1 20) (X.1 21) a b c_).1) 16 (doM 3 (X.1 15) (X.1 16) (X.1 20) (X.1 21) a b c_).2.1) 20 (doM 3 (X.1 15) (X.1 16) (X.1 20) (X.1 21) a b c_).2.2) := by
  refine g_met (cc := cX8_does) (maxL := 5) (ret := (some .int)) (by decide) rfl (Nat.le_of_ble_eq_true rfl) ?_
  intro p e s m below meth c ls C hr hlk hnm hW hl
  have hx := C.1.1
  have hb := C.1.2.1
  have hS : va_S (Ab G) s.heap s.heap [] := va_S.rf
  have hl : lv_has ls 5 [(0, .ref (ad G 723)), (1, .int 3), (2, .int a), (3, .int b), (4, .int c_)] := hl
  have hW : Wd G (setRow (setRow (setRow (X) 15 (X.1 15)) 16 (X.1 16)) 20 (X.1 20)) s.heap := Wd.cast ((((sr_same (X := setRow (setRow (X) 15 (X.1 15)) 16 (X.1 16)) (r := 20) rfl).trans (sr_same (X := setRow (X) 15 (X.1 15)) (r := 16) rfl)).trans (sr_same (X := X) (r := 15) rfl))).symm hW
  refine lv_iload_n hx hb dX8_does_0 rfl (lv_at hl 1 rfl) ?_
  refine lv_tableIn (tgt := 74) hx hb dX8_does_1 (by decide) (by decide) rfl (by decide) ?_
  refine lv_aload_n hx hb dX8_does_74 rfl (lv_at hl 0 rfl) ?_
  refine lv_iload_n hx hb dX8_does_75 rfl (lv_at hl 2 rfl) ?_
  refine lv_iload_n hx hb dX8_does_76 rfl (lv_at hl 3 rfl) ?_
  refine lv_iload hx hb dX8_does_77 (lv_at hl 4 rfl) ?_
  refine g_calli (va_runV (As := [.int a, .int b, .int c_]) (rest := []) C.1 (cX8_taps_ok l G (setRow (setRow (setRow X 15 (X.1 15)) 16 (X.1 16)) 20 (X.1 20)) a b c_ hm) (cwV 3 C.1.2.2.2.2 (gV qw_1623 qw_1625 qw_41 qw_81 qw_1626) rfl rfl rfl (by decide +kernel) ⟨Nat.le_of_ble_eq_true rfl, Nat.le_of_ble_eq_true rfl⟩) (g_rModel C hW hS [.int a, .int b, .int c_]) rfl rfl hl.1 rfl (lv_room (Nat.le_of_ble_eq_true rfl)) dX8_does_79 ⟨Nat.zero_le _, Nat.zero_le _⟩) hS (fun r_2 Y_3 H_4 locs_5 hW_6 hS_7 h_1 => ?_)
  obtain ⟨h_8, h_1⟩ := h_1
  replace h_8 : r_2 = (oM_taps (X.1 15) (X.1 16) (X.1 20) (X.1 21) a b c_).1 := h_8
  subst h_8
  replace h_1 : Y_3 = setRow (setRow (setRow (setRow (setRow (setRow X 15 (X.1 15)) 16 (X.1 16)) 20 (X.1 20)) 15 ((oM_taps (X.1 15) (X.1 16) (X.1 20) (X.1 21) a b c_).2.1)) 16 ((oM_taps (X.1 15) (X.1 16) (X.1 20) (X.1 21) a b c_).2.2.1)) 20 ((oM_taps (X.1 15) (X.1 16) (X.1 20) (X.1 21) a b c_).2.2.2) := h_1
  obtain ⟨w_9, ew_9⟩ : ∃ Z9, Z9 = (oM_taps (X.1 15) (X.1 16) (X.1 20) (X.1 21) a b c_).2.1 := ⟨_, rfl⟩
  obtain ⟨w_10, ew_10⟩ : ∃ Z9, Z9 = (oM_taps (X.1 15) (X.1 16) (X.1 20) (X.1 21) a b c_).2.2.1 := ⟨_, rfl⟩
  obtain ⟨w_11, ew_11⟩ : ∃ Z9, Z9 = (oM_taps (X.1 15) (X.1 16) (X.1 20) (X.1 21) a b c_).2.2.2 := ⟨_, rfl⟩
  have qqw_9 : Y_3 = setRow (setRow (setRow (setRow (setRow (setRow X 15 (X.1 15)) 16 (X.1 16)) 20 (X.1 20)) 15 w_9) 16 w_10) 20 w_11 := by rw [h_1, ew_9, ew_10, ew_11]
  have hW_12 : Wd G (setRow (setRow (setRow X 15 w_9) 16 w_10) 20 w_11) H_4 := Wd.cast ((((qqw_9).trans (congrArg (fun Z9 => setRow (setRow (Z9) 16 w_10) 20 w_11) (sr_in (by decide) (sr_in (by decide) sr_out)))).trans (congrArg (fun Z9 => setRow (Z9) 20 w_11) (sr_in (by decide) sr_out))).trans (congrArg (fun Z9 => Z9) sr_out)) hW_6
  exact g_iret C hr hlk hW_12 hS_7 dX8_does_82 (by subst ew_11; subst ew_10; subst ew_9; rfl)

set_option maxHeartbeats 4000000 in
set_option maxRecDepth 100000 in
theorem cX8_does4_ok (l : Launch) (G : GT) (X : St) (a b c_ : Int32) (hm : MInv (X.1 16)) : MetI l G yX8_does (wsG yX8_does cX8_does 5 (some .int)) (rmz 3 71) [.ref (ad G 723), .int 4, .int a, .int b, .int c_] X (fun _res Y => Y = setRow (setRow (setRow X 15 (doM 4 (X.1 15) (X.1 16) (X.1 20) (X.1 21) a b c_).1) 16 (doM 4 (X.1 15) (X.1 16) (X.1 20) (X.1 21) a b c_).2.1) 20 (doM 4 (X.1 15) (X.1 16) (X.1 20) (X.1 21) a b c_).2.2) := by
  refine g_met (cc := cX8_does) (maxL := 5) (ret := (some .int)) (by decide) rfl (Nat.le_of_ble_eq_true rfl) ?_
  intro p e s m below meth c ls C hr hlk hnm hW hl
  have hx := C.1.1
  have hb := C.1.2.1
  have hS : va_S (Ab G) s.heap s.heap [] := va_S.rf
  have hl : lv_has ls 5 [(0, .ref (ad G 723)), (1, .int 4), (2, .int a), (3, .int b), (4, .int c_)] := hl
  have hW : Wd G (setRow (setRow (setRow (X) 15 (X.1 15)) 16 (X.1 16)) 20 (X.1 20)) s.heap := Wd.cast ((((sr_same (X := setRow (setRow (X) 15 (X.1 15)) 16 (X.1 16)) (r := 20) rfl).trans (sr_same (X := setRow (X) 15 (X.1 15)) (r := 16) rfl)).trans (sr_same (X := X) (r := 15) rfl))).symm hW
  refine lv_iload_n hx hb dX8_does_0 rfl (lv_at hl 1 rfl) ?_
  refine lv_tableIn (tgt := 83) hx hb dX8_does_1 (by decide) (by decide) rfl (by decide) ?_
  refine lv_aload_n hx hb dX8_does_83 rfl (lv_at hl 0 rfl) ?_
  refine lv_iload_n hx hb dX8_does_84 rfl (lv_at hl 2 rfl) ?_
  refine lv_iload_n hx hb dX8_does_85 rfl (lv_at hl 3 rfl) ?_
  refine g_calli (va_runV (As := [.int a, .int b]) (rest := []) C.1 (cX8_backs_ok l G (setRow (setRow (setRow X 15 (X.1 15)) 16 (X.1 16)) 20 (X.1 20)) a b hm) (cwV 2 C.1.2.2.2.2 (gV qw_1639 qw_1641 qw_44 qw_81 qw_1642) rfl rfl rfl (by decide +kernel) ⟨Nat.le_of_ble_eq_true rfl, Nat.le_of_ble_eq_true rfl⟩) (g_rModel C hW hS [.int a, .int b]) rfl rfl hl.1 rfl (lv_room (Nat.le_of_ble_eq_true rfl)) dX8_does_86 ⟨Nat.zero_le _, Nat.zero_le _⟩) hS (fun r_2 Y_3 H_4 locs_5 hW_6 hS_7 h_1 => ?_)
  obtain ⟨h_8, h_1⟩ := h_1
  replace h_8 : r_2 = (oM_backs (X.1 15) (X.1 16) (X.1 20) a b).1 := h_8
  subst h_8
  replace h_1 : Y_3 = setRow (setRow (setRow (setRow (setRow (setRow X 15 (X.1 15)) 16 (X.1 16)) 20 (X.1 20)) 15 ((oM_backs (X.1 15) (X.1 16) (X.1 20) a b).2.1)) 16 ((oM_backs (X.1 15) (X.1 16) (X.1 20) a b).2.2.1)) 20 ((oM_backs (X.1 15) (X.1 16) (X.1 20) a b).2.2.2) := h_1
  obtain ⟨w_9, ew_9⟩ : ∃ Z9, Z9 = (oM_backs (X.1 15) (X.1 16) (X.1 20) a b).2.1 := ⟨_, rfl⟩
  obtain ⟨w_10, ew_10⟩ : ∃ Z9, Z9 = (oM_backs (X.1 15) (X.1 16) (X.1 20) a b).2.2.1 := ⟨_, rfl⟩
  obtain ⟨w_11, ew_11⟩ : ∃ Z9, Z9 = (oM_backs (X.1 15) (X.1 16) (X.1 20) a b).2.2.2 := ⟨_, rfl⟩
  have qqw_9 : Y_3 = setRow (setRow (setRow (setRow (setRow (setRow X 15 (X.1 15)) 16 (X.1 16)) 20 (X.1 20)) 15 w_9) 16 w_10) 20 w_11 := by rw [h_1, ew_9, ew_10, ew_11]
  have hW_12 : Wd G (setRow (setRow (setRow X 15 w_9) 16 w_10) 20 w_11) H_4 := Wd.cast ((((qqw_9).trans (congrArg (fun Z9 => setRow (setRow (Z9) 16 w_10) 20 w_11) (sr_in (by decide) (sr_in (by decide) sr_out)))).trans (congrArg (fun Z9 => setRow (Z9) 20 w_11) (sr_in (by decide) sr_out))).trans (congrArg (fun Z9 => Z9) sr_out)) hW_6
  exact g_iret C hr hlk hW_12 hS_7 dX8_does_89 (by subst ew_11; subst ew_10; subst ew_9; rfl)

set_option maxHeartbeats 4000000 in
set_option maxRecDepth 100000 in
theorem cX8_does5_ok (l : Launch) (G : GT) (X : St) (a b c_ : Int32) (hm : MInv (X.1 16)) : MetI l G yX8_does (wsG yX8_does cX8_does 5 (some .int)) (rmz 2 45) [.ref (ad G 723), .int 5, .int a, .int b, .int c_] X (fun _res Y => Y = setRow (setRow (setRow X 15 (doM 5 (X.1 15) (X.1 16) (X.1 20) (X.1 21) a b c_).1) 16 (doM 5 (X.1 15) (X.1 16) (X.1 20) (X.1 21) a b c_).2.1) 20 (doM 5 (X.1 15) (X.1 16) (X.1 20) (X.1 21) a b c_).2.2) := by
  refine g_met (cc := cX8_does) (maxL := 5) (ret := (some .int)) (by decide) rfl (Nat.le_of_ble_eq_true rfl) ?_
  intro p e s m below meth c ls C hr hlk hnm hW hl
  have hx := C.1.1
  have hb := C.1.2.1
  have hS : va_S (Ab G) s.heap s.heap [] := va_S.rf
  have hl : lv_has ls 5 [(0, .ref (ad G 723)), (1, .int 5), (2, .int a), (3, .int b), (4, .int c_)] := hl
  have hW : Wd G (setRow (setRow (setRow (X) 15 (X.1 15)) 16 (X.1 16)) 20 (X.1 20)) s.heap := Wd.cast ((((sr_same (X := setRow (setRow (X) 15 (X.1 15)) 16 (X.1 16)) (r := 20) rfl).trans (sr_same (X := setRow (X) 15 (X.1 15)) (r := 16) rfl)).trans (sr_same (X := X) (r := 15) rfl))).symm hW
  refine lv_iload_n hx hb dX8_does_0 rfl (lv_at hl 1 rfl) ?_
  refine lv_tableIn (tgt := 90) hx hb dX8_does_1 (by decide) (by decide) rfl (by decide) ?_
  refine lv_aload_n hx hb dX8_does_90 rfl (lv_at hl 0 rfl) ?_
  refine lv_iload_n hx hb dX8_does_91 rfl (lv_at hl 2 rfl) ?_
  refine g_calli (va_runV (As := [.int a]) (rest := []) C.1 (cX8_addsMould_ok l G (setRow (setRow (setRow X 15 (X.1 15)) 16 (X.1 16)) 20 (X.1 20)) a hm) (cwV 1 C.1.2.2.2.2 (gV qw_1651 qw_1653 qw_46 qw_81 qw_1654) rfl rfl rfl (by decide +kernel) ⟨Nat.le_of_ble_eq_true rfl, Nat.le_of_ble_eq_true rfl⟩) (g_rModel C hW hS [.int a]) rfl rfl hl.1 rfl (lv_room (Nat.le_of_ble_eq_true rfl)) dX8_does_92 ⟨Nat.zero_le _, Nat.zero_le _⟩) hS (fun r_2 Y_3 H_4 locs_5 hW_6 hS_7 h_1 => ?_)
  obtain ⟨h_8, h_1⟩ := h_1
  replace h_8 : r_2 = (oM_addsMould (X.1 15) (X.1 16) a).1 := h_8
  subst h_8
  replace h_1 : Y_3 = setRow (setRow (setRow (setRow (setRow X 15 (X.1 15)) 16 (X.1 16)) 20 (X.1 20)) 15 ((oM_addsMould (X.1 15) (X.1 16) a).2.1)) 16 ((oM_addsMould (X.1 15) (X.1 16) a).2.2) := h_1
  obtain ⟨w_9, ew_9⟩ : ∃ Z9, Z9 = (oM_addsMould (X.1 15) (X.1 16) a).2.1 := ⟨_, rfl⟩
  obtain ⟨w_10, ew_10⟩ : ∃ Z9, Z9 = (oM_addsMould (X.1 15) (X.1 16) a).2.2 := ⟨_, rfl⟩
  have qqw_9 : Y_3 = setRow (setRow (setRow (setRow (setRow X 15 (X.1 15)) 16 (X.1 16)) 20 (X.1 20)) 15 w_9) 16 w_10 := by rw [h_1, ew_9, ew_10]
  have hW_11 : Wd G (setRow (setRow (setRow X 15 w_9) 16 w_10) 20 (X.1 20)) H_4 := Wd.cast (((qqw_9).trans (congrArg (fun Z9 => setRow (Z9) 16 w_10) (sr_in (by decide) (sr_in (by decide) sr_out)))).trans (congrArg (fun Z9 => Z9) (sr_in (by decide) sr_out))) hW_6
  exact g_iret C hr hlk hW_11 hS_7 dX8_does_95 (by subst ew_10; subst ew_9; rfl)

set_option maxHeartbeats 4000000 in
set_option maxRecDepth 100000 in
theorem cX8_does6_ok (l : Launch) (G : GT) (X : St) (a b c_ : Int32) (hm : MInv (X.1 16)) : MetI l G yX8_does (wsG yX8_does cX8_does 5 (some .int)) (rmz 4 89) [.ref (ad G 723), .int 6, .int a, .int b, .int c_] X (fun _res Y => Y = setRow (setRow (setRow X 15 (doM 6 (X.1 15) (X.1 16) (X.1 20) (X.1 21) a b c_).1) 16 (doM 6 (X.1 15) (X.1 16) (X.1 20) (X.1 21) a b c_).2.1) 20 (doM 6 (X.1 15) (X.1 16) (X.1 20) (X.1 21) a b c_).2.2) := by
  refine g_met (cc := cX8_does) (maxL := 5) (ret := (some .int)) (by decide) rfl (Nat.le_of_ble_eq_true rfl) ?_
  intro p e s m below meth c ls C hr hlk hnm hW hl
  have hx := C.1.1
  have hb := C.1.2.1
  have hS : va_S (Ab G) s.heap s.heap [] := va_S.rf
  have hl : lv_has ls 5 [(0, .ref (ad G 723)), (1, .int 6), (2, .int a), (3, .int b), (4, .int c_)] := hl
  have hW : Wd G (setRow (setRow (setRow (X) 15 (X.1 15)) 16 (X.1 16)) 20 (X.1 20)) s.heap := Wd.cast ((((sr_same (X := setRow (setRow (X) 15 (X.1 15)) 16 (X.1 16)) (r := 20) rfl).trans (sr_same (X := setRow (X) 15 (X.1 15)) (r := 16) rfl)).trans (sr_same (X := X) (r := 15) rfl))).symm hW
  refine lv_iload_n hx hb dX8_does_0 rfl (lv_at hl 1 rfl) ?_
  refine lv_tableIn (tgt := 96) hx hb dX8_does_1 (by decide) (by decide) rfl (by decide) ?_
  refine lv_aload_n hx hb dX8_does_96 rfl (lv_at hl 0 rfl) ?_
  refine lv_iload_n hx hb dX8_does_97 rfl (lv_at hl 2 rfl) ?_
  refine lv_iload_n hx hb dX8_does_98 rfl (lv_at hl 3 rfl) ?_
  refine g_calli (va_runV (As := [.int a, .int b]) (rest := []) C.1 (cX8_pours_ok l G (setRow (setRow (setRow X 15 (X.1 15)) 16 (X.1 16)) 20 (X.1 20)) a b hm) (cwV 2 C.1.2.2.2.2 (gV qw_1662 qw_1664 qw_47 qw_81 qw_1665) rfl rfl rfl (by decide +kernel) ⟨Nat.le_of_ble_eq_true rfl, Nat.le_of_ble_eq_true rfl⟩) (g_rModel C hW hS [.int a, .int b]) rfl rfl hl.1 rfl (lv_room (Nat.le_of_ble_eq_true rfl)) dX8_does_99 ⟨Nat.zero_le _, Nat.zero_le _⟩) hS (fun r_2 Y_3 H_4 locs_5 hW_6 hS_7 h_1 => ?_)
  obtain ⟨h_8, h_1⟩ := h_1
  replace h_8 : r_2 = (oM_pours (X.1 15) (X.1 16) (X.1 20) (X.1 21) a b).1 := h_8
  subst h_8
  replace h_1 : Y_3 = setRow (setRow (setRow (setRow (setRow (setRow X 15 (X.1 15)) 16 (X.1 16)) 20 (X.1 20)) 15 ((oM_pours (X.1 15) (X.1 16) (X.1 20) (X.1 21) a b).2.1)) 16 ((oM_pours (X.1 15) (X.1 16) (X.1 20) (X.1 21) a b).2.2.1)) 20 ((oM_pours (X.1 15) (X.1 16) (X.1 20) (X.1 21) a b).2.2.2) := h_1
  obtain ⟨w_9, ew_9⟩ : ∃ Z9, Z9 = (oM_pours (X.1 15) (X.1 16) (X.1 20) (X.1 21) a b).2.1 := ⟨_, rfl⟩
  obtain ⟨w_10, ew_10⟩ : ∃ Z9, Z9 = (oM_pours (X.1 15) (X.1 16) (X.1 20) (X.1 21) a b).2.2.1 := ⟨_, rfl⟩
  obtain ⟨w_11, ew_11⟩ : ∃ Z9, Z9 = (oM_pours (X.1 15) (X.1 16) (X.1 20) (X.1 21) a b).2.2.2 := ⟨_, rfl⟩
  have qqw_9 : Y_3 = setRow (setRow (setRow (setRow (setRow (setRow X 15 (X.1 15)) 16 (X.1 16)) 20 (X.1 20)) 15 w_9) 16 w_10) 20 w_11 := by rw [h_1, ew_9, ew_10, ew_11]
  have hW_12 : Wd G (setRow (setRow (setRow X 15 w_9) 16 w_10) 20 w_11) H_4 := Wd.cast ((((qqw_9).trans (congrArg (fun Z9 => setRow (setRow (Z9) 16 w_10) 20 w_11) (sr_in (by decide) (sr_in (by decide) sr_out)))).trans (congrArg (fun Z9 => setRow (Z9) 20 w_11) (sr_in (by decide) sr_out))).trans (congrArg (fun Z9 => Z9) sr_out)) hW_6
  exact g_iret C hr hlk hW_12 hS_7 dX8_does_102 (by subst ew_11; subst ew_10; subst ew_9; rfl)

set_option maxHeartbeats 4000000 in
set_option maxRecDepth 100000 in
theorem cX8_does7_ok (l : Launch) (G : GT) (X : St) (a b c_ : Int32) (hm : MInv (X.1 16)) : MetI l G yX8_does (wsG yX8_does cX8_does 5 (some .int)) (rmz 3 67) [.ref (ad G 723), .int 7, .int a, .int b, .int c_] X (fun _res Y => Y = setRow (setRow (setRow X 15 (doM 7 (X.1 15) (X.1 16) (X.1 20) (X.1 21) a b c_).1) 16 (doM 7 (X.1 15) (X.1 16) (X.1 20) (X.1 21) a b c_).2.1) 20 (doM 7 (X.1 15) (X.1 16) (X.1 20) (X.1 21) a b c_).2.2) := by
  refine g_met (cc := cX8_does) (maxL := 5) (ret := (some .int)) (by decide) rfl (Nat.le_of_ble_eq_true rfl) ?_
  intro p e s m below meth c ls C hr hlk hnm hW hl
  have hx := C.1.1
  have hb := C.1.2.1
  have hS : va_S (Ab G) s.heap s.heap [] := va_S.rf
  have hl : lv_has ls 5 [(0, .ref (ad G 723)), (1, .int 7), (2, .int a), (3, .int b), (4, .int c_)] := hl
  have hW : Wd G (setRow (setRow (setRow (X) 15 (X.1 15)) 16 (X.1 16)) 20 (X.1 20)) s.heap := Wd.cast ((((sr_same (X := setRow (setRow (X) 15 (X.1 15)) 16 (X.1 16)) (r := 20) rfl).trans (sr_same (X := setRow (X) 15 (X.1 15)) (r := 16) rfl)).trans (sr_same (X := X) (r := 15) rfl))).symm hW
  refine lv_iload_n hx hb dX8_does_0 rfl (lv_at hl 1 rfl) ?_
  refine lv_tableIn (tgt := 103) hx hb dX8_does_1 (by decide) (by decide) rfl (by decide) ?_
  refine lv_aload_n hx hb dX8_does_103 rfl (lv_at hl 0 rfl) ?_
  refine lv_iload_n hx hb dX8_does_104 rfl (lv_at hl 2 rfl) ?_
  refine g_calli (va_runV (As := [.int a]) (rest := []) C.1 (cX8_breaks_ok l G (setRow (setRow (setRow X 15 (X.1 15)) 16 (X.1 16)) 20 (X.1 20)) a hm) (cwV 1 C.1.2.2.2.2 (gV qw_1674 qw_1676 qw_49 qw_81 qw_1677) rfl rfl rfl (by decide +kernel) ⟨Nat.le_of_ble_eq_true rfl, Nat.le_of_ble_eq_true rfl⟩) (g_rModel C hW hS [.int a]) rfl rfl hl.1 rfl (lv_room (Nat.le_of_ble_eq_true rfl)) dX8_does_105 ⟨Nat.zero_le _, Nat.zero_le _⟩) hS (fun r_2 Y_3 H_4 locs_5 hW_6 hS_7 h_1 => ?_)
  obtain ⟨h_8, h_1⟩ := h_1
  replace h_8 : r_2 = (oM_breaks (X.1 15) (X.1 16) a).1 := h_8
  subst h_8
  replace h_1 : Y_3 = setRow (setRow (setRow (setRow (setRow X 15 (X.1 15)) 16 (X.1 16)) 20 (X.1 20)) 15 ((oM_breaks (X.1 15) (X.1 16) a).2.1)) 16 ((oM_breaks (X.1 15) (X.1 16) a).2.2) := h_1
  obtain ⟨w_9, ew_9⟩ : ∃ Z9, Z9 = (oM_breaks (X.1 15) (X.1 16) a).2.1 := ⟨_, rfl⟩
  obtain ⟨w_10, ew_10⟩ : ∃ Z9, Z9 = (oM_breaks (X.1 15) (X.1 16) a).2.2 := ⟨_, rfl⟩
  have qqw_9 : Y_3 = setRow (setRow (setRow (setRow (setRow X 15 (X.1 15)) 16 (X.1 16)) 20 (X.1 20)) 15 w_9) 16 w_10 := by rw [h_1, ew_9, ew_10]
  have hW_11 : Wd G (setRow (setRow (setRow X 15 w_9) 16 w_10) 20 (X.1 20)) H_4 := Wd.cast (((qqw_9).trans (congrArg (fun Z9 => setRow (Z9) 16 w_10) (sr_in (by decide) (sr_in (by decide) sr_out)))).trans (congrArg (fun Z9 => Z9) (sr_in (by decide) sr_out))) hW_6
  exact g_iret C hr hlk hW_11 hS_7 dX8_does_108 (by subst ew_10; subst ew_9; rfl)

set_option maxHeartbeats 4000000 in
set_option maxRecDepth 100000 in
theorem cX8_does8_ok (l : Launch) (G : GT) (X : St) (a b c_ : Int32) (hm : MInv (X.1 16)) : MetI l G yX8_does (wsG yX8_does cX8_does 5 (some .int)) (rmz 3 70) [.ref (ad G 723), .int 8, .int a, .int b, .int c_] X (fun _res Y => Y = setRow (setRow (setRow X 15 (doM 8 (X.1 15) (X.1 16) (X.1 20) (X.1 21) a b c_).1) 16 (doM 8 (X.1 15) (X.1 16) (X.1 20) (X.1 21) a b c_).2.1) 20 (doM 8 (X.1 15) (X.1 16) (X.1 20) (X.1 21) a b c_).2.2) := by
  refine g_met (cc := cX8_does) (maxL := 5) (ret := (some .int)) (by decide) rfl (Nat.le_of_ble_eq_true rfl) ?_
  intro p e s m below meth c ls C hr hlk hnm hW hl
  have hx := C.1.1
  have hb := C.1.2.1
  have hS : va_S (Ab G) s.heap s.heap [] := va_S.rf
  have hl : lv_has ls 5 [(0, .ref (ad G 723)), (1, .int 8), (2, .int a), (3, .int b), (4, .int c_)] := hl
  have hW : Wd G (setRow (setRow (setRow (X) 15 (X.1 15)) 16 (X.1 16)) 20 (X.1 20)) s.heap := Wd.cast ((((sr_same (X := setRow (setRow (X) 15 (X.1 15)) 16 (X.1 16)) (r := 20) rfl).trans (sr_same (X := setRow (X) 15 (X.1 15)) (r := 16) rfl)).trans (sr_same (X := X) (r := 15) rfl))).symm hW
  refine lv_iload_n hx hb dX8_does_0 rfl (lv_at hl 1 rfl) ?_
  refine lv_tableIn (tgt := 109) hx hb dX8_does_1 (by decide) (by decide) rfl (by decide) ?_
  refine lv_aload_n hx hb dX8_does_109 rfl (lv_at hl 0 rfl) ?_
  refine lv_iload_n hx hb dX8_does_110 rfl (lv_at hl 2 rfl) ?_
  refine lv_iload_n hx hb dX8_does_111 rfl (lv_at hl 3 rfl) ?_
  refine g_calli (va_runV (As := [.int a, .int b]) (rest := []) C.1 (cX8_melts_ok l G (setRow (setRow (setRow X 15 (X.1 15)) 16 (X.1 16)) 20 (X.1 20)) a b hm) (cwV 2 C.1.2.2.2.2 (gV qw_1685 qw_1687 qw_50 qw_81 qw_1688) rfl rfl rfl (by decide +kernel) ⟨Nat.le_of_ble_eq_true rfl, Nat.le_of_ble_eq_true rfl⟩) (g_rModel C hW hS [.int a, .int b]) rfl rfl hl.1 rfl (lv_room (Nat.le_of_ble_eq_true rfl)) dX8_does_112 ⟨Nat.zero_le _, Nat.zero_le _⟩) hS (fun r_2 Y_3 H_4 locs_5 hW_6 hS_7 h_1 => ?_)
  obtain ⟨h_8, h_1⟩ := h_1
  replace h_8 : r_2 = (oM_melts (X.1 15) (X.1 16) (X.1 20) a b).1 := h_8
  subst h_8
  replace h_1 : Y_3 = setRow (setRow (setRow (setRow (setRow (setRow X 15 (X.1 15)) 16 (X.1 16)) 20 (X.1 20)) 15 ((oM_melts (X.1 15) (X.1 16) (X.1 20) a b).2.1)) 16 ((oM_melts (X.1 15) (X.1 16) (X.1 20) a b).2.2.1)) 20 ((oM_melts (X.1 15) (X.1 16) (X.1 20) a b).2.2.2) := h_1
  obtain ⟨w_9, ew_9⟩ : ∃ Z9, Z9 = (oM_melts (X.1 15) (X.1 16) (X.1 20) a b).2.1 := ⟨_, rfl⟩
  obtain ⟨w_10, ew_10⟩ : ∃ Z9, Z9 = (oM_melts (X.1 15) (X.1 16) (X.1 20) a b).2.2.1 := ⟨_, rfl⟩
  obtain ⟨w_11, ew_11⟩ : ∃ Z9, Z9 = (oM_melts (X.1 15) (X.1 16) (X.1 20) a b).2.2.2 := ⟨_, rfl⟩
  have qqw_9 : Y_3 = setRow (setRow (setRow (setRow (setRow (setRow X 15 (X.1 15)) 16 (X.1 16)) 20 (X.1 20)) 15 w_9) 16 w_10) 20 w_11 := by rw [h_1, ew_9, ew_10, ew_11]
  have hW_12 : Wd G (setRow (setRow (setRow X 15 w_9) 16 w_10) 20 w_11) H_4 := Wd.cast ((((qqw_9).trans (congrArg (fun Z9 => setRow (setRow (Z9) 16 w_10) 20 w_11) (sr_in (by decide) (sr_in (by decide) sr_out)))).trans (congrArg (fun Z9 => setRow (Z9) 20 w_11) (sr_in (by decide) sr_out))).trans (congrArg (fun Z9 => Z9) sr_out)) hW_6
  exact g_iret C hr hlk hW_12 hS_7 dX8_does_115 (by subst ew_11; subst ew_10; subst ew_9; rfl)

set_option maxHeartbeats 4000000 in
set_option maxRecDepth 100000 in
theorem cX8_does9_ok (l : Launch) (G : GT) (X : St) (a b c_ : Int32) (hm : MInv (X.1 16)) : MetI l G yX8_does (wsG yX8_does cX8_does 5 (some .int)) (rmz 4 88) [.ref (ad G 723), .int 9, .int a, .int b, .int c_] X (fun _res Y => Y = setRow (setRow (setRow X 15 (doM 9 (X.1 15) (X.1 16) (X.1 20) (X.1 21) a b c_).1) 16 (doM 9 (X.1 15) (X.1 16) (X.1 20) (X.1 21) a b c_).2.1) 20 (doM 9 (X.1 15) (X.1 16) (X.1 20) (X.1 21) a b c_).2.2) := by
  refine g_met (cc := cX8_does) (maxL := 5) (ret := (some .int)) (by decide) rfl (Nat.le_of_ble_eq_true rfl) ?_
  intro p e s m below meth c ls C hr hlk hnm hW hl
  have hx := C.1.1
  have hb := C.1.2.1
  have hS : va_S (Ab G) s.heap s.heap [] := va_S.rf
  have hl : lv_has ls 5 [(0, .ref (ad G 723)), (1, .int 9), (2, .int a), (3, .int b), (4, .int c_)] := hl
  have hW : Wd G (setRow (setRow (setRow (X) 15 (X.1 15)) 16 (X.1 16)) 20 (X.1 20)) s.heap := Wd.cast ((((sr_same (X := setRow (setRow (X) 15 (X.1 15)) 16 (X.1 16)) (r := 20) rfl).trans (sr_same (X := setRow (X) 15 (X.1 15)) (r := 16) rfl)).trans (sr_same (X := X) (r := 15) rfl))).symm hW
  refine lv_iload_n hx hb dX8_does_0 rfl (lv_at hl 1 rfl) ?_
  refine lv_tableOut (tgt := 116) hx hb dX8_does_1 (by decide) (by decide) ?_
  refine lv_aload_n hx hb dX8_does_116 rfl (lv_at hl 0 rfl) ?_
  refine lv_iload_n hx hb dX8_does_117 rfl (lv_at hl 2 rfl) ?_
  refine g_calli (va_runV (As := [.int a]) (rest := []) C.1 (cX8_passes_ok l G (setRow (setRow (setRow X 15 (X.1 15)) 16 (X.1 16)) 20 (X.1 20)) a hm) (cwV 1 C.1.2.2.2.2 (gV qw_1697 qw_1699 qw_52 qw_81 qw_1700) rfl rfl rfl (by decide +kernel) ⟨Nat.le_of_ble_eq_true rfl, Nat.le_of_ble_eq_true rfl⟩) (g_rModel C hW hS [.int a]) rfl rfl hl.1 rfl (lv_room (Nat.le_of_ble_eq_true rfl)) dX8_does_118 ⟨Nat.zero_le _, Nat.zero_le _⟩) hS (fun r_2 Y_3 H_4 locs_5 hW_6 hS_7 h_1 => ?_)
  obtain ⟨h_8, h_1⟩ := h_1
  replace h_8 : r_2 = (oM_passes (X.1 15) (X.1 16) (X.1 21) a).1 := h_8
  subst h_8
  replace h_1 : Y_3 = setRow (setRow (setRow (setRow (setRow X 15 (X.1 15)) 16 (X.1 16)) 20 (X.1 20)) 15 ((oM_passes (X.1 15) (X.1 16) (X.1 21) a).2.1)) 16 ((oM_passes (X.1 15) (X.1 16) (X.1 21) a).2.2) := h_1
  obtain ⟨w_9, ew_9⟩ : ∃ Z9, Z9 = (oM_passes (X.1 15) (X.1 16) (X.1 21) a).2.1 := ⟨_, rfl⟩
  obtain ⟨w_10, ew_10⟩ : ∃ Z9, Z9 = (oM_passes (X.1 15) (X.1 16) (X.1 21) a).2.2 := ⟨_, rfl⟩
  have qqw_9 : Y_3 = setRow (setRow (setRow (setRow (setRow X 15 (X.1 15)) 16 (X.1 16)) 20 (X.1 20)) 15 w_9) 16 w_10 := by rw [h_1, ew_9, ew_10]
  have hW_11 : Wd G (setRow (setRow (setRow X 15 w_9) 16 w_10) 20 (X.1 20)) H_4 := Wd.cast (((qqw_9).trans (congrArg (fun Z9 => setRow (Z9) 16 w_10) (sr_in (by decide) (sr_in (by decide) sr_out)))).trans (congrArg (fun Z9 => Z9) (sr_in (by decide) sr_out))) hW_6
  exact g_iret C hr hlk hW_11 hS_7 dX8_does_121 (by subst ew_10; subst ew_9; rfl)

set_option maxHeartbeats 4000000 in
set_option maxRecDepth 100000 in
theorem cX8_command0n_ok (l : Launch) (G : GT) (X : St) (pp L : Nat) (hp : pp ≤ L) (hL : L ≤ 60) (e6 : X.1 15 6 = nI pp) (e7 : X.1 15 7 = nI L) (e9 : X.1 15 9 = 0) (hwd : WdOk (X.1 25) (X.1 26)) (e10 : X.1 15 10 = 0) (iw9 : Int32) (p1 : Nat) (hp1 : p1 ≤ L) (z1 : Nat → Int32) (hw9 : wdM (X.1 22) L pp (X.1 24) = (iw9, p1, 1, z1)) : MetV l G yX8_command (wsG yX8_command cX8_command 6 none) (rmz 3 66) [.ref (ad G 723)] X (fun Y => Y = setRow (setRow X 15 (ps (X.1 15) p1 1)) 24 z1) := by
  refine g_met (cc := cX8_command) (maxL := 6) (ret := none) (by decide) rfl (Nat.le_of_ble_eq_true rfl) ?_
  intro p e s m below meth c ls C hr hlk hnm hW hl
  have hx := C.1.1
  have hb := C.1.2.1
  have hS : va_S (Ab G) s.heap s.heap [] := va_S.rf
  have hl : lv_has ls 6 [(0, .ref (ad G 723))] := hl
  have hW : Wd G (setRow (setRow (X) 15 (X.1 15)) 24 (X.1 24)) s.heap := Wd.cast (((sr_same (X := setRow (X) 15 (X.1 15)) (r := 24) rfl).trans (sr_same (X := X) (r := 15) rfl))).symm hW
  refine lv_aload_n hx hb dX8_command_0 rfl (lv_at hl 0 rfl) ?_
  refine g_calli (va_runV (As := []) (rest := []) C.1 (cX8_word_ok l G (setRow (setRow X 15 (X.1 15)) 24 (X.1 24)) pp L (show pp ≤ L by omega) hL e6 e7 e9 hwd) (cwV 0 C.1.2.2.2.2 (gV qw_1895 qw_1897 qw_63 qw_81 qw_1898) rfl rfl rfl (by decide +kernel) ⟨Nat.le_of_ble_eq_true rfl, Nat.le_of_ble_eq_true rfl⟩) (g_rModel C hW hS []) rfl rfl hl.1 rfl (lv_room (Nat.le_of_ble_eq_true rfl)) dX8_command_1 ⟨Nat.zero_le _, Nat.zero_le _⟩) hS (fun r_2 Y_3 H_4 locs_5 hW_6 hS_7 h_1 => ?_)
  replace h_1 : r_2 = (wdM (X.1 22) L pp (X.1 24)).1 ∧ Y_3 = setRow (setRow (setRow (setRow X 15 (X.1 15)) 24 (X.1 24)) 15 (ps (X.1 15) (wdM (X.1 22) L pp (X.1 24)).2.1 (wdM (X.1 22) L pp (X.1 24)).2.2.1)) 24 (wdM (X.1 22) L pp (X.1 24)).2.2.2 := h_1
  rw [hw9] at h_1
  obtain ⟨h_8, h_1⟩ := h_1
  replace h_8 : iw9 = r_2 := h_8.symm
  subst h_8
  replace h_1 : Y_3 = setRow (setRow (setRow (setRow X 15 (X.1 15)) 24 (X.1 24)) 15 (ps (X.1 15) p1 1)) 24 z1 := h_1
  replace h_1 : Y_3 = setRow (setRow (setRow (setRow X 15 (X.1 15)) 24 (X.1 24)) 15 (ps (X.1 15) p1 1)) 24 z1 := h_1
  obtain ⟨w_9, ew_9⟩ : ∃ Z9, Z9 = ps (X.1 15) p1 1 := ⟨_, rfl⟩
  obtain ⟨w_10, ew_10⟩ : ∃ Z9, Z9 = z1 := ⟨_, rfl⟩
  have qqw_9 : Y_3 = setRow (setRow (setRow (setRow X 15 (X.1 15)) 24 (X.1 24)) 15 w_9) 24 w_10 := by rw [h_1, ew_9, ew_10]
  have hW_11 : Wd G (setRow (setRow X 15 w_9) 24 w_10) H_4 := Wd.cast (((qqw_9).trans (congrArg (fun Z9 => setRow (Z9) 24 w_10) (sr_in (by decide) sr_out))).trans (congrArg (fun Z9 => Z9) sr_out)) hW_6
  have kn_12 : w_9 (7) = nI L := by rw [ew_9]; exact (ps_o (by decide) (by decide)).trans e7
  have kn_13 : w_9 (10) = 0 := by rw [ew_9]; exact (ps_o (by decide) (by decide)).trans e10
  have kn_14 : w_9 (6) = nI p1 := by rw [ew_9]; exact ps_6
  have kn_15 : w_9 (9) = 1 := by rw [ew_9]; exact ps_9
  refine lv_istore_n (lv' := [(1, .int iw9), (0, .ref (ad G 723))]) hx hb dX8_command_4 rfl hl (by decide) rfl (fun ls_16 hl_17 => ?_)
  refine lv_iconst (v := 0) hx hb dX8_command_5 (by decide) ?_
  refine lv_istore_n (lv' := [(2, .int 0), (1, .int iw9), (0, .ref (ad G 723))]) hx hb dX8_command_6 rfl hl_17 (by decide) rfl (fun ls_18 hl_19 => ?_)
  refine lv_iconst (v := 0) hx hb dX8_command_7 (by decide) ?_
  refine lv_istore_n (lv' := [(3, .int 0), (2, .int 0), (1, .int iw9), (0, .ref (ad G 723))]) hx hb dX8_command_8 rfl hl_19 (by decide) rfl (fun ls_20 hl_21 => ?_)
  refine lv_aload_n hx hb dX8_command_9 rfl (lv_at hl_21 3 rfl) ?_
  refine gM_isWrong C hW_11 (hwc hwX8) (mc qw_1496) dX8_command_10 ?_
  refine g_top (y := w_9 (9)) (congrFun (rd_in (by decide) rd_out) _) ?_
  refine g_top (y := 1) kn_15 ?_
  refine lv_if_eq (tgt := 17) hx hb dX8_command_13 (by decide) (fun h9 => absurd h9 (by decide)) (fun _ => ?_)
  exact g_vret C hr hlk hW_11 hS_7 dX8_command_16 (by subst ew_10; subst ew_9; rfl)

set_option maxHeartbeats 4000000 in
set_option maxRecDepth 100000 in
theorem cX8_command00_ok (l : Launch) (G : GT) (X : St) (pp L : Nat) (hp : pp ≤ L) (hL : L ≤ 60) (e6 : X.1 15 6 = nI pp) (e7 : X.1 15 7 = nI L) (e9 : X.1 15 9 = 0) (hwd : WdOk (X.1 25) (X.1 26)) (e10 : X.1 15 10 = 0) (p1 : Nat) (hp1 : p1 ≤ L) (z1 : Nat → Int32) (hw9 : wdM (X.1 22) L pp (X.1 24) = (0, p1, 0, z1)) : MetV l G yX8_command (wsG yX8_command cX8_command 6 none) (rmz 3 66) [.ref (ad G 723)] X (fun Y => Y = setRow (setRow X 15 (ps (X.1 15) (ca0 (X.1 22) L p1).2.2.2.1 (ca0 (X.1 22) L p1).2.2.2.2)) 24 z1) := by
  refine g_met (cc := cX8_command) (maxL := 6) (ret := none) (by decide) rfl (Nat.le_of_ble_eq_true rfl) ?_
  intro p e s m below meth c ls C hr hlk hnm hW hl
  have hx := C.1.1
  have hb := C.1.2.1
  have hS : va_S (Ab G) s.heap s.heap [] := va_S.rf
  have hl : lv_has ls 6 [(0, .ref (ad G 723))] := hl
  have hW : Wd G (setRow (setRow (X) 15 (X.1 15)) 24 (X.1 24)) s.heap := Wd.cast (((sr_same (X := setRow (X) 15 (X.1 15)) (r := 24) rfl).trans (sr_same (X := X) (r := 15) rfl))).symm hW
  refine lv_aload_n hx hb dX8_command_0 rfl (lv_at hl 0 rfl) ?_
  refine g_calli (va_runV (As := []) (rest := []) C.1 (cX8_word_ok l G (setRow (setRow X 15 (X.1 15)) 24 (X.1 24)) pp L (show pp ≤ L by omega) hL e6 e7 e9 hwd) (cwV 0 C.1.2.2.2.2 (gV qw_1895 qw_1897 qw_63 qw_81 qw_1898) rfl rfl rfl (by decide +kernel) ⟨Nat.le_of_ble_eq_true rfl, Nat.le_of_ble_eq_true rfl⟩) (g_rModel C hW hS []) rfl rfl hl.1 rfl (lv_room (Nat.le_of_ble_eq_true rfl)) dX8_command_1 ⟨Nat.zero_le _, Nat.zero_le _⟩) hS (fun r_2 Y_3 H_4 locs_5 hW_6 hS_7 h_1 => ?_)
  replace h_1 : r_2 = (wdM (X.1 22) L pp (X.1 24)).1 ∧ Y_3 = setRow (setRow (setRow (setRow X 15 (X.1 15)) 24 (X.1 24)) 15 (ps (X.1 15) (wdM (X.1 22) L pp (X.1 24)).2.1 (wdM (X.1 22) L pp (X.1 24)).2.2.1)) 24 (wdM (X.1 22) L pp (X.1 24)).2.2.2 := h_1
  rw [hw9] at h_1
  obtain ⟨h_8, h_1⟩ := h_1
  replace h_8 : r_2 = 0 := h_8
  subst h_8
  replace h_1 : Y_3 = setRow (setRow (setRow (setRow X 15 (X.1 15)) 24 (X.1 24)) 15 (ps (X.1 15) p1 0)) 24 z1 := h_1
  replace h_1 : Y_3 = setRow (setRow (setRow (setRow X 15 (X.1 15)) 24 (X.1 24)) 15 (ps (X.1 15) p1 0)) 24 z1 := h_1
  obtain ⟨w_9, ew_9⟩ : ∃ Z9, Z9 = ps (X.1 15) p1 0 := ⟨_, rfl⟩
  obtain ⟨w_10, ew_10⟩ : ∃ Z9, Z9 = z1 := ⟨_, rfl⟩
  have qqw_9 : Y_3 = setRow (setRow (setRow (setRow X 15 (X.1 15)) 24 (X.1 24)) 15 w_9) 24 w_10 := by rw [h_1, ew_9, ew_10]
  have hW_11 : Wd G (setRow (setRow X 15 w_9) 24 w_10) H_4 := Wd.cast (((qqw_9).trans (congrArg (fun Z9 => setRow (Z9) 24 w_10) (sr_in (by decide) sr_out))).trans (congrArg (fun Z9 => Z9) sr_out)) hW_6
  have kn_12 : w_9 (7) = nI L := by rw [ew_9]; exact (ps_o (by decide) (by decide)).trans e7
  have kn_13 : w_9 (10) = 0 := by rw [ew_9]; exact (ps_o (by decide) (by decide)).trans e10
  have kn_14 : w_9 (6) = nI p1 := by rw [ew_9]; exact ps_6
  have kn_15 : w_9 (9) = 0 := by rw [ew_9]; exact ps_9
  refine lv_istore_n (lv' := [(1, .int 0), (0, .ref (ad G 723))]) hx hb dX8_command_4 rfl hl (by decide) rfl (fun ls_16 hl_17 => ?_)
  refine lv_iconst (v := 0) hx hb dX8_command_5 (by decide) ?_
  refine lv_istore_n (lv' := [(2, .int 0), (1, .int 0), (0, .ref (ad G 723))]) hx hb dX8_command_6 rfl hl_17 (by decide) rfl (fun ls_18 hl_19 => ?_)
  refine lv_iconst (v := 0) hx hb dX8_command_7 (by decide) ?_
  refine lv_istore_n (lv' := [(3, .int 0), (2, .int 0), (1, .int 0), (0, .ref (ad G 723))]) hx hb dX8_command_8 rfl hl_19 (by decide) rfl (fun ls_20 hl_21 => ?_)
  refine lv_aload_n hx hb dX8_command_9 rfl (lv_at hl_21 3 rfl) ?_
  refine gM_isWrong C hW_11 (hwc hwX8) (mc qw_1496) dX8_command_10 ?_
  refine g_top (y := w_9 (9)) (congrFun (rd_in (by decide) rd_out) _) ?_
  refine g_top (y := 0) kn_15 ?_
  refine lv_if_eq (tgt := 17) hx hb dX8_command_13 (by decide) (fun _ => ?_) (fun h9 => absurd h9 (by decide))
  refine lv_aload_n hx hb dX8_command_17 rfl (lv_at hl_21 3 rfl) ?_
  refine lv_iload_n hx hb dX8_command_18 rfl (lv_at hl_21 2 rfl) ?_
  refine lv_iconst (v := 5) hx hb dX8_command_19 (by decide) ?_
  refine lv_icmp_eq (tgt := 29) hx hb dX8_command_20 (by decide) (fun h9 => absurd h9 (by decide)) (fun _ => ?_)
  refine lv_iload_n hx hb dX8_command_23 rfl (lv_at hl_21 2 rfl) ?_
  refine lv_bipush (v := 8) hx hb dX8_command_24 (by decide) ?_
  refine lv_icmp_lt (tgt := 33) hx hb dX8_command_26 (by decide) (fun _ => ?_) (fun h9 => absurd h9 (by decide))
  refine lv_iconst (v := 1) hx hb dX8_command_33 (by decide) ?_
  refine g_calli (va_runV (As := [.int 1]) (rest := []) C.1 (cX8_digits_ok l G (setRow (setRow X 15 w_9) 24 w_10) p1 L (show p1 ≤ L by omega) hL kn_14 kn_12 kn_15 1 (by omega)) (cwV 1 C.1.2.2.2.2 (gV qw_1903 qw_1905 qw_65 qw_81 qw_1906) rfl rfl rfl (by decide +kernel) ⟨Nat.le_of_ble_eq_true rfl, Nat.le_of_ble_eq_true rfl⟩) (g_rModel C hW_11 hS_7 [.int 1]) rfl rfl hl_21.1 rfl (lv_room (Nat.le_of_ble_eq_true rfl)) dX8_command_34 ⟨Nat.zero_le _, Nat.zero_le _⟩) hS_7 (fun r_23 Y_24 H_25 locs_26 hW_27 hS_28 h_22 => ?_)
  replace h_22 : r_23 = (dgM (X.1 22) L 1 p1).1 ∧ Y_24 = setRow (setRow (setRow X 15 w_9) 24 w_10) 15 (ps w_9 (dgM (X.1 22) L 1 p1).2.1 (dgM (X.1 22) L 1 p1).2.2) := h_22
  obtain ⟨n_29, p_30, c_31, hd_32⟩ : ∃ x9 y9 z9, dgM (X.1 22) L 1 p1 = (x9, y9, z9) := ⟨_, _, _, rfl⟩
  rw [hd_32] at h_22
  obtain ⟨h_33, h_22⟩ := h_22
  replace h_33 : r_23 = n_29 := h_33
  subst h_33
  have hp_30 : p_30 ≤ L := dgM_le (show p1 ≤ L by omega) hd_32
  rcases dgM_b hd_32 with hbc_31 | hbc_31
  · rw [hbc_31] at hd_32 h_22
    replace h_22 : Y_24 = setRow (setRow (setRow X 15 w_9) 24 w_10) 15 (ps w_9 p_30 0) := h_22
    replace h_22 : Y_24 = setRow (setRow (setRow X 15 w_9) 24 w_10) 15 (ps w_9 p_30 0) := h_22
    obtain ⟨w_34, ew_34⟩ : ∃ Z9, Z9 = ps w_9 p_30 0 := ⟨_, rfl⟩
    have qqw_34 : Y_24 = setRow (setRow (setRow X 15 w_9) 24 w_10) 15 w_34 := by rw [h_22, ew_34]
    have hW_35 : Wd G (setRow (setRow X 15 w_34) 24 w_10) H_25 := Wd.cast ((qqw_34).trans (congrArg (fun Z9 => Z9) (sr_in (by decide) sr_out))) hW_27
    have kn_36 : w_34 (7) = nI L := by rw [ew_34]; exact (ps_o (by decide) (by decide)).trans kn_12
    have kn_37 : w_34 (10) = 0 := by rw [ew_34]; exact (ps_o (by decide) (by decide)).trans kn_13
    have kn_38 : w_34 (6) = nI p_30 := by rw [ew_34]; exact ps_6
    have kn_39 : w_34 (9) = 0 := by rw [ew_34]; exact ps_9
    refine lv_istore (lv' := [(4, .int r_23), (3, .int 0), (2, .int 0), (1, .int 0), (0, .ref (ad G 723))]) hx hb dX8_command_37 hl_21 (by decide) rfl (fun ls_40 hl_41 => ?_)
    refine lv_iload_n hx hb dX8_command_39 rfl (lv_at hl_41 3 rfl) ?_
    refine lv_if_ne (tgt := 55) hx hb dX8_command_40 (by decide) (fun h9 => absurd h9 (by decide)) (fun _ => ?_)
    refine lv_aload_n hx hb dX8_command_43 rfl (lv_at hl_41 4 rfl) ?_
    refine gM_isWrong C hW_35 (hwc hwX8) (mc qw_1496) dX8_command_44 ?_
    refine g_top (y := w_34 (9)) (congrFun (rd_in (by decide) rd_out) _) ?_
    refine g_top (y := 0) kn_39 ?_
    refine lv_if_ne (tgt := 55) hx hb dX8_command_47 (by decide) (fun h9 => absurd h9 (by decide)) (fun _ => ?_)
    refine lv_aload_n hx hb dX8_command_50 rfl (lv_at hl_41 4 rfl) ?_
    refine g_calli (va_runV (As := []) (rest := []) C.1 (cX8_material_ok l G (setRow (setRow X 15 w_34) 24 w_10) p_30 L (show p_30 ≤ L by omega) hL kn_38 kn_36 kn_39) (cwV 0 C.1.2.2.2.2 (gV qw_1907 qw_1909 qw_66 qw_81 qw_1910) rfl rfl rfl (by decide +kernel) ⟨Nat.le_of_ble_eq_true rfl, Nat.le_of_ble_eq_true rfl⟩) (g_rModel C hW_35 hS_28 []) rfl rfl hl_41.1 rfl (lv_room (Nat.le_of_ble_eq_true rfl)) dX8_command_51 ⟨Nat.zero_le _, Nat.zero_le _⟩) hS_28 (fun r_43 Y_44 H_45 locs_46 hW_47 hS_48 h_42 => ?_)
    replace h_42 : r_43 = (mtM (X.1 22) L p_30).1 ∧ Y_44 = setRow (setRow (setRow X 15 w_34) 24 w_10) 15 (ps w_34 (mtM (X.1 22) L p_30).2.1 (mtM (X.1 22) L p_30).2.2) := h_42
    obtain ⟨n_49, p_50, c_51, hd_52⟩ : ∃ x9 y9 z9, mtM (X.1 22) L p_30 = (x9, y9, z9) := ⟨_, _, _, rfl⟩
    rw [hd_52] at h_42
    obtain ⟨h_53, h_42⟩ := h_42
    replace h_53 : r_43 = n_49 := h_53
    subst h_53
    have hp_50 : p_50 ≤ L := mtM_le (show p_30 ≤ L by omega) hd_52
    rcases mtM_b hd_52 with hbc_51 | hbc_51
    · rw [hbc_51] at hd_52 h_42
      have hk4hd_52 := mtM_k hd_52
      replace h_42 : Y_44 = setRow (setRow (setRow X 15 w_34) 24 w_10) 15 (ps w_34 p_50 0) := h_42
      replace h_42 : Y_44 = setRow (setRow (setRow X 15 w_34) 24 w_10) 15 (ps w_34 p_50 0) := h_42
      obtain ⟨w_54, ew_54⟩ : ∃ Z9, Z9 = ps w_34 p_50 0 := ⟨_, rfl⟩
      have qqw_54 : Y_44 = setRow (setRow (setRow X 15 w_34) 24 w_10) 15 w_54 := by rw [h_42, ew_54]
      have hW_55 : Wd G (setRow (setRow X 15 w_54) 24 w_10) H_45 := Wd.cast ((qqw_54).trans (congrArg (fun Z9 => Z9) (sr_in (by decide) sr_out))) hW_47
      have kn_56 : w_54 (7) = nI L := by rw [ew_54]; exact (ps_o (by decide) (by decide)).trans kn_36
      have kn_57 : w_54 (10) = 0 := by rw [ew_54]; exact (ps_o (by decide) (by decide)).trans kn_37
      have kn_58 : w_54 (6) = nI p_50 := by rw [ew_54]; exact ps_6
      have kn_59 : w_54 (9) = 0 := by rw [ew_54]; exact ps_9
      refine lv_istore_n (lv' := [(2, .int r_43), (4, .int r_23), (3, .int 0), (1, .int 0), (0, .ref (ad G 723))]) hx hb dX8_command_54 rfl hl_41 (by decide) rfl (fun ls_60 hl_61 => ?_)
      refine lv_iload_n hx hb dX8_command_55 rfl (lv_at hl_61 3 rfl) ?_
      refine lv_if_ne (tgt := 72) hx hb dX8_command_56 (by decide) (fun h9 => absurd h9 (by decide)) (fun _ => ?_)
      refine lv_aload_n hx hb dX8_command_59 rfl (lv_at hl_61 4 rfl) ?_
      refine gM_isWrong C hW_55 (hwc hwX8) (mc qw_1496) dX8_command_60 ?_
      refine g_top (y := w_54 (9)) (congrFun (rd_in (by decide) rd_out) _) ?_
      refine g_top (y := 0) kn_59 ?_
      refine lv_if_ne (tgt := 72) hx hb dX8_command_63 (by decide) (fun h9 => absurd h9 (by decide)) (fun _ => ?_)
      refine lv_aload_n hx hb dX8_command_66 rfl (lv_at hl_61 4 rfl) ?_
      refine lv_iconst (v := 3) hx hb dX8_command_67 (by decide) ?_
      refine g_calli (va_runV (As := [.int 3]) (rest := []) C.1 (cX8_digits_ok l G (setRow (setRow X 15 w_54) 24 w_10) p_50 L (show p_50 ≤ L by omega) hL kn_58 kn_56 kn_59 3 (by omega)) (cwV 1 C.1.2.2.2.2 (gV qw_1903 qw_1905 qw_65 qw_81 qw_1906) rfl rfl rfl (by decide +kernel) ⟨Nat.le_of_ble_eq_true rfl, Nat.le_of_ble_eq_true rfl⟩) (g_rModel C hW_55 hS_48 [.int 3]) rfl rfl hl_61.1 rfl (lv_room (Nat.le_of_ble_eq_true rfl)) dX8_command_68 ⟨Nat.zero_le _, Nat.zero_le _⟩) hS_48 (fun r_63 Y_64 H_65 locs_66 hW_67 hS_68 h_62 => ?_)
      replace h_62 : r_63 = (dgM (X.1 22) L 3 p_50).1 ∧ Y_64 = setRow (setRow (setRow X 15 w_54) 24 w_10) 15 (ps w_54 (dgM (X.1 22) L 3 p_50).2.1 (dgM (X.1 22) L 3 p_50).2.2) := h_62
      obtain ⟨n_69, p_70, c_71, hd_72⟩ : ∃ x9 y9 z9, dgM (X.1 22) L 3 p_50 = (x9, y9, z9) := ⟨_, _, _, rfl⟩
      rw [hd_72] at h_62
      obtain ⟨h_73, h_62⟩ := h_62
      replace h_73 : r_63 = n_69 := h_73
      subst h_73
      have hp_70 : p_70 ≤ L := dgM_le (show p_50 ≤ L by omega) hd_72
      rcases dgM_b hd_72 with hbc_71 | hbc_71
      · rw [hbc_71] at hd_72 h_62
        replace h_62 : Y_64 = setRow (setRow (setRow X 15 w_54) 24 w_10) 15 (ps w_54 p_70 0) := h_62
        replace h_62 : Y_64 = setRow (setRow (setRow X 15 w_54) 24 w_10) 15 (ps w_54 p_70 0) := h_62
        obtain ⟨w_74, ew_74⟩ : ∃ Z9, Z9 = ps w_54 p_70 0 := ⟨_, rfl⟩
        have qqw_74 : Y_64 = setRow (setRow (setRow X 15 w_54) 24 w_10) 15 w_74 := by rw [h_62, ew_74]
        have hW_75 : Wd G (setRow (setRow X 15 w_74) 24 w_10) H_65 := Wd.cast ((qqw_74).trans (congrArg (fun Z9 => Z9) (sr_in (by decide) sr_out))) hW_67
        have kn_76 : w_74 (7) = nI L := by rw [ew_74]; exact (ps_o (by decide) (by decide)).trans kn_56
        have kn_77 : w_74 (10) = 0 := by rw [ew_74]; exact (ps_o (by decide) (by decide)).trans kn_57
        have kn_78 : w_74 (6) = nI p_70 := by rw [ew_74]; exact ps_6
        have kn_79 : w_74 (9) = 0 := by rw [ew_74]; exact ps_9
        refine lv_istore_n (lv' := [(3, .int r_63), (2, .int r_43), (4, .int r_23), (1, .int 0), (0, .ref (ad G 723))]) hx hb dX8_command_71 rfl hl_61 (by decide) rfl (fun ls_80 hl_81 => ?_)
        refine lv_iload_n hx hb dX8_command_72 rfl (lv_at hl_81 3 rfl) ?_
        refine lv_iconst (v := 1) hx hb dX8_command_73 (by decide) ?_
        refine lv_icmp_eq (tgt := 99) hx hb dX8_command_74 (by decide) (fun h9 => absurd h9 (by decide)) (fun _ => ?_)
        refine lv_iload_n hx hb dX8_command_77 rfl (lv_at hl_81 3 rfl) ?_
        refine lv_iconst (v := 3) hx hb dX8_command_78 (by decide) ?_
        refine lv_icmp_eq (tgt := 99) hx hb dX8_command_79 (by decide) (fun h9 => absurd h9 (by decide)) (fun _ => ?_)
        refine lv_iload_n hx hb dX8_command_82 rfl (lv_at hl_81 3 rfl) ?_
        refine lv_iconst (v := 4) hx hb dX8_command_83 (by decide) ?_
        refine lv_icmp_eq (tgt := 99) hx hb dX8_command_84 (by decide) (fun h9 => absurd h9 (by decide)) (fun _ => ?_)
        refine lv_iload_n hx hb dX8_command_87 rfl (lv_at hl_81 3 rfl) ?_
        refine lv_bipush (v := 6) hx hb dX8_command_88 (by decide) ?_
        refine lv_icmp_eq (tgt := 99) hx hb dX8_command_90 (by decide) (fun h9 => absurd h9 (by decide)) (fun _ => ?_)
        refine lv_iload_n hx hb dX8_command_93 rfl (lv_at hl_81 3 rfl) ?_
        refine lv_bipush (v := 8) hx hb dX8_command_94 (by decide) ?_
        refine lv_icmp_ne (tgt := 112) hx hb dX8_command_96 (by decide) (fun _ => ?_) (fun h9 => absurd h9 (by decide))
        refine lv_iload_n hx hb dX8_command_112 rfl (lv_at hl_81 3 rfl) ?_
        refine lv_iconst (v := 3) hx hb dX8_command_113 (by decide) ?_
        refine lv_icmp_ne (tgt := 130) hx hb dX8_command_114 (by decide) (fun _ => ?_) (fun h9 => absurd h9 (by decide))
        refine lv_aload_n hx hb dX8_command_130 rfl (lv_at hl_81 4 rfl) ?_
        refine gM_isWrong C hW_75 (hwc hwX8) (mc qw_1496) dX8_command_131 ?_
        refine g_top (y := w_74 (9)) (congrFun (rd_in (by decide) rd_out) _) ?_
        refine g_top (y := 0) kn_79 ?_
        refine lv_if_ne (tgt := 144) hx hb dX8_command_134 (by decide) (fun h9 => absurd h9 (by decide)) (fun _ => ?_)
        refine lv_aload_n hx hb dX8_command_137 rfl (lv_at hl_81 4 rfl) ?_
        refine gM_isDoing C hW_75 (hwc hwX8) (mc qw_1497) dX8_command_138 ?_
        refine g_top (y := w_74 (10)) (congrFun (rd_in (by decide) rd_out) _) ?_
        refine g_top (y := 0) kn_77 ?_
        refine lv_if_ne (tgt := 145) hx hb dX8_command_141 (by decide) (fun h9 => absurd h9 (by decide)) (fun _ => ?_)
        exact g_vret C hr hlk hW_75 hS_68 dX8_command_144 (by subst ew_74; subst ew_54; subst ew_34; subst ew_10; subst ew_9; simp only [ca0, hd_32, hd_52, hd_72, if_true, if_false, ps_ps, Nat.one_ne_zero])
      · rw [hbc_71] at hd_72 h_62
        replace h_62 : Y_64 = setRow (setRow (setRow X 15 w_54) 24 w_10) 15 (ps w_54 p_70 1) := h_62
        replace h_62 : Y_64 = setRow (setRow (setRow X 15 w_54) 24 w_10) 15 (ps w_54 p_70 1) := h_62
        obtain ⟨w_82, ew_82⟩ : ∃ Z9, Z9 = ps w_54 p_70 1 := ⟨_, rfl⟩
        have qqw_82 : Y_64 = setRow (setRow (setRow X 15 w_54) 24 w_10) 15 w_82 := by rw [h_62, ew_82]
        have hW_83 : Wd G (setRow (setRow X 15 w_82) 24 w_10) H_65 := Wd.cast ((qqw_82).trans (congrArg (fun Z9 => Z9) (sr_in (by decide) sr_out))) hW_67
        have kn_84 : w_82 (7) = nI L := by rw [ew_82]; exact (ps_o (by decide) (by decide)).trans kn_56
        have kn_85 : w_82 (10) = 0 := by rw [ew_82]; exact (ps_o (by decide) (by decide)).trans kn_57
        have kn_86 : w_82 (6) = nI p_70 := by rw [ew_82]; exact ps_6
        have kn_87 : w_82 (9) = 1 := by rw [ew_82]; exact ps_9
        refine lv_istore_n (lv' := [(3, .int r_63), (2, .int r_43), (4, .int r_23), (1, .int 0), (0, .ref (ad G 723))]) hx hb dX8_command_71 rfl hl_61 (by decide) rfl (fun ls_88 hl_89 => ?_)
        refine lv_iload_n hx hb dX8_command_72 rfl (lv_at hl_89 3 rfl) ?_
        refine lv_iconst (v := 1) hx hb dX8_command_73 (by decide) ?_
        refine lv_icmp_eq (tgt := 99) hx hb dX8_command_74 (by decide) (fun h9 => absurd h9 (by decide)) (fun _ => ?_)
        refine lv_iload_n hx hb dX8_command_77 rfl (lv_at hl_89 3 rfl) ?_
        refine lv_iconst (v := 3) hx hb dX8_command_78 (by decide) ?_
        refine lv_icmp_eq (tgt := 99) hx hb dX8_command_79 (by decide) (fun h9 => absurd h9 (by decide)) (fun _ => ?_)
        refine lv_iload_n hx hb dX8_command_82 rfl (lv_at hl_89 3 rfl) ?_
        refine lv_iconst (v := 4) hx hb dX8_command_83 (by decide) ?_
        refine lv_icmp_eq (tgt := 99) hx hb dX8_command_84 (by decide) (fun h9 => absurd h9 (by decide)) (fun _ => ?_)
        refine lv_iload_n hx hb dX8_command_87 rfl (lv_at hl_89 3 rfl) ?_
        refine lv_bipush (v := 6) hx hb dX8_command_88 (by decide) ?_
        refine lv_icmp_eq (tgt := 99) hx hb dX8_command_90 (by decide) (fun h9 => absurd h9 (by decide)) (fun _ => ?_)
        refine lv_iload_n hx hb dX8_command_93 rfl (lv_at hl_89 3 rfl) ?_
        refine lv_bipush (v := 8) hx hb dX8_command_94 (by decide) ?_
        refine lv_icmp_ne (tgt := 112) hx hb dX8_command_96 (by decide) (fun _ => ?_) (fun h9 => absurd h9 (by decide))
        refine lv_iload_n hx hb dX8_command_112 rfl (lv_at hl_89 3 rfl) ?_
        refine lv_iconst (v := 3) hx hb dX8_command_113 (by decide) ?_
        refine lv_icmp_ne (tgt := 130) hx hb dX8_command_114 (by decide) (fun _ => ?_) (fun h9 => absurd h9 (by decide))
        refine lv_aload_n hx hb dX8_command_130 rfl (lv_at hl_89 4 rfl) ?_
        refine gM_isWrong C hW_83 (hwc hwX8) (mc qw_1496) dX8_command_131 ?_
        refine g_top (y := w_82 (9)) (congrFun (rd_in (by decide) rd_out) _) ?_
        refine g_top (y := 1) kn_87 ?_
        refine lv_if_ne (tgt := 144) hx hb dX8_command_134 (by decide) (fun _ => ?_) (fun h9 => absurd h9 (by decide))
        exact g_vret C hr hlk hW_83 hS_68 dX8_command_144 (by subst ew_82; subst ew_54; subst ew_34; subst ew_10; subst ew_9; simp only [ca0, hd_32, hd_52, hd_72, if_true, if_false, ps_ps, Nat.one_ne_zero])
    · rw [hbc_51] at hd_52 h_42
      replace h_42 : Y_44 = setRow (setRow (setRow X 15 w_34) 24 w_10) 15 (ps w_34 p_50 1) := h_42
      replace h_42 : Y_44 = setRow (setRow (setRow X 15 w_34) 24 w_10) 15 (ps w_34 p_50 1) := h_42
      obtain ⟨w_90, ew_90⟩ : ∃ Z9, Z9 = ps w_34 p_50 1 := ⟨_, rfl⟩
      have qqw_90 : Y_44 = setRow (setRow (setRow X 15 w_34) 24 w_10) 15 w_90 := by rw [h_42, ew_90]
      have hW_91 : Wd G (setRow (setRow X 15 w_90) 24 w_10) H_45 := Wd.cast ((qqw_90).trans (congrArg (fun Z9 => Z9) (sr_in (by decide) sr_out))) hW_47
      have kn_92 : w_90 (7) = nI L := by rw [ew_90]; exact (ps_o (by decide) (by decide)).trans kn_36
      have kn_93 : w_90 (10) = 0 := by rw [ew_90]; exact (ps_o (by decide) (by decide)).trans kn_37
      have kn_94 : w_90 (6) = nI p_50 := by rw [ew_90]; exact ps_6
      have kn_95 : w_90 (9) = 1 := by rw [ew_90]; exact ps_9
      refine lv_istore_n (lv' := [(2, .int r_43), (4, .int r_23), (3, .int 0), (1, .int 0), (0, .ref (ad G 723))]) hx hb dX8_command_54 rfl hl_41 (by decide) rfl (fun ls_96 hl_97 => ?_)
      refine lv_iload_n hx hb dX8_command_55 rfl (lv_at hl_97 3 rfl) ?_
      refine lv_if_ne (tgt := 72) hx hb dX8_command_56 (by decide) (fun h9 => absurd h9 (by decide)) (fun _ => ?_)
      refine lv_aload_n hx hb dX8_command_59 rfl (lv_at hl_97 4 rfl) ?_
      refine gM_isWrong C hW_91 (hwc hwX8) (mc qw_1496) dX8_command_60 ?_
      refine g_top (y := w_90 (9)) (congrFun (rd_in (by decide) rd_out) _) ?_
      refine g_top (y := 1) kn_95 ?_
      refine lv_if_ne (tgt := 72) hx hb dX8_command_63 (by decide) (fun _ => ?_) (fun h9 => absurd h9 (by decide))
      refine lv_iload_n hx hb dX8_command_72 rfl (lv_at hl_97 3 rfl) ?_
      refine lv_iconst (v := 1) hx hb dX8_command_73 (by decide) ?_
      refine lv_icmp_eq (tgt := 99) hx hb dX8_command_74 (by decide) (fun h9 => absurd h9 (by decide)) (fun _ => ?_)
      refine lv_iload_n hx hb dX8_command_77 rfl (lv_at hl_97 3 rfl) ?_
      refine lv_iconst (v := 3) hx hb dX8_command_78 (by decide) ?_
      refine lv_icmp_eq (tgt := 99) hx hb dX8_command_79 (by decide) (fun h9 => absurd h9 (by decide)) (fun _ => ?_)
      refine lv_iload_n hx hb dX8_command_82 rfl (lv_at hl_97 3 rfl) ?_
      refine lv_iconst (v := 4) hx hb dX8_command_83 (by decide) ?_
      refine lv_icmp_eq (tgt := 99) hx hb dX8_command_84 (by decide) (fun h9 => absurd h9 (by decide)) (fun _ => ?_)
      refine lv_iload_n hx hb dX8_command_87 rfl (lv_at hl_97 3 rfl) ?_
      refine lv_bipush (v := 6) hx hb dX8_command_88 (by decide) ?_
      refine lv_icmp_eq (tgt := 99) hx hb dX8_command_90 (by decide) (fun h9 => absurd h9 (by decide)) (fun _ => ?_)
      refine lv_iload_n hx hb dX8_command_93 rfl (lv_at hl_97 3 rfl) ?_
      refine lv_bipush (v := 8) hx hb dX8_command_94 (by decide) ?_
      refine lv_icmp_ne (tgt := 112) hx hb dX8_command_96 (by decide) (fun _ => ?_) (fun h9 => absurd h9 (by decide))
      refine lv_iload_n hx hb dX8_command_112 rfl (lv_at hl_97 3 rfl) ?_
      refine lv_iconst (v := 3) hx hb dX8_command_113 (by decide) ?_
      refine lv_icmp_ne (tgt := 130) hx hb dX8_command_114 (by decide) (fun _ => ?_) (fun h9 => absurd h9 (by decide))
      refine lv_aload_n hx hb dX8_command_130 rfl (lv_at hl_97 4 rfl) ?_
      refine gM_isWrong C hW_91 (hwc hwX8) (mc qw_1496) dX8_command_131 ?_
      refine g_top (y := w_90 (9)) (congrFun (rd_in (by decide) rd_out) _) ?_
      refine g_top (y := 1) kn_95 ?_
      refine lv_if_ne (tgt := 144) hx hb dX8_command_134 (by decide) (fun _ => ?_) (fun h9 => absurd h9 (by decide))
      exact g_vret C hr hlk hW_91 hS_48 dX8_command_144 (by subst ew_90; subst ew_34; subst ew_10; subst ew_9; simp only [ca0, hd_32, hd_52, if_true, if_false, ps_ps, Nat.one_ne_zero])
  · rw [hbc_31] at hd_32 h_22
    replace h_22 : Y_24 = setRow (setRow (setRow X 15 w_9) 24 w_10) 15 (ps w_9 p_30 1) := h_22
    replace h_22 : Y_24 = setRow (setRow (setRow X 15 w_9) 24 w_10) 15 (ps w_9 p_30 1) := h_22
    obtain ⟨w_98, ew_98⟩ : ∃ Z9, Z9 = ps w_9 p_30 1 := ⟨_, rfl⟩
    have qqw_98 : Y_24 = setRow (setRow (setRow X 15 w_9) 24 w_10) 15 w_98 := by rw [h_22, ew_98]
    have hW_99 : Wd G (setRow (setRow X 15 w_98) 24 w_10) H_25 := Wd.cast ((qqw_98).trans (congrArg (fun Z9 => Z9) (sr_in (by decide) sr_out))) hW_27
    have kn_100 : w_98 (7) = nI L := by rw [ew_98]; exact (ps_o (by decide) (by decide)).trans kn_12
    have kn_101 : w_98 (10) = 0 := by rw [ew_98]; exact (ps_o (by decide) (by decide)).trans kn_13
    have kn_102 : w_98 (6) = nI p_30 := by rw [ew_98]; exact ps_6
    have kn_103 : w_98 (9) = 1 := by rw [ew_98]; exact ps_9
    refine lv_istore (lv' := [(4, .int r_23), (3, .int 0), (2, .int 0), (1, .int 0), (0, .ref (ad G 723))]) hx hb dX8_command_37 hl_21 (by decide) rfl (fun ls_104 hl_105 => ?_)
    refine lv_iload_n hx hb dX8_command_39 rfl (lv_at hl_105 3 rfl) ?_
    refine lv_if_ne (tgt := 55) hx hb dX8_command_40 (by decide) (fun h9 => absurd h9 (by decide)) (fun _ => ?_)
    refine lv_aload_n hx hb dX8_command_43 rfl (lv_at hl_105 4 rfl) ?_
    refine gM_isWrong C hW_99 (hwc hwX8) (mc qw_1496) dX8_command_44 ?_
    refine g_top (y := w_98 (9)) (congrFun (rd_in (by decide) rd_out) _) ?_
    refine g_top (y := 1) kn_103 ?_
    refine lv_if_ne (tgt := 55) hx hb dX8_command_47 (by decide) (fun _ => ?_) (fun h9 => absurd h9 (by decide))
    refine lv_iload_n hx hb dX8_command_55 rfl (lv_at hl_105 3 rfl) ?_
    refine lv_if_ne (tgt := 72) hx hb dX8_command_56 (by decide) (fun h9 => absurd h9 (by decide)) (fun _ => ?_)
    refine lv_aload_n hx hb dX8_command_59 rfl (lv_at hl_105 4 rfl) ?_
    refine gM_isWrong C hW_99 (hwc hwX8) (mc qw_1496) dX8_command_60 ?_
    refine g_top (y := w_98 (9)) (congrFun (rd_in (by decide) rd_out) _) ?_
    refine g_top (y := 1) kn_103 ?_
    refine lv_if_ne (tgt := 72) hx hb dX8_command_63 (by decide) (fun _ => ?_) (fun h9 => absurd h9 (by decide))
    refine lv_iload_n hx hb dX8_command_72 rfl (lv_at hl_105 3 rfl) ?_
    refine lv_iconst (v := 1) hx hb dX8_command_73 (by decide) ?_
    refine lv_icmp_eq (tgt := 99) hx hb dX8_command_74 (by decide) (fun h9 => absurd h9 (by decide)) (fun _ => ?_)
    refine lv_iload_n hx hb dX8_command_77 rfl (lv_at hl_105 3 rfl) ?_
    refine lv_iconst (v := 3) hx hb dX8_command_78 (by decide) ?_
    refine lv_icmp_eq (tgt := 99) hx hb dX8_command_79 (by decide) (fun h9 => absurd h9 (by decide)) (fun _ => ?_)
    refine lv_iload_n hx hb dX8_command_82 rfl (lv_at hl_105 3 rfl) ?_
    refine lv_iconst (v := 4) hx hb dX8_command_83 (by decide) ?_
    refine lv_icmp_eq (tgt := 99) hx hb dX8_command_84 (by decide) (fun h9 => absurd h9 (by decide)) (fun _ => ?_)
    refine lv_iload_n hx hb dX8_command_87 rfl (lv_at hl_105 3 rfl) ?_
    refine lv_bipush (v := 6) hx hb dX8_command_88 (by decide) ?_
    refine lv_icmp_eq (tgt := 99) hx hb dX8_command_90 (by decide) (fun h9 => absurd h9 (by decide)) (fun _ => ?_)
    refine lv_iload_n hx hb dX8_command_93 rfl (lv_at hl_105 3 rfl) ?_
    refine lv_bipush (v := 8) hx hb dX8_command_94 (by decide) ?_
    refine lv_icmp_ne (tgt := 112) hx hb dX8_command_96 (by decide) (fun _ => ?_) (fun h9 => absurd h9 (by decide))
    refine lv_iload_n hx hb dX8_command_112 rfl (lv_at hl_105 3 rfl) ?_
    refine lv_iconst (v := 3) hx hb dX8_command_113 (by decide) ?_
    refine lv_icmp_ne (tgt := 130) hx hb dX8_command_114 (by decide) (fun _ => ?_) (fun h9 => absurd h9 (by decide))
    refine lv_aload_n hx hb dX8_command_130 rfl (lv_at hl_105 4 rfl) ?_
    refine gM_isWrong C hW_99 (hwc hwX8) (mc qw_1496) dX8_command_131 ?_
    refine g_top (y := w_98 (9)) (congrFun (rd_in (by decide) rd_out) _) ?_
    refine g_top (y := 1) kn_103 ?_
    refine lv_if_ne (tgt := 144) hx hb dX8_command_134 (by decide) (fun _ => ?_) (fun h9 => absurd h9 (by decide))
    exact g_vret C hr hlk hW_99 hS_28 dX8_command_144 (by subst ew_98; subst ew_10; subst ew_9; simp only [ca0, hd_32, if_true, if_false, ps_ps, Nat.one_ne_zero])

set_option maxHeartbeats 4000000 in
set_option maxRecDepth 100000 in
theorem cX8_command01_ok (l : Launch) (G : GT) (X : St) (pp L : Nat) (hp : pp ≤ L) (hL : L ≤ 60) (e6 : X.1 15 6 = nI pp) (e7 : X.1 15 7 = nI L) (e9 : X.1 15 9 = 0) (hwd : WdOk (X.1 25) (X.1 26)) (e10 : X.1 15 10 = 0) (p1 : Nat) (hp1 : p1 ≤ L) (z1 : Nat → Int32) (hw9 : wdM (X.1 22) L pp (X.1 24) = (1, p1, 0, z1)) : MetV l G yX8_command (wsG yX8_command cX8_command 6 none) (rmz 3 66) [.ref (ad G 723)] X (fun Y => Y = setRow (setRow X 15 (ps (X.1 15) (caA (X.1 22) L p1).2.2.2.1 (caA (X.1 22) L p1).2.2.2.2)) 24 z1) := by
  refine g_met (cc := cX8_command) (maxL := 6) (ret := none) (by decide) rfl (Nat.le_of_ble_eq_true rfl) ?_
  intro p e s m below meth c ls C hr hlk hnm hW hl
  have hx := C.1.1
  have hb := C.1.2.1
  have hS : va_S (Ab G) s.heap s.heap [] := va_S.rf
  have hl : lv_has ls 6 [(0, .ref (ad G 723))] := hl
  have hW : Wd G (setRow (setRow (X) 15 (X.1 15)) 24 (X.1 24)) s.heap := Wd.cast (((sr_same (X := setRow (X) 15 (X.1 15)) (r := 24) rfl).trans (sr_same (X := X) (r := 15) rfl))).symm hW
  refine lv_aload_n hx hb dX8_command_0 rfl (lv_at hl 0 rfl) ?_
  refine g_calli (va_runV (As := []) (rest := []) C.1 (cX8_word_ok l G (setRow (setRow X 15 (X.1 15)) 24 (X.1 24)) pp L (show pp ≤ L by omega) hL e6 e7 e9 hwd) (cwV 0 C.1.2.2.2.2 (gV qw_1895 qw_1897 qw_63 qw_81 qw_1898) rfl rfl rfl (by decide +kernel) ⟨Nat.le_of_ble_eq_true rfl, Nat.le_of_ble_eq_true rfl⟩) (g_rModel C hW hS []) rfl rfl hl.1 rfl (lv_room (Nat.le_of_ble_eq_true rfl)) dX8_command_1 ⟨Nat.zero_le _, Nat.zero_le _⟩) hS (fun r_2 Y_3 H_4 locs_5 hW_6 hS_7 h_1 => ?_)
  replace h_1 : r_2 = (wdM (X.1 22) L pp (X.1 24)).1 ∧ Y_3 = setRow (setRow (setRow (setRow X 15 (X.1 15)) 24 (X.1 24)) 15 (ps (X.1 15) (wdM (X.1 22) L pp (X.1 24)).2.1 (wdM (X.1 22) L pp (X.1 24)).2.2.1)) 24 (wdM (X.1 22) L pp (X.1 24)).2.2.2 := h_1
  rw [hw9] at h_1
  obtain ⟨h_8, h_1⟩ := h_1
  replace h_8 : r_2 = 1 := h_8
  subst h_8
  replace h_1 : Y_3 = setRow (setRow (setRow (setRow X 15 (X.1 15)) 24 (X.1 24)) 15 (ps (X.1 15) p1 0)) 24 z1 := h_1
  replace h_1 : Y_3 = setRow (setRow (setRow (setRow X 15 (X.1 15)) 24 (X.1 24)) 15 (ps (X.1 15) p1 0)) 24 z1 := h_1
  obtain ⟨w_9, ew_9⟩ : ∃ Z9, Z9 = ps (X.1 15) p1 0 := ⟨_, rfl⟩
  obtain ⟨w_10, ew_10⟩ : ∃ Z9, Z9 = z1 := ⟨_, rfl⟩
  have qqw_9 : Y_3 = setRow (setRow (setRow (setRow X 15 (X.1 15)) 24 (X.1 24)) 15 w_9) 24 w_10 := by rw [h_1, ew_9, ew_10]
  have hW_11 : Wd G (setRow (setRow X 15 w_9) 24 w_10) H_4 := Wd.cast (((qqw_9).trans (congrArg (fun Z9 => setRow (Z9) 24 w_10) (sr_in (by decide) sr_out))).trans (congrArg (fun Z9 => Z9) sr_out)) hW_6
  have kn_12 : w_9 (7) = nI L := by rw [ew_9]; exact (ps_o (by decide) (by decide)).trans e7
  have kn_13 : w_9 (10) = 0 := by rw [ew_9]; exact (ps_o (by decide) (by decide)).trans e10
  have kn_14 : w_9 (6) = nI p1 := by rw [ew_9]; exact ps_6
  have kn_15 : w_9 (9) = 0 := by rw [ew_9]; exact ps_9
  refine lv_istore_n (lv' := [(1, .int 1), (0, .ref (ad G 723))]) hx hb dX8_command_4 rfl hl (by decide) rfl (fun ls_16 hl_17 => ?_)
  refine lv_iconst (v := 0) hx hb dX8_command_5 (by decide) ?_
  refine lv_istore_n (lv' := [(2, .int 0), (1, .int 1), (0, .ref (ad G 723))]) hx hb dX8_command_6 rfl hl_17 (by decide) rfl (fun ls_18 hl_19 => ?_)
  refine lv_iconst (v := 0) hx hb dX8_command_7 (by decide) ?_
  refine lv_istore_n (lv' := [(3, .int 0), (2, .int 0), (1, .int 1), (0, .ref (ad G 723))]) hx hb dX8_command_8 rfl hl_19 (by decide) rfl (fun ls_20 hl_21 => ?_)
  refine lv_aload_n hx hb dX8_command_9 rfl (lv_at hl_21 3 rfl) ?_
  refine gM_isWrong C hW_11 (hwc hwX8) (mc qw_1496) dX8_command_10 ?_
  refine g_top (y := w_9 (9)) (congrFun (rd_in (by decide) rd_out) _) ?_
  refine g_top (y := 0) kn_15 ?_
  refine lv_if_eq (tgt := 17) hx hb dX8_command_13 (by decide) (fun _ => ?_) (fun h9 => absurd h9 (by decide))
  refine lv_aload_n hx hb dX8_command_17 rfl (lv_at hl_21 3 rfl) ?_
  refine lv_iload_n hx hb dX8_command_18 rfl (lv_at hl_21 2 rfl) ?_
  refine lv_iconst (v := 5) hx hb dX8_command_19 (by decide) ?_
  refine lv_icmp_eq (tgt := 29) hx hb dX8_command_20 (by decide) (fun h9 => absurd h9 (by decide)) (fun _ => ?_)
  refine lv_iload_n hx hb dX8_command_23 rfl (lv_at hl_21 2 rfl) ?_
  refine lv_bipush (v := 8) hx hb dX8_command_24 (by decide) ?_
  refine lv_icmp_lt (tgt := 33) hx hb dX8_command_26 (by decide) (fun _ => ?_) (fun h9 => absurd h9 (by decide))
  refine lv_iconst (v := 1) hx hb dX8_command_33 (by decide) ?_
  refine g_calli (va_runV (As := [.int 1]) (rest := []) C.1 (cX8_digits_ok l G (setRow (setRow X 15 w_9) 24 w_10) p1 L (show p1 ≤ L by omega) hL kn_14 kn_12 kn_15 1 (by omega)) (cwV 1 C.1.2.2.2.2 (gV qw_1903 qw_1905 qw_65 qw_81 qw_1906) rfl rfl rfl (by decide +kernel) ⟨Nat.le_of_ble_eq_true rfl, Nat.le_of_ble_eq_true rfl⟩) (g_rModel C hW_11 hS_7 [.int 1]) rfl rfl hl_21.1 rfl (lv_room (Nat.le_of_ble_eq_true rfl)) dX8_command_34 ⟨Nat.zero_le _, Nat.zero_le _⟩) hS_7 (fun r_23 Y_24 H_25 locs_26 hW_27 hS_28 h_22 => ?_)
  replace h_22 : r_23 = (dgM (X.1 22) L 1 p1).1 ∧ Y_24 = setRow (setRow (setRow X 15 w_9) 24 w_10) 15 (ps w_9 (dgM (X.1 22) L 1 p1).2.1 (dgM (X.1 22) L 1 p1).2.2) := h_22
  obtain ⟨n_29, p_30, c_31, hd_32⟩ : ∃ x9 y9 z9, dgM (X.1 22) L 1 p1 = (x9, y9, z9) := ⟨_, _, _, rfl⟩
  rw [hd_32] at h_22
  obtain ⟨h_33, h_22⟩ := h_22
  replace h_33 : r_23 = n_29 := h_33
  subst h_33
  have hp_30 : p_30 ≤ L := dgM_le (show p1 ≤ L by omega) hd_32
  rcases dgM_b hd_32 with hbc_31 | hbc_31
  · rw [hbc_31] at hd_32 h_22
    replace h_22 : Y_24 = setRow (setRow (setRow X 15 w_9) 24 w_10) 15 (ps w_9 p_30 0) := h_22
    replace h_22 : Y_24 = setRow (setRow (setRow X 15 w_9) 24 w_10) 15 (ps w_9 p_30 0) := h_22
    obtain ⟨w_34, ew_34⟩ : ∃ Z9, Z9 = ps w_9 p_30 0 := ⟨_, rfl⟩
    have qqw_34 : Y_24 = setRow (setRow (setRow X 15 w_9) 24 w_10) 15 w_34 := by rw [h_22, ew_34]
    have hW_35 : Wd G (setRow (setRow X 15 w_34) 24 w_10) H_25 := Wd.cast ((qqw_34).trans (congrArg (fun Z9 => Z9) (sr_in (by decide) sr_out))) hW_27
    have kn_36 : w_34 (7) = nI L := by rw [ew_34]; exact (ps_o (by decide) (by decide)).trans kn_12
    have kn_37 : w_34 (10) = 0 := by rw [ew_34]; exact (ps_o (by decide) (by decide)).trans kn_13
    have kn_38 : w_34 (6) = nI p_30 := by rw [ew_34]; exact ps_6
    have kn_39 : w_34 (9) = 0 := by rw [ew_34]; exact ps_9
    refine lv_istore (lv' := [(4, .int r_23), (3, .int 0), (2, .int 0), (1, .int 1), (0, .ref (ad G 723))]) hx hb dX8_command_37 hl_21 (by decide) rfl (fun ls_40 hl_41 => ?_)
    refine lv_iload_n hx hb dX8_command_39 rfl (lv_at hl_41 3 rfl) ?_
    refine lv_if_ne (tgt := 55) hx hb dX8_command_40 (by decide) (fun _ => ?_) (fun h9 => absurd h9 (by decide))
    refine lv_iload_n hx hb dX8_command_55 rfl (lv_at hl_41 3 rfl) ?_
    refine lv_if_ne (tgt := 72) hx hb dX8_command_56 (by decide) (fun _ => ?_) (fun h9 => absurd h9 (by decide))
    refine lv_iload_n hx hb dX8_command_72 rfl (lv_at hl_41 3 rfl) ?_
    refine lv_iconst (v := 1) hx hb dX8_command_73 (by decide) ?_
    refine lv_icmp_eq (tgt := 99) hx hb dX8_command_74 (by decide) (fun _ => ?_) (fun h9 => absurd h9 (by decide))
    refine lv_aload_n hx hb dX8_command_99 rfl (lv_at hl_41 4 rfl) ?_
    refine gM_isWrong C hW_35 (hwc hwX8) (mc qw_1496) dX8_command_100 ?_
    refine g_top (y := w_34 (9)) (congrFun (rd_in (by decide) rd_out) _) ?_
    refine g_top (y := 0) kn_39 ?_
    refine lv_if_ne (tgt := 112) hx hb dX8_command_103 (by decide) (fun h9 => absurd h9 (by decide)) (fun _ => ?_)
    refine lv_aload_n hx hb dX8_command_106 rfl (lv_at hl_41 4 rfl) ?_
    refine lv_iconst (v := 1) hx hb dX8_command_107 (by decide) ?_
    refine g_calli (va_runV (As := [.int 1]) (rest := []) C.1 (cX8_behind_ok l G (setRow (setRow X 15 w_34) 24 w_10) p_30 L (show p_30 ≤ L by omega) hL kn_38 kn_36 kn_39 1 (by omega)) (cwV 1 C.1.2.2.2.2 (gV qw_1915 qw_1917 qw_68 qw_81 qw_1918) rfl rfl rfl (by decide +kernel) ⟨Nat.le_of_ble_eq_true rfl, Nat.le_of_ble_eq_true rfl⟩) (g_rModel C hW_35 hS_28 [.int 1]) rfl rfl hl_41.1 rfl (lv_room (Nat.le_of_ble_eq_true rfl)) dX8_command_108 ⟨Nat.zero_le _, Nat.zero_le _⟩) hS_28 (fun r_43 Y_44 H_45 locs_46 hW_47 hS_48 h_42 => ?_)
    replace h_42 : r_43 = (bhM (X.1 22) L 1 p_30).1 ∧ Y_44 = setRow (setRow (setRow X 15 w_34) 24 w_10) 15 (ps w_34 (bhM (X.1 22) L 1 p_30).2.1 (bhM (X.1 22) L 1 p_30).2.2) := h_42
    obtain ⟨n_49, p_50, c_51, hd_52⟩ : ∃ x9 y9 z9, bhM (X.1 22) L 1 p_30 = (x9, y9, z9) := ⟨_, _, _, rfl⟩
    rw [hd_52] at h_42
    obtain ⟨h_53, h_42⟩ := h_42
    replace h_53 : r_43 = n_49 := h_53
    subst h_53
    have hp_50 : p_50 ≤ L := bhM_le (show p_30 ≤ L by omega) hd_52
    rcases bhM_b hd_52 with hbc_51 | hbc_51
    · rw [hbc_51] at hd_52 h_42
      replace h_42 : Y_44 = setRow (setRow (setRow X 15 w_34) 24 w_10) 15 (ps w_34 p_50 0) := h_42
      replace h_42 : Y_44 = setRow (setRow (setRow X 15 w_34) 24 w_10) 15 (ps w_34 p_50 0) := h_42
      obtain ⟨w_54, ew_54⟩ : ∃ Z9, Z9 = ps w_34 p_50 0 := ⟨_, rfl⟩
      have qqw_54 : Y_44 = setRow (setRow (setRow X 15 w_34) 24 w_10) 15 w_54 := by rw [h_42, ew_54]
      have hW_55 : Wd G (setRow (setRow X 15 w_54) 24 w_10) H_45 := Wd.cast ((qqw_54).trans (congrArg (fun Z9 => Z9) (sr_in (by decide) sr_out))) hW_47
      have kn_56 : w_54 (7) = nI L := by rw [ew_54]; exact (ps_o (by decide) (by decide)).trans kn_36
      have kn_57 : w_54 (10) = 0 := by rw [ew_54]; exact (ps_o (by decide) (by decide)).trans kn_37
      have kn_58 : w_54 (6) = nI p_50 := by rw [ew_54]; exact ps_6
      have kn_59 : w_54 (9) = 0 := by rw [ew_54]; exact ps_9
      refine lv_istore_n (lv' := [(2, .int r_43), (4, .int r_23), (3, .int 0), (1, .int 1), (0, .ref (ad G 723))]) hx hb dX8_command_111 rfl hl_41 (by decide) rfl (fun ls_60 hl_61 => ?_)
      refine lv_iload_n hx hb dX8_command_112 rfl (lv_at hl_61 3 rfl) ?_
      refine lv_iconst (v := 3) hx hb dX8_command_113 (by decide) ?_
      refine lv_icmp_ne (tgt := 130) hx hb dX8_command_114 (by decide) (fun _ => ?_) (fun h9 => absurd h9 (by decide))
      refine lv_aload_n hx hb dX8_command_130 rfl (lv_at hl_61 4 rfl) ?_
      refine gM_isWrong C hW_55 (hwc hwX8) (mc qw_1496) dX8_command_131 ?_
      refine g_top (y := w_54 (9)) (congrFun (rd_in (by decide) rd_out) _) ?_
      refine g_top (y := 0) kn_59 ?_
      refine lv_if_ne (tgt := 144) hx hb dX8_command_134 (by decide) (fun h9 => absurd h9 (by decide)) (fun _ => ?_)
      refine lv_aload_n hx hb dX8_command_137 rfl (lv_at hl_61 4 rfl) ?_
      refine gM_isDoing C hW_55 (hwc hwX8) (mc qw_1497) dX8_command_138 ?_
      refine g_top (y := w_54 (10)) (congrFun (rd_in (by decide) rd_out) _) ?_
      refine g_top (y := 0) kn_57 ?_
      refine lv_if_ne (tgt := 145) hx hb dX8_command_141 (by decide) (fun h9 => absurd h9 (by decide)) (fun _ => ?_)
      exact g_vret C hr hlk hW_55 hS_48 dX8_command_144 (by subst ew_54; subst ew_34; subst ew_10; subst ew_9; simp only [caA, caB, hd_32, hd_52, if_true, if_false, ps_ps, Nat.one_ne_zero])
    · rw [hbc_51] at hd_52 h_42
      replace h_42 : Y_44 = setRow (setRow (setRow X 15 w_34) 24 w_10) 15 (ps w_34 p_50 1) := h_42
      replace h_42 : Y_44 = setRow (setRow (setRow X 15 w_34) 24 w_10) 15 (ps w_34 p_50 1) := h_42
      obtain ⟨w_62, ew_62⟩ : ∃ Z9, Z9 = ps w_34 p_50 1 := ⟨_, rfl⟩
      have qqw_62 : Y_44 = setRow (setRow (setRow X 15 w_34) 24 w_10) 15 w_62 := by rw [h_42, ew_62]
      have hW_63 : Wd G (setRow (setRow X 15 w_62) 24 w_10) H_45 := Wd.cast ((qqw_62).trans (congrArg (fun Z9 => Z9) (sr_in (by decide) sr_out))) hW_47
      have kn_64 : w_62 (7) = nI L := by rw [ew_62]; exact (ps_o (by decide) (by decide)).trans kn_36
      have kn_65 : w_62 (10) = 0 := by rw [ew_62]; exact (ps_o (by decide) (by decide)).trans kn_37
      have kn_66 : w_62 (6) = nI p_50 := by rw [ew_62]; exact ps_6
      have kn_67 : w_62 (9) = 1 := by rw [ew_62]; exact ps_9
      refine lv_istore_n (lv' := [(2, .int r_43), (4, .int r_23), (3, .int 0), (1, .int 1), (0, .ref (ad G 723))]) hx hb dX8_command_111 rfl hl_41 (by decide) rfl (fun ls_68 hl_69 => ?_)
      refine lv_iload_n hx hb dX8_command_112 rfl (lv_at hl_69 3 rfl) ?_
      refine lv_iconst (v := 3) hx hb dX8_command_113 (by decide) ?_
      refine lv_icmp_ne (tgt := 130) hx hb dX8_command_114 (by decide) (fun _ => ?_) (fun h9 => absurd h9 (by decide))
      refine lv_aload_n hx hb dX8_command_130 rfl (lv_at hl_69 4 rfl) ?_
      refine gM_isWrong C hW_63 (hwc hwX8) (mc qw_1496) dX8_command_131 ?_
      refine g_top (y := w_62 (9)) (congrFun (rd_in (by decide) rd_out) _) ?_
      refine g_top (y := 1) kn_67 ?_
      refine lv_if_ne (tgt := 144) hx hb dX8_command_134 (by decide) (fun _ => ?_) (fun h9 => absurd h9 (by decide))
      exact g_vret C hr hlk hW_63 hS_48 dX8_command_144 (by subst ew_62; subst ew_34; subst ew_10; subst ew_9; simp only [caA, caB, hd_32, hd_52, if_true, if_false, ps_ps, Nat.one_ne_zero])
  · rw [hbc_31] at hd_32 h_22
    replace h_22 : Y_24 = setRow (setRow (setRow X 15 w_9) 24 w_10) 15 (ps w_9 p_30 1) := h_22
    replace h_22 : Y_24 = setRow (setRow (setRow X 15 w_9) 24 w_10) 15 (ps w_9 p_30 1) := h_22
    obtain ⟨w_70, ew_70⟩ : ∃ Z9, Z9 = ps w_9 p_30 1 := ⟨_, rfl⟩
    have qqw_70 : Y_24 = setRow (setRow (setRow X 15 w_9) 24 w_10) 15 w_70 := by rw [h_22, ew_70]
    have hW_71 : Wd G (setRow (setRow X 15 w_70) 24 w_10) H_25 := Wd.cast ((qqw_70).trans (congrArg (fun Z9 => Z9) (sr_in (by decide) sr_out))) hW_27
    have kn_72 : w_70 (7) = nI L := by rw [ew_70]; exact (ps_o (by decide) (by decide)).trans kn_12
    have kn_73 : w_70 (10) = 0 := by rw [ew_70]; exact (ps_o (by decide) (by decide)).trans kn_13
    have kn_74 : w_70 (6) = nI p_30 := by rw [ew_70]; exact ps_6
    have kn_75 : w_70 (9) = 1 := by rw [ew_70]; exact ps_9
    refine lv_istore (lv' := [(4, .int r_23), (3, .int 0), (2, .int 0), (1, .int 1), (0, .ref (ad G 723))]) hx hb dX8_command_37 hl_21 (by decide) rfl (fun ls_76 hl_77 => ?_)
    refine lv_iload_n hx hb dX8_command_39 rfl (lv_at hl_77 3 rfl) ?_
    refine lv_if_ne (tgt := 55) hx hb dX8_command_40 (by decide) (fun _ => ?_) (fun h9 => absurd h9 (by decide))
    refine lv_iload_n hx hb dX8_command_55 rfl (lv_at hl_77 3 rfl) ?_
    refine lv_if_ne (tgt := 72) hx hb dX8_command_56 (by decide) (fun _ => ?_) (fun h9 => absurd h9 (by decide))
    refine lv_iload_n hx hb dX8_command_72 rfl (lv_at hl_77 3 rfl) ?_
    refine lv_iconst (v := 1) hx hb dX8_command_73 (by decide) ?_
    refine lv_icmp_eq (tgt := 99) hx hb dX8_command_74 (by decide) (fun _ => ?_) (fun h9 => absurd h9 (by decide))
    refine lv_aload_n hx hb dX8_command_99 rfl (lv_at hl_77 4 rfl) ?_
    refine gM_isWrong C hW_71 (hwc hwX8) (mc qw_1496) dX8_command_100 ?_
    refine g_top (y := w_70 (9)) (congrFun (rd_in (by decide) rd_out) _) ?_
    refine g_top (y := 1) kn_75 ?_
    refine lv_if_ne (tgt := 112) hx hb dX8_command_103 (by decide) (fun _ => ?_) (fun h9 => absurd h9 (by decide))
    refine lv_iload_n hx hb dX8_command_112 rfl (lv_at hl_77 3 rfl) ?_
    refine lv_iconst (v := 3) hx hb dX8_command_113 (by decide) ?_
    refine lv_icmp_ne (tgt := 130) hx hb dX8_command_114 (by decide) (fun _ => ?_) (fun h9 => absurd h9 (by decide))
    refine lv_aload_n hx hb dX8_command_130 rfl (lv_at hl_77 4 rfl) ?_
    refine gM_isWrong C hW_71 (hwc hwX8) (mc qw_1496) dX8_command_131 ?_
    refine g_top (y := w_70 (9)) (congrFun (rd_in (by decide) rd_out) _) ?_
    refine g_top (y := 1) kn_75 ?_
    refine lv_if_ne (tgt := 144) hx hb dX8_command_134 (by decide) (fun _ => ?_) (fun h9 => absurd h9 (by decide))
    exact g_vret C hr hlk hW_71 hS_28 dX8_command_144 (by subst ew_70; subst ew_10; subst ew_9; simp only [caA, caB, hd_32, if_true, if_false, ps_ps, Nat.one_ne_zero])

set_option maxHeartbeats 4000000 in
set_option maxRecDepth 100000 in
theorem cX8_command02_ok (l : Launch) (G : GT) (X : St) (pp L : Nat) (hp : pp ≤ L) (hL : L ≤ 60) (e6 : X.1 15 6 = nI pp) (e7 : X.1 15 7 = nI L) (e9 : X.1 15 9 = 0) (hwd : WdOk (X.1 25) (X.1 26)) (e10 : X.1 15 10 = 0) (p1 : Nat) (hp1 : p1 ≤ L) (z1 : Nat → Int32) (hw9 : wdM (X.1 22) L pp (X.1 24) = (2, p1, 0, z1)) : MetV l G yX8_command (wsG yX8_command cX8_command 6 none) (rmz 3 66) [.ref (ad G 723)] X (fun Y => Y = setRow (setRow X 15 (ps (X.1 15) (ca2 (X.1 22) L p1).2.2.2.1 (ca2 (X.1 22) L p1).2.2.2.2)) 24 z1) := by
  refine g_met (cc := cX8_command) (maxL := 6) (ret := none) (by decide) rfl (Nat.le_of_ble_eq_true rfl) ?_
  intro p e s m below meth c ls C hr hlk hnm hW hl
  have hx := C.1.1
  have hb := C.1.2.1
  have hS : va_S (Ab G) s.heap s.heap [] := va_S.rf
  have hl : lv_has ls 6 [(0, .ref (ad G 723))] := hl
  have hW : Wd G (setRow (setRow (X) 15 (X.1 15)) 24 (X.1 24)) s.heap := Wd.cast (((sr_same (X := setRow (X) 15 (X.1 15)) (r := 24) rfl).trans (sr_same (X := X) (r := 15) rfl))).symm hW
  refine lv_aload_n hx hb dX8_command_0 rfl (lv_at hl 0 rfl) ?_
  refine g_calli (va_runV (As := []) (rest := []) C.1 (cX8_word_ok l G (setRow (setRow X 15 (X.1 15)) 24 (X.1 24)) pp L (show pp ≤ L by omega) hL e6 e7 e9 hwd) (cwV 0 C.1.2.2.2.2 (gV qw_1895 qw_1897 qw_63 qw_81 qw_1898) rfl rfl rfl (by decide +kernel) ⟨Nat.le_of_ble_eq_true rfl, Nat.le_of_ble_eq_true rfl⟩) (g_rModel C hW hS []) rfl rfl hl.1 rfl (lv_room (Nat.le_of_ble_eq_true rfl)) dX8_command_1 ⟨Nat.zero_le _, Nat.zero_le _⟩) hS (fun r_2 Y_3 H_4 locs_5 hW_6 hS_7 h_1 => ?_)
  replace h_1 : r_2 = (wdM (X.1 22) L pp (X.1 24)).1 ∧ Y_3 = setRow (setRow (setRow (setRow X 15 (X.1 15)) 24 (X.1 24)) 15 (ps (X.1 15) (wdM (X.1 22) L pp (X.1 24)).2.1 (wdM (X.1 22) L pp (X.1 24)).2.2.1)) 24 (wdM (X.1 22) L pp (X.1 24)).2.2.2 := h_1
  rw [hw9] at h_1
  obtain ⟨h_8, h_1⟩ := h_1
  replace h_8 : r_2 = 2 := h_8
  subst h_8
  replace h_1 : Y_3 = setRow (setRow (setRow (setRow X 15 (X.1 15)) 24 (X.1 24)) 15 (ps (X.1 15) p1 0)) 24 z1 := h_1
  replace h_1 : Y_3 = setRow (setRow (setRow (setRow X 15 (X.1 15)) 24 (X.1 24)) 15 (ps (X.1 15) p1 0)) 24 z1 := h_1
  obtain ⟨w_9, ew_9⟩ : ∃ Z9, Z9 = ps (X.1 15) p1 0 := ⟨_, rfl⟩
  obtain ⟨w_10, ew_10⟩ : ∃ Z9, Z9 = z1 := ⟨_, rfl⟩
  have qqw_9 : Y_3 = setRow (setRow (setRow (setRow X 15 (X.1 15)) 24 (X.1 24)) 15 w_9) 24 w_10 := by rw [h_1, ew_9, ew_10]
  have hW_11 : Wd G (setRow (setRow X 15 w_9) 24 w_10) H_4 := Wd.cast (((qqw_9).trans (congrArg (fun Z9 => setRow (Z9) 24 w_10) (sr_in (by decide) sr_out))).trans (congrArg (fun Z9 => Z9) sr_out)) hW_6
  have kn_12 : w_9 (7) = nI L := by rw [ew_9]; exact (ps_o (by decide) (by decide)).trans e7
  have kn_13 : w_9 (10) = 0 := by rw [ew_9]; exact (ps_o (by decide) (by decide)).trans e10
  have kn_14 : w_9 (6) = nI p1 := by rw [ew_9]; exact ps_6
  have kn_15 : w_9 (9) = 0 := by rw [ew_9]; exact ps_9
  refine lv_istore_n (lv' := [(1, .int 2), (0, .ref (ad G 723))]) hx hb dX8_command_4 rfl hl (by decide) rfl (fun ls_16 hl_17 => ?_)
  refine lv_iconst (v := 0) hx hb dX8_command_5 (by decide) ?_
  refine lv_istore_n (lv' := [(2, .int 0), (1, .int 2), (0, .ref (ad G 723))]) hx hb dX8_command_6 rfl hl_17 (by decide) rfl (fun ls_18 hl_19 => ?_)
  refine lv_iconst (v := 0) hx hb dX8_command_7 (by decide) ?_
  refine lv_istore_n (lv' := [(3, .int 0), (2, .int 0), (1, .int 2), (0, .ref (ad G 723))]) hx hb dX8_command_8 rfl hl_19 (by decide) rfl (fun ls_20 hl_21 => ?_)
  refine lv_aload_n hx hb dX8_command_9 rfl (lv_at hl_21 3 rfl) ?_
  refine gM_isWrong C hW_11 (hwc hwX8) (mc qw_1496) dX8_command_10 ?_
  refine g_top (y := w_9 (9)) (congrFun (rd_in (by decide) rd_out) _) ?_
  refine g_top (y := 0) kn_15 ?_
  refine lv_if_eq (tgt := 17) hx hb dX8_command_13 (by decide) (fun _ => ?_) (fun h9 => absurd h9 (by decide))
  refine lv_aload_n hx hb dX8_command_17 rfl (lv_at hl_21 3 rfl) ?_
  refine lv_iload_n hx hb dX8_command_18 rfl (lv_at hl_21 2 rfl) ?_
  refine lv_iconst (v := 5) hx hb dX8_command_19 (by decide) ?_
  refine lv_icmp_eq (tgt := 29) hx hb dX8_command_20 (by decide) (fun h9 => absurd h9 (by decide)) (fun _ => ?_)
  refine lv_iload_n hx hb dX8_command_23 rfl (lv_at hl_21 2 rfl) ?_
  refine lv_bipush (v := 8) hx hb dX8_command_24 (by decide) ?_
  refine lv_icmp_lt (tgt := 33) hx hb dX8_command_26 (by decide) (fun _ => ?_) (fun h9 => absurd h9 (by decide))
  refine lv_iconst (v := 1) hx hb dX8_command_33 (by decide) ?_
  refine g_calli (va_runV (As := [.int 1]) (rest := []) C.1 (cX8_digits_ok l G (setRow (setRow X 15 w_9) 24 w_10) p1 L (show p1 ≤ L by omega) hL kn_14 kn_12 kn_15 1 (by omega)) (cwV 1 C.1.2.2.2.2 (gV qw_1903 qw_1905 qw_65 qw_81 qw_1906) rfl rfl rfl (by decide +kernel) ⟨Nat.le_of_ble_eq_true rfl, Nat.le_of_ble_eq_true rfl⟩) (g_rModel C hW_11 hS_7 [.int 1]) rfl rfl hl_21.1 rfl (lv_room (Nat.le_of_ble_eq_true rfl)) dX8_command_34 ⟨Nat.zero_le _, Nat.zero_le _⟩) hS_7 (fun r_23 Y_24 H_25 locs_26 hW_27 hS_28 h_22 => ?_)
  replace h_22 : r_23 = (dgM (X.1 22) L 1 p1).1 ∧ Y_24 = setRow (setRow (setRow X 15 w_9) 24 w_10) 15 (ps w_9 (dgM (X.1 22) L 1 p1).2.1 (dgM (X.1 22) L 1 p1).2.2) := h_22
  obtain ⟨n_29, p_30, c_31, hd_32⟩ : ∃ x9 y9 z9, dgM (X.1 22) L 1 p1 = (x9, y9, z9) := ⟨_, _, _, rfl⟩
  rw [hd_32] at h_22
  obtain ⟨h_33, h_22⟩ := h_22
  replace h_33 : r_23 = n_29 := h_33
  subst h_33
  have hp_30 : p_30 ≤ L := dgM_le (show p1 ≤ L by omega) hd_32
  rcases dgM_b hd_32 with hbc_31 | hbc_31
  · rw [hbc_31] at hd_32 h_22
    replace h_22 : Y_24 = setRow (setRow (setRow X 15 w_9) 24 w_10) 15 (ps w_9 p_30 0) := h_22
    replace h_22 : Y_24 = setRow (setRow (setRow X 15 w_9) 24 w_10) 15 (ps w_9 p_30 0) := h_22
    obtain ⟨w_34, ew_34⟩ : ∃ Z9, Z9 = ps w_9 p_30 0 := ⟨_, rfl⟩
    have qqw_34 : Y_24 = setRow (setRow (setRow X 15 w_9) 24 w_10) 15 w_34 := by rw [h_22, ew_34]
    have hW_35 : Wd G (setRow (setRow X 15 w_34) 24 w_10) H_25 := Wd.cast ((qqw_34).trans (congrArg (fun Z9 => Z9) (sr_in (by decide) sr_out))) hW_27
    have kn_36 : w_34 (7) = nI L := by rw [ew_34]; exact (ps_o (by decide) (by decide)).trans kn_12
    have kn_37 : w_34 (10) = 0 := by rw [ew_34]; exact (ps_o (by decide) (by decide)).trans kn_13
    have kn_38 : w_34 (6) = nI p_30 := by rw [ew_34]; exact ps_6
    have kn_39 : w_34 (9) = 0 := by rw [ew_34]; exact ps_9
    refine lv_istore (lv' := [(4, .int r_23), (3, .int 0), (2, .int 0), (1, .int 2), (0, .ref (ad G 723))]) hx hb dX8_command_37 hl_21 (by decide) rfl (fun ls_40 hl_41 => ?_)
    refine lv_iload_n hx hb dX8_command_39 rfl (lv_at hl_41 3 rfl) ?_
    refine lv_if_ne (tgt := 55) hx hb dX8_command_40 (by decide) (fun _ => ?_) (fun h9 => absurd h9 (by decide))
    refine lv_iload_n hx hb dX8_command_55 rfl (lv_at hl_41 3 rfl) ?_
    refine lv_if_ne (tgt := 72) hx hb dX8_command_56 (by decide) (fun _ => ?_) (fun h9 => absurd h9 (by decide))
    refine lv_iload_n hx hb dX8_command_72 rfl (lv_at hl_41 3 rfl) ?_
    refine lv_iconst (v := 1) hx hb dX8_command_73 (by decide) ?_
    refine lv_icmp_eq (tgt := 99) hx hb dX8_command_74 (by decide) (fun h9 => absurd h9 (by decide)) (fun _ => ?_)
    refine lv_iload_n hx hb dX8_command_77 rfl (lv_at hl_41 3 rfl) ?_
    refine lv_iconst (v := 3) hx hb dX8_command_78 (by decide) ?_
    refine lv_icmp_eq (tgt := 99) hx hb dX8_command_79 (by decide) (fun h9 => absurd h9 (by decide)) (fun _ => ?_)
    refine lv_iload_n hx hb dX8_command_82 rfl (lv_at hl_41 3 rfl) ?_
    refine lv_iconst (v := 4) hx hb dX8_command_83 (by decide) ?_
    refine lv_icmp_eq (tgt := 99) hx hb dX8_command_84 (by decide) (fun h9 => absurd h9 (by decide)) (fun _ => ?_)
    refine lv_iload_n hx hb dX8_command_87 rfl (lv_at hl_41 3 rfl) ?_
    refine lv_bipush (v := 6) hx hb dX8_command_88 (by decide) ?_
    refine lv_icmp_eq (tgt := 99) hx hb dX8_command_90 (by decide) (fun h9 => absurd h9 (by decide)) (fun _ => ?_)
    refine lv_iload_n hx hb dX8_command_93 rfl (lv_at hl_41 3 rfl) ?_
    refine lv_bipush (v := 8) hx hb dX8_command_94 (by decide) ?_
    refine lv_icmp_ne (tgt := 112) hx hb dX8_command_96 (by decide) (fun _ => ?_) (fun h9 => absurd h9 (by decide))
    refine lv_iload_n hx hb dX8_command_112 rfl (lv_at hl_41 3 rfl) ?_
    refine lv_iconst (v := 3) hx hb dX8_command_113 (by decide) ?_
    refine lv_icmp_ne (tgt := 130) hx hb dX8_command_114 (by decide) (fun _ => ?_) (fun h9 => absurd h9 (by decide))
    refine lv_aload_n hx hb dX8_command_130 rfl (lv_at hl_41 4 rfl) ?_
    refine gM_isWrong C hW_35 (hwc hwX8) (mc qw_1496) dX8_command_131 ?_
    refine g_top (y := w_34 (9)) (congrFun (rd_in (by decide) rd_out) _) ?_
    refine g_top (y := 0) kn_39 ?_
    refine lv_if_ne (tgt := 144) hx hb dX8_command_134 (by decide) (fun h9 => absurd h9 (by decide)) (fun _ => ?_)
    refine lv_aload_n hx hb dX8_command_137 rfl (lv_at hl_41 4 rfl) ?_
    refine gM_isDoing C hW_35 (hwc hwX8) (mc qw_1497) dX8_command_138 ?_
    refine g_top (y := w_34 (10)) (congrFun (rd_in (by decide) rd_out) _) ?_
    refine g_top (y := 0) kn_37 ?_
    refine lv_if_ne (tgt := 145) hx hb dX8_command_141 (by decide) (fun h9 => absurd h9 (by decide)) (fun _ => ?_)
    exact g_vret C hr hlk hW_35 hS_28 dX8_command_144 (by subst ew_34; subst ew_10; subst ew_9; simp only [ca2, hd_32, if_true, if_false, ps_ps, Nat.one_ne_zero])
  · rw [hbc_31] at hd_32 h_22
    replace h_22 : Y_24 = setRow (setRow (setRow X 15 w_9) 24 w_10) 15 (ps w_9 p_30 1) := h_22
    replace h_22 : Y_24 = setRow (setRow (setRow X 15 w_9) 24 w_10) 15 (ps w_9 p_30 1) := h_22
    obtain ⟨w_42, ew_42⟩ : ∃ Z9, Z9 = ps w_9 p_30 1 := ⟨_, rfl⟩
    have qqw_42 : Y_24 = setRow (setRow (setRow X 15 w_9) 24 w_10) 15 w_42 := by rw [h_22, ew_42]
    have hW_43 : Wd G (setRow (setRow X 15 w_42) 24 w_10) H_25 := Wd.cast ((qqw_42).trans (congrArg (fun Z9 => Z9) (sr_in (by decide) sr_out))) hW_27
    have kn_44 : w_42 (7) = nI L := by rw [ew_42]; exact (ps_o (by decide) (by decide)).trans kn_12
    have kn_45 : w_42 (10) = 0 := by rw [ew_42]; exact (ps_o (by decide) (by decide)).trans kn_13
    have kn_46 : w_42 (6) = nI p_30 := by rw [ew_42]; exact ps_6
    have kn_47 : w_42 (9) = 1 := by rw [ew_42]; exact ps_9
    refine lv_istore (lv' := [(4, .int r_23), (3, .int 0), (2, .int 0), (1, .int 2), (0, .ref (ad G 723))]) hx hb dX8_command_37 hl_21 (by decide) rfl (fun ls_48 hl_49 => ?_)
    refine lv_iload_n hx hb dX8_command_39 rfl (lv_at hl_49 3 rfl) ?_
    refine lv_if_ne (tgt := 55) hx hb dX8_command_40 (by decide) (fun _ => ?_) (fun h9 => absurd h9 (by decide))
    refine lv_iload_n hx hb dX8_command_55 rfl (lv_at hl_49 3 rfl) ?_
    refine lv_if_ne (tgt := 72) hx hb dX8_command_56 (by decide) (fun _ => ?_) (fun h9 => absurd h9 (by decide))
    refine lv_iload_n hx hb dX8_command_72 rfl (lv_at hl_49 3 rfl) ?_
    refine lv_iconst (v := 1) hx hb dX8_command_73 (by decide) ?_
    refine lv_icmp_eq (tgt := 99) hx hb dX8_command_74 (by decide) (fun h9 => absurd h9 (by decide)) (fun _ => ?_)
    refine lv_iload_n hx hb dX8_command_77 rfl (lv_at hl_49 3 rfl) ?_
    refine lv_iconst (v := 3) hx hb dX8_command_78 (by decide) ?_
    refine lv_icmp_eq (tgt := 99) hx hb dX8_command_79 (by decide) (fun h9 => absurd h9 (by decide)) (fun _ => ?_)
    refine lv_iload_n hx hb dX8_command_82 rfl (lv_at hl_49 3 rfl) ?_
    refine lv_iconst (v := 4) hx hb dX8_command_83 (by decide) ?_
    refine lv_icmp_eq (tgt := 99) hx hb dX8_command_84 (by decide) (fun h9 => absurd h9 (by decide)) (fun _ => ?_)
    refine lv_iload_n hx hb dX8_command_87 rfl (lv_at hl_49 3 rfl) ?_
    refine lv_bipush (v := 6) hx hb dX8_command_88 (by decide) ?_
    refine lv_icmp_eq (tgt := 99) hx hb dX8_command_90 (by decide) (fun h9 => absurd h9 (by decide)) (fun _ => ?_)
    refine lv_iload_n hx hb dX8_command_93 rfl (lv_at hl_49 3 rfl) ?_
    refine lv_bipush (v := 8) hx hb dX8_command_94 (by decide) ?_
    refine lv_icmp_ne (tgt := 112) hx hb dX8_command_96 (by decide) (fun _ => ?_) (fun h9 => absurd h9 (by decide))
    refine lv_iload_n hx hb dX8_command_112 rfl (lv_at hl_49 3 rfl) ?_
    refine lv_iconst (v := 3) hx hb dX8_command_113 (by decide) ?_
    refine lv_icmp_ne (tgt := 130) hx hb dX8_command_114 (by decide) (fun _ => ?_) (fun h9 => absurd h9 (by decide))
    refine lv_aload_n hx hb dX8_command_130 rfl (lv_at hl_49 4 rfl) ?_
    refine gM_isWrong C hW_43 (hwc hwX8) (mc qw_1496) dX8_command_131 ?_
    refine g_top (y := w_42 (9)) (congrFun (rd_in (by decide) rd_out) _) ?_
    refine g_top (y := 1) kn_47 ?_
    refine lv_if_ne (tgt := 144) hx hb dX8_command_134 (by decide) (fun _ => ?_) (fun h9 => absurd h9 (by decide))
    exact g_vret C hr hlk hW_43 hS_28 dX8_command_144 (by subst ew_42; subst ew_10; subst ew_9; simp only [ca2, hd_32, if_true, if_false, ps_ps, Nat.one_ne_zero])

set_option maxHeartbeats 4000000 in
set_option maxRecDepth 100000 in
theorem cX8_command03_ok (l : Launch) (G : GT) (X : St) (pp L : Nat) (hp : pp ≤ L) (hL : L ≤ 60) (e6 : X.1 15 6 = nI pp) (e7 : X.1 15 7 = nI L) (e9 : X.1 15 9 = 0) (hwd : WdOk (X.1 25) (X.1 26)) (e10 : X.1 15 10 = 0) (p1 : Nat) (hp1 : p1 ≤ L) (z1 : Nat → Int32) (hw9 : wdM (X.1 22) L pp (X.1 24) = (3, p1, 0, z1)) : MetV l G yX8_command (wsG yX8_command cX8_command 6 none) (rmz 3 66) [.ref (ad G 723)] X (fun Y => Y = setRow (setRow X 15 (ps (X.1 15) (ca3 (X.1 22) L p1).2.2.2.1 (ca3 (X.1 22) L p1).2.2.2.2)) 24 z1) := by
  refine g_met (cc := cX8_command) (maxL := 6) (ret := none) (by decide) rfl (Nat.le_of_ble_eq_true rfl) ?_
  intro p e s m below meth c ls C hr hlk hnm hW hl
  have hx := C.1.1
  have hb := C.1.2.1
  have hS : va_S (Ab G) s.heap s.heap [] := va_S.rf
  have hl : lv_has ls 6 [(0, .ref (ad G 723))] := hl
  have hW : Wd G (setRow (setRow (X) 15 (X.1 15)) 24 (X.1 24)) s.heap := Wd.cast (((sr_same (X := setRow (X) 15 (X.1 15)) (r := 24) rfl).trans (sr_same (X := X) (r := 15) rfl))).symm hW
  refine lv_aload_n hx hb dX8_command_0 rfl (lv_at hl 0 rfl) ?_
  refine g_calli (va_runV (As := []) (rest := []) C.1 (cX8_word_ok l G (setRow (setRow X 15 (X.1 15)) 24 (X.1 24)) pp L (show pp ≤ L by omega) hL e6 e7 e9 hwd) (cwV 0 C.1.2.2.2.2 (gV qw_1895 qw_1897 qw_63 qw_81 qw_1898) rfl rfl rfl (by decide +kernel) ⟨Nat.le_of_ble_eq_true rfl, Nat.le_of_ble_eq_true rfl⟩) (g_rModel C hW hS []) rfl rfl hl.1 rfl (lv_room (Nat.le_of_ble_eq_true rfl)) dX8_command_1 ⟨Nat.zero_le _, Nat.zero_le _⟩) hS (fun r_2 Y_3 H_4 locs_5 hW_6 hS_7 h_1 => ?_)
  replace h_1 : r_2 = (wdM (X.1 22) L pp (X.1 24)).1 ∧ Y_3 = setRow (setRow (setRow (setRow X 15 (X.1 15)) 24 (X.1 24)) 15 (ps (X.1 15) (wdM (X.1 22) L pp (X.1 24)).2.1 (wdM (X.1 22) L pp (X.1 24)).2.2.1)) 24 (wdM (X.1 22) L pp (X.1 24)).2.2.2 := h_1
  rw [hw9] at h_1
  obtain ⟨h_8, h_1⟩ := h_1
  replace h_8 : r_2 = 3 := h_8
  subst h_8
  replace h_1 : Y_3 = setRow (setRow (setRow (setRow X 15 (X.1 15)) 24 (X.1 24)) 15 (ps (X.1 15) p1 0)) 24 z1 := h_1
  replace h_1 : Y_3 = setRow (setRow (setRow (setRow X 15 (X.1 15)) 24 (X.1 24)) 15 (ps (X.1 15) p1 0)) 24 z1 := h_1
  obtain ⟨w_9, ew_9⟩ : ∃ Z9, Z9 = ps (X.1 15) p1 0 := ⟨_, rfl⟩
  obtain ⟨w_10, ew_10⟩ : ∃ Z9, Z9 = z1 := ⟨_, rfl⟩
  have qqw_9 : Y_3 = setRow (setRow (setRow (setRow X 15 (X.1 15)) 24 (X.1 24)) 15 w_9) 24 w_10 := by rw [h_1, ew_9, ew_10]
  have hW_11 : Wd G (setRow (setRow X 15 w_9) 24 w_10) H_4 := Wd.cast (((qqw_9).trans (congrArg (fun Z9 => setRow (Z9) 24 w_10) (sr_in (by decide) sr_out))).trans (congrArg (fun Z9 => Z9) sr_out)) hW_6
  have kn_12 : w_9 (7) = nI L := by rw [ew_9]; exact (ps_o (by decide) (by decide)).trans e7
  have kn_13 : w_9 (10) = 0 := by rw [ew_9]; exact (ps_o (by decide) (by decide)).trans e10
  have kn_14 : w_9 (6) = nI p1 := by rw [ew_9]; exact ps_6
  have kn_15 : w_9 (9) = 0 := by rw [ew_9]; exact ps_9
  refine lv_istore_n (lv' := [(1, .int 3), (0, .ref (ad G 723))]) hx hb dX8_command_4 rfl hl (by decide) rfl (fun ls_16 hl_17 => ?_)
  refine lv_iconst (v := 0) hx hb dX8_command_5 (by decide) ?_
  refine lv_istore_n (lv' := [(2, .int 0), (1, .int 3), (0, .ref (ad G 723))]) hx hb dX8_command_6 rfl hl_17 (by decide) rfl (fun ls_18 hl_19 => ?_)
  refine lv_iconst (v := 0) hx hb dX8_command_7 (by decide) ?_
  refine lv_istore_n (lv' := [(3, .int 0), (2, .int 0), (1, .int 3), (0, .ref (ad G 723))]) hx hb dX8_command_8 rfl hl_19 (by decide) rfl (fun ls_20 hl_21 => ?_)
  refine lv_aload_n hx hb dX8_command_9 rfl (lv_at hl_21 3 rfl) ?_
  refine gM_isWrong C hW_11 (hwc hwX8) (mc qw_1496) dX8_command_10 ?_
  refine g_top (y := w_9 (9)) (congrFun (rd_in (by decide) rd_out) _) ?_
  refine g_top (y := 0) kn_15 ?_
  refine lv_if_eq (tgt := 17) hx hb dX8_command_13 (by decide) (fun _ => ?_) (fun h9 => absurd h9 (by decide))
  refine lv_aload_n hx hb dX8_command_17 rfl (lv_at hl_21 3 rfl) ?_
  refine lv_iload_n hx hb dX8_command_18 rfl (lv_at hl_21 2 rfl) ?_
  refine lv_iconst (v := 5) hx hb dX8_command_19 (by decide) ?_
  refine lv_icmp_eq (tgt := 29) hx hb dX8_command_20 (by decide) (fun h9 => absurd h9 (by decide)) (fun _ => ?_)
  refine lv_iload_n hx hb dX8_command_23 rfl (lv_at hl_21 2 rfl) ?_
  refine lv_bipush (v := 8) hx hb dX8_command_24 (by decide) ?_
  refine lv_icmp_lt (tgt := 33) hx hb dX8_command_26 (by decide) (fun _ => ?_) (fun h9 => absurd h9 (by decide))
  refine lv_iconst (v := 1) hx hb dX8_command_33 (by decide) ?_
  refine g_calli (va_runV (As := [.int 1]) (rest := []) C.1 (cX8_digits_ok l G (setRow (setRow X 15 w_9) 24 w_10) p1 L (show p1 ≤ L by omega) hL kn_14 kn_12 kn_15 1 (by omega)) (cwV 1 C.1.2.2.2.2 (gV qw_1903 qw_1905 qw_65 qw_81 qw_1906) rfl rfl rfl (by decide +kernel) ⟨Nat.le_of_ble_eq_true rfl, Nat.le_of_ble_eq_true rfl⟩) (g_rModel C hW_11 hS_7 [.int 1]) rfl rfl hl_21.1 rfl (lv_room (Nat.le_of_ble_eq_true rfl)) dX8_command_34 ⟨Nat.zero_le _, Nat.zero_le _⟩) hS_7 (fun r_23 Y_24 H_25 locs_26 hW_27 hS_28 h_22 => ?_)
  replace h_22 : r_23 = (dgM (X.1 22) L 1 p1).1 ∧ Y_24 = setRow (setRow (setRow X 15 w_9) 24 w_10) 15 (ps w_9 (dgM (X.1 22) L 1 p1).2.1 (dgM (X.1 22) L 1 p1).2.2) := h_22
  obtain ⟨n_29, p_30, c_31, hd_32⟩ : ∃ x9 y9 z9, dgM (X.1 22) L 1 p1 = (x9, y9, z9) := ⟨_, _, _, rfl⟩
  rw [hd_32] at h_22
  obtain ⟨h_33, h_22⟩ := h_22
  replace h_33 : r_23 = n_29 := h_33
  subst h_33
  have hp_30 : p_30 ≤ L := dgM_le (show p1 ≤ L by omega) hd_32
  rcases dgM_b hd_32 with hbc_31 | hbc_31
  · rw [hbc_31] at hd_32 h_22
    replace h_22 : Y_24 = setRow (setRow (setRow X 15 w_9) 24 w_10) 15 (ps w_9 p_30 0) := h_22
    replace h_22 : Y_24 = setRow (setRow (setRow X 15 w_9) 24 w_10) 15 (ps w_9 p_30 0) := h_22
    obtain ⟨w_34, ew_34⟩ : ∃ Z9, Z9 = ps w_9 p_30 0 := ⟨_, rfl⟩
    have qqw_34 : Y_24 = setRow (setRow (setRow X 15 w_9) 24 w_10) 15 w_34 := by rw [h_22, ew_34]
    have hW_35 : Wd G (setRow (setRow X 15 w_34) 24 w_10) H_25 := Wd.cast ((qqw_34).trans (congrArg (fun Z9 => Z9) (sr_in (by decide) sr_out))) hW_27
    have kn_36 : w_34 (7) = nI L := by rw [ew_34]; exact (ps_o (by decide) (by decide)).trans kn_12
    have kn_37 : w_34 (10) = 0 := by rw [ew_34]; exact (ps_o (by decide) (by decide)).trans kn_13
    have kn_38 : w_34 (6) = nI p_30 := by rw [ew_34]; exact ps_6
    have kn_39 : w_34 (9) = 0 := by rw [ew_34]; exact ps_9
    refine lv_istore (lv' := [(4, .int r_23), (3, .int 0), (2, .int 0), (1, .int 3), (0, .ref (ad G 723))]) hx hb dX8_command_37 hl_21 (by decide) rfl (fun ls_40 hl_41 => ?_)
    refine lv_iload_n hx hb dX8_command_39 rfl (lv_at hl_41 3 rfl) ?_
    refine lv_if_ne (tgt := 55) hx hb dX8_command_40 (by decide) (fun _ => ?_) (fun h9 => absurd h9 (by decide))
    refine lv_iload_n hx hb dX8_command_55 rfl (lv_at hl_41 3 rfl) ?_
    refine lv_if_ne (tgt := 72) hx hb dX8_command_56 (by decide) (fun _ => ?_) (fun h9 => absurd h9 (by decide))
    refine lv_iload_n hx hb dX8_command_72 rfl (lv_at hl_41 3 rfl) ?_
    refine lv_iconst (v := 1) hx hb dX8_command_73 (by decide) ?_
    refine lv_icmp_eq (tgt := 99) hx hb dX8_command_74 (by decide) (fun h9 => absurd h9 (by decide)) (fun _ => ?_)
    refine lv_iload_n hx hb dX8_command_77 rfl (lv_at hl_41 3 rfl) ?_
    refine lv_iconst (v := 3) hx hb dX8_command_78 (by decide) ?_
    refine lv_icmp_eq (tgt := 99) hx hb dX8_command_79 (by decide) (fun _ => ?_) (fun h9 => absurd h9 (by decide))
    refine lv_aload_n hx hb dX8_command_99 rfl (lv_at hl_41 4 rfl) ?_
    refine gM_isWrong C hW_35 (hwc hwX8) (mc qw_1496) dX8_command_100 ?_
    refine g_top (y := w_34 (9)) (congrFun (rd_in (by decide) rd_out) _) ?_
    refine g_top (y := 0) kn_39 ?_
    refine lv_if_ne (tgt := 112) hx hb dX8_command_103 (by decide) (fun h9 => absurd h9 (by decide)) (fun _ => ?_)
    refine lv_aload_n hx hb dX8_command_106 rfl (lv_at hl_41 4 rfl) ?_
    refine lv_iconst (v := 1) hx hb dX8_command_107 (by decide) ?_
    refine g_calli (va_runV (As := [.int 1]) (rest := []) C.1 (cX8_behind_ok l G (setRow (setRow X 15 w_34) 24 w_10) p_30 L (show p_30 ≤ L by omega) hL kn_38 kn_36 kn_39 1 (by omega)) (cwV 1 C.1.2.2.2.2 (gV qw_1915 qw_1917 qw_68 qw_81 qw_1918) rfl rfl rfl (by decide +kernel) ⟨Nat.le_of_ble_eq_true rfl, Nat.le_of_ble_eq_true rfl⟩) (g_rModel C hW_35 hS_28 [.int 1]) rfl rfl hl_41.1 rfl (lv_room (Nat.le_of_ble_eq_true rfl)) dX8_command_108 ⟨Nat.zero_le _, Nat.zero_le _⟩) hS_28 (fun r_43 Y_44 H_45 locs_46 hW_47 hS_48 h_42 => ?_)
    replace h_42 : r_43 = (bhM (X.1 22) L 1 p_30).1 ∧ Y_44 = setRow (setRow (setRow X 15 w_34) 24 w_10) 15 (ps w_34 (bhM (X.1 22) L 1 p_30).2.1 (bhM (X.1 22) L 1 p_30).2.2) := h_42
    obtain ⟨n_49, p_50, c_51, hd_52⟩ : ∃ x9 y9 z9, bhM (X.1 22) L 1 p_30 = (x9, y9, z9) := ⟨_, _, _, rfl⟩
    rw [hd_52] at h_42
    obtain ⟨h_53, h_42⟩ := h_42
    replace h_53 : r_43 = n_49 := h_53
    subst h_53
    have hp_50 : p_50 ≤ L := bhM_le (show p_30 ≤ L by omega) hd_52
    rcases bhM_b hd_52 with hbc_51 | hbc_51
    · rw [hbc_51] at hd_52 h_42
      replace h_42 : Y_44 = setRow (setRow (setRow X 15 w_34) 24 w_10) 15 (ps w_34 p_50 0) := h_42
      replace h_42 : Y_44 = setRow (setRow (setRow X 15 w_34) 24 w_10) 15 (ps w_34 p_50 0) := h_42
      obtain ⟨w_54, ew_54⟩ : ∃ Z9, Z9 = ps w_34 p_50 0 := ⟨_, rfl⟩
      have qqw_54 : Y_44 = setRow (setRow (setRow X 15 w_34) 24 w_10) 15 w_54 := by rw [h_42, ew_54]
      have hW_55 : Wd G (setRow (setRow X 15 w_54) 24 w_10) H_45 := Wd.cast ((qqw_54).trans (congrArg (fun Z9 => Z9) (sr_in (by decide) sr_out))) hW_47
      have kn_56 : w_54 (7) = nI L := by rw [ew_54]; exact (ps_o (by decide) (by decide)).trans kn_36
      have kn_57 : w_54 (10) = 0 := by rw [ew_54]; exact (ps_o (by decide) (by decide)).trans kn_37
      have kn_58 : w_54 (6) = nI p_50 := by rw [ew_54]; exact ps_6
      have kn_59 : w_54 (9) = 0 := by rw [ew_54]; exact ps_9
      refine lv_istore_n (lv' := [(2, .int r_43), (4, .int r_23), (3, .int 0), (1, .int 3), (0, .ref (ad G 723))]) hx hb dX8_command_111 rfl hl_41 (by decide) rfl (fun ls_60 hl_61 => ?_)
      refine lv_iload_n hx hb dX8_command_112 rfl (lv_at hl_61 3 rfl) ?_
      refine lv_iconst (v := 3) hx hb dX8_command_113 (by decide) ?_
      refine lv_icmp_ne (tgt := 130) hx hb dX8_command_114 (by decide) (fun h9 => absurd h9 (by decide)) (fun _ => ?_)
      refine lv_aload_n hx hb dX8_command_117 rfl (lv_at hl_61 4 rfl) ?_
      refine gM_isWrong C hW_55 (hwc hwX8) (mc qw_1496) dX8_command_118 ?_
      refine g_top (y := w_54 (9)) (congrFun (rd_in (by decide) rd_out) _) ?_
      refine g_top (y := 0) kn_59 ?_
      refine lv_if_ne (tgt := 130) hx hb dX8_command_121 (by decide) (fun h9 => absurd h9 (by decide)) (fun _ => ?_)
      refine lv_aload_n hx hb dX8_command_124 rfl (lv_at hl_61 4 rfl) ?_
      refine lv_iconst (v := 3) hx hb dX8_command_125 (by decide) ?_
      refine g_calli (va_runV (As := [.int 3]) (rest := []) C.1 (cX8_behind_ok l G (setRow (setRow X 15 w_54) 24 w_10) p_50 L (show p_50 ≤ L by omega) hL kn_58 kn_56 kn_59 3 (by omega)) (cwV 1 C.1.2.2.2.2 (gV qw_1915 qw_1917 qw_68 qw_81 qw_1918) rfl rfl rfl (by decide +kernel) ⟨Nat.le_of_ble_eq_true rfl, Nat.le_of_ble_eq_true rfl⟩) (g_rModel C hW_55 hS_48 [.int 3]) rfl rfl hl_61.1 rfl (lv_room (Nat.le_of_ble_eq_true rfl)) dX8_command_126 ⟨Nat.zero_le _, Nat.zero_le _⟩) hS_48 (fun r_63 Y_64 H_65 locs_66 hW_67 hS_68 h_62 => ?_)
      replace h_62 : r_63 = (bhM (X.1 22) L 3 p_50).1 ∧ Y_64 = setRow (setRow (setRow X 15 w_54) 24 w_10) 15 (ps w_54 (bhM (X.1 22) L 3 p_50).2.1 (bhM (X.1 22) L 3 p_50).2.2) := h_62
      obtain ⟨n_69, p_70, c_71, hd_72⟩ : ∃ x9 y9 z9, bhM (X.1 22) L 3 p_50 = (x9, y9, z9) := ⟨_, _, _, rfl⟩
      rw [hd_72] at h_62
      obtain ⟨h_73, h_62⟩ := h_62
      replace h_73 : r_63 = n_69 := h_73
      subst h_73
      have hp_70 : p_70 ≤ L := bhM_le (show p_50 ≤ L by omega) hd_72
      rcases bhM_b hd_72 with hbc_71 | hbc_71
      · rw [hbc_71] at hd_72 h_62
        replace h_62 : Y_64 = setRow (setRow (setRow X 15 w_54) 24 w_10) 15 (ps w_54 p_70 0) := h_62
        replace h_62 : Y_64 = setRow (setRow (setRow X 15 w_54) 24 w_10) 15 (ps w_54 p_70 0) := h_62
        obtain ⟨w_74, ew_74⟩ : ∃ Z9, Z9 = ps w_54 p_70 0 := ⟨_, rfl⟩
        have qqw_74 : Y_64 = setRow (setRow (setRow X 15 w_54) 24 w_10) 15 w_74 := by rw [h_62, ew_74]
        have hW_75 : Wd G (setRow (setRow X 15 w_74) 24 w_10) H_65 := Wd.cast ((qqw_74).trans (congrArg (fun Z9 => Z9) (sr_in (by decide) sr_out))) hW_67
        have kn_76 : w_74 (7) = nI L := by rw [ew_74]; exact (ps_o (by decide) (by decide)).trans kn_56
        have kn_77 : w_74 (10) = 0 := by rw [ew_74]; exact (ps_o (by decide) (by decide)).trans kn_57
        have kn_78 : w_74 (6) = nI p_70 := by rw [ew_74]; exact ps_6
        have kn_79 : w_74 (9) = 0 := by rw [ew_74]; exact ps_9
        refine lv_istore_n (lv' := [(3, .int r_63), (2, .int r_43), (4, .int r_23), (1, .int 3), (0, .ref (ad G 723))]) hx hb dX8_command_129 rfl hl_61 (by decide) rfl (fun ls_80 hl_81 => ?_)
        refine lv_aload_n hx hb dX8_command_130 rfl (lv_at hl_81 4 rfl) ?_
        refine gM_isWrong C hW_75 (hwc hwX8) (mc qw_1496) dX8_command_131 ?_
        refine g_top (y := w_74 (9)) (congrFun (rd_in (by decide) rd_out) _) ?_
        refine g_top (y := 0) kn_79 ?_
        refine lv_if_ne (tgt := 144) hx hb dX8_command_134 (by decide) (fun h9 => absurd h9 (by decide)) (fun _ => ?_)
        refine lv_aload_n hx hb dX8_command_137 rfl (lv_at hl_81 4 rfl) ?_
        refine gM_isDoing C hW_75 (hwc hwX8) (mc qw_1497) dX8_command_138 ?_
        refine g_top (y := w_74 (10)) (congrFun (rd_in (by decide) rd_out) _) ?_
        refine g_top (y := 0) kn_77 ?_
        refine lv_if_ne (tgt := 145) hx hb dX8_command_141 (by decide) (fun h9 => absurd h9 (by decide)) (fun _ => ?_)
        exact g_vret C hr hlk hW_75 hS_68 dX8_command_144 (by subst ew_74; subst ew_54; subst ew_34; subst ew_10; subst ew_9; simp only [ca3, hd_32, hd_52, hd_72, if_true, if_false, ps_ps, Nat.one_ne_zero])
      · rw [hbc_71] at hd_72 h_62
        replace h_62 : Y_64 = setRow (setRow (setRow X 15 w_54) 24 w_10) 15 (ps w_54 p_70 1) := h_62
        replace h_62 : Y_64 = setRow (setRow (setRow X 15 w_54) 24 w_10) 15 (ps w_54 p_70 1) := h_62
        obtain ⟨w_82, ew_82⟩ : ∃ Z9, Z9 = ps w_54 p_70 1 := ⟨_, rfl⟩
        have qqw_82 : Y_64 = setRow (setRow (setRow X 15 w_54) 24 w_10) 15 w_82 := by rw [h_62, ew_82]
        have hW_83 : Wd G (setRow (setRow X 15 w_82) 24 w_10) H_65 := Wd.cast ((qqw_82).trans (congrArg (fun Z9 => Z9) (sr_in (by decide) sr_out))) hW_67
        have kn_84 : w_82 (7) = nI L := by rw [ew_82]; exact (ps_o (by decide) (by decide)).trans kn_56
        have kn_85 : w_82 (10) = 0 := by rw [ew_82]; exact (ps_o (by decide) (by decide)).trans kn_57
        have kn_86 : w_82 (6) = nI p_70 := by rw [ew_82]; exact ps_6
        have kn_87 : w_82 (9) = 1 := by rw [ew_82]; exact ps_9
        refine lv_istore_n (lv' := [(3, .int r_63), (2, .int r_43), (4, .int r_23), (1, .int 3), (0, .ref (ad G 723))]) hx hb dX8_command_129 rfl hl_61 (by decide) rfl (fun ls_88 hl_89 => ?_)
        refine lv_aload_n hx hb dX8_command_130 rfl (lv_at hl_89 4 rfl) ?_
        refine gM_isWrong C hW_83 (hwc hwX8) (mc qw_1496) dX8_command_131 ?_
        refine g_top (y := w_82 (9)) (congrFun (rd_in (by decide) rd_out) _) ?_
        refine g_top (y := 1) kn_87 ?_
        refine lv_if_ne (tgt := 144) hx hb dX8_command_134 (by decide) (fun _ => ?_) (fun h9 => absurd h9 (by decide))
        exact g_vret C hr hlk hW_83 hS_68 dX8_command_144 (by subst ew_82; subst ew_54; subst ew_34; subst ew_10; subst ew_9; simp only [ca3, hd_32, hd_52, hd_72, if_true, if_false, ps_ps, Nat.one_ne_zero])
    · rw [hbc_51] at hd_52 h_42
      replace h_42 : Y_44 = setRow (setRow (setRow X 15 w_34) 24 w_10) 15 (ps w_34 p_50 1) := h_42
      replace h_42 : Y_44 = setRow (setRow (setRow X 15 w_34) 24 w_10) 15 (ps w_34 p_50 1) := h_42
      obtain ⟨w_90, ew_90⟩ : ∃ Z9, Z9 = ps w_34 p_50 1 := ⟨_, rfl⟩
      have qqw_90 : Y_44 = setRow (setRow (setRow X 15 w_34) 24 w_10) 15 w_90 := by rw [h_42, ew_90]
      have hW_91 : Wd G (setRow (setRow X 15 w_90) 24 w_10) H_45 := Wd.cast ((qqw_90).trans (congrArg (fun Z9 => Z9) (sr_in (by decide) sr_out))) hW_47
      have kn_92 : w_90 (7) = nI L := by rw [ew_90]; exact (ps_o (by decide) (by decide)).trans kn_36
      have kn_93 : w_90 (10) = 0 := by rw [ew_90]; exact (ps_o (by decide) (by decide)).trans kn_37
      have kn_94 : w_90 (6) = nI p_50 := by rw [ew_90]; exact ps_6
      have kn_95 : w_90 (9) = 1 := by rw [ew_90]; exact ps_9
      refine lv_istore_n (lv' := [(2, .int r_43), (4, .int r_23), (3, .int 0), (1, .int 3), (0, .ref (ad G 723))]) hx hb dX8_command_111 rfl hl_41 (by decide) rfl (fun ls_96 hl_97 => ?_)
      refine lv_iload_n hx hb dX8_command_112 rfl (lv_at hl_97 3 rfl) ?_
      refine lv_iconst (v := 3) hx hb dX8_command_113 (by decide) ?_
      refine lv_icmp_ne (tgt := 130) hx hb dX8_command_114 (by decide) (fun h9 => absurd h9 (by decide)) (fun _ => ?_)
      refine lv_aload_n hx hb dX8_command_117 rfl (lv_at hl_97 4 rfl) ?_
      refine gM_isWrong C hW_91 (hwc hwX8) (mc qw_1496) dX8_command_118 ?_
      refine g_top (y := w_90 (9)) (congrFun (rd_in (by decide) rd_out) _) ?_
      refine g_top (y := 1) kn_95 ?_
      refine lv_if_ne (tgt := 130) hx hb dX8_command_121 (by decide) (fun _ => ?_) (fun h9 => absurd h9 (by decide))
      refine lv_aload_n hx hb dX8_command_130 rfl (lv_at hl_97 4 rfl) ?_
      refine gM_isWrong C hW_91 (hwc hwX8) (mc qw_1496) dX8_command_131 ?_
      refine g_top (y := w_90 (9)) (congrFun (rd_in (by decide) rd_out) _) ?_
      refine g_top (y := 1) kn_95 ?_
      refine lv_if_ne (tgt := 144) hx hb dX8_command_134 (by decide) (fun _ => ?_) (fun h9 => absurd h9 (by decide))
      exact g_vret C hr hlk hW_91 hS_48 dX8_command_144 (by subst ew_90; subst ew_34; subst ew_10; subst ew_9; simp only [ca3, hd_32, hd_52, if_true, if_false, ps_ps, Nat.one_ne_zero])
  · rw [hbc_31] at hd_32 h_22
    replace h_22 : Y_24 = setRow (setRow (setRow X 15 w_9) 24 w_10) 15 (ps w_9 p_30 1) := h_22
    replace h_22 : Y_24 = setRow (setRow (setRow X 15 w_9) 24 w_10) 15 (ps w_9 p_30 1) := h_22
    obtain ⟨w_98, ew_98⟩ : ∃ Z9, Z9 = ps w_9 p_30 1 := ⟨_, rfl⟩
    have qqw_98 : Y_24 = setRow (setRow (setRow X 15 w_9) 24 w_10) 15 w_98 := by rw [h_22, ew_98]
    have hW_99 : Wd G (setRow (setRow X 15 w_98) 24 w_10) H_25 := Wd.cast ((qqw_98).trans (congrArg (fun Z9 => Z9) (sr_in (by decide) sr_out))) hW_27
    have kn_100 : w_98 (7) = nI L := by rw [ew_98]; exact (ps_o (by decide) (by decide)).trans kn_12
    have kn_101 : w_98 (10) = 0 := by rw [ew_98]; exact (ps_o (by decide) (by decide)).trans kn_13
    have kn_102 : w_98 (6) = nI p_30 := by rw [ew_98]; exact ps_6
    have kn_103 : w_98 (9) = 1 := by rw [ew_98]; exact ps_9
    refine lv_istore (lv' := [(4, .int r_23), (3, .int 0), (2, .int 0), (1, .int 3), (0, .ref (ad G 723))]) hx hb dX8_command_37 hl_21 (by decide) rfl (fun ls_104 hl_105 => ?_)
    refine lv_iload_n hx hb dX8_command_39 rfl (lv_at hl_105 3 rfl) ?_
    refine lv_if_ne (tgt := 55) hx hb dX8_command_40 (by decide) (fun _ => ?_) (fun h9 => absurd h9 (by decide))
    refine lv_iload_n hx hb dX8_command_55 rfl (lv_at hl_105 3 rfl) ?_
    refine lv_if_ne (tgt := 72) hx hb dX8_command_56 (by decide) (fun _ => ?_) (fun h9 => absurd h9 (by decide))
    refine lv_iload_n hx hb dX8_command_72 rfl (lv_at hl_105 3 rfl) ?_
    refine lv_iconst (v := 1) hx hb dX8_command_73 (by decide) ?_
    refine lv_icmp_eq (tgt := 99) hx hb dX8_command_74 (by decide) (fun h9 => absurd h9 (by decide)) (fun _ => ?_)
    refine lv_iload_n hx hb dX8_command_77 rfl (lv_at hl_105 3 rfl) ?_
    refine lv_iconst (v := 3) hx hb dX8_command_78 (by decide) ?_
    refine lv_icmp_eq (tgt := 99) hx hb dX8_command_79 (by decide) (fun _ => ?_) (fun h9 => absurd h9 (by decide))
    refine lv_aload_n hx hb dX8_command_99 rfl (lv_at hl_105 4 rfl) ?_
    refine gM_isWrong C hW_99 (hwc hwX8) (mc qw_1496) dX8_command_100 ?_
    refine g_top (y := w_98 (9)) (congrFun (rd_in (by decide) rd_out) _) ?_
    refine g_top (y := 1) kn_103 ?_
    refine lv_if_ne (tgt := 112) hx hb dX8_command_103 (by decide) (fun _ => ?_) (fun h9 => absurd h9 (by decide))
    refine lv_iload_n hx hb dX8_command_112 rfl (lv_at hl_105 3 rfl) ?_
    refine lv_iconst (v := 3) hx hb dX8_command_113 (by decide) ?_
    refine lv_icmp_ne (tgt := 130) hx hb dX8_command_114 (by decide) (fun h9 => absurd h9 (by decide)) (fun _ => ?_)
    refine lv_aload_n hx hb dX8_command_117 rfl (lv_at hl_105 4 rfl) ?_
    refine gM_isWrong C hW_99 (hwc hwX8) (mc qw_1496) dX8_command_118 ?_
    refine g_top (y := w_98 (9)) (congrFun (rd_in (by decide) rd_out) _) ?_
    refine g_top (y := 1) kn_103 ?_
    refine lv_if_ne (tgt := 130) hx hb dX8_command_121 (by decide) (fun _ => ?_) (fun h9 => absurd h9 (by decide))
    refine lv_aload_n hx hb dX8_command_130 rfl (lv_at hl_105 4 rfl) ?_
    refine gM_isWrong C hW_99 (hwc hwX8) (mc qw_1496) dX8_command_131 ?_
    refine g_top (y := w_98 (9)) (congrFun (rd_in (by decide) rd_out) _) ?_
    refine g_top (y := 1) kn_103 ?_
    refine lv_if_ne (tgt := 144) hx hb dX8_command_134 (by decide) (fun _ => ?_) (fun h9 => absurd h9 (by decide))
    exact g_vret C hr hlk hW_99 hS_28 dX8_command_144 (by subst ew_98; subst ew_10; subst ew_9; simp only [ca3, hd_32, if_true, if_false, ps_ps, Nat.one_ne_zero])

set_option maxHeartbeats 4000000 in
set_option maxRecDepth 100000 in
theorem cX8_command04_ok (l : Launch) (G : GT) (X : St) (pp L : Nat) (hp : pp ≤ L) (hL : L ≤ 60) (e6 : X.1 15 6 = nI pp) (e7 : X.1 15 7 = nI L) (e9 : X.1 15 9 = 0) (hwd : WdOk (X.1 25) (X.1 26)) (e10 : X.1 15 10 = 0) (p1 : Nat) (hp1 : p1 ≤ L) (z1 : Nat → Int32) (hw9 : wdM (X.1 22) L pp (X.1 24) = (4, p1, 0, z1)) : MetV l G yX8_command (wsG yX8_command cX8_command 6 none) (rmz 3 66) [.ref (ad G 723)] X (fun Y => Y = setRow (setRow X 15 (ps (X.1 15) (caA (X.1 22) L p1).2.2.2.1 (caA (X.1 22) L p1).2.2.2.2)) 24 z1) := by
  refine g_met (cc := cX8_command) (maxL := 6) (ret := none) (by decide) rfl (Nat.le_of_ble_eq_true rfl) ?_
  intro p e s m below meth c ls C hr hlk hnm hW hl
  have hx := C.1.1
  have hb := C.1.2.1
  have hS : va_S (Ab G) s.heap s.heap [] := va_S.rf
  have hl : lv_has ls 6 [(0, .ref (ad G 723))] := hl
  have hW : Wd G (setRow (setRow (X) 15 (X.1 15)) 24 (X.1 24)) s.heap := Wd.cast (((sr_same (X := setRow (X) 15 (X.1 15)) (r := 24) rfl).trans (sr_same (X := X) (r := 15) rfl))).symm hW
  refine lv_aload_n hx hb dX8_command_0 rfl (lv_at hl 0 rfl) ?_
  refine g_calli (va_runV (As := []) (rest := []) C.1 (cX8_word_ok l G (setRow (setRow X 15 (X.1 15)) 24 (X.1 24)) pp L (show pp ≤ L by omega) hL e6 e7 e9 hwd) (cwV 0 C.1.2.2.2.2 (gV qw_1895 qw_1897 qw_63 qw_81 qw_1898) rfl rfl rfl (by decide +kernel) ⟨Nat.le_of_ble_eq_true rfl, Nat.le_of_ble_eq_true rfl⟩) (g_rModel C hW hS []) rfl rfl hl.1 rfl (lv_room (Nat.le_of_ble_eq_true rfl)) dX8_command_1 ⟨Nat.zero_le _, Nat.zero_le _⟩) hS (fun r_2 Y_3 H_4 locs_5 hW_6 hS_7 h_1 => ?_)
  replace h_1 : r_2 = (wdM (X.1 22) L pp (X.1 24)).1 ∧ Y_3 = setRow (setRow (setRow (setRow X 15 (X.1 15)) 24 (X.1 24)) 15 (ps (X.1 15) (wdM (X.1 22) L pp (X.1 24)).2.1 (wdM (X.1 22) L pp (X.1 24)).2.2.1)) 24 (wdM (X.1 22) L pp (X.1 24)).2.2.2 := h_1
  rw [hw9] at h_1
  obtain ⟨h_8, h_1⟩ := h_1
  replace h_8 : r_2 = 4 := h_8
  subst h_8
  replace h_1 : Y_3 = setRow (setRow (setRow (setRow X 15 (X.1 15)) 24 (X.1 24)) 15 (ps (X.1 15) p1 0)) 24 z1 := h_1
  replace h_1 : Y_3 = setRow (setRow (setRow (setRow X 15 (X.1 15)) 24 (X.1 24)) 15 (ps (X.1 15) p1 0)) 24 z1 := h_1
  obtain ⟨w_9, ew_9⟩ : ∃ Z9, Z9 = ps (X.1 15) p1 0 := ⟨_, rfl⟩
  obtain ⟨w_10, ew_10⟩ : ∃ Z9, Z9 = z1 := ⟨_, rfl⟩
  have qqw_9 : Y_3 = setRow (setRow (setRow (setRow X 15 (X.1 15)) 24 (X.1 24)) 15 w_9) 24 w_10 := by rw [h_1, ew_9, ew_10]
  have hW_11 : Wd G (setRow (setRow X 15 w_9) 24 w_10) H_4 := Wd.cast (((qqw_9).trans (congrArg (fun Z9 => setRow (Z9) 24 w_10) (sr_in (by decide) sr_out))).trans (congrArg (fun Z9 => Z9) sr_out)) hW_6
  have kn_12 : w_9 (7) = nI L := by rw [ew_9]; exact (ps_o (by decide) (by decide)).trans e7
  have kn_13 : w_9 (10) = 0 := by rw [ew_9]; exact (ps_o (by decide) (by decide)).trans e10
  have kn_14 : w_9 (6) = nI p1 := by rw [ew_9]; exact ps_6
  have kn_15 : w_9 (9) = 0 := by rw [ew_9]; exact ps_9
  refine lv_istore_n (lv' := [(1, .int 4), (0, .ref (ad G 723))]) hx hb dX8_command_4 rfl hl (by decide) rfl (fun ls_16 hl_17 => ?_)
  refine lv_iconst (v := 0) hx hb dX8_command_5 (by decide) ?_
  refine lv_istore_n (lv' := [(2, .int 0), (1, .int 4), (0, .ref (ad G 723))]) hx hb dX8_command_6 rfl hl_17 (by decide) rfl (fun ls_18 hl_19 => ?_)
  refine lv_iconst (v := 0) hx hb dX8_command_7 (by decide) ?_
  refine lv_istore_n (lv' := [(3, .int 0), (2, .int 0), (1, .int 4), (0, .ref (ad G 723))]) hx hb dX8_command_8 rfl hl_19 (by decide) rfl (fun ls_20 hl_21 => ?_)
  refine lv_aload_n hx hb dX8_command_9 rfl (lv_at hl_21 3 rfl) ?_
  refine gM_isWrong C hW_11 (hwc hwX8) (mc qw_1496) dX8_command_10 ?_
  refine g_top (y := w_9 (9)) (congrFun (rd_in (by decide) rd_out) _) ?_
  refine g_top (y := 0) kn_15 ?_
  refine lv_if_eq (tgt := 17) hx hb dX8_command_13 (by decide) (fun _ => ?_) (fun h9 => absurd h9 (by decide))
  refine lv_aload_n hx hb dX8_command_17 rfl (lv_at hl_21 3 rfl) ?_
  refine lv_iload_n hx hb dX8_command_18 rfl (lv_at hl_21 2 rfl) ?_
  refine lv_iconst (v := 5) hx hb dX8_command_19 (by decide) ?_
  refine lv_icmp_eq (tgt := 29) hx hb dX8_command_20 (by decide) (fun h9 => absurd h9 (by decide)) (fun _ => ?_)
  refine lv_iload_n hx hb dX8_command_23 rfl (lv_at hl_21 2 rfl) ?_
  refine lv_bipush (v := 8) hx hb dX8_command_24 (by decide) ?_
  refine lv_icmp_lt (tgt := 33) hx hb dX8_command_26 (by decide) (fun _ => ?_) (fun h9 => absurd h9 (by decide))
  refine lv_iconst (v := 1) hx hb dX8_command_33 (by decide) ?_
  refine g_calli (va_runV (As := [.int 1]) (rest := []) C.1 (cX8_digits_ok l G (setRow (setRow X 15 w_9) 24 w_10) p1 L (show p1 ≤ L by omega) hL kn_14 kn_12 kn_15 1 (by omega)) (cwV 1 C.1.2.2.2.2 (gV qw_1903 qw_1905 qw_65 qw_81 qw_1906) rfl rfl rfl (by decide +kernel) ⟨Nat.le_of_ble_eq_true rfl, Nat.le_of_ble_eq_true rfl⟩) (g_rModel C hW_11 hS_7 [.int 1]) rfl rfl hl_21.1 rfl (lv_room (Nat.le_of_ble_eq_true rfl)) dX8_command_34 ⟨Nat.zero_le _, Nat.zero_le _⟩) hS_7 (fun r_23 Y_24 H_25 locs_26 hW_27 hS_28 h_22 => ?_)
  replace h_22 : r_23 = (dgM (X.1 22) L 1 p1).1 ∧ Y_24 = setRow (setRow (setRow X 15 w_9) 24 w_10) 15 (ps w_9 (dgM (X.1 22) L 1 p1).2.1 (dgM (X.1 22) L 1 p1).2.2) := h_22
  obtain ⟨n_29, p_30, c_31, hd_32⟩ : ∃ x9 y9 z9, dgM (X.1 22) L 1 p1 = (x9, y9, z9) := ⟨_, _, _, rfl⟩
  rw [hd_32] at h_22
  obtain ⟨h_33, h_22⟩ := h_22
  replace h_33 : r_23 = n_29 := h_33
  subst h_33
  have hp_30 : p_30 ≤ L := dgM_le (show p1 ≤ L by omega) hd_32
  rcases dgM_b hd_32 with hbc_31 | hbc_31
  · rw [hbc_31] at hd_32 h_22
    replace h_22 : Y_24 = setRow (setRow (setRow X 15 w_9) 24 w_10) 15 (ps w_9 p_30 0) := h_22
    replace h_22 : Y_24 = setRow (setRow (setRow X 15 w_9) 24 w_10) 15 (ps w_9 p_30 0) := h_22
    obtain ⟨w_34, ew_34⟩ : ∃ Z9, Z9 = ps w_9 p_30 0 := ⟨_, rfl⟩
    have qqw_34 : Y_24 = setRow (setRow (setRow X 15 w_9) 24 w_10) 15 w_34 := by rw [h_22, ew_34]
    have hW_35 : Wd G (setRow (setRow X 15 w_34) 24 w_10) H_25 := Wd.cast ((qqw_34).trans (congrArg (fun Z9 => Z9) (sr_in (by decide) sr_out))) hW_27
    have kn_36 : w_34 (7) = nI L := by rw [ew_34]; exact (ps_o (by decide) (by decide)).trans kn_12
    have kn_37 : w_34 (10) = 0 := by rw [ew_34]; exact (ps_o (by decide) (by decide)).trans kn_13
    have kn_38 : w_34 (6) = nI p_30 := by rw [ew_34]; exact ps_6
    have kn_39 : w_34 (9) = 0 := by rw [ew_34]; exact ps_9
    refine lv_istore (lv' := [(4, .int r_23), (3, .int 0), (2, .int 0), (1, .int 4), (0, .ref (ad G 723))]) hx hb dX8_command_37 hl_21 (by decide) rfl (fun ls_40 hl_41 => ?_)
    refine lv_iload_n hx hb dX8_command_39 rfl (lv_at hl_41 3 rfl) ?_
    refine lv_if_ne (tgt := 55) hx hb dX8_command_40 (by decide) (fun _ => ?_) (fun h9 => absurd h9 (by decide))
    refine lv_iload_n hx hb dX8_command_55 rfl (lv_at hl_41 3 rfl) ?_
    refine lv_if_ne (tgt := 72) hx hb dX8_command_56 (by decide) (fun _ => ?_) (fun h9 => absurd h9 (by decide))
    refine lv_iload_n hx hb dX8_command_72 rfl (lv_at hl_41 3 rfl) ?_
    refine lv_iconst (v := 1) hx hb dX8_command_73 (by decide) ?_
    refine lv_icmp_eq (tgt := 99) hx hb dX8_command_74 (by decide) (fun h9 => absurd h9 (by decide)) (fun _ => ?_)
    refine lv_iload_n hx hb dX8_command_77 rfl (lv_at hl_41 3 rfl) ?_
    refine lv_iconst (v := 3) hx hb dX8_command_78 (by decide) ?_
    refine lv_icmp_eq (tgt := 99) hx hb dX8_command_79 (by decide) (fun h9 => absurd h9 (by decide)) (fun _ => ?_)
    refine lv_iload_n hx hb dX8_command_82 rfl (lv_at hl_41 3 rfl) ?_
    refine lv_iconst (v := 4) hx hb dX8_command_83 (by decide) ?_
    refine lv_icmp_eq (tgt := 99) hx hb dX8_command_84 (by decide) (fun _ => ?_) (fun h9 => absurd h9 (by decide))
    refine lv_aload_n hx hb dX8_command_99 rfl (lv_at hl_41 4 rfl) ?_
    refine gM_isWrong C hW_35 (hwc hwX8) (mc qw_1496) dX8_command_100 ?_
    refine g_top (y := w_34 (9)) (congrFun (rd_in (by decide) rd_out) _) ?_
    refine g_top (y := 0) kn_39 ?_
    refine lv_if_ne (tgt := 112) hx hb dX8_command_103 (by decide) (fun h9 => absurd h9 (by decide)) (fun _ => ?_)
    refine lv_aload_n hx hb dX8_command_106 rfl (lv_at hl_41 4 rfl) ?_
    refine lv_iconst (v := 1) hx hb dX8_command_107 (by decide) ?_
    refine g_calli (va_runV (As := [.int 1]) (rest := []) C.1 (cX8_behind_ok l G (setRow (setRow X 15 w_34) 24 w_10) p_30 L (show p_30 ≤ L by omega) hL kn_38 kn_36 kn_39 1 (by omega)) (cwV 1 C.1.2.2.2.2 (gV qw_1915 qw_1917 qw_68 qw_81 qw_1918) rfl rfl rfl (by decide +kernel) ⟨Nat.le_of_ble_eq_true rfl, Nat.le_of_ble_eq_true rfl⟩) (g_rModel C hW_35 hS_28 [.int 1]) rfl rfl hl_41.1 rfl (lv_room (Nat.le_of_ble_eq_true rfl)) dX8_command_108 ⟨Nat.zero_le _, Nat.zero_le _⟩) hS_28 (fun r_43 Y_44 H_45 locs_46 hW_47 hS_48 h_42 => ?_)
    replace h_42 : r_43 = (bhM (X.1 22) L 1 p_30).1 ∧ Y_44 = setRow (setRow (setRow X 15 w_34) 24 w_10) 15 (ps w_34 (bhM (X.1 22) L 1 p_30).2.1 (bhM (X.1 22) L 1 p_30).2.2) := h_42
    obtain ⟨n_49, p_50, c_51, hd_52⟩ : ∃ x9 y9 z9, bhM (X.1 22) L 1 p_30 = (x9, y9, z9) := ⟨_, _, _, rfl⟩
    rw [hd_52] at h_42
    obtain ⟨h_53, h_42⟩ := h_42
    replace h_53 : r_43 = n_49 := h_53
    subst h_53
    have hp_50 : p_50 ≤ L := bhM_le (show p_30 ≤ L by omega) hd_52
    rcases bhM_b hd_52 with hbc_51 | hbc_51
    · rw [hbc_51] at hd_52 h_42
      replace h_42 : Y_44 = setRow (setRow (setRow X 15 w_34) 24 w_10) 15 (ps w_34 p_50 0) := h_42
      replace h_42 : Y_44 = setRow (setRow (setRow X 15 w_34) 24 w_10) 15 (ps w_34 p_50 0) := h_42
      obtain ⟨w_54, ew_54⟩ : ∃ Z9, Z9 = ps w_34 p_50 0 := ⟨_, rfl⟩
      have qqw_54 : Y_44 = setRow (setRow (setRow X 15 w_34) 24 w_10) 15 w_54 := by rw [h_42, ew_54]
      have hW_55 : Wd G (setRow (setRow X 15 w_54) 24 w_10) H_45 := Wd.cast ((qqw_54).trans (congrArg (fun Z9 => Z9) (sr_in (by decide) sr_out))) hW_47
      have kn_56 : w_54 (7) = nI L := by rw [ew_54]; exact (ps_o (by decide) (by decide)).trans kn_36
      have kn_57 : w_54 (10) = 0 := by rw [ew_54]; exact (ps_o (by decide) (by decide)).trans kn_37
      have kn_58 : w_54 (6) = nI p_50 := by rw [ew_54]; exact ps_6
      have kn_59 : w_54 (9) = 0 := by rw [ew_54]; exact ps_9
      refine lv_istore_n (lv' := [(2, .int r_43), (4, .int r_23), (3, .int 0), (1, .int 4), (0, .ref (ad G 723))]) hx hb dX8_command_111 rfl hl_41 (by decide) rfl (fun ls_60 hl_61 => ?_)
      refine lv_iload_n hx hb dX8_command_112 rfl (lv_at hl_61 3 rfl) ?_
      refine lv_iconst (v := 3) hx hb dX8_command_113 (by decide) ?_
      refine lv_icmp_ne (tgt := 130) hx hb dX8_command_114 (by decide) (fun _ => ?_) (fun h9 => absurd h9 (by decide))
      refine lv_aload_n hx hb dX8_command_130 rfl (lv_at hl_61 4 rfl) ?_
      refine gM_isWrong C hW_55 (hwc hwX8) (mc qw_1496) dX8_command_131 ?_
      refine g_top (y := w_54 (9)) (congrFun (rd_in (by decide) rd_out) _) ?_
      refine g_top (y := 0) kn_59 ?_
      refine lv_if_ne (tgt := 144) hx hb dX8_command_134 (by decide) (fun h9 => absurd h9 (by decide)) (fun _ => ?_)
      refine lv_aload_n hx hb dX8_command_137 rfl (lv_at hl_61 4 rfl) ?_
      refine gM_isDoing C hW_55 (hwc hwX8) (mc qw_1497) dX8_command_138 ?_
      refine g_top (y := w_54 (10)) (congrFun (rd_in (by decide) rd_out) _) ?_
      refine g_top (y := 0) kn_57 ?_
      refine lv_if_ne (tgt := 145) hx hb dX8_command_141 (by decide) (fun h9 => absurd h9 (by decide)) (fun _ => ?_)
      exact g_vret C hr hlk hW_55 hS_48 dX8_command_144 (by subst ew_54; subst ew_34; subst ew_10; subst ew_9; simp only [caA, caB, hd_32, hd_52, if_true, if_false, ps_ps, Nat.one_ne_zero])
    · rw [hbc_51] at hd_52 h_42
      replace h_42 : Y_44 = setRow (setRow (setRow X 15 w_34) 24 w_10) 15 (ps w_34 p_50 1) := h_42
      replace h_42 : Y_44 = setRow (setRow (setRow X 15 w_34) 24 w_10) 15 (ps w_34 p_50 1) := h_42
      obtain ⟨w_62, ew_62⟩ : ∃ Z9, Z9 = ps w_34 p_50 1 := ⟨_, rfl⟩
      have qqw_62 : Y_44 = setRow (setRow (setRow X 15 w_34) 24 w_10) 15 w_62 := by rw [h_42, ew_62]
      have hW_63 : Wd G (setRow (setRow X 15 w_62) 24 w_10) H_45 := Wd.cast ((qqw_62).trans (congrArg (fun Z9 => Z9) (sr_in (by decide) sr_out))) hW_47
      have kn_64 : w_62 (7) = nI L := by rw [ew_62]; exact (ps_o (by decide) (by decide)).trans kn_36
      have kn_65 : w_62 (10) = 0 := by rw [ew_62]; exact (ps_o (by decide) (by decide)).trans kn_37
      have kn_66 : w_62 (6) = nI p_50 := by rw [ew_62]; exact ps_6
      have kn_67 : w_62 (9) = 1 := by rw [ew_62]; exact ps_9
      refine lv_istore_n (lv' := [(2, .int r_43), (4, .int r_23), (3, .int 0), (1, .int 4), (0, .ref (ad G 723))]) hx hb dX8_command_111 rfl hl_41 (by decide) rfl (fun ls_68 hl_69 => ?_)
      refine lv_iload_n hx hb dX8_command_112 rfl (lv_at hl_69 3 rfl) ?_
      refine lv_iconst (v := 3) hx hb dX8_command_113 (by decide) ?_
      refine lv_icmp_ne (tgt := 130) hx hb dX8_command_114 (by decide) (fun _ => ?_) (fun h9 => absurd h9 (by decide))
      refine lv_aload_n hx hb dX8_command_130 rfl (lv_at hl_69 4 rfl) ?_
      refine gM_isWrong C hW_63 (hwc hwX8) (mc qw_1496) dX8_command_131 ?_
      refine g_top (y := w_62 (9)) (congrFun (rd_in (by decide) rd_out) _) ?_
      refine g_top (y := 1) kn_67 ?_
      refine lv_if_ne (tgt := 144) hx hb dX8_command_134 (by decide) (fun _ => ?_) (fun h9 => absurd h9 (by decide))
      exact g_vret C hr hlk hW_63 hS_48 dX8_command_144 (by subst ew_62; subst ew_34; subst ew_10; subst ew_9; simp only [caA, caB, hd_32, hd_52, if_true, if_false, ps_ps, Nat.one_ne_zero])
  · rw [hbc_31] at hd_32 h_22
    replace h_22 : Y_24 = setRow (setRow (setRow X 15 w_9) 24 w_10) 15 (ps w_9 p_30 1) := h_22
    replace h_22 : Y_24 = setRow (setRow (setRow X 15 w_9) 24 w_10) 15 (ps w_9 p_30 1) := h_22
    obtain ⟨w_70, ew_70⟩ : ∃ Z9, Z9 = ps w_9 p_30 1 := ⟨_, rfl⟩
    have qqw_70 : Y_24 = setRow (setRow (setRow X 15 w_9) 24 w_10) 15 w_70 := by rw [h_22, ew_70]
    have hW_71 : Wd G (setRow (setRow X 15 w_70) 24 w_10) H_25 := Wd.cast ((qqw_70).trans (congrArg (fun Z9 => Z9) (sr_in (by decide) sr_out))) hW_27
    have kn_72 : w_70 (7) = nI L := by rw [ew_70]; exact (ps_o (by decide) (by decide)).trans kn_12
    have kn_73 : w_70 (10) = 0 := by rw [ew_70]; exact (ps_o (by decide) (by decide)).trans kn_13
    have kn_74 : w_70 (6) = nI p_30 := by rw [ew_70]; exact ps_6
    have kn_75 : w_70 (9) = 1 := by rw [ew_70]; exact ps_9
    refine lv_istore (lv' := [(4, .int r_23), (3, .int 0), (2, .int 0), (1, .int 4), (0, .ref (ad G 723))]) hx hb dX8_command_37 hl_21 (by decide) rfl (fun ls_76 hl_77 => ?_)
    refine lv_iload_n hx hb dX8_command_39 rfl (lv_at hl_77 3 rfl) ?_
    refine lv_if_ne (tgt := 55) hx hb dX8_command_40 (by decide) (fun _ => ?_) (fun h9 => absurd h9 (by decide))
    refine lv_iload_n hx hb dX8_command_55 rfl (lv_at hl_77 3 rfl) ?_
    refine lv_if_ne (tgt := 72) hx hb dX8_command_56 (by decide) (fun _ => ?_) (fun h9 => absurd h9 (by decide))
    refine lv_iload_n hx hb dX8_command_72 rfl (lv_at hl_77 3 rfl) ?_
    refine lv_iconst (v := 1) hx hb dX8_command_73 (by decide) ?_
    refine lv_icmp_eq (tgt := 99) hx hb dX8_command_74 (by decide) (fun h9 => absurd h9 (by decide)) (fun _ => ?_)
    refine lv_iload_n hx hb dX8_command_77 rfl (lv_at hl_77 3 rfl) ?_
    refine lv_iconst (v := 3) hx hb dX8_command_78 (by decide) ?_
    refine lv_icmp_eq (tgt := 99) hx hb dX8_command_79 (by decide) (fun h9 => absurd h9 (by decide)) (fun _ => ?_)
    refine lv_iload_n hx hb dX8_command_82 rfl (lv_at hl_77 3 rfl) ?_
    refine lv_iconst (v := 4) hx hb dX8_command_83 (by decide) ?_
    refine lv_icmp_eq (tgt := 99) hx hb dX8_command_84 (by decide) (fun _ => ?_) (fun h9 => absurd h9 (by decide))
    refine lv_aload_n hx hb dX8_command_99 rfl (lv_at hl_77 4 rfl) ?_
    refine gM_isWrong C hW_71 (hwc hwX8) (mc qw_1496) dX8_command_100 ?_
    refine g_top (y := w_70 (9)) (congrFun (rd_in (by decide) rd_out) _) ?_
    refine g_top (y := 1) kn_75 ?_
    refine lv_if_ne (tgt := 112) hx hb dX8_command_103 (by decide) (fun _ => ?_) (fun h9 => absurd h9 (by decide))
    refine lv_iload_n hx hb dX8_command_112 rfl (lv_at hl_77 3 rfl) ?_
    refine lv_iconst (v := 3) hx hb dX8_command_113 (by decide) ?_
    refine lv_icmp_ne (tgt := 130) hx hb dX8_command_114 (by decide) (fun _ => ?_) (fun h9 => absurd h9 (by decide))
    refine lv_aload_n hx hb dX8_command_130 rfl (lv_at hl_77 4 rfl) ?_
    refine gM_isWrong C hW_71 (hwc hwX8) (mc qw_1496) dX8_command_131 ?_
    refine g_top (y := w_70 (9)) (congrFun (rd_in (by decide) rd_out) _) ?_
    refine g_top (y := 1) kn_75 ?_
    refine lv_if_ne (tgt := 144) hx hb dX8_command_134 (by decide) (fun _ => ?_) (fun h9 => absurd h9 (by decide))
    exact g_vret C hr hlk hW_71 hS_28 dX8_command_144 (by subst ew_70; subst ew_10; subst ew_9; simp only [caA, caB, hd_32, if_true, if_false, ps_ps, Nat.one_ne_zero])

set_option maxHeartbeats 4000000 in
set_option maxRecDepth 100000 in
theorem cX8_command05_ok (l : Launch) (G : GT) (X : St) (pp L : Nat) (hp : pp ≤ L) (hL : L ≤ 60) (e6 : X.1 15 6 = nI pp) (e7 : X.1 15 7 = nI L) (e9 : X.1 15 9 = 0) (hwd : WdOk (X.1 25) (X.1 26)) (e10 : X.1 15 10 = 0) (p1 : Nat) (hp1 : p1 ≤ L) (z1 : Nat → Int32) (hw9 : wdM (X.1 22) L pp (X.1 24) = (5, p1, 0, z1)) : MetV l G yX8_command (wsG yX8_command cX8_command 6 none) (rmz 3 66) [.ref (ad G 723)] X (fun Y => Y = setRow (setRow X 15 (ps (X.1 15) (ca5 (X.1 22) L p1).2.2.2.1 (ca5 (X.1 22) L p1).2.2.2.2)) 24 z1) := by
  refine g_met (cc := cX8_command) (maxL := 6) (ret := none) (by decide) rfl (Nat.le_of_ble_eq_true rfl) ?_
  intro p e s m below meth c ls C hr hlk hnm hW hl
  have hx := C.1.1
  have hb := C.1.2.1
  have hS : va_S (Ab G) s.heap s.heap [] := va_S.rf
  have hl : lv_has ls 6 [(0, .ref (ad G 723))] := hl
  have hW : Wd G (setRow (setRow (X) 15 (X.1 15)) 24 (X.1 24)) s.heap := Wd.cast (((sr_same (X := setRow (X) 15 (X.1 15)) (r := 24) rfl).trans (sr_same (X := X) (r := 15) rfl))).symm hW
  refine lv_aload_n hx hb dX8_command_0 rfl (lv_at hl 0 rfl) ?_
  refine g_calli (va_runV (As := []) (rest := []) C.1 (cX8_word_ok l G (setRow (setRow X 15 (X.1 15)) 24 (X.1 24)) pp L (show pp ≤ L by omega) hL e6 e7 e9 hwd) (cwV 0 C.1.2.2.2.2 (gV qw_1895 qw_1897 qw_63 qw_81 qw_1898) rfl rfl rfl (by decide +kernel) ⟨Nat.le_of_ble_eq_true rfl, Nat.le_of_ble_eq_true rfl⟩) (g_rModel C hW hS []) rfl rfl hl.1 rfl (lv_room (Nat.le_of_ble_eq_true rfl)) dX8_command_1 ⟨Nat.zero_le _, Nat.zero_le _⟩) hS (fun r_2 Y_3 H_4 locs_5 hW_6 hS_7 h_1 => ?_)
  replace h_1 : r_2 = (wdM (X.1 22) L pp (X.1 24)).1 ∧ Y_3 = setRow (setRow (setRow (setRow X 15 (X.1 15)) 24 (X.1 24)) 15 (ps (X.1 15) (wdM (X.1 22) L pp (X.1 24)).2.1 (wdM (X.1 22) L pp (X.1 24)).2.2.1)) 24 (wdM (X.1 22) L pp (X.1 24)).2.2.2 := h_1
  rw [hw9] at h_1
  obtain ⟨h_8, h_1⟩ := h_1
  replace h_8 : r_2 = 5 := h_8
  subst h_8
  replace h_1 : Y_3 = setRow (setRow (setRow (setRow X 15 (X.1 15)) 24 (X.1 24)) 15 (ps (X.1 15) p1 0)) 24 z1 := h_1
  replace h_1 : Y_3 = setRow (setRow (setRow (setRow X 15 (X.1 15)) 24 (X.1 24)) 15 (ps (X.1 15) p1 0)) 24 z1 := h_1
  obtain ⟨w_9, ew_9⟩ : ∃ Z9, Z9 = ps (X.1 15) p1 0 := ⟨_, rfl⟩
  obtain ⟨w_10, ew_10⟩ : ∃ Z9, Z9 = z1 := ⟨_, rfl⟩
  have qqw_9 : Y_3 = setRow (setRow (setRow (setRow X 15 (X.1 15)) 24 (X.1 24)) 15 w_9) 24 w_10 := by rw [h_1, ew_9, ew_10]
  have hW_11 : Wd G (setRow (setRow X 15 w_9) 24 w_10) H_4 := Wd.cast (((qqw_9).trans (congrArg (fun Z9 => setRow (Z9) 24 w_10) (sr_in (by decide) sr_out))).trans (congrArg (fun Z9 => Z9) sr_out)) hW_6
  have kn_12 : w_9 (7) = nI L := by rw [ew_9]; exact (ps_o (by decide) (by decide)).trans e7
  have kn_13 : w_9 (10) = 0 := by rw [ew_9]; exact (ps_o (by decide) (by decide)).trans e10
  have kn_14 : w_9 (6) = nI p1 := by rw [ew_9]; exact ps_6
  have kn_15 : w_9 (9) = 0 := by rw [ew_9]; exact ps_9
  refine lv_istore_n (lv' := [(1, .int 5), (0, .ref (ad G 723))]) hx hb dX8_command_4 rfl hl (by decide) rfl (fun ls_16 hl_17 => ?_)
  refine lv_iconst (v := 0) hx hb dX8_command_5 (by decide) ?_
  refine lv_istore_n (lv' := [(2, .int 0), (1, .int 5), (0, .ref (ad G 723))]) hx hb dX8_command_6 rfl hl_17 (by decide) rfl (fun ls_18 hl_19 => ?_)
  refine lv_iconst (v := 0) hx hb dX8_command_7 (by decide) ?_
  refine lv_istore_n (lv' := [(3, .int 0), (2, .int 0), (1, .int 5), (0, .ref (ad G 723))]) hx hb dX8_command_8 rfl hl_19 (by decide) rfl (fun ls_20 hl_21 => ?_)
  refine lv_aload_n hx hb dX8_command_9 rfl (lv_at hl_21 3 rfl) ?_
  refine gM_isWrong C hW_11 (hwc hwX8) (mc qw_1496) dX8_command_10 ?_
  refine g_top (y := w_9 (9)) (congrFun (rd_in (by decide) rd_out) _) ?_
  refine g_top (y := 0) kn_15 ?_
  refine lv_if_eq (tgt := 17) hx hb dX8_command_13 (by decide) (fun _ => ?_) (fun h9 => absurd h9 (by decide))
  refine lv_aload_n hx hb dX8_command_17 rfl (lv_at hl_21 3 rfl) ?_
  refine lv_iload_n hx hb dX8_command_18 rfl (lv_at hl_21 2 rfl) ?_
  refine lv_iconst (v := 5) hx hb dX8_command_19 (by decide) ?_
  refine lv_icmp_eq (tgt := 29) hx hb dX8_command_20 (by decide) (fun _ => ?_) (fun h9 => absurd h9 (by decide))
  refine lv_iconst (v := 3) hx hb dX8_command_29 (by decide) ?_
  refine lv_goto (tgt := 34) hx hb dX8_command_30 (by decide) ?_
  refine g_calli (va_runV (As := [.int 3]) (rest := []) C.1 (cX8_digits_ok l G (setRow (setRow X 15 w_9) 24 w_10) p1 L (show p1 ≤ L by omega) hL kn_14 kn_12 kn_15 3 (by omega)) (cwV 1 C.1.2.2.2.2 (gV qw_1903 qw_1905 qw_65 qw_81 qw_1906) rfl rfl rfl (by decide +kernel) ⟨Nat.le_of_ble_eq_true rfl, Nat.le_of_ble_eq_true rfl⟩) (g_rModel C hW_11 hS_7 [.int 3]) rfl rfl hl_21.1 rfl (lv_room (Nat.le_of_ble_eq_true rfl)) dX8_command_34 ⟨Nat.zero_le _, Nat.zero_le _⟩) hS_7 (fun r_23 Y_24 H_25 locs_26 hW_27 hS_28 h_22 => ?_)
  replace h_22 : r_23 = (dgM (X.1 22) L 3 p1).1 ∧ Y_24 = setRow (setRow (setRow X 15 w_9) 24 w_10) 15 (ps w_9 (dgM (X.1 22) L 3 p1).2.1 (dgM (X.1 22) L 3 p1).2.2) := h_22
  obtain ⟨n_29, p_30, c_31, hd_32⟩ : ∃ x9 y9 z9, dgM (X.1 22) L 3 p1 = (x9, y9, z9) := ⟨_, _, _, rfl⟩
  rw [hd_32] at h_22
  obtain ⟨h_33, h_22⟩ := h_22
  replace h_33 : r_23 = n_29 := h_33
  subst h_33
  have hp_30 : p_30 ≤ L := dgM_le (show p1 ≤ L by omega) hd_32
  rcases dgM_b hd_32 with hbc_31 | hbc_31
  · rw [hbc_31] at hd_32 h_22
    replace h_22 : Y_24 = setRow (setRow (setRow X 15 w_9) 24 w_10) 15 (ps w_9 p_30 0) := h_22
    replace h_22 : Y_24 = setRow (setRow (setRow X 15 w_9) 24 w_10) 15 (ps w_9 p_30 0) := h_22
    obtain ⟨w_34, ew_34⟩ : ∃ Z9, Z9 = ps w_9 p_30 0 := ⟨_, rfl⟩
    have qqw_34 : Y_24 = setRow (setRow (setRow X 15 w_9) 24 w_10) 15 w_34 := by rw [h_22, ew_34]
    have hW_35 : Wd G (setRow (setRow X 15 w_34) 24 w_10) H_25 := Wd.cast ((qqw_34).trans (congrArg (fun Z9 => Z9) (sr_in (by decide) sr_out))) hW_27
    have kn_36 : w_34 (7) = nI L := by rw [ew_34]; exact (ps_o (by decide) (by decide)).trans kn_12
    have kn_37 : w_34 (10) = 0 := by rw [ew_34]; exact (ps_o (by decide) (by decide)).trans kn_13
    have kn_38 : w_34 (6) = nI p_30 := by rw [ew_34]; exact ps_6
    have kn_39 : w_34 (9) = 0 := by rw [ew_34]; exact ps_9
    refine lv_istore (lv' := [(4, .int r_23), (3, .int 0), (2, .int 0), (1, .int 5), (0, .ref (ad G 723))]) hx hb dX8_command_37 hl_21 (by decide) rfl (fun ls_40 hl_41 => ?_)
    refine lv_iload_n hx hb dX8_command_39 rfl (lv_at hl_41 3 rfl) ?_
    refine lv_if_ne (tgt := 55) hx hb dX8_command_40 (by decide) (fun _ => ?_) (fun h9 => absurd h9 (by decide))
    refine lv_iload_n hx hb dX8_command_55 rfl (lv_at hl_41 3 rfl) ?_
    refine lv_if_ne (tgt := 72) hx hb dX8_command_56 (by decide) (fun _ => ?_) (fun h9 => absurd h9 (by decide))
    refine lv_iload_n hx hb dX8_command_72 rfl (lv_at hl_41 3 rfl) ?_
    refine lv_iconst (v := 1) hx hb dX8_command_73 (by decide) ?_
    refine lv_icmp_eq (tgt := 99) hx hb dX8_command_74 (by decide) (fun h9 => absurd h9 (by decide)) (fun _ => ?_)
    refine lv_iload_n hx hb dX8_command_77 rfl (lv_at hl_41 3 rfl) ?_
    refine lv_iconst (v := 3) hx hb dX8_command_78 (by decide) ?_
    refine lv_icmp_eq (tgt := 99) hx hb dX8_command_79 (by decide) (fun h9 => absurd h9 (by decide)) (fun _ => ?_)
    refine lv_iload_n hx hb dX8_command_82 rfl (lv_at hl_41 3 rfl) ?_
    refine lv_iconst (v := 4) hx hb dX8_command_83 (by decide) ?_
    refine lv_icmp_eq (tgt := 99) hx hb dX8_command_84 (by decide) (fun h9 => absurd h9 (by decide)) (fun _ => ?_)
    refine lv_iload_n hx hb dX8_command_87 rfl (lv_at hl_41 3 rfl) ?_
    refine lv_bipush (v := 6) hx hb dX8_command_88 (by decide) ?_
    refine lv_icmp_eq (tgt := 99) hx hb dX8_command_90 (by decide) (fun h9 => absurd h9 (by decide)) (fun _ => ?_)
    refine lv_iload_n hx hb dX8_command_93 rfl (lv_at hl_41 3 rfl) ?_
    refine lv_bipush (v := 8) hx hb dX8_command_94 (by decide) ?_
    refine lv_icmp_ne (tgt := 112) hx hb dX8_command_96 (by decide) (fun _ => ?_) (fun h9 => absurd h9 (by decide))
    refine lv_iload_n hx hb dX8_command_112 rfl (lv_at hl_41 3 rfl) ?_
    refine lv_iconst (v := 3) hx hb dX8_command_113 (by decide) ?_
    refine lv_icmp_ne (tgt := 130) hx hb dX8_command_114 (by decide) (fun _ => ?_) (fun h9 => absurd h9 (by decide))
    refine lv_aload_n hx hb dX8_command_130 rfl (lv_at hl_41 4 rfl) ?_
    refine gM_isWrong C hW_35 (hwc hwX8) (mc qw_1496) dX8_command_131 ?_
    refine g_top (y := w_34 (9)) (congrFun (rd_in (by decide) rd_out) _) ?_
    refine g_top (y := 0) kn_39 ?_
    refine lv_if_ne (tgt := 144) hx hb dX8_command_134 (by decide) (fun h9 => absurd h9 (by decide)) (fun _ => ?_)
    refine lv_aload_n hx hb dX8_command_137 rfl (lv_at hl_41 4 rfl) ?_
    refine gM_isDoing C hW_35 (hwc hwX8) (mc qw_1497) dX8_command_138 ?_
    refine g_top (y := w_34 (10)) (congrFun (rd_in (by decide) rd_out) _) ?_
    refine g_top (y := 0) kn_37 ?_
    refine lv_if_ne (tgt := 145) hx hb dX8_command_141 (by decide) (fun h9 => absurd h9 (by decide)) (fun _ => ?_)
    exact g_vret C hr hlk hW_35 hS_28 dX8_command_144 (by subst ew_34; subst ew_10; subst ew_9; simp only [ca5, hd_32, if_true, if_false, ps_ps, Nat.one_ne_zero])
  · rw [hbc_31] at hd_32 h_22
    replace h_22 : Y_24 = setRow (setRow (setRow X 15 w_9) 24 w_10) 15 (ps w_9 p_30 1) := h_22
    replace h_22 : Y_24 = setRow (setRow (setRow X 15 w_9) 24 w_10) 15 (ps w_9 p_30 1) := h_22
    obtain ⟨w_42, ew_42⟩ : ∃ Z9, Z9 = ps w_9 p_30 1 := ⟨_, rfl⟩
    have qqw_42 : Y_24 = setRow (setRow (setRow X 15 w_9) 24 w_10) 15 w_42 := by rw [h_22, ew_42]
    have hW_43 : Wd G (setRow (setRow X 15 w_42) 24 w_10) H_25 := Wd.cast ((qqw_42).trans (congrArg (fun Z9 => Z9) (sr_in (by decide) sr_out))) hW_27
    have kn_44 : w_42 (7) = nI L := by rw [ew_42]; exact (ps_o (by decide) (by decide)).trans kn_12
    have kn_45 : w_42 (10) = 0 := by rw [ew_42]; exact (ps_o (by decide) (by decide)).trans kn_13
    have kn_46 : w_42 (6) = nI p_30 := by rw [ew_42]; exact ps_6
    have kn_47 : w_42 (9) = 1 := by rw [ew_42]; exact ps_9
    refine lv_istore (lv' := [(4, .int r_23), (3, .int 0), (2, .int 0), (1, .int 5), (0, .ref (ad G 723))]) hx hb dX8_command_37 hl_21 (by decide) rfl (fun ls_48 hl_49 => ?_)
    refine lv_iload_n hx hb dX8_command_39 rfl (lv_at hl_49 3 rfl) ?_
    refine lv_if_ne (tgt := 55) hx hb dX8_command_40 (by decide) (fun _ => ?_) (fun h9 => absurd h9 (by decide))
    refine lv_iload_n hx hb dX8_command_55 rfl (lv_at hl_49 3 rfl) ?_
    refine lv_if_ne (tgt := 72) hx hb dX8_command_56 (by decide) (fun _ => ?_) (fun h9 => absurd h9 (by decide))
    refine lv_iload_n hx hb dX8_command_72 rfl (lv_at hl_49 3 rfl) ?_
    refine lv_iconst (v := 1) hx hb dX8_command_73 (by decide) ?_
    refine lv_icmp_eq (tgt := 99) hx hb dX8_command_74 (by decide) (fun h9 => absurd h9 (by decide)) (fun _ => ?_)
    refine lv_iload_n hx hb dX8_command_77 rfl (lv_at hl_49 3 rfl) ?_
    refine lv_iconst (v := 3) hx hb dX8_command_78 (by decide) ?_
    refine lv_icmp_eq (tgt := 99) hx hb dX8_command_79 (by decide) (fun h9 => absurd h9 (by decide)) (fun _ => ?_)
    refine lv_iload_n hx hb dX8_command_82 rfl (lv_at hl_49 3 rfl) ?_
    refine lv_iconst (v := 4) hx hb dX8_command_83 (by decide) ?_
    refine lv_icmp_eq (tgt := 99) hx hb dX8_command_84 (by decide) (fun h9 => absurd h9 (by decide)) (fun _ => ?_)
    refine lv_iload_n hx hb dX8_command_87 rfl (lv_at hl_49 3 rfl) ?_
    refine lv_bipush (v := 6) hx hb dX8_command_88 (by decide) ?_
    refine lv_icmp_eq (tgt := 99) hx hb dX8_command_90 (by decide) (fun h9 => absurd h9 (by decide)) (fun _ => ?_)
    refine lv_iload_n hx hb dX8_command_93 rfl (lv_at hl_49 3 rfl) ?_
    refine lv_bipush (v := 8) hx hb dX8_command_94 (by decide) ?_
    refine lv_icmp_ne (tgt := 112) hx hb dX8_command_96 (by decide) (fun _ => ?_) (fun h9 => absurd h9 (by decide))
    refine lv_iload_n hx hb dX8_command_112 rfl (lv_at hl_49 3 rfl) ?_
    refine lv_iconst (v := 3) hx hb dX8_command_113 (by decide) ?_
    refine lv_icmp_ne (tgt := 130) hx hb dX8_command_114 (by decide) (fun _ => ?_) (fun h9 => absurd h9 (by decide))
    refine lv_aload_n hx hb dX8_command_130 rfl (lv_at hl_49 4 rfl) ?_
    refine gM_isWrong C hW_43 (hwc hwX8) (mc qw_1496) dX8_command_131 ?_
    refine g_top (y := w_42 (9)) (congrFun (rd_in (by decide) rd_out) _) ?_
    refine g_top (y := 1) kn_47 ?_
    refine lv_if_ne (tgt := 144) hx hb dX8_command_134 (by decide) (fun _ => ?_) (fun h9 => absurd h9 (by decide))
    exact g_vret C hr hlk hW_43 hS_28 dX8_command_144 (by subst ew_42; subst ew_10; subst ew_9; simp only [ca5, hd_32, if_true, if_false, ps_ps, Nat.one_ne_zero])

set_option maxHeartbeats 4000000 in
set_option maxRecDepth 100000 in
theorem cX8_command06_ok (l : Launch) (G : GT) (X : St) (pp L : Nat) (hp : pp ≤ L) (hL : L ≤ 60) (e6 : X.1 15 6 = nI pp) (e7 : X.1 15 7 = nI L) (e9 : X.1 15 9 = 0) (hwd : WdOk (X.1 25) (X.1 26)) (e10 : X.1 15 10 = 0) (p1 : Nat) (hp1 : p1 ≤ L) (z1 : Nat → Int32) (hw9 : wdM (X.1 22) L pp (X.1 24) = (6, p1, 0, z1)) : MetV l G yX8_command (wsG yX8_command cX8_command 6 none) (rmz 3 66) [.ref (ad G 723)] X (fun Y => Y = setRow (setRow X 15 (ps (X.1 15) (caA (X.1 22) L p1).2.2.2.1 (caA (X.1 22) L p1).2.2.2.2)) 24 z1) := by
  refine g_met (cc := cX8_command) (maxL := 6) (ret := none) (by decide) rfl (Nat.le_of_ble_eq_true rfl) ?_
  intro p e s m below meth c ls C hr hlk hnm hW hl
  have hx := C.1.1
  have hb := C.1.2.1
  have hS : va_S (Ab G) s.heap s.heap [] := va_S.rf
  have hl : lv_has ls 6 [(0, .ref (ad G 723))] := hl
  have hW : Wd G (setRow (setRow (X) 15 (X.1 15)) 24 (X.1 24)) s.heap := Wd.cast (((sr_same (X := setRow (X) 15 (X.1 15)) (r := 24) rfl).trans (sr_same (X := X) (r := 15) rfl))).symm hW
  refine lv_aload_n hx hb dX8_command_0 rfl (lv_at hl 0 rfl) ?_
  refine g_calli (va_runV (As := []) (rest := []) C.1 (cX8_word_ok l G (setRow (setRow X 15 (X.1 15)) 24 (X.1 24)) pp L (show pp ≤ L by omega) hL e6 e7 e9 hwd) (cwV 0 C.1.2.2.2.2 (gV qw_1895 qw_1897 qw_63 qw_81 qw_1898) rfl rfl rfl (by decide +kernel) ⟨Nat.le_of_ble_eq_true rfl, Nat.le_of_ble_eq_true rfl⟩) (g_rModel C hW hS []) rfl rfl hl.1 rfl (lv_room (Nat.le_of_ble_eq_true rfl)) dX8_command_1 ⟨Nat.zero_le _, Nat.zero_le _⟩) hS (fun r_2 Y_3 H_4 locs_5 hW_6 hS_7 h_1 => ?_)
  replace h_1 : r_2 = (wdM (X.1 22) L pp (X.1 24)).1 ∧ Y_3 = setRow (setRow (setRow (setRow X 15 (X.1 15)) 24 (X.1 24)) 15 (ps (X.1 15) (wdM (X.1 22) L pp (X.1 24)).2.1 (wdM (X.1 22) L pp (X.1 24)).2.2.1)) 24 (wdM (X.1 22) L pp (X.1 24)).2.2.2 := h_1
  rw [hw9] at h_1
  obtain ⟨h_8, h_1⟩ := h_1
  replace h_8 : r_2 = 6 := h_8
  subst h_8
  replace h_1 : Y_3 = setRow (setRow (setRow (setRow X 15 (X.1 15)) 24 (X.1 24)) 15 (ps (X.1 15) p1 0)) 24 z1 := h_1
  replace h_1 : Y_3 = setRow (setRow (setRow (setRow X 15 (X.1 15)) 24 (X.1 24)) 15 (ps (X.1 15) p1 0)) 24 z1 := h_1
  obtain ⟨w_9, ew_9⟩ : ∃ Z9, Z9 = ps (X.1 15) p1 0 := ⟨_, rfl⟩
  obtain ⟨w_10, ew_10⟩ : ∃ Z9, Z9 = z1 := ⟨_, rfl⟩
  have qqw_9 : Y_3 = setRow (setRow (setRow (setRow X 15 (X.1 15)) 24 (X.1 24)) 15 w_9) 24 w_10 := by rw [h_1, ew_9, ew_10]
  have hW_11 : Wd G (setRow (setRow X 15 w_9) 24 w_10) H_4 := Wd.cast (((qqw_9).trans (congrArg (fun Z9 => setRow (Z9) 24 w_10) (sr_in (by decide) sr_out))).trans (congrArg (fun Z9 => Z9) sr_out)) hW_6
  have kn_12 : w_9 (7) = nI L := by rw [ew_9]; exact (ps_o (by decide) (by decide)).trans e7
  have kn_13 : w_9 (10) = 0 := by rw [ew_9]; exact (ps_o (by decide) (by decide)).trans e10
  have kn_14 : w_9 (6) = nI p1 := by rw [ew_9]; exact ps_6
  have kn_15 : w_9 (9) = 0 := by rw [ew_9]; exact ps_9
  refine lv_istore_n (lv' := [(1, .int 6), (0, .ref (ad G 723))]) hx hb dX8_command_4 rfl hl (by decide) rfl (fun ls_16 hl_17 => ?_)
  refine lv_iconst (v := 0) hx hb dX8_command_5 (by decide) ?_
  refine lv_istore_n (lv' := [(2, .int 0), (1, .int 6), (0, .ref (ad G 723))]) hx hb dX8_command_6 rfl hl_17 (by decide) rfl (fun ls_18 hl_19 => ?_)
  refine lv_iconst (v := 0) hx hb dX8_command_7 (by decide) ?_
  refine lv_istore_n (lv' := [(3, .int 0), (2, .int 0), (1, .int 6), (0, .ref (ad G 723))]) hx hb dX8_command_8 rfl hl_19 (by decide) rfl (fun ls_20 hl_21 => ?_)
  refine lv_aload_n hx hb dX8_command_9 rfl (lv_at hl_21 3 rfl) ?_
  refine gM_isWrong C hW_11 (hwc hwX8) (mc qw_1496) dX8_command_10 ?_
  refine g_top (y := w_9 (9)) (congrFun (rd_in (by decide) rd_out) _) ?_
  refine g_top (y := 0) kn_15 ?_
  refine lv_if_eq (tgt := 17) hx hb dX8_command_13 (by decide) (fun _ => ?_) (fun h9 => absurd h9 (by decide))
  refine lv_aload_n hx hb dX8_command_17 rfl (lv_at hl_21 3 rfl) ?_
  refine lv_iload_n hx hb dX8_command_18 rfl (lv_at hl_21 2 rfl) ?_
  refine lv_iconst (v := 5) hx hb dX8_command_19 (by decide) ?_
  refine lv_icmp_eq (tgt := 29) hx hb dX8_command_20 (by decide) (fun h9 => absurd h9 (by decide)) (fun _ => ?_)
  refine lv_iload_n hx hb dX8_command_23 rfl (lv_at hl_21 2 rfl) ?_
  refine lv_bipush (v := 8) hx hb dX8_command_24 (by decide) ?_
  refine lv_icmp_lt (tgt := 33) hx hb dX8_command_26 (by decide) (fun _ => ?_) (fun h9 => absurd h9 (by decide))
  refine lv_iconst (v := 1) hx hb dX8_command_33 (by decide) ?_
  refine g_calli (va_runV (As := [.int 1]) (rest := []) C.1 (cX8_digits_ok l G (setRow (setRow X 15 w_9) 24 w_10) p1 L (show p1 ≤ L by omega) hL kn_14 kn_12 kn_15 1 (by omega)) (cwV 1 C.1.2.2.2.2 (gV qw_1903 qw_1905 qw_65 qw_81 qw_1906) rfl rfl rfl (by decide +kernel) ⟨Nat.le_of_ble_eq_true rfl, Nat.le_of_ble_eq_true rfl⟩) (g_rModel C hW_11 hS_7 [.int 1]) rfl rfl hl_21.1 rfl (lv_room (Nat.le_of_ble_eq_true rfl)) dX8_command_34 ⟨Nat.zero_le _, Nat.zero_le _⟩) hS_7 (fun r_23 Y_24 H_25 locs_26 hW_27 hS_28 h_22 => ?_)
  replace h_22 : r_23 = (dgM (X.1 22) L 1 p1).1 ∧ Y_24 = setRow (setRow (setRow X 15 w_9) 24 w_10) 15 (ps w_9 (dgM (X.1 22) L 1 p1).2.1 (dgM (X.1 22) L 1 p1).2.2) := h_22
  obtain ⟨n_29, p_30, c_31, hd_32⟩ : ∃ x9 y9 z9, dgM (X.1 22) L 1 p1 = (x9, y9, z9) := ⟨_, _, _, rfl⟩
  rw [hd_32] at h_22
  obtain ⟨h_33, h_22⟩ := h_22
  replace h_33 : r_23 = n_29 := h_33
  subst h_33
  have hp_30 : p_30 ≤ L := dgM_le (show p1 ≤ L by omega) hd_32
  rcases dgM_b hd_32 with hbc_31 | hbc_31
  · rw [hbc_31] at hd_32 h_22
    replace h_22 : Y_24 = setRow (setRow (setRow X 15 w_9) 24 w_10) 15 (ps w_9 p_30 0) := h_22
    replace h_22 : Y_24 = setRow (setRow (setRow X 15 w_9) 24 w_10) 15 (ps w_9 p_30 0) := h_22
    obtain ⟨w_34, ew_34⟩ : ∃ Z9, Z9 = ps w_9 p_30 0 := ⟨_, rfl⟩
    have qqw_34 : Y_24 = setRow (setRow (setRow X 15 w_9) 24 w_10) 15 w_34 := by rw [h_22, ew_34]
    have hW_35 : Wd G (setRow (setRow X 15 w_34) 24 w_10) H_25 := Wd.cast ((qqw_34).trans (congrArg (fun Z9 => Z9) (sr_in (by decide) sr_out))) hW_27
    have kn_36 : w_34 (7) = nI L := by rw [ew_34]; exact (ps_o (by decide) (by decide)).trans kn_12
    have kn_37 : w_34 (10) = 0 := by rw [ew_34]; exact (ps_o (by decide) (by decide)).trans kn_13
    have kn_38 : w_34 (6) = nI p_30 := by rw [ew_34]; exact ps_6
    have kn_39 : w_34 (9) = 0 := by rw [ew_34]; exact ps_9
    refine lv_istore (lv' := [(4, .int r_23), (3, .int 0), (2, .int 0), (1, .int 6), (0, .ref (ad G 723))]) hx hb dX8_command_37 hl_21 (by decide) rfl (fun ls_40 hl_41 => ?_)
    refine lv_iload_n hx hb dX8_command_39 rfl (lv_at hl_41 3 rfl) ?_
    refine lv_if_ne (tgt := 55) hx hb dX8_command_40 (by decide) (fun _ => ?_) (fun h9 => absurd h9 (by decide))
    refine lv_iload_n hx hb dX8_command_55 rfl (lv_at hl_41 3 rfl) ?_
    refine lv_if_ne (tgt := 72) hx hb dX8_command_56 (by decide) (fun _ => ?_) (fun h9 => absurd h9 (by decide))
    refine lv_iload_n hx hb dX8_command_72 rfl (lv_at hl_41 3 rfl) ?_
    refine lv_iconst (v := 1) hx hb dX8_command_73 (by decide) ?_
    refine lv_icmp_eq (tgt := 99) hx hb dX8_command_74 (by decide) (fun h9 => absurd h9 (by decide)) (fun _ => ?_)
    refine lv_iload_n hx hb dX8_command_77 rfl (lv_at hl_41 3 rfl) ?_
    refine lv_iconst (v := 3) hx hb dX8_command_78 (by decide) ?_
    refine lv_icmp_eq (tgt := 99) hx hb dX8_command_79 (by decide) (fun h9 => absurd h9 (by decide)) (fun _ => ?_)
    refine lv_iload_n hx hb dX8_command_82 rfl (lv_at hl_41 3 rfl) ?_
    refine lv_iconst (v := 4) hx hb dX8_command_83 (by decide) ?_
    refine lv_icmp_eq (tgt := 99) hx hb dX8_command_84 (by decide) (fun h9 => absurd h9 (by decide)) (fun _ => ?_)
    refine lv_iload_n hx hb dX8_command_87 rfl (lv_at hl_41 3 rfl) ?_
    refine lv_bipush (v := 6) hx hb dX8_command_88 (by decide) ?_
    refine lv_icmp_eq (tgt := 99) hx hb dX8_command_90 (by decide) (fun _ => ?_) (fun h9 => absurd h9 (by decide))
    refine lv_aload_n hx hb dX8_command_99 rfl (lv_at hl_41 4 rfl) ?_
    refine gM_isWrong C hW_35 (hwc hwX8) (mc qw_1496) dX8_command_100 ?_
    refine g_top (y := w_34 (9)) (congrFun (rd_in (by decide) rd_out) _) ?_
    refine g_top (y := 0) kn_39 ?_
    refine lv_if_ne (tgt := 112) hx hb dX8_command_103 (by decide) (fun h9 => absurd h9 (by decide)) (fun _ => ?_)
    refine lv_aload_n hx hb dX8_command_106 rfl (lv_at hl_41 4 rfl) ?_
    refine lv_iconst (v := 1) hx hb dX8_command_107 (by decide) ?_
    refine g_calli (va_runV (As := [.int 1]) (rest := []) C.1 (cX8_behind_ok l G (setRow (setRow X 15 w_34) 24 w_10) p_30 L (show p_30 ≤ L by omega) hL kn_38 kn_36 kn_39 1 (by omega)) (cwV 1 C.1.2.2.2.2 (gV qw_1915 qw_1917 qw_68 qw_81 qw_1918) rfl rfl rfl (by decide +kernel) ⟨Nat.le_of_ble_eq_true rfl, Nat.le_of_ble_eq_true rfl⟩) (g_rModel C hW_35 hS_28 [.int 1]) rfl rfl hl_41.1 rfl (lv_room (Nat.le_of_ble_eq_true rfl)) dX8_command_108 ⟨Nat.zero_le _, Nat.zero_le _⟩) hS_28 (fun r_43 Y_44 H_45 locs_46 hW_47 hS_48 h_42 => ?_)
    replace h_42 : r_43 = (bhM (X.1 22) L 1 p_30).1 ∧ Y_44 = setRow (setRow (setRow X 15 w_34) 24 w_10) 15 (ps w_34 (bhM (X.1 22) L 1 p_30).2.1 (bhM (X.1 22) L 1 p_30).2.2) := h_42
    obtain ⟨n_49, p_50, c_51, hd_52⟩ : ∃ x9 y9 z9, bhM (X.1 22) L 1 p_30 = (x9, y9, z9) := ⟨_, _, _, rfl⟩
    rw [hd_52] at h_42
    obtain ⟨h_53, h_42⟩ := h_42
    replace h_53 : r_43 = n_49 := h_53
    subst h_53
    have hp_50 : p_50 ≤ L := bhM_le (show p_30 ≤ L by omega) hd_52
    rcases bhM_b hd_52 with hbc_51 | hbc_51
    · rw [hbc_51] at hd_52 h_42
      replace h_42 : Y_44 = setRow (setRow (setRow X 15 w_34) 24 w_10) 15 (ps w_34 p_50 0) := h_42
      replace h_42 : Y_44 = setRow (setRow (setRow X 15 w_34) 24 w_10) 15 (ps w_34 p_50 0) := h_42
      obtain ⟨w_54, ew_54⟩ : ∃ Z9, Z9 = ps w_34 p_50 0 := ⟨_, rfl⟩
      have qqw_54 : Y_44 = setRow (setRow (setRow X 15 w_34) 24 w_10) 15 w_54 := by rw [h_42, ew_54]
      have hW_55 : Wd G (setRow (setRow X 15 w_54) 24 w_10) H_45 := Wd.cast ((qqw_54).trans (congrArg (fun Z9 => Z9) (sr_in (by decide) sr_out))) hW_47
      have kn_56 : w_54 (7) = nI L := by rw [ew_54]; exact (ps_o (by decide) (by decide)).trans kn_36
      have kn_57 : w_54 (10) = 0 := by rw [ew_54]; exact (ps_o (by decide) (by decide)).trans kn_37
      have kn_58 : w_54 (6) = nI p_50 := by rw [ew_54]; exact ps_6
      have kn_59 : w_54 (9) = 0 := by rw [ew_54]; exact ps_9
      refine lv_istore_n (lv' := [(2, .int r_43), (4, .int r_23), (3, .int 0), (1, .int 6), (0, .ref (ad G 723))]) hx hb dX8_command_111 rfl hl_41 (by decide) rfl (fun ls_60 hl_61 => ?_)
      refine lv_iload_n hx hb dX8_command_112 rfl (lv_at hl_61 3 rfl) ?_
      refine lv_iconst (v := 3) hx hb dX8_command_113 (by decide) ?_
      refine lv_icmp_ne (tgt := 130) hx hb dX8_command_114 (by decide) (fun _ => ?_) (fun h9 => absurd h9 (by decide))
      refine lv_aload_n hx hb dX8_command_130 rfl (lv_at hl_61 4 rfl) ?_
      refine gM_isWrong C hW_55 (hwc hwX8) (mc qw_1496) dX8_command_131 ?_
      refine g_top (y := w_54 (9)) (congrFun (rd_in (by decide) rd_out) _) ?_
      refine g_top (y := 0) kn_59 ?_
      refine lv_if_ne (tgt := 144) hx hb dX8_command_134 (by decide) (fun h9 => absurd h9 (by decide)) (fun _ => ?_)
      refine lv_aload_n hx hb dX8_command_137 rfl (lv_at hl_61 4 rfl) ?_
      refine gM_isDoing C hW_55 (hwc hwX8) (mc qw_1497) dX8_command_138 ?_
      refine g_top (y := w_54 (10)) (congrFun (rd_in (by decide) rd_out) _) ?_
      refine g_top (y := 0) kn_57 ?_
      refine lv_if_ne (tgt := 145) hx hb dX8_command_141 (by decide) (fun h9 => absurd h9 (by decide)) (fun _ => ?_)
      exact g_vret C hr hlk hW_55 hS_48 dX8_command_144 (by subst ew_54; subst ew_34; subst ew_10; subst ew_9; simp only [caA, caB, hd_32, hd_52, if_true, if_false, ps_ps, Nat.one_ne_zero])
    · rw [hbc_51] at hd_52 h_42
      replace h_42 : Y_44 = setRow (setRow (setRow X 15 w_34) 24 w_10) 15 (ps w_34 p_50 1) := h_42
      replace h_42 : Y_44 = setRow (setRow (setRow X 15 w_34) 24 w_10) 15 (ps w_34 p_50 1) := h_42
      obtain ⟨w_62, ew_62⟩ : ∃ Z9, Z9 = ps w_34 p_50 1 := ⟨_, rfl⟩
      have qqw_62 : Y_44 = setRow (setRow (setRow X 15 w_34) 24 w_10) 15 w_62 := by rw [h_42, ew_62]
      have hW_63 : Wd G (setRow (setRow X 15 w_62) 24 w_10) H_45 := Wd.cast ((qqw_62).trans (congrArg (fun Z9 => Z9) (sr_in (by decide) sr_out))) hW_47
      have kn_64 : w_62 (7) = nI L := by rw [ew_62]; exact (ps_o (by decide) (by decide)).trans kn_36
      have kn_65 : w_62 (10) = 0 := by rw [ew_62]; exact (ps_o (by decide) (by decide)).trans kn_37
      have kn_66 : w_62 (6) = nI p_50 := by rw [ew_62]; exact ps_6
      have kn_67 : w_62 (9) = 1 := by rw [ew_62]; exact ps_9
      refine lv_istore_n (lv' := [(2, .int r_43), (4, .int r_23), (3, .int 0), (1, .int 6), (0, .ref (ad G 723))]) hx hb dX8_command_111 rfl hl_41 (by decide) rfl (fun ls_68 hl_69 => ?_)
      refine lv_iload_n hx hb dX8_command_112 rfl (lv_at hl_69 3 rfl) ?_
      refine lv_iconst (v := 3) hx hb dX8_command_113 (by decide) ?_
      refine lv_icmp_ne (tgt := 130) hx hb dX8_command_114 (by decide) (fun _ => ?_) (fun h9 => absurd h9 (by decide))
      refine lv_aload_n hx hb dX8_command_130 rfl (lv_at hl_69 4 rfl) ?_
      refine gM_isWrong C hW_63 (hwc hwX8) (mc qw_1496) dX8_command_131 ?_
      refine g_top (y := w_62 (9)) (congrFun (rd_in (by decide) rd_out) _) ?_
      refine g_top (y := 1) kn_67 ?_
      refine lv_if_ne (tgt := 144) hx hb dX8_command_134 (by decide) (fun _ => ?_) (fun h9 => absurd h9 (by decide))
      exact g_vret C hr hlk hW_63 hS_48 dX8_command_144 (by subst ew_62; subst ew_34; subst ew_10; subst ew_9; simp only [caA, caB, hd_32, hd_52, if_true, if_false, ps_ps, Nat.one_ne_zero])
  · rw [hbc_31] at hd_32 h_22
    replace h_22 : Y_24 = setRow (setRow (setRow X 15 w_9) 24 w_10) 15 (ps w_9 p_30 1) := h_22
    replace h_22 : Y_24 = setRow (setRow (setRow X 15 w_9) 24 w_10) 15 (ps w_9 p_30 1) := h_22
    obtain ⟨w_70, ew_70⟩ : ∃ Z9, Z9 = ps w_9 p_30 1 := ⟨_, rfl⟩
    have qqw_70 : Y_24 = setRow (setRow (setRow X 15 w_9) 24 w_10) 15 w_70 := by rw [h_22, ew_70]
    have hW_71 : Wd G (setRow (setRow X 15 w_70) 24 w_10) H_25 := Wd.cast ((qqw_70).trans (congrArg (fun Z9 => Z9) (sr_in (by decide) sr_out))) hW_27
    have kn_72 : w_70 (7) = nI L := by rw [ew_70]; exact (ps_o (by decide) (by decide)).trans kn_12
    have kn_73 : w_70 (10) = 0 := by rw [ew_70]; exact (ps_o (by decide) (by decide)).trans kn_13
    have kn_74 : w_70 (6) = nI p_30 := by rw [ew_70]; exact ps_6
    have kn_75 : w_70 (9) = 1 := by rw [ew_70]; exact ps_9
    refine lv_istore (lv' := [(4, .int r_23), (3, .int 0), (2, .int 0), (1, .int 6), (0, .ref (ad G 723))]) hx hb dX8_command_37 hl_21 (by decide) rfl (fun ls_76 hl_77 => ?_)
    refine lv_iload_n hx hb dX8_command_39 rfl (lv_at hl_77 3 rfl) ?_
    refine lv_if_ne (tgt := 55) hx hb dX8_command_40 (by decide) (fun _ => ?_) (fun h9 => absurd h9 (by decide))
    refine lv_iload_n hx hb dX8_command_55 rfl (lv_at hl_77 3 rfl) ?_
    refine lv_if_ne (tgt := 72) hx hb dX8_command_56 (by decide) (fun _ => ?_) (fun h9 => absurd h9 (by decide))
    refine lv_iload_n hx hb dX8_command_72 rfl (lv_at hl_77 3 rfl) ?_
    refine lv_iconst (v := 1) hx hb dX8_command_73 (by decide) ?_
    refine lv_icmp_eq (tgt := 99) hx hb dX8_command_74 (by decide) (fun h9 => absurd h9 (by decide)) (fun _ => ?_)
    refine lv_iload_n hx hb dX8_command_77 rfl (lv_at hl_77 3 rfl) ?_
    refine lv_iconst (v := 3) hx hb dX8_command_78 (by decide) ?_
    refine lv_icmp_eq (tgt := 99) hx hb dX8_command_79 (by decide) (fun h9 => absurd h9 (by decide)) (fun _ => ?_)
    refine lv_iload_n hx hb dX8_command_82 rfl (lv_at hl_77 3 rfl) ?_
    refine lv_iconst (v := 4) hx hb dX8_command_83 (by decide) ?_
    refine lv_icmp_eq (tgt := 99) hx hb dX8_command_84 (by decide) (fun h9 => absurd h9 (by decide)) (fun _ => ?_)
    refine lv_iload_n hx hb dX8_command_87 rfl (lv_at hl_77 3 rfl) ?_
    refine lv_bipush (v := 6) hx hb dX8_command_88 (by decide) ?_
    refine lv_icmp_eq (tgt := 99) hx hb dX8_command_90 (by decide) (fun _ => ?_) (fun h9 => absurd h9 (by decide))
    refine lv_aload_n hx hb dX8_command_99 rfl (lv_at hl_77 4 rfl) ?_
    refine gM_isWrong C hW_71 (hwc hwX8) (mc qw_1496) dX8_command_100 ?_
    refine g_top (y := w_70 (9)) (congrFun (rd_in (by decide) rd_out) _) ?_
    refine g_top (y := 1) kn_75 ?_
    refine lv_if_ne (tgt := 112) hx hb dX8_command_103 (by decide) (fun _ => ?_) (fun h9 => absurd h9 (by decide))
    refine lv_iload_n hx hb dX8_command_112 rfl (lv_at hl_77 3 rfl) ?_
    refine lv_iconst (v := 3) hx hb dX8_command_113 (by decide) ?_
    refine lv_icmp_ne (tgt := 130) hx hb dX8_command_114 (by decide) (fun _ => ?_) (fun h9 => absurd h9 (by decide))
    refine lv_aload_n hx hb dX8_command_130 rfl (lv_at hl_77 4 rfl) ?_
    refine gM_isWrong C hW_71 (hwc hwX8) (mc qw_1496) dX8_command_131 ?_
    refine g_top (y := w_70 (9)) (congrFun (rd_in (by decide) rd_out) _) ?_
    refine g_top (y := 1) kn_75 ?_
    refine lv_if_ne (tgt := 144) hx hb dX8_command_134 (by decide) (fun _ => ?_) (fun h9 => absurd h9 (by decide))
    exact g_vret C hr hlk hW_71 hS_28 dX8_command_144 (by subst ew_70; subst ew_10; subst ew_9; simp only [caA, caB, hd_32, if_true, if_false, ps_ps, Nat.one_ne_zero])

set_option maxHeartbeats 4000000 in
set_option maxRecDepth 100000 in
theorem cX8_command07_ok (l : Launch) (G : GT) (X : St) (pp L : Nat) (hp : pp ≤ L) (hL : L ≤ 60) (e6 : X.1 15 6 = nI pp) (e7 : X.1 15 7 = nI L) (e9 : X.1 15 9 = 0) (hwd : WdOk (X.1 25) (X.1 26)) (e10 : X.1 15 10 = 0) (p1 : Nat) (hp1 : p1 ≤ L) (z1 : Nat → Int32) (hw9 : wdM (X.1 22) L pp (X.1 24) = (7, p1, 0, z1)) : MetV l G yX8_command (wsG yX8_command cX8_command 6 none) (rmz 3 66) [.ref (ad G 723)] X (fun Y => Y = setRow (setRow X 15 (ps (X.1 15) (ca2 (X.1 22) L p1).2.2.2.1 (ca2 (X.1 22) L p1).2.2.2.2)) 24 z1) := by
  refine g_met (cc := cX8_command) (maxL := 6) (ret := none) (by decide) rfl (Nat.le_of_ble_eq_true rfl) ?_
  intro p e s m below meth c ls C hr hlk hnm hW hl
  have hx := C.1.1
  have hb := C.1.2.1
  have hS : va_S (Ab G) s.heap s.heap [] := va_S.rf
  have hl : lv_has ls 6 [(0, .ref (ad G 723))] := hl
  have hW : Wd G (setRow (setRow (X) 15 (X.1 15)) 24 (X.1 24)) s.heap := Wd.cast (((sr_same (X := setRow (X) 15 (X.1 15)) (r := 24) rfl).trans (sr_same (X := X) (r := 15) rfl))).symm hW
  refine lv_aload_n hx hb dX8_command_0 rfl (lv_at hl 0 rfl) ?_
  refine g_calli (va_runV (As := []) (rest := []) C.1 (cX8_word_ok l G (setRow (setRow X 15 (X.1 15)) 24 (X.1 24)) pp L (show pp ≤ L by omega) hL e6 e7 e9 hwd) (cwV 0 C.1.2.2.2.2 (gV qw_1895 qw_1897 qw_63 qw_81 qw_1898) rfl rfl rfl (by decide +kernel) ⟨Nat.le_of_ble_eq_true rfl, Nat.le_of_ble_eq_true rfl⟩) (g_rModel C hW hS []) rfl rfl hl.1 rfl (lv_room (Nat.le_of_ble_eq_true rfl)) dX8_command_1 ⟨Nat.zero_le _, Nat.zero_le _⟩) hS (fun r_2 Y_3 H_4 locs_5 hW_6 hS_7 h_1 => ?_)
  replace h_1 : r_2 = (wdM (X.1 22) L pp (X.1 24)).1 ∧ Y_3 = setRow (setRow (setRow (setRow X 15 (X.1 15)) 24 (X.1 24)) 15 (ps (X.1 15) (wdM (X.1 22) L pp (X.1 24)).2.1 (wdM (X.1 22) L pp (X.1 24)).2.2.1)) 24 (wdM (X.1 22) L pp (X.1 24)).2.2.2 := h_1
  rw [hw9] at h_1
  obtain ⟨h_8, h_1⟩ := h_1
  replace h_8 : r_2 = 7 := h_8
  subst h_8
  replace h_1 : Y_3 = setRow (setRow (setRow (setRow X 15 (X.1 15)) 24 (X.1 24)) 15 (ps (X.1 15) p1 0)) 24 z1 := h_1
  replace h_1 : Y_3 = setRow (setRow (setRow (setRow X 15 (X.1 15)) 24 (X.1 24)) 15 (ps (X.1 15) p1 0)) 24 z1 := h_1
  obtain ⟨w_9, ew_9⟩ : ∃ Z9, Z9 = ps (X.1 15) p1 0 := ⟨_, rfl⟩
  obtain ⟨w_10, ew_10⟩ : ∃ Z9, Z9 = z1 := ⟨_, rfl⟩
  have qqw_9 : Y_3 = setRow (setRow (setRow (setRow X 15 (X.1 15)) 24 (X.1 24)) 15 w_9) 24 w_10 := by rw [h_1, ew_9, ew_10]
  have hW_11 : Wd G (setRow (setRow X 15 w_9) 24 w_10) H_4 := Wd.cast (((qqw_9).trans (congrArg (fun Z9 => setRow (Z9) 24 w_10) (sr_in (by decide) sr_out))).trans (congrArg (fun Z9 => Z9) sr_out)) hW_6
  have kn_12 : w_9 (7) = nI L := by rw [ew_9]; exact (ps_o (by decide) (by decide)).trans e7
  have kn_13 : w_9 (10) = 0 := by rw [ew_9]; exact (ps_o (by decide) (by decide)).trans e10
  have kn_14 : w_9 (6) = nI p1 := by rw [ew_9]; exact ps_6
  have kn_15 : w_9 (9) = 0 := by rw [ew_9]; exact ps_9
  refine lv_istore_n (lv' := [(1, .int 7), (0, .ref (ad G 723))]) hx hb dX8_command_4 rfl hl (by decide) rfl (fun ls_16 hl_17 => ?_)
  refine lv_iconst (v := 0) hx hb dX8_command_5 (by decide) ?_
  refine lv_istore_n (lv' := [(2, .int 0), (1, .int 7), (0, .ref (ad G 723))]) hx hb dX8_command_6 rfl hl_17 (by decide) rfl (fun ls_18 hl_19 => ?_)
  refine lv_iconst (v := 0) hx hb dX8_command_7 (by decide) ?_
  refine lv_istore_n (lv' := [(3, .int 0), (2, .int 0), (1, .int 7), (0, .ref (ad G 723))]) hx hb dX8_command_8 rfl hl_19 (by decide) rfl (fun ls_20 hl_21 => ?_)
  refine lv_aload_n hx hb dX8_command_9 rfl (lv_at hl_21 3 rfl) ?_
  refine gM_isWrong C hW_11 (hwc hwX8) (mc qw_1496) dX8_command_10 ?_
  refine g_top (y := w_9 (9)) (congrFun (rd_in (by decide) rd_out) _) ?_
  refine g_top (y := 0) kn_15 ?_
  refine lv_if_eq (tgt := 17) hx hb dX8_command_13 (by decide) (fun _ => ?_) (fun h9 => absurd h9 (by decide))
  refine lv_aload_n hx hb dX8_command_17 rfl (lv_at hl_21 3 rfl) ?_
  refine lv_iload_n hx hb dX8_command_18 rfl (lv_at hl_21 2 rfl) ?_
  refine lv_iconst (v := 5) hx hb dX8_command_19 (by decide) ?_
  refine lv_icmp_eq (tgt := 29) hx hb dX8_command_20 (by decide) (fun h9 => absurd h9 (by decide)) (fun _ => ?_)
  refine lv_iload_n hx hb dX8_command_23 rfl (lv_at hl_21 2 rfl) ?_
  refine lv_bipush (v := 8) hx hb dX8_command_24 (by decide) ?_
  refine lv_icmp_lt (tgt := 33) hx hb dX8_command_26 (by decide) (fun _ => ?_) (fun h9 => absurd h9 (by decide))
  refine lv_iconst (v := 1) hx hb dX8_command_33 (by decide) ?_
  refine g_calli (va_runV (As := [.int 1]) (rest := []) C.1 (cX8_digits_ok l G (setRow (setRow X 15 w_9) 24 w_10) p1 L (show p1 ≤ L by omega) hL kn_14 kn_12 kn_15 1 (by omega)) (cwV 1 C.1.2.2.2.2 (gV qw_1903 qw_1905 qw_65 qw_81 qw_1906) rfl rfl rfl (by decide +kernel) ⟨Nat.le_of_ble_eq_true rfl, Nat.le_of_ble_eq_true rfl⟩) (g_rModel C hW_11 hS_7 [.int 1]) rfl rfl hl_21.1 rfl (lv_room (Nat.le_of_ble_eq_true rfl)) dX8_command_34 ⟨Nat.zero_le _, Nat.zero_le _⟩) hS_7 (fun r_23 Y_24 H_25 locs_26 hW_27 hS_28 h_22 => ?_)
  replace h_22 : r_23 = (dgM (X.1 22) L 1 p1).1 ∧ Y_24 = setRow (setRow (setRow X 15 w_9) 24 w_10) 15 (ps w_9 (dgM (X.1 22) L 1 p1).2.1 (dgM (X.1 22) L 1 p1).2.2) := h_22
  obtain ⟨n_29, p_30, c_31, hd_32⟩ : ∃ x9 y9 z9, dgM (X.1 22) L 1 p1 = (x9, y9, z9) := ⟨_, _, _, rfl⟩
  rw [hd_32] at h_22
  obtain ⟨h_33, h_22⟩ := h_22
  replace h_33 : r_23 = n_29 := h_33
  subst h_33
  have hp_30 : p_30 ≤ L := dgM_le (show p1 ≤ L by omega) hd_32
  rcases dgM_b hd_32 with hbc_31 | hbc_31
  · rw [hbc_31] at hd_32 h_22
    replace h_22 : Y_24 = setRow (setRow (setRow X 15 w_9) 24 w_10) 15 (ps w_9 p_30 0) := h_22
    replace h_22 : Y_24 = setRow (setRow (setRow X 15 w_9) 24 w_10) 15 (ps w_9 p_30 0) := h_22
    obtain ⟨w_34, ew_34⟩ : ∃ Z9, Z9 = ps w_9 p_30 0 := ⟨_, rfl⟩
    have qqw_34 : Y_24 = setRow (setRow (setRow X 15 w_9) 24 w_10) 15 w_34 := by rw [h_22, ew_34]
    have hW_35 : Wd G (setRow (setRow X 15 w_34) 24 w_10) H_25 := Wd.cast ((qqw_34).trans (congrArg (fun Z9 => Z9) (sr_in (by decide) sr_out))) hW_27
    have kn_36 : w_34 (7) = nI L := by rw [ew_34]; exact (ps_o (by decide) (by decide)).trans kn_12
    have kn_37 : w_34 (10) = 0 := by rw [ew_34]; exact (ps_o (by decide) (by decide)).trans kn_13
    have kn_38 : w_34 (6) = nI p_30 := by rw [ew_34]; exact ps_6
    have kn_39 : w_34 (9) = 0 := by rw [ew_34]; exact ps_9
    refine lv_istore (lv' := [(4, .int r_23), (3, .int 0), (2, .int 0), (1, .int 7), (0, .ref (ad G 723))]) hx hb dX8_command_37 hl_21 (by decide) rfl (fun ls_40 hl_41 => ?_)
    refine lv_iload_n hx hb dX8_command_39 rfl (lv_at hl_41 3 rfl) ?_
    refine lv_if_ne (tgt := 55) hx hb dX8_command_40 (by decide) (fun _ => ?_) (fun h9 => absurd h9 (by decide))
    refine lv_iload_n hx hb dX8_command_55 rfl (lv_at hl_41 3 rfl) ?_
    refine lv_if_ne (tgt := 72) hx hb dX8_command_56 (by decide) (fun _ => ?_) (fun h9 => absurd h9 (by decide))
    refine lv_iload_n hx hb dX8_command_72 rfl (lv_at hl_41 3 rfl) ?_
    refine lv_iconst (v := 1) hx hb dX8_command_73 (by decide) ?_
    refine lv_icmp_eq (tgt := 99) hx hb dX8_command_74 (by decide) (fun h9 => absurd h9 (by decide)) (fun _ => ?_)
    refine lv_iload_n hx hb dX8_command_77 rfl (lv_at hl_41 3 rfl) ?_
    refine lv_iconst (v := 3) hx hb dX8_command_78 (by decide) ?_
    refine lv_icmp_eq (tgt := 99) hx hb dX8_command_79 (by decide) (fun h9 => absurd h9 (by decide)) (fun _ => ?_)
    refine lv_iload_n hx hb dX8_command_82 rfl (lv_at hl_41 3 rfl) ?_
    refine lv_iconst (v := 4) hx hb dX8_command_83 (by decide) ?_
    refine lv_icmp_eq (tgt := 99) hx hb dX8_command_84 (by decide) (fun h9 => absurd h9 (by decide)) (fun _ => ?_)
    refine lv_iload_n hx hb dX8_command_87 rfl (lv_at hl_41 3 rfl) ?_
    refine lv_bipush (v := 6) hx hb dX8_command_88 (by decide) ?_
    refine lv_icmp_eq (tgt := 99) hx hb dX8_command_90 (by decide) (fun h9 => absurd h9 (by decide)) (fun _ => ?_)
    refine lv_iload_n hx hb dX8_command_93 rfl (lv_at hl_41 3 rfl) ?_
    refine lv_bipush (v := 8) hx hb dX8_command_94 (by decide) ?_
    refine lv_icmp_ne (tgt := 112) hx hb dX8_command_96 (by decide) (fun _ => ?_) (fun h9 => absurd h9 (by decide))
    refine lv_iload_n hx hb dX8_command_112 rfl (lv_at hl_41 3 rfl) ?_
    refine lv_iconst (v := 3) hx hb dX8_command_113 (by decide) ?_
    refine lv_icmp_ne (tgt := 130) hx hb dX8_command_114 (by decide) (fun _ => ?_) (fun h9 => absurd h9 (by decide))
    refine lv_aload_n hx hb dX8_command_130 rfl (lv_at hl_41 4 rfl) ?_
    refine gM_isWrong C hW_35 (hwc hwX8) (mc qw_1496) dX8_command_131 ?_
    refine g_top (y := w_34 (9)) (congrFun (rd_in (by decide) rd_out) _) ?_
    refine g_top (y := 0) kn_39 ?_
    refine lv_if_ne (tgt := 144) hx hb dX8_command_134 (by decide) (fun h9 => absurd h9 (by decide)) (fun _ => ?_)
    refine lv_aload_n hx hb dX8_command_137 rfl (lv_at hl_41 4 rfl) ?_
    refine gM_isDoing C hW_35 (hwc hwX8) (mc qw_1497) dX8_command_138 ?_
    refine g_top (y := w_34 (10)) (congrFun (rd_in (by decide) rd_out) _) ?_
    refine g_top (y := 0) kn_37 ?_
    refine lv_if_ne (tgt := 145) hx hb dX8_command_141 (by decide) (fun h9 => absurd h9 (by decide)) (fun _ => ?_)
    exact g_vret C hr hlk hW_35 hS_28 dX8_command_144 (by subst ew_34; subst ew_10; subst ew_9; simp only [ca2, hd_32, if_true, if_false, ps_ps, Nat.one_ne_zero])
  · rw [hbc_31] at hd_32 h_22
    replace h_22 : Y_24 = setRow (setRow (setRow X 15 w_9) 24 w_10) 15 (ps w_9 p_30 1) := h_22
    replace h_22 : Y_24 = setRow (setRow (setRow X 15 w_9) 24 w_10) 15 (ps w_9 p_30 1) := h_22
    obtain ⟨w_42, ew_42⟩ : ∃ Z9, Z9 = ps w_9 p_30 1 := ⟨_, rfl⟩
    have qqw_42 : Y_24 = setRow (setRow (setRow X 15 w_9) 24 w_10) 15 w_42 := by rw [h_22, ew_42]
    have hW_43 : Wd G (setRow (setRow X 15 w_42) 24 w_10) H_25 := Wd.cast ((qqw_42).trans (congrArg (fun Z9 => Z9) (sr_in (by decide) sr_out))) hW_27
    have kn_44 : w_42 (7) = nI L := by rw [ew_42]; exact (ps_o (by decide) (by decide)).trans kn_12
    have kn_45 : w_42 (10) = 0 := by rw [ew_42]; exact (ps_o (by decide) (by decide)).trans kn_13
    have kn_46 : w_42 (6) = nI p_30 := by rw [ew_42]; exact ps_6
    have kn_47 : w_42 (9) = 1 := by rw [ew_42]; exact ps_9
    refine lv_istore (lv' := [(4, .int r_23), (3, .int 0), (2, .int 0), (1, .int 7), (0, .ref (ad G 723))]) hx hb dX8_command_37 hl_21 (by decide) rfl (fun ls_48 hl_49 => ?_)
    refine lv_iload_n hx hb dX8_command_39 rfl (lv_at hl_49 3 rfl) ?_
    refine lv_if_ne (tgt := 55) hx hb dX8_command_40 (by decide) (fun _ => ?_) (fun h9 => absurd h9 (by decide))
    refine lv_iload_n hx hb dX8_command_55 rfl (lv_at hl_49 3 rfl) ?_
    refine lv_if_ne (tgt := 72) hx hb dX8_command_56 (by decide) (fun _ => ?_) (fun h9 => absurd h9 (by decide))
    refine lv_iload_n hx hb dX8_command_72 rfl (lv_at hl_49 3 rfl) ?_
    refine lv_iconst (v := 1) hx hb dX8_command_73 (by decide) ?_
    refine lv_icmp_eq (tgt := 99) hx hb dX8_command_74 (by decide) (fun h9 => absurd h9 (by decide)) (fun _ => ?_)
    refine lv_iload_n hx hb dX8_command_77 rfl (lv_at hl_49 3 rfl) ?_
    refine lv_iconst (v := 3) hx hb dX8_command_78 (by decide) ?_
    refine lv_icmp_eq (tgt := 99) hx hb dX8_command_79 (by decide) (fun h9 => absurd h9 (by decide)) (fun _ => ?_)
    refine lv_iload_n hx hb dX8_command_82 rfl (lv_at hl_49 3 rfl) ?_
    refine lv_iconst (v := 4) hx hb dX8_command_83 (by decide) ?_
    refine lv_icmp_eq (tgt := 99) hx hb dX8_command_84 (by decide) (fun h9 => absurd h9 (by decide)) (fun _ => ?_)
    refine lv_iload_n hx hb dX8_command_87 rfl (lv_at hl_49 3 rfl) ?_
    refine lv_bipush (v := 6) hx hb dX8_command_88 (by decide) ?_
    refine lv_icmp_eq (tgt := 99) hx hb dX8_command_90 (by decide) (fun h9 => absurd h9 (by decide)) (fun _ => ?_)
    refine lv_iload_n hx hb dX8_command_93 rfl (lv_at hl_49 3 rfl) ?_
    refine lv_bipush (v := 8) hx hb dX8_command_94 (by decide) ?_
    refine lv_icmp_ne (tgt := 112) hx hb dX8_command_96 (by decide) (fun _ => ?_) (fun h9 => absurd h9 (by decide))
    refine lv_iload_n hx hb dX8_command_112 rfl (lv_at hl_49 3 rfl) ?_
    refine lv_iconst (v := 3) hx hb dX8_command_113 (by decide) ?_
    refine lv_icmp_ne (tgt := 130) hx hb dX8_command_114 (by decide) (fun _ => ?_) (fun h9 => absurd h9 (by decide))
    refine lv_aload_n hx hb dX8_command_130 rfl (lv_at hl_49 4 rfl) ?_
    refine gM_isWrong C hW_43 (hwc hwX8) (mc qw_1496) dX8_command_131 ?_
    refine g_top (y := w_42 (9)) (congrFun (rd_in (by decide) rd_out) _) ?_
    refine g_top (y := 1) kn_47 ?_
    refine lv_if_ne (tgt := 144) hx hb dX8_command_134 (by decide) (fun _ => ?_) (fun h9 => absurd h9 (by decide))
    exact g_vret C hr hlk hW_43 hS_28 dX8_command_144 (by subst ew_42; subst ew_10; subst ew_9; simp only [ca2, hd_32, if_true, if_false, ps_ps, Nat.one_ne_zero])

set_option maxHeartbeats 4000000 in
set_option maxRecDepth 100000 in
theorem cX8_command08_ok (l : Launch) (G : GT) (X : St) (pp L : Nat) (hp : pp ≤ L) (hL : L ≤ 60) (e6 : X.1 15 6 = nI pp) (e7 : X.1 15 7 = nI L) (e9 : X.1 15 9 = 0) (hwd : WdOk (X.1 25) (X.1 26)) (e10 : X.1 15 10 = 0) (p1 : Nat) (hp1 : p1 ≤ L) (z1 : Nat → Int32) (hw9 : wdM (X.1 22) L pp (X.1 24) = (8, p1, 0, z1)) : MetV l G yX8_command (wsG yX8_command cX8_command 6 none) (rmz 3 66) [.ref (ad G 723)] X (fun Y => Y = setRow (setRow X 15 (ps (X.1 15) (ca8 (X.1 22) L p1).2.2.2.1 (ca8 (X.1 22) L p1).2.2.2.2)) 24 z1) := by
  refine g_met (cc := cX8_command) (maxL := 6) (ret := none) (by decide) rfl (Nat.le_of_ble_eq_true rfl) ?_
  intro p e s m below meth c ls C hr hlk hnm hW hl
  have hx := C.1.1
  have hb := C.1.2.1
  have hS : va_S (Ab G) s.heap s.heap [] := va_S.rf
  have hl : lv_has ls 6 [(0, .ref (ad G 723))] := hl
  have hW : Wd G (setRow (setRow (X) 15 (X.1 15)) 24 (X.1 24)) s.heap := Wd.cast (((sr_same (X := setRow (X) 15 (X.1 15)) (r := 24) rfl).trans (sr_same (X := X) (r := 15) rfl))).symm hW
  refine lv_aload_n hx hb dX8_command_0 rfl (lv_at hl 0 rfl) ?_
  refine g_calli (va_runV (As := []) (rest := []) C.1 (cX8_word_ok l G (setRow (setRow X 15 (X.1 15)) 24 (X.1 24)) pp L (show pp ≤ L by omega) hL e6 e7 e9 hwd) (cwV 0 C.1.2.2.2.2 (gV qw_1895 qw_1897 qw_63 qw_81 qw_1898) rfl rfl rfl (by decide +kernel) ⟨Nat.le_of_ble_eq_true rfl, Nat.le_of_ble_eq_true rfl⟩) (g_rModel C hW hS []) rfl rfl hl.1 rfl (lv_room (Nat.le_of_ble_eq_true rfl)) dX8_command_1 ⟨Nat.zero_le _, Nat.zero_le _⟩) hS (fun r_2 Y_3 H_4 locs_5 hW_6 hS_7 h_1 => ?_)
  replace h_1 : r_2 = (wdM (X.1 22) L pp (X.1 24)).1 ∧ Y_3 = setRow (setRow (setRow (setRow X 15 (X.1 15)) 24 (X.1 24)) 15 (ps (X.1 15) (wdM (X.1 22) L pp (X.1 24)).2.1 (wdM (X.1 22) L pp (X.1 24)).2.2.1)) 24 (wdM (X.1 22) L pp (X.1 24)).2.2.2 := h_1
  rw [hw9] at h_1
  obtain ⟨h_8, h_1⟩ := h_1
  replace h_8 : r_2 = 8 := h_8
  subst h_8
  replace h_1 : Y_3 = setRow (setRow (setRow (setRow X 15 (X.1 15)) 24 (X.1 24)) 15 (ps (X.1 15) p1 0)) 24 z1 := h_1
  replace h_1 : Y_3 = setRow (setRow (setRow (setRow X 15 (X.1 15)) 24 (X.1 24)) 15 (ps (X.1 15) p1 0)) 24 z1 := h_1
  obtain ⟨w_9, ew_9⟩ : ∃ Z9, Z9 = ps (X.1 15) p1 0 := ⟨_, rfl⟩
  obtain ⟨w_10, ew_10⟩ : ∃ Z9, Z9 = z1 := ⟨_, rfl⟩
  have qqw_9 : Y_3 = setRow (setRow (setRow (setRow X 15 (X.1 15)) 24 (X.1 24)) 15 w_9) 24 w_10 := by rw [h_1, ew_9, ew_10]
  have hW_11 : Wd G (setRow (setRow X 15 w_9) 24 w_10) H_4 := Wd.cast (((qqw_9).trans (congrArg (fun Z9 => setRow (Z9) 24 w_10) (sr_in (by decide) sr_out))).trans (congrArg (fun Z9 => Z9) sr_out)) hW_6
  have kn_12 : w_9 (7) = nI L := by rw [ew_9]; exact (ps_o (by decide) (by decide)).trans e7
  have kn_13 : w_9 (10) = 0 := by rw [ew_9]; exact (ps_o (by decide) (by decide)).trans e10
  have kn_14 : w_9 (6) = nI p1 := by rw [ew_9]; exact ps_6
  have kn_15 : w_9 (9) = 0 := by rw [ew_9]; exact ps_9
  refine lv_istore_n (lv' := [(1, .int 8), (0, .ref (ad G 723))]) hx hb dX8_command_4 rfl hl (by decide) rfl (fun ls_16 hl_17 => ?_)
  refine lv_iconst (v := 0) hx hb dX8_command_5 (by decide) ?_
  refine lv_istore_n (lv' := [(2, .int 0), (1, .int 8), (0, .ref (ad G 723))]) hx hb dX8_command_6 rfl hl_17 (by decide) rfl (fun ls_18 hl_19 => ?_)
  refine lv_iconst (v := 0) hx hb dX8_command_7 (by decide) ?_
  refine lv_istore_n (lv' := [(3, .int 0), (2, .int 0), (1, .int 8), (0, .ref (ad G 723))]) hx hb dX8_command_8 rfl hl_19 (by decide) rfl (fun ls_20 hl_21 => ?_)
  refine lv_aload_n hx hb dX8_command_9 rfl (lv_at hl_21 3 rfl) ?_
  refine gM_isWrong C hW_11 (hwc hwX8) (mc qw_1496) dX8_command_10 ?_
  refine g_top (y := w_9 (9)) (congrFun (rd_in (by decide) rd_out) _) ?_
  refine g_top (y := 0) kn_15 ?_
  refine lv_if_eq (tgt := 17) hx hb dX8_command_13 (by decide) (fun _ => ?_) (fun h9 => absurd h9 (by decide))
  refine lv_aload_n hx hb dX8_command_17 rfl (lv_at hl_21 3 rfl) ?_
  refine lv_iload_n hx hb dX8_command_18 rfl (lv_at hl_21 2 rfl) ?_
  refine lv_iconst (v := 5) hx hb dX8_command_19 (by decide) ?_
  refine lv_icmp_eq (tgt := 29) hx hb dX8_command_20 (by decide) (fun h9 => absurd h9 (by decide)) (fun _ => ?_)
  refine lv_iload_n hx hb dX8_command_23 rfl (lv_at hl_21 2 rfl) ?_
  refine lv_bipush (v := 8) hx hb dX8_command_24 (by decide) ?_
  refine lv_icmp_lt (tgt := 33) hx hb dX8_command_26 (by decide) (fun h9 => absurd h9 (by decide)) (fun _ => ?_)
  refine lv_iconst (v := 3) hx hb dX8_command_29 (by decide) ?_
  refine lv_goto (tgt := 34) hx hb dX8_command_30 (by decide) ?_
  refine g_calli (va_runV (As := [.int 3]) (rest := []) C.1 (cX8_digits_ok l G (setRow (setRow X 15 w_9) 24 w_10) p1 L (show p1 ≤ L by omega) hL kn_14 kn_12 kn_15 3 (by omega)) (cwV 1 C.1.2.2.2.2 (gV qw_1903 qw_1905 qw_65 qw_81 qw_1906) rfl rfl rfl (by decide +kernel) ⟨Nat.le_of_ble_eq_true rfl, Nat.le_of_ble_eq_true rfl⟩) (g_rModel C hW_11 hS_7 [.int 3]) rfl rfl hl_21.1 rfl (lv_room (Nat.le_of_ble_eq_true rfl)) dX8_command_34 ⟨Nat.zero_le _, Nat.zero_le _⟩) hS_7 (fun r_23 Y_24 H_25 locs_26 hW_27 hS_28 h_22 => ?_)
  replace h_22 : r_23 = (dgM (X.1 22) L 3 p1).1 ∧ Y_24 = setRow (setRow (setRow X 15 w_9) 24 w_10) 15 (ps w_9 (dgM (X.1 22) L 3 p1).2.1 (dgM (X.1 22) L 3 p1).2.2) := h_22
  obtain ⟨n_29, p_30, c_31, hd_32⟩ : ∃ x9 y9 z9, dgM (X.1 22) L 3 p1 = (x9, y9, z9) := ⟨_, _, _, rfl⟩
  rw [hd_32] at h_22
  obtain ⟨h_33, h_22⟩ := h_22
  replace h_33 : r_23 = n_29 := h_33
  subst h_33
  have hp_30 : p_30 ≤ L := dgM_le (show p1 ≤ L by omega) hd_32
  rcases dgM_b hd_32 with hbc_31 | hbc_31
  · rw [hbc_31] at hd_32 h_22
    replace h_22 : Y_24 = setRow (setRow (setRow X 15 w_9) 24 w_10) 15 (ps w_9 p_30 0) := h_22
    replace h_22 : Y_24 = setRow (setRow (setRow X 15 w_9) 24 w_10) 15 (ps w_9 p_30 0) := h_22
    obtain ⟨w_34, ew_34⟩ : ∃ Z9, Z9 = ps w_9 p_30 0 := ⟨_, rfl⟩
    have qqw_34 : Y_24 = setRow (setRow (setRow X 15 w_9) 24 w_10) 15 w_34 := by rw [h_22, ew_34]
    have hW_35 : Wd G (setRow (setRow X 15 w_34) 24 w_10) H_25 := Wd.cast ((qqw_34).trans (congrArg (fun Z9 => Z9) (sr_in (by decide) sr_out))) hW_27
    have kn_36 : w_34 (7) = nI L := by rw [ew_34]; exact (ps_o (by decide) (by decide)).trans kn_12
    have kn_37 : w_34 (10) = 0 := by rw [ew_34]; exact (ps_o (by decide) (by decide)).trans kn_13
    have kn_38 : w_34 (6) = nI p_30 := by rw [ew_34]; exact ps_6
    have kn_39 : w_34 (9) = 0 := by rw [ew_34]; exact ps_9
    refine lv_istore (lv' := [(4, .int r_23), (3, .int 0), (2, .int 0), (1, .int 8), (0, .ref (ad G 723))]) hx hb dX8_command_37 hl_21 (by decide) rfl (fun ls_40 hl_41 => ?_)
    refine lv_iload_n hx hb dX8_command_39 rfl (lv_at hl_41 3 rfl) ?_
    refine lv_if_ne (tgt := 55) hx hb dX8_command_40 (by decide) (fun _ => ?_) (fun h9 => absurd h9 (by decide))
    refine lv_iload_n hx hb dX8_command_55 rfl (lv_at hl_41 3 rfl) ?_
    refine lv_if_ne (tgt := 72) hx hb dX8_command_56 (by decide) (fun _ => ?_) (fun h9 => absurd h9 (by decide))
    refine lv_iload_n hx hb dX8_command_72 rfl (lv_at hl_41 3 rfl) ?_
    refine lv_iconst (v := 1) hx hb dX8_command_73 (by decide) ?_
    refine lv_icmp_eq (tgt := 99) hx hb dX8_command_74 (by decide) (fun h9 => absurd h9 (by decide)) (fun _ => ?_)
    refine lv_iload_n hx hb dX8_command_77 rfl (lv_at hl_41 3 rfl) ?_
    refine lv_iconst (v := 3) hx hb dX8_command_78 (by decide) ?_
    refine lv_icmp_eq (tgt := 99) hx hb dX8_command_79 (by decide) (fun h9 => absurd h9 (by decide)) (fun _ => ?_)
    refine lv_iload_n hx hb dX8_command_82 rfl (lv_at hl_41 3 rfl) ?_
    refine lv_iconst (v := 4) hx hb dX8_command_83 (by decide) ?_
    refine lv_icmp_eq (tgt := 99) hx hb dX8_command_84 (by decide) (fun h9 => absurd h9 (by decide)) (fun _ => ?_)
    refine lv_iload_n hx hb dX8_command_87 rfl (lv_at hl_41 3 rfl) ?_
    refine lv_bipush (v := 6) hx hb dX8_command_88 (by decide) ?_
    refine lv_icmp_eq (tgt := 99) hx hb dX8_command_90 (by decide) (fun h9 => absurd h9 (by decide)) (fun _ => ?_)
    refine lv_iload_n hx hb dX8_command_93 rfl (lv_at hl_41 3 rfl) ?_
    refine lv_bipush (v := 8) hx hb dX8_command_94 (by decide) ?_
    refine lv_icmp_ne (tgt := 112) hx hb dX8_command_96 (by decide) (fun h9 => absurd h9 (by decide)) (fun _ => ?_)
    refine lv_aload_n hx hb dX8_command_99 rfl (lv_at hl_41 4 rfl) ?_
    refine gM_isWrong C hW_35 (hwc hwX8) (mc qw_1496) dX8_command_100 ?_
    refine g_top (y := w_34 (9)) (congrFun (rd_in (by decide) rd_out) _) ?_
    refine g_top (y := 0) kn_39 ?_
    refine lv_if_ne (tgt := 112) hx hb dX8_command_103 (by decide) (fun h9 => absurd h9 (by decide)) (fun _ => ?_)
    refine lv_aload_n hx hb dX8_command_106 rfl (lv_at hl_41 4 rfl) ?_
    refine lv_iconst (v := 1) hx hb dX8_command_107 (by decide) ?_
    refine g_calli (va_runV (As := [.int 1]) (rest := []) C.1 (cX8_behind_ok l G (setRow (setRow X 15 w_34) 24 w_10) p_30 L (show p_30 ≤ L by omega) hL kn_38 kn_36 kn_39 1 (by omega)) (cwV 1 C.1.2.2.2.2 (gV qw_1915 qw_1917 qw_68 qw_81 qw_1918) rfl rfl rfl (by decide +kernel) ⟨Nat.le_of_ble_eq_true rfl, Nat.le_of_ble_eq_true rfl⟩) (g_rModel C hW_35 hS_28 [.int 1]) rfl rfl hl_41.1 rfl (lv_room (Nat.le_of_ble_eq_true rfl)) dX8_command_108 ⟨Nat.zero_le _, Nat.zero_le _⟩) hS_28 (fun r_43 Y_44 H_45 locs_46 hW_47 hS_48 h_42 => ?_)
    replace h_42 : r_43 = (bhM (X.1 22) L 1 p_30).1 ∧ Y_44 = setRow (setRow (setRow X 15 w_34) 24 w_10) 15 (ps w_34 (bhM (X.1 22) L 1 p_30).2.1 (bhM (X.1 22) L 1 p_30).2.2) := h_42
    obtain ⟨n_49, p_50, c_51, hd_52⟩ : ∃ x9 y9 z9, bhM (X.1 22) L 1 p_30 = (x9, y9, z9) := ⟨_, _, _, rfl⟩
    rw [hd_52] at h_42
    obtain ⟨h_53, h_42⟩ := h_42
    replace h_53 : r_43 = n_49 := h_53
    subst h_53
    have hp_50 : p_50 ≤ L := bhM_le (show p_30 ≤ L by omega) hd_52
    rcases bhM_b hd_52 with hbc_51 | hbc_51
    · rw [hbc_51] at hd_52 h_42
      replace h_42 : Y_44 = setRow (setRow (setRow X 15 w_34) 24 w_10) 15 (ps w_34 p_50 0) := h_42
      replace h_42 : Y_44 = setRow (setRow (setRow X 15 w_34) 24 w_10) 15 (ps w_34 p_50 0) := h_42
      obtain ⟨w_54, ew_54⟩ : ∃ Z9, Z9 = ps w_34 p_50 0 := ⟨_, rfl⟩
      have qqw_54 : Y_44 = setRow (setRow (setRow X 15 w_34) 24 w_10) 15 w_54 := by rw [h_42, ew_54]
      have hW_55 : Wd G (setRow (setRow X 15 w_54) 24 w_10) H_45 := Wd.cast ((qqw_54).trans (congrArg (fun Z9 => Z9) (sr_in (by decide) sr_out))) hW_47
      have kn_56 : w_54 (7) = nI L := by rw [ew_54]; exact (ps_o (by decide) (by decide)).trans kn_36
      have kn_57 : w_54 (10) = 0 := by rw [ew_54]; exact (ps_o (by decide) (by decide)).trans kn_37
      have kn_58 : w_54 (6) = nI p_50 := by rw [ew_54]; exact ps_6
      have kn_59 : w_54 (9) = 0 := by rw [ew_54]; exact ps_9
      refine lv_istore_n (lv' := [(2, .int r_43), (4, .int r_23), (3, .int 0), (1, .int 8), (0, .ref (ad G 723))]) hx hb dX8_command_111 rfl hl_41 (by decide) rfl (fun ls_60 hl_61 => ?_)
      refine lv_iload_n hx hb dX8_command_112 rfl (lv_at hl_61 3 rfl) ?_
      refine lv_iconst (v := 3) hx hb dX8_command_113 (by decide) ?_
      refine lv_icmp_ne (tgt := 130) hx hb dX8_command_114 (by decide) (fun _ => ?_) (fun h9 => absurd h9 (by decide))
      refine lv_aload_n hx hb dX8_command_130 rfl (lv_at hl_61 4 rfl) ?_
      refine gM_isWrong C hW_55 (hwc hwX8) (mc qw_1496) dX8_command_131 ?_
      refine g_top (y := w_54 (9)) (congrFun (rd_in (by decide) rd_out) _) ?_
      refine g_top (y := 0) kn_59 ?_
      refine lv_if_ne (tgt := 144) hx hb dX8_command_134 (by decide) (fun h9 => absurd h9 (by decide)) (fun _ => ?_)
      refine lv_aload_n hx hb dX8_command_137 rfl (lv_at hl_61 4 rfl) ?_
      refine gM_isDoing C hW_55 (hwc hwX8) (mc qw_1497) dX8_command_138 ?_
      refine g_top (y := w_54 (10)) (congrFun (rd_in (by decide) rd_out) _) ?_
      refine g_top (y := 0) kn_57 ?_
      refine lv_if_ne (tgt := 145) hx hb dX8_command_141 (by decide) (fun h9 => absurd h9 (by decide)) (fun _ => ?_)
      exact g_vret C hr hlk hW_55 hS_48 dX8_command_144 (by subst ew_54; subst ew_34; subst ew_10; subst ew_9; simp only [ca8, caB, hd_32, hd_52, if_true, if_false, ps_ps, Nat.one_ne_zero])
    · rw [hbc_51] at hd_52 h_42
      replace h_42 : Y_44 = setRow (setRow (setRow X 15 w_34) 24 w_10) 15 (ps w_34 p_50 1) := h_42
      replace h_42 : Y_44 = setRow (setRow (setRow X 15 w_34) 24 w_10) 15 (ps w_34 p_50 1) := h_42
      obtain ⟨w_62, ew_62⟩ : ∃ Z9, Z9 = ps w_34 p_50 1 := ⟨_, rfl⟩
      have qqw_62 : Y_44 = setRow (setRow (setRow X 15 w_34) 24 w_10) 15 w_62 := by rw [h_42, ew_62]
      have hW_63 : Wd G (setRow (setRow X 15 w_62) 24 w_10) H_45 := Wd.cast ((qqw_62).trans (congrArg (fun Z9 => Z9) (sr_in (by decide) sr_out))) hW_47
      have kn_64 : w_62 (7) = nI L := by rw [ew_62]; exact (ps_o (by decide) (by decide)).trans kn_36
      have kn_65 : w_62 (10) = 0 := by rw [ew_62]; exact (ps_o (by decide) (by decide)).trans kn_37
      have kn_66 : w_62 (6) = nI p_50 := by rw [ew_62]; exact ps_6
      have kn_67 : w_62 (9) = 1 := by rw [ew_62]; exact ps_9
      refine lv_istore_n (lv' := [(2, .int r_43), (4, .int r_23), (3, .int 0), (1, .int 8), (0, .ref (ad G 723))]) hx hb dX8_command_111 rfl hl_41 (by decide) rfl (fun ls_68 hl_69 => ?_)
      refine lv_iload_n hx hb dX8_command_112 rfl (lv_at hl_69 3 rfl) ?_
      refine lv_iconst (v := 3) hx hb dX8_command_113 (by decide) ?_
      refine lv_icmp_ne (tgt := 130) hx hb dX8_command_114 (by decide) (fun _ => ?_) (fun h9 => absurd h9 (by decide))
      refine lv_aload_n hx hb dX8_command_130 rfl (lv_at hl_69 4 rfl) ?_
      refine gM_isWrong C hW_63 (hwc hwX8) (mc qw_1496) dX8_command_131 ?_
      refine g_top (y := w_62 (9)) (congrFun (rd_in (by decide) rd_out) _) ?_
      refine g_top (y := 1) kn_67 ?_
      refine lv_if_ne (tgt := 144) hx hb dX8_command_134 (by decide) (fun _ => ?_) (fun h9 => absurd h9 (by decide))
      exact g_vret C hr hlk hW_63 hS_48 dX8_command_144 (by subst ew_62; subst ew_34; subst ew_10; subst ew_9; simp only [ca8, caB, hd_32, hd_52, if_true, if_false, ps_ps, Nat.one_ne_zero])
  · rw [hbc_31] at hd_32 h_22
    replace h_22 : Y_24 = setRow (setRow (setRow X 15 w_9) 24 w_10) 15 (ps w_9 p_30 1) := h_22
    replace h_22 : Y_24 = setRow (setRow (setRow X 15 w_9) 24 w_10) 15 (ps w_9 p_30 1) := h_22
    obtain ⟨w_70, ew_70⟩ : ∃ Z9, Z9 = ps w_9 p_30 1 := ⟨_, rfl⟩
    have qqw_70 : Y_24 = setRow (setRow (setRow X 15 w_9) 24 w_10) 15 w_70 := by rw [h_22, ew_70]
    have hW_71 : Wd G (setRow (setRow X 15 w_70) 24 w_10) H_25 := Wd.cast ((qqw_70).trans (congrArg (fun Z9 => Z9) (sr_in (by decide) sr_out))) hW_27
    have kn_72 : w_70 (7) = nI L := by rw [ew_70]; exact (ps_o (by decide) (by decide)).trans kn_12
    have kn_73 : w_70 (10) = 0 := by rw [ew_70]; exact (ps_o (by decide) (by decide)).trans kn_13
    have kn_74 : w_70 (6) = nI p_30 := by rw [ew_70]; exact ps_6
    have kn_75 : w_70 (9) = 1 := by rw [ew_70]; exact ps_9
    refine lv_istore (lv' := [(4, .int r_23), (3, .int 0), (2, .int 0), (1, .int 8), (0, .ref (ad G 723))]) hx hb dX8_command_37 hl_21 (by decide) rfl (fun ls_76 hl_77 => ?_)
    refine lv_iload_n hx hb dX8_command_39 rfl (lv_at hl_77 3 rfl) ?_
    refine lv_if_ne (tgt := 55) hx hb dX8_command_40 (by decide) (fun _ => ?_) (fun h9 => absurd h9 (by decide))
    refine lv_iload_n hx hb dX8_command_55 rfl (lv_at hl_77 3 rfl) ?_
    refine lv_if_ne (tgt := 72) hx hb dX8_command_56 (by decide) (fun _ => ?_) (fun h9 => absurd h9 (by decide))
    refine lv_iload_n hx hb dX8_command_72 rfl (lv_at hl_77 3 rfl) ?_
    refine lv_iconst (v := 1) hx hb dX8_command_73 (by decide) ?_
    refine lv_icmp_eq (tgt := 99) hx hb dX8_command_74 (by decide) (fun h9 => absurd h9 (by decide)) (fun _ => ?_)
    refine lv_iload_n hx hb dX8_command_77 rfl (lv_at hl_77 3 rfl) ?_
    refine lv_iconst (v := 3) hx hb dX8_command_78 (by decide) ?_
    refine lv_icmp_eq (tgt := 99) hx hb dX8_command_79 (by decide) (fun h9 => absurd h9 (by decide)) (fun _ => ?_)
    refine lv_iload_n hx hb dX8_command_82 rfl (lv_at hl_77 3 rfl) ?_
    refine lv_iconst (v := 4) hx hb dX8_command_83 (by decide) ?_
    refine lv_icmp_eq (tgt := 99) hx hb dX8_command_84 (by decide) (fun h9 => absurd h9 (by decide)) (fun _ => ?_)
    refine lv_iload_n hx hb dX8_command_87 rfl (lv_at hl_77 3 rfl) ?_
    refine lv_bipush (v := 6) hx hb dX8_command_88 (by decide) ?_
    refine lv_icmp_eq (tgt := 99) hx hb dX8_command_90 (by decide) (fun h9 => absurd h9 (by decide)) (fun _ => ?_)
    refine lv_iload_n hx hb dX8_command_93 rfl (lv_at hl_77 3 rfl) ?_
    refine lv_bipush (v := 8) hx hb dX8_command_94 (by decide) ?_
    refine lv_icmp_ne (tgt := 112) hx hb dX8_command_96 (by decide) (fun h9 => absurd h9 (by decide)) (fun _ => ?_)
    refine lv_aload_n hx hb dX8_command_99 rfl (lv_at hl_77 4 rfl) ?_
    refine gM_isWrong C hW_71 (hwc hwX8) (mc qw_1496) dX8_command_100 ?_
    refine g_top (y := w_70 (9)) (congrFun (rd_in (by decide) rd_out) _) ?_
    refine g_top (y := 1) kn_75 ?_
    refine lv_if_ne (tgt := 112) hx hb dX8_command_103 (by decide) (fun _ => ?_) (fun h9 => absurd h9 (by decide))
    refine lv_iload_n hx hb dX8_command_112 rfl (lv_at hl_77 3 rfl) ?_
    refine lv_iconst (v := 3) hx hb dX8_command_113 (by decide) ?_
    refine lv_icmp_ne (tgt := 130) hx hb dX8_command_114 (by decide) (fun _ => ?_) (fun h9 => absurd h9 (by decide))
    refine lv_aload_n hx hb dX8_command_130 rfl (lv_at hl_77 4 rfl) ?_
    refine gM_isWrong C hW_71 (hwc hwX8) (mc qw_1496) dX8_command_131 ?_
    refine g_top (y := w_70 (9)) (congrFun (rd_in (by decide) rd_out) _) ?_
    refine g_top (y := 1) kn_75 ?_
    refine lv_if_ne (tgt := 144) hx hb dX8_command_134 (by decide) (fun _ => ?_) (fun h9 => absurd h9 (by decide))
    exact g_vret C hr hlk hW_71 hS_28 dX8_command_144 (by subst ew_70; subst ew_10; subst ew_9; simp only [ca8, caB, hd_32, if_true, if_false, ps_ps, Nat.one_ne_zero])

set_option maxHeartbeats 4000000 in
set_option maxRecDepth 100000 in
theorem cX8_command09_ok (l : Launch) (G : GT) (X : St) (pp L : Nat) (hp : pp ≤ L) (hL : L ≤ 60) (e6 : X.1 15 6 = nI pp) (e7 : X.1 15 7 = nI L) (e9 : X.1 15 9 = 0) (hwd : WdOk (X.1 25) (X.1 26)) (e10 : X.1 15 10 = 0) (p1 : Nat) (hp1 : p1 ≤ L) (z1 : Nat → Int32) (hw9 : wdM (X.1 22) L pp (X.1 24) = (9, p1, 0, z1)) : MetV l G yX8_command (wsG yX8_command cX8_command 6 none) (rmz 3 66) [.ref (ad G 723)] X (fun Y => Y = setRow (setRow X 15 (ps (X.1 15) (ca5 (X.1 22) L p1).2.2.2.1 (ca5 (X.1 22) L p1).2.2.2.2)) 24 z1) := by
  refine g_met (cc := cX8_command) (maxL := 6) (ret := none) (by decide) rfl (Nat.le_of_ble_eq_true rfl) ?_
  intro p e s m below meth c ls C hr hlk hnm hW hl
  have hx := C.1.1
  have hb := C.1.2.1
  have hS : va_S (Ab G) s.heap s.heap [] := va_S.rf
  have hl : lv_has ls 6 [(0, .ref (ad G 723))] := hl
  have hW : Wd G (setRow (setRow (X) 15 (X.1 15)) 24 (X.1 24)) s.heap := Wd.cast (((sr_same (X := setRow (X) 15 (X.1 15)) (r := 24) rfl).trans (sr_same (X := X) (r := 15) rfl))).symm hW
  refine lv_aload_n hx hb dX8_command_0 rfl (lv_at hl 0 rfl) ?_
  refine g_calli (va_runV (As := []) (rest := []) C.1 (cX8_word_ok l G (setRow (setRow X 15 (X.1 15)) 24 (X.1 24)) pp L (show pp ≤ L by omega) hL e6 e7 e9 hwd) (cwV 0 C.1.2.2.2.2 (gV qw_1895 qw_1897 qw_63 qw_81 qw_1898) rfl rfl rfl (by decide +kernel) ⟨Nat.le_of_ble_eq_true rfl, Nat.le_of_ble_eq_true rfl⟩) (g_rModel C hW hS []) rfl rfl hl.1 rfl (lv_room (Nat.le_of_ble_eq_true rfl)) dX8_command_1 ⟨Nat.zero_le _, Nat.zero_le _⟩) hS (fun r_2 Y_3 H_4 locs_5 hW_6 hS_7 h_1 => ?_)
  replace h_1 : r_2 = (wdM (X.1 22) L pp (X.1 24)).1 ∧ Y_3 = setRow (setRow (setRow (setRow X 15 (X.1 15)) 24 (X.1 24)) 15 (ps (X.1 15) (wdM (X.1 22) L pp (X.1 24)).2.1 (wdM (X.1 22) L pp (X.1 24)).2.2.1)) 24 (wdM (X.1 22) L pp (X.1 24)).2.2.2 := h_1
  rw [hw9] at h_1
  obtain ⟨h_8, h_1⟩ := h_1
  replace h_8 : r_2 = 9 := h_8
  subst h_8
  replace h_1 : Y_3 = setRow (setRow (setRow (setRow X 15 (X.1 15)) 24 (X.1 24)) 15 (ps (X.1 15) p1 0)) 24 z1 := h_1
  replace h_1 : Y_3 = setRow (setRow (setRow (setRow X 15 (X.1 15)) 24 (X.1 24)) 15 (ps (X.1 15) p1 0)) 24 z1 := h_1
  obtain ⟨w_9, ew_9⟩ : ∃ Z9, Z9 = ps (X.1 15) p1 0 := ⟨_, rfl⟩
  obtain ⟨w_10, ew_10⟩ : ∃ Z9, Z9 = z1 := ⟨_, rfl⟩
  have qqw_9 : Y_3 = setRow (setRow (setRow (setRow X 15 (X.1 15)) 24 (X.1 24)) 15 w_9) 24 w_10 := by rw [h_1, ew_9, ew_10]
  have hW_11 : Wd G (setRow (setRow X 15 w_9) 24 w_10) H_4 := Wd.cast (((qqw_9).trans (congrArg (fun Z9 => setRow (Z9) 24 w_10) (sr_in (by decide) sr_out))).trans (congrArg (fun Z9 => Z9) sr_out)) hW_6
  have kn_12 : w_9 (7) = nI L := by rw [ew_9]; exact (ps_o (by decide) (by decide)).trans e7
  have kn_13 : w_9 (10) = 0 := by rw [ew_9]; exact (ps_o (by decide) (by decide)).trans e10
  have kn_14 : w_9 (6) = nI p1 := by rw [ew_9]; exact ps_6
  have kn_15 : w_9 (9) = 0 := by rw [ew_9]; exact ps_9
  refine lv_istore_n (lv' := [(1, .int 9), (0, .ref (ad G 723))]) hx hb dX8_command_4 rfl hl (by decide) rfl (fun ls_16 hl_17 => ?_)
  refine lv_iconst (v := 0) hx hb dX8_command_5 (by decide) ?_
  refine lv_istore_n (lv' := [(2, .int 0), (1, .int 9), (0, .ref (ad G 723))]) hx hb dX8_command_6 rfl hl_17 (by decide) rfl (fun ls_18 hl_19 => ?_)
  refine lv_iconst (v := 0) hx hb dX8_command_7 (by decide) ?_
  refine lv_istore_n (lv' := [(3, .int 0), (2, .int 0), (1, .int 9), (0, .ref (ad G 723))]) hx hb dX8_command_8 rfl hl_19 (by decide) rfl (fun ls_20 hl_21 => ?_)
  refine lv_aload_n hx hb dX8_command_9 rfl (lv_at hl_21 3 rfl) ?_
  refine gM_isWrong C hW_11 (hwc hwX8) (mc qw_1496) dX8_command_10 ?_
  refine g_top (y := w_9 (9)) (congrFun (rd_in (by decide) rd_out) _) ?_
  refine g_top (y := 0) kn_15 ?_
  refine lv_if_eq (tgt := 17) hx hb dX8_command_13 (by decide) (fun _ => ?_) (fun h9 => absurd h9 (by decide))
  refine lv_aload_n hx hb dX8_command_17 rfl (lv_at hl_21 3 rfl) ?_
  refine lv_iload_n hx hb dX8_command_18 rfl (lv_at hl_21 2 rfl) ?_
  refine lv_iconst (v := 5) hx hb dX8_command_19 (by decide) ?_
  refine lv_icmp_eq (tgt := 29) hx hb dX8_command_20 (by decide) (fun h9 => absurd h9 (by decide)) (fun _ => ?_)
  refine lv_iload_n hx hb dX8_command_23 rfl (lv_at hl_21 2 rfl) ?_
  refine lv_bipush (v := 8) hx hb dX8_command_24 (by decide) ?_
  refine lv_icmp_lt (tgt := 33) hx hb dX8_command_26 (by decide) (fun h9 => absurd h9 (by decide)) (fun _ => ?_)
  refine lv_iconst (v := 3) hx hb dX8_command_29 (by decide) ?_
  refine lv_goto (tgt := 34) hx hb dX8_command_30 (by decide) ?_
  refine g_calli (va_runV (As := [.int 3]) (rest := []) C.1 (cX8_digits_ok l G (setRow (setRow X 15 w_9) 24 w_10) p1 L (show p1 ≤ L by omega) hL kn_14 kn_12 kn_15 3 (by omega)) (cwV 1 C.1.2.2.2.2 (gV qw_1903 qw_1905 qw_65 qw_81 qw_1906) rfl rfl rfl (by decide +kernel) ⟨Nat.le_of_ble_eq_true rfl, Nat.le_of_ble_eq_true rfl⟩) (g_rModel C hW_11 hS_7 [.int 3]) rfl rfl hl_21.1 rfl (lv_room (Nat.le_of_ble_eq_true rfl)) dX8_command_34 ⟨Nat.zero_le _, Nat.zero_le _⟩) hS_7 (fun r_23 Y_24 H_25 locs_26 hW_27 hS_28 h_22 => ?_)
  replace h_22 : r_23 = (dgM (X.1 22) L 3 p1).1 ∧ Y_24 = setRow (setRow (setRow X 15 w_9) 24 w_10) 15 (ps w_9 (dgM (X.1 22) L 3 p1).2.1 (dgM (X.1 22) L 3 p1).2.2) := h_22
  obtain ⟨n_29, p_30, c_31, hd_32⟩ : ∃ x9 y9 z9, dgM (X.1 22) L 3 p1 = (x9, y9, z9) := ⟨_, _, _, rfl⟩
  rw [hd_32] at h_22
  obtain ⟨h_33, h_22⟩ := h_22
  replace h_33 : r_23 = n_29 := h_33
  subst h_33
  have hp_30 : p_30 ≤ L := dgM_le (show p1 ≤ L by omega) hd_32
  rcases dgM_b hd_32 with hbc_31 | hbc_31
  · rw [hbc_31] at hd_32 h_22
    replace h_22 : Y_24 = setRow (setRow (setRow X 15 w_9) 24 w_10) 15 (ps w_9 p_30 0) := h_22
    replace h_22 : Y_24 = setRow (setRow (setRow X 15 w_9) 24 w_10) 15 (ps w_9 p_30 0) := h_22
    obtain ⟨w_34, ew_34⟩ : ∃ Z9, Z9 = ps w_9 p_30 0 := ⟨_, rfl⟩
    have qqw_34 : Y_24 = setRow (setRow (setRow X 15 w_9) 24 w_10) 15 w_34 := by rw [h_22, ew_34]
    have hW_35 : Wd G (setRow (setRow X 15 w_34) 24 w_10) H_25 := Wd.cast ((qqw_34).trans (congrArg (fun Z9 => Z9) (sr_in (by decide) sr_out))) hW_27
    have kn_36 : w_34 (7) = nI L := by rw [ew_34]; exact (ps_o (by decide) (by decide)).trans kn_12
    have kn_37 : w_34 (10) = 0 := by rw [ew_34]; exact (ps_o (by decide) (by decide)).trans kn_13
    have kn_38 : w_34 (6) = nI p_30 := by rw [ew_34]; exact ps_6
    have kn_39 : w_34 (9) = 0 := by rw [ew_34]; exact ps_9
    refine lv_istore (lv' := [(4, .int r_23), (3, .int 0), (2, .int 0), (1, .int 9), (0, .ref (ad G 723))]) hx hb dX8_command_37 hl_21 (by decide) rfl (fun ls_40 hl_41 => ?_)
    refine lv_iload_n hx hb dX8_command_39 rfl (lv_at hl_41 3 rfl) ?_
    refine lv_if_ne (tgt := 55) hx hb dX8_command_40 (by decide) (fun _ => ?_) (fun h9 => absurd h9 (by decide))
    refine lv_iload_n hx hb dX8_command_55 rfl (lv_at hl_41 3 rfl) ?_
    refine lv_if_ne (tgt := 72) hx hb dX8_command_56 (by decide) (fun _ => ?_) (fun h9 => absurd h9 (by decide))
    refine lv_iload_n hx hb dX8_command_72 rfl (lv_at hl_41 3 rfl) ?_
    refine lv_iconst (v := 1) hx hb dX8_command_73 (by decide) ?_
    refine lv_icmp_eq (tgt := 99) hx hb dX8_command_74 (by decide) (fun h9 => absurd h9 (by decide)) (fun _ => ?_)
    refine lv_iload_n hx hb dX8_command_77 rfl (lv_at hl_41 3 rfl) ?_
    refine lv_iconst (v := 3) hx hb dX8_command_78 (by decide) ?_
    refine lv_icmp_eq (tgt := 99) hx hb dX8_command_79 (by decide) (fun h9 => absurd h9 (by decide)) (fun _ => ?_)
    refine lv_iload_n hx hb dX8_command_82 rfl (lv_at hl_41 3 rfl) ?_
    refine lv_iconst (v := 4) hx hb dX8_command_83 (by decide) ?_
    refine lv_icmp_eq (tgt := 99) hx hb dX8_command_84 (by decide) (fun h9 => absurd h9 (by decide)) (fun _ => ?_)
    refine lv_iload_n hx hb dX8_command_87 rfl (lv_at hl_41 3 rfl) ?_
    refine lv_bipush (v := 6) hx hb dX8_command_88 (by decide) ?_
    refine lv_icmp_eq (tgt := 99) hx hb dX8_command_90 (by decide) (fun h9 => absurd h9 (by decide)) (fun _ => ?_)
    refine lv_iload_n hx hb dX8_command_93 rfl (lv_at hl_41 3 rfl) ?_
    refine lv_bipush (v := 8) hx hb dX8_command_94 (by decide) ?_
    refine lv_icmp_ne (tgt := 112) hx hb dX8_command_96 (by decide) (fun _ => ?_) (fun h9 => absurd h9 (by decide))
    refine lv_iload_n hx hb dX8_command_112 rfl (lv_at hl_41 3 rfl) ?_
    refine lv_iconst (v := 3) hx hb dX8_command_113 (by decide) ?_
    refine lv_icmp_ne (tgt := 130) hx hb dX8_command_114 (by decide) (fun _ => ?_) (fun h9 => absurd h9 (by decide))
    refine lv_aload_n hx hb dX8_command_130 rfl (lv_at hl_41 4 rfl) ?_
    refine gM_isWrong C hW_35 (hwc hwX8) (mc qw_1496) dX8_command_131 ?_
    refine g_top (y := w_34 (9)) (congrFun (rd_in (by decide) rd_out) _) ?_
    refine g_top (y := 0) kn_39 ?_
    refine lv_if_ne (tgt := 144) hx hb dX8_command_134 (by decide) (fun h9 => absurd h9 (by decide)) (fun _ => ?_)
    refine lv_aload_n hx hb dX8_command_137 rfl (lv_at hl_41 4 rfl) ?_
    refine gM_isDoing C hW_35 (hwc hwX8) (mc qw_1497) dX8_command_138 ?_
    refine g_top (y := w_34 (10)) (congrFun (rd_in (by decide) rd_out) _) ?_
    refine g_top (y := 0) kn_37 ?_
    refine lv_if_ne (tgt := 145) hx hb dX8_command_141 (by decide) (fun h9 => absurd h9 (by decide)) (fun _ => ?_)
    exact g_vret C hr hlk hW_35 hS_28 dX8_command_144 (by subst ew_34; subst ew_10; subst ew_9; simp only [ca5, hd_32, if_true, if_false, ps_ps, Nat.one_ne_zero])
  · rw [hbc_31] at hd_32 h_22
    replace h_22 : Y_24 = setRow (setRow (setRow X 15 w_9) 24 w_10) 15 (ps w_9 p_30 1) := h_22
    replace h_22 : Y_24 = setRow (setRow (setRow X 15 w_9) 24 w_10) 15 (ps w_9 p_30 1) := h_22
    obtain ⟨w_42, ew_42⟩ : ∃ Z9, Z9 = ps w_9 p_30 1 := ⟨_, rfl⟩
    have qqw_42 : Y_24 = setRow (setRow (setRow X 15 w_9) 24 w_10) 15 w_42 := by rw [h_22, ew_42]
    have hW_43 : Wd G (setRow (setRow X 15 w_42) 24 w_10) H_25 := Wd.cast ((qqw_42).trans (congrArg (fun Z9 => Z9) (sr_in (by decide) sr_out))) hW_27
    have kn_44 : w_42 (7) = nI L := by rw [ew_42]; exact (ps_o (by decide) (by decide)).trans kn_12
    have kn_45 : w_42 (10) = 0 := by rw [ew_42]; exact (ps_o (by decide) (by decide)).trans kn_13
    have kn_46 : w_42 (6) = nI p_30 := by rw [ew_42]; exact ps_6
    have kn_47 : w_42 (9) = 1 := by rw [ew_42]; exact ps_9
    refine lv_istore (lv' := [(4, .int r_23), (3, .int 0), (2, .int 0), (1, .int 9), (0, .ref (ad G 723))]) hx hb dX8_command_37 hl_21 (by decide) rfl (fun ls_48 hl_49 => ?_)
    refine lv_iload_n hx hb dX8_command_39 rfl (lv_at hl_49 3 rfl) ?_
    refine lv_if_ne (tgt := 55) hx hb dX8_command_40 (by decide) (fun _ => ?_) (fun h9 => absurd h9 (by decide))
    refine lv_iload_n hx hb dX8_command_55 rfl (lv_at hl_49 3 rfl) ?_
    refine lv_if_ne (tgt := 72) hx hb dX8_command_56 (by decide) (fun _ => ?_) (fun h9 => absurd h9 (by decide))
    refine lv_iload_n hx hb dX8_command_72 rfl (lv_at hl_49 3 rfl) ?_
    refine lv_iconst (v := 1) hx hb dX8_command_73 (by decide) ?_
    refine lv_icmp_eq (tgt := 99) hx hb dX8_command_74 (by decide) (fun h9 => absurd h9 (by decide)) (fun _ => ?_)
    refine lv_iload_n hx hb dX8_command_77 rfl (lv_at hl_49 3 rfl) ?_
    refine lv_iconst (v := 3) hx hb dX8_command_78 (by decide) ?_
    refine lv_icmp_eq (tgt := 99) hx hb dX8_command_79 (by decide) (fun h9 => absurd h9 (by decide)) (fun _ => ?_)
    refine lv_iload_n hx hb dX8_command_82 rfl (lv_at hl_49 3 rfl) ?_
    refine lv_iconst (v := 4) hx hb dX8_command_83 (by decide) ?_
    refine lv_icmp_eq (tgt := 99) hx hb dX8_command_84 (by decide) (fun h9 => absurd h9 (by decide)) (fun _ => ?_)
    refine lv_iload_n hx hb dX8_command_87 rfl (lv_at hl_49 3 rfl) ?_
    refine lv_bipush (v := 6) hx hb dX8_command_88 (by decide) ?_
    refine lv_icmp_eq (tgt := 99) hx hb dX8_command_90 (by decide) (fun h9 => absurd h9 (by decide)) (fun _ => ?_)
    refine lv_iload_n hx hb dX8_command_93 rfl (lv_at hl_49 3 rfl) ?_
    refine lv_bipush (v := 8) hx hb dX8_command_94 (by decide) ?_
    refine lv_icmp_ne (tgt := 112) hx hb dX8_command_96 (by decide) (fun _ => ?_) (fun h9 => absurd h9 (by decide))
    refine lv_iload_n hx hb dX8_command_112 rfl (lv_at hl_49 3 rfl) ?_
    refine lv_iconst (v := 3) hx hb dX8_command_113 (by decide) ?_
    refine lv_icmp_ne (tgt := 130) hx hb dX8_command_114 (by decide) (fun _ => ?_) (fun h9 => absurd h9 (by decide))
    refine lv_aload_n hx hb dX8_command_130 rfl (lv_at hl_49 4 rfl) ?_
    refine gM_isWrong C hW_43 (hwc hwX8) (mc qw_1496) dX8_command_131 ?_
    refine g_top (y := w_42 (9)) (congrFun (rd_in (by decide) rd_out) _) ?_
    refine g_top (y := 1) kn_47 ?_
    refine lv_if_ne (tgt := 144) hx hb dX8_command_134 (by decide) (fun _ => ?_) (fun h9 => absurd h9 (by decide))
    exact g_vret C hr hlk hW_43 hS_28 dX8_command_144 (by subst ew_42; subst ew_10; subst ew_9; simp only [ca5, hd_32, if_true, if_false, ps_ps, Nat.one_ne_zero])
