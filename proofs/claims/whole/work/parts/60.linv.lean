/-! What holds between two calls of the law: the class's rows against the reference's. -/
theorem sr_at {X : St} {r : Nat} {w : Nat → Int32} : (setRow X r w).1 r = w := if_pos rfl
theorem sr_ne {X : St} {r r' : Nat} {w : Nat → Int32} (h : r' ≠ r) : (setRow X r w).1 r' = X.1 r' := if_neg h
theorem sp_ne {X : St} {r r' i : Nat} {v : Int32} (h : r' ≠ r) : (sup X r i v).1 r' = X.1 r' := funext fun j => if_neg fun q => h q.1
theorem sp_at {X : St} {r i : Nat} {v : Int32} : (sup X r i v).1 r i = v := if_pos ⟨rfl, rfl⟩
def HistOk (X : St) (sp cn : Nat) : Prop := ∀ k, k < cn → FI (fun j => X.1 19 ((cn - 1 - k) * 128 + j)) ∧ Rel (X.1 ((sp + 8 - k) % 9 + 1)) (fun j => X.1 19 ((cn - 1 - k) * 128 + j))
def LInv (X : St) : Prop :=
  (FI (X.1 16) ∧ Rel (X.1 0) (X.1 16)) ∧ (PtsOk (X.1 21) ∧ WdOk (X.1 25) (X.1 26)) ∧
  (∃ sp cn, sp < 9 ∧ cn ≤ 8 ∧ X.1 11 3 = nI sp ∧ X.1 11 4 = nI cn ∧ X.1 15 1 = nI cn ∧ HistOk X sp cn) ∧
  ((X.1 11 0 = 0 ∧ X.1 15 4 = 0) ∨ (X.1 11 0 = 1 ∧ X.1 15 4 = 1 ∧ FI (X.1 18) ∧ Rel (X.1 10) (X.1 18))) ∧
  (∃ L, L ≤ 60 ∧ X.1 11 5 = nI L ∧ X.1 15 5 = nI L ∧ X.1 12 = X.1 22) ∧
  (X.1 11 1 = X.1 15 2 ∧ (X.1 11 1 = -1 ∨ 0 ≤ X.1 11 1) ∧ X.1 11 2 = X.1 15 3 ∧ (X.1 11 2 = -1 ∨ 0 ≤ X.1 11 2)) ∧
  (∃ cp n, (16 ≤ cp ∧ cp ≤ 34) ∧ n ≤ cp ∧ X.2.2.1 = cp ∧ X.1 11 8 = 0 ∧ X.1 11 10 = nI n ∧ X.1 15 8 = nI n ∧ BOk X.2.2.2.1 ∧ ∀ j, j < n → X.2.2.2.1 j = X.1 23 j)
/-- rows and places that LInv doesn't speak of may change -/
theorem LInv.congr {X Y : St} (h : LInv X) (hr : ∀ r, r < 27 → r ≠ 13 → r ≠ 14 → r ≠ 15 → r ≠ 17 → r ≠ 20 → r ≠ 24 → Y.1 r = X.1 r) (h15 : ∀ j, j = 1 ∨ j = 2 ∨ j = 3 ∨ j = 4 ∨ j = 5 ∨ j = 8 → Y.1 15 j = X.1 15 j) (hc : Y.2.2.1 = X.2.2.1) (hb : Y.2.2.2.1 = X.2.2.2.1) : LInv Y := by
  have e0 := hr 0 (by decide) (by decide) (by decide) (by decide) (by decide) (by decide) (by decide)
  have e10 := hr 10 (by decide) (by decide) (by decide) (by decide) (by decide) (by decide) (by decide)
  have e11 := hr 11 (by decide) (by decide) (by decide) (by decide) (by decide) (by decide) (by decide)
  have e12 := hr 12 (by decide) (by decide) (by decide) (by decide) (by decide) (by decide) (by decide)
  have e16 := hr 16 (by decide) (by decide) (by decide) (by decide) (by decide) (by decide) (by decide)
  have e18 := hr 18 (by decide) (by decide) (by decide) (by decide) (by decide) (by decide) (by decide)
  have e19 := hr 19 (by decide) (by decide) (by decide) (by decide) (by decide) (by decide) (by decide)
  have e21 := hr 21 (by decide) (by decide) (by decide) (by decide) (by decide) (by decide) (by decide)
  have e22 := hr 22 (by decide) (by decide) (by decide) (by decide) (by decide) (by decide) (by decide)
  have e23 := hr 23 (by decide) (by decide) (by decide) (by decide) (by decide) (by decide) (by decide)
  have e25 := hr 25 (by decide) (by decide) (by decide) (by decide) (by decide) (by decide) (by decide)
  have e26 := hr 26 (by decide) (by decide) (by decide) (by decide) (by decide) (by decide) (by decide)
  obtain ⟨h1, h2, ⟨sp, cn, c1, c2, c3, c4, c5, c6⟩, h4, h5, h6, h7⟩ := h
  unfold LInv
  rw [e0, e10, e11, e12, e16, e18, e21, e22, e23, e25, e26, h15 1 (by decide), h15 2 (by decide), h15 3 (by decide), h15 4 (by decide), h15 5 (by decide), h15 8 (by decide), hc, hb]
  refine ⟨h1, h2, ⟨sp, cn, c1, c2, c3, c4, c5, fun k hk => ?_⟩, h4, h5, h6, h7⟩
  rw [e19, hr ((sp + 8 - k) % 9 + 1) (by omega) (by omega) (by omega) (by omega) (by omega) (by omega) (by omega)]
  exact c6 k hk
theorem LInv.pinv {X : St} (h : LInv X) : PInv (X.1 0) := by
  obtain ⟨⟨h1, h2⟩, -⟩ := h
  have a := kmv_le h1
  have b := kiv_le h1
  exact ⟨⟨_, a.2, (h2.1 42 (by decide)).trans a.1⟩, _, b.2, (h2.1 43 (by decide)).trans b.1⟩
/-- only places below 128 count -/
theorem FI.congr {v u : Nat → Int32} (h : FI v) (e : ∀ j, j < 128 → u j = v j) : FI u := by
  obtain ⟨⟨a1, a2, ⟨km, k1, k2, k3⟩, ⟨ki, i1, i2, i3⟩, a5, a6, a7⟩, hc⟩ := h
  have kV : kmv v = km := kmv_of k2 (by omega)
  have jV : kiv v = ki := kiv_of i2 i1
  have kU : kmv u = km := kmv_of ((e 42 (by decide)).trans k2) (by omega)
  have jU : kiv u = ki := kiv_of ((e 43 (by decide)).trans i2) i1
  refine ⟨⟨fun g hg => (a1 g hg).imp fun s hs => ⟨hs.1, hs.2.congr fun j hj => e _ (by omega)⟩, fun g hg => (a2 g hg).imp fun s hs => ⟨hs.1, hs.2.congr fun j hj => e _ (by omega)⟩, ⟨km, k1, (e 42 (by decide)).trans k2, fun m hm => ?_⟩, ⟨ki, i1, (e 43 (by decide)).trans i2, fun i hi => (i3 i hi).imp fun s hs => ⟨hs.1, hs.2.1, hs.2.2.congr fun j hj => e _ (by omega)⟩⟩,
    fun g hg => (a5 g hg).imp fun s hs => ⟨hs.1, hs.2.1, (e _ (by omega)).trans hs.2.2⟩, fun g hg => (a6 g hg).imp fun s hs => ⟨hs.1, (e _ (by omega)).trans hs.2⟩, fun g hg => (a7 g hg).imp fun s hs => ⟨hs.1, hs.2.1, (e _ (by omega)).trans hs.2.2⟩⟩, fun j hj => ?_⟩
  · obtain ⟨⟨x, x1, x2, x3⟩, s, s1, s2, s3⟩ := k3 m hm
    exact ⟨⟨x, x1, x2, (e _ (by omega)).trans x3⟩, s, s1, s2.congr fun j hj => e _ (by omega), (e _ (by omega)).trans s3⟩
  · have h := hc j hj
    rw [stk_split] at h ⊢
    rw [kU, jU, accL_congr (w := u) (v := v) (i := 80) _ _ fun k hk => e _ (by omega), accL_congr (w := u) (v := v) (i := 44) _ _ fun k hk => e _ (by omega), stk0_same hj fun j hj => e j (by omega), e (1 + j) (by omega), e (5 + j) (by omega)]
    rw [kV, jV] at h
    exact h
theorem Rel.congr {w v u : Nat → Int32} (h : Rel w v) (hF : FI v) (e : ∀ j, j < 128 → u j = v j) : Rel w u := by
  have a := kmv_le hF
  have b := kiv_le hF
  have e1 : kiv u = kiv v := congrArg Int32.toNatClampNeg (e 43 (by decide))
  have e2 : kmv u = kmv v := congrArg Int32.toNatClampNeg (e 42 (by decide))
  exact ⟨fun j hj => (h.1 j hj).trans (e j (by omega)).symm, fun m k hm hk => (h.2.1 m k (by omega) hk).trans (e _ (by omega)).symm, fun i k hi hk => (h.2.2 i k (by omega) hk).trans (e _ (by omega)).symm⟩
theorem cpT_in {n j : Nat} {t f : Nat → Int32} (h : j < n) : cpT n t f j = f j := if_pos h
theorem FI.cpt {v t : Nat → Int32} (h : FI v) : FI (cpT 128 t v) := h.congr fun j hj => if_pos hj
theorem Rel.cpt {w v t : Nat → Int32} (h : Rel w v) (hF : FI v) : Rel w (cpT 128 t v) := h.congr hF fun j hj => if_pos hj
theorem cpL_upd {z v : Nat → Int32} {i j : Nat} (h : j ≠ i → z j = v j) : upd z i (v i) j = v j := by
  by_cases q : j = i
  · subst q
    exact pk_us
  · rw [pk_un q]
    exact h q
theorem cpL_cpy {z v : Nat → Int32} {i j : Nat} (h : ¬ (i ≤ j ∧ j < i + 4) → z j = v j) : cpyR z i v i j = v j := by
  unfold cpyR
  refine cpL_upd fun h3 => cpL_upd fun h2 => cpL_upd fun h1 => cpL_upd fun h0 => h ?_
  omega
theorem cpL_cpv {z v : Nat → Int32} {i j : Nat} (h : ¬ (i ≤ j ∧ j < i + 5) → z j = v j) : cpvR z i v i j = v j := by
  unfold cpvR
  refine cpL_upd fun h3 => cpL_cpy fun h2 => h ?_
  omega
/-- what copying a plant copies -/
theorem cpP_at {w v : Nat → Int32} {j : Nat} (hj : j < 128) (h : j < 44 ∨ 80 ≤ j ∨ (j - 44) % 6 ≠ 5) : cpPlantR w v j = v j := by
  unfold cpPlantR
  repeat (with_reducible first | refine cpL_upd fun _ => ?_ | refine cpL_cpy fun _ => ?_ | refine cpL_cpv fun _ => ?_)
  exfalso
  omega
theorem Rel.cpPlant {w v u : Nat → Int32} (h : Rel w v) (hF : FI v) : Rel (cpPlantR u w) v := by
  have a := kmv_le hF
  have b := kiv_le hF
  exact ⟨fun j hj => (cpP_at (by omega) (by omega)).trans (h.1 j hj), fun m k hm hk => (cpP_at (by omega) (by omega)).trans (h.2.1 m k hm hk), fun i k hi hk => (cpP_at (by omega) (by omega)).trans (h.2.2 i k hi hk)⟩
/-- the class's part and the reference's of a change that is refused -/
theorem change_no {X Z : St} (hI : LInv X) {sp : Nat} (hsp : sp < 9) (es : X.1 11 3 = nI sp) (hr : ∀ r, r < 27 → r ≠ 0 → r ≠ sp + 1 → r ≠ 13 → r ≠ 14 → r ≠ 15 → r ≠ 17 → r ≠ 20 → r ≠ 24 → Z.1 r = X.1 r) (h0 : Rel (Z.1 0) (X.1 16))
    (h15 : ∀ j, j = 1 ∨ j = 2 ∨ j = 3 ∨ j = 4 ∨ j = 5 ∨ j = 8 → Z.1 15 j = X.1 15 j) (hc : Z.2.2.1 = X.2.2.1) (hb : Z.2.2.2.1 = X.2.2.2.1) : LInv Z := by
  have e10 := hr 10 (by decide) (by decide) (by omega) (by decide) (by decide) (by decide) (by decide) (by decide) (by decide)
  have e11 := hr 11 (by decide) (by decide) (by omega) (by decide) (by decide) (by decide) (by decide) (by decide) (by decide)
  have e12 := hr 12 (by decide) (by decide) (by omega) (by decide) (by decide) (by decide) (by decide) (by decide) (by decide)
  have e16 := hr 16 (by decide) (by decide) (by omega) (by decide) (by decide) (by decide) (by decide) (by decide) (by decide)
  have e18 := hr 18 (by decide) (by decide) (by omega) (by decide) (by decide) (by decide) (by decide) (by decide) (by decide)
  have e19 := hr 19 (by decide) (by decide) (by omega) (by decide) (by decide) (by decide) (by decide) (by decide) (by decide)
  have e21 := hr 21 (by decide) (by decide) (by omega) (by decide) (by decide) (by decide) (by decide) (by decide) (by decide)
  have e22 := hr 22 (by decide) (by decide) (by omega) (by decide) (by decide) (by decide) (by decide) (by decide) (by decide)
  have e23 := hr 23 (by decide) (by decide) (by omega) (by decide) (by decide) (by decide) (by decide) (by decide) (by decide)
  have e25 := hr 25 (by decide) (by decide) (by omega) (by decide) (by decide) (by decide) (by decide) (by decide) (by decide)
  have e26 := hr 26 (by decide) (by decide) (by omega) (by decide) (by decide) (by decide) (by decide) (by decide) (by decide)
  obtain ⟨⟨h1, -⟩, h2, ⟨sp', cn, c1, c2, c3, c4, c5, c6⟩, h4, h5, h6, h7⟩ := hI
  obtain rfl : sp' = sp := (nI_eq (by omega) (by omega)).mp (c3.symm.trans es)
  unfold LInv
  rw [e10, e11, e12, e16, e18, e21, e22, e23, e25, e26, h15 1 (by decide), h15 2 (by decide), h15 3 (by decide), h15 4 (by decide), h15 5 (by decide), h15 8 (by decide), hc, hb]
  refine ⟨⟨h1, h0⟩, h2, ⟨sp', cn, c1, c2, c3, c4, c5, fun k hk => ?_⟩, h4, h5, h6, h7⟩
  rw [e19, hr ((sp' + 8 - k) % 9 + 1) (by omega) (by omega) (by omega) (by omega) (by omega) (by omega) (by omega) (by omega) (by omega)]
  exact c6 k hk
theorem imin8 {cn : Nat} (h : cn ≤ 8) : imin (nI (cn + 1)) 8 = nI (min (cn + 1) 8) := imin_nI (a := cn + 1) (b := 8) (by omega) (by decide)
/-- and of one that is made -/
theorem change_yes {X Z : St} (hI : LInv X) {sp cn : Nat} (hsp : sp < 9) (hcn : cn ≤ 8) (es : X.1 11 3 = nI sp) (ec : X.1 11 4 = nI cn) {d16 : Nat → Int32} (hr : ∀ r, r < 27 → r ≠ 0 → r ≠ sp + 1 → r ≠ 11 → r ≠ 13 → r ≠ 14 → r ≠ 15 → r ≠ 16 → r ≠ 17 → r ≠ 19 → r ≠ 20 → r ≠ 24 → Z.1 r = X.1 r)
    (h0 : Rel (Z.1 0) d16) (hF : FI d16) (h16 : Z.1 16 = d16) (hsl : Z.1 (sp + 1) = cpPlantR (X.1 (sp + 1)) (X.1 0)) (h11 : ∀ j, j = 0 ∨ j = 1 ∨ j = 2 ∨ j = 8 ∨ j = 10 → Z.1 11 j = X.1 11 j) (h3 : Z.1 11 3 = nI ((sp + 1) % 9)) (h4 : Z.1 11 4 = nI (min (cn + 1) 8))
    (hL : ∃ L, L ≤ 60 ∧ Z.1 11 5 = nI L ∧ Z.1 15 5 = nI L ∧ X.1 12 = X.1 22)
    (h15 : ∀ j, j = 2 ∨ j = 3 ∨ j = 4 ∨ j = 8 → Z.1 15 j = X.1 15 j) (h1 : Z.1 15 1 = nI (min (cn + 1) 8)) (h19 : Z.1 19 = if cn = 8 then cpP (shP (X.1 19) 896) 7 (cpT 128 (X.1 17) (X.1 16)) 128 else cpP (X.1 19) cn (cpT 128 (X.1 17) (X.1 16)) 128) (hc : Z.2.2.1 = X.2.2.1) (hb : Z.2.2.2.1 = X.2.2.2.1) : LInv Z := by
  have e10 := hr 10 (by decide) (by decide) (by omega) (by decide) (by decide) (by decide) (by decide) (by decide) (by decide) (by decide) (by decide) (by decide)
  have e12 := hr 12 (by decide) (by decide) (by omega) (by decide) (by decide) (by decide) (by decide) (by decide) (by decide) (by decide) (by decide) (by decide)
  have e18 := hr 18 (by decide) (by decide) (by omega) (by decide) (by decide) (by decide) (by decide) (by decide) (by decide) (by decide) (by decide) (by decide)
  have e21 := hr 21 (by decide) (by decide) (by omega) (by decide) (by decide) (by decide) (by decide) (by decide) (by decide) (by decide) (by decide) (by decide)
  have e22 := hr 22 (by decide) (by decide) (by omega) (by decide) (by decide) (by decide) (by decide) (by decide) (by decide) (by decide) (by decide) (by decide)
  have e23 := hr 23 (by decide) (by decide) (by omega) (by decide) (by decide) (by decide) (by decide) (by decide) (by decide) (by decide) (by decide) (by decide)
  have e25 := hr 25 (by decide) (by decide) (by omega) (by decide) (by decide) (by decide) (by decide) (by decide) (by decide) (by decide) (by decide) (by decide)
  have e26 := hr 26 (by decide) (by decide) (by omega) (by decide) (by decide) (by decide) (by decide) (by decide) (by decide) (by decide) (by decide) (by decide)
  obtain ⟨⟨g1, g2⟩, h2, ⟨sp', cn', c1, c2, c3, c4, c5, c6⟩, g4, -, g6, g7⟩ := hI
  obtain rfl : sp' = sp := (nI_eq (by omega) (by omega)).mp (c3.symm.trans es)
  obtain rfl : cn' = cn := (nI_eq (by omega) (by omega)).mp (c4.symm.trans ec)
  unfold LInv
  rw [e10, e12, h16, e18, e21, e22, e23, e25, e26, h11 0 (by decide), h11 1 (by decide), h11 2 (by decide), h11 8 (by decide), h11 10 (by decide), h15 2 (by decide), h15 3 (by decide), h15 4 (by decide), h15 8 (by decide), hc, hb]
  refine ⟨⟨hF, h0⟩, h2, ⟨(sp' + 1) % 9, min (cn' + 1) 8, by omega, by omega, h3, h4, h1, fun k hk => ?_⟩, g4, hL, g6, g7⟩
  rcases Nat.eq_zero_or_pos k with rfl | hk0
  · have a1 : ∀ j, j < 128 → Z.1 19 ((min (cn' + 1) 8 - 1 - 0) * 128 + j) = X.1 16 j := fun j hj => by
      rw [h19]
      by_cases q : cn' = 8
      · rw [if_pos q, q]
        show cpP _ 7 _ 128 (7 * 128 + j) = _
        unfold cpP
        rw [if_pos (by omega), show 7 * 128 + j - 7 * 128 = j by omega]
        exact if_pos hj
      · rw [if_neg q, show min (cn' + 1) 8 - 1 - 0 = cn' by omega]
        unfold cpP
        rw [if_pos (by omega), show cn' * 128 + j - cn' * 128 = j by omega]
        exact if_pos hj
    have a2 : ((sp' + 1) % 9 + 8 - 0) % 9 + 1 = sp' + 1 := by omega
    rw [a2, hsl]
    exact ⟨g1.congr a1, (g2.cpPlant g1).congr g1 a1⟩
  · have a1 : ∀ j, j < 128 → Z.1 19 ((min (cn' + 1) 8 - 1 - k) * 128 + j) = X.1 19 ((cn' - 1 - (k - 1)) * 128 + j) := fun j hj => by
      rw [h19]
      by_cases q : cn' = 8
      · rw [if_pos q, q]
        have e9 : min (8 + 1) 8 - 1 - k = 7 - k := by omega
        have e8 : 8 - 1 - (k - 1) = 7 - k + 1 := by omega
        rw [e9, e8]
        have b9 : (7 - k) * 128 ≤ 6 * 128 := Nat.mul_le_mul_right _ (by omega)
        unfold cpP
        rw [if_neg (by omega)]
        unfold shP
        rw [if_pos (by omega), Nat.succ_mul, show (7 - k) * 128 + j + 128 = (7 - k) * 128 + 128 + j by omega]
      · rw [if_neg q, show min (cn' + 1) 8 - 1 - k = cn' - 1 - (k - 1) by omega]
        unfold cpP
        have b9 : (cn' - 1 - (k - 1) + 1) * 128 ≤ cn' * 128 := Nat.mul_le_mul_right _ (by omega)
        rw [Nat.succ_mul] at b9
        rw [if_neg (by omega)]
    have a2 : ((sp' + 1) % 9 + 8 - k) % 9 + 1 = (sp' + 8 - (k - 1)) % 9 + 1 := by omega
    rw [a2, hr ((sp' + 8 - (k - 1)) % 9 + 1) (by omega) (by omega) (by omega) (by omega) (by omega) (by omega) (by omega) (by omega) (by omega) (by omega) (by omega) (by omega)]
    have hh := c6 (k - 1) (by omega)
    exact ⟨hh.1.congr a1, hh.2.congr hh.1 a1⟩
