/-! The queries: class and reference answer alike. -/
def QOk (F : Int32 × Int32) (M : Int32 × (Nat → Int32)) (w15 : Nat → Int32) : Prop := M.2 = upd w15 0 F.1 ∧ (F.1 = 0 → M.1 = F.2)
theorem no1 : ¬ nI 1 = 0 := by decide
theorem no2 : ¬ nI 2 = 0 := by decide
theorem mat_cases (y : Int32) : (matOf y = -1 ∧ ¬ 0 ≤ oM_kind y) ∨ ∃ j, j < 4 ∧ matOf y = nI j ∧ oM_kind y = nI j ∧ ¬ matOf y = -1 ∧ 0 ≤ oM_kind y := by
  rcases kind_cases y with h | ⟨j, hj, e⟩
  · exact .inl ⟨(mat_kind y).trans h, by rw [h]; decide⟩
  · refine .inr ⟨j, hj, (mat_kind y).trans e, e, ?_, ?_⟩
    · rw [mat_kind, e]
      intro q
      have e := nI_toInt (n := j) (by omega)
      rw [q, show (-1 : Int32).toInt = -1 from by decide] at e
      omega
    · rw [e]
      exact nI_pos' (by omega)
theorem q_mat {w v w15 : Nat → Int32} {i : Nat} {b aa y : Int32} (hb : ¬ b = 0) (ha : aa = nI i) (hi : i < 1000) (h : ∀ k, k < 4 → w (i + k) = v (i + k)) : QOk (if matOf y = -1 then (nI 2, 0) else (0, w (i + (matOf y).toNatClampNeg))) (oM_tells w15 v b aa y) w15 := by
  unfold oM_tells
  rw [if_neg hb]
  rcases mat_cases y with ⟨h1, h2⟩ | ⟨j, hj, e1, e2, h1, h2⟩
  · rw [if_pos h1, if_neg h2]
    exact ⟨rfl, fun q => by first | exact (no1 q).elim | exact (no2 q).elim⟩
  · rw [if_neg h1, if_pos h2, e1, e2, ha, nI_clamp (n := i) (by omega), nI_clamp (n := j) (by omega)]
    exact ⟨rfl, fun _ => (h j hj).symm⟩
theorem q_mat0 {v w15 : Nat → Int32} {b aa y : Int32} (hb : b = 0) : QOk (nI 1, 0) (oM_tells w15 v b aa y) w15 := by
  unfold oM_tells
  rw [if_pos hb]
  exact ⟨rfl, fun q => by first | exact (no1 q).elim | exact (no2 q).elim⟩
theorem q_sum {w v w15 : Nat → Int32} {i : Nat} {b aa : Int32} (hb : ¬ b = 0) (ha : aa = nI i) (hi : i < 1000) (h : ∀ k, k < 4 → w (i + k) = v (i + k)) : QOk (0, sumW w i) (oM_tellsMass w15 v b aa) w15 := by
  unfold oM_tellsMass
  rw [if_neg hb, ha, nI_clamp (n := i) (by omega)]
  exact ⟨rfl, fun _ => (sum_congr h).symm⟩
theorem q_sum0 {v w15 : Nat → Int32} {b aa : Int32} (hb : b = 0) : QOk (nI 1, 0) (oM_tellsMass w15 v b aa) w15 := by
  unfold oM_tellsMass
  rw [if_pos hb]
  exact ⟨rfl, fun q => by first | exact (no1 q).elim | exact (no2 q).elim⟩
theorem q_one {v w15 : Nat → Int32} {i : Nat} {b aa x : Int32} (hb : ¬ b = 0) (ha : aa = nI i) (hi : i < 1000) (h : x = v i) : QOk (0, x) (oM_tellsOne w15 v b aa) w15 := by
  unfold oM_tellsOne
  rw [if_neg hb, ha, nI_clamp (n := i) (by omega)]
  exact ⟨rfl, fun _ => h.symm⟩
theorem q_one0 {v w15 : Nat → Int32} {b aa : Int32} (hb : b = 0) : QOk (nI 1, 0) (oM_tellsOne w15 v b aa) w15 := by
  unfold oM_tellsOne
  rw [if_pos hb]
  exact ⟨rfl, fun q => by first | exact (no1 q).elim | exact (no2 q).elim⟩
theorem fur_nI (f : Nat) : oM_furnace (nI f) = nI (9 + 6 * f) := by
  unfold oM_furnace
  rw [show (6 : Int32) * nI f = nI (6 * f) from pk_mul 6 f]
  exact nI_add 9 _
theorem lad_nI (f : Nat) : oM_ladle (nI f) = nI (27 + 5 * f) := by
  unfold oM_ladle
  rw [show (5 : Int32) * nI f = nI (5 * f) from pk_mul 5 f]
  exact nI_add 27 _
theorem mou_nI (f : Nat) : oM_mould (nI f) = nI (44 + 6 * f) := by
  unfold oM_mould
  rw [show (6 : Int32) * nI f = nI (6 * f) from pk_mul 6 f]
  exact nI_add 44 _
theorem ing_nI (f : Nat) : oM_ingot (nI f) = nI (80 + 4 * f) := by
  unfold oM_ingot
  rw [show (4 : Int32) * nI f = nI (4 * f) from pk_mul 4 f]
  exact nI_add 80 _
section QQ
variable {w v w15 w21 : Nat → Int32}
theorem q_furnaceMass (hR : Rel w v) (x y : Int32) : QOk (oF_furnaceMass w x y) (oM_furnaceMass w15 v x y) w15 := by
  unfold oF_furnaceMass oM_furnaceMass
  rcases three_cases x with ⟨h1, h2⟩ | ⟨f, hf, rfl, h1, h2⟩
  · rw [if_neg h1]
    exact q_mat0 h2
  · rw [if_pos h1, nI_clamp (n := f) (by omega)]
    exact q_mat h2 (fur_nI f) (by omega) fun k hk => hR.1 _ (by omega)
theorem q_furnaceTotal (hR : Rel w v) (x : Int32) : QOk (oF_furnaceTotal w x) (oM_furnaceTotal w15 v x) w15 := by
  unfold oF_furnaceTotal oM_furnaceTotal
  rcases three_cases x with ⟨h1, h2⟩ | ⟨f, hf, rfl, h1, h2⟩
  · rw [if_neg h1]
    exact q_sum0 h2
  · rw [if_pos h1, nI_clamp (n := f) (by omega)]
    exact q_sum h2 (fur_nI f) (by omega) fun k hk => hR.1 _ (by omega)
theorem q_furnaceTemperature (hR : Rel w v) (x : Int32) : QOk (oF_furnaceTemperature w x) (oM_furnaceTemperature w15 v x) w15 := by
  unfold oF_furnaceTemperature oM_furnaceTemperature
  rcases three_cases x with ⟨h1, h2⟩ | ⟨f, hf, rfl, h1, h2⟩
  · rw [if_neg h1]
    exact q_one0 h2
  · rw [if_pos h1, nI_clamp (n := f) (by omega)]
    exact q_one (i := 9 + 6 * f + 4) h2 (by rw [fur_nI]; exact nI_add _ 4) (by omega) (hR.1 _ (by omega))
theorem q_fire (hR : Rel w v) (x : Int32) : QOk (oF_fire w x) (oM_fire w15 v x) w15 := by
  unfold oF_fire oM_fire
  rcases three_cases x with ⟨h1, h2⟩ | ⟨f, hf, rfl, h1, h2⟩
  · rw [if_neg h1]
    exact q_one0 h2
  · rw [if_pos h1, nI_clamp (n := f) (by omega)]
    exact q_one (i := 9 + 6 * f + 5) h2 (by rw [fur_nI]; exact nI_add _ 5) (by omega) (by rw [show 9 + 6 * f + 5 = 14 + 6 * f by omega]; exact hR.1 _ (by omega))
theorem q_ladleMass (hR : Rel w v) (x y : Int32) : QOk (oF_ladleMass w x y) (oM_ladleMass w15 v x y) w15 := by
  unfold oF_ladleMass oM_ladleMass
  rcases three_cases x with ⟨h1, h2⟩ | ⟨f, hf, rfl, h1, h2⟩
  · rw [if_neg h1]
    exact q_mat0 h2
  · rw [if_pos h1, nI_clamp (n := f) (by omega)]
    exact q_mat h2 (lad_nI f) (by omega) fun k hk => hR.1 _ (by omega)
theorem q_ladleTotal (hR : Rel w v) (x : Int32) : QOk (oF_ladleTotal w x) (oM_ladleTotal w15 v x) w15 := by
  unfold oF_ladleTotal oM_ladleTotal
  rcases three_cases x with ⟨h1, h2⟩ | ⟨f, hf, rfl, h1, h2⟩
  · rw [if_neg h1]
    exact q_sum0 h2
  · rw [if_pos h1, nI_clamp (n := f) (by omega)]
    exact q_sum h2 (lad_nI f) (by omega) fun k hk => hR.1 _ (by omega)
theorem q_ladleTemperature (hR : Rel w v) (x : Int32) : QOk (oF_ladleTemperature w x) (oM_ladleTemperature w15 v x) w15 := by
  unfold oF_ladleTemperature oM_ladleTemperature
  rcases three_cases x with ⟨h1, h2⟩ | ⟨f, hf, rfl, h1, h2⟩
  · rw [if_neg h1]
    exact q_one0 h2
  · rw [if_pos h1, nI_clamp (n := f) (by omega)]
    exact q_one (i := 27 + 5 * f + 4) h2 (by rw [lad_nI]; exact nI_add _ 4) (by omega) (hR.1 _ (by omega))
theorem kmv_le (hF : FI v) : v 42 = nI (kmv v) ∧ kmv v ≤ 6 := by
  obtain ⟨-, -, ⟨km, k1, k2, -⟩, -, -, -, -⟩ := hF.1
  rw [kmv_of k2 (by omega)]
  exact ⟨k2, k1⟩
theorem kiv_le (hF : FI v) : v 43 = nI (kiv v) ∧ kiv v ≤ 12 := by
  obtain ⟨-, -, -, ⟨ki, i1, i2, -⟩, -, -, -⟩ := hF.1
  rw [kiv_of i2 i1]
  exact ⟨i2, i1⟩
theorem mould_cases (hR : Rel w v) (hF : FI v) (x : Int32) : (¬ sOut x (w 42) = 0 ∧ oM_isMould v x = 0) ∨ ∃ m, m < kmv v ∧ m < 6 ∧ x = nI m ∧ sOut x (w 42) = 0 ∧ ¬ oM_isMould v x = 0 := by
  obtain ⟨e, h⟩ := kmv_le hF
  unfold oM_isMould
  rw [hR.1 42 (by decide), e]
  rcases idx_cases (n := kmv v) (by omega) x with h1 | ⟨m, hm, h2, h3, h4⟩
  · exact .inl h1
  · exact .inr ⟨m, hm, by omega, h2, h3, h4⟩
theorem ingot_cases (hR : Rel w v) (hF : FI v) (x : Int32) : (¬ sOut x (w 43) = 0 ∧ oM_isIngot v x = 0) ∨ ∃ m, m < kiv v ∧ m < 12 ∧ x = nI m ∧ sOut x (w 43) = 0 ∧ ¬ oM_isIngot v x = 0 := by
  obtain ⟨e, h⟩ := kiv_le hF
  unfold oM_isIngot
  rw [hR.1 43 (by decide), e]
  rcases idx_cases (n := kiv v) (by omega) x with h1 | ⟨m, hm, h2, h3, h4⟩
  · exact .inl h1
  · exact .inr ⟨m, hm, by omega, h2, h3, h4⟩
theorem q_volume (hR : Rel w v) (hF : FI v) (x : Int32) : QOk (oF_volume w x) (oM_volume w15 v x) w15 := by
  unfold oF_volume oM_volume
  rcases mould_cases hR hF x with ⟨h1, h2⟩ | ⟨m, hm, h6, rfl, h1, h2⟩
  · rw [if_neg h1]
    exact q_one0 h2
  · rw [if_pos h1, nI_clamp (n := m) (by omega)]
    exact q_one (i := 44 + 6 * m + 4) h2 (by rw [mou_nI]; exact nI_add _ 4) (by omega) (by rw [show 48 + 6 * m = 44 + 6 * m + 4 by omega]; exact hR.2.1 m 4 hm (by decide))
theorem q_mouldMass (hR : Rel w v) (hF : FI v) (x y : Int32) : QOk (oF_mouldMass w x y) (oM_mouldMass w15 v x y) w15 := by
  unfold oF_mouldMass oM_mouldMass
  rcases mould_cases hR hF x with ⟨h1, h2⟩ | ⟨m, hm, h6, rfl, h1, h2⟩
  · rw [if_neg h1]
    exact q_mat0 h2
  · rw [if_pos h1, nI_clamp (n := m) (by omega)]
    exact q_mat h2 (mou_nI m) (by omega) fun k hk => hR.2.1 m k hm (by omega)
theorem q_ingotMass (hR : Rel w v) (hF : FI v) (x y : Int32) : QOk (oF_ingotMass w x y) (oM_ingotMass w15 v x y) w15 := by
  unfold oF_ingotMass oM_ingotMass
  rcases ingot_cases hR hF x with ⟨h1, h2⟩ | ⟨m, hm, h6, rfl, h1, h2⟩
  · rw [if_neg h1]
    exact q_mat0 h2
  · rw [if_pos h1, nI_clamp (n := m) (by omega)]
    exact q_mat h2 (ing_nI m) (by omega) fun k hk => hR.2.2 m k hm hk
theorem mould_inv (hF : FI v) {m : Nat} (hm : m < kmv v) : (∃ x, 1 ≤ x ∧ x ≤ 40 ∧ v (48 + 6 * m) = nI x) ∧ ∃ s, s ≤ 40 ∧ MixS v (44 + 6 * m) s ∧ v (49 + 6 * m) = if s = 0 then 0 else 1 := by
  obtain ⟨-, -, ⟨km, k1, k2, k3⟩, -, -, -, -⟩ := hF.1
  rw [kmv_of k2 (by omega)] at hm
  exact k3 m hm
theorem ingot_inv (hF : FI v) {m : Nat} (hm : m < kiv v) : ∃ s, 1 ≤ s ∧ s ≤ 40 ∧ MixS v (80 + 4 * m) s := by
  obtain ⟨-, -, -, ⟨ki, i1, i2, i3⟩, -, -, -⟩ := hF.1
  rw [kiv_of i2 i1] at hm
  exact i3 m hm
theorem q_isFilled (hR : Rel w v) (hF : FI v) (x : Int32) : QOk (oF_isFilled w x) (oM_isFilled w15 v x) w15 := by
  unfold oF_isFilled oM_isFilled oM_tellsOne
  rcases mould_cases hR hF x with ⟨h1, h2⟩ | ⟨m, hm, h6, rfl, h1, h2⟩
  · rw [if_neg h1, if_pos h2, if_neg (show ¬ (0 : Int32) = 1 from by decide)]
    exact ⟨rfl, fun q => by first | exact (no1 q).elim | exact (no2 q).elim⟩
  · rw [if_pos h1, if_neg h2, nI_clamp (n := m) (by omega), mou_nI, show nI (44 + 6 * m) + 5 = nI (44 + 6 * m + 5) from nI_add _ 5, nI_clamp (n := 44 + 6 * m + 5) (by omega)]
    obtain ⟨-, s, s1, s2, s3⟩ := mould_inv hF hm
    have sw : MixS w (44 + 6 * m) s := s2.congr fun j hj => hR.2.1 m j hm (by omega)
    rw [sw.sum, show 44 + 6 * m + 5 = 49 + 6 * m by omega, s3]
    by_cases q : s = 0
    · subst q
      rw [if_pos rfl, if_neg (show ¬ (0 : Int32) = 1 from by decide), if_pos (show nI 0 ≤ 0 from by decide)]
      exact ⟨rfl, fun _ => rfl⟩
    · rw [if_neg q, if_pos rfl, if_neg (show ¬ nI s ≤ 0 from nI_nle (by omega) (by omega))]
      exact ⟨rfl, fun _ => rfl⟩
theorem q_isMolten (hR : Rel w v) (hp : PtsOk w21) (x : Int32) : QOk (oF_isMolten w x) (oM_isMolten w15 v w21 x) w15 := by
  unfold oF_isMolten oM_isMolten
  rcases three_cases x with ⟨h1, h2⟩ | ⟨f, hf, rfl, h1, h2⟩
  · rw [if_neg h1, if_pos h2]
    exact ⟨rfl, fun q => by first | exact (no1 q).elim | exact (no2 q).elim⟩
  · rw [if_pos h1, if_neg h2, nI_clamp (n := f) (by omega), liq_eq hp fun k hk => hR.1 _ (by omega)]
    by_cases q : oM_isFluid v w21 (9 + 6 * f) = 0
    · rw [if_pos q, q]
      exact ⟨rfl, fun _ => rfl⟩
    · rw [if_neg q]
      refine ⟨rfl, fun _ => ?_⟩
      show 1 = oM_isFluid v w21 (9 + 6 * f)
      unfold oM_isFluid at q ⊢
      split
      · rename_i h
        exact absurd (if_pos h) q
      · rename_i h
        split
        · rename_i h9
          exact absurd ((if_neg h).trans (if_pos h9)) q
        · rfl
theorem pd_eq {i s : Nat} (h : MixS w i s) (hs : s ≤ 1000) : pdW w i = ptW w i := by
  obtain ⟨a, b, c, d, ha, hb, hc, hd, rfl⟩ := h
  unfold pdW ptW aboveW heatW sumW
  rw [ha, hb, hc, hd, nI_add, nI_add, nI_add]
  by_cases q : nI (a + b + c + d) ≤ 0
  · rw [if_pos q, if_pos q]
  · rw [if_neg q, if_neg q]
    have h0 : 0 < a + b + c + d := by
      rcases Nat.eq_zero_or_pos (a + b + c + d) with e | e
      · rw [e] at q
        exact absurd (by decide) q
      · exact e
    rw [show nI a * 853 = nI (a * 853) from pk_mul a 853, show nI b * 0 = nI (b * 0) from pk_mul b 0, show nI c * 95 = nI (c * 95) from pk_mul c 95, show nI d * 968 = nI (d * 968) from pk_mul d 968, show nI a * 1085 = nI (a * 1085) from pk_mul a 1085, show nI b * 232 = nI (b * 232) from pk_mul b 232, show nI c * 327 = nI (c * 327) from pk_mul c 327, show nI d * 1200 = nI (d * 1200) from pk_mul d 1200]
    rw [nI_add, nI_add, nI_add, nI_add, nI_add, nI_add, pk_div (by omega) h0 (by omega), pk_div (by omega) h0 (by omega)]
    refine (nI_add 232 _).trans ?_
    congr 1
    rw [show a * 1085 + b * 232 + c * 327 + d * 1200 = a * 853 + b * 0 + c * 95 + d * 968 + 232 * (a + b + c + d) by omega, Nat.add_mul_div_right _ _ h0]
    omega
theorem fill_fail {M : Nat} (h : ¬ nI M = 0) : 0 < M := by
  rcases Nat.eq_zero_or_pos M with rfl | q
  · exact absurd rfl h
  · exact q
theorem q_meltingPoint (hR : Rel w v) (hF : FI v) (hp : PtsOk w21) (x : Int32) : QOk (oF_meltingPoint w x) (oM_meltingPoint w15 v w21 x) w15 ∧ QOk (oF_meltingPointByDifferences w x) (oM_meltingPointByDifferences w15 v w21 x) w15 := by
  unfold oF_meltingPoint oF_meltingPointByDifferences oM_meltingPointByDifferences oM_meltingPoint oq_fill
  rcases three_cases x with ⟨h1, h2⟩ | ⟨f, hf, rfl, h1, h2⟩
  · rw [if_neg h1, if_pos h2]
    exact ⟨⟨rfl, fun q => by first | exact (no1 q).elim | exact (no2 q).elim⟩, rfl, fun q => by first | exact (no1 q).elim | exact (no2 q).elim⟩
  · rw [if_pos h1, if_neg h2, nI_clamp (n := f) (by omega)]
    obtain ⟨M, hM, mv⟩ := hF.1.1 f hf
    have mw : MixS w (9 + 6 * f) M := mv.congr fun j hj => hR.1 _ (by omega)
    rw [mw.sum, mv.mass]
    by_cases q : nI M = 0
    · rw [if_pos q, if_pos q]
      exact ⟨⟨rfl, fun q => by first | exact (no1 q).elim | exact (no2 q).elim⟩, rfl, fun q => by first | exact (no1 q).elim | exact (no2 q).elim⟩
    · rw [if_neg q, if_neg q, pd_eq mw (by omega), pt_eq hp (fun k hk => hR.1 _ (by omega)) (by rw [mw.sum]; exact nI_nle (fill_fail q) (by omega))]
      exact ⟨⟨rfl, fun _ => rfl⟩, rfl, fun _ => rfl⟩
theorem q_pouringMinutes (hR : Rel w v) (hp : PtsOk w21) (x : Int32) : QOk (oF_pouringMinutes w x) (oM_pouringMinutes w15 v w21 x) w15 := by
  unfold oF_pouringMinutes oM_pouringMinutes
  rcases three_cases x with ⟨h1, h2⟩ | ⟨f, hf, rfl, h1, h2⟩
  · rw [if_neg h1, if_pos h2]
    exact ⟨rfl, fun q => by first | exact (no1 q).elim | exact (no2 q).elim⟩
  · rw [if_pos h1, if_neg h2, nI_clamp (n := f) (by omega), liq_eq hp fun k hk => hR.1 _ (by omega)]
    by_cases q : oM_isFluid v w21 (27 + 5 * f) = 0
    · rw [if_pos q, if_pos q]
      exact ⟨rfl, fun q => by first | exact (no1 q).elim | exact (no2 q).elim⟩
    · have h4 : ∀ k, k < 4 → w (27 + 5 * f + k) = v (27 + 5 * f + k) := fun k hk => hR.1 _ (by omega)
      rw [if_neg q, if_neg q, hR.1 (27 + 5 * f + 4) (by omega), pt_eq hp h4 fun z => q (if_pos (by rw [← sum_mass, ← sum_congr h4]; exact z))]
      exact ⟨rfl, fun _ => rfl⟩
theorem pt_nI {i s : Nat} (h : MixS w i s) (h0 : 0 < s) (hs : s ≤ 1000) : ∃ P, P ≤ 1200 ∧ ptW w i = nI P := by
  obtain ⟨a, b, c, d, ha, hb, hc, hd, rfl⟩ := h
  unfold ptW heatW sumW
  rw [ha, hb, hc, hd, nI_add, nI_add, nI_add, if_neg (nI_nle h0 (by omega))]
  rw [show nI a * 1085 = nI (a * 1085) from pk_mul a 1085, show nI b * 232 = nI (b * 232) from pk_mul b 232, show nI c * 327 = nI (c * 327) from pk_mul c 327, show nI d * 1200 = nI (d * 1200) from pk_mul d 1200]
  rw [nI_add, nI_add, nI_add, pk_div (by omega) h0 (by omega)]
  refine ⟨_, ?_, rfl⟩
  have : (a * 1085 + b * 232 + c * 327 + d * 1200) / (a + b + c + d) < 1201 := (Nat.div_lt_iff_lt_mul h0).mpr (by omega)
  omega
theorem lim_id {a : Nat} (h1 : 20 ≤ a) (h2 : a ≤ 1500) : lim (nI a) = nI a := by
  unfold lim
  rw [if_pos (show 20 ≤ nI a from nI_le (a := 20) h1 (by omega)), if_pos (show nI a ≤ 1500 from nI_le (b := 1500) h2 (by decide))]
theorem wait_ok {t r P N : Nat} (h1 : 20 ≤ t) (h2 : t ≤ 1500) (hr : r ≤ 45) (hP : P ≤ 1200) (hN : N ≤ 300) (n1 : P ≤ t + N * r) (n2 : ∀ i, i < N → t + i * r < P) : ∀ (m k q q' : Nat), k + m = N → m ≤ q → m ≤ q' → wtM (nI t) (nI r) (nI P) q k = nI N ∧ mbwL (nI P) (nI r) q' (nI (t + k * r)) k = N := by
  intro m
  induction m with
  | zero =>
    intro k q q' hk _ _
    obtain rfl : k = N := by omega
    have hb : k * r ≤ 300 * 45 := Nat.mul_le_mul hN hr
    constructor
    · cases q with
      | zero => rfl
      | succ q =>
        show (if nI P ≤ nI t + nI k * nI r then nI k else _) = _
        rw [pk_mul, nI_add, if_pos (nI_le n1 (by omega))]
    · cases q' with
      | zero => rfl
      | succ q' =>
        show (if nI P ≤ nI (t + k * r) then k else _) = _
        rw [if_pos (nI_le n1 (by omega))]
  | succ m ih =>
    intro k q q' hk hq hq'
    obtain ⟨q, rfl⟩ : ∃ a, q = a + 1 := ⟨q - 1, by omega⟩
    obtain ⟨q', rfl⟩ : ∃ a, q' = a + 1 := ⟨q' - 1, by omega⟩
    have h3 := n2 k (by omega)
    have e : t + k * r + r = t + (k + 1) * r := by rw [Nat.succ_mul]; omega
    have i := ih (k + 1) q q' (by omega) (by omega) (by omega)
    constructor
    · show (if nI P ≤ nI t + nI k * nI r then nI k else wtM (nI t) (nI r) (nI P) q (k + 1)) = _
      rw [pk_mul, nI_add, if_neg (nI_ge h3 (by omega))]
      exact i.1
    · show (if nI P ≤ nI (t + k * r) then k else mbwL (nI P) (nI r) q' (lim (nI (t + k * r) + nI r)) (k + 1)) = _
      rw [if_neg (nI_ge h3 (by omega)), nI_add, lim_id (by omega) (by omega), e]
      exact i.2
theorem need_ok {t r P : Nat} (hr : 5 ≤ r) (hP : P ≤ 1200) : ∃ N, N ≤ 300 ∧ P ≤ t + N * r ∧ (∀ i, i < N → t + i * r < P) ∧ (P ≤ t → N = 0) ∧ (t < P → N = (P - t + r - 1) / r) := by
  by_cases q : P ≤ t
  · exact ⟨0, by decide, by omega, fun i hi => absurd hi (by omega), fun _ => rfl, fun z => absurd z (by omega)⟩
  · refine ⟨(P - t + r - 1) / r, ?_, ?_, fun i hi => ?_, fun z => absurd z q, fun _ => rfl⟩
    · have : (P - t + r - 1) / r < 301 := (Nat.div_lt_iff_lt_mul (by omega)).mpr (by omega)
      omega
    · have h := Nat.lt_mul_div_succ (P - t + r - 1) (show 0 < r by omega)
      rw [Nat.mul_add, Nat.mul_comm] at h
      omega
    · have h := Nat.div_mul_le_self (P - t + r - 1) r
      have h3 : (i + 1) * r ≤ (P - t + r - 1) / r * r := Nat.mul_le_mul_right r hi
      rw [Nat.succ_mul] at h3
      omega
/-- a furnace that melts or is molten: waiting, dividing and the reference say the same -/
theorem melt_ok (hR : Rel w v) (hF : FI v) (hp : PtsOk w21) {f : Nat} (hf : f < 3) : (∃ s, s ≤ 100 ∧ MixS v (9 + 6 * f) s ∧ MixS w (9 + 6 * f) s ∧ (s = 0 → wbmW w f = 0) ∧ (0 < s → v (9 + 6 * f + 5) = 0 → oM_isFluid v w21 (9 + 6 * f) = 0 → wbmW w f = 0) ∧ (0 < s → (v (9 + 6 * f + 5) = 0 → ¬ oM_isFluid v w21 (9 + 6 * f) = 0) → ¬ wbmW w f = 0 ∧ mbwW w f = mbdW w f ∧
    (if oM_isFluid v w21 (9 + 6 * f) = 0 then wtM (v (9 + 6 * f + 4)) (10 * v (9 + 6 * f + 5) - 5) (oM_point v w21 (9 + 6 * f)) 1200 0 else 0) = mbwW w f)) := by
  obtain ⟨a1, -, -, -, a5, a6, -⟩ := hF.1
  obtain ⟨s, hs, mv⟩ := a1 f hf
  have mw : MixS w (9 + 6 * f) s := mv.congr fun j hj => hR.1 _ (by omega)
  obtain ⟨T, T1, T2, eT⟩ := a5 f hf
  obtain ⟨l, hl, el⟩ := a6 f hf
  have eT' : v (9 + 6 * f + 4) = nI T := by rw [← eT]; congr 1; omega
  have el' : v (9 + 6 * f + 5) = nI l := by rw [← el]; congr 1; omega
  have hw : ∀ k, k < 5 → w (9 + 6 * f + k) = v (9 + 6 * f + k) := fun k hk => hR.1 _ (by omega)
  have eWT : w (9 + 6 * f + 4) = nI T := (hR.1 _ (by omega)).trans eT'
  have eWl : w (14 + 6 * f) = nI l := (hR.1 _ (by omega)).trans el
  have lq := liq_eq hp hw
  refine ⟨s, hs, mv, mw, fun h0 => ?_, fun h0 h1 h2 => ?_, fun h0 h1 => ?_⟩
  · subst h0
    unfold wbmW
    rw [show liqW w (9 + 6 * f) = 0 from by unfold liqW; rw [mw.sum, if_pos (show nI 0 ≤ 0 from by decide)], if_pos rfl, mw.sum, if_pos (show nI 0 ≤ 0 from by decide)]
  · unfold wbmW
    rw [lq, h2, if_pos rfl, mw.sum, if_neg (nI_nle h0 (by omega)), eWl, ← el', h1, if_pos (by decide)]
  · obtain ⟨P, hP, eP⟩ := pt_nI mw h0 (by omega)
    have ptr := pt_eq (w21 := w21) hp (fun k hk => hw k (by omega)) (show ¬ sumW w (9 + 6 * f) ≤ 0 by rw [mw.sum]; exact nI_nle h0 (by omega))
    have flu : oM_isFluid v w21 (9 + 6 * f) = if T < P then 0 else 1 := by
      rw [← lq]
      unfold liqW
      rw [mw.sum, if_neg (nI_nle h0 (by omega)), eWT, eP]
      by_cases q : T < P
      · rw [if_pos q, if_pos (nI_lt q (by omega))]
      · rw [if_neg q, if_neg (nI_nlt (by omega) (by omega))]
    have rise : riseW w f = 10 * nI l - 5 := by unfold riseW; rw [eWl]
    by_cases q : T < P
    · have l0 : 0 < l := by
        rcases Nat.eq_zero_or_pos l with rfl | z
        · exact absurd (flu.trans (if_pos q)) (h1 el')
        · exact z
      have er : 10 * nI l - 5 = nI (10 * l - 5) := by
        rw [show (10 : Int32) * nI l = nI (10 * l) from pk_mul 10 l]
        exact pk_sub (b := 5) (by omega)
      obtain ⟨N, n1, n2, n3, -, n5⟩ := need_ok (t := T) (r := 10 * l - 5) (P := P) (by omega) hP
      have wk := wait_ok T1 T2 (by omega) hP n1 n2 n3 N 0 1200 100000 (by omega) (by omega) (by omega)
      rw [Nat.zero_mul, Nat.add_zero] at wk
      have ew : mbwW w f = nI N := by
        unfold mbwW
        rw [eP, rise, er, eWT, wk.2]
      refine ⟨?_, ?_, ?_⟩
      · unfold wbmW
        rw [lq, flu, if_pos q, if_pos rfl, mw.sum, if_neg (nI_nle h0 (by omega)), eWl, if_neg (nI_nle l0 (by omega))]
        decide
      · rw [ew]
        unfold mbdW
        rw [eP, rise, er, eWT, show nI P - nI T = nI (P - T) from pk_sub (by omega), if_neg (nI_nle (by omega) (by omega)), if_pos (show 0 < nI (10 * l - 5) from nI_lt (a := 0) (by omega) (by omega)), nI_add, show nI (P - T + (10 * l - 5)) - 1 = nI (P - T + (10 * l - 5) - 1) from pk_sub (b := 1) (by omega), pk_div (by omega) (by omega) (by omega), n5 q]
      · rw [flu, if_pos q, if_pos rfl, eT', el', er, ← ptr, eP, wk.1, ew]
    · have ew : mbwW w f = 0 := by
        unfold mbwW
        rw [eP, eWT]
        show nI (if nI P ≤ nI T then 0 else _) = 0
        rw [if_pos (nI_le (by omega) (by omega))]
        rfl
      refine ⟨?_, ?_, ?_⟩
      · unfold wbmW
        rw [lq, flu, if_neg q, if_neg (by decide)]
        decide
      · rw [ew]
        unfold mbdW
        rw [eP, eWT, if_pos]
        rw [Int32.le_iff_toInt_le, pk_sub_toInt (by omega) (by omega)]
        show (P : Int) - T ≤ 0
        omega
      · rw [flu, if_neg q, if_neg (by decide), ew]
theorem q_minutes (hR : Rel w v) (hF : FI v) (hp : PtsOk w21) (x : Int32) : QOk (oF_minutesUntilMolten w x) (oM_minutesUntilMolten w15 v w21 x) w15 ∧ QOk (oF_minutesUntilMoltenByDivision w x) (oM_minutesUntilMoltenByDivision w15 v w21 x) w15 := by
  unfold oF_minutesUntilMolten oF_minutesUntilMoltenByDivision oM_minutesUntilMoltenByDivision oM_minutesUntilMolten oq_melt oM_fail
  rcases three_cases x with ⟨h1, h2⟩ | ⟨f, hf, rfl, h1, h2⟩
  · rw [if_neg h1, if_pos h2]
    exact ⟨⟨rfl, fun q => by first | exact (no1 q).elim | exact (no2 q).elim⟩, rfl, fun q => by first | exact (no1 q).elim | exact (no2 q).elim⟩
  · rw [if_pos h1, if_neg h2, nI_clamp (n := f) (by omega)]
    obtain ⟨s, hs, mv, mw, c1, c2, c3⟩ := melt_ok (w21 := w21) hR hF hp hf
    rw [mv.mass]
    by_cases q : s = 0
    · rw [if_pos (c1 q), q, if_pos (show nI 0 = 0 from rfl)]
      exact ⟨⟨rfl, fun q => by first | exact (no1 q).elim | exact (no2 q).elim⟩, rfl, fun q => by first | exact (no1 q).elim | exact (no2 q).elim⟩
    · rw [if_neg (show ¬ nI s = 0 from nI_ne0 (by omega) (by omega))]
      by_cases q2 : v (9 + 6 * f + 5) = 0
      · rw [if_pos q2]
        by_cases q3 : oM_isFluid v w21 (9 + 6 * f) = 0
        · rw [if_pos q3, if_pos (c2 (by omega) q2 q3)]
          exact ⟨⟨rfl, fun q => by first | exact (no1 q).elim | exact (no2 q).elim⟩, rfl, fun q => by first | exact (no1 q).elim | exact (no2 q).elim⟩
        · obtain ⟨d1, d2, d3⟩ := c3 (by omega) fun _ => q3
          rw [if_neg q3] at d3
          rw [if_neg q3, if_neg d1, ← d2, ← d3]
          exact ⟨⟨rfl, fun _ => rfl⟩, rfl, fun _ => rfl⟩
      · obtain ⟨d1, d2, d3⟩ := c3 (by omega) fun z => absurd z q2
        rw [if_neg q2, if_neg d1, ← d2]
        by_cases q3 : oM_isFluid v w21 (9 + 6 * f) = 0
        · rw [if_pos q3] at d3 ⊢
          rw [← d3]
          exact ⟨⟨rfl, fun _ => rfl⟩, rfl, fun _ => rfl⟩
        · rw [if_neg q3] at d3 ⊢
          rw [← d3]
          exact ⟨⟨rfl, fun _ => rfl⟩, rfl, fun _ => rfl⟩
theorem q_account (hR : Rel w v) (y : Int32) : QOk (oF_charged w y) (oM_charged w15 v y) w15 ∧ QOk (oF_slag w y) (oM_slag w15 v y) w15 ∧ QOk (oF_stockByAccounts w y) (oM_stockByAccounts w15 v y) w15 := by
  unfold oF_charged oF_slag oF_stockByAccounts oM_charged oM_slag oM_stockByAccounts oM_stock oM_account
  rcases mat_cases y with ⟨h1, h2⟩ | ⟨j, hj, e1, e2, h1, h2⟩
  · refine ⟨?_, ?_, ?_⟩
    · rw [if_pos h1, if_neg h2]
      exact ⟨rfl, fun q => (no1 q).elim⟩
    · rw [if_pos h1, if_neg h2]
      exact ⟨rfl, fun q => (no1 q).elim⟩
    · rw [if_pos h1, if_neg h2]
      exact ⟨rfl, fun q => (no1 q).elim⟩
  · refine ⟨?_, ?_, ?_⟩
    · rw [if_neg h1, if_pos h2, e1, e2, nI_clamp (show j < 2 ^ 31 by omega)]
      exact ⟨rfl, fun _ => (hR.1 (1 + j) (by omega)).symm⟩
    · rw [if_neg h1, if_pos h2, e1, e2, nI_clamp (show j < 2 ^ 31 by omega)]
      exact ⟨rfl, fun _ => (hR.1 (5 + j) (by omega)).symm⟩
    · rw [if_neg h1, if_pos h2, e1, e2, nI_clamp (show j < 2 ^ 31 by omega)]
      refine ⟨rfl, fun _ => ?_⟩
      show v (1 + j) - v (5 + j) = w (1 + j) - w (5 + j)
      rw [hR.1 (1 + j) (by omega), hR.1 (5 + j) (by omega)]
theorem stk_rel (hR : Rel w v) {j : Nat} (hj : j < 4) : stkW w j = stkW v j := by
  rw [stk_split, stk_split]
  have e1 : kiv w = kiv v := congrArg Int32.toNatClampNeg (hR.1 43 (by decide))
  have e2 : kmv w = kmv v := congrArg Int32.toNatClampNeg (hR.1 42 (by decide))
  rw [e1, e2, accL_congr (w := w) (v := v) (i := 80) _ _ fun k hk => hR.2.2 k j hk hj, accL_congr (w := w) (v := v) (i := 44) _ _ fun k hk => hR.2.1 k j hk (by omega), stk0_same hj fun j hj => hR.1 j (by omega)]
theorem q_stock (hR : Rel w v) (hF : FI v) (y : Int32) : QOk (oF_stock w y) (oM_stock w15 v y) w15 := by
  unfold oF_stock oM_stock
  rcases mat_cases y with ⟨h1, h2⟩ | ⟨j, hj, e1, e2, h1, h2⟩
  · rw [if_pos h1, if_neg h2]
    exact ⟨rfl, fun q => by first | exact (no1 q).elim | exact (no2 q).elim⟩
  · rw [if_neg h1, if_pos h2, e1, e2, nI_clamp (show j < 2 ^ 31 by omega)]
    refine ⟨rfl, fun _ => ?_⟩
    show v (1 + j) - v (5 + j) = stkW w j
    rw [stk_rel hR hj, fi_st hF hj]
theorem share_eq (hR : Rel w v) (hF : FI v) {i j : Nat} (hi : i < kiv v) (hj : j < 4) : thW w (80 + 4 * i) j = oM_shareOf v i j := by
  obtain ⟨s, s1, s2, s3⟩ := ingot_inv hF hi
  have sw : MixS w (80 + 4 * i) s := s3.congr fun k hk => hR.2.2 i k hi hk
  unfold thW oM_shareOf
  rw [sw.sum, s3.mass, if_neg (nI_nle (by omega) (by omega)), hR.2.2 i j hi hj]
theorem q_share (hR : Rel w v) (hF : FI v) (x y : Int32) : QOk (oF_share w x y) (oM_share w15 v x y) w15 := by
  unfold oF_share oM_share
  rcases ingot_cases hR hF x with ⟨h1, h2⟩ | ⟨m, hm, h6, rfl, h1, h2⟩
  · rw [if_neg h1, if_pos h2]
    exact ⟨rfl, fun q => by first | exact (no1 q).elim | exact (no2 q).elim⟩
  · rw [if_pos h1, if_neg h2, nI_clamp (n := m) (by omega)]
    rcases mat_cases y with ⟨h1, h2⟩ | ⟨j, hj, e1, e2, h1, h2⟩
    · rw [if_pos h1, if_neg h2]
      exact ⟨rfl, fun q => by first | exact (no1 q).elim | exact (no2 q).elim⟩
    · rw [if_neg h1, if_pos h2, e1, e2, nI_clamp (show j < 2 ^ 31 by omega)]
      exact ⟨rfl, fun _ => (share_eq hR hF hm hj).symm⟩
theorem grade_eq (hR : Rel w v) (hF : FI v) {i : Nat} (hi : i < kiv v) : gradeW w (80 + 4 * i) = oM_gradeOf v i := by
  unfold gradeW oM_gradeOf
  rw [share_eq hR hF hi (by decide), share_eq hR hF hi (by decide), share_eq hR hF hi (by decide), share_eq hR hF hi (by decide)]
theorem chW_grade (v : Nat → Int32) (i : Nat) : chW (oM_gradeOf v i) = oM_gradeOf v i := by
  unfold oM_gradeOf
  repeat' split
  all_goals decide
theorem q_grade (hR : Rel w v) (hF : FI v) (x : Int32) : QOk (oF_grade w x) (oM_grade w15 v x) w15 := by
  unfold oF_grade oM_grade
  rcases ingot_cases hR hF x with ⟨h1, h2⟩ | ⟨m, hm, h6, rfl, h1, h2⟩
  · rw [if_neg h1, if_pos h2]
    exact ⟨rfl, fun q => by first | exact (no1 q).elim | exact (no2 q).elim⟩
  · rw [if_pos h1, if_neg h2, nI_clamp (n := m) (by omega), chW_grade, grade_eq hR hF hm]
    exact ⟨rfl, fun _ => rfl⟩
theorem df_pos {a b : Nat} (ha : a < 2 ^ 30) (hb : b < 2 ^ 30) : 0 < nI a - nI b ↔ b < a := by
  rw [Int32.lt_iff_toInt_lt, pk_sub_toInt ha hb]
  show (0 : Int) < a - b ↔ b < a
  omega
theorem df_zero {a b : Nat} (ha : a < 2 ^ 30) (hb : b < 2 ^ 30) : nI a - nI b = 0 ↔ a = b := by
  rw [← Int32.toInt_inj, pk_sub_toInt ha hb]
  show (a : Int) - b = 0 ↔ a = b
  omega
theorem cmp3 {a b c d f o : Nat} (ha : a < 2 ^ 30) (hb : b < 2 ^ 30) (hc : c < 2 ^ 30) (hd : d < 2 ^ 30) (hf : f < 2 ^ 30) (ho : o < 2 ^ 30) :
    (if nI a = nI b then (if nI c = nI d then (if nI f ≤ nI o then (0 : Int32) else 1) else if nI c ≤ nI d then 0 else 1) else if nI a ≤ nI b then 0 else 1) = nI (if nI a - nI b = 0 then (if 0 < nI c - nI d then 1 else if nI c - nI d = 0 then (if nI f ≤ nI o then 0 else 1) else 0) else if 0 < nI a - nI b then 1 else 0) := by
  have e1 : (nI a = nI b) = (a = b) := propext (nI_eq (by omega) (by omega))
  have e2 : (nI c = nI d) = (c = d) := propext (nI_eq (by omega) (by omega))
  have e3 : (nI f ≤ nI o) = (f ≤ o) := propext (nI_leI (by omega) (by omega))
  have e4 : (nI c ≤ nI d) = (c ≤ d) := propext (nI_leI (by omega) (by omega))
  have e5 : (nI a ≤ nI b) = (a ≤ b) := propext (nI_leI (by omega) (by omega))
  have e6 : (nI a - nI b = 0) = (a = b) := propext (df_zero ha hb)
  have e7 : (0 < nI c - nI d) = (d < c) := propext (df_pos hc hd)
  have e8 : (nI c - nI d = 0) = (c = d) := propext (df_zero hc hd)
  have e9 : (0 < nI a - nI b) = (b < a) := propext (df_pos ha hb)
  simp only [e1, e2, e3, e4, e5, e6, e7, e8, e9]
  by_cases q1 : a = b
  · rw [if_pos q1, if_pos q1]
    by_cases q2 : c = d
    · rw [if_pos q2, if_neg (show ¬ d < c by omega), if_pos q2]
      split <;> rfl
    · rw [if_neg q2]
      by_cases q3 : c ≤ d
      · rw [if_pos q3, if_neg (show ¬ d < c by omega), if_neg q2]
        rfl
      · rw [if_neg q3, if_pos (show d < c by omega)]
        rfl
  · rw [if_neg q1, if_neg q1]
    by_cases q3 : a ≤ b
    · rw [if_pos q3, if_neg (show ¬ b < a by omega)]
      rfl
    · rw [if_neg q3, if_pos (show b < a by omega)]
      rfl
theorem fcf_eq (hR : Rel w v) (hF : FI v) {o f : Nat} (ho : o < 3) (hf : f < 3) : (if fcfW w o f = 0 then (0 : Int32) else 1) = nI (cmF v o f) := by
  obtain ⟨a1, -, -, -, a5, -, -⟩ := hF.1
  obtain ⟨s, hs, mo⟩ := a1 o ho
  obtain ⟨u, hu, mf⟩ := a1 f hf
  obtain ⟨a, -, ha, ea⟩ := a5 o ho
  obtain ⟨b, -, hb, eb⟩ := a5 f hf
  have ea' : v (9 + 6 * o + 4) = nI a := by rw [← ea]; congr 1; omega
  have eb' : v (9 + 6 * f + 4) = nI b := by rw [← eb]; congr 1; omega
  have mo' : MixS w (9 + 6 * o) s := mo.congr fun j hj => hR.1 _ (by omega)
  have mf' : MixS w (9 + 6 * f) u := mf.congr fun j hj => hR.1 _ (by omega)
  have e : fcfW w o f = nI (cmF v o f) := by
    unfold fcfW cmF
    rw [mo'.sum, mf'.sum, mo.mass, mf.mass, hR.1 (9 + 6 * o + 4) (by omega), hR.1 (9 + 6 * f + 4) (by omega), ea', eb']
    exact cmp3 (by omega) (by omega) (by omega) (by omega) (by omega) (by omega)
  have c : cmF v o f = 0 ∨ cmF v o f = 1 := by
    unfold cmF
    repeat' split
    all_goals first | exact .inl rfl | exact .inr rfl
  rw [e]
  rcases c with c | c
  · rw [c]
    exact if_pos rfl
  · rw [c]
    exact if_neg (by decide)
theorem cmF_self (v : Nat → Int32) (f : Nat) : cmF v f f = 0 := by
  unfold cmF
  rw [Int32.sub_self, Int32.sub_self, if_pos rfl, if_neg (by decide), if_pos rfl, if_pos (Int32.le_refl _)]
theorem rankF_eq (hR : Rel w v) (hF : FI v) {f : Nat} (hf : f < 3) : rankFW w f = nI (rkM cmF v f 3) := by
  unfold rankFW
  have e : rkM cmF v f 3 = cmF v 0 f + cmF v 1 f + cmF v 2 f := by
    show 0 + cmF v 0 f + cmF v 1 f + cmF v 2 f = _
    rw [Nat.zero_add]
  rw [e, ← nI_add, ← nI_add, fcf_eq hR hF (show 0 < 3 by decide) hf, fcf_eq hR hF (show 1 < 3 by decide) hf, fcf_eq hR hF (show 2 < 3 by decide) hf]
  rcases lt3 hf with rfl | rfl | rfl
  · rw [if_pos rfl, if_neg (by decide), if_neg (by decide), cmF_self]
    rfl
  · rw [if_neg (by decide), if_pos rfl, if_neg (by decide), cmF_self]
    rfl
  · rw [if_neg (by decide), if_neg (by decide), if_pos rfl, cmF_self]
    rfl
theorem q_furnaceByTemperature (hR : Rel w v) (hF : FI v) (x : Int32) : QOk (oF_furnaceByTemperature w x) (oM_furnaceByTemperature w15 v x) w15 := by
  unfold oF_furnaceByTemperature oM_furnaceByTemperature oM_fail
  rw [rankF_eq hR hF (show 0 < 3 by decide), rankF_eq hR hF (show 1 < 3 by decide), rankF_eq hR hF (show 2 < 3 by decide)]
  have e : fbL cmF v x 3 3 0 = if nI (rkM cmF v 0 3) = x then some 0 else if nI (rkM cmF v 1 3) = x then some 1 else if nI (rkM cmF v 2 3) = x then some 2 else none := rfl
  rw [e]
  by_cases q0 : nI (rkM cmF v 0 3) = x
  · rw [if_pos q0, if_pos q0]
    exact ⟨rfl, fun _ => rfl⟩
  · rw [if_neg q0, if_neg q0]
    by_cases q1 : nI (rkM cmF v 1 3) = x
    · rw [if_pos q1, if_pos q1]
      exact ⟨rfl, fun _ => rfl⟩
    · rw [if_neg q1, if_neg q1]
      by_cases q2 : nI (rkM cmF v 2 3) = x
      · rw [if_pos q2, if_pos q2]
        exact ⟨rfl, fun _ => rfl⟩
      · rw [if_neg q2, if_neg q2]
        refine ⟨?_, fun q => by first | exact (no1 q).elim | exact (no2 q).elim⟩
        show upd (upd w15 0 0) 0 1 = upd w15 0 (nI 1)
        funext j
        unfold upd
        split <;> rfl
theorem icf_eq (hR : Rel w v) (hF : FI v) {o f : Nat} (ho : o < kiv v) (hf : f < kiv v) : (icfW w o f = 0 ∧ cmI v o f = 0) ∨ (¬ icfW w o f = 0 ∧ cmI v o f = 1) := by
  have k12 := (kiv_le hF).2
  obtain ⟨s, s1, hs, mo⟩ := ingot_inv hF ho
  obtain ⟨u, u1, hu, mf⟩ := ingot_inv hF hf
  have mo' : MixS w (80 + 4 * o) s := mo.congr fun j hj => hR.2.2 o j ho hj
  have mf' : MixS w (80 + 4 * f) u := mf.congr fun j hj => hR.2.2 f j hf hj
  obtain ⟨a, ha, ea⟩ := mo.at 0 (by decide)
  obtain ⟨b, hb, eb⟩ := mf.at 0 (by decide)
  have ea' : v (80 + 4 * o) = nI a := ea
  have eb' : v (80 + 4 * f) = nI b := eb
  have e : icfW w o f = nI (cmI v o f) := by
    unfold icfW cmI
    rw [mo'.sum, mf'.sum, mo.mass, mf.mass, hR.2.2 o 0 ho (by decide), hR.2.2 f 0 hf (by decide), ea, eb, ea', eb']
    exact cmp3 (by omega) (by omega) (by omega) (by omega) (by omega) (by omega)
  have c : cmI v o f = 0 ∨ cmI v o f = 1 := by
    unfold cmI
    repeat' split
    all_goals first | exact .inl rfl | exact .inr rfl
  rw [e]
  rcases c with c | c
  · exact .inl ⟨by rw [c]; rfl, c⟩
  · exact .inr ⟨by rw [c]; decide, c⟩
theorem cmI_self (v : Nat → Int32) (f : Nat) : cmI v f f = 0 := by
  unfold cmI
  rw [Int32.sub_self, Int32.sub_self, if_pos rfl, if_neg (by decide), if_pos rfl, if_pos (Int32.le_refl _)]
theorem rankI_eq (hR : Rel w v) (hF : FI v) {f : Nat} (hf : f < kiv v) : ∀ n, n ≤ kiv v → rankIL w f n = rkM cmI v f n
  | 0, _ => rfl
  | n + 1, hn => by
    have k12 := (kiv_le hF).2
    show (if nI n = nI f then rankIL w f n else if icfW w n f = 0 then rankIL w f n else rankIL w f n + 1) = rkM cmI v f n + cmI v n f
    rw [rankI_eq hR hF hf n (by omega)]
    by_cases q : nI n = nI f
    · rw [if_pos q]
      obtain rfl := (nI_eq (by omega) (by omega)).mp q
      rw [cmI_self]
      rfl
    · rw [if_neg q]
      rcases icf_eq hR hF (o := n) (f := f) (by omega) hf with ⟨h1, h2⟩ | ⟨h1, h2⟩
      · rw [if_pos h1, h2]
        rfl
      · rw [if_neg h1, h2]
theorem ibm_eq (hR : Rel w v) (hF : FI v) (x : Int32) : ∀ q k, k + q = kiv v → (∃ m, ibmL w x q k = (0, nI m) ∧ fbL cmI v x (kiv v) q k = some m) ∨ (ibmL w x q k = (nI 1, 0) ∧ fbL cmI v x (kiv v) q k = none)
  | 0, _, _ => .inr ⟨rfl, rfl⟩
  | q + 1, k, h => by
    have e1 : ibmL w x (q + 1) k = if nI (rankIL w k (w 43).toNatClampNeg) = x then (0, nI k) else ibmL w x q (k + 1) := rfl
    have e2 : fbL cmI v x (kiv v) (q + 1) k = if nI (rkM cmI v k (kiv v)) = x then some k else fbL cmI v x (kiv v) q (k + 1) := rfl
    have e3 : (w 43).toNatClampNeg = kiv v := congrArg Int32.toNatClampNeg (hR.1 43 (by decide))
    rw [e1, e2, e3, rankI_eq hR hF (by omega) _ (Nat.le_refl _)]
    by_cases z : nI (rkM cmI v k (kiv v)) = x
    · rw [if_pos z, if_pos z]
      exact .inl ⟨k, rfl, rfl⟩
    · rw [if_neg z, if_neg z]
      exact ibm_eq hR hF x q (k + 1) (by omega)
theorem q_ingotByMass (hR : Rel w v) (hF : FI v) (x : Int32) : QOk (oF_ingotByMass w x) (oM_ingotByMass w15 v x) w15 := by
  unfold oF_ingotByMass oM_ingotByMass oM_fail
  have e3 : (w 43).toNatClampNeg = kiv v := congrArg Int32.toNatClampNeg (hR.1 43 (by decide))
  have e4 : (v 43).toNatClampNeg = kiv v := rfl
  rw [e3, e4]
  rcases ibm_eq hR hF x (kiv v) 0 (by omega) with ⟨m, h1, h2⟩ | ⟨h1, h2⟩
  · rw [h1, h2]
    exact ⟨rfl, fun _ => rfl⟩
  · rw [h1, h2]
    refine ⟨?_, fun q => by first | exact (no1 q).elim | exact (no2 q).elim⟩
    show upd (upd w15 0 0) 0 1 = upd w15 0 (nI 1)
    funext j
    unfold upd
    split <;> rfl
theorem mt_eq (hR : Rel w v) : mtW w = mtW v := by
  unfold mtW
  rw [hR.1 _ (by decide), hR.1 _ (by decide), hR.1 _ (by decide)]
theorem smL_acc {b st : Nat} : ∀ (n : Nat) (a0 a1 a2 a3 : Int32), smL v b st n (a0 + a1 + a2 + a3) = accL v b st 0 n a0 + accL v b st 1 n a1 + accL v b st 2 n a2 + accL v b st 3 n a3
  | 0, _, _, _, _ => rfl
  | n + 1, a0, a1, a2, a3 => by
    show smL v b st n _ + oM_mass v (b + st * n) = (accL v b st 0 n a0 + v (b + st * n + 0)) + (accL v b st 1 n a1 + v (b + st * n + 1)) + (accL v b st 2 n a2 + v (b + st * n + 2)) + (accL v b st 3 n a3 + v (b + st * n + 3))
    rw [smL_acc n]
    unfold oM_mass
    rw [Nat.add_zero]
    grind
theorem cons_ref (hF : FI v) : oM_isConsistent w15 v = (1, upd w15 0 0) := by
  unfold oM_isConsistent
  refine if_pos ?_
  have e : oM_mass v (9 + 6 * 0) + oM_mass v (27 + 5 * 0) + (oM_mass v (9 + 6 * 1) + oM_mass v (27 + 5 * 1)) + (oM_mass v (9 + 6 * 2) + oM_mass v (27 + 5 * 2)) = stk0 v 0 + stk0 v 1 + stk0 v 2 + stk0 v 3 := by
    unfold oM_mass stk0
    simp only [Nat.add_zero]
    grind
  rw [e, smL_acc, smL_acc]
  have h0 : accL v 80 4 0 (v 43).toNatClampNeg (accL v 44 6 0 (v 42).toNatClampNeg (stk0 v 0)) = v (1 + 0) - v (5 + 0) := fi_st hF (j := 0) (by decide)
  have h1 : accL v 80 4 1 (v 43).toNatClampNeg (accL v 44 6 1 (v 42).toNatClampNeg (stk0 v 1)) = v (1 + 1) - v (5 + 1) := fi_st hF (j := 1) (by decide)
  have h2 : accL v 80 4 2 (v 43).toNatClampNeg (accL v 44 6 2 (v 42).toNatClampNeg (stk0 v 2)) = v (1 + 2) - v (5 + 2) := fi_st hF (j := 2) (by decide)
  have h3 : accL v 80 4 3 (v 43).toNatClampNeg (accL v 44 6 3 (v 42).toNatClampNeg (stk0 v 3)) = v (1 + 3) - v (5 + 3) := fi_st hF (j := 3) (by decide)
  rw [h0, h1, h2, h3]
  unfold oM_mass
  simp only [Nat.add_zero]
  grind
theorem agr_ok (hR : Rel w v) (hF : FI v) (hp : PtsOk w21) {f : Nat} (hf : f < 3) : agrW w f = 1 := by
  obtain ⟨s, hs, mv, mw, c1, c2, c3⟩ := melt_ok (w21 := w21) hR hF hp hf
  have b : (if wbmW w f = 0 then (1 : Int32) else if mbwW w f = mbdW w f then 1 else 0) = 1 := by
    by_cases q : wbmW w f = 0
    · exact if_pos q
    · rw [if_neg q, if_pos]
      have s0 : 0 < s := by
        rcases Nat.eq_zero_or_pos s with z | z
        · exact absurd (c1 z) q
        · exact z
      exact (c3 s0 fun z1 z2 => q (c2 s0 z1 z2)).2.1
  unfold agrW
  rw [pd_eq mw (by omega), b, if_pos rfl]
  split <;> rfl
theorem cons_cls (hR : Rel w v) (hF : FI v) (hp : PtsOk w21) : oF_isConsistent w = 1 := by
  unfold oF_isConsistent
  have h : ∀ j, j < 4 → stkW w j = w (1 + j) - w (5 + j) := fun j hj => by rw [stk_rel hR hj, fi_st hF hj, hR.1 _ (by omega), hR.1 _ (by omega)]
  rw [agr_ok (w21 := w21) hR hF hp (show 0 < 3 by decide), agr_ok (w21 := w21) hR hF hp (show 1 < 3 by decide), agr_ok (w21 := w21) hR hF hp (show 2 < 3 by decide), if_neg (by decide), if_neg (by decide), if_neg (by decide), if_pos (h 0 (by decide)), if_pos (h 1 (by decide)), if_pos (h 2 (by decide)), if_pos (h 3 (by decide))]
end QQ
