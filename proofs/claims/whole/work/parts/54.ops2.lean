/-! Skimming, tapping, pouring back: class and reference alike. -/
section OPV
variable {ee : Nat → Int32}
theorem pt_eq {w v w21 : Nat → Int32} {i : Nat} (hp : PtsOk w21) (h : ∀ k, k < 4 → w (i + k) = v (i + k)) (h0 : ¬ sumW w i ≤ 0) : ptW w i = oM_point v w21 i := by
  obtain ⟨p0, p1, p2, p3⟩ := hp
  have v0 : w (i + 0) = v i := h 0 (by decide)
  unfold ptW oM_point heatW
  rw [if_neg h0, sum_congr h, p0, p1, p2, p3, v0, h 1 (by decide), h 2 (by decide), h 3 (by decide)]
  rfl
theorem liq_eq {w v w21 : Nat → Int32} {i : Nat} (hp : PtsOk w21) (h : ∀ k, k < 5 → w (i + k) = v (i + k)) : liqW w i = oM_isFluid v w21 i := by
  have h4 : ∀ k, k < 4 → w (i + k) = v (i + k) := fun k hk => h k (by omega)
  unfold liqW oM_isFluid
  rw [show oM_mass v i = sumW w i from (sum_congr h4).symm]
  by_cases q : sumW w i ≤ 0
  · rw [if_pos q, if_pos q]
  · rw [if_neg q, if_neg q, pt_eq hp h4 q, h 4 (by decide)]
theorem imin_le (x y : Int32) : imin x y = if y ≤ x then y else x := by
  unfold imin
  by_cases h : y < x
  · rw [if_pos h, if_pos (Int32.le_of_lt h)]
  · rw [if_neg h]
    by_cases q : y ≤ x
    · rw [if_pos q]
      exact Int32.le_antisymm (Int32.not_lt.mp h) q
    · rw [if_neg q]
def skR (v : Nat → Int32) (i b : Nat) (o x : Int32) : Nat → Int32 := upd (upd (upd (upd v (i + 3) 0) (i + b) (v (i + b) - x)) 8 (v 8 + o)) (5 + b) (v (5 + b) + x)
theorem skim_ref {v w21 w15 : Nat → Int32} {f : Nat} (hf : f < 3) (h1 : ¬ oM_isThree (nI f) = 0) (h2 : ¬ v (9 + 6 * f + 3) = 0) (h3 : ¬ oM_isFluid v w21 (9 + 6 * f) = 0) : oM_skims w15 v w21 (nI f) = (v (9 + 6 * f + 3) + imin (v (9 + 6 * f + 3) / 4) (v (9 + 6 * f + best3 v (9 + 6 * f))), w15, skR v (9 + 6 * f) (best3 v (9 + 6 * f)) (v (9 + 6 * f + 3)) (imin (v (9 + 6 * f + 3) / 4) (v (9 + 6 * f + best3 v (9 + 6 * f))))) := by
  unfold oM_skims
  rw [nI_clamp (n := f) (by omega), if_neg h1, if_neg h2, if_neg h3]
  unfold skR best3 stepB
  rw [imin_le]
  by_cases a : v (9 + 6 * f + 1) ≤ v (9 + 6 * f)
  · have a' : v (9 + 6 * f + 1) ≤ v (9 + 6 * f + 0) := a
    rw [if_pos a]
    simp only [if_pos a']
    by_cases b : v (9 + 6 * f + 2) ≤ v (9 + 6 * f)
    · have b' : v (9 + 6 * f + 2) ≤ v (9 + 6 * f + 0) := b
      rw [if_pos b]
      simp only [if_pos b']
      by_cases c : v (9 + 6 * f) ≤ v (9 + 6 * f + 3) / 4
      · have c' : v (9 + 6 * f + 0) ≤ v (9 + 6 * f + 3) / 4 := c
        rw [if_pos c]
        simp (disch := omega) only [if_pos c', if_pos c, pk_un, Nat.add_zero]
      · have c' : ¬ v (9 + 6 * f + 0) ≤ v (9 + 6 * f + 3) / 4 := c
        rw [if_neg c]
        simp (disch := omega) only [if_neg c', if_neg c, pk_un, Nat.add_zero]
    · have b' : ¬ v (9 + 6 * f + 2) ≤ v (9 + 6 * f + 0) := b
      rw [if_neg b]
      simp only [if_neg b']
      by_cases c : v (9 + 6 * f + 2) ≤ v (9 + 6 * f + 3) / 4
      · rw [if_pos c]
        simp (disch := omega) only [if_pos c, pk_un]
      · rw [if_neg c]
        simp (disch := omega) only [if_neg c, pk_un]
  · have a' : ¬ v (9 + 6 * f + 1) ≤ v (9 + 6 * f + 0) := a
    rw [if_neg a]
    simp only [if_neg a']
    by_cases b : v (9 + 6 * f + 2) ≤ v (9 + 6 * f + 1)
    · rw [if_pos b]
      simp only [if_pos b]
      by_cases c : v (9 + 6 * f + 1) ≤ v (9 + 6 * f + 3) / 4
      · rw [if_pos c]
        simp (disch := omega) only [if_pos c, pk_un]
      · rw [if_neg c]
        simp (disch := omega) only [if_neg c, pk_un]
    · rw [if_neg b]
      simp only [if_neg b]
      by_cases c : v (9 + 6 * f + 2) ≤ v (9 + 6 * f + 3) / 4
      · rw [if_pos c]
        simp (disch := omega) only [if_pos c, pk_un]
      · rw [if_neg c]
        simp (disch := omega) only [if_neg c, pk_un]
theorem stepB_lt3 {w : Nat → Int32} {i b k : Nat} (hb : b < 3) (hk : k < 3) : stepB w i b k < 3 := by
  unfold stepB
  split <;> assumption
theorem best3_lt (w : Nat → Int32) (i : Nat) : best3 w i < 3 := stepB_lt3 (stepB_lt3 (by decide) (by decide)) (by decide)
theorem imin_nI {a b : Nat} (ha : a < 2 ^ 31) (hb : b < 2 ^ 31) : imin (nI a) (nI b) = nI (min a b) := by
  unfold imin
  by_cases h : nI b < nI a
  · rw [if_pos h]
    have := (nI_ltI hb ha).mp h
    rw [Nat.min_eq_right (by omega)]
  · rw [if_neg h]
    have : ¬ b < a := fun q => h ((nI_ltI hb ha).mpr q)
    rw [Nat.min_eq_left (by omega)]
theorem op_skim {w v w21 : Nat → Int32} (hR : Rel w v) (hF : FInv ee v) (hp : PtsOk w21) (w15 : Nat → Int32) (a : Int32) : OpOk ee ["java/lang/IndexOutOfBoundsException", "java/util/NoSuchElementException", "java/lang/IllegalStateException"] (skimOffR w a) w w15 (oM_skims w15 v w21 a).1 (oM_skims w15 v w21 a).2.1 v (oM_skims w15 v w21 a).2.2 := by
  unfold skimOffR
  rcases three_cases a with ⟨h1, h2⟩ | ⟨f, hf, rfl, h1, h2⟩
  · unfold oM_skims oM_fail
    rw [if_neg h1, if_pos h2]
    exact OpOk.no (i := 0) rfl (by decide) (by decide) (by decide)
  · rw [if_pos h1, nI_clamp (n := f) (by omega)]
    have hw : ∀ k, k < 5 → w (9 + 6 * f + k) = v (9 + 6 * f + k) := fun k hk => hR.1 _ (by omega)
    have hw4 : ∀ k, k < 4 → w (9 + 6 * f + k) = v (9 + 6 * f + k) := fun k hk => hR.1 _ (by omega)
    rw [hw 3 (by decide), liq_eq hp hw, best3_congr hw4]
    by_cases q1 : v (9 + 6 * f + 3) = 0
    · rw [if_pos q1]
      unfold oM_skims oM_fail
      rw [nI_clamp (n := f) (by omega), if_neg h2, if_pos q1]
      exact OpOk.no (i := 1) rfl (by decide) (by decide) (by decide)
    · rw [if_neg q1]
      by_cases q2 : oM_isFluid v w21 (9 + 6 * f) = 0
      · rw [if_pos q2]
        unfold oM_skims oM_fail
        rw [nI_clamp (n := f) (by omega), if_neg h2, if_neg q1, if_pos q2]
        exact OpOk.no (i := 2) rfl (by decide) (by decide) (by decide)
      · rw [if_neg q2, skim_ref hf h2 q1 q2]
        have hb := best3_lt v (9 + 6 * f)
        obtain ⟨b, eb⟩ : ∃ b, b = best3 v (9 + 6 * f) := ⟨_, rfl⟩
        rw [← eb] at hb ⊢
        obtain ⟨a1, a2, -, -, a5, a6, a7⟩ := hF.1
        obtain ⟨M, hM, mv⟩ := a1 f hf
        obtain ⟨o, ho, eo⟩ := mv.at 3 (by decide)
        obtain ⟨y, hy, ey⟩ := mv.at b (by omega)
        obtain ⟨x, hx, ex, exy⟩ : ∃ x, x ≤ y ∧ imin (v (9 + 6 * f + 3) / 4) (v (9 + 6 * f + b)) = nI x ∧ o + x ≤ 200 := by
          refine ⟨min (o / 4) y, Nat.min_le_right _ _, ?_, by omega⟩
          rw [eo, ey, show nI o / 4 = nI (o / 4) from pk_div (d := 4) (by omega) (by decide) (by decide), imin_nI (by omega) (by omega)]
        show OpOk ee _ (v (9 + 6 * f + 3) + imin (v (9 + 6 * f + 3) / 4) (w (9 + 6 * f + b)), moveR (moveR w (9 + 6 * f) 5 3 (v (9 + 6 * f + 3))) (9 + 6 * f) 5 b (imin (v (9 + 6 * f + 3) / 4) (w (9 + 6 * f + b)))) w w15 (v (9 + 6 * f + 3) + imin (v (9 + 6 * f + 3) / 4) (v (9 + 6 * f + b))) w15 v (skR v (9 + 6 * f) b (v (9 + 6 * f + 3)) (imin (v (9 + 6 * f + 3) / 4) (v (9 + 6 * f + b))))
        rw [hw4 b (by omega), ex, eo]
        have hd : 9 + 6 * f + 4 ≤ 5 ∨ 5 + 4 ≤ 9 + 6 * f := by omega
        obtain ⟨C, hC⟩ : ∃ C, C = moveR (moveR w (9 + 6 * f) 5 3 (nI o)) (9 + 6 * f) 5 b (nI x) := ⟨_, rfl⟩
        obtain ⟨D, hD⟩ : ∃ D, D = skR v (9 + 6 * f) b (nI o) (nI x) := ⟨_, rfl⟩
        rw [← hC, ← hD]
        have d3 : D (9 + 6 * f + 3) = 0 := by rw [hD]; unfold skR; simp (disch := omega) only [pk_ue, pk_un]
        have db : D (9 + 6 * f + b) = nI y - nI x := by rw [hD]; unfold skR; rw [← ey]; simp (disch := omega) only [pk_ue, pk_un]
        have d8 : D 8 = v 8 + nI o := by rw [hD]; unfold skR; simp (disch := omega) only [pk_ue, pk_un]
        have d5 : D (5 + b) = v (5 + b) + nI x := by rw [hD]; exact pk_us
        have dn : ∀ j, j ≠ 9 + 6 * f + 3 → j ≠ 9 + 6 * f + b → j ≠ 8 → j ≠ 5 + b → D j = v j := fun j z1 z2 z3 z4 => by rw [hD]; unfold skR; simp (disch := omega) only [pk_un]
        have c3 : C (9 + 6 * f + 3) = 0 := by
          rw [hC, moveR_so hd (by omega) (by decide) (by omega), moveR_ss hd (by decide), hw4 3 (by decide), eo, Int32.sub_self]
        have cb : C (9 + 6 * f + b) = nI y - nI x := by
          rw [hC, moveR_ss hd (by omega), moveR_so hd (by decide) (by omega) (by omega), hw4 b (by omega), ey]
        have c8 : C 8 = v 8 + nI o := by
          rw [hC]
          have z1 : moveR (moveR w (9 + 6 * f) 5 3 (nI o)) (9 + 6 * f) 5 b (nI x) (5 + 3) = moveR w (9 + 6 * f) 5 3 (nI o) (5 + 3) := moveR_do hd (by omega) (by decide) (by omega)
          have z2 : moveR w (9 + 6 * f) 5 3 (nI o) (5 + 3) = w (5 + 3) + nI o := moveR_ds hd (by decide)
          exact z1.trans (z2.trans (by rw [hR.1 _ (by decide)]))
        have c5 : C (5 + b) = v (5 + b) + nI x := by
          rw [hC, moveR_ds hd (by omega), moveR_do hd (by decide) (by omega) (by omega), hR.1 _ (by omega)]
        have cn : ∀ j, j ≠ 9 + 6 * f + 3 → j ≠ 9 + 6 * f + b → j ≠ 8 → j ≠ 5 + b → C j = w j := fun j z1 z2 z3 z4 => by
          rw [hC]
          unfold moveR
          simp (disch := omega) only [pk_un]
        have mD : MixS D (9 + 6 * f) (M - o - x) := by
          have m1 := (mv.set (by omega) (by decide) eo (by omega) 0).2
          have e2 : upd v (9 + 6 * f + 3) (nI 0) (9 + 6 * f + b) = nI y := by rw [pk_un (by omega), ey]
          obtain ⟨l2, m2⟩ := m1.set (by omega) (by omega) e2 (by omega) (y - x)
          refine (show M - o + 0 - y + (y - x) = M - o - x by omega) ▸ m2.congr fun j hj => ?_
          by_cases z : j = b
          · rw [z, db, pk_us, pk_sub hx]
          · rw [pk_un (by omega)]
            by_cases z2 : j = 3
            · rw [z2, d3, pk_us]
              rfl
            · rw [pk_un (by omega), dn _ (by omega) (by omega) (by omega) (by omega)]
        refine OpOk.yes (t := o + x) (nI_add o x) (by omega) rfl (hR.low (fun j hj => cn j (by omega) (by omega) (by omega) (by omega)) (fun j hj => dn j (by omega) (by omega) (by omega) (by omega)) fun j hj => ?_) (hF.low (fun j hj => dn j (by omega) (by omega) (by omega) (by omega)) (fur_one a1 mD (by omega) fun j z1 z2 z3 => dn j (by omega) (by omega) (by omega) (by omega)) ?_ ?_ ?_ ?_ ?_)
        · by_cases z1 : j = 9 + 6 * f + 3
          · rw [z1, c3, d3]
          · by_cases z2 : j = 9 + 6 * f + b
            · rw [z2, cb, db]
            · by_cases z3 : j = 8
              · rw [z3, c8, d8]
              · by_cases z4 : j = 5 + b
                · rw [z4, c5, d5]
                · rw [cn j z1 z2 z3 z4, dn j z1 z2 z3 z4, hR.1 j (by omega)]
        · exact fun g hg => (a2 g hg).imp fun s hs => ⟨hs.1, hs.2.congr fun j hj => dn _ (by omega) (by omega) (by omega) (by omega)⟩
        · exact fun g hg => (a5 g hg).imp fun s hs => ⟨hs.1, hs.2.1, (dn _ (by omega) (by omega) (by omega) (by omega)).trans hs.2.2⟩
        · exact fun g hg => (a6 g hg).imp fun s hs => ⟨hs.1, (dn _ (by omega) (by omega) (by omega) (by omega)).trans hs.2⟩
        · exact fun g hg => (a7 g hg).imp fun s hs => ⟨hs.1, hs.2.1, (dn _ (by omega) (by omega) (by omega) (by omega)).trans hs.2.2⟩
        · intro j hj
          have s1 := stk0_two (D := D) (v := v) (j := j) (l := 0) hf (by decide) (fun g hg q => dn _ (by omega) (by omega) (by omega) (by omega)) (fun g hg q => dn _ (by omega) (by omega) (by omega) (by omega))
          have s2 : D (27 + 5 * 0 + j) = v (27 + 5 * 0 + j) := dn _ (by omega) (by omega) (by omega) (by omega)
          have s3 : D (1 + j) = v (1 + j) := dn _ (by omega) (by omega) (by omega) (by omega)
          rw [s1, s2, s3]
          by_cases z1 : j = 3
          · subst z1
            rw [d3, eo, show D (5 + 3) = v (5 + 3) + nI o from d8]
            grind
          · by_cases z2 : j = b
            · rw [z2, db, ey, d5]
              grind
            · rw [dn (9 + 6 * f + j) (by omega) (by omega) (by omega) (by omega), dn (5 + j) (by omega) (by omega) (by omega) (by omega)]
              grind
theorem op_tap {w v w21 : Nat → Int32} (hR : Rel w v) (hF : FInv ee v) (hp : PtsOk w21) (w15 w20 : Nat → Int32) (a b c : Int32) : OpOk ee ["java/lang/IndexOutOfBoundsException", "java/lang/IllegalArgumentException", "java/util/NoSuchElementException", "java/lang/IllegalStateException", "java/lang/UnsupportedOperationException"] (drawR w a b c) w w15 (oM_taps w15 v w20 w21 a b c).1 (oM_taps w15 v w20 w21 a b c).2.1 v (oM_taps w15 v w20 w21 a b c).2.2.1 := by
  unfold drawR oM_taps oM_fail
  rcases three_cases a with ⟨h1, h2⟩ | ⟨f, hf, rfl, h1, h2⟩
  · rw [if_neg h1, if_pos h2]
    exact OpOk.no (i := 0) rfl (by decide) (by decide) (by decide)
  · rw [if_pos h1, if_neg h2]
    rcases three_cases b with ⟨h3, h4⟩ | ⟨g, hg, rfl, h3, h4⟩
    · rw [if_neg h3, if_pos h4]
      exact OpOk.no (i := 0) rfl (by decide) (by decide) (by decide)
    · rw [if_pos h3, if_neg h4]
      have rc : (c < 1 ∧ oM_isIn c 1 40 = 0) ∨ (¬ c < 1 ∧ ¬ c ≤ 40 ∧ oM_isIn c 1 40 = 0) ∨ ∃ k, 1 ≤ k ∧ k ≤ 40 ∧ c = nI k ∧ ¬ c < 1 ∧ c ≤ 40 ∧ ¬ oM_isIn c 1 40 = 0 := rng_cases (a := 1) (b := 40) (by decide) (by decide)
      rcases rc with ⟨q1, q2⟩ | ⟨q1, q2, q3⟩ | ⟨n, n1, n2, rfl, q1, q2, q3⟩
      · rw [if_pos q1, if_pos q2]
        exact OpOk.no (i := 1) rfl (by decide) (by decide) (by decide)
      · rw [if_neg q1, if_neg q2, if_pos q3]
        exact OpOk.no (i := 1) rfl (by decide) (by decide) (by decide)
      · rw [if_neg q1, if_pos q2, if_neg q3, nI_clamp (n := f) (by omega), nI_clamp (n := g) (by omega)]
        have hw : ∀ k, k < 5 → w (9 + 6 * f + k) = v (9 + 6 * f + k) := fun k hk => hR.1 _ (by omega)
        obtain ⟨a1, a2, -, -, a5, a6, a7⟩ := hF.1
        obtain ⟨M, hM, mv⟩ := a1 f hf
        obtain ⟨M2, hM2, mv2⟩ := a2 g hg
        obtain ⟨T, T1, T2, eT⟩ := a5 f hf
        obtain ⟨S, S1, S2, eS⟩ := a7 g hg
        have mw : MixS w (9 + 6 * f) M := mv.congr fun j hj => hR.1 _ (by omega)
        have mw2 : MixS w (27 + 5 * g) M2 := mv2.congr fun j hj => hR.1 _ (by omega)
        have eT' : v (9 + 6 * f + 4) = nI T := by rw [← eT]; congr 1; omega
        have eS' : v (27 + 5 * g + 4) = nI S := by rw [← eS]; congr 1; omega
        rw [mw.sum, mv.mass, mw2.sum, mv2.mass, liq_eq hp hw, hw 4 (by decide), eT']
        by_cases k1 : nI n ≤ nI M
        · rw [if_pos k1, if_pos k1]
          have hn : n ≤ M := (nI_leI (by omega) (by omega)).mp k1
          by_cases k2 : oM_isFluid v w21 (9 + 6 * f) = 0
          · rw [if_pos k2, if_pos k2]
            exact OpOk.no (i := 3) rfl (by decide) (by decide) (by decide)
          · rw [if_neg k2, if_neg k2]
            by_cases k3 : nI M2 + nI n ≤ 40
            · rw [if_pos k3, if_pos k3]
              have hs2 : M2 + n ≤ 40 := (nI_leI (b := 40) (by omega) (by decide)).mp (by rw [← nI_add]; exact k3)
              have bl : blendR w (27 + 5 * g) 0 (nI n) (nI T) = upd w (27 + 5 * g + 4) (nI (tmp S (M2 + 0) n T)) := blend_ok (L := 0) mw2 ((hR.1 _ (by omega)).trans eS') S1 S2 T1 T2 (by omega) (by omega)
              rw [bl, show M2 + 0 = M2 from rfl]
              obtain ⟨V, hV⟩ : ∃ V, V = oM_takes v w20 (9 + 6 * f) (nI n) := ⟨_, rfl⟩
              rw [← hV]
              have tk := takes_ok (p := w20) mv (by omega) (by omega) hn
              rw [← hV] at tk
              obtain ⟨k5, k6, k7⟩ := tk
              have ks : ∀ k, k < 4 → V.1 (9 + 6 * f + k) + V.2 k = v (9 + 6 * f + k) := fun k hk => by rw [hV]; exact takes_sum v w20 _ _ hk
              rw [k7 _ (by omega), eT']
              have fo := fills_ok (u := V.1) (p := V.2) (f := g) (M := M2) (T := S) (n := n) (s := T) (mv2.congr fun j hj => k7 _ (by omega)) ((k7 _ (by omega)).trans eS') k6 S1 S2 T1 T2 (by omega) (by omega)
              have tb := tmp_bd (T := S) (M := M2) (n := n) (s := T) S1 S2 T1 T2 (by omega)
              obtain ⟨t, ht⟩ : ∃ t, t = tmp S M2 n T := ⟨_, rfl⟩
              obtain ⟨D, hD⟩ : ∃ D, D = oM_fills V.1 V.2 g (nI T) := ⟨_, rfl⟩
              rw [← hD] at fo ⊢
              rw [← ht] at fo tb ⊢
              obtain ⟨f1, f2, f3, f4, f5⟩ := fo
              have hd : 9 + 6 * f + 4 ≤ 27 + 5 * g ∨ 27 + 5 * g + 4 ≤ 9 + 6 * f := by omega
              have mp := mp_takes (w := upd w (27 + 5 * g + 4) (nI t)) (v := v) (p := w20) (x := nI n) hd (fun k hk => (pk_un (by omega)).trans (hR.1 _ (by omega))) (by
                rw [show sumW (upd w (27 + 5 * g + 4) (nI t)) (9 + 6 * f) = nI M from (mw.congr fun j hj => pk_un (by omega)).sum]
                exact nI_lt (a := 0) (by omega) (by omega))
              rw [← hV] at mp
              obtain ⟨C, hC⟩ : ∃ C, C = movePartR (upd w (27 + 5 * g + 4) (nI t)) (9 + 6 * f) (27 + 5 * g) (nI n) := ⟨_, rfl⟩
              rw [← hC] at mp
              obtain ⟨p1, p2, p3⟩ := mp
              show OpOk ee _ (movePartR (upd w (27 + 5 * g + 4) (nI t)) (9 + 6 * f) (27 + 5 * g) (nI n) (27 + 5 * g + 4), movePartR (upd w (27 + 5 * g + 4) (nI t)) (9 + 6 * f) (27 + 5 * g) (nI n)) w w15 D.1 w15 v D.2
              rw [← hC]
              have c4 : C (27 + 5 * g + 4) = nI t := by rw [p3 _ (by omega) (by omega), pk_us]
              have cn : ∀ j, (j < 9 + 6 * f ∨ 9 + 6 * f + 4 ≤ j) → (j < 27 + 5 * g ∨ 27 + 5 * g + 5 ≤ j) → C j = w j := fun j z1 z2 => by rw [p3 j z1 (by omega), pk_un (by omega)]
              have dn : ∀ j, (j < 9 + 6 * f ∨ 9 + 6 * f + 4 ≤ j) → (j < 27 + 5 * g ∨ 27 + 5 * g + 5 ≤ j) → D.2 j = v j := fun j z1 z2 => by rw [f4 j z2, k7 j z1]
              have ds : ∀ k, k < 4 → D.2 (9 + 6 * f + k) = V.1 (9 + 6 * f + k) := fun k hk => f4 _ (by omega)
              have dl : ∀ k, k < 4 → D.2 (27 + 5 * g + k) = v (27 + 5 * g + k) + V.2 k := fun k hk => by rw [f3 k hk, k7 _ (by omega)]
              refine OpOk.yes (t := t) c4 (by omega) (f1.trans c4.symm) (hR.low (fun j hj => cn j (by omega) (by omega)) (fun j hj => dn j (by omega) (by omega)) fun j hj => ?_) (hF.low (fun j hj => dn j (by omega) (by omega)) (fur_one a1 (k5.congr fun j hj => ds j hj) (by omega) fun j z1 z2 z3 => dn j (by omega) (by omega)) (lad_one a2 f5 hs2 fun j z1 z2 z3 => dn j (by omega) (by omega)) ?_ ?_ ?_ ?_)
              · by_cases z1 : j < 9 + 6 * f ∨ 9 + 6 * f + 4 ≤ j
                · by_cases z2 : j < 27 + 5 * g ∨ 27 + 5 * g + 5 ≤ j
                  · rw [cn j z1 z2, dn j z1 z2, hR.1 j (by omega)]
                  · by_cases z3 : j = 27 + 5 * g + 4
                    · rw [z3, c4, f2]
                    · obtain ⟨i, rfl⟩ : ∃ i, j = 27 + 5 * g + i := ⟨j - (27 + 5 * g), by omega⟩
                      rw [p2 i (by omega), dl i (by omega), pk_un (by omega), hR.1 _ (by omega)]
                · obtain ⟨i, rfl⟩ : ∃ i, j = 9 + 6 * f + i := ⟨j - (9 + 6 * f), by omega⟩
                  rw [p1 i (by omega), ds i (by omega)]
              · exact fun h hh => (a5 h hh).imp fun s hs => ⟨hs.1, hs.2.1, (dn _ (by omega) (by omega)).trans hs.2.2⟩
              · exact fun h hh => (a6 h hh).imp fun s hs => ⟨hs.1, (dn _ (by omega) (by omega)).trans hs.2⟩
              · intro h hh
                by_cases q : h = g
                · subst q
                  exact ⟨t, tb.1, tb.2, by rw [show 31 + 5 * h = 27 + 5 * h + 4 by omega]; exact f2⟩
                · exact (a7 h hh).imp fun s hs => ⟨hs.1, hs.2.1, (dn _ (by omega) (by omega)).trans hs.2.2⟩
              · intro j hj
                have s1 := stk0_two (D := D.2) (v := v) (j := j) hf hg (fun g hg q => dn _ (by omega) (by omega)) (fun g hg q => dn _ (by omega) (by omega))
                have s2 := ks j hj
                rw [s1, ds j hj, dl j hj, dn (1 + j) (by omega) (by omega), dn (5 + j) (by omega) (by omega)]
                grind
            · rw [if_neg k3, if_neg k3]
              exact OpOk.no (i := 4) rfl (by decide) (by decide) (by decide)
        · rw [if_neg k1, if_neg k1]
          exact OpOk.no (i := 2) rfl (by decide) (by decide) (by decide)
end OPV
