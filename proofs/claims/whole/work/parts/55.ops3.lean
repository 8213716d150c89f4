/-! Pouring back, moulds, pouring, breaking out. -/
section OPV
variable {ee : Nat → Int32}
theorem op_back {w v : Nat → Int32} (hR : Rel w v) (hF : FInv ee v) (w15 w20 : Nat → Int32) (a b : Int32) : OpOk ee ["java/lang/IndexOutOfBoundsException", "java/util/NoSuchElementException", "java/lang/UnsupportedOperationException"] (giveBackR w a b) w w15 (oM_backs w15 v w20 a b).1 (oM_backs w15 v w20 a b).2.1 v (oM_backs w15 v w20 a b).2.2.1 := by
  unfold giveBackR oM_backs oM_fail
  rcases three_cases a with ⟨h1, h2⟩ | ⟨g, hg, rfl, h1, h2⟩
  · rw [if_neg h1, if_pos h2]
    exact OpOk.no (i := 0) rfl (by decide) (by decide) (by decide)
  · rw [if_pos h1, if_neg h2]
    rcases three_cases b with ⟨h3, h4⟩ | ⟨f, hf, rfl, h3, h4⟩
    · rw [if_neg h3, if_pos h4]
      exact OpOk.no (i := 0) rfl (by decide) (by decide) (by decide)
    · rw [if_pos h3, if_neg h4, nI_clamp (n := f) (by omega), nI_clamp (n := g) (by omega)]
      obtain ⟨a1, a2, -, -, a5, a6, a7⟩ := hF.1
      obtain ⟨M, hM, mv⟩ := a1 f hf
      obtain ⟨n, hn, mv2⟩ := a2 g hg
      obtain ⟨T, T1, T2, eT⟩ := a5 f hf
      obtain ⟨S, S1, S2, eS⟩ := a7 g hg
      have mw : MixS w (9 + 6 * f) M := mv.congr fun j hj => hR.1 _ (by omega)
      have mw2 : MixS w (27 + 5 * g) n := mv2.congr fun j hj => hR.1 _ (by omega)
      have eT' : v (9 + 6 * f + 4) = nI T := by rw [← eT]; congr 1; omega
      have eS' : v (27 + 5 * g + 4) = nI S := by rw [← eS]; congr 1; omega
      rw [mw.sum, mv.mass, mw2.sum, mv2.mass, hR.1 (27 + 5 * g + 4) (by omega), eS']
      by_cases k1 : nI n = 0
      · rw [if_pos k1, if_pos k1]
        exact OpOk.no (i := 1) rfl (by decide) (by decide) (by decide)
      · rw [if_neg k1, if_neg k1]
        have n0 : 0 < n := by
          rcases Nat.eq_zero_or_pos n with rfl | h
          · exact absurd rfl k1
          · exact h
        by_cases k3 : nI M + nI n ≤ 100
        · rw [if_pos k3, if_pos k3]
          have hs2 : M + n ≤ 100 := (nI_leI (b := 100) (by omega) (by decide)).mp (by rw [← nI_add]; exact k3)
          have bl : blendR w (9 + 6 * f) 10 (nI n) (nI S) = upd w (9 + 6 * f + 4) (nI (tmp T (M + 10) n S)) := blend_ok (L := 10) mw ((hR.1 _ (by omega)).trans eT') T1 T2 S1 S2 (by omega) (by omega)
          rw [bl]
          obtain ⟨V, hV⟩ : ∃ V, V = oM_takes v w20 (27 + 5 * g) (nI n) := ⟨_, rfl⟩
          rw [← hV]
          have tk := takes_ok (p := w20) mv2 (by omega) n0 (Nat.le_refl n)
          have ta : ∀ k, k < 4 → V.1 (27 + 5 * g + k) = 0 ∧ V.2 k = v (27 + 5 * g + k) := fun k hk => by rw [hV]; exact takes_all mv2 n0 (by omega) hk
          rw [← hV] at tk
          obtain ⟨k5, k6, k7⟩ := tk
          obtain ⟨U, hU⟩ : ∃ U, U = oM_cools V.1 g := ⟨_, rfl⟩
          rw [← hU]
          have u4 : U = upd V.1 (27 + 5 * g + 4) 20 := by
            rw [hU]
            unfold oM_cools
            rw [k5.mass, Nat.sub_self, if_pos (show nI 0 = 0 from rfl)]
          have uo : ∀ j, (j < 27 + 5 * g ∨ 27 + 5 * g + 5 ≤ j) → U j = v j := fun j hj => by rw [u4, pk_un (by omega), k7 j (by omega)]
          have uz : ∀ k, k < 4 → U (27 + 5 * g + k) = 0 := fun k hk => by rw [u4, pk_un (by omega), (ta k hk).1]
          have fo := feeds_ok (u := U) (p := V.2) (f := f) (M := M) (T := T) (n := n) (s := S) (mv.congr fun j hj => uo _ (by omega)) ((uo _ (by omega)).trans eT') k6 T1 T2 S1 S2 (by omega)
          have tb := tmp_bd (T := T) (M := M + 10) (n := n) (s := S) T1 T2 S1 S2 (by omega)
          obtain ⟨t, ht⟩ : ∃ t, t = tmp T (M + 10) n S := ⟨_, rfl⟩
          obtain ⟨D, hD⟩ : ∃ D, D = oM_feeds U V.2 f (nI S) := ⟨_, rfl⟩
          rw [← hD] at fo ⊢
          rw [← ht] at fo tb ⊢
          obtain ⟨f1, f2, f3, f4, f5⟩ := fo
          obtain ⟨C3, hC3⟩ : ∃ C3, C3 = clrR (addAllR (upd w (9 + 6 * f + 4) (nI t)) (9 + 6 * f) (27 + 5 * g)) (27 + 5 * g) := ⟨_, rfl⟩
          have z3 : ∀ k, k < 4 → C3 (27 + 5 * g + k) = 0 := fun k hk => by
            rw [hC3]
            unfold clrR
            rcases lt4 hk with rfl | rfl | rfl | rfl <;> simp (disch := omega) only [pk_us, pk_un]
          have a3 : ∀ k, k < 4 → C3 (9 + 6 * f + k) = w (9 + 6 * f + k) + w (27 + 5 * g + k) := fun k hk => by
            rw [hC3, kp_clrR (by omega)]
            unfold addAllR addR
            rcases lt4 hk with rfl | rfl | rfl | rfl <;> simp (disch := omega) only [pk_us, pk_un]
          have o3 : ∀ j, (j < 9 + 6 * f ∨ 9 + 6 * f + 5 ≤ j) → (j < 27 + 5 * g ∨ 27 + 5 * g + 4 ≤ j) → C3 j = w j := fun j h1 h2 => by rw [hC3, kp_clrR h2, kp_addAllR (by omega), pk_un (by omega)]
          have t3 : C3 (9 + 6 * f + 4) = nI t := by rw [hC3, kp_clrR (by omega), kp_addAllR (by omega), pk_us]
          obtain ⟨C, hC⟩ : ∃ C, C = upd C3 (27 + 5 * g + 4) 20 := ⟨_, rfl⟩
          have eC : chillR C3 (27 + 5 * g) = C := by
            unfold chillR
            rw [show sumW C3 (27 + 5 * g) = 0 from by unfold sumW; rw [z3 0 (by decide), z3 1 (by decide), z3 2 (by decide), z3 3 (by decide)]; rfl, if_pos rfl, hC]
          show OpOk ee _ (chillR (clrR (addAllR (upd w (9 + 6 * f + 4) (nI t)) (9 + 6 * f) (27 + 5 * g)) (27 + 5 * g)) (27 + 5 * g) (9 + 6 * f + 4), chillR (clrR (addAllR (upd w (9 + 6 * f + 4) (nI t)) (9 + 6 * f) (27 + 5 * g)) (27 + 5 * g)) (27 + 5 * g)) w w15 D.1 w15 v D.2
          rw [← hC3, eC]
          have c4 : C (9 + 6 * f + 4) = nI t := by rw [hC, pk_un (by omega), t3]
          have cl4 : C (27 + 5 * g + 4) = 20 := by rw [hC]; exact pk_us
          have dl4 : D.2 (27 + 5 * g + 4) = 20 := by rw [f4 _ (by omega), u4]; exact pk_us
          have cn : ∀ j, (j < 9 + 6 * f ∨ 9 + 6 * f + 5 ≤ j) → (j < 27 + 5 * g ∨ 27 + 5 * g + 5 ≤ j) → C j = w j := fun j z1 z2 => by rw [hC, pk_un (by omega), o3 j z1 (by omega)]
          have dn : ∀ j, (j < 9 + 6 * f ∨ 9 + 6 * f + 5 ≤ j) → (j < 27 + 5 * g ∨ 27 + 5 * g + 5 ≤ j) → D.2 j = v j := fun j z1 z2 => by rw [f4 j z1, uo j z2]
          have cf : ∀ k, k < 4 → C (9 + 6 * f + k) = w (9 + 6 * f + k) + w (27 + 5 * g + k) := fun k hk => by rw [hC, pk_un (by omega), a3 k hk]
          have df : ∀ k, k < 4 → D.2 (9 + 6 * f + k) = v (9 + 6 * f + k) + v (27 + 5 * g + k) := fun k hk => by rw [f3 k hk, uo _ (by omega), (ta k hk).2]
          have cz : ∀ k, k < 4 → C (27 + 5 * g + k) = 0 := fun k hk => by rw [hC, pk_un (by omega), z3 k hk]
          have dz : ∀ k, k < 4 → D.2 (27 + 5 * g + k) = 0 := fun k hk => by rw [f4 _ (by omega), uz k hk]
          refine OpOk.yes (t := t) c4 (by omega) (f1.trans c4.symm) (hR.low (fun j hj => cn j (by omega) (by omega)) (fun j hj => dn j (by omega) (by omega)) fun j hj => ?_) (hF.low (fun j hj => dn j (by omega) (by omega)) (fur_one a1 f5 hs2 fun j z1 z2 z3 => dn j z3 (by omega)) (lad_one (f := g) (s := 0) a2 ⟨0, 0, 0, 0, dz 0 (by decide), dz 1 (by decide), dz 2 (by decide), dz 3 (by decide), rfl⟩ (by decide) fun j z1 z2 z3 => dn j (by omega) z3) ?_ ?_ ?_ ?_)
          · by_cases z1 : j < 9 + 6 * f ∨ 9 + 6 * f + 5 ≤ j
            · by_cases z2 : j < 27 + 5 * g ∨ 27 + 5 * g + 5 ≤ j
              · rw [cn j z1 z2, dn j z1 z2, hR.1 j (by omega)]
              · by_cases z3 : j = 27 + 5 * g + 4
                · rw [z3, cl4, dl4]
                · obtain ⟨i, rfl⟩ : ∃ i, j = 27 + 5 * g + i := ⟨j - (27 + 5 * g), by omega⟩
                  rw [cz i (by omega), dz i (by omega)]
            · by_cases z3 : j = 9 + 6 * f + 4
              · rw [z3, c4, f2]
              · obtain ⟨i, rfl⟩ : ∃ i, j = 9 + 6 * f + i := ⟨j - (9 + 6 * f), by omega⟩
                rw [cf i (by omega), df i (by omega), hR.1 _ (by omega), hR.1 _ (by omega)]
          · intro h hh
            by_cases q : h = f
            · subst q
              exact ⟨t, tb.1, tb.2, by rw [show 13 + 6 * h = 9 + 6 * h + 4 by omega]; exact f2⟩
            · exact (a5 h hh).imp fun s hs => ⟨hs.1, hs.2.1, (dn _ (by omega) (by omega)).trans hs.2.2⟩
          · exact fun h hh => (a6 h hh).imp fun s hs => ⟨hs.1, (dn _ (by omega) (by omega)).trans hs.2⟩
          · intro h hh
            by_cases q : h = g
            · subst q
              exact ⟨20, by decide, by decide, by rw [show 31 + 5 * h = 27 + 5 * h + 4 by omega]; exact dl4⟩
            · exact (a7 h hh).imp fun s hs => ⟨hs.1, hs.2.1, (dn _ (by omega) (by omega)).trans hs.2.2⟩
          · intro j hj
            have s1 := stk0_two (D := D.2) (v := v) (j := j) hf hg (fun g hg q => dn _ (by omega) (by omega)) (fun g hg q => dn _ (by omega) (by omega))
            rw [s1, df j hj, dz j hj, dn (1 + j) (by omega) (by omega), dn (5 + j) (by omega) (by omega)]
            grind
        · rw [if_neg k3, if_neg k3]
          exact OpOk.no (i := 2) rfl (by decide) (by decide) (by decide)
theorem stk0_same {D v : Nat → Int32} {j : Nat} (hj : j < 4) (h : ∀ j, j < 42 → D j = v j) : stk0 D j = stk0 v j := by
  unfold stk0
  rw [h _ (by omega), h _ (by omega), h _ (by omega), h _ (by omega), h _ (by omega), h _ (by omega)]
theorem kmv_of {v : Nat → Int32} {k : Nat} (h : v 42 = nI k) (hk : k ≤ 12) : kmv v = k := by
  unfold kmv
  rw [h, nI_clamp (by omega)]
theorem kiv_of {v : Nat → Int32} {k : Nat} (h : v 43 = nI k) (hk : k ≤ 12) : kiv v = k := by
  unfold kiv
  rw [h, nI_clamp (by omega)]
/-- the parts of the invariant below place 42 -/
theorem MInv.high {v D : Nat → Int32} (h : MInv v) (hd : ∀ j, j < 42 → D j = v j) (h1 : ∃ km, km ≤ 6 ∧ D 42 = nI km ∧ ∀ m, m < km → (∃ x, 1 ≤ x ∧ x ≤ 40 ∧ D (48 + 6 * m) = nI x) ∧ ∃ s, s ≤ 40 ∧ MixS D (44 + 6 * m) s ∧ D (49 + 6 * m) = if s = 0 then 0 else 1)
    (h2 : ∃ ki, ki ≤ 12 ∧ D 43 = nI ki ∧ ∀ i, i < ki → ∃ s, 1 ≤ s ∧ s ≤ 40 ∧ MixS D (80 + 4 * i) s) : MInv D := by
  obtain ⟨a1, a2, -, -, a5, a6, a7⟩ := h
  exact ⟨fun g hg => (a1 g hg).imp fun s hs => ⟨hs.1, hs.2.congr fun j hj => hd _ (by omega)⟩, fun g hg => (a2 g hg).imp fun s hs => ⟨hs.1, hs.2.congr fun j hj => hd _ (by omega)⟩, h1, h2,
    fun g hg => (a5 g hg).imp fun s hs => ⟨hs.1, hs.2.1, (hd _ (by omega)).trans hs.2.2⟩, fun g hg => (a6 g hg).imp fun s hs => ⟨hs.1, (hd _ (by omega)).trans hs.2⟩, fun g hg => (a7 g hg).imp fun s hs => ⟨hs.1, hs.2.1, (hd _ (by omega)).trans hs.2.2⟩⟩
theorem op_mould {w v : Nat → Int32} (hR : Rel w v) (hF : FInv ee v) (w15 : Nat → Int32) (a : Int32) : OpOk ee ["java/lang/IllegalArgumentException", "java/lang/IllegalStateException"] (placeMouldR w a) w w15 (oM_addsMould w15 v a).1 (oM_addsMould w15 v a).2.1 v (oM_addsMould w15 v a).2.2 := by
  unfold placeMouldR oM_addsMould oM_fail
  have rc : (a < 1 ∧ oM_isIn a 1 40 = 0) ∨ (¬ a < 1 ∧ ¬ a ≤ 40 ∧ oM_isIn a 1 40 = 0) ∨ ∃ k, 1 ≤ k ∧ k ≤ 40 ∧ a = nI k ∧ ¬ a < 1 ∧ a ≤ 40 ∧ ¬ oM_isIn a 1 40 = 0 := rng_cases (a := 1) (b := 40) (by decide) (by decide)
  rcases rc with ⟨q1, q2⟩ | ⟨q1, q2, q3⟩ | ⟨n, n1, n2, rfl, q1, q2, q3⟩
  · rw [if_pos q1, if_pos q2]
    exact OpOk.no (i := 0) rfl (by decide) (by decide) (by decide)
  · rw [if_neg q1, if_neg q2, if_pos q3]
    exact OpOk.no (i := 0) rfl (by decide) (by decide) (by decide)
  · rw [if_neg q1, if_pos q2, if_neg q3]
    have hF1 := hF.1
    obtain ⟨-, -, ⟨km, k1, k2, k3⟩, ⟨ki, i1, i2, i3⟩, -, -, -⟩ := hF1
    rw [hR.1 42 (by decide), k2, nI_clamp (n := km) (by omega)]
    by_cases hk : km = 6
    · subst hk
      rw [if_neg (show ¬ nI 6 < 6 from by decide), if_pos (show nI 6 = 6 from rfl)]
      exact OpOk.no (i := 1) rfl (by decide) (by decide) (by decide)
    · rw [if_pos (show nI km < 6 from nI_lt (b := 6) (by omega) (by decide)), if_neg (show ¬ nI km = 6 from fun q => hk ((nI_eq (b := 6) (by omega) (by decide)).mp q))]
      obtain ⟨D, hD⟩ : ∃ D, D = upd (upd (upd (upd (upd (upd (upd v (44 + 6 * km) 0) (44 + 6 * km + 1) 0) (44 + 6 * km + 2) 0) (44 + 6 * km + 3) 0) (44 + 6 * km + 4) (nI n)) (44 + 6 * km + 5) 0) 42 (nI (km + 1)) := ⟨_, rfl⟩
      rw [← hD]
      obtain ⟨C, hC⟩ : ∃ C, C = upd (clrR (upd w (48 + 6 * km) (nI n)) (44 + 6 * km)) 42 (nI km + 1) := ⟨_, rfl⟩
      show OpOk ee _ (nI km, upd (clrR (upd w (48 + 6 * km) (nI n)) (44 + 6 * km)) 42 (nI km + 1)) w w15 (nI km) w15 v D
      rw [← hC]
      have d42 : D 42 = nI (km + 1) := by rw [hD]; exact pk_us
      have dn : ∀ j, j ≠ 42 → j < 44 + 6 * km ∨ 44 + 6 * km + 6 ≤ j → D j = v j := fun j h1 h2 => by rw [hD]; simp (disch := omega) only [pk_un]
      have dz : ∀ k, k < 4 → D (44 + 6 * km + k) = 0 := fun k hk => by rw [hD]; rcases lt4 hk with rfl | rfl | rfl | rfl <;> simp (disch := omega) only [pk_ue, pk_un]
      have d4 : D (48 + 6 * km) = nI n := by rw [hD]; simp (disch := omega) only [pk_ue, pk_un]
      have d5 : D (49 + 6 * km) = 0 := by rw [hD]; simp (disch := omega) only [pk_ue, pk_un]
      have c42 : C 42 = nI (km + 1) := by rw [hC, nI_1]; exact pk_us
      have cn : ∀ j, j ≠ 42 → j < 44 + 6 * km ∨ 44 + 6 * km + 5 ≤ j → C j = w j := fun j h1 h2 => by rw [hC, pk_un h1, kp_clrR (by omega), pk_un (by omega)]
      have cz : ∀ k, k < 4 → C (44 + 6 * km + k) = 0 := fun k hk => by rw [hC]; unfold clrR; rcases lt4 hk with rfl | rfl | rfl | rfl <;> simp (disch := omega) only [pk_ue, pk_un]
      have c4 : C (48 + 6 * km) = nI n := by rw [hC, pk_un (by omega), kp_clrR (by omega), pk_us]
      have kD : kmv D = km + 1 := kmv_of d42 (by omega)
      have kV : kmv v = km := kmv_of k2 (by omega)
      have jD : kiv D = kiv v := congrArg Int32.toNatClampNeg (dn 43 (by decide) (by omega))
      have jV : kiv v = ki := kiv_of i2 i1
      refine OpOk.yes (t := km) rfl (by omega) rfl ⟨fun j hj => ?_, fun m k hm hk => ?_, fun i k hi hk => ?_⟩ ⟨hF.1.high (fun j hj => dn j (by omega) (by omega)) ⟨km + 1, by omega, d42, fun m hm => ?_⟩ ⟨ki, i1, (dn 43 (by decide) (by omega)).trans i2, fun i hi => (i3 i hi).imp fun s hs => ⟨hs.1, hs.2.1, hs.2.2.congr fun j hj => dn _ (by omega) (by omega)⟩⟩, fun j hj => ?_⟩
      · by_cases z : j = 42
        · rw [z, c42, d42]
        · rw [cn j z (by omega), dn j z (by omega), hR.1 j hj]
      · rw [kD] at hm
        by_cases z : m = km
        · subst z
          by_cases z2 : k = 4
          · subst z2
            rw [show 44 + 6 * m + 4 = 48 + 6 * m by omega, c4, d4]
          · rw [cz k (by omega), dz k (by omega)]
        · rw [cn _ (by omega) (by omega), dn _ (by omega) (by omega), hR.2.1 m k (by omega) hk]
      · rw [jD] at hi
        rw [cn _ (by omega) (by omega), dn _ (by omega) (by omega), hR.2.2 i k hi hk]
      · by_cases z : m = km
        · subst z
          exact ⟨⟨n, n1, n2, d4⟩, 0, by decide, ⟨0, 0, 0, 0, dz 0 (by decide), dz 1 (by decide), dz 2 (by decide), dz 3 (by decide), rfl⟩, d5⟩
        · obtain ⟨⟨x, x1, x2, x3⟩, s, s1, s2, s3⟩ := k3 m (by omega)
          exact ⟨⟨x, x1, x2, (dn _ (by omega) (by omega)).trans x3⟩, s, s1, s2.congr fun j hj => dn _ (by omega) (by omega), (dn _ (by omega) (by omega)).trans s3⟩
      · have h := hF.2 j hj
        rw [stk_split] at h ⊢
        rw [kD, jD, accL_congr (w := D) (v := v) _ _ fun k _ => dn _ (by omega) (by omega), stk0_same hj fun j hj => dn j (by omega) (by omega), dn (1 + j) (by omega) (by omega), dn (5 + j) (by omega) (by omega)]
        rw [kV] at h
        show accL v 80 4 j (kiv v) 0 + (accL D 44 6 j km 0 + D (44 + 6 * km + j) + stk0 v j) = _
        rw [accL_congr (w := D) (v := v) (n := km) (i := 44) _ fun k _ => dn _ (by omega) (by omega), dz j hj]
        grind
theorem op_pour {w v w21 : Nat → Int32} (hR : Rel w v) (hF : FInv ee v) (hp : PtsOk w21) (w15 w20 : Nat → Int32) (a b : Int32) : OpOk ee ["java/lang/IndexOutOfBoundsException", "java/lang/IllegalStateException", "java/util/NoSuchElementException", "java/lang/UnsupportedOperationException"] (castR w a b) w w15 (oM_pours w15 v w20 w21 a b).1 (oM_pours w15 v w20 w21 a b).2.1 v (oM_pours w15 v w20 w21 a b).2.2.1 := by
  unfold castR oM_pours oM_fail
  rcases three_cases a with ⟨h1, h2⟩ | ⟨g, hg, rfl, h1, h2⟩
  · rw [if_neg h1, if_pos h2]
    exact OpOk.no (i := 0) rfl (by decide) (by decide) (by decide)
  · rw [if_pos h1, if_neg h2]
    have hF1 := hF.1
    obtain ⟨a1, a2, ⟨km, k1, k2, k3⟩, ⟨ki, i1, i2, i3⟩, a5, a6, a7⟩ := hF1
    have kV : kmv v = km := kmv_of k2 (by omega)
    rw [hR.1 42 (by decide), k2]
    unfold oM_isMould
    rw [k2]
    rcases idx_cases (n := km) (by omega) b with ⟨h3, h4⟩ | ⟨m, hm, rfl, h3, h4⟩
    · rw [if_neg h3, if_pos h4]
      exact OpOk.no (i := 0) rfl (by decide) (by decide) (by decide)
    · rw [if_pos h3, if_neg h4, nI_clamp (n := m) (by omega), nI_clamp (n := g) (by omega)]
      obtain ⟨⟨x, x1, x2, x3⟩, s, s1, s2, s3⟩ := k3 m hm
      have sw : MixS w (44 + 6 * m) s := s2.congr fun j hj => hR.2.1 m j (by omega) (by omega)
      have x3' : v (44 + 6 * m + 4) = nI x := by rw [← x3]; congr 1; omega
      have xw : w (48 + 6 * m) = nI x := by
        have q := hR.2.1 m 4 (by omega) (by decide)
        rw [x3'] at q
        rw [← q]
        congr 1
        omega
      have s3' : v (44 + 6 * m + 5) = if s = 0 then 0 else 1 := by rw [← s3]; congr 1; omega
      rw [sw.sum, s3', xw, x3']
      by_cases hs : s = 0
      · subst hs
        rw [if_pos (show nI 0 ≤ 0 from by decide), if_pos rfl, if_neg (show ¬ (0 : Int32) = 1 from by decide)]
        obtain ⟨M, hM, mv⟩ := a2 g hg
        obtain ⟨S, S1, S2, eS⟩ := a7 g hg
        have eS' : v (27 + 5 * g + 4) = nI S := by rw [← eS]; congr 1; omega
        have mw : MixS w (27 + 5 * g) M := mv.congr fun j hj => hR.1 _ (by omega)
        have hw : ∀ k, k < 5 → w (27 + 5 * g + k) = v (27 + 5 * g + k) := fun k hk => hR.1 _ (by omega)
        rw [mw.sum, mv.mass, liq_eq hp hw]
        by_cases j1 : nI x ≤ nI M
        · rw [if_pos j1, if_pos j1]
          have hx : x ≤ M := (nI_leI (by omega) (by omega)).mp j1
          by_cases j2 : oM_isFluid v w21 (27 + 5 * g) = 0
          · rw [if_pos j2, if_pos j2]
            exact OpOk.no (i := 3) rfl (by decide) (by decide) (by decide)
          · rw [if_neg j2, if_neg j2]
            obtain ⟨V, hV⟩ : ∃ V, V = oM_takes v w20 (27 + 5 * g) (nI x) := ⟨_, rfl⟩
            rw [← hV]
            have tk := takes_ok (p := w20) mv (by omega) (by omega) hx
            rw [← hV] at tk
            obtain ⟨k5, k6, k7⟩ := tk
            have ks : ∀ k, k < 4 → V.1 (27 + 5 * g + k) + V.2 k = v (27 + 5 * g + k) := fun k hk => by rw [hV]; exact takes_sum v w20 _ _ hk
            have hd : 27 + 5 * g + 4 ≤ 44 + 6 * m ∨ 44 + 6 * m + 4 ≤ 27 + 5 * g := by omega
            have mp := mp_takes (w := w) (v := v) (p := w20) (i2 := 44 + 6 * m) (x := nI x) hd (fun k hk => hR.1 _ (by omega)) (by
              rw [mw.sum]
              exact nI_lt (a := 0) (by omega) (by omega))
            rw [← hV] at mp
            obtain ⟨C1, hC1⟩ : ∃ C1, C1 = movePartR w (27 + 5 * g) (44 + 6 * m) (nI x) := ⟨_, rfl⟩
            rw [← hC1] at mp
            obtain ⟨p1, p2, p3⟩ := mp
            obtain ⟨D1, hD1⟩ : ∃ D1, D1 = upd (oM_adds V.1 V.2 (44 + 6 * m)) (44 + 6 * m + 5) 1 := ⟨_, rfl⟩
            rw [← hD1]
            have m1 : MixS D1 (27 + 5 * g) (M - x) := k5.congr fun j hj => by rw [hD1, pk_un (by omega), adds_ne (by omega)]
            have m2 : MixS C1 (27 + 5 * g) (M - x) := k5.congr fun j hj => p1 j hj
            obtain ⟨C, hC⟩ : ∃ C, C = chillR C1 (27 + 5 * g) := ⟨_, rfl⟩
            obtain ⟨D, hD⟩ : ∃ D, D = oM_cools D1 g := ⟨_, rfl⟩
            rw [← hD]
            show OpOk ee _ (sumW (chillR (movePartR w (27 + 5 * g) (44 + 6 * m) (nI x)) (27 + 5 * g)) (27 + 5 * g), chillR (movePartR w (27 + 5 * g) (44 + 6 * m) (nI x)) (27 + 5 * g)) w w15 (oM_mass D (27 + 5 * g)) w15 v D
            rw [← hC1, ← hC]
            have c4 : C (27 + 5 * g + 4) = D (27 + 5 * g + 4) ∧ ∃ t, 20 ≤ t ∧ t ≤ 1500 ∧ D (27 + 5 * g + 4) = nI t := by
              have e1 : D1 (27 + 5 * g + 4) = nI S := by rw [hD1, pk_un (by omega), adds_ne (by omega), k7 _ (by omega), eS']
              rw [hC, hD]
              unfold chillR oM_cools
              rw [m2.sum, m1.mass]
              by_cases z : nI (M - x) = 0
              · rw [if_pos z, if_pos z, pk_us, pk_us]
                exact ⟨rfl, 20, by decide, by decide, rfl⟩
              · rw [if_neg z, if_neg z, e1, p3 _ (by omega) (by omega), hR.1 _ (by omega), eS']
                exact ⟨rfl, S, S1, S2, rfl⟩
            have cC : ∀ j, j ≠ 27 + 5 * g + 4 → C j = C1 j := fun j hj => by
              rw [hC]
              unfold chillR
              split
              · exact pk_un hj
              · rfl
            have cD : ∀ j, j ≠ 27 + 5 * g + 4 → D j = D1 j := fun j hj => by
              rw [hD]
              unfold oM_cools
              split
              · exact pk_un hj
              · rfl
            have mD : MixS D (27 + 5 * g) (M - x) := m1.congr fun j hj => cD _ (by omega)
            have mC : MixS C (27 + 5 * g) (M - x) := m2.congr fun j hj => cC _ (by omega)
            have cn : ∀ j, (j < 27 + 5 * g ∨ 27 + 5 * g + 5 ≤ j) → (j < 44 + 6 * m ∨ 44 + 6 * m + 4 ≤ j) → C j = w j := fun j z1 z2 => by rw [cC j (by omega), p3 j (by omega) z2]
            have dn : ∀ j, (j < 27 + 5 * g ∨ 27 + 5 * g + 5 ≤ j) → (j < 44 + 6 * m ∨ 44 + 6 * m + 4 ≤ j) → j ≠ 49 + 6 * m → D j = v j := fun j z1 z2 z3 => by rw [cD j (by omega), hD1, pk_un (by omega), adds_ne z2, k7 j (by omega)]
            have ds : ∀ k, k < 4 → D (27 + 5 * g + k) = V.1 (27 + 5 * g + k) := fun k hk => by rw [cD _ (by omega), hD1, pk_un (by omega), adds_ne (by omega)]
            have cs : ∀ k, k < 4 → C (27 + 5 * g + k) = V.1 (27 + 5 * g + k) := fun k hk => by rw [cC _ (by omega), p1 k hk]
            have dm : ∀ k, k < 4 → D (44 + 6 * m + k) = v (44 + 6 * m + k) + V.2 k := fun k hk => by rw [cD _ (by omega), hD1, pk_un (by omega), adds_at hk, k7 _ (by omega)]
            have cm : ∀ k, k < 4 → C (44 + 6 * m + k) = w (44 + 6 * m + k) + V.2 k := fun k hk => by rw [cC _ (by omega), p2 k hk]
            have d5 : D (49 + 6 * m) = 1 := by
              rw [cD _ (by omega), hD1, show 49 + 6 * m = 44 + 6 * m + 5 by omega]
              exact pk_us
            have kD : kmv D = kmv v := congrArg Int32.toNatClampNeg (dn 42 (by omega) (by omega) (by omega))
            have jD : kiv D = kiv v := congrArg Int32.toNatClampNeg (dn 43 (by omega) (by omega) (by omega))
            have sz : MixS D (44 + 6 * m) (0 + x) := by
              refine (s2.add k6).congr fun j hj => ?_
              rw [dm j hj, adds_at hj]
            refine OpOk.yes (t := M - x) mC.sum (by omega) (mD.mass.trans mC.sum.symm) ⟨fun j hj => ?_, fun m' k hm' hk => ?_, fun i k hi hk => ?_⟩ ⟨⟨?_, lad_one a2 mD (by omega) fun j z1 z2 z3 => dn j z3 (by omega) (by omega), ⟨km, k1, (dn 42 (by omega) (by omega) (by omega)).trans k2, fun m' hm' => ?_⟩, ⟨ki, i1, (dn 43 (by omega) (by omega) (by omega)).trans i2, fun i hi => (i3 i hi).imp fun s hs => ⟨hs.1, hs.2.1, hs.2.2.congr fun j hj => dn _ (by omega) (by omega) (by omega)⟩⟩, ?_, ?_, ?_⟩, fun j hj => ?_⟩
            · by_cases z1 : j < 27 + 5 * g ∨ 27 + 5 * g + 5 ≤ j
              · rw [cn j z1 (by omega), dn j z1 (by omega) (by omega), hR.1 j hj]
              · by_cases z3 : j = 27 + 5 * g + 4
                · rw [z3, c4.1]
                · obtain ⟨i, rfl⟩ : ∃ i, j = 27 + 5 * g + i := ⟨j - (27 + 5 * g), by omega⟩
                  rw [cs i (by omega), ds i (by omega)]
            · rw [kD] at hm'
              by_cases z : m' = m
              · subst z
                by_cases z2 : k = 4
                · subst z2
                  rw [cn _ (by omega) (by omega), dn _ (by omega) (by omega) (by omega), hR.2.1 _ _ hm' hk]
                · rw [cm k (by omega), dm k (by omega), hR.2.1 _ _ hm' hk]
              · rw [cn _ (by omega) (by omega), dn _ (by omega) (by omega) (by omega), hR.2.1 _ _ hm' hk]
            · rw [jD] at hi
              rw [cn _ (by omega) (by omega), dn _ (by omega) (by omega) (by omega), hR.2.2 _ _ hi hk]
            · exact fun h hh => (a1 h hh).imp fun s hs => ⟨hs.1, hs.2.congr fun j hj => dn _ (by omega) (by omega) (by omega)⟩
            · by_cases z : m' = m
              · subst z
                refine ⟨⟨x, x1, x2, (dn _ (by omega) (by omega) (by omega)).trans x3⟩, 0 + x, by omega, sz, ?_⟩
                rw [d5, if_neg (by omega)]
              · obtain ⟨⟨y, y1, y2, y3⟩, s, t1, t2, t3⟩ := k3 m' hm'
                exact ⟨⟨y, y1, y2, (dn _ (by omega) (by omega) (by omega)).trans y3⟩, s, t1, t2.congr fun j hj => dn _ (by omega) (by omega) (by omega), (dn _ (by omega) (by omega) (by omega)).trans t3⟩
            · exact fun h hh => (a5 h hh).imp fun s hs => ⟨hs.1, hs.2.1, (dn _ (by omega) (by omega) (by omega)).trans hs.2.2⟩
            · exact fun h hh => (a6 h hh).imp fun s hs => ⟨hs.1, (dn _ (by omega) (by omega) (by omega)).trans hs.2⟩
            · intro h hh
              by_cases q : h = g
              · subst q
                rw [show 31 + 5 * h = 27 + 5 * h + 4 by omega]
                exact c4.2
              · exact (a7 h hh).imp fun s hs => ⟨hs.1, hs.2.1, (dn _ (by omega) (by omega) (by omega)).trans hs.2.2⟩
            · have h := hF.2 j hj
              rw [stk_split] at h ⊢
              have s1 := stk0_two (D := D) (v := v) (j := j) (f := 0) (by decide) hg (fun h hh q => dn _ (by omega) (by omega) (by omega)) (fun h hh q => dn _ (by omega) (by omega) (by omega))
              have s2 : D (9 + 6 * 0 + j) = v (9 + 6 * 0 + j) := dn _ (by omega) (by omega) (by omega)
              have s4 := ks j hj
              rw [kD, jD, kV, accL_congr (w := D) (v := v) (i := 80) _ _ fun k _ => dn _ (by omega) (by omega) (by omega), accL_set (w := D) (v := v) (i := 44) (m := m) km _ hm fun k hk q => dn _ (by omega) (by omega) (by omega), s1, s2, ds j hj, dm j hj, dn (1 + j) (by omega) (by omega) (by omega), dn (5 + j) (by omega) (by omega) (by omega)]
              rw [kV] at h
              grind
        · rw [if_neg j1, if_neg j1]
          exact OpOk.no (i := 2) rfl (by decide) (by decide) (by decide)
      · rw [if_neg (show ¬ nI s ≤ 0 from nI_nle (by omega) (by omega)), if_neg hs, if_pos rfl]
        exact OpOk.no (i := 1) rfl (by decide) (by decide) (by decide)
theorem op_break {w v : Nat → Int32} (hR : Rel w v) (hF : FInv ee v) (w15 : Nat → Int32) (a : Int32) : OpOk ee ["java/lang/IndexOutOfBoundsException", "java/util/NoSuchElementException", "java/lang/IllegalStateException"] (knockOutR w a) w w15 (oM_breaks w15 v a).1 (oM_breaks w15 v a).2.1 v (oM_breaks w15 v a).2.2 := by
  unfold knockOutR oM_breaks oM_fail oM_isMould
  have hF1 := hF.1
  obtain ⟨a1, a2, ⟨km, k1, k2, k3⟩, ⟨ki, i1, i2, i3⟩, a5, a6, a7⟩ := hF1
  have kV : kmv v = km := kmv_of k2 (by omega)
  have jV : kiv v = ki := kiv_of i2 i1
  rw [hR.1 42 (by decide), hR.1 43 (by decide), k2, i2]
  rcases idx_cases (n := km) (by omega) a with ⟨h3, h4⟩ | ⟨m, hm, rfl, h3, h4⟩
  · rw [if_neg h3, if_pos h4]
    exact OpOk.no (i := 0) rfl (by decide) (by decide) (by decide)
  · rw [if_pos h3, if_neg h4, nI_clamp (n := m) (by omega), nI_clamp (n := ki) (by omega)]
    obtain ⟨⟨x, x1, x2, x3⟩, s, s1, s2, s3⟩ := k3 m hm
    have sw : MixS w (44 + 6 * m) s := s2.congr fun j hj => hR.2.1 m j (by omega) (by omega)
    have s3' : v (44 + 6 * m + 5) = if s = 0 then 0 else 1 := by rw [← s3]; congr 1; omega
    rw [sw.sum, s3']
    by_cases hs : s = 0
    · subst hs
      rw [if_pos (show nI 0 = 0 from rfl), if_pos rfl, if_pos rfl]
      exact OpOk.no (i := 1) rfl (by decide) (by decide) (by decide)
    · rw [if_neg (show ¬ nI s = 0 from nI_ne0 (by omega) (by omega)), if_neg hs, if_neg (show ¬ (1 : Int32) = 0 from by decide)]
      by_cases hk : ki = 12
      · subst hk
        rw [if_neg (show ¬ nI 12 < 12 from by decide), if_pos (show nI 12 = 12 from rfl)]
        exact OpOk.no (i := 2) rfl (by decide) (by decide) (by decide)
      · rw [if_pos (show nI ki < 12 from nI_lt (b := 12) (by omega) (by decide)), if_neg (show ¬ nI ki = 12 from fun q => hk ((nI_eq (b := 12) (by omega) (by decide)).mp q)), nI_1]
        obtain ⟨D, hD⟩ : ∃ D, D = upd (upd (upd (upd (upd (upd (upd (upd (upd (upd v (80 + 4 * ki) (v (44 + 6 * m))) (44 + 6 * m) 0) (80 + 4 * ki + 1) (v (44 + 6 * m + 1))) (44 + 6 * m + 1) 0) (80 + 4 * ki + 2) (v (44 + 6 * m + 2))) (44 + 6 * m + 2) 0) (80 + 4 * ki + 3) (v (44 + 6 * m + 3))) (44 + 6 * m + 3) 0) (44 + 6 * m + 5) 0) 43 (nI (ki + 1)) := ⟨_, rfl⟩
        simp (disch := omega) only [pk_un]
        rw [← hD]
        obtain ⟨C, hC⟩ : ∃ C, C = upd (clrR (cpyR w (80 + 4 * ki) w (44 + 6 * m)) (44 + 6 * m)) 43 (nI (ki + 1)) := ⟨_, rfl⟩
        rw [← hC]
        have d43 : D 43 = nI (ki + 1) := by rw [hD]; exact pk_us
        have dn : ∀ j, j ≠ 43 → (j < 44 + 6 * m ∨ 44 + 6 * m + 4 ≤ j) → j ≠ 49 + 6 * m → (j < 80 + 4 * ki ∨ 80 + 4 * ki + 4 ≤ j) → D j = v j := fun j h1 h2 h3 h4 => by rw [hD]; simp (disch := omega) only [pk_un]
        have dz : ∀ k, k < 4 → D (44 + 6 * m + k) = 0 := fun k hk => by rw [hD]; rcases lt4 hk with rfl | rfl | rfl | rfl <;> simp (disch := omega) only [pk_ue, pk_un]
        have d5 : D (49 + 6 * m) = 0 := by rw [hD]; simp (disch := omega) only [pk_ue, pk_un]
        have di : ∀ k, k < 4 → D (80 + 4 * ki + k) = v (44 + 6 * m + k) := fun k hk => by rw [hD]; rcases lt4 hk with rfl | rfl | rfl | rfl <;> simp (disch := omega) only [pk_ue, pk_un] <;> rfl
        have c43 : C 43 = nI (ki + 1) := by rw [hC]; exact pk_us
        have cn : ∀ j, j ≠ 43 → (j < 44 + 6 * m ∨ 44 + 6 * m + 4 ≤ j) → (j < 80 + 4 * ki ∨ 80 + 4 * ki + 4 ≤ j) → C j = w j := fun j h1 h2 h3 => by rw [hC, pk_un h1, kp_clrR h2, kp_cpyR h3]
        have cz : ∀ k, k < 4 → C (44 + 6 * m + k) = 0 := fun k hk => by rw [hC]; unfold clrR; rcases lt4 hk with rfl | rfl | rfl | rfl <;> simp (disch := omega) only [pk_ue, pk_un]
        have ci : ∀ k, k < 4 → C (80 + 4 * ki + k) = w (44 + 6 * m + k) := fun k hk => by
          rw [hC, pk_un (by omega), kp_clrR (by omega)]
          unfold cpyR
          rcases lt4 hk with rfl | rfl | rfl | rfl <;> simp (disch := omega) only [pk_us, pk_un]
        have kD : kmv D = kmv v := congrArg Int32.toNatClampNeg (dn 42 (by decide) (by omega) (by omega) (by omega))
        have jD : kiv D = ki + 1 := kiv_of d43 (by omega)
        refine OpOk.yes (t := ki) rfl (by omega) rfl ⟨fun j hj => ?_, fun m' k hm' h4 => ?_, fun i k hi h4 => ?_⟩ ⟨hF.1.high (fun j hj => dn j (by omega) (by omega) (by omega) (by omega)) ⟨km, k1, (dn 42 (by decide) (by omega) (by omega) (by omega)).trans k2, fun m' hm' => ?_⟩ ⟨ki + 1, by omega, d43, fun i hi => ?_⟩, fun j hj => ?_⟩
        · by_cases z : j = 43
          · rw [z, c43, d43]
          · rw [cn j z (by omega) (by omega), dn j z (by omega) (by omega) (by omega), hR.1 j hj]
        · rw [kD] at hm'
          by_cases z : m' = m
          · subst z
            by_cases z2 : k = 4
            · subst z2
              rw [cn _ (by omega) (by omega) (by omega), dn _ (by omega) (by omega) (by omega) (by omega), hR.2.1 _ _ hm' h4]
            · rw [cz k (by omega), dz k (by omega)]
          · rw [cn _ (by omega) (by omega) (by omega), dn _ (by omega) (by omega) (by omega) (by omega), hR.2.1 _ _ hm' h4]
        · rw [jD] at hi
          by_cases z : i = ki
          · subst z
            rw [ci k h4, di k h4, hR.2.1 m k (by omega) (by omega)]
          · rw [cn _ (by omega) (by omega) (by omega), dn _ (by omega) (by omega) (by omega) (by omega), hR.2.2 i k (by omega) h4]
        · by_cases z : m' = m
          · subst z
            exact ⟨⟨x, x1, x2, (dn _ (by omega) (by omega) (by omega) (by omega)).trans x3⟩, 0, by decide, ⟨0, 0, 0, 0, dz 0 (by decide), dz 1 (by decide), dz 2 (by decide), dz 3 (by decide), rfl⟩, d5⟩
          · obtain ⟨⟨y, y1, y2, y3⟩, s, t1, t2, t3⟩ := k3 m' hm'
            exact ⟨⟨y, y1, y2, (dn _ (by omega) (by omega) (by omega) (by omega)).trans y3⟩, s, t1, t2.congr fun j hj => dn _ (by omega) (by omega) (by omega) (by omega), (dn _ (by omega) (by omega) (by omega) (by omega)).trans t3⟩
        · by_cases z : i = ki
          · subst z
            obtain ⟨p, q, r, t, e1, e2, e3, e4, e5⟩ := s2
            exact ⟨s, by omega, s1, p, q, r, t, (di 0 (by decide)).trans e1, (di 1 (by decide)).trans e2, (di 2 (by decide)).trans e3, (di 3 (by decide)).trans e4, e5⟩
          · exact (i3 i (by omega)).imp fun s hs => ⟨hs.1, hs.2.1, hs.2.2.congr fun j hj => dn _ (by omega) (by omega) (by omega) (by omega)⟩
        · have h := hF.2 j hj
          rw [stk_split] at h ⊢
          rw [kD, jD, kV, accL_set (w := D) (v := v) (i := 44) (m := m) km _ hm fun k hk q => dn _ (by omega) (by omega) (by omega) (by omega), stk0_same hj fun j hj => dn j (by omega) (by omega) (by omega) (by omega), dz j hj, dn (1 + j) (by omega) (by omega) (by omega) (by omega), dn (5 + j) (by omega) (by omega) (by omega) (by omega)]
          rw [kV, jV] at h
          show accL D 80 4 j ki 0 + D (80 + 4 * ki + j) + _ = _
          rw [accL_congr (w := D) (v := v) (i := 80) (n := ki) _ fun k _ => dn _ (by omega) (by omega) (by omega) (by omega), di j hj]
          grind
end OPV
