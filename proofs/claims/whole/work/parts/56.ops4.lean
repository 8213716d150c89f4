/-! Melting down, and time. -/
section OPV
variable {ee : Nat → Int32}
theorem shiftL_ok : ∀ (q k : Nat) (z : Nat → Int32), (∀ j, j < 80 + 4 * k ∨ 80 + 4 * (k + q) ≤ j → shiftL q (k + 1) z j = z j) ∧ ∀ i c, k ≤ i → i < k + q → c < 4 → shiftL q (k + 1) z (80 + 4 * i + c) = z (80 + 4 * (i + 1) + c)
  | 0, _, _ => ⟨fun _ _ => rfl, fun i c h1 h2 _ => absurd h1 (by omega)⟩
  | q + 1, k, z => by
    have ih := shiftL_ok q (k + 1) (cpyR z (80 + 4 * k) z (80 + 4 * (k + 1)))
    have u : shiftL (q + 1) (k + 1) z = shiftL q (k + 1 + 1) (cpyR z (80 + 4 * k) z (80 + 4 * (k + 1))) := rfl
    rw [u]
    have hc : ∀ c, c < 4 → cpyR z (80 + 4 * k) z (80 + 4 * (k + 1)) (80 + 4 * k + c) = z (80 + 4 * (k + 1) + c) := fun c hc => by
      unfold cpyR
      rcases lt4 hc with rfl | rfl | rfl | rfl <;> simp (disch := omega) only [pk_us, pk_un]
    refine ⟨fun j hj => ?_, fun i c h1 h2 h3 => ?_⟩
    · rw [ih.1 j (by omega), kp_cpyR (by omega)]
    · by_cases e : i = k
      · subst e
        rw [ih.1 _ (by omega), hc c h3]
      · rw [ih.2 i c (by omega) (by omega) h3, kp_cpyR (by omega)]
theorem mpR_at {p v : Nat → Int32} {a k : Nat} (hk : k < 4) : mpR p v a k = v (a + k) := by
  unfold mpR
  rcases lt4 hk with rfl | rfl | rfl | rfl <;> simp (disch := omega) only [pk_us, pk_un] <;> rfl
theorem op_melt {w v : Nat → Int32} (hR : Rel w v) (hF : FInv ee v) (w15 w20 : Nat → Int32) (a b : Int32) : OpOk ee ["java/lang/IndexOutOfBoundsException", "java/lang/UnsupportedOperationException"] (remeltR w a b) w w15 (oM_melts w15 v w20 a b).1 (oM_melts w15 v w20 a b).2.1 v (oM_melts w15 v w20 a b).2.2.1 := by
  unfold remeltR oM_melts oM_fail oM_isIngot
  have hF1 := hF.1
  obtain ⟨a1, a2, ⟨km, k1, k2, k3⟩, ⟨ki, i1, i2, i3⟩, a5, a6, a7⟩ := hF1
  have jV : kiv v = ki := kiv_of i2 i1
  rw [hR.1 43 (by decide), i2]
  rcases idx_cases (n := ki) (by omega) a with ⟨h1, h2⟩ | ⟨i, hi, rfl, h1, h2⟩
  · rw [if_neg h1, if_pos h2]
    exact OpOk.no (i := 0) rfl (by decide) (by decide) (by decide)
  · rw [if_pos h1, if_neg h2]
    rcases three_cases b with ⟨h3, h4⟩ | ⟨f, hf, rfl, h3, h4⟩
    · rw [if_neg h3, if_pos h4]
      exact OpOk.no (i := 0) rfl (by decide) (by decide) (by decide)
    · rw [if_pos h3, if_neg h4, nI_clamp (n := f) (by omega), nI_clamp (n := i) (by omega), nI_clamp (n := ki) (by omega)]
      obtain ⟨M, hM, mv⟩ := a1 f hf
      obtain ⟨n, n1, n2, mi⟩ := i3 i hi
      obtain ⟨T, T1, T2, eT⟩ := a5 f hf
      have mw : MixS w (9 + 6 * f) M := mv.congr fun j hj => hR.1 _ (by omega)
      have mwi : MixS w (80 + 4 * i) n := mi.congr fun j hj => hR.2.2 i j (by omega) hj
      have eT' : v (9 + 6 * f + 4) = nI T := by rw [← eT]; congr 1; omega
      rw [mw.sum, mv.mass, mwi.sum, mi.mass]
      by_cases k4 : nI M + nI n ≤ 100
      · rw [if_pos k4, if_pos k4]
        have hs2 : M + n ≤ 100 := (nI_leI (b := 100) (by omega) (by decide)).mp (by rw [← nI_add]; exact k4)
        have bl : blendR w (9 + 6 * f) 10 (nI n) 20 = upd w (9 + 6 * f + 4) (nI (tmp T (M + 10) n 20)) := blend_ok (L := 10) (s := 20) mw ((hR.1 _ (by omega)).trans eT') T1 T2 (by decide) (by decide) (by omega) (by omega)
        rw [bl]
        obtain ⟨U, hU⟩ : ∃ U, U = upd (shG v (80 + 4 * i) 128) 43 (shG v (80 + 4 * i) 128 43 - 1) := ⟨_, rfl⟩
        have s43 : shG v (80 + 4 * i) 128 43 = nI ki := (if_neg (by omega)).trans i2
        have u43 : U 43 = nI (ki - 1) := by rw [hU, pk_us, s43, show nI ki - 1 = nI (ki - 1) from pk_sub (b := 1) (by omega)]
        have un : ∀ j, j ≠ 43 → j < 80 + 4 * i → U j = v j := fun j h1 h2 => by rw [hU, pk_un h1]; exact if_neg (by omega)
        have us : ∀ h c, i ≤ h → h < 11 → c < 4 → U (80 + 4 * h + c) = v (80 + 4 * (h + 1) + c) := fun h c q1 q2 q3 => by
          rw [hU, pk_un (by omega)]
          unfold shG
          rw [if_pos (by omega), if_pos (by omega), show 80 + 4 * h + c + 4 = 80 + 4 * (h + 1) + c by omega]
        obtain ⟨P, hP⟩ : ∃ P, P = mpR w20 v (80 + 4 * i) := ⟨_, rfl⟩
        have pP : ∀ k, k < 4 → P k = v (80 + 4 * i + k) := fun k hk => by rw [hP]; exact mpR_at hk
        have mP : MixS P 0 n := by
          obtain ⟨p, q, r, t, e1, e2, e3, e4, e5⟩ := mi
          exact ⟨p, q, r, t, (pP 0 (by decide)).trans e1, (pP 1 (by decide)).trans e2, (pP 2 (by decide)).trans e3, (pP 3 (by decide)).trans e4, e5⟩
        have fo := feeds_ok (u := U) (p := P) (f := f) (M := M) (T := T) (n := n) (s := 20) (mv.congr fun j hj => un _ (by omega) (by omega)) ((un _ (by omega) (by omega)).trans eT') mP T1 T2 (by decide) (by decide) (by omega)
        have tb := tmp_bd (T := T) (M := M + 10) (n := n) (s := 20) T1 T2 (by decide) (by decide) (by omega)
        obtain ⟨t, ht⟩ : ∃ t, t = tmp T (M + 10) n 20 := ⟨_, rfl⟩
        obtain ⟨D, hD⟩ : ∃ D, D = oM_feeds U P f 20 := ⟨_, rfl⟩
        have fo : D.1 = nI t ∧ D.2 (9 + 6 * f + 4) = nI t ∧ (∀ j, j < 4 → D.2 (9 + 6 * f + j) = U (9 + 6 * f + j) + P j) ∧ (∀ j, j < 9 + 6 * f ∨ 9 + 6 * f + 5 ≤ j → D.2 j = U j) ∧ MixS D.2 (9 + 6 * f) (M + n) := by rw [hD, ht]; exact fo
        rw [← ht] at tb ⊢
        obtain ⟨f1, f2, f3, f4, f5⟩ := fo
        obtain ⟨C3, hC3⟩ : ∃ C3, C3 = shiftL (ki - (i + 1)) (i + 1) (addAllR (upd w (9 + 6 * f + 4) (nI t)) (9 + 6 * f) (80 + 4 * i)) := ⟨_, rfl⟩
        obtain ⟨C, hC⟩ : ∃ C, C = upd C3 43 (nI ki - 1) := ⟨_, rfl⟩
        have sh := shiftL_ok (ki - (i + 1)) i (addAllR (upd w (9 + 6 * f + 4) (nI t)) (9 + 6 * f) (80 + 4 * i))
        rw [← hC3] at sh
        have c43 : C 43 = nI (ki - 1) := by rw [hC, pk_us, show nI ki - 1 = nI (ki - 1) from pk_sub (b := 1) (by omega)]
        have c4 : C (9 + 6 * f + 4) = nI t := by rw [hC, pk_un (by omega), sh.1 _ (by omega), kp_addAllR (by omega), pk_us]
        have cn : ∀ j, j ≠ 43 → j < 80 + 4 * i → (j < 9 + 6 * f ∨ 9 + 6 * f + 5 ≤ j) → C j = w j := fun j q1 q2 q3 => by rw [hC, pk_un q1, sh.1 _ (by omega), kp_addAllR (by omega), pk_un (by omega)]
        have cf : ∀ k, k < 4 → C (9 + 6 * f + k) = w (9 + 6 * f + k) + w (80 + 4 * i + k) := fun k hk => by
          rw [hC, pk_un (by omega), sh.1 _ (by omega)]
          unfold addAllR addR
          rcases lt4 hk with rfl | rfl | rfl | rfl <;> simp (disch := omega) only [pk_us, pk_un]
        have cs : ∀ h c, i ≤ h → h < ki - 1 → c < 4 → C (80 + 4 * h + c) = w (80 + 4 * (h + 1) + c) := fun h c q1 q2 q3 => by
          rw [hC, pk_un (by omega), sh.2 h c q1 (by omega) q3, kp_addAllR (by omega), pk_un (by omega)]
        have dn : ∀ j, j ≠ 43 → j < 80 + 4 * i → (j < 9 + 6 * f ∨ 9 + 6 * f + 5 ≤ j) → D.2 j = v j := fun j q1 q2 q3 => by rw [f4 j q3, un j q1 q2]
        have df : ∀ k, k < 4 → D.2 (9 + 6 * f + k) = v (9 + 6 * f + k) + v (80 + 4 * i + k) := fun k hk => by rw [f3 k hk, un _ (by omega) (by omega), pP k hk]
        have ds : ∀ h c, i ≤ h → h < 11 → c < 4 → D.2 (80 + 4 * h + c) = v (80 + 4 * (h + 1) + c) := fun h c q1 q2 q3 => by rw [f4 _ (by omega), us h c q1 q2 q3]
        have d43 : D.2 43 = nI (ki - 1) := by rw [f4 _ (by omega), u43]
        show OpOk ee _ (upd (shiftL (ki - (i + 1)) (i + 1) (addAllR (upd w (9 + 6 * f + 4) (nI t)) (9 + 6 * f) (80 + 4 * i))) 43 (nI ki - 1) (9 + 6 * f + 4), upd (shiftL (ki - (i + 1)) (i + 1) (addAllR (upd w (9 + 6 * f + 4) (nI t)) (9 + 6 * f) (80 + 4 * i))) 43 (nI ki - 1)) w w15 (oM_feeds (upd (shG v (80 + 4 * i) 128) 43 (shG v (80 + 4 * i) 128 43 - 1)) (mpR w20 v (80 + 4 * i)) f 20).1 w15 v (oM_feeds (upd (shG v (80 + 4 * i) 128) 43 (shG v (80 + 4 * i) 128 43 - 1)) (mpR w20 v (80 + 4 * i)) f 20).2
        rw [← hC3, ← hC, ← hU, ← hP, ← hD]
        have kD : kmv D.2 = kmv v := congrArg Int32.toNatClampNeg (dn 42 (by decide) (by omega) (by omega))
        have jD : kiv D.2 = ki - 1 := kiv_of d43 (by omega)
        refine OpOk.yes (t := t) c4 (by omega) (f1.trans c4.symm) ⟨fun j hj => ?_, fun m k hm hk => ?_, fun h k hh hk => ?_⟩ ⟨⟨fur_one a1 f5 hs2 fun j q1 q2 q3 => dn j (by omega) (by omega) q3, fun g hg => (a2 g hg).imp fun s hs => ⟨hs.1, hs.2.congr fun j hj => dn _ (by omega) (by omega) (by omega)⟩, ⟨km, k1, (dn 42 (by decide) (by omega) (by omega)).trans k2, fun m hm => ?_⟩, ⟨ki - 1, by omega, d43, fun h hh => ?_⟩, ?_, ?_, ?_⟩, fun j hj => ?_⟩
        · by_cases z : j = 43
          · rw [z, c43, d43]
          · by_cases q : j < 9 + 6 * f ∨ 9 + 6 * f + 5 ≤ j
            · rw [cn j z (by omega) q, dn j z (by omega) q, hR.1 j hj]
            · by_cases z3 : j = 9 + 6 * f + 4
              · rw [z3, c4, f2]
              · obtain ⟨c, rfl⟩ : ∃ c, j = 9 + 6 * f + c := ⟨j - (9 + 6 * f), by omega⟩
                rw [cf c (by omega), df c (by omega), hR.1 _ (by omega), hR.2.2 i c (by omega) (by omega)]
        · rw [kD] at hm
          have hm2 : m < 6 := by rw [kmv_of k2 (by omega)] at hm; omega
          rw [cn _ (by omega) (by omega) (by omega), dn _ (by omega) (by omega) (by omega), hR.2.1 m k hm hk]
        · rw [jD] at hh
          by_cases q : h < i
          · rw [cn _ (by omega) (by omega) (by omega), dn _ (by omega) (by omega) (by omega), hR.2.2 h k (by omega) hk]
          · rw [cs h k (by omega) hh hk, ds h k (by omega) (by omega) hk, hR.2.2 (h + 1) k (by omega) hk]
        · obtain ⟨⟨x, x1, x2, x3⟩, s, s1, s2, s3⟩ := k3 m hm
          exact ⟨⟨x, x1, x2, (dn _ (by omega) (by omega) (by omega)).trans x3⟩, s, s1, s2.congr fun j hj => dn _ (by omega) (by omega) (by omega), (dn _ (by omega) (by omega) (by omega)).trans s3⟩
        · by_cases q : h < i
          · exact (i3 h (by omega)).imp fun s hs => ⟨hs.1, hs.2.1, hs.2.2.congr fun j hj => dn _ (by omega) (by omega) (by omega)⟩
          · obtain ⟨s, s1, s2, p, q1, r, t, e1, e2, e3, e4, e5⟩ := i3 (h + 1) (by omega)
            exact ⟨s, s1, s2, p, q1, r, t, (ds h 0 (by omega) (by omega) (by decide)).trans e1, (ds h 1 (by omega) (by omega) (by decide)).trans e2, (ds h 2 (by omega) (by omega) (by decide)).trans e3, (ds h 3 (by omega) (by omega) (by decide)).trans e4, e5⟩
        · intro h hh
          by_cases q : h = f
          · subst q
            exact ⟨t, tb.1, tb.2, by rw [show 13 + 6 * h = 9 + 6 * h + 4 by omega]; exact f2⟩
          · exact (a5 h hh).imp fun s hs => ⟨hs.1, hs.2.1, (dn _ (by omega) (by omega) (by omega)).trans hs.2.2⟩
        · exact fun h hh => (a6 h hh).imp fun s hs => ⟨hs.1, (dn _ (by omega) (by omega) (by omega)).trans hs.2⟩
        · exact fun h hh => (a7 h hh).imp fun s hs => ⟨hs.1, hs.2.1, (dn _ (by omega) (by omega) (by omega)).trans hs.2.2⟩
        · have h := hF.2 j hj
          rw [stk_split] at h ⊢
          have s1 := stk0_two (D := D.2) (v := v) (j := j) (l := 0) hf (by decide) (fun g hg q => dn _ (by omega) (by omega) (by omega)) (fun g hg q => dn _ (by omega) (by omega) (by omega))
          have s2 : D.2 (27 + 5 * 0 + j) = v (27 + 5 * 0 + j) := dn _ (by omega) (by omega) (by omega)
          have kb : kmv v ≤ 6 := by rw [kmv_of k2 (by omega)]; exact k1
          have sh := accL_shift (w := D.2) (v := v) (i := 80) (st := 4) (j := j) (m := i) (ki - 1) 0 (by omega) fun k hk => by
            by_cases q : k < i
            · rw [if_pos q, dn _ (by omega) (by omega) (by omega)]
            · rw [if_neg q, ds k j (by omega) (by omega) hj]
          rw [show ki - 1 + 1 = ki by omega] at sh
          rw [kD, jD, accL_congr (w := D.2) (v := v) (i := 44) _ _ fun k hk => dn _ (by omega) (by omega) (by omega), s1, s2, df j hj, dn (1 + j) (by omega) (by omega) (by omega), dn (5 + j) (by omega) (by omega) (by omega)]
          rw [jV, ← sh] at h
          grind
      · rw [if_neg k4, if_neg k4]
        exact OpOk.no (i := 1) rfl (by decide) (by decide) (by decide)
theorem Rel.updl {w v : Nat → Int32} (h : Rel w v) {p : Nat} (hp : p < 42) {x y : Int32} (e : x = y) : Rel (upd w p x) (upd v p y) := by
  subst e
  refine h.low (fun j hj => pk_un (by omega)) (fun j hj => pk_un (by omega)) fun j hj => ?_
  by_cases q : j = p
  · rw [q, pk_us, pk_us]
  · rw [pk_un q, pk_un q, h.1 j (by omega)]
theorem FInv.temp {v : Nat → Int32} (h : FInv ee v) {p t : Nat} (hp : p = 0 ∨ (∃ f, f < 3 ∧ p = 13 + 6 * f) ∨ ∃ f, f < 3 ∧ p = 31 + 5 * f) {x : Int32} (hx : p = 0 ∨ x = nI t ∧ 20 ≤ t ∧ t ≤ 1500) : FInv ee (upd v p x) := by
  obtain ⟨a1, a2, -, -, a5, a6, a7⟩ := h.1
  have hp1 : p < 42 ∧ (∀ f k, f < 3 → k < 4 → p ≠ 9 + 6 * f + k) ∧ (∀ f k, f < 3 → k < 4 → p ≠ 27 + 5 * f + k) ∧ (∀ k, k < 8 → p ≠ 1 + k) ∧ ∀ f, f < 3 → p ≠ 14 + 6 * f := by
    rcases hp with rfl | ⟨f, hf, rfl⟩ | ⟨f, hf, rfl⟩
    · exact ⟨by decide, fun g k _ _ => by omega, fun g k _ _ => by omega, fun k _ => by omega, fun g _ => by omega⟩
    · exact ⟨by omega, fun g k _ _ => by omega, fun g k _ _ => by omega, fun k _ => by omega, fun g _ => by omega⟩
    · exact ⟨by omega, fun g k _ _ => by omega, fun g k _ _ => by omega, fun k _ => by omega, fun g _ => by omega⟩
  obtain ⟨b1, b2, b3, b4, b5⟩ := hp1
  refine h.low (fun j hj => pk_un (by omega)) (fun g hg => (a1 g hg).imp fun s hs => ⟨hs.1, hs.2.congr fun j hj => pk_un (Ne.symm (b2 g j hg hj))⟩) (fun g hg => (a2 g hg).imp fun s hs => ⟨hs.1, hs.2.congr fun j hj => pk_un (Ne.symm (b3 g j hg hj))⟩) (fun g hg => ?_) (fun g hg => (a6 g hg).imp fun s hs => ⟨hs.1, (pk_un (Ne.symm (b5 g hg))).trans hs.2⟩) (fun g hg => ?_) fun j hj => ?_
  · by_cases q : 13 + 6 * g = p
    · rw [q]
      exact ⟨t, (hx.resolve_left (by omega)).2.1, (hx.resolve_left (by omega)).2.2, pk_us.trans (hx.resolve_left (by omega)).1⟩
    · exact (a5 g hg).imp fun s hs => ⟨hs.1, hs.2.1, (pk_un q).trans hs.2.2⟩
  · by_cases q : 31 + 5 * g = p
    · rw [q]
      exact ⟨t, (hx.resolve_left (by omega)).2.1, (hx.resolve_left (by omega)).2.2, pk_us.trans (hx.resolve_left (by omega)).1⟩
    · exact (a7 g hg).imp fun s hs => ⟨hs.1, hs.2.1, (pk_un q).trans hs.2.2⟩
  · unfold stk0
    rw [pk_un (Ne.symm (b2 0 j (by decide) hj)), pk_un (Ne.symm (b2 1 j (by decide) hj)), pk_un (Ne.symm (b2 2 j (by decide) hj)), pk_un (Ne.symm (b3 0 j (by decide) hj)), pk_un (Ne.symm (b3 1 j (by decide) hj)), pk_un (Ne.symm (b3 2 j (by decide) hj)), pk_un (Ne.symm (b4 j (by omega))), pk_un (show 5 + j ≠ p from fun q => b4 (4 + j) (by omega) (by omega))]
theorem held_nI {a : Nat} (h : a < 2 ^ 31) : ∃ t, 20 ≤ t ∧ t ≤ 1500 ∧ oM_held (nI a) = nI t := by
  unfold oM_held
  by_cases q : 20 ≤ nI a
  · have q1 : 20 ≤ a := (nI_leI (a := 20) (by decide) h).mp q
    rw [if_pos q]
    by_cases q2 : nI a ≤ 1500
    · rw [if_pos q2]
      exact ⟨a, q1, (nI_leI (b := 1500) h (by decide)).mp q2, rfl⟩
    · rw [if_neg q2]
      exact ⟨1500, by decide, by decide, rfl⟩
  · rw [if_neg q]
    exact ⟨20, by decide, by decide, rfl⟩
theorem fur_step {w v : Nat → Int32} (hR : Rel w v) (hF : FInv ee v) {f : Nat} (hf : f < 3) : Rel (furR w f) (furM v f) ∧ FInv ee (furM v f) := by
  unfold furR furM riseW
  obtain ⟨-, -, -, -, a5, a6, -⟩ := hF.1
  obtain ⟨T, T1, T2, eT⟩ := a5 f hf
  obtain ⟨l, hl, el⟩ := a6 f hf
  have eT' : v (9 + 6 * f + 4) = nI T := by rw [← eT]; congr 1; omega
  have el' : v (9 + 6 * f + 5) = nI l := by rw [← el]; congr 1; omega
  rw [hR.1 (9 + 6 * f + 4) (by omega), hR.1 (14 + 6 * f) (by omega), eT', el, el']
  have e : nI T + 10 * nI l - 5 = nI (T + 10 * l - 5) := by
    rw [show (10 : Int32) * nI l = nI (10 * l) from pk_mul 10 l, nI_add]
    exact pk_sub (b := 5) (by omega)
  have e2 : nI T + (10 * nI l - 5) = nI T + 10 * nI l - 5 := by grind
  rw [e2, e]
  obtain ⟨t, t1, t2, et⟩ := held_nI (a := T + 10 * l - 5) (by omega)
  refine ⟨hR.updl (by omega) rfl, hF.temp (t := t) (.inr (.inl ⟨f, hf, by omega⟩)) (.inr ⟨et, t1, t2⟩)⟩
theorem lad_step {w v : Nat → Int32} (hR : Rel w v) (hF : FInv ee v) {f : Nat} (hf : f < 3) : Rel (ladR w f) (ladM v f) ∧ FInv ee (ladM v f) := by
  unfold ladR ladM
  rw [show sumW w (27 + 5 * f) = oM_mass v (27 + 5 * f) from sum_congr fun k hk => hR.1 _ (by omega)]
  by_cases q : oM_mass v (27 + 5 * f) ≤ 0
  · rw [if_pos q, if_pos q]
    exact ⟨hR, hF⟩
  · rw [if_neg q, if_neg q]
    obtain ⟨-, -, -, -, -, -, a7⟩ := hF.1
    obtain ⟨T, T1, T2, eT⟩ := a7 f hf
    have eT' : v (27 + 5 * f + 4) = nI T := by rw [← eT]; congr 1; omega
    rw [hR.1 (27 + 5 * f + 4) (by omega), eT']
    have e2 : nI T + (-10) = nI T - 10 := by grind
    rw [e2, show nI T - 10 = nI (T - 10) from pk_sub (b := 10) (by omega)]
    obtain ⟨t, t1, t2, et⟩ := held_nI (a := T - 10) (by omega)
    refine ⟨hR.updl (by omega) rfl, hF.temp (t := t) (.inr (.inr ⟨f, hf, by omega⟩)) (.inr ⟨et, t1, t2⟩)⟩
theorem minute_step {w v : Nat → Int32} (hR : Rel w v) (hF : FInv ee v) : Rel (minuteR w) (minuteM v) ∧ FInv ee (minuteM v) := by
  unfold minuteR minuteM
  have s0 : Rel (upd w 0 (w 0 + 1)) (upd v 0 (v 0 + 1)) ∧ FInv ee (upd v 0 (v 0 + 1)) := ⟨hR.updl (by decide) (by rw [hR.1 0 (by decide)]), hF.temp (t := 0) (.inl rfl) (.inl rfl)⟩
  have s1 := fur_step s0.1 s0.2 (f := 0) (by decide)
  have s2 := fur_step s1.1 s1.2 (f := 1) (by decide)
  have s3 := fur_step s2.1 s2.2 (f := 2) (by decide)
  have s4 := lad_step s3.1 s3.2 (f := 0) (by decide)
  have s5 := lad_step s4.1 s4.2 (f := 1) (by decide)
  exact lad_step s5.1 s5.2 (f := 2) (by decide)
theorem it_step : ∀ (n : Nat) (w v : Nat → Int32), Rel w v → FInv ee v → Rel (itM n w) (itMM n v) ∧ FInv ee (itMM n v)
  | 0, _, _, hR, hF => ⟨hR, hF⟩
  | n + 1, _, _, hR, hF => it_step n _ _ (minute_step hR hF).1 (minute_step hR hF).2
theorem mol_eq {w v w21 : Nat → Int32} (hR : Rel w v) (hp : PtsOk w21) : molW w = molM v w21 := by
  unfold molW molM
  rw [liq_eq (i := 9 + 6 * 0) hp fun k hk => hR.1 _ (by omega), liq_eq (i := 9 + 6 * 1) hp fun k hk => hR.1 _ (by omega), liq_eq (i := 9 + 6 * 2) hp fun k hk => hR.1 _ (by omega)]
theorem mol_nI (v w21 : Nat → Int32) : ∃ t, t ≤ 3 ∧ molM v w21 = nI t := by
  unfold molM
  split <;> split <;> split
  · exact ⟨0, by decide, rfl⟩
  · exact ⟨1, by decide, rfl⟩
  · exact ⟨1, by decide, rfl⟩
  · exact ⟨2, by decide, rfl⟩
  · exact ⟨1, by decide, rfl⟩
  · exact ⟨2, by decide, rfl⟩
  · exact ⟨2, by decide, rfl⟩
  · exact ⟨3, by decide, rfl⟩
theorem op_wait {w v w21 : Nat → Int32} (hR : Rel w v) (hF : FInv ee v) (hp : PtsOk w21) (w15 : Nat → Int32) (a : Int32) : OpOk ee ["java/lang/IllegalArgumentException"] (passR w a) w w15 (oM_passes w15 v w21 a).1 (oM_passes w15 v w21 a).2.1 v (oM_passes w15 v w21 a).2.2 := by
  unfold passR oM_passes oM_fail
  have rc : (a < 1 ∧ oM_isIn a 1 200 = 0) ∨ (¬ a < 1 ∧ ¬ a ≤ 200 ∧ oM_isIn a 1 200 = 0) ∨ ∃ k, 1 ≤ k ∧ k ≤ 200 ∧ a = nI k ∧ ¬ a < 1 ∧ a ≤ 200 ∧ ¬ oM_isIn a 1 200 = 0 := rng_cases (a := 1) (b := 200) (by decide) (by decide)
  rcases rc with ⟨q1, q2⟩ | ⟨q1, q2, q3⟩ | ⟨n, n1, n2, rfl, q1, q2, q3⟩
  · rw [if_pos q1, if_pos q2]
    exact OpOk.no (i := 0) rfl (by decide) (by decide) (by decide)
  · rw [if_neg q1, if_neg q2, if_pos q3]
    exact OpOk.no (i := 0) rfl (by decide) (by decide) (by decide)
  · rw [if_neg q1, if_pos q2, if_neg q3]
    have s := it_step (nI n).toNatClampNeg w v hR hF
    obtain ⟨t, ht, et⟩ := mol_nI (itMM (nI n).toNatClampNeg v) w21
    exact OpOk.yes (t := t) ((mol_eq s.1 hp).trans et) (by omega) (mol_eq s.1 hp).symm s.1 s.2
end OPV
