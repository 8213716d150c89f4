/-! The ten changes: class and reference refuse alike, or answer alike and leave the same. -/
section OPV
variable {ee : Nat → Int32}
theorem pk_ue {f : Nat → Int32} {k j : Nat} {x : Int32} (h : j = k) : upd f k x j = x := if_pos h
theorem OpOk.no {L : List String} {i : Nat} {E : String} {x ans : Int32} {w w15 v : Nat → Int32} (h : L[i]? = some E) (hi : i < 5) (hx : refE x = some E) (h0 : x < 0) : OpOk ee L (x, w) w w15 ans (upd w15 0 (nI (i + 1))) v v := .inl ⟨i, E, h, hi, hx, h0, rfl, rfl, rfl⟩
theorem OpOk.yes {L : List String} {t : Nat} {x ans : Int32} {w w15 v c d : Nat → Int32} (hx : x = nI t) (ht : t < 2 ^ 31) (ha : ans = x) (hr : Rel c d) (hf : FInv ee d) : OpOk ee L (x, c) w w15 ans w15 v d := by
  subst hx
  exact .inr ⟨refE_nI ht, nI_pos ht, ha, rfl, hr, hf⟩
theorem FInv.low {v v' : Nat → Int32} (h : FInv ee v) (hv : ∀ j, 42 ≤ j → v' j = v j) (h1 : ∀ f, f < 3 → ∃ s, s ≤ 100 ∧ MixS v' (9 + 6 * f) s) (h2 : ∀ f, f < 3 → ∃ s, s ≤ 40 ∧ MixS v' (27 + 5 * f) s)
    (h3 : ∀ f, f < 3 → ∃ t, 20 ≤ t ∧ t ≤ 1500 ∧ v' (13 + 6 * f) = nI t) (h4 : ∀ f, f < 3 → ∃ t, t ≤ 5 ∧ v' (14 + 6 * f) = nI t) (h5 : ∀ f, f < 3 → ∃ t, 20 ≤ t ∧ t ≤ 1500 ∧ v' (31 + 5 * f) = nI t)
    (hs : ∀ j, j < 4 → stk0 v' j - v' (1 + j) + v' (5 + j) = stk0 v j - v (1 + j) + v (5 + j)) : FInv ee v' :=
  ⟨h.1.low hv h1 h2 h3 h4 h5, fun j hj => cons_low hv (hs j hj) (h.2 j hj)⟩
theorem stk0_two {D v : Nat → Int32} {j f l : Nat} (hf : f < 3) (hl : l < 3) (ho : ∀ g, g < 3 → g ≠ f → D (9 + 6 * g + j) = v (9 + 6 * g + j)) (h2 : ∀ g, g < 3 → g ≠ l → D (27 + 5 * g + j) = v (27 + 5 * g + j)) : stk0 D j = stk0 v j + (D (9 + 6 * f + j) - v (9 + 6 * f + j)) + (D (27 + 5 * l + j) - v (27 + 5 * l + j)) := by
  have a0 := ho 0 (by decide)
  have a1 := ho 1 (by decide)
  have a2 := ho 2 (by decide)
  have b0 := h2 0 (by decide)
  have b1 := h2 1 (by decide)
  have b2 := h2 2 (by decide)
  unfold stk0
  rcases lt3 hf with rfl | rfl | rfl <;> rcases lt3 hl with rfl | rfl | rfl
  · rw [a1 (by decide), a2 (by decide), b1 (by decide), b2 (by decide)]; grind
  · rw [a1 (by decide), a2 (by decide), b0 (by decide), b2 (by decide)]; grind
  · rw [a1 (by decide), a2 (by decide), b0 (by decide), b1 (by decide)]; grind
  · rw [a0 (by decide), a2 (by decide), b1 (by decide), b2 (by decide)]; grind
  · rw [a0 (by decide), a2 (by decide), b0 (by decide), b2 (by decide)]; grind
  · rw [a0 (by decide), a2 (by decide), b0 (by decide), b1 (by decide)]; grind
  · rw [a0 (by decide), a1 (by decide), b1 (by decide), b2 (by decide)]; grind
  · rw [a0 (by decide), a1 (by decide), b0 (by decide), b2 (by decide)]; grind
  · rw [a0 (by decide), a1 (by decide), b0 (by decide), b1 (by decide)]; grind
def tmp (T M n s : Nat) : Nat := (T * M + s * n) / (M + n)
theorem blend_ok {w : Nat → Int32} {i M T n s L : Nat} (hw : MixS w i M) (hT : w (i + 4) = nI T) (h1 : 20 ≤ T) (h2 : T ≤ 1500) (h3 : 20 ≤ s) (h4 : s ≤ 1500) (h5 : 0 < M + L + n) (h6 : M + L + n ≤ 1000) : blendR w i (nI L) (nI n) (nI s) = upd w (i + 4) (nI (tmp T (M + L) n s)) := by
  unfold blendR
  rw [hw.sum, hT, nI_add, nI_add, if_neg (show ¬ nI (M + L + n) ≤ 0 from nI_nle h5 (by omega)), heat_nI h1 h2 h3 h4 h5 h6]
  rfl
theorem feeds_ok {u p : Nat → Int32} {f M T n s : Nat} (hu : MixS u (9 + 6 * f) M) (hT : u (9 + 6 * f + 4) = nI T) (hp : MixS p 0 n) (h1 : 20 ≤ T) (h2 : T ≤ 1500) (h3 : 20 ≤ s) (h4 : s ≤ 1500) (h6 : M + n ≤ 900) : (oM_feeds u p f (nI s)).1 = nI (tmp T (M + 10) n s) ∧ (oM_feeds u p f (nI s)).2 (9 + 6 * f + 4) = nI (tmp T (M + 10) n s) ∧ (∀ k, k < 4 → (oM_feeds u p f (nI s)).2 (9 + 6 * f + k) = u (9 + 6 * f + k) + p k) ∧ (∀ j, j < 9 + 6 * f ∨ 9 + 6 * f + 5 ≤ j → (oM_feeds u p f (nI s)).2 j = u j) ∧ MixS (oM_feeds u p f (nI s)).2 (9 + 6 * f) (M + n) := by
  have e : (u (9 + 6 * f + 4) * (oM_mass u (9 + 6 * f) + 10) + nI s * oM_partMass p) / (oM_mass u (9 + 6 * f) + 10 + oM_partMass p) = nI (tmp T (M + 10) n s) := by
    rw [hT, hu.mass, hp.part, show nI M + 10 = nI (M + 10) from nI_add M 10, nI_add]
    exact heat_nI h1 h2 h3 h4 (by omega) (by omega)
  have a : oM_feeds u p f (nI s) = (oM_adds (upd u (9 + 6 * f + 4) (nI (tmp T (M + 10) n s))) p (9 + 6 * f) (9 + 6 * f + 4), oM_adds (upd u (9 + 6 * f + 4) (nI (tmp T (M + 10) n s))) p (9 + 6 * f)) := by
    rw [← e]
    rfl
  rw [a]
  have b : oM_adds (upd u (9 + 6 * f + 4) (nI (tmp T (M + 10) n s))) p (9 + 6 * f) (9 + 6 * f + 4) = nI (tmp T (M + 10) n s) := by rw [adds_ne (by omega), pk_us]
  refine ⟨b, b, fun k hk => ?_, fun j hj => ?_, ?_⟩
  · show oM_adds _ p _ _ = _
    rw [adds_at hk, pk_un (by omega)]
  · show oM_adds _ p _ _ = _
    rw [adds_ne (by omega), pk_un (by omega)]
  · exact (hu.congr fun j hj => pk_un (by omega)).add hp
theorem fills_ok {u p : Nat → Int32} {f M T n s : Nat} (hu : MixS u (27 + 5 * f) M) (hT : u (27 + 5 * f + 4) = nI T) (hp : MixS p 0 n) (h1 : 20 ≤ T) (h2 : T ≤ 1500) (h3 : 20 ≤ s) (h4 : s ≤ 1500) (h5 : 0 < n) (h6 : M + n ≤ 900) : (oM_fills u p f (nI s)).1 = nI (tmp T M n s) ∧ (oM_fills u p f (nI s)).2 (27 + 5 * f + 4) = nI (tmp T M n s) ∧ (∀ k, k < 4 → (oM_fills u p f (nI s)).2 (27 + 5 * f + k) = u (27 + 5 * f + k) + p k) ∧ (∀ j, j < 27 + 5 * f ∨ 27 + 5 * f + 5 ≤ j → (oM_fills u p f (nI s)).2 j = u j) ∧ MixS (oM_fills u p f (nI s)).2 (27 + 5 * f) (M + n) := by
  have e : (u (27 + 5 * f + 4) * oM_mass u (27 + 5 * f) + nI s * oM_partMass p) / (oM_mass u (27 + 5 * f) + oM_partMass p) = nI (tmp T M n s) := by
    rw [hT, hu.mass, hp.part, nI_add]
    exact heat_nI h1 h2 h3 h4 (by omega) (by omega)
  have a : oM_fills u p f (nI s) = (oM_adds (upd u (27 + 5 * f + 4) (nI (tmp T M n s))) p (27 + 5 * f) (27 + 5 * f + 4), oM_adds (upd u (27 + 5 * f + 4) (nI (tmp T M n s))) p (27 + 5 * f)) := by
    rw [← e]
    rfl
  rw [a]
  have b : oM_adds (upd u (27 + 5 * f + 4) (nI (tmp T M n s))) p (27 + 5 * f) (27 + 5 * f + 4) = nI (tmp T M n s) := by rw [adds_ne (by omega), pk_us]
  refine ⟨b, b, fun k hk => ?_, fun j hj => ?_, ?_⟩
  · show oM_adds _ p _ _ = _
    rw [adds_at hk, pk_un (by omega)]
  · show oM_adds _ p _ _ = _
    rw [adds_ne (by omega), pk_un (by omega)]
  · exact (hu.congr fun j hj => pk_un (by omega)).add hp
theorem tmp_bd {T M n s : Nat} (h1 : 20 ≤ T) (h2 : T ≤ 1500) (h3 : 20 ≤ s) (h4 : s ≤ 1500) (h5 : 0 < M + n) : 20 ≤ tmp T M n s ∧ tmp T M n s ≤ 1500 := div_bd h1 h2 h3 h4 h5
theorem chP_at {p : Nat → Int32} {k j : Nat} {x : Int32} (hk : k < 4) (hj : j < 4) : chP p (nI k) x j = if j = k then x else 0 := by
  have e0 : ((0 : Int32) = nI k) = (0 = k) := propext (nI_eq (a := 0) (by decide) (by omega))
  have e1 : ((1 : Int32) = nI k) = (1 = k) := propext (nI_eq (a := 1) (by decide) (by omega))
  have e2 : ((2 : Int32) = nI k) = (2 = k) := propext (nI_eq (a := 2) (by decide) (by omega))
  have e3 : ((3 : Int32) = nI k) = (3 = k) := propext (nI_eq (a := 3) (by decide) (by omega))
  unfold chP
  simp only [e0, e1, e2, e3]
  rcases lt4 hj with rfl | rfl | rfl | rfl <;> simp (disch := omega) only [pk_us, pk_un]
theorem chP_mix {p : Nat → Int32} {k n : Nat} (hk : k < 4) : MixS (chP p (nI k) (nI n)) 0 n := by
  have e : ∀ j, j < 4 → chP p (nI k) (nI n) (0 + j) = nI (if j = k then n else 0) := fun j hj => by
    rw [Nat.zero_add, chP_at hk hj]
    split <;> rfl
  refine ⟨_, _, _, _, e 0 (by decide), e 1 (by decide), e 2 (by decide), e 3 (by decide), ?_⟩
  rcases lt4 hk with rfl | rfl | rfl | rfl <;> simp
theorem fur_one {v v' : Nat → Int32} {f s : Nat} (h : ∀ g, g < 3 → ∃ s, s ≤ 100 ∧ MixS v (9 + 6 * g) s) (hn : MixS v' (9 + 6 * f) s) (hs : s ≤ 100) (ho : ∀ j, 9 ≤ j → j < 27 → j < 9 + 6 * f ∨ 9 + 6 * f + 5 ≤ j → v' j = v j) : ∀ g, g < 3 → ∃ s, s ≤ 100 ∧ MixS v' (9 + 6 * g) s := fun g hg => by
  by_cases e : g = f
  · subst e
    exact ⟨s, hs, hn⟩
  · obtain ⟨s, h1, h2⟩ := h g hg
    exact ⟨s, h1, h2.congr fun j hj => ho _ (by omega) (by omega) (by omega)⟩
theorem lad_one {v v' : Nat → Int32} {f s : Nat} (h : ∀ g, g < 3 → ∃ s, s ≤ 40 ∧ MixS v (27 + 5 * g) s) (hn : MixS v' (27 + 5 * f) s) (hs : s ≤ 40) (ho : ∀ j, 27 ≤ j → j < 42 → j < 27 + 5 * f ∨ 27 + 5 * f + 5 ≤ j → v' j = v j) : ∀ g, g < 3 → ∃ s, s ≤ 40 ∧ MixS v' (27 + 5 * g) s := fun g hg => by
  by_cases e : g = f
  · subst e
    exact ⟨s, hs, hn⟩
  · obtain ⟨s, h1, h2⟩ := h g hg
    exact ⟨s, h1, h2.congr fun j hj => ho _ (by omega) (by omega) (by omega)⟩
theorem op_fire {w v : Nat → Int32} (hR : Rel w v) (hF : FInv ee v) (w15 : Nat → Int32) (a b : Int32) : OpOk ee ["java/lang/IndexOutOfBoundsException", "java/lang/IllegalArgumentException"] (stokeR w a b) w w15 (oM_fires w15 v a b).1 (oM_fires w15 v a b).2.1 v (oM_fires w15 v a b).2.2 := by
  unfold stokeR oM_fires oM_fail
  rcases three_cases a with ⟨h1, h2⟩ | ⟨f, hf, rfl, h1, h2⟩
  · rw [if_neg h1, if_pos h2]
    exact OpOk.no (i := 0) rfl (by decide) (by decide) (by decide)
  · rw [if_pos h1, if_neg h2]
    have rc : (b < 0 ∧ oM_isIn b 0 5 = 0) ∨ (¬ b < 0 ∧ ¬ b ≤ 5 ∧ oM_isIn b 0 5 = 0) ∨ ∃ k, 0 ≤ k ∧ k ≤ 5 ∧ b = nI k ∧ ¬ b < 0 ∧ b ≤ 5 ∧ ¬ oM_isIn b 0 5 = 0 := rng_cases (a := 0) (b := 5) (by decide) (by decide)
    rcases rc with ⟨q1, q2⟩ | ⟨q1, q2, q3⟩ | ⟨lv, -, hlv, rfl, q1, q2, q3⟩
    · rw [if_pos q1, if_pos q2]
      exact OpOk.no (i := 1) rfl (by decide) (by decide) (by decide)
    · rw [if_neg q1, if_neg q2, if_pos q3]
      exact OpOk.no (i := 1) rfl (by decide) (by decide) (by decide)
    · rw [if_neg q1, if_pos q2, if_neg q3, nI_clamp (n := f) (by omega), show 9 + 6 * f + 5 = 14 + 6 * f by omega]
      obtain ⟨a1, a2, -, -, a5, a6, a7⟩ := hF.1
      obtain ⟨t, ht, e⟩ := a6 f hf
      refine OpOk.yes (t := t) ((hR.1 _ (by omega)).trans e) (by omega) (hR.1 _ (by omega)).symm (hR.low (fun j hj => pk_un (by omega)) (fun j hj => pk_un (by omega)) fun j hj => ?_) (hF.low (fun j hj => pk_un (by omega)) ?_ ?_ ?_ ?_ ?_ ?_)
      · show upd w (14 + 6 * f) (nI lv) j = upd v (14 + 6 * f) (nI lv) j
        by_cases z : j = 14 + 6 * f
        · rw [z, pk_us, pk_us]
        · rw [pk_un z, pk_un z, hR.1 j (by omega)]
      · exact fun g hg => (a1 g hg).imp fun s hs => ⟨hs.1, hs.2.congr fun j hj => pk_un (by omega)⟩
      · exact fun g hg => (a2 g hg).imp fun s hs => ⟨hs.1, hs.2.congr fun j hj => pk_un (by omega)⟩
      · exact fun g hg => (a5 g hg).imp fun s hs => ⟨hs.1, hs.2.1, (pk_un (by omega)).trans hs.2.2⟩
      · intro g hg
        by_cases q : g = f
        · subst q
          exact ⟨lv, hlv, pk_us⟩
        · exact (a6 g hg).imp fun s hs => ⟨hs.1, (pk_un (by omega)).trans hs.2⟩
      · exact fun g hg => (a7 g hg).imp fun s hs => ⟨hs.1, hs.2.1, (pk_un (by omega)).trans hs.2.2⟩
      · intro j hj
        unfold stk0
        simp (disch := omega) only [pk_un]
def asW (w : Nat → Int32) (f k t : Nat) (x : Int32) : Nat → Int32 := upd (upd (upd w (9 + 6 * f + 4) (nI t)) (9 + 6 * f + k) (w (9 + 6 * f + k) + x)) (1 + k) (w (1 + k) + x)
theorem op_charge {w v : Nat → Int32} (hR : Rel w v) (hF : FInv ee v) (w15 w20 : Nat → Int32) (a b c : Int32) : OpOk ee ["java/lang/IndexOutOfBoundsException", "java/lang/IllegalArgumentException", "java/lang/UnsupportedOperationException"] (addSolidR w a b c) w w15 (oM_charges w15 v w20 a (oM_kind b) c).1 (oM_charges w15 v w20 a (oM_kind b) c).2.1 v (oM_charges w15 v w20 a (oM_kind b) c).2.2.1 := by
  unfold addSolidR oM_charges oM_fail
  rcases three_cases a with ⟨h1, h2⟩ | ⟨f, hf, rfl, h1, h2⟩
  · rw [if_neg h1, if_pos h2]
    exact OpOk.no (i := 0) rfl (by decide) (by decide) (by decide)
  · rw [if_pos h1, if_neg h2, mat_kind]
    rcases kind_cases b with hk | ⟨k, hk, ek⟩
    · rw [if_pos hk, hk, if_pos (show (-1 : Int32) < 0 from by decide)]
      exact OpOk.no (i := 1) rfl (by decide) (by decide) (by decide)
    · rw [ek, if_neg (show ¬ nI k = -1 from fun q => by
        have e := nI_toInt (n := k) (by omega)
        rw [q, show (-1 : Int32).toInt = -1 from by decide] at e
        omega), if_neg (nI_pos (n := k) (by omega))]
      have rc : (c < 1 ∧ oM_isIn c 1 50 = 0) ∨ (¬ c < 1 ∧ ¬ c ≤ 50 ∧ oM_isIn c 1 50 = 0) ∨ ∃ k, 1 ≤ k ∧ k ≤ 50 ∧ c = nI k ∧ ¬ c < 1 ∧ c ≤ 50 ∧ ¬ oM_isIn c 1 50 = 0 := rng_cases (a := 1) (b := 50) (by decide) (by decide)
      rcases rc with ⟨q1, q2⟩ | ⟨q1, q2, q3⟩ | ⟨n, n1, n2, rfl, q1, q2, q3⟩
      · rw [if_pos q1, if_pos q2]
        exact OpOk.no (i := 1) rfl (by decide) (by decide) (by decide)
      · rw [if_neg q1, if_neg q2, if_pos q3]
        exact OpOk.no (i := 1) rfl (by decide) (by decide) (by decide)
      · rw [if_neg q1, if_pos q2, if_neg q3, nI_clamp (n := f) (by omega), nI_clamp (n := k) (by omega)]
        obtain ⟨a1, a2, -, -, a5, a6, a7⟩ := hF.1
        obtain ⟨M, hM, mv⟩ := a1 f hf
        obtain ⟨T, T1, T2, eT⟩ := a5 f hf
        have mw : MixS w (9 + 6 * f) M := mv.congr fun j hj => hR.1 _ (by omega)
        rw [mw.sum, mv.mass]
        by_cases hs : nI M + nI n ≤ 100
        · rw [if_pos hs, if_pos hs]
          have hs2 : M + n ≤ 100 := (nI_leI (b := 100) (by omega) (by decide)).mp (by rw [← nI_add]; exact hs)
          have eT' : v (9 + 6 * f + 4) = nI T := by rw [← eT]; congr 1; omega
          have bl : blendR w (9 + 6 * f) 10 (nI n) 20 = upd w (9 + 6 * f + 4) (nI (tmp T (M + 10) n 20)) := blend_ok (L := 10) (s := 20) mw ((hR.1 _ (by omega)).trans eT') T1 T2 (by decide) (by decide) (by omega) (by omega)
          obtain ⟨U, hU⟩ : ∃ U, U = upd v (1 + k) (v (1 + k) + nI n) := ⟨_, rfl⟩
          have Uo : ∀ j, j ≠ 1 + k → U j = v j := fun j hj => by rw [hU]; exact pk_un hj
          have fo := feeds_ok (u := U) (p := chP w20 (nI k) (nI n)) (f := f) (M := M) (T := T) (n := n) (s := 20) (mv.congr fun j hj => Uo _ (by omega)) ((Uo _ (by omega)).trans eT') (chP_mix hk) T1 T2 (by decide) (by decide) (by omega)
          have tb := tmp_bd (T := T) (M := M + 10) (n := n) (s := 20) T1 T2 (by decide) (by decide) (by omega)
          rw [← hU]
          obtain ⟨t, ht⟩ : ∃ t, t = tmp T (M + 10) n 20 := ⟨_, rfl⟩
          obtain ⟨D, hD⟩ : ∃ D, D = oM_feeds U (chP w20 (nI k) (nI n)) f 20 := ⟨_, rfl⟩
          rw [← hD]
          rw [bl]
          have fo : D.1 = nI t ∧ D.2 (9 + 6 * f + 4) = nI t ∧ (∀ j, j < 4 → D.2 (9 + 6 * f + j) = U (9 + 6 * f + j) + chP w20 (nI k) (nI n) j) ∧ (∀ j, j < 9 + 6 * f ∨ 9 + 6 * f + 5 ≤ j → D.2 j = U j) ∧ MixS D.2 (9 + 6 * f) (M + n) := by rw [hD, ht]; exact fo
          rw [← ht] at tb ⊢
          obtain ⟨f1, f2, f3, f4, f5⟩ := fo
          have f3' : ∀ j, j < 4 → D.2 (9 + 6 * f + j) = v (9 + 6 * f + j) + (if j = k then nI n else 0) := fun j hj => by rw [f3 j hj, Uo _ (by omega), chP_at hk hj]
          obtain ⟨Cw, hC⟩ : ∃ Cw, Cw = asW w f k t (nI n) := ⟨_, rfl⟩
          have hC' : upd (upd (upd w (9 + 6 * f + 4) (nI t)) (9 + 6 * f + k) (upd w (9 + 6 * f + 4) (nI t) (9 + 6 * f + k) + nI n)) (1 + k) (upd (upd w (9 + 6 * f + 4) (nI t)) (9 + 6 * f + k) (upd w (9 + 6 * f + 4) (nI t) (9 + 6 * f + k) + nI n) (1 + k) + nI n) = Cw := by
            rw [hC]
            unfold asW
            simp (disch := omega) only [pk_un]
          show OpOk ee _ (upd (upd (upd w (9 + 6 * f + 4) (nI t)) (9 + 6 * f + k) (upd w (9 + 6 * f + 4) (nI t) (9 + 6 * f + k) + nI n)) (1 + k) (upd (upd w (9 + 6 * f + 4) (nI t)) (9 + 6 * f + k) (upd w (9 + 6 * f + 4) (nI t) (9 + 6 * f + k) + nI n) (1 + k) + nI n) (9 + 6 * f + 4), upd (upd (upd w (9 + 6 * f + 4) (nI t)) (9 + 6 * f + k) (upd w (9 + 6 * f + 4) (nI t) (9 + 6 * f + k) + nI n)) (1 + k) (upd (upd w (9 + 6 * f + 4) (nI t)) (9 + 6 * f + k) (upd w (9 + 6 * f + 4) (nI t) (9 + 6 * f + k) + nI n) (1 + k) + nI n)) w w15 D.1 w15 v D.2
          rw [hC']
          have c4 : Cw (9 + 6 * f + 4) = nI t := by
            rw [hC]
            unfold asW
            simp (disch := omega) only [pk_ue, pk_un]
          have cm : ∀ j, j < 4 → Cw (9 + 6 * f + j) = w (9 + 6 * f + j) + (if j = k then nI n else 0) := fun j hj => by
            rw [hC]
            unfold asW
            by_cases q : j = k
            · rw [q, if_pos rfl]
              simp (disch := omega) only [pk_ue, pk_un]
            · rw [if_neg q, Int32.add_zero]
              simp (disch := omega) only [pk_un]
          have cc : Cw (1 + k) = w (1 + k) + nI n := by
            rw [hC]
            exact pk_us
          have co : ∀ j, j ≠ 1 + k → j < 9 + 6 * f ∨ 9 + 6 * f + 5 ≤ j → Cw j = w j := fun j h1 h2 => by
            rw [hC]
            unfold asW
            simp (disch := omega) only [pk_un]
          have dc : D.2 (1 + k) = v (1 + k) + nI n := by rw [f4 _ (by omega), hU, pk_us]
          refine OpOk.yes (t := t) c4 (by omega) (f1.trans c4.symm) (hR.low (fun j hj => co j (by omega) (by omega)) (fun j hj => (f4 j (by omega)).trans (Uo j (by omega))) fun j hj => ?_) (hF.low (fun j hj => (f4 j (by omega)).trans (Uo j (by omega))) (fur_one a1 f5 hs2 fun j h1 h2 h3 => (f4 j h3).trans (Uo j (by omega))) ?_ ?_ ?_ ?_ ?_)
          · by_cases q1 : j = 1 + k
            · rw [q1, cc, dc, hR.1 _ (by omega)]
            · by_cases q2 : j < 9 + 6 * f ∨ 9 + 6 * f + 5 ≤ j
              · rw [co j q1 q2, f4 j q2, Uo j q1, hR.1 j (by omega)]
              · by_cases q3 : j = 9 + 6 * f + 4
                · rw [q3, c4, f2]
                · obtain ⟨i, rfl⟩ : ∃ i, j = 9 + 6 * f + i := ⟨j - (9 + 6 * f), by omega⟩
                  rw [cm i (by omega), f3' i (by omega), hR.1 _ (by omega)]
          · exact fun g hg => (a2 g hg).imp fun s hs => ⟨hs.1, hs.2.congr fun j hj => (f4 _ (by omega)).trans (Uo _ (by omega))⟩
          · intro g hg
            by_cases q : g = f
            · subst q
              exact ⟨t, tb.1, tb.2, by rw [show 13 + 6 * g = 9 + 6 * g + 4 by omega]; exact f2⟩
            · exact (a5 g hg).imp fun s hs => ⟨hs.1, hs.2.1, (f4 _ (by omega)).trans ((Uo _ (by omega)).trans hs.2.2)⟩
          · exact fun g hg => (a6 g hg).imp fun s hs => ⟨hs.1, (f4 _ (by omega)).trans ((Uo _ (by omega)).trans hs.2)⟩
          · exact fun g hg => (a7 g hg).imp fun s hs => ⟨hs.1, hs.2.1, (f4 _ (by omega)).trans ((Uo _ (by omega)).trans hs.2.2)⟩
          · intro j hj
            have s1 := stk0_two (D := D.2) (v := v) (j := j) (l := 0) hf (by decide) (fun g hg q => (f4 _ (by omega)).trans (Uo _ (by omega))) (fun g hg q => (f4 _ (by omega)).trans (Uo _ (by omega)))
            have s2 : D.2 (27 + 5 * 0 + j) = v (27 + 5 * 0 + j) := (f4 _ (by omega)).trans (Uo _ (by omega))
            have s3 : D.2 (5 + j) = v (5 + j) := (f4 _ (by omega)).trans (Uo _ (by omega))
            rw [s1, s2, s3, f3' j hj]
            by_cases q : j = k
            · rw [if_pos q, q, dc]
              grind
            · rw [if_neg q, (f4 _ (by omega) : D.2 (1 + j) = U (1 + j)), Uo _ (by omega)]
              grind
        · rw [if_neg hs, if_neg hs]
          exact OpOk.no (i := 2) rfl (by decide) (by decide) (by decide)
end OPV
