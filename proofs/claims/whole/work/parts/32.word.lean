/-! The words of a script: the reference's, letter by letter, and the class's, word by word, say the same. -/
def wlen (i : Nat) : Nat := strL.getD i 0
theorem wa_tab : ∀ i, i < 10 → wa (i + 1) = wa i + wlen i := by decide +kernel
theorem wc_tab : ∀ i, i < 10 → ∀ k, k < 7 → k < wlen i → wcc (wa i + k) = strn i k := by decide +kernel
theorem wl_tab : ∀ i, i < 10 → 1 ≤ wlen i ∧ wlen i ≤ 7 := by decide +kernel
theorem wn_tab : ∀ i, i < 10 → ∀ k, k < 7 → strn i k < 128 := by decide +kernel
theorem wne_tab : ∀ i, i < 10 → ∀ j, j < 10 → i ≠ j → ∃ k, k < 7 ∧ (k < wlen i ∧ k < wlen j ∧ strn i k ≠ strn j k) := by decide +kernel
theorem nI_neg {c : Nat} (h : c < 128) : ¬ nI c = -1 := by
  have h9 : ∀ c, c < 128 → ¬ nI c = -1 := by decide
  exact h9 c h
theorem mlF_spec {t : Nat → Int32} {L P si : Nat} (hsi : si < 10) (hL : L ≤ 60) : ∀ (q k : Nat), P + k ≤ L → k + q ≤ 7 →
    k ≤ mlF t L P si q k ∧ mlF t L P si q k ≤ k + q ∧ (∀ j, k ≤ j → j < mlF t L P si q k → sgM t L (P + j) = nI (strn si j)) ∧ (mlF t L P si q k < k + q → ¬ sgM t L (P + mlF t L P si q k) = nI (strn si (mlF t L P si q k)))
  | 0, k, _, _ => ⟨Nat.le_refl _, Nat.le_refl _, fun j h1 h2 => absurd (Nat.lt_of_le_of_lt h1 h2) (Nat.lt_irrefl _), fun h => absurd h (Nat.lt_irrefl _)⟩
  | q + 1, k, h, h7 => by
    by_cases h1 : L ≤ P + k
    · have e : mlF t L P si (q + 1) k = k := if_pos ((nI_leI (by omega) (by omega)).mpr h1)
      rw [e]
      refine ⟨Nat.le_refl _, by omega, fun j h2 h3 => absurd (Nat.lt_of_le_of_lt h2 h3) (Nat.lt_irrefl _), fun _ => ?_⟩
      rw [show sgM t L (P + k) = -1 from if_pos h1]
      exact fun q9 => nI_neg (wn_tab si hsi k (by omega)) q9.symm
    · have hs : sgM t L (P + k) = t (P + k) := if_neg h1
      have h1' : ¬ nI L ≤ nI (P + k) := fun z => h1 ((nI_leI (by omega) (by omega)).mp z)
      by_cases h2 : t (P + k) = nI (strn si k)
      · have e : mlF t L P si (q + 1) k = mlF t L P si q (k + 1) := (if_neg h1').trans (if_pos h2)
        rw [e]
        have ih := mlF_spec (t := t) hsi hL q (k + 1) (show P + (k + 1) ≤ L by omega) (by omega)
        refine ⟨by omega, by omega, fun j h3 h4 => ?_, fun h5 => ih.2.2.2 (by omega)⟩
        by_cases h6 : j = k
        · subst h6
          exact hs.trans h2
        · exact ih.2.2.1 j (by omega) h4
      · have e : mlF t L P si (q + 1) k = k := (if_neg h1').trans (if_neg h2)
        rw [e]
        exact ⟨Nat.le_refl _, by omega, fun j h2 h3 => absurd (Nat.lt_of_le_of_lt h2 h3) (Nat.lt_irrefl _), fun _ q9 => h2 (hs.symm.trans q9)⟩
theorem mlN_spec {t : Nat → Int32} {L P si : Nat} (hsi : si < 10) (hL : L ≤ 60) (hP : P ≤ L) :
    mlN t L P si ≤ wlen si ∧ (∀ j, j < mlN t L P si → sgM t L (P + j) = nI (strn si j)) ∧ (mlN t L P si < wlen si → ¬ sgM t L (P + mlN t L P si) = nI (strn si (mlN t L P si))) := by
  have h := mlF_spec (t := t) (P := P) hsi hL (wlen si) 0 (by omega) (by have := wl_tab si hsi; omega)
  rw [Nat.zero_add] at h
  exact ⟨h.2.1, fun j hj => h.2.2.1 j (Nat.zero_le _) hj, h.2.2.2⟩
/-- at most one word is there whole -/
theorem full_one {t : Nat → Int32} {L P i j : Nat} (hi : i < 10) (hj : j < 10) (hL : L ≤ 60) (hP : P ≤ L) (fi : mlN t L P i = wlen i) (fj : mlN t L P j = wlen j) : i = j := by
  by_cases h : i = j
  · exact h
  · obtain ⟨k, k7, ki, kj, hne⟩ := wne_tab i hi j hj h
    have a := (mlN_spec (t := t) hi hL hP).2.1 k (by omega)
    have b := (mlN_spec (t := t) hj hL hP).2.1 k (by omega)
    exact absurd ((nI_eq (by have := wn_tab i hi k k7; omega) (by have := wn_tab j hj k k7; omega)).mp (a.symm.trans b)) hne
def b01 (c : Prop) [Decidable c] : Int32 := if c then 1 else 0
theorem cA_at {t : Nat → Int32} {L P n w : Nat} (hw : w < 10) (hL : L ≤ 60) (hP : P ≤ L) (hn : n ≤ 7) : b01 (n ≤ mlN t L P w) &&& cA n (sgM t L (P + n)) w = b01 (n + 1 ≤ mlN t L P w) := by
  have hs := mlN_spec (t := t) hw hL hP
  have hl := wl_tab w hw
  have ht := wa_tab w hw
  have hwa := wa_le w
  unfold b01
  by_cases h : n ≤ mlN t L P w
  · rw [if_pos h]
    unfold cA
    by_cases h2 : wlen w ≤ n
    · rw [if_pos ((nI_leI (by have := wa_le (w + 1); omega) (by omega)).mpr (by omega)), if_neg (by omega)]
      rfl
    · rw [if_neg (fun z => h2 (by have := (nI_leI (a := wa (w + 1)) (b := wa w + n) (by have := wa_le (w + 1); omega) (by omega)).mp z; omega)), wc_tab w hw n (by omega) (by omega)]
      by_cases h3 : n + 1 ≤ mlN t L P w
      · rw [if_pos (hs.2.1 n (by omega)).symm, if_pos h3]
        rfl
      · have e : mlN t L P w = n := by omega
        have h4 := hs.2.2 (by omega)
        rw [e] at h4
        rw [if_neg (fun z => h4 z.symm), if_neg h3]
        rfl
  · rw [if_neg h, if_neg (by omega), Int32.zero_and]
theorem b01_1 {c : Prop} [Decidable c] : b01 c = 1 ↔ c := by
  unfold b01
  by_cases h : c
  · rw [if_pos h]
    exact ⟨fun _ => h, fun _ => rfl⟩
  · rw [if_neg h]
    exact ⟨fun q => absurd q (by decide), fun q => absurd q h⟩
theorem laA_spec {t z : Nat → Int32} {L P n : Nat} (hL : L ≤ 60) (hP : P ≤ L) (hn : n ≤ 7) (hz : ∀ w, w < 10 → z w = b01 (n ≤ mlN t L P w)) : ∀ k, k ≤ 10 →
    (∀ w, w < 10 → (laA z n (sgM t L (P + n)) k).1 w = if w < k then b01 (n + 1 ≤ mlN t L P w) else z w) ∧
    ((∀ w, w < k → ¬ n + 1 ≤ mlN t L P w) → (laA z n (sgM t L (P + n)) k).2 = 0) ∧ ((∃ w, w < k ∧ n + 1 ≤ mlN t L P w) → ¬ (laA z n (sgM t L (P + n)) k).2 = 0) ∧ ((laA z n (sgM t L (P + n)) k).2 = 0 ∨ (laA z n (sgM t L (P + n)) k).2 = 1)
  | 0, _ => ⟨fun w _ => (if_neg (Nat.not_lt_zero w)).symm, fun _ => rfl, fun ⟨w, h, _⟩ => absurd h (Nat.not_lt_zero w), .inl rfl⟩
  | k + 1, hk => by
    obtain ⟨i1, i2, i3, i4⟩ := laA_spec hL hP hn hz k (by omega)
    obtain ⟨y, hy⟩ : ∃ y, y = laA z n (sgM t L (P + n)) k := ⟨_, rfl⟩
    rw [← hy] at i1 i2 i3 i4
    have e : laA z n (sgM t L (P + n)) (k + 1) = (upd y.1 k (y.1 k &&& cA n (sgM t L (P + n)) k), y.2 ||| (if upd y.1 k (y.1 k &&& cA n (sgM t L (P + n)) k) k = 1 then 1 else 0)) := by rw [hy]; rfl
    have ek : y.1 k &&& cA n (sgM t L (P + n)) k = b01 (n + 1 ≤ mlN t L P k) := by
      rw [i1 k (by omega), if_neg (Nat.lt_irrefl _), hz k (by omega)]
      exact cA_at (by omega) hL hP hn
    rw [e, ek, pk_us]
    have e2 : (if b01 (n + 1 ≤ mlN t L P k) = 1 then (1 : Int32) else 0) = b01 (n + 1 ≤ mlN t L P k) := by
      unfold b01
      by_cases h : n + 1 ≤ mlN t L P k
      · rw [if_pos h]
        rfl
      · rw [if_neg h]
        rfl
    rw [e2]
    refine ⟨fun w hw => ?_, fun h => ?_, fun ⟨w, h1, h2⟩ => ?_, ?_⟩
    · by_cases h1 : w = k
      · subst h1
        rw [if_pos (Nat.lt_succ_self _)]
        exact pk_us
      · show upd y.1 k _ w = _
        rw [pk_un h1, i1 w hw]
        by_cases h2 : w < k
        · rw [if_pos h2, if_pos (by omega)]
        · rw [if_neg h2, if_neg (by omega)]
    · show y.2 ||| b01 _ = 0
      rw [i2 (fun w hw => h w (by omega))]
      unfold b01
      rw [if_neg (h k (by omega))]
      rfl
    · show ¬ y.2 ||| b01 _ = 0
      by_cases h3 : w = k
      · subst h3
        unfold b01
        rw [if_pos h2]
        rcases i4 with i4 | i4
        · rw [i4]
          decide
        · rw [i4]
          decide
      · have i5 := i3 ⟨w, by omega, h2⟩
        rcases i4 with i4 | i4
        · exact absurd i4 i5
        · rw [i4]
          unfold b01
          split
          · decide
          · decide
    · show y.2 ||| b01 _ = 0 ∨ y.2 ||| b01 _ = 1
      unfold b01
      rcases i4 with i4 | i4
      · rw [i4]
        split
        · exact .inr (by decide)
        · exact .inl (by decide)
      · rw [i4]
        split
        · exact .inr (by decide)
        · exact .inr (by decide)
theorem lbB_spec {t z : Nat → Int32} {L P n : Nat} {iv : Int32} (hn : n ≤ 8) (hz : ∀ w, w < 10 → z w = b01 (n ≤ mlN t L P w)) : ∀ k, k ≤ 10 →
    ((∀ w, w < k → ¬ (n ≤ mlN t L P w ∧ wlen w = n)) → lbB z n iv k = iv) ∧
    (∀ w0, w0 < k → n ≤ mlN t L P w0 → wlen w0 = n → (∀ w, w < k → n ≤ mlN t L P w → wlen w = n → w = w0) → lbB z n iv k = nI w0)
  | 0, _ => ⟨fun _ => rfl, fun w0 h => absurd h (Nat.not_lt_zero _)⟩
  | k + 1, hk => by
    obtain ⟨i1, i2⟩ := lbB_spec (iv := iv) hn hz k (by omega)
    have hwa := wa_le k
    have hwa2 := wa_le (k + 1)
    have ht := wa_tab k (by omega)
    have c1 : z k = 1 ↔ n ≤ mlN t L P k := by rw [hz k (by omega)]; exact b01_1
    have c2 : nI (wa k + n) = nI (wa (k + 1)) ↔ wlen k = n := by
      rw [nI_eq (by omega) (by omega)]
      omega
    have e : lbB z n iv (k + 1) = if z k = 1 then (if nI (wa k + n) = nI (wa (k + 1)) then nI k else lbB z n iv k) else lbB z n iv k := rfl
    by_cases h : n ≤ mlN t L P k ∧ wlen k = n
    · have e2 : lbB z n iv (k + 1) = nI k := by rw [e, if_pos (c1.mpr h.1), if_pos (c2.mpr h.2)]
      rw [e2]
      exact ⟨fun h2 => absurd h (h2 k (by omega)), fun w0 h1 h2 h3 h4 => by rw [h4 k (by omega) h.1 h.2]⟩
    · have e2 : lbB z n iv (k + 1) = lbB z n iv k := by
        rw [e]
        by_cases h2 : z k = 1
        · rw [if_pos h2, if_neg (fun q => h ⟨c1.mp h2, c2.mp q⟩)]
        · rw [if_neg h2]
      rw [e2]
      refine ⟨fun h2 => i1 fun w hw => h2 w (by omega), fun w0 h1 h2 h3 h4 => i2 w0 ?_ h2 h3 fun w hw => h4 w (by omega)⟩
      rcases Nat.lt_succ_iff_lt_or_eq.mp h1 with h5 | h5
      · exact h5
      · subst h5
        exact absurd ⟨h2, h3⟩ h
theorem wlL_spec {t : Nat → Int32} {L P : Nat} (hL : L ≤ 60) (hP : P ≤ L) : ∀ (q n : Nat) (z : Nat → Int32), n + q = 8 → n ≤ 7 → (∀ w, w < 10 → z w = b01 (n ≤ mlN t L P w)) → (∀ w, w < 10 → mlN t L P w = wlen w → n < wlen w) → (∃ w, w < 10 ∧ n ≤ mlN t L P w) →
    (∀ w0, w0 < 10 → mlN t L P w0 = wlen w0 → ∃ z', wlL t L P q n z (-1) = (nI w0, (P + wlen w0, (0, z')))) ∧
    (∀ M, (∀ w, w < 10 → ¬ mlN t L P w = wlen w) → (∀ w, w < 10 → mlN t L P w ≤ M) → (∃ w, w < 10 ∧ mlN t L P w = M) → ∃ z', wlL t L P q n z (-1) = (-1, (P + M, (1, z'))))
  | 0, n, _, h8, h7, _, _, _ => absurd h7 (by omega)
  | q + 1, n, z, h8, h7, hz, hfull, hex => by
    obtain ⟨a1, a2, a3, _⟩ := laA_spec hL hP h7 hz 10 (Nat.le_refl _)
    have hz' : ∀ w, w < 10 → (laA z n (sgM t L (P + n)) 10).1 w = b01 (n + 1 ≤ mlN t L P w) := fun w hw => by rw [a1 w hw, if_pos hw]
    obtain ⟨b1, b2⟩ := lbB_spec (t := t) (L := L) (P := P) (n := n + 1) (iv := -1) (by omega) hz' 10 (Nat.le_refl _)
    by_cases hmo : (laA z n (sgM t L (P + n)) 10).2 = 0
    · have hall : ∀ w, w < 10 → mlN t L P w ≤ n := fun w hw => Nat.le_of_not_lt fun h => a3 ⟨w, hw, h⟩ hmo
      have hb : lbB (laA z n (sgM t L (P + n)) 10).1 (n + 1) (-1) 10 = -1 := b1 fun w hw h => by
        have := hall w hw
        omega
      have e : wlL t L P (q + 1) n z (-1) = (-1, (P + n, (1, (laA z n (sgM t L (P + n)) 10).1))) := by
        rw [wlL, if_pos hmo, hb]
      rw [e]
      refine ⟨fun w0 h1 h2 => ?_, fun M _ h2 h3 => ?_⟩
      · have := hall w0 h1
        have := hfull w0 h1 h2
        omega
      · obtain ⟨w, hw, hwM⟩ := h3
        obtain ⟨w', hw', hwn⟩ := hex
        have k1 := hall w hw
        have k2 := h2 w' hw'
        rw [show M = n by omega]
        exact ⟨_, rfl⟩
    · have hex' : ∃ w, w < 10 ∧ n + 1 ≤ mlN t L P w := by
        refine Classical.byContradiction fun hc => hmo (a2 fun w hw h => hc ⟨w, hw, h⟩)
      by_cases hf : ∃ w1, w1 < 10 ∧ n + 1 ≤ mlN t L P w1 ∧ wlen w1 = n + 1
      · obtain ⟨w1, h1, h2, h3⟩ := hf
        have f1 : mlN t L P w1 = wlen w1 := Nat.le_antisymm (mlN_spec h1 hL hP).1 (by omega)
        have hb := b2 w1 h1 h2 h3 fun w hw k1 k2 => full_one hw h1 hL hP (Nat.le_antisymm (mlN_spec hw hL hP).1 (by omega)) f1
        have e : wlL t L P (q + 1) n z (-1) = (nI w1, (P + n + 1, (0, (laA z n (sgM t L (P + n)) 10).1))) := by
          rw [wlL, if_neg hmo, hb, if_pos (nI_ge0 (by omega))]
        rw [e]
        refine ⟨fun w0 k1 k2 => ?_, fun M k1 _ _ => absurd f1 (k1 w1 h1)⟩
        rw [full_one k1 h1 hL hP k2 f1, h3]
        exact ⟨_, rfl⟩
      · have hb : lbB (laA z n (sgM t L (P + n)) 10).1 (n + 1) (-1) 10 = -1 := b1 fun w hw h => hf ⟨w, hw, h⟩
        have e : wlL t L P (q + 1) n z (-1) = wlL t L P q (n + 1) (laA z n (sgM t L (P + n)) 10).1 (-1) := by
          rw [wlL, if_neg hmo, hb, if_neg (by decide)]
        rw [e]
        obtain ⟨w, hw, hwn⟩ := hex'
        have l1 := (mlN_spec (t := t) hw hL hP).1
        have l2 := (wl_tab w hw).2
        refine wlL_spec hL hP q (n + 1) _ (by omega) (by omega) hz' (fun w2 h1 h2 => ?_) ⟨w, hw, hwn⟩
        have h3 := hfull w2 h1 h2
        by_cases h4 : wlen w2 = n + 1
        · exact absurd ⟨w2, h1, by omega, h4⟩ hf
        · omega
theorem wdF_spec {t : Nat → Int32} {L P : Nat} (hL : L ≤ 60) (hP : P ≤ L) : ∀ (q i sh : Nat), i + q = 10 →
    (∀ w0, i ≤ w0 → w0 < 10 → mlN t L P w0 = wlen w0 → wdF t L P q i sh = (some w0, P + wlen w0)) ∧
    ((∀ w, i ≤ w → w < 10 → ¬ mlN t L P w = wlen w) → ∃ M, wdF t L P q i sh = (none, P + M) ∧ sh ≤ M ∧ (∀ w, i ≤ w → w < 10 → mlN t L P w ≤ M) ∧ (M = sh ∨ ∃ w, w < 10 ∧ mlN t L P w = M))
  | 0, i, sh, h => ⟨fun w0 h1 h2 => absurd h1 (by omega), fun _ => ⟨sh, rfl, Nat.le_refl _, fun w h1 h2 => absurd h1 (by omega), .inl rfl⟩⟩
  | q + 1, i, sh, h => by
    have hl := (mlN_spec (t := t) (show i < 10 by omega) hL hP).1
    have hw := wl_tab i (by omega)
    have c : nI (mlN t L P i) = nI (strL.getD i 0) ↔ mlN t L P i = wlen i := nI_eq (by omega) (by show wlen i < _; omega)
    by_cases h1 : mlN t L P i = wlen i
    · have e : wdF t L P (q + 1) i sh = (some i, P + mlN t L P i) := if_pos (c.mpr h1)
      rw [e]
      refine ⟨fun w0 h2 h3 h4 => ?_, fun h2 => absurd h1 (h2 i (Nat.le_refl _) (by omega))⟩
      rw [← full_one (show i < 10 by omega) h3 hL hP h1 h4, h1]
    · have e : wdF t L P (q + 1) i sh = wdF t L P q (i + 1) (max sh (mlN t L P i)) := if_neg fun z => h1 (c.mp z)
      rw [e]
      obtain ⟨i1, i2⟩ := wdF_spec (t := t) hL hP q (i + 1) (max sh (mlN t L P i)) (by omega)
      refine ⟨fun w0 h2 h3 h4 => i1 w0 (Nat.lt_of_le_of_ne h2 fun z => h1 (by rw [z]; exact h4)) h3 h4, fun h2 => ?_⟩
      obtain ⟨M, m1, m2, m3, m4⟩ := i2 fun w k1 k2 => h2 w (by omega) k2
      refine ⟨M, m1, by omega, fun w k1 k2 => ?_, ?_⟩
      · by_cases k3 : w = i
        · subst k3
          omega
        · exact m3 w (by omega) k2
      · rcases m4 with m4 | m4
        · by_cases k : sh ≤ mlN t L P i
          · exact .inr ⟨i, by omega, by omega⟩
          · exact .inl (by omega)
        · exact .inr m4
theorem oneR_at (z : Nat → Int32) : ∀ w, w < 10 → oneR z w = 1
  | 0, _ => rfl
  | 1, _ => rfl
  | 2, _ => rfl
  | 3, _ => rfl
  | 4, _ => rfl
  | 5, _ => rfl
  | 6, _ => rfl
  | 7, _ => rfl
  | 8, _ => rfl
  | 9, _ => rfl
  | n + 10, h => absurd h (by omega)
theorem wd_pre {t : Nat → Int32} {L P : Nat} (z : Nat → Int32) : (∀ w, w < 10 → oneR z w = b01 (0 ≤ mlN t L P w)) := fun w hw => (oneR_at z w hw).trans (if_pos (Nat.zero_le _)).symm
theorem wd_some {t : Nat → Int32} {L P k : Nat} (hL : L ≤ 60) (hP : P ≤ L) (z : Nat → Int32) (h : (wordR t L P).1 = some k) : ∃ z', wdM t L P z = (nI k, ((wordR t L P).2, (0, z'))) := by
  have hw := wdF_spec (t := t) hL hP 10 0 0 rfl
  have hm := (wlL_spec (t := t) hL hP 8 0 (oneR z) rfl (by decide) (wd_pre z) (fun w hw _ => (wl_tab w hw).1) ⟨0, by decide, Nat.zero_le _⟩)
  by_cases hf : ∃ w, w < 10 ∧ mlN t L P w = wlen w
  · obtain ⟨w, h1, h2⟩ := hf
    have e := hw.1 w (Nat.zero_le _) h1 h2
    have e' : wordR t L P = (some w, P + wlen w) := e
    rw [e'] at h ⊢
    cases h
    exact hm.1 _ h1 h2
  · obtain ⟨M, m1, _⟩ := hw.2 fun w _ h2 h3 => hf ⟨w, h2, h3⟩
    have e' : wordR t L P = (none, P + M) := m1
    rw [e'] at h
    cases h
theorem wd_none {t : Nat → Int32} {L P : Nat} (hL : L ≤ 60) (hP : P ≤ L) (z : Nat → Int32) (h : (wordR t L P).1 = none) : ∃ z', wdM t L P z = (-1, ((wordR t L P).2, (1, z'))) := by
  have hw := wdF_spec (t := t) hL hP 10 0 0 rfl
  have hm := (wlL_spec (t := t) hL hP 8 0 (oneR z) rfl (by decide) (wd_pre z) (fun w hw _ => (wl_tab w hw).1) ⟨0, by decide, Nat.zero_le _⟩)
  by_cases hf : ∃ w, w < 10 ∧ mlN t L P w = wlen w
  · obtain ⟨w, h1, h2⟩ := hf
    have e' : wordR t L P = (some w, P + wlen w) := hw.1 w (Nat.zero_le _) h1 h2
    rw [e'] at h
    cases h
  · obtain ⟨M, m1, _, m3, m4⟩ := hw.2 fun w _ h2 h3 => hf ⟨w, h2, h3⟩
    have e' : wordR t L P = (none, P + M) := m1
    rw [e']
    refine hm.2 M (fun w h2 h3 => hf ⟨w, h2, h3⟩) (fun w h1 => m3 w (Nat.zero_le _) h1) ?_
    rcases m4 with m4 | m4
    · exact ⟨0, by decide, by have := m3 0 (Nat.zero_le _) (by decide); omega⟩
    · exact m4
