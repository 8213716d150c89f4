/-! The counts of moulds and ingots stay in their bounds through every command. -/
theorem inv_of {w v : Nat → Int32} (h42 : v 42 = w 42) (h43 : v 43 = w 43) (h : PInv w) : PInv v := by
  unfold PInv
  rw [h42, h43]
  exact h
theorem kp_chillR {w : Nat → Int32} {i j : Nat} (h : j ≠ i + 4) : chillR w i j = w j := by
  unfold chillR
  split
  · exact pk_un h
  · rfl
theorem kp_moveR {w : Nat → Int32} {i i2 k j : Nat} {x : Int32} (h1 : j ≠ i + k) (h2 : j ≠ i2 + k) : moveR w i i2 k x j = w j := by
  unfold moveR
  rw [pk_un h2, pk_un h1]
theorem kp_mvLoop {i i2 j : Nat} (h1 : j < i ∨ i + 4 ≤ j) (h2 : j < i2 ∨ i2 + 4 ≤ j) : ∀ (q : Nat) (z : Nat → Int32), mvLoop i i2 q z j = z j
  | 0, _ => rfl
  | q + 1, z => by
    have hb := lt_best4 z i
    rw [mvLoop, kp_mvLoop h1 h2 q, kp_moveR (by omega) (by omega)]
theorem kp_mvStep {i i2 j k : Nat} {x a : Int32} {z : (Nat → Int32) × Int32} (hk : k < 4) (h1 : j < i ∨ i + 4 ≤ j) (h2 : j < i2 ∨ i2 + 4 ≤ j) : (mvStep i i2 x a z k).1 j = z.1 j := kp_moveR (by omega) (by omega)
theorem kp_movePartR {w : Nat → Int32} {i i2 j : Nat} {x : Int32} (h1 : j < i ∨ i + 4 ≤ j) (h2 : j < i2 ∨ i2 + 4 ≤ j) : movePartR w i i2 x j = w j := by
  unfold movePartR
  split
  · rw [kp_mvLoop h1 h2, kp_mvStep (by decide) h1 h2, kp_mvStep (by decide) h1 h2, kp_mvStep (by decide) h1 h2, kp_mvStep (by decide) h1 h2]
  · rfl
theorem kp_shiftL {j : Nat} (h : j < 80) : ∀ (q k : Nat) (z : Nat → Int32), shiftL q k z j = z j
  | 0, _, _ => rfl
  | q + 1, k, z => by rw [shiftL, kp_shiftL h q, kp_cpyR (Or.inl (by omega))]
theorem kp_furR {w : Nat → Int32} {f j : Nat} (h : j ≠ 9 + 6 * f + 4) : furR w f j = w j := pk_un h
theorem kp_ladR {w : Nat → Int32} {f j : Nat} (h : j ≠ 27 + 5 * f + 4) : ladR w f j = w j := by
  unfold ladR
  split
  · rfl
  · exact pk_un h
theorem kp_itM {j : Nat} (h : j = 42 ∨ j = 43) : ∀ (q : Nat) (z : Nat → Int32), itM q z j = z j
  | 0, _ => rfl
  | q + 1, z => by
    rw [itM, kp_itM h q]
    unfold minuteR
    rw [kp_ladR (by omega), kp_ladR (by omega), kp_ladR (by omega), kp_furR (by omega), kp_furR (by omega), kp_furR (by omega), pk_un (by omega)]
theorem inv_0 {w : Nat → Int32} {x y z : Int32} (h : PInv w) : PInv (addSolidR w x y z).2 := by
  unfold addSolidR
  split
  · rename_i h1
    obtain ⟨f, hf, rfl⟩ := sOut_in3 h1
    rw [clf (show f < 2 ^ 31 by omega)]
    split
    · exact h
    · rename_i h2
      obtain ⟨j, hj, he⟩ := matOf_in (v := matOf y) rfl h2
      rw [he, clf (show j < 2 ^ 31 by omega)]
      split
      · exact h
      · split
        · split
          · refine inv_of ?_ ?_ h
            · show upd (upd (blendR w (9 + 6 * f) 10 z 20) _ _) _ _ 42 = w 42
              rw [pk_un (by omega), pk_un (by omega), kp_blendR (by omega)]
            · show upd (upd (blendR w (9 + 6 * f) 10 z 20) _ _) _ _ 43 = w 43
              rw [pk_un (by omega), pk_un (by omega), kp_blendR (by omega)]
          · exact h
        · exact h
  · exact h
theorem inv_1 {w : Nat → Int32} {x y : Int32} (h : PInv w) : PInv (stokeR w x y).2 := by
  unfold stokeR
  split
  · rename_i h1
    obtain ⟨f, hf, rfl⟩ := sOut_in3 h1
    rw [clf (show f < 2 ^ 31 by omega)]
    split
    · exact h
    · split
      · exact inv_of (pk_un (by omega)) (pk_un (by omega)) h
      · exact h
  · exact h
theorem inv_2 {w : Nat → Int32} {x : Int32} (h : PInv w) : PInv (skimOffR w x).2 := by
  unfold skimOffR
  split
  · rename_i h1
    obtain ⟨f, hf, rfl⟩ := sOut_in3 h1
    rw [clf (show f < 2 ^ 31 by omega)]
    split
    · exact h
    · split
      · exact h
      · have hb := lt_best3 w (9 + 6 * f)
        refine inv_of ?_ ?_ h
        · show moveR (moveR w (9 + 6 * f) 5 3 _) (9 + 6 * f) 5 (best3 w (9 + 6 * f)) _ 42 = w 42
          rw [kp_moveR (by omega) (by omega), kp_moveR (by omega) (by omega)]
        · show moveR (moveR w (9 + 6 * f) 5 3 _) (9 + 6 * f) 5 (best3 w (9 + 6 * f)) _ 43 = w 43
          rw [kp_moveR (by omega) (by omega), kp_moveR (by omega) (by omega)]
  · exact h
theorem inv_3 {w : Nat → Int32} {x y z : Int32} (h : PInv w) : PInv (drawR w x y z).2 := by
  unfold drawR
  split
  · rename_i h1
    obtain ⟨f, hf, rfl⟩ := sOut_in3 h1
    rw [clf (show f < 2 ^ 31 by omega)]
    split
    · rename_i h2
      obtain ⟨g, hg, rfl⟩ := sOut_in3 h2
      rw [clf (show g < 2 ^ 31 by omega)]
      split
      · exact h
      · split
        · split
          · split
            · exact h
            · split
              · refine inv_of ?_ ?_ h
                · show movePartR (blendR w (27 + 5 * g) 0 z _) (9 + 6 * f) (27 + 5 * g) z 42 = w 42
                  rw [kp_movePartR (by omega) (by omega), kp_blendR (by omega)]
                · show movePartR (blendR w (27 + 5 * g) 0 z _) (9 + 6 * f) (27 + 5 * g) z 43 = w 43
                  rw [kp_movePartR (by omega) (by omega), kp_blendR (by omega)]
              · exact h
          · exact h
        · exact h
    · exact h
  · exact h
theorem inv_4 {w : Nat → Int32} {x y : Int32} (h : PInv w) : PInv (giveBackR w x y).2 := by
  unfold giveBackR
  split
  · rename_i h1
    obtain ⟨f, hf, rfl⟩ := sOut_in3 h1
    rw [clf (show f < 2 ^ 31 by omega)]
    split
    · rename_i h2
      obtain ⟨g, hg, rfl⟩ := sOut_in3 h2
      rw [clf (show g < 2 ^ 31 by omega)]
      split
      · exact h
      · split
        · refine inv_of ?_ ?_ h
          · show chillR (clrR (addAllR (blendR w (9 + 6 * g) 10 _ _) (9 + 6 * g) (27 + 5 * f)) (27 + 5 * f)) (27 + 5 * f) 42 = w 42
            rw [kp_chillR (by omega), kp_clrR (by omega), kp_addAllR (by omega), kp_blendR (by omega)]
          · show chillR (clrR (addAllR (blendR w (9 + 6 * g) 10 _ _) (9 + 6 * g) (27 + 5 * f)) (27 + 5 * f)) (27 + 5 * f) 43 = w 43
            rw [kp_chillR (by omega), kp_clrR (by omega), kp_addAllR (by omega), kp_blendR (by omega)]
        · exact h
    · exact h
  · exact h
theorem inv_5 {w : Nat → Int32} {x : Int32} (h : PInv w) : PInv (placeMouldR w x).2 := by
  unfold placeMouldR
  split
  · exact h
  · split
    · split
      · rename_i h3
        obtain ⟨⟨km, hkm, em⟩, ki, hki, ei⟩ := h
        rw [em] at h3
        have hk6 := nI_lt6 (by omega) h3
        refine ⟨⟨km + 1, by omega, ?_⟩, ki, hki, ?_⟩
        · have e : w 42 + 1 = nI (km + 1) := by rw [em, nI_1]
          exact e
        · show upd (clrR (upd w (48 + 6 * (w 42).toNatClampNeg) x) (44 + 6 * (w 42).toNatClampNeg)) 42 (w 42 + 1) 43 = nI ki
          rw [em, clf (show km < 2 ^ 31 by omega), pk_un (by omega), kp_clrR (by omega), pk_un (by omega)]
          exact ei
      · exact h
    · exact h
theorem inv_6 {w : Nat → Int32} {x y : Int32} (h : PInv w) : PInv (castR w x y).2 := by
  unfold castR
  split
  · rename_i h1
    obtain ⟨f, hf, rfl⟩ := sOut_in3 h1
    rw [clf (show f < 2 ^ 31 by omega)]
    split
    · rename_i h2
      obtain ⟨km, hkm, em⟩ := h.1
      rw [em] at h2
      obtain ⟨g, hg, rfl⟩ := sOut_in (by omega) h2
      rw [clf (show g < 2 ^ 31 by omega)]
      split
      · split
        · split
          · exact h
          · refine inv_of ?_ ?_ h
            · show chillR (movePartR w (27 + 5 * f) (44 + 6 * g) _) (27 + 5 * f) 42 = w 42
              rw [kp_chillR (by omega), kp_movePartR (by omega) (by omega)]
            · show chillR (movePartR w (27 + 5 * f) (44 + 6 * g) _) (27 + 5 * f) 43 = w 43
              rw [kp_chillR (by omega), kp_movePartR (by omega) (by omega)]
        · exact h
      · exact h
    · exact h
  · exact h
theorem inv_7 {w : Nat → Int32} {x : Int32} (h : PInv w) : PInv (knockOutR w x).2 := by
  unfold knockOutR
  split
  · rename_i h2
    obtain ⟨⟨km, hkm, em⟩, ki, hki, ei⟩ := h
    have h : PInv w := ⟨⟨km, hkm, em⟩, ki, hki, ei⟩
    rw [em] at h2
    obtain ⟨g, hg, rfl⟩ := sOut_in (by omega) h2
    rw [clf (show g < 2 ^ 31 by omega)]
    split
    · exact h
    · split
      · rename_i h4
        rw [ei] at h4
        have hi12 := nI_lt12 (by omega) h4
        refine ⟨⟨km, hkm, ?_⟩, ki + 1, by omega, ?_⟩
        · show upd (clrR (cpyR w (80 + 4 * (w 43).toNatClampNeg) w (44 + 6 * g)) (44 + 6 * g)) 43 (w 43 + 1) 42 = nI km
          rw [pk_un (by omega), kp_clrR (by omega), kp_cpyR (by omega)]
          exact em
        · have e : w 43 + 1 = nI (ki + 1) := by rw [ei, nI_1]
          exact e
      · exact h
  · exact h
theorem inv_8 {w : Nat → Int32} {x y : Int32} (h : PInv w) : PInv (remeltR w x y).2 := by
  unfold remeltR
  split
  · rename_i h1
    obtain ⟨⟨km, hkm, em⟩, ki, hki, ei⟩ := h
    have h : PInv w := ⟨⟨km, hkm, em⟩, ki, hki, ei⟩
    rw [ei] at h1
    obtain ⟨f, hf, rfl⟩ := sOut_in (by omega) h1
    split
    · rename_i h2
      obtain ⟨g, hg, rfl⟩ := sOut_in3 h2
      rw [clf (show g < 2 ^ 31 by omega)]
      split
      · refine ⟨⟨km, hkm, ?_⟩, ki - 1, by omega, ?_⟩
        · show upd (shiftL _ _ (addAllR (blendR w (9 + 6 * g) 10 _ 20) (9 + 6 * g) _)) 43 (w 43 - 1) 42 = nI km
          rw [pk_un (by omega), kp_shiftL (by omega), kp_addAllR (by omega), kp_blendR (by omega)]
          exact em
        · have hk : 1 ≤ ki := by omega
          have e : w 43 - 1 = nI (ki - 1) := by
            rw [ei]
            exact pk_sub (a := ki) (b := 1) hk
          exact e
      · exact h
    · exact h
  · exact h
theorem inv_9 {w : Nat → Int32} {x : Int32} (h : PInv w) : PInv (passR w x).2 := by
  unfold passR
  split
  · exact h
  · split
    · exact inv_of (kp_itM (Or.inl rfl) _ _) (kp_itM (Or.inr rfl) _ _) h
    · exact h
theorem perf_inv {w : Nat → Int32} {a b c : Int32} (h : PInv w) : ∀ i, PInv (performR i w a b c).2
  | 0 => inv_0 h
  | 1 => inv_1 h
  | 2 => inv_2 h
  | 3 => inv_3 h
  | 4 => inv_4 h
  | 5 => inv_5 h
  | 6 => inv_6 h
  | 7 => inv_7 h
  | 8 => inv_8 h
  | i + 9 => by
    rcases i with _ | i
    · exact inv_9 h
    · exact inv_9 h
