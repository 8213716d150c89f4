/-! The law's turns: typing, and the output text. -/
theorem ex1 {A E : String} {k : Int32} (h : exN [A] E k) : E = A ∧ k = nI 1 := by
  obtain ⟨j, h1, h2⟩ := h
  have hj : j = 0 := by
    have := nd_lt h1
    simp at this
    omega
  subst hj
  exact ⟨(Option.some.inj h1).symm, h2⟩
theorem ty_cases (x : Int32) : (oM_isIn x 32 126 = 0 ∧ tyE x = nI 1 ∧ tyF x = nI 1) ∨ (¬ oM_isIn x 32 126 = 0 ∧ tyE x = 0 ∧ tyF x = nI 2) := by
  have rc : (x < 32 ∧ oM_isIn x 32 126 = 0) ∨ (¬ x < 32 ∧ ¬ x ≤ 126 ∧ oM_isIn x 32 126 = 0) ∨ ∃ k, 32 ≤ k ∧ k ≤ 126 ∧ x = nI k ∧ ¬ x < 32 ∧ x ≤ 126 ∧ ¬ oM_isIn x 32 126 = 0 := rng_cases (a := 32) (b := 126) (by decide) (by decide)
  unfold tyE tyF
  rcases rc with ⟨q1, q2⟩ | ⟨q1, q2, q3⟩ | ⟨n, -, -, -, q1, q2, q3⟩
  · rw [if_pos q1, if_pos q1]
    exact .inl ⟨q2, rfl, rfl⟩
  · rw [if_neg q1, if_neg q2, if_neg q1, if_neg q2]
    exact .inl ⟨q3, rfl, rfl⟩
  · rw [if_neg q1, if_pos q2, if_neg q1, if_pos q2]
    exact .inr ⟨q3, rfl, rfl⟩
theorem slU_o {w : Nat → Int32} {n j : Nat} (h : j ≠ 9) : slU w n j = w j := by
  unfold slU
  split
  · rfl
  · exact pk_un h
theorem grL_at {w : Nat → Int32} : ∀ (q k : Nat) (b : Nat → Int32) (j : Nat), grL w q k b j = if k ≤ j ∧ j < k + q then gradeW w (80 + 4 * j) else b j
  | 0, k, b, j => (if_neg (by omega)).symm
  | q + 1, k, b, j => by
    show grL w q (k + 1) (upd b k (gradeW w (80 + 4 * k))) j = _
    rw [grL_at q]
    by_cases z : j = k
    · subst z
      rw [if_neg (by omega), pk_us, if_pos (by omega)]
    · rw [pk_un z]
      by_cases z2 : k + 1 ≤ j ∧ j < k + 1 + q
      · rw [if_pos z2, if_pos (by omega)]
      · rw [if_neg z2, if_neg (by omega)]
theorem grM_at {v b : Nat → Int32} : ∀ (n j : Nat), j < n → grM v b n j = oM_gradeOf v j
  | 0, _, h => absurd h (by omega)
  | n + 1, j, h => by
    show upd (grM v b n) n (oM_gradeOf v n) j = _
    by_cases z : j = n
    · subst z
      exact pk_us
    · rw [pk_un z, grM_at n j (by omega)]
theorem grade_b (w : Nat → Int32) (i : Nat) : ∃ c, c < 128 ∧ gradeW w i = nI c := by
  unfold gradeW
  repeat' split
  all_goals first | exact ⟨120, by decide, rfl⟩ | exact ⟨115, by decide, rfl⟩ | exact ⟨98, by decide, rfl⟩ | exact ⟨99, by decide, rfl⟩
theorem dec_wn {b p : Nat → Int32} {n v : Nat} (hv : v < 10000) (h : ∀ j, j < n → b j = p j) : ∀ j, j < n + sb_dg v → decR b n v j = wnR p n v j := by
  intro j hj
  unfold decR wnR
  unfold sb_dg at hj
  by_cases v1 : v < 10
  · rw [if_pos v1] at hj ⊢
    rw [if_pos v1, Nat.div_one]
    by_cases z : j = n
    · rw [z, pk_us, pk_us]
    · rw [pk_un z, pk_un z, h j (by omega)]
  · rw [if_neg v1] at hj ⊢
    rw [if_neg v1, Nat.div_one]
    by_cases v2 : v < 100
    · rw [if_pos v2] at hj ⊢
      rw [if_pos v2, show v / 10 % 10 = v / 10 by omega]
      by_cases z : j = n
      · rw [z]
        simp (disch := omega) only [pk_us, pk_un]
      · by_cases z1 : j = n + 1
        · rw [z1]
          simp (disch := omega) only [pk_us, pk_un]
        · simp (disch := omega) only [pk_un]
          exact h j (by omega)
    · rw [if_neg v2] at hj ⊢
      rw [if_neg v2]
      by_cases v3 : v < 1000
      · rw [if_pos v3] at hj ⊢
        rw [if_pos v3, show v % 100 % 10 = v % 10 by omega, show v % 100 / 10 = v / 10 % 10 by omega]
        by_cases z : j = n
        · rw [z]
          simp (disch := omega) only [pk_us, pk_un]
        · by_cases z1 : j = n + 1
          · rw [z1]
            simp (disch := omega) only [pk_us, pk_un]
          · by_cases z2 : j = n + 2
            · rw [z2]
              simp (disch := omega) only [pk_ue, pk_un]
            · simp (disch := omega) only [pk_un]
              exact h j (by omega)
      · rw [if_neg v3] at hj ⊢
        rw [if_neg v3, show v % 100 % 10 = v % 10 by omega, show v % 100 / 10 = v / 10 % 10 by omega, show v / 100 / 10 = v / 1000 % 10 by omega]
        rw [if_pos hv] at hj
        by_cases z : j = n
        · rw [z]
          simp (disch := omega) only [pk_us, pk_un]
        · by_cases z1 : j = n + 1
          · rw [z1]
            simp (disch := omega) only [pk_us, pk_un]
          · by_cases z2 : j = n + 2
            · rw [z2]
              simp (disch := omega) only [pk_ue, pk_un]
            · by_cases z3 : j = n + 3
              · rw [z3]
                simp (disch := omega) only [pk_ue, pk_un]
              · simp (disch := omega) only [pk_un]
                exact h j (by omega)
def TxOk (z z' : Nat × (Nat → Int32)) : Prop := z.1 = z'.1 ∧ ∀ j, j < z.1 → z.2 j = z'.2 j
theorem tx_num {z z' : Nat × (Nat → Int32)} (h : TxOk z z') {c d : Int32} (e : c = d) {v : Nat} (hv : v < 10000) : TxOk (z.1 + 1 + sb_dg v, decR (upd z.2 z.1 c) (z.1 + 1) v) (z'.1 + 1 + sb_dg v, wnR (upd z'.2 z'.1 d) (z'.1 + 1) v) := by
  obtain ⟨h1, h2⟩ := h
  refine ⟨by show _ = _; rw [h1], ?_⟩
  show ∀ j, j < z.1 + 1 + sb_dg v → decR (upd z.2 z.1 c) (z.1 + 1) v j = wnR (upd z'.2 z'.1 d) (z'.1 + 1) v j
  rw [← h1, e]
  refine dec_wn hv fun j hj => ?_
  by_cases q : j = z.1
  · rw [q, pk_us, pk_us]
  · rw [pk_un q, pk_un q, h2 j (by omega)]
theorem tx_M {w : Nat → Int32} {i k m : Nat} {z z' : Nat × (Nat → Int32)} (h : TxOk z z') {j : Int32} (hj : nI (ltN k) = oM_letter j) (hw : w (i + k) = nI m) (hm : m ≤ 100) {x : Int32} (hx : x = nI m) : TxOk (rfM w i k z) (rmM x j z') := by
  unfold rfM rmM
  rw [hw, hx]
  rcases Nat.eq_zero_or_pos m with rfl | h0
  · rw [if_pos (show nI 0 ≤ 0 from by decide), if_pos (show nI 0 = 0 from rfl)]
    exact h
  · rw [if_neg (show ¬ nI m ≤ 0 from nI_nle h0 (by omega)), if_neg (show ¬ nI m = 0 from nI_ne0 h0 (by omega)), nI_clamp (n := m) (by omega)]
    exact tx_num h hj (by omega)
theorem tx_S {w v b b' : Nat → Int32} {i M t : Nat} (hw : MixS w i M) (hM : M ≤ 100) (hv : ∀ k, k < 5 → w (i + k) = v (i + k)) (hT : w (i + 4) = nI t) (ht : t ≤ 1500) : TxOk (rfS w i b) (rmS v i b') := by
  obtain ⟨a0, a1, a2, a3, e0, e1, e2, e3, hs⟩ := hw
  have v0 : v i = nI a0 := (hv 0 (by decide)).symm.trans e0
  have v1 : v (i + 1) = nI a1 := (hv 1 (by decide)).symm.trans e1
  have v2 : v (i + 2) = nI a2 := (hv 2 (by decide)).symm.trans e2
  have v3 : v (i + 3) = nI a3 := (hv 3 (by decide)).symm.trans e3
  have v4 : v (i + 4) = nI t := (hv 4 (by decide)).symm.trans hT
  have s0 : TxOk (0, b) (0, b') := ⟨rfl, fun j hj => absurd hj (by show ¬ j < 0; omega)⟩
  have s1 := tx_M (w := w) (i := i) (k := 0) s0 (j := 0) (by decide) e0 (by omega) v0
  have s2 := tx_M (w := w) (i := i) (k := 1) s1 (j := 1) (by decide) e1 (by omega) v1
  have s3 := tx_M (w := w) (i := i) (k := 2) s2 (j := 2) (by decide) e2 (by omega) v2
  have s4 := tx_M (w := w) (i := i) (k := 3) s3 (j := 3) (by decide) e3 (by omega) v3
  unfold rfS rmS
  rw [hT, v4, nI_clamp (n := t) (by omega)]
  exact tx_num s4 (c := nI 64) (d := 64) rfl (by omega)
theorem mass_ok {w v : Nat → Int32} (hR : Rel w v) (hF : FI v) : (∀ f, f < 3 → MassOk w (9 + 6 * f)) ∧ ∀ f, f < 3 → MassOk v (9 + 6 * f) := by
  have k : ∀ f, f < 3 → MassOk v (9 + 6 * f) := fun f hf => by
    obtain ⟨s, hs, a, b, c, d, e0, e1, e2, e3, h⟩ := hF.1.1 f hf
    obtain ⟨t, t1, t2, et⟩ := hF.1.2.2.2.2.1 f hf
    exact ⟨a, b, c, d, t, e0, e1, e2, e3, by rw [← et]; congr 1; omega, by omega, t2⟩
  refine ⟨fun f hf => ?_, k⟩
  obtain ⟨a, b, c, d, t, e0, e1, e2, e3, e4, h⟩ := k f hf
  exact ⟨a, b, c, d, t, (hR.1 _ (by omega)).trans e0, (hR.1 _ (by omega)).trans e1, (hR.1 _ (by omega)).trans e2, (hR.1 _ (by omega)).trans e3, (hR.1 _ (by omega)).trans e4, h⟩
section LT3
variable {p : Program} {l : Launch} {e : Env} {s : State} {m : MethodId} {args : Array Value} {below : List Frame} {meth : Method} {c : Code} {H : Heap} {locs : List Loc} {cells slots : Nat} {Q : State → Prop}
variable {ls : Array Slot} {G : GT} {X : St} {b L : Nat} {xs : Nat → Int32}
theorem lT_type (hst : l.stackTraces = false) (C : Cx p m c cL_law 10 s args lw_all "FoundryLaw" G) (hX : va_X b L xs s s.heap) (hbl : b < s.heap.size) (hbA : ¬ Ab G b) (hS : va_S (Ab G) s.heap H locs) (hW : Wd G X H) {n : Nat} (hj : 4 * n + 3 < L) (hL : L < 2 ^ 31) (hl : lv_has ls 10 [(0, .ref b), (1, .ref (ad G 715)), (2, .ref (ad G 723)), (3, .ref (ad G 735)), (4, .ref (ad G 736)), (5, .int (nI (4 * n)))]) (hI : LInv X) (hc : cells + 7 ≤ 714529) (hs : slots + 42 ≤ 6893124)
    (K : ∀ (Z : St) (H1 : Heap) (locs1 : List Loc) (ls1 : Array Slot), LInv Z → Wd G Z H1 → va_S (Ab G) s.heap H1 locs1 → lv_has ls1 10 [(0, .ref b), (1, .ref (ad G 715)), (2, .ref (ad G 723)), (3, .ref (ad G 735)), (4, .ref (ad G 736)), (5, .int (nI (4 * n)))] → W p l e room_1 s m args below meth c H1 locs1 (cells + 7) (slots + 42) Q (F0 m 2989 ls1 [])) : W p l e room_1 s m args below meth c H locs cells slots Q (F0 m 2698 ls []) := by
  obtain ⟨k, hk, k1, k2, k3⟩ := hI.2.2.2.2.1
  have same : ∀ x, LInv (setRow (setRow X 15 (upd (X.1 15) 0 x)) 22 (X.1 22)) := fun x => hI.congr (fun r _ _ _ q1 _ _ _ => by
    by_cases z : r = 22
    · rw [z, sr_at]
    · rw [sr_ne z, sr_ne q1]) (fun j hj => by rw [sr_ne (by decide), sr_at]; exact pk_un (by omega)) rfl rfl
  by_cases h60 : k < 60
  · have st : ∀ (k9 : Int32) (Y : St), lpost ["java/lang/IllegalArgumentException", "java/lang/IllegalStateException"] id (fun res Y => (tyE (((xs (4 * n + 1)).toUInt32 % 65536).toInt32) = 0 ∧ res = nI (k + 1)) ∧ Y = setRow (setRow X 12 (upd (X.1 12) (k) (((xs (4 * n + 1)).toUInt32 % 65536).toInt32))) 11 (upd (X.1 11) (5) (nI (k + 1)))) (fun E Y => exN ["java/lang/IllegalArgumentException"] E (tyE (((xs (4 * n + 1)).toUInt32 % 65536).toInt32)) ∧ Y = X) k9 Y → ∀ (r : Int32) (Z : St), (r = (oM_type (Y.1 15) (Y.1 22) (((xs (4 * n + 1)).toUInt32 % 65536).toInt32)).1 ∧ Z = setRow (setRow Y 15 (oM_type (Y.1 15) (Y.1 22) (((xs (4 * n + 1)).toUInt32 % 65536).toInt32)).2.1) 22 (oM_type (Y.1 15) (Y.1 22) (((xs (4 * n + 1)).toUInt32 % 65536).toInt32)).2.2) → Y.1 15 5 = nI k ∧ (Z.1 15 0 = k9 ∧ (k9 = 0 → Z.1 27 0 = r)) ∧ LInv Z := fun k9 Y h r Z h2 => by
      rcases h with ⟨h0, r0, Y0, ⟨⟨h3, h4⟩, h5⟩, h6⟩ | ⟨i, E, h3, h4, h5, h6⟩
      · have y15 : Y.1 15 = X.1 15 := by rw [h6, h5]; rfl
        have y22 : Y.1 22 = X.1 22 := by rw [h6, h5]; rfl
        rcases ty_cases (((xs (4 * n + 1)).toUInt32 % 65536).toInt32) with ⟨q1, q2, q3⟩ | ⟨q1, q2, q3⟩
        · rw [q2] at h3
          exact (no1 h3).elim
        · have en : oM_type (X.1 15) (X.1 22) (((xs (4 * n + 1)).toUInt32 % 65536).toInt32) = (nI (k + 1), upd (upd (X.1 15) 0 0) 5 (nI (k + 1)), upd (X.1 22) k (((xs (4 * n + 1)).toUInt32 % 65536).toInt32)) := by
            unfold oM_type
            rw [if_neg q1, k2, if_neg (show ¬ nI k = 60 from fun z => by have := (nI_eq (b := 60) (by omega) (by decide)).mp z; omega), nI_clamp (n := k) (by omega)]
          rw [y15, y22, en] at h2
          obtain ⟨h8, rfl⟩ := h2
          have h8 : r = nI (k + 1) := h8
          refine ⟨by rw [y15]; exact k2, ⟨by rw [h0]; rfl, fun _ => by rw [h8, h6, ← h4]; rfl⟩, ?_⟩
          rw [h6, h5]
          obtain ⟨g1, g2, ⟨sp, cn, c1, c2, c3, c4, c5, c6⟩, g4, -, g6, g7⟩ := hI
          refine ⟨g1, g2, ⟨sp, cn, c1, c2, c3, c4, c5, fun j hj => ?_⟩, g4, ⟨k + 1, by omega, rfl, rfl, ?_⟩, g6, g7⟩
          · have t := c6 j hj
            have e9 : (setRow (setRow (sup (setRow (setRow X 12 (upd (X.1 12) k (((xs (4 * n + 1)).toUInt32 % 65536).toInt32))) 11 (upd (X.1 11) 5 (nI (k + 1)))) 27 0 (id r0)) 15 (nI (k + 1), upd (upd (X.1 15) 0 0) 5 (nI (k + 1)), upd (X.1 22) k (((xs (4 * n + 1)).toUInt32 % 65536).toInt32)).2.1) 22 (nI (k + 1), upd (upd (X.1 15) 0 0) 5 (nI (k + 1)), upd (X.1 22) k (((xs (4 * n + 1)).toUInt32 % 65536).toInt32)).2.2).1 ((sp + 8 - j) % 9 + 1) = X.1 ((sp + 8 - j) % 9 + 1) := by
              rw [sr_ne (by omega), sr_ne (by omega), sp_ne (by omega), sr_ne (by omega), sr_ne (by omega)]
            refine ⟨t.1, ?_⟩
            have t2 := t.2
            rw [← e9] at t2
            exact t2
          · show upd (X.1 12) k (((xs (4 * n + 1)).toUInt32 % 65536).toInt32) = upd (X.1 22) k (((xs (4 * n + 1)).toUInt32 % 65536).toInt32)
            rw [k3]
      · subst h6
        obtain ⟨e1, e2⟩ := ex1 h5
        subst e1
        have hi := nd_inj (L := ["java/lang/IllegalArgumentException", "java/lang/IllegalStateException"]) (by decide) (i := i) (j := 0) h3 rfl
        subst hi
        rcases ty_cases (((xs (4 * n + 1)).toUInt32 % 65536).toInt32) with ⟨q1, q2, q3⟩ | ⟨q1, q2, q3⟩
        · have en : oM_type (Y.1 15) (Y.1 22) (((xs (4 * n + 1)).toUInt32 % 65536).toInt32) = (0, upd (Y.1 15) 0 1, Y.1 22) := if_pos q1
          rw [en] at h2
          obtain ⟨h8, rfl⟩ := h2
          refine ⟨k2, ⟨by rw [h4]; rfl, fun q => ?_⟩, same 1⟩
          rw [h4] at q
          exact absurd q (by decide)
        · rw [q2] at e2
          exact absurd e2 (by decide)
    exact lC_type C hX hbl hbA hS hW hj hL hl (by decide) (by decide) (by decide) (by decide) (by omega) (by omega) (cX7_type1_ok l G hst X k h60 k1 (((xs (4 * n + 1)).toUInt32 % 65536).toInt32)) (fun E Y h => by rw [(ex1 h.1).1]; exact List.mem_cons_self) (fun k9 Y h => cX8_type_ok l G Y (((xs (4 * n + 1)).toUInt32 % 65536).toInt32) k hk ((st k9 Y h _ _ ⟨rfl, rfl⟩).1)) (fun k9 Y h r Z h2 => (st k9 Y h r Z h2).2.1) (fun k9 Y h r Z h2 H1 locs1 ls1 a1 a2 a3 => W.widen (by omega) (by omega) (K Z H1 locs1 ls1 (st k9 Y h r Z h2).2.2 a1 a2 (lv_sub2 a3)))
  · obtain rfl : k = 60 := by omega
    have st : ∀ (k9 : Int32) (Y : St), lpost ["java/lang/IllegalArgumentException", "java/lang/IllegalStateException"] id (fun _ _ => False) (fun E Y => exN ["java/lang/IllegalArgumentException", "java/lang/IllegalStateException"] E (tyF (((xs (4 * n + 1)).toUInt32 % 65536).toInt32)) ∧ Y = X) k9 Y → ∀ (r : Int32) (Z : St), (r = (oM_type (Y.1 15) (Y.1 22) (((xs (4 * n + 1)).toUInt32 % 65536).toInt32)).1 ∧ Z = setRow (setRow Y 15 (oM_type (Y.1 15) (Y.1 22) (((xs (4 * n + 1)).toUInt32 % 65536).toInt32)).2.1) 22 (oM_type (Y.1 15) (Y.1 22) (((xs (4 * n + 1)).toUInt32 % 65536).toInt32)).2.2) → Y.1 15 5 = nI 60 ∧ (Z.1 15 0 = k9 ∧ (k9 = 0 → Z.1 27 0 = r)) ∧ LInv Z := fun k9 Y h r Z h2 => by
      rcases h with ⟨h0, r0, Y0, h3, -⟩ | ⟨i, E, h3, h4, ⟨j, h5, h7⟩, h6⟩
      · exact h3.elim
      · subst h6
        have hi := nd_inj (L := ["java/lang/IllegalArgumentException", "java/lang/IllegalStateException"]) (by decide) h5 h3
        subst hi
        have hj2 : j < 2 := nd_lt h5
        rcases ty_cases (((xs (4 * n + 1)).toUInt32 % 65536).toInt32) with ⟨q1, q2, q3⟩ | ⟨q1, q2, q3⟩
        · have en : oM_type (Y.1 15) (Y.1 22) (((xs (4 * n + 1)).toUInt32 % 65536).toInt32) = (0, upd (Y.1 15) 0 1, Y.1 22) := if_pos q1
          rw [en] at h2
          obtain ⟨h8, rfl⟩ := h2
          refine ⟨k2, ⟨?_, fun q => ?_⟩, same 1⟩
          · rw [h4, ← h7, q3]
            rfl
          · rw [h4, ← h7, q3] at q
            exact absurd q (by decide)
        · have en : oM_type (Y.1 15) (Y.1 22) (((xs (4 * n + 1)).toUInt32 % 65536).toInt32) = (0, upd (Y.1 15) 0 2, Y.1 22) := by
            unfold oM_type
            rw [if_neg q1, k2, if_pos (show nI 60 = 60 from rfl)]
          rw [en] at h2
          obtain ⟨h8, rfl⟩ := h2
          refine ⟨k2, ⟨?_, fun q => ?_⟩, same 2⟩
          · rw [h4, ← h7, q3]
            rfl
          · rw [h4, ← h7, q3] at q
            exact absurd q (by decide)
    exact lC_type C hX hbl hbA hS hW hj hL hl (by decide) (by decide) (by decide) (by decide) (by omega) (by omega) (cX7_type0_ok l G hst X k1 (((xs (4 * n + 1)).toUInt32 % 65536).toInt32)) (fun E Y h => exN_mem h.1) (fun k9 Y h => cX8_type_ok l G Y (((xs (4 * n + 1)).toUInt32 % 65536).toInt32) 60 (by decide) ((st k9 Y h _ _ ⟨rfl, rfl⟩).1)) (fun k9 Y h r Z h2 => (st k9 Y h r Z h2).2.1) (fun k9 Y h r Z h2 H1 locs1 ls1 a1 a2 a3 => W.widen (by omega) (by omega) (K Z H1 locs1 ls1 (st k9 Y h r Z h2).2.2 a1 a2 (lv_sub2 a3)))
theorem lT_renderGrades (hst : l.stackTraces = false) (C : Cx p m c cL_law 10 s args lw_all "FoundryLaw" G) (hX : va_X b L xs s s.heap) (hbl : b < s.heap.size) (hbA : ¬ Ab G b) (hS : va_S (Ab G) s.heap H locs) (hW : Wd G X H) {n : Nat} (hj : 4 * n + 3 < L) (hL : L < 2 ^ 31) (hl : lv_has ls 10 [(0, .ref b), (1, .ref (ad G 715)), (2, .ref (ad G 723)), (3, .ref (ad G 735)), (4, .ref (ad G 736)), (5, .int (nI (4 * n)))]) (hI : LInv X) (hc : cells + 7 ≤ 714529) (hs : slots + 42 ≤ 6893124)
    (K : ∀ (Z : St) (H1 : Heap) (locs1 : List Loc) (ls1 : Array Slot), LInv Z → Wd G Z H1 → va_S (Ab G) s.heap H1 locs1 → lv_has ls1 10 [(0, .ref b), (1, .ref (ad G 715)), (2, .ref (ad G 723)), (3, .ref (ad G 735)), (4, .ref (ad G 736)), (5, .int (nI (4 * n)))] → W p l e room_1 s m args below meth c H1 locs1 (cells + 7) (slots + 42) Q (F0 m 2989 ls1 [])) : W p l e room_1 s m args below meth c H locs cells slots Q (F0 m 2629 ls []) := by
  have hF : FI (X.1 16) := hI.1.1
  have hR : Rel (X.1 0) (X.1 16) := hI.1.2
  obtain ⟨cp, k, hcp, hk, hcap, h8, h10, h15, hby, ht⟩ := hI.2.2.2.2.2.2
  have e3 : (X.1 0 43).toNatClampNeg = kiv (X.1 16) := congrArg Int32.toNatClampNeg (hR.1 43 (by decide))
  have k12 := (kiv_le hF).2
  have y16 : ∀ Y, Y = setRow (sbB X (grL (X.1 0) (X.1 0 43).toNatClampNeg 0 X.2.2.2.1)) 11 (upd (slU (X.1 11) k) (10) (nI (X.1 0 43).toNatClampNeg)) → Y.1 16 = X.1 16 := fun Y h => by rw [h]; rfl
  refine lC_renderGrades C hS hW hl (by decide) (by decide) (by decide) (by decide) (by omega) (by omega) (cX7_renderGrades_ok l G X hI.pinv cp hcp hcap h8 k h10 hk) (fun r Y h => cX8_renderGrades_ok l G Y (by rw [y16 Y h.2]; exact hF.1)) (fun r Y h r2 Z h2 => by rw [h.1, h2.1, y16 Y h.2, e3]; rfl) (fun r Y h Z h2 H1 locs1 a1 a2 => W.widen (by omega) (by omega) (K Z H1 locs1 ls ?_ a1 a2 hl))
  obtain ⟨-, rfl⟩ := h
  obtain ⟨-, rfl⟩ := h2
  rw [e3]
  obtain ⟨g1, g2, ⟨sp, cn, c1, c2, c3, c4, c5, c6⟩, g4, ⟨L9, l1, l2, l3, l4⟩, g6, -⟩ := hI
  have r11 : ∀ j, j ≠ 9 → j ≠ 10 → upd (slU (X.1 11) k) 10 (nI (kiv (X.1 16))) j = X.1 11 j := fun j q1 q2 => by rw [pk_un q2, slU_o q1]
  refine ⟨g1, g2, ⟨sp, cn, c1, c2, (r11 3 (by decide) (by decide)).trans c3, (r11 4 (by decide) (by decide)).trans c4, c5, fun j hj => ?_⟩, ?_, ⟨L9, l1, (r11 5 (by decide) (by decide)).trans l2, l3, l4⟩, ?_, ⟨cp, kiv (X.1 16), hcp, by omega, hcap, (r11 8 (by decide) (by decide)).trans h8, (show upd (slU (X.1 11) k) 10 (nI (kiv (X.1 16))) 10 = nI (kiv (X.1 16)) from pk_us), rfl, fun j => ?_, fun j hj => ?_⟩⟩
  · have t := c6 j hj
    refine ⟨t.1, ?_⟩
    have t2 := t.2
    rw [← show (setRow (setRow (setRow (sbB X (grL (X.1 0) (kiv (X.1 16)) 0 X.2.2.2.1)) 11 (upd (slU (X.1 11) k) 10 (nI (kiv (X.1 16))))) 15 (oM_renderGrades (X.1 15) (X.1 16) (X.1 23)).2.1) 23 (oM_renderGrades (X.1 15) (X.1 16) (X.1 23)).2.2).1 ((sp + 8 - j) % 9 + 1) = X.1 ((sp + 8 - j) % 9 + 1) from by rw [sr_ne (by omega), sr_ne (by omega), sr_ne (by omega)]] at t2
    exact t2
  · rcases g4 with ⟨s1, s2⟩ | ⟨s1, s2, s3⟩
    · exact .inl ⟨(r11 0 (by decide) (by decide)).trans s1, s2⟩
    · exact .inr ⟨(r11 0 (by decide) (by decide)).trans s1, s2, s3⟩
  · have q1 : upd (slU (X.1 11) k) 10 (nI (kiv (X.1 16))) 1 = X.1 11 1 := r11 1 (by decide) (by decide)
    have q2 : upd (slU (X.1 11) k) 10 (nI (kiv (X.1 16))) 2 = X.1 11 2 := r11 2 (by decide) (by decide)
    show upd (slU (X.1 11) k) 10 (nI (kiv (X.1 16))) 1 = X.1 15 2 ∧ (upd (slU (X.1 11) k) 10 (nI (kiv (X.1 16))) 1 = -1 ∨ 0 ≤ upd (slU (X.1 11) k) 10 (nI (kiv (X.1 16))) 1) ∧ upd (slU (X.1 11) k) 10 (nI (kiv (X.1 16))) 2 = X.1 15 3 ∧ (upd (slU (X.1 11) k) 10 (nI (kiv (X.1 16))) 2 = -1 ∨ 0 ≤ upd (slU (X.1 11) k) 10 (nI (kiv (X.1 16))) 2)
    rw [q1, q2]
    exact g6
  · show ∃ c, c < 128 ∧ grL (X.1 0) (kiv (X.1 16)) 0 X.2.2.2.1 j = nI c
    rw [grL_at]
    split
    · exact grade_b _ _
    · exact hby j
  · show grL (X.1 0) (kiv (X.1 16)) 0 X.2.2.2.1 j = grM (X.1 16) (X.1 23) (kiv (X.1 16)) j
    rw [grL_at, if_pos (by omega), grM_at _ j hj, grade_eq hR hF hj]
theorem lT_renderFurnace (hst : l.stackTraces = false) (C : Cx p m c cL_law 10 s args lw_all "FoundryLaw" G) (hX : va_X b L xs s s.heap) (hbl : b < s.heap.size) (hbA : ¬ Ab G b) (hS : va_S (Ab G) s.heap H locs) (hW : Wd G X H) {n : Nat} (hj : 4 * n + 3 < L) (hL : L < 2 ^ 31) (hl : lv_has ls 10 [(0, .ref b), (1, .ref (ad G 715)), (2, .ref (ad G 723)), (3, .ref (ad G 735)), (4, .ref (ad G 736)), (5, .int (nI (4 * n)))]) (hI : LInv X) (hc : cells + 7 ≤ 714529) (hs : slots + 42 ≤ 6893124)
    (K : ∀ (Z : St) (H1 : Heap) (locs1 : List Loc) (ls1 : Array Slot), LInv Z → Wd G Z H1 → va_S (Ab G) s.heap H1 locs1 → lv_has ls1 10 [(0, .ref b), (1, .ref (ad G 715)), (2, .ref (ad G 723)), (3, .ref (ad G 735)), (4, .ref (ad G 736)), (5, .int (nI (4 * n)))] → W p l e room_1 s m args below meth c H1 locs1 (cells + 7) (slots + 42) Q (F0 m 2989 ls1 [])) : W p l e room_1 s m args below meth c H locs cells slots Q (F0 m 2573 ls []) := by
  have hF : FI (X.1 16) := hI.1.1
  have hR : Rel (X.1 0) (X.1 16) := hI.1.2
  obtain ⟨cp, k, hcp, hk, hcap, h8, h10, h15, hby, ht⟩ := hI.2.2.2.2.2.2
  obtain ⟨mo, mo2⟩ := mass_ok hR hF
  have st : ∀ (k9 : Int32) (Y : St), lpost ["java/lang/IndexOutOfBoundsException"] id (fun res Y => (sOut (xs (4 * n + 1)) 3 = 0 ∧ res = nI (rfS (X.1 0) (9 + 6 * ((xs (4 * n + 1))).toNatClampNeg) X.2.2.2.1).1) ∧ ∃ (a9 c9 : Nat) (b9 : Nat → Int32), (16 ≤ c9 ∧ c9 ≤ 34 ∧ (rfS (X.1 0) (9 + 6 * ((xs (4 * n + 1))).toNatClampNeg) X.2.2.2.1).1 ≤ c9) ∧ (∀ j, j < (rfS (X.1 0) (9 + 6 * ((xs (4 * n + 1))).toNatClampNeg) X.2.2.2.1).1 → b9 j = (rfS (X.1 0) (9 + 6 * ((xs (4 * n + 1))).toNatClampNeg) X.2.2.2.1).2 j) ∧ BOk b9 ∧ Y = setRow (X.1, (a9, (c9, (b9, X.2.2.2.2)))) 11 (upd (slU (X.1 11) k) (10) (nI (rfS (X.1 0) (9 + 6 * ((xs (4 * n + 1))).toNatClampNeg) X.2.2.2.1).1))) (fun E Y => (E = "java/lang/IndexOutOfBoundsException" ∧ ¬ sOut (xs (4 * n + 1)) 3 = 0) ∧ Y = X) k9 Y → ∀ (r : Int32) (Z : St), (r = (oM_renderFurnace (Y.1 15) (Y.1 16) (Y.1 23) (xs (4 * n + 1))).1 ∧ Z = setRow (setRow Y 15 (oM_renderFurnace (Y.1 15) (Y.1 16) (Y.1 23) (xs (4 * n + 1))).2.1) 23 (oM_renderFurnace (Y.1 15) (Y.1 16) (Y.1 23) (xs (4 * n + 1))).2.2) → Y.1 16 = X.1 16 ∧ (Z.1 15 0 = k9 ∧ (k9 = 0 → Z.1 27 0 = r)) ∧ LInv Z := fun k9 Y h r Z h2 => by
    rcases h with ⟨h0, r0, Y0, ⟨⟨h3, h4⟩, a9, c9, b9, ⟨d1, d2, d3⟩, d4, d5, d6⟩, h6⟩ | ⟨i, E, h3, h4, ⟨h5, h5'⟩, h6⟩
    · rcases three_cases (xs (4 * n + 1)) with ⟨q1, q2⟩ | ⟨f, hf, ef, q1, q2⟩
      · exact absurd h3 q1
      · have y15 : Y.1 15 = X.1 15 := by rw [h6, d6]; rfl
        have y16 : Y.1 16 = X.1 16 := by rw [h6, d6]; rfl
        have y23 : Y.1 23 = X.1 23 := by rw [h6, d6]; rfl
        have cf : ((xs (4 * n + 1))).toNatClampNeg = f := by rw [ef]; exact nI_clamp (by omega)
        obtain ⟨M, hM, mv⟩ := hF.1.1 f hf
        obtain ⟨T, T1, T2, eT⟩ := hF.1.2.2.2.2.1 f hf
        have mw : MixS (X.1 0) (9 + 6 * f) M := mv.congr fun j hj => hR.1 _ (by omega)
        have eT2 : X.1 16 (9 + 6 * f + 4) = nI T := by rw [show 9 + 6 * f + 4 = 13 + 6 * f by omega]; exact eT
        have tx := tx_S (b := X.2.2.2.1) (b' := X.1 23) mw hM (fun j hj => hR.1 (9 + 6 * f + j) (by omega)) ((hR.1 (9 + 6 * f + 4) (by omega)).trans eT2) T2
        rw [cf] at h4 d3 d4 d6
        have en : oM_renderFurnace (X.1 15) (X.1 16) (X.1 23) (xs (4 * n + 1)) = (nI (rmS (X.1 16) (9 + 6 * f) (X.1 23)).1, upd (upd (X.1 15) 0 0) 8 (nI (rmS (X.1 16) (9 + 6 * f) (X.1 23)).1), (rmS (X.1 16) (9 + 6 * f) (X.1 23)).2) := by
          unfold oM_renderFurnace
          rw [if_neg q2, cf]
        rw [y15, y16, y23, en] at h2
        obtain ⟨R1, hR1⟩ : ∃ R1, R1 = rfS (X.1 0) (9 + 6 * f) X.2.2.2.1 := ⟨_, rfl⟩
        obtain ⟨R2, hR2⟩ : ∃ R2, R2 = rmS (X.1 16) (9 + 6 * f) (X.1 23) := ⟨_, rfl⟩
        rw [← hR1] at h4 d3 d4 d6 tx
        rw [← hR2] at h2 tx
        obtain ⟨t1, t2⟩ := tx
        obtain ⟨h9, rfl⟩ := h2
        have h9 : r = nI R2.1 := h9
        refine ⟨y16, ⟨by rw [h0]; rfl, fun _ => by rw [h9, h6, ← t1, ← h4]; rfl⟩, ?_⟩
        rw [h6, d6]
        obtain ⟨g1, g2, ⟨sp, cn, c1, c2, c3, c4, c5, c6⟩, g4, ⟨L9, l1, l2, l3, l4⟩, g6, -⟩ := hI
        have r11 : ∀ j, j ≠ 9 → j ≠ 10 → upd (slU (X.1 11) k) 10 (nI R1.1) j = X.1 11 j := fun j q1 q2 => by rw [pk_un q2, slU_o q1]
        refine ⟨g1, g2, ⟨sp, cn, c1, c2, (r11 3 (by decide) (by decide)).trans c3, (r11 4 (by decide) (by decide)).trans c4, c5, fun j hj => ?_⟩, ?_, ⟨L9, l1, (r11 5 (by decide) (by decide)).trans l2, l3, l4⟩, ?_, ⟨c9, R1.1, ⟨d1, d2⟩, d3, rfl, (r11 8 (by decide) (by decide)).trans h8, (show upd (slU (X.1 11) k) 10 (nI R1.1) 10 = nI R1.1 from pk_us), by rw [t1]; rfl, d5, fun j hj => (d4 j hj).trans (t2 j hj)⟩⟩
        · have t := c6 j hj
          refine ⟨t.1, ?_⟩
          have t2 := t.2
          rw [← show (setRow (setRow (sup (setRow ((X.1, (a9, (c9, (b9, X.2.2.2.2)))) : St) 11 (upd (slU (X.1 11) k) 10 (nI R1.1))) 27 0 (id r0)) 15 (nI R2.1, upd (upd (X.1 15) 0 0) 8 (nI R2.1), R2.2).2.1) 23 (nI R2.1, upd (upd (X.1 15) 0 0) 8 (nI R2.1), R2.2).2.2).1 ((sp + 8 - j) % 9 + 1) = X.1 ((sp + 8 - j) % 9 + 1) from by rw [sr_ne (by omega), sr_ne (by omega), sp_ne (by omega), sr_ne (by omega)]] at t2
          exact t2
        · rcases g4 with ⟨s1, s2⟩ | ⟨s1, s2, s3⟩
          · exact .inl ⟨(r11 0 (by decide) (by decide)).trans s1, s2⟩
          · exact .inr ⟨(r11 0 (by decide) (by decide)).trans s1, s2, s3⟩
        · have q1 : upd (slU (X.1 11) k) 10 (nI R1.1) 1 = X.1 11 1 := r11 1 (by decide) (by decide)
          have q2 : upd (slU (X.1 11) k) 10 (nI R1.1) 2 = X.1 11 2 := r11 2 (by decide) (by decide)
          show upd (slU (X.1 11) k) 10 (nI R1.1) 1 = X.1 15 2 ∧ (upd (slU (X.1 11) k) 10 (nI R1.1) 1 = -1 ∨ 0 ≤ upd (slU (X.1 11) k) 10 (nI R1.1) 1) ∧ upd (slU (X.1 11) k) 10 (nI R1.1) 2 = X.1 15 3 ∧ (upd (slU (X.1 11) k) 10 (nI R1.1) 2 = -1 ∨ 0 ≤ upd (slU (X.1 11) k) 10 (nI R1.1) 2)
          rw [q1, q2]
          exact g6
    · subst h6
      rcases three_cases (xs (4 * n + 1)) with ⟨q1, q2⟩ | ⟨f, hf, ef, q1, q2⟩
      · have en : oM_renderFurnace (Y.1 15) (Y.1 16) (Y.1 23) (xs (4 * n + 1)) = (0, upd (Y.1 15) 0 1, Y.1 23) := if_pos q2
        rw [en] at h2
        obtain ⟨h9, rfl⟩ := h2
        have hi : i = 0 := by
          have := nd_lt h3
          simp at this
          omega
        subst hi
        refine ⟨rfl, ⟨by rw [h4]; rfl, fun q => ?_⟩, ?_⟩
        · rw [h4] at q
          exact absurd q (by decide)
        · exact hI.congr (fun r _ _ _ q1 _ _ _ => by
            by_cases z : r = 23
            · rw [z, sr_at]
            · rw [sr_ne z, sr_ne q1]) (fun j hj => by rw [sr_ne (by decide), sr_at]; exact pk_un (by omega)) rfl rfl
      · exact absurd q1 h5'
  exact lC_renderFurnace C hX hbl hbA hS hW hj hL hl (by decide) (by decide) (by decide) (by decide) (by omega) (by omega) (cX7_renderFurnace9_ok l G hst X cp hcp hcap h8 k h10 hk hby mo (xs (4 * n + 1))) (fun E Y h => by rw [h.1.1]; exact List.mem_singleton.mpr rfl) (fun k9 Y h => cX8_renderFurnace_ok l G Y (xs (4 * n + 1)) (by rw [(st k9 Y h _ _ ⟨rfl, rfl⟩).1]; exact mo2)) (fun k9 Y h r Z h2 => (st k9 Y h r Z h2).2.1) (fun k9 Y h r Z h2 H1 locs1 ls1 a1 a2 a3 => W.widen (by omega) (by omega) (K Z H1 locs1 ls1 (st k9 Y h r Z h2).2.2 a1 a2 (lv_sub2 a3)))
end LT3
