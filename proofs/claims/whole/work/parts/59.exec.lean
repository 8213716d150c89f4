/-! Scripts: class and reference do the same. -/
def DoOk (ee : Nat → Int32) (P : Int32 × (Nat → Int32)) (w w15 v : Nat → Int32) (D : (Nat → Int32) × ((Nat → Int32) × (Nat → Int32))) : Prop :=
  (P.1 < 0 ∧ P.2 = w ∧ (∃ n, n < 5 ∧ D.1 = upd w15 0 (nI (n + 1))) ∧ D.2.1 = v) ∨ (¬ P.1 < 0 ∧ D.1 = w15 ∧ Rel P.2 D.2.1 ∧ FInv ee D.2.1)
section EX
variable {ee : Nat → Int32}
theorem OpOk.toDo {L : List String} {P : Int32 × (Nat → Int32)} {w w15 v d15 d16 d20 : Nat → Int32} {ans : Int32} (h : OpOk ee L P w w15 ans d15 v d16) : DoOk ee P w w15 v (d15, (d16, d20)) := by
  rcases h with ⟨i, E, -, h1, -, h2, h3, h4, h5⟩ | ⟨-, h1, -, h2, h3, h4⟩
  · exact .inl ⟨h2, h3, ⟨i, h1, h4⟩, h5⟩
  · exact .inr ⟨h1, h2, h3, h4⟩
theorem do_ok {w v w21 : Nat → Int32} (hR : Rel w v) (hF : FInv ee v) (hp : PtsOk w21) (w15 w20 : Nat → Int32) {i : Nat} (hi : i < 10) {x y z a b c : Int32} (h : ArgOk i x y z a b c) : DoOk ee (performR i w x y z) w w15 v (doM i w15 v w20 w21 a b c) := by
  obtain ⟨h1, h2, h3, h4⟩ := h
  subst h1
  rcases (by omega : i = 0 ∨ i = 1 ∨ i = 2 ∨ i = 3 ∨ i = 4 ∨ i = 5 ∨ i = 6 ∨ i = 7 ∨ i = 8 ∨ i = 9) with rfl | rfl | rfl | rfl | rfl | rfl | rfl | rfl | rfl | rfl
  · obtain ⟨e1, e2⟩ := h2 rfl
    subst e1
    subst e2
    exact (op_charge hR hF w15 w20 x y z).toDo
  · obtain rfl := h3 (by decide)
    exact (op_fire hR hF w15 x y).toDo
  · exact (op_skim hR hF hp w15 x).toDo
  · obtain rfl := h3 (by decide)
    obtain rfl := h4 rfl
    exact (op_tap hR hF hp w15 w20 x y z).toDo
  · obtain rfl := h3 (by decide)
    exact (op_back hR hF w15 w20 x y).toDo
  · exact (op_mould hR hF w15 x).toDo
  · obtain rfl := h3 (by decide)
    exact (op_pour hR hF hp w15 w20 x y).toDo
  · exact (op_break hR hF w15 x).toDo
  · obtain rfl := h3 (by decide)
    exact (op_melt hR hF w15 w20 x y).toDo
  · exact (op_wait hR hF hp w15 x).toDo
end EX
theorem rel_self (v : Nat → Int32) : Rel v v := ⟨fun _ _ => rfl, fun _ _ _ _ => rfl, fun _ _ _ _ => rfl⟩
theorem fi_of {v : Nat → Int32} (h : MInv v) : FInv (fun j => stkW v j - (v (1 + j) - v (5 + j))) v := ⟨h, fun j _ => by grind⟩
/-- the invariant of the reference's row is kept by every change -/
theorem hMd_ok {w21 : Nat → Int32} (hp : PtsOk w21) (k : Nat) (w15 w16 w20 : Nat → Int32) (a b c : Int32) (hm : MInv w16) (hk : k = 0 → ∃ j, j < 4 ∧ b = nI j) : MInv (doM k w15 w16 w20 w21 a b c).2.1 := by
  have key : ∀ i, i < 10 → (i = 0 → ∃ j, j < 4 ∧ b = nI j) → MInv (doM i w15 w16 w20 w21 a b c).2.1 := fun i hi h0 => by
    have ha : ∃ y, ArgOk i a y c a b c := by
      by_cases q : i = 0
      · obtain ⟨j, hj, rfl⟩ := h0 q
        have : ∃ y, oM_kind y = nI j := by
          rcases lt4 hj with rfl | rfl | rfl | rfl
          · exact ⟨99, by decide⟩
          · exact ⟨116, by decide⟩
          · exact ⟨108, by decide⟩
          · exact ⟨111, by decide⟩
        obtain ⟨y, hy⟩ := this
        exact ⟨y, rfl, fun _ => ⟨hy, rfl⟩, fun z => by omega, fun _ => rfl⟩
      · exact ⟨b, rfl, fun z => absurd z q, fun _ => rfl, fun _ => rfl⟩
    obtain ⟨y, hy⟩ := ha
    rcases do_ok (rel_self w16) (fi_of hm) hp w15 w20 hi hy with ⟨-, -, -, e⟩ | ⟨-, -, -, f⟩
    · rw [e]
      exact hm
    · exact f.1
  by_cases q : k < 10
  · exact key k q hk
  · obtain ⟨k, rfl⟩ : ∃ j, k = j + 10 := ⟨k - 10, by omega⟩
    exact key 9 (by decide) (fun z => absurd z (by decide))
/-- what the reference has done from the command at p on, k commands being done -/
def cdK (t : Nat → Int32) (L : Nat) (w21 : Nat → Int32) (q k p : Nat) (y : R3) : Nat × R3 := cdL t L w21 q (cmM t L p).2.2.2.2.1 (k + 1) (doM (cmM t L p).1 (ps y.1 (cmM t L p).2.2.2.2.1 0) y.2.1 y.2.2 w21 (cmM t L p).2.1 (cmM t L p).2.2.1 (cmM t L p).2.2.2.1)
theorem cmdI_of {a : Nat → Int32} {i c : Nat} (h : a i = nI (c + 1)) (hc : c < 10) : cmdI a i = c := by
  unfold cmdI
  rw [h, nI_clamp (by omega)]
  rfl
theorem exec_eq {t : Nat → Int32} {L n : Nat} {w21 a b : Nat → Int32} (hp : PtsOk w21) : ∀ (Q q k p : Nat) (w : Nat → Int32) (y : R3), Q ≤ q + 1 → TR t L a b n Q k p → y.1 0 = 0 → Rel w y.2.1 → FI y.2.1 → k < n ∧
    (((psL a b (n - k) k w).1 = -1 ∧ (cdK t L w21 q k p y).1 = n ∧ (cdK t L w21 q k p y).2.1 0 = 0 ∧ Rel (psL a b (n - k) k w).2 (cdK t L w21 q k p y).2.2.1 ∧ FI (cdK t L w21 q k p y).2.2.1) ∨
     ∃ i, i < n ∧ (psL a b (n - k) k w).1 = nI i ∧ (cdK t L w21 q k p y).1 = i + 1 ∧ ¬ (cdK t L w21 q k p y).2.1 0 = 0)
  | 0, _, _, _, _, _, _, h, _, _, _ => h.elim
  | Q + 1, q, k, p, w, y, hq, h, h0, hR, hF => by
    obtain ⟨-, t1, t2, t3, t4, t5⟩ := h
    obtain ⟨C, hC⟩ : ∃ C, C = cmM t L p := ⟨_, rfl⟩
    have eK : cdK t L w21 q k p y = cdL t L w21 q C.2.2.2.2.1 (k + 1) (doM C.1 (ps y.1 C.2.2.2.2.1 0) y.2.1 y.2.2 w21 C.2.1 C.2.2.1 C.2.2.2.1) := by
      rw [hC]
      rfl
    rw [← hC] at t1 t2 t3 t4 t5
    rw [eK]
    have hn : k < n := by
      by_cases z : L ≤ C.2.2.2.2.1
      · rw [if_pos z] at t5
        omega
      · rw [if_neg z] at t5
        have := (exec_eq hp Q (Q - 1) (k + 1) (C.2.2.2.2.1 + 1) w y (by omega) t5 h0 hR hF).1
        omega
    refine ⟨hn, ?_⟩
    have eP : psL a b (n - k) k w = if 0 ≤ (performR C.1 w (b (3 * k + 0)) (b (3 * k + 1)) (b (3 * k + 2))).1 then psL a b (n - (k + 1)) (k + 1) (performR C.1 w (b (3 * k + 0)) (b (3 * k + 1)) (b (3 * k + 2))).2 else (nI k, (performR C.1 w (b (3 * k + 0)) (b (3 * k + 1)) (b (3 * k + 2))).2) := by
      rw [show n - k = (n - (k + 1)) + 1 by omega, ← cmdI_of t3 t2]
      rfl
    rw [eP]
    obtain ⟨P, hP⟩ : ∃ P, P = performR C.1 w (b (3 * k + 0)) (b (3 * k + 1)) (b (3 * k + 2)) := ⟨_, rfl⟩
    have d := do_ok (w21 := w21) hR hF hp (ps y.1 C.2.2.2.2.1 0) y.2.2 t2 t4
    obtain ⟨D, hD⟩ : ∃ D, D = doM C.1 (ps y.1 C.2.2.2.2.1 0) y.2.1 y.2.2 w21 C.2.1 C.2.2.1 C.2.2.2.1 := ⟨_, rfl⟩
    rw [← hP, ← hD] at d
    rw [← hP, ← hD]
    have u : ∀ q', q = q' + 1 → cdL t L w21 q C.2.2.2.2.1 (k + 1) D = if D.1 0 = 0 then (if L ≤ C.2.2.2.2.1 then (k + 1, D) else cdK t L w21 q' (k + 1) (C.2.2.2.2.1 + 1) D) else (k + 1, D) := fun q' e => by
      rw [e]
      rfl
    have u0 : q = 0 → cdL t L w21 q C.2.2.2.2.1 (k + 1) D = (k + 1, D) := fun e => by
      rw [e]
      rfl
    rcases d with ⟨d1, d2, ⟨m, m1, d3⟩, d4⟩ | ⟨d1, d2, d3, d4⟩
    · have z : ¬ D.1 0 = 0 := by
        rw [d3, pk_us]
        exact nI_ne0 (by omega) (by omega)
      refine .inr ⟨k, hn, ?_, ?_, ?_⟩
      · rw [if_neg (Int32.not_le.mpr d1)]
      · rcases Nat.eq_zero_or_pos q with e | e
        · rw [u0 e]
        · rw [u (q - 1) (by omega), if_neg z]
      · rcases Nat.eq_zero_or_pos q with e | e
        · rw [u0 e]
          exact z
        · rw [u (q - 1) (by omega), if_neg z]
          exact z
    · have z : D.1 0 = 0 := by
        rw [d2, ps_o (by decide) (by decide)]
        exact h0
      rw [if_pos (Int32.not_lt.mp d1)]
      by_cases x : L ≤ C.2.2.2.2.1
      · rw [if_pos x] at t5
        have e9 : cdL t L w21 q C.2.2.2.2.1 (k + 1) D = (k + 1, D) := by
          rcases Nat.eq_zero_or_pos q with e | e
          · exact u0 e
          · rw [u (q - 1) (by omega), if_pos z, if_pos x]
        rw [e9, t5, Nat.sub_self]
        exact .inl ⟨rfl, rfl, z, d3, d4⟩
      · rw [if_neg x] at t5
        have hQ : 0 < Q := by
          rcases Nat.eq_zero_or_pos Q with e | e
          · rw [e] at t5
            exact t5.elim
          · exact e
        rw [u (q - 1) (by omega), if_pos z, if_neg x]
        exact (exec_eq hp Q (q - 1) (k + 1) (C.2.2.2.2.1 + 1) P.2 D (by omega) t5 z d3 d4).2
