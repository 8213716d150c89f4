/-! The parsers: class and reference read alike. -/
theorem n10 : ¬ (1 : Nat) = 0 := by decide
theorem n01 : ¬ (0 : Nat) = 1 := by decide
theorem wdF_gt {t : Nat → Int32} {L P : Nat} (hL : L < 2 ^ 31) (hP : P ≤ L) : ∀ (q i sh k : Nat), i + q ≤ 10 → (wdF t L P q i sh).1 = some k → P < (wdF t L P q i sh).2
  | 0, _, _, _, _, h => by cases h
  | q + 1, i, sh, k, hq, h => by
    have e : wdF t L P (q + 1) i sh = if nI (mlN t L P i) = nI (strL.getD i 0) then (some i, P + mlN t L P i) else wdF t L P q (i + 1) (max sh (mlN t L P i)) := rfl
    rw [e] at h ⊢
    by_cases z : nI (mlN t L P i) = nI (strL.getD i 0)
    · rw [if_pos z]
      have w1 := wl_tab i (by omega)
      have w2 := (mlN_le (t := t) (si := i) hL hP).2
      have w3 : strL.getD i 0 = wlen i := rfl
      have w4 : mlN t L P i = strL.getD i 0 := (nI_eq (by omega) (by omega)).mp z
      show P < P + mlN t L P i
      omega
    · rw [if_neg z] at h ⊢
      exact wdF_gt hL hP q (i + 1) _ k (by omega) h
theorem wordR_gt {t : Nat → Int32} {L P k : Nat} (hL : L < 2 ^ 31) (hP : P ≤ L) (h : (wordR t L P).1 = some k) : P < (wordR t L P).2 := wdF_gt hL hP 10 0 0 k (by decide) h
theorem nI_cmp {L p : Nat} (hL : L ≤ 60) (hp : p ≤ 100) : (nI L ≤ nI p) = (L ≤ p) := propext (nI_leI (by omega) (by omega))
theorem dig_eq {t : Nat → Int32} {L p : Nat} (hL : L ≤ 60) (hp : p ≤ 100) : digF t L p = oM_isIn (sgM t L p) 48 57 := by
  unfold digF sgM
  simp only [nI_cmp hL hp]
  by_cases q : L ≤ p
  · rw [if_pos q, if_pos q]
    decide
  · rw [if_neg q, if_neg q]
    rfl
theorem rs_eq {t : Nat → Int32} {L p : Nat} {x : Int32} (hL : L ≤ 60) (hp : p ≤ 100) (hx : ¬ x = -1) : rsV t L p x = if sgM t L p = x then (p + 1, 1) else (p, 0) := by
  unfold rsV sgM
  simp only [nI_cmp hL hp]
  by_cases q : L ≤ p
  · rw [if_pos q, if_pos q, if_neg (fun h => hx h.symm)]
  · rw [if_neg q, if_neg q]
theorem rm_eq {t : Nat → Int32} {L p : Nat} (hL : L ≤ 60) (hp : p ≤ 100) : (oM_kind (sgM t L p) = -1 ∧ rmV t L p = (p, -1)) ∨ ∃ j, j < 4 ∧ oM_kind (sgM t L p) = nI j ∧ rmV t L p = (p + 1, sgM t L p) ∧ ¬ sgM t L p = -1 := by
  unfold rmV sgM
  simp only [nI_cmp hL hp]
  by_cases q : L ≤ p
  · rw [if_pos q, if_pos q]
    exact .inl ⟨by decide, rfl⟩
  · rw [if_neg q, if_neg q, mat_kind]
    rcases kind_cases (t p) with h | ⟨j, hj, e⟩
    · rw [if_pos h]
      exact .inl ⟨h, rfl⟩
    · have n1 : ¬ nI j = -1 := nI_neg (by omega)
      rw [if_neg (fun z => n1 (e.symm.trans z))]
      refine .inr ⟨j, hj, e, rfl, fun z => ?_⟩
      rw [z] at e
      exact n1 (e.symm.trans (by decide))
theorem num_val {x : Int32} {n : Nat} (h : ¬ oM_isIn x 48 57 = 0) : ∃ d, d ≤ 9 ∧ x = nI (48 + d) := by
  obtain ⟨k, h1, h2, rfl⟩ := isIn_nat (a := 48) (b := 57) (by decide) (by decide) h
  exact ⟨k - 48, by omega, by rw [show 48 + (k - 48) = k by omega]⟩
/-- the class's number, read from x on (-1 at first), against the reference's -/
theorem num_eq {t : Nat → Int32} {L : Nat} (hL : L ≤ 60) : ∀ (q p k n : Nat), p + q ≤ 100 → n < 10000000 → n * 10 ^ q + 10 ^ q ≤ 10000000 → (k = 0 → n = 0) → (numL t L q p (if k = 0 then -1 else nI n)).1 = (dgL t L q p k (nI n)).2.1 ∧ ((dgL t L q p k (nI n)).2.2 = 0 → (numL t L q p (if k = 0 then -1 else nI n)).2 = -1) ∧ (¬ (dgL t L q p k (nI n)).2.2 = 0 → (numL t L q p (if k = 0 then -1 else nI n)).2 = (dgL t L q p k (nI n)).1 ∧ ¬ (dgL t L q p k (nI n)).1 = -1)
  | 0, p, k, n, _, h2, _, _ => by
    refine ⟨rfl, fun z => if_pos z, fun z => ⟨if_neg z, ?_⟩⟩
    show ¬ nI n = -1
    intro e
    have e2 := nI_toInt (n := n) (by omega)
    rw [e, show (-1 : Int32).toInt = -1 from by decide] at e2
    omega
  | q + 1, p, k, n, h1, h2, h3, h0 => by
    have e1 : numL t L (q + 1) p (if k = 0 then -1 else nI n) = if digF t L p = 0 then (p, (if k = 0 then -1 else nI n)) else numL t L q (p + 1) (imax (if k = 0 then -1 else nI n) 0 * 10 + (t p - 48)) := rfl
    have e2 : dgL t L (q + 1) p k (nI n) = if oM_isIn (sgM t L p) 48 57 = 0 then (nI n, p, k) else dgL t L q (p + 1) (k + 1) (10 * nI n + sgM t L p - 48) := rfl
    rw [e1, e2, dig_eq hL (by omega)]
    by_cases z : oM_isIn (sgM t L p) 48 57 = 0
    · rw [if_pos z, if_pos z]
      refine ⟨rfl, fun z => if_pos z, fun z => ⟨if_neg z, ?_⟩⟩
      show ¬ nI n = -1
      intro e
      have e2 := nI_toInt (n := n) (by omega)
      rw [e, show (-1 : Int32).toInt = -1 from by decide] at e2
      omega
    · rw [if_neg z, if_neg z]
      have hp : p < L := sg_in z
      have es : sgM t L p = t p := if_neg (by omega)
      obtain ⟨d, hd, ed⟩ := num_val (n := 0) z
      rw [← es, ed]
      have m : imax (if k = 0 then -1 else nI n) 0 * 10 = nI (10 * n) := by
        by_cases w : k = 0
        · rw [if_pos w, h0 w]
          rfl
        · rw [if_neg w]
          have : imax (nI n) 0 = nI n := if_neg (nI_pos (by omega))
          rw [this, show nI n * 10 = nI (n * 10) from pk_mul n 10, Nat.mul_comm]
      have b1 : nI (48 + d) - 48 = nI d := by
        rw [show nI (48 + d) - 48 = nI (48 + d - 48) from pk_sub (b := 48) (by omega), show 48 + d - 48 = d by omega]
      have b2 : 10 * nI n + nI (48 + d) - 48 = nI (10 * n + d) := by
        rw [show (10 : Int32) * nI n = nI (10 * n) from pk_mul 10 n, nI_add, show nI (10 * n + (48 + d)) - 48 = nI (10 * n + (48 + d) - 48) from pk_sub (b := 48) (by omega), show 10 * n + (48 + d) - 48 = 10 * n + d by omega]
      rw [m, b1, b2, nI_add]
      have hq : 1 ≤ 10 ^ q := Nat.one_le_pow _ _ (by decide)
      have hm : 10 ^ (q + 1) = 10 * 10 ^ q := by rw [Nat.pow_succ, Nat.mul_comm]
      have hx : (10 * n + d) * 10 ^ q + 10 ^ q ≤ 10000000 := by
        rw [hm] at h3
        have : (10 * n + d) * 10 ^ q ≤ (10 * n + 9) * 10 ^ q := Nat.mul_le_mul_right _ (by omega)
        have e5 : n * (10 * 10 ^ q) + 10 * 10 ^ q = (10 * n + 9) * 10 ^ q + 10 ^ q := by grind
        omega
      have ih := num_eq (t := t) hL q (p + 1) (k + 1) (10 * n + d) (by omega) (by
        have : (10 * n + d) * 1 ≤ (10 * n + d) * 10 ^ q := Nat.mul_le_mul_left _ hq
        omega) hx (fun w => absurd w (by omega))
      rw [if_neg (show ¬ k + 1 = 0 by omega)] at ih
      exact ih
theorem rv_eq {t : Nat → Int32} {L m p : Nat} (hL : L ≤ 60) (hp : p ≤ L) (hm : m ≤ 3) : (numL t L m p (-1)).1 = (dgM t L m p).2.1 ∧ ((dgM t L m p).2.2 = 1 → (numL t L m p (-1)).2 = -1) ∧ ((dgM t L m p).2.2 = 0 → (numL t L m p (-1)).2 = (dgM t L m p).1 ∧ ¬ (dgM t L m p).1 = -1) := by
  have h := num_eq (t := t) hL m p 0 0 (by omega) (by decide) (by
    have : 10 ^ m ≤ 10 ^ 3 := Nat.pow_le_pow_right (by decide) hm
    omega) (fun _ => rfl)
  rw [if_pos rfl] at h
  have h : (numL t L m p (-1)).1 = (dgL t L m p 0 0).2.1 ∧ ((dgL t L m p 0 0).2.2 = 0 → (numL t L m p (-1)).2 = -1) ∧ (¬ (dgL t L m p 0 0).2.2 = 0 → (numL t L m p (-1)).2 = (dgL t L m p 0 0).1 ∧ ¬ (dgL t L m p 0 0).1 = -1) := h
  refine ⟨h.1, fun z => h.2.1 ?_, fun z => h.2.2 fun w => ?_⟩
  · by_cases w : (dgL t L m p 0 0).2.2 = 0
    · exact w
    · exact absurd z (by show ¬ (if (dgL t L m p 0 0).2.2 = 0 then 1 else 0) = 1; rw [if_neg w]; decide)
  · have z : (if (dgL t L m p 0 0).2.2 = 0 then 1 else 0) = 0 := z
    rw [if_pos w] at z
    exact absurd z (by decide)
def ArgOk (i : Nat) (x y z a b c : Int32) : Prop := x = a ∧ (i = 0 → oM_kind y = b ∧ z = c) ∧ (i = 1 ∨ i = 3 ∨ i = 4 ∨ i = 6 ∨ i = 8 → y = b) ∧ (i = 3 → z = c)
/-- one command's arguments, read by the class into row b at 3 * k -/
def RdOk (i k : Nat) (b : Nat → Int32) (r : Int32 × (Nat × (Nat → Int32))) (c : Int32 × (Int32 × (Int32 × (Nat × Nat)))) : Prop :=
  r.2.1 = c.2.2.2.1 ∧ (c.2.2.2.2 = 1 → r.1 = 0) ∧ (c.2.2.2.2 = 0 → r.1 = 1 ∧ ArgOk i (r.2.2 (3 * k + 0)) (r.2.2 (3 * k + 1)) (r.2.2 (3 * k + 2)) c.1 c.2.1 c.2.2.1) ∧ ∀ j, j < 3 * k ∨ 3 * k + 3 ≤ j → r.2.2 j = b j
theorem rdP_nil {t : Nat → Int32} {L k j p : Nat} {w : Nat → Int32} : rdP t L k [] j p w = (1, p, w) := rfl
theorem rdP_d {t : Nat → Int32} {L k j p : Nat} {w : Nat → Int32} {cs : List Nat} : rdP t L k (100 :: cs) j p w = if (numL t L 1 p (-1)).2 = -1 then (0, (numL t L 1 p (-1)).1, w) else rdP t L k cs (j + 1) (numL t L 1 p (-1)).1 (upd w (3 * k + j) (numL t L 1 p (-1)).2) := by
  rw [← rv_100]
  exact if_neg (by decide)
theorem rdP_n {t : Nat → Int32} {L k j p : Nat} {w : Nat → Int32} {cs : List Nat} : rdP t L k (110 :: cs) j p w = if (numL t L 3 p (-1)).2 = -1 then (0, (numL t L 3 p (-1)).1, w) else rdP t L k cs (j + 1) (numL t L 3 p (-1)).1 (upd w (3 * k + j) (numL t L 3 p (-1)).2) := by
  rw [← rv_110]
  exact if_neg (by decide)
theorem rdP_m {t : Nat → Int32} {L k j p : Nat} {w : Nat → Int32} {cs : List Nat} : rdP t L k (109 :: cs) j p w = if (rmV t L p).2 = -1 then (0, (rmV t L p).1, w) else rdP t L k cs (j + 1) (rmV t L p).1 (upd w (3 * k + j) (rmV t L p).2) := by
  rw [← rv_109]
  exact if_neg (by decide)
theorem rdP_s {t : Nat → Int32} {L k j p : Nat} {w : Nat → Int32} {cs : List Nat} : rdP t L k (32 :: cs) j p w = if (rsV t L p 32).2 = 0 then (0, (rsV t L p 32).1, w) else rdP t L k cs j (rsV t L p 32).1 w := if_pos rfl
/-- a number at the end of a form -/
theorem rd_last {t : Nat → Int32} {L k j p m : Nat} {w : Nat → Int32} (hL : L ≤ 60) (hp : p ≤ L) (hm : m ≤ 3) (hj : j < 3) : ((dgM t L m p).2.2 = 1 → (if (numL t L m p (-1)).2 = -1 then ((0 : Int32), (numL t L m p (-1)).1, w) else (1, (numL t L m p (-1)).1, upd w (3 * k + j) (numL t L m p (-1)).2)) = (0, (dgM t L m p).2.1, w)) ∧ ((dgM t L m p).2.2 = 0 → (if (numL t L m p (-1)).2 = -1 then ((0 : Int32), (numL t L m p (-1)).1, w) else (1, (numL t L m p (-1)).1, upd w (3 * k + j) (numL t L m p (-1)).2)) = (1, (dgM t L m p).2.1, upd w (3 * k + j) (dgM t L m p).1)) := by
  obtain ⟨h1, h2, h3⟩ := rv_eq (t := t) hL hp hm
  refine ⟨fun z => ?_, fun z => ?_⟩
  · rw [if_pos (h2 z), h1]
  · rw [(h3 z).1, if_neg (h3 z).2, h1]
section RD
variable {t : Nat → Int32} {L k p : Nat} {b : Nat → Int32}
theorem rd_1 (hL : L ≤ 60) (hp : p ≤ L) {i m c : Nat} (hm : m ≤ 3) (hi : i = 2 ∨ i = 5 ∨ i = 7 ∨ i = 9) (e : ∀ w, rdP t L k [c] 0 p w = if (numL t L m p (-1)).2 = -1 then (0, (numL t L m p (-1)).1, w) else rdP t L k [] (0 + 1) (numL t L m p (-1)).1 (upd w (3 * k + 0) (numL t L m p (-1)).2)) : RdOk i k b (rdP t L k [c] 0 p b) ((dgM t L m p).1, (0, (0, ((dgM t L m p).2.1, (dgM t L m p).2.2)))) := by
  rw [e]
  obtain ⟨h1, h2⟩ := rd_last (t := t) (k := k) (j := 0) (w := b) hL hp hm (by decide)
  rw [rdP_nil]
  rcases (dgM_w (t := t) (m := m) hp).2.2 with q | q
  · rw [h2 q]
    refine ⟨rfl, fun z => absurd (q.symm.trans z) (by decide), fun _ => ⟨rfl, pk_us, ?_, ?_, ?_⟩, fun j hj => pk_un (by omega)⟩
    · intro z; omega
    · intro z; omega
    · intro z; omega
  · rw [h1 q]
    exact ⟨rfl, fun _ => rfl, fun z => absurd (q.symm.trans z) (by decide), fun _ _ => rfl⟩
theorem rd_2 (hL : L ≤ 60) (hp : p ≤ L) {i m c : Nat} (hm : m ≤ 3) (hi : i = 1 ∨ i = 4 ∨ i = 6 ∨ i = 8) (e : ∀ w, rdP t L k [c, 32, 100] 0 p w = if (numL t L m p (-1)).2 = -1 then (0, (numL t L m p (-1)).1, w) else rdP t L k [32, 100] (0 + 1) (numL t L m p (-1)).1 (upd w (3 * k + 0) (numL t L m p (-1)).2)) : RdOk i k b (rdP t L k [c, 32, 100] 0 p b) (caB t L (dgM t L m p)) := by
  rw [e]
  obtain ⟨h1, h2, h3⟩ := rv_eq (t := t) (m := m) hL hp hm
  obtain ⟨g1, g2, g3⟩ := dgM_w (t := t) (m := m) hp
  unfold caB
  rcases g3 with q | q
  · rw [(h3 q).1, if_neg (h3 q).2, h1, if_pos q, rdP_s, rs_eq hL (by omega) (by decide)]
    unfold bhM
    by_cases s : sgM t L (dgM t L m p).2.1 = 32
    · rw [if_pos s, if_neg (show ¬ (1 : Int32) = 0 by decide), if_pos s]
      have s1 : (dgM t L m p).2.1 < L := sg_lt s (by decide)
      show RdOk i k b (rdP t L k [100] (0 + 1) ((dgM t L m p).2.1 + 1) _) _
      rw [rdP_d, rdP_nil]
      obtain ⟨u1, u2⟩ := rd_last (t := t) (k := k) (j := 0 + 1) (m := 1) (w := upd b (3 * k + 0) (dgM t L m p).1) hL (show (dgM t L m p).2.1 + 1 ≤ L by omega) (by decide) (by decide)
      rcases (dgM_w (t := t) (m := 1) (show (dgM t L m p).2.1 + 1 ≤ L by omega)).2.2 with z | z
      · rw [u2 z]
        refine ⟨rfl, fun y => absurd (z.symm.trans y) (by decide), fun _ => ⟨rfl, ?_, ?_, ?_, ?_⟩, fun j hj => ?_⟩
        · exact (pk_un (by omega)).trans pk_us
        · intro y; omega
        · intro _; exact pk_us
        · intro y; omega
        · exact (pk_un (by omega)).trans (pk_un (by omega))
      · rw [u1 z]
        exact ⟨rfl, fun _ => rfl, fun y => absurd (z.symm.trans y) (by decide), fun j hj => pk_un (by omega)⟩
    · rw [if_neg s, if_pos rfl, if_neg s]
      exact ⟨rfl, fun _ => rfl, fun y => (n10 y).elim, fun j hj => pk_un (by omega)⟩
  · rw [if_pos (h2 q), h1, if_neg (by omega)]
    exact ⟨rfl, fun _ => rfl, fun y => (n10 y).elim, fun j hj => rfl⟩
theorem rd_0 (hL : L ≤ 60) (hp : p ≤ L) : RdOk 0 k b (rdP t L k [100, 32, 109, 110] 0 p b) (ca0 t L p) := by
  rw [rdP_d]
  obtain ⟨h1, h2, h3⟩ := rv_eq (t := t) (m := 1) hL hp (by decide)
  obtain ⟨g1, g2, g3⟩ := dgM_w (t := t) (m := 1) hp
  unfold ca0
  rcases g3 with q | q
  · rw [(h3 q).1, if_neg (h3 q).2, h1, if_pos q, rdP_s, rs_eq hL (by omega) (by decide)]
    unfold mtM
    by_cases s : sgM t L (dgM t L 1 p).2.1 = 32
    · have s1 : (dgM t L 1 p).2.1 < L := sg_lt s (by decide)
      rw [if_pos s, if_neg (show ¬ (1 : Int32) = 0 by decide), if_pos s]
      show RdOk 0 k b (rdP t L k [109, 110] (0 + 1) ((dgM t L 1 p).2.1 + 1) _) _
      rw [rdP_m]
      rcases rm_eq (t := t) (p := (dgM t L 1 p).2.1 + 1) hL (by omega) with ⟨r1, r2⟩ | ⟨j, hj, r1, r2, r3⟩
      · rw [r2, if_pos rfl, if_neg (show ¬ 0 ≤ oM_kind (sgM t L ((dgM t L 1 p).2.1 + 1)) by rw [r1]; decide), if_neg (show ¬ (1 : Nat) = 0 by decide)]
        exact ⟨rfl, fun _ => rfl, fun y => (n10 y).elim, fun j hj => pk_un (by omega)⟩
      · have r4 : 0 ≤ oM_kind (sgM t L ((dgM t L 1 p).2.1 + 1)) := by rw [r1]; exact nI_pos' (by omega)
        have r5 := sg_kind r4
        rw [r2, if_neg r3, if_pos r4, if_pos rfl]
        show RdOk 0 k b (rdP t L k [110] (0 + 1 + 1) ((dgM t L 1 p).2.1 + 1 + 1) _) _
        rw [rdP_n, rdP_nil]
        obtain ⟨u1, u2⟩ := rd_last (t := t) (k := k) (j := 0 + 1 + 1) (m := 3) (w := upd (upd b (3 * k + 0) (dgM t L 1 p).1) (3 * k + (0 + 1)) (sgM t L ((dgM t L 1 p).2.1 + 1))) hL (show (dgM t L 1 p).2.1 + 1 + 1 ≤ L by omega) (by decide) (by decide)
        rcases (dgM_w (t := t) (m := 3) (show (dgM t L 1 p).2.1 + 1 + 1 ≤ L by omega)).2.2 with z | z
        · rw [u2 z]
          refine ⟨rfl, fun y => absurd (z.symm.trans y) (by decide), fun _ => ⟨rfl, ?_, ?_, ?_, ?_⟩, fun j hj => ?_⟩
          · exact (pk_un (by omega)).trans ((pk_un (by omega)).trans pk_us)
          · refine fun _ => ⟨?_, pk_us⟩
            show oM_kind (upd (upd _ (3 * k + (0 + 1)) _) (3 * k + (0 + 1 + 1)) _ (3 * k + 1)) = _
            rw [pk_un (by omega), show 3 * k + (0 + 1) = 3 * k + 1 by omega, pk_us]
          · intro y; omega
          · intro y; omega
          · exact (pk_un (by omega)).trans ((pk_un (by omega)).trans (pk_un (by omega)))
        · rw [u1 z]
          exact ⟨rfl, fun _ => rfl, fun y => absurd (z.symm.trans y) (by decide), fun j hj => (pk_un (by omega)).trans (pk_un (by omega))⟩
    · rw [if_neg s, if_pos rfl, if_neg s, if_neg (show ¬ (1 : Nat) = 0 by decide)]
      exact ⟨rfl, fun _ => rfl, fun y => (n10 y).elim, fun j hj => pk_un (by omega)⟩
  · rw [if_pos (h2 q), h1, if_neg (by omega)]
    exact ⟨rfl, fun _ => rfl, fun y => (n10 y).elim, fun j hj => rfl⟩
theorem rd_3 (hL : L ≤ 60) (hp : p ≤ L) : RdOk 3 k b (rdP t L k [100, 32, 100, 32, 110] 0 p b) (ca3 t L p) := by
  rw [rdP_d]
  obtain ⟨h1, h2, h3⟩ := rv_eq (t := t) (m := 1) hL hp (by decide)
  obtain ⟨g1, g2, g3⟩ := dgM_w (t := t) (m := 1) hp
  unfold ca3
  rcases g3 with q | q
  · rw [(h3 q).1, if_neg (h3 q).2, h1, if_pos q, rdP_s, rs_eq hL (by omega) (by decide)]
    obtain ⟨P, hP⟩ : ∃ P, P = (dgM t L 1 p).2.1 := ⟨_, rfl⟩
    rw [← hP] at g1 g2 ⊢
    by_cases s : sgM t L P = 32
    · have s1 : P < L := sg_lt s (by decide)
      have eb : bhM t L 1 P = dgM t L 1 (P + 1) := if_pos s
      rw [if_pos s, if_neg (show ¬ (1 : Int32) = 0 by decide), eb]
      show RdOk 3 k b (rdP t L k [100, 32, 110] (0 + 1) (P + 1) _) _
      rw [rdP_d]
      obtain ⟨h4, h5, h6⟩ := rv_eq (t := t) (m := 1) (p := P + 1) hL (by omega) (by decide)
      obtain ⟨g4, g5, g6⟩ := dgM_w (t := t) (m := 1) (p := P + 1) (L := L) (by omega)
      rcases g6 with q2 | q2
      · rw [(h6 q2).1, if_neg (h6 q2).2, h4, if_pos q2, rdP_s, rs_eq hL (by omega) (by decide)]
        obtain ⟨Q, hQ⟩ : ∃ Q, Q = (dgM t L 1 (P + 1)).2.1 := ⟨_, rfl⟩
        rw [← hQ] at g4 g5 ⊢
        by_cases s2 : sgM t L Q = 32
        · have s3 : Q < L := sg_lt s2 (by decide)
          have eb2 : bhM t L 3 Q = dgM t L 3 (Q + 1) := if_pos s2
          rw [if_pos s2, if_neg (show ¬ (1 : Int32) = 0 by decide), eb2]
          show RdOk 3 k b (rdP t L k [110] (0 + 1 + 1) (Q + 1) _) _
          rw [rdP_n, rdP_nil]
          obtain ⟨u1, u2⟩ := rd_last (t := t) (k := k) (j := 0 + 1 + 1) (m := 3) (w := upd (upd b (3 * k + 0) (dgM t L 1 p).1) (3 * k + (0 + 1)) (dgM t L 1 (P + 1)).1) hL (show Q + 1 ≤ L by omega) (by decide) (by decide)
          rcases (dgM_w (t := t) (m := 3) (show Q + 1 ≤ L by omega)).2.2 with z | z
          · rw [u2 z]
            refine ⟨rfl, fun y => absurd (z.symm.trans y) (by decide), fun _ => ⟨rfl, ?_, ?_, ?_, ?_⟩, fun j hj => ?_⟩
            · exact (pk_un (by omega)).trans ((pk_un (by omega)).trans pk_us)
            · intro y; omega
            · intro _
              exact (pk_un (by omega)).trans pk_us
            · intro _
              exact pk_us
            · exact (pk_un (by omega)).trans ((pk_un (by omega)).trans (pk_un (by omega)))
          · rw [u1 z]
            exact ⟨rfl, fun _ => rfl, fun y => absurd (z.symm.trans y) (by decide), fun j hj => (pk_un (by omega)).trans (pk_un (by omega))⟩
        · have eb2 : bhM t L 3 Q = (0, (Q, 1)) := if_neg s2
          rw [if_neg s2, if_pos rfl, eb2]
          exact ⟨rfl, fun _ => rfl, fun y => (n10 y).elim, fun j hj => (pk_un (by omega)).trans (pk_un (by omega))⟩
      · rw [if_pos (h5 q2), h4, if_neg (show ¬ (dgM t L 1 (P + 1)).2.2 = 0 by omega)]
        exact ⟨rfl, fun _ => rfl, fun y => (n10 y).elim, fun j hj => pk_un (by omega)⟩
    · have eb : bhM t L 1 P = (0, (P, 1)) := if_neg s
      rw [if_neg s, if_pos rfl, eb, if_neg (show ¬ (1 : Nat) = 0 by decide)]
      exact ⟨rfl, fun _ => rfl, fun y => (n10 y).elim, fun j hj => pk_un (by omega)⟩
  · rw [if_pos (h2 q), h1, if_neg (by omega)]
    exact ⟨rfl, fun _ => rfl, fun y => (n10 y).elim, fun j hj => rfl⟩
theorem rd_all (hL : L ≤ 60) (hp : p ≤ L) {i : Nat} (hi : i < 10) : RdOk i k b (rdP t L k (formL i) 0 p b) (caK i t L p) := by
  rcases (by omega : i = 0 ∨ i = 1 ∨ i = 2 ∨ i = 3 ∨ i = 4 ∨ i = 5 ∨ i = 6 ∨ i = 7 ∨ i = 8 ∨ i = 9) with rfl | rfl | rfl | rfl | rfl | rfl | rfl | rfl | rfl | rfl
  · exact rd_0 hL hp
  · exact rd_2 (m := 1) hL hp (by decide) (by decide) fun w => rdP_d
  · exact rd_1 (m := 1) hL hp (by decide) (by decide) fun w => rdP_d
  · exact rd_3 hL hp
  · exact rd_2 (m := 1) hL hp (by decide) (by decide) fun w => rdP_d
  · exact rd_1 (m := 3) hL hp (by decide) (by decide) fun w => rdP_n
  · exact rd_2 (m := 1) hL hp (by decide) (by decide) fun w => rdP_d
  · exact rd_1 (m := 1) hL hp (by decide) (by decide) fun w => rdP_d
  · exact rd_2 (m := 3) hL hp (by decide) (by decide) fun w => rdP_n
  · exact rd_1 (m := 3) hL hp (by decide) (by decide) fun w => rdP_n
end RD
/-- a command: class and reference -/
theorem rc_eq {t : Nat → Int32} {L k p : Nat} {a b : Nat → Int32} (hL : L ≤ 60) (hp : p ≤ L) : (rcR t L k p a b).2.1 = (cmM t L p).2.2.2.2.1 ∧ ((cmM t L p).2.2.2.2.2 = 1 → (rcR t L k p a b).1 = 0) ∧ ((cmM t L p).2.2.2.2.2 = 0 → (rcR t L k p a b).1 = 1 ∧ p < (cmM t L p).2.2.2.2.1 ∧ (cmM t L p).1 < 10 ∧ (rcR t L k p a b).2.2.1 k = nI ((cmM t L p).1 + 1) ∧ ArgOk (cmM t L p).1 ((rcR t L k p a b).2.2.2 (3 * k + 0)) ((rcR t L k p a b).2.2.2 (3 * k + 1)) ((rcR t L k p a b).2.2.2 (3 * k + 2)) (cmM t L p).2.1 (cmM t L p).2.2.1 (cmM t L p).2.2.2.1) ∧ (∀ j, j ≠ k → (rcR t L k p a b).2.2.1 j = a j) ∧ ∀ j, j < 3 * k ∨ 3 * k + 3 ≤ j → (rcR t L k p a b).2.2.2 j = b j := by
  unfold rcR cmM
  rcases hw : (wordR t L p).1 with _ | i
  · exact ⟨rfl, fun _ => rfl, fun z => (n10 z).elim, fun _ _ => rfl, fun _ _ => rfl⟩
  · have hi : i < 10 := wordR_lt hw
    have hg := wordR_gt (by omega) hp hw
    have hle := (wordR_le (t := t) (L := L) (P := p) (by omega) hp).2
    obtain ⟨r1, r2, r3, r4⟩ := rd_all (t := t) (k := k) (b := b) hL hle hi
    have hw2 := caK_w (t := t) (L := L) hle i
    dsimp only
    rcases hw2.2.2 with q | q
    · obtain ⟨e, ao⟩ := r3 q
      rw [e, if_neg (show ¬ (1 : Int32) = 0 by decide)]
      exact ⟨r1, fun z => absurd (q.symm.trans z) (by decide), fun _ => ⟨rfl, Nat.lt_of_lt_of_le hg hw2.1, hi, pk_us, ao⟩, fun j hj => pk_un hj, r4⟩
    · rw [r2 q, if_pos rfl]
      exact ⟨r1, fun _ => rfl, fun z => absurd (q.symm.trans z) (by decide), fun _ _ => rfl, r4⟩
def TR (t : Nat → Int32) (L : Nat) (a b : Nat → Int32) (n : Nat) : Nat → Nat → Nat → Prop
  | 0, _, _ => False
  | q + 1, k, p => p ≤ L ∧ (cmM t L p).2.2.2.2.2 = 0 ∧ (cmM t L p).1 < 10 ∧ a k = nI ((cmM t L p).1 + 1) ∧ ArgOk (cmM t L p).1 (b (3 * k + 0)) (b (3 * k + 1)) (b (3 * k + 2)) (cmM t L p).2.1 (cmM t L p).2.2.1 (cmM t L p).2.2.2.1 ∧ (if L ≤ (cmM t L p).2.2.2.2.1 then n = k + 1 else TR t L a b n q (k + 1) ((cmM t L p).2.2.2.2.1 + 1))
/-- what the reference says of the text from the command at p on, k commands being read -/
def csK (t : Nat → Int32) (L q k p : Nat) : Nat × (Nat × Nat) := if (cmM t L p).2.2.2.2.2 = 1 then ((cmM t L p).2.2.2.2.1, (1, k + 1)) else csL t L q (cmM t L p).2.2.2.2.1 (k + 1)
theorem prL_eq {t : Nat → Int32} {L : Nat} (hL : L ≤ 60) : ∀ (q k p : Nat) (a b : Nat → Int32), p ≤ L → k + q = 60 → k ≤ p →
    (∀ j, j < k → (prL t L q k p (nI k) a b).2.2.2.1 j = a j) ∧ (∀ j, j < 3 * k → (prL t L q k p (nI k) a b).2.2.2.2 j = b j) ∧
    (∃ m, m ≤ 60 ∧ (prL t L q k p (nI k) a b).2.2.1 = nI m ∧ ∀ i, k ≤ i → i < m → ∃ c, c < 10 ∧ (prL t L q k p (nI k) a b).2.2.2.1 i = nI (c + 1)) ∧
    ((csK t L q k p).2.1 = 0 ∨ (csK t L q k p).2.1 = 1) ∧ (csK t L q k p).1 ≤ L ∧ ((csK t L q k p).2.1 = 1 → (prL t L q k p (nI k) a b).1 = nI (csK t L q k p).1) ∧
    ((csK t L q k p).2.1 = 0 → (prL t L q k p (nI k) a b).1 = -1 ∧ k < (csK t L q k p).2.2 ∧ (csK t L q k p).2.2 ≤ 60 ∧ (prL t L q k p (nI k) a b).2.2.1 = nI (csK t L q k p).2.2 ∧ TR t L (prL t L q k p (nI k) a b).2.2.2.1 (prL t L q k p (nI k) a b).2.2.2.2 (csK t L q k p).2.2 q k p)
  | 0, k, p, a, b, hp, hq, hk => by
    obtain ⟨-, -, e3, -, -⟩ := rc_eq (t := t) (k := k) (a := a) (b := b) hL hp
    have w := (cmM_w (t := t) hp hL).1
    have wr : (cmM t L p).2.2.2.2.2 = 1 := by
      rcases w.2.2 with z | z
      · have h1 := (e3 z).2.1
        have h2 : (cmM t L p).2.2.2.2.1 ≤ L := w.2.1
        omega
      · exact z
    have ek : csK t L 0 k p = ((cmM t L p).2.2.2.2.1, (1, k + 1)) := if_pos wr
    rw [ek]
    refine ⟨fun _ _ => rfl, fun _ _ => rfl, ⟨k, by omega, rfl, fun i h1 h2 => by omega⟩, .inr rfl, w.2.1, fun _ => ?_, fun z => (n10 z).elim⟩
    have h1 : p ≤ (cmM t L p).2.2.2.2.1 := w.1
    have h2 : (cmM t L p).2.2.2.2.1 ≤ L := w.2.1
    show nI p = nI (cmM t L p).2.2.2.2.1
    rw [show (cmM t L p).2.2.2.2.1 = p by omega]
  | q + 1, k, p, a, b, hp, hq, hk => by
    obtain ⟨e1, e2, e3, e4, e5⟩ := rc_eq (t := t) (k := k) (a := a) (b := b) hL hp
    have w := (cmM_w (t := t) hp hL).1
    have w1 : p ≤ (cmM t L p).2.2.2.2.1 := w.1
    have w2 : (cmM t L p).2.2.2.2.1 ≤ L := w.2.1
    obtain ⟨R, hR⟩ : ∃ R, R = rcR t L k p a b := ⟨_, rfl⟩
    obtain ⟨C, hC⟩ : ∃ C, C = cmM t L p := ⟨_, rfl⟩
    have u : prL t L (q + 1) k p (nI k) a b = if R.1 = 0 then (nI R.2.1, R.2.1, nI k, R.2.2.1, R.2.2.2) else if nI R.2.1 < nI L then (if (rsV t L R.2.1 59).2 = 0 then (nI (rsV t L R.2.1 59).1, (rsV t L R.2.1 59).1, nI (k + 1), R.2.2.1, R.2.2.2) else prL t L q (k + 1) (rsV t L R.2.1 59).1 (nI (k + 1)) R.2.2.1 R.2.2.2) else (-1, R.2.1, nI (k + 1), R.2.2.1, R.2.2.2) := by
      rw [hR]
      rfl
    rw [u]
    have hTR : ∀ (a' b' : Nat → Int32) (n : Nat), TR t L a' b' n (q + 1) k p = (p ≤ L ∧ C.2.2.2.2.2 = 0 ∧ C.1 < 10 ∧ a' k = nI (C.1 + 1) ∧ ArgOk C.1 (b' (3 * k + 0)) (b' (3 * k + 1)) (b' (3 * k + 2)) C.2.1 C.2.2.1 C.2.2.2.1 ∧ (if L ≤ C.2.2.2.2.1 then n = k + 1 else TR t L a' b' n q (k + 1) (C.2.2.2.2.1 + 1))) := fun a' b' n => by
      rw [hC]
      rfl
    have hK : csK t L (q + 1) k p = if C.2.2.2.2.2 = 1 then (C.2.2.2.2.1, (1, k + 1)) else if L ≤ C.2.2.2.2.1 then (C.2.2.2.2.1, (0, k + 1)) else if sgM t L C.2.2.2.2.1 = 59 then csK t L q (k + 1) (C.2.2.2.2.1 + 1) else (C.2.2.2.2.1, (1, k + 1 + 1)) := by
      rw [hC]
      rfl
    rw [hK]
    simp only [hTR]
    rw [← hR, ← hC] at e1 e2 e3
    rw [← hR] at e4 e5
    rw [← hC] at w w1 w2
    rw [e1]
    have w3 : C.2.2.2.2.2 = 0 ∨ C.2.2.2.2.2 = 1 := by rw [hC]; exact cmM_b'
    rcases w3 with z | z
    · obtain ⟨h1, h2, h3, h4, h5⟩ := e3 z
      rw [h1, if_neg (show ¬ (1 : Int32) = 0 by decide), if_neg (show ¬ C.2.2.2.2.2 = 1 by omega)]
      by_cases y : L ≤ C.2.2.2.2.1
      · rw [if_neg (show ¬ nI C.2.2.2.2.1 < nI L from nI_nlt y (by omega)), if_pos y]
        refine ⟨fun j hj => e4 j (by omega), fun j hj => e5 j (by omega), ⟨k + 1, by omega, rfl, fun i h6 h7 => ⟨C.1, h3, ?_⟩⟩, .inl rfl, w2, fun x => (n01 x).elim, fun _ => ⟨rfl, show k < k + 1 by omega, show k + 1 ≤ 60 by omega, rfl, hp, z, h3, h4, h5, ?_⟩⟩
        · obtain rfl : i = k := by omega
          exact h4
        · rw [if_pos y]
      · rw [if_pos (show nI C.2.2.2.2.1 < nI L from nI_lt (by omega) (by omega)), if_neg y, rs_eq hL (by omega) (by decide)]
        by_cases x : sgM t L C.2.2.2.2.1 = 59
        · rw [if_pos x, if_pos x, if_neg (show ¬ (1 : Int32) = 0 by decide)]
          obtain ⟨i1, i2, ⟨m, i3, i4, i5⟩, i6, i7, i8, i9⟩ := prL_eq hL q (k + 1) (C.2.2.2.2.1 + 1) R.2.2.1 R.2.2.2 (by omega) (by omega) (by omega)
          refine ⟨fun j hj => (i1 j (by omega)).trans (e4 j (by omega)), fun j hj => (i2 j (by omega)).trans (e5 j (by omega)), ⟨m, i3, i4, fun i h6 h7 => ?_⟩, i6, i7, i8, fun x2 => ?_⟩
          · by_cases x3 : i = k
            · subst x3
              exact ⟨C.1, h3, (i1 i (by omega)).trans h4⟩
            · exact i5 i (by omega) h7
          · obtain ⟨j1, j2, j3, j4, j5⟩ := i9 x2
            refine ⟨j1, by omega, j3, j4, hp, z, h3, (i1 k (by omega)).trans h4, ?_, ?_⟩
            · show ArgOk C.1 ((prL t L q (k + 1) (C.2.2.2.2.1 + 1) (nI (k + 1)) R.2.2.1 R.2.2.2).2.2.2.2 (3 * k + 0)) _ _ _ _ _
              rw [i2 (3 * k + 0) (by omega), i2 (3 * k + 1) (by omega), i2 (3 * k + 2) (by omega)]
              exact h5
            · rw [if_neg y]
              exact j5
        · rw [if_neg x, if_neg x, if_pos rfl]
          refine ⟨fun j hj => e4 j (by omega), fun j hj => e5 j (by omega), ⟨k + 1, by omega, rfl, fun i h6 h7 => ⟨C.1, h3, ?_⟩⟩, .inr rfl, w2, fun _ => rfl, fun x => (n10 x).elim⟩
          obtain rfl : i = k := by omega
          exact h4
    · rw [e2 z, if_pos rfl, if_pos z]
      exact ⟨fun j hj => e4 j (by omega), fun j hj => e5 j (by omega), ⟨k, by omega, rfl, fun i h1 h2 => by omega⟩, .inr rfl, w2, fun _ => rfl, fun x => (n10 x).elim⟩
theorem parse_eq {t : Nat → Int32} {L : Nat} (hL : L ≤ 60) (a b : Nat → Int32) :
    (∃ m, m ≤ 60 ∧ (parseR t L a b).2.2.1 = nI m ∧ ∀ i, i < m → ∃ c, c < 10 ∧ (parseR t L a b).2.2.2.1 i = nI (c + 1)) ∧
    ((csM t L).2.1 = 0 ∨ (csM t L).2.1 = 1) ∧ (csM t L).1 ≤ L ∧ ((csM t L).2.1 = 1 → (parseR t L a b).1 = nI (csM t L).1) ∧
    ((csM t L).2.1 = 0 → (parseR t L a b).1 = -1 ∧ 0 < (csM t L).2.2 ∧ (csM t L).2.2 ≤ 60 ∧ (parseR t L a b).2.2.1 = nI (csM t L).2.2 ∧ TR t L (parseR t L a b).2.2.2.1 (parseR t L a b).2.2.2.2 (csM t L).2.2 60 0 0) := by
  have h := prL_eq (t := t) hL 60 0 0 a b (by omega) (by omega) (by omega)
  obtain ⟨-, -, ⟨m, m1, m2, m3⟩, h1, h2, h3, h4⟩ := h
  exact ⟨⟨m, m1, m2, fun i hi => m3 i (by omega) hi⟩, h1, h2, h3, h4⟩
