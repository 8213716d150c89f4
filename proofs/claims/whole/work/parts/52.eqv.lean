/-! Class against reference: rows of ints that say the same, and what the reference keeps. -/
def kmv (v : Nat → Int32) : Nat := (v 42).toNatClampNeg
def kiv (v : Nat → Int32) : Nat := (v 43).toNatClampNeg
def Rel (w v : Nat → Int32) : Prop := (∀ j, j < 44 → w j = v j) ∧ (∀ m k, m < kmv v → k < 5 → w (44 + 6 * m + k) = v (44 + 6 * m + k)) ∧ ∀ i k, i < kiv v → k < 4 → w (80 + 4 * i + k) = v (80 + 4 * i + k)
def FInv (ee v : Nat → Int32) : Prop := MInv v ∧ ∀ j, j < 4 → stkW v j = v (1 + j) - v (5 + j) + ee j
abbrev FI (v : Nat → Int32) : Prop := FInv (fun _ => 0) v
theorem fi_st {v : Nat → Int32} (h : FI v) {j : Nat} (hj : j < 4) : stkW v j = v (1 + j) - v (5 + j) := (h.2 j hj).trans (Int32.add_zero _)
def OpOk (ee : Nat → Int32) (L : List String) (P : Int32 × (Nat → Int32)) (w w15 : Nat → Int32) (ans : Int32) (d15 v d16 : Nat → Int32) : Prop :=
  (∃ (i : Nat) (E : String), L[i]? = some E ∧ i < 5 ∧ refE P.1 = some E ∧ P.1 < 0 ∧ P.2 = w ∧ d15 = upd w15 0 (nI (i + 1)) ∧ d16 = v) ∨
  (refE P.1 = none ∧ ¬ P.1 < 0 ∧ ans = P.1 ∧ d15 = w15 ∧ Rel P.2 d16 ∧ FInv ee d16)
theorem accL_congr {w v : Nat → Int32} {i st j : Nat} : ∀ (n : Nat) (a : Int32), (∀ k, k < n → w (i + st * k + j) = v (i + st * k + j)) → accL w i st j n a = accL v i st j n a
  | 0, _, _ => rfl
  | n + 1, a, h => by
    show accL w i st j n a + _ = accL v i st j n a + _
    rw [accL_congr n a fun k hk => h k (by omega), h n (by omega)]
theorem accL_add {w : Nat → Int32} {i st j : Nat} : ∀ (n : Nat) (a b : Int32), accL w i st j n (a + b) = accL w i st j n a + b
  | 0, _, _ => rfl
  | n + 1, a, b => by
    show accL w i st j n (a + b) + _ = accL w i st j n a + _ + b
    rw [accL_add n a b]
    grind
theorem accL_0 (w : Nat → Int32) (i st j n : Nat) (a : Int32) : accL w i st j n a = accL w i st j n 0 + a := by
  have h := accL_add (w := w) (i := i) (st := st) (j := j) n 0 a
  rwa [Int32.zero_add] at h
theorem accL_set {w v : Nat → Int32} {i st j m : Nat} : ∀ (n : Nat) (a : Int32), m < n → (∀ k, k < n → k ≠ m → w (i + st * k + j) = v (i + st * k + j)) → accL w i st j n a = accL v i st j n a + (w (i + st * m + j) - v (i + st * m + j))
  | 0, _, h, _ => absurd h (by omega)
  | n + 1, a, h, e => by
    show accL w i st j n a + _ = accL v i st j n a + _ + _
    by_cases q : m = n
    · subst q
      rw [accL_congr m a fun k hk => e k (by omega) (by omega)]
      grind
    · rw [accL_set n a (by omega) fun k hk => e k (by omega), e n (by omega) (Ne.symm q)]
      grind
theorem accL_shift {w v : Nat → Int32} {i st j m : Nat} : ∀ (n : Nat) (a : Int32), m ≤ n → (∀ k, k < n → w (i + st * k + j) = if k < m then v (i + st * k + j) else v (i + st * (k + 1) + j)) → accL w i st j n a + v (i + st * m + j) = accL v i st j (n + 1) a
  | 0, a, h, e => by
    obtain rfl : m = 0 := by omega
    rfl
  | n + 1, a, h, e => by
    show accL w i st j n a + _ + _ = accL v i st j (n + 1) a + _
    by_cases q : m ≤ n
    · rw [← accL_shift n a q fun k hk => e k (by omega), e n (by omega), if_neg (by omega)]
      grind
    · obtain rfl : m = n + 1 := by omega
      rw [accL_congr n a fun k hk => (e k (by omega)).trans (if_pos (by omega)), e n (by omega), if_pos (by omega)]
      rfl
theorem stk_split (v : Nat → Int32) (j : Nat) : stkW v j = accL v 80 4 j (kiv v) 0 + (accL v 44 6 j (kmv v) 0 + stk0 v j) := by
  show accL v 80 4 j (kiv v) (accL v 44 6 j (kmv v) (stk0 v j)) = _
  rw [accL_0 v 80, accL_0 v 44]
theorem cons_low {v v' : Nat → Int32} (hv : ∀ j, 42 ≤ j → v' j = v j) {j : Nat} (hs : stk0 v' j - v' (1 + j) + v' (5 + j) = stk0 v j - v (1 + j) + v (5 + j)) {x : Int32} (h : stkW v j = v (1 + j) - v (5 + j) + x) : stkW v' j = v' (1 + j) - v' (5 + j) + x := by
  rw [stk_split] at h ⊢
  have e1 : kiv v' = kiv v := congrArg Int32.toNatClampNeg (hv 43 (by decide))
  have e2 : kmv v' = kmv v := congrArg Int32.toNatClampNeg (hv 42 (by decide))
  rw [e1, e2, accL_congr (w := v') (v := v) _ _ fun k _ => hv _ (by omega), accL_congr (w := v') (v := v) _ _ fun k _ => hv _ (by omega)]
  grind
theorem Rel.low {w v w' v' : Nat → Int32} (h : Rel w v) (hw : ∀ j, 42 ≤ j → w' j = w j) (hv : ∀ j, 42 ≤ j → v' j = v j) (hl : ∀ j, j < 42 → w' j = v' j) : Rel w' v' := by
  have e1 : kiv v' = kiv v := congrArg Int32.toNatClampNeg (hv 43 (by decide))
  have e2 : kmv v' = kmv v := congrArg Int32.toNatClampNeg (hv 42 (by decide))
  refine ⟨fun j hj => ?_, fun m k hm hk => ?_, fun i k hi hk => ?_⟩
  · by_cases q : j < 42
    · exact hl j q
    · rw [hw j (by omega), hv j (by omega)]
      exact h.1 j hj
  · rw [hw _ (by omega), hv _ (by omega)]
    exact h.2.1 m k (by omega) hk
  · rw [hw _ (by omega), hv _ (by omega)]
    exact h.2.2 i k (by omega) hk
theorem MInv.low {v v' : Nat → Int32} (h : MInv v) (hv : ∀ j, 42 ≤ j → v' j = v j) (h1 : ∀ f, f < 3 → ∃ s, s ≤ 100 ∧ MixS v' (9 + 6 * f) s) (h2 : ∀ f, f < 3 → ∃ s, s ≤ 40 ∧ MixS v' (27 + 5 * f) s)
    (h3 : ∀ f, f < 3 → ∃ t, 20 ≤ t ∧ t ≤ 1500 ∧ v' (13 + 6 * f) = nI t) (h4 : ∀ f, f < 3 → ∃ t, t ≤ 5 ∧ v' (14 + 6 * f) = nI t) (h5 : ∀ f, f < 3 → ∃ t, 20 ≤ t ∧ t ≤ 1500 ∧ v' (31 + 5 * f) = nI t) : MInv v' := by
  obtain ⟨-, -, ⟨km, k1, k2, k3⟩, ⟨ki, i1, i2, i3⟩, -, -, -⟩ := h
  refine ⟨h1, h2, ⟨km, k1, (hv _ (by decide)).trans k2, fun m hm => ?_⟩, ⟨ki, i1, (hv _ (by decide)).trans i2, fun i hi => ?_⟩, h3, h4, h5⟩
  · obtain ⟨⟨x, x1, x2, x3⟩, s, s1, s2, s3⟩ := k3 m hm
    exact ⟨⟨x, x1, x2, (hv _ (by omega)).trans x3⟩, s, s1, s2.congr fun j _ => hv _ (by omega), (hv _ (by omega)).trans s3⟩
  · obtain ⟨s, s1, s2, s3⟩ := i3 i hi
    exact ⟨s, s1, s2, s3.congr fun j _ => hv _ (by omega)⟩
theorem mat_kind (x : Int32) : matOf x = oM_kind x := by
  unfold matOf oM_kind
  simp only [eq_comm]
theorem kind_cases (x : Int32) : oM_kind x = -1 ∨ ∃ j, j < 4 ∧ oM_kind x = nI j := by
  by_cases h : matOf x = -1
  · exact .inl ((mat_kind x).symm.trans h)
  · obtain ⟨j, hj, e⟩ := matOf_in (x := x) rfl h
    exact .inr ⟨j, hj, (mat_kind x).symm.trans e⟩
theorem three_cases (x : Int32) : (¬ sOut x 3 = 0 ∧ oM_isThree x = 0) ∨ ∃ f, f < 3 ∧ x = nI f ∧ sOut x 3 = 0 ∧ ¬ oM_isThree x = 0 := by
  by_cases h : x < 0
  · refine .inl ⟨?_, ?_⟩
    · unfold sOut
      rw [if_pos h]
      decide
    · unfold oM_isThree oM_isIn
      rw [if_pos h]
  · obtain ⟨j, hj, rfl⟩ := nI_of h
    by_cases q : j < 3
    · refine .inr ⟨j, q, rfl, ?_, ?_⟩
      · unfold sOut
        rw [if_neg h, if_pos (show nI j < 3 from (nI_ltI (b := 3) hj (by decide)).mpr q)]
      · unfold oM_isThree oM_isIn
        rw [if_neg h, if_neg (fun z => by have := (nI_ltI (a := 2) (by decide) hj).mp z; omega)]
        decide
    · refine .inl ⟨?_, ?_⟩
      · unfold sOut
        rw [if_neg h, if_neg (show ¬ nI j < 3 from fun z => q ((nI_ltI (b := 3) hj (by decide)).mp z))]
        decide
      · unfold oM_isThree oM_isIn
        rw [if_neg h, if_pos (show 2 < nI j from (nI_ltI (a := 2) (by decide) hj).mpr (by omega))]
theorem idx_cases {n : Nat} (hn : n < 100) (x : Int32) : (¬ sOut x (nI n) = 0 ∧ oM_isIn x 0 (nI n - 1) = 0) ∨ ∃ f, f < n ∧ x = nI f ∧ sOut x (nI n) = 0 ∧ ¬ oM_isIn x 0 (nI n - 1) = 0 := by
  by_cases h : x < 0
  · refine .inl ⟨?_, ?_⟩
    · unfold sOut
      rw [if_pos h]
      decide
    · unfold oM_isIn
      rw [if_pos h]
  · obtain ⟨j, hj, rfl⟩ := nI_of h
    have hm : (nI n - 1 < nI j) ↔ n ≤ j := by
      rcases Nat.eq_zero_or_pos n with rfl | hp
      · refine ⟨fun _ => Nat.zero_le _, fun _ => ?_⟩
        rw [Int32.lt_iff_toInt_lt, nI_toInt hj, show (nI 0 - 1).toInt = -1 from by decide]
        omega
      · rw [show nI n - 1 = nI (n - 1) from pk_sub (b := 1) hp, nI_ltI (by omega) hj]
        omega
    by_cases q : j < n
    · refine .inr ⟨j, q, rfl, ?_, ?_⟩
      · unfold sOut
        rw [if_neg h, if_pos ((nI_ltI hj (by omega)).mpr q)]
      · unfold oM_isIn
        rw [if_neg h, if_neg (fun z => by have := hm.mp z; omega)]
        decide
    · refine .inl ⟨?_, ?_⟩
      · unfold sOut
        rw [if_neg h, if_neg (fun z => q ((nI_ltI hj (by omega)).mp z))]
        decide
      · unfold oM_isIn
        rw [if_neg h, if_pos (hm.mpr (by omega))]
theorem rng_cases {x : Int32} {a b : Nat} (ha : a < 2 ^ 31) (hb : b < 2 ^ 31) : (x < nI a ∧ oM_isIn x (nI a) (nI b) = 0) ∨ (¬ x < nI a ∧ ¬ x ≤ nI b ∧ oM_isIn x (nI a) (nI b) = 0) ∨ ∃ k, a ≤ k ∧ k ≤ b ∧ x = nI k ∧ ¬ x < nI a ∧ x ≤ nI b ∧ ¬ oM_isIn x (nI a) (nI b) = 0 := by
  by_cases h : x < nI a
  · refine .inl ⟨h, ?_⟩
    unfold oM_isIn
    rw [if_pos h]
  · have h0 : ¬ x < 0 := fun q => h (by
      rw [Int32.lt_iff_toInt_lt] at q ⊢
      rw [nI_toInt ha]
      have : (0 : Int32).toInt = 0 := by decide
      omega)
    obtain ⟨j, hj, rfl⟩ := nI_of h0
    by_cases q : nI j ≤ nI b
    · have q2 : ¬ nI b < nI j := fun z => by
        have z1 := (nI_ltI hb hj).mp z
        have z2 := (nI_leI hj hb).mp q
        omega
      refine .inr (.inr ⟨j, ?_, (nI_leI hj hb).mp q, rfl, h, q, ?_⟩)
      · exact Nat.le_of_not_lt fun z => h ((nI_ltI hj ha).mpr z)
      · unfold oM_isIn
        rw [if_neg h, if_neg q2]
        decide
    · refine .inr (.inl ⟨h, q, ?_⟩)
      have q2 : nI b < nI j := (nI_ltI hb hj).mpr (Nat.lt_of_not_le fun z => q ((nI_leI hj hb).mpr z))
      unfold oM_isIn
      rw [if_neg h, if_pos q2]
theorem nI_nm {t : Nat} (h : t < 2 ^ 31) {x : Int32} (hx : x.toInt < 0) : ¬ nI t = x := fun q => by
  have e := nI_toInt h
  rw [q] at e
  omega
theorem refE_nI {t : Nat} (h : t < 2 ^ 31) : refE (nI t) = none := by
  unfold refE
  rw [if_neg (nI_nm h (by decide)), if_neg (nI_nm h (by decide)), if_neg (nI_nm h (by decide)), if_neg (nI_nm h (by decide)), if_neg (nI_nm h (by decide))]
theorem MixS.sum {w : Nat → Int32} {i s : Nat} (h : MixS w i s) : sumW w i = nI s := by
  obtain ⟨a, b, c, d, ha, hb, hc, hd, rfl⟩ := h
  unfold sumW
  rw [ha, hb, hc, hd, nI_add, nI_add, nI_add]
theorem sum_mass (w : Nat → Int32) (i : Nat) : sumW w i = oM_mass w i := rfl
theorem sum_congr {w v : Nat → Int32} {i : Nat} (h : ∀ k, k < 4 → w (i + k) = v (i + k)) : sumW w i = sumW v i := by
  unfold sumW
  rw [h 0 (by decide), h 1 (by decide), h 2 (by decide), h 3 (by decide)]
theorem le_le {x : Int32} {a b : Nat} (hx : x = nI a) (h : a ≤ b) (hb : b < 2 ^ 31) : x ≤ nI b := by
  rw [hx, nI_leI (by omega) hb]
  exact h
theorem not_le {x : Int32} {a b : Nat} (hx : x = nI a) (h : b < a) (ha : a < 2 ^ 31) : ¬ x ≤ nI b := by
  rw [hx, nI_leI ha (by omega)]
  omega
theorem div_bd {T M n s : Nat} (h1 : 20 ≤ T) (h2 : T ≤ 1500) (h3 : 20 ≤ s) (h4 : s ≤ 1500) (h5 : 0 < M + n) : 20 ≤ (T * M + s * n) / (M + n) ∧ (T * M + s * n) / (M + n) ≤ 1500 := by
  have a1 : 20 * M ≤ T * M := Nat.mul_le_mul_right M h1
  have a2 : 20 * n ≤ s * n := Nat.mul_le_mul_right n h3
  have a3 : T * M ≤ 1500 * M := Nat.mul_le_mul_right M h2
  have a4 : s * n ≤ 1500 * n := Nat.mul_le_mul_right n h4
  refine ⟨(Nat.le_div_iff_mul_le h5).mpr (by omega), ?_⟩
  have : (T * M + s * n) / (M + n) < 1501 := (Nat.div_lt_iff_lt_mul h5).mpr (by omega)
  omega
theorem heat_nI {T M n s : Nat} (h1 : 20 ≤ T) (h2 : T ≤ 1500) (h3 : 20 ≤ s) (h4 : s ≤ 1500) (h5 : 0 < M + n) (h6 : M + n ≤ 1000) : (nI T * nI M + nI s * nI n) / nI (M + n) = nI ((T * M + s * n) / (M + n)) := by
  have a3 : T * M ≤ 1500 * M := Nat.mul_le_mul_right M h2
  have a4 : s * n ≤ 1500 * n := Nat.mul_le_mul_right n h4
  rw [pk_mul, pk_mul, nI_add, pk_div (by omega) h5 (by omega)]
theorem adds_at {w p : Nat → Int32} {i k : Nat} (hk : k < 4) : oM_adds w p i (i + k) = w (i + k) + p k := by
  unfold oM_adds adS
  rcases lt4 hk with rfl | rfl | rfl | rfl <;> simp (disch := omega) only [pk_us, pk_un]
theorem adds_ne {w p : Nat → Int32} {i j : Nat} (h : j < i ∨ i + 4 ≤ j) : oM_adds w p i j = w j := by
  unfold oM_adds adS
  simp (disch := omega) only [pk_un]
theorem MixS.add {w p : Nat → Int32} {i s t : Nat} (h : MixS w i s) (h2 : MixS p 0 t) : MixS (oM_adds w p i) i (s + t) := by
  obtain ⟨a, b, c, d, ha, hb, hc, hd, hs⟩ := h
  obtain ⟨a2, b2, c2, d2, ha2, hb2, hc2, hd2, hs2⟩ := h2
  refine ⟨a + a2, b + b2, c + c2, d + d2, ?_, ?_, ?_, ?_, by omega⟩
  · rw [adds_at (by decide), ha, show p 0 = nI a2 from ha2, nI_add]
  · rw [adds_at (by decide), hb, show p 1 = nI b2 from hb2, nI_add]
  · rw [adds_at (by decide), hc, show p 2 = nI c2 from hc2, nI_add]
  · rw [adds_at (by decide), hd, show p 3 = nI d2 from hd2, nI_add]
theorem stepB_congr {w v : Nat → Int32} {i b k : Nat} (h : ∀ k, k < 4 → w (i + k) = v (i + k)) (hb : b < 4) (hk : k < 4) : stepB w i b k = stepB v i b k := by
  unfold stepB
  rw [h b hb, h k hk]
theorem best3_congr {w v : Nat → Int32} {i : Nat} (h : ∀ k, k < 4 → w (i + k) = v (i + k)) : best3 w i = best3 v i := by
  unfold best3
  rw [stepB_congr h (b := 0) (k := 1) (by decide) (by decide), stepB_congr h (lt_stepB (by decide) (by decide)) (by decide)]
theorem best4_congr {w v : Nat → Int32} {i : Nat} (h : ∀ k, k < 4 → w (i + k) = v (i + k)) : best4 w i = best4 v i := by
  unfold best4
  rw [best3_congr h, stepB_congr h (lt_best3 v i) (by decide)]
theorem tkL_sum {i : Nat} : ∀ (q : Nat) (w p : Nat → Int32) (k : Nat), k < 4 → (tkL i q w p).1 (i + k) + (tkL i q w p).2 k = w (i + k) + p k
  | 0, _, _, _, _ => rfl
  | q + 1, w, p, k, hk => by
    rw [tkL, tkL_sum q _ _ k hk]
    by_cases e : k = best4 w i
    · rw [← e, pk_us, pk_us]
      grind
    · rw [pk_un (by omega), pk_un e]
theorem moveR_src {z : Nat → Int32} {i i2 b k : Nat} {x : Int32} (hd : i + 4 ≤ i2 ∨ i2 + 4 ≤ i) (hb : b < 4) (hk : k < 4) : moveR z i i2 b x (i + k) = if k = b then z (i + b) - x else z (i + k) := by
  unfold moveR
  rw [pk_un (by omega)]
  by_cases e : k = b
  · rw [if_pos e, e, pk_us]
  · rw [if_neg e, pk_un (by omega)]
theorem moveR_dst {z : Nat → Int32} {i i2 b k : Nat} {x : Int32} (hd : i + 4 ≤ i2 ∨ i2 + 4 ≤ i) (hb : b < 4) (hk : k < 4) : moveR z i i2 b x (i2 + k) = if k = b then z (i2 + b) + x else z (i2 + k) := by
  unfold moveR
  by_cases e : k = b
  · rw [if_pos e, e, pk_us, pk_un (by omega)]
  · rw [if_neg e, pk_un (by omega), pk_un (by omega)]
theorem moveR_ne {z : Nat → Int32} {i i2 b j : Nat} {x : Int32} (hb : b < 4) (h1 : j < i ∨ i + 4 ≤ j) (h2 : j < i2 ∨ i2 + 4 ≤ j) : moveR z i i2 b x j = z j := by
  unfold moveR
  rw [pk_un (by omega), pk_un (by omega)]
theorem moveR_ss {z : Nat → Int32} {i i2 b : Nat} {x : Int32} (hd : i + 4 ≤ i2 ∨ i2 + 4 ≤ i) (hb : b < 4) : moveR z i i2 b x (i + b) = z (i + b) - x := (moveR_src hd hb hb).trans (if_pos rfl)
theorem moveR_so {z : Nat → Int32} {i i2 b k : Nat} {x : Int32} (hd : i + 4 ≤ i2 ∨ i2 + 4 ≤ i) (hb : b < 4) (hk : k < 4) (h : k ≠ b) : moveR z i i2 b x (i + k) = z (i + k) := (moveR_src hd hb hk).trans (if_neg h)
theorem moveR_ds {z : Nat → Int32} {i i2 b : Nat} {x : Int32} (hd : i + 4 ≤ i2 ∨ i2 + 4 ≤ i) (hb : b < 4) : moveR z i i2 b x (i2 + b) = z (i2 + b) + x := (moveR_dst hd hb hb).trans (if_pos rfl)
theorem moveR_do {z : Nat → Int32} {i i2 b k : Nat} {x : Int32} (hd : i + 4 ≤ i2 ∨ i2 + 4 ≤ i) (hb : b < 4) (hk : k < 4) (h : k ≠ b) : moveR z i i2 b x (i2 + k) = z (i2 + k) := (moveR_dst hd hb hk).trans (if_neg h)
theorem mv_tk {i i2 : Nat} (hd : i + 4 ≤ i2 ∨ i2 + 4 ≤ i) : ∀ (q : Nat) (z u p : Nat → Int32), (∀ k, k < 4 → z (i + k) = u (i + k)) → (∀ k, k < 4 → mvLoop i i2 q z (i + k) = (tkL i q u p).1 (i + k)) ∧ (∀ k, k < 4 → mvLoop i i2 q z (i2 + k) = z (i2 + k) + ((tkL i q u p).2 k - p k)) ∧ ∀ j, (j < i ∨ i + 4 ≤ j) → (j < i2 ∨ i2 + 4 ≤ j) → mvLoop i i2 q z j = z j
  | 0, z, u, p, h => ⟨h, fun k _ => by show z _ = z _ + (p k - p k); grind, fun _ _ _ => rfl⟩
  | q + 1, z, u, p, h => by
    have eb := best4_congr h
    have hb := lt_best4 u i
    rw [mvLoop, eb, tkL]
    obtain ⟨b, hb'⟩ : ∃ b, b = best4 u i := ⟨_, rfl⟩
    rw [← hb'] at hb ⊢
    have ih := mv_tk hd q (moveR z i i2 b 1) (upd u (i + b) (u (i + b) - 1)) (upd p b (p b + 1)) fun k hk => by
      rw [moveR_src hd hb hk]
      by_cases e : k = b
      · rw [if_pos e, e, pk_us, h b hb]
      · rw [if_neg e, pk_un (by omega), h k hk]
    refine ⟨ih.1, fun k hk => ?_, fun j h1 h2 => ?_⟩
    · rw [ih.2.1 k hk, moveR_dst hd hb hk]
      by_cases e : k = b
      · rw [if_pos e, e, pk_us]
        grind
      · rw [if_neg e, pk_un e]
    · rw [ih.2.2 j h1 h2, moveR_ne hb h1 h2]
theorem takes_eq (v p : Nat → Int32) (i : Nat) (x : Int32) : oM_takes v p i x = tkL i (cnt (x - v i * x / oM_mass v i - v (i + 1) * x / oM_mass v i - v (i + 2) * x / oM_mass v i - v (i + 3) * x / oM_mass v i))
    (upd (upd (upd (upd v i (v i - v i * x / oM_mass v i)) (i + 1) (v (i + 1) - v (i + 1) * x / oM_mass v i)) (i + 2) (v (i + 2) - v (i + 2) * x / oM_mass v i)) (i + 3) (v (i + 3) - v (i + 3) * x / oM_mass v i))
    (upd (upd (upd (upd p 0 (v i * x / oM_mass v i)) 1 (v (i + 1) * x / oM_mass v i)) 2 (v (i + 2) * x / oM_mass v i)) 3 (v (i + 3) * x / oM_mass v i)) := by
  unfold oM_takes
  simp (disch := omega) only [pk_us, pk_un]
theorem takes_sum (v p : Nat → Int32) (i : Nat) (x : Int32) {k : Nat} (hk : k < 4) : (oM_takes v p i x).1 (i + k) + (oM_takes v p i x).2 k = v (i + k) := by
  rw [takes_eq, tkL_sum _ _ _ k hk]
  rcases lt4 hk with rfl | rfl | rfl | rfl <;> simp (disch := omega) only [pk_us, pk_un, Nat.add_zero] <;> grind
theorem mp_takes {w v p : Nat → Int32} {i i2 : Nat} {x : Int32} (hd : i + 4 ≤ i2 ∨ i2 + 4 ≤ i) (h : ∀ k, k < 4 → w (i + k) = v (i + k)) (h0 : 0 < sumW w i) : (∀ k, k < 4 → movePartR w i i2 x (i + k) = (oM_takes v p i x).1 (i + k)) ∧ (∀ k, k < 4 → movePartR w i i2 x (i2 + k) = w (i2 + k) + (oM_takes v p i x).2 k) ∧ ∀ j, (j < i ∨ i + 4 ≤ j) → (j < i2 ∨ i2 + 4 ≤ j) → movePartR w i i2 x j = w j := by
  have hm : sumW w i = oM_mass v i := sum_congr h
  have hv0 : w i = v i := h 0 (by decide)
  have hv1 := h 1 (by decide)
  have hv2 := h 2 (by decide)
  have hv3 := h 3 (by decide)
  obtain ⟨z4, hz4⟩ : ∃ z4, z4 = moveR (moveR (moveR (moveR w i i2 0 (v i * x / oM_mass v i)) i i2 1 (v (i + 1) * x / oM_mass v i)) i i2 2 (v (i + 2) * x / oM_mass v i)) i i2 3 (v (i + 3) * x / oM_mass v i) := ⟨_, rfl⟩
  have e : movePartR w i i2 x = mvLoop i i2 (cnt (x - v i * x / oM_mass v i - v (i + 1) * x / oM_mass v i - v (i + 2) * x / oM_mass v i - v (i + 3) * x / oM_mass v i)) z4 := by
    unfold movePartR
    rw [if_pos h0, hm]
    have s1 : mvStep i i2 x (oM_mass v i) (w, x) 0 = (moveR w i i2 0 (v i * x / oM_mass v i), x - v i * x / oM_mass v i) := by
      show (moveR w i i2 0 (w i * x / oM_mass v i), x - w i * x / oM_mass v i) = _
      rw [hv0]
    rw [s1]
    have s2 : mvStep i i2 x (oM_mass v i) (moveR w i i2 0 (v i * x / oM_mass v i), x - v i * x / oM_mass v i) 1 = (moveR (moveR w i i2 0 (v i * x / oM_mass v i)) i i2 1 (v (i + 1) * x / oM_mass v i), x - v i * x / oM_mass v i - v (i + 1) * x / oM_mass v i) := by
      unfold mvStep
      simp (disch := omega) only [moveR_so hd, hv1]
    rw [s2]
    have s3 : mvStep i i2 x (oM_mass v i) (moveR (moveR w i i2 0 (v i * x / oM_mass v i)) i i2 1 (v (i + 1) * x / oM_mass v i), x - v i * x / oM_mass v i - v (i + 1) * x / oM_mass v i) 2 = (moveR (moveR (moveR w i i2 0 (v i * x / oM_mass v i)) i i2 1 (v (i + 1) * x / oM_mass v i)) i i2 2 (v (i + 2) * x / oM_mass v i), x - v i * x / oM_mass v i - v (i + 1) * x / oM_mass v i - v (i + 2) * x / oM_mass v i) := by
      unfold mvStep
      simp (disch := omega) only [moveR_so hd, hv2]
    rw [s3]
    have s4 : mvStep i i2 x (oM_mass v i) (moveR (moveR (moveR w i i2 0 (v i * x / oM_mass v i)) i i2 1 (v (i + 1) * x / oM_mass v i)) i i2 2 (v (i + 2) * x / oM_mass v i), x - v i * x / oM_mass v i - v (i + 1) * x / oM_mass v i - v (i + 2) * x / oM_mass v i) 3 = (z4, x - v i * x / oM_mass v i - v (i + 1) * x / oM_mass v i - v (i + 2) * x / oM_mass v i - v (i + 3) * x / oM_mass v i) := by
      unfold mvStep
      rw [hz4]
      simp (disch := omega) only [moveR_so hd, hv3]
    rw [s4]
  rw [e, takes_eq]
  have zs : ∀ k, k < 4 → z4 (i + k) = (upd (upd (upd (upd v i (v i - v i * x / oM_mass v i)) (i + 1) (v (i + 1) - v (i + 1) * x / oM_mass v i)) (i + 2) (v (i + 2) - v (i + 2) * x / oM_mass v i)) (i + 3) (v (i + 3) - v (i + 3) * x / oM_mass v i)) (i + k) := fun k hk => by
    rw [hz4]
    rcases lt4 hk with rfl | rfl | rfl | rfl
    · have q : moveR (moveR (moveR (moveR w i i2 0 (v i * x / oM_mass v i)) i i2 1 (v (i + 1) * x / oM_mass v i)) i i2 2 (v (i + 2) * x / oM_mass v i)) i i2 3 (v (i + 3) * x / oM_mass v i) (i + 0) = w (i + 0) - v i * x / oM_mass v i := by
        simp (disch := omega) only [moveR_ss hd, moveR_so hd]
      rw [q, h 0 (by decide)]
      exact ((pk_un (by omega)).trans ((pk_un (by omega)).trans ((pk_un (by omega)).trans pk_us))).symm
    · simp (disch := omega) only [moveR_ss hd, moveR_so hd, pk_us, pk_un, hv1]
    · simp (disch := omega) only [moveR_ss hd, moveR_so hd, pk_us, pk_un, hv2]
    · simp (disch := omega) only [moveR_ss hd, moveR_so hd, pk_us, pk_un, hv3]
  have zd : ∀ k, k < 4 → z4 (i2 + k) = w (i2 + k) + (upd (upd (upd (upd p 0 (v i * x / oM_mass v i)) 1 (v (i + 1) * x / oM_mass v i)) 2 (v (i + 2) * x / oM_mass v i)) 3 (v (i + 3) * x / oM_mass v i)) k := fun k hk => by
    rw [hz4]
    rcases lt4 hk with rfl | rfl | rfl | rfl <;> simp (disch := omega) only [moveR_ds hd, moveR_do hd, pk_us, pk_un]
  have t := mv_tk hd (cnt (x - v i * x / oM_mass v i - v (i + 1) * x / oM_mass v i - v (i + 2) * x / oM_mass v i - v (i + 3) * x / oM_mass v i)) z4 _ (upd (upd (upd (upd p 0 (v i * x / oM_mass v i)) 1 (v (i + 1) * x / oM_mass v i)) 2 (v (i + 2) * x / oM_mass v i)) 3 (v (i + 3) * x / oM_mass v i)) zs
  refine ⟨t.1, fun k hk => ?_, fun j h1 h2 => ?_⟩
  · rw [t.2.1 k hk, zd k hk]
    grind
  · rw [t.2.2 j h1 h2, hz4, moveR_ne (by decide) h1 h2, moveR_ne (by decide) h1 h2, moveR_ne (by decide) h1 h2, moveR_ne (by decide) h1 h2]
theorem takes_all {v p : Nat → Int32} {i s : Nat} (h : MixS v i s) (h0 : 0 < s) (hs : s ≤ 1000) {k : Nat} (hk : k < 4) : (oM_takes v p i (nI s)).1 (i + k) = 0 ∧ (oM_takes v p i (nI s)).2 k = v (i + k) := by
  have t := (takes_ok (p := p) h hs h0 (Nat.le_refl s)).1
  rw [Nat.sub_self] at t
  obtain ⟨e, he, hz⟩ := t.at k hk
  obtain rfl : e = 0 := by omega
  have z : (oM_takes v p i (nI s)).1 (i + k) = 0 := hz
  refine ⟨z, ?_⟩
  have q := takes_sum v p i (nI s) hk
  rw [z, Int32.zero_add] at q
  exact q
