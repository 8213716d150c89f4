/-! Mixtures as numbers: the masses at four places and their sum. -/
def MixS (w : Nat → Int32) (i s : Nat) : Prop := ∃ a b c d : Nat, w (i + 0) = nI a ∧ w (i + 1) = nI b ∧ w (i + 2) = nI c ∧ w (i + 3) = nI d ∧ a + b + c + d = s
theorem MixS.mass {w : Nat → Int32} {i s : Nat} (h : MixS w i s) : oM_mass w i = nI s := by
  obtain ⟨a, b, c, d, ha, hb, hc, hd, rfl⟩ := h
  show w (i + 0) + w (i + 1) + w (i + 2) + w (i + 3) = _
  rw [ha, hb, hc, hd, nI_add, nI_add, nI_add]
theorem MixS.part {p : Nat → Int32} {s : Nat} (h : MixS p 0 s) : oM_partMass p = nI s := by
  obtain ⟨a, b, c, d, ha, hb, hc, hd, rfl⟩ := h
  show p (0 + 0) + p (0 + 1) + p (0 + 2) + p (0 + 3) = _
  rw [ha, hb, hc, hd, nI_add, nI_add, nI_add]
theorem MixS.congr {w v : Nat → Int32} {i s : Nat} (h : MixS w i s) (e : ∀ j, j < 4 → v (i + j) = w (i + j)) : MixS v i s := by
  obtain ⟨a, b, c, d, ha, hb, hc, hd, hs⟩ := h
  exact ⟨a, b, c, d, (e 0 (by decide)).trans ha, (e 1 (by decide)).trans hb, (e 2 (by decide)).trans hc, (e 3 (by decide)).trans hd, hs⟩
theorem MixS.at {w : Nat → Int32} {i s : Nat} (h : MixS w i s) (k : Nat) (hk : k < 4) : ∃ e, e ≤ s ∧ w (i + k) = nI e := by
  obtain ⟨a, b, c, d, ha, hb, hc, hd, hs⟩ := h
  rcases (by omega : k = 0 ∨ k = 1 ∨ k = 2 ∨ k = 3) with rfl | rfl | rfl | rfl
  · exact ⟨a, by omega, ha⟩
  · exact ⟨b, by omega, hb⟩
  · exact ⟨c, by omega, hc⟩
  · exact ⟨d, by omega, hd⟩
theorem MixS.set {w : Nat → Int32} {i s k e : Nat} (h : MixS w i s) (hs : s < 2 ^ 31) (hk : k < 4) (he : w (i + k) = nI e) (he2 : e < 2 ^ 31) (e' : Nat) : e ≤ s ∧ MixS (upd w (i + k) (nI e')) i (s - e + e') := by
  obtain ⟨a, b, c, d, ha, hb, hc, hd, rfl⟩ := h
  rcases (by omega : k = 0 ∨ k = 1 ∨ k = 2 ∨ k = 3) with rfl | rfl | rfl | rfl
  · have q : a = e := (nI_eq (by omega) he2).mp (ha.symm.trans he)
    exact ⟨by omega, e', b, c, d, pk_us, (pk_un (by omega)).trans hb, (pk_un (by omega)).trans hc, (pk_un (by omega)).trans hd, by omega⟩
  · have q : b = e := (nI_eq (by omega) he2).mp (hb.symm.trans he)
    exact ⟨by omega, a, e', c, d, (pk_un (by omega)).trans ha, pk_us, (pk_un (by omega)).trans hc, (pk_un (by omega)).trans hd, by omega⟩
  · have q : c = e := (nI_eq (by omega) he2).mp (hc.symm.trans he)
    exact ⟨by omega, a, b, e', d, (pk_un (by omega)).trans ha, (pk_un (by omega)).trans hb, pk_us, (pk_un (by omega)).trans hd, by omega⟩
  · have q : d = e := (nI_eq (by omega) he2).mp (hd.symm.trans he)
    exact ⟨by omega, a, b, c, e', (pk_un (by omega)).trans ha, (pk_un (by omega)).trans hb, (pk_un (by omega)).trans hc, pk_us, by omega⟩
theorem stepB_ge {w : Nat → Int32} {i x k e f : Nat} (he : w (i + x) = nI e) (hf : w (i + k) = nI f) (h1 : e < 2 ^ 31) (h2 : f < 2 ^ 31) : ∃ g, w (i + stepB w i x k) = nI g ∧ e ≤ g ∧ f ≤ g ∧ (g = e ∨ g = f) := by
  unfold stepB
  by_cases h : w (i + k) ≤ w (i + x)
  · rw [if_pos h]
    rw [he, hf, nI_leI h2 h1] at h
    exact ⟨e, he, Nat.le_refl _, h, .inl rfl⟩
  · rw [if_neg h]
    rw [he, hf, nI_leI h2 h1] at h
    exact ⟨f, hf, by omega, Nat.le_refl _, .inr rfl⟩
theorem best4_pos {w : Nat → Int32} {i s : Nat} (h : MixS w i s) (h0 : 0 < s) (hs : s < 2 ^ 31) : ∃ e, 0 < e ∧ e ≤ s ∧ w (i + best4 w i) = nI e := by
  obtain ⟨a, b, c, d, ha, hb, hc, hd, rfl⟩ := h
  obtain ⟨g1, e1, l1, l2, o1⟩ := stepB_ge (i := i) (x := 0) (k := 1) ha hb (by omega) (by omega)
  obtain ⟨g2, e2, l3, l4, o2⟩ := stepB_ge (i := i) (k := 2) e1 hc (by omega) (by omega)
  obtain ⟨g3, e3, l5, l6, o3⟩ := stepB_ge (i := i) (k := 3) e2 hd (by omega) (by omega)
  exact ⟨g3, by omega, by omega, e3⟩
theorem tkL_ok {i : Nat} : ∀ (q : Nat) (w p : Nat → Int32) (s t : Nat), MixS w i s → MixS p 0 t → q ≤ s → s ≤ 1000 → t + q ≤ 1000 → MixS (tkL i q w p).1 i (s - q) ∧ MixS (tkL i q w p).2 0 (t + q) ∧ ∀ j, j < i ∨ i + 4 ≤ j → (tkL i q w p).1 j = w j
  | 0, w, p, s, t, h, h2, _, _, _ => ⟨h, h2, fun _ _ => rfl⟩
  | q + 1, w, p, s, t, h, h2, hq, hs, ht => by
    obtain ⟨e, he0, hes, he⟩ := best4_pos h (by omega) (by omega)
    have hb : best4 w i < 4 := lt_best4 w i
    obtain ⟨f, hf, hpf⟩ := h2.at (best4 w i) hb
    have a1 := (h.set (by omega) hb he (by omega) (e - 1)).2
    have a2 := (h2.set (by omega) hb hpf (by omega) (f + 1)).2
    rw [Nat.zero_add] at a2 hpf
    have ih := tkL_ok q _ _ _ _ a1 a2 (by omega) (by omega) (by omega)
    have u : tkL i (q + 1) w p = tkL i q (upd w (i + best4 w i) (nI (e - 1))) (upd p (best4 w i) (nI (f + 1))) := by
      rw [tkL, he, hpf, show nI e - 1 = nI (e - 1) from pk_sub (a := e) (b := 1) he0, nI_1]
    rw [u]
    refine ⟨?_, ?_, fun j hj => ?_⟩
    · rw [show s - (q + 1) = s - e + (e - 1) - q by omega]
      exact ih.1
    · rw [show t + (q + 1) = t - f + (f + 1) + q by omega]
      exact ih.2.1
    · rw [ih.2.2 j hj]
      exact pk_un (by omega)
theorem share_le {a k s : Nat} (hk : k ≤ s) (hs : 0 < s) : a * k / s ≤ a := Nat.div_le_of_le_mul (by rw [Nat.mul_comm s a]; exact Nat.mul_le_mul_left a hk)
theorem shares_le {a b c d k s : Nat} (h : a + b + c + d = s) (hs : 0 < s) : a * k / s + b * k / s + c * k / s + d * k / s ≤ k := by
  have h1 := Nat.mul_div_le (a * k) s
  have h2 := Nat.mul_div_le (b * k) s
  have h3 := Nat.mul_div_le (c * k) s
  have h4 := Nat.mul_div_le (d * k) s
  have h5 : s * k = a * k + b * k + c * k + d * k := by rw [← h, Nat.add_mul, Nat.add_mul, Nat.add_mul]
  have h6 : s * (a * k / s + b * k / s + c * k / s + d * k / s) ≤ s * k := by
    rw [Nat.mul_add, Nat.mul_add, Nat.mul_add]
    omega
  exact Nat.le_of_mul_le_mul_left h6 hs
theorem takes_ok {w p : Nat → Int32} {i s k : Nat} (h : MixS w i s) (hs : s ≤ 1000) (h0 : 0 < s) (hk : k ≤ s) : MixS (oM_takes w p i (nI k)).1 i (s - k) ∧ MixS (oM_takes w p i (nI k)).2 0 k ∧ ∀ j, j < i ∨ i + 4 ≤ j → (oM_takes w p i (nI k)).1 j = w j := by
  have hm := h.mass
  obtain ⟨a, b, c, d, ha, hb, hc, hd, hsum⟩ := h
  have ex : ∀ x, x ≤ s → nI x * nI k / nI s = nI (x * k / s) := fun x hx => by
    rw [pk_mul]
    refine pk_div ?_ h0 (by omega)
    have : x * k ≤ 1000 * 1000 := Nat.mul_le_mul (by omega) (by omega)
    omega
  obtain ⟨pa, hpa⟩ : ∃ q, q = a * k / s := ⟨_, rfl⟩
  have la : pa ≤ a := by rw [hpa]; exact share_le hk h0
  have xa : nI a * nI k / nI s = nI pa := by rw [hpa]; exact ex a (by omega)
  obtain ⟨pb, hpb⟩ : ∃ q, q = b * k / s := ⟨_, rfl⟩
  have lb : pb ≤ b := by rw [hpb]; exact share_le hk h0
  have xb : nI b * nI k / nI s = nI pb := by rw [hpb]; exact ex b (by omega)
  obtain ⟨pc, hpc⟩ : ∃ q, q = c * k / s := ⟨_, rfl⟩
  have lc : pc ≤ c := by rw [hpc]; exact share_le hk h0
  have xc : nI c * nI k / nI s = nI pc := by rw [hpc]; exact ex c (by omega)
  obtain ⟨pd, hpd⟩ : ∃ q, q = d * k / s := ⟨_, rfl⟩
  have ld : pd ≤ d := by rw [hpd]; exact share_le hk h0
  have xd : nI d * nI k / nI s = nI pd := by rw [hpd]; exact ex d (by omega)
  have lS : pa + pb + pc + pd ≤ k := by rw [hpa, hpb, hpc, hpd]; exact shares_le hsum h0
  obtain ⟨P, hP⟩ : ∃ P, P = upd (upd (upd (upd p 0 (nI (pa))) 1 (nI (pb))) 2 (nI (pc))) 3 (nI (pd)) := ⟨_, rfl⟩
  obtain ⟨Vv, hV⟩ : ∃ V, V = upd (upd (upd (upd w i (nI (a - pa))) (i + 1) (nI (b - pb))) (i + 2) (nI (c - pc))) (i + 3) (nI (d - pd)) := ⟨_, rfl⟩
  have u : oM_takes w p i (nI k) = tkL i (k - (pa + pb + pc + pd)) Vv P := by
    unfold oM_takes
    have ha' : w i = nI a := ha
    simp only [hm, ha', hb, hc, hd, xa, xb, xc, xd]
    rw [← hP]
    have p0 : P 0 = nI (pa) := by rw [hP]; rfl
    have p1 : P 1 = nI (pb) := by rw [hP]; rfl
    have p2 : P 2 = nI (pc) := by rw [hP]; rfl
    have p3 : P 3 = nI (pd) := by rw [hP]; rfl
    rw [p0, p1, p2, p3]
    rw [show upd p 0 (nI (pa)) 0 = nI (pa) from rfl]
    rw [show upd (upd p 0 (nI (pa))) 1 (nI (pb)) 1 = nI (pb) from rfl]
    rw [show upd (upd (upd p 0 (nI (pa))) 1 (nI (pb))) 2 (nI (pc)) 2 = nI (pc) from rfl]
    rw [pk_sub la]
    rw [show upd w i (nI (a - pa)) (i + 1) = nI b from (pk_un (by omega)).trans hb, pk_sub lb]
    rw [show upd (upd w i (nI (a - pa))) (i + 1) (nI (b - pb)) (i + 2) = nI c from (pk_un (by omega)).trans ((pk_un (by omega)).trans hc), pk_sub lc]
    rw [show upd (upd (upd w i (nI (a - pa))) (i + 1) (nI (b - pb))) (i + 2) (nI (c - pc)) (i + 3) = nI d from (pk_un (by omega)).trans ((pk_un (by omega)).trans ((pk_un (by omega)).trans hd)), pk_sub ld]
    rw [← hV, pk_sub (by omega), pk_sub (by omega), pk_sub (by omega), pk_sub (by omega), cnt_nI (by omega)]
    rw [show k - pa - pb - pc - pd = k - (pa + pb + pc + pd) by omega]
  have mP : MixS P 0 (pa + pb + pc + pd) := ⟨_, _, _, _, by rw [hP]; rfl, by rw [hP]; rfl, by rw [hP]; rfl, by rw [hP]; rfl, rfl⟩
  have mV : MixS Vv i (a - pa + (b - pb) + (c - pc) + (d - pd)) :=
    ⟨_, _, _, _, by rw [hV]; exact (pk_un (by omega)).trans ((pk_un (by omega)).trans ((pk_un (by omega)).trans pk_us)), by rw [hV]; exact (pk_un (by omega)).trans ((pk_un (by omega)).trans pk_us), by rw [hV]; exact (pk_un (by omega)).trans pk_us, by rw [hV]; exact pk_us, rfl⟩
  have t := tkL_ok (i := i) (k - (pa + pb + pc + pd)) Vv P _ _ mV mP (by omega) (by omega) (by omega)
  rw [u]
  refine ⟨?_, ?_, fun j hj => ?_⟩
  · rw [show s - k = a - pa + (b - pb) + (c - pc) + (d - pd) - (k - (pa + pb + pc + pd)) by omega]
    exact t.1
  · have e := t.2.1
    rw [show pa + pb + pc + pd + (k - (pa + pb + pc + pd)) = k by omega] at e
    exact e
  · rw [t.2.2 j hj, hV, pk_un (by omega), pk_un (by omega), pk_un (by omega), pk_un (by omega)]
/-- what every state of the reference keeps -/
def MInv (w : Nat → Int32) : Prop :=
  (∀ f, f < 3 → ∃ s, s ≤ 100 ∧ MixS w (9 + 6 * f) s) ∧ (∀ f, f < 3 → ∃ s, s ≤ 40 ∧ MixS w (27 + 5 * f) s) ∧
  (∃ km, km ≤ 6 ∧ w 42 = nI km ∧ ∀ m, m < km → (∃ v, 1 ≤ v ∧ v ≤ 40 ∧ w (48 + 6 * m) = nI v) ∧ ∃ s, s ≤ 40 ∧ MixS w (44 + 6 * m) s ∧ w (49 + 6 * m) = if s = 0 then 0 else 1) ∧
  (∃ ki, ki ≤ 12 ∧ w 43 = nI ki ∧ ∀ i, i < ki → ∃ s, 1 ≤ s ∧ s ≤ 40 ∧ MixS w (80 + 4 * i) s) ∧
  (∀ f, f < 3 → ∃ t, 20 ≤ t ∧ t ≤ 1500 ∧ w (13 + 6 * f) = nI t) ∧ (∀ f, f < 3 → ∃ t, t ≤ 5 ∧ w (14 + 6 * f) = nI t) ∧ (∀ f, f < 3 → ∃ t, 20 ≤ t ∧ t ≤ 1500 ∧ w (31 + 5 * f) = nI t)
theorem nz_of {x : Int32} {n : Nat} (h : x = nI n) (h0 : 0 < n) (hn : n < 2 ^ 31) : ¬ x = 0 := fun q => by
  have := (nI_eq (a := n) (b := 0) hn (by decide)).mp (h.symm.trans q)
  omega
theorem isIn_nat {x : Int32} {a b : Nat} (ha : a < 2 ^ 31) (hb : b < 2 ^ 31) (h : ¬ oM_isIn x (nI a) (nI b) = 0) : ∃ k, a ≤ k ∧ k ≤ b ∧ x = nI k := by
  unfold oM_isIn at h
  by_cases h1 : x < nI a
  · rw [if_pos h1] at h
    exact absurd rfl h
  · rw [if_neg h1] at h
    by_cases h2 : nI b < x
    · rw [if_pos h2] at h
      exact absurd rfl h
    · have h3 : ¬ x < 0 := fun q => h1 (by
        rw [Int32.lt_iff_toInt_lt] at q ⊢
        rw [nI_toInt ha]
        have : (0 : Int32).toInt = 0 := by decide
        omega)
      obtain ⟨j, hj, rfl⟩ := nI_of h3
      refine ⟨j, ?_, ?_, rfl⟩
      · exact Nat.le_of_not_lt fun q => h1 ((nI_ltI hj ha).mpr q)
      · exact Nat.le_of_not_lt fun q => h2 ((nI_ltI hb hj).mpr q)
theorem nz_feed {w w' p : Nat → Int32} {f s : Nat} (h : ∃ s, s ≤ 100 ∧ MixS w (9 + 6 * f) s) (e : ∀ j, j < 4 → w' (9 + 6 * f + j) = w (9 + 6 * f + j)) (hp : MixS p 0 s) (hs : s ≤ 1000) : ¬ oM_mass w' (9 + 6 * f) + 10 + oM_partMass p = 0 := by
  obtain ⟨a, ha, hm⟩ := h
  rw [(hm.congr e).mass, hp.part]
  refine nz_of (n := a + 10 + s) ?_ (by omega) (by omega)
  rw [show nI a + 10 = nI (a + 10) from nI_add a 10, nI_add]
