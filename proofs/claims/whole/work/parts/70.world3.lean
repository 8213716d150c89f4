/-! The list world that the constructors leave is the flat state's world. -/
theorem Wd.of_list {G : GT} {h0 hh s1 sc t1 c1 z1 sb b1 q0 qL qD : Nat} {a1 a2 am : Nat → Nat} {bb : Nat → Nat → Nat} {H : Heap} (hG : ad G = adq h0 hh s1 sc t1 c1 z1 sb b1 q0 qL qD a1 a2 am bb) (hW : Wq G (Vq G h0 hh s1 sc t1 c1 z1 sb b1 q0 qL qD a1 a2 am bb) H) : Wd G (X0 b1) H := by
  have hat : ∀ k : Nat, ∀ q : Nat × va_E, (wl G (X0 b1))[k]? = some q → k < 798 ∧ q = (adx G (X0 b1) k, cell G (X0 b1) k) := by
    intro k q hk
    have hlt : k < 798 := by
      have := (List.getElem?_eq_some_iff.mp hk).1
      simpa [wl, NK] using this
    refine ⟨hlt, ?_⟩
    have e : (wl G (X0 b1))[k]? = some (adx G (X0 b1) k, cell G (X0 b1) k) := by simp [wl, NK, hlt]
    exact (Option.some.inj (e.symm.trans hk)).symm
  refine ⟨fun k q hk => ?_, fun i j p q hi hj hpq => ?_, fun k q hk => ?_⟩
  · obtain ⟨h1, rfl⟩ := hat k q hk
    exact hW.1 (sg k) _ (V_at hG h1)
  · obtain ⟨h1, rfl⟩ := hat i p hi
    obtain ⟨h2, rfl⟩ := hat j q hj
    exact sg_inj h1 h2 (hW.2.1 (sg i) (sg j) _ _ (V_at hG h1) (V_at hG h2) hpq)
  · obtain ⟨h1, rfl⟩ := hat k q hk
    exact hW.2.2 (sg k) _ (V_at hG h1)
