/-! The world at the law's loop: the list of cells that the constructors leave, as the flat state's. -/
def x11 : Nat → Int32 := fun j => if j = 1 ∨ j = 2 then -1 else 0
def x15 : Nat → Int32 := fun j => if j = 2 ∨ j = 3 then -1 else 0
def M0 : Nat → Nat → Int32 := fun r => if r < 11 then tmp0 else if r = 11 then x11 else if r = 15 then x15 else if r = 16 then v0q else if r = 21 then ptq else if r = 25 then wdq else if r = 26 then waq else fun _ => 0
def X0 (b1 : Nat) : St := (M0, (b1, (16, (fun _ => 0, 0))))
theorem v0_tmp (i : Nat) : v0q i = tmp0 i := by
  unfold v0q tmp0 upd
  by_cases h : i = 13 ∨ i = 19 ∨ i = 25 ∨ i = 31 ∨ i = 36 ∨ i = 41
  · rw [if_pos h]
    rcases h with rfl | rfl | rfl | rfl | rfl | rfl <;> rfl
  · rw [if_neg h]
    rw [if_neg (by omega), if_neg (by omega), if_neg (by omega), if_neg (by omega), if_neg (by omega), if_neg (by omega)]
theorem fi_0 : FI v0q := by
  have e : ∀ i, v0q i = tmp0 i := v0_tmp
  refine ⟨⟨fun f hf => ⟨0, by decide, 0, 0, 0, 0, ?_, ?_, ?_, ?_, rfl⟩, fun f hf => ⟨0, by decide, 0, 0, 0, 0, ?_, ?_, ?_, ?_, rfl⟩, ⟨0, by decide, rfl, fun m hm => absurd hm (by omega)⟩, ⟨0, by decide, rfl, fun m hm => absurd hm (by omega)⟩, fun f hf => ⟨20, by decide, by decide, ?_⟩, fun f hf => ⟨0, by decide, ?_⟩, fun f hf => ⟨20, by decide, by decide, ?_⟩⟩, fun j hj => ?_⟩
  all_goals first
    | (rcases lt3 hf with rfl | rfl | rfl <;> rfl)
    | (rcases lt4 hj with rfl | rfl | rfl | rfl <;> decide +kernel)
theorem linv_0 (b1 : Nat) : LInv (X0 b1) := by
  refine ⟨⟨fi_0, fun j _ => (v0_tmp j).symm, fun m k hm _ => ?_, fun i k hi _ => ?_⟩, ⟨⟨rfl, rfl, rfl, rfl⟩, ?_, ?_⟩, ⟨0, 0, by decide, by decide, rfl, rfl, rfl, fun k hk => absurd hk (by omega)⟩, .inl ⟨rfl, rfl⟩, ⟨0, by decide, rfl, rfl, rfl⟩, ⟨rfl, .inl rfl, rfl, .inl rfl⟩, ⟨16, 0, ⟨by decide, by decide⟩, by decide, rfl, rfl, rfl, rfl, fun j => ⟨0, by decide, rfl⟩, fun j hj => absurd hj (by omega)⟩⟩
  · exact absurd hm (by rw [show kmv ((X0 b1).1 16) = 0 from rfl]; omega)
  · exact absurd hi (by rw [show kiv ((X0 b1).1 16) = 0 from rfl]; omega)
  · have h : ∀ j, j < 53 → wdq j = nI (wcc j) := by decide +kernel
    exact h
  · have h : ∀ j, j < 11 → waq j = nI (wa j) := by decide +kernel
    exact h
/-- the numbers of the cells, in the constructors' order -/
def sg (k : Nat) : Nat := if k < 65 then k + 1 else if k < 715 then k + 3 else if k = 715 then 0 else if k = 716 then 66 else if k = 717 then 67 else if k < 722 then k else if k = 722 then 782 else if k < 737 then k + 61 else if k = 737 then 783 else k - 16
theorem sg_inj {i j : Nat} (hi : i < 798) (hj : j < 798) (h : sg i = sg j) : i = j := by
  unfold sg at h
  split at h <;> split at h <;> first | omega | skip
  all_goals (repeat' split at h) <;> omega
