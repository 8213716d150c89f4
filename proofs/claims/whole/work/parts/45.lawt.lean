/-! The law's cases: what they have in common. -/
theorem gV0 {y : MethodName} {cy : ByteArray} {ny : Nat} {ry : Option FieldType} {own C : String} {idx : Nat} (h1 : Cond.methodLink own idx y ∈ lw_all) (h2 : Cond.instanceMethod y ∈ lw_all) (h3 : Cond.selects C y y ∈ lw_all) (h4 : Cond.initialized C ∈ lw_all) (h : Cond.code y cy ny ry ∈ lw_all) : GoodIn lw_all (wsV own idx C y (wsG y cy ny ry)) := by
  intro w hw
  rcases List.mem_append.mp hw with h5 | h5
  · have : w ∈ lw_all := by
      simp only [List.mem_cons, List.not_mem_nil, or_false] at h5
      rcases h5 with rfl | rfl | rfl | rfl <;> assumption
    exact ⟨this, lw_good this⟩
  · rcases List.mem_cons.mp h5 with rfl | h2
    · exact ⟨h, lw_good h⟩
    · exact ⟨h2, lw_good h2⟩
theorem gSW0 {y : MethodName} {cy : ByteArray} {ny : Nat} {ry : Option FieldType} {hh : List (Nat × Nat × Nat × Nat)} {own : String} {idx : Nat} (h1 : Cond.methodLink own idx y ∈ lw_all) (h2 : Cond.static y ∈ lw_all) (h4 : Cond.initialized y.cls ∈ lw_all) (h : Cond.codeWith y cy ny ry hh ∈ lw_all) : GoodIn lw_all (va_wsS own idx y (wsW y cy ny ry hh)) := by
  intro w hw
  rcases List.mem_append.mp hw with h5 | h5
  · have : w ∈ lw_all := by
      simp only [List.mem_cons, List.not_mem_nil, or_false] at h5
      rcases h5 with rfl | rfl | rfl <;> assumption
    exact ⟨this, lw_good this⟩
  · rcases List.mem_cons.mp h5 with rfl | h2
    · exact ⟨h, lw_good h⟩
    · exact ⟨h2, lw_good h2⟩
theorem dcdL : decode cL_law 2989 = .ok (.iinc 5 4, 3) := dL_law_2989
section LC
variable {p : Program} {l : Launch} {e : Env} {s : State} {m : MethodId} {args : Array Value} {below : List Frame} {meth : Method} {c : Code} {H : Heap} {locs : List Loc} {cells slots : Nat} {Q : State → Prop}
variable {ls : Array Slot} {G : GT} {X : St}
theorem g_lld {R : Room} {cc : ByteArray} {nL pc : Nat} {rest : List Value} {Ts : List Cond} {own : String} (C : Cx p m c cc nL s args Ts own G) (hW : Wd G X H) (hdg : decode cc pc = .ok (.laload, 1))
    (kk : W p l e R s m args below meth c H locs cells slots Q (F0 m (pc + 1) ls (.long (X.1 27 0).toInt64 :: rest))) : W p l e R s m args below meth c H locs cells slots Q (F0 m pc ls (.int 0 :: .ref (ad G 735) :: rest)) :=
  va_lald (D := gD G) (f := fun _ => (X.1 27 0).toInt64) C.1.1 C.1.2.1 C.2.1 hW.1 735 3 (wl_at (by decide) (by decide) (cell_s (o := 20))) rfl (vp_in_nI (n := 0) (N := 1) (by decide) (by decide)) hdg kk
theorem lw_cmp (C : Cx p m c cL_law 10 s args lw_all "FoundryLaw" G) (hW : Wd G X H) (hS : va_S (Ab G) s.heap H locs) (hsz : ls.size = 10) {k b : Int32} (i2 : ls[2]? = some (.val (.ref (ad G 723)))) (i3 : ls[3]? = some (.val (.ref (ad G 735)))) (i6 : ls[6]? = some (.val (.int k))) (i7 : ls[7]? = some (.val (.int b)))
    (hthr : X.1 15 0 = k) (hans : k = 0 → X.1 27 0 = b) (hc : cells ≤ 714529) (hs : slots ≤ 6893124) {T : Nat} {off : Int}
    (d0 : decode cL_law T = .ok (.aload_n 2, 1)) (d1 : decode cL_law (T + 1) = .ok (.invokevirtual 173, 3)) (d4 : decode cL_law (T + 4) = .ok (.iload 6, 2)) (d6 : decode cL_law (T + 6) = .ok (.if_icmp .eq 5, 3)) (d11 : decode cL_law (T + 11) = .ok (.iload 6, 2)) (d13 : decode cL_law (T + 13) = .ok (.ifCond .ne 15, 3))
    (d16 : decode cL_law (T + 16) = .ok (.aload_n 3, 1)) (d17 : decode cL_law (T + 17) = .ok (.iconst 0, 1)) (d18 : decode cL_law (T + 18) = .ok (.laload, 1)) (d19 : decode cL_law (T + 19) = .ok (.iload 7, 2)) (d21 : decode cL_law (T + 21) = .ok (.i2l, 1)) (d22 : decode cL_law (T + 22) = .ok (.lcmp, 1)) (d23 : decode cL_law (T + 23) = .ok (.ifCond .eq 5, 3)) (d28 : decode cL_law (T + 28) = .ok (.goto off, 3)) (ht : ((T + 28 : Nat) : Int) + off = ((2989 : Nat) : Int))
    (kk : ∀ (H1 : Heap) (locs1 : List Loc), Wd G X H1 → va_S (Ab G) s.heap H1 locs1 → W p l e room_1 s m args below meth c H1 locs1 cells slots Q (F0 m 2989 ls [])) : W p l e room_1 s m args below meth c H locs cells slots Q (F0 m T ls []) := by
  have hx := C.1.1
  have hb := C.1.2.1
  refine lv_aload_n hx hb d0 rfl i2 ?_
  refine g_calli (va_runV (As := []) (rest := []) C.1 (cX8_thrown_ok l G X) (cwV 0 C.1.2.2.2.2 (gV0 qw_1543 qw_1544 qw_1545 qw_81 qw_1546) rfl rfl rfl (by decide +kernel) ⟨Nat.le_of_ble_eq_true rfl, Nat.le_of_ble_eq_true rfl⟩) (g_rModel C hW hS []) rfl rfl hsz rfl (lv_room (Nat.le_of_ble_eq_true rfl)) d1 ⟨hc, hs⟩) hS (fun r_2 Y_3 H_4 locs_5 hW_6 hS_7 h_1 => ?_)
  obtain ⟨hr_1, hy_1⟩ := h_1
  replace hy_1 := hy_1.symm
  subst hy_1
  have hr_2 : r_2 = k := hr_1.trans hthr
  subst hr_2
  refine lv_iload hx hb d4 i6 ?_
  refine lv_icmp_eq (tgt := T + 11) hx hb d6 (by omega) (fun _ => ?_) (fun h => absurd rfl h)
  refine lv_iload hx hb d11 i6 ?_
  refine lv_if_ne (tgt := T + 28) hx hb d13 (by omega) (fun _ => ?_) (fun h0 => ?_)
  · exact lv_goto hx hb d28 ht (kk _ _ hW_6 hS_7)
  · refine lv_aload_n hx hb d16 rfl i3 ?_
    refine lv_iconst (v := 0) hx hb d17 (by decide) ?_
    refine g_lld C hW_6 d18 ?_
    refine lv_iload hx hb d19 i7 ?_
    refine lv_i2l hx hb d21 rfl ?_
    refine W.lcmp hx hb d22 ?_
    rw [hans h0]
    refine lv_if_eq (tgt := T + 28) hx hb d23 (by omega) (fun _ => ?_) (fun h => (h (by simp [lg_cmp])).elim)
    exact lv_goto hx hb d28 ht (kk _ _ hW_6 hS_7)
end LC
