/-! The reference's arrays, by place. -/
section GMR
variable {p : Program} {l : Launch} {e : Env} {R : Room} {s : State} {m : MethodId} {args : Array Value} {below : List Frame} {meth : Method} {c : Code} {H : Heap} {locs : List Loc} {cells slots : Nat} {Q : State → Prop}
variable {cc : ByteArray} {nL pc : Nat} {ls : Array Slot} {rest : List Value} {G : GT} {X : St} {Ts : List Cond} {own : String}
theorem gm_vld (C : Cx p m c cc nL s args Ts own G) (hW : Wd G X H) {x : Int32} (j : Nat) (hx : x.toNatClampNeg = j) (hin : vp_in x 128) (hdg : decode cc pc = .ok (.iaload, 1))
    (kk : W p l e R s m args below meth c H locs cells slots Q (F0 m (pc + 1) ls (.int (X.1 16 j) :: rest))) : W p l e R s m args below meth c H locs cells slots Q (F0 m pc ls (.int x :: .ref (ad G 724) :: rest)) :=
  g_vld C hW j hx hin hdg (by rw [Nat.zero_add]; exact kk)
theorem gm_vst (C : Cx p m c cc nL s args Ts own G) (hW : Wd G X H) (hS : va_S (Ab G) s.heap H locs) {x v : Int32} (j : Nat) (hx : x.toNatClampNeg = j) (hin : vp_in x 128) (hdg : decode cc pc = .ok (.iastore, 1))
    (kk : ∀ (H1 : Heap) (locs1 : List Loc), Wd G (sup X 16 j v) H1 → va_S (Ab G) s.heap H1 locs1 → W p l e R s m args below meth c H1 locs1 cells slots Q (F0 m (pc + 1) ls rest)) : W p l e R s m args below meth c H locs cells slots Q (F0 m pc ls (.int v :: .int x :: .ref (ad G 724) :: rest)) :=
  g_vst C hW hS j hx hin hdg (by rw [Nat.zero_add]; exact kk)
theorem gm_beforeld (C : Cx p m c cc nL s args Ts own G) (hW : Wd G X H) {x : Int32} (j : Nat) (hx : x.toNatClampNeg = j) (hin : vp_in x 128) (hdg : decode cc pc = .ok (.iaload, 1))
    (kk : W p l e R s m args below meth c H locs cells slots Q (F0 m (pc + 1) ls (.int (X.1 17 j) :: rest))) : W p l e R s m args below meth c H locs cells slots Q (F0 m pc ls (.int x :: .ref (ad G 725) :: rest)) :=
  g_beforeld C hW j hx hin hdg (by rw [Nat.zero_add]; exact kk)
theorem gm_beforest (C : Cx p m c cc nL s args Ts own G) (hW : Wd G X H) (hS : va_S (Ab G) s.heap H locs) {x v : Int32} (j : Nat) (hx : x.toNatClampNeg = j) (hin : vp_in x 128) (hdg : decode cc pc = .ok (.iastore, 1))
    (kk : ∀ (H1 : Heap) (locs1 : List Loc), Wd G (sup X 17 j v) H1 → va_S (Ab G) s.heap H1 locs1 → W p l e R s m args below meth c H1 locs1 cells slots Q (F0 m (pc + 1) ls rest)) : W p l e R s m args below meth c H locs cells slots Q (F0 m pc ls (.int v :: .int x :: .ref (ad G 725) :: rest)) :=
  g_beforest C hW hS j hx hin hdg (by rw [Nat.zero_add]; exact kk)
theorem gm_savedld (C : Cx p m c cc nL s args Ts own G) (hW : Wd G X H) {x : Int32} (j : Nat) (hx : x.toNatClampNeg = j) (hin : vp_in x 128) (hdg : decode cc pc = .ok (.iaload, 1))
    (kk : W p l e R s m args below meth c H locs cells slots Q (F0 m (pc + 1) ls (.int (X.1 18 j) :: rest))) : W p l e R s m args below meth c H locs cells slots Q (F0 m pc ls (.int x :: .ref (ad G 726) :: rest)) :=
  g_savedld C hW j hx hin hdg (by rw [Nat.zero_add]; exact kk)
theorem gm_savedst (C : Cx p m c cc nL s args Ts own G) (hW : Wd G X H) (hS : va_S (Ab G) s.heap H locs) {x v : Int32} (j : Nat) (hx : x.toNatClampNeg = j) (hin : vp_in x 128) (hdg : decode cc pc = .ok (.iastore, 1))
    (kk : ∀ (H1 : Heap) (locs1 : List Loc), Wd G (sup X 18 j v) H1 → va_S (Ab G) s.heap H1 locs1 → W p l e R s m args below meth c H1 locs1 cells slots Q (F0 m (pc + 1) ls rest)) : W p l e R s m args below meth c H locs cells slots Q (F0 m pc ls (.int v :: .int x :: .ref (ad G 726) :: rest)) :=
  g_savedst C hW hS j hx hin hdg (by rw [Nat.zero_add]; exact kk)
theorem gm_pastld (C : Cx p m c cc nL s args Ts own G) (hW : Wd G X H) {x : Int32} (j : Nat) (hx : x.toNatClampNeg = j) (hin : vp_in x 1024) (hdg : decode cc pc = .ok (.iaload, 1))
    (kk : W p l e R s m args below meth c H locs cells slots Q (F0 m (pc + 1) ls (.int (X.1 19 j) :: rest))) : W p l e R s m args below meth c H locs cells slots Q (F0 m pc ls (.int x :: .ref (ad G 727) :: rest)) :=
  g_pastld C hW j hx hin hdg (by rw [Nat.zero_add]; exact kk)
theorem gm_pastst (C : Cx p m c cc nL s args Ts own G) (hW : Wd G X H) (hS : va_S (Ab G) s.heap H locs) {x v : Int32} (j : Nat) (hx : x.toNatClampNeg = j) (hin : vp_in x 1024) (hdg : decode cc pc = .ok (.iastore, 1))
    (kk : ∀ (H1 : Heap) (locs1 : List Loc), Wd G (sup X 19 j v) H1 → va_S (Ab G) s.heap H1 locs1 → W p l e R s m args below meth c H1 locs1 cells slots Q (F0 m (pc + 1) ls rest)) : W p l e R s m args below meth c H locs cells slots Q (F0 m pc ls (.int v :: .int x :: .ref (ad G 727) :: rest)) :=
  g_pastst C hW hS j hx hin hdg (by rw [Nat.zero_add]; exact kk)
theorem gm_partld (C : Cx p m c cc nL s args Ts own G) (hW : Wd G X H) {x : Int32} (j : Nat) (hx : x.toNatClampNeg = j) (hin : vp_in x 4) (hdg : decode cc pc = .ok (.iaload, 1))
    (kk : W p l e R s m args below meth c H locs cells slots Q (F0 m (pc + 1) ls (.int (X.1 20 j) :: rest))) : W p l e R s m args below meth c H locs cells slots Q (F0 m pc ls (.int x :: .ref (ad G 728) :: rest)) :=
  g_partld C hW j hx hin hdg (by rw [Nat.zero_add]; exact kk)
theorem gm_partst (C : Cx p m c cc nL s args Ts own G) (hW : Wd G X H) (hS : va_S (Ab G) s.heap H locs) {x v : Int32} (j : Nat) (hx : x.toNatClampNeg = j) (hin : vp_in x 4) (hdg : decode cc pc = .ok (.iastore, 1))
    (kk : ∀ (H1 : Heap) (locs1 : List Loc), Wd G (sup X 20 j v) H1 → va_S (Ab G) s.heap H1 locs1 → W p l e R s m args below meth c H1 locs1 cells slots Q (F0 m (pc + 1) ls rest)) : W p l e R s m args below meth c H locs cells slots Q (F0 m pc ls (.int v :: .int x :: .ref (ad G 728) :: rest)) :=
  g_partst C hW hS j hx hin hdg (by rw [Nat.zero_add]; exact kk)
theorem gm_pointsld (C : Cx p m c cc nL s args Ts own G) (hW : Wd G X H) {x : Int32} (j : Nat) (hx : x.toNatClampNeg = j) (hin : vp_in x 4) (hdg : decode cc pc = .ok (.iaload, 1))
    (kk : W p l e R s m args below meth c H locs cells slots Q (F0 m (pc + 1) ls (.int (X.1 21 j) :: rest))) : W p l e R s m args below meth c H locs cells slots Q (F0 m pc ls (.int x :: .ref (ad G 729) :: rest)) :=
  g_pointsld C hW j hx hin hdg (by rw [Nat.zero_add]; exact kk)
theorem gm_pointsst (C : Cx p m c cc nL s args Ts own G) (hW : Wd G X H) (hS : va_S (Ab G) s.heap H locs) {x v : Int32} (j : Nat) (hx : x.toNatClampNeg = j) (hin : vp_in x 4) (hdg : decode cc pc = .ok (.iastore, 1))
    (kk : ∀ (H1 : Heap) (locs1 : List Loc), Wd G (sup X 21 j v) H1 → va_S (Ab G) s.heap H1 locs1 → W p l e R s m args below meth c H1 locs1 cells slots Q (F0 m (pc + 1) ls rest)) : W p l e R s m args below meth c H locs cells slots Q (F0 m pc ls (.int v :: .int x :: .ref (ad G 729) :: rest)) :=
  g_pointsst C hW hS j hx hin hdg (by rw [Nat.zero_add]; exact kk)
theorem gm_mtextld (C : Cx p m c cc nL s args Ts own G) (hW : Wd G X H) {x : Int32} (j : Nat) (hx : x.toNatClampNeg = j) (hin : vp_in x 60) (hdg : decode cc pc = .ok (.iaload, 1))
    (kk : W p l e R s m args below meth c H locs cells slots Q (F0 m (pc + 1) ls (.int (X.1 22 j) :: rest))) : W p l e R s m args below meth c H locs cells slots Q (F0 m pc ls (.int x :: .ref (ad G 730) :: rest)) :=
  g_mtextld C hW j hx hin hdg (by rw [Nat.zero_add]; exact kk)
theorem gm_mtextst (C : Cx p m c cc nL s args Ts own G) (hW : Wd G X H) (hS : va_S (Ab G) s.heap H locs) {x v : Int32} (j : Nat) (hx : x.toNatClampNeg = j) (hin : vp_in x 60) (hdg : decode cc pc = .ok (.iastore, 1))
    (kk : ∀ (H1 : Heap) (locs1 : List Loc), Wd G (sup X 22 j v) H1 → va_S (Ab G) s.heap H1 locs1 → W p l e R s m args below meth c H1 locs1 cells slots Q (F0 m (pc + 1) ls rest)) : W p l e R s m args below meth c H locs cells slots Q (F0 m pc ls (.int v :: .int x :: .ref (ad G 730) :: rest)) :=
  g_mtextst C hW hS j hx hin hdg (by rw [Nat.zero_add]; exact kk)
theorem gm_lineld (C : Cx p m c cc nL s args Ts own G) (hW : Wd G X H) {x : Int32} (j : Nat) (hx : x.toNatClampNeg = j) (hin : vp_in x 40) (hdg : decode cc pc = .ok (.iaload, 1))
    (kk : W p l e R s m args below meth c H locs cells slots Q (F0 m (pc + 1) ls (.int (X.1 23 j) :: rest))) : W p l e R s m args below meth c H locs cells slots Q (F0 m pc ls (.int x :: .ref (ad G 731) :: rest)) :=
  g_lineld C hW j hx hin hdg (by rw [Nat.zero_add]; exact kk)
theorem gm_linest (C : Cx p m c cc nL s args Ts own G) (hW : Wd G X H) (hS : va_S (Ab G) s.heap H locs) {x v : Int32} (j : Nat) (hx : x.toNatClampNeg = j) (hin : vp_in x 40) (hdg : decode cc pc = .ok (.iastore, 1))
    (kk : ∀ (H1 : Heap) (locs1 : List Loc), Wd G (sup X 23 j v) H1 → va_S (Ab G) s.heap H1 locs1 → W p l e R s m args below meth c H1 locs1 cells slots Q (F0 m (pc + 1) ls rest)) : W p l e R s m args below meth c H locs cells slots Q (F0 m pc ls (.int v :: .int x :: .ref (ad G 731) :: rest)) :=
  g_linest C hW hS j hx hin hdg (by rw [Nat.zero_add]; exact kk)
theorem gm_isLeftld (C : Cx p m c cc nL s args Ts own G) (hW : Wd G X H) {x : Int32} (j : Nat) (hx : x.toNatClampNeg = j) (hin : vp_in x 10) (hdg : decode cc pc = .ok (.iaload, 1))
    (kk : W p l e R s m args below meth c H locs cells slots Q (F0 m (pc + 1) ls (.int (X.1 24 j) :: rest))) : W p l e R s m args below meth c H locs cells slots Q (F0 m pc ls (.int x :: .ref (ad G 732) :: rest)) :=
  g_isLeftld C hW j hx hin hdg (by rw [Nat.zero_add]; exact kk)
theorem gm_isLeftst (C : Cx p m c cc nL s args Ts own G) (hW : Wd G X H) (hS : va_S (Ab G) s.heap H locs) {x v : Int32} (j : Nat) (hx : x.toNatClampNeg = j) (hin : vp_in x 10) (hdg : decode cc pc = .ok (.iastore, 1))
    (kk : ∀ (H1 : Heap) (locs1 : List Loc), Wd G (sup X 24 j v) H1 → va_S (Ab G) s.heap H1 locs1 → W p l e R s m args below meth c H1 locs1 cells slots Q (F0 m (pc + 1) ls rest)) : W p l e R s m args below meth c H locs cells slots Q (F0 m pc ls (.int v :: .int x :: .ref (ad G 732) :: rest)) :=
  g_isLeftst C hW hS j hx hin hdg (by rw [Nat.zero_add]; exact kk)
theorem gm_wordsld (C : Cx p m c cc nL s args Ts own G) (hW : Wd G X H) {x : Int32} (j : Nat) (hx : x.toNatClampNeg = j) (hin : vp_in x 53) (hdg : decode cc pc = .ok (.iaload, 1))
    (kk : W p l e R s m args below meth c H locs cells slots Q (F0 m (pc + 1) ls (.int (X.1 25 j) :: rest))) : W p l e R s m args below meth c H locs cells slots Q (F0 m pc ls (.int x :: .ref (ad G 733) :: rest)) :=
  g_wordsld C hW j hx hin hdg (by rw [Nat.zero_add]; exact kk)
theorem gm_wordsst (C : Cx p m c cc nL s args Ts own G) (hW : Wd G X H) (hS : va_S (Ab G) s.heap H locs) {x v : Int32} (j : Nat) (hx : x.toNatClampNeg = j) (hin : vp_in x 53) (hdg : decode cc pc = .ok (.iastore, 1))
    (kk : ∀ (H1 : Heap) (locs1 : List Loc), Wd G (sup X 25 j v) H1 → va_S (Ab G) s.heap H1 locs1 → W p l e R s m args below meth c H1 locs1 cells slots Q (F0 m (pc + 1) ls rest)) : W p l e R s m args below meth c H locs cells slots Q (F0 m pc ls (.int v :: .int x :: .ref (ad G 733) :: rest)) :=
  g_wordsst C hW hS j hx hin hdg (by rw [Nat.zero_add]; exact kk)
theorem gm_wordAtld (C : Cx p m c cc nL s args Ts own G) (hW : Wd G X H) {x : Int32} (j : Nat) (hx : x.toNatClampNeg = j) (hin : vp_in x 11) (hdg : decode cc pc = .ok (.iaload, 1))
    (kk : W p l e R s m args below meth c H locs cells slots Q (F0 m (pc + 1) ls (.int (X.1 26 j) :: rest))) : W p l e R s m args below meth c H locs cells slots Q (F0 m pc ls (.int x :: .ref (ad G 734) :: rest)) :=
  g_wordAtld C hW j hx hin hdg (by rw [Nat.zero_add]; exact kk)
theorem gm_wordAtst (C : Cx p m c cc nL s args Ts own G) (hW : Wd G X H) (hS : va_S (Ab G) s.heap H locs) {x v : Int32} (j : Nat) (hx : x.toNatClampNeg = j) (hin : vp_in x 11) (hdg : decode cc pc = .ok (.iastore, 1))
    (kk : ∀ (H1 : Heap) (locs1 : List Loc), Wd G (sup X 26 j v) H1 → va_S (Ab G) s.heap H1 locs1 → W p l e R s m args below meth c H1 locs1 cells slots Q (F0 m (pc + 1) ls rest)) : W p l e R s m args below meth c H locs cells slots Q (F0 m pc ls (.int v :: .int x :: .ref (ad G 734) :: rest)) :=
  g_wordAtst C hW hS j hx hin hdg (by rw [Nat.zero_add]; exact kk)
end GMR
/-! The reference's methods: what they answer, as the walk wrote it. -/
def oM_isIn (x : Int32) (y : Int32) (z : Int32) : Int32 := if x < y then 0 else (if z < x then 0 else 1)
set_option maxHeartbeats 4000000 in
set_option maxRecDepth 100000 in
theorem cX8_isIn_ok (l : Launch) (G : GT) (X : St) (x : Int32) (y : Int32) (z : Int32) : MetI l G yX8_isIn (wsG yX8_isIn cX8_isIn 3 (some .boolean)) (rmz 0 0) [.int x, .int y, .int z] X (fun res Y => res = oM_isIn x y z ∧ Y = X) := by
  refine g_met (cc := cX8_isIn) (maxL := 3) (ret := (some .boolean)) (by decide) rfl (Nat.le_of_ble_eq_true rfl) ?_
  intro p e s m below meth c ls C hr hlk hnm hW hl
  have hx := C.1.1
  have hb := C.1.2.1
  have hS : va_S (Ab G) s.heap s.heap [] := va_S.rf
  have hl : lv_has ls 3 [(0, .int x), (1, .int y), (2, .int z)] := hl
  refine lv_iload_n hx hb dX8_isIn_0 rfl (lv_at hl 0 rfl) ?_
  refine lv_iload_n hx hb dX8_isIn_1 rfl (lv_at hl 1 rfl) ?_
  refine lv_icmp_lt (tgt := 14) hx hb dX8_isIn_2 (by decide) (fun b_1 => ?_) (fun b_1 => ?_)
  · refine lv_iconst (v := 0) hx hb dX8_isIn_14 (by decide) ?_
    exact g_zret C hr hlk hW hS dX8_isIn_15 rfl (by exact ⟨(by first | rfl | (simp only [oM_isIn, b_1, if_true, if_false]; first | done | rfl)), (by first | rfl | (simp only [oM_isIn, b_1, if_true, if_false]; first | done | rfl))⟩)
  · refine lv_iload_n hx hb dX8_isIn_5 rfl (lv_at hl 0 rfl) ?_
    refine lv_iload_n hx hb dX8_isIn_6 rfl (lv_at hl 2 rfl) ?_
    refine lv_icmp_gt (tgt := 14) hx hb dX8_isIn_7 (by decide) (fun b_2 => ?_) (fun b_2 => ?_)
    · refine lv_iconst (v := 0) hx hb dX8_isIn_14 (by decide) ?_
      exact g_zret C hr hlk hW hS dX8_isIn_15 rfl (by exact ⟨(by first | rfl | (simp only [oM_isIn, b_1, b_2, if_true, if_false]; first | done | rfl)), (by first | rfl | (simp only [oM_isIn, b_1, b_2, if_true, if_false]; first | done | rfl))⟩)
    · refine lv_iconst (v := 1) hx hb dX8_isIn_10 (by decide) ?_
      refine lv_goto (tgt := 15) hx hb dX8_isIn_11 (by decide) ?_
      exact g_zret C hr hlk hW hS dX8_isIn_15 rfl (by exact ⟨(by first | rfl | (simp only [oM_isIn, b_1, b_2, if_true, if_false]; first | done | rfl)), (by first | rfl | (simp only [oM_isIn, b_1, b_2, if_true, if_false]; first | done | rfl))⟩)

theorem nar_isIn (x y z : Int32) : narrow .boolean (.int (oM_isIn x y z)) = .int (oM_isIn x y z) := by
  unfold oM_isIn
  split
  · rfl
  · split <;> rfl
def oM_isThree (x : Int32) : Int32 := oM_isIn x 0 2
set_option maxHeartbeats 4000000 in
set_option maxRecDepth 100000 in
theorem cX8_isThree_ok (l : Launch) (G : GT) (X : St) (x : Int32) : MetI l G yX8_isThree (wsG yX8_isThree cX8_isThree 1 (some .boolean)) (rmz 1 22) [.int x] X (fun res Y => res = oM_isThree x ∧ Y = X) := by
  refine g_met (cc := cX8_isThree) (maxL := 1) (ret := (some .boolean)) (by decide) rfl (Nat.le_of_ble_eq_true rfl) ?_
  intro p e s m below meth c ls C hr hlk hnm hW hl
  have hx := C.1.1
  have hb := C.1.2.1
  have hS : va_S (Ab G) s.heap s.heap [] := va_S.rf
  have hl : lv_has ls 1 [(0, .int x)] := hl
  refine lv_iload_n hx hb dX8_isThree_0 rfl (lv_at hl 0 rfl) ?_
  refine lv_iconst (v := 0) hx hb dX8_isThree_1 (by decide) ?_
  refine lv_iconst (v := 2) hx hb dX8_isThree_2 (by decide) ?_
  refine g_calli (va_runS (As := [.int x, .int 0, .int 2]) (rest := []) C.1 (cX8_isIn_ok l G X x 0 2) (va_cwS 3 C.1.2.2.2.2 (gS qw_1568 qw_1569 qw_81 qw_1570) rfl rfl rfl (by decide +kernel) ⟨Nat.le_of_ble_eq_true rfl, Nat.le_of_ble_eq_true rfl⟩) (g_pre C hW hS [.int x, .int 0, .int 2]) rfl rfl hl.1 rfl (lv_room (Nat.le_of_ble_eq_true rfl)) dX8_isThree_3 ⟨Nat.zero_le _, Nat.zero_le _⟩) hS (fun r_2 Y_3 H_4 locs_5 hW_6 hS_7 h_1 => ?_)
  obtain ⟨h_1, hy_8⟩ := h_1
  replace hy_8 := hy_8.symm
  subst hy_8
  replace h_1 : r_2 = oM_isIn x 0 2 := h_1
  subst h_1
  exact g_zret C hr hlk hW_6 hS_7 dX8_isThree_6 (nar_isIn _ _ _) (by exact ⟨(by first | rfl | (simp only [oM_isThree, if_true, if_false]; first | done | rfl)), (by first | rfl | (simp only [oM_isThree, if_true, if_false]; first | done | rfl))⟩)

def oM_kind (x : Int32) : Int32 := if x = 99 then 0 else (if x = 116 then 1 else (if x = 108 then 2 else (if x = 111 then 3 else (-1))))
set_option maxHeartbeats 4000000 in
set_option maxRecDepth 100000 in
theorem cX8_kind_ok (l : Launch) (G : GT) (X : St) (x : Int32) : MetI l G yX8_kind (wsG yX8_kind cX8_kind 1 (some .int)) (rmz 0 0) [.int x] X (fun res Y => res = oM_kind x ∧ Y = X) := by
  refine g_met (cc := cX8_kind) (maxL := 1) (ret := (some .int)) (by decide) rfl (Nat.le_of_ble_eq_true rfl) ?_
  intro p e s m below meth c ls C hr hlk hnm hW hl
  have hx := C.1.1
  have hb := C.1.2.1
  have hS : va_S (Ab G) s.heap s.heap [] := va_S.rf
  have hl : lv_has ls 1 [(0, .int x)] := hl
  refine lv_iload_n hx hb dX8_kind_0 rfl (lv_at hl 0 rfl) ?_
  refine lv_bipush (v := 99) hx hb dX8_kind_1 (by decide) ?_
  refine lv_icmp_ne (tgt := 10) hx hb dX8_kind_3 (by decide) (fun b_1 => ?_) (fun b_1 => ?_)
  · refine lv_iload_n hx hb dX8_kind_10 rfl (lv_at hl 0 rfl) ?_
    refine lv_bipush (v := 116) hx hb dX8_kind_11 (by decide) ?_
    refine lv_icmp_ne (tgt := 20) hx hb dX8_kind_13 (by decide) (fun b_2 => ?_) (fun b_2 => ?_)
    · refine lv_iload_n hx hb dX8_kind_20 rfl (lv_at hl 0 rfl) ?_
      refine lv_bipush (v := 108) hx hb dX8_kind_21 (by decide) ?_
      refine lv_icmp_ne (tgt := 30) hx hb dX8_kind_23 (by decide) (fun b_3 => ?_) (fun b_3 => ?_)
      · refine lv_iload_n hx hb dX8_kind_30 rfl (lv_at hl 0 rfl) ?_
        refine lv_bipush (v := 111) hx hb dX8_kind_31 (by decide) ?_
        refine lv_icmp_ne (tgt := 40) hx hb dX8_kind_33 (by decide) (fun b_4 => ?_) (fun b_4 => ?_)
        · refine lv_iconst (v := (-1)) hx hb dX8_kind_40 (by decide) ?_
          exact g_iret C hr hlk hW hS dX8_kind_41 (by exact ⟨(by first | rfl | (simp only [oM_kind, b_1, b_2, b_3, b_4, if_true, if_false]; first | done | rfl)), (by first | rfl | (simp only [oM_kind, b_1, b_2, b_3, b_4, if_true, if_false]; first | done | rfl))⟩)
        · refine lv_iconst (v := 3) hx hb dX8_kind_36 (by decide) ?_
          refine lv_goto (tgt := 41) hx hb dX8_kind_37 (by decide) ?_
          exact g_iret C hr hlk hW hS dX8_kind_41 (by exact ⟨(by first | rfl | (simp only [oM_kind, b_1, b_2, b_3, eq_true b_4, if_true, if_false]; first | done | rfl)), (by first | rfl | (simp only [oM_kind, b_1, b_2, b_3, eq_true b_4, if_true, if_false]; first | done | rfl))⟩)
      · refine lv_iconst (v := 2) hx hb dX8_kind_26 (by decide) ?_
        refine lv_goto (tgt := 41) hx hb dX8_kind_27 (by decide) ?_
        exact g_iret C hr hlk hW hS dX8_kind_41 (by exact ⟨(by first | rfl | (simp only [oM_kind, b_1, b_2, eq_true b_3, if_true, if_false]; first | done | rfl)), (by first | rfl | (simp only [oM_kind, b_1, b_2, eq_true b_3, if_true, if_false]; first | done | rfl))⟩)
    · refine lv_iconst (v := 1) hx hb dX8_kind_16 (by decide) ?_
      refine lv_goto (tgt := 41) hx hb dX8_kind_17 (by decide) ?_
      exact g_iret C hr hlk hW hS dX8_kind_41 (by exact ⟨(by first | rfl | (simp only [oM_kind, b_1, eq_true b_2, if_true, if_false]; first | done | rfl)), (by first | rfl | (simp only [oM_kind, b_1, eq_true b_2, if_true, if_false]; first | done | rfl))⟩)
  · refine lv_iconst (v := 0) hx hb dX8_kind_6 (by decide) ?_
    refine lv_goto (tgt := 41) hx hb dX8_kind_7 (by decide) ?_
    exact g_iret C hr hlk hW hS dX8_kind_41 (by exact ⟨(by first | rfl | (simp only [oM_kind, eq_true b_1, if_true, if_false]; first | done | rfl)), (by first | rfl | (simp only [oM_kind, eq_true b_1, if_true, if_false]; first | done | rfl))⟩)

def oM_held (x : Int32) : Int32 := if 20 ≤ x then (if x ≤ 1500 then x else 1500) else 20
set_option maxHeartbeats 4000000 in
set_option maxRecDepth 100000 in
theorem cX8_held_ok (l : Launch) (G : GT) (X : St) (x : Int32) : MetI l G yX8_held (wsG yX8_held cX8_held 1 (some .int)) (rmz 0 0) [.int x] X (fun res Y => res = oM_held x ∧ Y = X) := by
  refine g_met (cc := cX8_held) (maxL := 1) (ret := (some .int)) (by decide) rfl (Nat.le_of_ble_eq_true rfl) ?_
  intro p e s m below meth c ls C hr hlk hnm hW hl
  have hx := C.1.1
  have hb := C.1.2.1
  have hS : va_S (Ab G) s.heap s.heap [] := va_S.rf
  have hl : lv_has ls 1 [(0, .int x)] := hl
  refine lv_iload_n hx hb dX8_held_0 rfl (lv_at hl 0 rfl) ?_
  refine lv_bipush (v := 20) hx hb dX8_held_1 (by decide) ?_
  refine lv_icmp_ge (tgt := 11) hx hb dX8_held_3 (by decide) (fun b_1 => ?_) (fun b_1 => ?_)
  · refine lv_iload_n hx hb dX8_held_11 rfl (lv_at hl 0 rfl) ?_
    refine lv_sipush (v := 1500) hx hb dX8_held_12 (by decide) ?_
    refine lv_icmp_le (tgt := 24) hx hb dX8_held_15 (by decide) (fun b_2 => ?_) (fun b_2 => ?_)
    · refine lv_iload_n hx hb dX8_held_24 rfl (lv_at hl 0 rfl) ?_
      exact g_iret C hr hlk hW hS dX8_held_25 (by exact ⟨(by first | rfl | (simp only [oM_held, b_1, b_2, if_true, if_false]; first | done | rfl)), (by first | rfl | (simp only [oM_held, b_1, b_2, if_true, if_false]; first | done | rfl))⟩)
    · refine lv_sipush (v := 1500) hx hb dX8_held_18 (by decide) ?_
      refine lv_goto (tgt := 25) hx hb dX8_held_21 (by decide) ?_
      exact g_iret C hr hlk hW hS dX8_held_25 (by exact ⟨(by first | rfl | (simp only [oM_held, b_1, b_2, if_true, if_false]; first | done | rfl)), (by first | rfl | (simp only [oM_held, b_1, b_2, if_true, if_false]; first | done | rfl))⟩)
  · refine lv_bipush (v := 20) hx hb dX8_held_6 (by decide) ?_
    refine lv_goto (tgt := 25) hx hb dX8_held_8 (by decide) ?_
    exact g_iret C hr hlk hW hS dX8_held_25 (by exact ⟨(by first | rfl | (simp only [oM_held, b_1, if_true, if_false]; first | done | rfl)), (by first | rfl | (simp only [oM_held, b_1, if_true, if_false]; first | done | rfl))⟩)

def oM_letter (x : Int32) : Int32 := if x = 0 then 99 else (if x = 1 then 116 else (if x = 2 then 108 else 111))
set_option maxHeartbeats 4000000 in
set_option maxRecDepth 100000 in
theorem cX8_letter_ok (l : Launch) (G : GT) (X : St) (x : Int32) : MetI l G yX8_letter (wsG yX8_letter cX8_letter 1 (some .int)) (rmz 0 0) [.int x] X (fun res Y => res = oM_letter x ∧ Y = X) := by
  refine g_met (cc := cX8_letter) (maxL := 1) (ret := (some .int)) (by decide) rfl (Nat.le_of_ble_eq_true rfl) ?_
  intro p e s m below meth c ls C hr hlk hnm hW hl
  have hx := C.1.1
  have hb := C.1.2.1
  have hS : va_S (Ab G) s.heap s.heap [] := va_S.rf
  have hl : lv_has ls 1 [(0, .int x)] := hl
  refine lv_iload_n hx hb dX8_letter_0 rfl (lv_at hl 0 rfl) ?_
  refine lv_if_ne (tgt := 9) hx hb dX8_letter_1 (by decide) (fun b_1 => ?_) (fun b_1 => ?_)
  · refine lv_iload_n hx hb dX8_letter_9 rfl (lv_at hl 0 rfl) ?_
    refine lv_iconst (v := 1) hx hb dX8_letter_10 (by decide) ?_
    refine lv_icmp_ne (tgt := 19) hx hb dX8_letter_11 (by decide) (fun b_2 => ?_) (fun b_2 => ?_)
    · refine lv_iload_n hx hb dX8_letter_19 rfl (lv_at hl 0 rfl) ?_
      refine lv_iconst (v := 2) hx hb dX8_letter_20 (by decide) ?_
      refine lv_icmp_ne (tgt := 29) hx hb dX8_letter_21 (by decide) (fun b_3 => ?_) (fun b_3 => ?_)
      · refine lv_bipush (v := 111) hx hb dX8_letter_29 (by decide) ?_
        exact g_iret C hr hlk hW hS dX8_letter_31 (by exact ⟨(by first | rfl | (simp only [oM_letter, b_1, b_2, b_3, if_true, if_false]; first | done | rfl)), (by first | rfl | (simp only [oM_letter, b_1, b_2, b_3, if_true, if_false]; first | done | rfl))⟩)
      · refine lv_bipush (v := 108) hx hb dX8_letter_24 (by decide) ?_
        refine lv_goto (tgt := 31) hx hb dX8_letter_26 (by decide) ?_
        exact g_iret C hr hlk hW hS dX8_letter_31 (by exact ⟨(by first | rfl | (simp only [oM_letter, b_1, b_2, eq_true b_3, if_true, if_false]; first | done | rfl)), (by first | rfl | (simp only [oM_letter, b_1, b_2, eq_true b_3, if_true, if_false]; first | done | rfl))⟩)
    · refine lv_bipush (v := 116) hx hb dX8_letter_14 (by decide) ?_
      refine lv_goto (tgt := 31) hx hb dX8_letter_16 (by decide) ?_
      exact g_iret C hr hlk hW hS dX8_letter_31 (by exact ⟨(by first | rfl | (simp only [oM_letter, b_1, eq_true b_2, if_true, if_false]; first | done | rfl)), (by first | rfl | (simp only [oM_letter, b_1, eq_true b_2, if_true, if_false]; first | done | rfl))⟩)
  · refine lv_bipush (v := 99) hx hb dX8_letter_4 (by decide) ?_
    refine lv_goto (tgt := 31) hx hb dX8_letter_6 (by decide) ?_
    exact g_iret C hr hlk hW hS dX8_letter_31 (by exact ⟨(by first | rfl | (simp only [oM_letter, eq_true b_1, if_true, if_false]; first | done | rfl)), (by first | rfl | (simp only [oM_letter, eq_true b_1, if_true, if_false]; first | done | rfl))⟩)

def oM_furnace (x : Int32) : Int32 := 9 + (6 * x)
set_option maxHeartbeats 4000000 in
set_option maxRecDepth 100000 in
theorem cX8_furnace_ok (l : Launch) (G : GT) (X : St) (x : Int32) : MetI l G yX8_furnace (wsG yX8_furnace cX8_furnace 1 (some .int)) (rmz 0 0) [.int x] X (fun res Y => res = oM_furnace x ∧ Y = X) := by
  refine g_met (cc := cX8_furnace) (maxL := 1) (ret := (some .int)) (by decide) rfl (Nat.le_of_ble_eq_true rfl) ?_
  intro p e s m below meth c ls C hr hlk hnm hW hl
  have hx := C.1.1
  have hb := C.1.2.1
  have hS : va_S (Ab G) s.heap s.heap [] := va_S.rf
  have hl : lv_has ls 1 [(0, .int x)] := hl
  refine lv_bipush (v := 9) hx hb dX8_furnace_0 (by decide) ?_
  refine lv_bipush (v := 6) hx hb dX8_furnace_2 (by decide) ?_
  refine lv_iload_n hx hb dX8_furnace_4 rfl (lv_at hl 0 rfl) ?_
  refine lv_imul hx hb dX8_furnace_5 ?_
  refine lv_iadd hx hb dX8_furnace_6 ?_
  exact g_iret C hr hlk hW hS dX8_furnace_7 (by exact ⟨(by first | rfl | (simp only [oM_furnace, if_true, if_false]; first | done | rfl)), (by first | rfl | (simp only [oM_furnace, if_true, if_false]; first | done | rfl))⟩)

def oM_ladle (x : Int32) : Int32 := 27 + (5 * x)
set_option maxHeartbeats 4000000 in
set_option maxRecDepth 100000 in
theorem cX8_ladle_ok (l : Launch) (G : GT) (X : St) (x : Int32) : MetI l G yX8_ladle (wsG yX8_ladle cX8_ladle 1 (some .int)) (rmz 0 0) [.int x] X (fun res Y => res = oM_ladle x ∧ Y = X) := by
  refine g_met (cc := cX8_ladle) (maxL := 1) (ret := (some .int)) (by decide) rfl (Nat.le_of_ble_eq_true rfl) ?_
  intro p e s m below meth c ls C hr hlk hnm hW hl
  have hx := C.1.1
  have hb := C.1.2.1
  have hS : va_S (Ab G) s.heap s.heap [] := va_S.rf
  have hl : lv_has ls 1 [(0, .int x)] := hl
  refine lv_bipush (v := 27) hx hb dX8_ladle_0 (by decide) ?_
  refine lv_iconst (v := 5) hx hb dX8_ladle_2 (by decide) ?_
  refine lv_iload_n hx hb dX8_ladle_3 rfl (lv_at hl 0 rfl) ?_
  refine lv_imul hx hb dX8_ladle_4 ?_
  refine lv_iadd hx hb dX8_ladle_5 ?_
  exact g_iret C hr hlk hW hS dX8_ladle_6 (by exact ⟨(by first | rfl | (simp only [oM_ladle, if_true, if_false]; first | done | rfl)), (by first | rfl | (simp only [oM_ladle, if_true, if_false]; first | done | rfl))⟩)

def oM_mould (x : Int32) : Int32 := 44 + (6 * x)
set_option maxHeartbeats 4000000 in
set_option maxRecDepth 100000 in
theorem cX8_mould_ok (l : Launch) (G : GT) (X : St) (x : Int32) : MetI l G yX8_mould (wsG yX8_mould cX8_mould 1 (some .int)) (rmz 0 0) [.int x] X (fun res Y => res = oM_mould x ∧ Y = X) := by
  refine g_met (cc := cX8_mould) (maxL := 1) (ret := (some .int)) (by decide) rfl (Nat.le_of_ble_eq_true rfl) ?_
  intro p e s m below meth c ls C hr hlk hnm hW hl
  have hx := C.1.1
  have hb := C.1.2.1
  have hS : va_S (Ab G) s.heap s.heap [] := va_S.rf
  have hl : lv_has ls 1 [(0, .int x)] := hl
  refine lv_bipush (v := 44) hx hb dX8_mould_0 (by decide) ?_
  refine lv_bipush (v := 6) hx hb dX8_mould_2 (by decide) ?_
  refine lv_iload_n hx hb dX8_mould_4 rfl (lv_at hl 0 rfl) ?_
  refine lv_imul hx hb dX8_mould_5 ?_
  refine lv_iadd hx hb dX8_mould_6 ?_
  exact g_iret C hr hlk hW hS dX8_mould_7 (by exact ⟨(by first | rfl | (simp only [oM_mould, if_true, if_false]; first | done | rfl)), (by first | rfl | (simp only [oM_mould, if_true, if_false]; first | done | rfl))⟩)

def oM_ingot (x : Int32) : Int32 := 80 + (4 * x)
set_option maxHeartbeats 4000000 in
set_option maxRecDepth 100000 in
theorem cX8_ingot_ok (l : Launch) (G : GT) (X : St) (x : Int32) : MetI l G yX8_ingot (wsG yX8_ingot cX8_ingot 1 (some .int)) (rmz 0 0) [.int x] X (fun res Y => res = oM_ingot x ∧ Y = X) := by
  refine g_met (cc := cX8_ingot) (maxL := 1) (ret := (some .int)) (by decide) rfl (Nat.le_of_ble_eq_true rfl) ?_
  intro p e s m below meth c ls C hr hlk hnm hW hl
  have hx := C.1.1
  have hb := C.1.2.1
  have hS : va_S (Ab G) s.heap s.heap [] := va_S.rf
  have hl : lv_has ls 1 [(0, .int x)] := hl
  refine lv_bipush (v := 80) hx hb dX8_ingot_0 (by decide) ?_
  refine lv_iconst (v := 4) hx hb dX8_ingot_2 (by decide) ?_
  refine lv_iload_n hx hb dX8_ingot_3 rfl (lv_at hl 0 rfl) ?_
  refine lv_imul hx hb dX8_ingot_4 ?_
  refine lv_iadd hx hb dX8_ingot_5 ?_
  exact g_iret C hr hlk hW hS dX8_ingot_6 (by exact ⟨(by first | rfl | (simp only [oM_ingot, if_true, if_false]; first | done | rfl)), (by first | rfl | (simp only [oM_ingot, if_true, if_false]; first | done | rfl))⟩)

def oM_thrown (w15 : Nat → Int32) : Int32 := w15 (0)
set_option maxHeartbeats 4000000 in
set_option maxRecDepth 100000 in
theorem cX8_thrown_ok (l : Launch) (G : GT) (X : St) : MetI l G yX8_thrown (wsG yX8_thrown cX8_thrown 1 (some .int)) (rmz 0 0) [.ref (ad G 723)] X (fun res Y => res = oM_thrown (X.1 15) ∧ Y = X) := by
  refine g_met (cc := cX8_thrown) (maxL := 1) (ret := (some .int)) (by decide) rfl (Nat.le_of_ble_eq_true rfl) ?_
  intro p e s m below meth c ls C hr hlk hnm hW hl
  have hx := C.1.1
  have hb := C.1.2.1
  have hS : va_S (Ab G) s.heap s.heap [] := va_S.rf
  have hl : lv_has ls 1 [(0, .ref (ad G 723))] := hl
  refine lv_aload_n hx hb dX8_thrown_0 rfl (lv_at hl 0 rfl) ?_
  refine gM_thrown C hW (hwc hwX8) (mc qw_1476) dX8_thrown_1 ?_
  exact g_iret C hr hlk hW hS dX8_thrown_4 (by exact ⟨(by first | rfl | (simp only [oM_thrown, if_true, if_false]; first | done | rfl)), (by first | rfl | (simp only [oM_thrown, if_true, if_false]; first | done | rfl))⟩)

def oM_fail (w15 : Nat → Int32) (x : Int32) : Int32 × (Nat → Int32) := (0, (upd (w15) (0) x))
set_option maxHeartbeats 4000000 in
set_option maxRecDepth 100000 in
theorem cX8_fail_ok (l : Launch) (G : GT) (X : St) (x : Int32) : MetI l G yX8_fail (wsG yX8_fail cX8_fail 2 (some .int)) (rmz 0 0) [.ref (ad G 723), .int x] X (fun res Y => res = (oM_fail (X.1 15) x).1 ∧ Y = setRow (X) 15 ((oM_fail (X.1 15) x).2)) := by
  refine g_met (cc := cX8_fail) (maxL := 2) (ret := (some .int)) (by decide) rfl (Nat.le_of_ble_eq_true rfl) ?_
  intro p e s m below meth c ls C hr hlk hnm hW hl
  have hx := C.1.1
  have hb := C.1.2.1
  have hS : va_S (Ab G) s.heap s.heap [] := va_S.rf
  have hl : lv_has ls 2 [(0, .ref (ad G 723)), (1, .int x)] := hl
  have hW : Wd G (setRow (X) 15 (X.1 15)) s.heap := Wd.cast ((sr_same (X := X) (r := 15) rfl)).symm hW
  refine lv_aload_n hx hb dX8_fail_0 rfl (lv_at hl 0 rfl) ?_
  refine lv_iload_n hx hb dX8_fail_1 rfl (lv_at hl 1 rfl) ?_
  refine gM_thrownP C hW hS (hwc hwX8) (mc qw_1476) dX8_fail_2 (fun H_1 locs_2 hW_3 hS_4 => ?_)
  obtain ⟨w_5, ew_5⟩ : ∃ Z9, Z9 = upd (X.1 15) (0) x := ⟨_, rfl⟩
  have hW_6 : Wd G (setRow X 15 w_5) H_1 := Wd.cast (by rw [ew_5]; exact st_out) hW_3
  refine lv_iconst (v := 0) hx hb dX8_fail_5 (by decide) ?_
  exact g_iret C hr hlk hW_6 hS_4 dX8_fail_6 (by subst ew_5; exact ⟨(by first | rfl | (simp only [oM_fail, if_true, if_false]; first | done | rfl)), (by first | rfl | (simp only [oM_fail, if_true, if_false]; first | done | rfl))⟩)

def oM_isMould (w16 : Nat → Int32) (x : Int32) : Int32 := oM_isIn x 0 ((w16 (42)) - 1)
set_option maxHeartbeats 4000000 in
set_option maxRecDepth 100000 in
theorem cX8_isMould_ok (l : Launch) (G : GT) (X : St) (x : Int32) : MetI l G yX8_isMould (wsG yX8_isMould cX8_isMould 2 (some .boolean)) (rmz 1 22) [.ref (ad G 723), .int x] X (fun res Y => res = oM_isMould (X.1 16) x ∧ Y = X) := by
  refine g_met (cc := cX8_isMould) (maxL := 2) (ret := (some .boolean)) (by decide) rfl (Nat.le_of_ble_eq_true rfl) ?_
  intro p e s m below meth c ls C hr hlk hnm hW hl
  have hx := C.1.1
  have hb := C.1.2.1
  have hS : va_S (Ab G) s.heap s.heap [] := va_S.rf
  have hl : lv_has ls 2 [(0, .ref (ad G 723)), (1, .int x)] := hl
  refine lv_iload_n hx hb dX8_isMould_0 rfl (lv_at hl 1 rfl) ?_
  refine lv_iconst (v := 0) hx hb dX8_isMould_1 (by decide) ?_
  refine lv_aload_n hx hb dX8_isMould_2 rfl (lv_at hl 0 rfl) ?_
  refine gM_v C hW (hwc hwX8) (mc qw_1481) dX8_isMould_3 ?_
  refine lv_bipush (v := 42) hx hb dX8_isMould_6 (by decide) ?_
  refine gm_vld C hW 42 (by decide) (vlit (by decide)) dX8_isMould_8 ?_
  refine lv_iconst (v := 1) hx hb dX8_isMould_9 (by decide) ?_
  refine lv_isub hx hb dX8_isMould_10 ?_
  refine g_calli (va_runS (As := [.int x, .int 0, .int ((X.1 16 (42)) - 1)]) (rest := []) C.1 (cX8_isIn_ok l G X x 0 ((X.1 16 (42)) - 1)) (va_cwS 3 C.1.2.2.2.2 (gS qw_1568 qw_1569 qw_81 qw_1570) rfl rfl rfl (by decide +kernel) ⟨Nat.le_of_ble_eq_true rfl, Nat.le_of_ble_eq_true rfl⟩) (g_pre C hW hS [.int x, .int 0, .int ((X.1 16 (42)) - 1)]) rfl rfl hl.1 rfl (lv_room (Nat.le_of_ble_eq_true rfl)) dX8_isMould_11 ⟨Nat.zero_le _, Nat.zero_le _⟩) hS (fun r_2 Y_3 H_4 locs_5 hW_6 hS_7 h_1 => ?_)
  obtain ⟨h_1, hy_8⟩ := h_1
  replace hy_8 := hy_8.symm
  subst hy_8
  replace h_1 : r_2 = oM_isIn x 0 ((X.1 16 (42)) - 1) := h_1
  subst h_1
  exact g_zret C hr hlk hW_6 hS_7 dX8_isMould_14 (nar_isIn _ _ _) (by exact ⟨(by first | rfl | (simp only [oM_isMould, if_true, if_false]; first | done | rfl)), (by first | rfl | (simp only [oM_isMould, if_true, if_false]; first | done | rfl))⟩)

def oM_isIngot (w16 : Nat → Int32) (x : Int32) : Int32 := oM_isIn x 0 ((w16 (43)) - 1)
set_option maxHeartbeats 4000000 in
set_option maxRecDepth 100000 in
theorem cX8_isIngot_ok (l : Launch) (G : GT) (X : St) (x : Int32) : MetI l G yX8_isIngot (wsG yX8_isIngot cX8_isIngot 2 (some .boolean)) (rmz 1 22) [.ref (ad G 723), .int x] X (fun res Y => res = oM_isIngot (X.1 16) x ∧ Y = X) := by
  refine g_met (cc := cX8_isIngot) (maxL := 2) (ret := (some .boolean)) (by decide) rfl (Nat.le_of_ble_eq_true rfl) ?_
  intro p e s m below meth c ls C hr hlk hnm hW hl
  have hx := C.1.1
  have hb := C.1.2.1
  have hS : va_S (Ab G) s.heap s.heap [] := va_S.rf
  have hl : lv_has ls 2 [(0, .ref (ad G 723)), (1, .int x)] := hl
  refine lv_iload_n hx hb dX8_isIngot_0 rfl (lv_at hl 1 rfl) ?_
  refine lv_iconst (v := 0) hx hb dX8_isIngot_1 (by decide) ?_
  refine lv_aload_n hx hb dX8_isIngot_2 rfl (lv_at hl 0 rfl) ?_
  refine gM_v C hW (hwc hwX8) (mc qw_1481) dX8_isIngot_3 ?_
  refine lv_bipush (v := 43) hx hb dX8_isIngot_6 (by decide) ?_
  refine gm_vld C hW 43 (by decide) (vlit (by decide)) dX8_isIngot_8 ?_
  refine lv_iconst (v := 1) hx hb dX8_isIngot_9 (by decide) ?_
  refine lv_isub hx hb dX8_isIngot_10 ?_
  refine g_calli (va_runS (As := [.int x, .int 0, .int ((X.1 16 (43)) - 1)]) (rest := []) C.1 (cX8_isIn_ok l G X x 0 ((X.1 16 (43)) - 1)) (va_cwS 3 C.1.2.2.2.2 (gS qw_1568 qw_1569 qw_81 qw_1570) rfl rfl rfl (by decide +kernel) ⟨Nat.le_of_ble_eq_true rfl, Nat.le_of_ble_eq_true rfl⟩) (g_pre C hW hS [.int x, .int 0, .int ((X.1 16 (43)) - 1)]) rfl rfl hl.1 rfl (lv_room (Nat.le_of_ble_eq_true rfl)) dX8_isIngot_11 ⟨Nat.zero_le _, Nat.zero_le _⟩) hS (fun r_2 Y_3 H_4 locs_5 hW_6 hS_7 h_1 => ?_)
  obtain ⟨h_1, hy_8⟩ := h_1
  replace hy_8 := hy_8.symm
  subst hy_8
  replace h_1 : r_2 = oM_isIn x 0 ((X.1 16 (43)) - 1) := h_1
  subst h_1
  exact g_zret C hr hlk hW_6 hS_7 dX8_isIngot_14 (nar_isIn _ _ _) (by exact ⟨(by first | rfl | (simp only [oM_isIngot, if_true, if_false]; first | done | rfl)), (by first | rfl | (simp only [oM_isIngot, if_true, if_false]; first | done | rfl))⟩)

def oM_mass (w16 : Nat → Int32) (i : Nat) : Int32 := (((w16 (i)) + (w16 (i + 1))) + (w16 (i + 2))) + (w16 (i + 3))
set_option maxHeartbeats 4000000 in
set_option maxRecDepth 100000 in
theorem cX8_mass_ok (l : Launch) (G : GT) (X : St) (i : Nat) (hi : i + 4 ≤ 128) : MetI l G yX8_mass (wsG yX8_mass cX8_mass 2 (some .int)) (rmz 0 0) [.ref (ad G 723), .int (nI i)] X (fun res Y => res = oM_mass (X.1 16) i ∧ Y = X) := by
  refine g_met (cc := cX8_mass) (maxL := 2) (ret := (some .int)) (by decide) rfl (Nat.le_of_ble_eq_true rfl) ?_
  intro p e s m below meth c ls C hr hlk hnm hW hl
  have hx := C.1.1
  have hb := C.1.2.1
  have hS : va_S (Ab G) s.heap s.heap [] := va_S.rf
  have hl : lv_has ls 2 [(0, .ref (ad G 723)), (1, .int (nI i))] := hl
  refine lv_aload_n hx hb dX8_mass_0 rfl (lv_at hl 0 rfl) ?_
  refine gM_v C hW (hwc hwX8) (mc qw_1481) dX8_mass_1 ?_
  refine lv_iload_n hx hb dX8_mass_4 rfl (lv_at hl 1 rfl) ?_
  refine gm_vld C hW i (nI_clamp (by omega)) (vp_in_nI (show i < 128 by omega) (by decide)) dX8_mass_5 ?_
  refine lv_aload_n hx hb dX8_mass_6 rfl (lv_at hl 0 rfl) ?_
  refine gM_v C hW (hwc hwX8) (mc qw_1481) dX8_mass_7 ?_
  refine lv_iload_n hx hb dX8_mass_10 rfl (lv_at hl 1 rfl) ?_
  refine lv_iconst (v := 1) hx hb dX8_mass_11 (by decide) ?_
  refine lv_iadd hx hb dX8_mass_12 ?_
  refine g_top (y := nI (i + 1)) (nI_add i 1) ?_
  refine gm_vld C hW (i + 1) (nI_clamp (by omega)) (vp_in_nI (show i + 1 < 128 by omega) (by decide)) dX8_mass_13 ?_
  refine lv_iadd hx hb dX8_mass_14 ?_
  refine lv_aload_n hx hb dX8_mass_15 rfl (lv_at hl 0 rfl) ?_
  refine gM_v C hW (hwc hwX8) (mc qw_1481) dX8_mass_16 ?_
  refine lv_iload_n hx hb dX8_mass_19 rfl (lv_at hl 1 rfl) ?_
  refine lv_iconst (v := 2) hx hb dX8_mass_20 (by decide) ?_
  refine lv_iadd hx hb dX8_mass_21 ?_
  refine g_top (y := nI (i + 2)) (nI_add i 2) ?_
  refine gm_vld C hW (i + 2) (nI_clamp (by omega)) (vp_in_nI (show i + 2 < 128 by omega) (by decide)) dX8_mass_22 ?_
  refine lv_iadd hx hb dX8_mass_23 ?_
  refine lv_aload_n hx hb dX8_mass_24 rfl (lv_at hl 0 rfl) ?_
  refine gM_v C hW (hwc hwX8) (mc qw_1481) dX8_mass_25 ?_
  refine lv_iload_n hx hb dX8_mass_28 rfl (lv_at hl 1 rfl) ?_
  refine lv_iconst (v := 3) hx hb dX8_mass_29 (by decide) ?_
  refine lv_iadd hx hb dX8_mass_30 ?_
  refine g_top (y := nI (i + 3)) (nI_add i 3) ?_
  refine gm_vld C hW (i + 3) (nI_clamp (by omega)) (vp_in_nI (show i + 3 < 128 by omega) (by decide)) dX8_mass_31 ?_
  refine lv_iadd hx hb dX8_mass_32 ?_
  exact g_iret C hr hlk hW hS dX8_mass_33 (by exact ⟨(by first | rfl | (simp only [oM_mass, if_true, if_false]; first | done | rfl)), (by first | rfl | (simp only [oM_mass, if_true, if_false]; first | done | rfl))⟩)

def oM_partMass (w20 : Nat → Int32) : Int32 := (((w20 (0)) + (w20 (1))) + (w20 (2))) + (w20 (3))
set_option maxHeartbeats 4000000 in
set_option maxRecDepth 100000 in
theorem cX8_partMass_ok (l : Launch) (G : GT) (X : St) : MetI l G yX8_partMass (wsG yX8_partMass cX8_partMass 1 (some .int)) (rmz 0 0) [.ref (ad G 723)] X (fun res Y => res = oM_partMass (X.1 20) ∧ Y = X) := by
  refine g_met (cc := cX8_partMass) (maxL := 1) (ret := (some .int)) (by decide) rfl (Nat.le_of_ble_eq_true rfl) ?_
  intro p e s m below meth c ls C hr hlk hnm hW hl
  have hx := C.1.1
  have hb := C.1.2.1
  have hS : va_S (Ab G) s.heap s.heap [] := va_S.rf
  have hl : lv_has ls 1 [(0, .ref (ad G 723))] := hl
  refine lv_aload_n hx hb dX8_partMass_0 rfl (lv_at hl 0 rfl) ?_
  refine gM_part C hW (hwc hwX8) (mc qw_1485) dX8_partMass_1 ?_
  refine lv_iconst (v := 0) hx hb dX8_partMass_4 (by decide) ?_
  refine gm_partld C hW 0 (by decide) (vlit (by decide)) dX8_partMass_5 ?_
  refine lv_aload_n hx hb dX8_partMass_6 rfl (lv_at hl 0 rfl) ?_
  refine gM_part C hW (hwc hwX8) (mc qw_1485) dX8_partMass_7 ?_
  refine lv_iconst (v := 1) hx hb dX8_partMass_10 (by decide) ?_
  refine gm_partld C hW 1 (by decide) (vlit (by decide)) dX8_partMass_11 ?_
  refine lv_iadd hx hb dX8_partMass_12 ?_
  refine lv_aload_n hx hb dX8_partMass_13 rfl (lv_at hl 0 rfl) ?_
  refine gM_part C hW (hwc hwX8) (mc qw_1485) dX8_partMass_14 ?_
  refine lv_iconst (v := 2) hx hb dX8_partMass_17 (by decide) ?_
  refine gm_partld C hW 2 (by decide) (vlit (by decide)) dX8_partMass_18 ?_
  refine lv_iadd hx hb dX8_partMass_19 ?_
  refine lv_aload_n hx hb dX8_partMass_20 rfl (lv_at hl 0 rfl) ?_
  refine gM_part C hW (hwc hwX8) (mc qw_1485) dX8_partMass_21 ?_
  refine lv_iconst (v := 3) hx hb dX8_partMass_24 (by decide) ?_
  refine gm_partld C hW 3 (by decide) (vlit (by decide)) dX8_partMass_25 ?_
  refine lv_iadd hx hb dX8_partMass_26 ?_
  exact g_iret C hr hlk hW hS dX8_partMass_27 (by exact ⟨(by first | rfl | (simp only [oM_partMass, if_true, if_false]; first | done | rfl)), (by first | rfl | (simp only [oM_partMass, if_true, if_false]; first | done | rfl))⟩)

theorem at_furnace (f : Nat) : oM_furnace (nI f) = nI (9 + 6 * f) := by
  show (9 : Int32) + 6 * nI f = _
  rw [show (6 : Int32) * nI f = nI (6 * f) from pk_mul 6 f]
  exact nI_add 9 (6 * f)
theorem at_ladle (f : Nat) : oM_ladle (nI f) = nI (27 + 5 * f) := by
  show (27 : Int32) + 5 * nI f = _
  rw [show (5 : Int32) * nI f = nI (5 * f) from pk_mul 5 f]
  exact nI_add 27 (5 * f)
theorem at_mould (f : Nat) : oM_mould (nI f) = nI (44 + 6 * f) := by
  show (44 : Int32) + 6 * nI f = _
  rw [show (6 : Int32) * nI f = nI (6 * f) from pk_mul 6 f]
  exact nI_add 44 (6 * f)
theorem at_ingot (f : Nat) : oM_ingot (nI f) = nI (80 + 4 * f) := by
  show (80 : Int32) + 4 * nI f = _
  rw [show (4 : Int32) * nI f = nI (4 * f) from pk_mul 4 f]
  exact nI_add 80 (4 * f)
theorem in_nat {x y : Int32} {n : Nat} (hn : n < 2 ^ 31) (hy : y = nI n - 1) (h : ¬ oM_isIn x 0 y = 0) : ∃ f, f < n ∧ x = nI f := by
  subst hy
  unfold oM_isIn at h
  by_cases h1 : x < 0
  · rw [if_pos h1] at h
    exact absurd rfl h
  · rw [if_neg h1] at h
    by_cases h2 : nI n - 1 < x
    · rw [if_pos h2] at h
      exact absurd rfl h
    · obtain ⟨j, hj, rfl⟩ := nI_of h1
      refine ⟨j, ?_, rfl⟩
      rcases Nat.eq_zero_or_pos n with h0 | h0
      · subst h0
        exfalso
        apply h2
        rw [Int32.lt_iff_toInt_lt, nI_toInt hj]
        have : (nI 0 - 1).toInt = -1 := by decide
        omega
      · rw [show nI n - 1 = nI (n - 1) from pk_sub (a := n) (b := 1) h0] at h2
        have : ¬ n - 1 < j := fun z => h2 ((nI_ltI (by omega) hj).mpr z)
        omega
theorem three_in {x : Int32} (h : ¬ oM_isThree x = 0) : ∃ f, f < 3 ∧ x = nI f := in_nat (n := 3) (by decide) (by decide) h
theorem count_in {x : Int32} {w : Nat → Int32} {i n : Nat} (hn : n < 2 ^ 31) (hw : w i = nI n) (h : ¬ oM_isIn x 0 (w i - 1) = 0) : ∃ f, f < n ∧ x = nI f := in_nat hn (by rw [hw]) h
