/-! Handles: what is known of an object by its number, in every state; and the rows over handles. -/
def Mix (G : GT) (k a r i : Nat) : Prop := (k < NK ∧ k ≠ 737) ∧ (a < NK ∧ a ≠ 737) ∧ (∀ Y, cell G Y k = mixO G a) ∧ (∀ Y, cell G Y a = iarr G 4 (fun j => Y.1 r (i + j))) ∧ ∀ j, j < 4 → ow r (i + j) = a
def Ves (G : GT) (k kc a r i : Nat) (L : Int32) : Prop := (k < NK ∧ k ≠ 737) ∧ (∀ Y, cell G Y k = vesO G kc L (Y.1 r (i + 4))) ∧ ow r (i + 4) = k ∧ Mix G kc a r i
theorem lt3 {f : Nat} (h : f < 3) : f = 0 ∨ f = 1 ∨ f = 2 := by omega
theorem lt4 {f : Nat} (h : f < 4) : f = 0 ∨ f = 1 ∨ f = 2 ∨ f = 3 := by omega
theorem lt6 {f : Nat} (h : f < 6) : f = 0 ∨ f = 1 ∨ f = 2 ∨ f = 3 ∨ f = 4 ∨ f = 5 := by omega
theorem lt12 {f : Nat} (h : f < 12) : f = 0 ∨ f = 1 ∨ f = 2 ∨ f = 3 ∨ f = 4 ∨ f = 5 ∨ f = 6 ∨ f = 7 ∨ f = 8 ∨ f = 9 ∨ f = 10 ∨ f = 11 := by omega
theorem nk_p {p o : Nat} (hp : p < 11) (ho : o < 65) : 65 * p + o < NK ∧ 65 * p + o ≠ 737 := by
  unfold NK
  omega
theorem mix_chg {G : GT} {p : Nat} (hp : p < 11) : Mix G (65 * p + 7) (65 * p + 8) p 1 :=
  ⟨nk_p hp (by decide), nk_p hp (by decide), fun Y => cell_p hp (by decide), fun Y => cell_p hp (by decide), fun j hj => (ow_p hp _).trans (by rcases lt4 hj with rfl | rfl | rfl | rfl <;> rfl)⟩
theorem mix_slag {G : GT} {p : Nat} (hp : p < 11) : Mix G (65 * p + 9) (65 * p + 10) p 5 :=
  ⟨nk_p hp (by decide), nk_p hp (by decide), fun Y => cell_p hp (by decide), fun Y => cell_p hp (by decide), fun j hj => (ow_p hp _).trans (by rcases lt4 hj with rfl | rfl | rfl | rfl <;> rfl)⟩
theorem mix_mou {G : GT} {p f : Nat} (hp : p < 11) (hf : f < 6) : Mix G (65 * p + (29 + 2 * f)) (65 * p + (30 + 2 * f)) p (44 + 6 * f) := by
  refine ⟨nk_p hp (by omega), nk_p hp (by omega), fun Y => (cell_p hp (by omega)).trans ?_, fun Y => (cell_p hp (by omega)).trans ?_, fun j hj => (ow_p hp _).trans ?_⟩
  · rcases lt6 hf with rfl | rfl | rfl | rfl | rfl | rfl <;> rfl
  · rcases lt6 hf with rfl | rfl | rfl | rfl | rfl | rfl <;> rfl
  · rcases lt6 hf with rfl | rfl | rfl | rfl | rfl | rfl <;> rcases lt4 hj with rfl | rfl | rfl | rfl <;> rfl
theorem mix_ing {G : GT} {p f : Nat} (hp : p < 11) (hf : f < 12) : Mix G (65 * p + (41 + 2 * f)) (65 * p + (42 + 2 * f)) p (80 + 4 * f) := by
  refine ⟨nk_p hp (by omega), nk_p hp (by omega), fun Y => (cell_p hp (by omega)).trans ?_, fun Y => (cell_p hp (by omega)).trans ?_, fun j hj => (ow_p hp _).trans ?_⟩
  · rcases lt12 hf with rfl | rfl | rfl | rfl | rfl | rfl | rfl | rfl | rfl | rfl | rfl | rfl <;> rfl
  · rcases lt12 hf with rfl | rfl | rfl | rfl | rfl | rfl | rfl | rfl | rfl | rfl | rfl | rfl <;> rfl
  · rcases lt12 hf with rfl | rfl | rfl | rfl | rfl | rfl | rfl | rfl | rfl | rfl | rfl | rfl <;> rcases lt4 hj with rfl | rfl | rfl | rfl <;> rfl
theorem ves_fur {G : GT} {p f : Nat} (hp : p < 11) (hf : f < 3) : Ves G (65 * p + (11 + 3 * f)) (65 * p + (12 + 3 * f)) (65 * p + (13 + 3 * f)) p (9 + 6 * f) 10 := by
  refine ⟨nk_p hp (by omega), fun Y => (cell_p hp (by omega)).trans ?_, (ow_p hp _).trans ?_, nk_p hp (by omega), nk_p hp (by omega), fun Y => (cell_p hp (by omega)).trans ?_, fun Y => (cell_p hp (by omega)).trans ?_, fun j hj => (ow_p hp _).trans ?_⟩
  · rcases lt3 hf with rfl | rfl | rfl <;> rfl
  · rcases lt3 hf with rfl | rfl | rfl <;> rfl
  · rcases lt3 hf with rfl | rfl | rfl <;> rfl
  · rcases lt3 hf with rfl | rfl | rfl <;> rfl
  · rcases lt3 hf with rfl | rfl | rfl <;> rcases lt4 hj with rfl | rfl | rfl | rfl <;> rfl
theorem ves_lad {G : GT} {p f : Nat} (hp : p < 11) (hf : f < 3) : Ves G (65 * p + (20 + 3 * f)) (65 * p + (21 + 3 * f)) (65 * p + (22 + 3 * f)) p (27 + 5 * f) 0 := by
  refine ⟨nk_p hp (by omega), fun Y => (cell_p hp (by omega)).trans ?_, (ow_p hp _).trans ?_, nk_p hp (by omega), nk_p hp (by omega), fun Y => (cell_p hp (by omega)).trans ?_, fun Y => (cell_p hp (by omega)).trans ?_, fun j hj => (ow_p hp _).trans ?_⟩
  · rcases lt3 hf with rfl | rfl | rfl <;> rfl
  · rcases lt3 hf with rfl | rfl | rfl <;> rfl
  · rcases lt3 hf with rfl | rfl | rfl <;> rfl
  · rcases lt3 hf with rfl | rfl | rfl <;> rfl
  · rcases lt3 hf with rfl | rfl | rfl <;> rcases lt4 hj with rfl | rfl | rfl | rfl <;> rfl
theorem Ves.mix {G : GT} {k kc a r i : Nat} {L : Int32} (h : Ves G k kc a r i L) : Mix G kc a r i := h.2.2.2
section GH
variable {p : Program} {l : Launch} {e : Env} {R : Room} {s : State} {m : MethodId} {args : Array Value} {below : List Frame} {meth : Method} {c : Code} {H : Heap} {locs : List Loc} {cells slots : Nat} {Q : State → Prop}
variable {cc : ByteArray} {nL pc : Nat} {ls : Array Slot} {rest : List Value} {G : GT} {X : St} {Ts : List Cond} {own : String} {k kc a r i : Nat} {L : Int32}
theorem g_masses (C : Cx p m c cc nL s args Ts own G) (hW : Wd G X H) (hm : Mix G k a r i) {index : Nat} (hin : ∀ w ∈ u_ws RX3 TX3 1, w ∈ Ts) (hlink : Cond.fieldLink own index "Foundry$Mixture" "masses" "[I" ∈ Ts) (hdg : decode cc pc = .ok (.getfield index, 3))
    (kk : W p l e R s m args below meth c H locs cells slots Q (F0 m (pc + 3) ls (.ref (ad G a) :: rest))) : W p l e R s m args below meth c H locs cells slots Q (F0 m pc ls (.ref (ad G k) :: rest)) :=
  g_get C hW (T := TX3) (ci := 5) hin hm.1.1 hm.1.2 (hm.2.2.1 X) rfl 0 (by decide) hlink rfl hdg kk
theorem g_massesN (C : Cx p m c cc nL s args Ts own G) (hW : Wd G X H) (hm : Mix G k a r i) {index : Nat} (hin : ∀ w ∈ u_ws RX3 TX3 1, w ∈ Ts) (hlink : Cond.fieldLinkNest own index "Foundry$Mixture" "masses" "[I" "Foundry" ∈ nestWs) (hdg : decode cc pc = .ok (.getfield index, 3))
    (kk : W p l e R s m args below meth c H locs cells slots Q (F0 m (pc + 3) ls (.ref (ad G a) :: rest))) : W p l e R s m args below meth c H locs cells slots Q (F0 m pc ls (.ref (ad G k) :: rest)) :=
  g_getN C hW (T := TX3) (ci := 5) hin hm.1.1 hm.1.2 (hm.2.2.1 X) rfl 0 (by decide) hlink rfl hdg kk
theorem g_mld (C : Cx p m c cc nL s args Ts own G) (hW : Wd G X H) (hm : Mix G k a r i) {x : Int32} (j : Nat) (hx : x.toNatClampNeg = j) (hin : vp_in x 4) (hdg : decode cc pc = .ok (.iaload, 1))
    (kk : W p l e R s m args below meth c H locs cells slots Q (F0 m (pc + 1) ls (.int (X.1 r (i + j)) :: rest))) : W p l e R s m args below meth c H locs cells slots Q (F0 m pc ls (.int x :: .ref (ad G a) :: rest)) :=
  g_ild C hW hm.2.1.1 hm.2.1.2 (hm.2.2.2.1 X) j hx hin rfl hdg kk
theorem g_mst (C : Cx p m c cc nL s args Ts own G) (hW : Wd G X H) (hS : va_S (Ab G) s.heap H locs) (hm : Mix G k a r i) {x v : Int32} (j : Nat) (hx : x.toNatClampNeg = j) (hin : vp_in x 4) (hdg : decode cc pc = .ok (.iastore, 1))
    (kk : ∀ (H1 : Heap) (locs1 : List Loc), Wd G (sup X r (i + j) v) H1 → va_S (Ab G) s.heap H1 locs1 → W p l e R s m args below meth c H1 locs1 cells slots Q (F0 m (pc + 1) ls rest)) : W p l e R s m args below meth c H locs cells slots Q (F0 m pc ls (.int v :: .int x :: .ref (ad G a) :: rest)) :=
  g_ist C hW hS hm.2.1.1 hm.2.1.2 r (ix := fun j => i + j) hm.2.2.2.1 j hx hin (fun q _ h => Nat.add_left_cancel h) (hm.2.2.2.2 j (by rw [← hx]; exact Nat.not_le.mp fun q => hin (Or.inr q))) _ rfl hdg kk
theorem g_content (C : Cx p m c cc nL s args Ts own G) (hW : Wd G X H) (hv : Ves G k kc a r i L) {index : Nat} (hin : ∀ w ∈ u_ws RX6 TX6 3, w ∈ Ts) (hlink : Cond.fieldLink own index "Foundry$Vessel" "content" "LFoundry$Mixture;" ∈ Ts) (hdg : decode cc pc = .ok (.getfield index, 3))
    (kk : W p l e R s m args below meth c H locs cells slots Q (F0 m (pc + 3) ls (.ref (ad G kc) :: rest))) : W p l e R s m args below meth c H locs cells slots Q (F0 m pc ls (.ref (ad G k) :: rest)) :=
  g_get C hW (T := TX6) (ci := 8) hin hv.1.1 hv.1.2 (hv.2.1 X) rfl 0 (by decide) hlink rfl hdg kk
theorem g_contentN (C : Cx p m c cc nL s args Ts own G) (hW : Wd G X H) (hv : Ves G k kc a r i L) {index : Nat} (hin : ∀ w ∈ u_ws RX6 TX6 3, w ∈ Ts) (hlink : Cond.fieldLinkNest own index "Foundry$Vessel" "content" "LFoundry$Mixture;" "Foundry" ∈ nestWs) (hdg : decode cc pc = .ok (.getfield index, 3))
    (kk : W p l e R s m args below meth c H locs cells slots Q (F0 m (pc + 3) ls (.ref (ad G kc) :: rest))) : W p l e R s m args below meth c H locs cells slots Q (F0 m pc ls (.ref (ad G k) :: rest)) :=
  g_getN C hW (T := TX6) (ci := 8) hin hv.1.1 hv.1.2 (hv.2.1 X) rfl 0 (by decide) hlink rfl hdg kk
theorem g_lining (C : Cx p m c cc nL s args Ts own G) (hW : Wd G X H) (hv : Ves G k kc a r i L) {index : Nat} (hin : ∀ w ∈ u_ws RX6 TX6 3, w ∈ Ts) (hlink : Cond.fieldLink own index "Foundry$Vessel" "lining" "I" ∈ Ts) (hdg : decode cc pc = .ok (.getfield index, 3))
    (kk : W p l e R s m args below meth c H locs cells slots Q (F0 m (pc + 3) ls (.int L :: rest))) : W p l e R s m args below meth c H locs cells slots Q (F0 m pc ls (.ref (ad G k) :: rest)) :=
  g_get C hW (T := TX6) (ci := 8) hin hv.1.1 hv.1.2 (hv.2.1 X) rfl 1 (by decide) hlink rfl hdg kk
theorem g_temp (C : Cx p m c cc nL s args Ts own G) (hW : Wd G X H) (hv : Ves G k kc a r i L) {index : Nat} (hin : ∀ w ∈ u_ws RX6 TX6 3, w ∈ Ts) (hlink : Cond.fieldLink own index "Foundry$Vessel" "temperature" "I" ∈ Ts) (hdg : decode cc pc = .ok (.getfield index, 3))
    (kk : W p l e R s m args below meth c H locs cells slots Q (F0 m (pc + 3) ls (.int (X.1 r (i + 4)) :: rest))) : W p l e R s m args below meth c H locs cells slots Q (F0 m pc ls (.ref (ad G k) :: rest)) :=
  g_get C hW (T := TX6) (ci := 8) hin hv.1.1 hv.1.2 (hv.2.1 X) rfl 2 (by decide) hlink rfl hdg kk
theorem g_tempN (C : Cx p m c cc nL s args Ts own G) (hW : Wd G X H) (hv : Ves G k kc a r i L) {index : Nat} (hin : ∀ w ∈ u_ws RX6 TX6 3, w ∈ Ts) (hlink : Cond.fieldLinkNest own index "Foundry$Vessel" "temperature" "I" "Foundry" ∈ nestWs) (hdg : decode cc pc = .ok (.getfield index, 3))
    (kk : W p l e R s m args below meth c H locs cells slots Q (F0 m (pc + 3) ls (.int (X.1 r (i + 4)) :: rest))) : W p l e R s m args below meth c H locs cells slots Q (F0 m pc ls (.ref (ad G k) :: rest)) :=
  g_getN C hW (T := TX6) (ci := 8) hin hv.1.1 hv.1.2 (hv.2.1 X) rfl 2 (by decide) hlink rfl hdg kk
theorem g_tempP (C : Cx p m c cc nL s args Ts own G) (hW : Wd G X H) (hS : va_S (Ab G) s.heap H locs) (hv : Ves G k kc a r i L) {index : Nat} (hin : ∀ w ∈ u_ws RX6 TX6 3, w ∈ Ts) (hlink : Cond.fieldLink own index "Foundry$Vessel" "temperature" "I" ∈ Ts) {v : Int32} (hdg : decode cc pc = .ok (.putfield index, 3))
    (kk : ∀ (H1 : Heap) (locs1 : List Loc), Wd G (sup X r (i + 4) v) H1 → va_S (Ab G) s.heap H1 locs1 → W p l e R s m args below meth c H1 locs1 cells slots Q (F0 m (pc + 3) ls rest)) : W p l e R s m args below meth c H locs cells slots Q (F0 m pc ls (.int v :: .ref (ad G k) :: rest)) :=
  g_put C hW hS (T := TX6) (ci := 8) hin tyX6_ok nmX6 hv.1.1 hv.1.2 (hv.2.1 X) rfl 2 (by decide) hlink rfl (ty := .int) (by decide +kernel) rfl rfl (Nat.le_of_ble_eq_true rfl) r (i + 4) hv.2.2.1 (by rw [hv.2.1, show (sup X r (i + 4) v).1 r (i + 4) = v from up2_same _ _ _ _]; rfl) hdg kk
/-- the receiver of a call -/
theorem g_rMix (C : Cx p m c cc nL s args Ts own G) (hW : Wd G X H) (hS : va_S (Ab G) s.heap H locs) (hm : Mix G k a r i) (As : List Value) : PreV s H RX3 (ad G k) (Kp G (.ref (ad G k) :: As) X) As :=
  g_preV C hW hS hm.1.1 hm.1.2 (hm.2.2.1 X) (ci := 5) (T := TX3) (N := 1) rfl As
theorem g_rVes (C : Cx p m c cc nL s args Ts own G) (hW : Wd G X H) (hS : va_S (Ab G) s.heap H locs) (hv : Ves G k kc a r i L) (As : List Value) : PreV s H RX6 (ad G k) (Kp G (.ref (ad G k) :: As) X) As :=
  g_preV C hW hS hv.1.1 hv.1.2 (hv.2.1 X) (ci := 8) (T := TX6) (N := 3) rfl As
end GH
