/-! slagRate's helper; the array of doubles. -/
def sdd (X : St) (v : UInt64) : St := (X.1, X.2.1, X.2.2.1, X.2.2.2.1, v)
theorem scell_dd {G : GT} {X : St} {v : UInt64} : ∀ o : Nat, ¬ o = 21 → scell G (sdd X v) o = scell G X o
  | 0, h => rfl
  | 1, h => rfl
  | 2, h => rfl
  | 3, h => rfl
  | 4, h => rfl
  | 5, h => rfl
  | 6, h => rfl
  | 7, h => rfl
  | 8, h => rfl
  | 9, h => rfl
  | 10, h => rfl
  | 11, h => rfl
  | 12, h => rfl
  | 13, h => rfl
  | 14, h => rfl
  | 15, h => rfl
  | 16, h => rfl
  | 17, h => rfl
  | 18, h => rfl
  | 19, h => rfl
  | 20, h => rfl
  | 21, h => absurd rfl h
  | 22, h => rfl
  | _ + 23, _ => rfl
theorem cell_dd {G : GT} {X : St} {v : UInt64} {j : Nat} (h : ¬ j = 736) : cell G (sdd X v) j = cell G X j := by
  unfold cell
  by_cases h1 : j < 715
  · rw [if_pos h1, if_pos h1]
    rfl
  · rw [if_neg h1, if_neg h1]
    exact scell_dd _ (by omega)
theorem wl_dd {G : GT} {X : St} {v : UInt64} : (wl G X).set 736 (ad G 736, .inl (cy G 4, 1, .inr (.inr (.inr (.inl fun _ => v))))) = wl G (sdd X v) := by
  apply List.ext_getElem?
  intro j
  by_cases hj : j = 736
  · subst hj
    rw [List.getElem?_set_self (by rw [wl_len]; decide)]
    exact (wl_at (X := sdd X v) (by decide) (by decide) (cell_s (o := 21))).symm
  · rw [List.getElem?_set_ne (Ne.symm hj)]
    by_cases hl : j < NK
    · simp only [wl, List.getElem?_map, List.getElem?_range hl, Option.map_some, cell_dd hj]
      rfl
    · simp [wl, hl]
section LD
variable {p : Program} {l : Launch} {e : Env} {R : Room} {s : State} {m : MethodId} {args : Array Value} {below : List Frame} {meth : Method} {c : Code} {H : Heap} {locs : List Loc} {cells slots mc ms : Nat} {Q : State → Prop}
variable {cc : ByteArray} {nL pc : Nat} {ls : Array Slot} {rest : List Value} {G : GT} {X : St} {Ts : List Cond} {own : String}
theorem g_dst (C : Cx p m c cc nL s args Ts own G) (hW : Wd G X H) (hS : va_S (Ab G) s.heap H locs) {v : UInt64} (hdg : decode cc pc = .ok (.dastore, 1))
    (kk : ∀ (H1 : Heap) (locs1 : List Loc), Wd G (sdd X v) H1 → va_S (Ab G) s.heap H1 locs1 → W p l e R s m args below meth c H1 locs1 cells slots Q (F0 m (pc + 1) ls rest)) : W p l e R s m args below meth c H locs cells slots Q (F0 m pc ls (.double v :: .int 0 :: .ref (ad G 736) :: rest)) := by
  have ha : (wl G X)[736]? = some (ad G 736, .inl (cy G 4, 1, .inr (.inr (.inr (.inl fun _ => X.2.2.2.2))))) := wl_at (by decide) (by decide) (cell_s (o := 21))
  refine va_dast (D := gD G) (f := fun _ => X.2.2.2.2) C.1.1 C.1.2.1 C.2.1 hW.1 hW.2 hS 736 4 ha rfl (vp_in_nI (n := 0) (N := 1) (by decide) (by decide)) hdg (fun H1 locs1 h1 h2 h3 => ?_)
  have h4 := va_swap (e2 := .inl (cy G 4, 1, .inr (.inr (.inr (.inl fun _ => v))))) (by rw [wl_len]; decide) h1 (fun h => h)
  rw [wl_dd] at h4
  exact kk H1 locs1 ⟨h4, wl_dd (G := G) (X := X) (v := v) ▸ hW.2.set ha⟩ h3
theorem lw_any (C : Cx p m c cc nL s args Ts own G) (hr : meth.sig.returnType = some .int) (hlk : meth.locks = false) (hW : Wd G X H) (hS : va_S (Ab G) s.heap H locs) {pq : Int32 → St → Prop} {k : Int} {v : Int32} (hp : pq v X)
    (hk : Int32.ofInt k = v) (d3 : decode cc pc = .ok (.iconst k, 1)) (d4 : decode cc (pc + 1) = .ok (.ireturn, 1)) (hc : cells ≤ mc) (hs : slots ≤ ms) :
    W p l e R s m args below meth c H locs cells slots (vx_MQ below (Ki G pq) (KX G nox) args s mc ms (Ab G)) (F0 m pc ls []) := by
  refine lv_iconst (v := v) C.1.1 C.1.2.1 d3 hk ?_
  obtain ⟨a, rfl⟩ := Nat.exists_eq_add_of_le hc
  obtain ⟨n, rfl⟩ := Nat.exists_eq_add_of_le hs
  refine vx_ret ?_
  refine W.widen (k := cells + a) (n := slots + n) (Nat.le_add_right _ _) (Nat.le_add_right _ _) ?_
  exact g_iret C hr hlk hW hS d4 hp
theorem g_cxf {pst : UInt32 → St → Prop} {postx : String → St → Prop} {a : Array Value} {st0 : List Value} {mc1 ms1 : Nat} (hr : vx_Run p l e R s m args below meth c H locs cells slots mc1 ms1 (F0 m pc ls st0) rest (Kf G pst a) (KX G postx) (Ab G)) (hS : va_S (Ab G) s.heap H locs)
    (kx : ∀ (E : String) (ce : Cell) (q9 : Addr) (Y : St) (H1 : Heap) (locs1 : List Loc), Wd G Y H1 → va_S (Ab G) s.heap H1 locs1 → postx E Y → H1[q9]? = some ce → ce.vm = .none → s.vm.findClass E = some ce.cls → vx_W p l e R s m args below meth c H1 locs1 (cells + mc1) (slots + ms1) Q (F0 m pc ls rest) q9)
    (kk : ∀ (r : UInt32) (Y : St) (H1 : Heap) (locs1 : List Loc), Wd G Y H1 → va_S (Ab G) s.heap H1 locs1 → pst r Y → W p l e R s m args below meth c H1 locs1 (cells + mc1) (slots + ms1) Q (F0 m (pc + 3) ls (.float r :: rest))) : W p l e R s m args below meth c H locs cells slots Q (F0 m pc ls st0) :=
  vx_callf hr hS (fun _ _ h => h) (fun _ h => h) (fun _ _ h => h) (fun E ce q9 Y _ H1 locs1 ht _ _ hB _ _ hS1 h1 h2 h3 => kx E ce q9 Y H1 locs1 (by rw [← ht]; exact hB.2) hS1 hB.1 h1 h2 h3) (fun r Y _ H1 locs1 ht _ hp hB _ _ hS1 => kk r Y H1 locs1 (by rw [← ht]; exact hB) hS1 hp)
end LD
def lpostD (L : List String) (post : UInt32 → St → Prop) (postx : String → St → Prop) : Int32 → St → Prop := fun k Y => (k = 0 ∧ ∃ (r : UInt32) (Y0 : St), post r Y0 ∧ Y = sdd Y0 (FP.f2d r)) ∨ ∃ (i : Nat) (E : String), L[i]? = some E ∧ k = nI (i + 1) ∧ postx E Y
theorem hL_slagRate (l : Launch) (G : GT) (X : St) {k f n : Nat} {post : UInt32 → St → Prop} {postx : String → St → Prop} (hM : MetXQf l G k yX7_slagRate (wsG yX7_slagRate cX7_slagRate 2 (some .float)) (rmk k f n) [.ref (ad G 715)] X post postx) (hfin : ∀ (r : UInt32) (Y : St), post r Y → FP.Core.fIsNaN r = false) (hmem : ∀ (E : String) (Y : St), postx E Y → E ∈ ["java/lang/ArithmeticException"]) : MetXI l G k yL_slagRate (wsW yL_slagRate cL_slagRate 3 (some .int) [(0, 8, 11, 136)]) (rmk k (f + 1) (n + 21)) [.ref (ad G 715), .ref (ad G 736)] X (lpostD ["java/lang/ArithmeticException"] post postx) nox := by
  refine g_metW (cc := cL_slagRate) (maxL := 3) (ret := some .int) (hh := [(0, 8, 11, 136)]) (by decide) rfl (Nat.le_of_ble_eq_true rfl) ?_
  intro p e s m below meth c ls C hr hlk htab hW hl
  have hx := C.1.1
  have hb := C.1.2.1
  have hS : va_S (Ab G) s.heap s.heap [] := va_S.rf
  have hl : lv_has ls 3 [(0, .ref (ad G 715)), (1, .ref (ad G 736))] := hl
  refine lv_aload_n hx hb dL_slagRate_0 rfl (lv_at hl 1 rfl) ?_
  refine lv_iconst (v := 0) hx hb dL_slagRate_1 (by decide) ?_
  refine lv_aload_n hx hb dL_slagRate_2 rfl (lv_at hl 0 rfl) ?_
  refine g_cxf (vx_runV (As := []) (rest := [.int 0, .ref (ad G 736)]) C.1 hM (cwV 0 C.1.2.2.2.2 (gVW qw_1303 qw_1304 qw_1305 qw_71 qw_1306) rfl rfl rfl (by decide +kernel) ⟨Nat.le_refl _, by show 8 + (2 + 11) + n ≤ n + 21; omega⟩) (g_rFoundry C hW hS []) rfl rfl hl.1 rfl (lv_room (Nat.le_of_ble_eq_true rfl)) dL_slagRate_3 ⟨Nat.le_of_eq (Nat.zero_add _), Nat.le_of_eq (Nat.zero_add _)⟩) hS ?_ ?_
  · intro E9 ce9 q9 Y H9 locs9 hW9 hS9 hp h91 h92 h93
    have hE := hmem _ _ hp
    simp only [List.mem_cons, List.not_mem_nil, or_false] at hE
    subst hE
    refine lw_catch C htab [] (0, 8, 11, 136) [] rfl (by decide +kernel) (by decide) rfl h91 h92 h93 ?_
    refine lv_astore_n hx hb dL_slagRate_11 rfl hl (by decide) rfl (fun ls2 hl2 => ?_)
    exact lw_any C hr hlk hW9 hS9 (Or.inr ⟨0, _, rfl, (by decide : (1 : Int32) = nI (0 + 1)), hp⟩) (by decide) dL_slagRate_12 dL_slagRate_13 (Nat.le_of_eq (Nat.zero_add _)) (Nat.le_of_eq (Nat.zero_add _))
  intro r Y H1 locs1 hW1 hS1 hp
  refine lv_f2d hx hb dL_slagRate_6 (fl_wide (hfin _ _ hp)) ?_
  refine g_dst C hW1 hS1 dL_slagRate_7 (fun H2 locs2 hW2 hS2 => ?_)
  refine lv_goto hx hb dL_slagRate_8 (tgt := 14) (by decide) ?_
  exact lw_any C hr hlk hW2 hS2 (Or.inl ⟨rfl, r, Y, hp, rfl⟩) (by decide) dL_slagRate_14 dL_slagRate_15 (Nat.le_of_eq (Nat.zero_add _)) (Nat.le_of_eq (Nat.zero_add _))
