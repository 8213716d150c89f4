/-! The string builder and the strings: the JDK's own methods, by contract. -/
theorem hwJ4 : ∀ w ∈ wsJ40, w ∈ lw_all := lw_memT (by decide +kernel)
abbrev sbB (X : St) (b : Nat → Int32) : St := (X.1, (X.2.1, (X.2.2.1, (b, X.2.2.2.2))))
theorem nk_722 : 722 < NK ∧ 722 ≠ 737 := by decide
theorem scell_sb {G : GT} {X : St} {b : Nat → Int32} : ∀ o, o ≠ 22 → scell G (sbB X b) o = scell G X o
  | 0, _ => rfl
  | 1, _ => rfl
  | 2, _ => rfl
  | 3, _ => rfl
  | 4, _ => rfl
  | 5, _ => rfl
  | 6, _ => rfl
  | 7, _ => rfl
  | 8, _ => rfl
  | 9, _ => rfl
  | 10, _ => rfl
  | 11, _ => rfl
  | 12, _ => rfl
  | 13, _ => rfl
  | 14, _ => rfl
  | 15, _ => rfl
  | 16, _ => rfl
  | 17, _ => rfl
  | 18, _ => rfl
  | 19, _ => rfl
  | 20, _ => rfl
  | 21, _ => rfl
  | 22, h => absurd rfl h
  | n + 23, _ => rfl
theorem wl_at7 {G : GT} {X : St} : (wl G X)[737]? = some (X.2.1, .inl (cy G 2, X.2.2.1, .inl X.2.2.2.1)) := by
  have h : (wl G X)[737]? = some (adx G X 737, cell G X 737) := by simp [wl, NK]
  rw [h, show cell G X 737 = scell G X 22 from cell_s (o := 22)]
  rfl
theorem wl_set7 {G : GT} {X : St} {b : Nat → Int32} : (wl G X).set 737 (X.2.1, .inl (cy G 2, X.2.2.1, .inl b)) = wl G (sbB X b) := by
  apply List.ext_getElem?
  intro j
  by_cases hj : j = 737
  · subst hj
    rw [List.getElem?_set_self (by simp [wl, NK]), wl_at7]
  · rw [List.getElem?_set_ne (Ne.symm hj)]
    by_cases hl : j < NK
    · have h1 : cell G (sbB X b) j = cell G X j := by
        unfold cell
        by_cases h2 : j < 715
        · rw [if_pos h2, if_pos h2]
        · rw [if_neg h2, if_neg h2]
          exact scell_sb _ (by omega)
      have h2 : adx G (sbB X b) j = adx G X j := rfl
      simp [wl, hl, h1, h2]
    · simp [wl, hl]
theorem sb_out {X : St} {zb b z w : Nat → Int32} {r : Nat} : setRow (sbB (setRow (sbB X zb) r z) b) r w = setRow (sbB X b) r w := by
  show setRow (setRow (sbB X b) r z) r w = _
  exact sr_out
theorem sb_out1 {X : St} {b z w : Nat → Int32} {r : Nat} : setRow (sbB (setRow X r z) b) r w = setRow (sbB X b) r w := by
  show setRow (setRow (sbB X b) r z) r w = _
  exact sr_out
theorem jm1 {a b : Nat} (h : a = b + 1) : nI a + (-1) = nI b := by
  subst h
  exact pk_m1 b
theorem jb8 : ∀ a, a < 128 → (nI a).toInt8.toInt32 = nI a := by decide +kernel
theorem jb16 : ∀ a, a < 128 → ((nI a).toUInt32 % 65536).toInt32 = nI a := by decide +kernel
theorem jb255 : ∀ a, a < 128 → nI a &&& 255 = nI a := by decide +kernel
theorem jnar : ∀ a, a < 128 → vp_nar .byte (nI a) = nI a := by decide +kernel
theorem jnarc : ∀ a, a < 128 → narrow .char (.int (nI a)) = .int (nI a) := by decide +kernel
theorem jlec {q c : Nat} (h : q ≤ c) (hc : c ≤ 34) : nI q - nI c ≤ 0 := by
  have : ∀ c, c < 35 → ∀ q, q < 35 → q ≤ c → nI q - nI c ≤ 0 := by decide +kernel
  exact this c (by omega) q (by omega) h
theorem jmin {n c : Nat} (h : n ≤ c) (hc : c ≤ 34) : imin (nI n) (nI c) = nI n := by
  have : ∀ c, c < 35 → ∀ q, q < 35 → q ≤ c → imin (nI q) (nI c) = nI q := by decide +kernel
  exact this c (by omega) n (by omega) h
def strc (si k : Nat) : Int32 := (strT.getD si []).getD k 0
def strn (si k : Nat) : Nat := (strc si k).toNatClampNeg
theorem strlt : ∀ si, si < 16 → strL.getD si 0 ≤ 7 := by decide +kernel
theorem strlt31 (si : Nat) (h : si < 16) : strL.getD si 0 < 2 ^ 31 := by
  have := strlt si h
  omega
theorem strc_all : ∀ si, si < 16 → ∀ k, k < strL.getD si 0 → strc si k = nI (strn si k) ∧ strn si k < 128 := by decide +kernel
theorem strc_eq (si : Nat) (hsi : si < 16) (k : Nat) (hk : k < strL.getD si 0) : strc si k = nI (strn si k) := (strc_all si hsi k hk).1
theorem strn_lt (si : Nat) (hsi : si < 16) (k : Nat) (hk : k < strL.getD si 0) : strn si k < 128 := (strc_all si hsi k hk).2
theorem strlen_of (si : Nat) : Int32.ofNat (strL.getD si 0) = nI (strL.getD si 0) := rfl
/-- a number's digits from place n on, as the builder lays them -/
def decR (b : Nat → Int32) (n v : Nat) : Nat → Int32 := if v < 10 then upd b (n) (nI (48 + v % 10)) else if v < 100 then upd (upd b (n + 1) (nI (48 + v % 10))) (n) (nI (48 + v / 10)) else if v < 1000 then upd (upd (upd b (n + 2) (nI (48 + v % 100 % 10))) (n + 1) (nI (48 + v % 100 / 10))) (n) (nI (48 + v / 100 % 10)) else upd (upd (upd (upd b (n + 3) (nI (48 + v % 100 % 10))) (n + 2) (nI (48 + v % 100 / 10))) (n + 1) (nI (48 + v / 100 % 10))) (n) (nI (48 + v / 100 / 10))
/-- the length is set to 0 -/
def slR (w : Nat → Int32) (n : Nat) : Nat → Int32 := upd (if nI n ≤ 0 then w else upd w (9) 1) (10) 0
theorem slR_8 (w : Nat → Int32) (n : Nat) : slR w n (8) = w (8) := by
  unfold slR
  rw [pk_un (by decide)]
  split
  · rfl
  · exact pk_un (by decide)
theorem slR_10 (w : Nat → Int32) (n : Nat) : slR w n (10) = nI 0 := pk_us
theorem g_metF {l : Launch} {G : GT} {y : MethodName} {ws ws' : List Cond} {rm : Room} {cc : ByteArray} {maxL : Nat} {ret : Option FieldType} {av : List Value} {X : St} {Qc : Array Value → State → Outcome → State → Prop} {mc ms : Nat} (hy : plainFor y = true) (hw : ws = Cond.code y cc maxL ret :: ws') (hlen : (lg_sl av).length ≤ maxL)
    (body : ∀ (p : Program) (e : Env) (s : State) (m : MethodId) (below : List Frame) (meth : Method) (c : Code) (ls : Array Slot), Cx p m c cc maxL s av.toArray ws y.cls G → meth.sig.returnType = ret → meth.locks = false → meth.name = y.name → Wd G X s.heap → lv_has ls maxL (lv_args 0 av) →
      W p l e rm s m av.toArray below meth c s.heap [] 0 0 (MQ below Qc av.toArray s mc ms (Ab G)) (F0 m 0 ls [])) : Met l y ws rm (Kp G av X) Qc mc ms (Ab G) := by
  refine va_MetF (cc := cc) (maxL := maxL) (ret := ret) hy hw ?_
  intro p e s m args below meth c s₁ B hml hv
  obtain ⟨rfl, hE, hWd⟩ := hv
  rw [lg_entry_eq]
  exact body p e s m below meth c _ ⟨⟨B.exec, B.bytes, hml, findClass_of_methodNamed B.named, atoms_spec (ws := ws) B.pre⟩, hE⟩ B.returns B.notSynchronized (name_of_methodNamed B.named B.method).1 hWd (lv_entry av hlen)
theorem gU {x y z : MethodName} {cx cy : ByteArray} {nx ny : Nat} {rx ry : Option FieldType} {own C owner : String} {idx : Nat} (h1 : Cond.methodLink own idx z ∈ lw_all) (h2 : Cond.sameMethod z.cls owner z.name z.desc ∈ lw_all) (h3 : Cond.selects C z y ∈ lw_all) (h4 : Cond.instanceMethod y ∈ lw_all) (h5 : Cond.initialized y.cls ∈ lw_all) (h : Cond.code y cy ny ry ∈ lw_all) : GoodIn (wsG x cx nx rx) (va_wsU own idx C owner z y (wsG y cy ny ry)) := by
  intro w hw
  rcases List.mem_append.mp hw with h6 | h6
  · have : w ∈ lw_all := by
      simp only [List.mem_cons, List.not_mem_nil, or_false] at h6
      rcases h6 with rfl | rfl | rfl | rfl | rfl <;> assumption
    exact ⟨List.mem_cons_of_mem _ this, lw_good this⟩
  · exact gN h w h6
theorem gSU {x y : MethodName} {cx cy : ByteArray} {nx ny : Nat} {rx ry : Option FieldType} {own : String} {idx : Nat} (h1 : Cond.methodLink own idx y ∈ lw_all) (h2 : Cond.sameMethod y.cls y.cls y.name y.desc ∈ lw_all) (h3 : Cond.superclass own y.cls ∈ lw_all) (h4 : Cond.instanceMethod y ∈ lw_all) (h5 : Cond.initialized y.cls ∈ lw_all) (h : Cond.code y cy ny ry ∈ lw_all) : GoodIn (wsG x cx nx rx) (va_wsSU own idx y (wsG y cy ny ry)) := by
  intro w hw
  rcases List.mem_append.mp hw with h6 | h6
  · have : w ∈ lw_all := by
      simp only [List.mem_cons, List.not_mem_nil, or_false] at h6
      rcases h6 with rfl | rfl | rfl | rfl | rfl <;> assumption
    exact ⟨List.mem_cons_of_mem _ this, lw_good this⟩
  · exact gN h w h6
theorem cwP {R : Room} {s : State} {args : Array Value} {own C : String} {index maxL mc ms : Nat} {y : MethodName} {bytes : ByteArray} {ret : Option FieldType} {Ts ws ws' : List Cond} {rm : Room} (n : Nat) (ht : ∀ w ∈ Ts, w.before args s = true) (hl : Cond.methodLink own index y ∈ Ts) (hm : Cond.sameMethod y.cls y.cls y.name y.desc ∈ Ts) (hi : Cond.instanceMethod y ∈ Ts) (hc : Cond.initialized y.cls ∈ Ts) (hG : GoodIn Ts ws) (hw : ws = Cond.code y bytes maxL ret :: ws') (hrc : rm.cells = mc) (hrs : rm.slots = ms)
    (hd : y.cls ≠ "java/lang/invoke/MethodHandle" ∧ y.cls ≠ "java/lang/invoke/VarHandle" ∧ (parseMethodDescriptor y.desc).map (fun d => d.parameters.length) = some n) (hR : rm.frames + 1 ≤ R.frames ∧ 8 + (maxL + 11) + rm.locals ≤ R.locals) (hsel : (Cond.selects C y y).before args s = true) : va_CU R s args own C y.cls index y y bytes maxL ret ws rm mc ms n := by
  have hcc : Cond.code y bytes maxL ret ∈ ws := by rw [hw]; exact List.mem_cons_self
  refine ⟨⟨hrc, hrs, hR.1, hR.2, pay_in ht hG, hcc⟩, ht _ (hG _ hcc).1, ht _ hc, ⟨hd.1, hd.2.1⟩, fun sig h => ?_, ht _ hl, ht _ hm, va_Decl.of (ht _ hi) (ht _ (hG _ hcc).1), hsel, ht _ hi⟩
  have h2 := hd.2.2
  rw [h] at h2
  exact (Option.some.inj h2).symm
section GSB
variable {p : Program} {l : Launch} {e : Env} {R : Room} {s : State} {m : MethodId} {args : Array Value} {below : List Frame} {meth : Method} {c : Code} {H : Heap} {locs : List Loc} {cells slots : Nat} {Q : State → Prop}
variable {cc : ByteArray} {nL pc : Nat} {ls : Array Slot} {rest st0 : List Value} {G : GT} {X : St} {Ts : List Cond} {own : String} {n : Nat}
theorem g_callr {postr : Nat × St → Prop} {a : Array Value} (hr : va_Run p l e R s m args below meth c H locs cells slots 0 0 (F0 m pc ls st0) rest (Kr G postr a) (Ab G)) (hS : va_S (Ab G) s.heap H locs)
    (kk : ∀ (k : Nat) (Y : St) (H1 : Heap) (locs1 : List Loc), Wd G Y H1 → va_S (Ab G) s.heap H1 locs1 → postr (k, Y) → W p l e R s m args below meth c H1 locs1 cells slots Q (F0 m (pc + 3) ls (.ref (ad G k) :: rest))) : W p l e R s m args below meth c H locs cells slots Q (F0 m pc ls st0) :=
  va_callr hr hS (fun _ _ h => h) (fun _ h => h) (fun u ra _ H1 locs1 ht _ hp hB _ _ hS1 => by
    obtain ⟨k, Y⟩ := u
    obtain ⟨h1, h2⟩ := hB
    dsimp only at h1 h2
    subst h1
    exact kk k Y H1 locs1 (by rw [← ht]; exact h2) hS1 hp)
theorem gSB_value (C : Cx p m c cc nL s args Ts own G) (hW : Wd G X H) {index : Nat} (hin : ∀ w ∈ u_ws RJ4 TJ4 4, w ∈ Ts) (hlink : Cond.fieldLink own index "java/lang/AbstractStringBuilder" "value" "[B" ∈ Ts) (hdg : decode cc pc = .ok (.getfield index, 3))
    (kk : W p l e R s m args below meth c H locs cells slots Q (F0 m (pc + 3) ls (.ref X.2.1 :: rest))) : W p l e R s m args below meth c H locs cells slots Q (F0 m pc ls (.ref (ad G 722) :: rest)) :=
  g_get C hW (T := TJ4) (ci := 1) hin nk_722.1 nk_722.2 (cell_s (o := 7)) rfl 0 (by decide) hlink rfl hdg kk
theorem gSB_coder (C : Cx p m c cc nL s args Ts own G) (hW : Wd G X H) {index : Nat} (hin : ∀ w ∈ u_ws RJ4 TJ4 4, w ∈ Ts) (hlink : Cond.fieldLink own index "java/lang/AbstractStringBuilder" "coder" "B" ∈ Ts) (hdg : decode cc pc = .ok (.getfield index, 3))
    (kk : W p l e R s m args below meth c H locs cells slots Q (F0 m (pc + 3) ls (.int (X.1 11 8) :: rest))) : W p l e R s m args below meth c H locs cells slots Q (F0 m pc ls (.ref (ad G 722) :: rest)) :=
  g_get C hW (T := TJ4) (ci := 1) hin nk_722.1 nk_722.2 (cell_s (o := 7)) rfl 1 (by decide) hlink rfl hdg kk
theorem gSB_count (C : Cx p m c cc nL s args Ts own G) (hW : Wd G X H) {index : Nat} (hin : ∀ w ∈ u_ws RJ4 TJ4 4, w ∈ Ts) (hlink : Cond.fieldLink own index "java/lang/AbstractStringBuilder" "count" "I" ∈ Ts) (hdg : decode cc pc = .ok (.getfield index, 3))
    (kk : W p l e R s m args below meth c H locs cells slots Q (F0 m (pc + 3) ls (.int (X.1 11 10) :: rest))) : W p l e R s m args below meth c H locs cells slots Q (F0 m pc ls (.ref (ad G 722) :: rest)) :=
  g_get C hW (T := TJ4) (ci := 1) hin nk_722.1 nk_722.2 (cell_s (o := 7)) rfl 3 (by decide) hlink rfl hdg kk
theorem gSB_countP (C : Cx p m c cc nL s args Ts own G) (hW : Wd G X H) (hS : va_S (Ab G) s.heap H locs) {index : Nat} (hin : ∀ w ∈ u_ws RJ4 TJ4 4, w ∈ Ts) (hlink : Cond.fieldLink own index "java/lang/AbstractStringBuilder" "count" "I" ∈ Ts) {v : Int32} (hdg : decode cc pc = .ok (.putfield index, 3))
    (kk : ∀ (H1 : Heap) (locs1 : List Loc), Wd G (sup X 11 10 v) H1 → va_S (Ab G) s.heap H1 locs1 → W p l e R s m args below meth c H1 locs1 cells slots Q (F0 m (pc + 3) ls rest)) : W p l e R s m args below meth c H locs cells slots Q (F0 m pc ls (.int v :: .ref (ad G 722) :: rest)) :=
  g_put C hW hS (T := TJ4) (ci := 1) hin tyJ4_ok nmJ4 nk_722.1 nk_722.2 (cell_s (o := 7)) rfl 3 (by decide) hlink rfl (ty := .int) (by decide +kernel) rfl rfl (Nat.le_of_ble_eq_true rfl) 11 10 rfl (by rw [show cell G (sup X 11 10 v) 722 = _ from (cell_s (o := 7))]; simp [scell, sup, up2]) hdg kk
theorem gSB_maybeLatin1P (C : Cx p m c cc nL s args Ts own G) (hW : Wd G X H) (hS : va_S (Ab G) s.heap H locs) {index : Nat} (hin : ∀ w ∈ u_ws RJ4 TJ4 4, w ∈ Ts) (hlink : Cond.fieldLink own index "java/lang/AbstractStringBuilder" "maybeLatin1" "Z" ∈ Ts) {v : Int32} (hz : narrow .boolean (.int v) = .int v) (hz2 : fits .boolean (.int v) = true) (hdg : decode cc pc = .ok (.putfield index, 3))
    (kk : ∀ (H1 : Heap) (locs1 : List Loc), Wd G (sup X 11 9 v) H1 → va_S (Ab G) s.heap H1 locs1 → W p l e R s m args below meth c H1 locs1 cells slots Q (F0 m (pc + 3) ls rest)) : W p l e R s m args below meth c H locs cells slots Q (F0 m pc ls (.int v :: .ref (ad G 722) :: rest)) :=
  g_put C hW hS (T := TJ4) (ci := 1) hin tyJ4_ok nmJ4 nk_722.1 nk_722.2 (cell_s (o := 7)) rfl 2 (by decide) hlink rfl (ty := .boolean) (by decide +kernel) hz hz2 (Nat.le_of_ble_eq_true rfl) 11 9 rfl (by rw [show cell G (sup X 11 9 v) 722 = _ from (cell_s (o := 7))]; simp [scell, sup, up2]) hdg kk
theorem g_rSB (C : Cx p m c cc nL s args Ts own G) (hW : Wd G X H) (hS : va_S (Ab G) s.heap H locs) (As : List Value) : PreV s H "java/lang/StringBuilder" (ad G 722) (Kp G (.ref (ad G 722) :: As) X) As := g_preV C hW hS (ci := 1) (T := TJ4) (N := 4) nk_722.1 nk_722.2 (cell_s (o := 7)) rfl As
theorem g_rStr (C : Cx p m c cc nL s args Ts own G) (hW : Wd G X H) (hS : va_S (Ab G) s.heap H locs) {si : Nat} (hsi : si < 16) (As : List Value) : PreV s H "java/lang/String" (cy G (50 + si)) (Kp G (.ref (cy G (50 + si)) :: As) X) As :=
  ⟨Kp.blind, vk_recv (adK := fun i => cy G (50 + i)) C.2.2.2.2.2.2.2.2.2.2.1 hsi hS, (g_pre C hW hS _).2⟩
theorem g_sblen (C : Cx p m c cc nL s args Ts own G) (hW : Wd G X H) {cp : Nat} (hcap : X.2.2.1 = cp) (hdg : decode cc pc = .ok (.arraylength, 1))
    (kk : W p l e R s m args below meth c H locs cells slots Q (F0 m (pc + 1) ls (.int (nI cp) :: rest))) : W p l e R s m args below meth c H locs cells slots Q (F0 m pc ls (.ref X.2.1 :: rest)) :=
  va_alen (D := gD G) C.1.1 C.1.2.1 C.2.1 hW.1 737 2 wl_at7 rfl (by show Int32.ofNat X.2.2.1 = nI cp; rw [hcap]; rfl) hdg kk
theorem g_sbld (C : Cx p m c cc nL s args Ts own G) (hW : Wd G X H) {cp : Nat} (hcap : X.2.2.1 = cp) {x : Int32} (j : Nat) (hx : x.toNatClampNeg = j) (hin : vp_in x cp) (hdg : decode cc pc = .ok (.baload, 1))
    (kk : W p l e R s m args below meth c H locs cells slots Q (F0 m (pc + 1) ls (.int (X.2.2.2.1 j) :: rest))) : W p l e R s m args below meth c H locs cells slots Q (F0 m pc ls (.int x :: .ref X.2.1 :: rest)) := by
  refine va_bald (D := gD G) C.1.1 C.1.2.1 C.2.1 hW.1 737 2 wl_at7 rfl (by rw [hcap]; exact hin) hdg ?_
  rw [hx]
  exact kk
theorem g_sbst (C : Cx p m c cc nL s args Ts own G) (hW : Wd G X H) (hS : va_S (Ab G) s.heap H locs) {cp : Nat} (hcap : X.2.2.1 = cp) {x v : Int32} (j : Nat) (hx : x.toNatClampNeg = j) (hin : vp_in x cp) (hv : vp_nar .byte v = v) (hdg : decode cc pc = .ok (.bastore, 1))
    (kk : ∀ (H1 : Heap) (locs1 : List Loc), Wd G (sbB X (upd X.2.2.2.1 j v)) H1 → va_S (Ab G) s.heap H1 locs1 → W p l e R s m args below meth c H1 locs1 cells slots Q (F0 m (pc + 1) ls rest)) : W p l e R s m args below meth c H locs cells slots Q (F0 m pc ls (.int v :: .int x :: .ref X.2.1 :: rest)) := by
  refine va_bast (D := gD G) C.1.1 C.1.2.1 C.2.1 hW.1 hW.2 hS 737 2 wl_at7 rfl (by rw [hcap]; exact hin) hdg (fun H1 locs1 h1 h2 h3 => ?_)
  rw [hx, hv, wl_set7] at h1 h2
  exact kk H1 locs1 ⟨h1, h2⟩ h3
end GSB
theorem qw_77 : Cond.initialized "java/lang/AbstractStringBuilder" ∈ lw_all := lw_mem 77 (by decide +kernel) (by decide +kernel)
theorem qw_79 : Cond.initialized "java/lang/String" ∈ lw_all := lw_mem 79 (by decide +kernel) (by decide +kernel)
theorem qw_100 : Cond.initialized "jdk/internal/util/Preconditions" ∈ lw_all := lw_mem 100 (by decide +kernel) (by decide +kernel)
theorem qw_101 : Cond.initialized "java/lang/StringLatin1" ∈ lw_all := lw_mem 101 (by decide +kernel) (by decide +kernel)
theorem qw_103 : Cond.initialized "java/lang/Integer" ∈ lw_all := lw_mem 103 (by decide +kernel) (by decide +kernel)
theorem qw_263 : Cond.fieldLink "java/lang/AbstractStringBuilder" 18 "java/lang/String" "COMPACT_STRINGS" "Z" ∈ lw_all := lw_mem 263 (by decide +kernel) (by decide +kernel)
theorem qw_272 : Cond.fieldLink "java/lang/AbstractStringBuilder" 15 "java/lang/AbstractStringBuilder" "value" "[B" ∈ lw_all := lw_mem 272 (by decide +kernel) (by decide +kernel)
theorem qw_273 : Cond.fieldLink "java/lang/AbstractStringBuilder" 22 "java/lang/AbstractStringBuilder" "coder" "B" ∈ lw_all := lw_mem 273 (by decide +kernel) (by decide +kernel)
theorem qw_274 : Cond.fieldLink "java/lang/AbstractStringBuilder" 73 "java/lang/AbstractStringBuilder" "maybeLatin1" "Z" ∈ lw_all := lw_mem 274 (by decide +kernel) (by decide +kernel)
theorem qw_276 : Cond.fieldLink "java/lang/AbstractStringBuilder" 79 "java/lang/AbstractStringBuilder" "count" "I" ∈ lw_all := lw_mem 276 (by decide +kernel) (by decide +kernel)
theorem qw_285 : Cond.superclass "java/lang/StringBuilder" "java/lang/AbstractStringBuilder" ∈ lw_all := lw_mem 285 (by decide +kernel) (by decide +kernel)
theorem qw_393 : Cond.methodLink "java/lang/StringBuilder" 333 ⟨"java/lang/AbstractStringBuilder", "setLength", "(I)V"⟩ ∈ lw_all := lw_mem 393 (by decide +kernel) (by decide +kernel)
theorem qw_394 : Cond.instanceMethod ⟨"java/lang/AbstractStringBuilder", "setLength", "(I)V"⟩ ∈ lw_all := lw_mem 394 (by decide +kernel) (by decide +kernel)
theorem qw_395 : Cond.code ⟨"java/lang/AbstractStringBuilder", "setLength", "(I)V"⟩ prog_12_method_13_code 2 (none : Option FieldType) ∈ lw_all := lw_mem 395 (by decide +kernel) (by decide +kernel)
theorem qw_415 : Cond.methodLink "java/lang/AbstractStringBuilder" 100 ⟨"java/lang/AbstractStringBuilder", "ensureCapacityInternal", "(I)V"⟩ ∈ lw_all := lw_mem 415 (by decide +kernel) (by decide +kernel)
theorem qw_417 : Cond.instanceMethod ⟨"java/lang/AbstractStringBuilder", "ensureCapacityInternal", "(I)V"⟩ ∈ lw_all := lw_mem 417 (by decide +kernel) (by decide +kernel)
theorem qw_418 : Cond.code ⟨"java/lang/AbstractStringBuilder", "ensureCapacityInternal", "(I)V"⟩ prog_12_method_9_code 3 (none : Option FieldType) ∈ lw_all := lw_mem 418 (by decide +kernel) (by decide +kernel)
theorem qw_450 : Cond.methodLink "java/lang/AbstractStringBuilder" 83 ⟨"java/lang/AbstractStringBuilder", "isLatin1", "()Z"⟩ ∈ lw_all := lw_mem 450 (by decide +kernel) (by decide +kernel)
theorem qw_451 : Cond.instanceMethod ⟨"java/lang/AbstractStringBuilder", "isLatin1", "()Z"⟩ ∈ lw_all := lw_mem 451 (by decide +kernel) (by decide +kernel)
theorem qw_452 : Cond.sameMethod "java/lang/AbstractStringBuilder" "java/lang/AbstractStringBuilder" "isLatin1" "()Z" ∈ lw_all := lw_mem 452 (by decide +kernel) (by decide +kernel)
theorem qw_453 : Cond.selects "java/lang/StringBuilder" ⟨"java/lang/AbstractStringBuilder", "isLatin1", "()Z"⟩ ⟨"java/lang/AbstractStringBuilder", "isLatin1", "()Z"⟩ ∈ lw_all := lw_mem 453 (by decide +kernel) (by decide +kernel)
theorem qw_454 : Cond.code ⟨"java/lang/AbstractStringBuilder", "isLatin1", "()Z"⟩ prog_12_method_68_code 1 (some FieldType.boolean) ∈ lw_all := lw_mem 454 (by decide +kernel) (by decide +kernel)
theorem qw_467 : Cond.fieldLink "java/lang/String" 1053 "jdk/internal/util/Preconditions" "SIOOBE_FORMATTER" "Ljava/util/function/BiFunction;" ∈ lw_all := lw_mem 467 (by decide +kernel) (by decide +kernel)
theorem qw_485 : Cond.methodLink "java/lang/String" 335 ⟨"java/lang/String", "coder", "()B"⟩ ∈ lw_all := lw_mem 485 (by decide +kernel) (by decide +kernel)
theorem qw_486 : Cond.instanceMethod ⟨"java/lang/String", "coder", "()B"⟩ ∈ lw_all := lw_mem 486 (by decide +kernel) (by decide +kernel)
theorem qw_487 : Cond.selects "java/lang/String" ⟨"java/lang/String", "coder", "()B"⟩ ⟨"java/lang/String", "coder", "()B"⟩ ∈ lw_all := lw_mem 487 (by decide +kernel) (by decide +kernel)
theorem qw_488 : Cond.code ⟨"java/lang/String", "coder", "()B"⟩ prog_28_method_152_code 1 (some FieldType.byte) ∈ lw_all := lw_mem 488 (by decide +kernel) (by decide +kernel)
theorem qw_489 : Cond.fieldLink "java/lang/String" 38 "java/lang/String" "COMPACT_STRINGS" "Z" ∈ lw_all := lw_mem 489 (by decide +kernel) (by decide +kernel)
theorem qw_528 : Cond.methodLink "java/lang/StringBuilder" 53 ⟨"java/lang/AbstractStringBuilder", "append", "(I)Ljava/lang/AbstractStringBuilder;"⟩ ∈ lw_all := lw_mem 528 (by decide +kernel) (by decide +kernel)
theorem qw_529 : Cond.instanceMethod ⟨"java/lang/AbstractStringBuilder", "append", "(I)Ljava/lang/AbstractStringBuilder;"⟩ ∈ lw_all := lw_mem 529 (by decide +kernel) (by decide +kernel)
theorem qw_530 : Cond.code ⟨"java/lang/AbstractStringBuilder", "append", "(I)Ljava/lang/AbstractStringBuilder;"⟩ prog_12_method_32_code 4 (some (FieldType.object "java/lang/AbstractStringBuilder")) ∈ lw_all := lw_mem 530 (by decide +kernel) (by decide +kernel)
theorem qw_531 : Cond.methodLink "java/lang/AbstractStringBuilder" 245 ⟨"java/lang/Integer", "stringSize", "(I)I"⟩ ∈ lw_all := lw_mem 531 (by decide +kernel) (by decide +kernel)
theorem qw_532 : Cond.static ⟨"java/lang/Integer", "stringSize", "(I)I"⟩ ∈ lw_all := lw_mem 532 (by decide +kernel) (by decide +kernel)
theorem qw_533 : Cond.code ⟨"java/lang/Integer", "stringSize", "(I)I"⟩ prog_24_method_13_code 4 (some FieldType.int) ∈ lw_all := lw_mem 533 (by decide +kernel) (by decide +kernel)
theorem qw_534 : Cond.methodLink "java/lang/AbstractStringBuilder" 248 ⟨"java/lang/Integer", "getChars", "(II[B)I"⟩ ∈ lw_all := lw_mem 534 (by decide +kernel) (by decide +kernel)
theorem qw_535 : Cond.static ⟨"java/lang/Integer", "getChars", "(II[B)I"⟩ ∈ lw_all := lw_mem 535 (by decide +kernel) (by decide +kernel)
theorem qw_536 : Cond.code ⟨"java/lang/Integer", "getChars", "(II[B)I"⟩ prog_24_method_12_code 7 (some FieldType.int) ∈ lw_all := lw_mem 536 (by decide +kernel) (by decide +kernel)
theorem qw_537 : Cond.fieldLink "java/lang/Integer" 83 "java/lang/Integer" "DigitOnes" "[B" ∈ lw_all := lw_mem 537 (by decide +kernel) (by decide +kernel)
theorem qw_539 : Cond.fieldLink "java/lang/Integer" 87 "java/lang/Integer" "DigitTens" "[B" ∈ lw_all := lw_mem 539 (by decide +kernel) (by decide +kernel)
theorem qw_568 : Cond.instanceMethod ⟨"java/lang/AbstractStringBuilder", "length", "()I"⟩ ∈ lw_all := lw_mem 568 (by decide +kernel) (by decide +kernel)
theorem qw_569 : Cond.sameMethod "java/lang/AbstractStringBuilder" "java/lang/AbstractStringBuilder" "length" "()I" ∈ lw_all := lw_mem 569 (by decide +kernel) (by decide +kernel)
theorem qw_573 : Cond.methodLink "java/lang/StringBuilder" 343 ⟨"java/lang/AbstractStringBuilder", "length", "()I"⟩ ∈ lw_all := lw_mem 573 (by decide +kernel) (by decide +kernel)
theorem qw_574 : Cond.code ⟨"java/lang/AbstractStringBuilder", "length", "()I"⟩ prog_12_method_6_code 1 (some FieldType.int) ∈ lw_all := lw_mem 574 (by decide +kernel) (by decide +kernel)
theorem qw_675 : Cond.fieldLink "java/lang/String" 9 "java/lang/String" "value" "[B" ∈ lw_all := lw_mem 675 (by decide +kernel) (by decide +kernel)
theorem qw_676 : Cond.fieldLink "java/lang/String" 15 "java/lang/String" "coder" "B" ∈ lw_all := lw_mem 676 (by decide +kernel) (by decide +kernel)
theorem qw_749 : Cond.methodLink "java/lang/StringBuilder" 50 ⟨"java/lang/AbstractStringBuilder", "append", "(C)Ljava/lang/AbstractStringBuilder;"⟩ ∈ lw_all := lw_mem 749 (by decide +kernel) (by decide +kernel)
theorem qw_750 : Cond.instanceMethod ⟨"java/lang/AbstractStringBuilder", "append", "(C)Ljava/lang/AbstractStringBuilder;"⟩ ∈ lw_all := lw_mem 750 (by decide +kernel) (by decide +kernel)
theorem qw_751 : Cond.code ⟨"java/lang/AbstractStringBuilder", "append", "(C)Ljava/lang/AbstractStringBuilder;"⟩ prog_12_method_31_code 2 (some (FieldType.object "java/lang/AbstractStringBuilder")) ∈ lw_all := lw_mem 751 (by decide +kernel) (by decide +kernel)
theorem qw_752 : Cond.methodLink "java/lang/AbstractStringBuilder" 191 ⟨"java/lang/StringLatin1", "canEncode", "(C)Z"⟩ ∈ lw_all := lw_mem 752 (by decide +kernel) (by decide +kernel)
theorem qw_753 : Cond.static ⟨"java/lang/StringLatin1", "canEncode", "(C)Z"⟩ ∈ lw_all := lw_mem 753 (by decide +kernel) (by decide +kernel)
theorem qw_754 : Cond.code ⟨"java/lang/StringLatin1", "canEncode", "(C)Z"⟩ prog_31_method_3_code 1 (some FieldType.boolean) ∈ lw_all := lw_mem 754 (by decide +kernel) (by decide +kernel)
theorem qw_762 : Cond.static ⟨"java/lang/String", "checkIndex", "(II)V"⟩ ∈ lw_all := lw_mem 762 (by decide +kernel) (by decide +kernel)
theorem qw_763 : Cond.code ⟨"java/lang/String", "checkIndex", "(II)V"⟩ prog_28_method_155_code 2 (none : Option FieldType) ∈ lw_all := lw_mem 763 (by decide +kernel) (by decide +kernel)
theorem qw_764 : Cond.methodLink "java/lang/String" 1059 ⟨"jdk/internal/util/Preconditions", "checkIndex", "(IILjava/util/function/BiFunction;)I"⟩ ∈ lw_all := lw_mem 764 (by decide +kernel) (by decide +kernel)
theorem qw_765 : Cond.static ⟨"jdk/internal/util/Preconditions", "checkIndex", "(IILjava/util/function/BiFunction;)I"⟩ ∈ lw_all := lw_mem 765 (by decide +kernel) (by decide +kernel)
theorem qw_766 : Cond.code ⟨"jdk/internal/util/Preconditions", "checkIndex", "(IILjava/util/function/BiFunction;)I"⟩ prog_41_method_11_code 3 (some FieldType.int) ∈ lw_all := lw_mem 766 (by decide +kernel) (by decide +kernel)
theorem qw_1331 : Cond.methodLink "java/lang/StringBuilder" 329 ⟨"java/lang/AbstractStringBuilder", "charAt", "(I)C"⟩ ∈ lw_all := lw_mem 1331 (by decide +kernel) (by decide +kernel)
theorem qw_1332 : Cond.instanceMethod ⟨"java/lang/AbstractStringBuilder", "charAt", "(I)C"⟩ ∈ lw_all := lw_mem 1332 (by decide +kernel) (by decide +kernel)
theorem qw_1333 : Cond.code ⟨"java/lang/AbstractStringBuilder", "charAt", "(I)C"⟩ prog_12_method_14_code 5 (some FieldType.char) ∈ lw_all := lw_mem 1333 (by decide +kernel) (by decide +kernel)
theorem qw_1334 : Cond.methodLink "java/lang/AbstractStringBuilder" 138 ⟨"java/lang/Math", "min", "(II)I"⟩ ∈ lw_all := lw_mem 1334 (by decide +kernel) (by decide +kernel)
theorem qw_1335 : Cond.methodLink "java/lang/AbstractStringBuilder" 144 ⟨"java/lang/String", "checkIndex", "(II)V"⟩ ∈ lw_all := lw_mem 1335 (by decide +kernel) (by decide +kernel)
theorem qw_1378 : Cond.methodLink "java/lang/String" 492 ⟨"java/lang/String", "isLatin1", "()Z"⟩ ∈ lw_all := lw_mem 1378 (by decide +kernel) (by decide +kernel)
theorem qw_1379 : Cond.instanceMethod ⟨"java/lang/String", "isLatin1", "()Z"⟩ ∈ lw_all := lw_mem 1379 (by decide +kernel) (by decide +kernel)
theorem qw_1380 : Cond.selects "java/lang/String" ⟨"java/lang/String", "isLatin1", "()Z"⟩ ⟨"java/lang/String", "isLatin1", "()Z"⟩ ∈ lw_all := lw_mem 1380 (by decide +kernel) (by decide +kernel)
theorem qw_1381 : Cond.code ⟨"java/lang/String", "isLatin1", "()Z"⟩ prog_28_method_154_code 1 (some FieldType.boolean) ∈ lw_all := lw_mem 1381 (by decide +kernel) (by decide +kernel)
theorem qw_1382 : Cond.methodLink "java/lang/String" 495 ⟨"java/lang/StringLatin1", "charAt", "([BI)C"⟩ ∈ lw_all := lw_mem 1382 (by decide +kernel) (by decide +kernel)
theorem qw_1383 : Cond.static ⟨"java/lang/StringLatin1", "charAt", "([BI)C"⟩ ∈ lw_all := lw_mem 1383 (by decide +kernel) (by decide +kernel)
theorem qw_1384 : Cond.code ⟨"java/lang/StringLatin1", "charAt", "([BI)C"⟩ prog_31_method_2_code 2 (some FieldType.char) ∈ lw_all := lw_mem 1384 (by decide +kernel) (by decide +kernel)
theorem qw_1385 : Cond.methodLink "java/lang/StringLatin1" 9 ⟨"java/lang/String", "checkIndex", "(II)V"⟩ ∈ lw_all := lw_mem 1385 (by decide +kernel) (by decide +kernel)
theorem qw_1945 : Cond.sameMethod "java/lang/AbstractStringBuilder" "java/lang/AbstractStringBuilder" "setLength" "(I)V" ∈ lw_all := lw_mem 1945 (by decide +kernel) (by decide +kernel)
theorem qw_1948 : Cond.sameMethod "java/lang/AbstractStringBuilder" "java/lang/AbstractStringBuilder" "ensureCapacityInternal" "(I)V" ∈ lw_all := lw_mem 1948 (by decide +kernel) (by decide +kernel)
theorem qw_1953 : Cond.sameMethod "java/lang/AbstractStringBuilder" "java/lang/AbstractStringBuilder" "append" "(I)Ljava/lang/AbstractStringBuilder;" ∈ lw_all := lw_mem 1953 (by decide +kernel) (by decide +kernel)
theorem qw_1955 : Cond.sameMethod "java/lang/AbstractStringBuilder" "java/lang/AbstractStringBuilder" "append" "(C)Ljava/lang/AbstractStringBuilder;" ∈ lw_all := lw_mem 1955 (by decide +kernel) (by decide +kernel)
theorem qw_1957 : Cond.sameMethod "java/lang/AbstractStringBuilder" "java/lang/AbstractStringBuilder" "charAt" "(I)C" ∈ lw_all := lw_mem 1957 (by decide +kernel) (by decide +kernel)
theorem dJ1_canEncode_fc78d_0 : decode cJ1_canEncode_fc78d 0 = .ok (.iload_n 0, 1) := by decide +kernel
theorem dJ1_canEncode_fc78d_1 : decode cJ1_canEncode_fc78d 1 = .ok (.sipush 255, 3) := by decide +kernel
theorem dJ1_canEncode_fc78d_4 : decode cJ1_canEncode_fc78d 4 = .ok (.if_icmp .gt 7, 3) := by decide +kernel
theorem dJ1_canEncode_fc78d_7 : decode cJ1_canEncode_fc78d 7 = .ok (.iconst 1, 1) := by decide +kernel
theorem dJ1_canEncode_fc78d_8 : decode cJ1_canEncode_fc78d 8 = .ok (.goto 4, 3) := by decide +kernel
theorem dJ1_canEncode_fc78d_11 : decode cJ1_canEncode_fc78d 11 = .ok (.iconst 0, 1) := by decide +kernel
theorem dJ1_canEncode_fc78d_12 : decode cJ1_canEncode_fc78d 12 = .ok (.ireturn, 1) := by decide +kernel
theorem dJ3_checkIndex_8e157_0 : decode cJ3_checkIndex_8e157 0 = .ok (.iload_n 0, 1) := by decide +kernel
theorem dJ3_checkIndex_8e157_1 : decode cJ3_checkIndex_8e157 1 = .ok (.ifCond .lt 8, 3) := by decide +kernel
theorem dJ3_checkIndex_8e157_4 : decode cJ3_checkIndex_8e157 4 = .ok (.iload_n 0, 1) := by decide +kernel
theorem dJ3_checkIndex_8e157_5 : decode cJ3_checkIndex_8e157 5 = .ok (.iload_n 1, 1) := by decide +kernel
theorem dJ3_checkIndex_8e157_6 : decode cJ3_checkIndex_8e157 6 = .ok (.if_icmp .lt 10, 3) := by decide +kernel
theorem dJ3_checkIndex_8e157_9 : decode cJ3_checkIndex_8e157 9 = .ok (.aload_n 2, 1) := by decide +kernel
theorem dJ3_checkIndex_8e157_10 : decode cJ3_checkIndex_8e157 10 = .ok (.iload_n 0, 1) := by decide +kernel
theorem dJ3_checkIndex_8e157_11 : decode cJ3_checkIndex_8e157 11 = .ok (.iload_n 1, 1) := by decide +kernel
theorem dJ3_checkIndex_8e157_12 : decode cJ3_checkIndex_8e157 12 = .ok (.invokestatic 95, 3) := by decide +kernel
theorem dJ3_checkIndex_8e157_15 : decode cJ3_checkIndex_8e157 15 = .ok (.athrow, 1) := by decide +kernel
theorem dJ3_checkIndex_8e157_16 : decode cJ3_checkIndex_8e157 16 = .ok (.iload_n 0, 1) := by decide +kernel
theorem dJ3_checkIndex_8e157_17 : decode cJ3_checkIndex_8e157 17 = .ok (.ireturn, 1) := by decide +kernel
theorem dJ0_checkIndex_df160_0 : decode cJ0_checkIndex_df160 0 = .ok (.iload_n 0, 1) := by decide +kernel
theorem dJ0_checkIndex_df160_1 : decode cJ0_checkIndex_df160 1 = .ok (.iload_n 1, 1) := by decide +kernel
theorem dJ0_checkIndex_df160_2 : decode cJ0_checkIndex_df160 2 = .ok (.getstatic 1053, 3) := by decide +kernel
theorem dJ0_checkIndex_df160_5 : decode cJ0_checkIndex_df160 5 = .ok (.invokestatic 1059, 3) := by decide +kernel
theorem dJ0_checkIndex_df160_8 : decode cJ0_checkIndex_df160 8 = .ok (.pop, 1) := by decide +kernel
theorem dJ0_checkIndex_df160_9 : decode cJ0_checkIndex_df160 9 = .ok (.return_, 1) := by decide +kernel
theorem dJ0_coder_7d493_0 : decode cJ0_coder_7d493 0 = .ok (.getstatic 38, 3) := by decide +kernel
theorem dJ0_coder_7d493_3 : decode cJ0_coder_7d493 3 = .ok (.ifCond .eq 10, 3) := by decide +kernel
theorem dJ0_coder_7d493_6 : decode cJ0_coder_7d493 6 = .ok (.aload_n 0, 1) := by decide +kernel
theorem dJ0_coder_7d493_7 : decode cJ0_coder_7d493 7 = .ok (.getfield 15, 3) := by decide +kernel
theorem dJ0_coder_7d493_10 : decode cJ0_coder_7d493 10 = .ok (.goto 4, 3) := by decide +kernel
theorem dJ0_coder_7d493_13 : decode cJ0_coder_7d493 13 = .ok (.iconst 1, 1) := by decide +kernel
theorem dJ0_coder_7d493_14 : decode cJ0_coder_7d493 14 = .ok (.ireturn, 1) := by decide +kernel
theorem dJ0_isLatin1_aae02_0 : decode cJ0_isLatin1_aae02 0 = .ok (.getstatic 38, 3) := by decide +kernel
theorem dJ0_isLatin1_aae02_3 : decode cJ0_isLatin1_aae02 3 = .ok (.ifCond .eq 14, 3) := by decide +kernel
theorem dJ0_isLatin1_aae02_6 : decode cJ0_isLatin1_aae02 6 = .ok (.aload_n 0, 1) := by decide +kernel
theorem dJ0_isLatin1_aae02_7 : decode cJ0_isLatin1_aae02 7 = .ok (.getfield 15, 3) := by decide +kernel
theorem dJ0_isLatin1_aae02_10 : decode cJ0_isLatin1_aae02 10 = .ok (.ifCond .ne 7, 3) := by decide +kernel
theorem dJ0_isLatin1_aae02_13 : decode cJ0_isLatin1_aae02 13 = .ok (.iconst 1, 1) := by decide +kernel
theorem dJ0_isLatin1_aae02_14 : decode cJ0_isLatin1_aae02 14 = .ok (.goto 4, 3) := by decide +kernel
theorem dJ0_isLatin1_aae02_17 : decode cJ0_isLatin1_aae02 17 = .ok (.iconst 0, 1) := by decide +kernel
theorem dJ0_isLatin1_aae02_18 : decode cJ0_isLatin1_aae02 18 = .ok (.ireturn, 1) := by decide +kernel
theorem dJ0_length_8abf5_0 : decode cJ0_length_8abf5 0 = .ok (.aload_n 0, 1) := by decide +kernel
theorem dJ0_length_8abf5_1 : decode cJ0_length_8abf5 1 = .ok (.getfield 9, 3) := by decide +kernel
theorem dJ0_length_8abf5_4 : decode cJ0_length_8abf5 4 = .ok (.arraylength, 1) := by decide +kernel
theorem dJ0_length_8abf5_5 : decode cJ0_length_8abf5 5 = .ok (.aload_n 0, 1) := by decide +kernel
theorem dJ0_length_8abf5_6 : decode cJ0_length_8abf5 6 = .ok (.invokevirtual 335, 3) := by decide +kernel
theorem dJ0_length_8abf5_9 : decode cJ0_length_8abf5 9 = .ok (.ishr, 1) := by decide +kernel
theorem dJ0_length_8abf5_10 : decode cJ0_length_8abf5 10 = .ok (.ireturn, 1) := by decide +kernel
theorem dJ1_charAt_3b067_0 : decode cJ1_charAt_3b067 0 = .ok (.iload_n 1, 1) := by decide +kernel
theorem dJ1_charAt_3b067_1 : decode cJ1_charAt_3b067 1 = .ok (.aload_n 0, 1) := by decide +kernel
theorem dJ1_charAt_3b067_2 : decode cJ1_charAt_3b067 2 = .ok (.arraylength, 1) := by decide +kernel
theorem dJ1_charAt_3b067_3 : decode cJ1_charAt_3b067 3 = .ok (.invokestatic 9, 3) := by decide +kernel
theorem dJ1_charAt_3b067_6 : decode cJ1_charAt_3b067 6 = .ok (.aload_n 0, 1) := by decide +kernel
theorem dJ1_charAt_3b067_7 : decode cJ1_charAt_3b067 7 = .ok (.iload_n 1, 1) := by decide +kernel
theorem dJ1_charAt_3b067_8 : decode cJ1_charAt_3b067 8 = .ok (.baload, 1) := by decide +kernel
theorem dJ1_charAt_3b067_9 : decode cJ1_charAt_3b067 9 = .ok (.sipush 255, 3) := by decide +kernel
theorem dJ1_charAt_3b067_12 : decode cJ1_charAt_3b067 12 = .ok (.iand, 1) := by decide +kernel
theorem dJ1_charAt_3b067_13 : decode cJ1_charAt_3b067 13 = .ok (.i2c, 1) := by decide +kernel
theorem dJ1_charAt_3b067_14 : decode cJ1_charAt_3b067 14 = .ok (.ireturn, 1) := by decide +kernel
theorem dJ0_charAt_5068e_0 : decode cJ0_charAt_5068e 0 = .ok (.aload_n 0, 1) := by decide +kernel
theorem dJ0_charAt_5068e_1 : decode cJ0_charAt_5068e 1 = .ok (.invokevirtual 492, 3) := by decide +kernel
theorem dJ0_charAt_5068e_4 : decode cJ0_charAt_5068e 4 = .ok (.ifCond .eq 12, 3) := by decide +kernel
theorem dJ0_charAt_5068e_7 : decode cJ0_charAt_5068e 7 = .ok (.aload_n 0, 1) := by decide +kernel
theorem dJ0_charAt_5068e_8 : decode cJ0_charAt_5068e 8 = .ok (.getfield 9, 3) := by decide +kernel
theorem dJ0_charAt_5068e_11 : decode cJ0_charAt_5068e 11 = .ok (.iload_n 1, 1) := by decide +kernel
theorem dJ0_charAt_5068e_12 : decode cJ0_charAt_5068e 12 = .ok (.invokestatic 495, 3) := by decide +kernel
theorem dJ0_charAt_5068e_15 : decode cJ0_charAt_5068e 15 = .ok (.ireturn, 1) := by decide +kernel
theorem dJ0_charAt_5068e_16 : decode cJ0_charAt_5068e 16 = .ok (.aload_n 0, 1) := by decide +kernel
theorem dJ0_charAt_5068e_17 : decode cJ0_charAt_5068e 17 = .ok (.getfield 9, 3) := by decide +kernel
theorem dJ0_charAt_5068e_20 : decode cJ0_charAt_5068e 20 = .ok (.iload_n 1, 1) := by decide +kernel
theorem dJ0_charAt_5068e_21 : decode cJ0_charAt_5068e 21 = .ok (.invokestatic 498, 3) := by decide +kernel
theorem dJ0_charAt_5068e_24 : decode cJ0_charAt_5068e 24 = .ok (.ireturn, 1) := by decide +kernel
theorem dJ5_isLatin1_aae02_0 : decode cJ5_isLatin1_aae02 0 = .ok (.getstatic 18, 3) := by decide +kernel
theorem dJ5_isLatin1_aae02_3 : decode cJ5_isLatin1_aae02 3 = .ok (.ifCond .eq 14, 3) := by decide +kernel
theorem dJ5_isLatin1_aae02_6 : decode cJ5_isLatin1_aae02 6 = .ok (.aload_n 0, 1) := by decide +kernel
theorem dJ5_isLatin1_aae02_7 : decode cJ5_isLatin1_aae02 7 = .ok (.getfield 22, 3) := by decide +kernel
theorem dJ5_isLatin1_aae02_10 : decode cJ5_isLatin1_aae02 10 = .ok (.ifCond .ne 7, 3) := by decide +kernel
theorem dJ5_isLatin1_aae02_13 : decode cJ5_isLatin1_aae02 13 = .ok (.iconst 1, 1) := by decide +kernel
theorem dJ5_isLatin1_aae02_14 : decode cJ5_isLatin1_aae02 14 = .ok (.goto 4, 3) := by decide +kernel
theorem dJ5_isLatin1_aae02_17 : decode cJ5_isLatin1_aae02 17 = .ok (.iconst 0, 1) := by decide +kernel
theorem dJ5_isLatin1_aae02_18 : decode cJ5_isLatin1_aae02 18 = .ok (.ireturn, 1) := by decide +kernel
theorem dJ5_ensureCapacityInternal_d00df_0 : decode cJ5_ensureCapacityInternal_d00df 0 = .ok (.aload_n 0, 1) := by decide +kernel
theorem dJ5_ensureCapacityInternal_d00df_1 : decode cJ5_ensureCapacityInternal_d00df 1 = .ok (.getfield 15, 3) := by decide +kernel
theorem dJ5_ensureCapacityInternal_d00df_4 : decode cJ5_ensureCapacityInternal_d00df 4 = .ok (.arraylength, 1) := by decide +kernel
theorem dJ5_ensureCapacityInternal_d00df_5 : decode cJ5_ensureCapacityInternal_d00df 5 = .ok (.aload_n 0, 1) := by decide +kernel
theorem dJ5_ensureCapacityInternal_d00df_6 : decode cJ5_ensureCapacityInternal_d00df 6 = .ok (.getfield 22, 3) := by decide +kernel
theorem dJ5_ensureCapacityInternal_d00df_9 : decode cJ5_ensureCapacityInternal_d00df 9 = .ok (.ishr, 1) := by decide +kernel
theorem dJ5_ensureCapacityInternal_d00df_10 : decode cJ5_ensureCapacityInternal_d00df 10 = .ok (.istore_n 2, 1) := by decide +kernel
theorem dJ5_ensureCapacityInternal_d00df_11 : decode cJ5_ensureCapacityInternal_d00df 11 = .ok (.iload_n 1, 1) := by decide +kernel
theorem dJ5_ensureCapacityInternal_d00df_12 : decode cJ5_ensureCapacityInternal_d00df 12 = .ok (.iload_n 2, 1) := by decide +kernel
theorem dJ5_ensureCapacityInternal_d00df_13 : decode cJ5_ensureCapacityInternal_d00df 13 = .ok (.isub, 1) := by decide +kernel
theorem dJ5_ensureCapacityInternal_d00df_14 : decode cJ5_ensureCapacityInternal_d00df 14 = .ok (.ifCond .le 24, 3) := by decide +kernel
theorem dJ5_ensureCapacityInternal_d00df_17 : decode cJ5_ensureCapacityInternal_d00df 17 = .ok (.aload_n 0, 1) := by decide +kernel
theorem dJ5_ensureCapacityInternal_d00df_18 : decode cJ5_ensureCapacityInternal_d00df 18 = .ok (.aload_n 0, 1) := by decide +kernel
theorem dJ5_ensureCapacityInternal_d00df_19 : decode cJ5_ensureCapacityInternal_d00df 19 = .ok (.getfield 15, 3) := by decide +kernel
theorem dJ5_ensureCapacityInternal_d00df_22 : decode cJ5_ensureCapacityInternal_d00df 22 = .ok (.aload_n 0, 1) := by decide +kernel
theorem dJ5_ensureCapacityInternal_d00df_23 : decode cJ5_ensureCapacityInternal_d00df 23 = .ok (.iload_n 1, 1) := by decide +kernel
theorem dJ5_ensureCapacityInternal_d00df_24 : decode cJ5_ensureCapacityInternal_d00df 24 = .ok (.invokevirtual 104, 3) := by decide +kernel
theorem dJ5_ensureCapacityInternal_d00df_27 : decode cJ5_ensureCapacityInternal_d00df 27 = .ok (.aload_n 0, 1) := by decide +kernel
theorem dJ5_ensureCapacityInternal_d00df_28 : decode cJ5_ensureCapacityInternal_d00df 28 = .ok (.getfield 22, 3) := by decide +kernel
theorem dJ5_ensureCapacityInternal_d00df_31 : decode cJ5_ensureCapacityInternal_d00df 31 = .ok (.ishl, 1) := by decide +kernel
theorem dJ5_ensureCapacityInternal_d00df_32 : decode cJ5_ensureCapacityInternal_d00df 32 = .ok (.invokestatic 108, 3) := by decide +kernel
theorem dJ5_ensureCapacityInternal_d00df_35 : decode cJ5_ensureCapacityInternal_d00df 35 = .ok (.putfield 15, 3) := by decide +kernel
theorem dJ5_ensureCapacityInternal_d00df_38 : decode cJ5_ensureCapacityInternal_d00df 38 = .ok (.return_, 1) := by decide +kernel
theorem dJ5_append_3fe6f_0 : decode cJ5_append_3fe6f 0 = .ok (.aload_n 0, 1) := by decide +kernel
theorem dJ5_append_3fe6f_1 : decode cJ5_append_3fe6f 1 = .ok (.aload_n 0, 1) := by decide +kernel
theorem dJ5_append_3fe6f_2 : decode cJ5_append_3fe6f 2 = .ok (.getfield 79, 3) := by decide +kernel
theorem dJ5_append_3fe6f_5 : decode cJ5_append_3fe6f 5 = .ok (.iconst 1, 1) := by decide +kernel
theorem dJ5_append_3fe6f_6 : decode cJ5_append_3fe6f 6 = .ok (.iadd, 1) := by decide +kernel
theorem dJ5_append_3fe6f_7 : decode cJ5_append_3fe6f 7 = .ok (.invokevirtual 100, 3) := by decide +kernel
theorem dJ5_append_3fe6f_10 : decode cJ5_append_3fe6f 10 = .ok (.aload_n 0, 1) := by decide +kernel
theorem dJ5_append_3fe6f_11 : decode cJ5_append_3fe6f 11 = .ok (.invokevirtual 83, 3) := by decide +kernel
theorem dJ5_append_3fe6f_14 : decode cJ5_append_3fe6f 14 = .ok (.ifCond .eq 31, 3) := by decide +kernel
theorem dJ5_append_3fe6f_17 : decode cJ5_append_3fe6f 17 = .ok (.iload_n 1, 1) := by decide +kernel
theorem dJ5_append_3fe6f_18 : decode cJ5_append_3fe6f 18 = .ok (.invokestatic 191, 3) := by decide +kernel
theorem dJ5_append_3fe6f_21 : decode cJ5_append_3fe6f 21 = .ok (.ifCond .eq 24, 3) := by decide +kernel
theorem dJ5_append_3fe6f_24 : decode cJ5_append_3fe6f 24 = .ok (.aload_n 0, 1) := by decide +kernel
theorem dJ5_append_3fe6f_25 : decode cJ5_append_3fe6f 25 = .ok (.getfield 15, 3) := by decide +kernel
theorem dJ5_append_3fe6f_28 : decode cJ5_append_3fe6f 28 = .ok (.aload_n 0, 1) := by decide +kernel
theorem dJ5_append_3fe6f_29 : decode cJ5_append_3fe6f 29 = .ok (.dup, 1) := by decide +kernel
theorem dJ5_append_3fe6f_30 : decode cJ5_append_3fe6f 30 = .ok (.getfield 79, 3) := by decide +kernel
theorem dJ5_append_3fe6f_33 : decode cJ5_append_3fe6f 33 = .ok (.dup_x1, 1) := by decide +kernel
theorem dJ5_append_3fe6f_34 : decode cJ5_append_3fe6f 34 = .ok (.iconst 1, 1) := by decide +kernel
theorem dJ5_append_3fe6f_35 : decode cJ5_append_3fe6f 35 = .ok (.iadd, 1) := by decide +kernel
theorem dJ5_append_3fe6f_36 : decode cJ5_append_3fe6f 36 = .ok (.putfield 79, 3) := by decide +kernel
theorem dJ5_append_3fe6f_39 : decode cJ5_append_3fe6f 39 = .ok (.iload_n 1, 1) := by decide +kernel
theorem dJ5_append_3fe6f_40 : decode cJ5_append_3fe6f 40 = .ok (.i2b, 1) := by decide +kernel
theorem dJ5_append_3fe6f_41 : decode cJ5_append_3fe6f 41 = .ok (.bastore, 1) := by decide +kernel
theorem dJ5_append_3fe6f_42 : decode cJ5_append_3fe6f 42 = .ok (.goto 33, 3) := by decide +kernel
theorem dJ5_append_3fe6f_45 : decode cJ5_append_3fe6f 45 = .ok (.aload_n 0, 1) := by decide +kernel
theorem dJ5_append_3fe6f_46 : decode cJ5_append_3fe6f 46 = .ok (.invokevirtual 83, 3) := by decide +kernel
theorem dJ5_append_3fe6f_49 : decode cJ5_append_3fe6f 49 = .ok (.ifCond .eq 7, 3) := by decide +kernel
theorem dJ5_append_3fe6f_52 : decode cJ5_append_3fe6f 52 = .ok (.aload_n 0, 1) := by decide +kernel
theorem dJ5_append_3fe6f_53 : decode cJ5_append_3fe6f 53 = .ok (.invokevirtual 195, 3) := by decide +kernel
theorem dJ5_append_3fe6f_56 : decode cJ5_append_3fe6f 56 = .ok (.aload_n 0, 1) := by decide +kernel
theorem dJ5_append_3fe6f_57 : decode cJ5_append_3fe6f 57 = .ok (.getfield 15, 3) := by decide +kernel
theorem dJ5_append_3fe6f_60 : decode cJ5_append_3fe6f 60 = .ok (.aload_n 0, 1) := by decide +kernel
theorem dJ5_append_3fe6f_61 : decode cJ5_append_3fe6f 61 = .ok (.dup, 1) := by decide +kernel
theorem dJ5_append_3fe6f_62 : decode cJ5_append_3fe6f 62 = .ok (.getfield 79, 3) := by decide +kernel
theorem dJ5_append_3fe6f_65 : decode cJ5_append_3fe6f 65 = .ok (.dup_x1, 1) := by decide +kernel
theorem dJ5_append_3fe6f_66 : decode cJ5_append_3fe6f 66 = .ok (.iconst 1, 1) := by decide +kernel
theorem dJ5_append_3fe6f_67 : decode cJ5_append_3fe6f 67 = .ok (.iadd, 1) := by decide +kernel
theorem dJ5_append_3fe6f_68 : decode cJ5_append_3fe6f 68 = .ok (.putfield 79, 3) := by decide +kernel
theorem dJ5_append_3fe6f_71 : decode cJ5_append_3fe6f 71 = .ok (.iload_n 1, 1) := by decide +kernel
theorem dJ5_append_3fe6f_72 : decode cJ5_append_3fe6f 72 = .ok (.invokestatic 197, 3) := by decide +kernel
theorem dJ5_append_3fe6f_75 : decode cJ5_append_3fe6f 75 = .ok (.aload_n 0, 1) := by decide +kernel
theorem dJ5_append_3fe6f_76 : decode cJ5_append_3fe6f 76 = .ok (.areturn, 1) := by decide +kernel
theorem dJ4_append_cf468_0 : decode cJ4_append_cf468 0 = .ok (.aload_n 0, 1) := by decide +kernel
theorem dJ4_append_cf468_1 : decode cJ4_append_cf468 1 = .ok (.iload_n 1, 1) := by decide +kernel
theorem dJ4_append_cf468_2 : decode cJ4_append_cf468 2 = .ok (.invokespecial 50, 3) := by decide +kernel
theorem dJ4_append_cf468_5 : decode cJ4_append_cf468 5 = .ok (.pop, 1) := by decide +kernel
theorem dJ4_append_cf468_6 : decode cJ4_append_cf468 6 = .ok (.aload_n 0, 1) := by decide +kernel
theorem dJ4_append_cf468_7 : decode cJ4_append_cf468 7 = .ok (.areturn, 1) := by decide +kernel
theorem dJ6_stringSize_0f7a4_0 : decode cJ6_stringSize_0f7a4 0 = .ok (.iconst 1, 1) := by decide +kernel
theorem dJ6_stringSize_0f7a4_1 : decode cJ6_stringSize_0f7a4 1 = .ok (.istore_n 1, 1) := by decide +kernel
theorem dJ6_stringSize_0f7a4_2 : decode cJ6_stringSize_0f7a4 2 = .ok (.iload_n 0, 1) := by decide +kernel
theorem dJ6_stringSize_0f7a4_3 : decode cJ6_stringSize_0f7a4 3 = .ok (.ifCond .lt 8, 3) := by decide +kernel
theorem dJ6_stringSize_0f7a4_6 : decode cJ6_stringSize_0f7a4 6 = .ok (.iconst 0, 1) := by decide +kernel
theorem dJ6_stringSize_0f7a4_7 : decode cJ6_stringSize_0f7a4 7 = .ok (.istore_n 1, 1) := by decide +kernel
theorem dJ6_stringSize_0f7a4_8 : decode cJ6_stringSize_0f7a4 8 = .ok (.iload_n 0, 1) := by decide +kernel
theorem dJ6_stringSize_0f7a4_9 : decode cJ6_stringSize_0f7a4 9 = .ok (.ineg, 1) := by decide +kernel
theorem dJ6_stringSize_0f7a4_10 : decode cJ6_stringSize_0f7a4 10 = .ok (.istore_n 0, 1) := by decide +kernel
theorem dJ6_stringSize_0f7a4_11 : decode cJ6_stringSize_0f7a4 11 = .ok (.bipush (-10), 2) := by decide +kernel
theorem dJ6_stringSize_0f7a4_13 : decode cJ6_stringSize_0f7a4 13 = .ok (.istore_n 2, 1) := by decide +kernel
theorem dJ6_stringSize_0f7a4_14 : decode cJ6_stringSize_0f7a4 14 = .ok (.iconst 1, 1) := by decide +kernel
theorem dJ6_stringSize_0f7a4_15 : decode cJ6_stringSize_0f7a4 15 = .ok (.istore_n 3, 1) := by decide +kernel
theorem dJ6_stringSize_0f7a4_16 : decode cJ6_stringSize_0f7a4 16 = .ok (.iload_n 3, 1) := by decide +kernel
theorem dJ6_stringSize_0f7a4_17 : decode cJ6_stringSize_0f7a4 17 = .ok (.bipush 10, 2) := by decide +kernel
theorem dJ6_stringSize_0f7a4_19 : decode cJ6_stringSize_0f7a4 19 = .ok (.if_icmp .ge 23, 3) := by decide +kernel
theorem dJ6_stringSize_0f7a4_22 : decode cJ6_stringSize_0f7a4 22 = .ok (.iload_n 0, 1) := by decide +kernel
theorem dJ6_stringSize_0f7a4_23 : decode cJ6_stringSize_0f7a4 23 = .ok (.iload_n 2, 1) := by decide +kernel
theorem dJ6_stringSize_0f7a4_24 : decode cJ6_stringSize_0f7a4 24 = .ok (.if_icmp .le 7, 3) := by decide +kernel
theorem dJ6_stringSize_0f7a4_27 : decode cJ6_stringSize_0f7a4 27 = .ok (.iload_n 3, 1) := by decide +kernel
theorem dJ6_stringSize_0f7a4_28 : decode cJ6_stringSize_0f7a4 28 = .ok (.iload_n 1, 1) := by decide +kernel
theorem dJ6_stringSize_0f7a4_29 : decode cJ6_stringSize_0f7a4 29 = .ok (.iadd, 1) := by decide +kernel
theorem dJ6_stringSize_0f7a4_30 : decode cJ6_stringSize_0f7a4 30 = .ok (.ireturn, 1) := by decide +kernel
theorem dJ6_stringSize_0f7a4_31 : decode cJ6_stringSize_0f7a4 31 = .ok (.bipush 10, 2) := by decide +kernel
theorem dJ6_stringSize_0f7a4_33 : decode cJ6_stringSize_0f7a4 33 = .ok (.iload_n 2, 1) := by decide +kernel
theorem dJ6_stringSize_0f7a4_34 : decode cJ6_stringSize_0f7a4 34 = .ok (.imul, 1) := by decide +kernel
theorem dJ6_stringSize_0f7a4_35 : decode cJ6_stringSize_0f7a4 35 = .ok (.istore_n 2, 1) := by decide +kernel
theorem dJ6_stringSize_0f7a4_36 : decode cJ6_stringSize_0f7a4 36 = .ok (.iinc 3 1, 3) := by decide +kernel
theorem dJ6_stringSize_0f7a4_39 : decode cJ6_stringSize_0f7a4 39 = .ok (.goto (-23), 3) := by decide +kernel
theorem dJ6_stringSize_0f7a4_42 : decode cJ6_stringSize_0f7a4 42 = .ok (.bipush 10, 2) := by decide +kernel
theorem dJ6_stringSize_0f7a4_44 : decode cJ6_stringSize_0f7a4 44 = .ok (.iload_n 1, 1) := by decide +kernel
theorem dJ6_stringSize_0f7a4_45 : decode cJ6_stringSize_0f7a4 45 = .ok (.iadd, 1) := by decide +kernel
theorem dJ6_stringSize_0f7a4_46 : decode cJ6_stringSize_0f7a4 46 = .ok (.ireturn, 1) := by decide +kernel
theorem dJ6_getChars_ba4f3_0 : decode cJ6_getChars_ba4f3 0 = .ok (.iload_n 1, 1) := by decide +kernel
theorem dJ6_getChars_ba4f3_1 : decode cJ6_getChars_ba4f3 1 = .ok (.istore 5, 2) := by decide +kernel
theorem dJ6_getChars_ba4f3_3 : decode cJ6_getChars_ba4f3 3 = .ok (.iload_n 0, 1) := by decide +kernel
theorem dJ6_getChars_ba4f3_4 : decode cJ6_getChars_ba4f3 4 = .ok (.ifCond .ge 7, 3) := by decide +kernel
theorem dJ6_getChars_ba4f3_7 : decode cJ6_getChars_ba4f3 7 = .ok (.iconst 1, 1) := by decide +kernel
theorem dJ6_getChars_ba4f3_8 : decode cJ6_getChars_ba4f3 8 = .ok (.goto 4, 3) := by decide +kernel
theorem dJ6_getChars_ba4f3_11 : decode cJ6_getChars_ba4f3 11 = .ok (.iconst 0, 1) := by decide +kernel
theorem dJ6_getChars_ba4f3_12 : decode cJ6_getChars_ba4f3 12 = .ok (.istore 6, 2) := by decide +kernel
theorem dJ6_getChars_ba4f3_14 : decode cJ6_getChars_ba4f3 14 = .ok (.iload 6, 2) := by decide +kernel
theorem dJ6_getChars_ba4f3_16 : decode cJ6_getChars_ba4f3 16 = .ok (.ifCond .ne 6, 3) := by decide +kernel
theorem dJ6_getChars_ba4f3_19 : decode cJ6_getChars_ba4f3 19 = .ok (.iload_n 0, 1) := by decide +kernel
theorem dJ6_getChars_ba4f3_20 : decode cJ6_getChars_ba4f3 20 = .ok (.ineg, 1) := by decide +kernel
theorem dJ6_getChars_ba4f3_21 : decode cJ6_getChars_ba4f3 21 = .ok (.istore_n 0, 1) := by decide +kernel
theorem dJ6_getChars_ba4f3_22 : decode cJ6_getChars_ba4f3 22 = .ok (.iload_n 0, 1) := by decide +kernel
theorem dJ6_getChars_ba4f3_23 : decode cJ6_getChars_ba4f3 23 = .ok (.bipush (-100), 2) := by decide +kernel
theorem dJ6_getChars_ba4f3_25 : decode cJ6_getChars_ba4f3 25 = .ok (.if_icmp .gt 47, 3) := by decide +kernel
theorem dJ6_getChars_ba4f3_28 : decode cJ6_getChars_ba4f3 28 = .ok (.iload_n 0, 1) := by decide +kernel
theorem dJ6_getChars_ba4f3_29 : decode cJ6_getChars_ba4f3 29 = .ok (.bipush 100, 2) := by decide +kernel
theorem dJ6_getChars_ba4f3_31 : decode cJ6_getChars_ba4f3 31 = .ok (.idiv, 1) := by decide +kernel
theorem dJ6_getChars_ba4f3_32 : decode cJ6_getChars_ba4f3 32 = .ok (.istore_n 3, 1) := by decide +kernel
theorem dJ6_getChars_ba4f3_33 : decode cJ6_getChars_ba4f3 33 = .ok (.iload_n 3, 1) := by decide +kernel
theorem dJ6_getChars_ba4f3_34 : decode cJ6_getChars_ba4f3 34 = .ok (.bipush 100, 2) := by decide +kernel
theorem dJ6_getChars_ba4f3_36 : decode cJ6_getChars_ba4f3 36 = .ok (.imul, 1) := by decide +kernel
theorem dJ6_getChars_ba4f3_37 : decode cJ6_getChars_ba4f3 37 = .ok (.iload_n 0, 1) := by decide +kernel
theorem dJ6_getChars_ba4f3_38 : decode cJ6_getChars_ba4f3 38 = .ok (.isub, 1) := by decide +kernel
theorem dJ6_getChars_ba4f3_39 : decode cJ6_getChars_ba4f3 39 = .ok (.istore 4, 2) := by decide +kernel
theorem dJ6_getChars_ba4f3_41 : decode cJ6_getChars_ba4f3 41 = .ok (.iload_n 3, 1) := by decide +kernel
theorem dJ6_getChars_ba4f3_42 : decode cJ6_getChars_ba4f3 42 = .ok (.istore_n 0, 1) := by decide +kernel
theorem dJ6_getChars_ba4f3_43 : decode cJ6_getChars_ba4f3 43 = .ok (.aload_n 2, 1) := by decide +kernel
theorem dJ6_getChars_ba4f3_44 : decode cJ6_getChars_ba4f3 44 = .ok (.iinc 5 (-1), 3) := by decide +kernel
theorem dJ6_getChars_ba4f3_47 : decode cJ6_getChars_ba4f3 47 = .ok (.iload 5, 2) := by decide +kernel
theorem dJ6_getChars_ba4f3_49 : decode cJ6_getChars_ba4f3 49 = .ok (.getstatic 83, 3) := by decide +kernel
theorem dJ6_getChars_ba4f3_52 : decode cJ6_getChars_ba4f3 52 = .ok (.iload 4, 2) := by decide +kernel
theorem dJ6_getChars_ba4f3_54 : decode cJ6_getChars_ba4f3 54 = .ok (.baload, 1) := by decide +kernel
theorem dJ6_getChars_ba4f3_55 : decode cJ6_getChars_ba4f3 55 = .ok (.bastore, 1) := by decide +kernel
theorem dJ6_getChars_ba4f3_56 : decode cJ6_getChars_ba4f3 56 = .ok (.aload_n 2, 1) := by decide +kernel
theorem dJ6_getChars_ba4f3_57 : decode cJ6_getChars_ba4f3 57 = .ok (.iinc 5 (-1), 3) := by decide +kernel
theorem dJ6_getChars_ba4f3_60 : decode cJ6_getChars_ba4f3 60 = .ok (.iload 5, 2) := by decide +kernel
theorem dJ6_getChars_ba4f3_62 : decode cJ6_getChars_ba4f3 62 = .ok (.getstatic 87, 3) := by decide +kernel
theorem dJ6_getChars_ba4f3_65 : decode cJ6_getChars_ba4f3 65 = .ok (.iload 4, 2) := by decide +kernel
theorem dJ6_getChars_ba4f3_67 : decode cJ6_getChars_ba4f3 67 = .ok (.baload, 1) := by decide +kernel
theorem dJ6_getChars_ba4f3_68 : decode cJ6_getChars_ba4f3 68 = .ok (.bastore, 1) := by decide +kernel
theorem dJ6_getChars_ba4f3_69 : decode cJ6_getChars_ba4f3 69 = .ok (.goto (-47), 3) := by decide +kernel
theorem dJ6_getChars_ba4f3_72 : decode cJ6_getChars_ba4f3 72 = .ok (.aload_n 2, 1) := by decide +kernel
theorem dJ6_getChars_ba4f3_73 : decode cJ6_getChars_ba4f3 73 = .ok (.iinc 5 (-1), 3) := by decide +kernel
theorem dJ6_getChars_ba4f3_76 : decode cJ6_getChars_ba4f3 76 = .ok (.iload 5, 2) := by decide +kernel
theorem dJ6_getChars_ba4f3_78 : decode cJ6_getChars_ba4f3 78 = .ok (.getstatic 83, 3) := by decide +kernel
theorem dJ6_getChars_ba4f3_81 : decode cJ6_getChars_ba4f3 81 = .ok (.iload_n 0, 1) := by decide +kernel
theorem dJ6_getChars_ba4f3_82 : decode cJ6_getChars_ba4f3 82 = .ok (.ineg, 1) := by decide +kernel
theorem dJ6_getChars_ba4f3_83 : decode cJ6_getChars_ba4f3 83 = .ok (.baload, 1) := by decide +kernel
theorem dJ6_getChars_ba4f3_84 : decode cJ6_getChars_ba4f3 84 = .ok (.bastore, 1) := by decide +kernel
theorem dJ6_getChars_ba4f3_85 : decode cJ6_getChars_ba4f3 85 = .ok (.iload_n 0, 1) := by decide +kernel
theorem dJ6_getChars_ba4f3_86 : decode cJ6_getChars_ba4f3 86 = .ok (.bipush (-9), 2) := by decide +kernel
theorem dJ6_getChars_ba4f3_88 : decode cJ6_getChars_ba4f3 88 = .ok (.if_icmp .ge 16, 3) := by decide +kernel
theorem dJ6_getChars_ba4f3_91 : decode cJ6_getChars_ba4f3 91 = .ok (.aload_n 2, 1) := by decide +kernel
theorem dJ6_getChars_ba4f3_92 : decode cJ6_getChars_ba4f3 92 = .ok (.iinc 5 (-1), 3) := by decide +kernel
theorem dJ6_getChars_ba4f3_95 : decode cJ6_getChars_ba4f3 95 = .ok (.iload 5, 2) := by decide +kernel
theorem dJ6_getChars_ba4f3_97 : decode cJ6_getChars_ba4f3 97 = .ok (.getstatic 87, 3) := by decide +kernel
theorem dJ6_getChars_ba4f3_100 : decode cJ6_getChars_ba4f3 100 = .ok (.iload_n 0, 1) := by decide +kernel
theorem dJ6_getChars_ba4f3_101 : decode cJ6_getChars_ba4f3 101 = .ok (.ineg, 1) := by decide +kernel
theorem dJ6_getChars_ba4f3_102 : decode cJ6_getChars_ba4f3 102 = .ok (.baload, 1) := by decide +kernel
theorem dJ6_getChars_ba4f3_103 : decode cJ6_getChars_ba4f3 103 = .ok (.bastore, 1) := by decide +kernel
theorem dJ6_getChars_ba4f3_104 : decode cJ6_getChars_ba4f3 104 = .ok (.iload 6, 2) := by decide +kernel
theorem dJ6_getChars_ba4f3_106 : decode cJ6_getChars_ba4f3 106 = .ok (.ifCond .eq 12, 3) := by decide +kernel
theorem dJ6_getChars_ba4f3_109 : decode cJ6_getChars_ba4f3 109 = .ok (.aload_n 2, 1) := by decide +kernel
theorem dJ6_getChars_ba4f3_110 : decode cJ6_getChars_ba4f3 110 = .ok (.iinc 5 (-1), 3) := by decide +kernel
theorem dJ6_getChars_ba4f3_113 : decode cJ6_getChars_ba4f3 113 = .ok (.iload 5, 2) := by decide +kernel
theorem dJ6_getChars_ba4f3_115 : decode cJ6_getChars_ba4f3 115 = .ok (.bipush 45, 2) := by decide +kernel
theorem dJ6_getChars_ba4f3_117 : decode cJ6_getChars_ba4f3 117 = .ok (.bastore, 1) := by decide +kernel
theorem dJ6_getChars_ba4f3_118 : decode cJ6_getChars_ba4f3 118 = .ok (.iload 5, 2) := by decide +kernel
theorem dJ6_getChars_ba4f3_120 : decode cJ6_getChars_ba4f3 120 = .ok (.ireturn, 1) := by decide +kernel
theorem dJ5_append_c97b9_0 : decode cJ5_append_c97b9 0 = .ok (.aload_n 0, 1) := by decide +kernel
theorem dJ5_append_c97b9_1 : decode cJ5_append_c97b9 1 = .ok (.getfield 79, 3) := by decide +kernel
theorem dJ5_append_c97b9_4 : decode cJ5_append_c97b9 4 = .ok (.istore_n 2, 1) := by decide +kernel
theorem dJ5_append_c97b9_5 : decode cJ5_append_c97b9 5 = .ok (.iload_n 2, 1) := by decide +kernel
theorem dJ5_append_c97b9_6 : decode cJ5_append_c97b9 6 = .ok (.iload_n 1, 1) := by decide +kernel
theorem dJ5_append_c97b9_7 : decode cJ5_append_c97b9 7 = .ok (.invokestatic 245, 3) := by decide +kernel
theorem dJ5_append_c97b9_10 : decode cJ5_append_c97b9 10 = .ok (.iadd, 1) := by decide +kernel
theorem dJ5_append_c97b9_11 : decode cJ5_append_c97b9 11 = .ok (.istore_n 3, 1) := by decide +kernel
theorem dJ5_append_c97b9_12 : decode cJ5_append_c97b9 12 = .ok (.aload_n 0, 1) := by decide +kernel
theorem dJ5_append_c97b9_13 : decode cJ5_append_c97b9 13 = .ok (.iload_n 3, 1) := by decide +kernel
theorem dJ5_append_c97b9_14 : decode cJ5_append_c97b9 14 = .ok (.invokevirtual 100, 3) := by decide +kernel
theorem dJ5_append_c97b9_17 : decode cJ5_append_c97b9 17 = .ok (.aload_n 0, 1) := by decide +kernel
theorem dJ5_append_c97b9_18 : decode cJ5_append_c97b9 18 = .ok (.invokevirtual 83, 3) := by decide +kernel
theorem dJ5_append_c97b9_21 : decode cJ5_append_c97b9 21 = .ok (.ifCond .eq 16, 3) := by decide +kernel
theorem dJ5_append_c97b9_24 : decode cJ5_append_c97b9 24 = .ok (.iload_n 1, 1) := by decide +kernel
theorem dJ5_append_c97b9_25 : decode cJ5_append_c97b9 25 = .ok (.iload_n 3, 1) := by decide +kernel
theorem dJ5_append_c97b9_26 : decode cJ5_append_c97b9 26 = .ok (.aload_n 0, 1) := by decide +kernel
theorem dJ5_append_c97b9_27 : decode cJ5_append_c97b9 27 = .ok (.getfield 15, 3) := by decide +kernel
theorem dJ5_append_c97b9_30 : decode cJ5_append_c97b9 30 = .ok (.invokestatic 248, 3) := by decide +kernel
theorem dJ5_append_c97b9_33 : decode cJ5_append_c97b9 33 = .ok (.pop, 1) := by decide +kernel
theorem dJ5_append_c97b9_34 : decode cJ5_append_c97b9 34 = .ok (.goto 14, 3) := by decide +kernel
theorem dJ5_append_c97b9_37 : decode cJ5_append_c97b9 37 = .ok (.iload_n 1, 1) := by decide +kernel
theorem dJ5_append_c97b9_38 : decode cJ5_append_c97b9 38 = .ok (.iload_n 2, 1) := by decide +kernel
theorem dJ5_append_c97b9_39 : decode cJ5_append_c97b9 39 = .ok (.iload_n 3, 1) := by decide +kernel
theorem dJ5_append_c97b9_40 : decode cJ5_append_c97b9 40 = .ok (.aload_n 0, 1) := by decide +kernel
theorem dJ5_append_c97b9_41 : decode cJ5_append_c97b9 41 = .ok (.getfield 15, 3) := by decide +kernel
theorem dJ5_append_c97b9_44 : decode cJ5_append_c97b9 44 = .ok (.invokestatic 251, 3) := by decide +kernel
theorem dJ5_append_c97b9_47 : decode cJ5_append_c97b9 47 = .ok (.pop, 1) := by decide +kernel
theorem dJ5_append_c97b9_48 : decode cJ5_append_c97b9 48 = .ok (.aload_n 0, 1) := by decide +kernel
theorem dJ5_append_c97b9_49 : decode cJ5_append_c97b9 49 = .ok (.iload_n 3, 1) := by decide +kernel
theorem dJ5_append_c97b9_50 : decode cJ5_append_c97b9 50 = .ok (.putfield 79, 3) := by decide +kernel
theorem dJ5_append_c97b9_53 : decode cJ5_append_c97b9 53 = .ok (.aload_n 0, 1) := by decide +kernel
theorem dJ5_append_c97b9_54 : decode cJ5_append_c97b9 54 = .ok (.areturn, 1) := by decide +kernel
theorem dJ4_append_bf812_0 : decode cJ4_append_bf812 0 = .ok (.aload_n 0, 1) := by decide +kernel
theorem dJ4_append_bf812_1 : decode cJ4_append_bf812 1 = .ok (.iload_n 1, 1) := by decide +kernel
theorem dJ4_append_bf812_2 : decode cJ4_append_bf812 2 = .ok (.invokespecial 53, 3) := by decide +kernel
theorem dJ4_append_bf812_5 : decode cJ4_append_bf812 5 = .ok (.pop, 1) := by decide +kernel
theorem dJ4_append_bf812_6 : decode cJ4_append_bf812 6 = .ok (.aload_n 0, 1) := by decide +kernel
theorem dJ4_append_bf812_7 : decode cJ4_append_bf812 7 = .ok (.areturn, 1) := by decide +kernel
theorem dJ5_setLength_d00df_0 : decode cJ5_setLength_d00df 0 = .ok (.iload_n 1, 1) := by decide +kernel
theorem dJ5_setLength_d00df_1 : decode cJ5_setLength_d00df 1 = .ok (.ifCond .ge 12, 3) := by decide +kernel
theorem dJ5_setLength_d00df_4 : decode cJ5_setLength_d00df 4 = .ok (.new 129, 3) := by decide +kernel
theorem dJ5_setLength_d00df_7 : decode cJ5_setLength_d00df 7 = .ok (.dup, 1) := by decide +kernel
theorem dJ5_setLength_d00df_8 : decode cJ5_setLength_d00df 8 = .ok (.iload_n 1, 1) := by decide +kernel
theorem dJ5_setLength_d00df_9 : decode cJ5_setLength_d00df 9 = .ok (.invokespecial 131, 3) := by decide +kernel
theorem dJ5_setLength_d00df_12 : decode cJ5_setLength_d00df 12 = .ok (.athrow, 1) := by decide +kernel
theorem dJ5_setLength_d00df_13 : decode cJ5_setLength_d00df 13 = .ok (.aload_n 0, 1) := by decide +kernel
theorem dJ5_setLength_d00df_14 : decode cJ5_setLength_d00df 14 = .ok (.iload_n 1, 1) := by decide +kernel
theorem dJ5_setLength_d00df_15 : decode cJ5_setLength_d00df 15 = .ok (.invokevirtual 100, 3) := by decide +kernel
theorem dJ5_setLength_d00df_18 : decode cJ5_setLength_d00df 18 = .ok (.aload_n 0, 1) := by decide +kernel
theorem dJ5_setLength_d00df_19 : decode cJ5_setLength_d00df 19 = .ok (.getfield 79, 3) := by decide +kernel
theorem dJ5_setLength_d00df_22 : decode cJ5_setLength_d00df 22 = .ok (.iload_n 1, 1) := by decide +kernel
theorem dJ5_setLength_d00df_23 : decode cJ5_setLength_d00df 23 = .ok (.if_icmp .ge 40, 3) := by decide +kernel
theorem dJ5_setLength_d00df_26 : decode cJ5_setLength_d00df 26 = .ok (.aload_n 0, 1) := by decide +kernel
theorem dJ5_setLength_d00df_27 : decode cJ5_setLength_d00df 27 = .ok (.invokevirtual 83, 3) := by decide +kernel
theorem dJ5_setLength_d00df_30 : decode cJ5_setLength_d00df 30 = .ok (.ifCond .eq 18, 3) := by decide +kernel
theorem dJ5_setLength_d00df_33 : decode cJ5_setLength_d00df 33 = .ok (.aload_n 0, 1) := by decide +kernel
theorem dJ5_setLength_d00df_34 : decode cJ5_setLength_d00df 34 = .ok (.getfield 15, 3) := by decide +kernel
theorem dJ5_setLength_d00df_37 : decode cJ5_setLength_d00df 37 = .ok (.aload_n 0, 1) := by decide +kernel
theorem dJ5_setLength_d00df_38 : decode cJ5_setLength_d00df 38 = .ok (.getfield 79, 3) := by decide +kernel
theorem dJ5_setLength_d00df_41 : decode cJ5_setLength_d00df 41 = .ok (.iload_n 1, 1) := by decide +kernel
theorem dJ5_setLength_d00df_42 : decode cJ5_setLength_d00df 42 = .ok (.invokestatic 133, 3) := by decide +kernel
theorem dJ5_setLength_d00df_45 : decode cJ5_setLength_d00df 45 = .ok (.goto 31, 3) := by decide +kernel
theorem dJ5_setLength_d00df_48 : decode cJ5_setLength_d00df 48 = .ok (.aload_n 0, 1) := by decide +kernel
theorem dJ5_setLength_d00df_49 : decode cJ5_setLength_d00df 49 = .ok (.getfield 15, 3) := by decide +kernel
theorem dJ5_setLength_d00df_52 : decode cJ5_setLength_d00df 52 = .ok (.aload_n 0, 1) := by decide +kernel
theorem dJ5_setLength_d00df_53 : decode cJ5_setLength_d00df 53 = .ok (.getfield 79, 3) := by decide +kernel
theorem dJ5_setLength_d00df_56 : decode cJ5_setLength_d00df 56 = .ok (.iload_n 1, 1) := by decide +kernel
theorem dJ5_setLength_d00df_57 : decode cJ5_setLength_d00df 57 = .ok (.invokestatic 137, 3) := by decide +kernel
theorem dJ5_setLength_d00df_60 : decode cJ5_setLength_d00df 60 = .ok (.goto 16, 3) := by decide +kernel
theorem dJ5_setLength_d00df_63 : decode cJ5_setLength_d00df 63 = .ok (.aload_n 0, 1) := by decide +kernel
theorem dJ5_setLength_d00df_64 : decode cJ5_setLength_d00df 64 = .ok (.getfield 79, 3) := by decide +kernel
theorem dJ5_setLength_d00df_67 : decode cJ5_setLength_d00df 67 = .ok (.iload_n 1, 1) := by decide +kernel
theorem dJ5_setLength_d00df_68 : decode cJ5_setLength_d00df 68 = .ok (.if_icmp .le 8, 3) := by decide +kernel
theorem dJ5_setLength_d00df_71 : decode cJ5_setLength_d00df 71 = .ok (.aload_n 0, 1) := by decide +kernel
theorem dJ5_setLength_d00df_72 : decode cJ5_setLength_d00df 72 = .ok (.iconst 1, 1) := by decide +kernel
theorem dJ5_setLength_d00df_73 : decode cJ5_setLength_d00df 73 = .ok (.putfield 73, 3) := by decide +kernel
theorem dJ5_setLength_d00df_76 : decode cJ5_setLength_d00df 76 = .ok (.aload_n 0, 1) := by decide +kernel
theorem dJ5_setLength_d00df_77 : decode cJ5_setLength_d00df 77 = .ok (.iload_n 1, 1) := by decide +kernel
theorem dJ5_setLength_d00df_78 : decode cJ5_setLength_d00df 78 = .ok (.putfield 79, 3) := by decide +kernel
theorem dJ5_setLength_d00df_81 : decode cJ5_setLength_d00df 81 = .ok (.return_, 1) := by decide +kernel
theorem dJ4_setLength_d00df_0 : decode cJ4_setLength_d00df 0 = .ok (.aload_n 0, 1) := by decide +kernel
theorem dJ4_setLength_d00df_1 : decode cJ4_setLength_d00df 1 = .ok (.iload_n 1, 1) := by decide +kernel
theorem dJ4_setLength_d00df_2 : decode cJ4_setLength_d00df 2 = .ok (.invokespecial 333, 3) := by decide +kernel
theorem dJ4_setLength_d00df_5 : decode cJ4_setLength_d00df 5 = .ok (.return_, 1) := by decide +kernel
theorem dJ5_length_8abf5_0 : decode cJ5_length_8abf5 0 = .ok (.aload_n 0, 1) := by decide +kernel
theorem dJ5_length_8abf5_1 : decode cJ5_length_8abf5 1 = .ok (.getfield 79, 3) := by decide +kernel
theorem dJ5_length_8abf5_4 : decode cJ5_length_8abf5 4 = .ok (.ireturn, 1) := by decide +kernel
theorem dJ4_length_8abf5_0 : decode cJ4_length_8abf5 0 = .ok (.aload_n 0, 1) := by decide +kernel
theorem dJ4_length_8abf5_1 : decode cJ4_length_8abf5 1 = .ok (.invokespecial 343, 3) := by decide +kernel
theorem dJ4_length_8abf5_4 : decode cJ4_length_8abf5 4 = .ok (.ireturn, 1) := by decide +kernel
theorem dJ5_charAt_5068e_0 : decode cJ5_charAt_5068e 0 = .ok (.aload_n 0, 1) := by decide +kernel
theorem dJ5_charAt_5068e_1 : decode cJ5_charAt_5068e 1 = .ok (.getfield 22, 3) := by decide +kernel
theorem dJ5_charAt_5068e_4 : decode cJ5_charAt_5068e 4 = .ok (.istore_n 2, 1) := by decide +kernel
theorem dJ5_charAt_5068e_5 : decode cJ5_charAt_5068e 5 = .ok (.aload_n 0, 1) := by decide +kernel
theorem dJ5_charAt_5068e_6 : decode cJ5_charAt_5068e 6 = .ok (.getfield 15, 3) := by decide +kernel
theorem dJ5_charAt_5068e_9 : decode cJ5_charAt_5068e 9 = .ok (.astore_n 3, 1) := by decide +kernel
theorem dJ5_charAt_5068e_10 : decode cJ5_charAt_5068e 10 = .ok (.aload_n 0, 1) := by decide +kernel
theorem dJ5_charAt_5068e_11 : decode cJ5_charAt_5068e 11 = .ok (.getfield 79, 3) := by decide +kernel
theorem dJ5_charAt_5068e_14 : decode cJ5_charAt_5068e 14 = .ok (.aload_n 3, 1) := by decide +kernel
theorem dJ5_charAt_5068e_15 : decode cJ5_charAt_5068e 15 = .ok (.arraylength, 1) := by decide +kernel
theorem dJ5_charAt_5068e_16 : decode cJ5_charAt_5068e 16 = .ok (.iload_n 2, 1) := by decide +kernel
theorem dJ5_charAt_5068e_17 : decode cJ5_charAt_5068e 17 = .ok (.ishr, 1) := by decide +kernel
theorem dJ5_charAt_5068e_18 : decode cJ5_charAt_5068e 18 = .ok (.invokestatic 138, 3) := by decide +kernel
theorem dJ5_charAt_5068e_21 : decode cJ5_charAt_5068e 21 = .ok (.istore 4, 2) := by decide +kernel
theorem dJ5_charAt_5068e_23 : decode cJ5_charAt_5068e 23 = .ok (.iload_n 1, 1) := by decide +kernel
theorem dJ5_charAt_5068e_24 : decode cJ5_charAt_5068e 24 = .ok (.iload 4, 2) := by decide +kernel
theorem dJ5_charAt_5068e_26 : decode cJ5_charAt_5068e 26 = .ok (.invokestatic 144, 3) := by decide +kernel
theorem dJ5_charAt_5068e_29 : decode cJ5_charAt_5068e 29 = .ok (.iload_n 2, 1) := by decide +kernel
theorem dJ5_charAt_5068e_30 : decode cJ5_charAt_5068e 30 = .ok (.ifCond .ne 12, 3) := by decide +kernel
theorem dJ5_charAt_5068e_33 : decode cJ5_charAt_5068e 33 = .ok (.aload_n 3, 1) := by decide +kernel
theorem dJ5_charAt_5068e_34 : decode cJ5_charAt_5068e 34 = .ok (.iload_n 1, 1) := by decide +kernel
theorem dJ5_charAt_5068e_35 : decode cJ5_charAt_5068e 35 = .ok (.baload, 1) := by decide +kernel
theorem dJ5_charAt_5068e_36 : decode cJ5_charAt_5068e 36 = .ok (.sipush 255, 3) := by decide +kernel
theorem dJ5_charAt_5068e_39 : decode cJ5_charAt_5068e 39 = .ok (.iand, 1) := by decide +kernel
theorem dJ5_charAt_5068e_40 : decode cJ5_charAt_5068e 40 = .ok (.i2c, 1) := by decide +kernel
theorem dJ5_charAt_5068e_41 : decode cJ5_charAt_5068e 41 = .ok (.ireturn, 1) := by decide +kernel
theorem dJ5_charAt_5068e_42 : decode cJ5_charAt_5068e 42 = .ok (.aload_n 3, 1) := by decide +kernel
theorem dJ5_charAt_5068e_43 : decode cJ5_charAt_5068e 43 = .ok (.iload_n 1, 1) := by decide +kernel
theorem dJ5_charAt_5068e_44 : decode cJ5_charAt_5068e 44 = .ok (.invokestatic 148, 3) := by decide +kernel
theorem dJ5_charAt_5068e_47 : decode cJ5_charAt_5068e 47 = .ok (.ireturn, 1) := by decide +kernel
theorem dJ4_charAt_5068e_0 : decode cJ4_charAt_5068e 0 = .ok (.aload_n 0, 1) := by decide +kernel
theorem dJ4_charAt_5068e_1 : decode cJ4_charAt_5068e 1 = .ok (.iload_n 1, 1) := by decide +kernel
theorem dJ4_charAt_5068e_2 : decode cJ4_charAt_5068e 2 = .ok (.invokespecial 329, 3) := by decide +kernel
theorem dJ4_charAt_5068e_5 : decode cJ4_charAt_5068e 5 = .ok (.ireturn, 1) := by decide +kernel
set_option maxHeartbeats 4000000 in
set_option maxRecDepth 100000 in
theorem cJ1_canEncode_fc78d_ok (l : Launch) (G : GT) (X : St) (ch : Nat) (hch : ch < 128) : MetI l G yJ1_canEncode_fc78d (wsG yJ1_canEncode_fc78d cJ1_canEncode_fc78d 1 (some .boolean)) (rmz 0 0) [.int (nI ch)] X (fun res Y => res = 1 ∧ Y = X) := by
  first | refine g_met (cc := cJ1_canEncode_fc78d) (maxL := 1) (ret := (some .boolean)) (by decide) rfl (Nat.le_of_ble_eq_true rfl) ?_ | refine g_metF (cc := cJ1_canEncode_fc78d) (maxL := 1) (ret := (some .boolean)) (by decide) rfl (Nat.le_of_ble_eq_true rfl) ?_
  intro p e s m below meth c ls C hr hlk hnm hW hl
  have hx := C.1.1
  have hb := C.1.2.1
  have hS : va_S (Ab G) s.heap s.heap [] := va_S.rf
  have hl : lv_has ls 1 [(0, .int (nI ch))] := hl
  refine lv_iload_n hx hb dJ1_canEncode_fc78d_0 rfl (lv_at hl 0 rfl) ?_
  refine lv_sipush (v := 255) hx hb dJ1_canEncode_fc78d_1 (by decide) ?_
  refine lv_icmp_gt (tgt := 11) hx hb dJ1_canEncode_fc78d_4 (by decide) (fun h9 => absurd h9 (fun h8 => absurd ((nI_ltI (a := 255) (b := ch) (by omega) (by omega)).mp h8) (by omega))) (fun _ => ?_)
  refine lv_iconst (v := 1) hx hb dJ1_canEncode_fc78d_7 (by decide) ?_
  refine lv_goto (tgt := 12) hx hb dJ1_canEncode_fc78d_8 (by decide) ?_
  exact g_zret C hr hlk hW hS dJ1_canEncode_fc78d_12 rfl (by exact ⟨rfl, rfl⟩)

set_option maxHeartbeats 4000000 in
set_option maxRecDepth 100000 in
theorem cJ3_checkIndex0_ok (l : Launch) (G : GT) (X : St) (a b : Nat) (hab : a < b) (hb31 : b < 2 ^ 31) : MetI l G yJ3_checkIndex_8e157 (wsG yJ3_checkIndex_8e157 cJ3_checkIndex_8e157 3 (some .int)) (rmz 0 0) [.int (nI a), .int (nI b), .null] X (fun res Y => res = nI a ∧ Y = X) := by
  first | refine g_met (cc := cJ3_checkIndex_8e157) (maxL := 3) (ret := (some .int)) (by decide) rfl (Nat.le_of_ble_eq_true rfl) ?_ | refine g_metF (cc := cJ3_checkIndex_8e157) (maxL := 3) (ret := (some .int)) (by decide) rfl (Nat.le_of_ble_eq_true rfl) ?_
  intro p e s m below meth c ls C hr hlk hnm hW hl
  have hx := C.1.1
  have hb := C.1.2.1
  have hS : va_S (Ab G) s.heap s.heap [] := va_S.rf
  have hl : lv_has ls 3 [(0, .int (nI a)), (1, .int (nI b)), (2, .null)] := hl
  refine lv_iload_n hx hb dJ3_checkIndex_8e157_0 rfl (lv_at hl 0 rfl) ?_
  refine lv_if_lt (tgt := 9) hx hb dJ3_checkIndex_8e157_1 (by decide) (fun h9 => absurd h9 (fun h8 => absurd ((nI_ltI (a := a) (b := 0) (by omega) (by omega)).mp h8) (by omega))) (fun _ => ?_)
  refine lv_iload_n hx hb dJ3_checkIndex_8e157_4 rfl (lv_at hl 0 rfl) ?_
  refine lv_iload_n hx hb dJ3_checkIndex_8e157_5 rfl (lv_at hl 1 rfl) ?_
  refine lv_icmp_lt (tgt := 16) hx hb dJ3_checkIndex_8e157_6 (by decide) (fun _ => ?_) (fun h9 => absurd ((nI_ltI (a := a) (b := b) (by omega) (by omega)).mpr (by omega)) h9)
  refine lv_iload_n hx hb dJ3_checkIndex_8e157_16 rfl (lv_at hl 0 rfl) ?_
  exact g_iret C hr hlk hW hS dJ3_checkIndex_8e157_17 (by exact ⟨rfl, rfl⟩)

set_option maxHeartbeats 4000000 in
set_option maxRecDepth 100000 in
theorem cJ3_checkIndex1_ok (l : Launch) (G : GT) (X : St) (a b : Nat) (hab : a < b) (hb31 : b < 2 ^ 31) (fq : Nat) : MetI l G yJ3_checkIndex_8e157 (wsG yJ3_checkIndex_8e157 cJ3_checkIndex_8e157 3 (some .int)) (rmz 0 0) [.int (nI a), .int (nI b), .ref fq] X (fun res Y => res = nI a ∧ Y = X) := by
  first | refine g_met (cc := cJ3_checkIndex_8e157) (maxL := 3) (ret := (some .int)) (by decide) rfl (Nat.le_of_ble_eq_true rfl) ?_ | refine g_metF (cc := cJ3_checkIndex_8e157) (maxL := 3) (ret := (some .int)) (by decide) rfl (Nat.le_of_ble_eq_true rfl) ?_
  intro p e s m below meth c ls C hr hlk hnm hW hl
  have hx := C.1.1
  have hb := C.1.2.1
  have hS : va_S (Ab G) s.heap s.heap [] := va_S.rf
  have hl : lv_has ls 3 [(0, .int (nI a)), (1, .int (nI b)), (2, .ref fq)] := hl
  refine lv_iload_n hx hb dJ3_checkIndex_8e157_0 rfl (lv_at hl 0 rfl) ?_
  refine lv_if_lt (tgt := 9) hx hb dJ3_checkIndex_8e157_1 (by decide) (fun h9 => absurd h9 (fun h8 => absurd ((nI_ltI (a := a) (b := 0) (by omega) (by omega)).mp h8) (by omega))) (fun _ => ?_)
  refine lv_iload_n hx hb dJ3_checkIndex_8e157_4 rfl (lv_at hl 0 rfl) ?_
  refine lv_iload_n hx hb dJ3_checkIndex_8e157_5 rfl (lv_at hl 1 rfl) ?_
  refine lv_icmp_lt (tgt := 16) hx hb dJ3_checkIndex_8e157_6 (by decide) (fun _ => ?_) (fun h9 => absurd ((nI_ltI (a := a) (b := b) (by omega) (by omega)).mpr (by omega)) h9)
  refine lv_iload_n hx hb dJ3_checkIndex_8e157_16 rfl (lv_at hl 0 rfl) ?_
  exact g_iret C hr hlk hW hS dJ3_checkIndex_8e157_17 (by exact ⟨rfl, rfl⟩)

set_option maxHeartbeats 4000000 in
set_option maxRecDepth 100000 in
theorem cJ0_checkIndex_df160_ok (l : Launch) (G : GT) (X : St) (a b : Nat) (hab : a < b) (hb31 : b < 2 ^ 31) : MetV l G yJ0_checkIndex_df160 (wsG yJ0_checkIndex_df160 cJ0_checkIndex_df160 2 none) (rmz 1 22) [.int (nI a), .int (nI b)] X (fun Y => Y = X) := by
  first | refine g_met (cc := cJ0_checkIndex_df160) (maxL := 2) (ret := none) (by decide) rfl (Nat.le_of_ble_eq_true rfl) ?_ | refine g_metF (cc := cJ0_checkIndex_df160) (maxL := 2) (ret := none) (by decide) rfl (Nat.le_of_ble_eq_true rfl) ?_
  intro p e s m below meth c ls C hr hlk hnm hW hl
  have hx := C.1.1
  have hb := C.1.2.1
  have hS : va_S (Ab G) s.heap s.heap [] := va_S.rf
  have hl : lv_has ls 2 [(0, .int (nI a)), (1, .int (nI b))] := hl
  refine lv_iload_n hx hb dJ0_checkIndex_df160_0 rfl (lv_at hl 0 rfl) ?_
  refine lv_iload_n hx hb dJ0_checkIndex_df160_1 rfl (lv_at hl 1 rfl) ?_
  rcases C.2.2.2.2.2.2.2.2.2.2.2.2.2.2.2.2 with h90 | ⟨q90, h90⟩
  · refine va_gets C.1.1 C.1.2.1 h90 hS C.1.2.2.2.1 (C.1.2.2.2.2 _ (mc qw_467)) (fun _ h => h) dJ0_checkIndex_df160_2 ?_
    refine g_calli (va_runS (As := [.int (nI a), .int (nI b), .null]) (rest := []) C.1 (cJ3_checkIndex0_ok l G X a b (show a < b by omega) (show b < 2 ^ 31 by omega)) (va_cwS 3 C.1.2.2.2.2 (gS qw_764 qw_765 qw_100 qw_766) rfl rfl rfl (by decide +kernel) ⟨Nat.le_of_ble_eq_true rfl, Nat.le_of_ble_eq_true rfl⟩) (g_pre C hW hS [.int (nI a), .int (nI b), .null]) rfl rfl hl.1 rfl (lv_room (Nat.le_of_ble_eq_true rfl)) dJ0_checkIndex_df160_5 ⟨Nat.zero_le _, Nat.zero_le _⟩) hS (fun r_3 Y_2 H_4 locs_5 hW_6 hS_7 h_1 => ?_)
    obtain ⟨h_1, hy_8⟩ := h_1
    replace hy_8 := hy_8.symm
    subst hy_8
    subst h_1
    refine lv_pop hx hb dJ0_checkIndex_df160_8 rfl ?_
    exact g_vret C hr hlk hW_6 hS_7 dJ0_checkIndex_df160_9 rfl
  · refine va_gets C.1.1 C.1.2.1 h90 hS C.1.2.2.2.1 (C.1.2.2.2.2 _ (mc qw_467)) (fun _ h => h) dJ0_checkIndex_df160_2 ?_
    refine g_calli (va_runS (As := [.int (nI a), .int (nI b), .ref q90]) (rest := []) C.1 (cJ3_checkIndex1_ok l G X a b (show a < b by omega) (show b < 2 ^ 31 by omega) q90) (va_cwS 3 C.1.2.2.2.2 (gS qw_764 qw_765 qw_100 qw_766) rfl rfl rfl (by decide +kernel) ⟨Nat.le_of_ble_eq_true rfl, Nat.le_of_ble_eq_true rfl⟩) (g_pre C hW hS [.int (nI a), .int (nI b), .ref q90]) rfl rfl hl.1 rfl (lv_room (Nat.le_of_ble_eq_true rfl)) dJ0_checkIndex_df160_5 ⟨Nat.zero_le _, Nat.zero_le _⟩) hS (fun r_11 Y_10 H_12 locs_13 hW_14 hS_15 h_9 => ?_)
    obtain ⟨h_9, hy_16⟩ := h_9
    replace hy_16 := hy_16.symm
    subst hy_16
    subst h_9
    refine lv_pop hx hb dJ0_checkIndex_df160_8 rfl ?_
    exact g_vret C hr hlk hW_14 hS_15 dJ0_checkIndex_df160_9 rfl

set_option maxHeartbeats 4000000 in
set_option maxRecDepth 100000 in
theorem cJ0_coder_7d493_ok (l : Launch) (G : GT) (X : St) (si : Nat) (hsi : si < 16) : MetI l G yJ0_coder_7d493 (wsG yJ0_coder_7d493 cJ0_coder_7d493 1 (some .byte)) (rmz 0 0) [.ref (cy G (50 + si))] X (fun res Y => res = 0 ∧ Y = X) := by
  first | refine g_met (cc := cJ0_coder_7d493) (maxL := 1) (ret := (some .byte)) (by decide) rfl (Nat.le_of_ble_eq_true rfl) ?_ | refine g_metF (cc := cJ0_coder_7d493) (maxL := 1) (ret := (some .byte)) (by decide) rfl (Nat.le_of_ble_eq_true rfl) ?_
  intro p e s m below meth c ls C hr hlk hnm hW hl
  have hx := C.1.1
  have hb := C.1.2.1
  have hS : va_S (Ab G) s.heap s.heap [] := va_S.rf
  have hl : lv_has ls 1 [(0, .ref (cy G (50 + si)))] := hl
  refine va_gets C.1.1 C.1.2.1 C.2.2.2.2.2.2.2.2.2.2.2.2.2.1 hS C.1.2.2.2.1 (C.1.2.2.2.2 _ (mc qw_489)) (fun _ h => h) dJ0_coder_7d493_0 ?_
  refine lv_if_eq (tgt := 13) hx hb dJ0_coder_7d493_3 (by decide) (fun h9 => absurd h9 (by decide)) (fun _ => ?_)
  refine lv_aload_n hx hb dJ0_coder_7d493_6 rfl (lv_at hl 0 rfl) ?_
  refine vk_getf C.1.1 C.1.2.1 (C.2.2.2.2.2.2.2.2.2.2.1.1 si hsi).2.1 hS C.1.2.2.2.1 (C.1.2.2.2.2 _ (mc qw_676)) (fun _ h => h) dJ0_coder_7d493_7 ?_
  refine lv_goto (tgt := 14) hx hb dJ0_coder_7d493_10 (by decide) ?_
  exact g_zret C hr hlk hW hS dJ0_coder_7d493_14 rfl (by exact ⟨rfl, rfl⟩)

set_option maxHeartbeats 4000000 in
set_option maxRecDepth 100000 in
theorem cJ0_isLatin1_aae02_ok (l : Launch) (G : GT) (X : St) (si : Nat) (hsi : si < 16) : MetI l G yJ0_isLatin1_aae02 (wsG yJ0_isLatin1_aae02 cJ0_isLatin1_aae02 1 (some .boolean)) (rmz 0 0) [.ref (cy G (50 + si))] X (fun res Y => res = 1 ∧ Y = X) := by
  first | refine g_met (cc := cJ0_isLatin1_aae02) (maxL := 1) (ret := (some .boolean)) (by decide) rfl (Nat.le_of_ble_eq_true rfl) ?_ | refine g_metF (cc := cJ0_isLatin1_aae02) (maxL := 1) (ret := (some .boolean)) (by decide) rfl (Nat.le_of_ble_eq_true rfl) ?_
  intro p e s m below meth c ls C hr hlk hnm hW hl
  have hx := C.1.1
  have hb := C.1.2.1
  have hS : va_S (Ab G) s.heap s.heap [] := va_S.rf
  have hl : lv_has ls 1 [(0, .ref (cy G (50 + si)))] := hl
  refine va_gets C.1.1 C.1.2.1 C.2.2.2.2.2.2.2.2.2.2.2.2.2.1 hS C.1.2.2.2.1 (C.1.2.2.2.2 _ (mc qw_489)) (fun _ h => h) dJ0_isLatin1_aae02_0 ?_
  refine lv_if_eq (tgt := 17) hx hb dJ0_isLatin1_aae02_3 (by decide) (fun h9 => absurd h9 (by decide)) (fun _ => ?_)
  refine lv_aload_n hx hb dJ0_isLatin1_aae02_6 rfl (lv_at hl 0 rfl) ?_
  refine vk_getf C.1.1 C.1.2.1 (C.2.2.2.2.2.2.2.2.2.2.1.1 si hsi).2.1 hS C.1.2.2.2.1 (C.1.2.2.2.2 _ (mc qw_676)) (fun _ h => h) dJ0_isLatin1_aae02_7 ?_
  refine lv_if_ne (tgt := 17) hx hb dJ0_isLatin1_aae02_10 (by decide) (fun h9 => absurd h9 (by decide)) (fun _ => ?_)
  refine lv_iconst (v := 1) hx hb dJ0_isLatin1_aae02_13 (by decide) ?_
  refine lv_goto (tgt := 18) hx hb dJ0_isLatin1_aae02_14 (by decide) ?_
  exact g_zret C hr hlk hW hS dJ0_isLatin1_aae02_18 rfl (by exact ⟨rfl, rfl⟩)

set_option maxHeartbeats 4000000 in
set_option maxRecDepth 100000 in
theorem cJ0_length_8abf5_ok (l : Launch) (G : GT) (X : St) (si : Nat) (hsi : si < 16) : MetI l G yJ0_length_8abf5 (wsG yJ0_length_8abf5 cJ0_length_8abf5 1 (some .int)) (rmz 1 20) [.ref (cy G (50 + si))] X (fun res Y => res = nI (strL.getD si 0) ∧ Y = X) := by
  first | refine g_met (cc := cJ0_length_8abf5) (maxL := 1) (ret := (some .int)) (by decide) rfl (Nat.le_of_ble_eq_true rfl) ?_ | refine g_metF (cc := cJ0_length_8abf5) (maxL := 1) (ret := (some .int)) (by decide) rfl (Nat.le_of_ble_eq_true rfl) ?_
  intro p e s m below meth c ls C hr hlk hnm hW hl
  have hx := C.1.1
  have hb := C.1.2.1
  have hS : va_S (Ab G) s.heap s.heap [] := va_S.rf
  have hl : lv_has ls 1 [(0, .ref (cy G (50 + si)))] := hl
  refine lv_aload_n hx hb dJ0_length_8abf5_0 rfl (lv_at hl 0 rfl) ?_
  refine vk_getf C.1.1 C.1.2.1 (C.2.2.2.2.2.2.2.2.2.2.1.1 si hsi).2.2.1 hS C.1.2.2.2.1 (C.1.2.2.2.2 _ (mc qw_675)) (fun _ h => h) dJ0_length_8abf5_1 ?_
  refine va_tlen C.1.1 C.1.2.1 (C.2.2.2.2.2.2.2.2.2.2.1.1 si hsi).2.2.2 hS (v := nI (strL.getD si 0)) (strlen_of si) dJ0_length_8abf5_4 ?_
  refine lv_aload_n hx hb dJ0_length_8abf5_5 rfl (lv_at hl 0 rfl) ?_
  refine g_calli (va_runV (As := []) (rest := [.int (nI (strL.getD si 0))]) C.1 (cJ0_coder_7d493_ok l G X si hsi) (cwV 0 C.1.2.2.2.2 (gV qw_485 qw_486 qw_487 qw_79 qw_488) rfl rfl rfl (by decide +kernel) ⟨Nat.le_of_ble_eq_true rfl, Nat.le_of_ble_eq_true rfl⟩) (g_rStr C hW hS hsi []) rfl rfl hl.1 rfl (lv_room (Nat.le_of_ble_eq_true rfl)) dJ0_length_8abf5_6 ⟨Nat.zero_le _, Nat.zero_le _⟩) hS (fun r_3 Y_2 H_4 locs_5 hW_6 hS_7 h_1 => ?_)
  obtain ⟨h_1, hy_8⟩ := h_1
  replace hy_8 := hy_8.symm
  subst hy_8
  subst h_1
  refine lv_ishr hx hb dJ0_length_8abf5_9 ?_
  refine g_top (y := (nI (strL.getD si 0))) (sb_shr0 _) ?_
  exact g_iret C hr hlk hW_6 hS_7 dJ0_length_8abf5_10 (by exact ⟨rfl, rfl⟩)

set_option maxHeartbeats 4000000 in
set_option maxRecDepth 100000 in
theorem cJ1_charAt_3b067_ok (l : Launch) (G : GT) (X : St) (si : Nat) (hsi : si < 16) (k : Nat) (hk : k < strL.getD si 0) : MetI l G yJ1_charAt_3b067 (wsG yJ1_charAt_3b067 cJ1_charAt_3b067 2 (some .char)) (rmz 2 43) [.ref (cy G (70 + si)), .int (nI k)] X (fun res Y => res = nI (strn si k) ∧ Y = X) := by
  first | refine g_met (cc := cJ1_charAt_3b067) (maxL := 2) (ret := (some .char)) (by decide) rfl (Nat.le_of_ble_eq_true rfl) ?_ | refine g_metF (cc := cJ1_charAt_3b067) (maxL := 2) (ret := (some .char)) (by decide) rfl (Nat.le_of_ble_eq_true rfl) ?_
  intro p e s m below meth c ls C hr hlk hnm hW hl
  have hx := C.1.1
  have hb := C.1.2.1
  have hS : va_S (Ab G) s.heap s.heap [] := va_S.rf
  have hl : lv_has ls 2 [(0, .ref (cy G (70 + si))), (1, .int (nI k))] := hl
  refine lv_iload_n hx hb dJ1_charAt_3b067_0 rfl (lv_at hl 1 rfl) ?_
  refine lv_aload_n hx hb dJ1_charAt_3b067_1 rfl (lv_at hl 0 rfl) ?_
  refine va_tlen C.1.1 C.1.2.1 (C.2.2.2.2.2.2.2.2.2.2.1.1 si hsi).2.2.2 hS (v := nI (strL.getD si 0)) (strlen_of si) dJ1_charAt_3b067_2 ?_
  refine g_callv (va_runS (As := [.int (nI k), .int (nI (strL.getD si 0))]) (rest := []) C.1 (cJ0_checkIndex_df160_ok l G X k (strL.getD si 0) hk (strlt31 si hsi)) (va_cwS 2 C.1.2.2.2.2 (gS qw_1385 qw_762 qw_79 qw_763) rfl rfl rfl (by decide +kernel) ⟨Nat.le_of_ble_eq_true rfl, Nat.le_of_ble_eq_true rfl⟩) (g_pre C hW hS [.int (nI k), .int (nI (strL.getD si 0))]) rfl rfl hl.1 rfl (lv_room (Nat.le_of_ble_eq_true rfl)) dJ1_charAt_3b067_3 ⟨Nat.zero_le _, Nat.zero_le _⟩) hS (fun Y_2 H_4 locs_5 hW_6 hS_7 h_1 => ?_)
  replace h_1 := h_1.symm
  subst h_1
  refine lv_aload_n hx hb dJ1_charAt_3b067_6 rfl (lv_at hl 0 rfl) ?_
  refine lv_iload_n hx hb dJ1_charAt_3b067_7 rfl (lv_at hl 1 rfl) ?_
  refine va_tb (v := .int (strc si k)) C.1.1 C.1.2.1 (C.2.2.2.2.2.2.2.2.2.2.1.1 si hsi).2.2.2 hS_7 (vp_in_nI hk (strlt31 si hsi)) (by rw [nI_clamp (show k < 2 ^ 31 by have := strlt si hsi; omega)]; rfl) dJ1_charAt_3b067_8 ?_
  refine g_top (y := nI (strn si k)) (strc_eq si hsi k hk) ?_
  refine lv_sipush (v := 255) hx hb dJ1_charAt_3b067_9 (by decide) ?_
  refine lv_iand hx hb dJ1_charAt_3b067_12 ?_
  refine g_top (y := (nI (strn si k))) (jb255 _ (strn_lt si hsi k hk)) ?_
  refine lv_i2c (v := (nI (strn si k))) hx hb dJ1_charAt_3b067_13 (jb16 _ (strn_lt si hsi k hk)) ?_
  exact g_zret C hr hlk hW_6 hS_7 dJ1_charAt_3b067_14 (jnarc _ (strn_lt si hsi k hk)) (by exact ⟨rfl, rfl⟩)

set_option maxHeartbeats 4000000 in
set_option maxRecDepth 100000 in
theorem cJ0_charAt_5068e_ok (l : Launch) (G : GT) (X : St) (si : Nat) (hsi : si < 16) (k : Nat) (hk : k < strL.getD si 0) : MetI l G yJ0_charAt_5068e (wsG yJ0_charAt_5068e cJ0_charAt_5068e 2 (some .char)) (rmz 3 64) [.ref (cy G (50 + si)), .int (nI k)] X (fun res Y => res = nI (strn si k) ∧ Y = X) := by
  first | refine g_met (cc := cJ0_charAt_5068e) (maxL := 2) (ret := (some .char)) (by decide) rfl (Nat.le_of_ble_eq_true rfl) ?_ | refine g_metF (cc := cJ0_charAt_5068e) (maxL := 2) (ret := (some .char)) (by decide) rfl (Nat.le_of_ble_eq_true rfl) ?_
  intro p e s m below meth c ls C hr hlk hnm hW hl
  have hx := C.1.1
  have hb := C.1.2.1
  have hS : va_S (Ab G) s.heap s.heap [] := va_S.rf
  have hl : lv_has ls 2 [(0, .ref (cy G (50 + si))), (1, .int (nI k))] := hl
  refine lv_aload_n hx hb dJ0_charAt_5068e_0 rfl (lv_at hl 0 rfl) ?_
  refine g_calli (va_runV (As := []) (rest := []) C.1 (cJ0_isLatin1_aae02_ok l G X si hsi) (cwV 0 C.1.2.2.2.2 (gV qw_1378 qw_1379 qw_1380 qw_79 qw_1381) rfl rfl rfl (by decide +kernel) ⟨Nat.le_of_ble_eq_true rfl, Nat.le_of_ble_eq_true rfl⟩) (g_rStr C hW hS hsi []) rfl rfl hl.1 rfl (lv_room (Nat.le_of_ble_eq_true rfl)) dJ0_charAt_5068e_1 ⟨Nat.zero_le _, Nat.zero_le _⟩) hS (fun r_3 Y_2 H_4 locs_5 hW_6 hS_7 h_1 => ?_)
  obtain ⟨h_1, hy_8⟩ := h_1
  replace hy_8 := hy_8.symm
  subst hy_8
  subst h_1
  refine lv_if_eq (tgt := 16) hx hb dJ0_charAt_5068e_4 (by decide) (fun h9 => absurd h9 (by decide)) (fun _ => ?_)
  refine lv_aload_n hx hb dJ0_charAt_5068e_7 rfl (lv_at hl 0 rfl) ?_
  refine vk_getf C.1.1 C.1.2.1 (C.2.2.2.2.2.2.2.2.2.2.1.1 si hsi).2.2.1 hS_7 C.1.2.2.2.1 (C.1.2.2.2.2 _ (mc qw_675)) (fun _ h => h) dJ0_charAt_5068e_8 ?_
  refine lv_iload_n hx hb dJ0_charAt_5068e_11 rfl (lv_at hl 1 rfl) ?_
  refine g_calli (va_runS (As := [.ref (cy G (70 + si)), .int (nI k)]) (rest := []) C.1 (cJ1_charAt_3b067_ok l G X si hsi k hk) (va_cwS 2 C.1.2.2.2.2 (gS qw_1382 qw_1383 qw_101 qw_1384) rfl rfl rfl (by decide +kernel) ⟨Nat.le_of_ble_eq_true rfl, Nat.le_of_ble_eq_true rfl⟩) (g_pre C hW_6 hS_7 [.ref (cy G (70 + si)), .int (nI k)]) rfl rfl hl.1 rfl (lv_room (Nat.le_of_ble_eq_true rfl)) dJ0_charAt_5068e_12 ⟨Nat.zero_le _, Nat.zero_le _⟩) hS_7 (fun r_11 Y_10 H_12 locs_13 hW_14 hS_15 h_9 => ?_)
  obtain ⟨h_9, hy_16⟩ := h_9
  replace hy_16 := hy_16.symm
  subst hy_16
  subst h_9
  exact g_zret C hr hlk hW_14 hS_15 dJ0_charAt_5068e_15 (jnarc _ (strn_lt si hsi k hk)) (by exact ⟨rfl, rfl⟩)

set_option maxHeartbeats 4000000 in
set_option maxRecDepth 100000 in
theorem cJ5_isLatin1_aae02_ok (l : Launch) (G : GT) (X : St) (cp : Nat) (hcp : 16 ≤ cp ∧ cp ≤ 34) (hcap : X.2.2.1 = cp) (hcd : X.1 11 8 = 0) : MetI l G yJ5_isLatin1_aae02 (wsG yJ5_isLatin1_aae02 cJ5_isLatin1_aae02 1 (some .boolean)) (rmz 0 0) [.ref (ad G 722)] X (fun res Y => res = 1 ∧ Y = X) := by
  first | refine g_met (cc := cJ5_isLatin1_aae02) (maxL := 1) (ret := (some .boolean)) (by decide) rfl (Nat.le_of_ble_eq_true rfl) ?_ | refine g_metF (cc := cJ5_isLatin1_aae02) (maxL := 1) (ret := (some .boolean)) (by decide) rfl (Nat.le_of_ble_eq_true rfl) ?_
  intro p e s m below meth c ls C hr hlk hnm hW hl
  have hx := C.1.1
  have hb := C.1.2.1
  have hS : va_S (Ab G) s.heap s.heap [] := va_S.rf
  have hl : lv_has ls 1 [(0, .ref (ad G 722))] := hl
  refine va_gets C.1.1 C.1.2.1 C.2.2.2.2.2.2.2.2.2.2.2.2.2.1 hS C.1.2.2.2.1 (C.1.2.2.2.2 _ (mc qw_263)) (fun _ h => h) dJ5_isLatin1_aae02_0 ?_
  refine lv_if_eq (tgt := 17) hx hb dJ5_isLatin1_aae02_3 (by decide) (fun h9 => absurd h9 (by decide)) (fun _ => ?_)
  refine lv_aload_n hx hb dJ5_isLatin1_aae02_6 rfl (lv_at hl 0 rfl) ?_
  refine gSB_coder C hW (hwc hwJ4) (mc qw_273) dJ5_isLatin1_aae02_7 ?_
  refine g_top (y := 0) hcd ?_
  refine lv_if_ne (tgt := 17) hx hb dJ5_isLatin1_aae02_10 (by decide) (fun h9 => absurd h9 (by decide)) (fun _ => ?_)
  refine lv_iconst (v := 1) hx hb dJ5_isLatin1_aae02_13 (by decide) ?_
  refine lv_goto (tgt := 18) hx hb dJ5_isLatin1_aae02_14 (by decide) ?_
  exact g_zret C hr hlk hW hS dJ5_isLatin1_aae02_18 rfl (by exact ⟨rfl, rfl⟩)

set_option maxHeartbeats 4000000 in
set_option maxRecDepth 100000 in
theorem cJ5_ensureCapacityInternal_d00df_ok (l : Launch) (G : GT) (X : St) (cp : Nat) (hcp : 16 ≤ cp ∧ cp ≤ 34) (hcap : X.2.2.1 = cp) (hcd : X.1 11 8 = 0) (q : Nat) (hq : q ≤ cp) : MetV l G yJ5_ensureCapacityInternal_d00df (wsG yJ5_ensureCapacityInternal_d00df cJ5_ensureCapacityInternal_d00df 3 none) (rmz 0 0) [.ref (ad G 722), .int (nI q)] X (fun Y => Y = X) := by
  first | refine g_met (cc := cJ5_ensureCapacityInternal_d00df) (maxL := 3) (ret := none) (by decide) rfl (Nat.le_of_ble_eq_true rfl) ?_ | refine g_metF (cc := cJ5_ensureCapacityInternal_d00df) (maxL := 3) (ret := none) (by decide) rfl (Nat.le_of_ble_eq_true rfl) ?_
  intro p e s m below meth c ls C hr hlk hnm hW hl
  have hx := C.1.1
  have hb := C.1.2.1
  have hS : va_S (Ab G) s.heap s.heap [] := va_S.rf
  have hl : lv_has ls 3 [(0, .ref (ad G 722)), (1, .int (nI q))] := hl
  refine lv_aload_n hx hb dJ5_ensureCapacityInternal_d00df_0 rfl (lv_at hl 0 rfl) ?_
  refine gSB_value C hW (hwc hwJ4) (mc qw_272) dJ5_ensureCapacityInternal_d00df_1 ?_
  refine g_sblen C hW hcap dJ5_ensureCapacityInternal_d00df_4 ?_
  refine lv_aload_n hx hb dJ5_ensureCapacityInternal_d00df_5 rfl (lv_at hl 0 rfl) ?_
  refine gSB_coder C hW (hwc hwJ4) (mc qw_273) dJ5_ensureCapacityInternal_d00df_6 ?_
  refine g_top (y := 0) hcd ?_
  refine lv_ishr hx hb dJ5_ensureCapacityInternal_d00df_9 ?_
  refine g_top (y := (nI cp)) (sb_shr0 _) ?_
  refine lv_istore_n (lv' := [(2, .int (nI cp)), (0, .ref (ad G 722)), (1, .int (nI q))]) hx hb dJ5_ensureCapacityInternal_d00df_10 rfl hl (by decide) rfl (fun ls_1 hl_2 => ?_)
  refine lv_iload_n hx hb dJ5_ensureCapacityInternal_d00df_11 rfl (lv_at hl_2 2 rfl) ?_
  refine lv_iload_n hx hb dJ5_ensureCapacityInternal_d00df_12 rfl (lv_at hl_2 0 rfl) ?_
  refine lv_isub hx hb dJ5_ensureCapacityInternal_d00df_13 ?_
  refine lv_if_le (tgt := 38) hx hb dJ5_ensureCapacityInternal_d00df_14 (by decide) (fun _ => ?_) (fun h9 => absurd (jlec hq hcp.2) h9)
  exact g_vret C hr hlk hW hS dJ5_ensureCapacityInternal_d00df_38 rfl

set_option maxHeartbeats 4000000 in
set_option maxRecDepth 100000 in
theorem cJ5_append_3fe6f_ok (l : Launch) (G : GT) (X : St) (cp : Nat) (hcp : 16 ≤ cp ∧ cp ≤ 34) (hcap : X.2.2.1 = cp) (hcd : X.1 11 8 = 0) (n : Nat) (hcnt : X.1 11 10 = nI n) (hn : n + 1 ≤ cp) (ch : Nat) (hch : ch < 128) : MetR l G yJ5_append_3fe6f (wsG yJ5_append_3fe6f cJ5_append_3fe6f 2 (some (.object "java/lang/AbstractStringBuilder"))) (rmz 1 22) [.ref (ad G 722), .int (nI ch)] X (fun u => u.1 = 722 ∧ u.2 = setRow (sbB X (upd X.2.2.2.1 n (nI ch))) 11 (upd (X.1 11) (10) (nI (n + 1)))) := by
  first | refine g_met (cc := cJ5_append_3fe6f) (maxL := 2) (ret := (some (.object "java/lang/AbstractStringBuilder"))) (by decide) rfl (Nat.le_of_ble_eq_true rfl) ?_ | refine g_metF (cc := cJ5_append_3fe6f) (maxL := 2) (ret := (some (.object "java/lang/AbstractStringBuilder"))) (by decide) rfl (Nat.le_of_ble_eq_true rfl) ?_
  intro p e s m below meth c ls C hr hlk hnm hW hl
  have hx := C.1.1
  have hb := C.1.2.1
  have hS : va_S (Ab G) s.heap s.heap [] := va_S.rf
  have hl : lv_has ls 2 [(0, .ref (ad G 722)), (1, .int (nI ch))] := hl
  refine lv_aload_n hx hb dJ5_append_3fe6f_0 rfl (lv_at hl 0 rfl) ?_
  refine lv_aload_n hx hb dJ5_append_3fe6f_1 rfl (lv_at hl 0 rfl) ?_
  refine gSB_count C hW (hwc hwJ4) (mc qw_276) dJ5_append_3fe6f_2 ?_
  refine g_top (y := nI n) hcnt ?_
  refine lv_iconst (v := 1) hx hb dJ5_append_3fe6f_5 (by decide) ?_
  refine lv_iadd hx hb dJ5_append_3fe6f_6 ?_
  refine g_top (y := nI (n + 1)) (nI_add n 1) ?_
  refine g_callv (va_runU (As := [.int (nI (n + 1))]) (rest := []) C.1 (cJ5_ensureCapacityInternal_d00df_ok l G X cp hcp hcap hcd (n + 1) (show n + 1 ≤ cp by omega)) (cwP 1 C.1.2.2.2.2 (mc qw_415) (mc qw_1948) (mc qw_417) (mc qw_77) (gN qw_418) rfl rfl rfl (by decide +kernel) ⟨Nat.le_of_ble_eq_true rfl, Nat.le_of_ble_eq_true rfl⟩ (va_Nw.use rfl (C.2.2.1.1 _ nw_44))) (g_rSB C hW hS [.int (nI (n + 1))]) rfl rfl hl.1 rfl (lv_room (Nat.le_of_ble_eq_true rfl)) dJ5_append_3fe6f_7 ⟨Nat.zero_le _, Nat.zero_le _⟩) hS (fun Y_2 H_4 locs_5 hW_6 hS_7 h_1 => ?_)
  replace h_1 := h_1.symm
  subst h_1
  refine lv_aload_n hx hb dJ5_append_3fe6f_10 rfl (lv_at hl 0 rfl) ?_
  refine g_calli (va_runU (As := []) (rest := []) C.1 (cJ5_isLatin1_aae02_ok l G X cp hcp hcap hcd) (va_cwU 0 C.1.2.2.2.2 (gU qw_450 qw_452 qw_453 qw_451 qw_77 qw_454) rfl rfl rfl rfl (by decide +kernel) ⟨Nat.le_of_ble_eq_true rfl, Nat.le_of_ble_eq_true rfl⟩) (g_rSB C hW_6 hS_7 []) rfl rfl hl.1 rfl (lv_room (Nat.le_of_ble_eq_true rfl)) dJ5_append_3fe6f_11 ⟨Nat.zero_le _, Nat.zero_le _⟩) hS_7 (fun r_10 Y_9 H_11 locs_12 hW_13 hS_14 h_8 => ?_)
  obtain ⟨h_8, hy_15⟩ := h_8
  replace hy_15 := hy_15.symm
  subst hy_15
  subst h_8
  refine lv_if_eq (tgt := 45) hx hb dJ5_append_3fe6f_14 (by decide) (fun h9 => absurd h9 (by decide)) (fun _ => ?_)
  refine lv_iload_n hx hb dJ5_append_3fe6f_17 rfl (lv_at hl 1 rfl) ?_
  refine g_calli (va_runS (As := [.int (nI ch)]) (rest := []) C.1 (cJ1_canEncode_fc78d_ok l G X ch (show ch < 128 by omega)) (va_cwS 1 C.1.2.2.2.2 (gS qw_752 qw_753 qw_101 qw_754) rfl rfl rfl (by decide +kernel) ⟨Nat.le_of_ble_eq_true rfl, Nat.le_of_ble_eq_true rfl⟩) (g_pre C hW_13 hS_14 [.int (nI ch)]) rfl rfl hl.1 rfl (lv_room (Nat.le_of_ble_eq_true rfl)) dJ5_append_3fe6f_18 ⟨Nat.zero_le _, Nat.zero_le _⟩) hS_14 (fun r_18 Y_17 H_19 locs_20 hW_21 hS_22 h_16 => ?_)
  obtain ⟨h_16, hy_23⟩ := h_16
  replace hy_23 := hy_23.symm
  subst hy_23
  subst h_16
  refine lv_if_eq (tgt := 45) hx hb dJ5_append_3fe6f_21 (by decide) (fun h9 => absurd h9 (by decide)) (fun _ => ?_)
  refine lv_aload_n hx hb dJ5_append_3fe6f_24 rfl (lv_at hl 0 rfl) ?_
  refine gSB_value C hW_21 (hwc hwJ4) (mc qw_272) dJ5_append_3fe6f_25 ?_
  refine lv_aload_n hx hb dJ5_append_3fe6f_28 rfl (lv_at hl 0 rfl) ?_
  refine lv_dup hx hb dJ5_append_3fe6f_29 rfl ?_
  refine gSB_count C hW_21 (hwc hwJ4) (mc qw_276) dJ5_append_3fe6f_30 ?_
  refine g_top (y := nI n) hcnt ?_
  refine lv_dup_x1 hx hb dJ5_append_3fe6f_33 rfl rfl ?_
  refine lv_iconst (v := 1) hx hb dJ5_append_3fe6f_34 (by decide) ?_
  refine lv_iadd hx hb dJ5_append_3fe6f_35 ?_
  refine g_top (y := nI (n + 1)) (nI_add n 1) ?_
  refine gSB_countP C hW_21 hS_22 (hwc hwJ4) (mc qw_276) dJ5_append_3fe6f_36 (fun H_24 locs_25 hW_26 hS_27 => ?_)
  obtain ⟨w_28, ew_28⟩ : ∃ Z9, Z9 = upd (X.1 11) (10) (nI (n + 1)) := ⟨_, rfl⟩
  have kn_29 : w_28 (8) = 0 := by rw [ew_28]; exact (pk_un (by omega)).trans hcd
  have kn_30 : w_28 (10) = nI (n + 1) := by rw [ew_28]; exact pk_us
  have hW_31 : Wd G (setRow X 11 w_28) H_24 := Wd.cast (by rw [ew_28]; exact st_base) hW_26
  refine lv_iload_n hx hb dJ5_append_3fe6f_39 rfl (lv_at hl 1 rfl) ?_
  refine lv_i2b (v := (nI ch)) hx hb dJ5_append_3fe6f_40 (jb8 _ (show ch < 128 by omega)) ?_
  refine g_sbst C hW_31 hS_27 hcap n (nI_clamp (show n < 2 ^ 31 by omega)) (vp_in_nI (show n < cp by omega) (show cp < 2 ^ 31 by omega)) (jnar _ (show ch < 128 by omega)) dJ5_append_3fe6f_41 (fun H_32 locs_33 hW_34 hS_35 => ?_)
  obtain ⟨w_36, ew_36⟩ : ∃ Z9, Z9 = upd X.2.2.2.1 (n) (nI ch) := ⟨_, rfl⟩
  have hW_37 : Wd G (setRow (sbB X w_36) 11 w_28) H_32 := Wd.cast (by subst ew_36; exact rfl) hW_34
  refine lv_goto (tgt := 75) hx hb dJ5_append_3fe6f_42 (by decide) ?_
  refine lv_aload_n hx hb dJ5_append_3fe6f_75 rfl (lv_at hl 0 rfl) ?_
  exact g_aret C hr hlk hW_37 hS_35 dJ5_append_3fe6f_76 (by subst ew_36; subst ew_28; exact ⟨rfl, rfl⟩)

set_option maxHeartbeats 4000000 in
set_option maxRecDepth 100000 in
theorem cJ4_append_cf468_ok (l : Launch) (G : GT) (X : St) (cp : Nat) (hcp : 16 ≤ cp ∧ cp ≤ 34) (hcap : X.2.2.1 = cp) (hcd : X.1 11 8 = 0) (n : Nat) (hcnt : X.1 11 10 = nI n) (hn : n + 1 ≤ cp) (ch : Nat) (hch : ch < 128) : MetR l G yJ4_append_cf468 (wsG yJ4_append_cf468 cJ4_append_cf468 2 (some (.object "java/lang/StringBuilder"))) (rmz 2 43) [.ref (ad G 722), .int (nI ch)] X (fun u => u.1 = 722 ∧ u.2 = setRow (sbB X (upd X.2.2.2.1 n (nI ch))) 11 (upd (X.1 11) (10) (nI (n + 1)))) := by
  first | refine g_met (cc := cJ4_append_cf468) (maxL := 2) (ret := (some (.object "java/lang/StringBuilder"))) (by decide) rfl (Nat.le_of_ble_eq_true rfl) ?_ | refine g_metF (cc := cJ4_append_cf468) (maxL := 2) (ret := (some (.object "java/lang/StringBuilder"))) (by decide) rfl (Nat.le_of_ble_eq_true rfl) ?_
  intro p e s m below meth c ls C hr hlk hnm hW hl
  have hx := C.1.1
  have hb := C.1.2.1
  have hS : va_S (Ab G) s.heap s.heap [] := va_S.rf
  have hl : lv_has ls 2 [(0, .ref (ad G 722)), (1, .int (nI ch))] := hl
  refine lv_aload_n hx hb dJ4_append_cf468_0 rfl (lv_at hl 0 rfl) ?_
  refine lv_iload_n hx hb dJ4_append_cf468_1 rfl (lv_at hl 1 rfl) ?_
  refine g_callr (va_runSU (C.2.1.1 1 _ rfl).2 (As := [.int (nI ch)]) (rest := []) C.1 (cJ5_append_3fe6f_ok l G X cp hcp hcap hcd n hcnt hn ch hch) (va_cwSU 1 C.1.2.2.2.2 (gSU qw_749 qw_1955 qw_285 qw_750 qw_77 qw_751) rfl rfl rfl (by decide +kernel) ⟨Nat.le_of_ble_eq_true rfl, Nat.le_of_ble_eq_true rfl⟩) (g_rSB C hW hS [.int (nI ch)]) rfl rfl hl.1 rfl (lv_room (Nat.le_of_ble_eq_true rfl)) dJ4_append_cf468_2 ⟨Nat.zero_le _, Nat.zero_le _⟩) hS (fun r_3 Y_2 H_4 locs_5 hW_6 hS_7 h_1 => ?_)
  obtain ⟨hr_8, hy_9⟩ := h_1
  dsimp only at hr_8 hy_9
  subst hr_8
  obtain ⟨w_11, ew_11⟩ : ∃ Z9, Z9 = upd X.2.2.2.1 n (nI ch) := ⟨_, rfl⟩
  obtain ⟨w_10, ew_10⟩ : ∃ Z9, Z9 = upd (X.1 11) (10) (nI (n + 1)) := ⟨_, rfl⟩
  have kn_12 : w_10 (8) = 0 := by rw [ew_10]; exact (pk_un (by omega)).trans hcd
  have kn_13 : w_10 (10) = nI (n + 1) := by rw [ew_10]; exact pk_us
  have hW_14 : Wd G (setRow (sbB X w_11) 11 w_10) H_4 := Wd.cast (by subst ew_10 ew_11; exact hy_9.trans rfl) hW_6
  refine lv_pop hx hb dJ4_append_cf468_5 rfl ?_
  refine lv_aload_n hx hb dJ4_append_cf468_6 rfl (lv_at hl 0 rfl) ?_
  exact g_aret C hr hlk hW_14 hS_7 dJ4_append_cf468_7 (by subst ew_10; subst ew_11; exact ⟨rfl, rfl⟩)

set_option maxHeartbeats 4000000 in
set_option maxRecDepth 100000 in
theorem cJ6_stringSize1_ok (l : Launch) (G : GT) (X : St) (v : Nat) (hv0 : 0 ≤ v) (hv1 : v < 10) : MetI l G yJ6_stringSize_0f7a4 (wsG yJ6_stringSize_0f7a4 cJ6_stringSize_0f7a4 4 (some .int)) (rmz 0 0) [.int (nI v)] X (fun res Y => res = nI 1 ∧ Y = X) := by
  first | refine g_met (cc := cJ6_stringSize_0f7a4) (maxL := 4) (ret := (some .int)) (by decide) rfl (Nat.le_of_ble_eq_true rfl) ?_ | refine g_metF (cc := cJ6_stringSize_0f7a4) (maxL := 4) (ret := (some .int)) (by decide) rfl (Nat.le_of_ble_eq_true rfl) ?_
  intro p e s m below meth c ls C hr hlk hnm hW hl
  have hx := C.1.1
  have hb := C.1.2.1
  have hS : va_S (Ab G) s.heap s.heap [] := va_S.rf
  have hl : lv_has ls 4 [(0, .int (nI v))] := hl
  refine lv_iconst (v := 1) hx hb dJ6_stringSize_0f7a4_0 (by decide) ?_
  refine lv_istore_n (lv' := [(1, .int 1), (0, .int (nI v))]) hx hb dJ6_stringSize_0f7a4_1 rfl hl (by decide) rfl (fun ls_1 hl_2 => ?_)
  refine lv_iload_n hx hb dJ6_stringSize_0f7a4_2 rfl (lv_at hl_2 1 rfl) ?_
  refine lv_if_lt (tgt := 11) hx hb dJ6_stringSize_0f7a4_3 (by decide) (fun h9 => absurd h9 (fun h8 => absurd ((nI_ltI (a := v) (b := 0) (by omega) (by omega)).mp h8) (by omega))) (fun _ => ?_)
  refine lv_iconst (v := 0) hx hb dJ6_stringSize_0f7a4_6 (by decide) ?_
  refine lv_istore_n (lv' := [(1, .int 0), (0, .int (nI v))]) hx hb dJ6_stringSize_0f7a4_7 rfl hl_2 (by decide) rfl (fun ls_3 hl_4 => ?_)
  refine lv_iload_n hx hb dJ6_stringSize_0f7a4_8 rfl (lv_at hl_4 1 rfl) ?_
  refine lv_ineg hx hb dJ6_stringSize_0f7a4_9 ?_
  refine lv_istore_n (lv' := [(0, .int (-nI v)), (1, .int 0)]) hx hb dJ6_stringSize_0f7a4_10 rfl hl_4 (by decide) rfl (fun ls_5 hl_6 => ?_)
  refine lv_bipush (v := (-10)) hx hb dJ6_stringSize_0f7a4_11 (by decide) ?_
  refine lv_istore_n (lv' := [(2, .int (-10)), (0, .int (-nI v)), (1, .int 0)]) hx hb dJ6_stringSize_0f7a4_13 rfl hl_6 (by decide) rfl (fun ls_7 hl_8 => ?_)
  refine lv_iconst (v := 1) hx hb dJ6_stringSize_0f7a4_14 (by decide) ?_
  refine lv_istore_n (lv' := [(3, .int 1), (2, .int (-10)), (0, .int (-nI v)), (1, .int 0)]) hx hb dJ6_stringSize_0f7a4_15 rfl hl_8 (by decide) rfl (fun ls_9 hl_10 => ?_)
  refine lv_iload_n hx hb dJ6_stringSize_0f7a4_16 rfl (lv_at hl_10 0 rfl) ?_
  refine lv_bipush (v := 10) hx hb dJ6_stringSize_0f7a4_17 (by decide) ?_
  refine lv_icmp_ge (tgt := 42) hx hb dJ6_stringSize_0f7a4_19 (by decide) (fun h9 => absurd h9 (by decide)) (fun _ => ?_)
  refine lv_iload_n hx hb dJ6_stringSize_0f7a4_22 rfl (lv_at hl_10 2 rfl) ?_
  refine lv_iload_n hx hb dJ6_stringSize_0f7a4_23 rfl (lv_at hl_10 1 rfl) ?_
  refine lv_icmp_le (tgt := 31) hx hb dJ6_stringSize_0f7a4_24 (by decide) (fun h9 => absurd h9 (fun h8 => absurd ((sb_nle (a := v) (b := 10) (by omega) (by omega)).mp h8) (by omega))) (fun _ => ?_)
  refine lv_iload_n hx hb dJ6_stringSize_0f7a4_27 rfl (lv_at hl_10 0 rfl) ?_
  refine lv_iload_n hx hb dJ6_stringSize_0f7a4_28 rfl (lv_at hl_10 3 rfl) ?_
  refine lv_iadd hx hb dJ6_stringSize_0f7a4_29 ?_
  refine g_top (y := 1) (by decide) ?_
  exact g_iret C hr hlk hW hS dJ6_stringSize_0f7a4_30 (by exact ⟨rfl, rfl⟩)

set_option maxHeartbeats 4000000 in
set_option maxRecDepth 100000 in
theorem cJ6_getChars1_ok (l : Launch) (G : GT) (X : St) (cp : Nat) (hcp : 16 ≤ cp ∧ cp ≤ 34) (hcap : X.2.2.1 = cp) (n : Nat) (hn : n + 1 ≤ cp) (v : Nat) (hv0 : 0 ≤ v) (hv1 : v < 10) : MetI l G yJ6_getChars_ba4f3 (wsG yJ6_getChars_ba4f3 cJ6_getChars_ba4f3 7 (some .int)) (rmz 0 0) [.int (nI v), .int (nI (n + 1)), .ref X.2.1] X (fun res Y => res = nI n ∧ Y = sbB X (upd X.2.2.2.1 (n) (nI (48 + v % 10)))) := by
  first | refine g_met (cc := cJ6_getChars_ba4f3) (maxL := 7) (ret := (some .int)) (by decide) rfl (Nat.le_of_ble_eq_true rfl) ?_ | refine g_metF (cc := cJ6_getChars_ba4f3) (maxL := 7) (ret := (some .int)) (by decide) rfl (Nat.le_of_ble_eq_true rfl) ?_
  intro p e s m below meth c ls C hr hlk hnm hW hl
  have hx := C.1.1
  have hb := C.1.2.1
  have hS : va_S (Ab G) s.heap s.heap [] := va_S.rf
  have hl : lv_has ls 7 [(0, .int (nI v)), (1, .int (nI (n + 1))), (2, .ref X.2.1)] := hl
  refine lv_iload_n hx hb dJ6_getChars_ba4f3_0 rfl (lv_at hl 1 rfl) ?_
  refine lv_istore (lv' := [(5, .int (nI (n + 1))), (0, .int (nI v)), (1, .int (nI (n + 1))), (2, .ref X.2.1)]) hx hb dJ6_getChars_ba4f3_1 hl (by decide) rfl (fun ls_1 hl_2 => ?_)
  refine lv_iload_n hx hb dJ6_getChars_ba4f3_3 rfl (lv_at hl_2 1 rfl) ?_
  refine lv_if_ge (tgt := 11) hx hb dJ6_getChars_ba4f3_4 (by decide) (fun _ => ?_) (fun h9 => absurd ((nI_leI (a := 0) (b := v) (by omega) (by omega)).mpr (by omega)) h9)
  refine lv_iconst (v := 0) hx hb dJ6_getChars_ba4f3_11 (by decide) ?_
  refine lv_istore (lv' := [(6, .int 0), (5, .int (nI (n + 1))), (0, .int (nI v)), (1, .int (nI (n + 1))), (2, .ref X.2.1)]) hx hb dJ6_getChars_ba4f3_12 hl_2 (by decide) rfl (fun ls_3 hl_4 => ?_)
  refine lv_iload hx hb dJ6_getChars_ba4f3_14 (lv_at hl_4 0 rfl) ?_
  refine lv_if_ne (tgt := 22) hx hb dJ6_getChars_ba4f3_16 (by decide) (fun h9 => absurd h9 (by decide)) (fun _ => ?_)
  refine lv_iload_n hx hb dJ6_getChars_ba4f3_19 rfl (lv_at hl_4 2 rfl) ?_
  refine lv_ineg hx hb dJ6_getChars_ba4f3_20 ?_
  refine lv_istore_n (lv' := [(0, .int (-nI v)), (6, .int 0), (5, .int (nI (n + 1))), (1, .int (nI (n + 1))), (2, .ref X.2.1)]) hx hb dJ6_getChars_ba4f3_21 rfl hl_4 (by decide) rfl (fun ls_5 hl_6 => ?_)
  refine lv_iload_n hx hb dJ6_getChars_ba4f3_22 rfl (lv_at hl_6 0 rfl) ?_
  refine lv_bipush (v := (-100)) hx hb dJ6_getChars_ba4f3_23 (by decide) ?_
  refine lv_icmp_gt (tgt := 72) hx hb dJ6_getChars_ba4f3_25 (by decide) (fun _ => ?_) (fun h9 => absurd ((sb_nlt (a := 100) (b := v) (by omega) (by omega)).mpr (by omega)) h9)
  refine lv_aload_n hx hb dJ6_getChars_ba4f3_72 rfl (lv_at hl_6 4 rfl) ?_
  refine lv_iinc (v := nI n) (lv' := [(5, .int (nI n)), (0, .int (-nI v)), (6, .int 0), (1, .int (nI (n + 1))), (2, .ref X.2.1)]) hx hb dJ6_getChars_ba4f3_73 hl_6 (k := 2) rfl (jm1 (by omega)) (by decide) rfl (fun ls_7 hl_8 => ?_)
  refine lv_iload hx hb dJ6_getChars_ba4f3_76 (lv_at hl_8 0 rfl) ?_
  refine va_gets (v := .ref (cy G 45)) C.1.1 C.1.2.1 C.2.2.2.2.2.2.2.2.2.2.2.2.2.2.2.1.1 hS C.1.2.2.2.1 (C.1.2.2.2.2 _ (mc qw_537)) (fun _ h => h) dJ6_getChars_ba4f3_78 ?_
  refine lv_iload_n hx hb dJ6_getChars_ba4f3_81 rfl (lv_at hl_8 1 rfl) ?_
  refine lv_ineg hx hb dJ6_getChars_ba4f3_82 ?_
  refine g_top (y := nI v) Int32.neg_neg ?_
  refine va_tb (v := .int (nI (48 + v % 10))) C.1.1 C.1.2.1 C.2.2.2.2.2.2.2.2.2.2.2.2.2.2.2.1.2 hS (vp_in_nI (show v < 100 by omega) (by decide)) (by rw [nI_clamp (show v < 2 ^ 31 by omega)]; rfl) dJ6_getChars_ba4f3_83 ?_
  refine g_sbst C hW hS hcap n (nI_clamp (show n < 2 ^ 31 by omega)) (vp_in_nI (show n < cp by omega) (show cp < 2 ^ 31 by omega)) (jnar _ (show 48 + v % 10 < 128 by omega)) dJ6_getChars_ba4f3_84 (fun H_9 locs_10 hW_11 hS_12 => ?_)
  obtain ⟨w_13, ew_13⟩ : ∃ Z9, Z9 = upd X.2.2.2.1 (n) (nI (48 + v % 10)) := ⟨_, rfl⟩
  have hW_14 : Wd G (sbB X w_13) H_9 := Wd.cast (by subst ew_13; exact rfl) hW_11
  refine lv_iload_n hx hb dJ6_getChars_ba4f3_85 rfl (lv_at hl_8 1 rfl) ?_
  refine lv_bipush (v := (-9)) hx hb dJ6_getChars_ba4f3_86 (by decide) ?_
  refine lv_icmp_ge (tgt := 104) hx hb dJ6_getChars_ba4f3_88 (by decide) (fun _ => ?_) (fun h9 => absurd ((sb_nle (a := 9) (b := v) (by omega) (by omega)).mpr (by omega)) h9)
  refine lv_iload hx hb dJ6_getChars_ba4f3_104 (lv_at hl_8 2 rfl) ?_
  refine lv_if_eq (tgt := 118) hx hb dJ6_getChars_ba4f3_106 (by decide) (fun _ => ?_) (fun h9 => absurd h9 (by decide))
  refine lv_iload hx hb dJ6_getChars_ba4f3_118 (lv_at hl_8 0 rfl) ?_
  exact g_iret C hr hlk hW_14 hS_12 dJ6_getChars_ba4f3_120 (by subst ew_13; exact ⟨rfl, rfl⟩)

set_option maxHeartbeats 4000000 in
set_option maxRecDepth 100000 in
theorem cJ5_append_c97b9_1_ok (l : Launch) (G : GT) (X : St) (cp : Nat) (hcp : 16 ≤ cp ∧ cp ≤ 34) (hcap : X.2.2.1 = cp) (hcd : X.1 11 8 = 0) (n : Nat) (hcnt : X.1 11 10 = nI n) (hn : n + 1 ≤ cp) (v : Nat) (hv0 : 0 ≤ v) (hv1 : v < 10) : MetR l G yJ5_append_c97b9 (wsG yJ5_append_c97b9 cJ5_append_c97b9 4 (some (.object "java/lang/AbstractStringBuilder"))) (rmz 1 26) [.ref (ad G 722), .int (nI v)] X (fun u => u.1 = 722 ∧ u.2 = setRow (sbB X (upd X.2.2.2.1 (n) (nI (48 + v % 10)))) 11 (upd (X.1 11) (10) (nI (n + 1)))) := by
  first | refine g_met (cc := cJ5_append_c97b9) (maxL := 4) (ret := (some (.object "java/lang/AbstractStringBuilder"))) (by decide) rfl (Nat.le_of_ble_eq_true rfl) ?_ | refine g_metF (cc := cJ5_append_c97b9) (maxL := 4) (ret := (some (.object "java/lang/AbstractStringBuilder"))) (by decide) rfl (Nat.le_of_ble_eq_true rfl) ?_
  intro p e s m below meth c ls C hr hlk hnm hW hl
  have hx := C.1.1
  have hb := C.1.2.1
  have hS : va_S (Ab G) s.heap s.heap [] := va_S.rf
  have hl : lv_has ls 4 [(0, .ref (ad G 722)), (1, .int (nI v))] := hl
  refine lv_aload_n hx hb dJ5_append_c97b9_0 rfl (lv_at hl 0 rfl) ?_
  refine gSB_count C hW (hwc hwJ4) (mc qw_276) dJ5_append_c97b9_1 ?_
  refine g_top (y := nI n) hcnt ?_
  refine lv_istore_n (lv' := [(2, .int (nI n)), (0, .ref (ad G 722)), (1, .int (nI v))]) hx hb dJ5_append_c97b9_4 rfl hl (by decide) rfl (fun ls_1 hl_2 => ?_)
  refine lv_iload_n hx hb dJ5_append_c97b9_5 rfl (lv_at hl_2 0 rfl) ?_
  refine lv_iload_n hx hb dJ5_append_c97b9_6 rfl (lv_at hl_2 2 rfl) ?_
  refine g_calli (va_runS (As := [.int (nI v)]) (rest := [.int (nI n)]) C.1 (cJ6_stringSize1_ok l G X v hv0 hv1) (va_cwS 1 C.1.2.2.2.2 (gS qw_531 qw_532 qw_103 qw_533) rfl rfl rfl (by decide +kernel) ⟨Nat.le_of_ble_eq_true rfl, Nat.le_of_ble_eq_true rfl⟩) (g_pre C hW hS [.int (nI v)]) rfl rfl hl_2.1 rfl (lv_room (Nat.le_of_ble_eq_true rfl)) dJ5_append_c97b9_7 ⟨Nat.zero_le _, Nat.zero_le _⟩) hS (fun r_5 Y_4 H_6 locs_7 hW_8 hS_9 h_3 => ?_)
  obtain ⟨h_3, hy_10⟩ := h_3
  replace hy_10 := hy_10.symm
  subst hy_10
  subst h_3
  refine lv_iadd hx hb dJ5_append_c97b9_10 ?_
  refine g_top (y := nI (n + 1)) (nI_add n 1) ?_
  refine lv_istore_n (lv' := [(3, .int (nI (n + 1))), (2, .int (nI n)), (0, .ref (ad G 722)), (1, .int (nI v))]) hx hb dJ5_append_c97b9_11 rfl hl_2 (by decide) rfl (fun ls_11 hl_12 => ?_)
  refine lv_aload_n hx hb dJ5_append_c97b9_12 rfl (lv_at hl_12 2 rfl) ?_
  refine lv_iload_n hx hb dJ5_append_c97b9_13 rfl (lv_at hl_12 0 rfl) ?_
  refine g_callv (va_runU (As := [.int (nI (n + 1))]) (rest := []) C.1 (cJ5_ensureCapacityInternal_d00df_ok l G X cp hcp hcap hcd (n + 1) (show n + 1 ≤ cp by omega)) (cwP 1 C.1.2.2.2.2 (mc qw_415) (mc qw_1948) (mc qw_417) (mc qw_77) (gN qw_418) rfl rfl rfl (by decide +kernel) ⟨Nat.le_of_ble_eq_true rfl, Nat.le_of_ble_eq_true rfl⟩ (va_Nw.use rfl (C.2.2.1.1 _ nw_44))) (g_rSB C hW_8 hS_9 [.int (nI (n + 1))]) rfl rfl hl_12.1 rfl (lv_room (Nat.le_of_ble_eq_true rfl)) dJ5_append_c97b9_14 ⟨Nat.zero_le _, Nat.zero_le _⟩) hS_9 (fun Y_14 H_16 locs_17 hW_18 hS_19 h_13 => ?_)
  replace h_13 := h_13.symm
  subst h_13
  refine lv_aload_n hx hb dJ5_append_c97b9_17 rfl (lv_at hl_12 2 rfl) ?_
  refine g_calli (va_runU (As := []) (rest := []) C.1 (cJ5_isLatin1_aae02_ok l G X cp hcp hcap hcd) (va_cwU 0 C.1.2.2.2.2 (gU qw_450 qw_452 qw_453 qw_451 qw_77 qw_454) rfl rfl rfl rfl (by decide +kernel) ⟨Nat.le_of_ble_eq_true rfl, Nat.le_of_ble_eq_true rfl⟩) (g_rSB C hW_18 hS_19 []) rfl rfl hl_12.1 rfl (lv_room (Nat.le_of_ble_eq_true rfl)) dJ5_append_c97b9_18 ⟨Nat.zero_le _, Nat.zero_le _⟩) hS_19 (fun r_22 Y_21 H_23 locs_24 hW_25 hS_26 h_20 => ?_)
  obtain ⟨h_20, hy_27⟩ := h_20
  replace hy_27 := hy_27.symm
  subst hy_27
  subst h_20
  refine lv_if_eq (tgt := 37) hx hb dJ5_append_c97b9_21 (by decide) (fun h9 => absurd h9 (by decide)) (fun _ => ?_)
  refine lv_iload_n hx hb dJ5_append_c97b9_24 rfl (lv_at hl_12 3 rfl) ?_
  refine lv_iload_n hx hb dJ5_append_c97b9_25 rfl (lv_at hl_12 0 rfl) ?_
  refine lv_aload_n hx hb dJ5_append_c97b9_26 rfl (lv_at hl_12 2 rfl) ?_
  refine gSB_value C hW_25 (hwc hwJ4) (mc qw_272) dJ5_append_c97b9_27 ?_
  refine g_calli (va_runS (As := [.int (nI v), .int (nI (n + 1)), .ref X.2.1]) (rest := []) C.1 (cJ6_getChars1_ok l G X cp hcp hcap n hn v hv0 hv1) (va_cwS 3 C.1.2.2.2.2 (gS qw_534 qw_535 qw_103 qw_536) rfl rfl rfl (by decide +kernel) ⟨Nat.le_of_ble_eq_true rfl, Nat.le_of_ble_eq_true rfl⟩) (g_pre C hW_25 hS_26 [.int (nI v), .int (nI (n + 1)), .ref X.2.1]) rfl rfl hl_12.1 rfl (lv_room (Nat.le_of_ble_eq_true rfl)) dJ5_append_c97b9_30 ⟨Nat.zero_le _, Nat.zero_le _⟩) hS_26 (fun r_30 Y_29 H_31 locs_32 hW_33 hS_34 h_28 => ?_)
  obtain ⟨h_35, h_28⟩ := h_28
  subst h_35
  have hW_36 : Wd G (sbB X (upd X.2.2.2.1 (n) (nI (48 + v % 10)))) H_31 := Wd.cast h_28 hW_33
  refine lv_pop hx hb dJ5_append_c97b9_33 rfl ?_
  refine lv_goto (tgt := 48) hx hb dJ5_append_c97b9_34 (by decide) ?_
  refine lv_aload_n hx hb dJ5_append_c97b9_48 rfl (lv_at hl_12 2 rfl) ?_
  refine lv_iload_n hx hb dJ5_append_c97b9_49 rfl (lv_at hl_12 0 rfl) ?_
  refine gSB_countP C hW_36 hS_34 (hwc hwJ4) (mc qw_276) dJ5_append_c97b9_50 (fun H_37 locs_38 hW_39 hS_40 => ?_)
  obtain ⟨w_41, ew_41⟩ : ∃ Z9, Z9 = upd (X.1 11) (10) (nI (n + 1)) := ⟨_, rfl⟩
  have kn_42 : w_41 (8) = 0 := by rw [ew_41]; exact (pk_un (by omega)).trans hcd
  have kn_43 : w_41 (10) = nI (n + 1) := by rw [ew_41]; exact pk_us
  have hW_44 : Wd G (setRow (sbB X (upd X.2.2.2.1 (n) (nI (48 + v % 10)))) 11 w_41) H_37 := Wd.cast (by rw [ew_41]; exact st_base) hW_39
  refine lv_aload_n hx hb dJ5_append_c97b9_53 rfl (lv_at hl_12 2 rfl) ?_
  exact g_aret C hr hlk hW_44 hS_40 dJ5_append_c97b9_54 (by subst ew_41; exact ⟨rfl, rfl⟩)

set_option maxHeartbeats 4000000 in
set_option maxRecDepth 100000 in
theorem cJ6_stringSize2_ok (l : Launch) (G : GT) (X : St) (v : Nat) (hv0 : 10 ≤ v) (hv1 : v < 100) : MetI l G yJ6_stringSize_0f7a4 (wsG yJ6_stringSize_0f7a4 cJ6_stringSize_0f7a4 4 (some .int)) (rmz 0 0) [.int (nI v)] X (fun res Y => res = nI 2 ∧ Y = X) := by
  first | refine g_met (cc := cJ6_stringSize_0f7a4) (maxL := 4) (ret := (some .int)) (by decide) rfl (Nat.le_of_ble_eq_true rfl) ?_ | refine g_metF (cc := cJ6_stringSize_0f7a4) (maxL := 4) (ret := (some .int)) (by decide) rfl (Nat.le_of_ble_eq_true rfl) ?_
  intro p e s m below meth c ls C hr hlk hnm hW hl
  have hx := C.1.1
  have hb := C.1.2.1
  have hS : va_S (Ab G) s.heap s.heap [] := va_S.rf
  have hl : lv_has ls 4 [(0, .int (nI v))] := hl
  refine lv_iconst (v := 1) hx hb dJ6_stringSize_0f7a4_0 (by decide) ?_
  refine lv_istore_n (lv' := [(1, .int 1), (0, .int (nI v))]) hx hb dJ6_stringSize_0f7a4_1 rfl hl (by decide) rfl (fun ls_1 hl_2 => ?_)
  refine lv_iload_n hx hb dJ6_stringSize_0f7a4_2 rfl (lv_at hl_2 1 rfl) ?_
  refine lv_if_lt (tgt := 11) hx hb dJ6_stringSize_0f7a4_3 (by decide) (fun h9 => absurd h9 (fun h8 => absurd ((nI_ltI (a := v) (b := 0) (by omega) (by omega)).mp h8) (by omega))) (fun _ => ?_)
  refine lv_iconst (v := 0) hx hb dJ6_stringSize_0f7a4_6 (by decide) ?_
  refine lv_istore_n (lv' := [(1, .int 0), (0, .int (nI v))]) hx hb dJ6_stringSize_0f7a4_7 rfl hl_2 (by decide) rfl (fun ls_3 hl_4 => ?_)
  refine lv_iload_n hx hb dJ6_stringSize_0f7a4_8 rfl (lv_at hl_4 1 rfl) ?_
  refine lv_ineg hx hb dJ6_stringSize_0f7a4_9 ?_
  refine lv_istore_n (lv' := [(0, .int (-nI v)), (1, .int 0)]) hx hb dJ6_stringSize_0f7a4_10 rfl hl_4 (by decide) rfl (fun ls_5 hl_6 => ?_)
  refine lv_bipush (v := (-10)) hx hb dJ6_stringSize_0f7a4_11 (by decide) ?_
  refine lv_istore_n (lv' := [(2, .int (-10)), (0, .int (-nI v)), (1, .int 0)]) hx hb dJ6_stringSize_0f7a4_13 rfl hl_6 (by decide) rfl (fun ls_7 hl_8 => ?_)
  refine lv_iconst (v := 1) hx hb dJ6_stringSize_0f7a4_14 (by decide) ?_
  refine lv_istore_n (lv' := [(3, .int 1), (2, .int (-10)), (0, .int (-nI v)), (1, .int 0)]) hx hb dJ6_stringSize_0f7a4_15 rfl hl_8 (by decide) rfl (fun ls_9 hl_10 => ?_)
  refine lv_iload_n hx hb dJ6_stringSize_0f7a4_16 rfl (lv_at hl_10 0 rfl) ?_
  refine lv_bipush (v := 10) hx hb dJ6_stringSize_0f7a4_17 (by decide) ?_
  refine lv_icmp_ge (tgt := 42) hx hb dJ6_stringSize_0f7a4_19 (by decide) (fun h9 => absurd h9 (by decide)) (fun _ => ?_)
  refine lv_iload_n hx hb dJ6_stringSize_0f7a4_22 rfl (lv_at hl_10 2 rfl) ?_
  refine lv_iload_n hx hb dJ6_stringSize_0f7a4_23 rfl (lv_at hl_10 1 rfl) ?_
  refine lv_icmp_le (tgt := 31) hx hb dJ6_stringSize_0f7a4_24 (by decide) (fun _ => ?_) (fun h9 => absurd ((sb_nle (a := v) (b := 10) (by omega) (by omega)).mpr (by omega)) h9)
  refine lv_bipush (v := 10) hx hb dJ6_stringSize_0f7a4_31 (by decide) ?_
  refine lv_iload_n hx hb dJ6_stringSize_0f7a4_33 rfl (lv_at hl_10 1 rfl) ?_
  refine lv_imul hx hb dJ6_stringSize_0f7a4_34 ?_
  refine g_top (y := (-100)) (by decide) ?_
  refine lv_istore_n (lv' := [(2, .int (-100)), (3, .int 1), (0, .int (-nI v)), (1, .int 0)]) hx hb dJ6_stringSize_0f7a4_35 rfl hl_10 (by decide) rfl (fun ls_11 hl_12 => ?_)
  refine lv_iinc (v := 2) (lv' := [(3, .int 2), (2, .int (-100)), (0, .int (-nI v)), (1, .int 0)]) hx hb dJ6_stringSize_0f7a4_36 hl_12 (k := 1) rfl (by decide) (by decide) rfl (fun ls_13 hl_14 => ?_)
  refine lv_goto (tgt := 16) hx hb dJ6_stringSize_0f7a4_39 (by decide) ?_
  refine lv_iload_n hx hb dJ6_stringSize_0f7a4_16 rfl (lv_at hl_14 0 rfl) ?_
  refine lv_bipush (v := 10) hx hb dJ6_stringSize_0f7a4_17 (by decide) ?_
  refine lv_icmp_ge (tgt := 42) hx hb dJ6_stringSize_0f7a4_19 (by decide) (fun h9 => absurd h9 (by decide)) (fun _ => ?_)
  refine lv_iload_n hx hb dJ6_stringSize_0f7a4_22 rfl (lv_at hl_14 2 rfl) ?_
  refine lv_iload_n hx hb dJ6_stringSize_0f7a4_23 rfl (lv_at hl_14 1 rfl) ?_
  refine lv_icmp_le (tgt := 31) hx hb dJ6_stringSize_0f7a4_24 (by decide) (fun h9 => absurd h9 (fun h8 => absurd ((sb_nle (a := v) (b := 100) (by omega) (by omega)).mp h8) (by omega))) (fun _ => ?_)
  refine lv_iload_n hx hb dJ6_stringSize_0f7a4_27 rfl (lv_at hl_14 0 rfl) ?_
  refine lv_iload_n hx hb dJ6_stringSize_0f7a4_28 rfl (lv_at hl_14 3 rfl) ?_
  refine lv_iadd hx hb dJ6_stringSize_0f7a4_29 ?_
  refine g_top (y := 2) (by decide) ?_
  exact g_iret C hr hlk hW hS dJ6_stringSize_0f7a4_30 (by exact ⟨rfl, rfl⟩)

set_option maxHeartbeats 4000000 in
set_option maxRecDepth 100000 in
theorem cJ6_getChars2_ok (l : Launch) (G : GT) (X : St) (cp : Nat) (hcp : 16 ≤ cp ∧ cp ≤ 34) (hcap : X.2.2.1 = cp) (n : Nat) (hn : n + 2 ≤ cp) (v : Nat) (hv0 : 10 ≤ v) (hv1 : v < 100) : MetI l G yJ6_getChars_ba4f3 (wsG yJ6_getChars_ba4f3 cJ6_getChars_ba4f3 7 (some .int)) (rmz 0 0) [.int (nI v), .int (nI (n + 2)), .ref X.2.1] X (fun res Y => res = nI n ∧ Y = sbB X (upd (upd X.2.2.2.1 (n + 1) (nI (48 + v % 10))) (n) (nI (48 + v / 10)))) := by
  first | refine g_met (cc := cJ6_getChars_ba4f3) (maxL := 7) (ret := (some .int)) (by decide) rfl (Nat.le_of_ble_eq_true rfl) ?_ | refine g_metF (cc := cJ6_getChars_ba4f3) (maxL := 7) (ret := (some .int)) (by decide) rfl (Nat.le_of_ble_eq_true rfl) ?_
  intro p e s m below meth c ls C hr hlk hnm hW hl
  have hx := C.1.1
  have hb := C.1.2.1
  have hS : va_S (Ab G) s.heap s.heap [] := va_S.rf
  have hl : lv_has ls 7 [(0, .int (nI v)), (1, .int (nI (n + 2))), (2, .ref X.2.1)] := hl
  refine lv_iload_n hx hb dJ6_getChars_ba4f3_0 rfl (lv_at hl 1 rfl) ?_
  refine lv_istore (lv' := [(5, .int (nI (n + 2))), (0, .int (nI v)), (1, .int (nI (n + 2))), (2, .ref X.2.1)]) hx hb dJ6_getChars_ba4f3_1 hl (by decide) rfl (fun ls_1 hl_2 => ?_)
  refine lv_iload_n hx hb dJ6_getChars_ba4f3_3 rfl (lv_at hl_2 1 rfl) ?_
  refine lv_if_ge (tgt := 11) hx hb dJ6_getChars_ba4f3_4 (by decide) (fun _ => ?_) (fun h9 => absurd ((nI_leI (a := 0) (b := v) (by omega) (by omega)).mpr (by omega)) h9)
  refine lv_iconst (v := 0) hx hb dJ6_getChars_ba4f3_11 (by decide) ?_
  refine lv_istore (lv' := [(6, .int 0), (5, .int (nI (n + 2))), (0, .int (nI v)), (1, .int (nI (n + 2))), (2, .ref X.2.1)]) hx hb dJ6_getChars_ba4f3_12 hl_2 (by decide) rfl (fun ls_3 hl_4 => ?_)
  refine lv_iload hx hb dJ6_getChars_ba4f3_14 (lv_at hl_4 0 rfl) ?_
  refine lv_if_ne (tgt := 22) hx hb dJ6_getChars_ba4f3_16 (by decide) (fun h9 => absurd h9 (by decide)) (fun _ => ?_)
  refine lv_iload_n hx hb dJ6_getChars_ba4f3_19 rfl (lv_at hl_4 2 rfl) ?_
  refine lv_ineg hx hb dJ6_getChars_ba4f3_20 ?_
  refine lv_istore_n (lv' := [(0, .int (-nI v)), (6, .int 0), (5, .int (nI (n + 2))), (1, .int (nI (n + 2))), (2, .ref X.2.1)]) hx hb dJ6_getChars_ba4f3_21 rfl hl_4 (by decide) rfl (fun ls_5 hl_6 => ?_)
  refine lv_iload_n hx hb dJ6_getChars_ba4f3_22 rfl (lv_at hl_6 0 rfl) ?_
  refine lv_bipush (v := (-100)) hx hb dJ6_getChars_ba4f3_23 (by decide) ?_
  refine lv_icmp_gt (tgt := 72) hx hb dJ6_getChars_ba4f3_25 (by decide) (fun _ => ?_) (fun h9 => absurd ((sb_nlt (a := 100) (b := v) (by omega) (by omega)).mpr (by omega)) h9)
  refine lv_aload_n hx hb dJ6_getChars_ba4f3_72 rfl (lv_at hl_6 4 rfl) ?_
  refine lv_iinc (v := nI (n + 1)) (lv' := [(5, .int (nI (n + 1))), (0, .int (-nI v)), (6, .int 0), (1, .int (nI (n + 2))), (2, .ref X.2.1)]) hx hb dJ6_getChars_ba4f3_73 hl_6 (k := 2) rfl (jm1 (by omega)) (by decide) rfl (fun ls_7 hl_8 => ?_)
  refine lv_iload hx hb dJ6_getChars_ba4f3_76 (lv_at hl_8 0 rfl) ?_
  refine va_gets (v := .ref (cy G 45)) C.1.1 C.1.2.1 C.2.2.2.2.2.2.2.2.2.2.2.2.2.2.2.1.1 hS C.1.2.2.2.1 (C.1.2.2.2.2 _ (mc qw_537)) (fun _ h => h) dJ6_getChars_ba4f3_78 ?_
  refine lv_iload_n hx hb dJ6_getChars_ba4f3_81 rfl (lv_at hl_8 1 rfl) ?_
  refine lv_ineg hx hb dJ6_getChars_ba4f3_82 ?_
  refine g_top (y := nI v) Int32.neg_neg ?_
  refine va_tb (v := .int (nI (48 + v % 10))) C.1.1 C.1.2.1 C.2.2.2.2.2.2.2.2.2.2.2.2.2.2.2.1.2 hS (vp_in_nI (show v < 100 by omega) (by decide)) (by rw [nI_clamp (show v < 2 ^ 31 by omega)]; rfl) dJ6_getChars_ba4f3_83 ?_
  refine g_sbst C hW hS hcap (n + 1) (nI_clamp (show n + 1 < 2 ^ 31 by omega)) (vp_in_nI (show n + 1 < cp by omega) (show cp < 2 ^ 31 by omega)) (jnar _ (show 48 + v % 10 < 128 by omega)) dJ6_getChars_ba4f3_84 (fun H_9 locs_10 hW_11 hS_12 => ?_)
  obtain ⟨w_13, ew_13⟩ : ∃ Z9, Z9 = upd X.2.2.2.1 (n + 1) (nI (48 + v % 10)) := ⟨_, rfl⟩
  have hW_14 : Wd G (sbB X w_13) H_9 := Wd.cast (by subst ew_13; exact rfl) hW_11
  refine lv_iload_n hx hb dJ6_getChars_ba4f3_85 rfl (lv_at hl_8 1 rfl) ?_
  refine lv_bipush (v := (-9)) hx hb dJ6_getChars_ba4f3_86 (by decide) ?_
  refine lv_icmp_ge (tgt := 104) hx hb dJ6_getChars_ba4f3_88 (by decide) (fun h9 => absurd h9 (fun h8 => absurd ((sb_nle (a := 9) (b := v) (by omega) (by omega)).mp h8) (by omega))) (fun _ => ?_)
  refine lv_aload_n hx hb dJ6_getChars_ba4f3_91 rfl (lv_at hl_8 4 rfl) ?_
  refine lv_iinc (v := nI n) (lv' := [(5, .int (nI n)), (0, .int (-nI v)), (6, .int 0), (1, .int (nI (n + 2))), (2, .ref X.2.1)]) hx hb dJ6_getChars_ba4f3_92 hl_8 (k := 0) rfl (jm1 (by omega)) (by decide) rfl (fun ls_15 hl_16 => ?_)
  refine lv_iload hx hb dJ6_getChars_ba4f3_95 (lv_at hl_16 0 rfl) ?_
  refine va_gets (v := .ref (cy G 44)) C.1.1 C.1.2.1 C.2.2.2.2.2.2.2.2.2.2.2.2.2.2.1.1 hS_12 C.1.2.2.2.1 (C.1.2.2.2.2 _ (mc qw_539)) (fun _ h => h) dJ6_getChars_ba4f3_97 ?_
  refine lv_iload_n hx hb dJ6_getChars_ba4f3_100 rfl (lv_at hl_16 1 rfl) ?_
  refine lv_ineg hx hb dJ6_getChars_ba4f3_101 ?_
  refine g_top (y := nI v) Int32.neg_neg ?_
  refine va_tb (v := .int (nI (48 + v / 10))) C.1.1 C.1.2.1 C.2.2.2.2.2.2.2.2.2.2.2.2.2.2.1.2 hS_12 (vp_in_nI (show v < 100 by omega) (by decide)) (by rw [nI_clamp (show v < 2 ^ 31 by omega)]; rfl) dJ6_getChars_ba4f3_102 ?_
  refine g_sbst C hW_14 hS_12 hcap n (nI_clamp (show n < 2 ^ 31 by omega)) (vp_in_nI (show n < cp by omega) (show cp < 2 ^ 31 by omega)) (jnar _ (show 48 + v / 10 < 128 by omega)) dJ6_getChars_ba4f3_103 (fun H_17 locs_18 hW_19 hS_20 => ?_)
  obtain ⟨w_21, ew_21⟩ : ∃ Z9, Z9 = upd w_13 (n) (nI (48 + v / 10)) := ⟨_, rfl⟩
  have hW_22 : Wd G (sbB X w_21) H_17 := Wd.cast (by subst ew_21; exact rfl) hW_19
  refine lv_iload hx hb dJ6_getChars_ba4f3_104 (lv_at hl_16 2 rfl) ?_
  refine lv_if_eq (tgt := 118) hx hb dJ6_getChars_ba4f3_106 (by decide) (fun _ => ?_) (fun h9 => absurd h9 (by decide))
  refine lv_iload hx hb dJ6_getChars_ba4f3_118 (lv_at hl_16 0 rfl) ?_
  exact g_iret C hr hlk hW_22 hS_20 dJ6_getChars_ba4f3_120 (by subst ew_21; subst ew_13; exact ⟨rfl, rfl⟩)

set_option maxHeartbeats 4000000 in
set_option maxRecDepth 100000 in
theorem cJ5_append_c97b9_2_ok (l : Launch) (G : GT) (X : St) (cp : Nat) (hcp : 16 ≤ cp ∧ cp ≤ 34) (hcap : X.2.2.1 = cp) (hcd : X.1 11 8 = 0) (n : Nat) (hcnt : X.1 11 10 = nI n) (hn : n + 2 ≤ cp) (v : Nat) (hv0 : 10 ≤ v) (hv1 : v < 100) : MetR l G yJ5_append_c97b9 (wsG yJ5_append_c97b9 cJ5_append_c97b9 4 (some (.object "java/lang/AbstractStringBuilder"))) (rmz 1 26) [.ref (ad G 722), .int (nI v)] X (fun u => u.1 = 722 ∧ u.2 = setRow (sbB X (upd (upd X.2.2.2.1 (n + 1) (nI (48 + v % 10))) (n) (nI (48 + v / 10)))) 11 (upd (X.1 11) (10) (nI (n + 2)))) := by
  first | refine g_met (cc := cJ5_append_c97b9) (maxL := 4) (ret := (some (.object "java/lang/AbstractStringBuilder"))) (by decide) rfl (Nat.le_of_ble_eq_true rfl) ?_ | refine g_metF (cc := cJ5_append_c97b9) (maxL := 4) (ret := (some (.object "java/lang/AbstractStringBuilder"))) (by decide) rfl (Nat.le_of_ble_eq_true rfl) ?_
  intro p e s m below meth c ls C hr hlk hnm hW hl
  have hx := C.1.1
  have hb := C.1.2.1
  have hS : va_S (Ab G) s.heap s.heap [] := va_S.rf
  have hl : lv_has ls 4 [(0, .ref (ad G 722)), (1, .int (nI v))] := hl
  refine lv_aload_n hx hb dJ5_append_c97b9_0 rfl (lv_at hl 0 rfl) ?_
  refine gSB_count C hW (hwc hwJ4) (mc qw_276) dJ5_append_c97b9_1 ?_
  refine g_top (y := nI n) hcnt ?_
  refine lv_istore_n (lv' := [(2, .int (nI n)), (0, .ref (ad G 722)), (1, .int (nI v))]) hx hb dJ5_append_c97b9_4 rfl hl (by decide) rfl (fun ls_1 hl_2 => ?_)
  refine lv_iload_n hx hb dJ5_append_c97b9_5 rfl (lv_at hl_2 0 rfl) ?_
  refine lv_iload_n hx hb dJ5_append_c97b9_6 rfl (lv_at hl_2 2 rfl) ?_
  refine g_calli (va_runS (As := [.int (nI v)]) (rest := [.int (nI n)]) C.1 (cJ6_stringSize2_ok l G X v hv0 hv1) (va_cwS 1 C.1.2.2.2.2 (gS qw_531 qw_532 qw_103 qw_533) rfl rfl rfl (by decide +kernel) ⟨Nat.le_of_ble_eq_true rfl, Nat.le_of_ble_eq_true rfl⟩) (g_pre C hW hS [.int (nI v)]) rfl rfl hl_2.1 rfl (lv_room (Nat.le_of_ble_eq_true rfl)) dJ5_append_c97b9_7 ⟨Nat.zero_le _, Nat.zero_le _⟩) hS (fun r_5 Y_4 H_6 locs_7 hW_8 hS_9 h_3 => ?_)
  obtain ⟨h_3, hy_10⟩ := h_3
  replace hy_10 := hy_10.symm
  subst hy_10
  subst h_3
  refine lv_iadd hx hb dJ5_append_c97b9_10 ?_
  refine g_top (y := nI (n + 2)) (nI_add n 2) ?_
  refine lv_istore_n (lv' := [(3, .int (nI (n + 2))), (2, .int (nI n)), (0, .ref (ad G 722)), (1, .int (nI v))]) hx hb dJ5_append_c97b9_11 rfl hl_2 (by decide) rfl (fun ls_11 hl_12 => ?_)
  refine lv_aload_n hx hb dJ5_append_c97b9_12 rfl (lv_at hl_12 2 rfl) ?_
  refine lv_iload_n hx hb dJ5_append_c97b9_13 rfl (lv_at hl_12 0 rfl) ?_
  refine g_callv (va_runU (As := [.int (nI (n + 2))]) (rest := []) C.1 (cJ5_ensureCapacityInternal_d00df_ok l G X cp hcp hcap hcd (n + 2) (show n + 2 ≤ cp by omega)) (cwP 1 C.1.2.2.2.2 (mc qw_415) (mc qw_1948) (mc qw_417) (mc qw_77) (gN qw_418) rfl rfl rfl (by decide +kernel) ⟨Nat.le_of_ble_eq_true rfl, Nat.le_of_ble_eq_true rfl⟩ (va_Nw.use rfl (C.2.2.1.1 _ nw_44))) (g_rSB C hW_8 hS_9 [.int (nI (n + 2))]) rfl rfl hl_12.1 rfl (lv_room (Nat.le_of_ble_eq_true rfl)) dJ5_append_c97b9_14 ⟨Nat.zero_le _, Nat.zero_le _⟩) hS_9 (fun Y_14 H_16 locs_17 hW_18 hS_19 h_13 => ?_)
  replace h_13 := h_13.symm
  subst h_13
  refine lv_aload_n hx hb dJ5_append_c97b9_17 rfl (lv_at hl_12 2 rfl) ?_
  refine g_calli (va_runU (As := []) (rest := []) C.1 (cJ5_isLatin1_aae02_ok l G X cp hcp hcap hcd) (va_cwU 0 C.1.2.2.2.2 (gU qw_450 qw_452 qw_453 qw_451 qw_77 qw_454) rfl rfl rfl rfl (by decide +kernel) ⟨Nat.le_of_ble_eq_true rfl, Nat.le_of_ble_eq_true rfl⟩) (g_rSB C hW_18 hS_19 []) rfl rfl hl_12.1 rfl (lv_room (Nat.le_of_ble_eq_true rfl)) dJ5_append_c97b9_18 ⟨Nat.zero_le _, Nat.zero_le _⟩) hS_19 (fun r_22 Y_21 H_23 locs_24 hW_25 hS_26 h_20 => ?_)
  obtain ⟨h_20, hy_27⟩ := h_20
  replace hy_27 := hy_27.symm
  subst hy_27
  subst h_20
  refine lv_if_eq (tgt := 37) hx hb dJ5_append_c97b9_21 (by decide) (fun h9 => absurd h9 (by decide)) (fun _ => ?_)
  refine lv_iload_n hx hb dJ5_append_c97b9_24 rfl (lv_at hl_12 3 rfl) ?_
  refine lv_iload_n hx hb dJ5_append_c97b9_25 rfl (lv_at hl_12 0 rfl) ?_
  refine lv_aload_n hx hb dJ5_append_c97b9_26 rfl (lv_at hl_12 2 rfl) ?_
  refine gSB_value C hW_25 (hwc hwJ4) (mc qw_272) dJ5_append_c97b9_27 ?_
  refine g_calli (va_runS (As := [.int (nI v), .int (nI (n + 2)), .ref X.2.1]) (rest := []) C.1 (cJ6_getChars2_ok l G X cp hcp hcap n hn v hv0 hv1) (va_cwS 3 C.1.2.2.2.2 (gS qw_534 qw_535 qw_103 qw_536) rfl rfl rfl (by decide +kernel) ⟨Nat.le_of_ble_eq_true rfl, Nat.le_of_ble_eq_true rfl⟩) (g_pre C hW_25 hS_26 [.int (nI v), .int (nI (n + 2)), .ref X.2.1]) rfl rfl hl_12.1 rfl (lv_room (Nat.le_of_ble_eq_true rfl)) dJ5_append_c97b9_30 ⟨Nat.zero_le _, Nat.zero_le _⟩) hS_26 (fun r_30 Y_29 H_31 locs_32 hW_33 hS_34 h_28 => ?_)
  obtain ⟨h_35, h_28⟩ := h_28
  subst h_35
  have hW_36 : Wd G (sbB X (upd (upd X.2.2.2.1 (n + 1) (nI (48 + v % 10))) (n) (nI (48 + v / 10)))) H_31 := Wd.cast h_28 hW_33
  refine lv_pop hx hb dJ5_append_c97b9_33 rfl ?_
  refine lv_goto (tgt := 48) hx hb dJ5_append_c97b9_34 (by decide) ?_
  refine lv_aload_n hx hb dJ5_append_c97b9_48 rfl (lv_at hl_12 2 rfl) ?_
  refine lv_iload_n hx hb dJ5_append_c97b9_49 rfl (lv_at hl_12 0 rfl) ?_
  refine gSB_countP C hW_36 hS_34 (hwc hwJ4) (mc qw_276) dJ5_append_c97b9_50 (fun H_37 locs_38 hW_39 hS_40 => ?_)
  obtain ⟨w_41, ew_41⟩ : ∃ Z9, Z9 = upd (X.1 11) (10) (nI (n + 2)) := ⟨_, rfl⟩
  have kn_42 : w_41 (8) = 0 := by rw [ew_41]; exact (pk_un (by omega)).trans hcd
  have kn_43 : w_41 (10) = nI (n + 2) := by rw [ew_41]; exact pk_us
  have hW_44 : Wd G (setRow (sbB X (upd (upd X.2.2.2.1 (n + 1) (nI (48 + v % 10))) (n) (nI (48 + v / 10)))) 11 w_41) H_37 := Wd.cast (by rw [ew_41]; exact st_base) hW_39
  refine lv_aload_n hx hb dJ5_append_c97b9_53 rfl (lv_at hl_12 2 rfl) ?_
  exact g_aret C hr hlk hW_44 hS_40 dJ5_append_c97b9_54 (by subst ew_41; exact ⟨rfl, rfl⟩)

set_option maxHeartbeats 4000000 in
set_option maxRecDepth 100000 in
theorem cJ6_stringSize3_ok (l : Launch) (G : GT) (X : St) (v : Nat) (hv0 : 100 ≤ v) (hv1 : v < 1000) : MetI l G yJ6_stringSize_0f7a4 (wsG yJ6_stringSize_0f7a4 cJ6_stringSize_0f7a4 4 (some .int)) (rmz 0 0) [.int (nI v)] X (fun res Y => res = nI 3 ∧ Y = X) := by
  first | refine g_met (cc := cJ6_stringSize_0f7a4) (maxL := 4) (ret := (some .int)) (by decide) rfl (Nat.le_of_ble_eq_true rfl) ?_ | refine g_metF (cc := cJ6_stringSize_0f7a4) (maxL := 4) (ret := (some .int)) (by decide) rfl (Nat.le_of_ble_eq_true rfl) ?_
  intro p e s m below meth c ls C hr hlk hnm hW hl
  have hx := C.1.1
  have hb := C.1.2.1
  have hS : va_S (Ab G) s.heap s.heap [] := va_S.rf
  have hl : lv_has ls 4 [(0, .int (nI v))] := hl
  refine lv_iconst (v := 1) hx hb dJ6_stringSize_0f7a4_0 (by decide) ?_
  refine lv_istore_n (lv' := [(1, .int 1), (0, .int (nI v))]) hx hb dJ6_stringSize_0f7a4_1 rfl hl (by decide) rfl (fun ls_1 hl_2 => ?_)
  refine lv_iload_n hx hb dJ6_stringSize_0f7a4_2 rfl (lv_at hl_2 1 rfl) ?_
  refine lv_if_lt (tgt := 11) hx hb dJ6_stringSize_0f7a4_3 (by decide) (fun h9 => absurd h9 (fun h8 => absurd ((nI_ltI (a := v) (b := 0) (by omega) (by omega)).mp h8) (by omega))) (fun _ => ?_)
  refine lv_iconst (v := 0) hx hb dJ6_stringSize_0f7a4_6 (by decide) ?_
  refine lv_istore_n (lv' := [(1, .int 0), (0, .int (nI v))]) hx hb dJ6_stringSize_0f7a4_7 rfl hl_2 (by decide) rfl (fun ls_3 hl_4 => ?_)
  refine lv_iload_n hx hb dJ6_stringSize_0f7a4_8 rfl (lv_at hl_4 1 rfl) ?_
  refine lv_ineg hx hb dJ6_stringSize_0f7a4_9 ?_
  refine lv_istore_n (lv' := [(0, .int (-nI v)), (1, .int 0)]) hx hb dJ6_stringSize_0f7a4_10 rfl hl_4 (by decide) rfl (fun ls_5 hl_6 => ?_)
  refine lv_bipush (v := (-10)) hx hb dJ6_stringSize_0f7a4_11 (by decide) ?_
  refine lv_istore_n (lv' := [(2, .int (-10)), (0, .int (-nI v)), (1, .int 0)]) hx hb dJ6_stringSize_0f7a4_13 rfl hl_6 (by decide) rfl (fun ls_7 hl_8 => ?_)
  refine lv_iconst (v := 1) hx hb dJ6_stringSize_0f7a4_14 (by decide) ?_
  refine lv_istore_n (lv' := [(3, .int 1), (2, .int (-10)), (0, .int (-nI v)), (1, .int 0)]) hx hb dJ6_stringSize_0f7a4_15 rfl hl_8 (by decide) rfl (fun ls_9 hl_10 => ?_)
  refine lv_iload_n hx hb dJ6_stringSize_0f7a4_16 rfl (lv_at hl_10 0 rfl) ?_
  refine lv_bipush (v := 10) hx hb dJ6_stringSize_0f7a4_17 (by decide) ?_
  refine lv_icmp_ge (tgt := 42) hx hb dJ6_stringSize_0f7a4_19 (by decide) (fun h9 => absurd h9 (by decide)) (fun _ => ?_)
  refine lv_iload_n hx hb dJ6_stringSize_0f7a4_22 rfl (lv_at hl_10 2 rfl) ?_
  refine lv_iload_n hx hb dJ6_stringSize_0f7a4_23 rfl (lv_at hl_10 1 rfl) ?_
  refine lv_icmp_le (tgt := 31) hx hb dJ6_stringSize_0f7a4_24 (by decide) (fun _ => ?_) (fun h9 => absurd ((sb_nle (a := v) (b := 10) (by omega) (by omega)).mpr (by omega)) h9)
  refine lv_bipush (v := 10) hx hb dJ6_stringSize_0f7a4_31 (by decide) ?_
  refine lv_iload_n hx hb dJ6_stringSize_0f7a4_33 rfl (lv_at hl_10 1 rfl) ?_
  refine lv_imul hx hb dJ6_stringSize_0f7a4_34 ?_
  refine g_top (y := (-100)) (by decide) ?_
  refine lv_istore_n (lv' := [(2, .int (-100)), (3, .int 1), (0, .int (-nI v)), (1, .int 0)]) hx hb dJ6_stringSize_0f7a4_35 rfl hl_10 (by decide) rfl (fun ls_11 hl_12 => ?_)
  refine lv_iinc (v := 2) (lv' := [(3, .int 2), (2, .int (-100)), (0, .int (-nI v)), (1, .int 0)]) hx hb dJ6_stringSize_0f7a4_36 hl_12 (k := 1) rfl (by decide) (by decide) rfl (fun ls_13 hl_14 => ?_)
  refine lv_goto (tgt := 16) hx hb dJ6_stringSize_0f7a4_39 (by decide) ?_
  refine lv_iload_n hx hb dJ6_stringSize_0f7a4_16 rfl (lv_at hl_14 0 rfl) ?_
  refine lv_bipush (v := 10) hx hb dJ6_stringSize_0f7a4_17 (by decide) ?_
  refine lv_icmp_ge (tgt := 42) hx hb dJ6_stringSize_0f7a4_19 (by decide) (fun h9 => absurd h9 (by decide)) (fun _ => ?_)
  refine lv_iload_n hx hb dJ6_stringSize_0f7a4_22 rfl (lv_at hl_14 2 rfl) ?_
  refine lv_iload_n hx hb dJ6_stringSize_0f7a4_23 rfl (lv_at hl_14 1 rfl) ?_
  refine lv_icmp_le (tgt := 31) hx hb dJ6_stringSize_0f7a4_24 (by decide) (fun _ => ?_) (fun h9 => absurd ((sb_nle (a := v) (b := 100) (by omega) (by omega)).mpr (by omega)) h9)
  refine lv_bipush (v := 10) hx hb dJ6_stringSize_0f7a4_31 (by decide) ?_
  refine lv_iload_n hx hb dJ6_stringSize_0f7a4_33 rfl (lv_at hl_14 1 rfl) ?_
  refine lv_imul hx hb dJ6_stringSize_0f7a4_34 ?_
  refine g_top (y := (-1000)) (by decide) ?_
  refine lv_istore_n (lv' := [(2, .int (-1000)), (3, .int 2), (0, .int (-nI v)), (1, .int 0)]) hx hb dJ6_stringSize_0f7a4_35 rfl hl_14 (by decide) rfl (fun ls_15 hl_16 => ?_)
  refine lv_iinc (v := 3) (lv' := [(3, .int 3), (2, .int (-1000)), (0, .int (-nI v)), (1, .int 0)]) hx hb dJ6_stringSize_0f7a4_36 hl_16 (k := 1) rfl (by decide) (by decide) rfl (fun ls_17 hl_18 => ?_)
  refine lv_goto (tgt := 16) hx hb dJ6_stringSize_0f7a4_39 (by decide) ?_
  refine lv_iload_n hx hb dJ6_stringSize_0f7a4_16 rfl (lv_at hl_18 0 rfl) ?_
  refine lv_bipush (v := 10) hx hb dJ6_stringSize_0f7a4_17 (by decide) ?_
  refine lv_icmp_ge (tgt := 42) hx hb dJ6_stringSize_0f7a4_19 (by decide) (fun h9 => absurd h9 (by decide)) (fun _ => ?_)
  refine lv_iload_n hx hb dJ6_stringSize_0f7a4_22 rfl (lv_at hl_18 2 rfl) ?_
  refine lv_iload_n hx hb dJ6_stringSize_0f7a4_23 rfl (lv_at hl_18 1 rfl) ?_
  refine lv_icmp_le (tgt := 31) hx hb dJ6_stringSize_0f7a4_24 (by decide) (fun h9 => absurd h9 (fun h8 => absurd ((sb_nle (a := v) (b := 1000) (by omega) (by omega)).mp h8) (by omega))) (fun _ => ?_)
  refine lv_iload_n hx hb dJ6_stringSize_0f7a4_27 rfl (lv_at hl_18 0 rfl) ?_
  refine lv_iload_n hx hb dJ6_stringSize_0f7a4_28 rfl (lv_at hl_18 3 rfl) ?_
  refine lv_iadd hx hb dJ6_stringSize_0f7a4_29 ?_
  refine g_top (y := 3) (by decide) ?_
  exact g_iret C hr hlk hW hS dJ6_stringSize_0f7a4_30 (by exact ⟨rfl, rfl⟩)

set_option maxHeartbeats 4000000 in
set_option maxRecDepth 100000 in
theorem cJ6_getChars3_ok (l : Launch) (G : GT) (X : St) (cp : Nat) (hcp : 16 ≤ cp ∧ cp ≤ 34) (hcap : X.2.2.1 = cp) (n : Nat) (hn : n + 3 ≤ cp) (v : Nat) (hv0 : 100 ≤ v) (hv1 : v < 1000) : MetI l G yJ6_getChars_ba4f3 (wsG yJ6_getChars_ba4f3 cJ6_getChars_ba4f3 7 (some .int)) (rmz 0 0) [.int (nI v), .int (nI (n + 3)), .ref X.2.1] X (fun res Y => res = nI n ∧ Y = sbB X (upd (upd (upd X.2.2.2.1 (n + 2) (nI (48 + v % 100 % 10))) (n + 1) (nI (48 + v % 100 / 10))) (n) (nI (48 + v / 100 % 10)))) := by
  first | refine g_met (cc := cJ6_getChars_ba4f3) (maxL := 7) (ret := (some .int)) (by decide) rfl (Nat.le_of_ble_eq_true rfl) ?_ | refine g_metF (cc := cJ6_getChars_ba4f3) (maxL := 7) (ret := (some .int)) (by decide) rfl (Nat.le_of_ble_eq_true rfl) ?_
  intro p e s m below meth c ls C hr hlk hnm hW hl
  have hx := C.1.1
  have hb := C.1.2.1
  have hS : va_S (Ab G) s.heap s.heap [] := va_S.rf
  have hl : lv_has ls 7 [(0, .int (nI v)), (1, .int (nI (n + 3))), (2, .ref X.2.1)] := hl
  refine lv_iload_n hx hb dJ6_getChars_ba4f3_0 rfl (lv_at hl 1 rfl) ?_
  refine lv_istore (lv' := [(5, .int (nI (n + 3))), (0, .int (nI v)), (1, .int (nI (n + 3))), (2, .ref X.2.1)]) hx hb dJ6_getChars_ba4f3_1 hl (by decide) rfl (fun ls_1 hl_2 => ?_)
  refine lv_iload_n hx hb dJ6_getChars_ba4f3_3 rfl (lv_at hl_2 1 rfl) ?_
  refine lv_if_ge (tgt := 11) hx hb dJ6_getChars_ba4f3_4 (by decide) (fun _ => ?_) (fun h9 => absurd ((nI_leI (a := 0) (b := v) (by omega) (by omega)).mpr (by omega)) h9)
  refine lv_iconst (v := 0) hx hb dJ6_getChars_ba4f3_11 (by decide) ?_
  refine lv_istore (lv' := [(6, .int 0), (5, .int (nI (n + 3))), (0, .int (nI v)), (1, .int (nI (n + 3))), (2, .ref X.2.1)]) hx hb dJ6_getChars_ba4f3_12 hl_2 (by decide) rfl (fun ls_3 hl_4 => ?_)
  refine lv_iload hx hb dJ6_getChars_ba4f3_14 (lv_at hl_4 0 rfl) ?_
  refine lv_if_ne (tgt := 22) hx hb dJ6_getChars_ba4f3_16 (by decide) (fun h9 => absurd h9 (by decide)) (fun _ => ?_)
  refine lv_iload_n hx hb dJ6_getChars_ba4f3_19 rfl (lv_at hl_4 2 rfl) ?_
  refine lv_ineg hx hb dJ6_getChars_ba4f3_20 ?_
  refine lv_istore_n (lv' := [(0, .int (-nI v)), (6, .int 0), (5, .int (nI (n + 3))), (1, .int (nI (n + 3))), (2, .ref X.2.1)]) hx hb dJ6_getChars_ba4f3_21 rfl hl_4 (by decide) rfl (fun ls_5 hl_6 => ?_)
  refine lv_iload_n hx hb dJ6_getChars_ba4f3_22 rfl (lv_at hl_6 0 rfl) ?_
  refine lv_bipush (v := (-100)) hx hb dJ6_getChars_ba4f3_23 (by decide) ?_
  refine lv_icmp_gt (tgt := 72) hx hb dJ6_getChars_ba4f3_25 (by decide) (fun h9 => absurd h9 (fun h8 => absurd ((sb_nlt (a := 100) (b := v) (by omega) (by omega)).mp h8) (by omega))) (fun _ => ?_)
  refine lv_iload_n hx hb dJ6_getChars_ba4f3_28 rfl (lv_at hl_6 0 rfl) ?_
  refine lv_bipush (v := 100) hx hb dJ6_getChars_ba4f3_29 (by decide) ?_
  refine lv_idiv hx hb dJ6_getChars_ba4f3_31 (by decide) ?_
  refine g_top (y := -nI (v / 100)) (sb_ndiv (by omega)) ?_
  refine lv_istore_n (lv' := [(3, .int (-nI (v / 100))), (0, .int (-nI v)), (6, .int 0), (5, .int (nI (n + 3))), (1, .int (nI (n + 3))), (2, .ref X.2.1)]) hx hb dJ6_getChars_ba4f3_32 rfl hl_6 (by decide) rfl (fun ls_7 hl_8 => ?_)
  refine lv_iload_n hx hb dJ6_getChars_ba4f3_33 rfl (lv_at hl_8 0 rfl) ?_
  refine lv_bipush (v := 100) hx hb dJ6_getChars_ba4f3_34 (by decide) ?_
  refine lv_imul hx hb dJ6_getChars_ba4f3_36 ?_
  refine lv_iload_n hx hb dJ6_getChars_ba4f3_37 rfl (lv_at hl_8 1 rfl) ?_
  refine lv_isub hx hb dJ6_getChars_ba4f3_38 ?_
  refine g_top (y := nI (v % 100)) (sb_nrem (by omega)) ?_
  refine lv_istore (lv' := [(4, .int (nI (v % 100))), (3, .int (-nI (v / 100))), (0, .int (-nI v)), (6, .int 0), (5, .int (nI (n + 3))), (1, .int (nI (n + 3))), (2, .ref X.2.1)]) hx hb dJ6_getChars_ba4f3_39 hl_8 (by decide) rfl (fun ls_9 hl_10 => ?_)
  refine lv_iload_n hx hb dJ6_getChars_ba4f3_41 rfl (lv_at hl_10 1 rfl) ?_
  refine lv_istore_n (lv' := [(0, .int (-nI (v / 100))), (4, .int (nI (v % 100))), (3, .int (-nI (v / 100))), (6, .int 0), (5, .int (nI (n + 3))), (1, .int (nI (n + 3))), (2, .ref X.2.1)]) hx hb dJ6_getChars_ba4f3_42 rfl hl_10 (by decide) rfl (fun ls_11 hl_12 => ?_)
  refine lv_aload_n hx hb dJ6_getChars_ba4f3_43 rfl (lv_at hl_12 6 rfl) ?_
  refine lv_iinc (v := nI (n + 2)) (lv' := [(5, .int (nI (n + 2))), (0, .int (-nI (v / 100))), (4, .int (nI (v % 100))), (3, .int (-nI (v / 100))), (6, .int 0), (1, .int (nI (n + 3))), (2, .ref X.2.1)]) hx hb dJ6_getChars_ba4f3_44 hl_12 (k := 4) rfl (jm1 (by omega)) (by decide) rfl (fun ls_13 hl_14 => ?_)
  refine lv_iload hx hb dJ6_getChars_ba4f3_47 (lv_at hl_14 0 rfl) ?_
  refine va_gets (v := .ref (cy G 45)) C.1.1 C.1.2.1 C.2.2.2.2.2.2.2.2.2.2.2.2.2.2.2.1.1 hS C.1.2.2.2.1 (C.1.2.2.2.2 _ (mc qw_537)) (fun _ h => h) dJ6_getChars_ba4f3_49 ?_
  refine lv_iload hx hb dJ6_getChars_ba4f3_52 (lv_at hl_14 2 rfl) ?_
  refine va_tb (v := .int (nI (48 + (v % 100) % 10))) C.1.1 C.1.2.1 C.2.2.2.2.2.2.2.2.2.2.2.2.2.2.2.1.2 hS (vp_in_nI (show v % 100 < 100 by omega) (by decide)) (by rw [nI_clamp (show v % 100 < 2 ^ 31 by omega)]; rfl) dJ6_getChars_ba4f3_54 ?_
  refine g_sbst C hW hS hcap (n + 2) (nI_clamp (show n + 2 < 2 ^ 31 by omega)) (vp_in_nI (show n + 2 < cp by omega) (show cp < 2 ^ 31 by omega)) (jnar _ (show 48 + (v % 100) % 10 < 128 by omega)) dJ6_getChars_ba4f3_55 (fun H_15 locs_16 hW_17 hS_18 => ?_)
  obtain ⟨w_19, ew_19⟩ : ∃ Z9, Z9 = upd X.2.2.2.1 (n + 2) (nI (48 + (v % 100) % 10)) := ⟨_, rfl⟩
  have hW_20 : Wd G (sbB X w_19) H_15 := Wd.cast (by subst ew_19; exact rfl) hW_17
  refine lv_aload_n hx hb dJ6_getChars_ba4f3_56 rfl (lv_at hl_14 6 rfl) ?_
  refine lv_iinc (v := nI (n + 1)) (lv' := [(5, .int (nI (n + 1))), (0, .int (-nI (v / 100))), (4, .int (nI (v % 100))), (3, .int (-nI (v / 100))), (6, .int 0), (1, .int (nI (n + 3))), (2, .ref X.2.1)]) hx hb dJ6_getChars_ba4f3_57 hl_14 (k := 0) rfl (jm1 (by omega)) (by decide) rfl (fun ls_21 hl_22 => ?_)
  refine lv_iload hx hb dJ6_getChars_ba4f3_60 (lv_at hl_22 0 rfl) ?_
  refine va_gets (v := .ref (cy G 44)) C.1.1 C.1.2.1 C.2.2.2.2.2.2.2.2.2.2.2.2.2.2.1.1 hS_18 C.1.2.2.2.1 (C.1.2.2.2.2 _ (mc qw_539)) (fun _ h => h) dJ6_getChars_ba4f3_62 ?_
  refine lv_iload hx hb dJ6_getChars_ba4f3_65 (lv_at hl_22 2 rfl) ?_
  refine va_tb (v := .int (nI (48 + (v % 100) / 10))) C.1.1 C.1.2.1 C.2.2.2.2.2.2.2.2.2.2.2.2.2.2.1.2 hS_18 (vp_in_nI (show v % 100 < 100 by omega) (by decide)) (by rw [nI_clamp (show v % 100 < 2 ^ 31 by omega)]; rfl) dJ6_getChars_ba4f3_67 ?_
  refine g_sbst C hW_20 hS_18 hcap (n + 1) (nI_clamp (show n + 1 < 2 ^ 31 by omega)) (vp_in_nI (show n + 1 < cp by omega) (show cp < 2 ^ 31 by omega)) (jnar _ (show 48 + (v % 100) / 10 < 128 by omega)) dJ6_getChars_ba4f3_68 (fun H_23 locs_24 hW_25 hS_26 => ?_)
  obtain ⟨w_27, ew_27⟩ : ∃ Z9, Z9 = upd w_19 (n + 1) (nI (48 + (v % 100) / 10)) := ⟨_, rfl⟩
  have hW_28 : Wd G (sbB X w_27) H_23 := Wd.cast (by subst ew_27; exact rfl) hW_25
  refine lv_goto (tgt := 22) hx hb dJ6_getChars_ba4f3_69 (by decide) ?_
  refine lv_iload_n hx hb dJ6_getChars_ba4f3_22 rfl (lv_at hl_22 1 rfl) ?_
  refine lv_bipush (v := (-100)) hx hb dJ6_getChars_ba4f3_23 (by decide) ?_
  refine lv_icmp_gt (tgt := 72) hx hb dJ6_getChars_ba4f3_25 (by decide) (fun _ => ?_) (fun h9 => absurd ((sb_nlt (a := 100) (b := v / 100) (by omega) (by omega)).mpr (by omega)) h9)
  refine lv_aload_n hx hb dJ6_getChars_ba4f3_72 rfl (lv_at hl_22 6 rfl) ?_
  refine lv_iinc (v := nI n) (lv' := [(5, .int (nI n)), (0, .int (-nI (v / 100))), (4, .int (nI (v % 100))), (3, .int (-nI (v / 100))), (6, .int 0), (1, .int (nI (n + 3))), (2, .ref X.2.1)]) hx hb dJ6_getChars_ba4f3_73 hl_22 (k := 0) rfl (jm1 (by omega)) (by decide) rfl (fun ls_29 hl_30 => ?_)
  refine lv_iload hx hb dJ6_getChars_ba4f3_76 (lv_at hl_30 0 rfl) ?_
  refine va_gets (v := .ref (cy G 45)) C.1.1 C.1.2.1 C.2.2.2.2.2.2.2.2.2.2.2.2.2.2.2.1.1 hS_26 C.1.2.2.2.1 (C.1.2.2.2.2 _ (mc qw_537)) (fun _ h => h) dJ6_getChars_ba4f3_78 ?_
  refine lv_iload_n hx hb dJ6_getChars_ba4f3_81 rfl (lv_at hl_30 1 rfl) ?_
  refine lv_ineg hx hb dJ6_getChars_ba4f3_82 ?_
  refine g_top (y := nI (v / 100)) Int32.neg_neg ?_
  refine va_tb (v := .int (nI (48 + (v / 100) % 10))) C.1.1 C.1.2.1 C.2.2.2.2.2.2.2.2.2.2.2.2.2.2.2.1.2 hS_26 (vp_in_nI (show v / 100 < 100 by omega) (by decide)) (by rw [nI_clamp (show v / 100 < 2 ^ 31 by omega)]; rfl) dJ6_getChars_ba4f3_83 ?_
  refine g_sbst C hW_28 hS_26 hcap n (nI_clamp (show n < 2 ^ 31 by omega)) (vp_in_nI (show n < cp by omega) (show cp < 2 ^ 31 by omega)) (jnar _ (show 48 + (v / 100) % 10 < 128 by omega)) dJ6_getChars_ba4f3_84 (fun H_31 locs_32 hW_33 hS_34 => ?_)
  obtain ⟨w_35, ew_35⟩ : ∃ Z9, Z9 = upd w_27 (n) (nI (48 + (v / 100) % 10)) := ⟨_, rfl⟩
  have hW_36 : Wd G (sbB X w_35) H_31 := Wd.cast (by subst ew_35; exact rfl) hW_33
  refine lv_iload_n hx hb dJ6_getChars_ba4f3_85 rfl (lv_at hl_30 1 rfl) ?_
  refine lv_bipush (v := (-9)) hx hb dJ6_getChars_ba4f3_86 (by decide) ?_
  refine lv_icmp_ge (tgt := 104) hx hb dJ6_getChars_ba4f3_88 (by decide) (fun _ => ?_) (fun h9 => absurd ((sb_nle (a := 9) (b := v / 100) (by omega) (by omega)).mpr (by omega)) h9)
  refine lv_iload hx hb dJ6_getChars_ba4f3_104 (lv_at hl_30 4 rfl) ?_
  refine lv_if_eq (tgt := 118) hx hb dJ6_getChars_ba4f3_106 (by decide) (fun _ => ?_) (fun h9 => absurd h9 (by decide))
  refine lv_iload hx hb dJ6_getChars_ba4f3_118 (lv_at hl_30 0 rfl) ?_
  exact g_iret C hr hlk hW_36 hS_34 dJ6_getChars_ba4f3_120 (by subst ew_35; subst ew_27; subst ew_19; exact ⟨rfl, rfl⟩)

set_option maxHeartbeats 4000000 in
set_option maxRecDepth 100000 in
theorem cJ5_append_c97b9_3_ok (l : Launch) (G : GT) (X : St) (cp : Nat) (hcp : 16 ≤ cp ∧ cp ≤ 34) (hcap : X.2.2.1 = cp) (hcd : X.1 11 8 = 0) (n : Nat) (hcnt : X.1 11 10 = nI n) (hn : n + 3 ≤ cp) (v : Nat) (hv0 : 100 ≤ v) (hv1 : v < 1000) : MetR l G yJ5_append_c97b9 (wsG yJ5_append_c97b9 cJ5_append_c97b9 4 (some (.object "java/lang/AbstractStringBuilder"))) (rmz 1 26) [.ref (ad G 722), .int (nI v)] X (fun u => u.1 = 722 ∧ u.2 = setRow (sbB X (upd (upd (upd X.2.2.2.1 (n + 2) (nI (48 + v % 100 % 10))) (n + 1) (nI (48 + v % 100 / 10))) (n) (nI (48 + v / 100 % 10)))) 11 (upd (X.1 11) (10) (nI (n + 3)))) := by
  first | refine g_met (cc := cJ5_append_c97b9) (maxL := 4) (ret := (some (.object "java/lang/AbstractStringBuilder"))) (by decide) rfl (Nat.le_of_ble_eq_true rfl) ?_ | refine g_metF (cc := cJ5_append_c97b9) (maxL := 4) (ret := (some (.object "java/lang/AbstractStringBuilder"))) (by decide) rfl (Nat.le_of_ble_eq_true rfl) ?_
  intro p e s m below meth c ls C hr hlk hnm hW hl
  have hx := C.1.1
  have hb := C.1.2.1
  have hS : va_S (Ab G) s.heap s.heap [] := va_S.rf
  have hl : lv_has ls 4 [(0, .ref (ad G 722)), (1, .int (nI v))] := hl
  refine lv_aload_n hx hb dJ5_append_c97b9_0 rfl (lv_at hl 0 rfl) ?_
  refine gSB_count C hW (hwc hwJ4) (mc qw_276) dJ5_append_c97b9_1 ?_
  refine g_top (y := nI n) hcnt ?_
  refine lv_istore_n (lv' := [(2, .int (nI n)), (0, .ref (ad G 722)), (1, .int (nI v))]) hx hb dJ5_append_c97b9_4 rfl hl (by decide) rfl (fun ls_1 hl_2 => ?_)
  refine lv_iload_n hx hb dJ5_append_c97b9_5 rfl (lv_at hl_2 0 rfl) ?_
  refine lv_iload_n hx hb dJ5_append_c97b9_6 rfl (lv_at hl_2 2 rfl) ?_
  refine g_calli (va_runS (As := [.int (nI v)]) (rest := [.int (nI n)]) C.1 (cJ6_stringSize3_ok l G X v hv0 hv1) (va_cwS 1 C.1.2.2.2.2 (gS qw_531 qw_532 qw_103 qw_533) rfl rfl rfl (by decide +kernel) ⟨Nat.le_of_ble_eq_true rfl, Nat.le_of_ble_eq_true rfl⟩) (g_pre C hW hS [.int (nI v)]) rfl rfl hl_2.1 rfl (lv_room (Nat.le_of_ble_eq_true rfl)) dJ5_append_c97b9_7 ⟨Nat.zero_le _, Nat.zero_le _⟩) hS (fun r_5 Y_4 H_6 locs_7 hW_8 hS_9 h_3 => ?_)
  obtain ⟨h_3, hy_10⟩ := h_3
  replace hy_10 := hy_10.symm
  subst hy_10
  subst h_3
  refine lv_iadd hx hb dJ5_append_c97b9_10 ?_
  refine g_top (y := nI (n + 3)) (nI_add n 3) ?_
  refine lv_istore_n (lv' := [(3, .int (nI (n + 3))), (2, .int (nI n)), (0, .ref (ad G 722)), (1, .int (nI v))]) hx hb dJ5_append_c97b9_11 rfl hl_2 (by decide) rfl (fun ls_11 hl_12 => ?_)
  refine lv_aload_n hx hb dJ5_append_c97b9_12 rfl (lv_at hl_12 2 rfl) ?_
  refine lv_iload_n hx hb dJ5_append_c97b9_13 rfl (lv_at hl_12 0 rfl) ?_
  refine g_callv (va_runU (As := [.int (nI (n + 3))]) (rest := []) C.1 (cJ5_ensureCapacityInternal_d00df_ok l G X cp hcp hcap hcd (n + 3) (show n + 3 ≤ cp by omega)) (cwP 1 C.1.2.2.2.2 (mc qw_415) (mc qw_1948) (mc qw_417) (mc qw_77) (gN qw_418) rfl rfl rfl (by decide +kernel) ⟨Nat.le_of_ble_eq_true rfl, Nat.le_of_ble_eq_true rfl⟩ (va_Nw.use rfl (C.2.2.1.1 _ nw_44))) (g_rSB C hW_8 hS_9 [.int (nI (n + 3))]) rfl rfl hl_12.1 rfl (lv_room (Nat.le_of_ble_eq_true rfl)) dJ5_append_c97b9_14 ⟨Nat.zero_le _, Nat.zero_le _⟩) hS_9 (fun Y_14 H_16 locs_17 hW_18 hS_19 h_13 => ?_)
  replace h_13 := h_13.symm
  subst h_13
  refine lv_aload_n hx hb dJ5_append_c97b9_17 rfl (lv_at hl_12 2 rfl) ?_
  refine g_calli (va_runU (As := []) (rest := []) C.1 (cJ5_isLatin1_aae02_ok l G X cp hcp hcap hcd) (va_cwU 0 C.1.2.2.2.2 (gU qw_450 qw_452 qw_453 qw_451 qw_77 qw_454) rfl rfl rfl rfl (by decide +kernel) ⟨Nat.le_of_ble_eq_true rfl, Nat.le_of_ble_eq_true rfl⟩) (g_rSB C hW_18 hS_19 []) rfl rfl hl_12.1 rfl (lv_room (Nat.le_of_ble_eq_true rfl)) dJ5_append_c97b9_18 ⟨Nat.zero_le _, Nat.zero_le _⟩) hS_19 (fun r_22 Y_21 H_23 locs_24 hW_25 hS_26 h_20 => ?_)
  obtain ⟨h_20, hy_27⟩ := h_20
  replace hy_27 := hy_27.symm
  subst hy_27
  subst h_20
  refine lv_if_eq (tgt := 37) hx hb dJ5_append_c97b9_21 (by decide) (fun h9 => absurd h9 (by decide)) (fun _ => ?_)
  refine lv_iload_n hx hb dJ5_append_c97b9_24 rfl (lv_at hl_12 3 rfl) ?_
  refine lv_iload_n hx hb dJ5_append_c97b9_25 rfl (lv_at hl_12 0 rfl) ?_
  refine lv_aload_n hx hb dJ5_append_c97b9_26 rfl (lv_at hl_12 2 rfl) ?_
  refine gSB_value C hW_25 (hwc hwJ4) (mc qw_272) dJ5_append_c97b9_27 ?_
  refine g_calli (va_runS (As := [.int (nI v), .int (nI (n + 3)), .ref X.2.1]) (rest := []) C.1 (cJ6_getChars3_ok l G X cp hcp hcap n hn v hv0 hv1) (va_cwS 3 C.1.2.2.2.2 (gS qw_534 qw_535 qw_103 qw_536) rfl rfl rfl (by decide +kernel) ⟨Nat.le_of_ble_eq_true rfl, Nat.le_of_ble_eq_true rfl⟩) (g_pre C hW_25 hS_26 [.int (nI v), .int (nI (n + 3)), .ref X.2.1]) rfl rfl hl_12.1 rfl (lv_room (Nat.le_of_ble_eq_true rfl)) dJ5_append_c97b9_30 ⟨Nat.zero_le _, Nat.zero_le _⟩) hS_26 (fun r_30 Y_29 H_31 locs_32 hW_33 hS_34 h_28 => ?_)
  obtain ⟨h_35, h_28⟩ := h_28
  subst h_35
  have hW_36 : Wd G (sbB X (upd (upd (upd X.2.2.2.1 (n + 2) (nI (48 + v % 100 % 10))) (n + 1) (nI (48 + v % 100 / 10))) (n) (nI (48 + v / 100 % 10)))) H_31 := Wd.cast h_28 hW_33
  refine lv_pop hx hb dJ5_append_c97b9_33 rfl ?_
  refine lv_goto (tgt := 48) hx hb dJ5_append_c97b9_34 (by decide) ?_
  refine lv_aload_n hx hb dJ5_append_c97b9_48 rfl (lv_at hl_12 2 rfl) ?_
  refine lv_iload_n hx hb dJ5_append_c97b9_49 rfl (lv_at hl_12 0 rfl) ?_
  refine gSB_countP C hW_36 hS_34 (hwc hwJ4) (mc qw_276) dJ5_append_c97b9_50 (fun H_37 locs_38 hW_39 hS_40 => ?_)
  obtain ⟨w_41, ew_41⟩ : ∃ Z9, Z9 = upd (X.1 11) (10) (nI (n + 3)) := ⟨_, rfl⟩
  have kn_42 : w_41 (8) = 0 := by rw [ew_41]; exact (pk_un (by omega)).trans hcd
  have kn_43 : w_41 (10) = nI (n + 3) := by rw [ew_41]; exact pk_us
  have hW_44 : Wd G (setRow (sbB X (upd (upd (upd X.2.2.2.1 (n + 2) (nI (48 + v % 100 % 10))) (n + 1) (nI (48 + v % 100 / 10))) (n) (nI (48 + v / 100 % 10)))) 11 w_41) H_37 := Wd.cast (by rw [ew_41]; exact st_base) hW_39
  refine lv_aload_n hx hb dJ5_append_c97b9_53 rfl (lv_at hl_12 2 rfl) ?_
  exact g_aret C hr hlk hW_44 hS_40 dJ5_append_c97b9_54 (by subst ew_41; exact ⟨rfl, rfl⟩)

set_option maxHeartbeats 4000000 in
set_option maxRecDepth 100000 in
theorem cJ6_stringSize4_ok (l : Launch) (G : GT) (X : St) (v : Nat) (hv0 : 1000 ≤ v) (hv1 : v < 10000) : MetI l G yJ6_stringSize_0f7a4 (wsG yJ6_stringSize_0f7a4 cJ6_stringSize_0f7a4 4 (some .int)) (rmz 0 0) [.int (nI v)] X (fun res Y => res = nI 4 ∧ Y = X) := by
  first | refine g_met (cc := cJ6_stringSize_0f7a4) (maxL := 4) (ret := (some .int)) (by decide) rfl (Nat.le_of_ble_eq_true rfl) ?_ | refine g_metF (cc := cJ6_stringSize_0f7a4) (maxL := 4) (ret := (some .int)) (by decide) rfl (Nat.le_of_ble_eq_true rfl) ?_
  intro p e s m below meth c ls C hr hlk hnm hW hl
  have hx := C.1.1
  have hb := C.1.2.1
  have hS : va_S (Ab G) s.heap s.heap [] := va_S.rf
  have hl : lv_has ls 4 [(0, .int (nI v))] := hl
  refine lv_iconst (v := 1) hx hb dJ6_stringSize_0f7a4_0 (by decide) ?_
  refine lv_istore_n (lv' := [(1, .int 1), (0, .int (nI v))]) hx hb dJ6_stringSize_0f7a4_1 rfl hl (by decide) rfl (fun ls_1 hl_2 => ?_)
  refine lv_iload_n hx hb dJ6_stringSize_0f7a4_2 rfl (lv_at hl_2 1 rfl) ?_
  refine lv_if_lt (tgt := 11) hx hb dJ6_stringSize_0f7a4_3 (by decide) (fun h9 => absurd h9 (fun h8 => absurd ((nI_ltI (a := v) (b := 0) (by omega) (by omega)).mp h8) (by omega))) (fun _ => ?_)
  refine lv_iconst (v := 0) hx hb dJ6_stringSize_0f7a4_6 (by decide) ?_
  refine lv_istore_n (lv' := [(1, .int 0), (0, .int (nI v))]) hx hb dJ6_stringSize_0f7a4_7 rfl hl_2 (by decide) rfl (fun ls_3 hl_4 => ?_)
  refine lv_iload_n hx hb dJ6_stringSize_0f7a4_8 rfl (lv_at hl_4 1 rfl) ?_
  refine lv_ineg hx hb dJ6_stringSize_0f7a4_9 ?_
  refine lv_istore_n (lv' := [(0, .int (-nI v)), (1, .int 0)]) hx hb dJ6_stringSize_0f7a4_10 rfl hl_4 (by decide) rfl (fun ls_5 hl_6 => ?_)
  refine lv_bipush (v := (-10)) hx hb dJ6_stringSize_0f7a4_11 (by decide) ?_
  refine lv_istore_n (lv' := [(2, .int (-10)), (0, .int (-nI v)), (1, .int 0)]) hx hb dJ6_stringSize_0f7a4_13 rfl hl_6 (by decide) rfl (fun ls_7 hl_8 => ?_)
  refine lv_iconst (v := 1) hx hb dJ6_stringSize_0f7a4_14 (by decide) ?_
  refine lv_istore_n (lv' := [(3, .int 1), (2, .int (-10)), (0, .int (-nI v)), (1, .int 0)]) hx hb dJ6_stringSize_0f7a4_15 rfl hl_8 (by decide) rfl (fun ls_9 hl_10 => ?_)
  refine lv_iload_n hx hb dJ6_stringSize_0f7a4_16 rfl (lv_at hl_10 0 rfl) ?_
  refine lv_bipush (v := 10) hx hb dJ6_stringSize_0f7a4_17 (by decide) ?_
  refine lv_icmp_ge (tgt := 42) hx hb dJ6_stringSize_0f7a4_19 (by decide) (fun h9 => absurd h9 (by decide)) (fun _ => ?_)
  refine lv_iload_n hx hb dJ6_stringSize_0f7a4_22 rfl (lv_at hl_10 2 rfl) ?_
  refine lv_iload_n hx hb dJ6_stringSize_0f7a4_23 rfl (lv_at hl_10 1 rfl) ?_
  refine lv_icmp_le (tgt := 31) hx hb dJ6_stringSize_0f7a4_24 (by decide) (fun _ => ?_) (fun h9 => absurd ((sb_nle (a := v) (b := 10) (by omega) (by omega)).mpr (by omega)) h9)
  refine lv_bipush (v := 10) hx hb dJ6_stringSize_0f7a4_31 (by decide) ?_
  refine lv_iload_n hx hb dJ6_stringSize_0f7a4_33 rfl (lv_at hl_10 1 rfl) ?_
  refine lv_imul hx hb dJ6_stringSize_0f7a4_34 ?_
  refine g_top (y := (-100)) (by decide) ?_
  refine lv_istore_n (lv' := [(2, .int (-100)), (3, .int 1), (0, .int (-nI v)), (1, .int 0)]) hx hb dJ6_stringSize_0f7a4_35 rfl hl_10 (by decide) rfl (fun ls_11 hl_12 => ?_)
  refine lv_iinc (v := 2) (lv' := [(3, .int 2), (2, .int (-100)), (0, .int (-nI v)), (1, .int 0)]) hx hb dJ6_stringSize_0f7a4_36 hl_12 (k := 1) rfl (by decide) (by decide) rfl (fun ls_13 hl_14 => ?_)
  refine lv_goto (tgt := 16) hx hb dJ6_stringSize_0f7a4_39 (by decide) ?_
  refine lv_iload_n hx hb dJ6_stringSize_0f7a4_16 rfl (lv_at hl_14 0 rfl) ?_
  refine lv_bipush (v := 10) hx hb dJ6_stringSize_0f7a4_17 (by decide) ?_
  refine lv_icmp_ge (tgt := 42) hx hb dJ6_stringSize_0f7a4_19 (by decide) (fun h9 => absurd h9 (by decide)) (fun _ => ?_)
  refine lv_iload_n hx hb dJ6_stringSize_0f7a4_22 rfl (lv_at hl_14 2 rfl) ?_
  refine lv_iload_n hx hb dJ6_stringSize_0f7a4_23 rfl (lv_at hl_14 1 rfl) ?_
  refine lv_icmp_le (tgt := 31) hx hb dJ6_stringSize_0f7a4_24 (by decide) (fun _ => ?_) (fun h9 => absurd ((sb_nle (a := v) (b := 100) (by omega) (by omega)).mpr (by omega)) h9)
  refine lv_bipush (v := 10) hx hb dJ6_stringSize_0f7a4_31 (by decide) ?_
  refine lv_iload_n hx hb dJ6_stringSize_0f7a4_33 rfl (lv_at hl_14 1 rfl) ?_
  refine lv_imul hx hb dJ6_stringSize_0f7a4_34 ?_
  refine g_top (y := (-1000)) (by decide) ?_
  refine lv_istore_n (lv' := [(2, .int (-1000)), (3, .int 2), (0, .int (-nI v)), (1, .int 0)]) hx hb dJ6_stringSize_0f7a4_35 rfl hl_14 (by decide) rfl (fun ls_15 hl_16 => ?_)
  refine lv_iinc (v := 3) (lv' := [(3, .int 3), (2, .int (-1000)), (0, .int (-nI v)), (1, .int 0)]) hx hb dJ6_stringSize_0f7a4_36 hl_16 (k := 1) rfl (by decide) (by decide) rfl (fun ls_17 hl_18 => ?_)
  refine lv_goto (tgt := 16) hx hb dJ6_stringSize_0f7a4_39 (by decide) ?_
  refine lv_iload_n hx hb dJ6_stringSize_0f7a4_16 rfl (lv_at hl_18 0 rfl) ?_
  refine lv_bipush (v := 10) hx hb dJ6_stringSize_0f7a4_17 (by decide) ?_
  refine lv_icmp_ge (tgt := 42) hx hb dJ6_stringSize_0f7a4_19 (by decide) (fun h9 => absurd h9 (by decide)) (fun _ => ?_)
  refine lv_iload_n hx hb dJ6_stringSize_0f7a4_22 rfl (lv_at hl_18 2 rfl) ?_
  refine lv_iload_n hx hb dJ6_stringSize_0f7a4_23 rfl (lv_at hl_18 1 rfl) ?_
  refine lv_icmp_le (tgt := 31) hx hb dJ6_stringSize_0f7a4_24 (by decide) (fun _ => ?_) (fun h9 => absurd ((sb_nle (a := v) (b := 1000) (by omega) (by omega)).mpr (by omega)) h9)
  refine lv_bipush (v := 10) hx hb dJ6_stringSize_0f7a4_31 (by decide) ?_
  refine lv_iload_n hx hb dJ6_stringSize_0f7a4_33 rfl (lv_at hl_18 1 rfl) ?_
  refine lv_imul hx hb dJ6_stringSize_0f7a4_34 ?_
  refine g_top (y := (-10000)) (by decide) ?_
  refine lv_istore_n (lv' := [(2, .int (-10000)), (3, .int 3), (0, .int (-nI v)), (1, .int 0)]) hx hb dJ6_stringSize_0f7a4_35 rfl hl_18 (by decide) rfl (fun ls_19 hl_20 => ?_)
  refine lv_iinc (v := 4) (lv' := [(3, .int 4), (2, .int (-10000)), (0, .int (-nI v)), (1, .int 0)]) hx hb dJ6_stringSize_0f7a4_36 hl_20 (k := 1) rfl (by decide) (by decide) rfl (fun ls_21 hl_22 => ?_)
  refine lv_goto (tgt := 16) hx hb dJ6_stringSize_0f7a4_39 (by decide) ?_
  refine lv_iload_n hx hb dJ6_stringSize_0f7a4_16 rfl (lv_at hl_22 0 rfl) ?_
  refine lv_bipush (v := 10) hx hb dJ6_stringSize_0f7a4_17 (by decide) ?_
  refine lv_icmp_ge (tgt := 42) hx hb dJ6_stringSize_0f7a4_19 (by decide) (fun h9 => absurd h9 (by decide)) (fun _ => ?_)
  refine lv_iload_n hx hb dJ6_stringSize_0f7a4_22 rfl (lv_at hl_22 2 rfl) ?_
  refine lv_iload_n hx hb dJ6_stringSize_0f7a4_23 rfl (lv_at hl_22 1 rfl) ?_
  refine lv_icmp_le (tgt := 31) hx hb dJ6_stringSize_0f7a4_24 (by decide) (fun h9 => absurd h9 (fun h8 => absurd ((sb_nle (a := v) (b := 10000) (by omega) (by omega)).mp h8) (by omega))) (fun _ => ?_)
  refine lv_iload_n hx hb dJ6_stringSize_0f7a4_27 rfl (lv_at hl_22 0 rfl) ?_
  refine lv_iload_n hx hb dJ6_stringSize_0f7a4_28 rfl (lv_at hl_22 3 rfl) ?_
  refine lv_iadd hx hb dJ6_stringSize_0f7a4_29 ?_
  refine g_top (y := 4) (by decide) ?_
  exact g_iret C hr hlk hW hS dJ6_stringSize_0f7a4_30 (by exact ⟨rfl, rfl⟩)

set_option maxHeartbeats 4000000 in
set_option maxRecDepth 100000 in
theorem cJ6_getChars4_ok (l : Launch) (G : GT) (X : St) (cp : Nat) (hcp : 16 ≤ cp ∧ cp ≤ 34) (hcap : X.2.2.1 = cp) (n : Nat) (hn : n + 4 ≤ cp) (v : Nat) (hv0 : 1000 ≤ v) (hv1 : v < 10000) : MetI l G yJ6_getChars_ba4f3 (wsG yJ6_getChars_ba4f3 cJ6_getChars_ba4f3 7 (some .int)) (rmz 0 0) [.int (nI v), .int (nI (n + 4)), .ref X.2.1] X (fun res Y => res = nI n ∧ Y = sbB X (upd (upd (upd (upd X.2.2.2.1 (n + 3) (nI (48 + v % 100 % 10))) (n + 2) (nI (48 + v % 100 / 10))) (n + 1) (nI (48 + v / 100 % 10))) (n) (nI (48 + v / 100 / 10)))) := by
  first | refine g_met (cc := cJ6_getChars_ba4f3) (maxL := 7) (ret := (some .int)) (by decide) rfl (Nat.le_of_ble_eq_true rfl) ?_ | refine g_metF (cc := cJ6_getChars_ba4f3) (maxL := 7) (ret := (some .int)) (by decide) rfl (Nat.le_of_ble_eq_true rfl) ?_
  intro p e s m below meth c ls C hr hlk hnm hW hl
  have hx := C.1.1
  have hb := C.1.2.1
  have hS : va_S (Ab G) s.heap s.heap [] := va_S.rf
  have hl : lv_has ls 7 [(0, .int (nI v)), (1, .int (nI (n + 4))), (2, .ref X.2.1)] := hl
  refine lv_iload_n hx hb dJ6_getChars_ba4f3_0 rfl (lv_at hl 1 rfl) ?_
  refine lv_istore (lv' := [(5, .int (nI (n + 4))), (0, .int (nI v)), (1, .int (nI (n + 4))), (2, .ref X.2.1)]) hx hb dJ6_getChars_ba4f3_1 hl (by decide) rfl (fun ls_1 hl_2 => ?_)
  refine lv_iload_n hx hb dJ6_getChars_ba4f3_3 rfl (lv_at hl_2 1 rfl) ?_
  refine lv_if_ge (tgt := 11) hx hb dJ6_getChars_ba4f3_4 (by decide) (fun _ => ?_) (fun h9 => absurd ((nI_leI (a := 0) (b := v) (by omega) (by omega)).mpr (by omega)) h9)
  refine lv_iconst (v := 0) hx hb dJ6_getChars_ba4f3_11 (by decide) ?_
  refine lv_istore (lv' := [(6, .int 0), (5, .int (nI (n + 4))), (0, .int (nI v)), (1, .int (nI (n + 4))), (2, .ref X.2.1)]) hx hb dJ6_getChars_ba4f3_12 hl_2 (by decide) rfl (fun ls_3 hl_4 => ?_)
  refine lv_iload hx hb dJ6_getChars_ba4f3_14 (lv_at hl_4 0 rfl) ?_
  refine lv_if_ne (tgt := 22) hx hb dJ6_getChars_ba4f3_16 (by decide) (fun h9 => absurd h9 (by decide)) (fun _ => ?_)
  refine lv_iload_n hx hb dJ6_getChars_ba4f3_19 rfl (lv_at hl_4 2 rfl) ?_
  refine lv_ineg hx hb dJ6_getChars_ba4f3_20 ?_
  refine lv_istore_n (lv' := [(0, .int (-nI v)), (6, .int 0), (5, .int (nI (n + 4))), (1, .int (nI (n + 4))), (2, .ref X.2.1)]) hx hb dJ6_getChars_ba4f3_21 rfl hl_4 (by decide) rfl (fun ls_5 hl_6 => ?_)
  refine lv_iload_n hx hb dJ6_getChars_ba4f3_22 rfl (lv_at hl_6 0 rfl) ?_
  refine lv_bipush (v := (-100)) hx hb dJ6_getChars_ba4f3_23 (by decide) ?_
  refine lv_icmp_gt (tgt := 72) hx hb dJ6_getChars_ba4f3_25 (by decide) (fun h9 => absurd h9 (fun h8 => absurd ((sb_nlt (a := 100) (b := v) (by omega) (by omega)).mp h8) (by omega))) (fun _ => ?_)
  refine lv_iload_n hx hb dJ6_getChars_ba4f3_28 rfl (lv_at hl_6 0 rfl) ?_
  refine lv_bipush (v := 100) hx hb dJ6_getChars_ba4f3_29 (by decide) ?_
  refine lv_idiv hx hb dJ6_getChars_ba4f3_31 (by decide) ?_
  refine g_top (y := -nI (v / 100)) (sb_ndiv (by omega)) ?_
  refine lv_istore_n (lv' := [(3, .int (-nI (v / 100))), (0, .int (-nI v)), (6, .int 0), (5, .int (nI (n + 4))), (1, .int (nI (n + 4))), (2, .ref X.2.1)]) hx hb dJ6_getChars_ba4f3_32 rfl hl_6 (by decide) rfl (fun ls_7 hl_8 => ?_)
  refine lv_iload_n hx hb dJ6_getChars_ba4f3_33 rfl (lv_at hl_8 0 rfl) ?_
  refine lv_bipush (v := 100) hx hb dJ6_getChars_ba4f3_34 (by decide) ?_
  refine lv_imul hx hb dJ6_getChars_ba4f3_36 ?_
  refine lv_iload_n hx hb dJ6_getChars_ba4f3_37 rfl (lv_at hl_8 1 rfl) ?_
  refine lv_isub hx hb dJ6_getChars_ba4f3_38 ?_
  refine g_top (y := nI (v % 100)) (sb_nrem (by omega)) ?_
  refine lv_istore (lv' := [(4, .int (nI (v % 100))), (3, .int (-nI (v / 100))), (0, .int (-nI v)), (6, .int 0), (5, .int (nI (n + 4))), (1, .int (nI (n + 4))), (2, .ref X.2.1)]) hx hb dJ6_getChars_ba4f3_39 hl_8 (by decide) rfl (fun ls_9 hl_10 => ?_)
  refine lv_iload_n hx hb dJ6_getChars_ba4f3_41 rfl (lv_at hl_10 1 rfl) ?_
  refine lv_istore_n (lv' := [(0, .int (-nI (v / 100))), (4, .int (nI (v % 100))), (3, .int (-nI (v / 100))), (6, .int 0), (5, .int (nI (n + 4))), (1, .int (nI (n + 4))), (2, .ref X.2.1)]) hx hb dJ6_getChars_ba4f3_42 rfl hl_10 (by decide) rfl (fun ls_11 hl_12 => ?_)
  refine lv_aload_n hx hb dJ6_getChars_ba4f3_43 rfl (lv_at hl_12 6 rfl) ?_
  refine lv_iinc (v := nI (n + 3)) (lv' := [(5, .int (nI (n + 3))), (0, .int (-nI (v / 100))), (4, .int (nI (v % 100))), (3, .int (-nI (v / 100))), (6, .int 0), (1, .int (nI (n + 4))), (2, .ref X.2.1)]) hx hb dJ6_getChars_ba4f3_44 hl_12 (k := 4) rfl (jm1 (by omega)) (by decide) rfl (fun ls_13 hl_14 => ?_)
  refine lv_iload hx hb dJ6_getChars_ba4f3_47 (lv_at hl_14 0 rfl) ?_
  refine va_gets (v := .ref (cy G 45)) C.1.1 C.1.2.1 C.2.2.2.2.2.2.2.2.2.2.2.2.2.2.2.1.1 hS C.1.2.2.2.1 (C.1.2.2.2.2 _ (mc qw_537)) (fun _ h => h) dJ6_getChars_ba4f3_49 ?_
  refine lv_iload hx hb dJ6_getChars_ba4f3_52 (lv_at hl_14 2 rfl) ?_
  refine va_tb (v := .int (nI (48 + (v % 100) % 10))) C.1.1 C.1.2.1 C.2.2.2.2.2.2.2.2.2.2.2.2.2.2.2.1.2 hS (vp_in_nI (show v % 100 < 100 by omega) (by decide)) (by rw [nI_clamp (show v % 100 < 2 ^ 31 by omega)]; rfl) dJ6_getChars_ba4f3_54 ?_
  refine g_sbst C hW hS hcap (n + 3) (nI_clamp (show n + 3 < 2 ^ 31 by omega)) (vp_in_nI (show n + 3 < cp by omega) (show cp < 2 ^ 31 by omega)) (jnar _ (show 48 + (v % 100) % 10 < 128 by omega)) dJ6_getChars_ba4f3_55 (fun H_15 locs_16 hW_17 hS_18 => ?_)
  obtain ⟨w_19, ew_19⟩ : ∃ Z9, Z9 = upd X.2.2.2.1 (n + 3) (nI (48 + (v % 100) % 10)) := ⟨_, rfl⟩
  have hW_20 : Wd G (sbB X w_19) H_15 := Wd.cast (by subst ew_19; exact rfl) hW_17
  refine lv_aload_n hx hb dJ6_getChars_ba4f3_56 rfl (lv_at hl_14 6 rfl) ?_
  refine lv_iinc (v := nI (n + 2)) (lv' := [(5, .int (nI (n + 2))), (0, .int (-nI (v / 100))), (4, .int (nI (v % 100))), (3, .int (-nI (v / 100))), (6, .int 0), (1, .int (nI (n + 4))), (2, .ref X.2.1)]) hx hb dJ6_getChars_ba4f3_57 hl_14 (k := 0) rfl (jm1 (by omega)) (by decide) rfl (fun ls_21 hl_22 => ?_)
  refine lv_iload hx hb dJ6_getChars_ba4f3_60 (lv_at hl_22 0 rfl) ?_
  refine va_gets (v := .ref (cy G 44)) C.1.1 C.1.2.1 C.2.2.2.2.2.2.2.2.2.2.2.2.2.2.1.1 hS_18 C.1.2.2.2.1 (C.1.2.2.2.2 _ (mc qw_539)) (fun _ h => h) dJ6_getChars_ba4f3_62 ?_
  refine lv_iload hx hb dJ6_getChars_ba4f3_65 (lv_at hl_22 2 rfl) ?_
  refine va_tb (v := .int (nI (48 + (v % 100) / 10))) C.1.1 C.1.2.1 C.2.2.2.2.2.2.2.2.2.2.2.2.2.2.1.2 hS_18 (vp_in_nI (show v % 100 < 100 by omega) (by decide)) (by rw [nI_clamp (show v % 100 < 2 ^ 31 by omega)]; rfl) dJ6_getChars_ba4f3_67 ?_
  refine g_sbst C hW_20 hS_18 hcap (n + 2) (nI_clamp (show n + 2 < 2 ^ 31 by omega)) (vp_in_nI (show n + 2 < cp by omega) (show cp < 2 ^ 31 by omega)) (jnar _ (show 48 + (v % 100) / 10 < 128 by omega)) dJ6_getChars_ba4f3_68 (fun H_23 locs_24 hW_25 hS_26 => ?_)
  obtain ⟨w_27, ew_27⟩ : ∃ Z9, Z9 = upd w_19 (n + 2) (nI (48 + (v % 100) / 10)) := ⟨_, rfl⟩
  have hW_28 : Wd G (sbB X w_27) H_23 := Wd.cast (by subst ew_27; exact rfl) hW_25
  refine lv_goto (tgt := 22) hx hb dJ6_getChars_ba4f3_69 (by decide) ?_
  refine lv_iload_n hx hb dJ6_getChars_ba4f3_22 rfl (lv_at hl_22 1 rfl) ?_
  refine lv_bipush (v := (-100)) hx hb dJ6_getChars_ba4f3_23 (by decide) ?_
  refine lv_icmp_gt (tgt := 72) hx hb dJ6_getChars_ba4f3_25 (by decide) (fun _ => ?_) (fun h9 => absurd ((sb_nlt (a := 100) (b := v / 100) (by omega) (by omega)).mpr (by omega)) h9)
  refine lv_aload_n hx hb dJ6_getChars_ba4f3_72 rfl (lv_at hl_22 6 rfl) ?_
  refine lv_iinc (v := nI (n + 1)) (lv' := [(5, .int (nI (n + 1))), (0, .int (-nI (v / 100))), (4, .int (nI (v % 100))), (3, .int (-nI (v / 100))), (6, .int 0), (1, .int (nI (n + 4))), (2, .ref X.2.1)]) hx hb dJ6_getChars_ba4f3_73 hl_22 (k := 0) rfl (jm1 (by omega)) (by decide) rfl (fun ls_29 hl_30 => ?_)
  refine lv_iload hx hb dJ6_getChars_ba4f3_76 (lv_at hl_30 0 rfl) ?_
  refine va_gets (v := .ref (cy G 45)) C.1.1 C.1.2.1 C.2.2.2.2.2.2.2.2.2.2.2.2.2.2.2.1.1 hS_26 C.1.2.2.2.1 (C.1.2.2.2.2 _ (mc qw_537)) (fun _ h => h) dJ6_getChars_ba4f3_78 ?_
  refine lv_iload_n hx hb dJ6_getChars_ba4f3_81 rfl (lv_at hl_30 1 rfl) ?_
  refine lv_ineg hx hb dJ6_getChars_ba4f3_82 ?_
  refine g_top (y := nI (v / 100)) Int32.neg_neg ?_
  refine va_tb (v := .int (nI (48 + (v / 100) % 10))) C.1.1 C.1.2.1 C.2.2.2.2.2.2.2.2.2.2.2.2.2.2.2.1.2 hS_26 (vp_in_nI (show v / 100 < 100 by omega) (by decide)) (by rw [nI_clamp (show v / 100 < 2 ^ 31 by omega)]; rfl) dJ6_getChars_ba4f3_83 ?_
  refine g_sbst C hW_28 hS_26 hcap (n + 1) (nI_clamp (show n + 1 < 2 ^ 31 by omega)) (vp_in_nI (show n + 1 < cp by omega) (show cp < 2 ^ 31 by omega)) (jnar _ (show 48 + (v / 100) % 10 < 128 by omega)) dJ6_getChars_ba4f3_84 (fun H_31 locs_32 hW_33 hS_34 => ?_)
  obtain ⟨w_35, ew_35⟩ : ∃ Z9, Z9 = upd w_27 (n + 1) (nI (48 + (v / 100) % 10)) := ⟨_, rfl⟩
  have hW_36 : Wd G (sbB X w_35) H_31 := Wd.cast (by subst ew_35; exact rfl) hW_33
  refine lv_iload_n hx hb dJ6_getChars_ba4f3_85 rfl (lv_at hl_30 1 rfl) ?_
  refine lv_bipush (v := (-9)) hx hb dJ6_getChars_ba4f3_86 (by decide) ?_
  refine lv_icmp_ge (tgt := 104) hx hb dJ6_getChars_ba4f3_88 (by decide) (fun h9 => absurd h9 (fun h8 => absurd ((sb_nle (a := 9) (b := v / 100) (by omega) (by omega)).mp h8) (by omega))) (fun _ => ?_)
  refine lv_aload_n hx hb dJ6_getChars_ba4f3_91 rfl (lv_at hl_30 6 rfl) ?_
  refine lv_iinc (v := nI n) (lv' := [(5, .int (nI n)), (0, .int (-nI (v / 100))), (4, .int (nI (v % 100))), (3, .int (-nI (v / 100))), (6, .int 0), (1, .int (nI (n + 4))), (2, .ref X.2.1)]) hx hb dJ6_getChars_ba4f3_92 hl_30 (k := 0) rfl (jm1 (by omega)) (by decide) rfl (fun ls_37 hl_38 => ?_)
  refine lv_iload hx hb dJ6_getChars_ba4f3_95 (lv_at hl_38 0 rfl) ?_
  refine va_gets (v := .ref (cy G 44)) C.1.1 C.1.2.1 C.2.2.2.2.2.2.2.2.2.2.2.2.2.2.1.1 hS_34 C.1.2.2.2.1 (C.1.2.2.2.2 _ (mc qw_539)) (fun _ h => h) dJ6_getChars_ba4f3_97 ?_
  refine lv_iload_n hx hb dJ6_getChars_ba4f3_100 rfl (lv_at hl_38 1 rfl) ?_
  refine lv_ineg hx hb dJ6_getChars_ba4f3_101 ?_
  refine g_top (y := nI (v / 100)) Int32.neg_neg ?_
  refine va_tb (v := .int (nI (48 + (v / 100) / 10))) C.1.1 C.1.2.1 C.2.2.2.2.2.2.2.2.2.2.2.2.2.2.1.2 hS_34 (vp_in_nI (show v / 100 < 100 by omega) (by decide)) (by rw [nI_clamp (show v / 100 < 2 ^ 31 by omega)]; rfl) dJ6_getChars_ba4f3_102 ?_
  refine g_sbst C hW_36 hS_34 hcap n (nI_clamp (show n < 2 ^ 31 by omega)) (vp_in_nI (show n < cp by omega) (show cp < 2 ^ 31 by omega)) (jnar _ (show 48 + (v / 100) / 10 < 128 by omega)) dJ6_getChars_ba4f3_103 (fun H_39 locs_40 hW_41 hS_42 => ?_)
  obtain ⟨w_43, ew_43⟩ : ∃ Z9, Z9 = upd w_35 (n) (nI (48 + (v / 100) / 10)) := ⟨_, rfl⟩
  have hW_44 : Wd G (sbB X w_43) H_39 := Wd.cast (by subst ew_43; exact rfl) hW_41
  refine lv_iload hx hb dJ6_getChars_ba4f3_104 (lv_at hl_38 4 rfl) ?_
  refine lv_if_eq (tgt := 118) hx hb dJ6_getChars_ba4f3_106 (by decide) (fun _ => ?_) (fun h9 => absurd h9 (by decide))
  refine lv_iload hx hb dJ6_getChars_ba4f3_118 (lv_at hl_38 0 rfl) ?_
  exact g_iret C hr hlk hW_44 hS_42 dJ6_getChars_ba4f3_120 (by subst ew_43; subst ew_35; subst ew_27; subst ew_19; exact ⟨rfl, rfl⟩)

set_option maxHeartbeats 4000000 in
set_option maxRecDepth 100000 in
theorem cJ5_append_c97b9_4_ok (l : Launch) (G : GT) (X : St) (cp : Nat) (hcp : 16 ≤ cp ∧ cp ≤ 34) (hcap : X.2.2.1 = cp) (hcd : X.1 11 8 = 0) (n : Nat) (hcnt : X.1 11 10 = nI n) (hn : n + 4 ≤ cp) (v : Nat) (hv0 : 1000 ≤ v) (hv1 : v < 10000) : MetR l G yJ5_append_c97b9 (wsG yJ5_append_c97b9 cJ5_append_c97b9 4 (some (.object "java/lang/AbstractStringBuilder"))) (rmz 1 26) [.ref (ad G 722), .int (nI v)] X (fun u => u.1 = 722 ∧ u.2 = setRow (sbB X (upd (upd (upd (upd X.2.2.2.1 (n + 3) (nI (48 + v % 100 % 10))) (n + 2) (nI (48 + v % 100 / 10))) (n + 1) (nI (48 + v / 100 % 10))) (n) (nI (48 + v / 100 / 10)))) 11 (upd (X.1 11) (10) (nI (n + 4)))) := by
  first | refine g_met (cc := cJ5_append_c97b9) (maxL := 4) (ret := (some (.object "java/lang/AbstractStringBuilder"))) (by decide) rfl (Nat.le_of_ble_eq_true rfl) ?_ | refine g_metF (cc := cJ5_append_c97b9) (maxL := 4) (ret := (some (.object "java/lang/AbstractStringBuilder"))) (by decide) rfl (Nat.le_of_ble_eq_true rfl) ?_
  intro p e s m below meth c ls C hr hlk hnm hW hl
  have hx := C.1.1
  have hb := C.1.2.1
  have hS : va_S (Ab G) s.heap s.heap [] := va_S.rf
  have hl : lv_has ls 4 [(0, .ref (ad G 722)), (1, .int (nI v))] := hl
  refine lv_aload_n hx hb dJ5_append_c97b9_0 rfl (lv_at hl 0 rfl) ?_
  refine gSB_count C hW (hwc hwJ4) (mc qw_276) dJ5_append_c97b9_1 ?_
  refine g_top (y := nI n) hcnt ?_
  refine lv_istore_n (lv' := [(2, .int (nI n)), (0, .ref (ad G 722)), (1, .int (nI v))]) hx hb dJ5_append_c97b9_4 rfl hl (by decide) rfl (fun ls_1 hl_2 => ?_)
  refine lv_iload_n hx hb dJ5_append_c97b9_5 rfl (lv_at hl_2 0 rfl) ?_
  refine lv_iload_n hx hb dJ5_append_c97b9_6 rfl (lv_at hl_2 2 rfl) ?_
  refine g_calli (va_runS (As := [.int (nI v)]) (rest := [.int (nI n)]) C.1 (cJ6_stringSize4_ok l G X v hv0 hv1) (va_cwS 1 C.1.2.2.2.2 (gS qw_531 qw_532 qw_103 qw_533) rfl rfl rfl (by decide +kernel) ⟨Nat.le_of_ble_eq_true rfl, Nat.le_of_ble_eq_true rfl⟩) (g_pre C hW hS [.int (nI v)]) rfl rfl hl_2.1 rfl (lv_room (Nat.le_of_ble_eq_true rfl)) dJ5_append_c97b9_7 ⟨Nat.zero_le _, Nat.zero_le _⟩) hS (fun r_5 Y_4 H_6 locs_7 hW_8 hS_9 h_3 => ?_)
  obtain ⟨h_3, hy_10⟩ := h_3
  replace hy_10 := hy_10.symm
  subst hy_10
  subst h_3
  refine lv_iadd hx hb dJ5_append_c97b9_10 ?_
  refine g_top (y := nI (n + 4)) (nI_add n 4) ?_
  refine lv_istore_n (lv' := [(3, .int (nI (n + 4))), (2, .int (nI n)), (0, .ref (ad G 722)), (1, .int (nI v))]) hx hb dJ5_append_c97b9_11 rfl hl_2 (by decide) rfl (fun ls_11 hl_12 => ?_)
  refine lv_aload_n hx hb dJ5_append_c97b9_12 rfl (lv_at hl_12 2 rfl) ?_
  refine lv_iload_n hx hb dJ5_append_c97b9_13 rfl (lv_at hl_12 0 rfl) ?_
  refine g_callv (va_runU (As := [.int (nI (n + 4))]) (rest := []) C.1 (cJ5_ensureCapacityInternal_d00df_ok l G X cp hcp hcap hcd (n + 4) (show n + 4 ≤ cp by omega)) (cwP 1 C.1.2.2.2.2 (mc qw_415) (mc qw_1948) (mc qw_417) (mc qw_77) (gN qw_418) rfl rfl rfl (by decide +kernel) ⟨Nat.le_of_ble_eq_true rfl, Nat.le_of_ble_eq_true rfl⟩ (va_Nw.use rfl (C.2.2.1.1 _ nw_44))) (g_rSB C hW_8 hS_9 [.int (nI (n + 4))]) rfl rfl hl_12.1 rfl (lv_room (Nat.le_of_ble_eq_true rfl)) dJ5_append_c97b9_14 ⟨Nat.zero_le _, Nat.zero_le _⟩) hS_9 (fun Y_14 H_16 locs_17 hW_18 hS_19 h_13 => ?_)
  replace h_13 := h_13.symm
  subst h_13
  refine lv_aload_n hx hb dJ5_append_c97b9_17 rfl (lv_at hl_12 2 rfl) ?_
  refine g_calli (va_runU (As := []) (rest := []) C.1 (cJ5_isLatin1_aae02_ok l G X cp hcp hcap hcd) (va_cwU 0 C.1.2.2.2.2 (gU qw_450 qw_452 qw_453 qw_451 qw_77 qw_454) rfl rfl rfl rfl (by decide +kernel) ⟨Nat.le_of_ble_eq_true rfl, Nat.le_of_ble_eq_true rfl⟩) (g_rSB C hW_18 hS_19 []) rfl rfl hl_12.1 rfl (lv_room (Nat.le_of_ble_eq_true rfl)) dJ5_append_c97b9_18 ⟨Nat.zero_le _, Nat.zero_le _⟩) hS_19 (fun r_22 Y_21 H_23 locs_24 hW_25 hS_26 h_20 => ?_)
  obtain ⟨h_20, hy_27⟩ := h_20
  replace hy_27 := hy_27.symm
  subst hy_27
  subst h_20
  refine lv_if_eq (tgt := 37) hx hb dJ5_append_c97b9_21 (by decide) (fun h9 => absurd h9 (by decide)) (fun _ => ?_)
  refine lv_iload_n hx hb dJ5_append_c97b9_24 rfl (lv_at hl_12 3 rfl) ?_
  refine lv_iload_n hx hb dJ5_append_c97b9_25 rfl (lv_at hl_12 0 rfl) ?_
  refine lv_aload_n hx hb dJ5_append_c97b9_26 rfl (lv_at hl_12 2 rfl) ?_
  refine gSB_value C hW_25 (hwc hwJ4) (mc qw_272) dJ5_append_c97b9_27 ?_
  refine g_calli (va_runS (As := [.int (nI v), .int (nI (n + 4)), .ref X.2.1]) (rest := []) C.1 (cJ6_getChars4_ok l G X cp hcp hcap n hn v hv0 hv1) (va_cwS 3 C.1.2.2.2.2 (gS qw_534 qw_535 qw_103 qw_536) rfl rfl rfl (by decide +kernel) ⟨Nat.le_of_ble_eq_true rfl, Nat.le_of_ble_eq_true rfl⟩) (g_pre C hW_25 hS_26 [.int (nI v), .int (nI (n + 4)), .ref X.2.1]) rfl rfl hl_12.1 rfl (lv_room (Nat.le_of_ble_eq_true rfl)) dJ5_append_c97b9_30 ⟨Nat.zero_le _, Nat.zero_le _⟩) hS_26 (fun r_30 Y_29 H_31 locs_32 hW_33 hS_34 h_28 => ?_)
  obtain ⟨h_35, h_28⟩ := h_28
  subst h_35
  have hW_36 : Wd G (sbB X (upd (upd (upd (upd X.2.2.2.1 (n + 3) (nI (48 + v % 100 % 10))) (n + 2) (nI (48 + v % 100 / 10))) (n + 1) (nI (48 + v / 100 % 10))) (n) (nI (48 + v / 100 / 10)))) H_31 := Wd.cast h_28 hW_33
  refine lv_pop hx hb dJ5_append_c97b9_33 rfl ?_
  refine lv_goto (tgt := 48) hx hb dJ5_append_c97b9_34 (by decide) ?_
  refine lv_aload_n hx hb dJ5_append_c97b9_48 rfl (lv_at hl_12 2 rfl) ?_
  refine lv_iload_n hx hb dJ5_append_c97b9_49 rfl (lv_at hl_12 0 rfl) ?_
  refine gSB_countP C hW_36 hS_34 (hwc hwJ4) (mc qw_276) dJ5_append_c97b9_50 (fun H_37 locs_38 hW_39 hS_40 => ?_)
  obtain ⟨w_41, ew_41⟩ : ∃ Z9, Z9 = upd (X.1 11) (10) (nI (n + 4)) := ⟨_, rfl⟩
  have kn_42 : w_41 (8) = 0 := by rw [ew_41]; exact (pk_un (by omega)).trans hcd
  have kn_43 : w_41 (10) = nI (n + 4) := by rw [ew_41]; exact pk_us
  have hW_44 : Wd G (setRow (sbB X (upd (upd (upd (upd X.2.2.2.1 (n + 3) (nI (48 + v % 100 % 10))) (n + 2) (nI (48 + v % 100 / 10))) (n + 1) (nI (48 + v / 100 % 10))) (n) (nI (48 + v / 100 / 10)))) 11 w_41) H_37 := Wd.cast (by rw [ew_41]; exact st_base) hW_39
  refine lv_aload_n hx hb dJ5_append_c97b9_53 rfl (lv_at hl_12 2 rfl) ?_
  exact g_aret C hr hlk hW_44 hS_40 dJ5_append_c97b9_54 (by subst ew_41; exact ⟨rfl, rfl⟩)

theorem cJ5_append_c97b9_ok (l : Launch) (G : GT) (X : St) (cp : Nat) (hcp : 16 ≤ cp ∧ cp ≤ 34) (hcap : X.2.2.1 = cp) (hcd : X.1 11 8 = 0) (n : Nat) (hcnt : X.1 11 10 = nI n) (v : Nat) (hv : v < 10000) (hn : n + sb_dg v ≤ cp) : MetR l G yJ5_append_c97b9 (wsG yJ5_append_c97b9 cJ5_append_c97b9 4 (some (.object "java/lang/AbstractStringBuilder"))) (rmz 1 26) [.ref (ad G 722), .int (nI v)] X (fun u => u.1 = 722 ∧ u.2 = setRow (sbB X (decR X.2.2.2.1 n v)) 11 (upd (X.1 11) (10) (nI (n + sb_dg v)))) := by
  by_cases h1 : v < 10
  · have e1 : sb_dg v = 1 := if_pos h1
    have e2 : decR X.2.2.2.1 n v = upd X.2.2.2.1 (n) (nI (48 + v % 10)) := if_pos h1
    rw [e1] at hn ⊢
    rw [e2]
    exact cJ5_append_c97b9_1_ok l G X cp hcp hcap hcd n hcnt hn v (by omega) h1
  by_cases h2 : v < 100
  · have e1 : sb_dg v = 2 := (if_neg h1).trans (if_pos h2)
    have e2 : decR X.2.2.2.1 n v = upd (upd X.2.2.2.1 (n + 1) (nI (48 + v % 10))) (n) (nI (48 + v / 10)) := (if_neg h1).trans (if_pos h2)
    rw [e1] at hn ⊢
    rw [e2]
    exact cJ5_append_c97b9_2_ok l G X cp hcp hcap hcd n hcnt hn v (by omega) h2
  by_cases h3 : v < 1000
  · have e1 : sb_dg v = 3 := (if_neg h1).trans ((if_neg h2).trans (if_pos h3))
    have e2 : decR X.2.2.2.1 n v = upd (upd (upd X.2.2.2.1 (n + 2) (nI (48 + v % 100 % 10))) (n + 1) (nI (48 + v % 100 / 10))) (n) (nI (48 + v / 100 % 10)) := (if_neg h1).trans ((if_neg h2).trans (if_pos h3))
    rw [e1] at hn ⊢
    rw [e2]
    exact cJ5_append_c97b9_3_ok l G X cp hcp hcap hcd n hcnt hn v (by omega) h3
  have e1 : sb_dg v = 4 := (if_neg h1).trans ((if_neg h2).trans ((if_neg h3).trans (if_pos hv)))
  have e2 : decR X.2.2.2.1 n v = upd (upd (upd (upd X.2.2.2.1 (n + 3) (nI (48 + v % 100 % 10))) (n + 2) (nI (48 + v % 100 / 10))) (n + 1) (nI (48 + v / 100 % 10))) (n) (nI (48 + v / 100 / 10)) := (if_neg h1).trans ((if_neg h2).trans (if_neg h3))
  rw [e1] at hn ⊢
  rw [e2]
  exact cJ5_append_c97b9_4_ok l G X cp hcp hcap hcd n hcnt hn v (by omega) hv

set_option maxHeartbeats 4000000 in
set_option maxRecDepth 100000 in
theorem cJ4_append_bf812_ok (l : Launch) (G : GT) (X : St) (cp : Nat) (hcp : 16 ≤ cp ∧ cp ≤ 34) (hcap : X.2.2.1 = cp) (hcd : X.1 11 8 = 0) (n : Nat) (hcnt : X.1 11 10 = nI n) (v : Nat) (hv : v < 10000) (hn : n + sb_dg v ≤ cp) : MetR l G yJ4_append_bf812 (wsG yJ4_append_bf812 cJ4_append_bf812 2 (some (.object "java/lang/StringBuilder"))) (rmz 2 49) [.ref (ad G 722), .int (nI v)] X (fun u => u.1 = 722 ∧ u.2 = setRow (sbB X (decR X.2.2.2.1 n v)) 11 (upd (X.1 11) (10) (nI (n + sb_dg v)))) := by
  first | refine g_met (cc := cJ4_append_bf812) (maxL := 2) (ret := (some (.object "java/lang/StringBuilder"))) (by decide) rfl (Nat.le_of_ble_eq_true rfl) ?_ | refine g_metF (cc := cJ4_append_bf812) (maxL := 2) (ret := (some (.object "java/lang/StringBuilder"))) (by decide) rfl (Nat.le_of_ble_eq_true rfl) ?_
  intro p e s m below meth c ls C hr hlk hnm hW hl
  have hx := C.1.1
  have hb := C.1.2.1
  have hS : va_S (Ab G) s.heap s.heap [] := va_S.rf
  have hl : lv_has ls 2 [(0, .ref (ad G 722)), (1, .int (nI v))] := hl
  refine lv_aload_n hx hb dJ4_append_bf812_0 rfl (lv_at hl 0 rfl) ?_
  refine lv_iload_n hx hb dJ4_append_bf812_1 rfl (lv_at hl 1 rfl) ?_
  refine g_callr (va_runSU (C.2.1.1 1 _ rfl).2 (As := [.int (nI v)]) (rest := []) C.1 (cJ5_append_c97b9_ok l G X cp hcp hcap hcd n hcnt v hv hn) (va_cwSU 1 C.1.2.2.2.2 (gSU qw_528 qw_1953 qw_285 qw_529 qw_77 qw_530) rfl rfl rfl (by decide +kernel) ⟨Nat.le_of_ble_eq_true rfl, Nat.le_of_ble_eq_true rfl⟩) (g_rSB C hW hS [.int (nI v)]) rfl rfl hl.1 rfl (lv_room (Nat.le_of_ble_eq_true rfl)) dJ4_append_bf812_2 ⟨Nat.zero_le _, Nat.zero_le _⟩) hS (fun r_3 Y_2 H_4 locs_5 hW_6 hS_7 h_1 => ?_)
  obtain ⟨hr_8, hy_9⟩ := h_1
  dsimp only at hr_8 hy_9
  subst hr_8
  obtain ⟨w_11, ew_11⟩ : ∃ Z9, Z9 = decR X.2.2.2.1 n v := ⟨_, rfl⟩
  obtain ⟨w_10, ew_10⟩ : ∃ Z9, Z9 = upd (X.1 11) (10) (nI (n + sb_dg v)) := ⟨_, rfl⟩
  have kn_12 : w_10 (8) = 0 := by rw [ew_10]; exact (pk_un (by omega)).trans hcd
  have kn_13 : w_10 (10) = nI (n + sb_dg v) := by rw [ew_10]; exact pk_us
  have hW_14 : Wd G (setRow (sbB X w_11) 11 w_10) H_4 := Wd.cast (by subst ew_10 ew_11; exact hy_9.trans rfl) hW_6
  refine lv_pop hx hb dJ4_append_bf812_5 rfl ?_
  refine lv_aload_n hx hb dJ4_append_bf812_6 rfl (lv_at hl 0 rfl) ?_
  exact g_aret C hr hlk hW_14 hS_7 dJ4_append_bf812_7 (by subst ew_10; subst ew_11; exact ⟨rfl, rfl⟩)

set_option maxHeartbeats 4000000 in
set_option maxRecDepth 100000 in
theorem cJ5_setLength_d00df_ok (l : Launch) (G : GT) (X : St) (cp : Nat) (hcp : 16 ≤ cp ∧ cp ≤ 34) (hcap : X.2.2.1 = cp) (hcd : X.1 11 8 = 0) (n : Nat) (hcnt : X.1 11 10 = nI n) (hn : n ≤ cp) : MetV l G yJ5_setLength_d00df (wsG yJ5_setLength_d00df cJ5_setLength_d00df 2 none) (rmz 1 22) [.ref (ad G 722), .int 0] X (fun Y => Y = setRow X 11 (slR (X.1 11) n)) := by
  first | refine g_met (cc := cJ5_setLength_d00df) (maxL := 2) (ret := none) (by decide) rfl (Nat.le_of_ble_eq_true rfl) ?_ | refine g_metF (cc := cJ5_setLength_d00df) (maxL := 2) (ret := none) (by decide) rfl (Nat.le_of_ble_eq_true rfl) ?_
  intro p e s m below meth c ls C hr hlk hnm hW hl
  have hx := C.1.1
  have hb := C.1.2.1
  have hS : va_S (Ab G) s.heap s.heap [] := va_S.rf
  have hl : lv_has ls 2 [(0, .ref (ad G 722)), (1, .int 0)] := hl
  refine lv_iload_n hx hb dJ5_setLength_d00df_0 rfl (lv_at hl 1 rfl) ?_
  refine lv_if_ge (tgt := 13) hx hb dJ5_setLength_d00df_1 (by decide) (fun _ => ?_) (fun h9 => absurd h9 (by decide))
  refine lv_aload_n hx hb dJ5_setLength_d00df_13 rfl (lv_at hl 0 rfl) ?_
  refine lv_iload_n hx hb dJ5_setLength_d00df_14 rfl (lv_at hl 1 rfl) ?_
  refine g_callv (va_runU (As := [.int 0]) (rest := []) C.1 (cJ5_ensureCapacityInternal_d00df_ok l G X cp hcp hcap hcd 0 (show 0 ≤ cp by omega)) (cwP 1 C.1.2.2.2.2 (mc qw_415) (mc qw_1948) (mc qw_417) (mc qw_77) (gN qw_418) rfl rfl rfl (by decide +kernel) ⟨Nat.le_of_ble_eq_true rfl, Nat.le_of_ble_eq_true rfl⟩ (va_Nw.use rfl (C.2.2.1.1 _ nw_44))) (g_rSB C hW hS [.int 0]) rfl rfl hl.1 rfl (lv_room (Nat.le_of_ble_eq_true rfl)) dJ5_setLength_d00df_15 ⟨Nat.zero_le _, Nat.zero_le _⟩) hS (fun Y_2 H_4 locs_5 hW_6 hS_7 h_1 => ?_)
  replace h_1 := h_1.symm
  subst h_1
  refine lv_aload_n hx hb dJ5_setLength_d00df_18 rfl (lv_at hl 0 rfl) ?_
  refine gSB_count C hW_6 (hwc hwJ4) (mc qw_276) dJ5_setLength_d00df_19 ?_
  refine g_top (y := nI n) hcnt ?_
  refine lv_iload_n hx hb dJ5_setLength_d00df_22 rfl (lv_at hl 1 rfl) ?_
  refine lv_icmp_ge (tgt := 63) hx hb dJ5_setLength_d00df_23 (by decide) (fun _ => ?_) (fun h9 => absurd ((nI_leI (a := 0) (b := n) (by omega) (by omega)).mpr (by omega)) h9)
  refine lv_aload_n hx hb dJ5_setLength_d00df_63 rfl (lv_at hl 0 rfl) ?_
  refine gSB_count C hW_6 (hwc hwJ4) (mc qw_276) dJ5_setLength_d00df_64 ?_
  refine g_top (y := nI n) hcnt ?_
  refine lv_iload_n hx hb dJ5_setLength_d00df_67 rfl (lv_at hl 1 rfl) ?_
  refine lv_icmp_le (tgt := 76) hx hb dJ5_setLength_d00df_68 (by decide) (fun b_8 => ?_) (fun b_8 => ?_)
  · refine lv_aload_n hx hb dJ5_setLength_d00df_76 rfl (lv_at hl 0 rfl) ?_
    refine lv_iload_n hx hb dJ5_setLength_d00df_77 rfl (lv_at hl 1 rfl) ?_
    refine gSB_countP C hW_6 hS_7 (hwc hwJ4) (mc qw_276) dJ5_setLength_d00df_78 (fun H_9 locs_10 hW_11 hS_12 => ?_)
    obtain ⟨w_13, ew_13⟩ : ∃ Z9, Z9 = upd (X.1 11) (10) 0 := ⟨_, rfl⟩
    have kn_14 : w_13 (8) = 0 := by rw [ew_13]; exact (pk_un (by omega)).trans hcd
    have hW_15 : Wd G (setRow X 11 w_13) H_9 := Wd.cast (by rw [ew_13]; exact st_base) hW_11
    exact g_vret C hr hlk hW_15 hS_12 dJ5_setLength_d00df_81 (by subst ew_13; simp only [slR, b_8, if_true, if_false])
  · refine lv_aload_n hx hb dJ5_setLength_d00df_71 rfl (lv_at hl 0 rfl) ?_
    refine lv_iconst (v := 1) hx hb dJ5_setLength_d00df_72 (by decide) ?_
    refine gSB_maybeLatin1P C hW_6 hS_7 (hwc hwJ4) (mc qw_274) rfl rfl dJ5_setLength_d00df_73 (fun H_16 locs_17 hW_18 hS_19 => ?_)
    obtain ⟨w_20, ew_20⟩ : ∃ Z9, Z9 = upd (X.1 11) (9) 1 := ⟨_, rfl⟩
    have kn_21 : w_20 (8) = 0 := by rw [ew_20]; exact (pk_un (by omega)).trans hcd
    have kn_22 : w_20 (10) = nI n := by rw [ew_20]; exact (pk_un (by omega)).trans hcnt
    have hW_23 : Wd G (setRow X 11 w_20) H_16 := Wd.cast (by rw [ew_20]; exact st_base) hW_18
    refine lv_aload_n hx hb dJ5_setLength_d00df_76 rfl (lv_at hl 0 rfl) ?_
    refine lv_iload_n hx hb dJ5_setLength_d00df_77 rfl (lv_at hl 1 rfl) ?_
    refine gSB_countP C hW_23 hS_19 (hwc hwJ4) (mc qw_276) dJ5_setLength_d00df_78 (fun H_24 locs_25 hW_26 hS_27 => ?_)
    obtain ⟨w_28, ew_28⟩ : ∃ Z9, Z9 = upd w_20 (10) 0 := ⟨_, rfl⟩
    have kn_29 : w_28 (8) = 0 := by rw [ew_28]; exact (pk_un (by omega)).trans kn_21
    have hW_30 : Wd G (setRow X 11 w_28) H_24 := Wd.cast (by rw [ew_28]; exact st_out) hW_26
    exact g_vret C hr hlk hW_30 hS_27 dJ5_setLength_d00df_81 (by subst ew_28; subst ew_20; simp only [slR, b_8, if_true, if_false])

set_option maxHeartbeats 4000000 in
set_option maxRecDepth 100000 in
theorem cJ4_setLength_d00df_ok (l : Launch) (G : GT) (X : St) (cp : Nat) (hcp : 16 ≤ cp ∧ cp ≤ 34) (hcap : X.2.2.1 = cp) (hcd : X.1 11 8 = 0) (n : Nat) (hcnt : X.1 11 10 = nI n) (hn : n ≤ cp) : MetV l G yJ4_setLength_d00df (wsG yJ4_setLength_d00df cJ4_setLength_d00df 2 none) (rmz 2 43) [.ref (ad G 722), .int 0] X (fun Y => Y = setRow X 11 (slR (X.1 11) n)) := by
  first | refine g_met (cc := cJ4_setLength_d00df) (maxL := 2) (ret := none) (by decide) rfl (Nat.le_of_ble_eq_true rfl) ?_ | refine g_metF (cc := cJ4_setLength_d00df) (maxL := 2) (ret := none) (by decide) rfl (Nat.le_of_ble_eq_true rfl) ?_
  intro p e s m below meth c ls C hr hlk hnm hW hl
  have hx := C.1.1
  have hb := C.1.2.1
  have hS : va_S (Ab G) s.heap s.heap [] := va_S.rf
  have hl : lv_has ls 2 [(0, .ref (ad G 722)), (1, .int 0)] := hl
  refine lv_aload_n hx hb dJ4_setLength_d00df_0 rfl (lv_at hl 0 rfl) ?_
  refine lv_iload_n hx hb dJ4_setLength_d00df_1 rfl (lv_at hl 1 rfl) ?_
  refine g_callv (va_runSU (C.2.1.1 1 _ rfl).2 (As := [.int 0]) (rest := []) C.1 (cJ5_setLength_d00df_ok l G X cp hcp hcap hcd n hcnt (by omega)) (va_cwSU 1 C.1.2.2.2.2 (gSU qw_393 qw_1945 qw_285 qw_394 qw_77 qw_395) rfl rfl rfl (by decide +kernel) ⟨Nat.le_of_ble_eq_true rfl, Nat.le_of_ble_eq_true rfl⟩) (g_rSB C hW hS [.int 0]) rfl rfl hl.1 rfl (lv_room (Nat.le_of_ble_eq_true rfl)) dJ4_setLength_d00df_2 ⟨Nat.zero_le _, Nat.zero_le _⟩) hS (fun Y_2 H_4 locs_5 hW_6 hS_7 h_1 => ?_)
  obtain ⟨w_8, ew_8⟩ : ∃ Z9, Z9 = slR (X.1 11) n := ⟨_, rfl⟩
  have kn_9 : w_8 (8) = 0 := by rw [ew_8]; exact (slR_8 _ _).trans hcd
  have kn_10 : w_8 (10) = nI 0 := by rw [ew_8]; exact slR_10 _ _
  have hW_11 : Wd G (setRow X 11 w_8) H_4 := Wd.cast (by subst ew_8; exact h_1) hW_6
  exact g_vret C hr hlk hW_11 hS_7 dJ4_setLength_d00df_5 (by subst ew_8; rfl)

set_option maxHeartbeats 4000000 in
set_option maxRecDepth 100000 in
theorem cJ5_length_8abf5_ok (l : Launch) (G : GT) (X : St) (n : Nat) (hcnt : X.1 11 10 = nI n) : MetI l G yJ5_length_8abf5 (wsG yJ5_length_8abf5 cJ5_length_8abf5 1 (some .int)) (rmz 0 0) [.ref (ad G 722)] X (fun res Y => res = nI n ∧ Y = X) := by
  first | refine g_met (cc := cJ5_length_8abf5) (maxL := 1) (ret := (some .int)) (by decide) rfl (Nat.le_of_ble_eq_true rfl) ?_ | refine g_metF (cc := cJ5_length_8abf5) (maxL := 1) (ret := (some .int)) (by decide) rfl (Nat.le_of_ble_eq_true rfl) ?_
  intro p e s m below meth c ls C hr hlk hnm hW hl
  have hx := C.1.1
  have hb := C.1.2.1
  have hS : va_S (Ab G) s.heap s.heap [] := va_S.rf
  have hl : lv_has ls 1 [(0, .ref (ad G 722))] := hl
  refine lv_aload_n hx hb dJ5_length_8abf5_0 rfl (lv_at hl 0 rfl) ?_
  refine gSB_count C hW (hwc hwJ4) (mc qw_276) dJ5_length_8abf5_1 ?_
  refine g_top (y := nI n) hcnt ?_
  exact g_iret C hr hlk hW hS dJ5_length_8abf5_4 (by exact ⟨rfl, rfl⟩)

set_option maxHeartbeats 4000000 in
set_option maxRecDepth 100000 in
theorem cJ4_length_8abf5_ok (l : Launch) (G : GT) (X : St) (n : Nat) (hcnt : X.1 11 10 = nI n) : MetI l G yJ4_length_8abf5 (wsG yJ4_length_8abf5 cJ4_length_8abf5 1 (some .int)) (rmz 1 20) [.ref (ad G 722)] X (fun res Y => res = nI n ∧ Y = X) := by
  first | refine g_met (cc := cJ4_length_8abf5) (maxL := 1) (ret := (some .int)) (by decide) rfl (Nat.le_of_ble_eq_true rfl) ?_ | refine g_metF (cc := cJ4_length_8abf5) (maxL := 1) (ret := (some .int)) (by decide) rfl (Nat.le_of_ble_eq_true rfl) ?_
  intro p e s m below meth c ls C hr hlk hnm hW hl
  have hx := C.1.1
  have hb := C.1.2.1
  have hS : va_S (Ab G) s.heap s.heap [] := va_S.rf
  have hl : lv_has ls 1 [(0, .ref (ad G 722))] := hl
  refine lv_aload_n hx hb dJ4_length_8abf5_0 rfl (lv_at hl 0 rfl) ?_
  refine g_calli (va_runSU (C.2.1.1 1 _ rfl).2 (As := []) (rest := []) C.1 (cJ5_length_8abf5_ok l G X n hcnt) (va_cwSU 0 C.1.2.2.2.2 (gSU qw_573 qw_569 qw_285 qw_568 qw_77 qw_574) rfl rfl rfl (by decide +kernel) ⟨Nat.le_of_ble_eq_true rfl, Nat.le_of_ble_eq_true rfl⟩) (g_rSB C hW hS []) rfl rfl hl.1 rfl (lv_room (Nat.le_of_ble_eq_true rfl)) dJ4_length_8abf5_1 ⟨Nat.zero_le _, Nat.zero_le _⟩) hS (fun r_3 Y_2 H_4 locs_5 hW_6 hS_7 h_1 => ?_)
  obtain ⟨h_1, hy_8⟩ := h_1
  replace hy_8 := hy_8.symm
  subst hy_8
  subst h_1
  exact g_iret C hr hlk hW_6 hS_7 dJ4_length_8abf5_4 (by exact ⟨rfl, rfl⟩)

set_option maxHeartbeats 4000000 in
set_option maxRecDepth 100000 in
theorem cJ5_charAt_5068e_ok (l : Launch) (G : GT) (X : St) (cp : Nat) (hcp : 16 ≤ cp ∧ cp ≤ 34) (hcap : X.2.2.1 = cp) (hcd : X.1 11 8 = 0) (n : Nat) (hcnt : X.1 11 10 = nI n) (hn : n ≤ cp) (j : Nat) (hj : j < n) (bj : Nat) (hbj : X.2.2.2.1 j = nI bj) (hbj1 : bj < 128) : MetI l G yJ5_charAt_5068e (wsG yJ5_charAt_5068e cJ5_charAt_5068e 5 (some .char)) (rmz 2 43) [.ref (ad G 722), .int (nI j)] X (fun res Y => res = nI bj ∧ Y = X) := by
  first | refine g_met (cc := cJ5_charAt_5068e) (maxL := 5) (ret := (some .char)) (by decide) rfl (Nat.le_of_ble_eq_true rfl) ?_ | refine g_metF (cc := cJ5_charAt_5068e) (maxL := 5) (ret := (some .char)) (by decide) rfl (Nat.le_of_ble_eq_true rfl) ?_
  intro p e s m below meth c ls C hr hlk hnm hW hl
  have hx := C.1.1
  have hb := C.1.2.1
  have hS : va_S (Ab G) s.heap s.heap [] := va_S.rf
  have hl : lv_has ls 5 [(0, .ref (ad G 722)), (1, .int (nI j))] := hl
  refine lv_aload_n hx hb dJ5_charAt_5068e_0 rfl (lv_at hl 0 rfl) ?_
  refine gSB_coder C hW (hwc hwJ4) (mc qw_273) dJ5_charAt_5068e_1 ?_
  refine g_top (y := 0) hcd ?_
  refine lv_istore_n (lv' := [(2, .int 0), (0, .ref (ad G 722)), (1, .int (nI j))]) hx hb dJ5_charAt_5068e_4 rfl hl (by decide) rfl (fun ls_1 hl_2 => ?_)
  refine lv_aload_n hx hb dJ5_charAt_5068e_5 rfl (lv_at hl_2 1 rfl) ?_
  refine gSB_value C hW (hwc hwJ4) (mc qw_272) dJ5_charAt_5068e_6 ?_
  refine lv_astore_n (lv' := [(3, .ref X.2.1), (2, .int 0), (0, .ref (ad G 722)), (1, .int (nI j))]) hx hb dJ5_charAt_5068e_9 rfl hl_2 (by decide) rfl (fun ls_3 hl_4 => ?_)
  refine lv_aload_n hx hb dJ5_charAt_5068e_10 rfl (lv_at hl_4 2 rfl) ?_
  refine gSB_count C hW (hwc hwJ4) (mc qw_276) dJ5_charAt_5068e_11 ?_
  refine g_top (y := nI n) hcnt ?_
  refine lv_aload_n hx hb dJ5_charAt_5068e_14 rfl (lv_at hl_4 0 rfl) ?_
  refine g_sblen C hW hcap dJ5_charAt_5068e_15 ?_
  refine lv_iload_n hx hb dJ5_charAt_5068e_16 rfl (lv_at hl_4 1 rfl) ?_
  refine lv_ishr hx hb dJ5_charAt_5068e_17 ?_
  refine g_top (y := (nI cp)) (sb_shr0 _) ?_
  refine va_mmin C.1.1 C.1.2.1 (C.1.2.2.1.trans hl_4.1.symm) C.1.2.2.2.1 (C.1.2.2.2.2 _ (mc qw_1334)) (C.1.2.2.2.2 _ (mc qwm_static)) (C.1.2.2.2.2 _ (mc qwm_init)) (C.1.2.2.2.2 _ (mc qwm_code)) (Nat.le_of_ble_eq_true rfl) (Nat.le_of_ble_eq_true rfl) (Nat.zero_le _) (Nat.zero_le _) dJ5_charAt_5068e_18 ?_
  refine g_top (y := nI n) (jmin hn hcp.2) ?_
  refine lv_istore (lv' := [(4, .int (nI n)), (3, .ref X.2.1), (2, .int 0), (0, .ref (ad G 722)), (1, .int (nI j))]) hx hb dJ5_charAt_5068e_21 hl_4 (by decide) rfl (fun ls_5 hl_6 => ?_)
  refine lv_iload_n hx hb dJ5_charAt_5068e_23 rfl (lv_at hl_6 4 rfl) ?_
  refine lv_iload hx hb dJ5_charAt_5068e_24 (lv_at hl_6 0 rfl) ?_
  refine g_callv (va_runS (As := [.int (nI j), .int (nI n)]) (rest := []) C.1 (cJ0_checkIndex_df160_ok l G X j n (show j < n by omega) (show n < 2 ^ 31 by omega)) (va_cwS 2 C.1.2.2.2.2 (gS qw_1335 qw_762 qw_79 qw_763) rfl rfl rfl (by decide +kernel) ⟨Nat.le_of_ble_eq_true rfl, Nat.le_of_ble_eq_true rfl⟩) (g_pre C hW hS [.int (nI j), .int (nI n)]) rfl rfl hl_6.1 rfl (lv_room (Nat.le_of_ble_eq_true rfl)) dJ5_charAt_5068e_26 ⟨Nat.zero_le _, Nat.zero_le _⟩) hS (fun Y_8 H_10 locs_11 hW_12 hS_13 h_7 => ?_)
  replace h_7 := h_7.symm
  subst h_7
  refine lv_iload_n hx hb dJ5_charAt_5068e_29 rfl (lv_at hl_6 2 rfl) ?_
  refine lv_if_ne (tgt := 42) hx hb dJ5_charAt_5068e_30 (by decide) (fun h9 => absurd h9 (by decide)) (fun _ => ?_)
  refine lv_aload_n hx hb dJ5_charAt_5068e_33 rfl (lv_at hl_6 1 rfl) ?_
  refine lv_iload_n hx hb dJ5_charAt_5068e_34 rfl (lv_at hl_6 4 rfl) ?_
  refine g_sbld C hW_12 hcap j (nI_clamp (show j < 2 ^ 31 by omega)) (vp_in_nI (show j < cp by omega) (show cp < 2 ^ 31 by omega)) dJ5_charAt_5068e_35 ?_
  refine g_top (y := nI bj) hbj ?_
  refine lv_sipush (v := 255) hx hb dJ5_charAt_5068e_36 (by decide) ?_
  refine lv_iand hx hb dJ5_charAt_5068e_39 ?_
  refine g_top (y := (nI bj)) (jb255 _ hbj1) ?_
  refine lv_i2c (v := (nI bj)) hx hb dJ5_charAt_5068e_40 (jb16 _ hbj1) ?_
  exact g_zret C hr hlk hW_12 hS_13 dJ5_charAt_5068e_41 (jnarc _ hbj1) (by exact ⟨rfl, rfl⟩)

set_option maxHeartbeats 4000000 in
set_option maxRecDepth 100000 in
theorem cJ4_charAt_5068e_ok (l : Launch) (G : GT) (X : St) (cp : Nat) (hcp : 16 ≤ cp ∧ cp ≤ 34) (hcap : X.2.2.1 = cp) (hcd : X.1 11 8 = 0) (n : Nat) (hcnt : X.1 11 10 = nI n) (hn : n ≤ cp) (j : Nat) (hj : j < n) (bj : Nat) (hbj : X.2.2.2.1 j = nI bj) (hbj1 : bj < 128) : MetI l G yJ4_charAt_5068e (wsG yJ4_charAt_5068e cJ4_charAt_5068e 2 (some .char)) (rmz 3 67) [.ref (ad G 722), .int (nI j)] X (fun res Y => res = nI bj ∧ Y = X) := by
  first | refine g_met (cc := cJ4_charAt_5068e) (maxL := 2) (ret := (some .char)) (by decide) rfl (Nat.le_of_ble_eq_true rfl) ?_ | refine g_metF (cc := cJ4_charAt_5068e) (maxL := 2) (ret := (some .char)) (by decide) rfl (Nat.le_of_ble_eq_true rfl) ?_
  intro p e s m below meth c ls C hr hlk hnm hW hl
  have hx := C.1.1
  have hb := C.1.2.1
  have hS : va_S (Ab G) s.heap s.heap [] := va_S.rf
  have hl : lv_has ls 2 [(0, .ref (ad G 722)), (1, .int (nI j))] := hl
  refine lv_aload_n hx hb dJ4_charAt_5068e_0 rfl (lv_at hl 0 rfl) ?_
  refine lv_iload_n hx hb dJ4_charAt_5068e_1 rfl (lv_at hl 1 rfl) ?_
  refine g_calli (va_runSU (C.2.1.1 1 _ rfl).2 (As := [.int (nI j)]) (rest := []) C.1 (cJ5_charAt_5068e_ok l G X cp hcp hcap hcd n hcnt hn j hj bj hbj hbj1) (va_cwSU 1 C.1.2.2.2.2 (gSU qw_1331 qw_1957 qw_285 qw_1332 qw_77 qw_1333) rfl rfl rfl (by decide +kernel) ⟨Nat.le_of_ble_eq_true rfl, Nat.le_of_ble_eq_true rfl⟩) (g_rSB C hW hS [.int (nI j)]) rfl rfl hl.1 rfl (lv_room (Nat.le_of_ble_eq_true rfl)) dJ4_charAt_5068e_2 ⟨Nat.zero_le _, Nat.zero_le _⟩) hS (fun r_3 Y_2 H_4 locs_5 hW_6 hS_7 h_1 => ?_)
  obtain ⟨h_1, hy_8⟩ := h_1
  replace hy_8 := hy_8.symm
  subst hy_8
  subst h_1
  exact g_zret C hr hlk hW_6 hS_7 dJ4_charAt_5068e_5 (jnarc _ hbj1) (by exact ⟨rfl, rfl⟩)
