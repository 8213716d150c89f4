/-! The script's buffer and its parser: rows, and what the methods answer. -/
theorem qwx_static : Cond.static Lib.Math.max.name ∈ lw_all := lw_mem 427 (by decide +kernel) (by decide +kernel)
theorem qwx_code : Cond.code Lib.Math.max.name Lib.Math.max.code 2 (some .int) ∈ lw_all := lw_mem 428 (by decide +kernel) (by decide +kernel)
def imax (x y : Int32) : Int32 := if x < y then y else x
theorem imaxN {a b : Nat} (ha : a < 2 ^ 31) (hb : b < 2 ^ 31) : (if nI a < nI b then nI b else nI a) = nI (max a b) := by
  by_cases h : a < b
  · rw [if_pos ((nI_ltI ha hb).mpr h), Nat.max_eq_right (by omega)]
  · rw [if_neg (fun q => h ((nI_ltI ha hb).mp q)), Nat.max_eq_left (by omega)]
theorem jnarh : ∀ a, a < 128 → vp_nar .char (nI a) = nI a := by decide +kernel
theorem kp_upd {w : Nat → Int32} {i j : Nat} {v : Int32} (h : j ≠ i) : upd w i v j = w j := pk_un h
theorem strlt_n (si : Nat) (h : si < 16) {n : Nat} (hn : 8 ≤ n) : strL.getD si 0 < n := by
  have := strlt si h
  omega
theorem upd_same {w : Nat → Int32} {i : Nat} {v : Int32} (h : w i = v) : upd w i v = w := by
  funext j
  by_cases hj : j = i
  · subst hj
    exact pk_us.trans h.symm
  · exact pk_un hj
theorem sr_same {X : St} {r : Nat} {w : Nat → Int32} (h : w = X.1 r) : setRow X r w = X := by
  rw [h]
  exact sr_self
theorem uu6 {w : Nat → Int32} {a b : Int32} : upd (upd w (6) a) (6) b = upd w (6) b := by
  funext j
  by_cases hj : j = 6
  · subst hj
    exact pk_us.trans pk_us.symm
  · rw [pk_un hj, pk_un hj, pk_un hj]
theorem u676 {w : Nat → Int32} {a b c : Int32} : upd (upd (upd w (6) a) (7) b) (6) c = upd (upd w (6) c) (7) b := by
  funext j
  by_cases hj : j = 6
  · subst hj
    rw [pk_us, pk_un (by decide), pk_us]
  · rw [pk_un hj]
    by_cases h7 : j = 7
    · subst h7
      rw [pk_us, pk_us]
    · rw [pk_un h7, pk_un hj, pk_un h7, pk_un hj]
theorem u677 {w : Nat → Int32} {a b c : Int32} : upd (upd (upd w (6) a) (7) b) (7) c = upd (upd w (6) a) (7) c := by
  funext j
  by_cases hj : j = 7
  · subst hj
    rw [pk_us, pk_us]
  · rw [pk_un hj, pk_un hj, pk_un hj]
def rsV (t : Nat → Int32) (L p : Nat) (x : Int32) : Nat × Int32 := if nI L ≤ nI p then (p, 0) else if t p = x then (p + 1, 1) else (p, 0)
def digF (t : Nat → Int32) (L p : Nat) : Int32 := if nI L ≤ nI p then 0 else if t p < 48 then 0 else if 57 < t p then 0 else 1
def numL (t : Nat → Int32) (L : Nat) : Nat → Nat → Int32 → Nat × Int32
  | 0, p, n => (p, n)
  | q + 1, p, n => if digF t L p = 0 then (p, n) else numL t L q (p + 1) (imax n 0 * 10 + (t p - 48))
def rmV (t : Nat → Int32) (L p : Nat) : Nat × Int32 := if nI L ≤ nI p then (p, -1) else if matOf (t p) = -1 then (p, -1) else (p + 1, t p)
def rvV (t : Nat → Int32) (L c p : Nat) : Nat × Int32 := if c = 109 then rmV t L p else if c = 100 then numL t L 1 p (-1) else numL t L 3 p (-1)
theorem rv_109 {t : Nat → Int32} {L p : Nat} : rvV t L 109 p = rmV t L p := if_pos rfl
theorem rv_100 {t : Nat → Int32} {L p : Nat} : rvV t L 100 p = numL t L 1 p (-1) := (if_neg (by decide)).trans (if_pos rfl)
theorem rv_110 {t : Nat → Int32} {L p : Nat} : rvV t L 110 p = numL t L 3 p (-1) := (if_neg (by decide)).trans (if_neg (by decide))
theorem rsV_le {t : Nat → Int32} {L p : Nat} {x : Int32} (hL : L < 2 ^ 31) (hp : p ≤ L) : p ≤ (rsV t L p x).1 ∧ (rsV t L p x).1 ≤ L := by
  unfold rsV
  by_cases h : nI L ≤ nI p
  · rw [if_pos h]
    exact ⟨Nat.le_refl _, hp⟩
  · rw [if_neg h]
    have h2 : ¬ L ≤ p := fun q => h ((nI_leI hL (by omega)).mpr q)
    split
    · exact ⟨Nat.le_succ _, by omega⟩
    · exact ⟨Nat.le_refl _, hp⟩
theorem digF_lt {t : Nat → Int32} {L p : Nat} (hL : L < 2 ^ 31) (hp : p ≤ L) (h : ¬ digF t L p = 0) : p < L := by
  by_cases h1 : nI L ≤ nI p
  · exact absurd (if_pos h1) h
  · have h2 : ¬ L ≤ p := fun q => h1 ((nI_leI hL (by omega)).mpr q)
    omega
theorem numL_le {t : Nat → Int32} {L : Nat} (hL : L < 2 ^ 31) : ∀ {q p : Nat} {n : Int32}, p ≤ L → p ≤ (numL t L q p n).1 ∧ (numL t L q p n).1 ≤ L
  | 0, p, n, hp => ⟨Nat.le_refl _, hp⟩
  | q + 1, p, n, hp => by
    by_cases h : digF t L p = 0
    · rw [numL, if_pos h]
      exact ⟨Nat.le_refl _, hp⟩
    · have h1 := digF_lt hL hp h
      rw [numL, if_neg h]
      have h2 := numL_le (t := t) hL (q := q) (p := p + 1) (n := imax n 0 * 10 + (t p - 48)) (by omega)
      omega
theorem rmV_le {t : Nat → Int32} {L p : Nat} (hL : L < 2 ^ 31) (hp : p ≤ L) : p ≤ (rmV t L p).1 ∧ (rmV t L p).1 ≤ L := by
  unfold rmV
  by_cases h : nI L ≤ nI p
  · rw [if_pos h]
    exact ⟨Nat.le_refl _, hp⟩
  · rw [if_neg h]
    have h2 : ¬ L ≤ p := fun q => h ((nI_leI hL (by omega)).mpr q)
    split
    · exact ⟨Nat.le_refl _, hp⟩
    · exact ⟨Nat.le_succ _, by omega⟩
theorem rvV_le {t : Nat → Int32} {L c p : Nat} (hL : L < 2 ^ 31) (hp : p ≤ L) : p ≤ (rvV t L c p).1 ∧ (rvV t L c p).1 ≤ L := by
  unfold rvV
  split
  · exact rmV_le hL hp
  · split
    · exact numL_le hL hp
    · exact numL_le hL hp
abbrev Ke (G : GT) (post : Option Nat → St → Prop) : Array Value → State → Outcome → State → Prop := va_Qe (fun i => cy G (20 + i)) post (fun Y t => Wd G Y t.heap) (Ab G)
abbrev MetE (l : Launch) (G : GT) (y : MethodName) (ws : List Cond) (rm : Room) (av : List Value) (X : St) (post : Option Nat → St → Prop) : Prop := Met l y ws rm (Kp G av X) (Ke G post) 0 0 (Ab G)
theorem cell_arg {G : GT} {Y : St} {i : Nat} : cell G Y (738 + i) = iarr G 3 (fun j => Y.1 14 (3 * i + j)) := by
  rw [show 738 + i = 715 + (23 + i) by omega, cell_s, show 23 + i = i + 23 by omega]
  show iarr G 3 (fun j => Y.1 14 (3 * (i + 23 - 23) + j)) = _
  rw [Nat.add_sub_cancel]
theorem nk_719 : 719 < NK ∧ 719 ≠ 737 := by decide
theorem nk_720 : 720 < NK ∧ 720 ≠ 737 := by decide
theorem nk_721 : 721 < NK ∧ 721 ≠ 737 := by decide
theorem nk_arg {i : Nat} (h : i < 60) : 738 + i < NK ∧ 738 + i ≠ 737 := ⟨show 738 + i < 798 by omega, by omega⟩
section GSC
variable {p : Program} {l : Launch} {e : Env} {R : Room} {s : State} {m : MethodId} {args : Array Value} {below : List Frame} {meth : Method} {c : Code} {H : Heap} {locs : List Loc} {cells slots : Nat} {Q : State → Prop}
variable {cc : ByteArray} {nL pc : Nat} {ls : Array Slot} {rest st0 : List Value} {G : GT} {X : St} {Ts : List Cond} {own : String} {n : Nat}
theorem g_topv {x y : Value} (h : x = y) (kk : W p l e R s m args below meth c H locs cells slots Q (F0 m pc ls (y :: rest))) : W p l e R s m args below meth c H locs cells slots Q (F0 m pc ls (x :: rest)) := by
  subst h
  exact kk
theorem g_calle {post : Option Nat → St → Prop} {a : Array Value} (hr : va_Run p l e R s m args below meth c H locs cells slots 0 0 (F0 m pc ls st0) rest (Ke G post a) (Ab G)) (hS : va_S (Ab G) s.heap H locs)
    (kk : ∀ (r : Option Nat) (Y : St) (H1 : Heap) (locs1 : List Loc), Wd G Y H1 → va_S (Ab G) s.heap H1 locs1 → post r Y → W p l e R s m args below meth c H1 locs1 cells slots Q (F0 m (pc + 3) ls (va_re (fun i => cy G (20 + i)) r :: rest))) : W p l e R s m args below meth c H locs cells slots Q (F0 m pc ls st0) :=
  va_calle hr hS (fun _ _ h => h) (fun _ h => h) (fun r Y _ H1 locs1 ht _ hp hB _ _ hS1 => kk r Y H1 locs1 (by rw [← ht]; exact hB) hS1 hp)
theorem g_eret (C : Cx p m c cc nL s args Ts own G) {Cn : String} (hr : meth.sig.returnType = some (.object Cn)) (hlk : meth.locks = false) (hW : Wd G X H) (hS : va_S (Ab G) s.heap H locs) {post : Option Nat → St → Prop} (hdg : decode cc pc = .ok (.areturn, 1)) {r : Option Nat} (hp : post r X) : W p l e R s m args below meth c H locs cells slots (MQ below (Ke G post) args s cells slots (Ab G)) (F0 m pc ls [va_re (fun i => cy G (20 + i)) r]) :=
  W.aret C.1.1 C.1.2.1 hr (Or.inl ⟨_, rfl⟩) (va_re_or _ _) (fun _ ht hw => ⟨⟨r, X, rfl, hp, Wd.at9 ht hW⟩, hS.F ht⟩) hS.2.2 hdg hlk
theorem g_efN (C : Cx p m c cc nL s args Ts own G) (hS : va_S (Ab G) s.heap H locs) {N : Nat} {o n d : String} {v : Nat → Value} {adr : Nat → Nat} (hE : va_Ef N o n d v adr (Ab G) s s.heap) {i : Nat} (hi : i < N) {index : Nat} (hlink : Cond.fieldLinkNest own index o n d "Foundry" ∈ nestWs) (hdg : decode cc pc = .ok (.getfield index, 3))
    (kk : W p l e R s m args below meth c H locs cells slots Q (F0 m (pc + 3) ls (v i :: rest))) : W p l e R s m args below meth c H locs cells slots Q (F0 m pc ls (.ref (adr i) :: rest)) := by
  obtain ⟨cf, k, fi, f, cell, h1, h2, h3, h4, h5, h6⟩ := (hE i hi).kept hS.2.1
  exact va_Wgetf C.1.1 C.1.2.1 C.1.2.2.2.1 (va_Nw.use rfl (C.2.2.1.1 _ hlink)) h1 h2 h3 h4 (v := v i) h5 rfl rfl hdg kk
theorem g_txld (C : Cx p m c cc nL s args Ts own G) (hW : Wd G X H) {x : Int32} (j : Nat) (hx : x.toNatClampNeg = j) (hin : vp_in x 60) (hdg : decode cc pc = .ok (.caload, 1))
    (kk : W p l e R s m args below meth c H locs cells slots Q (F0 m (pc + 1) ls (.int (X.1 12 j) :: rest))) : W p l e R s m args below meth c H locs cells slots Q (F0 m pc ls (.int x :: .ref (ad G 719) :: rest)) := by
  have hj : j < 60 := by rw [← hx]; exact Nat.not_le.mp fun q => hin (Or.inr q)
  refine va_cald (D := gD G) C.1.1 C.1.2.1 C.2.1 hW.1 719 1 (wl_at nk_719.1 nk_719.2 (cell_s (o := 4))) rfl hin hdg ?_
  rw [hx, tr_at hj, Nat.zero_add]
  exact kk
theorem g_txst (C : Cx p m c cc nL s args Ts own G) (hW : Wd G X H) (hS : va_S (Ab G) s.heap H locs) {x v : Int32} (j : Nat) (hx : x.toNatClampNeg = j) (hin : vp_in x 60) (hv : vp_nar .char v = v) (hdg : decode cc pc = .ok (.castore, 1))
    (kk : ∀ (H1 : Heap) (locs1 : List Loc), Wd G (sup X 12 j v) H1 → va_S (Ab G) s.heap H1 locs1 → W p l e R s m args below meth c H1 locs1 cells slots Q (F0 m (pc + 1) ls rest)) : W p l e R s m args below meth c H locs cells slots Q (F0 m pc ls (.int v :: .int x :: .ref (ad G 719) :: rest)) := by
  have hj : j < 60 := by rw [← hx]; exact Nat.not_le.mp fun q => hin (Or.inr q)
  refine va_cast (D := gD G) C.1.1 C.1.2.1 C.2.1 hW.1 hW.2 hS 719 1 (wl_at nk_719.1 nk_719.2 (cell_s (o := 4))) rfl hin hdg (fun H1 locs1 h1 h2 h3 => ?_)
  have hs : (wl G X).set 719 (ad G 719, .inl (cy G 1, 60, .inl (upd (tr 60 fun k => X.1 12 (0 + k)) x.toNatClampNeg (vp_nar .char v)))) = wl G (sup X 12 j v) := by
    refine wl_set nk_719.1 nk_719.2 rfl ?_ (fun j9 h8 h9 => cell_ne h8 (fun q => h9 q.symm))
    rw [hx, hv, tr_upd hj, Nat.zero_add]
    exact cell_s (o := 4)
  rw [hs] at h1 h2
  exact kk H1 locs1 ⟨h1, h2⟩ h3
theorem va_aldA {D : va_G} {cl : List vw_C} {tys : List (ClassId × FieldType)} {ws : va_W} {a : Nat} (hexec : p.tables.exec = Jvm.exec) (hb : c.code = cc) (hK : va_K D cl tys s) (hP : va_P D cl ws H) (q0 t0 : Nat) {cA : ClassId} {ty : FieldType} {n : Nat} {f : Nat → Option Nat} (ha : ws[q0]? = some (a, .inl (cA, n, .inr (.inr (.inr (.inr f)))))) (ht : tys[t0]? = some (cA, ty)) (hty : ty.isReference = true) {i : Int32} (hin : vp_in i n) (hdg : decode cc pc = .ok (.aaload, 1))
    (kk : W p l e R s m args below meth c H locs cells slots Q (F0 m (pc + 1) ls (va_rf (f i.toNatClampNeg) :: rest))) : W p l e R s m args below meth c H locs cells slots Q (F0 m pc ls (.int i :: .ref a :: rest)) := by
  have hlt : i.toNatClampNeg < n := Nat.not_le.mp fun q => hin (Or.inr q)
  exact W.aald (v := va_rf (f i.toNatClampNeg)) (ty := ty) hexec hb (hP q0 _ ha) ((hK.2 t0 _ ht).1 n (fun j => va_rf (f j))) hty (fun q => by cases q) (by show ¬ (i < 0 ∨ (arrV _ _ _).slots.size ≤ _); rw [arrV_size]; exact hin) (by show (arrV _ _ _).slots[_]? = _; rw [arrV_read _ _ hlt]) rfl rfl hdg kk
theorem g_args (C : Cx p m c cc nL s args Ts own G) (hW : Wd G X H) {x : Int32} (j : Nat) (hx : x.toNatClampNeg = j) (hin : vp_in x 60) (hdg : decode cc pc = .ok (.aaload, 1))
    (kk : W p l e R s m args below meth c H locs cells slots Q (F0 m (pc + 1) ls (.ref (ad G (738 + j)) :: rest))) : W p l e R s m args below meth c H locs cells slots Q (F0 m pc ls (.int x :: .ref (ad G 721) :: rest)) := by
  have hj : j < 60 := by rw [← hx]; exact Nat.not_le.mp fun q => hin (Or.inr q)
  have hc : (wl G X)[721]? = some (ad G 721, .inl (cy G 9, 60, .inr (.inr (.inr (.inr (fun j => if j < 60 then some (ad G (738 + j)) else none)))))) := wl_at nk_721.1 nk_721.2 (cell_s (o := 6))
  refine va_aldA (D := gD G) C.1.1 C.1.2.1 C.2.1 hW.1 721 9 hc rfl rfl hin hdg ?_
  rw [hx, if_pos hj]
  exact kk
theorem g_argld (C : Cx p m c cc nL s args Ts own G) (hW : Wd G X H) {i : Nat} (hi : i < 60) {x : Int32} (j : Nat) (hx : x.toNatClampNeg = j) (hin : vp_in x 3) (hdg : decode cc pc = .ok (.iaload, 1))
    (kk : W p l e R s m args below meth c H locs cells slots Q (F0 m (pc + 1) ls (.int (X.1 14 (3 * i + j)) :: rest))) : W p l e R s m args below meth c H locs cells slots Q (F0 m pc ls (.int x :: .ref (ad G (738 + i)) :: rest)) :=
  g_ild C hW (n := 3) (f := fun j => X.1 14 (3 * i + j)) (nk_arg hi).1 (nk_arg hi).2 cell_arg j hx hin rfl hdg kk
theorem g_argst (C : Cx p m c cc nL s args Ts own G) (hW : Wd G X H) (hS : va_S (Ab G) s.heap H locs) {i : Nat} (hi : i < 60) {x v : Int32} (j : Nat) (hx : x.toNatClampNeg = j) (hin : vp_in x 3) (hdg : decode cc pc = .ok (.iastore, 1))
    (kk : ∀ (H1 : Heap) (locs1 : List Loc), Wd G (sup X 14 (3 * i + j) v) H1 → va_S (Ab G) s.heap H1 locs1 → W p l e R s m args below meth c H1 locs1 cells slots Q (F0 m (pc + 1) ls rest)) : W p l e R s m args below meth c H locs cells slots Q (F0 m pc ls (.int v :: .int x :: .ref (ad G (738 + i)) :: rest)) := by
  have hj : j < 3 := by rw [← hx]; exact Nat.not_le.mp fun q => hin (Or.inr q)
  exact g_ist C hW hS (n := 3) (nk_arg hi).1 (nk_arg hi).2 14 (ix := fun j => 3 * i + j) (fun Y => cell_arg) j hx hin (fun q _ h => by have h : 3 * i + q = 3 * i + j := h; omega) (show 738 + (3 * i + j) / 3 = 738 + i by omega) _ rfl hdg kk
theorem g_arglen (C : Cx p m c cc nL s args Ts own G) (hW : Wd G X H) {i : Nat} (hi : i < 60) (hdg : decode cc pc = .ok (.arraylength, 1))
    (kk : W p l e R s m args below meth c H locs cells slots Q (F0 m (pc + 1) ls (.int 3 :: rest))) : W p l e R s m args below meth c H locs cells slots Q (F0 m pc ls (.ref (ad G (738 + i)) :: rest)) :=
  va_alen (D := gD G) C.1.1 C.1.2.1 C.2.1 hW.1 (738 + i) 0 (wl_at (nk_arg hi).1 (nk_arg hi).2 cell_arg) rfl rfl hdg kk
theorem g_cmdst (C : Cx p m c cc nL s args Ts own G) (hW : Wd G X H) (hS : va_S (Ab G) s.heap H locs) {x : Int32} (j : Nat) (hx : x.toNatClampNeg = j) (hin : vp_in x 60) {i : Nat} (hi : i < 10) (hdg : decode cc pc = .ok (.aastore, 1))
    (kk : ∀ (H1 : Heap) (locs1 : List Loc), Wd G (sup X 13 j (nI (i + 1))) H1 → va_S (Ab G) s.heap H1 locs1 → W p l e R s m args below meth c H1 locs1 cells slots Q (F0 m (pc + 1) ls rest)) : W p l e R s m args below meth c H locs cells slots Q (F0 m pc ls (.ref (cy G (20 + i)) :: .int x :: .ref (ad G 720) :: rest)) := by
  have hj : j < 60 := by rw [← hx]; exact Nat.not_le.mp fun q => hin (Or.inr q)
  refine vb_astq (D := gD G) (E := "Foundry$Command") (C := "Foundry$Command") C.1.1 C.1.2.1 C.2.1 hW.1 hW.2 hS 720 8 (wl_at nk_720.1 nk_720.2 (cell_s (o := 5))) rfl (va_recvE (E := "Foundry$Command") C.2.2.2.2.2.2.2.1 (i := i) hi hS) (fun comp c0 h1 h2 => vb_asgS comp c0 h1 h2) hin hdg (fun H1 locs1 h1 h2 h3 => ?_)
  have hs : (wl G X).set 720 (ad G 720, .inl (cy G 8, 60, .inr (.inr (.inr (.inr (va_up (fun j => if j < 60 then (if X.1 13 j = 0 then none else some (cy G (19 + (X.1 13 j).toNatClampNeg))) else none) x.toNatClampNeg (some (cy G (20 + i))))))))) = wl G (sup X 13 j (nI (i + 1))) := by
    refine wl_set nk_720.1 nk_720.2 rfl ?_ (fun j9 h8 h9 => cell_ne h8 (fun q => h9 q.symm))
    refine (cell_s (o := 5)).trans (congrArg (fun f => (Sum.inl (cy G 8, 60, .inr (.inr (.inr (.inr f)))) : va_E)) (funext fun k => ?_))
    rw [hx]
    by_cases hk : k = j
    · subst hk
      rw [va_up_self, if_pos hj]
      have h5 : (sup X 13 k (nI (i + 1))).1 13 k = nI (i + 1) := up2_same _ _ _ _
      have h6 : ∀ i, i < 10 → ¬ nI (i + 1) = 0 := by decide +kernel
      rw [h5, if_neg (h6 i hi), nI_clamp (show i + 1 < 2 ^ 31 by omega), show 19 + (i + 1) = 20 + i by omega]
    · rw [va_up_ne _ _ hk]
      have h5 : (sup X 13 j (nI (i + 1))).1 13 k = X.1 13 k := up2_ne (fun q => hk q.2)
      rw [h5]
  rw [hs] at h1 h2
  exact kk H1 locs1 ⟨h1, h2⟩ h3
end GSC

set_option maxHeartbeats 4000000 in
set_option maxRecDepth 100000 in
theorem cX5_append1_ok (l : Launch) (G : GT) (X : St) (L : Nat) (hL : L < 60) (eL : X.1 11 5 = nI L) (ch : Nat) (hch : ch < 128) : MetI l G yX5_append (wsG yX5_append cX5_append 2 (some .boolean)) (rmz 0 0) [.ref (ad G 718), .int (nI ch)] X (fun res Y => res = 1 ∧ Y = setRow (setRow X 12 (upd (X.1 12) (L) (nI ch))) 11 (upd (X.1 11) (5) (nI (L + 1)))) := by
  refine g_met (cc := cX5_append) (maxL := 2) (ret := (some .boolean)) (by decide) rfl (Nat.le_of_ble_eq_true rfl) ?_
  intro p e s m below meth c ls C hr hlk hnm hW hl
  have hx := C.1.1
  have hb := C.1.2.1
  have hS : va_S (Ab G) s.heap s.heap [] := va_S.rf
  have hl : lv_has ls 2 [(0, .ref (ad G 718)), (1, .int (nI ch))] := hl
  refine lv_aload_n hx hb dX5_append_0 rfl (lv_at hl 0 rfl) ?_
  refine gSc_length C hW (hwc hwX5) (mc qw_231) dX5_append_1 ?_
  refine g_top (y := nI L) eL ?_
  refine lv_bipush (v := 60) hx hb dX5_append_4 (by decide) ?_
  refine lv_icmp_lt (tgt := 11) hx hb dX5_append_6 (by decide) (fun _ => ?_) (fun h9 => absurd ((nI_ltI (a := L) (b := 60) (by omega) (by omega)).mpr (by omega)) h9)
  refine lv_aload_n hx hb dX5_append_11 rfl (lv_at hl 0 rfl) ?_
  refine gSc_text C hW (hwc hwX5) (mc qw_230) dX5_append_12 ?_
  refine lv_aload_n hx hb dX5_append_15 rfl (lv_at hl 0 rfl) ?_
  refine gSc_length C hW (hwc hwX5) (mc qw_231) dX5_append_16 ?_
  refine g_top (y := nI L) eL ?_
  refine lv_iload_n hx hb dX5_append_19 rfl (lv_at hl 1 rfl) ?_
  refine g_txst C hW hS L (nI_clamp (by omega)) (vp_in_nI (show L < 60 by omega) (by decide)) (jnarh _ (show ch < 128 by omega)) dX5_append_20 (fun H_1 locs_2 hW_3 hS_4 => ?_)
  obtain ⟨w_5, ew_5⟩ : ∃ Z9, Z9 = upd (X.1 12) (L) (nI ch) := ⟨_, rfl⟩
  have kn_6 : w_5 (L) = nI ch := by rw [ew_5]; exact pk_us
  have hW_7 : Wd G (setRow X 12 w_5) H_1 := Wd.cast (by rw [ew_5]; exact st_base) hW_3
  refine lv_aload_n hx hb dX5_append_21 rfl (lv_at hl 0 rfl) ?_
  refine lv_dup hx hb dX5_append_22 rfl ?_
  refine gSc_length C hW_7 (hwc hwX5) (mc qw_231) dX5_append_23 ?_
  refine g_top (y := X.1 11 (5)) (congrFun (rd_in (by decide) rfl) _) ?_
  refine g_top (y := nI L) eL ?_
  refine lv_iconst (v := 1) hx hb dX5_append_26 (by decide) ?_
  refine lv_iadd hx hb dX5_append_27 ?_
  refine g_top (y := nI (L + 1)) (nI_add L 1) ?_
  refine gSc_lengthP C hW_7 hS_4 (hwc hwX5) (mc qw_231) dX5_append_28 (fun H_8 locs_9 hW_10 hS_11 => ?_)
  obtain ⟨w_12, ew_12⟩ : ∃ Z9, Z9 = upd (X.1 11) (5) (nI (L + 1)) := ⟨_, rfl⟩
  have kn_13 : w_12 (5) = nI (L + 1) := by rw [ew_12]; exact pk_us
  have hW_14 : Wd G (setRow (setRow X 12 w_5) 11 w_12) H_8 := Wd.cast (by rw [ew_12]; exact (st_base.trans (congrArg (fun Z9 => setRow (setRow X 12 w_5) 11 (upd Z9 (5) (nI (L + 1)))) (rd_in (by decide) rfl)))) hW_10
  refine lv_iconst (v := 1) hx hb dX5_append_31 (by decide) ?_
  exact g_zret C hr hlk hW_14 hS_11 dX5_append_32 rfl (by subst ew_12; subst ew_5; exact ⟨rfl, rfl⟩)

set_option maxHeartbeats 4000000 in
set_option maxRecDepth 100000 in
theorem cX5_append0_ok (l : Launch) (G : GT) (X : St) (eL : X.1 11 5 = nI 60) (ch : Nat) (hch : ch < 128) : MetI l G yX5_append (wsG yX5_append cX5_append 2 (some .boolean)) (rmz 0 0) [.ref (ad G 718), .int (nI ch)] X (fun res Y => res = 0 ∧ Y = X) := by
  refine g_met (cc := cX5_append) (maxL := 2) (ret := (some .boolean)) (by decide) rfl (Nat.le_of_ble_eq_true rfl) ?_
  intro p e s m below meth c ls C hr hlk hnm hW hl
  have hx := C.1.1
  have hb := C.1.2.1
  have hS : va_S (Ab G) s.heap s.heap [] := va_S.rf
  have hl : lv_has ls 2 [(0, .ref (ad G 718)), (1, .int (nI ch))] := hl
  refine lv_aload_n hx hb dX5_append_0 rfl (lv_at hl 0 rfl) ?_
  refine gSc_length C hW (hwc hwX5) (mc qw_231) dX5_append_1 ?_
  refine g_top (y := nI 60) eL ?_
  refine lv_bipush (v := 60) hx hb dX5_append_4 (by decide) ?_
  refine lv_icmp_lt (tgt := 11) hx hb dX5_append_6 (by decide) (fun h9 => absurd h9 (fun h8 => absurd ((nI_ltI (a := 60) (b := 60) (by omega) (by omega)).mp h8) (by omega))) (fun _ => ?_)
  refine lv_iconst (v := 0) hx hb dX5_append_9 (by decide) ?_
  exact g_zret C hr hlk hW hS dX5_append_10 rfl (by exact ⟨rfl, rfl⟩)

set_option maxHeartbeats 4000000 in
set_option maxRecDepth 100000 in
theorem cX5_empty_ok (l : Launch) (G : GT) (X : St) : MetV l G yX5_empty (wsG yX5_empty cX5_empty 1 none) (rmz 0 0) [.ref (ad G 718)] X (fun Y => Y = setRow X 11 (upd (X.1 11) (5) 0)) := by
  refine g_met (cc := cX5_empty) (maxL := 1) (ret := none) (by decide) rfl (Nat.le_of_ble_eq_true rfl) ?_
  intro p e s m below meth c ls C hr hlk hnm hW hl
  have hx := C.1.1
  have hb := C.1.2.1
  have hS : va_S (Ab G) s.heap s.heap [] := va_S.rf
  have hl : lv_has ls 1 [(0, .ref (ad G 718))] := hl
  refine lv_aload_n hx hb dX5_empty_0 rfl (lv_at hl 0 rfl) ?_
  refine lv_iconst (v := 0) hx hb dX5_empty_1 (by decide) ?_
  refine gSc_lengthP C hW hS (hwc hwX5) (mc qw_231) dX5_empty_2 (fun H_1 locs_2 hW_3 hS_4 => ?_)
  obtain ⟨w_5, ew_5⟩ : ∃ Z9, Z9 = upd (X.1 11) (5) 0 := ⟨_, rfl⟩
  have hW_6 : Wd G (setRow X 11 w_5) H_1 := Wd.cast (by rw [ew_5]; exact st_base) hW_3
  exact g_vret C hr hlk hW_6 hS_4 dX5_empty_5 (by subst ew_5; rfl)

set_option maxHeartbeats 4000000 in
set_option maxRecDepth 100000 in
theorem cX5_readSign_ok (l : Launch) (G : GT) (X : St) (L P : Nat) (hL : L ≤ 60) (hP : P ≤ L) (eL : X.1 11 5 = nI L) (eP : X.1 11 6 = nI P) (x : Int32) : MetI l G yX5_readSign (wsG yX5_readSign cX5_readSign 2 (some .boolean)) (rmz 0 0) [.ref (ad G 718), .int x] X (fun res Y => res = (rsV (X.1 12) L P x).2 ∧ Y = setRow X 11 (upd (X.1 11) (6) (nI (rsV (X.1 12) L P x).1))) := by
  refine g_met (cc := cX5_readSign) (maxL := 2) (ret := (some .boolean)) (by decide) rfl (Nat.le_of_ble_eq_true rfl) ?_
  intro p e s m below meth c ls C hr hlk hnm hW hl
  have hx := C.1.1
  have hb := C.1.2.1
  have hS : va_S (Ab G) s.heap s.heap [] := va_S.rf
  have hl : lv_has ls 2 [(0, .ref (ad G 718)), (1, .int x)] := hl
  refine lv_aload_n hx hb dX5_readSign_0 rfl (lv_at hl 0 rfl) ?_
  refine gSc_position C hW (hwc hwX5) (mc qw_233) dX5_readSign_1 ?_
  refine g_top (y := nI P) eP ?_
  refine lv_aload_n hx hb dX5_readSign_4 rfl (lv_at hl 0 rfl) ?_
  refine gSc_length C hW (hwc hwX5) (mc qw_231) dX5_readSign_5 ?_
  refine g_top (y := nI L) eL ?_
  refine lv_icmp_ge (tgt := 24) hx hb dX5_readSign_8 (by decide) (fun b_1 => ?_) (fun b_1 => ?_)
  · have fb_1 : L ≤ P := (nI_leI (a := L) (b := P) (by omega) (by omega)).mp b_1
    refine lv_iconst (v := 0) hx hb dX5_readSign_24 (by decide) ?_
    exact g_zret C hr hlk hW hS dX5_readSign_25 rfl (by exact ⟨by simp only [rsV, b_1, if_true, if_false]; first | done | rfl, by simp only [rsV, b_1, if_true, if_false]; exact (sr_same (upd_same eP)).symm⟩)
  · have fb_1 : ¬ L ≤ P := fun q9 => b_1 ((nI_leI (a := L) (b := P) (by omega) (by omega)).mpr q9)
    refine lv_aload_n hx hb dX5_readSign_11 rfl (lv_at hl 0 rfl) ?_
    refine gSc_text C hW (hwc hwX5) (mc qw_230) dX5_readSign_12 ?_
    refine lv_aload_n hx hb dX5_readSign_15 rfl (lv_at hl 0 rfl) ?_
    refine gSc_position C hW (hwc hwX5) (mc qw_233) dX5_readSign_16 ?_
    refine g_top (y := nI P) eP ?_
    refine g_txld C hW P (nI_clamp (by omega)) (vp_in_nI (show P < 60 by omega) (by decide)) dX5_readSign_19 ?_
    refine lv_iload_n hx hb dX5_readSign_20 rfl (lv_at hl 1 rfl) ?_
    refine lv_icmp_eq (tgt := 26) hx hb dX5_readSign_21 (by decide) (fun b_2 => ?_) (fun b_2 => ?_)
    · refine lv_aload_n hx hb dX5_readSign_26 rfl (lv_at hl 0 rfl) ?_
      refine lv_dup hx hb dX5_readSign_27 rfl ?_
      refine gSc_position C hW (hwc hwX5) (mc qw_233) dX5_readSign_28 ?_
      refine g_top (y := nI P) eP ?_
      refine lv_iconst (v := 1) hx hb dX5_readSign_31 (by decide) ?_
      refine lv_iadd hx hb dX5_readSign_32 ?_
      refine g_top (y := nI (P + 1)) (nI_add P 1) ?_
      refine gSc_positionP C hW hS (hwc hwX5) (mc qw_233) dX5_readSign_33 (fun H_3 locs_4 hW_5 hS_6 => ?_)
      obtain ⟨w_7, ew_7⟩ : ∃ Z9, Z9 = upd (X.1 11) (6) (nI (P + 1)) := ⟨_, rfl⟩
      have kn_8 : w_7 (5) = nI L := by rw [ew_7]; exact (pk_un (by omega)).trans eL
      have kn_9 : w_7 (6) = nI (P + 1) := by rw [ew_7]; exact pk_us
      have hW_10 : Wd G (setRow X 11 w_7) H_3 := Wd.cast (by rw [ew_7]; exact st_base) hW_5
      refine lv_iconst (v := 1) hx hb dX5_readSign_36 (by decide) ?_
      exact g_zret C hr hlk hW_10 hS_6 dX5_readSign_37 rfl (by subst ew_7; exact ⟨by simp only [rsV, b_1, b_2, if_true, if_false]; first | done | rfl, by simp only [rsV, b_1, b_2, if_true, if_false]; first | done | rfl⟩)
    · refine lv_iconst (v := 0) hx hb dX5_readSign_24 (by decide) ?_
      exact g_zret C hr hlk hW hS dX5_readSign_25 rfl (by exact ⟨by simp only [rsV, b_1, b_2, if_true, if_false]; first | done | rfl, by simp only [rsV, b_1, b_2, if_true, if_false]; exact (sr_same (upd_same eP)).symm⟩)

set_option maxHeartbeats 4000000 in
set_option maxRecDepth 100000 in
theorem cX5_digitFollows_ok (l : Launch) (G : GT) (X : St) (L P : Nat) (hL : L ≤ 60) (hP : P ≤ L) (eL : X.1 11 5 = nI L) (eP : X.1 11 6 = nI P) : MetI l G yX5_digitFollows (wsG yX5_digitFollows cX5_digitFollows 1 (some .boolean)) (rmz 0 0) [.ref (ad G 718)] X (fun res Y => res = digF (X.1 12) L P ∧ Y = X) := by
  refine g_met (cc := cX5_digitFollows) (maxL := 1) (ret := (some .boolean)) (by decide) rfl (Nat.le_of_ble_eq_true rfl) ?_
  intro p e s m below meth c ls C hr hlk hnm hW hl
  have hx := C.1.1
  have hb := C.1.2.1
  have hS : va_S (Ab G) s.heap s.heap [] := va_S.rf
  have hl : lv_has ls 1 [(0, .ref (ad G 718))] := hl
  refine lv_aload_n hx hb dX5_digitFollows_0 rfl (lv_at hl 0 rfl) ?_
  refine gSc_position C hW (hwc hwX5) (mc qw_233) dX5_digitFollows_1 ?_
  refine g_top (y := nI P) eP ?_
  refine lv_aload_n hx hb dX5_digitFollows_4 rfl (lv_at hl 0 rfl) ?_
  refine gSc_length C hW (hwc hwX5) (mc qw_231) dX5_digitFollows_5 ?_
  refine g_top (y := nI L) eL ?_
  refine lv_icmp_ge (tgt := 43) hx hb dX5_digitFollows_8 (by decide) (fun b_1 => ?_) (fun b_1 => ?_)
  · have fb_1 : L ≤ P := (nI_leI (a := L) (b := P) (by omega) (by omega)).mp b_1
    refine lv_iconst (v := 0) hx hb dX5_digitFollows_43 (by decide) ?_
    exact g_zret C hr hlk hW hS dX5_digitFollows_44 rfl (by exact ⟨by simp only [digF, b_1, if_true, if_false], rfl⟩)
  · have fb_1 : ¬ L ≤ P := fun q9 => b_1 ((nI_leI (a := L) (b := P) (by omega) (by omega)).mpr q9)
    refine lv_aload_n hx hb dX5_digitFollows_11 rfl (lv_at hl 0 rfl) ?_
    refine gSc_text C hW (hwc hwX5) (mc qw_230) dX5_digitFollows_12 ?_
    refine lv_aload_n hx hb dX5_digitFollows_15 rfl (lv_at hl 0 rfl) ?_
    refine gSc_position C hW (hwc hwX5) (mc qw_233) dX5_digitFollows_16 ?_
    refine g_top (y := nI P) eP ?_
    refine g_txld C hW P (nI_clamp (by omega)) (vp_in_nI (show P < 60 by omega) (by decide)) dX5_digitFollows_19 ?_
    refine lv_bipush (v := 48) hx hb dX5_digitFollows_20 (by decide) ?_
    refine lv_icmp_lt (tgt := 43) hx hb dX5_digitFollows_22 (by decide) (fun b_2 => ?_) (fun b_2 => ?_)
    · refine lv_iconst (v := 0) hx hb dX5_digitFollows_43 (by decide) ?_
      exact g_zret C hr hlk hW hS dX5_digitFollows_44 rfl (by exact ⟨by simp only [digF, b_1, b_2, if_true, if_false], rfl⟩)
    · refine lv_aload_n hx hb dX5_digitFollows_25 rfl (lv_at hl 0 rfl) ?_
      refine gSc_text C hW (hwc hwX5) (mc qw_230) dX5_digitFollows_26 ?_
      refine lv_aload_n hx hb dX5_digitFollows_29 rfl (lv_at hl 0 rfl) ?_
      refine gSc_position C hW (hwc hwX5) (mc qw_233) dX5_digitFollows_30 ?_
      refine g_top (y := nI P) eP ?_
      refine g_txld C hW P (nI_clamp (by omega)) (vp_in_nI (show P < 60 by omega) (by decide)) dX5_digitFollows_33 ?_
      refine lv_bipush (v := 57) hx hb dX5_digitFollows_34 (by decide) ?_
      refine lv_icmp_gt (tgt := 43) hx hb dX5_digitFollows_36 (by decide) (fun b_3 => ?_) (fun b_3 => ?_)
      · refine lv_iconst (v := 0) hx hb dX5_digitFollows_43 (by decide) ?_
        exact g_zret C hr hlk hW hS dX5_digitFollows_44 rfl (by exact ⟨by simp only [digF, b_1, b_2, b_3, if_true, if_false], rfl⟩)
      · refine lv_iconst (v := 1) hx hb dX5_digitFollows_39 (by decide) ?_
        refine lv_goto (tgt := 44) hx hb dX5_digitFollows_40 (by decide) ?_
        exact g_zret C hr hlk hW hS dX5_digitFollows_44 rfl (by exact ⟨by simp only [digF, b_1, b_2, b_3, if_true, if_false], rfl⟩)

set_option maxHeartbeats 4000000 in
set_option maxRecDepth 100000 in
theorem cX5_readNumber1_ok (l : Launch) (G : GT) (X : St) (L P : Nat) (hL : L ≤ 60) (hP : P ≤ L) (eL : X.1 11 5 = nI L) (eP : X.1 11 6 = nI P) : MetI l G yX5_readNumber (wsG yX5_readNumber cX5_readNumber 4 (some .int)) (rmz 1 40) [.ref (ad G 718), .int 1] X (fun res Y => res = (numL (X.1 12) L 1 P (-1)).2 ∧ Y = setRow X 11 (upd (X.1 11) (6) (nI (numL (X.1 12) L 1 P (-1)).1))) := by
  refine g_met (cc := cX5_readNumber) (maxL := 4) (ret := (some .int)) (by decide) rfl (Nat.le_of_ble_eq_true rfl) ?_
  intro p e s m below meth c ls C hr hlk hnm hW hl
  have hx := C.1.1
  have hb := C.1.2.1
  have hS : va_S (Ab G) s.heap s.heap [] := va_S.rf
  have hl : lv_has ls 4 [(0, .ref (ad G 718)), (1, .int 1)] := hl
  refine lv_iconst (v := (-1)) hx hb dX5_readNumber_0 (by decide) ?_
  refine lv_istore_n (lv' := [(2, .int (-1)), (0, .ref (ad G 718)), (1, .int 1)]) hx hb dX5_readNumber_1 rfl hl (by decide) rfl (fun ls_1 hl_2 => ?_)
  refine lv_iconst (v := 0) hx hb dX5_readNumber_2 (by decide) ?_
  refine lv_istore_n (lv' := [(3, .int 0), (2, .int (-1)), (0, .ref (ad G 718)), (1, .int 1)]) hx hb dX5_readNumber_3 rfl hl_2 (by decide) rfl (fun ls_3 hl_4 => ?_)
  refine lv_iload_n hx hb dX5_readNumber_4 rfl (lv_at hl_4 0 rfl) ?_
  refine lv_iload_n hx hb dX5_readNumber_5 rfl (lv_at hl_4 3 rfl) ?_
  refine lv_icmp_ge (tgt := 54) hx hb dX5_readNumber_6 (by decide) (fun h9 => absurd h9 (by decide)) (fun _ => ?_)
  refine lv_aload_n hx hb dX5_readNumber_9 rfl (lv_at hl_4 2 rfl) ?_
  refine g_calli (va_runV (As := []) (rest := []) C.1 (cX5_digitFollows_ok l G X L P hL (by omega) eL eP) (cwV 0 C.1.2.2.2.2 (gV qw_1411 qw_1413 qw_27 qw_76 qw_1414) rfl rfl rfl (by decide +kernel) ⟨Nat.le_of_ble_eq_true rfl, Nat.le_of_ble_eq_true rfl⟩) (g_rScript C hW hS []) rfl rfl hl_4.1 rfl (lv_room (Nat.le_of_ble_eq_true rfl)) dX5_readNumber_10 ⟨Nat.zero_le _, Nat.zero_le _⟩) hS (fun r_6 Y_7 H_8 locs_9 hW_10 hS_11 h_5 => ?_)
  obtain ⟨h_5, hy_12⟩ := h_5
  replace hy_12 := hy_12.symm
  subst hy_12
  replace h_5 : r_6 = digF (X.1 12) L P := h_5
  subst h_5
  refine lv_if_eq (tgt := 54) hx hb dX5_readNumber_13 (by decide) (fun b_13 => ?_) (fun b_13 => ?_)
  · refine lv_iload_n hx hb dX5_readNumber_54 rfl (lv_at hl_4 1 rfl) ?_
    exact g_iret C hr hlk hW_10 hS_11 dX5_readNumber_55 (by exact ⟨by simp only [numL, imax, Nat.add_assoc, Nat.reduceAdd, uu6, b_13, if_true, if_false]; first | done | rfl, by simp only [numL, imax, Nat.add_assoc, Nat.reduceAdd, uu6, b_13, if_true, if_false]; exact (sr_same (upd_same eP)).symm⟩)
  · have fb_13 : P < L := digF_lt (by omega) (by omega) b_13
    refine lv_iload_n hx hb dX5_readNumber_16 rfl (lv_at hl_4 1 rfl) ?_
    refine lv_iconst (v := 0) hx hb dX5_readNumber_17 (by decide) ?_
    refine va_mmax C.1.1 C.1.2.1 (C.1.2.2.1.trans hl_4.1.symm) C.1.2.2.2.1 (C.1.2.2.2.2 _ (mc qw_1389)) (C.1.2.2.2.2 _ (mc qwx_static)) (C.1.2.2.2.2 _ (mc qwm_init)) (C.1.2.2.2.2 _ (mc qwx_code)) (Nat.le_of_ble_eq_true rfl) (Nat.le_of_ble_eq_true rfl) (Nat.zero_le _) (Nat.zero_le _) dX5_readNumber_18 ?_
    refine lv_bipush (v := 10) hx hb dX5_readNumber_21 (by decide) ?_
    refine lv_imul hx hb dX5_readNumber_23 ?_
    refine lv_aload_n hx hb dX5_readNumber_24 rfl (lv_at hl_4 2 rfl) ?_
    refine gSc_text C hW_10 (hwc hwX5) (mc qw_230) dX5_readNumber_25 ?_
    refine lv_aload_n hx hb dX5_readNumber_28 rfl (lv_at hl_4 2 rfl) ?_
    refine gSc_position C hW_10 (hwc hwX5) (mc qw_233) dX5_readNumber_29 ?_
    refine g_top (y := nI P) eP ?_
    refine g_txld C hW_10 P (nI_clamp (by omega)) (vp_in_nI (show P < 60 by omega) (by decide)) dX5_readNumber_32 ?_
    refine lv_bipush (v := 48) hx hb dX5_readNumber_33 (by decide) ?_
    refine lv_isub hx hb dX5_readNumber_35 ?_
    refine lv_iadd hx hb dX5_readNumber_36 ?_
    refine lv_topi (fun v_14 ev_14 => ?_)
    refine lv_istore_n (lv' := [(2, .int v_14), (3, .int 0), (0, .ref (ad G 718)), (1, .int 1)]) hx hb dX5_readNumber_37 rfl hl_4 (by decide) rfl (fun ls_15 hl_16 => ?_)
    refine lv_aload_n hx hb dX5_readNumber_38 rfl (lv_at hl_16 2 rfl) ?_
    refine lv_dup hx hb dX5_readNumber_39 rfl ?_
    refine gSc_position C hW_10 (hwc hwX5) (mc qw_233) dX5_readNumber_40 ?_
    refine g_top (y := nI P) eP ?_
    refine lv_iconst (v := 1) hx hb dX5_readNumber_43 (by decide) ?_
    refine lv_iadd hx hb dX5_readNumber_44 ?_
    refine g_top (y := nI (P + 1)) (nI_add P 1) ?_
    refine gSc_positionP C hW_10 hS_11 (hwc hwX5) (mc qw_233) dX5_readNumber_45 (fun H_17 locs_18 hW_19 hS_20 => ?_)
    obtain ⟨w_21, ew_21⟩ : ∃ Z9, Z9 = upd (X.1 11) (6) (nI (P + 1)) := ⟨_, rfl⟩
    have kn_22 : w_21 (5) = nI L := by rw [ew_21]; exact (pk_un (by omega)).trans eL
    have kn_23 : w_21 (6) = nI (P + 1) := by rw [ew_21]; exact pk_us
    have hW_24 : Wd G (setRow X 11 w_21) H_17 := Wd.cast (by rw [ew_21]; exact st_base) hW_19
    refine lv_iinc (v := 1) (lv' := [(3, .int 1), (2, .int v_14), (0, .ref (ad G 718)), (1, .int 1)]) hx hb dX5_readNumber_48 hl_16 (k := 1) rfl (by decide) (by decide) rfl (fun ls_25 hl_26 => ?_)
    refine lv_goto (tgt := 4) hx hb dX5_readNumber_51 (by decide) ?_
    refine lv_iload_n hx hb dX5_readNumber_4 rfl (lv_at hl_26 0 rfl) ?_
    refine lv_iload_n hx hb dX5_readNumber_5 rfl (lv_at hl_26 3 rfl) ?_
    refine lv_icmp_ge (tgt := 54) hx hb dX5_readNumber_6 (by decide) (fun _ => ?_) (fun h9 => absurd h9 (by decide))
    refine lv_iload_n hx hb dX5_readNumber_54 rfl (lv_at hl_26 1 rfl) ?_
    exact g_iret C hr hlk hW_24 hS_20 dX5_readNumber_55 (by subst ew_21; subst ev_14; exact ⟨by simp only [numL, imax, Nat.add_assoc, Nat.reduceAdd, uu6, b_13, if_true, if_false]; first | done | rfl, by simp only [numL, imax, Nat.add_assoc, Nat.reduceAdd, uu6, b_13, if_true, if_false]; first | done | rfl⟩)

set_option maxHeartbeats 4000000 in
set_option maxRecDepth 100000 in
theorem cX5_readNumber3_ok (l : Launch) (G : GT) (X : St) (L P : Nat) (hL : L ≤ 60) (hP : P ≤ L) (eL : X.1 11 5 = nI L) (eP : X.1 11 6 = nI P) : MetI l G yX5_readNumber (wsG yX5_readNumber cX5_readNumber 4 (some .int)) (rmz 1 40) [.ref (ad G 718), .int 3] X (fun res Y => res = (numL (X.1 12) L 3 P (-1)).2 ∧ Y = setRow X 11 (upd (X.1 11) (6) (nI (numL (X.1 12) L 3 P (-1)).1))) := by
  refine g_met (cc := cX5_readNumber) (maxL := 4) (ret := (some .int)) (by decide) rfl (Nat.le_of_ble_eq_true rfl) ?_
  intro p e s m below meth c ls C hr hlk hnm hW hl
  have hx := C.1.1
  have hb := C.1.2.1
  have hS : va_S (Ab G) s.heap s.heap [] := va_S.rf
  have hl : lv_has ls 4 [(0, .ref (ad G 718)), (1, .int 3)] := hl
  refine lv_iconst (v := (-1)) hx hb dX5_readNumber_0 (by decide) ?_
  refine lv_istore_n (lv' := [(2, .int (-1)), (0, .ref (ad G 718)), (1, .int 3)]) hx hb dX5_readNumber_1 rfl hl (by decide) rfl (fun ls_1 hl_2 => ?_)
  refine lv_iconst (v := 0) hx hb dX5_readNumber_2 (by decide) ?_
  refine lv_istore_n (lv' := [(3, .int 0), (2, .int (-1)), (0, .ref (ad G 718)), (1, .int 3)]) hx hb dX5_readNumber_3 rfl hl_2 (by decide) rfl (fun ls_3 hl_4 => ?_)
  refine lv_iload_n hx hb dX5_readNumber_4 rfl (lv_at hl_4 0 rfl) ?_
  refine lv_iload_n hx hb dX5_readNumber_5 rfl (lv_at hl_4 3 rfl) ?_
  refine lv_icmp_ge (tgt := 54) hx hb dX5_readNumber_6 (by decide) (fun h9 => absurd h9 (by decide)) (fun _ => ?_)
  refine lv_aload_n hx hb dX5_readNumber_9 rfl (lv_at hl_4 2 rfl) ?_
  refine g_calli (va_runV (As := []) (rest := []) C.1 (cX5_digitFollows_ok l G X L P hL (by omega) eL eP) (cwV 0 C.1.2.2.2.2 (gV qw_1411 qw_1413 qw_27 qw_76 qw_1414) rfl rfl rfl (by decide +kernel) ⟨Nat.le_of_ble_eq_true rfl, Nat.le_of_ble_eq_true rfl⟩) (g_rScript C hW hS []) rfl rfl hl_4.1 rfl (lv_room (Nat.le_of_ble_eq_true rfl)) dX5_readNumber_10 ⟨Nat.zero_le _, Nat.zero_le _⟩) hS (fun r_6 Y_7 H_8 locs_9 hW_10 hS_11 h_5 => ?_)
  obtain ⟨h_5, hy_12⟩ := h_5
  replace hy_12 := hy_12.symm
  subst hy_12
  replace h_5 : r_6 = digF (X.1 12) L P := h_5
  subst h_5
  refine lv_if_eq (tgt := 54) hx hb dX5_readNumber_13 (by decide) (fun b_13 => ?_) (fun b_13 => ?_)
  · refine lv_iload_n hx hb dX5_readNumber_54 rfl (lv_at hl_4 1 rfl) ?_
    exact g_iret C hr hlk hW_10 hS_11 dX5_readNumber_55 (by exact ⟨by simp only [numL, imax, Nat.add_assoc, Nat.reduceAdd, uu6, b_13, if_true, if_false]; first | done | rfl, by simp only [numL, imax, Nat.add_assoc, Nat.reduceAdd, uu6, b_13, if_true, if_false]; exact (sr_same (upd_same eP)).symm⟩)
  · have fb_13 : P < L := digF_lt (by omega) (by omega) b_13
    refine lv_iload_n hx hb dX5_readNumber_16 rfl (lv_at hl_4 1 rfl) ?_
    refine lv_iconst (v := 0) hx hb dX5_readNumber_17 (by decide) ?_
    refine va_mmax C.1.1 C.1.2.1 (C.1.2.2.1.trans hl_4.1.symm) C.1.2.2.2.1 (C.1.2.2.2.2 _ (mc qw_1389)) (C.1.2.2.2.2 _ (mc qwx_static)) (C.1.2.2.2.2 _ (mc qwm_init)) (C.1.2.2.2.2 _ (mc qwx_code)) (Nat.le_of_ble_eq_true rfl) (Nat.le_of_ble_eq_true rfl) (Nat.zero_le _) (Nat.zero_le _) dX5_readNumber_18 ?_
    refine lv_bipush (v := 10) hx hb dX5_readNumber_21 (by decide) ?_
    refine lv_imul hx hb dX5_readNumber_23 ?_
    refine lv_aload_n hx hb dX5_readNumber_24 rfl (lv_at hl_4 2 rfl) ?_
    refine gSc_text C hW_10 (hwc hwX5) (mc qw_230) dX5_readNumber_25 ?_
    refine lv_aload_n hx hb dX5_readNumber_28 rfl (lv_at hl_4 2 rfl) ?_
    refine gSc_position C hW_10 (hwc hwX5) (mc qw_233) dX5_readNumber_29 ?_
    refine g_top (y := nI P) eP ?_
    refine g_txld C hW_10 P (nI_clamp (by omega)) (vp_in_nI (show P < 60 by omega) (by decide)) dX5_readNumber_32 ?_
    refine lv_bipush (v := 48) hx hb dX5_readNumber_33 (by decide) ?_
    refine lv_isub hx hb dX5_readNumber_35 ?_
    refine lv_iadd hx hb dX5_readNumber_36 ?_
    refine lv_topi (fun v_14 ev_14 => ?_)
    refine lv_istore_n (lv' := [(2, .int v_14), (3, .int 0), (0, .ref (ad G 718)), (1, .int 3)]) hx hb dX5_readNumber_37 rfl hl_4 (by decide) rfl (fun ls_15 hl_16 => ?_)
    refine lv_aload_n hx hb dX5_readNumber_38 rfl (lv_at hl_16 2 rfl) ?_
    refine lv_dup hx hb dX5_readNumber_39 rfl ?_
    refine gSc_position C hW_10 (hwc hwX5) (mc qw_233) dX5_readNumber_40 ?_
    refine g_top (y := nI P) eP ?_
    refine lv_iconst (v := 1) hx hb dX5_readNumber_43 (by decide) ?_
    refine lv_iadd hx hb dX5_readNumber_44 ?_
    refine g_top (y := nI (P + 1)) (nI_add P 1) ?_
    refine gSc_positionP C hW_10 hS_11 (hwc hwX5) (mc qw_233) dX5_readNumber_45 (fun H_17 locs_18 hW_19 hS_20 => ?_)
    obtain ⟨w_21, ew_21⟩ : ∃ Z9, Z9 = upd (X.1 11) (6) (nI (P + 1)) := ⟨_, rfl⟩
    have kn_22 : w_21 (5) = nI L := by rw [ew_21]; exact (pk_un (by omega)).trans eL
    have kn_23 : w_21 (6) = nI (P + 1) := by rw [ew_21]; exact pk_us
    have hW_24 : Wd G (setRow X 11 w_21) H_17 := Wd.cast (by rw [ew_21]; exact st_base) hW_19
    refine lv_iinc (v := 1) (lv' := [(3, .int 1), (2, .int v_14), (0, .ref (ad G 718)), (1, .int 3)]) hx hb dX5_readNumber_48 hl_16 (k := 1) rfl (by decide) (by decide) rfl (fun ls_25 hl_26 => ?_)
    refine lv_goto (tgt := 4) hx hb dX5_readNumber_51 (by decide) ?_
    refine lv_iload_n hx hb dX5_readNumber_4 rfl (lv_at hl_26 0 rfl) ?_
    refine lv_iload_n hx hb dX5_readNumber_5 rfl (lv_at hl_26 3 rfl) ?_
    refine lv_icmp_ge (tgt := 54) hx hb dX5_readNumber_6 (by decide) (fun h9 => absurd h9 (by decide)) (fun _ => ?_)
    refine lv_aload_n hx hb dX5_readNumber_9 rfl (lv_at hl_26 2 rfl) ?_
    refine g_calli (va_runV (As := []) (rest := []) C.1 (cX5_digitFollows_ok l G (setRow X 11 w_21) L (P + 1) hL (by omega) ((congrFun rd_out _).trans kn_22) ((congrFun rd_out _).trans kn_23)) (cwV 0 C.1.2.2.2.2 (gV qw_1411 qw_1413 qw_27 qw_76 qw_1414) rfl rfl rfl (by decide +kernel) ⟨Nat.le_of_ble_eq_true rfl, Nat.le_of_ble_eq_true rfl⟩) (g_rScript C hW_24 hS_20 []) rfl rfl hl_26.1 rfl (lv_room (Nat.le_of_ble_eq_true rfl)) dX5_readNumber_10 ⟨Nat.zero_le _, Nat.zero_le _⟩) hS_20 (fun r_28 Y_29 H_30 locs_31 hW_32 hS_33 h_27 => ?_)
    obtain ⟨h_27, hy_34⟩ := h_27
    replace hy_34 := hy_34.symm
    subst hy_34
    replace h_27 : r_28 = digF (X.1 12) L (P + 1) := h_27
    subst h_27
    refine lv_if_eq (tgt := 54) hx hb dX5_readNumber_13 (by decide) (fun b_35 => ?_) (fun b_35 => ?_)
    · refine lv_iload_n hx hb dX5_readNumber_54 rfl (lv_at hl_26 1 rfl) ?_
      exact g_iret C hr hlk hW_32 hS_33 dX5_readNumber_55 (by subst ew_21; subst ev_14; exact ⟨by simp only [numL, imax, Nat.add_assoc, Nat.reduceAdd, uu6, b_13, b_35, if_true, if_false]; first | done | rfl, by simp only [numL, imax, Nat.add_assoc, Nat.reduceAdd, uu6, b_13, b_35, if_true, if_false]; first | done | rfl⟩)
    · have fb_35 : (P + 1) < L := digF_lt (by omega) (by omega) b_35
      refine lv_iload_n hx hb dX5_readNumber_16 rfl (lv_at hl_26 1 rfl) ?_
      refine lv_iconst (v := 0) hx hb dX5_readNumber_17 (by decide) ?_
      refine va_mmax C.1.1 C.1.2.1 (C.1.2.2.1.trans hl_26.1.symm) C.1.2.2.2.1 (C.1.2.2.2.2 _ (mc qw_1389)) (C.1.2.2.2.2 _ (mc qwx_static)) (C.1.2.2.2.2 _ (mc qwm_init)) (C.1.2.2.2.2 _ (mc qwx_code)) (Nat.le_of_ble_eq_true rfl) (Nat.le_of_ble_eq_true rfl) (Nat.zero_le _) (Nat.zero_le _) dX5_readNumber_18 ?_
      refine lv_bipush (v := 10) hx hb dX5_readNumber_21 (by decide) ?_
      refine lv_imul hx hb dX5_readNumber_23 ?_
      refine lv_aload_n hx hb dX5_readNumber_24 rfl (lv_at hl_26 2 rfl) ?_
      refine gSc_text C hW_32 (hwc hwX5) (mc qw_230) dX5_readNumber_25 ?_
      refine lv_aload_n hx hb dX5_readNumber_28 rfl (lv_at hl_26 2 rfl) ?_
      refine gSc_position C hW_32 (hwc hwX5) (mc qw_233) dX5_readNumber_29 ?_
      refine g_top (y := w_21 (6)) (congrFun rd_out _) ?_
      refine g_top (y := nI (P + 1)) kn_23 ?_
      refine g_txld C hW_32 (P + 1) (nI_clamp (by omega)) (vp_in_nI (show P + 1 < 60 by omega) (by decide)) dX5_readNumber_32 ?_
      refine g_top (y := X.1 12 (P + 1)) (congrFun (rd_in (by decide) rfl) _) ?_
      refine lv_bipush (v := 48) hx hb dX5_readNumber_33 (by decide) ?_
      refine lv_isub hx hb dX5_readNumber_35 ?_
      refine lv_iadd hx hb dX5_readNumber_36 ?_
      refine lv_topi (fun v_36 ev_36 => ?_)
      refine lv_istore_n (lv' := [(2, .int v_36), (3, .int 1), (0, .ref (ad G 718)), (1, .int 3)]) hx hb dX5_readNumber_37 rfl hl_26 (by decide) rfl (fun ls_37 hl_38 => ?_)
      refine lv_aload_n hx hb dX5_readNumber_38 rfl (lv_at hl_38 2 rfl) ?_
      refine lv_dup hx hb dX5_readNumber_39 rfl ?_
      refine gSc_position C hW_32 (hwc hwX5) (mc qw_233) dX5_readNumber_40 ?_
      refine g_top (y := w_21 (6)) (congrFun rd_out _) ?_
      refine g_top (y := nI (P + 1)) kn_23 ?_
      refine lv_iconst (v := 1) hx hb dX5_readNumber_43 (by decide) ?_
      refine lv_iadd hx hb dX5_readNumber_44 ?_
      refine g_top (y := nI (P + 1 + 1)) (nI_add (P + 1) 1) ?_
      refine gSc_positionP C hW_32 hS_33 (hwc hwX5) (mc qw_233) dX5_readNumber_45 (fun H_39 locs_40 hW_41 hS_42 => ?_)
      obtain ⟨w_43, ew_43⟩ : ∃ Z9, Z9 = upd w_21 (6) (nI (P + 1 + 1)) := ⟨_, rfl⟩
      have kn_44 : w_43 (5) = nI L := by rw [ew_43]; exact (pk_un (by omega)).trans kn_22
      have kn_45 : w_43 (6) = nI (P + 1 + 1) := by rw [ew_43]; exact pk_us
      have hW_46 : Wd G (setRow X 11 w_43) H_39 := Wd.cast (by rw [ew_43]; exact st_out) hW_41
      refine lv_iinc (v := 2) (lv' := [(3, .int 2), (2, .int v_36), (0, .ref (ad G 718)), (1, .int 3)]) hx hb dX5_readNumber_48 hl_38 (k := 1) rfl (by decide) (by decide) rfl (fun ls_47 hl_48 => ?_)
      refine lv_goto (tgt := 4) hx hb dX5_readNumber_51 (by decide) ?_
      refine lv_iload_n hx hb dX5_readNumber_4 rfl (lv_at hl_48 0 rfl) ?_
      refine lv_iload_n hx hb dX5_readNumber_5 rfl (lv_at hl_48 3 rfl) ?_
      refine lv_icmp_ge (tgt := 54) hx hb dX5_readNumber_6 (by decide) (fun h9 => absurd h9 (by decide)) (fun _ => ?_)
      refine lv_aload_n hx hb dX5_readNumber_9 rfl (lv_at hl_48 2 rfl) ?_
      refine g_calli (va_runV (As := []) (rest := []) C.1 (cX5_digitFollows_ok l G (setRow X 11 w_43) L (P + 1 + 1) hL (by omega) ((congrFun rd_out _).trans kn_44) ((congrFun rd_out _).trans kn_45)) (cwV 0 C.1.2.2.2.2 (gV qw_1411 qw_1413 qw_27 qw_76 qw_1414) rfl rfl rfl (by decide +kernel) ⟨Nat.le_of_ble_eq_true rfl, Nat.le_of_ble_eq_true rfl⟩) (g_rScript C hW_46 hS_42 []) rfl rfl hl_48.1 rfl (lv_room (Nat.le_of_ble_eq_true rfl)) dX5_readNumber_10 ⟨Nat.zero_le _, Nat.zero_le _⟩) hS_42 (fun r_50 Y_51 H_52 locs_53 hW_54 hS_55 h_49 => ?_)
      obtain ⟨h_49, hy_56⟩ := h_49
      replace hy_56 := hy_56.symm
      subst hy_56
      replace h_49 : r_50 = digF (X.1 12) L (P + 1 + 1) := h_49
      subst h_49
      refine lv_if_eq (tgt := 54) hx hb dX5_readNumber_13 (by decide) (fun b_57 => ?_) (fun b_57 => ?_)
      · refine lv_iload_n hx hb dX5_readNumber_54 rfl (lv_at hl_48 1 rfl) ?_
        exact g_iret C hr hlk hW_54 hS_55 dX5_readNumber_55 (by subst ew_43; subst ev_36; subst ew_21; subst ev_14; exact ⟨by simp only [numL, imax, Nat.add_assoc, Nat.reduceAdd, uu6, b_13, b_35, b_57, if_true, if_false]; first | done | rfl, by simp only [numL, imax, Nat.add_assoc, Nat.reduceAdd, uu6, b_13, b_35, b_57, if_true, if_false]; first | done | rfl⟩)
      · have fb_57 : (P + 1 + 1) < L := digF_lt (by omega) (by omega) b_57
        refine lv_iload_n hx hb dX5_readNumber_16 rfl (lv_at hl_48 1 rfl) ?_
        refine lv_iconst (v := 0) hx hb dX5_readNumber_17 (by decide) ?_
        refine va_mmax C.1.1 C.1.2.1 (C.1.2.2.1.trans hl_48.1.symm) C.1.2.2.2.1 (C.1.2.2.2.2 _ (mc qw_1389)) (C.1.2.2.2.2 _ (mc qwx_static)) (C.1.2.2.2.2 _ (mc qwm_init)) (C.1.2.2.2.2 _ (mc qwx_code)) (Nat.le_of_ble_eq_true rfl) (Nat.le_of_ble_eq_true rfl) (Nat.zero_le _) (Nat.zero_le _) dX5_readNumber_18 ?_
        refine lv_bipush (v := 10) hx hb dX5_readNumber_21 (by decide) ?_
        refine lv_imul hx hb dX5_readNumber_23 ?_
        refine lv_aload_n hx hb dX5_readNumber_24 rfl (lv_at hl_48 2 rfl) ?_
        refine gSc_text C hW_54 (hwc hwX5) (mc qw_230) dX5_readNumber_25 ?_
        refine lv_aload_n hx hb dX5_readNumber_28 rfl (lv_at hl_48 2 rfl) ?_
        refine gSc_position C hW_54 (hwc hwX5) (mc qw_233) dX5_readNumber_29 ?_
        refine g_top (y := w_43 (6)) (congrFun rd_out _) ?_
        refine g_top (y := nI (P + 1 + 1)) kn_45 ?_
        refine g_txld C hW_54 (P + 1 + 1) (nI_clamp (by omega)) (vp_in_nI (show P + 1 + 1 < 60 by omega) (by decide)) dX5_readNumber_32 ?_
        refine g_top (y := X.1 12 (P + 1 + 1)) (congrFun (rd_in (by decide) rfl) _) ?_
        refine lv_bipush (v := 48) hx hb dX5_readNumber_33 (by decide) ?_
        refine lv_isub hx hb dX5_readNumber_35 ?_
        refine lv_iadd hx hb dX5_readNumber_36 ?_
        refine lv_topi (fun v_58 ev_58 => ?_)
        refine lv_istore_n (lv' := [(2, .int v_58), (3, .int 2), (0, .ref (ad G 718)), (1, .int 3)]) hx hb dX5_readNumber_37 rfl hl_48 (by decide) rfl (fun ls_59 hl_60 => ?_)
        refine lv_aload_n hx hb dX5_readNumber_38 rfl (lv_at hl_60 2 rfl) ?_
        refine lv_dup hx hb dX5_readNumber_39 rfl ?_
        refine gSc_position C hW_54 (hwc hwX5) (mc qw_233) dX5_readNumber_40 ?_
        refine g_top (y := w_43 (6)) (congrFun rd_out _) ?_
        refine g_top (y := nI (P + 1 + 1)) kn_45 ?_
        refine lv_iconst (v := 1) hx hb dX5_readNumber_43 (by decide) ?_
        refine lv_iadd hx hb dX5_readNumber_44 ?_
        refine g_top (y := nI (P + 1 + 1 + 1)) (nI_add (P + 1 + 1) 1) ?_
        refine gSc_positionP C hW_54 hS_55 (hwc hwX5) (mc qw_233) dX5_readNumber_45 (fun H_61 locs_62 hW_63 hS_64 => ?_)
        obtain ⟨w_65, ew_65⟩ : ∃ Z9, Z9 = upd w_43 (6) (nI (P + 1 + 1 + 1)) := ⟨_, rfl⟩
        have kn_66 : w_65 (5) = nI L := by rw [ew_65]; exact (pk_un (by omega)).trans kn_44
        have kn_67 : w_65 (6) = nI (P + 1 + 1 + 1) := by rw [ew_65]; exact pk_us
        have hW_68 : Wd G (setRow X 11 w_65) H_61 := Wd.cast (by rw [ew_65]; exact st_out) hW_63
        refine lv_iinc (v := 3) (lv' := [(3, .int 3), (2, .int v_58), (0, .ref (ad G 718)), (1, .int 3)]) hx hb dX5_readNumber_48 hl_60 (k := 1) rfl (by decide) (by decide) rfl (fun ls_69 hl_70 => ?_)
        refine lv_goto (tgt := 4) hx hb dX5_readNumber_51 (by decide) ?_
        refine lv_iload_n hx hb dX5_readNumber_4 rfl (lv_at hl_70 0 rfl) ?_
        refine lv_iload_n hx hb dX5_readNumber_5 rfl (lv_at hl_70 3 rfl) ?_
        refine lv_icmp_ge (tgt := 54) hx hb dX5_readNumber_6 (by decide) (fun _ => ?_) (fun h9 => absurd h9 (by decide))
        refine lv_iload_n hx hb dX5_readNumber_54 rfl (lv_at hl_70 1 rfl) ?_
        exact g_iret C hr hlk hW_68 hS_64 dX5_readNumber_55 (by subst ew_65; subst ev_58; subst ew_43; subst ev_36; subst ew_21; subst ev_14; exact ⟨by simp only [numL, imax, Nat.add_assoc, Nat.reduceAdd, uu6, b_13, b_35, b_57, if_true, if_false]; first | done | rfl, by simp only [numL, imax, Nat.add_assoc, Nat.reduceAdd, uu6, b_13, b_35, b_57, if_true, if_false]; first | done | rfl⟩)

set_option maxHeartbeats 4000000 in
set_option maxRecDepth 100000 in
theorem cX5_readMaterial_ok (l : Launch) (G : GT) (X : St) (L P : Nat) (hL : L ≤ 60) (hP : P ≤ L) (eL : X.1 11 5 = nI L) (eP : X.1 11 6 = nI P) : MetI l G yX5_readMaterial (wsG yX5_readMaterial cX5_readMaterial 1 (some .int)) (rmz 1 21) [.ref (ad G 718)] X (fun res Y => res = (rmV (X.1 12) L P).2 ∧ Y = setRow X 11 (upd (X.1 11) (6) (nI (rmV (X.1 12) L P).1))) := by
  refine g_met (cc := cX5_readMaterial) (maxL := 1) (ret := (some .int)) (by decide) rfl (Nat.le_of_ble_eq_true rfl) ?_
  intro p e s m below meth c ls C hr hlk hnm hW hl
  have hx := C.1.1
  have hb := C.1.2.1
  have hS : va_S (Ab G) s.heap s.heap [] := va_S.rf
  have hl : lv_has ls 1 [(0, .ref (ad G 718))] := hl
  refine lv_aload_n hx hb dX5_readMaterial_0 rfl (lv_at hl 0 rfl) ?_
  refine gSc_position C hW (hwc hwX5) (mc qw_233) dX5_readMaterial_1 ?_
  refine g_top (y := nI P) eP ?_
  refine lv_aload_n hx hb dX5_readMaterial_4 rfl (lv_at hl 0 rfl) ?_
  refine gSc_length C hW (hwc hwX5) (mc qw_231) dX5_readMaterial_5 ?_
  refine g_top (y := nI L) eL ?_
  refine lv_icmp_ge (tgt := 27) hx hb dX5_readMaterial_8 (by decide) (fun b_1 => ?_) (fun b_1 => ?_)
  · have fb_1 : L ≤ P := (nI_leI (a := L) (b := P) (by omega) (by omega)).mp b_1
    refine lv_iconst (v := (-1)) hx hb dX5_readMaterial_27 (by decide) ?_
    exact g_iret C hr hlk hW hS dX5_readMaterial_28 (by exact ⟨by simp only [rmV, Nat.add_sub_cancel, b_1, if_true, if_false]; first | done | rfl, by simp only [rmV, Nat.add_sub_cancel, b_1, if_true, if_false]; exact (sr_same (upd_same eP)).symm⟩)
  · have fb_1 : ¬ L ≤ P := fun q9 => b_1 ((nI_leI (a := L) (b := P) (by omega) (by omega)).mpr q9)
    refine lv_aload_n hx hb dX5_readMaterial_11 rfl (lv_at hl 0 rfl) ?_
    refine gSc_text C hW (hwc hwX5) (mc qw_230) dX5_readMaterial_12 ?_
    refine lv_aload_n hx hb dX5_readMaterial_15 rfl (lv_at hl 0 rfl) ?_
    refine gSc_position C hW (hwc hwX5) (mc qw_233) dX5_readMaterial_16 ?_
    refine g_top (y := nI P) eP ?_
    refine g_txld C hW P (nI_clamp (by omega)) (vp_in_nI (show P < 60 by omega) (by decide)) dX5_readMaterial_19 ?_
    refine g_calli (va_runSN (As := [.int (X.1 12 (P))]) (rest := []) C.1 (cX7_materialOf_ok l G X (X.1 12 (P))) (⟨va_cnB 1 C.1.2.2.2.2 (gN qw_830) rfl rfl rfl (C.2.2.1.1 _ nw_32) (C.1.2.2.2.2 _ (mc qw_71)) (by decide +kernel) ⟨Nat.le_of_ble_eq_true rfl, Nat.le_of_ble_eq_true rfl⟩, C.1.2.2.2.2 _ (mc qw_829), trivial⟩) (g_pre C hW hS [.int (X.1 12 (P))]) rfl rfl hl.1 rfl (lv_room (Nat.le_of_ble_eq_true rfl)) dX5_readMaterial_20 ⟨Nat.zero_le _, Nat.zero_le _⟩) hS (fun r_3 Y_4 H_5 locs_6 hW_7 hS_8 h_2 => ?_)
    obtain ⟨h_2, hy_9⟩ := h_2
    replace hy_9 := hy_9.symm
    subst hy_9
    subst h_2
    refine lv_iconst (v := (-1)) hx hb dX5_readMaterial_23 (by decide) ?_
    refine lv_icmp_ne (tgt := 29) hx hb dX5_readMaterial_24 (by decide) (fun b_10 => ?_) (fun b_10 => ?_)
    · refine lv_aload_n hx hb dX5_readMaterial_29 rfl (lv_at hl 0 rfl) ?_
      refine lv_dup hx hb dX5_readMaterial_30 rfl ?_
      refine gSc_position C hW_7 (hwc hwX5) (mc qw_233) dX5_readMaterial_31 ?_
      refine g_top (y := nI P) eP ?_
      refine lv_iconst (v := 1) hx hb dX5_readMaterial_34 (by decide) ?_
      refine lv_iadd hx hb dX5_readMaterial_35 ?_
      refine g_top (y := nI (P + 1)) (nI_add P 1) ?_
      refine gSc_positionP C hW_7 hS_8 (hwc hwX5) (mc qw_233) dX5_readMaterial_36 (fun H_11 locs_12 hW_13 hS_14 => ?_)
      obtain ⟨w_15, ew_15⟩ : ∃ Z9, Z9 = upd (X.1 11) (6) (nI (P + 1)) := ⟨_, rfl⟩
      have kn_16 : w_15 (5) = nI L := by rw [ew_15]; exact (pk_un (by omega)).trans eL
      have kn_17 : w_15 (6) = nI (P + 1) := by rw [ew_15]; exact pk_us
      have hW_18 : Wd G (setRow X 11 w_15) H_11 := Wd.cast (by rw [ew_15]; exact st_base) hW_13
      refine lv_aload_n hx hb dX5_readMaterial_39 rfl (lv_at hl 0 rfl) ?_
      refine gSc_text C hW_18 (hwc hwX5) (mc qw_230) dX5_readMaterial_40 ?_
      refine lv_aload_n hx hb dX5_readMaterial_43 rfl (lv_at hl 0 rfl) ?_
      refine gSc_position C hW_18 (hwc hwX5) (mc qw_233) dX5_readMaterial_44 ?_
      refine g_top (y := w_15 (6)) (congrFun rd_out _) ?_
      refine g_top (y := nI (P + 1)) kn_17 ?_
      refine lv_iconst (v := 1) hx hb dX5_readMaterial_47 (by decide) ?_
      refine lv_isub hx hb dX5_readMaterial_48 ?_
      refine g_top (y := nI (P + 1 - 1)) (pk_sub (a := (P + 1)) (b := 1) (by omega)) ?_
      refine g_txld C hW_18 (P + 1 - 1) (nI_clamp (by omega)) (vp_in_nI (show P + 1 - 1 < 60 by omega) (by decide)) dX5_readMaterial_49 ?_
      refine g_top (y := X.1 12 (P + 1 - 1)) (congrFun (rd_in (by decide) rfl) _) ?_
      exact g_iret C hr hlk hW_18 hS_14 dX5_readMaterial_50 (by subst ew_15; exact ⟨by simp only [rmV, Nat.add_sub_cancel, b_1, b_10, if_true, if_false]; first | done | rfl, by simp only [rmV, Nat.add_sub_cancel, b_1, b_10, if_true, if_false]; first | done | rfl⟩)
    · refine lv_iconst (v := (-1)) hx hb dX5_readMaterial_27 (by decide) ?_
      exact g_iret C hr hlk hW_7 hS_8 dX5_readMaterial_28 (by exact ⟨by simp only [rmV, Nat.add_sub_cancel, b_1, b_10, if_true, if_false]; first | done | rfl, by simp only [rmV, Nat.add_sub_cancel, b_1, b_10, if_true, if_false]; exact (sr_same (upd_same eP)).symm⟩)

set_option maxHeartbeats 4000000 in
set_option maxRecDepth 100000 in
theorem cX5_readValue109_ok (l : Launch) (G : GT) (X : St) (L P : Nat) (hL : L ≤ 60) (hP : P ≤ L) (eL : X.1 11 5 = nI L) (eP : X.1 11 6 = nI P) : MetI l G yX5_readValue (wsG yX5_readValue cX5_readValue 2 (some .int)) (rmz 2 41) [.ref (ad G 718), .int 109] X (fun res Y => res = (rvV (X.1 12) L 109 P).2 ∧ Y = setRow X 11 (upd (X.1 11) (6) (nI (rvV (X.1 12) L 109 P).1))) := by
  refine g_met (cc := cX5_readValue) (maxL := 2) (ret := (some .int)) (by decide) rfl (Nat.le_of_ble_eq_true rfl) ?_
  intro p e s m below meth c ls C hr hlk hnm hW hl
  have hx := C.1.1
  have hb := C.1.2.1
  have hS : va_S (Ab G) s.heap s.heap [] := va_S.rf
  have hl : lv_has ls 2 [(0, .ref (ad G 718)), (1, .int 109)] := hl
  refine lv_iload_n hx hb dX5_readValue_0 rfl (lv_at hl 1 rfl) ?_
  refine lv_bipush (v := 109) hx hb dX5_readValue_1 (by decide) ?_
  refine lv_icmp_ne (tgt := 11) hx hb dX5_readValue_3 (by decide) (fun h9 => absurd h9 (by decide)) (fun _ => ?_)
  refine lv_aload_n hx hb dX5_readValue_6 rfl (lv_at hl 0 rfl) ?_
  refine g_calli (va_runV (As := []) (rest := []) C.1 (cX5_readMaterial_ok l G X L P hL (by omega) eL eP) (cwV 0 C.1.2.2.2.2 (gV qw_1402 qw_1404 qw_25 qw_76 qw_1405) rfl rfl rfl (by decide +kernel) ⟨Nat.le_of_ble_eq_true rfl, Nat.le_of_ble_eq_true rfl⟩) (g_rScript C hW hS []) rfl rfl hl.1 rfl (lv_room (Nat.le_of_ble_eq_true rfl)) dX5_readValue_7 ⟨Nat.zero_le _, Nat.zero_le _⟩) hS (fun r_2 Y_3 H_4 locs_5 hW_6 hS_7 h_1 => ?_)
  obtain ⟨h_8, h_1⟩ := h_1
  replace h_8 : r_2 = (rmV (X.1 12) L P).2 := h_8
  replace h_1 : Y_3 = setRow X 11 (upd (X.1 11) (6) (nI ((rmV (X.1 12) L P).1))) := h_1
  obtain ⟨p_9, ep_9⟩ : ∃ Z9 : Nat, Z9 = (rmV (X.1 12) L P).1 := ⟨_, rfl⟩
  rw [← ep_9] at h_1
  have bp_9 : P ≤ p_9 ∧ p_9 ≤ L := by rw [ep_9]; exact rmV_le (by omega) (by omega)
  subst h_8
  obtain ⟨w_10, ew_10⟩ : ∃ Z9, Z9 = upd (X.1 11) (6) (nI p_9) := ⟨_, rfl⟩
  have kn_11 : w_10 (5) = nI L := by rw [ew_10]; exact (kp_upd (by omega)).trans eL
  have hW_12 : Wd G (setRow X 11 w_10) H_4 := Wd.cast (by rw [h_1, ew_10]) hW_6
  have kn_13 : w_10 (6) = nI p_9 := by rw [ew_10]; exact pk_us
  exact g_iret C hr hlk hW_12 hS_7 dX5_readValue_10 (by subst ew_10; subst ep_9; exact ⟨by rw [rv_109], by rw [rv_109]⟩)

set_option maxHeartbeats 4000000 in
set_option maxRecDepth 100000 in
theorem cX5_readValue100_ok (l : Launch) (G : GT) (X : St) (L P : Nat) (hL : L ≤ 60) (hP : P ≤ L) (eL : X.1 11 5 = nI L) (eP : X.1 11 6 = nI P) : MetI l G yX5_readValue (wsG yX5_readValue cX5_readValue 2 (some .int)) (rmz 2 63) [.ref (ad G 718), .int 100] X (fun res Y => res = (rvV (X.1 12) L 100 P).2 ∧ Y = setRow X 11 (upd (X.1 11) (6) (nI (rvV (X.1 12) L 100 P).1))) := by
  refine g_met (cc := cX5_readValue) (maxL := 2) (ret := (some .int)) (by decide) rfl (Nat.le_of_ble_eq_true rfl) ?_
  intro p e s m below meth c ls C hr hlk hnm hW hl
  have hx := C.1.1
  have hb := C.1.2.1
  have hS : va_S (Ab G) s.heap s.heap [] := va_S.rf
  have hl : lv_has ls 2 [(0, .ref (ad G 718)), (1, .int 100)] := hl
  refine lv_iload_n hx hb dX5_readValue_0 rfl (lv_at hl 1 rfl) ?_
  refine lv_bipush (v := 109) hx hb dX5_readValue_1 (by decide) ?_
  refine lv_icmp_ne (tgt := 11) hx hb dX5_readValue_3 (by decide) (fun _ => ?_) (fun h9 => absurd h9 (by decide))
  refine lv_aload_n hx hb dX5_readValue_11 rfl (lv_at hl 0 rfl) ?_
  refine lv_iload_n hx hb dX5_readValue_12 rfl (lv_at hl 1 rfl) ?_
  refine lv_bipush (v := 100) hx hb dX5_readValue_13 (by decide) ?_
  refine lv_icmp_ne (tgt := 22) hx hb dX5_readValue_15 (by decide) (fun h9 => absurd h9 (by decide)) (fun _ => ?_)
  refine lv_iconst (v := 1) hx hb dX5_readValue_18 (by decide) ?_
  refine lv_goto (tgt := 23) hx hb dX5_readValue_19 (by decide) ?_
  refine g_calli (va_runV (As := [.int 1]) (rest := []) C.1 (cX5_readNumber1_ok l G X L P hL (by omega) eL eP) (cwV 1 C.1.2.2.2.2 (gV qw_1407 qw_1409 qw_26 qw_76 qw_1410) rfl rfl rfl (by decide +kernel) ⟨Nat.le_of_ble_eq_true rfl, Nat.le_of_ble_eq_true rfl⟩) (g_rScript C hW hS [.int 1]) rfl rfl hl.1 rfl (lv_room (Nat.le_of_ble_eq_true rfl)) dX5_readValue_23 ⟨Nat.zero_le _, Nat.zero_le _⟩) hS (fun r_2 Y_3 H_4 locs_5 hW_6 hS_7 h_1 => ?_)
  obtain ⟨h_8, h_1⟩ := h_1
  replace h_8 : r_2 = (numL (X.1 12) L 1 P (-1)).2 := h_8
  replace h_1 : Y_3 = setRow X 11 (upd (X.1 11) (6) (nI ((numL (X.1 12) L 1 P (-1)).1))) := h_1
  obtain ⟨p_9, ep_9⟩ : ∃ Z9 : Nat, Z9 = (numL (X.1 12) L 1 P (-1)).1 := ⟨_, rfl⟩
  rw [← ep_9] at h_1
  have bp_9 : P ≤ p_9 ∧ p_9 ≤ L := by rw [ep_9]; exact numL_le (by omega) (by omega)
  subst h_8
  obtain ⟨w_10, ew_10⟩ : ∃ Z9, Z9 = upd (X.1 11) (6) (nI p_9) := ⟨_, rfl⟩
  have kn_11 : w_10 (5) = nI L := by rw [ew_10]; exact (kp_upd (by omega)).trans eL
  have hW_12 : Wd G (setRow X 11 w_10) H_4 := Wd.cast (by rw [h_1, ew_10]) hW_6
  have kn_13 : w_10 (6) = nI p_9 := by rw [ew_10]; exact pk_us
  exact g_iret C hr hlk hW_12 hS_7 dX5_readValue_26 (by subst ew_10; subst ep_9; exact ⟨by rw [rv_100], by rw [rv_100]⟩)

set_option maxHeartbeats 4000000 in
set_option maxRecDepth 100000 in
theorem cX5_readValue110_ok (l : Launch) (G : GT) (X : St) (L P : Nat) (hL : L ≤ 60) (hP : P ≤ L) (eL : X.1 11 5 = nI L) (eP : X.1 11 6 = nI P) : MetI l G yX5_readValue (wsG yX5_readValue cX5_readValue 2 (some .int)) (rmz 2 63) [.ref (ad G 718), .int 110] X (fun res Y => res = (rvV (X.1 12) L 110 P).2 ∧ Y = setRow X 11 (upd (X.1 11) (6) (nI (rvV (X.1 12) L 110 P).1))) := by
  refine g_met (cc := cX5_readValue) (maxL := 2) (ret := (some .int)) (by decide) rfl (Nat.le_of_ble_eq_true rfl) ?_
  intro p e s m below meth c ls C hr hlk hnm hW hl
  have hx := C.1.1
  have hb := C.1.2.1
  have hS : va_S (Ab G) s.heap s.heap [] := va_S.rf
  have hl : lv_has ls 2 [(0, .ref (ad G 718)), (1, .int 110)] := hl
  refine lv_iload_n hx hb dX5_readValue_0 rfl (lv_at hl 1 rfl) ?_
  refine lv_bipush (v := 109) hx hb dX5_readValue_1 (by decide) ?_
  refine lv_icmp_ne (tgt := 11) hx hb dX5_readValue_3 (by decide) (fun _ => ?_) (fun h9 => absurd h9 (by decide))
  refine lv_aload_n hx hb dX5_readValue_11 rfl (lv_at hl 0 rfl) ?_
  refine lv_iload_n hx hb dX5_readValue_12 rfl (lv_at hl 1 rfl) ?_
  refine lv_bipush (v := 100) hx hb dX5_readValue_13 (by decide) ?_
  refine lv_icmp_ne (tgt := 22) hx hb dX5_readValue_15 (by decide) (fun _ => ?_) (fun h9 => absurd h9 (by decide))
  refine lv_iconst (v := 3) hx hb dX5_readValue_22 (by decide) ?_
  refine g_calli (va_runV (As := [.int 3]) (rest := []) C.1 (cX5_readNumber3_ok l G X L P hL (by omega) eL eP) (cwV 1 C.1.2.2.2.2 (gV qw_1407 qw_1409 qw_26 qw_76 qw_1410) rfl rfl rfl (by decide +kernel) ⟨Nat.le_of_ble_eq_true rfl, Nat.le_of_ble_eq_true rfl⟩) (g_rScript C hW hS [.int 3]) rfl rfl hl.1 rfl (lv_room (Nat.le_of_ble_eq_true rfl)) dX5_readValue_23 ⟨Nat.zero_le _, Nat.zero_le _⟩) hS (fun r_2 Y_3 H_4 locs_5 hW_6 hS_7 h_1 => ?_)
  obtain ⟨h_8, h_1⟩ := h_1
  replace h_8 : r_2 = (numL (X.1 12) L 3 P (-1)).2 := h_8
  replace h_1 : Y_3 = setRow X 11 (upd (X.1 11) (6) (nI ((numL (X.1 12) L 3 P (-1)).1))) := h_1
  obtain ⟨p_9, ep_9⟩ : ∃ Z9 : Nat, Z9 = (numL (X.1 12) L 3 P (-1)).1 := ⟨_, rfl⟩
  rw [← ep_9] at h_1
  have bp_9 : P ≤ p_9 ∧ p_9 ≤ L := by rw [ep_9]; exact numL_le (by omega) (by omega)
  subst h_8
  obtain ⟨w_10, ew_10⟩ : ∃ Z9, Z9 = upd (X.1 11) (6) (nI p_9) := ⟨_, rfl⟩
  have kn_11 : w_10 (5) = nI L := by rw [ew_10]; exact (kp_upd (by omega)).trans eL
  have hW_12 : Wd G (setRow X 11 w_10) H_4 := Wd.cast (by rw [h_1, ew_10]) hW_6
  have kn_13 : w_10 (6) = nI p_9 := by rw [ew_10]; exact pk_us
  exact g_iret C hr hlk hW_12 hS_7 dX5_readValue_26 (by subst ew_10; subst ep_9; exact ⟨by rw [rv_110], by rw [rv_110]⟩)
