/-! Floats: no NaN arises in this class; what a method that answers a double or a float says. -/
theorem fl_n32 {a : UInt32} (h : FP.Core.fIsNaN a = false) : vf_n32 a := by
  have h1 : ¬ 2139095040 < a.toNat % 2 ^ 31 := fun q => by rw [(FP.Core.isNaN_bits32 a).mpr q] at h; exact absurd h (by decide)
  unfold vf_n32
  rw [UInt32.le_iff_toNat_le, UInt32.toNat_and]
  show a.toNat &&& (2 ^ 31 - 1) ≤ 2139095040
  rw [Nat.and_two_pow_sub_one_eq_mod]
  omega
theorem fl_n64 {a : UInt64} (h : FP.Core.dIsNaN a = false) : vf_n64 a := by
  have h1 : ¬ 9218868437227405312 < a.toNat % 2 ^ 63 := fun q => by rw [(FP.Core.isNaN_bits a).mpr q] at h; exact absurd h (by decide)
  unfold vf_n64
  rw [UInt64.le_iff_toNat_le, UInt64.toNat_and]
  show a.toNat &&& (2 ^ 63 - 1) ≤ 9218868437227405312
  rw [Nat.and_two_pow_sub_one_eq_mod]
  omega
def meanD (x : Int32) : UInt64 := FP.ddiv (FP.i2d x) 4613937818241073152
def rateF (x y : Int32) : UInt32 := FP.fdiv (FP.i2f x) (FP.i2f y)
theorem fl_mean (x : Int32) : FP.Core.dIsNaN (meanD x) = false := FP.Core.ddiv_out (FP.Core.i2d_fin x).notNaN ((FP.Core.fin_bits _).mpr (by decide)) (fun h => absurd ((FP.Core.zero_bits2 _).mp h) (by decide))
theorem fl_rate (x : Int32) {y : Int32} (h : ¬ y = 0) : FP.Core.fIsNaN (rateF x y) = false := FP.Core.fdiv_out (FP.Core.i2f_fin x).notNaN (FP.Core.i2f_fin y) (fun q => FP.Core.i2f_ne_zero h ((FP.Core.zero_bits232 _).mp q))
theorem fl_wide {a : UInt32} (h : FP.Core.fIsNaN a = false) : vf_n64 (FP.f2d a) := by
  rw [show FP.f2d a = FP.Core.f2d a from if_neg (by rw [h]; decide)]
  exact fl_n64 (FP.Core.f2d_out h)
theorem fl_selfd {a : UInt64} (h : FP.Core.dIsNaN a = false) : FP.dcmp a a = some .eq := FP.Core.dcmp_self ((FP.Core.notNaN_iff a).mp h)
abbrev Kd (G : GT) (post : UInt64 → St → Prop) : Array Value → State → Outcome → State → Prop := va_Qd post (fun Y t => Wd G Y t.heap) (Ab G)
abbrev Kf (G : GT) (post : UInt32 → St → Prop) : Array Value → State → Outcome → State → Prop := va_Qf post (fun Y t => Wd G Y t.heap) (Ab G)
abbrev MetQd (l : Launch) (G : GT) (y : MethodName) (ws : List Cond) (rm : Room) (av : List Value) (X : St) (post : UInt64 → St → Prop) : Prop := Met l y ws rm (Kp G av X) (Kd G post) 0 0 (Ab G)
abbrev MetQf (l : Launch) (G : GT) (y : MethodName) (ws : List Cond) (rm : Room) (av : List Value) (X : St) (post : UInt32 → St → Prop) : Prop := Met l y ws rm (Kp G av X) (Kf G post) 0 0 (Ab G)
abbrev MetXQf (l : Launch) (G : GT) (k : Nat) (y : MethodName) (ws : List Cond) (rm : Room) (av : List Value) (X : St) (post : UInt32 → St → Prop) (postx : String → St → Prop) : Prop := vx_Met l y ws rm (Kp G av X) (Kf G post) (KX G postx) k (6 * k) (Ab G)
theorem g_dret {p : Program} {l : Launch} {e : Env} {R : Room} {s : State} {m : MethodId} {args : Array Value} {below : List Frame} {meth : Method} {c : Code} {H : Heap} {locs : List Loc} {cells slots : Nat}
    {cc : ByteArray} {nL pc : Nat} {ls : Array Slot} {G : GT} {X : St} {Ts : List Cond} {own : String} (C : Cx p m c cc nL s args Ts own G) (hr : meth.sig.returnType = some .double) (hlk : meth.locks = false) (hW : Wd G X H) (hS : va_S (Ab G) s.heap H locs) {post : UInt64 → St → Prop} {v : UInt64} (hdg : decode cc pc = .ok (.dreturn, 1)) (hp : post v X) : W p l e R s m args below meth c H locs cells slots (MQ below (Kd G post) args s cells slots (Ab G)) (F0 m pc ls [.double v]) :=
  W.dret C.1.1 C.1.2.1 hr (fun _ ht hw => ⟨⟨v, X, rfl, hp, Wd.at9 ht hW⟩, hS.F ht⟩) hS.2.2 hdg hlk
theorem g_fret {p : Program} {l : Launch} {e : Env} {R : Room} {s : State} {m : MethodId} {args : Array Value} {below : List Frame} {meth : Method} {c : Code} {H : Heap} {locs : List Loc} {cells slots : Nat}
    {cc : ByteArray} {nL pc : Nat} {ls : Array Slot} {G : GT} {X : St} {Ts : List Cond} {own : String} (C : Cx p m c cc nL s args Ts own G) (hr : meth.sig.returnType = some .float) (hlk : meth.locks = false) (hW : Wd G X H) (hS : va_S (Ab G) s.heap H locs) {post : UInt32 → St → Prop} {v : UInt32} (hdg : decode cc pc = .ok (.freturn, 1)) (hp : post v X) : W p l e R s m args below meth c H locs cells slots (MQ below (Kf G post) args s cells slots (Ab G)) (F0 m pc ls [.float v]) :=
  W.fret C.1.1 C.1.2.1 hr (fun _ ht hw => ⟨⟨v, X, rfl, hp, Wd.at9 ht hW⟩, hS.F ht⟩) hS.2.2 hdg hlk
