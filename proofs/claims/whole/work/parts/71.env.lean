/-! The environment at the entry of the law. -/
def flA : Jvm.Cond → List Jvm.Cond → List Jvm.Cond
  | .and a b, acc => flA a (flA b acc)
  | c, acc => c :: acc
theorem flA_of {args : Array Value} {s : State} (T : Jvm.Cond) : ∀ acc : List Jvm.Cond, T.before args s = true → (∀ w ∈ acc, w.before args s = true) → ∀ w ∈ flA T acc, w.before args s = true := by
  induction T with
  | and a b iha ihb =>
    intro acc h hacc w hw
    rw [Cond.before_and, Bool.and_eq_true] at h
    exact iha (flA b acc) h.1 (ihb acc h.2 hacc) w hw
  | _ =>
    intro acc h hacc w hw
    rcases List.mem_cons.mp hw with rfl | hw
    · exact h
    · exact hacc w hw
def gL : List Jvm.Cond := flA (Jvm.Cond.and given_1 narrow_1) []
theorem va_Tcg {ty : FieldType} {t N : Nat} {f f' : Nat → Value} {A : Nat → Prop} {U : State} {H : Heap} (h : va_T ty t N f A U H) (e : ∀ j, j < N → f j = f' j) : va_T ty t N f' A U H := by
  obtain ⟨cell, h1, h2, h3, h4, h5, h6, h7⟩ := h
  exact ⟨cell, h1, h2, h3, h4, h5, fun j hj => by rw [h6 j hj, e j hj], h7⟩
theorem va_Encg {E d : String} {nm : List String} {F : List (String × String × String × List Int32)} {f f' : Nat → Nat} {A : Nat → Prop} {U : State} {H : Heap} (h : va_En E d nm F f A U H) (e : ∀ j, j < nm.length → f j = f' j) : va_En E d nm F f' A U H :=
  ⟨fun i hi => by rw [← e i hi]; exact h.1 i hi, fun i j hi hj q => h.2 i j hi hj (by rw [e i hi, e j hj]; exact q)⟩
theorem vk_Scg {N : Nat} {len : List Nat} {byt : List (List Int32)} {f f' g g' : Nat → Nat} {A : Nat → Prop} {U : State} {H : Heap} (h : vk_S N len byt f g A U H) (e : ∀ j, j < N → f j = f' j) (e2 : ∀ j, j < N → g j = g' j) : vk_S N len byt f' g' A U H :=
  ⟨fun i hi => by rw [← e i hi, ← e2 i hi]; exact h.1 i hi, fun i j hi hj q => h.2 i j hi hj (by rw [e i hi, e j hj]; exact q)⟩
theorem va_Efcg {N : Nat} {o n d : String} {v v' : Nat → Value} {f f' : Nat → Nat} {A : Nat → Prop} {U : State} {H : Heap} (h : va_Ef N o n d v f A U H) (e : ∀ j, j < N → v j = v' j) (e2 : ∀ j, j < N → f j = f' j) : va_Ef N o n d v' f' A U H := fun i hi => by
  rw [← e i hi, ← e2 i hi]
  exact h i hi
def enLI : List Nat := [799, 996, 1007, 1016, 1025, 1034, 1043, 1052, 1061, 1070]
def enBI : List Nat := [224, 248, 253, 259, 266, 274, 283, 293, 304, 316]
def enPI : List Nat := [0, 252, 257, 263, 270, 278, 287, 297, 308, 320]
def stE : List Nat := [61, 69, 74, 79, 84, 87, 92, 95, 98, 103, 63, 71, 76, 81, 89, 100]
def stBI : List Nat := [634, 666, 699, 734, 776, 799, 845, 871, 899, 954, 651, 683, 718, 754, 824, 927]
def stRI : List Nat := [0, 2, 4, 6, 8, 9, 11, 12, 13, 15, 1, 3, 5, 7, 10, 14]
def stPI : List Nat := [0, 681, 714, 748, 791, 815, 860, 887, 914, 969, 665, 696, 729, 769, 835, 940]
def nwI : List Nat := [156, 143, 129, 147, 158, 160, 166, 164, 162, 170, 168, 176, 172, 174, 232, 239, 237, 235, 212, 345, 142, 128, 146, 1981, 1367, 1980, 222, 825, 828, 850, 370, 123, 1406, 140, 908, 914, 587, 940, 955, 970, 1301, 588, 590, 592, 0, 0]
def ncI : List Nat := [369, 403, 420, 386, 437, 353, 404, 421, 387, 438, 354, 370, 422, 388, 439, 355, 371, 405, 389, 440, 356, 372, 406, 423, 441, 357, 373, 407, 424, 390]
abbrev enT (i : Nat) : Term := .static "Foundry$Command" (enN.getD i "") "LFoundry$Command;"
abbrev stT (i : Nat) : Term := .string "Foundry$Command" (stE.getD i 0)
abbrev stV (i : Nat) : Term := .field (stT i) "java/lang/String" "value" "[B"
theorem n_enL : ∀ i, i < 10 → lw_tbl[enLI.getD i 0]? = some (.laysStatic "Foundry$Command" (enN.getD i "") "LFoundry$Command;") := by decide +kernel
theorem n_enX : ∀ i, i < 10 → gL[enBI.getD i 0]? = some (.exactly (enT i) "Foundry$Command") := by decide +kernel
theorem n_enO : ∀ i, i < 10 → gL[enBI.getD i 0 + 1]? = some (.eq (.field (enT i) "java/lang/Enum" "ordinal" "I") (.int (([0, 1, 2, 3, 4, 5, 6, 7, 8, 9] : List Int32).getD i 0))) := by decide +kernel
theorem n_enW : ∀ i, i < 10 → gL[enBI.getD i 0 + 2]? = some (.eq (.field (enT i) "Foundry$Command" "word" "Ljava/lang/String;") (stT i)) := by decide +kernel
theorem n_enF : ∀ i, i < 10 → gL[enBI.getD i 0 + 3]? = some (.eq (.field (enT i) "Foundry$Command" "form" "Ljava/lang/String;") (stT (fmi i))) := by decide +kernel
theorem n_enP : ∀ i, i < 10 → ∀ j, j < 10 → i < j → gL[enPI.getD j 0 + i]? = some (.not (.eq (enT i) (enT j))) := by decide +kernel
theorem n_stX : ∀ i, i < 16 → gL[stBI.getD i 0]? = some (.exactly (stT i) "java/lang/String") := by decide +kernel
theorem n_stC : ∀ i, i < 16 → gL[stBI.getD i 0 + 1]? = some (.eq (.field (stT i) "java/lang/String" "coder" "B") (.int 0)) := by decide +kernel
theorem n_stA : ∀ i, i < 16 → gL[stBI.getD i 0 + 2]? = some (.arrayOf (stV i) .byte) := by decide +kernel
theorem n_stL : ∀ i, i < 16 → gL[stBI.getD i 0 + 3]? = some (.eq (.length (stV i)) (.int (Int32.ofNat (strL.getD i 0)))) := by decide +kernel
theorem n_stD : ∀ i, i < 16 → ∀ j, j < strL.getD i 0 → gL[stBI.getD i 0 + 4 + j]? = some (.eq (.elem (stV i) (.int (Int32.ofNat j))) (.int ((strT.getD i []).getD j 0))) := by decide +kernel
theorem n_stP : ∀ i, i < 16 → ∀ j, j < 16 → stRI.getD i 0 < stRI.getD j 0 → gL[stPI.getD j 0 + stRI.getD i 0]? = some (.not (.eq (stT i) (stT j))) := by decide +kernel
theorem n_stR : ∀ i, i < 16 → ∀ j, j < 16 → i ≠ j → stRI.getD i 0 < stRI.getD j 0 ∨ stRI.getD j 0 < stRI.getD i 0 := by decide +kernel
theorem n_stN : ∀ i, i < 16 → strL.getD i 0 < 2 ^ 31 := by decide +kernel
theorem n_dO : ∀ j, j < 100 → gL[19 + j]? = some (.eq (.elem (.static "java/lang/Integer" "DigitOnes" "[B") (.int (Int32.ofNat j))) (.int (nI (48 + j % 10)))) := by decide +kernel
theorem n_dT : ∀ j, j < 100 → gL[122 + j]? = some (.eq (.elem (.static "java/lang/Integer" "DigitTens" "[B") (.int (Int32.ofNat j))) (.int (nI (48 + j / 10)))) := by decide +kernel
theorem n_sm : ∀ j, j < 10 → gL[231 + j]? = some (.eq (.elem (.static "Foundry$1" "$SwitchMap$Foundry$Command" "[I") (.int (Int32.ofNat j))) (.int (nI (j + 1)))) := by decide +kernel
theorem n_cm : ∀ j, j < 10 → gL[334 + j]? = some (.eq (.elem (.static "Foundry" "COMMANDS" "[LFoundry$Command;") (.int (Int32.ofNat j))) (enT j)) := by decide +kernel
theorem n_lt : ∀ j, j < 4 → gL[244 + j]? = some (.eq (.elem (.static "Foundry" "LETTERS" "[C") (.int (Int32.ofNat j))) (.int (([99, 116, 108, 111] : List Int32).getD j 0))) := by decide +kernel
theorem n_mp : ∀ j, j < 4 → gL[8 + j]? = some (.eq (.elem (.static "Foundry" "MELTING_POINTS" "[I") (.int (Int32.ofNat j))) (.int (([1085, 232, 327, 1200] : List Int32).getD j 0))) := by decide +kernel
theorem k2_selects_under {C : String} {y z : MethodName} {args : Array Value} {s : State} (hy : y.cls ≠ "java/lang/invoke/MethodHandle" ∧ y.cls ≠ "java/lang/invoke/VarHandle") (hz : (Cond.selects C z z).before args s = true) (hzc : z.cls = y.cls) (hpriv : (Cond.privateMethod y).before args s = true) (hinst : (Cond.instanceMethod y).before args s = true) : (Cond.selects C y y).before args s = true := by
  obtain ⟨c, r, m, hc, -, hmz, -, k, hk, hni⟩ := Cond.selects_spec (args := args) (first := s) (o := none) (s := s) (idx := []) hz
  obtain ⟨mk, methM, hnamed, hmethM, -, -⟩ := Cond.instanceMethod_spec hinst
  have hfound : s.methodFound? y.cls y.name y.desc = some mk := State.methodFound?_of_named hnamed hy
  have hcls : mk.cls = m.cls := by
    have h1 := findClass_of_methodNamed hnamed
    have h2 := findClass_of_methodNamed hmz
    rw [hzc] at h2
    exact Option.some.inj (h1.symm.trans h2)
  have hsel : selectMethod {} s.vm c mk = .method mk := selectMethod_private hmethM (Cond.privateMethod_at hpriv mk methM hnamed hmethM)
  simp only [Cond.before, Cond.holds, Cond.value, hc, hfound, hnamed, hsel, hcls, hk]
  simp
  exact hni
theorem n_nw : ∀ i, i < 44 → lw_tbl[nwI.getD i 0]? = nestWs[i]? := by decide +kernel
theorem n_nwT : ∀ w ∈ nestWs, w.onTables = true := by decide +kernel
theorem n_nc : ∀ i, i < 30 → gL[ncI.getD i 0]? = (ncPairs[i]?).map fun q => Cond.not (.castable q.1 q.2) := by decide +kernel
section ENV
variable {b : Nat} {s : State}
theorem tw (hts : ∀ w ∈ lw_tbl, w.before #[Value.ref b] s = true) (i : Nat) {w : Cond} (h : lw_tbl[i]? = some w) : w.before #[Value.ref b] s = true := hts w (List.mem_of_getElem? h)
theorem gw (hg : ∀ w ∈ gL, w.before #[Value.ref b] s = true) (i : Nat) {w : Cond} (h : gL[i]? = some w) : w.before #[Value.ref b] s = true := hg w (List.mem_of_getElem? h)
theorem hA0 : ∀ a : Nat, a < s.heap.size → ¬ (fun q : Nat => s.heap.size ≤ q) a := fun a ha h => absurd h (Nat.not_le.mpr ha)
theorem e_dO (hts : ∀ w ∈ lw_tbl, w.before #[Value.ref b] s = true) (hg : ∀ w ∈ gL, w.before #[Value.ref b] s = true) : ∃ t : Nat, va_Z "java/lang/Integer" "DigitOnes" "[B" (.ref t) (fun q => s.heap.size ≤ q) s s.heap ∧ va_T .byte t 100 digO (fun q => s.heap.size ≤ q) s s.heap := by
  obtain ⟨t, ht, hT⟩ := va_Tof (args := #[Value.ref b]) (s := s) (tm := .static "java/lang/Integer" "DigitOnes" "[B") (ty := .byte) (N := 100) (f := digO) (A := fun q => s.heap.size ≤ q) (by decide) (gw hg 17 (by decide +kernel)) (va_eqt (z := Int32.ofNat 100) (gw hg 18 (by decide +kernel))) (fun j hj => va_eqt (z := nI (48 + j % 10)) (gw hg (19 + j) (n_dO j hj))) hA0
  exact ⟨t, va_Zref (tw hts 538 (by decide +kernel)) (tw hts 103 (by decide +kernel)) ht hA0, hT⟩
theorem e_dT (hts : ∀ w ∈ lw_tbl, w.before #[Value.ref b] s = true) (hg : ∀ w ∈ gL, w.before #[Value.ref b] s = true) : ∃ t : Nat, va_Z "java/lang/Integer" "DigitTens" "[B" (.ref t) (fun q => s.heap.size ≤ q) s s.heap ∧ va_T .byte t 100 digT (fun q => s.heap.size ≤ q) s s.heap := by
  obtain ⟨t, ht, hT⟩ := va_Tof (args := #[Value.ref b]) (s := s) (tm := .static "java/lang/Integer" "DigitTens" "[B") (ty := .byte) (N := 100) (f := digT) (A := fun q => s.heap.size ≤ q) (by decide) (gw hg 120 (by decide +kernel)) (va_eqt (z := Int32.ofNat 100) (gw hg 121 (by decide +kernel))) (fun j hj => va_eqt (z := nI (48 + j / 10)) (gw hg (122 + j) (n_dT j hj))) hA0
  exact ⟨t, va_Zref (tw hts 540 (by decide +kernel)) (tw hts 103 (by decide +kernel)) ht hA0, hT⟩
theorem e_sm (hts : ∀ w ∈ lw_tbl, w.before #[Value.ref b] s = true) (hg : ∀ w ∈ gL, w.before #[Value.ref b] s = true) : ∃ t : Nat, va_Z "Foundry$1" "$SwitchMap$Foundry$Command" "[I" (.ref t) (fun q => s.heap.size ≤ q) s s.heap ∧ va_T .int t 10 (fun j => .int (nI (j + 1))) (fun q => s.heap.size ≤ q) s s.heap := by
  obtain ⟨t, ht, hT⟩ := va_Tof (args := #[Value.ref b]) (s := s) (tm := .static "Foundry$1" "$SwitchMap$Foundry$Command" "[I") (ty := .int) (N := 10) (f := (fun j => .int (nI (j + 1)))) (A := fun q => s.heap.size ≤ q) (by decide) (gw hg 229 (by decide +kernel)) (va_eqt (z := Int32.ofNat 10) (gw hg 230 (by decide +kernel))) (fun j hj => va_eqt (z := nI (j + 1)) (gw hg (231 + j) (n_sm j hj))) hA0
  exact ⟨t, va_Zref (tw hts 814 (by decide +kernel)) (tw hts 90 (by decide +kernel)) ht hA0, hT⟩
theorem e_lt (hts : ∀ w ∈ lw_tbl, w.before #[Value.ref b] s = true) (hg : ∀ w ∈ gL, w.before #[Value.ref b] s = true) : ∃ t : Nat, va_Z "Foundry" "LETTERS" "[C" (.ref t) (fun q => s.heap.size ≤ q) s s.heap ∧ va_T .char t 4 (fun j => .int (([99, 116, 108, 111] : List Int32).getD j 0)) (fun q => s.heap.size ≤ q) s s.heap := by
  obtain ⟨t, ht, hT⟩ := va_Tof (args := #[Value.ref b]) (s := s) (tm := .static "Foundry" "LETTERS" "[C") (ty := .char) (N := 4) (f := (fun j => .int (([99, 116, 108, 111] : List Int32).getD j 0))) (A := fun q => s.heap.size ≤ q) (by decide) (gw hg 242 (by decide +kernel)) (va_eqt (z := Int32.ofNat 4) (gw hg 243 (by decide +kernel))) (fun j hj => va_eqt (z := ([99, 116, 108, 111] : List Int32).getD j 0) (gw hg (244 + j) (n_lt j hj))) hA0
  exact ⟨t, va_Zref (tw hts 832 (by decide +kernel)) (tw hts 71 (by decide +kernel)) ht hA0, hT⟩
theorem e_mp (hts : ∀ w ∈ lw_tbl, w.before #[Value.ref b] s = true) (hg : ∀ w ∈ gL, w.before #[Value.ref b] s = true) : ∃ t : Nat, va_Z "Foundry" "MELTING_POINTS" "[I" (.ref t) (fun q => s.heap.size ≤ q) s s.heap ∧ va_T .int t 4 (fun j => .int (([1085, 232, 327, 1200] : List Int32).getD j 0)) (fun q => s.heap.size ≤ q) s s.heap := by
  obtain ⟨t, ht, hT⟩ := va_Tof (args := #[Value.ref b]) (s := s) (tm := .static "Foundry" "MELTING_POINTS" "[I") (ty := .int) (N := 4) (f := (fun j => .int (([1085, 232, 327, 1200] : List Int32).getD j 0))) (A := fun q => s.heap.size ≤ q) (by decide) (gw hg 6 (by decide +kernel)) (va_eqt (z := Int32.ofNat 4) (gw hg 7 (by decide +kernel))) (fun j hj => va_eqt (z := ([1085, 232, 327, 1200] : List Int32).getD j 0) (gw hg (8 + j) (n_mp j hj))) hA0
  exact ⟨t, va_Zref (tw hts 346 (by decide +kernel)) (tw hts 71 (by decide +kernel)) ht hA0, hT⟩
theorem e_en (hts : ∀ w ∈ lw_tbl, w.before #[Value.ref b] s = true) (hg : ∀ w ∈ gL, w.before #[Value.ref b] s = true) : ∃ en : Nat → Nat, va_En "Foundry$Command" "LFoundry$Command;" enN enF en (fun q => s.heap.size ≤ q) s s.heap ∧ ∀ i, i < 10 → (enT i).eval #[Value.ref b] s none [] s = some (.ref (en i)) := by
  refine va_Enof2 (args := #[Value.ref b]) (s := s) (E := "Foundry$Command") (d := "LFoundry$Command;") (nm := enN) (F := enF) (A := fun q => s.heap.size ≤ q) (fun i hi => tw hts _ (n_enL i hi)) (tw hts 88 (by decide +kernel)) (fun i hi => gw hg _ (n_enX i hi)) (fun q hq i hi => ?_) (fun i j hi hj hij => ?_) hA0
  · rcases List.mem_singleton.mp hq with rfl
    exact gw hg _ (n_enO i hi)
  · rcases Nat.lt_or_gt_of_ne hij with h | h
    · exact .inl (gw hg _ (n_enP i hi j hj h))
    · exact .inr (gw hg _ (n_enP j hj i hi h))
theorem e_st (hg : ∀ w ∈ gL, w.before #[Value.ref b] s = true) : ∃ st sv : Nat → Nat, vk_S 16 strL strT st sv (fun q => s.heap.size ≤ q) s s.heap ∧ ∀ i, i < 16 → (stT i).eval #[Value.ref b] s none [] s = some (.ref (st i)) := by
  refine vk_Sof (args := #[Value.ref b]) (s := s) (N := 16) (tm := stT) (len := strL) (byt := strT) (A := fun q => s.heap.size ≤ q) n_stN (fun i hi => gw hg _ (n_stX i hi)) (fun i hi => gw hg _ (n_stC i hi)) (fun i hi => gw hg _ (n_stA i hi)) (fun i hi => gw hg _ (n_stL i hi)) (fun i hi j hj => gw hg _ (n_stD i hi j hj)) (fun i j hi hj hij => ?_) hA0
  rcases n_stR i hi j hj hij with h | h
  · exact .inl (gw hg _ (n_stP i hi j hj h))
  · exact .inr (gw hg _ (n_stP j hj i hi h))
theorem e_cm (hts : ∀ w ∈ lw_tbl, w.before #[Value.ref b] s = true) (hg : ∀ w ∈ gL, w.before #[Value.ref b] s = true) {en : Nat → Nat} (hen : ∀ i, i < 10 → (enT i).eval #[Value.ref b] s none [] s = some (.ref (en i))) : ∃ t : Nat, va_Z "Foundry" "COMMANDS" "[LFoundry$Command;" (.ref t) (fun q => s.heap.size ≤ q) s s.heap ∧ va_T (.object "Foundry$Command") t 10 (fun j => .ref (en j)) (fun q => s.heap.size ≤ q) s s.heap := by
  obtain ⟨t, ht, hT⟩ := va_Tof (args := #[Value.ref b]) (s := s) (tm := .static "Foundry" "COMMANDS" "[LFoundry$Command;") (ty := .object "Foundry$Command") (N := 10) (f := fun j => .ref (en j)) (A := fun q => s.heap.size ≤ q) (by decide) (gw hg 331 (by decide +kernel)) (va_eqt (z := Int32.ofNat 10) (gw hg 332 (by decide +kernel))) (fun j hj => va_eqv (gw hg (334 + j) (n_cm j hj)) (hen j hj)) hA0
  exact ⟨t, va_Zref (tw hts 1368 (by decide +kernel)) (tw hts 71 (by decide +kernel)) ht hA0, hT⟩
theorem e_wd (hg : ∀ w ∈ gL, w.before #[Value.ref b] s = true) {en st : Nat → Nat} (hen : ∀ i, i < 10 → (enT i).eval #[Value.ref b] s none [] s = some (.ref (en i))) (hst : ∀ i, i < 16 → (stT i).eval #[Value.ref b] s none [] s = some (.ref (st i))) : va_Ef 10 "Foundry$Command" "word" "Ljava/lang/String;" (fun i => .ref (st i)) en (fun q => s.heap.size ≤ q) s s.heap :=
  va_Efof (args := #[Value.ref b]) (s := s) (N := 10) (E := "Foundry$Command") (d0 := "LFoundry$Command;") (nm := enN) (tm := stT) hen (fun i hi => gw hg _ (n_enW i hi)) (fun i hi => hst i (by omega)) hA0
theorem fmi_lt : ∀ i, i < 10 → fmi i < 16 := by decide +kernel
theorem e_fm (hg : ∀ w ∈ gL, w.before #[Value.ref b] s = true) {en st : Nat → Nat} (hen : ∀ i, i < 10 → (enT i).eval #[Value.ref b] s none [] s = some (.ref (en i))) (hst : ∀ i, i < 16 → (stT i).eval #[Value.ref b] s none [] s = some (.ref (st i))) : va_Ef 10 "Foundry$Command" "form" "Ljava/lang/String;" (fun i => .ref (st (fmi i))) en (fun q => s.heap.size ≤ q) s s.heap :=
  va_Efof (args := #[Value.ref b]) (s := s) (N := 10) (E := "Foundry$Command") (d0 := "LFoundry$Command;") (nm := enN) (tm := fun i => stT (fmi i)) hen (fun i hi => gw hg _ (n_enF i hi)) (fun i hi => hst _ (fmi_lt i hi)) hA0
theorem e_cs (hts : ∀ w ∈ lw_tbl, w.before #[Value.ref b] s = true) (hg : ∀ w ∈ gL, w.before #[Value.ref b] s = true) : va_Z "java/lang/String" "COMPACT_STRINGS" "Z" (.int 1) (fun q => s.heap.size ≤ q) s s.heap :=
  va_Zof (tw hts 264 (by decide +kernel)) (tw hts 79 (by decide +kernel)) (va_eqt (z := 1) (gw hg 4 (by decide +kernel))) hA0
theorem e_us (hts : ∀ w ∈ lw_tbl, w.before #[Value.ref b] s = true) (hg : ∀ w ∈ gL, w.before #[Value.ref b] s = true) : vx_Zq Bundle.tN "UNASSIGNED_STACK" Bundle.steD (fun q => s.heap.size ≤ q) s s.heap :=
  vx_Zqof (args := #[Value.ref b]) (C := "java/lang/Throwable") (n := "UNASSIGNED_STACK") (d := "[Ljava/lang/StackTraceElement;") (tw hts 612 (by decide +kernel)) (tw hts 82 (by decide +kernel)) (gw hg 222 (by decide +kernel)) hA0
theorem e_ss (hts : ∀ w ∈ lw_tbl, w.before #[Value.ref b] s = true) (hg : ∀ w ∈ gL, w.before #[Value.ref b] s = true) : vx_Zq Bundle.tN "SUPPRESSED_SENTINEL" Bundle.listD (fun q => s.heap.size ≤ q) s s.heap :=
  vx_Zqof (args := #[Value.ref b]) (C := "java/lang/Throwable") (n := "SUPPRESSED_SENTINEL") (d := "Ljava/util/List;") (tw hts 614 (by decide +kernel)) (tw hts 82 (by decide +kernel)) (gw hg 223 (by decide +kernel)) hA0
theorem e_sf (hts : ∀ w ∈ lw_tbl, w.before #[Value.ref b] s = true) (hg : ∀ w ∈ gL, w.before #[Value.ref b] s = true) : va_Zq "jdk/internal/util/Preconditions" "SIOOBE_FORMATTER" "Ljava/util/function/BiFunction;" (fun q => s.heap.size ≤ q) s s.heap :=
  va_Zqof (args := #[Value.ref b]) (C := "jdk/internal/util/Preconditions") (n := "SIOOBE_FORMATTER") (d := "Ljava/util/function/BiFunction;") (tw hts 468 (by decide +kernel)) (tw hts 100 (by decide +kernel)) (gw hg 12 (by decide +kernel)) hA0
theorem e_N (hts : ∀ w ∈ lw_tbl, w.before #[Value.ref b] s = true) (hg : ∀ w ∈ gL, w.before #[Value.ref b] s = true) : EnvN s := by
  refine ⟨fun w hw => ?_, fun q hq => ?_⟩
  · obtain ⟨i, hi⟩ := List.getElem?_of_mem hw
    have hlt : i < 46 := (List.getElem?_eq_some_iff.mp hi).1
    refine va_Nw.of (A := #[Value.ref b]) (n_nwT w hw) ?_
    by_cases h4 : i < 44
    · exact tw hts _ ((n_nw i h4).trans hi)
    · rcases (by omega : i = 44 ∨ i = 45) with rfl | rfl
      · rw [← Option.some.inj hi]
        exact k2_selects_under (C := "java/lang/StringBuilder") (z := ⟨"java/lang/AbstractStringBuilder", "isLatin1", "()Z"⟩) (by decide +kernel) (tw hts 453 (by decide +kernel)) rfl (tw hts 416 (by decide +kernel)) (tw hts 417 (by decide +kernel))
      · rw [← Option.some.inj hi]
        exact k2_selects_under (C := "java/lang/StringBuilder") (z := ⟨"java/lang/AbstractStringBuilder", "isLatin1", "()Z"⟩) (by decide +kernel) (tw hts 453 (by decide +kernel)) rfl (tw hts 420 (by decide +kernel)) (tw hts 421 (by decide +kernel))
  · obtain ⟨i, hi⟩ := List.getElem?_of_mem hq
    have hlt : i < 30 := (List.getElem?_eq_some_iff.mp hi).1
    have e := n_nc i hlt
    rw [hi] at e
    exact va_Nc.of (gw hg _ e)
theorem e_A (hts : ∀ w ∈ lw_tbl, w.before #[Value.ref b] s = true) : EnvA s :=
  ⟨List.forall_mem_cons.mpr ⟨tw hts (w := .arrayOver (.object "Foundry$Vessel")) 119 (by decide +kernel), List.forall_mem_cons.mpr ⟨tw hts (w := .arrayOver (.object "Foundry$Mixture")) 121 (by decide +kernel), List.forall_mem_cons.mpr ⟨tw hts (w := .arrayOver (.object "Foundry$Plant")) 207 (by decide +kernel), List.forall_mem_cons.mpr ⟨tw hts (w := .arrayOver (.object "Foundry$Command")) 227 (by decide +kernel), fun _ h => absurd h List.not_mem_nil⟩⟩⟩⟩, tw hts (w := .arrayOver (.array .int)) 229 (by decide +kernel)⟩
theorem hqJ0 : ∀ w ∈ u_ws RJ0 TJ0 4, w ∈ lw_all := lw_memT (by decide +kernel)
theorem hqJx00060 : ∀ w ∈ u_ws RJx00060 TJx00060 6, w ∈ lw_all := lw_memT (by decide +kernel)
theorem hqJx7c733 : ∀ w ∈ u_ws RJx7c733 TJx7c733 6, w ∈ lw_all := lw_memT (by decide +kernel)
theorem e_K (hts : ∀ w ∈ lw_tbl, w.before #[Value.ref b] s = true) : ∃ D : va_G, ∀ (c : Nat) (q : vw_C), vwCl[c]? = some q → u_Kn s q.1 q.2.1 q.2.2 (D.1 c) (D.2 c) := by
  have ha : ∀ w ∈ lw_all, w.before #[Value.ref b] s = true := fun w hw => hts w (List.mem_filter.mp hw).1
  have h1 : ∀ q ∈ vwCl, ∃ (cC : ClassId) (iS : Nat → Nat), u_Kn s q.1 q.2.1 q.2.2 cC iS := by
    refine List.forall_mem_cons.mpr ⟨u_known ha hqJ0 (tw hts (w := .instantiable "java/lang/String" 4) 554 (by decide +kernel)), List.forall_mem_cons.mpr ⟨u_known ha hwJ4 (tw hts (w := .instantiable "java/lang/StringBuilder" 4) 255 (by decide +kernel)), List.forall_mem_cons.mpr ⟨u_known ha hqJx00060 (tw hts (w := .instantiable "java/lang/ArrayIndexOutOfBoundsException" 6) 710 (by decide +kernel)), List.forall_mem_cons.mpr ⟨u_known ha hqJx7c733 (tw hts (w := .instantiable "java/lang/StringIndexOutOfBoundsException" 6) 397 (by decide +kernel)), List.forall_mem_cons.mpr ⟨u_known ha hwX2 (tw hts (w := .instantiable "Foundry$History" 3) 201 (by decide +kernel)), List.forall_mem_cons.mpr ⟨u_known ha hwX3 (tw hts (w := .instantiable "Foundry$Mixture" 1) 122 (by decide +kernel)), List.forall_mem_cons.mpr ⟨u_known ha hwX4 (tw hts (w := .instantiable "Foundry$Plant" 11) 113 (by decide +kernel)), List.forall_mem_cons.mpr ⟨u_known ha hwX5 (tw hts (w := .instantiable "Foundry$Script" 6) 221 (by decide +kernel)), List.forall_mem_cons.mpr ⟨u_known ha hwX6 (tw hts (w := .instantiable "Foundry$Vessel" 3) 134 (by decide +kernel)), List.forall_mem_cons.mpr ⟨u_known ha hwX7 (tw hts (w := .instantiable "Foundry" 8) 105 (by decide +kernel)), List.forall_mem_cons.mpr ⟨u_known ha hwX8 (tw hts (w := .instantiable "FoundryModel" 22) 1465 (by decide +kernel)), fun _ h => absurd h List.not_mem_nil⟩⟩⟩⟩⟩⟩⟩⟩⟩⟩⟩
  have h2 : ∀ c : Nat, ∃ p : ClassId × (Nat → Nat), ∀ q : vw_C, vwCl[c]? = some q → u_Kn s q.1 q.2.1 q.2.2 p.1 p.2 := fun c => by
    cases hc : vwCl[c]? with
    | none => exact ⟨(0, fun _ => 0), fun q hq => by cases hq⟩
    | some q =>
      obtain ⟨cC, iS, h⟩ := h1 q (List.mem_of_getElem? hc)
      exact ⟨(cC, iS), fun q' hq => by cases hq; exact h⟩
  obtain ⟨f, hf⟩ := Classical.axiomOfChoice h2
  exact ⟨(fun c => (f c).1, fun c => (f c).2), fun c q hq => hf c q hq⟩
theorem e_ap {ty : FieldType} (h : (Cond.arrayClass ty).before #[Value.ref b] s = true) (hr : ∀ cA, s.vm.findClass ("[" ++ ty.toString) = some cA → va_RA s cA ty) : ∃ cA : ClassId, ArrOfT s cA ty ∧ va_RA s cA ty := by
  obtain ⟨c, k, comp, h1, h2, h3⟩ := Cond.arrayClass_spec (args := #[Value.ref b]) (first := s) (o := none) (s := s) (idx := []) h
  exact ⟨c, fun n z => ⟨(fun k h => by cases h), k, h2, comp, h3⟩, hr c h1⟩
theorem e_ao {n : String} (h : (Cond.arrayOver (.object n)).before #[Value.ref b] s = true) : ∃ cA : ClassId, ArrOfT s cA (.object n) ∧ va_RA s cA (.object n) := by
  obtain ⟨comp, c, k, h1, -, h2, h3, h4⟩ := Cond.arrayOver_spec (args := #[Value.ref b]) (first := s) (o := none) (s := s) (idx := []) h
  exact ⟨c, fun n z => ⟨(fun k h => by cases h), k, h2, comp, h3⟩, k, comp, h2, h3, h1, h4⟩
theorem e_aa (h : (Cond.arrayOver (.array .int)).before #[Value.ref b] s = true) : ∃ cA : ClassId, ArrOfT s cA (.array .int) ∧ va_RA s cA (.array .int) := by
  obtain ⟨comp, c, k, h1, h2, h3, h4⟩ := Cond.arrayOver_specA (args := #[Value.ref b]) (first := s) (o := none) (s := s) (idx := []) h
  exact ⟨c, fun n z => ⟨(fun k h => by cases h), k, h2, comp, h3⟩, h4⟩
def cyq (ca en st sv : Nat → Nat) (t0 t1 t2 t3 t4 t5 : Nat) : Nat → Nat := fun j =>
  if j < 10 then ca j else if j < 30 then en (j - 20) else if j < 50 then (if j = 40 then t0 else if j = 41 then t1 else if j = 42 then t2 else if j = 43 then t3 else if j = 44 then t4 else t5) else if j < 70 then st (j - 50) else sv (j - 70)
def tyL : List FieldType := [.int, .char, .byte, .long, .double, .object "Foundry$Vessel", .object "Foundry$Mixture", .object "Foundry$Plant", .object "Foundry$Command", .array .int]
theorem e_Y (hts : ∀ w ∈ lw_tbl, w.before #[Value.ref b] s = true) : ∃ ca : Nat → Nat, ∀ (k : Nat) (ty : FieldType), tyL[k]? = some ty → ArrOfT s (ca k) ty ∧ va_RA s (ca k) ty := by
  have h1 : ∀ ty ∈ tyL, ∃ cA : ClassId, ArrOfT s cA ty ∧ va_RA s cA ty := by
    refine List.forall_mem_cons.mpr ⟨e_ap (tw hts 133 (by decide +kernel)) (fun _ h => h), List.forall_mem_cons.mpr ⟨e_ap (tw hts 253 (by decide +kernel)) (fun _ h => h), List.forall_mem_cons.mpr ⟨e_ap (tw hts 286 (by decide +kernel)) (fun _ h => h), List.forall_mem_cons.mpr ⟨e_ap (tw hts 1943 (by decide +kernel)) (fun _ h => h), List.forall_mem_cons.mpr ⟨e_ap (tw hts 1944 (by decide +kernel)) (fun _ h => h), List.forall_mem_cons.mpr ⟨e_ao (tw hts 119 (by decide +kernel)), List.forall_mem_cons.mpr ⟨e_ao (tw hts 121 (by decide +kernel)), List.forall_mem_cons.mpr ⟨e_ao (tw hts 207 (by decide +kernel)), List.forall_mem_cons.mpr ⟨e_ao (tw hts 227 (by decide +kernel)), List.forall_mem_cons.mpr ⟨e_aa (tw hts 229 (by decide +kernel)), fun _ h => absurd h List.not_mem_nil⟩⟩⟩⟩⟩⟩⟩⟩⟩⟩
  have h2 : ∀ k : Nat, ∃ cA : Nat, ∀ ty : FieldType, tyL[k]? = some ty → ArrOfT s cA ty ∧ va_RA s cA ty := fun k => by
    cases hc : tyL[k]? with
    | none => exact ⟨0, fun q hq => by cases hq⟩
    | some q =>
      obtain ⟨cA, h⟩ := h1 q (List.mem_of_getElem? hc)
      exact ⟨cA, fun q' hq => by cases hq; exact h⟩
  exact Classical.axiomOfChoice h2
theorem env_0 (hts : ∀ w ∈ lw_tbl, w.before #[Value.ref b] s = true) (hgv : (Jvm.Cond.and given_1 narrow_1).before #[Value.ref b] s = true) : ∃ (D : va_G) (cY : Nat → Nat), ∀ a : Nat → Nat, EnvG (D, (cY, (a, s.heap.size))) s s.heap := by
  have hg : ∀ w ∈ gL, w.before #[Value.ref b] s = true := flA_of _ [] hgv (fun _ h => absurd h List.not_mem_nil)
  obtain ⟨D, hD⟩ := e_K hts
  obtain ⟨ca, hca⟩ := e_Y hts
  obtain ⟨en, hen, hev⟩ := e_en hts hg
  obtain ⟨st, sv, hst, hsv⟩ := e_st hg
  obtain ⟨t0, z0, r0⟩ := e_lt hts hg
  obtain ⟨t1, z1, r1⟩ := e_mp hts hg
  obtain ⟨t2, z2, r2⟩ := e_cm hts hg hev
  obtain ⟨t3, z3, r3⟩ := e_sm hts hg
  obtain ⟨t4, z4, r4⟩ := e_dT hts hg
  obtain ⟨t5, z5, r5⟩ := e_dO hts hg
  have c1 : ∀ j, j < 10 → en j = cyq ca en st sv t0 t1 t2 t3 t4 t5 (20 + j) := fun j hj => by
    unfold cyq
    rw [if_neg (by omega), if_pos (by omega), Nat.add_sub_cancel_left]
  have c2 : ∀ j, j < 16 → st j = cyq ca en st sv t0 t1 t2 t3 t4 t5 (50 + j) := fun j hj => by
    unfold cyq
    rw [if_neg (by omega), if_neg (by omega), if_neg (by omega), if_pos (by omega), Nat.add_sub_cancel_left]
  have c3 : ∀ j, j < 16 → sv j = cyq ca en st sv t0 t1 t2 t3 t4 t5 (70 + j) := fun j hj => by
    unfold cyq
    rw [if_neg (by omega), if_neg (by omega), if_neg (by omega), if_neg (by omega), Nat.add_sub_cancel_left]
  refine ⟨D, cyq ca en st sv t0 t1 t2 t3 t4 t5, fun a => ⟨⟨hD, fun k q hk => ?_⟩, e_N hts hg, ⟨z1, va_Tcg r1 ?_⟩, ⟨z0, va_Tcg r0 ?_⟩, e_us hts hg, e_ss hts hg, va_Encg hen c1, ⟨z2, va_Tcg r2 fun j hj => congrArg Value.ref (c1 j hj)⟩, ⟨z3, r3⟩, vk_Scg hst c2 c3, va_Efcg (e_wd hg hev hsv) (fun j hj => congrArg Value.ref (c2 j (by omega))) c1, va_Efcg (e_fm hg hev hsv) (fun j hj => congrArg Value.ref (c2 _ (fmi_lt j hj))) c1, e_cs hts hg, ⟨z4, r4⟩, ⟨z5, r5⟩, e_sf hts hg⟩⟩
  · have hlt : k < 10 := (List.getElem?_eq_some_iff.mp hk).1
    rcases (by omega : k = 0 ∨ k = 1 ∨ k = 2 ∨ k = 3 ∨ k = 4 ∨ k = 5 ∨ k = 6 ∨ k = 7 ∨ k = 8 ∨ k = 9) with rfl | rfl | rfl | rfl | rfl | rfl | rfl | rfl | rfl | rfl <;> cases hk
    · exact hca 0 _ rfl
    · exact hca 1 _ rfl
    · exact hca 2 _ rfl
    · exact hca 3 _ rfl
    · exact hca 4 _ rfl
    · exact hca 5 _ rfl
    · exact hca 6 _ rfl
    · exact hca 7 _ rfl
    · exact hca 8 _ rfl
    · exact hca 9 _ rfl
  · intro j hj
    rcases lt4 hj with rfl | rfl | rfl | rfl <;> rfl
  · intro j hj
    rcases lt4 hj with rfl | rfl | rfl | rfl <;> rfl
end ENV
