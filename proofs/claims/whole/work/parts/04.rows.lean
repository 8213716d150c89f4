/-! The environment that never changes, the judgement of a contract, and the rows over the world. -/
def mpV : Nat → Value := fun j => .int (match j with | 0 => 1085 | 1 => 232 | 2 => 327 | _ => 1200)
def ltV : Nat → Value := fun j => .int (match j with | 0 => 99 | 1 => 116 | 2 => 108 | _ => 111)
def tysG (G : GT) : List (ClassId × FieldType) := [(cy G 0, .int), (cy G 1, .char), (cy G 2, .byte), (cy G 3, .long), (cy G 4, .double), (cy G 5, .object "Foundry$Vessel"), (cy G 6, .object "Foundry$Mixture"), (cy G 7, .object "Foundry$Plant"), (cy G 8, .object "Foundry$Command"), (cy G 9, .array .int)]
def nestWs : List Cond := [Cond.fieldLinkNest "Foundry" 121 "Foundry$Plant" "furnaces" "[LFoundry$Vessel;" "Foundry",
  Cond.fieldLinkNest "Foundry" 125 "Foundry$Vessel" "content" "LFoundry$Mixture;" "Foundry",
  Cond.fieldLinkNest "Foundry" 131 "Foundry$Mixture" "masses" "[I" "Foundry",
  Cond.fieldLinkNest "Foundry" 145 "Foundry$Vessel" "temperature" "I" "Foundry",
  Cond.fieldLinkNest "Foundry" 148 "Foundry$Plant" "fires" "[I" "Foundry",
  Cond.fieldLinkNest "Foundry" 178 "Foundry$Plant" "ladles" "[LFoundry$Vessel;" "Foundry",
  Cond.fieldLinkNest "Foundry" 181 "Foundry$Plant" "mouldCount" "I" "Foundry",
  Cond.fieldLinkNest "Foundry" 184 "Foundry$Plant" "volumes" "[I" "Foundry",
  Cond.fieldLinkNest "Foundry" 187 "Foundry$Plant" "moulds" "[LFoundry$Mixture;" "Foundry",
  Cond.fieldLinkNest "Foundry" 191 "Foundry$Plant" "ingotCount" "I" "Foundry",
  Cond.fieldLinkNest "Foundry" 194 "Foundry$Plant" "ingots" "[LFoundry$Mixture;" "Foundry",
  Cond.fieldLinkNest "Foundry" 207 "Foundry$Plant" "minutes" "I" "Foundry",
  Cond.fieldLinkNest "Foundry" 210 "Foundry$Plant" "chargedSoFar" "LFoundry$Mixture;" "Foundry",
  Cond.fieldLinkNest "Foundry" 213 "Foundry$Plant" "slagSoFar" "LFoundry$Mixture;" "Foundry",
  Cond.fieldLinkNest "Foundry" 255 "Foundry$Script" "length" "I" "Foundry",
  Cond.fieldLinkNest "Foundry" 266 "Foundry$Script" "commandCount" "I" "Foundry",
  Cond.fieldLinkNest "Foundry" 269 "Foundry$Script" "arguments" "[[I" "Foundry",
  Cond.fieldLinkNest "Foundry" 273 "Foundry$Script" "commands" "[LFoundry$Command;" "Foundry",
  Cond.fieldLinkNest "Foundry" 284 "Foundry$History" "count" "I" "Foundry",
  Cond.fieldLinkNest "Foundry$Mixture" 33 "Foundry" "MELTING_POINTS" "[I" "Foundry",
  Cond.fieldLinkNest "Foundry$Plant" 115 "Foundry$Vessel" "content" "LFoundry$Mixture;" "Foundry",
  Cond.fieldLinkNest "Foundry$Plant" 125 "Foundry$Mixture" "masses" "[I" "Foundry",
  Cond.fieldLinkNest "Foundry$Plant" 128 "Foundry$Vessel" "temperature" "I" "Foundry",
  Cond.fieldLinkNest "Foundry$Script" 48 "Foundry$Command" "form" "Ljava/lang/String;" "Foundry",
  Cond.fieldLinkNest "Foundry$Script" 56 "Foundry" "COMMANDS" "[LFoundry$Command;" "Foundry",
  Cond.fieldLinkNest "Foundry$Script" 59 "Foundry$Command" "word" "Ljava/lang/String;" "Foundry",
  Cond.methodLinkNest "Foundry" 32 ⟨"Foundry$Script", "<init>", "()V"⟩ "Foundry",
  Cond.methodLinkNest "Foundry$Plant" 108 ⟨"Foundry", "outside", "(II)Z"⟩ "Foundry",
  Cond.methodLinkNest "Foundry$Plant" 112 ⟨"Foundry", "materialOf", "(I)I"⟩ "Foundry",
  Cond.methodLinkNest "Foundry$Plant" 143 ⟨"Foundry$Mixture", "move", "(IILFoundry$Mixture;)V"⟩ "Foundry",
  Cond.methodLinkNest "Foundry$Plant" 173 ⟨"Foundry", "withinLimits", "(I)I"⟩ "Foundry",
  Cond.methodLinkNest "Foundry$Plant" 43 ⟨"Foundry$Mixture", "<init>", "()V"⟩ "Foundry",
  Cond.methodLinkNest "Foundry$Script" 92 ⟨"Foundry", "materialOf", "(I)I"⟩ "Foundry",
  Cond.methodLinkNest "Foundry$Vessel" 11 ⟨"Foundry$Mixture", "<init>", "()V"⟩ "Foundry",
  Cond.methodLinkNest "Foundry$Vessel" 36 ⟨"Foundry", "withinLimits", "(I)I"⟩ "Foundry",
  Cond.castable "java/lang/IndexOutOfBoundsException" "java/lang/IndexOutOfBoundsException",
  Cond.castable "java/lang/IllegalArgumentException" "java/lang/IllegalArgumentException",
  Cond.castable "java/util/NoSuchElementException" "java/util/NoSuchElementException",
  Cond.castable "java/lang/IllegalStateException" "java/lang/IllegalStateException",
  Cond.castable "java/lang/UnsupportedOperationException" "java/lang/UnsupportedOperationException",
  Cond.castable "java/lang/ArithmeticException" "java/lang/ArithmeticException",
  Cond.declares ⟨"java/lang/RuntimeException", "<init>", "()V"⟩,
  Cond.declares ⟨"java/lang/Exception", "<init>", "()V"⟩,
  Cond.declares ⟨"java/lang/Throwable", "<init>", "()V"⟩,
  Cond.selects "java/lang/StringBuilder" ⟨"java/lang/AbstractStringBuilder", "ensureCapacityInternal", "(I)V"⟩ ⟨"java/lang/AbstractStringBuilder", "ensureCapacityInternal", "(I)V"⟩,
  Cond.selects "java/lang/StringBuilder" ⟨"java/lang/AbstractStringBuilder", "newCapacity", "(I)I"⟩ ⟨"java/lang/AbstractStringBuilder", "newCapacity", "(I)I"⟩]
theorem nw_0 : Cond.fieldLinkNest "Foundry" 121 "Foundry$Plant" "furnaces" "[LFoundry$Vessel;" "Foundry" ∈ nestWs := List.mem_of_getElem? (i := 0) rfl
theorem nw_1 : Cond.fieldLinkNest "Foundry" 125 "Foundry$Vessel" "content" "LFoundry$Mixture;" "Foundry" ∈ nestWs := List.mem_of_getElem? (i := 1) rfl
theorem nw_2 : Cond.fieldLinkNest "Foundry" 131 "Foundry$Mixture" "masses" "[I" "Foundry" ∈ nestWs := List.mem_of_getElem? (i := 2) rfl
theorem nw_3 : Cond.fieldLinkNest "Foundry" 145 "Foundry$Vessel" "temperature" "I" "Foundry" ∈ nestWs := List.mem_of_getElem? (i := 3) rfl
theorem nw_4 : Cond.fieldLinkNest "Foundry" 148 "Foundry$Plant" "fires" "[I" "Foundry" ∈ nestWs := List.mem_of_getElem? (i := 4) rfl
theorem nw_5 : Cond.fieldLinkNest "Foundry" 178 "Foundry$Plant" "ladles" "[LFoundry$Vessel;" "Foundry" ∈ nestWs := List.mem_of_getElem? (i := 5) rfl
theorem nw_6 : Cond.fieldLinkNest "Foundry" 181 "Foundry$Plant" "mouldCount" "I" "Foundry" ∈ nestWs := List.mem_of_getElem? (i := 6) rfl
theorem nw_7 : Cond.fieldLinkNest "Foundry" 184 "Foundry$Plant" "volumes" "[I" "Foundry" ∈ nestWs := List.mem_of_getElem? (i := 7) rfl
theorem nw_8 : Cond.fieldLinkNest "Foundry" 187 "Foundry$Plant" "moulds" "[LFoundry$Mixture;" "Foundry" ∈ nestWs := List.mem_of_getElem? (i := 8) rfl
theorem nw_9 : Cond.fieldLinkNest "Foundry" 191 "Foundry$Plant" "ingotCount" "I" "Foundry" ∈ nestWs := List.mem_of_getElem? (i := 9) rfl
theorem nw_10 : Cond.fieldLinkNest "Foundry" 194 "Foundry$Plant" "ingots" "[LFoundry$Mixture;" "Foundry" ∈ nestWs := List.mem_of_getElem? (i := 10) rfl
theorem nw_11 : Cond.fieldLinkNest "Foundry" 207 "Foundry$Plant" "minutes" "I" "Foundry" ∈ nestWs := List.mem_of_getElem? (i := 11) rfl
theorem nw_12 : Cond.fieldLinkNest "Foundry" 210 "Foundry$Plant" "chargedSoFar" "LFoundry$Mixture;" "Foundry" ∈ nestWs := List.mem_of_getElem? (i := 12) rfl
theorem nw_13 : Cond.fieldLinkNest "Foundry" 213 "Foundry$Plant" "slagSoFar" "LFoundry$Mixture;" "Foundry" ∈ nestWs := List.mem_of_getElem? (i := 13) rfl
theorem nw_14 : Cond.fieldLinkNest "Foundry" 255 "Foundry$Script" "length" "I" "Foundry" ∈ nestWs := List.mem_of_getElem? (i := 14) rfl
theorem nw_15 : Cond.fieldLinkNest "Foundry" 266 "Foundry$Script" "commandCount" "I" "Foundry" ∈ nestWs := List.mem_of_getElem? (i := 15) rfl
theorem nw_16 : Cond.fieldLinkNest "Foundry" 269 "Foundry$Script" "arguments" "[[I" "Foundry" ∈ nestWs := List.mem_of_getElem? (i := 16) rfl
theorem nw_17 : Cond.fieldLinkNest "Foundry" 273 "Foundry$Script" "commands" "[LFoundry$Command;" "Foundry" ∈ nestWs := List.mem_of_getElem? (i := 17) rfl
theorem nw_18 : Cond.fieldLinkNest "Foundry" 284 "Foundry$History" "count" "I" "Foundry" ∈ nestWs := List.mem_of_getElem? (i := 18) rfl
theorem nw_19 : Cond.fieldLinkNest "Foundry$Mixture" 33 "Foundry" "MELTING_POINTS" "[I" "Foundry" ∈ nestWs := List.mem_of_getElem? (i := 19) rfl
theorem nw_20 : Cond.fieldLinkNest "Foundry$Plant" 115 "Foundry$Vessel" "content" "LFoundry$Mixture;" "Foundry" ∈ nestWs := List.mem_of_getElem? (i := 20) rfl
theorem nw_21 : Cond.fieldLinkNest "Foundry$Plant" 125 "Foundry$Mixture" "masses" "[I" "Foundry" ∈ nestWs := List.mem_of_getElem? (i := 21) rfl
theorem nw_22 : Cond.fieldLinkNest "Foundry$Plant" 128 "Foundry$Vessel" "temperature" "I" "Foundry" ∈ nestWs := List.mem_of_getElem? (i := 22) rfl
theorem nw_23 : Cond.fieldLinkNest "Foundry$Script" 48 "Foundry$Command" "form" "Ljava/lang/String;" "Foundry" ∈ nestWs := List.mem_of_getElem? (i := 23) rfl
theorem nw_24 : Cond.fieldLinkNest "Foundry$Script" 56 "Foundry" "COMMANDS" "[LFoundry$Command;" "Foundry" ∈ nestWs := List.mem_of_getElem? (i := 24) rfl
theorem nw_25 : Cond.fieldLinkNest "Foundry$Script" 59 "Foundry$Command" "word" "Ljava/lang/String;" "Foundry" ∈ nestWs := List.mem_of_getElem? (i := 25) rfl
theorem nw_26 : Cond.methodLinkNest "Foundry" 32 ⟨"Foundry$Script", "<init>", "()V"⟩ "Foundry" ∈ nestWs := List.mem_of_getElem? (i := 26) rfl
theorem nw_27 : Cond.methodLinkNest "Foundry$Plant" 108 ⟨"Foundry", "outside", "(II)Z"⟩ "Foundry" ∈ nestWs := List.mem_of_getElem? (i := 27) rfl
theorem nw_28 : Cond.methodLinkNest "Foundry$Plant" 112 ⟨"Foundry", "materialOf", "(I)I"⟩ "Foundry" ∈ nestWs := List.mem_of_getElem? (i := 28) rfl
theorem nw_29 : Cond.methodLinkNest "Foundry$Plant" 143 ⟨"Foundry$Mixture", "move", "(IILFoundry$Mixture;)V"⟩ "Foundry" ∈ nestWs := List.mem_of_getElem? (i := 29) rfl
theorem nw_30 : Cond.methodLinkNest "Foundry$Plant" 173 ⟨"Foundry", "withinLimits", "(I)I"⟩ "Foundry" ∈ nestWs := List.mem_of_getElem? (i := 30) rfl
theorem nw_31 : Cond.methodLinkNest "Foundry$Plant" 43 ⟨"Foundry$Mixture", "<init>", "()V"⟩ "Foundry" ∈ nestWs := List.mem_of_getElem? (i := 31) rfl
theorem nw_32 : Cond.methodLinkNest "Foundry$Script" 92 ⟨"Foundry", "materialOf", "(I)I"⟩ "Foundry" ∈ nestWs := List.mem_of_getElem? (i := 32) rfl
theorem nw_33 : Cond.methodLinkNest "Foundry$Vessel" 11 ⟨"Foundry$Mixture", "<init>", "()V"⟩ "Foundry" ∈ nestWs := List.mem_of_getElem? (i := 33) rfl
theorem nw_34 : Cond.methodLinkNest "Foundry$Vessel" 36 ⟨"Foundry", "withinLimits", "(I)I"⟩ "Foundry" ∈ nestWs := List.mem_of_getElem? (i := 34) rfl
theorem nw_35 : Cond.castable "java/lang/IndexOutOfBoundsException" "java/lang/IndexOutOfBoundsException" ∈ nestWs := List.mem_of_getElem? (i := 35) rfl
theorem nw_36 : Cond.castable "java/lang/IllegalArgumentException" "java/lang/IllegalArgumentException" ∈ nestWs := List.mem_of_getElem? (i := 36) rfl
theorem nw_37 : Cond.castable "java/util/NoSuchElementException" "java/util/NoSuchElementException" ∈ nestWs := List.mem_of_getElem? (i := 37) rfl
theorem nw_38 : Cond.castable "java/lang/IllegalStateException" "java/lang/IllegalStateException" ∈ nestWs := List.mem_of_getElem? (i := 38) rfl
theorem nw_39 : Cond.castable "java/lang/UnsupportedOperationException" "java/lang/UnsupportedOperationException" ∈ nestWs := List.mem_of_getElem? (i := 39) rfl
theorem nw_40 : Cond.castable "java/lang/ArithmeticException" "java/lang/ArithmeticException" ∈ nestWs := List.mem_of_getElem? (i := 40) rfl
theorem nw_41 : Cond.declares ⟨"java/lang/RuntimeException", "<init>", "()V"⟩ ∈ nestWs := List.mem_of_getElem? (i := 41) rfl
theorem nw_42 : Cond.declares ⟨"java/lang/Exception", "<init>", "()V"⟩ ∈ nestWs := List.mem_of_getElem? (i := 42) rfl
theorem nw_43 : Cond.declares ⟨"java/lang/Throwable", "<init>", "()V"⟩ ∈ nestWs := List.mem_of_getElem? (i := 43) rfl
theorem nw_44 : Cond.selects "java/lang/StringBuilder" ⟨"java/lang/AbstractStringBuilder", "ensureCapacityInternal", "(I)V"⟩ ⟨"java/lang/AbstractStringBuilder", "ensureCapacityInternal", "(I)V"⟩ ∈ nestWs := List.mem_of_getElem? (i := 44) rfl
theorem nw_45 : Cond.selects "java/lang/StringBuilder" ⟨"java/lang/AbstractStringBuilder", "newCapacity", "(I)I"⟩ ⟨"java/lang/AbstractStringBuilder", "newCapacity", "(I)I"⟩ ∈ nestWs := List.mem_of_getElem? (i := 45) rfl
def enN : List String := ["CHARGE", "FIRE", "SKIM", "TAP", "BACK", "MOULD", "POUR", "BREAK", "MELT", "WAIT"]
def enF : List (String × String × String × List Int32) := [("java/lang/Enum", "ordinal", "I", [0, 1, 2, 3, 4, 5, 6, 7, 8, 9])]
def strT : List (List Int32) := [[99, 104, 97, 114, 103, 101, 32], [102, 105, 114, 101, 32], [115, 107, 105, 109, 32], [116, 97, 112, 32], [98, 97, 99, 107, 32], [109, 111, 117, 108, 100, 32], [112, 111, 117, 114, 32], [98, 114, 101, 97, 107, 32], [109, 101, 108, 116, 32], [119, 97, 105, 116, 32], [100, 32, 109, 110], [100, 32, 100], [100], [100, 32, 100, 32, 110], [110], [110, 32, 100]]
def strL : List Nat := [7, 5, 5, 4, 5, 6, 5, 6, 5, 5, 4, 3, 1, 5, 1, 3]
def fmi (i : Nat) : Nat := [10, 11, 12, 13, 11, 14, 11, 12, 15, 14].getD i 0
def digT : Nat → Value := fun j => .int (nI (48 + j / 10))
def digO : Nat → Value := fun j => .int (nI (48 + j % 10))
def EnvZ (G : GT) (U : State) (H : Heap) : Prop :=
  (va_Z "Foundry" "MELTING_POINTS" "[I" (.ref (cy G 41)) (Ab G) U H ∧ va_T .int (cy G 41) 4 mpV (Ab G) U H) ∧
  (va_Z "Foundry" "LETTERS" "[C" (.ref (cy G 40)) (Ab G) U H ∧ va_T .char (cy G 40) 4 ltV (Ab G) U H) ∧
  vx_Zq Bundle.tN "UNASSIGNED_STACK" Bundle.steD (Ab G) U H ∧ vx_Zq Bundle.tN "SUPPRESSED_SENTINEL" Bundle.listD (Ab G) U H ∧
  va_En "Foundry$Command" "LFoundry$Command;" enN enF (fun i => cy G (20 + i)) (Ab G) U H ∧
  (va_Z "Foundry" "COMMANDS" "[LFoundry$Command;" (.ref (cy G 42)) (Ab G) U H ∧ va_T (.object "Foundry$Command") (cy G 42) 10 (fun j => .ref (cy G (20 + j))) (Ab G) U H) ∧
  (va_Z "Foundry$1" "$SwitchMap$Foundry$Command" "[I" (.ref (cy G 43)) (Ab G) U H ∧ va_T .int (cy G 43) 10 (fun j => .int (nI (j + 1))) (Ab G) U H) ∧
  vk_S 16 strL strT (fun i => cy G (50 + i)) (fun i => cy G (70 + i)) (Ab G) U H ∧
  va_Ef 10 "Foundry$Command" "word" "Ljava/lang/String;" (fun i => .ref (cy G (50 + i))) (fun i => cy G (20 + i)) (Ab G) U H ∧
  va_Ef 10 "Foundry$Command" "form" "Ljava/lang/String;" (fun i => .ref (cy G (50 + fmi i))) (fun i => cy G (20 + i)) (Ab G) U H ∧
  va_Z "java/lang/String" "COMPACT_STRINGS" "Z" (.int 1) (Ab G) U H ∧
  (va_Z "java/lang/Integer" "DigitTens" "[B" (.ref (cy G 44)) (Ab G) U H ∧ va_T .byte (cy G 44) 100 digT (Ab G) U H) ∧
  (va_Z "java/lang/Integer" "DigitOnes" "[B" (.ref (cy G 45)) (Ab G) U H ∧ va_T .byte (cy G 45) 100 digO (Ab G) U H) ∧
  va_Zq "jdk/internal/util/Preconditions" "SIOOBE_FORMATTER" "Ljava/util/function/BiFunction;" (Ab G) U H
def ncPairs : List (String × String) := [("java/lang/IndexOutOfBoundsException", "java/lang/IllegalArgumentException"), ("java/lang/IndexOutOfBoundsException", "java/util/NoSuchElementException"), ("java/lang/IndexOutOfBoundsException", "java/lang/IllegalStateException"), ("java/lang/IndexOutOfBoundsException", "java/lang/UnsupportedOperationException"), ("java/lang/IndexOutOfBoundsException", "java/lang/ArithmeticException"), ("java/lang/IllegalArgumentException", "java/lang/IndexOutOfBoundsException"), ("java/lang/IllegalArgumentException", "java/util/NoSuchElementException"), ("java/lang/IllegalArgumentException", "java/lang/IllegalStateException"), ("java/lang/IllegalArgumentException", "java/lang/UnsupportedOperationException"), ("java/lang/IllegalArgumentException", "java/lang/ArithmeticException"), ("java/util/NoSuchElementException", "java/lang/IndexOutOfBoundsException"), ("java/util/NoSuchElementException", "java/lang/IllegalArgumentException"), ("java/util/NoSuchElementException", "java/lang/IllegalStateException"), ("java/util/NoSuchElementException", "java/lang/UnsupportedOperationException"), ("java/util/NoSuchElementException", "java/lang/ArithmeticException"), ("java/lang/IllegalStateException", "java/lang/IndexOutOfBoundsException"), ("java/lang/IllegalStateException", "java/lang/IllegalArgumentException"), ("java/lang/IllegalStateException", "java/util/NoSuchElementException"), ("java/lang/IllegalStateException", "java/lang/UnsupportedOperationException"), ("java/lang/IllegalStateException", "java/lang/ArithmeticException"), ("java/lang/UnsupportedOperationException", "java/lang/IndexOutOfBoundsException"), ("java/lang/UnsupportedOperationException", "java/lang/IllegalArgumentException"), ("java/lang/UnsupportedOperationException", "java/util/NoSuchElementException"), ("java/lang/UnsupportedOperationException", "java/lang/IllegalStateException"), ("java/lang/UnsupportedOperationException", "java/lang/ArithmeticException"), ("java/lang/ArithmeticException", "java/lang/IndexOutOfBoundsException"), ("java/lang/ArithmeticException", "java/lang/IllegalArgumentException"), ("java/lang/ArithmeticException", "java/util/NoSuchElementException"), ("java/lang/ArithmeticException", "java/lang/IllegalStateException"), ("java/lang/ArithmeticException", "java/lang/UnsupportedOperationException")]
def EnvN (U : State) : Prop := (∀ w ∈ nestWs, va_Nw w U) ∧ ∀ q ∈ ncPairs, va_Nc q.1 q.2 U
def EnvG (G : GT) (U : State) (H : Heap) : Prop := va_K (gD G) vwCl (tysG G) U ∧ EnvN U ∧ EnvZ G U H
theorem EnvZ.moved {G : GT} {u U : State} {H : Heap} (hvm : u.vm.Alike U.vm) (h : EnvZ G u H) : EnvZ G U H := by
  obtain ⟨⟨a1, a2⟩, ⟨b1, b2⟩, c1, c2, d1, ⟨e1, e2⟩, ⟨f1, f2⟩, g1, g2, g3, h1, ⟨i1, i2⟩, ⟨j1, j2⟩, k1⟩ := h
  exact ⟨⟨a1.moved hvm, a2.moved hvm⟩, ⟨b1.moved hvm, b2.moved hvm⟩, c1.moved hvm, c2.moved hvm, d1.moved hvm, ⟨e1.moved hvm, e2.moved hvm⟩, ⟨f1.moved hvm, f2.moved hvm⟩, g1.moved hvm, fun k hk => (g2 k hk).moved hvm, fun k hk => (g3 k hk).moved hvm, h1.moved hvm, ⟨i1.moved hvm, i2.moved hvm⟩, ⟨j1.moved hvm, j2.moved hvm⟩, k1.moved hvm⟩
theorem EnvZ.kept {G : GT} {U : State} {H H1 : Heap} (h : EnvZ G U H) (hq : ∀ a : Nat, a < H.size → ¬ Ab G a → H1[a]? = H[a]?) : EnvZ G U H1 := by
  obtain ⟨⟨a1, a2⟩, ⟨b1, b2⟩, c1, c2, d1, ⟨e1, e2⟩, ⟨f1, f2⟩, g1, g2, g3, h1, ⟨i1, i2⟩, ⟨j1, j2⟩, k1⟩ := h
  exact ⟨⟨a1.kept hq, a2.kept hq⟩, ⟨b1.kept hq, b2.kept hq⟩, c1.kept hq, c2.kept hq, d1.kept hq, ⟨e1.kept hq, e2.kept hq⟩, ⟨f1.kept hq, f2.kept hq⟩, g1.kept hq, fun k hk => (g2 k hk).kept hq, fun k hk => (g3 k hk).kept hq, h1.kept hq, ⟨i1.kept hq, i2.kept hq⟩, ⟨j1.kept hq, j2.kept hq⟩, k1.kept hq⟩
theorem nw_warmS {C : String} {x : MethodName} {s U : State} (hx : x.cls ≠ "java/lang/invoke/MethodHandle" ∧ x.cls ≠ "java/lang/invoke/VarHandle") (hW : s.WarmedH U.vm) (hZ : va_Nw (.selects C x x) s) : va_Nw (.selects C x x) U := by
  obtain ⟨c2, r2, m2, -, -, q3, -⟩ := Cond.selects_spec hZ
  exact va_tabs rfl (rfl : (s.setVm U.vm).vm = U.vm) (by rw [Cond.selects_setVm hW.alike q3 hx]; exact hZ)
theorem nest_warm {s U : State} (hW : s.WarmedH U.vm) (h : EnvN s) : EnvN U := by
  refine ⟨?_, fun q hq => (h.2 q hq).moved hW.alike⟩
  have F : ∀ (L : List Cond), (∀ w ∈ L, ((∃ a i b n d h, w = .fieldLinkNest a i b n d h) ∨ ∃ a i x h, w = .methodLinkNest a i x h) ∨ (∃ a b, w = .castable a b) ∨ (∃ x, w = .declares x) ∨ ∃ x : MethodName, (x.cls ≠ "java/lang/invoke/MethodHandle" ∧ x.cls ≠ "java/lang/invoke/VarHandle") ∧ w = .selects "java/lang/StringBuilder" x x) → (∀ w ∈ L, va_Nw w s) → ∀ w ∈ L, va_Nw w U := by
    intro L hL h w hw
    rcases hL w hw with (⟨a, i, b, n, d, h9, rfl⟩ | ⟨a, i, x, h9, rfl⟩) | ⟨a, b, rfl⟩ | ⟨x, rfl⟩ | ⟨x, hx, rfl⟩
    · exact va_Nw.warmF hW (h _ hw)
    · exact va_Nw.warmM hW (h _ hw)
    · exact va_Nw.warmC hW (h _ hw)
    · exact va_Nw.warmD hW (h _ hw)
    · exact nw_warmS hx hW (h _ hw)
  refine F nestWs ?_ h.1
  intro w hw
  simp only [nestWs, List.mem_cons, List.not_mem_nil, or_false] at hw
  rcases hw with rfl | rfl | rfl | rfl | rfl | rfl | rfl | rfl | rfl | rfl | rfl | rfl | rfl | rfl | rfl | rfl | rfl | rfl | rfl | rfl | rfl | rfl | rfl | rfl | rfl | rfl | rfl | rfl | rfl | rfl | rfl | rfl | rfl | rfl | rfl | rfl | rfl | rfl | rfl | rfl | rfl | rfl | rfl | rfl | rfl | rfl
  · exact Or.inl (Or.inl ⟨_, _, _, _, _, _, rfl⟩)
  · exact Or.inl (Or.inl ⟨_, _, _, _, _, _, rfl⟩)
  · exact Or.inl (Or.inl ⟨_, _, _, _, _, _, rfl⟩)
  · exact Or.inl (Or.inl ⟨_, _, _, _, _, _, rfl⟩)
  · exact Or.inl (Or.inl ⟨_, _, _, _, _, _, rfl⟩)
  · exact Or.inl (Or.inl ⟨_, _, _, _, _, _, rfl⟩)
  · exact Or.inl (Or.inl ⟨_, _, _, _, _, _, rfl⟩)
  · exact Or.inl (Or.inl ⟨_, _, _, _, _, _, rfl⟩)
  · exact Or.inl (Or.inl ⟨_, _, _, _, _, _, rfl⟩)
  · exact Or.inl (Or.inl ⟨_, _, _, _, _, _, rfl⟩)
  · exact Or.inl (Or.inl ⟨_, _, _, _, _, _, rfl⟩)
  · exact Or.inl (Or.inl ⟨_, _, _, _, _, _, rfl⟩)
  · exact Or.inl (Or.inl ⟨_, _, _, _, _, _, rfl⟩)
  · exact Or.inl (Or.inl ⟨_, _, _, _, _, _, rfl⟩)
  · exact Or.inl (Or.inl ⟨_, _, _, _, _, _, rfl⟩)
  · exact Or.inl (Or.inl ⟨_, _, _, _, _, _, rfl⟩)
  · exact Or.inl (Or.inl ⟨_, _, _, _, _, _, rfl⟩)
  · exact Or.inl (Or.inl ⟨_, _, _, _, _, _, rfl⟩)
  · exact Or.inl (Or.inl ⟨_, _, _, _, _, _, rfl⟩)
  · exact Or.inl (Or.inl ⟨_, _, _, _, _, _, rfl⟩)
  · exact Or.inl (Or.inl ⟨_, _, _, _, _, _, rfl⟩)
  · exact Or.inl (Or.inl ⟨_, _, _, _, _, _, rfl⟩)
  · exact Or.inl (Or.inl ⟨_, _, _, _, _, _, rfl⟩)
  · exact Or.inl (Or.inl ⟨_, _, _, _, _, _, rfl⟩)
  · exact Or.inl (Or.inl ⟨_, _, _, _, _, _, rfl⟩)
  · exact Or.inl (Or.inl ⟨_, _, _, _, _, _, rfl⟩)
  · exact Or.inl (Or.inr ⟨_, _, _, _, rfl⟩)
  · exact Or.inl (Or.inr ⟨_, _, _, _, rfl⟩)
  · exact Or.inl (Or.inr ⟨_, _, _, _, rfl⟩)
  · exact Or.inl (Or.inr ⟨_, _, _, _, rfl⟩)
  · exact Or.inl (Or.inr ⟨_, _, _, _, rfl⟩)
  · exact Or.inl (Or.inr ⟨_, _, _, _, rfl⟩)
  · exact Or.inl (Or.inr ⟨_, _, _, _, rfl⟩)
  · exact Or.inl (Or.inr ⟨_, _, _, _, rfl⟩)
  · exact Or.inl (Or.inr ⟨_, _, _, _, rfl⟩)
  · exact Or.inr (Or.inl ⟨_, _, rfl⟩)
  · exact Or.inr (Or.inl ⟨_, _, rfl⟩)
  · exact Or.inr (Or.inl ⟨_, _, rfl⟩)
  · exact Or.inr (Or.inl ⟨_, _, rfl⟩)
  · exact Or.inr (Or.inl ⟨_, _, rfl⟩)
  · exact Or.inr (Or.inl ⟨_, _, rfl⟩)
  · exact Or.inr (Or.inr (Or.inl ⟨_, rfl⟩))
  · exact Or.inr (Or.inr (Or.inl ⟨_, rfl⟩))
  · exact Or.inr (Or.inr (Or.inl ⟨_, rfl⟩))
  · exact Or.inr (Or.inr (Or.inr ⟨_, by decide, rfl⟩))
  · exact Or.inr (Or.inr (Or.inr ⟨_, by decide, rfl⟩))
theorem EnvG.to {G : GT} {s U : State} {H : Heap} {locs : List Loc} (h : EnvG G s s.heap) (hW : s.WarmedH U.vm) (hS : va_S (Ab G) s.heap H locs) (hU : U.heap = H) : EnvG G U U.heap := by
  obtain ⟨h1, h2, h3⟩ := h
  refine ⟨h1.moved hW.alike, nest_warm hW h2, EnvZ.moved hW.alike ?_⟩
  rw [hU]
  exact h3.kept hS.2.1
theorem nest_same {u U : State} (h : u.vm = U.vm) (hz : EnvN u) : EnvN U := by
  refine ⟨fun w hw => ?_, fun q hq => (hz.2 q hq).moved (by rw [h]; exact Vm.Alike.refl _)⟩
  have hon : ∀ w ∈ nestWs, w.onTables = true := by decide +kernel
  exact (hz.1 w hw).same (hon w hw) h
def In (G : GT) (X : St) (U : State) : Prop := EnvG G U U.heap ∧ Wd G X U.heap
theorem In.blind {G : GT} {X : St} {a : Array Value} {U : State} {g : JFrame} {mk : MethodId} (h : In G X U) : In G X (U.calling g mk a) := by
  obtain ⟨⟨h1, h2, h3⟩, h4⟩ := h
  exact ⟨⟨va_K.moved (u := U) (U := U.calling g mk a) (Vm.Alike.refl U.vm) h1, nest_same (u := U) (U := U.calling g mk a) rfl h2, EnvZ.moved (u := U) (U := U.calling g mk a) (Vm.Alike.refl U.vm) h3⟩, h4⟩
abbrev Kp (G : GT) (av : List Value) (X : St) : Array Value → State → Prop := va_Pc av (fun U => In G X U)
abbrev Ki (G : GT) (post : Int32 → St → Prop) : Array Value → State → Outcome → State → Prop := va_Qi post (fun Y t => Wd G Y t.heap) (Ab G)
abbrev Kv (G : GT) (post : St → Prop) : Array Value → State → Outcome → State → Prop := va_Qv post (fun Y t => Wd G Y t.heap) (Ab G)
abbrev Kr (G : GT) (post : Nat × St → Prop) : Array Value → State → Outcome → State → Prop := va_Qr post (fun Y a t => a = ad G Y.1 ∧ Wd G Y.2 t.heap) (Ab G)
abbrev rmz (f L : Nat) : Room := { frames := f, cells := 0, slots := 0, locals := L }
abbrev MetI (l : Launch) (G : GT) (y : MethodName) (ws : List Cond) (rm : Room) (av : List Value) (X : St) (post : Int32 → St → Prop) : Prop := Met l y ws rm (Kp G av X) (Ki G post) 0 0 (Ab G)
abbrev MetV (l : Launch) (G : GT) (y : MethodName) (ws : List Cond) (rm : Room) (av : List Value) (X : St) (post : St → Prop) : Prop := Met l y ws rm (Kp G av X) (Kv G post) 0 0 (Ab G)
abbrev MetR (l : Launch) (G : GT) (y : MethodName) (ws : List Cond) (rm : Room) (av : List Value) (X : St) (post : Nat × St → Prop) : Prop := Met l y ws rm (Kp G av X) (Kr G post) 0 0 (Ab G)
theorem Kp.blind {G : GT} {av : List Value} {X : St} : FrameBlind (Kp G av X) := fun _ _ _ _ h => ⟨h.1, h.2.blind⟩
abbrev Cx (p : Program) (m : MethodId) (c : Code) (cc : ByteArray) (nL : Nat) (s : State) (args : Array Value) (ws : List Cond) (own : String) (G : GT) : Prop := CallFix p m c cc nL s args ws own ∧ EnvG G s s.heap
section GMET
variable {l : Launch} {G : GT} {y : MethodName} {ws ws' : List Cond} {rm : Room} {cc : ByteArray} {maxL : Nat} {ret : Option FieldType} {av : List Value} {X : St}
/-- a contract, from its entry -/
theorem g_met {Qc : Array Value → State → Outcome → State → Prop} {mc ms : Nat} (hy : plainName y.cls = true) (hw : ws = Cond.code y cc maxL ret :: ws') (hlen : (lg_sl av).length ≤ maxL)
    (body : ∀ (p : Program) (e : Env) (s : State) (m : MethodId) (below : List Frame) (meth : Method) (c : Code) (ls : Array Slot), Cx p m c cc maxL s av.toArray ws y.cls G → meth.sig.returnType = ret → meth.locks = false → meth.name = y.name → Wd G X s.heap → lv_has ls maxL (lv_args 0 av) →
      W p l e rm s m av.toArray below meth c s.heap [] 0 0 (MQ below Qc av.toArray s mc ms (Ab G)) (F0 m 0 ls [])) : Met l y ws rm (Kp G av X) Qc mc ms (Ab G) := by
  refine Met.ofW (cc := cc) (maxL := maxL) (ret := ret) hy hw ?_
  intro p e s m args below meth c s₁ B hml hv
  obtain ⟨rfl, hE, hWd⟩ := hv
  rw [lg_entry_eq]
  exact body p e s m below meth c _ ⟨⟨B.exec, B.bytes, hml, findClass_of_methodNamed B.named, atoms_spec (ws := ws) B.pre⟩, hE⟩ B.returns B.notSynchronized (name_of_methodNamed B.named B.method).1 hWd (lv_entry av hlen)
end GMET
section GROWS
variable {p : Program} {l : Launch} {e : Env} {R : Room} {s : State} {m : MethodId} {args : Array Value} {below : List Frame} {meth : Method} {c : Code} {H : Heap} {locs : List Loc} {cells slots : Nat} {Q : State → Prop}
variable {cc : ByteArray} {nL pc : Nat} {ls : Array Slot} {rest : List Value} {G : GT} {X : St} {Ts : List Cond} {own : String}
theorem g_top {x y : Int32} (h : x = y) (kk : W p l e R s m args below meth c H locs cells slots Q (F0 m pc ls (.int y :: rest))) : W p l e R s m args below meth c H locs cells slots Q (F0 m pc ls (.int x :: rest)) := by
  rw [h]
  exact kk
theorem g_pc {pc2 : Nat} (h : pc = pc2) (kk : W p l e R s m args below meth c H locs cells slots Q (F0 m pc2 ls rest)) : W p l e R s m args below meth c H locs cells slots Q (F0 m pc ls rest) := by
  rw [h]
  exact kk
theorem g_get (C : Cx p m c cc nL s args Ts own G) (hW : Wd G X H) {Cn : String} {T : u_T} {N ci index : Nat} (hin : ∀ w ∈ u_ws Cn T N, w ∈ Ts) {k : Nat} (hk : k < NK) (h7 : k ≠ 737) {fs : List Value} (hc : cell G X k = .inr (ci, fs)) (hcl : vwCl[ci]? = some (Cn, T, N)) (j : Nat) (hj : j < N) (hlink : Cond.fieldLink own index (T j).1 (T j).2.1 (T j).2.2.1 ∈ Ts) {v : Value} (hv : fs[j]? = some v) (hdg : decode cc pc = .ok (.getfield index, 3))
    (kk : W p l e R s m args below meth c H locs cells slots Q (F0 m (pc + 3) ls (v :: rest))) : W p l e R s m args below meth c H locs cells slots Q (F0 m pc ls (.ref (ad G k) :: rest)) :=
  va_get (D := gD G) C.1.1 C.1.2.1 C.1.2.2.2.2 hin C.1.2.2.2.1 C.2.1 hW.1 k (wl_at hk h7 hc) hcl j hj (C.1.2.2.2.2 _ hlink) (fun _ h => h) hv hdg kk
theorem g_getN (C : Cx p m c cc nL s args Ts own G) (hW : Wd G X H) {Cn : String} {T : u_T} {N ci index : Nat} (hin : ∀ w ∈ u_ws Cn T N, w ∈ Ts) {k : Nat} (hk : k < NK) (h7 : k ≠ 737) {fs : List Value} (hc : cell G X k = .inr (ci, fs)) (hcl : vwCl[ci]? = some (Cn, T, N)) (j : Nat) (hj : j < N) (hlink : Cond.fieldLinkNest own index (T j).1 (T j).2.1 (T j).2.2.1 "Foundry" ∈ nestWs) {v : Value} (hv : fs[j]? = some v) (hdg : decode cc pc = .ok (.getfield index, 3))
    (kk : W p l e R s m args below meth c H locs cells slots Q (F0 m (pc + 3) ls (v :: rest))) : W p l e R s m args below meth c H locs cells slots Q (F0 m pc ls (.ref (ad G k) :: rest)) :=
  va_getN (D := gD G) C.1.1 C.1.2.1 C.1.2.2.2.2 hin C.1.2.2.2.1 C.2.1 hW.1 k (wl_at hk h7 hc) hcl j hj (va_Nw.use rfl (C.2.2.1.1 _ hlink)) (fun _ h => h) hv hdg kk
theorem g_put (C : Cx p m c cc nL s args Ts own G) (hW : Wd G X H) (hS : va_S (Ab G) s.heap H locs) {Cn : String} {T : u_T} {N ci index : Nat} (hin : ∀ w ∈ u_ws Cn T N, w ∈ Ts) {ty0 : Nat → FieldType} (hty : ∀ k, k < N → parseFieldDescriptor (T k).2.2.1 = some (ty0 k)) (hnm : ∀ a, a < N → ∀ b, b < N → a ≠ b → (T a).2.1 ≠ (T b).2.1)
    {k : Nat} (hk : k < NK) (h7 : k ≠ 737) {fs : List Value} (hc : cell G X k = .inr (ci, fs)) (hcl : vwCl[ci]? = some (Cn, T, N)) (j : Nat) (hj : j < N) (hlink : Cond.fieldLink own index (T j).1 (T j).2.1 (T j).2.2.1 ∈ Ts) (hfin : (T j).2.2.2 = false) {v : Int32} {ty : FieldType} (hd : parseFieldDescriptor (T j).2.2.1 = some ty) (hn : narrow ty (.int v) = .int v) (hfit : fits ty (.int v) = true) (hl : j < fs.length) (r i : Nat) (how : ow r i = k) (hc2 : cell G (sup X r i v) k = .inr (ci, fs.set j (.int v))) (hdg : decode cc pc = .ok (.putfield index, 3))
    (kk : ∀ (H1 : Heap) (locs1 : List Loc), Wd G (sup X r i v) H1 → va_S (Ab G) s.heap H1 locs1 → W p l e R s m args below meth c H1 locs1 cells slots Q (F0 m (pc + 3) ls rest)) : W p l e R s m args below meth c H locs cells slots Q (F0 m pc ls (.int v :: .ref (ad G k) :: rest)) :=
  va_put (D := gD G) C.1.1 C.1.2.1 C.1.2.2.2.2 hin ty0 hty hnm C.1.2.2.2.1 C.2.1 hW.1 hW.2 hS k (wl_at hk h7 hc) hcl j hj (C.1.2.2.2.2 _ hlink) (fun _ h => h) hfin hd hn hfit hl hdg (fun H1 locs1 h1 h2 h3 => by
    have hs : (wl G X).set k (ad G k, .inr (ci, fs.set j (.int v))) = wl G (sup X r i v) := wl_set hk h7 rfl hc2 (fun j9 h8 h9 => cell_ne h8 (fun q => h9 (q.symm.trans how)))
    rw [hs] at h1 h2
    exact kk H1 locs1 ⟨h1, h2⟩ h3)
theorem g_putN (C : Cx p m c cc nL s args Ts own G) (hW : Wd G X H) (hS : va_S (Ab G) s.heap H locs) {Cn : String} {T : u_T} {N ci index : Nat} (hin : ∀ w ∈ u_ws Cn T N, w ∈ Ts) {ty0 : Nat → FieldType} (hty : ∀ k, k < N → parseFieldDescriptor (T k).2.2.1 = some (ty0 k)) (hnm : ∀ a, a < N → ∀ b, b < N → a ≠ b → (T a).2.1 ≠ (T b).2.1)
    {k : Nat} (hk : k < NK) (h7 : k ≠ 737) {fs : List Value} (hc : cell G X k = .inr (ci, fs)) (hcl : vwCl[ci]? = some (Cn, T, N)) (j : Nat) (hj : j < N) (hlink : Cond.fieldLinkNest own index (T j).1 (T j).2.1 (T j).2.2.1 "Foundry" ∈ nestWs) (hfin : (T j).2.2.2 = false) {v : Int32} {ty : FieldType} (hd : parseFieldDescriptor (T j).2.2.1 = some ty) (hn : narrow ty (.int v) = .int v) (hfit : fits ty (.int v) = true) (hl : j < fs.length) (r i : Nat) (how : ow r i = k) (hc2 : cell G (sup X r i v) k = .inr (ci, fs.set j (.int v))) (hdg : decode cc pc = .ok (.putfield index, 3))
    (kk : ∀ (H1 : Heap) (locs1 : List Loc), Wd G (sup X r i v) H1 → va_S (Ab G) s.heap H1 locs1 → W p l e R s m args below meth c H1 locs1 cells slots Q (F0 m (pc + 3) ls rest)) : W p l e R s m args below meth c H locs cells slots Q (F0 m pc ls (.int v :: .ref (ad G k) :: rest)) :=
  va_putN (D := gD G) C.1.1 C.1.2.1 C.1.2.2.2.2 hin ty0 hty hnm C.1.2.2.2.1 C.2.1 hW.1 hW.2 hS k (wl_at hk h7 hc) hcl j hj (va_Nw.use rfl (C.2.2.1.1 _ hlink)) (fun _ h => h) hfin hd hn hfit hl hdg (fun H1 locs1 h1 h2 h3 => by
    have hs : (wl G X).set k (ad G k, .inr (ci, fs.set j (.int v))) = wl G (sup X r i v) := wl_set hk h7 rfl hc2 (fun j9 h8 h9 => cell_ne h8 (fun q => h9 (q.symm.trans how)))
    rw [hs] at h1 h2
    exact kk H1 locs1 ⟨h1, h2⟩ h3)
/-- an int of an int array -/
theorem g_ild (C : Cx p m c cc nL s args Ts own G) (hW : Wd G X H) {k n : Nat} {f : Nat → Int32} (hk : k < NK) (h7 : k ≠ 737) (hc : cell G X k = iarr G n f) {x v : Int32} (j : Nat) (hx : x.toNatClampNeg = j) (hin : vp_in x n) (hv : f j = v) (hdg : decode cc pc = .ok (.iaload, 1))
    (kk : W p l e R s m args below meth c H locs cells slots Q (F0 m (pc + 1) ls (.int v :: rest))) : W p l e R s m args below meth c H locs cells slots Q (F0 m pc ls (.int x :: .ref (ad G k) :: rest)) := by
  refine va_iald (D := gD G) (f := tr n f) C.1.1 C.1.2.1 C.2.1 hW.1 k 0 (wl_at hk h7 hc) rfl hin hdg ?_
  rw [tr_at (Nat.not_le.mp fun q => hin (Or.inr q)), hx, hv]
  exact kk
theorem tr_updx {n : Nat} {M : Nat → Nat → Int32} {r : Nat} {ix : Nat → Nat} {j : Nat} {v : Int32} (hj : j < n) (hinj : ∀ k, k < n → ix k = ix j → k = j) : upd (tr n fun k => M r (ix k)) j v = tr n fun k => up2 M r (ix j) v r (ix k) := by
  funext k
  by_cases hk : k = j
  · subst hk
    rw [tr_at hj, up2_same]
    exact if_pos rfl
  · by_cases h : k < n
    · rw [tr_at h, up2_ne (fun q => hk (hinj k h q.2))]
      exact (if_neg hk).trans (tr_at h)
    · exact (if_neg hk).trans ((if_neg h).trans (if_neg h).symm)
/-- an int into an int array, whose places lie at ix -/
theorem g_ist (C : Cx p m c cc nL s args Ts own G) (hW : Wd G X H) (hS : va_S (Ab G) s.heap H locs) {k n : Nat} (hk : k < NK) (h7 : k ≠ 737) (r : Nat) {ix : Nat → Nat} (hc : ∀ Y, cell G Y k = iarr G n (fun j => Y.1 r (ix j))) {x v : Int32} (j : Nat) (hx : x.toNatClampNeg = j) (hin : vp_in x n) (hinj : ∀ q, q < n → ix q = ix j → q = j) (how : ow r (ix j) = k) (i : Nat) (hi : ix j = i) (hdg : decode cc pc = .ok (.iastore, 1))
    (kk : ∀ (H1 : Heap) (locs1 : List Loc), Wd G (sup X r i v) H1 → va_S (Ab G) s.heap H1 locs1 → W p l e R s m args below meth c H1 locs1 cells slots Q (F0 m (pc + 1) ls rest)) : W p l e R s m args below meth c H locs cells slots Q (F0 m pc ls (.int v :: .int x :: .ref (ad G k) :: rest)) := by
  subst hi
  have hlt : x.toNatClampNeg < n := Nat.not_le.mp fun q => hin (Or.inr q)
  refine va_iast (D := gD G) (f := tr n fun j => X.1 r (ix j)) C.1.1 C.1.2.1 C.2.1 hW.1 hW.2 hS k 0 (wl_at hk h7 (hc X)) rfl hin hdg (fun H1 locs1 h1 h2 h3 => ?_)
  rw [hx] at h1 h2 hlt
  have hs : (wl G X).set k (ad G k, .inl (cy G 0, n, .inl (upd (tr n fun j => X.1 r (ix j)) j v))) = wl G (sup X r (ix j) v) := by
    refine wl_set hk h7 rfl ?_ (fun j9 h8 h9 => cell_ne h8 (by rw [how]; exact Ne.symm h9))
    rw [hc, tr_updx hlt hinj]
    rfl
  rw [hs] at h1 h2
  exact kk H1 locs1 ⟨h1, h2⟩ h3
/-- a reference of an array of objects -/
theorem g_ald (C : Cx p m c cc nL s args Ts own G) (hW : Wd G X H) {k n ca t0 : Nat} {f : Nat → Nat} {Cn : String} (hk : k < NK) (h7 : k ≠ 737) (hc : cell G X k = rarr G ca n f) (ht : (tysG G)[t0]? = some (cy G ca, .object Cn)) {x : Int32} (j : Nat) (hx : x.toNatClampNeg = j) (hin : vp_in x n) {o : Nat} (hv : f j = o) (hdg : decode cc pc = .ok (.aaload, 1))
    (kk : W p l e R s m args below meth c H locs cells slots Q (F0 m (pc + 1) ls (.ref (ad G o) :: rest))) : W p l e R s m args below meth c H locs cells slots Q (F0 m pc ls (.int x :: .ref (ad G k) :: rest)) := by
  refine va_aldq (D := gD G) (C := Cn) (f := fun j => if j < n then some (ad G (f j)) else none) C.1.1 C.1.2.1 C.2.1 hW.1 k t0 (wl_at hk h7 hc) ht hin hdg ?_
  have hlt : x.toNatClampNeg < n := Nat.not_le.mp fun q => hin (Or.inr q)
  rw [if_pos hlt, hx, hv]
  exact kk
/-- one of the melting points -/
theorem g_mp (C : Cx p m c cc nL s args Ts own G) (hS : va_S (Ab G) s.heap H locs) {x v : Int32} (hin : vp_in x 4) (hv : mpV x.toNatClampNeg = .int v) (hdg : decode cc pc = .ok (.iaload, 1))
    (kk : W p l e R s m args below meth c H locs cells slots Q (F0 m (pc + 1) ls (.int v :: rest))) : W p l e R s m args below meth c H locs cells slots Q (F0 m pc ls (.int x :: .ref (cy G 41) :: rest)) :=
  va_ti C.1.1 C.1.2.1 C.2.2.2.1.2 hS hin hv hdg kk
theorem g_mpS (C : Cx p m c cc nL s args Ts own G) (hS : va_S (Ab G) s.heap H locs) {index : Nat} (hlink : Cond.fieldLinkNest own index "Foundry" "MELTING_POINTS" "[I" "Foundry" ∈ nestWs) (hdg : decode cc pc = .ok (.getstatic index, 3))
    (kk : W p l e R s m args below meth c H locs cells slots Q (F0 m (pc + 3) ls (.ref (cy G 41) :: rest))) : W p l e R s m args below meth c H locs cells slots Q (F0 m pc ls rest) :=
  va_getsN C.1.1 C.1.2.1 C.2.2.2.1.1 hS C.1.2.2.2.1 (va_Nw.use rfl (C.2.2.1.1 _ hlink)) (fun _ h => h) hdg kk
theorem g_lt (C : Cx p m c cc nL s args Ts own G) (hS : va_S (Ab G) s.heap H locs) {x v : Int32} (hin : vp_in x 4) (hv : ltV x.toNatClampNeg = .int v) (hdg : decode cc pc = .ok (.caload, 1))
    (kk : W p l e R s m args below meth c H locs cells slots Q (F0 m (pc + 1) ls (.int v :: rest))) : W p l e R s m args below meth c H locs cells slots Q (F0 m pc ls (.int x :: .ref (cy G 40) :: rest)) :=
  va_tc C.1.1 C.1.2.1 C.2.2.2.2.1.2 hS hin hv hdg kk
theorem g_ltS (C : Cx p m c cc nL s args Ts own G) (hS : va_S (Ab G) s.heap H locs) {index : Nat} (hlink : Cond.fieldLink own index "Foundry" "LETTERS" "[C" ∈ Ts) (hdg : decode cc pc = .ok (.getstatic index, 3))
    (kk : W p l e R s m args below meth c H locs cells slots Q (F0 m (pc + 3) ls (.ref (cy G 40) :: rest))) : W p l e R s m args below meth c H locs cells slots Q (F0 m pc ls rest) :=
  va_gets C.1.1 C.1.2.1 C.2.2.2.2.1.1 hS C.1.2.2.2.1 (C.1.2.2.2.2 _ hlink) (fun _ h => h) hdg kk
/-! the ends -/
theorem Wd.at9 {t : State} (ht : t.heap = H) (hW : Wd G X H) : Wd G X t.heap := by
  rw [ht]
  exact hW
theorem g_in (C : Cx p m c cc nL s args Ts own G) {Y : St} {t : State} (hW : Wd G Y H) (hS : va_S (Ab G) s.heap H locs) (ht : t.heap = H) (hw : s.WarmedH t.vm) : In G Y t := ⟨C.2.to hw hS ht, by rw [ht]; exact hW⟩
theorem g_iret (C : Cx p m c cc nL s args Ts own G) (hr : meth.sig.returnType = some .int) (hlk : meth.locks = false) (hW : Wd G X H) (hS : va_S (Ab G) s.heap H locs) {post : Int32 → St → Prop} {v : Int32} (hdg : decode cc pc = .ok (.ireturn, 1)) (hp : post v X) : W p l e R s m args below meth c H locs cells slots (MQ below (Ki G post) args s cells slots (Ab G)) (F0 m pc ls [.int v]) :=
  W.iret C.1.1 C.1.2.1 hr (fun _ ht hw => ⟨⟨v, X, rfl, hp, Wd.at9 ht hW⟩, hS.F ht⟩) hS.2.2 hdg hlk
theorem g_zret (C : Cx p m c cc nL s args Ts own G) {ty : FieldType} (hr : meth.sig.returnType = some ty) (hlk : meth.locks = false) (hW : Wd G X H) (hS : va_S (Ab G) s.heap H locs) {post : Int32 → St → Prop} {v : Int32} (hdg : decode cc pc = .ok (.ireturn, 1)) (hn : narrow ty (.int v) = .int v) (hp : post v X) : W p l e R s m args below meth c H locs cells slots (MQ below (Ki G post) args s cells slots (Ab G)) (F0 m pc ls [.int v]) :=
  W.zret C.1.1 C.1.2.1 hr hn (fun _ ht hw => ⟨⟨v, X, rfl, hp, Wd.at9 ht hW⟩, hS.F ht⟩) hS.2.2 hdg hlk
theorem g_vret (C : Cx p m c cc nL s args Ts own G) (hr : meth.sig.returnType = none) (hlk : meth.locks = false) (hW : Wd G X H) (hS : va_S (Ab G) s.heap H locs) {post : St → Prop} (hdg : decode cc pc = .ok (.return_, 1)) (hp : post X) : W p l e R s m args below meth c H locs cells slots (MQ below (Kv G post) args s cells slots (Ab G)) (F0 m pc ls []) :=
  W.vret C.1.1 C.1.2.1 hr (fun _ ht hw => ⟨⟨X, rfl, hp, Wd.at9 ht hW⟩, hS.F ht⟩) hS.2.2 hdg hlk
theorem g_aret (C : Cx p m c cc nL s args Ts own G) {Cn : String} (hr : meth.sig.returnType = some (.object Cn)) (hlk : meth.locks = false) (hW : Wd G X H) (hS : va_S (Ab G) s.heap H locs) {post : Nat × St → Prop} {k : Nat} (hdg : decode cc pc = .ok (.areturn, 1)) (hp : post (k, X)) : W p l e R s m args below meth c H locs cells slots (MQ below (Kr G post) args s cells slots (Ab G)) (F0 m pc ls [.ref (ad G k)]) :=
  W.aret C.1.1 C.1.2.1 hr (Or.inl ⟨_, rfl⟩) (Or.inr ⟨_, rfl⟩) (fun _ ht hw => ⟨⟨(k, X), _, rfl, hp, rfl, Wd.at9 ht hW⟩, hS.F ht⟩) hS.2.2 hdg hlk
/-! the calls of methods that return -/
theorem g_pre (C : Cx p m c cc nL s args Ts own G) (hW : Wd G X H) (hS : va_S (Ab G) s.heap H locs) (av : List Value) : FrameBlind (Kp G av X) ∧ ∀ U : State, U.heap = H → s.WarmedH U.vm → Kp G av X av.toArray U :=
  ⟨Kp.blind, fun _ hU hw => ⟨rfl, g_in C hW hS hU hw⟩⟩
theorem g_preV (C : Cx p m c cc nL s args Ts own G) (hW : Wd G X H) (hS : va_S (Ab G) s.heap H locs) {Cn : String} {T : u_T} {N ci k : Nat} (hk : k < NK) (h7 : k ≠ 737) {fs : List Value} (hc : cell G X k = .inr (ci, fs)) (hcl : vwCl[ci]? = some (Cn, T, N)) (As : List Value) : PreV s H Cn (ad G k) (Kp G (.ref (ad G k) :: As) X) As :=
  ⟨Kp.blind, va_recv (D := gD G) C.2.1 hW.1 hcl (wl_at hk h7 hc), (g_pre C hW hS _).2⟩
variable {post : Int32 → St → Prop} {postv : St → Prop} {postr : Nat × St → Prop} {a : Array Value} {st0 : List Value}
theorem g_calli (hr : va_Run p l e R s m args below meth c H locs cells slots 0 0 (F0 m pc ls st0) rest (Ki G post a) (Ab G)) (hS : va_S (Ab G) s.heap H locs)
    (kk : ∀ (r : Int32) (Y : St) (H1 : Heap) (locs1 : List Loc), Wd G Y H1 → va_S (Ab G) s.heap H1 locs1 → post r Y → W p l e R s m args below meth c H1 locs1 cells slots Q (F0 m (pc + 3) ls (.int r :: rest))) : W p l e R s m args below meth c H locs cells slots Q (F0 m pc ls st0) :=
  va_calli hr hS (fun _ _ h => h) (fun _ h => h) (fun r Y _ H1 locs1 ht _ hp hB _ _ hS1 => kk r Y H1 locs1 (by rw [← ht]; exact hB) hS1 hp)
theorem g_callv (hr : va_Run p l e R s m args below meth c H locs cells slots 0 0 (F0 m pc ls st0) rest (Kv G postv a) (Ab G)) (hS : va_S (Ab G) s.heap H locs)
    (kk : ∀ (Y : St) (H1 : Heap) (locs1 : List Loc), Wd G Y H1 → va_S (Ab G) s.heap H1 locs1 → postv Y → W p l e R s m args below meth c H1 locs1 cells slots Q (F0 m (pc + 3) ls rest)) : W p l e R s m args below meth c H locs cells slots Q (F0 m pc ls st0) :=
  va_callv hr hS (fun _ _ h => h) (fun _ h => h) (fun Y _ H1 locs1 ht _ hp hB _ _ hS1 => kk Y H1 locs1 (by rw [← ht]; exact hB) hS1 hp)
end GROWS
