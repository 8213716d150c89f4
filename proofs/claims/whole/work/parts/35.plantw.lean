/-! A plant as its constructor makes it. -/
def tmp0 : Nat → Int32 := fun i => if i = 13 ∨ i = 19 ∨ i = 25 ∨ i = 31 ∨ i = 36 ∨ i = 41 then 20 else 0
def plG (G : GT) (a : Nat → Nat) : GT := (gD G, (cy G, (a, G.2.2.2)))
def pcq (G : GT) (a : Nat → Nat) (o : Nat) : va_E := pcell (plG G a) (fun _ => tmp0) 0 o
def plq (G : GT) (a : Nat → Nat) : va_W := (List.range 65).map fun o => (a o, pcq G a o)
theorem tz {n : Nat} {f : Nat → Int32} (h : ∀ j, j < n → f j = 0) : tr n f = fun _ => 0 := by
  funext j
  by_cases hj : j < n
  · rw [tr_at hj, h j hj]
  · exact if_neg hj
theorem pq_0 (G : GT) (a : Nat → Nat) : pcq G a 0 = .inr (6, [.ref (a 1), .ref (a 2), .ref (a 3), .ref (a 4), .ref (a 5), .int 0, .ref (a 6), .int 0, .ref (a 7), .ref (a 9), .int 0]) := rfl
theorem pq_1 (G : GT) (a : Nat → Nat) : pcq G a 1 = .inl (cy G 5, 3, .inr (.inr (.inr (.inr (va_up (va_up (va_up (fun _ => none) 0 (some (a 11))) 1 (some (a 14))) 2 (some (a 17))))))) := by
  show Sum.inl (cy G 5, 3, Sum.inr (Sum.inr (Sum.inr (Sum.inr _)))) = Sum.inl (cy G 5, 3, Sum.inr (Sum.inr (Sum.inr (Sum.inr _))))
  refine congrArg (fun z => (Sum.inl (cy G 5, 3, Sum.inr (Sum.inr (Sum.inr (Sum.inr z)))) : va_E)) (funext fun j => ?_)
  match j with
  | 0 => rfl
  | 1 => rfl
  | 2 => rfl
  | k + 3 =>
    show (if k + 3 < 3 then _ else none) = _
    rw [if_neg (by omega)]
    unfold va_up
    rw [if_neg (by omega), if_neg (by omega), if_neg (by omega)]
theorem pq_2 (G : GT) (a : Nat → Nat) : pcq G a 2 = .inl (cy G 0, 3, .inl (fun _ => 0)) := by
  show Sum.inl (cy G 0, 3, Sum.inl (tr 3 _)) = _
  rw [tz (by decide)]
theorem pq_3 (G : GT) (a : Nat → Nat) : pcq G a 3 = .inl (cy G 5, 3, .inr (.inr (.inr (.inr (va_up (va_up (va_up (fun _ => none) 0 (some (a 20))) 1 (some (a 23))) 2 (some (a 26))))))) := by
  show Sum.inl (cy G 5, 3, Sum.inr (Sum.inr (Sum.inr (Sum.inr _)))) = Sum.inl (cy G 5, 3, Sum.inr (Sum.inr (Sum.inr (Sum.inr _))))
  refine congrArg (fun z => (Sum.inl (cy G 5, 3, Sum.inr (Sum.inr (Sum.inr (Sum.inr z)))) : va_E)) (funext fun j => ?_)
  match j with
  | 0 => rfl
  | 1 => rfl
  | 2 => rfl
  | k + 3 =>
    show (if k + 3 < 3 then _ else none) = _
    rw [if_neg (by omega)]
    unfold va_up
    rw [if_neg (by omega), if_neg (by omega), if_neg (by omega)]
theorem pq_4 (G : GT) (a : Nat → Nat) : pcq G a 4 = .inl (cy G 6, 6, .inr (.inr (.inr (.inr (va_up (va_up (va_up (va_up (va_up (va_up (fun _ => none) 0 (some (a 29))) 1 (some (a 31))) 2 (some (a 33))) 3 (some (a 35))) 4 (some (a 37))) 5 (some (a 39))))))) := by
  show Sum.inl (cy G 6, 6, Sum.inr (Sum.inr (Sum.inr (Sum.inr _)))) = Sum.inl (cy G 6, 6, Sum.inr (Sum.inr (Sum.inr (Sum.inr _))))
  refine congrArg (fun z => (Sum.inl (cy G 6, 6, Sum.inr (Sum.inr (Sum.inr (Sum.inr z)))) : va_E)) (funext fun j => ?_)
  match j with
  | 0 => rfl
  | 1 => rfl
  | 2 => rfl
  | 3 => rfl
  | 4 => rfl
  | 5 => rfl
  | k + 6 =>
    show (if k + 6 < 6 then _ else none) = _
    rw [if_neg (by omega)]
    unfold va_up
    rw [if_neg (by omega), if_neg (by omega), if_neg (by omega), if_neg (by omega), if_neg (by omega), if_neg (by omega)]
theorem pq_5 (G : GT) (a : Nat → Nat) : pcq G a 5 = .inl (cy G 0, 6, .inl (fun _ => 0)) := by
  show Sum.inl (cy G 0, 6, Sum.inl (tr 6 _)) = _
  rw [tz (by decide)]
theorem pq_6 (G : GT) (a : Nat → Nat) : pcq G a 6 = .inl (cy G 6, 12, .inr (.inr (.inr (.inr (va_up (va_up (va_up (va_up (va_up (va_up (va_up (va_up (va_up (va_up (va_up (va_up (fun _ => none) 0 (some (a 41))) 1 (some (a 43))) 2 (some (a 45))) 3 (some (a 47))) 4 (some (a 49))) 5 (some (a 51))) 6 (some (a 53))) 7 (some (a 55))) 8 (some (a 57))) 9 (some (a 59))) 10 (some (a 61))) 11 (some (a 63))))))) := by
  show Sum.inl (cy G 6, 12, Sum.inr (Sum.inr (Sum.inr (Sum.inr _)))) = Sum.inl (cy G 6, 12, Sum.inr (Sum.inr (Sum.inr (Sum.inr _))))
  refine congrArg (fun z => (Sum.inl (cy G 6, 12, Sum.inr (Sum.inr (Sum.inr (Sum.inr z)))) : va_E)) (funext fun j => ?_)
  match j with
  | 0 => rfl
  | 1 => rfl
  | 2 => rfl
  | 3 => rfl
  | 4 => rfl
  | 5 => rfl
  | 6 => rfl
  | 7 => rfl
  | 8 => rfl
  | 9 => rfl
  | 10 => rfl
  | 11 => rfl
  | k + 12 =>
    show (if k + 12 < 12 then _ else none) = _
    rw [if_neg (by omega)]
    unfold va_up
    rw [if_neg (by omega), if_neg (by omega), if_neg (by omega), if_neg (by omega), if_neg (by omega), if_neg (by omega), if_neg (by omega), if_neg (by omega), if_neg (by omega), if_neg (by omega), if_neg (by omega), if_neg (by omega)]
theorem pq_7 (G : GT) (a : Nat → Nat) : pcq G a 7 = .inr (5, [.ref (a 8)]) := rfl
theorem pq_8 (G : GT) (a : Nat → Nat) : pcq G a 8 = .inl (cy G 0, 4, .inl (fun _ => 0)) := by
  show Sum.inl (cy G 0, 4, Sum.inl (tr 4 _)) = _
  rw [tz (by decide)]
theorem pq_9 (G : GT) (a : Nat → Nat) : pcq G a 9 = .inr (5, [.ref (a 10)]) := rfl
theorem pq_10 (G : GT) (a : Nat → Nat) : pcq G a 10 = .inl (cy G 0, 4, .inl (fun _ => 0)) := by
  show Sum.inl (cy G 0, 4, Sum.inl (tr 4 _)) = _
  rw [tz (by decide)]
theorem pq_11 (G : GT) (a : Nat → Nat) : pcq G a 11 = .inr (8, [.ref (a 12), .int 10, .int 20]) := rfl
theorem pq_12 (G : GT) (a : Nat → Nat) : pcq G a 12 = .inr (5, [.ref (a 13)]) := rfl
theorem pq_13 (G : GT) (a : Nat → Nat) : pcq G a 13 = .inl (cy G 0, 4, .inl (fun _ => 0)) := by
  show Sum.inl (cy G 0, 4, Sum.inl (tr 4 _)) = _
  rw [tz (by decide)]
theorem pq_14 (G : GT) (a : Nat → Nat) : pcq G a 14 = .inr (8, [.ref (a 15), .int 10, .int 20]) := rfl
theorem pq_15 (G : GT) (a : Nat → Nat) : pcq G a 15 = .inr (5, [.ref (a 16)]) := rfl
theorem pq_16 (G : GT) (a : Nat → Nat) : pcq G a 16 = .inl (cy G 0, 4, .inl (fun _ => 0)) := by
  show Sum.inl (cy G 0, 4, Sum.inl (tr 4 _)) = _
  rw [tz (by decide)]
theorem pq_17 (G : GT) (a : Nat → Nat) : pcq G a 17 = .inr (8, [.ref (a 18), .int 10, .int 20]) := rfl
theorem pq_18 (G : GT) (a : Nat → Nat) : pcq G a 18 = .inr (5, [.ref (a 19)]) := rfl
theorem pq_19 (G : GT) (a : Nat → Nat) : pcq G a 19 = .inl (cy G 0, 4, .inl (fun _ => 0)) := by
  show Sum.inl (cy G 0, 4, Sum.inl (tr 4 _)) = _
  rw [tz (by decide)]
theorem pq_20 (G : GT) (a : Nat → Nat) : pcq G a 20 = .inr (8, [.ref (a 21), .int 0, .int 20]) := rfl
theorem pq_21 (G : GT) (a : Nat → Nat) : pcq G a 21 = .inr (5, [.ref (a 22)]) := rfl
theorem pq_22 (G : GT) (a : Nat → Nat) : pcq G a 22 = .inl (cy G 0, 4, .inl (fun _ => 0)) := by
  show Sum.inl (cy G 0, 4, Sum.inl (tr 4 _)) = _
  rw [tz (by decide)]
theorem pq_23 (G : GT) (a : Nat → Nat) : pcq G a 23 = .inr (8, [.ref (a 24), .int 0, .int 20]) := rfl
theorem pq_24 (G : GT) (a : Nat → Nat) : pcq G a 24 = .inr (5, [.ref (a 25)]) := rfl
theorem pq_25 (G : GT) (a : Nat → Nat) : pcq G a 25 = .inl (cy G 0, 4, .inl (fun _ => 0)) := by
  show Sum.inl (cy G 0, 4, Sum.inl (tr 4 _)) = _
  rw [tz (by decide)]
theorem pq_26 (G : GT) (a : Nat → Nat) : pcq G a 26 = .inr (8, [.ref (a 27), .int 0, .int 20]) := rfl
theorem pq_27 (G : GT) (a : Nat → Nat) : pcq G a 27 = .inr (5, [.ref (a 28)]) := rfl
theorem pq_28 (G : GT) (a : Nat → Nat) : pcq G a 28 = .inl (cy G 0, 4, .inl (fun _ => 0)) := by
  show Sum.inl (cy G 0, 4, Sum.inl (tr 4 _)) = _
  rw [tz (by decide)]
theorem pq_29 (G : GT) (a : Nat → Nat) : pcq G a 29 = .inr (5, [.ref (a 30)]) := rfl
theorem pq_30 (G : GT) (a : Nat → Nat) : pcq G a 30 = .inl (cy G 0, 4, .inl (fun _ => 0)) := by
  show Sum.inl (cy G 0, 4, Sum.inl (tr 4 _)) = _
  rw [tz (by decide)]
theorem pq_31 (G : GT) (a : Nat → Nat) : pcq G a 31 = .inr (5, [.ref (a 32)]) := rfl
theorem pq_32 (G : GT) (a : Nat → Nat) : pcq G a 32 = .inl (cy G 0, 4, .inl (fun _ => 0)) := by
  show Sum.inl (cy G 0, 4, Sum.inl (tr 4 _)) = _
  rw [tz (by decide)]
theorem pq_33 (G : GT) (a : Nat → Nat) : pcq G a 33 = .inr (5, [.ref (a 34)]) := rfl
theorem pq_34 (G : GT) (a : Nat → Nat) : pcq G a 34 = .inl (cy G 0, 4, .inl (fun _ => 0)) := by
  show Sum.inl (cy G 0, 4, Sum.inl (tr 4 _)) = _
  rw [tz (by decide)]
theorem pq_35 (G : GT) (a : Nat → Nat) : pcq G a 35 = .inr (5, [.ref (a 36)]) := rfl
theorem pq_36 (G : GT) (a : Nat → Nat) : pcq G a 36 = .inl (cy G 0, 4, .inl (fun _ => 0)) := by
  show Sum.inl (cy G 0, 4, Sum.inl (tr 4 _)) = _
  rw [tz (by decide)]
theorem pq_37 (G : GT) (a : Nat → Nat) : pcq G a 37 = .inr (5, [.ref (a 38)]) := rfl
theorem pq_38 (G : GT) (a : Nat → Nat) : pcq G a 38 = .inl (cy G 0, 4, .inl (fun _ => 0)) := by
  show Sum.inl (cy G 0, 4, Sum.inl (tr 4 _)) = _
  rw [tz (by decide)]
theorem pq_39 (G : GT) (a : Nat → Nat) : pcq G a 39 = .inr (5, [.ref (a 40)]) := rfl
theorem pq_40 (G : GT) (a : Nat → Nat) : pcq G a 40 = .inl (cy G 0, 4, .inl (fun _ => 0)) := by
  show Sum.inl (cy G 0, 4, Sum.inl (tr 4 _)) = _
  rw [tz (by decide)]
theorem pq_41 (G : GT) (a : Nat → Nat) : pcq G a 41 = .inr (5, [.ref (a 42)]) := rfl
theorem pq_42 (G : GT) (a : Nat → Nat) : pcq G a 42 = .inl (cy G 0, 4, .inl (fun _ => 0)) := by
  show Sum.inl (cy G 0, 4, Sum.inl (tr 4 _)) = _
  rw [tz (by decide)]
theorem pq_43 (G : GT) (a : Nat → Nat) : pcq G a 43 = .inr (5, [.ref (a 44)]) := rfl
theorem pq_44 (G : GT) (a : Nat → Nat) : pcq G a 44 = .inl (cy G 0, 4, .inl (fun _ => 0)) := by
  show Sum.inl (cy G 0, 4, Sum.inl (tr 4 _)) = _
  rw [tz (by decide)]
theorem pq_45 (G : GT) (a : Nat → Nat) : pcq G a 45 = .inr (5, [.ref (a 46)]) := rfl
theorem pq_46 (G : GT) (a : Nat → Nat) : pcq G a 46 = .inl (cy G 0, 4, .inl (fun _ => 0)) := by
  show Sum.inl (cy G 0, 4, Sum.inl (tr 4 _)) = _
  rw [tz (by decide)]
theorem pq_47 (G : GT) (a : Nat → Nat) : pcq G a 47 = .inr (5, [.ref (a 48)]) := rfl
theorem pq_48 (G : GT) (a : Nat → Nat) : pcq G a 48 = .inl (cy G 0, 4, .inl (fun _ => 0)) := by
  show Sum.inl (cy G 0, 4, Sum.inl (tr 4 _)) = _
  rw [tz (by decide)]
theorem pq_49 (G : GT) (a : Nat → Nat) : pcq G a 49 = .inr (5, [.ref (a 50)]) := rfl
theorem pq_50 (G : GT) (a : Nat → Nat) : pcq G a 50 = .inl (cy G 0, 4, .inl (fun _ => 0)) := by
  show Sum.inl (cy G 0, 4, Sum.inl (tr 4 _)) = _
  rw [tz (by decide)]
theorem pq_51 (G : GT) (a : Nat → Nat) : pcq G a 51 = .inr (5, [.ref (a 52)]) := rfl
theorem pq_52 (G : GT) (a : Nat → Nat) : pcq G a 52 = .inl (cy G 0, 4, .inl (fun _ => 0)) := by
  show Sum.inl (cy G 0, 4, Sum.inl (tr 4 _)) = _
  rw [tz (by decide)]
theorem pq_53 (G : GT) (a : Nat → Nat) : pcq G a 53 = .inr (5, [.ref (a 54)]) := rfl
theorem pq_54 (G : GT) (a : Nat → Nat) : pcq G a 54 = .inl (cy G 0, 4, .inl (fun _ => 0)) := by
  show Sum.inl (cy G 0, 4, Sum.inl (tr 4 _)) = _
  rw [tz (by decide)]
theorem pq_55 (G : GT) (a : Nat → Nat) : pcq G a 55 = .inr (5, [.ref (a 56)]) := rfl
theorem pq_56 (G : GT) (a : Nat → Nat) : pcq G a 56 = .inl (cy G 0, 4, .inl (fun _ => 0)) := by
  show Sum.inl (cy G 0, 4, Sum.inl (tr 4 _)) = _
  rw [tz (by decide)]
theorem pq_57 (G : GT) (a : Nat → Nat) : pcq G a 57 = .inr (5, [.ref (a 58)]) := rfl
theorem pq_58 (G : GT) (a : Nat → Nat) : pcq G a 58 = .inl (cy G 0, 4, .inl (fun _ => 0)) := by
  show Sum.inl (cy G 0, 4, Sum.inl (tr 4 _)) = _
  rw [tz (by decide)]
theorem pq_59 (G : GT) (a : Nat → Nat) : pcq G a 59 = .inr (5, [.ref (a 60)]) := rfl
theorem pq_60 (G : GT) (a : Nat → Nat) : pcq G a 60 = .inl (cy G 0, 4, .inl (fun _ => 0)) := by
  show Sum.inl (cy G 0, 4, Sum.inl (tr 4 _)) = _
  rw [tz (by decide)]
theorem pq_61 (G : GT) (a : Nat → Nat) : pcq G a 61 = .inr (5, [.ref (a 62)]) := rfl
theorem pq_62 (G : GT) (a : Nat → Nat) : pcq G a 62 = .inl (cy G 0, 4, .inl (fun _ => 0)) := by
  show Sum.inl (cy G 0, 4, Sum.inl (tr 4 _)) = _
  rw [tz (by decide)]
theorem pq_63 (G : GT) (a : Nat → Nat) : pcq G a 63 = .inr (5, [.ref (a 64)]) := rfl
theorem pq_64 (G : GT) (a : Nat → Nat) : pcq G a 64 = .inl (cy G 0, 4, .inl (fun _ => 0)) := by
  show Sum.inl (cy G 0, 4, Sum.inl (tr 4 _)) = _
  rw [tz (by decide)]
theorem plq_eq (G : GT) (a : Nat → Nat) : plq G a = [(a 0, .inr (6, [.ref (a 1), .ref (a 2), .ref (a 3), .ref (a 4), .ref (a 5), .int 0, .ref (a 6), .int 0, .ref (a 7), .ref (a 9), .int 0])), (a 1, .inl (cy G 5, 3, .inr (.inr (.inr (.inr (va_up (va_up (va_up (fun _ => none) 0 (some (a 11))) 1 (some (a 14))) 2 (some (a 17)))))))), (a 2, .inl (cy G 0, 3, .inl (fun _ => 0))), (a 3, .inl (cy G 5, 3, .inr (.inr (.inr (.inr (va_up (va_up (va_up (fun _ => none) 0 (some (a 20))) 1 (some (a 23))) 2 (some (a 26)))))))), (a 4, .inl (cy G 6, 6, .inr (.inr (.inr (.inr (va_up (va_up (va_up (va_up (va_up (va_up (fun _ => none) 0 (some (a 29))) 1 (some (a 31))) 2 (some (a 33))) 3 (some (a 35))) 4 (some (a 37))) 5 (some (a 39)))))))), (a 5, .inl (cy G 0, 6, .inl (fun _ => 0))), (a 6, .inl (cy G 6, 12, .inr (.inr (.inr (.inr (va_up (va_up (va_up (va_up (va_up (va_up (va_up (va_up (va_up (va_up (va_up (va_up (fun _ => none) 0 (some (a 41))) 1 (some (a 43))) 2 (some (a 45))) 3 (some (a 47))) 4 (some (a 49))) 5 (some (a 51))) 6 (some (a 53))) 7 (some (a 55))) 8 (some (a 57))) 9 (some (a 59))) 10 (some (a 61))) 11 (some (a 63)))))))), (a 7, .inr (5, [.ref (a 8)])), (a 8, .inl (cy G 0, 4, .inl (fun _ => 0))), (a 9, .inr (5, [.ref (a 10)])), (a 10, .inl (cy G 0, 4, .inl (fun _ => 0))), (a 11, .inr (8, [.ref (a 12), .int 10, .int 20])), (a 12, .inr (5, [.ref (a 13)])), (a 13, .inl (cy G 0, 4, .inl (fun _ => 0))), (a 14, .inr (8, [.ref (a 15), .int 10, .int 20])), (a 15, .inr (5, [.ref (a 16)])), (a 16, .inl (cy G 0, 4, .inl (fun _ => 0))), (a 17, .inr (8, [.ref (a 18), .int 10, .int 20])), (a 18, .inr (5, [.ref (a 19)])), (a 19, .inl (cy G 0, 4, .inl (fun _ => 0))), (a 20, .inr (8, [.ref (a 21), .int 0, .int 20])), (a 21, .inr (5, [.ref (a 22)])), (a 22, .inl (cy G 0, 4, .inl (fun _ => 0))), (a 23, .inr (8, [.ref (a 24), .int 0, .int 20])), (a 24, .inr (5, [.ref (a 25)])), (a 25, .inl (cy G 0, 4, .inl (fun _ => 0))), (a 26, .inr (8, [.ref (a 27), .int 0, .int 20])), (a 27, .inr (5, [.ref (a 28)])), (a 28, .inl (cy G 0, 4, .inl (fun _ => 0))), (a 29, .inr (5, [.ref (a 30)])), (a 30, .inl (cy G 0, 4, .inl (fun _ => 0))), (a 31, .inr (5, [.ref (a 32)])), (a 32, .inl (cy G 0, 4, .inl (fun _ => 0))), (a 33, .inr (5, [.ref (a 34)])), (a 34, .inl (cy G 0, 4, .inl (fun _ => 0))), (a 35, .inr (5, [.ref (a 36)])), (a 36, .inl (cy G 0, 4, .inl (fun _ => 0))), (a 37, .inr (5, [.ref (a 38)])), (a 38, .inl (cy G 0, 4, .inl (fun _ => 0))), (a 39, .inr (5, [.ref (a 40)])), (a 40, .inl (cy G 0, 4, .inl (fun _ => 0))), (a 41, .inr (5, [.ref (a 42)])), (a 42, .inl (cy G 0, 4, .inl (fun _ => 0))), (a 43, .inr (5, [.ref (a 44)])), (a 44, .inl (cy G 0, 4, .inl (fun _ => 0))), (a 45, .inr (5, [.ref (a 46)])), (a 46, .inl (cy G 0, 4, .inl (fun _ => 0))), (a 47, .inr (5, [.ref (a 48)])), (a 48, .inl (cy G 0, 4, .inl (fun _ => 0))), (a 49, .inr (5, [.ref (a 50)])), (a 50, .inl (cy G 0, 4, .inl (fun _ => 0))), (a 51, .inr (5, [.ref (a 52)])), (a 52, .inl (cy G 0, 4, .inl (fun _ => 0))), (a 53, .inr (5, [.ref (a 54)])), (a 54, .inl (cy G 0, 4, .inl (fun _ => 0))), (a 55, .inr (5, [.ref (a 56)])), (a 56, .inl (cy G 0, 4, .inl (fun _ => 0))), (a 57, .inr (5, [.ref (a 58)])), (a 58, .inl (cy G 0, 4, .inl (fun _ => 0))), (a 59, .inr (5, [.ref (a 60)])), (a 60, .inl (cy G 0, 4, .inl (fun _ => 0))), (a 61, .inr (5, [.ref (a 62)])), (a 62, .inl (cy G 0, 4, .inl (fun _ => 0))), (a 63, .inr (5, [.ref (a 64)])), (a 64, .inl (cy G 0, 4, .inl (fun _ => 0)))] := by
  show [(a 0, pcq G a 0), (a 1, pcq G a 1), (a 2, pcq G a 2), (a 3, pcq G a 3), (a 4, pcq G a 4), (a 5, pcq G a 5), (a 6, pcq G a 6), (a 7, pcq G a 7), (a 8, pcq G a 8), (a 9, pcq G a 9), (a 10, pcq G a 10), (a 11, pcq G a 11), (a 12, pcq G a 12), (a 13, pcq G a 13), (a 14, pcq G a 14), (a 15, pcq G a 15), (a 16, pcq G a 16), (a 17, pcq G a 17), (a 18, pcq G a 18), (a 19, pcq G a 19), (a 20, pcq G a 20), (a 21, pcq G a 21), (a 22, pcq G a 22), (a 23, pcq G a 23), (a 24, pcq G a 24), (a 25, pcq G a 25), (a 26, pcq G a 26), (a 27, pcq G a 27), (a 28, pcq G a 28), (a 29, pcq G a 29), (a 30, pcq G a 30), (a 31, pcq G a 31), (a 32, pcq G a 32), (a 33, pcq G a 33), (a 34, pcq G a 34), (a 35, pcq G a 35), (a 36, pcq G a 36), (a 37, pcq G a 37), (a 38, pcq G a 38), (a 39, pcq G a 39), (a 40, pcq G a 40), (a 41, pcq G a 41), (a 42, pcq G a 42), (a 43, pcq G a 43), (a 44, pcq G a 44), (a 45, pcq G a 45), (a 46, pcq G a 46), (a 47, pcq G a 47), (a 48, pcq G a 48), (a 49, pcq G a 49), (a 50, pcq G a 50), (a 51, pcq G a 51), (a 52, pcq G a 52), (a 53, pcq G a 53), (a 54, pcq G a 54), (a 55, pcq G a 55), (a 56, pcq G a 56), (a 57, pcq G a 57), (a 58, pcq G a 58), (a 59, pcq G a 59), (a 60, pcq G a 60), (a 61, pcq G a 61), (a 62, pcq G a 62), (a 63, pcq G a 63), (a 64, pcq G a 64)] = _
  rw [pq_0, pq_1, pq_2, pq_3, pq_4, pq_5, pq_6, pq_7, pq_8, pq_9, pq_10, pq_11, pq_12, pq_13, pq_14, pq_15, pq_16, pq_17, pq_18, pq_19, pq_20, pq_21, pq_22, pq_23, pq_24, pq_25, pq_26, pq_27, pq_28, pq_29, pq_30, pq_31, pq_32, pq_33, pq_34, pq_35, pq_36, pq_37, pq_38, pq_39, pq_40, pq_41, pq_42, pq_43, pq_44, pq_45, pq_46, pq_47, pq_48, pq_49, pq_50, pq_51, pq_52, pq_53, pq_54, pq_55, pq_56, pq_57, pq_58, pq_59, pq_60, pq_61, pq_62, pq_63, pq_64]
theorem it_at {P : (Nat → Option Nat) → va_W} {f : Nat → Option Nat} {S : va_W} {i : Nat} {x : Nat × va_E} (h : (P f)[i]? = some x) : (P f ++ S)[i]? = some x := by
  have hi : i < (P f).length := (List.getElem?_eq_some_iff.mp h).1
  rw [List.getElem?_append_left hi]
  exact h
theorem it_last {A E : va_W} {x : Nat × va_E} (h : E[0]? = some x) : (A ++ E)[A.length]? = some x := by
  rw [List.getElem?_append_right (Nat.le_refl _), Nat.sub_self]
  exact h
theorem it_set {A B S E : va_W} {i : Nat} {x : Nat × va_E} (hi : i < A.length) (h : A.set i x = B) : ((A ++ S) ++ E).set i x = B ++ (S ++ E) := by
  rw [List.append_assoc, List.set_append_left _ _ hi, h]

set_option maxHeartbeats 4000000 in
set_option maxRecDepth 100000 in
theorem it_f {p : Program} {l : Launch} {e : Env} {R : Room} {s : State} {m : MethodId} {args : Array Value} {below : List Frame} {meth : Method} {c : Code} {H : Heap} {locs : List Loc} {cells slots : Nat} {Q : State → Prop} {ls : Array Slot} {G : GT} {W0 : va_W} (C : Cx p m c cX4_init 2 s args (wsG yX4_init cX4_init 2 none) yX4_init.cls G) (hO : EnvA s) (hA : ∀ q, s.heap.size ≤ q → Ab G q) (P : (Nat → Option Nat) → va_W) (S : va_W) (f : Nat → Option Nat) (ix aa h0 : Nat) (fs : List Value) (hP0 : (P f)[0]? = some (h0, .inr (6, fs))) (hfs : fs[0]? = some (.ref aa)) (hP1 : (P f)[ix]? = some (aa, .inl (cy G 5, 3, .inr (.inr (.inr (.inr f)))))) (hP2 : ∀ g, (P f).set ix (aa, .inl (cy G 5, 3, .inr (.inr (.inr (.inr g))))) = P g) (i : Nat) (hi : i < 3) (hW : Wq G (W0 ++ (P f ++ S)) H) (hS : va_S (Ab G) s.heap H locs) (hl : lv_has ls 2 [(1, .int (nI i)), (0, .ref h0)]) (hfr : 3 ≤ R.frames) (hlo : 81 ≤ R.locals) (hc1 : cells + 1 + 2 ≤ R.cells) (hc2 : slots + 3 + 5 ≤ R.slots)
    (kk : ∀ (q9 a1 a2 : Nat) (H1 : Heap) (locs1 : List Loc) (ls1 : Array Slot), Wq G (W0 ++ (P (va_up f i (some q9)) ++ (S ++ [(q9, .inr (8, [.ref a1, .int 10, .int 20])), (a1, .inr (5, [.ref a2])), (a2, .inl (cy G 0, 4, .inl (fun _ => 0)))]))) H1 → va_S (Ab G) s.heap H1 locs1 → lv_has ls1 2 [(1, .int (nI (i + 1))), (0, .ref h0)] → W p l e R s m args below meth c H1 locs1 (cells + 1 + 2) (slots + 3 + 5) Q (F0 m 92 ls1 [])) : W p l e R s m args below meth c H locs cells slots Q (F0 m 92 ls []) := by
  have hx := C.1.1
  have hb := C.1.2.1
  have hPl : ix < (P f).length := (List.getElem?_eq_some_iff.mp hP1).1
  refine lv_iload_n hx hb dX4_init_92 rfl (lv_at hl 0 rfl) ?_
  refine lv_iconst (v := 3) hx hb dX4_init_93 (by decide) ?_
  refine lv_icmp_ge (tgt := 118) hx hb dX4_init_94 (by decide) (fun h9 => absurd h9 (nI_ge (a := i) (b := 3) (by omega) (by omega))) (fun _ => ?_)
  refine lv_aload_n hx hb dX4_init_97 rfl (lv_at hl 1 rfl) ?_
  refine q_get (ci := 6) C hW (hwc hwX4) 0 (it_at hP0) rfl 0 (by decide) (mc qw_155) (fun _ h9 => h9) hfs dX4_init_98 ?_
  refine lv_iload_n hx hb dX4_init_101 rfl (lv_at hl 0 rfl) ?_
  refine q_new (ci := 8) (fs := [.null, .int 0, .int 0]) C hW hS hA (hwc hwX6) tyX6 tyX6_ok (mc qw_118) (mc qw_134) (mc qw_74) rfl (fun j hj => by rcases (show j = 0 ∨ j = 1 ∨ j = 2 by omega) with rfl | rfl | rfl <;> rfl) (by omega) (by omega) dX4_init_102 (fun q9 H hW hS => ?_)
  refine lv_dup hx hb dX4_init_105 rfl ?_
  refine lv_bipush (v := 10) hx hb dX4_init_106 (by decide) ?_
  have hWc : Wq G ((W0 ++ (P f ++ S)) ++ [(q9, .inr (8, [.null, .int 0, .int 0]))]) H := Wq.cast (List.append_assoc _ _ _).symm hW
  refine q_callv (va_runI (As := [.int 10]) (rest := [.ref q9, .int (nI i), .ref aa]) C.1 (cX6_init_q l G (W0 ++ (P f ++ S)) q9 10) (cwI 1 C.1.2.2.2.2 (gN qw_137) rfl rfl rfl (C.1.2.2.2.2 _ (mc qw_74)) (C.1.2.2.2.2 _ (mc qw_135)) (C.1.2.2.2.2 _ (mc qw_136)) rfl (by decide +kernel) ⟨by show 2 + 1 ≤ _; omega, by show 8 + (2 + 11) + 60 ≤ _; omega⟩) (q_pre C hO hWc hS [.ref q9, .int 10]) rfl rfl hl.1 rfl (lv_room (Nat.le_of_ble_eq_true rfl)) dX4_init_108 ⟨by omega, by omega⟩) hS (fun V H locs hW hS hV => ?_)
  obtain ⟨a1, a2, rfl⟩ := hV
  replace hW : Wq G (W0 ++ ((P f ++ S) ++ [(q9, .inr (8, [.ref a1, .int 10, .int 20])), (a1, .inr (5, [.ref a2])), (a2, .inl (cy G 0, 4, .inl (fun _ => 0)))])) H := Wq.cast (List.append_assoc _ _ _) hW
  refine q_aast C hW hS ix 5 (P f ++ S).length 8 (by rw [List.append_assoc]; exact it_at hP1) rfl (it_last rfl) rfl (vp_in_nI hi (by decide)) dX4_init_111 (fun H locs hW hS => ?_)
  replace hW : Wq G (W0 ++ (P (va_up f i (some q9)) ++ (S ++ [(q9, .inr (8, [.ref a1, .int 10, .int 20])), (a1, .inr (5, [.ref a2])), (a2, .inl (cy G 0, 4, .inl (fun _ => 0)))]))) H := Wq.cast (by rw [clf (show i < 2 ^ 31 by omega)]; exact congrArg (W0 ++ ·) (it_set hPl (hP2 _))) hW
  refine lv_iinc (v := nI (i + 1)) (lv' := [(1, .int (nI (i + 1))), (0, .ref h0)]) hx hb dX4_init_112 hl (k := 0) rfl (nI_1 i) (by decide) rfl (fun ls hl => ?_)
  refine lv_goto (tgt := 92) hx hb dX4_init_115 (by decide) ?_
  exact kk q9 a1 a2 H locs ls hW hS hl

set_option maxHeartbeats 4000000 in
set_option maxRecDepth 100000 in
theorem it_l {p : Program} {l : Launch} {e : Env} {R : Room} {s : State} {m : MethodId} {args : Array Value} {below : List Frame} {meth : Method} {c : Code} {H : Heap} {locs : List Loc} {cells slots : Nat} {Q : State → Prop} {ls : Array Slot} {G : GT} {W0 : va_W} (C : Cx p m c cX4_init 2 s args (wsG yX4_init cX4_init 2 none) yX4_init.cls G) (hO : EnvA s) (hA : ∀ q, s.heap.size ≤ q → Ab G q) (P : (Nat → Option Nat) → va_W) (S : va_W) (f : Nat → Option Nat) (ix aa h0 : Nat) (fs : List Value) (hP0 : (P f)[0]? = some (h0, .inr (6, fs))) (hfs : fs[2]? = some (.ref aa)) (hP1 : (P f)[ix]? = some (aa, .inl (cy G 5, 3, .inr (.inr (.inr (.inr f)))))) (hP2 : ∀ g, (P f).set ix (aa, .inl (cy G 5, 3, .inr (.inr (.inr (.inr g))))) = P g) (i : Nat) (hi : i < 3) (hW : Wq G (W0 ++ (P f ++ S)) H) (hS : va_S (Ab G) s.heap H locs) (hl : lv_has ls 2 [(1, .int (nI i)), (0, .ref h0)]) (hfr : 3 ≤ R.frames) (hlo : 81 ≤ R.locals) (hc1 : cells + 1 + 2 ≤ R.cells) (hc2 : slots + 3 + 5 ≤ R.slots)
    (kk : ∀ (q9 a1 a2 : Nat) (H1 : Heap) (locs1 : List Loc) (ls1 : Array Slot), Wq G (W0 ++ (P (va_up f i (some q9)) ++ (S ++ [(q9, .inr (8, [.ref a1, .int 0, .int 20])), (a1, .inr (5, [.ref a2])), (a2, .inl (cy G 0, 4, .inl (fun _ => 0)))]))) H1 → va_S (Ab G) s.heap H1 locs1 → lv_has ls1 2 [(1, .int (nI (i + 1))), (0, .ref h0)] → W p l e R s m args below meth c H1 locs1 (cells + 1 + 2) (slots + 3 + 5) Q (F0 m 120 ls1 [])) : W p l e R s m args below meth c H locs cells slots Q (F0 m 120 ls []) := by
  have hx := C.1.1
  have hb := C.1.2.1
  have hPl : ix < (P f).length := (List.getElem?_eq_some_iff.mp hP1).1
  refine lv_iload_n hx hb dX4_init_120 rfl (lv_at hl 0 rfl) ?_
  refine lv_iconst (v := 3) hx hb dX4_init_121 (by decide) ?_
  refine lv_icmp_ge (tgt := 145) hx hb dX4_init_122 (by decide) (fun h9 => absurd h9 (nI_ge (a := i) (b := 3) (by omega) (by omega))) (fun _ => ?_)
  refine lv_aload_n hx hb dX4_init_125 rfl (lv_at hl 1 rfl) ?_
  refine q_get (ci := 6) C hW (hwc hwX4) 0 (it_at hP0) rfl 2 (by decide) (mc qw_159) (fun _ h9 => h9) hfs dX4_init_126 ?_
  refine lv_iload_n hx hb dX4_init_129 rfl (lv_at hl 0 rfl) ?_
  refine q_new (ci := 8) (fs := [.null, .int 0, .int 0]) C hW hS hA (hwc hwX6) tyX6 tyX6_ok (mc qw_118) (mc qw_134) (mc qw_74) rfl (fun j hj => by rcases (show j = 0 ∨ j = 1 ∨ j = 2 by omega) with rfl | rfl | rfl <;> rfl) (by omega) (by omega) dX4_init_130 (fun q9 H hW hS => ?_)
  refine lv_dup hx hb dX4_init_133 rfl ?_
  refine lv_iconst (v := 0) hx hb dX4_init_134 (by decide) ?_
  have hWc : Wq G ((W0 ++ (P f ++ S)) ++ [(q9, .inr (8, [.null, .int 0, .int 0]))]) H := Wq.cast (List.append_assoc _ _ _).symm hW
  refine q_callv (va_runI (As := [.int 0]) (rest := [.ref q9, .int (nI i), .ref aa]) C.1 (cX6_init_q l G (W0 ++ (P f ++ S)) q9 0) (cwI 1 C.1.2.2.2.2 (gN qw_137) rfl rfl rfl (C.1.2.2.2.2 _ (mc qw_74)) (C.1.2.2.2.2 _ (mc qw_135)) (C.1.2.2.2.2 _ (mc qw_136)) rfl (by decide +kernel) ⟨by show 2 + 1 ≤ _; omega, by show 8 + (2 + 11) + 60 ≤ _; omega⟩) (q_pre C hO hWc hS [.ref q9, .int 0]) rfl rfl hl.1 rfl (lv_room (Nat.le_of_ble_eq_true rfl)) dX4_init_135 ⟨by omega, by omega⟩) hS (fun V H locs hW hS hV => ?_)
  obtain ⟨a1, a2, rfl⟩ := hV
  replace hW : Wq G (W0 ++ ((P f ++ S) ++ [(q9, .inr (8, [.ref a1, .int 0, .int 20])), (a1, .inr (5, [.ref a2])), (a2, .inl (cy G 0, 4, .inl (fun _ => 0)))])) H := Wq.cast (List.append_assoc _ _ _) hW
  refine q_aast C hW hS ix 5 (P f ++ S).length 8 (by rw [List.append_assoc]; exact it_at hP1) rfl (it_last rfl) rfl (vp_in_nI hi (by decide)) dX4_init_138 (fun H locs hW hS => ?_)
  replace hW : Wq G (W0 ++ (P (va_up f i (some q9)) ++ (S ++ [(q9, .inr (8, [.ref a1, .int 0, .int 20])), (a1, .inr (5, [.ref a2])), (a2, .inl (cy G 0, 4, .inl (fun _ => 0)))]))) H := Wq.cast (by rw [clf (show i < 2 ^ 31 by omega)]; exact congrArg (W0 ++ ·) (it_set hPl (hP2 _))) hW
  refine lv_iinc (v := nI (i + 1)) (lv' := [(1, .int (nI (i + 1))), (0, .ref h0)]) hx hb dX4_init_139 hl (k := 0) rfl (nI_1 i) (by decide) rfl (fun ls hl => ?_)
  refine lv_goto (tgt := 120) hx hb dX4_init_142 (by decide) ?_
  exact kk q9 a1 a2 H locs ls hW hS hl

set_option maxHeartbeats 4000000 in
set_option maxRecDepth 100000 in
theorem it_m {p : Program} {l : Launch} {e : Env} {R : Room} {s : State} {m : MethodId} {args : Array Value} {below : List Frame} {meth : Method} {c : Code} {H : Heap} {locs : List Loc} {cells slots : Nat} {Q : State → Prop} {ls : Array Slot} {G : GT} {W0 : va_W} (C : Cx p m c cX4_init 2 s args (wsG yX4_init cX4_init 2 none) yX4_init.cls G) (hO : EnvA s) (hA : ∀ q, s.heap.size ≤ q → Ab G q) (P : (Nat → Option Nat) → va_W) (S : va_W) (f : Nat → Option Nat) (ix aa h0 : Nat) (fs : List Value) (hP0 : (P f)[0]? = some (h0, .inr (6, fs))) (hfs : fs[3]? = some (.ref aa)) (hP1 : (P f)[ix]? = some (aa, .inl (cy G 6, 6, .inr (.inr (.inr (.inr f)))))) (hP2 : ∀ g, (P f).set ix (aa, .inl (cy G 6, 6, .inr (.inr (.inr (.inr g))))) = P g) (i : Nat) (hi : i < 6) (hW : Wq G (W0 ++ (P f ++ S)) H) (hS : va_S (Ab G) s.heap H locs) (hl : lv_has ls 2 [(1, .int (nI i)), (0, .ref h0)]) (hfr : 2 ≤ R.frames) (hlo : 60 ≤ R.locals) (hc1 : cells + 1 + 1 ≤ R.cells) (hc2 : slots + 1 + 4 ≤ R.slots)
    (kk : ∀ (q9 a1 : Nat) (H1 : Heap) (locs1 : List Loc) (ls1 : Array Slot), Wq G (W0 ++ (P (va_up f i (some q9)) ++ (S ++ [(q9, .inr (5, [.ref a1])), (a1, .inl (cy G 0, 4, .inl (fun _ => 0)))]))) H1 → va_S (Ab G) s.heap H1 locs1 → lv_has ls1 2 [(1, .int (nI (i + 1))), (0, .ref h0)] → W p l e R s m args below meth c H1 locs1 (cells + 1 + 1) (slots + 1 + 4) Q (F0 m 147 ls1 [])) : W p l e R s m args below meth c H locs cells slots Q (F0 m 147 ls []) := by
  have hx := C.1.1
  have hb := C.1.2.1
  have hPl : ix < (P f).length := (List.getElem?_eq_some_iff.mp hP1).1
  refine lv_iload_n hx hb dX4_init_147 rfl (lv_at hl 0 rfl) ?_
  refine lv_bipush (v := 6) hx hb dX4_init_148 (by decide) ?_
  refine lv_icmp_ge (tgt := 172) hx hb dX4_init_150 (by decide) (fun h9 => absurd h9 (nI_ge (a := i) (b := 6) (by omega) (by omega))) (fun _ => ?_)
  refine lv_aload_n hx hb dX4_init_153 rfl (lv_at hl 1 rfl) ?_
  refine q_get (ci := 6) C hW (hwc hwX4) 0 (it_at hP0) rfl 3 (by decide) (mc qw_161) (fun _ h9 => h9) hfs dX4_init_154 ?_
  refine lv_iload_n hx hb dX4_init_157 rfl (lv_at hl 0 rfl) ?_
  refine q_new (ci := 5) (fs := [.null]) C hW hS hA (hwc hwX3) tyX3 tyX3_ok (mc qw_120) (mc qw_122) (mc qw_73) rfl (fun j hj => by rcases (show j = 0 by omega) with rfl <;> rfl) (by omega) (by omega) dX4_init_158 (fun q9 H hW hS => ?_)
  refine lv_dup hx hb dX4_init_161 rfl ?_
  have hWc : Wq G ((W0 ++ (P f ++ S)) ++ [(q9, .inr (5, [.null]))]) H := Wq.cast (List.append_assoc _ _ _).symm hW
  refine q_callv (va_runIN (As := []) (rest := [.ref q9, .int (nI i), .ref aa]) C.1 (cX3_init_q l G (W0 ++ (P f ++ S)) q9) (⟨va_cnB 0 C.1.2.2.2.2 (gN qw_125) rfl rfl rfl (C.2.2.1.1 _ nw_31) (C.1.2.2.2.2 _ (mc qw_73)) (by decide +kernel) ⟨by show 1 + 1 ≤ _; omega, by show 8 + (1 + 11) + 40 ≤ _; omega⟩, rfl, C.1.2.2.2.2 _ (mc qw_124)⟩) (q_pre C hO hWc hS [.ref q9]) rfl rfl hl.1 rfl (lv_room (Nat.le_of_ble_eq_true rfl)) dX4_init_162 ⟨by omega, by omega⟩) hS (fun V H locs hW hS hV => ?_)
  obtain ⟨a1, rfl⟩ := hV
  replace hW : Wq G (W0 ++ ((P f ++ S) ++ [(q9, .inr (5, [.ref a1])), (a1, .inl (cy G 0, 4, .inl (fun _ => 0)))])) H := Wq.cast (List.append_assoc _ _ _) hW
  refine q_aast C hW hS ix 6 (P f ++ S).length 5 (by rw [List.append_assoc]; exact it_at hP1) rfl (it_last rfl) rfl (vp_in_nI hi (by decide)) dX4_init_165 (fun H locs hW hS => ?_)
  replace hW : Wq G (W0 ++ (P (va_up f i (some q9)) ++ (S ++ [(q9, .inr (5, [.ref a1])), (a1, .inl (cy G 0, 4, .inl (fun _ => 0)))]))) H := Wq.cast (by rw [clf (show i < 2 ^ 31 by omega)]; exact congrArg (W0 ++ ·) (it_set hPl (hP2 _))) hW
  refine lv_iinc (v := nI (i + 1)) (lv' := [(1, .int (nI (i + 1))), (0, .ref h0)]) hx hb dX4_init_166 hl (k := 0) rfl (nI_1 i) (by decide) rfl (fun ls hl => ?_)
  refine lv_goto (tgt := 147) hx hb dX4_init_169 (by decide) ?_
  exact kk q9 a1 H locs ls hW hS hl

set_option maxHeartbeats 4000000 in
set_option maxRecDepth 100000 in
theorem it_i {p : Program} {l : Launch} {e : Env} {R : Room} {s : State} {m : MethodId} {args : Array Value} {below : List Frame} {meth : Method} {c : Code} {H : Heap} {locs : List Loc} {cells slots : Nat} {Q : State → Prop} {ls : Array Slot} {G : GT} {W0 : va_W} (C : Cx p m c cX4_init 2 s args (wsG yX4_init cX4_init 2 none) yX4_init.cls G) (hO : EnvA s) (hA : ∀ q, s.heap.size ≤ q → Ab G q) (P : (Nat → Option Nat) → va_W) (S : va_W) (f : Nat → Option Nat) (ix aa h0 : Nat) (fs : List Value) (hP0 : (P f)[0]? = some (h0, .inr (6, fs))) (hfs : fs[6]? = some (.ref aa)) (hP1 : (P f)[ix]? = some (aa, .inl (cy G 6, 12, .inr (.inr (.inr (.inr f)))))) (hP2 : ∀ g, (P f).set ix (aa, .inl (cy G 6, 12, .inr (.inr (.inr (.inr g))))) = P g) (i : Nat) (hi : i < 12) (hW : Wq G (W0 ++ (P f ++ S)) H) (hS : va_S (Ab G) s.heap H locs) (hl : lv_has ls 2 [(1, .int (nI i)), (0, .ref h0)]) (hfr : 2 ≤ R.frames) (hlo : 60 ≤ R.locals) (hc1 : cells + 1 + 1 ≤ R.cells) (hc2 : slots + 1 + 4 ≤ R.slots)
    (kk : ∀ (q9 a1 : Nat) (H1 : Heap) (locs1 : List Loc) (ls1 : Array Slot), Wq G (W0 ++ (P (va_up f i (some q9)) ++ (S ++ [(q9, .inr (5, [.ref a1])), (a1, .inl (cy G 0, 4, .inl (fun _ => 0)))]))) H1 → va_S (Ab G) s.heap H1 locs1 → lv_has ls1 2 [(1, .int (nI (i + 1))), (0, .ref h0)] → W p l e R s m args below meth c H1 locs1 (cells + 1 + 1) (slots + 1 + 4) Q (F0 m 174 ls1 [])) : W p l e R s m args below meth c H locs cells slots Q (F0 m 174 ls []) := by
  have hx := C.1.1
  have hb := C.1.2.1
  have hPl : ix < (P f).length := (List.getElem?_eq_some_iff.mp hP1).1
  refine lv_iload_n hx hb dX4_init_174 rfl (lv_at hl 0 rfl) ?_
  refine lv_bipush (v := 12) hx hb dX4_init_175 (by decide) ?_
  refine lv_icmp_ge (tgt := 199) hx hb dX4_init_177 (by decide) (fun h9 => absurd h9 (nI_ge (a := i) (b := 12) (by omega) (by omega))) (fun _ => ?_)
  refine lv_aload_n hx hb dX4_init_180 rfl (lv_at hl 1 rfl) ?_
  refine q_get (ci := 6) C hW (hwc hwX4) 0 (it_at hP0) rfl 6 (by decide) (mc qw_167) (fun _ h9 => h9) hfs dX4_init_181 ?_
  refine lv_iload_n hx hb dX4_init_184 rfl (lv_at hl 0 rfl) ?_
  refine q_new (ci := 5) (fs := [.null]) C hW hS hA (hwc hwX3) tyX3 tyX3_ok (mc qw_120) (mc qw_122) (mc qw_73) rfl (fun j hj => by rcases (show j = 0 by omega) with rfl <;> rfl) (by omega) (by omega) dX4_init_185 (fun q9 H hW hS => ?_)
  refine lv_dup hx hb dX4_init_188 rfl ?_
  have hWc : Wq G ((W0 ++ (P f ++ S)) ++ [(q9, .inr (5, [.null]))]) H := Wq.cast (List.append_assoc _ _ _).symm hW
  refine q_callv (va_runIN (As := []) (rest := [.ref q9, .int (nI i), .ref aa]) C.1 (cX3_init_q l G (W0 ++ (P f ++ S)) q9) (⟨va_cnB 0 C.1.2.2.2.2 (gN qw_125) rfl rfl rfl (C.2.2.1.1 _ nw_31) (C.1.2.2.2.2 _ (mc qw_73)) (by decide +kernel) ⟨by show 1 + 1 ≤ _; omega, by show 8 + (1 + 11) + 40 ≤ _; omega⟩, rfl, C.1.2.2.2.2 _ (mc qw_124)⟩) (q_pre C hO hWc hS [.ref q9]) rfl rfl hl.1 rfl (lv_room (Nat.le_of_ble_eq_true rfl)) dX4_init_189 ⟨by omega, by omega⟩) hS (fun V H locs hW hS hV => ?_)
  obtain ⟨a1, rfl⟩ := hV
  replace hW : Wq G (W0 ++ ((P f ++ S) ++ [(q9, .inr (5, [.ref a1])), (a1, .inl (cy G 0, 4, .inl (fun _ => 0)))])) H := Wq.cast (List.append_assoc _ _ _) hW
  refine q_aast C hW hS ix 6 (P f ++ S).length 5 (by rw [List.append_assoc]; exact it_at hP1) rfl (it_last rfl) rfl (vp_in_nI hi (by decide)) dX4_init_192 (fun H locs hW hS => ?_)
  replace hW : Wq G (W0 ++ (P (va_up f i (some q9)) ++ (S ++ [(q9, .inr (5, [.ref a1])), (a1, .inl (cy G 0, 4, .inl (fun _ => 0)))]))) H := Wq.cast (by rw [clf (show i < 2 ^ 31 by omega)]; exact congrArg (W0 ++ ·) (it_set hPl (hP2 _))) hW
  refine lv_iinc (v := nI (i + 1)) (lv' := [(1, .int (nI (i + 1))), (0, .ref h0)]) hx hb dX4_init_193 hl (k := 0) rfl (nI_1 i) (by decide) rfl (fun ls hl => ?_)
  refine lv_goto (tgt := 174) hx hb dX4_init_196 (by decide) ?_
  exact kk q9 a1 H locs ls hW hS hl
