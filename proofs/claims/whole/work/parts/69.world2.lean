/-! The world at the law's loop, cell by cell. -/
theorem rarr_congr {G G' : GT} {c n : Nat} {f f' : Nat → Nat} (hc : cy G c = cy G' c) (h : ∀ j, j < n → ad G (f j) = ad G' (f' j)) : rarr G c n f = rarr G' c n f' := by
  unfold rarr
  rw [hc]
  refine congrArg (fun g => (Sum.inl (cy G' c, n, .inr (.inr (.inr (.inr g)))) : va_E)) (funext fun j => ?_)
  by_cases q : j < n
  · rw [if_pos q, if_pos q, h j q]
  · rw [if_neg q, if_neg q]
theorem iarr_cg {G G' : GT} {n : Nat} {f f' : Nat → Int32} (hc : cy G 0 = cy G' 0) (h : ∀ j, j < n → f j = f' j) : iarr G n f = iarr G' n f' := by
  rw [iarr_congr h]
  unfold iarr
  rw [hc]
theorem vgrp_cg {G G' : GT} {M M' : Nat → Nat → Int32} {p p' b b' o0 i0 st o : Nat} {L : Int32} (hc : cy G = cy G') (hM : M p = M' p') (h : (o - o0) % 3 < 2 → ad G (b + o + 1) = ad G' (b' + o + 1)) : vgrp G M p b o0 i0 st L o = vgrp G' M' p' b' o0 i0 st L o := by
  unfold vgrp
  rw [hM]
  split
  · rename_i q
    unfold vesO
    rw [h (by omega)]
  · rename_i q
    unfold mixO
    rw [h (by omega)]
  · exact iarr_cg (congrFun hc 0) fun _ _ => rfl
theorem mgrp_cg {G G' : GT} {M M' : Nat → Nat → Int32} {p p' b b' o0 i0 st o : Nat} (hc : cy G = cy G') (hM : M p = M' p') (h : (o - o0) % 2 = 0 → ad G (b + o + 1) = ad G' (b' + o + 1)) : mgrp G M p b o0 i0 st o = mgrp G' M' p' b' o0 i0 st o := by
  unfold mgrp
  rw [hM]
  split
  · rename_i q
    unfold mixO
    rw [h q]
  · exact iarr_cg (congrFun hc 0) fun _ _ => rfl
theorem pcell_cg {G G' : GT} {M M' : Nat → Nat → Int32} {p p' : Nat} (hc : cy G = cy G') (hM : M p = M' p') (h : ∀ o, o < 65 → ad G (65 * p + o) = ad G' (65 * p' + o)) {o : Nat} (ho : o < 65) : pcell G M p o = pcell G' M' p' o := by
  by_cases h11 : o < 11
  · rcases (by omega : o = 0 ∨ o = 1 ∨ o = 2 ∨ o = 3 ∨ o = 4 ∨ o = 5 ∨ o = 6 ∨ o = 7 ∨ o = 8 ∨ o = 9 ∨ o = 10) with rfl | rfl | rfl | rfl | rfl | rfl | rfl | rfl | rfl | rfl | rfl
    · show Sum.inr (6, [Value.ref (ad G (65 * p + 1)), .ref (ad G (65 * p + 2)), .ref (ad G (65 * p + 3)), .ref (ad G (65 * p + 4)), .ref (ad G (65 * p + 5)), .int (M p 42), .ref (ad G (65 * p + 6)), .int (M p 43), .ref (ad G (65 * p + 7)), .ref (ad G (65 * p + 9)), .int (M p 0)]) = Sum.inr (6, [Value.ref (ad G' (65 * p' + 1)), .ref (ad G' (65 * p' + 2)), .ref (ad G' (65 * p' + 3)), .ref (ad G' (65 * p' + 4)), .ref (ad G' (65 * p' + 5)), .int (M' p' 42), .ref (ad G' (65 * p' + 6)), .int (M' p' 43), .ref (ad G' (65 * p' + 7)), .ref (ad G' (65 * p' + 9)), .int (M' p' 0)])
      rw [hM, h 1 (by decide), h 2 (by decide), h 3 (by decide), h 4 (by decide), h 5 (by decide), h 6 (by decide), h 7 (by decide), h 9 (by decide)]
    · exact rarr_congr (congrFun hc _) fun j hj => h _ (by omega)
    · exact iarr_cg (congrFun hc 0) fun j _ => congrFun hM _
    · exact rarr_congr (congrFun hc _) fun j hj => h _ (by omega)
    · exact rarr_congr (congrFun hc _) fun j hj => h _ (by omega)
    · exact iarr_cg (congrFun hc 0) fun j _ => congrFun hM _
    · exact rarr_congr (congrFun hc _) fun j hj => h _ (by omega)
    · show Sum.inr (5, [Value.ref (ad G (65 * p + 8))]) = Sum.inr (5, [Value.ref (ad G' (65 * p' + 8))])
      rw [h 8 (by decide)]
    · exact iarr_cg (congrFun hc 0) fun j _ => congrFun hM _
    · show Sum.inr (5, [Value.ref (ad G (65 * p + 10))]) = Sum.inr (5, [Value.ref (ad G' (65 * p' + 10))])
      rw [h 10 (by decide)]
    · exact iarr_cg (congrFun hc 0) fun j _ => congrFun hM _
  · obtain ⟨n, rfl⟩ : ∃ n, o = n + 11 := ⟨o - 11, by omega⟩
    show (if n + 11 < 20 then vgrp G M p (65 * p) 11 9 6 10 (n + 11) else if n + 11 < 29 then vgrp G M p (65 * p) 20 27 5 0 (n + 11) else if n + 11 < 41 then mgrp G M p (65 * p) 29 44 6 (n + 11) else mgrp G M p (65 * p) 41 80 4 (n + 11)) = (if n + 11 < 20 then vgrp G' M' p' (65 * p') 11 9 6 10 (n + 11) else if n + 11 < 29 then vgrp G' M' p' (65 * p') 20 27 5 0 (n + 11) else if n + 11 < 41 then mgrp G' M' p' (65 * p') 29 44 6 (n + 11) else mgrp G' M' p' (65 * p') 41 80 4 (n + 11))
    have e : ∀ m, m + 1 < 65 → ad G (65 * p + m + 1) = ad G' (65 * p' + m + 1) := fun m hm => h (m + 1) hm
    by_cases q1 : n + 11 < 20
    · rw [if_pos q1, if_pos q1]
      exact vgrp_cg hc hM fun _ => e _ (by omega)
    · rw [if_neg q1, if_neg q1]
      by_cases q2 : n + 11 < 29
      · rw [if_pos q2, if_pos q2]
        exact vgrp_cg hc hM fun _ => e _ (by omega)
      · rw [if_neg q2, if_neg q2]
        by_cases q3 : n + 11 < 41
        · rw [if_pos q3, if_pos q3]
          exact mgrp_cg hc hM fun _ => e _ (by omega)
        · rw [if_neg q3, if_neg q3]
          exact mgrp_cg hc hM fun q => e _ (by omega)
theorem ga_l {α : Type} {l1 l2 : List α} {i : Nat} {x : α} (h : l1[i]? = some x) : (l1 ++ l2)[i]? = some x := by
  rw [List.getElem?_append_left (List.getElem?_eq_some_iff.mp h).1]
  exact h
theorem ga_r {α : Type} {l1 l2 : List α} {n i k : Nat} {x : α} (hn : l1.length = n) (h : l2[i]? = some x) (hk : k = n + i) : (l1 ++ l2)[k]? = some x := by
  rw [hk, ← hn, List.getElem?_append_right (by omega), show l1.length + i - l1.length = i by omega]
  exact h
theorem plq_at {G : GT} {a : Nat → Nat} {o : Nat} (ho : o < 65) : (plq G a)[o]? = some (a o, pcq G a o) := by simp [plq, ho]
theorem plq_len {G : GT} {a : Nat → Nat} : (plq G a).length = 65 := by simp [plq]
theorem hsq_len {G : GT} {b : Nat → Nat → Nat} : ∀ n, (hsq G b n).length = 65 * n
  | 0 => rfl
  | n + 1 => by
    show (hsq G b n ++ plq G (b n)).length = _
    rw [List.length_append, hsq_len n, plq_len]
    omega
theorem hsq_at {G : GT} {b : Nat → Nat → Nat} : ∀ (n i o : Nat), i < n → o < 65 → (hsq G b n)[65 * i + o]? = some (b i o, pcq G (b i) o)
  | 0, _, _, h, _ => absurd h (by omega)
  | n + 1, i, o, h, ho => by
    show (hsq G b n ++ plq G (b n))[65 * i + o]? = _
    by_cases q : i = n
    · subst q
      exact ga_r (hsq_len i) (plq_at ho) rfl
    · exact ga_l (hsq_at n i o (by omega) ho)
theorem rowq_at {G : GT} {z j : Nat} (hj : j < 60) : (rowq G z)[j]? = some (z + 1 + j, .inl (cy G 0, 3, .inl (fun _ => 0))) := by simp [rowq, hj]
theorem rowq_len {G : GT} {z : Nat} : (rowq G z).length = 60 := by simp [rowq]
section WLD
variable {G : GT} {h0 hh s1 sc t1 c1 z1 sb b1 q0 qL qD : Nat} {a1 a2 am : Nat → Nat} {bb : Nat → Nat → Nat}
def adq (h0 hh s1 sc t1 c1 z1 sb b1 q0 qL qD : Nat) (a1 a2 am : Nat → Nat) (bb : Nat → Nat → Nat) : Nat → Nat := fun k =>
  if k < 65 then a1 k else if k < 650 then bb ((k - 65) / 65) ((k - 65) % 65) else if k < 715 then a2 (k - 650) else if k = 715 then h0 else if k = 716 then hh else if k = 717 then s1 else if k = 718 then sc else if k = 719 then t1 else if k = 720 then c1 else if k = 721 then z1 else if k = 722 then sb else if k = 723 then q0 else if k < 735 then am (k - 723) else if k = 735 then qL else if k = 736 then qD else if k = 737 then b1 else z1 + 1 + (k - 738)
def Vq (G : GT) (h0 hh s1 sc t1 c1 z1 sb b1 q0 qL qD : Nat) (a1 a2 am : Nat → Nat) (bb : Nat → Nat → Nat) : va_W := ((foq G h0 a1 hh s1 bb a2 sc t1 c1 z1 sb b1 ++ mdq G q0 am) ++ [(qL, .inl (cy G 3, 1, .inr (.inl (fun _ => 0))))]) ++ [(qD, .inl (cy G 4, 1, .inr (.inr (.inr (.inl (fun _ => 0))))))]
theorem tr_0 {n : Nat} {f g : Nat → Int32} (h : ∀ j, j < n → f j = g j) (h2 : ∀ j, n ≤ j → g j = 0) : tr n f = g := by
  funext j
  by_cases q : j < n
  · rw [tr_at q, h j q]
  · rw [h2 j (by omega)]
    exact if_neg q
theorem V_at (hG : ad G = adq h0 hh s1 sc t1 c1 z1 sb b1 q0 qL qD a1 a2 am bb) {k : Nat} (hk : k < 798) : (Vq G h0 hh s1 sc t1 c1 z1 sb b1 q0 qL qD a1 a2 am bb)[sg k]? = some (adx G (X0 b1) k, cell G (X0 b1) k) := by
  have hp0 : ∀ o, o < 65 → ad G (65 * 0 + o) = a1 o := fun o ho => by rw [hG, Nat.mul_zero, Nat.zero_add]; exact if_pos ho
  have hpi : ∀ i o, i < 9 → o < 65 → ad G (65 * (i + 1) + o) = bb i o := fun i o hi ho => by
    rw [hG]
    unfold adq
    rw [if_neg (by omega), if_pos (by omega), show (65 * (i + 1) + o - 65) / 65 = i by omega, show (65 * (i + 1) + o - 65) % 65 = o by omega]
  have hpz : ∀ o, o < 65 → ad G (65 * 10 + o) = a2 o := fun o ho => by
    rw [hG]
    unfold adq
    rw [if_neg (by omega), if_neg (by omega), if_pos (by omega), show 65 * 10 + o - 650 = o by omega]
  have pl : ∀ (p : Nat) (a : Nat → Nat), p < 11 → (∀ o, o < 65 → ad G (65 * p + o) = a o) → ∀ o, o < 65 → (adx G (X0 b1) (65 * p + o), cell G (X0 b1) (65 * p + o)) = (a o, pcq G a o) := fun p a hp ha o ho => by
    have e1 : adx G (X0 b1) (65 * p + o) = a o := (if_neg (by omega)).trans (ha o ho)
    have e2 : cell G (X0 b1) (65 * p + o) = pcell G M0 p o := by
      unfold cell
      rw [if_pos (by omega), show (65 * p + o) / 65 = p by omega, show (65 * p + o) % 65 = o by omega]
      rfl
    rw [e1, e2]
    exact congrArg _ (pcell_cg (G := G) (M := M0) (p := p) (G' := plG G a) (M' := fun _ => tmp0) (p' := 0) rfl (show M0 p = tmp0 from if_pos hp) (fun o ho => (ha o ho).trans (show a o = a (65 * 0 + o) by rw [Nat.mul_zero, Nat.zero_add])) ho)
  have lf : ∀ {i : Nat} {x : Nat × va_E}, (foq G h0 a1 hh s1 bb a2 sc t1 c1 z1 sb b1)[i]? = some x → (Vq G h0 hh s1 sc t1 c1 z1 sb b1 q0 qL qD a1 a2 am bb)[i]? = some x := fun h => ga_l (ga_l (ga_l h))
  have lp : (plq G a1).length = 65 := plq_len
  have lp2 : (plq G a2).length = 65 := plq_len
  have lh : (hiq G hh s1 bb).length = 587 := by
    unfold hiq
    rw [List.length_append, hsq_len]
    rfl
  have ls : (scq G sc t1 c1 z1).length = 64 := by
    unfold scq
    rw [List.length_append, rowq_len]
    rfl
  have l1 : ([(h0, Sum.inr (9, [Value.ref (a1 0), .ref hh, .ref (a2 0), .int 0, .ref sc, .int (-1), .int (-1), .ref sb]))] ++ plq G a1 : va_W).length = 66 := by rw [List.length_append, lp]; rfl
  have l2 : (([(h0, Sum.inr (9, [Value.ref (a1 0), .ref hh, .ref (a2 0), .int 0, .ref sc, .int (-1), .int (-1), .ref sb]))] ++ plq G a1) ++ hiq G hh s1 bb : va_W).length = 653 := by rw [List.length_append, l1, lh]
  have l3 : ((([(h0, Sum.inr (9, [Value.ref (a1 0), .ref hh, .ref (a2 0), .int 0, .ref sc, .int (-1), .int (-1), .ref sb]))] ++ plq G a1) ++ hiq G hh s1 bb) ++ plq G a2 : va_W).length = 718 := by rw [List.length_append, l2, lp2]
  have l4 : (((([(h0, Sum.inr (9, [Value.ref (a1 0), .ref hh, .ref (a2 0), .int 0, .ref sc, .int (-1), .int (-1), .ref sb]))] ++ plq G a1) ++ hiq G hh s1 bb) ++ plq G a2) ++ scq G sc t1 c1 z1 : va_W).length = 782 := by rw [List.length_append, l3, ls]
  have l5 : (foq G h0 a1 hh s1 bb a2 sc t1 c1 z1 sb b1).length = 784 := by
    unfold foq
    rw [List.length_append, l4]
    rfl
  have l6 : (foq G h0 a1 hh s1 bb a2 sc t1 c1 z1 sb b1 ++ mdq G q0 am).length = 796 := by rw [List.length_append, l5]; rfl
  have l7 : ((foq G h0 a1 hh s1 bb a2 sc t1 c1 z1 sb b1 ++ mdq G q0 am) ++ [(qL, Sum.inl (cy G 3, 1, .inr (.inl (fun _ => 0))))] : va_W).length = 797 := by rw [List.length_append, l6]; rfl
  have A : ∀ j, j < 798 → 714 < j → ∀ v, adq h0 hh s1 sc t1 c1 z1 sb b1 q0 qL qD a1 a2 am bb j = v → adx G (X0 b1) j = v := fun j h1 h2 v h3 => by
    unfold adx
    by_cases q : j = 737
    · rw [if_pos q, ← h3, q]
      rfl
    · rw [if_neg q, hG, h3]
  have aj : ∀ j v, adq h0 hh s1 sc t1 c1 z1 sb b1 q0 qL qD a1 a2 am bb j = v → ad G j = v := fun j v h => (congrFun hG j).trans h
  by_cases h1 : k < 65
  · have e : sg k = 1 + k := (if_pos h1).trans (Nat.add_comm k 1)
    have t := pl 0 a1 (by decide) hp0 k h1
    rw [Nat.mul_zero, Nat.zero_add] at t
    rw [t]
    exact lf (ga_l (ga_l (ga_l (ga_l (ga_r rfl (plq_at h1) e)))))
  · by_cases h2 : k < 650
    · have e : sg k = k + 3 := (if_neg h1).trans (if_pos (by omega))
      obtain ⟨i, o, hi, ho, rfl⟩ : ∃ i o, i < 9 ∧ o < 65 ∧ k = 65 * (i + 1) + o := ⟨(k - 65) / 65, (k - 65) % 65, by omega, by omega, by omega⟩
      rw [pl (i + 1) (bb i) (by omega) (fun o ho => hpi i o hi ho) o ho]
      exact lf (ga_l (ga_l (ga_l (ga_r l1 (i := 2 + (65 * i + o)) (ga_r rfl (hsq_at 9 i o hi ho) rfl) (by omega)))))
    · by_cases h3 : k < 715
      · have e : sg k = k + 3 := (if_neg h1).trans (if_pos h3)
        obtain ⟨o, ho, rfl⟩ : ∃ o, o < 65 ∧ k = 65 * 10 + o := ⟨k - 650, by omega, by omega⟩
        rw [pl 10 a2 (by decide) hpz o ho]
        exact lf (ga_l (ga_l (ga_r l2 (plq_at ho) (by omega))))
      · by_cases h4 : 738 ≤ k
        · obtain ⟨j, hj, rfl⟩ : ∃ j, j < 60 ∧ k = 738 + j := ⟨k - 738, by omega, by omega⟩
          have e : sg (738 + j) = 722 + j := by
            unfold sg
            rw [if_neg (by omega), if_neg (by omega), if_neg (by omega), if_neg (by omega), if_neg (by omega), if_neg (by omega), if_neg (by omega), if_neg (by omega), if_neg (by omega)]
            omega
          have c : cell G (X0 b1) (738 + j) = .inl (cy G 0, 3, .inl (fun _ => 0)) := by
            rw [cell_arg]
            unfold iarr
            exact congrArg (fun f => (Sum.inl (cy G 0, 3, .inl f) : va_E)) (tr_0 (fun j2 _ => rfl) (fun _ _ => rfl))
          have a : adx G (X0 b1) (738 + j) = z1 + 1 + j := A _ (by omega) (by omega) _ (by
            unfold adq
            rw [if_neg (by omega), if_neg (by omega), if_neg (by omega), if_neg (by omega), if_neg (by omega), if_neg (by omega), if_neg (by omega), if_neg (by omega), if_neg (by omega), if_neg (by omega), if_neg (by omega), if_neg (by omega), if_neg (by omega), if_neg (by omega), if_neg (by omega), if_neg (by omega), show 738 + j - 738 = j by omega])
          rw [c, a]
          exact lf (ga_l (ga_r l3 (i := 4 + j) (ga_r rfl (rowq_at hj) rfl) (by omega)))
        · rcases (by omega : k = 715 ∨ k = 716 ∨ k = 717 ∨ k = 718 ∨ k = 719 ∨ k = 720 ∨ k = 721 ∨ k = 722 ∨ k = 723 ∨ k = 724 ∨ k = 725 ∨ k = 726 ∨ k = 727 ∨ k = 728 ∨ k = 729 ∨ k = 730 ∨ k = 731 ∨ k = 732 ∨ k = 733 ∨ k = 734 ∨ k = 735 ∨ k = 736 ∨ k = 737) with rfl | rfl | rfl | rfl | rfl | rfl | rfl | rfl | rfl | rfl | rfl | rfl | rfl | rfl | rfl | rfl | rfl | rfl | rfl | rfl | rfl | rfl | rfl
          · rw [show adx G (X0 b1) 715 = h0 from A _ (by decide) (by decide) _ rfl]
            exact (lf (ga_l (ga_l (ga_l (ga_l (ga_l rfl))))) : (Vq G h0 hh s1 sc t1 c1 z1 sb b1 q0 qL qD a1 a2 am bb)[sg 715]? = some (h0, _)).trans (congrArg (fun c => some (h0, c)) (by show _ = Sum.inr (9, [Value.ref (ad G 0), .ref (ad G 716), .ref (ad G 650), .int 0, .ref (ad G 718), .int (-1), .int (-1), .ref (ad G 722)]); rw [aj 0 (a1 0) rfl, aj 716 hh rfl, aj 650 (a2 0) rfl, aj 718 sc rfl, aj 722 sb rfl]))
          · rw [show adx G (X0 b1) 716 = hh from A _ (by decide) (by decide) _ rfl]
            exact (lf (ga_l (ga_l (ga_l (ga_r l1 (i := 0) (ga_l rfl) rfl)))) : (Vq G h0 hh s1 sc t1 c1 z1 sb b1 q0 qL qD a1 a2 am bb)[sg 716]? = some (hh, _)).trans (congrArg (fun c => some (hh, c)) (by show _ = Sum.inr (4, [Value.ref (ad G 717), .int 0, .int 0]); rw [aj 717 s1 rfl]))
          · rw [show adx G (X0 b1) 717 = s1 from A _ (by decide) (by decide) _ rfl]
            have q7 : (Sum.inl (cy G 7, 9, .inr (.inr (.inr (.inr (slq bb))))) : va_E) = cell G (X0 b1) 717 := by
              show _ = rarr G 7 9 (fun k => 65 * (k + 1) + 0)
              unfold rarr slq
              refine congrArg (fun f => (Sum.inl (cy G 7, 9, .inr (.inr (.inr (.inr f)))) : va_E)) (funext fun j => ?_)
              by_cases q : j < 9
              · rw [if_pos q, if_pos q, hpi j 0 q (by decide)]
              · rw [if_neg q, if_neg q]
            exact (lf (ga_l (ga_l (ga_l (ga_r l1 (i := 1) (ga_l rfl) rfl)))) : (Vq G h0 hh s1 sc t1 c1 z1 sb b1 q0 qL qD a1 a2 am bb)[sg 717]? = some (s1, _)).trans (congrArg (fun c => some (s1, c)) q7)
          · rw [show adx G (X0 b1) 718 = sc from A _ (by decide) (by decide) _ rfl]
            exact (lf (ga_l (ga_r l3 (i := 0) (ga_l rfl) rfl)) : (Vq G h0 hh s1 sc t1 c1 z1 sb b1 q0 qL qD a1 a2 am bb)[sg 718]? = some (sc, _)).trans (congrArg (fun c => some (sc, c)) (by show _ = Sum.inr (7, [Value.ref (ad G 719), .int 0, .int 0, .ref (ad G 720), .ref (ad G 721), .int 0]); rw [aj 719 t1 rfl, aj 720 c1 rfl, aj 721 z1 rfl]))
          · rw [show adx G (X0 b1) 719 = t1 from A _ (by decide) (by decide) _ rfl]
            exact (lf (ga_l (ga_r l3 (i := 1) (ga_l rfl) rfl)) : (Vq G h0 hh s1 sc t1 c1 z1 sb b1 q0 qL qD a1 a2 am bb)[sg 719]? = some (t1, _)).trans (congrArg (fun c => some (t1, c)) (congrArg (fun f => (Sum.inl (cy G 1, 60, .inl f) : va_E)) (tr_0 (fun _ _ => rfl) (fun _ _ => rfl)).symm))
          · rw [show adx G (X0 b1) 720 = c1 from A _ (by decide) (by decide) _ rfl]
            have q7 : (Sum.inl (cy G 8, 60, .inr (.inr (.inr (.inr (fun _ => none))))) : va_E) = cell G (X0 b1) 720 := by
              show _ = (Sum.inl (cy G 8, 60, .inr (.inr (.inr (.inr (fun j => if j < 60 then (if (0 : Int32) = 0 then none else some (cy G (19 + (0 : Int32).toNatClampNeg))) else none)))) ) : va_E)
              refine congrArg (fun f => (Sum.inl (cy G 8, 60, .inr (.inr (.inr (.inr f)))) : va_E)) (funext fun j => ?_)
              by_cases q : j < 60
              · rw [if_pos q, if_pos rfl]
              · rw [if_neg q]
            exact (lf (ga_l (ga_r l3 (i := 2) (ga_l rfl) rfl)) : (Vq G h0 hh s1 sc t1 c1 z1 sb b1 q0 qL qD a1 a2 am bb)[sg 720]? = some (c1, _)).trans (congrArg (fun c => some (c1, c)) q7)
          · rw [show adx G (X0 b1) 721 = z1 from A _ (by decide) (by decide) _ rfl]
            have q7 : argq G z1 = cell G (X0 b1) 721 := by
              show _ = (Sum.inl (cy G 9, 60, .inr (.inr (.inr (.inr (fun j => if j < 60 then some (ad G (738 + j)) else none))))) : va_E)
              unfold argq
              refine congrArg (fun f => (Sum.inl (cy G 9, 60, .inr (.inr (.inr (.inr f)))) : va_E)) (funext fun j => ?_)
              by_cases q : j < 60
              · rw [if_pos q, if_pos q, aj (738 + j) (z1 + 1 + j) (by unfold adq; rw [if_neg (by omega), if_neg (by omega), if_neg (by omega), if_neg (by omega), if_neg (by omega), if_neg (by omega), if_neg (by omega), if_neg (by omega), if_neg (by omega), if_neg (by omega), if_neg (by omega), if_neg (by omega), if_neg (by omega), if_neg (by omega), if_neg (by omega), if_neg (by omega), show 738 + j - 738 = j by omega])]
              · rw [if_neg q, if_neg q]
            exact (lf (ga_l (ga_r l3 (i := 3) (ga_l rfl) rfl)) : (Vq G h0 hh s1 sc t1 c1 z1 sb b1 q0 qL qD a1 a2 am bb)[sg 721]? = some (z1, _)).trans (congrArg (fun c => some (z1, c)) q7)
          · rw [show adx G (X0 b1) 722 = sb from A _ (by decide) (by decide) _ rfl]
            exact (lf (ga_r l4 (i := 0) rfl rfl) : (Vq G h0 hh s1 sc t1 c1 z1 sb b1 q0 qL qD a1 a2 am bb)[sg 722]? = some (sb, _)).trans (congrArg (fun c => some (sb, c)) (rfl))
          · rw [show adx G (X0 b1) 723 = q0 from A _ (by decide) (by decide) _ rfl]
            exact (ga_l (ga_l (ga_r l5 (i := 0) (by rfl) (by rfl))) : (Vq G h0 hh s1 sc t1 c1 z1 sb b1 q0 qL qD a1 a2 am bb)[sg 723]? = some (q0, _)).trans (congrArg (fun c => some (q0, c)) (by show _ = Sum.inr (10, [Value.int 0, .int 0, .int (-1), .int (-1), .int 0, .ref (ad G 724), .ref (ad G 725), .ref (ad G 726), .ref (ad G 727), .ref (ad G 728), .ref (ad G 729), .ref (ad G 730), .ref (ad G 731), .ref (ad G 732), .ref (ad G 733), .ref (ad G 734), .int 0, .int 0, .int 0, .int 0, .int 0, .int 0]); rw [aj 724 (am 1) rfl, aj 725 (am 2) rfl, aj 726 (am 3) rfl, aj 727 (am 4) rfl, aj 728 (am 5) rfl, aj 729 (am 6) rfl, aj 730 (am 7) rfl, aj 731 (am 8) rfl, aj 732 (am 9) rfl, aj 733 (am 10) rfl, aj 734 (am 11) rfl]))
          · rw [show adx G (X0 b1) 724 = am 1 from A _ (by decide) (by decide) _ rfl]
            exact (ga_l (ga_l (ga_r l5 (i := 1) (by rfl) (by rfl))) : (Vq G h0 hh s1 sc t1 c1 z1 sb b1 q0 qL qD a1 a2 am bb)[sg 724]? = some (am 1, _)).trans (congrArg (fun c => some (am 1, c)) ((congrArg (fun f => (Sum.inl (cy G 0, 128, .inl f) : va_E)) (tr_0 (fun j _ => by rw [Nat.zero_add]; rfl) (fun j hj => by unfold v0q; simp (disch := omega) only [pk_un]))).symm))
          · rw [show adx G (X0 b1) 725 = am 2 from A _ (by decide) (by decide) _ rfl]
            exact (ga_l (ga_l (ga_r l5 (i := 2) (by rfl) (by rfl))) : (Vq G h0 hh s1 sc t1 c1 z1 sb b1 q0 qL qD a1 a2 am bb)[sg 725]? = some (am 2, _)).trans (congrArg (fun c => some (am 2, c)) ((congrArg (fun f => (Sum.inl (cy G 0, 128, .inl f) : va_E)) (tr_0 (fun j _ => by rw [Nat.zero_add]; rfl) (fun _ _ => rfl))).symm))
          · rw [show adx G (X0 b1) 726 = am 3 from A _ (by decide) (by decide) _ rfl]
            exact (ga_l (ga_l (ga_r l5 (i := 3) (by rfl) (by rfl))) : (Vq G h0 hh s1 sc t1 c1 z1 sb b1 q0 qL qD a1 a2 am bb)[sg 726]? = some (am 3, _)).trans (congrArg (fun c => some (am 3, c)) ((congrArg (fun f => (Sum.inl (cy G 0, 128, .inl f) : va_E)) (tr_0 (fun j _ => by rw [Nat.zero_add]; rfl) (fun _ _ => rfl))).symm))
          · rw [show adx G (X0 b1) 727 = am 4 from A _ (by decide) (by decide) _ rfl]
            exact (ga_l (ga_l (ga_r l5 (i := 4) (by rfl) (by rfl))) : (Vq G h0 hh s1 sc t1 c1 z1 sb b1 q0 qL qD a1 a2 am bb)[sg 727]? = some (am 4, _)).trans (congrArg (fun c => some (am 4, c)) ((congrArg (fun f => (Sum.inl (cy G 0, 1024, .inl f) : va_E)) (tr_0 (fun j _ => by rw [Nat.zero_add]; rfl) (fun _ _ => rfl))).symm))
          · rw [show adx G (X0 b1) 728 = am 5 from A _ (by decide) (by decide) _ rfl]
            exact (ga_l (ga_l (ga_r l5 (i := 5) (by rfl) (by rfl))) : (Vq G h0 hh s1 sc t1 c1 z1 sb b1 q0 qL qD a1 a2 am bb)[sg 728]? = some (am 5, _)).trans (congrArg (fun c => some (am 5, c)) ((congrArg (fun f => (Sum.inl (cy G 0, 4, .inl f) : va_E)) (tr_0 (fun j _ => by rw [Nat.zero_add]; rfl) (fun _ _ => rfl))).symm))
          · rw [show adx G (X0 b1) 729 = am 6 from A _ (by decide) (by decide) _ rfl]
            exact (ga_l (ga_l (ga_r l5 (i := 6) (by rfl) (by rfl))) : (Vq G h0 hh s1 sc t1 c1 z1 sb b1 q0 qL qD a1 a2 am bb)[sg 729]? = some (am 6, _)).trans (congrArg (fun c => some (am 6, c)) ((congrArg (fun f => (Sum.inl (cy G 0, 4, .inl f) : va_E)) (tr_0 (fun j _ => by rw [Nat.zero_add]; rfl) (fun j hj => by unfold ptq; simp (disch := omega) only [pk_un]))).symm))
          · rw [show adx G (X0 b1) 730 = am 7 from A _ (by decide) (by decide) _ rfl]
            exact (ga_l (ga_l (ga_r l5 (i := 7) (by rfl) (by rfl))) : (Vq G h0 hh s1 sc t1 c1 z1 sb b1 q0 qL qD a1 a2 am bb)[sg 730]? = some (am 7, _)).trans (congrArg (fun c => some (am 7, c)) ((congrArg (fun f => (Sum.inl (cy G 0, 60, .inl f) : va_E)) (tr_0 (fun j _ => by rw [Nat.zero_add]; rfl) (fun _ _ => rfl))).symm))
          · rw [show adx G (X0 b1) 731 = am 8 from A _ (by decide) (by decide) _ rfl]
            exact (ga_l (ga_l (ga_r l5 (i := 8) (by rfl) (by rfl))) : (Vq G h0 hh s1 sc t1 c1 z1 sb b1 q0 qL qD a1 a2 am bb)[sg 731]? = some (am 8, _)).trans (congrArg (fun c => some (am 8, c)) ((congrArg (fun f => (Sum.inl (cy G 0, 40, .inl f) : va_E)) (tr_0 (fun j _ => by rw [Nat.zero_add]; rfl) (fun _ _ => rfl))).symm))
          · rw [show adx G (X0 b1) 732 = am 9 from A _ (by decide) (by decide) _ rfl]
            exact (ga_l (ga_l (ga_r l5 (i := 9) (by rfl) (by rfl))) : (Vq G h0 hh s1 sc t1 c1 z1 sb b1 q0 qL qD a1 a2 am bb)[sg 732]? = some (am 9, _)).trans (congrArg (fun c => some (am 9, c)) ((congrArg (fun f => (Sum.inl (cy G 0, 10, .inl f) : va_E)) (tr_0 (fun j _ => by rw [Nat.zero_add]; rfl) (fun _ _ => rfl))).symm))
          · rw [show adx G (X0 b1) 733 = am 10 from A _ (by decide) (by decide) _ rfl]
            exact (ga_l (ga_l (ga_r l5 (i := 10) (by rfl) (by rfl))) : (Vq G h0 hh s1 sc t1 c1 z1 sb b1 q0 qL qD a1 a2 am bb)[sg 733]? = some (am 10, _)).trans (congrArg (fun c => some (am 10, c)) ((congrArg (fun f => (Sum.inl (cy G 0, 53, .inl f) : va_E)) (tr_0 (fun j _ => by rw [Nat.zero_add]; rfl) (fun j hj => by unfold wdq; simp (disch := omega) only [pk_un]))).symm))
          · rw [show adx G (X0 b1) 734 = am 11 from A _ (by decide) (by decide) _ rfl]
            exact (ga_l (ga_l (ga_r l5 (i := 11) (by rfl) (by rfl))) : (Vq G h0 hh s1 sc t1 c1 z1 sb b1 q0 qL qD a1 a2 am bb)[sg 734]? = some (am 11, _)).trans (congrArg (fun c => some (am 11, c)) ((congrArg (fun f => (Sum.inl (cy G 0, 11, .inl f) : va_E)) (tr_0 (fun j _ => by rw [Nat.zero_add]; rfl) (fun j hj => by unfold waq; simp (disch := omega) only [pk_un]))).symm))
          · rw [show adx G (X0 b1) 735 = qL from A _ (by decide) (by decide) _ rfl]
            exact (ga_l (ga_r l6 (i := 0) rfl rfl) : (Vq G h0 hh s1 sc t1 c1 z1 sb b1 q0 qL qD a1 a2 am bb)[sg 735]? = some (qL, _)).trans (congrArg (fun c => some (qL, c)) (rfl))
          · rw [show adx G (X0 b1) 736 = qD from A _ (by decide) (by decide) _ rfl]
            exact (ga_r l7 (i := 0) rfl rfl : (Vq G h0 hh s1 sc t1 c1 z1 sb b1 q0 qL qD a1 a2 am bb)[sg 736]? = some (qD, _)).trans (congrArg (fun c => some (qD, c)) (rfl))
          · rw [show adx G (X0 b1) 737 = b1 from A _ (by decide) (by decide) _ rfl]
            exact (lf (ga_r l4 (i := 1) rfl rfl) : (Vq G h0 hh s1 sc t1 c1 z1 sb b1 q0 qL qD a1 a2 am bb)[sg 737]? = some (b1, _)).trans (congrArg (fun c => some (b1, c)) (rfl))
end WLD
