/-! One turn of the law, as a step of the flat state. -/
theorem nd_inj {L : List String} (hN : L.Nodup) {i j : Nat} {E : String} (h1 : L[i]? = some E) (h2 : L[j]? = some E) : i = j := (List.getElem?_inj (List.getElem?_eq_some_iff.mp h1).1 hN).mp (h1.trans h2.symm)
theorem nd_lt {L : List String} {i : Nat} {E : String} (h1 : L[i]? = some E) : i < L.length := (List.getElem?_eq_some_iff.mp h1).1
theorem lpost_map {L : List String} {g : Int32 → Int32} {post post' : Int32 → St → Prop} {postx postx' : String → St → Prop} {k : Int32} {Y : St} (h1 : ∀ r Y, post r Y → post' r Y) (h2 : ∀ E Y, postx E Y → postx' E Y) (h : lpost L g post postx k Y) : lpost L g post' postx' k Y := by
  rcases h with ⟨h, r, Y0, h3, h4⟩ | ⟨i, E, h3, h4, h5⟩
  · exact .inl ⟨h, r, Y0, h1 _ _ h3, h4⟩
  · exact .inr ⟨i, E, h3, h4, h2 _ _ h5⟩
theorem sup_self (X : St) (r i : Nat) : sup X r i (X.1 r i) = X := by
  refine Prod.ext (funext fun r' => funext fun i' => ?_) rfl
  show (if r' = r ∧ i' = i then X.1 r i else X.1 r' i') = _
  by_cases q : r' = r ∧ i' = i
  · rw [if_pos q, q.1, q.2]
  · rw [if_neg q]
abbrev qpo (F : Int32 × Int32) (X : St) : Int32 → St → Prop := fun res Y => (F.1 = 0 ∧ res = F.2) ∧ Y = X
abbrev qpx (L : List String) (F : Int32 × Int32) (X : St) : String → St → Prop := fun E Y => exN L E F.1 ∧ Y = X
theorem qs_of {L : List String} (hN : L.Nodup) (hl : L.length ≤ 9) {g : Int32 → Int32} {F : Int32 × Int32} {X Y : St} {k9 : Int32} (h : lpost L g (qpo F X) (qpx L F X) k9 Y) : F.1 = k9 ∧ ∃ x, Y = sup X 27 0 x ∧ (k9 = 0 → x = g F.2) := by
  rcases h with ⟨h, r, Y0, ⟨⟨h1, h2⟩, h3⟩, h4⟩ | ⟨i, E, h3, h4, ⟨j, h5, h6⟩, h7⟩
  · subst h
    subst h3
    exact ⟨h1, g r, h4, fun _ => by rw [h2]⟩
  · have e := nd_inj hN h5 h3
    have hi := nd_lt h3
    subst e
    refine ⟨h6.trans h4.symm, X.1 27 0, h7.trans (sup_self X 27 0).symm, fun q => ?_⟩
    rw [h4] at q
    exact absurd q (nI_ne0 (by omega) (by omega))
theorem LInv.sup27 {X : St} (h : LInv X) (x : Int32) : LInv (sup X 27 0 x) := h.congr (fun r h1 _ _ _ _ _ _ => sp_ne (by omega)) (fun j _ => congrFun (sp_ne (by decide)) j) rfl rfl
theorem LInv.thrown {X : St} (h : LInv X) (k : Int32) : LInv (setRow X 15 (upd (X.1 15) 0 k)) := h.congr (fun r _ _ _ h1 _ _ _ => sr_ne h1) (fun j hj => by rw [sr_at, pk_un (by omega)]) rfl rfl
theorem qstep {L : List String} (hN : L.Nodup) (hl : L.length ≤ 9) {g : Int32 → Int32} {F : Int32 × Int32} {X : St} (m : (Nat → Int32) → (Nat → Int32) → (Nat → Int32) → Int32 × (Nat → Int32)) (hI : LInv X) (q : QOk F (m (X.1 15) (X.1 16) (X.1 21)) (X.1 15)) (k9 : Int32) (Y : St) (h : lpost L g (qpo F X) (qpx L F X) k9 Y) (r : Int32) (Z : St) (h2 : r = (m (Y.1 15) (Y.1 16) (Y.1 21)).1 ∧ Z = setRow Y 15 (m (Y.1 15) (Y.1 16) (Y.1 21)).2) : (Z.1 15 0 = k9 ∧ (k9 = 0 → Z.1 27 0 = g r)) ∧ LInv Z := by
  obtain ⟨e, x, rfl, hx⟩ := qs_of hN hl h
  rw [sp_ne (r' := 15) (by decide), sp_ne (r' := 16) (by decide), sp_ne (r' := 21) (by decide), q.1] at h2
  obtain ⟨h3, rfl⟩ := h2
  refine ⟨⟨?_, fun z => ?_⟩, ?_⟩
  · rw [sr_at, pk_us, e]
  · rw [sr_ne (by decide), sp_at, hx z, h3, q.2 (e.trans z)]
  · have t := (hI.sup27 x).thrown F.1
    rw [sp_ne (by decide)] at t
    exact t
/-- what a change of the class leaves, and what it leaves when refused -/
abbrev cpo (P : Int32 × (Nat → Int32)) (sp cn : Nat) (X : St) : Int32 → St → Prop := fun res Y => refE P.1 = none ∧ res = P.1 ∧ Y = setRow (setRow (setRow X (sp + 1) (cpPlantR (X.1 (sp + 1)) (X.1 0))) 0 P.2) 11 (keepR (X.1 11) sp cn)
abbrev cpx (P : Int32 × (Nat → Int32)) (sp : Nat) (X : St) : String → St → Prop := fun E Y => refE P.1 = some E ∧ Y = setRow (setRow X (sp + 1) (cpPlantR (X.1 (sp + 1)) (X.1 0))) 0 P.2
theorem cp_rows {L : List String} {P : Int32 × (Nat → Int32)} {sp cn : Nat} (hsp : sp < 9) {X Y : St} {k9 : Int32} (h : lpost L id (cpo P sp cn X) (cpx P sp X) k9 Y) : (∀ r, 12 ≤ r → r ≠ 27 → Y.1 r = X.1 r) ∧ Y.2 = X.2 := by
  rcases h with ⟨-, r, Y0, ⟨-, -, h3⟩, h4⟩ | ⟨i, E, -, -, -, h7⟩
  · subst h3
    subst h4
    exact ⟨fun r h1 h2 => by rw [sp_ne h2, sr_ne (by omega), sr_ne (by omega), sr_ne (by omega)], rfl⟩
  · subst h7
    exact ⟨fun r h1 h2 => by rw [sr_ne (by omega), sr_ne (by omega)], rfl⟩
theorem cpT_back (v t : Nat → Int32) : cpT 128 v (cpT 128 t v) = v := by
  funext j
  unfold cpT
  by_cases q : j < 128
  · rw [if_pos q, if_pos q]
  · rw [if_neg q]
theorem ends_no {d15 d16 w17 w19 : Nat → Int32} {a : Int32} (h : ¬ d15 0 = 0) : oM_ends d15 d16 w17 w19 a = (0, d15, cpT 128 d16 w17, w19) := if_neg h
theorem ends_yes {d15 d16 w17 w19 : Nat → Int32} {a : Int32} {cn : Nat} (h : d15 0 = 0) (hc : cn ≤ 8) (h1 : d15 1 = nI cn) : ∃ e15, oM_ends d15 d16 w17 w19 a = (a, e15, d16, if cn = 8 then cpP (shP w19 896) 7 w17 128 else cpP w19 cn w17 128) ∧ (∀ j, j ≠ 1 → e15 j = d15 j) ∧ e15 1 = nI (min (cn + 1) 8) := by
  unfold oM_ends
  rw [if_pos h, h1]
  by_cases q : cn = 8
  · subst q
    rw [if_pos (show nI 8 = 8 from rfl), if_pos rfl, nI_clamp (n := 8) (by decide)]
    exact ⟨_, rfl, fun j hj => by rw [pk_un hj, pk_un hj], pk_us⟩
  · rw [if_neg (show ¬ nI cn = 8 from fun z => q ((nI_eq (b := 8) (by omega) (by decide)).mp z)), if_neg q, nI_clamp (n := cn) (by omega)]
    exact ⟨_, rfl, fun j hj => pk_un hj, by rw [pk_us, Nat.min_eq_left (by omega)]⟩
theorem cstep {L : List String} (hN : L.Nodup) {X : St} (hI : LInv X) {sp cn : Nat} (hsp : sp < 9) (hcn : cn ≤ 8) (es : X.1 11 3 = nI sp) (ec : X.1 11 4 = nI cn) {P : Int32 × (Nat → Int32)} {ans : Int32} {d15 d16 : Nat → Int32}
    (o : OpOk (fun _ => 0) L P (X.1 0) (upd (X.1 15) 0 0) ans d15 (X.1 16) d16) {k9 : Int32} {Y : St} (h : lpost L id (cpo P sp cn X) (cpx P sp X) k9 Y) {r : Int32} {Z : St}
    (hr : r = (oM_ends d15 d16 (cpT 128 (X.1 17) (X.1 16)) (X.1 19) ans).1) (h15 : Z.1 15 = (oM_ends d15 d16 (cpT 128 (X.1 17) (X.1 16)) (X.1 19) ans).2.1) (h16 : Z.1 16 = (oM_ends d15 d16 (cpT 128 (X.1 17) (X.1 16)) (X.1 19) ans).2.2.1) (h19 : Z.1 19 = (oM_ends d15 d16 (cpT 128 (X.1 17) (X.1 16)) (X.1 19) ans).2.2.2)
    (ho : ∀ r, r ≠ 15 → r ≠ 16 → r ≠ 17 → r ≠ 19 → r ≠ 20 → Z.1 r = Y.1 r) (hz : Z.2 = Y.2) : (Z.1 15 0 = k9 ∧ (k9 = 0 → Z.1 27 0 = r)) ∧ LInv Z := by
  have ecn : X.1 15 1 = nI cn := by
    obtain ⟨-, -, ⟨sp', cn', c1, c2, c3, c4, c5, -⟩, -⟩ := hI
    obtain rfl : cn' = cn := (nI_eq (by omega) (by omega)).mp (c4.symm.trans ec)
    exact c5
  have hrel : FI (X.1 16) ∧ Rel (X.1 0) (X.1 16) := hI.1
  rcases o with ⟨i, E, g1, g2, g3, g4, g5, g6, g7⟩ | ⟨g1, g2, g3, g4, g5, g6⟩
  · rcases h with ⟨-, r, Y0, ⟨h1, -, -⟩, -⟩ | ⟨i', E', h1, h2, h3, h4⟩
    · rw [h1] at g3
      cases g3
    · rw [g3] at h3
      obtain rfl := Option.some.inj h3
      obtain rfl := nd_inj hN g1 h1
      have d0 : ¬ d15 0 = 0 := by
        rw [g6, pk_us]
        exact nI_ne0 (by omega) (by omega)
      rw [ends_no d0] at h15 h16 h19
      have h15 : Z.1 15 = d15 := h15
      have h16 : Z.1 16 = X.1 16 := by
        rw [h16, g7]
        exact cpT_back _ _
      have h19 : Z.1 19 = X.1 19 := h19
      refine ⟨⟨by rw [h15, g6, pk_us, h2], fun q => ?_⟩, change_no hI hsp es (fun r q1 q2 q3 q4 q5 q6 q7 q8 q9 => ?_) ?_ (fun j hj => ?_) (by rw [hz, h4]; rfl) (by rw [hz, h4]; rfl)⟩
      · rw [h2] at q
        exact absurd q (nI_ne0 (by omega) (by omega))
      · by_cases z : r = 16
        · rw [z, h16]
        · by_cases z2 : r = 19
          · rw [z2, h19]
          · rw [ho r q6 z q7 z2 q8, h4, sr_ne q2, sr_ne q3]
      · rw [ho 0 (by decide) (by decide) (by decide) (by decide) (by decide), h4, sr_at, g5]
        exact hrel.2
      · rw [h15, g6, pk_un (by omega), pk_un (by omega)]
  · rcases h with ⟨h0, r0, Y0, ⟨-, h2, h3⟩, h4⟩ | ⟨i', E', -, -, h3, -⟩
    · have d0 : d15 0 = 0 := by rw [g4]; exact pk_us
      obtain ⟨e15, en, eo, e1⟩ := ends_yes (d16 := d16) (w17 := cpT 128 (X.1 17) (X.1 16)) (w19 := X.1 19) (a := ans) d0 hcn (by rw [g4, pk_un (by decide), ecn])
      rw [en] at hr h15 h16 h19
      have hr : r = ans := hr
      have h15 : Z.1 15 = e15 := h15
      have h16 : Z.1 16 = d16 := h16
      have yo : ∀ r, r ≠ 27 → r ≠ 11 → r ≠ 0 → r ≠ sp + 1 → Y.1 r = X.1 r := fun r q1 q2 q3 q4 => by rw [h4, sp_ne q1, h3, sr_ne q2, sr_ne q3, sr_ne q4]
      have y0 : Y.1 0 = P.2 := by rw [h4, sp_ne (by decide), h3, sr_ne (by decide), sr_at]
      have y11 : Y.1 11 = keepR (X.1 11) sp cn := by rw [h4, sp_ne (by decide), h3, sr_at]
      have ys : Y.1 (sp + 1) = cpPlantR (X.1 (sp + 1)) (X.1 0) := by rw [h4, sp_ne (by omega), h3, sr_ne (by omega), sr_ne (by omega), sr_at]
      have yz : Y.2 = X.2 := by rw [h4, h3]; rfl
      have z11 : Z.1 11 = keepR (X.1 11) sp cn := (ho 11 (by decide) (by decide) (by decide) (by decide) (by decide)).trans y11
      refine ⟨⟨by rw [h15, eo 0 (by decide), d0, h0], fun _ => ?_⟩, change_yes hI hsp hcn es ec (fun r q1 q2 q3 q4 q5 q6 q7 q8 q9 q10 q11 q12 => ?_) ?_ g6 h16 ?_ (fun j hj => ?_) ?_ ?_ ?_ (fun j hj => ?_) (by rw [h15, e1]) h19 (by rw [hz, yz]) (by rw [hz, yz])⟩
      · rw [ho 27 (by decide) (by decide) (by decide) (by decide) (by decide), h4, sp_at, hr, g3]
        exact h2
      · rw [ho r q7 q8 q9 q10 q11, yo r (by omega) q4 q2 q3]
      · rw [ho 0 (by decide) (by decide) (by decide) (by decide) (by decide), y0]
        exact g5
      · rw [ho (sp + 1) (by omega) (by omega) (by omega) (by omega) (by omega), ys]
      · rw [z11]
        unfold keepR
        rw [pk_un (by omega), pk_un (by omega)]
      · rw [z11]
        unfold keepR
        rw [pk_un (by decide), pk_us]
      · rw [z11]
        unfold keepR
        rw [pk_us, imin8 hcn]
      · obtain ⟨-, -, -, -, ⟨L9, l1, l2, l3, l4⟩, -, -⟩ := hI
        refine ⟨L9, l1, ?_, ?_, l4⟩
        · rw [z11]
          unfold keepR
          rw [pk_un (by decide), pk_un (by decide), l2]
        · rw [h15, eo 5 (by decide), g4, pk_un (by decide), l3]
      · rw [h15, eo j (by omega), g4, pk_un (by omega)]
    · rw [g1] at h3
      cases h3
