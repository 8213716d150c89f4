/-! The law's turn of runScript. -/
section LT4
variable {p : Program} {l : Launch} {e : Env} {s : State} {m : MethodId} {args : Array Value} {below : List Frame} {meth : Method} {c : Code} {H : Heap} {locs : List Loc} {cells slots : Nat} {Q : State → Prop}
variable {ls : Array Slot} {G : GT} {X : St} {b L : Nat} {xs : Nat → Int32}
theorem two_0 {i : Nat} (h : ["java/lang/IllegalArgumentException", "java/lang/IllegalStateException"][i]? = some "java/lang/IllegalArgumentException") : i = 0 := nd_inj (L := ["java/lang/IllegalArgumentException", "java/lang/IllegalStateException"]) (by decide) h rfl
theorem two_1 {i : Nat} (h : ["java/lang/IllegalArgumentException", "java/lang/IllegalStateException"][i]? = some "java/lang/IllegalStateException") : i = 1 := nd_inj (L := ["java/lang/IllegalArgumentException", "java/lang/IllegalStateException"]) (by decide) h rfl
theorem rs_rows {X Y : St} {k9 : Int32} {sp cn k mm : Nat} (hsp : sp < 9) (h : lpost ["java/lang/IllegalArgumentException", "java/lang/IllegalStateException"] id (fun res Y => ((parseR (X.1 12) k (X.1 13) (X.1 14)).1 = -1 ∧ (psL (parseR (X.1 12) k (X.1 13) (X.1 14)).2.2.2.1 (parseR (X.1 12) k (X.1 13) (X.1 14)).2.2.2.2 mm 0 (X.1 0)).1 = -1 ∧ res = nI mm) ∧ Y = setRow (setRow (setRow (setRow (setRow X 11 (keepR (upd (upd (upd (X.1 11) (6) (nI (parseR (X.1 12) k (X.1 13) (X.1 14)).2.1)) (7) (parseR (X.1 12) k (X.1 13) (X.1 14)).2.2.1) (5) 0) sp cn)) 14 (parseR (X.1 12) k (X.1 13) (X.1 14)).2.2.2.2) 13 (parseR (X.1 12) k (X.1 13) (X.1 14)).2.2.2.1) (sp + 1) (cpPlantR (X.1 (sp + 1)) (X.1 0))) 0 ((psL (parseR (X.1 12) k (X.1 13) (X.1 14)).2.2.2.1 (parseR (X.1 12) k (X.1 13) (X.1 14)).2.2.2.2 mm 0 (X.1 0)).2)) (fun E Y => (E = "java/lang/IllegalArgumentException" ∧ ¬ (parseR (X.1 12) k (X.1 13) (X.1 14)).1 = -1 ∧ Y = setRow (setRow (setRow X 11 (upd (upd (upd (upd (X.1 11) (6) (nI (parseR (X.1 12) k (X.1 13) (X.1 14)).2.1)) (7) (parseR (X.1 12) k (X.1 13) (X.1 14)).2.2.1) (5) 0) (1) (parseR (X.1 12) k (X.1 13) (X.1 14)).1)) 14 (parseR (X.1 12) k (X.1 13) (X.1 14)).2.2.2.2) 13 (parseR (X.1 12) k (X.1 13) (X.1 14)).2.2.2.1) ∨ (E = "java/lang/IllegalStateException" ∧ (parseR (X.1 12) k (X.1 13) (X.1 14)).1 = -1 ∧ ¬ (psL (parseR (X.1 12) k (X.1 13) (X.1 14)).2.2.2.1 (parseR (X.1 12) k (X.1 13) (X.1 14)).2.2.2.2 mm 0 (X.1 0)).1 = -1 ∧ Y = setRow (setRow (setRow (setRow (setRow X 11 (upd (upd (upd (upd (X.1 11) (6) (nI (parseR (X.1 12) k (X.1 13) (X.1 14)).2.1)) (7) (parseR (X.1 12) k (X.1 13) (X.1 14)).2.2.1) (5) 0) (2) (psL (parseR (X.1 12) k (X.1 13) (X.1 14)).2.2.2.1 (parseR (X.1 12) k (X.1 13) (X.1 14)).2.2.2.2 mm 0 (X.1 0)).1)) 14 (parseR (X.1 12) k (X.1 13) (X.1 14)).2.2.2.2) 13 (parseR (X.1 12) k (X.1 13) (X.1 14)).2.2.2.1) (sp + 1) (cpPlantR (X.1 (sp + 1)) (X.1 0))) 0 (cpPlantR (psL (parseR (X.1 12) k (X.1 13) (X.1 14)).2.2.2.1 (parseR (X.1 12) k (X.1 13) (X.1 14)).2.2.2.2 mm 0 (X.1 0)).2 (cpPlantR (X.1 (sp + 1)) (X.1 0))))) k9 Y) : ∀ r, 15 ≤ r → r ≠ 27 → Y.1 r = X.1 r := by
  rcases h with ⟨-, r0, Y0, ⟨-, h5⟩, h6⟩ | ⟨i, E, -, -, ⟨-, -, h7⟩ | ⟨-, -, -, h7⟩⟩
  · subst h5
    subst h6
    exact fun r h1 h2 => by rw [sp_ne h2, sr_ne (by omega), sr_ne (by omega), sr_ne (by omega), sr_ne (by omega), sr_ne (by omega)]
  · subst h7
    exact fun r h1 h2 => by rw [sr_ne (by omega), sr_ne (by omega), sr_ne (by omega)]
  · subst h7
    exact fun r h1 h2 => by rw [sr_ne (by omega), sr_ne (by omega), sr_ne (by omega), sr_ne (by omega), sr_ne (by omega)]
theorem rs_step1 {X Y Z : St} {k9 r : Int32} {sp cn k mm p1 : Nat} (hI : LInv X) (hk : k ≤ 60) (hp1 : p1 ≤ k) (e1 : (parseR (X.1 12) k (X.1 13) (X.1 14)).1 = nI p1) (h : lpost ["java/lang/IllegalArgumentException", "java/lang/IllegalStateException"] id (fun res Y => ((parseR (X.1 12) k (X.1 13) (X.1 14)).1 = -1 ∧ (psL (parseR (X.1 12) k (X.1 13) (X.1 14)).2.2.2.1 (parseR (X.1 12) k (X.1 13) (X.1 14)).2.2.2.2 mm 0 (X.1 0)).1 = -1 ∧ res = nI mm) ∧ Y = setRow (setRow (setRow (setRow (setRow X 11 (keepR (upd (upd (upd (X.1 11) (6) (nI (parseR (X.1 12) k (X.1 13) (X.1 14)).2.1)) (7) (parseR (X.1 12) k (X.1 13) (X.1 14)).2.2.1) (5) 0) sp cn)) 14 (parseR (X.1 12) k (X.1 13) (X.1 14)).2.2.2.2) 13 (parseR (X.1 12) k (X.1 13) (X.1 14)).2.2.2.1) (sp + 1) (cpPlantR (X.1 (sp + 1)) (X.1 0))) 0 ((psL (parseR (X.1 12) k (X.1 13) (X.1 14)).2.2.2.1 (parseR (X.1 12) k (X.1 13) (X.1 14)).2.2.2.2 mm 0 (X.1 0)).2)) (fun E Y => (E = "java/lang/IllegalArgumentException" ∧ ¬ (parseR (X.1 12) k (X.1 13) (X.1 14)).1 = -1 ∧ Y = setRow (setRow (setRow X 11 (upd (upd (upd (upd (X.1 11) (6) (nI (parseR (X.1 12) k (X.1 13) (X.1 14)).2.1)) (7) (parseR (X.1 12) k (X.1 13) (X.1 14)).2.2.1) (5) 0) (1) (parseR (X.1 12) k (X.1 13) (X.1 14)).1)) 14 (parseR (X.1 12) k (X.1 13) (X.1 14)).2.2.2.2) 13 (parseR (X.1 12) k (X.1 13) (X.1 14)).2.2.2.1) ∨ (E = "java/lang/IllegalStateException" ∧ (parseR (X.1 12) k (X.1 13) (X.1 14)).1 = -1 ∧ ¬ (psL (parseR (X.1 12) k (X.1 13) (X.1 14)).2.2.2.1 (parseR (X.1 12) k (X.1 13) (X.1 14)).2.2.2.2 mm 0 (X.1 0)).1 = -1 ∧ Y = setRow (setRow (setRow (setRow (setRow X 11 (upd (upd (upd (upd (X.1 11) (6) (nI (parseR (X.1 12) k (X.1 13) (X.1 14)).2.1)) (7) (parseR (X.1 12) k (X.1 13) (X.1 14)).2.2.1) (5) 0) (2) (psL (parseR (X.1 12) k (X.1 13) (X.1 14)).2.2.2.1 (parseR (X.1 12) k (X.1 13) (X.1 14)).2.2.2.2 mm 0 (X.1 0)).1)) 14 (parseR (X.1 12) k (X.1 13) (X.1 14)).2.2.2.2) 13 (parseR (X.1 12) k (X.1 13) (X.1 14)).2.2.2.1) (sp + 1) (cpPlantR (X.1 (sp + 1)) (X.1 0))) 0 (cpPlantR (psL (parseR (X.1 12) k (X.1 13) (X.1 14)).2.2.2.1 (parseR (X.1 12) k (X.1 13) (X.1 14)).2.2.2.2 mm 0 (X.1 0)).2 (cpPlantR (X.1 (sp + 1)) (X.1 0))))) k9 Y) (h2 : (r = 0 ∧ ∃ z1, Z = setRow (setRow (setRow Y 15 (upd (upd (ps (upd (upd (upd (upd (Y.1 15) 0 0) 7 (nI k)) 5 0) 10 0) p1 1) 2 (nI p1)) 0 1)) 24 z1) 17 (cpT 128 (Y.1 17) (Y.1 16)))) : (Z.1 15 0 = k9 ∧ (k9 = 0 → Z.1 27 0 = r)) ∧ LInv Z := by
  have n1 : ¬ (parseR (X.1 12) k (X.1 13) (X.1 14)).1 = -1 := by
    rw [e1]
    exact nI_nm (by omega) (by decide)
  rcases h with ⟨-, r0, Y0, ⟨h3, -⟩, -⟩ | ⟨i, E, h3, h4, ⟨h5, -, h7⟩ | ⟨-, h6, -⟩⟩
  · exact absurd h3.1 n1
  · subst h5
    obtain rfl := two_0 h3
    obtain ⟨-, z1, h9⟩ := h2
    have y15 : Y.1 15 = X.1 15 := by rw [h7]; rfl
    have z15 : Z.1 15 = upd (upd (ps (upd (upd (upd (upd (X.1 15) 0 0) 7 (nI k)) 5 0) 10 0) p1 1) 2 (nI p1)) 0 1 := by rw [h9, sr_ne (by decide), sr_ne (by decide), sr_at, y15]
    have zo : ∀ r, r ≠ 15 → r ≠ 24 → r ≠ 17 → r ≠ 14 → r ≠ 13 → r ≠ 11 → Z.1 r = X.1 r := fun r q1 q2 q3 q4 q5 q6 => by rw [h9, sr_ne q3, sr_ne q2, sr_ne q1, h7, sr_ne q5, sr_ne q4, sr_ne q6]
    have z11 : Z.1 11 = upd (upd (upd (upd (X.1 11) (6) (nI (parseR (X.1 12) k (X.1 13) (X.1 14)).2.1)) (7) (parseR (X.1 12) k (X.1 13) (X.1 14)).2.2.1) (5) 0) (1) (parseR (X.1 12) k (X.1 13) (X.1 14)).1 := by rw [h9, sr_ne (by decide), sr_ne (by decide), sr_ne (by decide), h7, sr_ne (by decide), sr_ne (by decide), sr_at]
    have z2 : Z.2 = X.2 := by rw [h9, h7]; rfl
    refine ⟨⟨by rw [z15, pk_us, h4]; rfl, fun q => ?_⟩, ?_⟩
    · rw [h4] at q
      exact absurd q (by decide)
    · obtain ⟨g1, g2, ⟨sp', cn', c1, c2, c3, c4, c5, c6⟩, g4, ⟨L9, l1, l2, l3, l4⟩, g6, ⟨cp, n, d1, d2, d3, d4, d5, d6, d7, d8⟩⟩ := hI
      have u11 : ∀ j, j ≠ 6 → j ≠ 7 → j ≠ 5 → j ≠ 1 → Z.1 11 j = X.1 11 j := fun j q1 q2 q3 q4 => by rw [z11, pk_un q4, pk_un q3, pk_un q2, pk_un q1]
      have u15 : ∀ j, j ≠ 0 → j ≠ 2 → j ≠ 6 → j ≠ 9 → j ≠ 10 → j ≠ 5 → j ≠ 7 → Z.1 15 j = X.1 15 j := fun j q0 q2 q6 q9 q10 q5 q7 => by rw [z15, pk_un q0, pk_un q2, ps_o q6 q9, pk_un q10, pk_un q5, pk_un q7, pk_un q0]
      have v1 : Z.1 11 1 = nI p1 := by rw [z11, pk_us, e1]
      have v2 : Z.1 15 2 = nI p1 := by rw [z15, pk_un (by decide), pk_us]
      unfold LInv
      rw [zo 0 (by decide) (by decide) (by decide) (by decide) (by decide) (by decide), zo 10 (by decide) (by decide) (by decide) (by decide) (by decide) (by decide), zo 12 (by decide) (by decide) (by decide) (by decide) (by decide) (by decide), zo 16 (by decide) (by decide) (by decide) (by decide) (by decide) (by decide), zo 18 (by decide) (by decide) (by decide) (by decide) (by decide) (by decide), zo 21 (by decide) (by decide) (by decide) (by decide) (by decide) (by decide), zo 22 (by decide) (by decide) (by decide) (by decide) (by decide) (by decide), zo 23 (by decide) (by decide) (by decide) (by decide) (by decide) (by decide), zo 25 (by decide) (by decide) (by decide) (by decide) (by decide) (by decide), zo 26 (by decide) (by decide) (by decide) (by decide) (by decide) (by decide), z2, v1, v2]
      rw [u11 0 (by decide) (by decide) (by decide) (by decide), u11 2 (by decide) (by decide) (by decide) (by decide), u11 3 (by decide) (by decide) (by decide) (by decide), u11 4 (by decide) (by decide) (by decide) (by decide), u11 8 (by decide) (by decide) (by decide) (by decide), u11 10 (by decide) (by decide) (by decide) (by decide)]
      rw [u15 1 (by decide) (by decide) (by decide) (by decide) (by decide) (by decide) (by decide), u15 3 (by decide) (by decide) (by decide) (by decide) (by decide) (by decide) (by decide), u15 4 (by decide) (by decide) (by decide) (by decide) (by decide) (by decide) (by decide), u15 8 (by decide) (by decide) (by decide) (by decide) (by decide) (by decide) (by decide)]
      refine ⟨g1, g2, ⟨sp', cn', c1, c2, c3, c4, c5, fun j hj => ?_⟩, g4, ⟨0, by decide, ?_, ?_, l4⟩, ⟨rfl, .inr (nI_pos' (by omega)), g6.2.2⟩, ⟨cp, n, d1, d2, d3, d4, d5, d6, d7, d8⟩⟩
      · rw [zo 19 (by decide) (by decide) (by decide) (by decide) (by decide) (by decide), zo ((sp' + 8 - j) % 9 + 1) (by omega) (by omega) (by omega) (by omega) (by omega) (by omega)]
        exact c6 j hj
      · rw [z11, pk_un (by decide), pk_us]
        rfl
      · rw [z15, pk_un (by decide), pk_un (by decide), ps_o (by decide) (by decide), pk_un (by decide), pk_us]
        rfl
  · exact absurd h6 n1
theorem rs_step0 {X Y Z : St} {k9 r : Int32} {sp cn k mm p1 n1 : Nat} (hI : LInv X) (hsp : sp < 9) (hcn : cn ≤ 8) (es : X.1 11 3 = nI sp) (ec : X.1 11 4 = nI cn) (hk : k ≤ 60) (hn1 : n1 ≤ 60) (hmm : mm = n1) (e1 : (parseR (X.1 12) k (X.1 13) (X.1 14)).1 = -1) (tr : TR (X.1 12) k (parseR (X.1 12) k (X.1 13) (X.1 14)).2.2.2.1 (parseR (X.1 12) k (X.1 13) (X.1 14)).2.2.2.2 n1 60 0 0) (h : lpost ["java/lang/IllegalArgumentException", "java/lang/IllegalStateException"] id (fun res Y => ((parseR (X.1 12) k (X.1 13) (X.1 14)).1 = -1 ∧ (psL (parseR (X.1 12) k (X.1 13) (X.1 14)).2.2.2.1 (parseR (X.1 12) k (X.1 13) (X.1 14)).2.2.2.2 mm 0 (X.1 0)).1 = -1 ∧ res = nI mm) ∧ Y = setRow (setRow (setRow (setRow (setRow X 11 (keepR (upd (upd (upd (X.1 11) (6) (nI (parseR (X.1 12) k (X.1 13) (X.1 14)).2.1)) (7) (parseR (X.1 12) k (X.1 13) (X.1 14)).2.2.1) (5) 0) sp cn)) 14 (parseR (X.1 12) k (X.1 13) (X.1 14)).2.2.2.2) 13 (parseR (X.1 12) k (X.1 13) (X.1 14)).2.2.2.1) (sp + 1) (cpPlantR (X.1 (sp + 1)) (X.1 0))) 0 ((psL (parseR (X.1 12) k (X.1 13) (X.1 14)).2.2.2.1 (parseR (X.1 12) k (X.1 13) (X.1 14)).2.2.2.2 mm 0 (X.1 0)).2)) (fun E Y => (E = "java/lang/IllegalArgumentException" ∧ ¬ (parseR (X.1 12) k (X.1 13) (X.1 14)).1 = -1 ∧ Y = setRow (setRow (setRow X 11 (upd (upd (upd (upd (X.1 11) (6) (nI (parseR (X.1 12) k (X.1 13) (X.1 14)).2.1)) (7) (parseR (X.1 12) k (X.1 13) (X.1 14)).2.2.1) (5) 0) (1) (parseR (X.1 12) k (X.1 13) (X.1 14)).1)) 14 (parseR (X.1 12) k (X.1 13) (X.1 14)).2.2.2.2) 13 (parseR (X.1 12) k (X.1 13) (X.1 14)).2.2.2.1) ∨ (E = "java/lang/IllegalStateException" ∧ (parseR (X.1 12) k (X.1 13) (X.1 14)).1 = -1 ∧ ¬ (psL (parseR (X.1 12) k (X.1 13) (X.1 14)).2.2.2.1 (parseR (X.1 12) k (X.1 13) (X.1 14)).2.2.2.2 mm 0 (X.1 0)).1 = -1 ∧ Y = setRow (setRow (setRow (setRow (setRow X 11 (upd (upd (upd (upd (X.1 11) (6) (nI (parseR (X.1 12) k (X.1 13) (X.1 14)).2.1)) (7) (parseR (X.1 12) k (X.1 13) (X.1 14)).2.2.1) (5) 0) (2) (psL (parseR (X.1 12) k (X.1 13) (X.1 14)).2.2.2.1 (parseR (X.1 12) k (X.1 13) (X.1 14)).2.2.2.2 mm 0 (X.1 0)).1)) 14 (parseR (X.1 12) k (X.1 13) (X.1 14)).2.2.2.2) 13 (parseR (X.1 12) k (X.1 13) (X.1 14)).2.2.2.1) (sp + 1) (cpPlantR (X.1 (sp + 1)) (X.1 0))) 0 (cpPlantR (psL (parseR (X.1 12) k (X.1 13) (X.1 14)).2.2.2.1 (parseR (X.1 12) k (X.1 13) (X.1 14)).2.2.2.2 mm 0 (X.1 0)).2 (cpPlantR (X.1 (sp + 1)) (X.1 0))))) k9 Y) (h2 : (r = (oM_ends (rsF (cdM (Y.1 22) k (Y.1 21) (upd (ps (upd (upd (upd (upd (Y.1 15) 0 0) 7 (nI k)) 5 0) 10 0) p1 0) 10 1) (Y.1 16) (Y.1 20))) (cdM (Y.1 22) k (Y.1 21) (upd (ps (upd (upd (upd (upd (Y.1 15) 0 0) 7 (nI k)) 5 0) 10 0) p1 0) 10 1) (Y.1 16) (Y.1 20)).2.2.1 (cpT 128 (Y.1 17) (Y.1 16)) (Y.1 19) (nI (cdM (Y.1 22) k (Y.1 21) (upd (ps (upd (upd (upd (upd (Y.1 15) 0 0) 7 (nI k)) 5 0) 10 0) p1 0) 10 1) (Y.1 16) (Y.1 20)).1)).1 ∧ ∃ z1, Z = setRow (setRow (setRow (setRow (setRow (setRow Y 15 (oM_ends (rsF (cdM (Y.1 22) k (Y.1 21) (upd (ps (upd (upd (upd (upd (Y.1 15) 0 0) 7 (nI k)) 5 0) 10 0) p1 0) 10 1) (Y.1 16) (Y.1 20))) (cdM (Y.1 22) k (Y.1 21) (upd (ps (upd (upd (upd (upd (Y.1 15) 0 0) 7 (nI k)) 5 0) 10 0) p1 0) 10 1) (Y.1 16) (Y.1 20)).2.2.1 (cpT 128 (Y.1 17) (Y.1 16)) (Y.1 19) (nI (cdM (Y.1 22) k (Y.1 21) (upd (ps (upd (upd (upd (upd (Y.1 15) 0 0) 7 (nI k)) 5 0) 10 0) p1 0) 10 1) (Y.1 16) (Y.1 20)).1)).2.1) 24 z1) 17 (cpT 128 (Y.1 17) (Y.1 16))) 16 (oM_ends (rsF (cdM (Y.1 22) k (Y.1 21) (upd (ps (upd (upd (upd (upd (Y.1 15) 0 0) 7 (nI k)) 5 0) 10 0) p1 0) 10 1) (Y.1 16) (Y.1 20))) (cdM (Y.1 22) k (Y.1 21) (upd (ps (upd (upd (upd (upd (Y.1 15) 0 0) 7 (nI k)) 5 0) 10 0) p1 0) 10 1) (Y.1 16) (Y.1 20)).2.2.1 (cpT 128 (Y.1 17) (Y.1 16)) (Y.1 19) (nI (cdM (Y.1 22) k (Y.1 21) (upd (ps (upd (upd (upd (upd (Y.1 15) 0 0) 7 (nI k)) 5 0) 10 0) p1 0) 10 1) (Y.1 16) (Y.1 20)).1)).2.2.1) 20 (cdM (Y.1 22) k (Y.1 21) (upd (ps (upd (upd (upd (upd (Y.1 15) 0 0) 7 (nI k)) 5 0) 10 0) p1 0) 10 1) (Y.1 16) (Y.1 20)).2.2.2) 19 (oM_ends (rsF (cdM (Y.1 22) k (Y.1 21) (upd (ps (upd (upd (upd (upd (Y.1 15) 0 0) 7 (nI k)) 5 0) 10 0) p1 0) 10 1) (Y.1 16) (Y.1 20))) (cdM (Y.1 22) k (Y.1 21) (upd (ps (upd (upd (upd (upd (Y.1 15) 0 0) 7 (nI k)) 5 0) 10 0) p1 0) 10 1) (Y.1 16) (Y.1 20)).2.2.1 (cpT 128 (Y.1 17) (Y.1 16)) (Y.1 19) (nI (cdM (Y.1 22) k (Y.1 21) (upd (ps (upd (upd (upd (upd (Y.1 15) 0 0) 7 (nI k)) 5 0) 10 0) p1 0) 10 1) (Y.1 16) (Y.1 20)).1)).2.2.2)) : (Z.1 15 0 = k9 ∧ (k9 = 0 → Z.1 27 0 = r)) ∧ LInv Z := by
  subst hmm
  have ry := rs_rows hsp h
  have hF : FI (X.1 16) := hI.1.1
  have hR : Rel (X.1 0) (X.1 16) := hI.1.2
  have e12 : X.1 12 = X.1 22 := by
    obtain ⟨L9, -, -, -, l4⟩ := hI.2.2.2.2.1
    exact l4
  have ecn : X.1 15 1 = nI cn := by
    obtain ⟨sp', cn', c1, c2, c3, c4, c5, -⟩ := hI.2.2.1
    obtain rfl : cn' = cn := (nI_eq (by omega) (by omega)).mp (c4.symm.trans ec)
    exact c5
  rw [ry 15 (by decide) (by decide), ry 16 (by decide) (by decide), ry 17 (by decide) (by decide), ry 19 (by decide) (by decide), ry 20 (by decide) (by decide), ry 21 (by decide) (by decide), ry 22 (by decide) (by decide)] at h2
  rw [e12] at h tr
  obtain ⟨A, hA⟩ : ∃ A, A = (parseR (X.1 22) k (X.1 13) (X.1 14)) := ⟨_, rfl⟩
  rw [e12, ← hA] at e1
  rw [← hA] at h tr
  obtain ⟨U, hU⟩ : ∃ U, U = upd (ps (upd (upd (upd (upd (X.1 15) 0 0) 7 (nI k)) 5 0) 10 0) p1 0) 10 1 := ⟨_, rfl⟩
  rw [← hU] at h2
  obtain ⟨D, hD⟩ : ∃ D, D = cdM (X.1 22) k (X.1 21) U (X.1 16) (X.1 20) := ⟨_, rfl⟩
  rw [← hD] at h2
  have U0 : U 0 = 0 := by rw [hU, pk_un (by decide), ps_o (by decide) (by decide), pk_un (by decide), pk_un (by decide), pk_un (by decide), pk_us]
  have Uo : ∀ j, j ≠ 0 → j ≠ 6 → j ≠ 9 → j ≠ 10 → j ≠ 5 → j ≠ 7 → U j = X.1 15 j := fun j q0 q6 q9 q10 q5 q7 => by rw [hU, pk_un q10, ps_o q6 q9, pk_un q10, pk_un q5, pk_un q7, pk_un q0]
  have U5 : U 5 = 0 := by rw [hU, pk_un (by decide), ps_o (by decide) (by decide), pk_un (by decide), pk_us]
  have Do : ∀ j, j ≠ 0 → j ≠ 6 → j ≠ 9 → D.2.1 j = U j := fun j q0 q6 q9 => by rw [hD]; exact cdM_o q0 q6 q9
  have ex := exec_eq (w21 := X.1 21) hI.2.1.1 60 60 0 0 (X.1 0) (U, (X.1 16, X.1 20)) (by decide) tr U0 hR hF
  have eD : cdK (X.1 22) k (X.1 21) 60 0 0 (U, (X.1 16, X.1 20)) = D := hD.symm
  rw [eD] at ex
  obtain ⟨-, ex⟩ := ex
  rw [Nat.sub_zero] at ex
  obtain ⟨B, hB⟩ : ∃ B, B = psL A.2.2.2.1 A.2.2.2.2 mm 0 (X.1 0) := ⟨_, rfl⟩
  rw [← hB] at h ex
  obtain ⟨h8, z1, h9⟩ := h2
  rcases ex with ⟨x1, x2, x3, x4, x5⟩ | ⟨i, x1, x2, x3, x4⟩
  · rcases h with ⟨h0, r0, Y0, ⟨⟨-, -, h4⟩, h5⟩, h6⟩ | ⟨i, E, h3, h4, ⟨h5, h6, -⟩ | ⟨-, -, h6, -⟩⟩
    · have ers : rsF D = D.2.1 := if_pos x3
      obtain ⟨e15, en, eo, e15n⟩ := ends_yes (d15 := rsF D) (d16 := D.2.2.1) (w17 := cpT 128 (X.1 17) (X.1 16)) (w19 := X.1 19) (a := nI D.1) (by rw [ers]; exact x3) hcn (by rw [ers, Do 1 (by decide) (by decide) (by decide), Uo 1 (by decide) (by decide) (by decide) (by decide) (by decide) (by decide), ecn])
      rw [en] at h8 h9
      have h8 : r = nI D.1 := h8
      have z15 : Z.1 15 = e15 := by rw [h9, sr_ne (by decide), sr_ne (by decide), sr_ne (by decide), sr_ne (by decide), sr_ne (by decide), sr_at]
      have z16 : Z.1 16 = D.2.2.1 := by rw [h9, sr_ne (by decide), sr_ne (by decide), sr_at]
      have z19 : Z.1 19 = if cn = 8 then cpP (shP (X.1 19) 896) 7 (cpT 128 (X.1 17) (X.1 16)) 128 else cpP (X.1 19) cn (cpT 128 (X.1 17) (X.1 16)) 128 := by rw [h9, sr_at]
      have zo : ∀ r, r ≠ 15 → r ≠ 24 → r ≠ 17 → r ≠ 16 → r ≠ 20 → r ≠ 19 → Z.1 r = Y.1 r := fun r q1 q2 q3 q4 q5 q6 => by rw [h9, sr_ne q6, sr_ne q5, sr_ne q4, sr_ne q3, sr_ne q2, sr_ne q1]
      have z2 : Z.2 = X.2 := by rw [h9, h6, h5]; rfl
      have yo : ∀ r, r ≠ 27 → r ≠ 0 → r ≠ sp + 1 → r ≠ 13 → r ≠ 14 → r ≠ 11 → Y.1 r = X.1 r := fun r q1 q2 q3 q4 q5 q6 => by rw [h6, sp_ne q1, h5, sr_ne q2, sr_ne q3, sr_ne q4, sr_ne q5, sr_ne q6]
      have z11 : Z.1 11 = keepR (upd (upd (upd (X.1 11) (6) (nI A.2.1)) (7) A.2.2.1) (5) 0) sp cn := by rw [zo 11 (by decide) (by decide) (by decide) (by decide) (by decide) (by decide), h6, sp_ne (by decide), h5, sr_ne (by decide), sr_ne (by omega), sr_ne (by decide), sr_ne (by decide), sr_at]
      have e15o : ∀ j, j ≠ 0 → j ≠ 1 → j ≠ 6 → j ≠ 9 → j ≠ 10 → j ≠ 5 → j ≠ 7 → e15 j = X.1 15 j := fun j q0 q1 q6 q9 q10 q5 q7 => by rw [eo j q1, ers, Do j q0 q6 q9, Uo j q0 q6 q9 q10 q5 q7]
      refine ⟨⟨by rw [z15, eo 0 (by decide), ers, x3, h0], fun _ => ?_⟩, change_yes hI hsp hcn es ec (fun r q1 q2 q3 q4 q5 q6 q7 q8 q9 q10 q11 q12 => ?_) ?_ x5 z16 ?_ (fun j hj => ?_) ?_ ?_ ⟨0, by decide, ?_, ?_, e12⟩ (fun j hj => ?_) (by rw [z15, e15n]) z19 (by rw [z2]) (by rw [z2])⟩
      · rw [zo 27 (by decide) (by decide) (by decide) (by decide) (by decide) (by decide), h6, sp_at, h8, x2]
        exact h4
      · rw [zo r q7 q12 q9 q8 q11 q10, yo r (by omega) q2 q3 q5 q6 q4]
      · rw [zo 0 (by decide) (by decide) (by decide) (by decide) (by decide) (by decide), h6, sp_ne (by decide), h5, sr_at]
        exact x4
      · rw [zo (sp + 1) (by omega) (by omega) (by omega) (by omega) (by omega) (by omega), h6, sp_ne (by omega), h5, sr_ne (by omega), sr_at]
      · rw [z11]
        unfold keepR
        rw [pk_un (by omega), pk_un (by omega), pk_un (by omega), pk_un (by omega), pk_un (by omega)]
      · rw [z11]
        unfold keepR
        rw [pk_un (by decide), pk_us]
      · rw [z11]
        unfold keepR
        rw [pk_us, imin8 hcn]
      · rw [z11]
        unfold keepR
        rw [pk_un (by decide), pk_un (by decide), pk_us]
        rfl
      · rw [z15, eo 5 (by decide), ers, Do 5 (by decide) (by decide) (by decide), U5]
        rfl
      · rw [z15, e15o j (by omega) (by omega) (by omega) (by omega) (by omega) (by omega) (by omega)]
    · exact absurd e1 h6
    · exact absurd x1 h6
  · have nb : ¬ B.1 = -1 := by
      rw [x2]
      exact nI_nm (by omega) (by decide)
    rcases h with ⟨h0, r0, Y0, ⟨⟨-, h4, -⟩, h5⟩, h6⟩ | ⟨i', E, h3, h4, ⟨h5, h6, -⟩ | ⟨h5, -, -, h7⟩⟩
    · exact absurd h4 nb
    · exact absurd e1 h6
    · subst h5
      obtain rfl := two_1 h3
      have ers : rsF D = upd (upd D.2.1 3 (nI D.1 - 1)) 0 2 := if_neg x4
      have d0 : ¬ rsF D 0 = 0 := by
        rw [ers, pk_us]
        decide
      rw [ends_no d0] at h9
      have z15 : Z.1 15 = upd (upd D.2.1 3 (nI D.1 - 1)) 0 2 := by rw [h9, sr_ne (by decide), sr_ne (by decide), sr_ne (by decide), sr_ne (by decide), sr_ne (by decide), sr_at, ers]
      have z16 : Z.1 16 = cpT 128 D.2.2.1 (cpT 128 (X.1 17) (X.1 16)) := by rw [h9, sr_ne (by decide), sr_ne (by decide), sr_at]
      have z19 : Z.1 19 = X.1 19 := by rw [h9, sr_at]
      have a16 : ∀ j, j < 128 → Z.1 16 j = X.1 16 j := fun j hj => by
        rw [z16]
        exact (if_pos hj).trans (if_pos hj)
      have zo : ∀ r, r ≠ 15 → r ≠ 24 → r ≠ 17 → r ≠ 16 → r ≠ 20 → r ≠ 19 → Z.1 r = Y.1 r := fun r q1 q2 q3 q4 q5 q6 => by rw [h9, sr_ne q6, sr_ne q5, sr_ne q4, sr_ne q3, sr_ne q2, sr_ne q1]
      have z2 : Z.2 = X.2 := by rw [h9, h7]; rfl
      have yo : ∀ r, r ≠ 15 → r ≠ 24 → r ≠ 17 → r ≠ 16 → r ≠ 20 → r ≠ 19 → r ≠ 0 → r ≠ sp + 1 → r ≠ 13 → r ≠ 14 → r ≠ 11 → Z.1 r = X.1 r := fun r q1 q2 q3 q4 q5 q6 q7 q8 q9 q10 q11 => by rw [zo r q1 q2 q3 q4 q5 q6, h7, sr_ne q7, sr_ne q8, sr_ne q9, sr_ne q10, sr_ne q11]
      have z0 : Z.1 0 = cpPlantR B.2 (cpPlantR (X.1 (sp + 1)) (X.1 0)) := by rw [zo 0 (by decide) (by decide) (by decide) (by decide) (by decide) (by decide), h7, sr_at]
      have z11 : Z.1 11 = upd (upd (upd (upd (X.1 11) (6) (nI A.2.1)) (7) A.2.2.1) (5) 0) (2) B.1 := by rw [zo 11 (by decide) (by decide) (by decide) (by decide) (by decide) (by decide), h7, sr_ne (by decide), sr_ne (by omega), sr_ne (by decide), sr_ne (by decide), sr_at]
      refine ⟨⟨by rw [z15, pk_us, h4]; rfl, fun q => ?_⟩, ?_⟩
      · rw [h4] at q
        exact absurd q (by decide)
      · obtain ⟨g1, g2, ⟨sp', cn', c1, c2, c3, c4, c5, c6⟩, g4, ⟨L9, l1, l2, l3, l4⟩, g6, ⟨cp, n, d1, d2, d3, d4, d5, d6, d7, d8⟩⟩ := hI
        obtain rfl : sp' = sp := (nI_eq (by omega) (by omega)).mp (c3.symm.trans es)
        have u11 : ∀ j, j ≠ 6 → j ≠ 7 → j ≠ 5 → j ≠ 2 → Z.1 11 j = X.1 11 j := fun j q1 q2 q3 q4 => by rw [z11, pk_un q4, pk_un q3, pk_un q2, pk_un q1]
        have u15 : ∀ j, j ≠ 0 → j ≠ 3 → j ≠ 6 → j ≠ 9 → j ≠ 10 → j ≠ 5 → j ≠ 7 → Z.1 15 j = X.1 15 j := fun j q0 q2 q6 q9 q10 q5 q7 => by rw [z15, pk_un q0, pk_un q2, Do j q0 q6 q9, Uo j q0 q6 q9 q10 q5 q7]
        have v1 : Z.1 11 2 = nI i := by rw [z11, pk_us, x2]
        have v2 : Z.1 15 3 = nI i := by rw [z15, pk_un (by decide), pk_us, x3, nI_pred]
        have yo' : ∀ r, r = 10 ∨ r = 12 ∨ r = 18 ∨ r = 21 ∨ r = 22 ∨ r = 23 ∨ r = 25 ∨ r = 26 → Z.1 r = X.1 r := fun r q => yo r (by omega) (by omega) (by omega) (by omega) (by omega) (by omega) (by omega) (by omega) (by omega) (by omega) (by omega)
        unfold LInv
        rw [yo' 10 (by decide), yo' 12 (by decide), yo' 18 (by decide), yo' 21 (by decide), yo' 22 (by decide), yo' 23 (by decide), yo' 25 (by decide), yo' 26 (by decide), z2, v1, v2]
        rw [u11 0 (by decide) (by decide) (by decide) (by decide), u11 1 (by decide) (by decide) (by decide) (by decide), u11 3 (by decide) (by decide) (by decide) (by decide), u11 4 (by decide) (by decide) (by decide) (by decide), u11 8 (by decide) (by decide) (by decide) (by decide), u11 10 (by decide) (by decide) (by decide) (by decide)]
        rw [u15 1 (by decide) (by decide) (by decide) (by decide) (by decide) (by decide) (by decide), u15 2 (by decide) (by decide) (by decide) (by decide) (by decide) (by decide) (by decide), u15 4 (by decide) (by decide) (by decide) (by decide) (by decide) (by decide) (by decide), u15 8 (by decide) (by decide) (by decide) (by decide) (by decide) (by decide) (by decide)]
        refine ⟨⟨g1.1.congr a16, ?_⟩, g2, ⟨sp', cn', c1, c2, c3, c4, c5, fun j hj => ?_⟩, g4, ⟨0, by decide, ?_, ?_, l4⟩, ⟨g6.1, g6.2.1, rfl, .inr (nI_pos' (by omega))⟩, ⟨cp, n, d1, d2, d3, d4, d5, d6, d7, d8⟩⟩
        · rw [z0]
          exact ((g1.2.cpPlant g1.1).cpPlant g1.1).congr g1.1 a16
        · rw [z19, yo ((sp' + 8 - j) % 9 + 1) (by omega) (by omega) (by omega) (by omega) (by omega) (by omega) (by omega) (by omega) (by omega) (by omega) (by omega)]
          exact c6 j hj
        · rw [z11, pk_un (by decide), pk_us]
          rfl
        · rw [z15, pk_un (by decide), pk_un (by decide), Do 5 (by decide) (by decide) (by decide), U5]
          rfl
theorem lT_runScript (hst : l.stackTraces = false) (C : Cx p m c cL_law 10 s args lw_all "FoundryLaw" G) (hX : va_X b L xs s s.heap) (hbl : b < s.heap.size) (hbA : ¬ Ab G b) (hS : va_S (Ab G) s.heap H locs) (hW : Wd G X H) {n : Nat} (hj : 4 * n + 3 < L) (hL : L < 2 ^ 31) (hl : lv_has ls 10 [(0, .ref b), (1, .ref (ad G 715)), (2, .ref (ad G 723)), (3, .ref (ad G 735)), (4, .ref (ad G 736)), (5, .int (nI (4 * n)))]) (hI : LInv X) (hc : cells + 7 ≤ 714529) (hs : slots + 42 ≤ 6893124)
    (K : ∀ (Z : St) (H1 : Heap) (locs1 : List Loc) (ls1 : Array Slot), LInv Z → Wd G Z H1 → va_S (Ab G) s.heap H1 locs1 → lv_has ls1 10 [(0, .ref b), (1, .ref (ad G 715)), (2, .ref (ad G 723)), (3, .ref (ad G 735)), (4, .ref (ad G 736)), (5, .int (nI (4 * n)))] → W p l e room_1 s m args below meth c H1 locs1 (cells + 7) (slots + 42) Q (F0 m 2989 ls1 [])) : W p l e room_1 s m args below meth c H locs cells slots Q (F0 m 2756 ls []) := by
  have hF : FI (X.1 16) := hI.1.1
  have hp : PtsOk (X.1 21) := hI.2.1.1
  have hwd : WdOk (X.1 25) (X.1 26) := hI.2.1.2
  obtain ⟨sp, cn, hsp, hcn, es, ec, ecr, -⟩ := hI.2.2.1
  obtain ⟨k, hk, k1, k2, e12⟩ := hI.2.2.2.2.1
  obtain ⟨⟨mm, hmm, em, hcm⟩, c01, cle, c1, c0⟩ := parse_eq (t := X.1 12) hk (X.1 13) (X.1 14)
  obtain ⟨T, hT⟩ : ∃ T, T = csM (X.1 12) k := ⟨_, rfl⟩
  have hT2 : csM (X.1 22) k = T := by rw [hT, e12]
  rw [← hT] at c01 cle c1 c0
  obtain ⟨p1, f1, n1⟩ := T
  rcases c01 with q | q
  · have q : f1 = 0 := q
    subst q
    obtain ⟨a1, a2, a3, a4, a5⟩ := c0 rfl
    have a3 : n1 ≤ 60 := a3
    have a4 : (parseR (X.1 12) k (X.1 13) (X.1 14)).2.2.1 = nI n1 := a4
    have em2 : mm = n1 := (nI_eq (by omega) (by omega)).mp (em.symm.trans a4)
    have st : ∀ (k9 : Int32) (Y : St), lpost ["java/lang/IllegalArgumentException", "java/lang/IllegalStateException"] id (fun res Y => ((parseR (X.1 12) k (X.1 13) (X.1 14)).1 = -1 ∧ (psL (parseR (X.1 12) k (X.1 13) (X.1 14)).2.2.2.1 (parseR (X.1 12) k (X.1 13) (X.1 14)).2.2.2.2 mm 0 (X.1 0)).1 = -1 ∧ res = nI mm) ∧ Y = setRow (setRow (setRow (setRow (setRow X 11 (keepR (upd (upd (upd (X.1 11) (6) (nI (parseR (X.1 12) k (X.1 13) (X.1 14)).2.1)) (7) (parseR (X.1 12) k (X.1 13) (X.1 14)).2.2.1) (5) 0) sp cn)) 14 (parseR (X.1 12) k (X.1 13) (X.1 14)).2.2.2.2) 13 (parseR (X.1 12) k (X.1 13) (X.1 14)).2.2.2.1) (sp + 1) (cpPlantR (X.1 (sp + 1)) (X.1 0))) 0 ((psL (parseR (X.1 12) k (X.1 13) (X.1 14)).2.2.2.1 (parseR (X.1 12) k (X.1 13) (X.1 14)).2.2.2.2 mm 0 (X.1 0)).2)) (fun E Y => (E = "java/lang/IllegalArgumentException" ∧ ¬ (parseR (X.1 12) k (X.1 13) (X.1 14)).1 = -1 ∧ Y = setRow (setRow (setRow X 11 (upd (upd (upd (upd (X.1 11) (6) (nI (parseR (X.1 12) k (X.1 13) (X.1 14)).2.1)) (7) (parseR (X.1 12) k (X.1 13) (X.1 14)).2.2.1) (5) 0) (1) (parseR (X.1 12) k (X.1 13) (X.1 14)).1)) 14 (parseR (X.1 12) k (X.1 13) (X.1 14)).2.2.2.2) 13 (parseR (X.1 12) k (X.1 13) (X.1 14)).2.2.2.1) ∨ (E = "java/lang/IllegalStateException" ∧ (parseR (X.1 12) k (X.1 13) (X.1 14)).1 = -1 ∧ ¬ (psL (parseR (X.1 12) k (X.1 13) (X.1 14)).2.2.2.1 (parseR (X.1 12) k (X.1 13) (X.1 14)).2.2.2.2 mm 0 (X.1 0)).1 = -1 ∧ Y = setRow (setRow (setRow (setRow (setRow X 11 (upd (upd (upd (upd (X.1 11) (6) (nI (parseR (X.1 12) k (X.1 13) (X.1 14)).2.1)) (7) (parseR (X.1 12) k (X.1 13) (X.1 14)).2.2.1) (5) 0) (2) (psL (parseR (X.1 12) k (X.1 13) (X.1 14)).2.2.2.1 (parseR (X.1 12) k (X.1 13) (X.1 14)).2.2.2.2 mm 0 (X.1 0)).1)) 14 (parseR (X.1 12) k (X.1 13) (X.1 14)).2.2.2.2) 13 (parseR (X.1 12) k (X.1 13) (X.1 14)).2.2.2.1) (sp + 1) (cpPlantR (X.1 (sp + 1)) (X.1 0))) 0 (cpPlantR (psL (parseR (X.1 12) k (X.1 13) (X.1 14)).2.2.2.1 (parseR (X.1 12) k (X.1 13) (X.1 14)).2.2.2.2 mm 0 (X.1 0)).2 (cpPlantR (X.1 (sp + 1)) (X.1 0))))) k9 Y → ∀ (r : Int32) (Z : St), (r = (oM_ends (rsF (cdM (Y.1 22) k (Y.1 21) (upd (ps (upd (upd (upd (upd (Y.1 15) 0 0) 7 (nI k)) 5 0) 10 0) p1 0) 10 1) (Y.1 16) (Y.1 20))) (cdM (Y.1 22) k (Y.1 21) (upd (ps (upd (upd (upd (upd (Y.1 15) 0 0) 7 (nI k)) 5 0) 10 0) p1 0) 10 1) (Y.1 16) (Y.1 20)).2.2.1 (cpT 128 (Y.1 17) (Y.1 16)) (Y.1 19) (nI (cdM (Y.1 22) k (Y.1 21) (upd (ps (upd (upd (upd (upd (Y.1 15) 0 0) 7 (nI k)) 5 0) 10 0) p1 0) 10 1) (Y.1 16) (Y.1 20)).1)).1 ∧ ∃ z1, Z = setRow (setRow (setRow (setRow (setRow (setRow Y 15 (oM_ends (rsF (cdM (Y.1 22) k (Y.1 21) (upd (ps (upd (upd (upd (upd (Y.1 15) 0 0) 7 (nI k)) 5 0) 10 0) p1 0) 10 1) (Y.1 16) (Y.1 20))) (cdM (Y.1 22) k (Y.1 21) (upd (ps (upd (upd (upd (upd (Y.1 15) 0 0) 7 (nI k)) 5 0) 10 0) p1 0) 10 1) (Y.1 16) (Y.1 20)).2.2.1 (cpT 128 (Y.1 17) (Y.1 16)) (Y.1 19) (nI (cdM (Y.1 22) k (Y.1 21) (upd (ps (upd (upd (upd (upd (Y.1 15) 0 0) 7 (nI k)) 5 0) 10 0) p1 0) 10 1) (Y.1 16) (Y.1 20)).1)).2.1) 24 z1) 17 (cpT 128 (Y.1 17) (Y.1 16))) 16 (oM_ends (rsF (cdM (Y.1 22) k (Y.1 21) (upd (ps (upd (upd (upd (upd (Y.1 15) 0 0) 7 (nI k)) 5 0) 10 0) p1 0) 10 1) (Y.1 16) (Y.1 20))) (cdM (Y.1 22) k (Y.1 21) (upd (ps (upd (upd (upd (upd (Y.1 15) 0 0) 7 (nI k)) 5 0) 10 0) p1 0) 10 1) (Y.1 16) (Y.1 20)).2.2.1 (cpT 128 (Y.1 17) (Y.1 16)) (Y.1 19) (nI (cdM (Y.1 22) k (Y.1 21) (upd (ps (upd (upd (upd (upd (Y.1 15) 0 0) 7 (nI k)) 5 0) 10 0) p1 0) 10 1) (Y.1 16) (Y.1 20)).1)).2.2.1) 20 (cdM (Y.1 22) k (Y.1 21) (upd (ps (upd (upd (upd (upd (Y.1 15) 0 0) 7 (nI k)) 5 0) 10 0) p1 0) 10 1) (Y.1 16) (Y.1 20)).2.2.2) 19 (oM_ends (rsF (cdM (Y.1 22) k (Y.1 21) (upd (ps (upd (upd (upd (upd (Y.1 15) 0 0) 7 (nI k)) 5 0) 10 0) p1 0) 10 1) (Y.1 16) (Y.1 20))) (cdM (Y.1 22) k (Y.1 21) (upd (ps (upd (upd (upd (upd (Y.1 15) 0 0) 7 (nI k)) 5 0) 10 0) p1 0) 10 1) (Y.1 16) (Y.1 20)).2.2.1 (cpT 128 (Y.1 17) (Y.1 16)) (Y.1 19) (nI (cdM (Y.1 22) k (Y.1 21) (upd (ps (upd (upd (upd (upd (Y.1 15) 0 0) 7 (nI k)) 5 0) 10 0) p1 0) 10 1) (Y.1 16) (Y.1 20)).1)).2.2.2) → (Z.1 15 0 = k9 ∧ (k9 = 0 → Z.1 27 0 = r)) ∧ LInv Z := fun k9 Y h r Z h2 => rs_step0 hI hsp hcn es ec hk a3 em2 a1 a5 h h2
    exact lC_runScript C hX hbl hbA hS hW hj hL hl (by decide) (by decide) (by decide) (by decide) (by omega) (by omega) (cX7_runScript_ok l G hst X hI.pinv sp hsp es cn hcn ec k hk k1 mm hmm em hcm) (fun E Y h => by
      rcases h with h | h
      · rw [h.1]
        exact List.mem_cons_self
      · rw [h.1]
        exact List.mem_cons_of_mem _ List.mem_cons_self) (fun k9 Y h => cX8_runScript0_ok l G Y k hk (by rw [rs_rows hsp h 15 (by decide) (by decide)]; exact k2) (by rw [rs_rows hsp h 25 (by decide) (by decide), rs_rows hsp h 26 (by decide) (by decide)]; exact hwd) p1 n1 cn hcn (by rw [rs_rows hsp h 15 (by decide) (by decide)]; exact ecr) (by rw [rs_rows hsp h 16 (by decide) (by decide)]; exact hF.1) (by rw [rs_rows hsp h 21 (by decide) (by decide)]; exact hMd_ok hp) (by rw [rs_rows hsp h 22 (by decide) (by decide)]; exact hT2)) (fun k9 Y h r Z h2 => (st k9 Y h r Z h2).1) (fun k9 Y h r Z h2 H1 locs1 ls1 a1 a2 a3 => W.widen (by omega) (by omega) (K Z H1 locs1 ls1 (st k9 Y h r Z h2).2 a1 a2 (lv_sub2 a3)))
  · have q : f1 = 1 := q
    subst q
    have a1 : (parseR (X.1 12) k (X.1 13) (X.1 14)).1 = nI p1 := c1 rfl
    have cle : p1 ≤ k := cle
    have st : ∀ (k9 : Int32) (Y : St), lpost ["java/lang/IllegalArgumentException", "java/lang/IllegalStateException"] id (fun res Y => ((parseR (X.1 12) k (X.1 13) (X.1 14)).1 = -1 ∧ (psL (parseR (X.1 12) k (X.1 13) (X.1 14)).2.2.2.1 (parseR (X.1 12) k (X.1 13) (X.1 14)).2.2.2.2 mm 0 (X.1 0)).1 = -1 ∧ res = nI mm) ∧ Y = setRow (setRow (setRow (setRow (setRow X 11 (keepR (upd (upd (upd (X.1 11) (6) (nI (parseR (X.1 12) k (X.1 13) (X.1 14)).2.1)) (7) (parseR (X.1 12) k (X.1 13) (X.1 14)).2.2.1) (5) 0) sp cn)) 14 (parseR (X.1 12) k (X.1 13) (X.1 14)).2.2.2.2) 13 (parseR (X.1 12) k (X.1 13) (X.1 14)).2.2.2.1) (sp + 1) (cpPlantR (X.1 (sp + 1)) (X.1 0))) 0 ((psL (parseR (X.1 12) k (X.1 13) (X.1 14)).2.2.2.1 (parseR (X.1 12) k (X.1 13) (X.1 14)).2.2.2.2 mm 0 (X.1 0)).2)) (fun E Y => (E = "java/lang/IllegalArgumentException" ∧ ¬ (parseR (X.1 12) k (X.1 13) (X.1 14)).1 = -1 ∧ Y = setRow (setRow (setRow X 11 (upd (upd (upd (upd (X.1 11) (6) (nI (parseR (X.1 12) k (X.1 13) (X.1 14)).2.1)) (7) (parseR (X.1 12) k (X.1 13) (X.1 14)).2.2.1) (5) 0) (1) (parseR (X.1 12) k (X.1 13) (X.1 14)).1)) 14 (parseR (X.1 12) k (X.1 13) (X.1 14)).2.2.2.2) 13 (parseR (X.1 12) k (X.1 13) (X.1 14)).2.2.2.1) ∨ (E = "java/lang/IllegalStateException" ∧ (parseR (X.1 12) k (X.1 13) (X.1 14)).1 = -1 ∧ ¬ (psL (parseR (X.1 12) k (X.1 13) (X.1 14)).2.2.2.1 (parseR (X.1 12) k (X.1 13) (X.1 14)).2.2.2.2 mm 0 (X.1 0)).1 = -1 ∧ Y = setRow (setRow (setRow (setRow (setRow X 11 (upd (upd (upd (upd (X.1 11) (6) (nI (parseR (X.1 12) k (X.1 13) (X.1 14)).2.1)) (7) (parseR (X.1 12) k (X.1 13) (X.1 14)).2.2.1) (5) 0) (2) (psL (parseR (X.1 12) k (X.1 13) (X.1 14)).2.2.2.1 (parseR (X.1 12) k (X.1 13) (X.1 14)).2.2.2.2 mm 0 (X.1 0)).1)) 14 (parseR (X.1 12) k (X.1 13) (X.1 14)).2.2.2.2) 13 (parseR (X.1 12) k (X.1 13) (X.1 14)).2.2.2.1) (sp + 1) (cpPlantR (X.1 (sp + 1)) (X.1 0))) 0 (cpPlantR (psL (parseR (X.1 12) k (X.1 13) (X.1 14)).2.2.2.1 (parseR (X.1 12) k (X.1 13) (X.1 14)).2.2.2.2 mm 0 (X.1 0)).2 (cpPlantR (X.1 (sp + 1)) (X.1 0))))) k9 Y → ∀ (r : Int32) (Z : St), (r = 0 ∧ ∃ z1, Z = setRow (setRow (setRow Y 15 (upd (upd (ps (upd (upd (upd (upd (Y.1 15) 0 0) 7 (nI k)) 5 0) 10 0) p1 1) 2 (nI p1)) 0 1)) 24 z1) 17 (cpT 128 (Y.1 17) (Y.1 16))) → (Z.1 15 0 = k9 ∧ (k9 = 0 → Z.1 27 0 = r)) ∧ LInv Z := fun k9 Y h r Z h2 => rs_step1 hI hk cle a1 h h2
    exact lC_runScript C hX hbl hbA hS hW hj hL hl (by decide) (by decide) (by decide) (by decide) (by omega) (by omega) (cX7_runScript_ok l G hst X hI.pinv sp hsp es cn hcn ec k hk k1 mm hmm em hcm) (fun E Y h => by
      rcases h with h | h
      · rw [h.1]
        exact List.mem_cons_self
      · rw [h.1]
        exact List.mem_cons_of_mem _ List.mem_cons_self) (fun k9 Y h => cX8_runScript1_ok l G Y k hk (by rw [rs_rows hsp h 15 (by decide) (by decide)]; exact k2) (by rw [rs_rows hsp h 25 (by decide) (by decide), rs_rows hsp h 26 (by decide) (by decide)]; exact hwd) p1 n1 (by rw [rs_rows hsp h 22 (by decide) (by decide)]; exact hT2)) (fun k9 Y h r Z h2 => (st k9 Y h r Z h2).1) (fun k9 Y h r Z h2 H1 locs1 ls1 a1 a2 a3 => W.widen (by omega) (by omega) (K Z H1 locs1 ls1 (st k9 Y h r Z h2).2 a1 a2 (lv_sub2 a3)))
end LT4
