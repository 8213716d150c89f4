/-! The reference's commands and its script as a whole. -/
theorem metV_imp {l : Launch} {G : GT} {y : MethodName} {ws : List Cond} {rm : Room} {av : List Value} {X : St} {post post' : St → Prop} (h : MetV l G y ws rm av X post) (hi : ∀ Y, post Y → post' Y) : MetV l G y ws rm av X post' :=
  MetFree.mono h (fun _ _ q => q) (fun _ _ _ _ _ q => q) fun _ _ _ _ _ q => by
    obtain ⟨⟨⟨u, h1, h2, h3⟩, h4⟩, h5⟩ := q
    exact ⟨⟨⟨u, h1, hi u h2, h3⟩, h4⟩, h5⟩
def caK (k : Nat) (t : Nat → Int32) (L p : Nat) : Int32 × (Int32 × (Int32 × (Nat × Nat))) := match k with
  | 0 => ca0 t L p
  | 1 => caA t L p
  | 2 => ca2 t L p
  | 3 => ca3 t L p
  | 4 => caA t L p
  | 5 => ca5 t L p
  | 6 => caA t L p
  | 7 => ca2 t L p
  | 8 => ca8 t L p
  | _ => ca5 t L p
def caW (t : Nat → Int32) (L p : Nat) (c : Int32 × (Int32 × (Int32 × (Nat × Nat)))) : Prop := p ≤ c.2.2.2.1 ∧ c.2.2.2.1 ≤ L ∧ (c.2.2.2.2 = 0 ∨ c.2.2.2.2 = 1)
theorem dgM_w {t : Nat → Int32} {L m p : Nat} (h : p ≤ L) : p ≤ (dgM t L m p).2.1 ∧ (dgM t L m p).2.1 ≤ L ∧ ((dgM t L m p).2.2 = 0 ∨ (dgM t L m p).2.2 = 1) := ⟨dgM_ge h rfl, dgM_le h rfl, dgM_b rfl⟩
theorem bhM_w {t : Nat → Int32} {L m p : Nat} (h : p ≤ L) : p ≤ (bhM t L m p).2.1 ∧ (bhM t L m p).2.1 ≤ L ∧ ((bhM t L m p).2.2 = 0 ∨ (bhM t L m p).2.2 = 1) := ⟨bhM_ge h rfl, bhM_le h rfl, bhM_b rfl⟩
theorem mtM_w {t : Nat → Int32} {L p : Nat} (h : p ≤ L) : p ≤ (mtM t L p).2.1 ∧ (mtM t L p).2.1 ≤ L ∧ ((mtM t L p).2.2 = 0 ∨ (mtM t L p).2.2 = 1) := ⟨(mtM_c h rfl).1, (mtM_c h rfl).2.1, (mtM_c h rfl).2.2.1⟩
theorem caB_w {t : Nat → Int32} {L p : Nat} {d : Int32 × (Nat × Nat)} (h1 : p ≤ d.2.1) (h2 : d.2.1 ≤ L) : caW t L p (caB t L d) := by
  unfold caB
  split
  · have := bhM_w (t := t) (m := 1) h2
    exact ⟨Nat.le_trans h1 this.1, this.2⟩
  · exact ⟨h1, h2, .inr rfl⟩
theorem ca0_w {t : Nat → Int32} {L p : Nat} (h : p ≤ L) : caW t L p (ca0 t L p) := by
  have h1 := dgM_w (t := t) (m := 1) h
  unfold ca0
  split
  · have h2 := mtM_w (t := t) h1.2.1
    split
    · have h3 := dgM_w (t := t) (m := 3) h2.2.1
      exact ⟨Nat.le_trans h1.1 (Nat.le_trans h2.1 h3.1), h3.2⟩
    · exact ⟨Nat.le_trans h1.1 h2.1, h2.2.1, .inr rfl⟩
  · exact ⟨h1.1, h1.2.1, .inr rfl⟩
theorem ca3_w {t : Nat → Int32} {L p : Nat} (h : p ≤ L) : caW t L p (ca3 t L p) := by
  have h1 := dgM_w (t := t) (m := 1) h
  unfold ca3
  split
  · have h2 := bhM_w (t := t) (m := 1) h1.2.1
    split
    · have h3 := bhM_w (t := t) (m := 3) h2.2.1
      exact ⟨Nat.le_trans h1.1 (Nat.le_trans h2.1 h3.1), h3.2⟩
    · exact ⟨Nat.le_trans h1.1 h2.1, h2.2.1, .inr rfl⟩
  · exact ⟨h1.1, h1.2.1, .inr rfl⟩
theorem ca2_w {t : Nat → Int32} {L p : Nat} (h : p ≤ L) : caW t L p (ca2 t L p) := dgM_w (m := 1) h
theorem ca5_w {t : Nat → Int32} {L p : Nat} (h : p ≤ L) : caW t L p (ca5 t L p) := dgM_w (m := 3) h
theorem caA_w {t : Nat → Int32} {L p : Nat} (h : p ≤ L) : caW t L p (caA t L p) := caB_w (dgM_w (m := 1) h).1 (dgM_w (m := 1) h).2.1
theorem ca8_w {t : Nat → Int32} {L p : Nat} (h : p ≤ L) : caW t L p (ca8 t L p) := caB_w (dgM_w (m := 3) h).1 (dgM_w (m := 3) h).2.1
theorem caK_w {t : Nat → Int32} {L p : Nat} (h : p ≤ L) (k : Nat) : caW t L p (caK k t L p) := by
  unfold caK
  split
  · exact ca0_w h
  · exact caA_w h
  · exact ca2_w h
  · exact ca3_w h
  · exact caA_w h
  · exact ca5_w h
  · exact caA_w h
  · exact ca2_w h
  · exact ca8_w h
  · exact ca5_w h
theorem ca0_k {t : Nat → Int32} {L p : Nat} (h : p ≤ L) (hb : (ca0 t L p).2.2.2.2 = 0) : ∃ j, j < 4 ∧ (ca0 t L p).2.1 = nI j := by
  have h1 := dgM_w (t := t) (m := 1) h
  unfold ca0 at hb ⊢
  by_cases k1 : (dgM t L 1 p).2.2 = 0
  · rw [if_pos k1] at hb ⊢
    by_cases k2 : (mtM t L (dgM t L 1 p).2.1).2.2 = 0
    · rw [if_pos k2] at hb ⊢
      exact (mtM_c h1.2.1 rfl).2.2.2 k2
    · rw [if_neg k2] at hb
      exact absurd hb Nat.one_ne_zero
  · rw [if_neg k1] at hb
    exact absurd hb Nat.one_ne_zero
/-- a command from p: word, three arguments, where it ends, and 1 if it is wrong -/
def cmM (t : Nat → Int32) (L p : Nat) : Nat × (Int32 × (Int32 × (Int32 × (Nat × Nat)))) := match (wordR t L p).1 with
  | none => (0, (0, (0, (0, ((wordR t L p).2, 1)))))
  | some k => (k, caK k t L (wordR t L p).2)
theorem cmM_w {t : Nat → Int32} {L p : Nat} (h : p ≤ L) (hL : L ≤ 60) : caW t L p (cmM t L p).2 ∧ ((cmM t L p).2.2.2.2.2 = 0 → (cmM t L p).1 = 0 → ∃ j, j < 4 ∧ (cmM t L p).2.2.1 = nI j) := by
  have h1 := wordR_le (t := t) (L := L) (by omega) h
  cases ho : (wordR t L p).1 with
  | none =>
    rw [show cmM t L p = (0, (0, (0, (0, ((wordR t L p).2, 1))))) by unfold cmM; rw [ho]]
    exact ⟨⟨h1.1, h1.2, .inr rfl⟩, fun q => absurd q Nat.one_ne_zero⟩
  | some k =>
    rw [show cmM t L p = (k, caK k t L (wordR t L p).2) by unfold cmM; rw [ho]]
    have h2 := caK_w (t := t) h1.2 k
    refine ⟨⟨Nat.le_trans h1.1 h2.1, h2.2⟩, fun q1 q2 => ?_⟩
    have q3 : k = 0 := q2
    subst q3
    exact ca0_k h1.2 q1
theorem cmM_le {t : Nat → Int32} {L p k p' b' : Nat} {a b c : Int32} (h : p ≤ L) (hL : L ≤ 60) (e : cmM t L p = (k, (a, (b, (c, (p', b')))))) : p ≤ p' ∧ p' ≤ L := by
  have := (cmM_w (t := t) h hL).1
  rw [e] at this
  exact ⟨this.1, this.2.1⟩
theorem caK_b {t : Nat → Int32} {L p k : Nat} : (caK k t L p).2.2.2.2 = 0 ∨ (caK k t L p).2.2.2.2 = 1 := by
  have hB : ∀ d, (caB t L d).2.2.2.2 = 0 ∨ (caB t L d).2.2.2.2 = 1 := fun d => by
    unfold caB
    split
    · exact bhM_b rfl
    · exact .inr rfl
  unfold caK
  split
  · unfold ca0
    split
    · split
      · exact dgM_b rfl
      · exact .inr rfl
    · exact .inr rfl
  · exact hB _
  · exact dgM_b rfl
  · unfold ca3
    split
    · split
      · exact bhM_b rfl
      · exact .inr rfl
    · exact .inr rfl
  · exact hB _
  · exact dgM_b rfl
  · exact hB _
  · exact dgM_b rfl
  · exact hB _
  · exact dgM_b rfl
theorem cmM_b {t : Nat → Int32} {L p k p' b' : Nat} {a b c : Int32} (e : cmM t L p = (k, (a, (b, (c, (p', b')))))) : b' = 0 ∨ b' = 1 := by
  rw [← show (cmM t L p).2.2.2.2.2 = b' by rw [e]]
  unfold cmM
  split
  · exact .inr rfl
  · exact caK_b
theorem cmM_b' {t : Nat → Int32} {L p : Nat} : (cmM t L p).2.2.2.2.2 = 0 ∨ (cmM t L p).2.2.2.2.2 = 1 := cmM_b (t := t) (L := L) (p := p) (k := (cmM t L p).1) (a := (cmM t L p).2.1) (b := (cmM t L p).2.2.1) (c := (cmM t L p).2.2.2.1) (p' := (cmM t L p).2.2.2.2.1) (b' := (cmM t L p).2.2.2.2.2) rfl
theorem ca0_k' {t : Nat → Int32} {L p : Nat} (hb : (ca0 t L p).2.2.2.2 = 0) : ∃ j, j < 4 ∧ (ca0 t L p).2.1 = nI j := by
  unfold ca0 at hb ⊢
  by_cases k1 : (dgM t L 1 p).2.2 = 0
  · rw [if_pos k1] at hb ⊢
    by_cases k2 : (mtM t L (dgM t L 1 p).2.1).2.2 = 0
    · rw [if_pos k2] at hb ⊢
      exact mtM_k (p' := (mtM t L (dgM t L 1 p).2.1).2.1) (by rw [← k2])
    · rw [if_neg k2] at hb
      exact absurd hb Nat.one_ne_zero
  · rw [if_neg k1] at hb
    exact absurd hb Nat.one_ne_zero
theorem cmM_k {t : Nat → Int32} {L p k p' : Nat} {a b c : Int32} (e : cmM t L p = (k, (a, (b, (c, (p', 0)))))) : k = 0 → ∃ j, j < 4 ∧ b = nI j := fun hk => by
  cases ho : (wordR t L p).1 with
  | none =>
    rw [show cmM t L p = (0, (0, (0, (0, ((wordR t L p).2, 1))))) by unfold cmM; rw [ho]] at e
    have := congrArg (fun z => z.2.2.2.2.2) e
    exact absurd this Nat.one_ne_zero
  | some i =>
    rw [show cmM t L p = (i, caK i t L (wordR t L p).2) by unfold cmM; rw [ho]] at e
    have h1 : i = k := congrArg (fun z => z.1) e
    subst h1
    subst hk
    have h2 : ca0 t L (wordR t L p).2 = (a, (b, (c, (p', 0)))) := congrArg (fun z => z.2) e
    have h3 := ca0_k' (t := t) (L := L) (p := (wordR t L p).2) (by rw [h2])
    rw [h2] at h3
    exact h3
def csL (t : Nat → Int32) (L : Nat) : Nat → Nat → Nat → Nat × (Nat × Nat)
  | 0, p, n => (p, (0, n))
  | q + 1, p, n => if L ≤ p then (p, (0, n)) else if sgM t L p = 59 then (if (cmM t L (p + 1)).2.2.2.2.2 = 1 then ((cmM t L (p + 1)).2.2.2.2.1, (1, n + 1)) else csL t L q (cmM t L (p + 1)).2.2.2.2.1 (n + 1)) else (p, (1, n + 1))
def csM (t : Nat → Int32) (L : Nat) : Nat × (Nat × Nat) := if (cmM t L 0).2.2.2.2.2 = 1 then ((cmM t L 0).2.2.2.2.1, (1, 1)) else csL t L 60 (cmM t L 0).2.2.2.2.1 1
theorem csM_c {t : Nat → Int32} {L : Nat} (h : (csM t L).2.1 = 0) : (cmM t L 0).2.2.2.2.2 = 0 := by
  rcases cmM_b' (t := t) (L := L) (p := 0) with q | q
  · exact q
  · unfold csM at h
    rw [if_pos q] at h
    exact absurd h Nat.one_ne_zero
theorem csM_ok {t : Nat → Int32} {L k p' : Nat} {a b c : Int32} (h : (csM t L).2.1 = 0) (e : cmM t L 0 = (k, (a, (b, (c, (p', 0)))))) : (csL t L 60 p' 1).2.1 = 0 := by
  unfold csM at h
  rw [if_neg (by rw [e]; exact Nat.zero_ne_one), e] at h
  exact h
theorem csL_ok {t : Nat → Int32} {L q p n : Nat} (h : (csL t L (q + 1) p n).2.1 = 0) (hl : ¬ L ≤ p) : sgM t L p = 59 ∧ (cmM t L (p + 1)).2.2.2.2.2 = 0 ∧ (csL t L q (cmM t L (p + 1)).2.2.2.2.1 (n + 1)).2.1 = 0 := by
  rw [csL, if_neg hl] at h
  by_cases hs : sgM t L p = 59
  · rw [if_pos hs] at h
    rcases cmM_b' (t := t) (L := L) (p := p + 1) with r | r
    · rw [if_neg (by rw [r]; exact Nat.zero_ne_one)] at h
      exact ⟨hs, r, h⟩
    · rw [if_pos r] at h
      exact absurd h Nat.one_ne_zero
  · rw [if_neg hs] at h
    exact absurd h Nat.one_ne_zero
abbrev R3 : Type := (Nat → Int32) × ((Nat → Int32) × (Nat → Int32))
def cdL (t : Nat → Int32) (L : Nat) (w21 : Nat → Int32) : Nat → Nat → Nat → R3 → Nat × R3
  | 0, _, n, y => (n, y)
  | q + 1, p, n, y => if y.1 0 = 0 then (if L ≤ p then (n, y) else cdL t L w21 q (cmM t L (p + 1)).2.2.2.2.1 (n + 1) (doM (cmM t L (p + 1)).1 (ps y.1 (cmM t L (p + 1)).2.2.2.2.1 0) y.2.1 y.2.2 w21 (cmM t L (p + 1)).2.1 (cmM t L (p + 1)).2.2.1 (cmM t L (p + 1)).2.2.2.1)) else (n, y)
def cdM (t : Nat → Int32) (L : Nat) (w21 w15 w16 w20 : Nat → Int32) : Nat × R3 := cdL t L w21 60 (cmM t L 0).2.2.2.2.1 1 (doM (cmM t L 0).1 (ps w15 (cmM t L 0).2.2.2.2.1 0) w16 w20 w21 (cmM t L 0).2.1 (cmM t L 0).2.2.1 (cmM t L 0).2.2.2.1)
theorem doM_o {k j : Nat} {w15 w16 w20 w21 : Nat → Int32} {a b c : Int32} (h : j ≠ 0) : (doM k w15 w16 w20 w21 a b c).1 j = w15 j := by
  unfold doM
  split
  · exact kc_charges h
  · exact kc_fires h
  · exact kc_skims h
  · exact kc_taps h
  · exact kc_backs h
  · exact kc_addsMould h
  · exact kc_pours h
  · exact kc_breaks h
  · exact kc_melts h
  · exact kc_passes h
theorem cdL_o {t : Nat → Int32} {L : Nat} {w21 : Nat → Int32} {j : Nat} (h : j ≠ 0) (h6 : j ≠ 6) (h9 : j ≠ 9) : ∀ (q p n : Nat) (y : R3), (cdL t L w21 q p n y).2.1 j = y.1 j
  | 0, _, _, _ => rfl
  | q + 1, p, n, y => by
    rw [cdL]
    split
    · split
      · rfl
      · rw [cdL_o h h6 h9 q, doM_o h, ps_o h6 h9]
    · rfl
theorem cdM_o {t : Nat → Int32} {L : Nat} {w21 w15 w16 w20 : Nat → Int32} {j : Nat} (h : j ≠ 0) (h6 : j ≠ 6) (h9 : j ≠ 9) : (cdM t L w21 w15 w16 w20).2.1 j = w15 j := by
  unfold cdM
  rw [cdL_o h h6 h9, doM_o h, ps_o h6 h9]
def rsF (d : Nat × R3) : Nat → Int32 := if d.2.1 0 = 0 then d.2.1 else upd (upd d.2.1 3 (nI d.1 - 1)) 0 2
theorem cX8_command0_ok (l : Launch) (G : GT) (X : St) (pp L : Nat) (hp : pp ≤ L) (hL : L ≤ 60) (e6 : X.1 15 6 = nI pp) (e7 : X.1 15 7 = nI L) (e9 : X.1 15 9 = 0) (hwd : WdOk (X.1 25) (X.1 26)) (e10 : X.1 15 10 = 0) : MetV l G yX8_command (wsG yX8_command cX8_command 6 none) (rmz 3 66) [.ref (ad G 723)] X (fun Y => ∃ z1, Y = setRow (setRow X 15 (ps (X.1 15) (cmM (X.1 22) L pp).2.2.2.2.1 (cmM (X.1 22) L pp).2.2.2.2.2)) 24 z1) := by
  have hle := wordR_le (t := X.1 22) (L := L) (P := pp) (by omega) hp
  cases ho : (wordR (X.1 22) L pp).1 with
  | none =>
    obtain ⟨z1, hz⟩ := wd_none hL hp (X.1 24) ho
    refine metV_imp (cX8_command0n_ok l G X pp L hp hL e6 e7 e9 hwd e10 (-1) _ hle.2 z1 hz) fun Y hY => ⟨z1, ?_⟩
    rw [show cmM (X.1 22) L pp = (0, (0, (0, (0, ((wordR (X.1 22) L pp).2, 1))))) by unfold cmM; rw [ho]]
    exact hY
  | some k =>
    obtain ⟨z1, hz⟩ := wd_some hL hp (X.1 24) ho
    have hk := wordR_lt ho
    rw [show cmM (X.1 22) L pp = (k, caK k (X.1 22) L (wordR (X.1 22) L pp).2) by unfold cmM; rw [ho]]
    rcases (show k = 0 ∨ k = 1 ∨ k = 2 ∨ k = 3 ∨ k = 4 ∨ k = 5 ∨ k = 6 ∨ k = 7 ∨ k = 8 ∨ k = 9 by omega) with rfl | rfl | rfl | rfl | rfl | rfl | rfl | rfl | rfl | rfl
    · exact metV_imp (cX8_command00_ok l G X pp L hp hL e6 e7 e9 hwd e10 _ hle.2 z1 hz) fun Y hY => ⟨z1, hY⟩
    · exact metV_imp (cX8_command01_ok l G X pp L hp hL e6 e7 e9 hwd e10 _ hle.2 z1 hz) fun Y hY => ⟨z1, hY⟩
    · exact metV_imp (cX8_command02_ok l G X pp L hp hL e6 e7 e9 hwd e10 _ hle.2 z1 hz) fun Y hY => ⟨z1, hY⟩
    · exact metV_imp (cX8_command03_ok l G X pp L hp hL e6 e7 e9 hwd e10 _ hle.2 z1 hz) fun Y hY => ⟨z1, hY⟩
    · exact metV_imp (cX8_command04_ok l G X pp L hp hL e6 e7 e9 hwd e10 _ hle.2 z1 hz) fun Y hY => ⟨z1, hY⟩
    · exact metV_imp (cX8_command05_ok l G X pp L hp hL e6 e7 e9 hwd e10 _ hle.2 z1 hz) fun Y hY => ⟨z1, hY⟩
    · exact metV_imp (cX8_command06_ok l G X pp L hp hL e6 e7 e9 hwd e10 _ hle.2 z1 hz) fun Y hY => ⟨z1, hY⟩
    · exact metV_imp (cX8_command07_ok l G X pp L hp hL e6 e7 e9 hwd e10 _ hle.2 z1 hz) fun Y hY => ⟨z1, hY⟩
    · exact metV_imp (cX8_command08_ok l G X pp L hp hL e6 e7 e9 hwd e10 _ hle.2 z1 hz) fun Y hY => ⟨z1, hY⟩
    · exact metV_imp (cX8_command09_ok l G X pp L hp hL e6 e7 e9 hwd e10 _ hle.2 z1 hz) fun Y hY => ⟨z1, hY⟩

theorem cX8_command1_ok (l : Launch) (G : GT) (X : St) (pp L : Nat) (hp : pp ≤ L) (hL : L ≤ 60) (e6 : X.1 15 6 = nI pp) (e7 : X.1 15 7 = nI L) (e9 : X.1 15 9 = 0) (hwd : WdOk (X.1 25) (X.1 26)) (e10 : X.1 15 10 = 1) (hm : MInv (X.1 16)) (hok : (cmM (X.1 22) L pp).2.2.2.2.2 = 0) : MetV l G yX8_command (wsG yX8_command cX8_command 6 none) (rmz 5 114) [.ref (ad G 723)] X (fun Y => ∃ z1, Y = setRow (setRow (setRow (setRow X 15 (doM (cmM (X.1 22) L pp).1 (ps (X.1 15) (cmM (X.1 22) L pp).2.2.2.2.1 0) (X.1 16) (X.1 20) (X.1 21) (cmM (X.1 22) L pp).2.1 (cmM (X.1 22) L pp).2.2.1 (cmM (X.1 22) L pp).2.2.2.1).1) 24 z1) 16 (doM (cmM (X.1 22) L pp).1 (ps (X.1 15) (cmM (X.1 22) L pp).2.2.2.2.1 0) (X.1 16) (X.1 20) (X.1 21) (cmM (X.1 22) L pp).2.1 (cmM (X.1 22) L pp).2.2.1 (cmM (X.1 22) L pp).2.2.2.1).2.1) 20 (doM (cmM (X.1 22) L pp).1 (ps (X.1 15) (cmM (X.1 22) L pp).2.2.2.2.1 0) (X.1 16) (X.1 20) (X.1 21) (cmM (X.1 22) L pp).2.1 (cmM (X.1 22) L pp).2.2.1 (cmM (X.1 22) L pp).2.2.2.1).2.2) := by
  have hle := wordR_le (t := X.1 22) (L := L) (P := pp) (by omega) hp
  cases ho : (wordR (X.1 22) L pp).1 with
  | none =>
    rw [show cmM (X.1 22) L pp = (0, (0, (0, (0, ((wordR (X.1 22) L pp).2, 1))))) by unfold cmM; rw [ho]] at hok
    exact absurd hok Nat.one_ne_zero
  | some k =>
    obtain ⟨z1, hz⟩ := wd_some hL hp (X.1 24) ho
    have hk := wordR_lt ho
    have he : cmM (X.1 22) L pp = (k, caK k (X.1 22) L (wordR (X.1 22) L pp).2) := by unfold cmM; rw [ho]
    rw [he] at hok ⊢
    rcases (show k = 0 ∨ k = 1 ∨ k = 2 ∨ k = 3 ∨ k = 4 ∨ k = 5 ∨ k = 6 ∨ k = 7 ∨ k = 8 ∨ k = 9 by omega) with rfl | rfl | rfl | rfl | rfl | rfl | rfl | rfl | rfl | rfl
    · simp only [caK] at hok ⊢
      exact metV_imp (cX8_command10_ok l G X pp L hp hL e6 e7 e9 hwd e10 _ hle.2 z1 hz hm hok) fun Y hY => ⟨z1, hY⟩
    · simp only [caK] at hok ⊢
      exact metV_imp (cX8_command11_ok l G X pp L hp hL e6 e7 e9 hwd e10 _ hle.2 z1 hz hm hok) fun Y hY => ⟨z1, hY⟩
    · simp only [caK] at hok ⊢
      exact metV_imp (cX8_command12_ok l G X pp L hp hL e6 e7 e9 hwd e10 _ hle.2 z1 hz hm hok) fun Y hY => ⟨z1, hY⟩
    · simp only [caK] at hok ⊢
      exact metV_imp (cX8_command13_ok l G X pp L hp hL e6 e7 e9 hwd e10 _ hle.2 z1 hz hm hok) fun Y hY => ⟨z1, hY⟩
    · simp only [caK] at hok ⊢
      exact metV_imp (cX8_command14_ok l G X pp L hp hL e6 e7 e9 hwd e10 _ hle.2 z1 hz hm hok) fun Y hY => ⟨z1, hY⟩
    · simp only [caK] at hok ⊢
      exact metV_imp (cX8_command15_ok l G X pp L hp hL e6 e7 e9 hwd e10 _ hle.2 z1 hz hm hok) fun Y hY => ⟨z1, hY⟩
    · simp only [caK] at hok ⊢
      exact metV_imp (cX8_command16_ok l G X pp L hp hL e6 e7 e9 hwd e10 _ hle.2 z1 hz hm hok) fun Y hY => ⟨z1, hY⟩
    · simp only [caK] at hok ⊢
      exact metV_imp (cX8_command17_ok l G X pp L hp hL e6 e7 e9 hwd e10 _ hle.2 z1 hz hm hok) fun Y hY => ⟨z1, hY⟩
    · simp only [caK] at hok ⊢
      exact metV_imp (cX8_command18_ok l G X pp L hp hL e6 e7 e9 hwd e10 _ hle.2 z1 hz hm hok) fun Y hY => ⟨z1, hY⟩
    · simp only [caK] at hok ⊢
      exact metV_imp (cX8_command19_ok l G X pp L hp hL e6 e7 e9 hwd e10 _ hle.2 z1 hz hm hok) fun Y hY => ⟨z1, hY⟩

set_option maxHeartbeats 4000000 in
set_option maxRecDepth 100000 in
theorem cX8_commands0_ok (l : Launch) (G : GT) (X : St) (L : Nat) (hL : L ≤ 60) (e7 : X.1 15 7 = nI L) (e0 : X.1 15 0 = 0) (hwd : WdOk (X.1 25) (X.1 26)) (e10 : X.1 15 10 = 0) : MetI l G yX8_commands (wsG yX8_commands cX8_commands 2 (some .int)) (rmz 4 91) [.ref (ad G 723)] X (fun res Y => res = nI (csM (X.1 22) L).2.2 ∧ ∃ z1, Y = setRow (setRow X 15 (ps (X.1 15) (csM (X.1 22) L).1 (csM (X.1 22) L).2.1)) 24 z1) := by
  refine g_met (cc := cX8_commands) (maxL := 2) (ret := (some .int)) (by decide) rfl (Nat.le_of_ble_eq_true rfl) ?_
  intro p e s m below meth c ls C hr hlk hnm hW hl
  have hx := C.1.1
  have hb := C.1.2.1
  have hS : va_S (Ab G) s.heap s.heap [] := va_S.rf
  have hl : lv_has ls 2 [(0, .ref (ad G 723))] := hl
  have hW : Wd G (setRow (setRow (X) 15 (X.1 15)) 24 (X.1 24)) s.heap := Wd.cast (((sr_same (X := setRow (X) 15 (X.1 15)) (r := 24) rfl).trans (sr_same (X := X) (r := 15) rfl))).symm hW
  refine lv_aload_n hx hb dX8_commands_0 rfl (lv_at hl 0 rfl) ?_
  refine lv_iconst (v := 0) hx hb dX8_commands_1 (by decide) ?_
  refine gM_hereP C hW hS (hwc hwX8) (mc qw_1493) dX8_commands_2 (fun H_1 locs_2 hW_3 hS_4 => ?_)
  obtain ⟨w_5, ew_5⟩ : ∃ Z9, Z9 = upd (X.1 15) (6) 0 := ⟨_, rfl⟩
  have kn_6 : w_5 (7) = nI L := by rw [ew_5]; exact (pk_un (by omega)).trans e7
  have kn_7 : w_5 (0) = 0 := by rw [ew_5]; exact (pk_un (by omega)).trans e0
  have kn_8 : w_5 (10) = 0 := by rw [ew_5]; exact (pk_un (by omega)).trans e10
  have kn_9 : w_5 (6) = 0 := by rw [ew_5]; exact pk_us
  have hW_10 : Wd G (setRow (setRow X 15 w_5) 24 (X.1 24)) H_1 := Wd.cast (by rw [ew_5]; exact (st_in (by decide) st_out)) hW_3
  refine lv_aload_n hx hb dX8_commands_5 rfl (lv_at hl 0 rfl) ?_
  refine lv_iconst (v := 0) hx hb dX8_commands_6 (by decide) ?_
  refine gM_isWrongP C hW_10 hS_4 (hwc hwX8) (mc qw_1496) rfl rfl dX8_commands_7 (fun H_11 locs_12 hW_13 hS_14 => ?_)
  obtain ⟨w_15, ew_15⟩ : ∃ Z9, Z9 = upd w_5 (9) 0 := ⟨_, rfl⟩
  have kn_16 : w_15 (7) = nI L := by rw [ew_15]; exact (pk_un (by omega)).trans kn_6
  have kn_17 : w_15 (0) = 0 := by rw [ew_15]; exact (pk_un (by omega)).trans kn_7
  have kn_18 : w_15 (10) = 0 := by rw [ew_15]; exact (pk_un (by omega)).trans kn_8
  have kn_19 : w_15 (6) = 0 := by rw [ew_15]; exact (pk_un (by omega)).trans kn_9
  have kn_20 : w_15 (9) = 0 := by rw [ew_15]; exact pk_us
  have hW_21 : Wd G (setRow (setRow X 15 w_15) 24 (X.1 24)) H_11 := Wd.cast (by rw [ew_15]; exact (st_in (by decide) st_out)) hW_13
  refine lv_iconst (v := 1) hx hb dX8_commands_10 (by decide) ?_
  refine lv_istore_n (lv' := [(1, .int 1), (0, .ref (ad G 723))]) hx hb dX8_commands_11 rfl hl (by decide) rfl (fun ls_22 hl_23 => ?_)
  refine lv_aload_n hx hb dX8_commands_12 rfl (lv_at hl_23 1 rfl) ?_
  refine g_callv (va_runV (As := []) (rest := []) C.1 (cX8_command0_ok l G (setRow (setRow X 15 w_15) 24 (X.1 24)) 0 L (show 0 ≤ L by omega) hL kn_19 kn_16 kn_20 hwd kn_18) (cwV 0 C.1.2.2.2.2 (gV qw_1891 qw_1893 qw_62 qw_81 qw_1894) rfl rfl rfl (by decide +kernel) ⟨Nat.le_of_ble_eq_true rfl, Nat.le_of_ble_eq_true rfl⟩) (g_rModel C hW_21 hS_14 []) rfl rfl hl_23.1 rfl (lv_room (Nat.le_of_ble_eq_true rfl)) dX8_commands_13 ⟨Nat.zero_le _, Nat.zero_le _⟩) hS_14 (fun Y_25 H_26 locs_27 hW_28 hS_29 h_24 => ?_)
  obtain ⟨z_30, h_24⟩ := h_24
  replace h_24 : Y_25 = setRow (setRow (setRow (setRow X 15 w_15) 24 (X.1 24)) 15 (ps w_15 (cmM (X.1 22) L 0).2.2.2.2.1 (cmM (X.1 22) L 0).2.2.2.2.2)) 24 z_30 := h_24
  obtain ⟨k_31, a_32, b_33, c_34, p_35, w_36, hd_37⟩ : ∃ q1 q2 q3 q4 q5 q6, cmM (X.1 22) L 0 = (q1, (q2, (q3, (q4, (q5, q6))))) := ⟨_, _, _, _, _, _, rfl⟩
  rw [hd_37] at h_24
  have hp_35 := cmM_le (show 0 ≤ L by omega) hL hd_37
  rcases cmM_b hd_37 with hbw_36 | hbw_36
  · rw [hbw_36] at hd_37 h_24
    replace h_24 : Y_25 = setRow (setRow (setRow (setRow X 15 w_15) 24 (X.1 24)) 15 (ps w_15 p_35 0)) 24 z_30 := h_24
    replace h_24 : Y_25 = setRow (setRow (setRow (setRow X 15 w_15) 24 (X.1 24)) 15 (ps w_15 p_35 0)) 24 z_30 := h_24
    obtain ⟨w_38, ew_38⟩ : ∃ Z9, Z9 = ps w_15 p_35 0 := ⟨_, rfl⟩
    obtain ⟨w_39, ew_39⟩ : ∃ Z9, Z9 = z_30 := ⟨_, rfl⟩
    have qqw_38 : Y_25 = setRow (setRow (setRow (setRow X 15 w_15) 24 (X.1 24)) 15 w_38) 24 w_39 := by rw [h_24, ew_38, ew_39]
    have hW_40 : Wd G (setRow (setRow X 15 w_38) 24 w_39) H_26 := Wd.cast (((qqw_38).trans (congrArg (fun Z9 => setRow (Z9) 24 w_39) (sr_in (by decide) sr_out))).trans (congrArg (fun Z9 => Z9) sr_out)) hW_28
    have kn_41 : w_38 (7) = nI L := by rw [ew_38]; exact (ps_o (by decide) (by decide)).trans kn_16
    have kn_42 : w_38 (10) = 0 := by rw [ew_38]; exact (ps_o (by decide) (by decide)).trans kn_18
    have kn_43 : w_38 (0) = 0 := by rw [ew_38]; exact (ps_o (by decide) (by decide)).trans kn_17
    have kn_44 : w_38 (6) = nI p_35 := by rw [ew_38]; exact ps_6
    have kn_45 : w_38 (9) = 0 := by rw [ew_38]; exact ps_9
    refine lv_aload_n hx hb dX8_commands_16 rfl (lv_at hl_23 1 rfl) ?_
    refine gM_isWrong C hW_40 (hwc hwX8) (mc qw_1496) dX8_commands_17 ?_
    refine g_top (y := w_38 (9)) (congrFun (rd_in (by decide) rd_out) _) ?_
    refine g_top (y := 0) kn_45 ?_
    refine lv_if_ne (tgt := 64) hx hb dX8_commands_20 (by decide) (fun h9 => absurd h9 (by decide)) (fun _ => ?_)
    have loop : ∀ (q : Nat) (kk nn : Nat) (yy zz : Nat → Int32) (H : Heap) (locs : List Loc) (ls : Array Slot), L ≤ kk + q → kk ≤ L → nn + q = 61 → csL (X.1 22) L q kk nn = csM (X.1 22) L → yy = ps (X.1 15) kk 0 → Wd G (setRow (setRow X 15 yy) 24 zz) H → va_S (Ab G) s.heap H locs → lv_has ls 2 [(1, .int (nI nn)), (0, .ref (ad G 723))] → W p l e (rmz 4 91) s m ([.ref (ad G 723)] : List Value).toArray below meth c H locs 0 0 (MQ below (Ki G (fun res Y => res = nI (csM (X.1 22) L).2.2 ∧ ∃ z1, Y = setRow (setRow X 15 (ps (X.1 15) (csM (X.1 22) L).1 (csM (X.1 22) L).2.1)) 24 z1)) ([.ref (ad G 723)] : List Value).toArray s 0 0 (Ab G)) (F0 m 23 ls []) := by
      intro q
      induction q with
      | zero =>
        intro kk nn yy zz H locs ls hq hkL hnn hf hy hW hS hl
        have hy6 : yy (6) = nI kk := by rw [hy]; exact ps_6
        have hy7 : yy (7) = nI L := by rw [hy]; exact (ps_o (by decide) (by decide)).trans e7
        have hy9 : yy (9) = 0 := by rw [hy]; exact ps_9
        have hy10 : yy (10) = 0 := by rw [hy]; exact (ps_o (by decide) (by decide)).trans e10
        have hy0 : yy (0) = 0 := by rw [hy]; exact (ps_o (by decide) (by decide)).trans e0
        have e8 : csM (X.1 22) L = (kk, (0, nn)) := hf.symm
        refine lv_aload_n hx hb dX8_commands_23 rfl (lv_at hl 1 rfl) ?_
        refine gM_thrown C hW (hwc hwX8) (mc qw_1476) dX8_commands_24 ?_
        refine g_top (y := yy (0)) (congrFun (rd_in (by decide) rd_out) _) ?_
        refine g_top (y := 0) hy0 ?_
        refine lv_if_ne (tgt := 64) hx hb dX8_commands_27 (by decide) (fun h9 => absurd h9 (by decide)) (fun _ => ?_)
        refine lv_aload_n hx hb dX8_commands_30 rfl (lv_at hl 1 rfl) ?_
        refine gM_here C hW (hwc hwX8) (mc qw_1493) dX8_commands_31 ?_
        refine g_top (y := yy (6)) (congrFun (rd_in (by decide) rd_out) _) ?_
        refine g_top (y := nI kk) hy6 ?_
        refine lv_aload_n hx hb dX8_commands_34 rfl (lv_at hl 1 rfl) ?_
        refine gM_end C hW (hwc hwX8) (mc qw_1494) dX8_commands_35 ?_
        refine g_top (y := yy (7)) (congrFun (rd_in (by decide) rd_out) _) ?_
        refine g_top (y := nI L) hy7 ?_
        refine lv_icmp_ge (tgt := 64) hx hb dX8_commands_38 (by decide) (fun _ => ?_) (fun h9 => absurd (nI_le (a := L) (b := kk) (by omega) (by omega)) h9)
        refine lv_iload_n hx hb dX8_commands_64 rfl (lv_at hl 0 rfl) ?_
        exact g_iret C hr hlk hW hS dX8_commands_65 (by rw [e8]; exact ⟨rfl, _, by rw [hy]; first | done | rfl | (simp only [ps_ps]; rfl)⟩)
      | succ q ih =>
        intro kk nn yy zz H locs ls hq hkL hnn hf hy hW hS hl
        have hy6 : yy (6) = nI kk := by rw [hy]; exact ps_6
        have hy7 : yy (7) = nI L := by rw [hy]; exact (ps_o (by decide) (by decide)).trans e7
        have hy9 : yy (9) = 0 := by rw [hy]; exact ps_9
        have hy10 : yy (10) = 0 := by rw [hy]; exact (ps_o (by decide) (by decide)).trans e10
        have hy0 : yy (0) = 0 := by rw [hy]; exact (ps_o (by decide) (by decide)).trans e0
        refine lv_aload_n hx hb dX8_commands_23 rfl (lv_at hl 1 rfl) ?_
        refine gM_thrown C hW (hwc hwX8) (mc qw_1476) dX8_commands_24 ?_
        refine g_top (y := yy (0)) (congrFun (rd_in (by decide) rd_out) _) ?_
        refine g_top (y := 0) hy0 ?_
        refine lv_if_ne (tgt := 64) hx hb dX8_commands_27 (by decide) (fun h9 => absurd h9 (by decide)) (fun _ => ?_)
        refine lv_aload_n hx hb dX8_commands_30 rfl (lv_at hl 1 rfl) ?_
        refine gM_here C hW (hwc hwX8) (mc qw_1493) dX8_commands_31 ?_
        refine g_top (y := yy (6)) (congrFun (rd_in (by decide) rd_out) _) ?_
        refine g_top (y := nI kk) hy6 ?_
        refine lv_aload_n hx hb dX8_commands_34 rfl (lv_at hl 1 rfl) ?_
        refine gM_end C hW (hwc hwX8) (mc qw_1494) dX8_commands_35 ?_
        refine g_top (y := yy (7)) (congrFun (rd_in (by decide) rd_out) _) ?_
        refine g_top (y := nI L) hy7 ?_
        refine lv_icmp_ge (tgt := 64) hx hb dX8_commands_38 (by decide) (fun b_46 => ?_) (fun b_46 => ?_)
        · have fb_46 : L ≤ kk := (nI_leI (a := L) (b := kk) (by omega) (by omega)).mp b_46
          refine lv_iload_n hx hb dX8_commands_64 rfl (lv_at hl 0 rfl) ?_
          exact g_iret C hr hlk hW hS dX8_commands_65 (by have e8 : csM (X.1 22) L = (kk, (0, nn)) := (by rw [csL] at hf; simp only [fb_46, if_true, if_false, Nat.one_ne_zero, Nat.zero_ne_one] at hf; exact hf.symm); rw [e8]; exact ⟨rfl, _, by rw [hy]; first | done | rfl | (simp only [ps_ps]; rfl)⟩)
        · have fb_46 : ¬ L ≤ kk := fun q9 => b_46 ((nI_leI (a := L) (b := kk) (by omega) (by omega)).mpr q9)
          refine lv_aload_n hx hb dX8_commands_41 rfl (lv_at hl 1 rfl) ?_
          refine lv_bipush (v := 59) hx hb dX8_commands_42 (by decide) ?_
          refine g_callv (va_runV (As := [.int 59]) (rest := []) C.1 (cX8_mark_ok l G (setRow (setRow X 15 yy) 24 zz) kk L (show kk ≤ L by omega) hL hy6 hy7 hy9 59 (by decide)) (cwV 1 C.1.2.2.2.2 (gV qw_1911 qw_1913 qw_67 qw_81 qw_1914) rfl rfl rfl (by decide +kernel) ⟨Nat.le_of_ble_eq_true rfl, Nat.le_of_ble_eq_true rfl⟩) (g_rModel C hW hS [.int 59]) rfl rfl hl.1 rfl (lv_room (Nat.le_of_ble_eq_true rfl)) dX8_commands_44 ⟨Nat.zero_le _, Nat.zero_le _⟩) hS (fun Y_48 H_49 locs_50 hW_51 hS_52 h_47 => ?_)
          replace h_47 : Y_48 = setRow (setRow (setRow X 15 yy) 24 zz) 15 (ps yy (if sgM (X.1 22) L kk = 59 then kk + 1 else kk) (if sgM (X.1 22) L kk = 59 then 0 else 1)) := h_47
          by_cases b_53 : sgM (X.1 22) L kk = 59
          · rw [if_pos b_53, if_pos b_53] at h_47
            have hb_53 : kk < L := sg_lt b_53 (by decide)
            replace h_47 : Y_48 = setRow (setRow (setRow X 15 yy) 24 zz) 15 (ps yy (kk + 1) 0) := h_47
            obtain ⟨w_54, ew_54⟩ : ∃ Z9, Z9 = ps yy (kk + 1) 0 := ⟨_, rfl⟩
            have qqw_54 : Y_48 = setRow (setRow (setRow X 15 yy) 24 zz) 15 w_54 := by rw [h_47, ew_54]
            have hW_55 : Wd G (setRow (setRow X 15 w_54) 24 zz) H_49 := Wd.cast ((qqw_54).trans (congrArg (fun Z9 => Z9) (sr_in (by decide) sr_out))) hW_51
            have kn_56 : w_54 (7) = nI L := by rw [ew_54]; exact (ps_o (by decide) (by decide)).trans hy7
            have kn_57 : w_54 (10) = 0 := by rw [ew_54]; exact (ps_o (by decide) (by decide)).trans hy10
            have kn_58 : w_54 (0) = 0 := by rw [ew_54]; exact (ps_o (by decide) (by decide)).trans hy0
            have kn_59 : w_54 (6) = nI (kk + 1) := by rw [ew_54]; exact ps_6
            have kn_60 : w_54 (9) = 0 := by rw [ew_54]; exact ps_9
            refine lv_aload_n hx hb dX8_commands_47 rfl (lv_at hl 1 rfl) ?_
            refine gM_isWrong C hW_55 (hwc hwX8) (mc qw_1496) dX8_commands_48 ?_
            refine g_top (y := w_54 (9)) (congrFun (rd_in (by decide) rd_out) _) ?_
            refine g_top (y := 0) kn_60 ?_
            refine lv_if_ne (tgt := 58) hx hb dX8_commands_51 (by decide) (fun h9 => absurd h9 (by decide)) (fun _ => ?_)
            refine lv_aload_n hx hb dX8_commands_54 rfl (lv_at hl 1 rfl) ?_
            refine g_callv (va_runV (As := []) (rest := []) C.1 (cX8_command0_ok l G (setRow (setRow X 15 w_54) 24 zz) (kk + 1) L (show kk + 1 ≤ L by omega) hL kn_59 kn_56 kn_60 hwd kn_57) (cwV 0 C.1.2.2.2.2 (gV qw_1891 qw_1893 qw_62 qw_81 qw_1894) rfl rfl rfl (by decide +kernel) ⟨Nat.le_of_ble_eq_true rfl, Nat.le_of_ble_eq_true rfl⟩) (g_rModel C hW_55 hS_52 []) rfl rfl hl.1 rfl (lv_room (Nat.le_of_ble_eq_true rfl)) dX8_commands_55 ⟨Nat.zero_le _, Nat.zero_le _⟩) hS_52 (fun Y_62 H_63 locs_64 hW_65 hS_66 h_61 => ?_)
            obtain ⟨z_67, h_61⟩ := h_61
            replace h_61 : Y_62 = setRow (setRow (setRow (setRow X 15 w_54) 24 zz) 15 (ps w_54 (cmM (X.1 22) L (kk + 1)).2.2.2.2.1 (cmM (X.1 22) L (kk + 1)).2.2.2.2.2)) 24 z_67 := h_61
            obtain ⟨k_68, a_69, b_70, c_71, p_72, w_73, hd_74⟩ : ∃ q1 q2 q3 q4 q5 q6, cmM (X.1 22) L (kk + 1) = (q1, (q2, (q3, (q4, (q5, q6))))) := ⟨_, _, _, _, _, _, rfl⟩
            rw [hd_74] at h_61
            have hp_72 := cmM_le (show kk + 1 ≤ L by omega) hL hd_74
            rcases cmM_b hd_74 with hbw_73 | hbw_73
            · rw [hbw_73] at hd_74 h_61
              replace h_61 : Y_62 = setRow (setRow (setRow (setRow X 15 w_54) 24 zz) 15 (ps w_54 p_72 0)) 24 z_67 := h_61
              replace h_61 : Y_62 = setRow (setRow (setRow (setRow X 15 w_54) 24 zz) 15 (ps w_54 p_72 0)) 24 z_67 := h_61
              obtain ⟨w_75, ew_75⟩ : ∃ Z9, Z9 = ps w_54 p_72 0 := ⟨_, rfl⟩
              obtain ⟨w_76, ew_76⟩ : ∃ Z9, Z9 = z_67 := ⟨_, rfl⟩
              have qqw_75 : Y_62 = setRow (setRow (setRow (setRow X 15 w_54) 24 zz) 15 w_75) 24 w_76 := by rw [h_61, ew_75, ew_76]
              have hW_77 : Wd G (setRow (setRow X 15 w_75) 24 w_76) H_63 := Wd.cast (((qqw_75).trans (congrArg (fun Z9 => setRow (Z9) 24 w_76) (sr_in (by decide) sr_out))).trans (congrArg (fun Z9 => Z9) sr_out)) hW_65
              have kn_78 : w_75 (7) = nI L := by rw [ew_75]; exact (ps_o (by decide) (by decide)).trans kn_56
              have kn_79 : w_75 (10) = 0 := by rw [ew_75]; exact (ps_o (by decide) (by decide)).trans kn_57
              have kn_80 : w_75 (0) = 0 := by rw [ew_75]; exact (ps_o (by decide) (by decide)).trans kn_58
              have kn_81 : w_75 (6) = nI p_72 := by rw [ew_75]; exact ps_6
              have kn_82 : w_75 (9) = 0 := by rw [ew_75]; exact ps_9
              refine lv_iinc (v := nI (nn + 1)) (lv' := [(1, .int (nI (nn + 1))), (0, .ref (ad G 723))]) hx hb dX8_commands_58 hl (k := 0) rfl (nI_1 nn) (by decide) rfl (fun ls_83 hl_84 => ?_)
              refine lv_goto (tgt := 16) hx hb dX8_commands_61 (by decide) ?_
              refine lv_aload_n hx hb dX8_commands_16 rfl (lv_at hl_84 1 rfl) ?_
              refine gM_isWrong C hW_77 (hwc hwX8) (mc qw_1496) dX8_commands_17 ?_
              refine g_top (y := w_75 (9)) (congrFun (rd_in (by decide) rd_out) _) ?_
              refine g_top (y := 0) kn_82 ?_
              refine lv_if_ne (tgt := 64) hx hb dX8_commands_20 (by decide) (fun h9 => absurd h9 (by decide)) (fun _ => ?_)
              exact ih p_72 (nn + 1) w_75 w_76 H_63 locs_64 ls_83 (by omega) (by omega) (by omega) (by rw [csL] at hf; simp only [fb_46, eq_true b_53, hd_74, if_true, if_false, Nat.zero_ne_one] at hf; exact hf) (by subst ew_76; subst ew_75; subst ew_54; rw [hy]; simp only [ps_ps]) hW_77 hS_66 (lv_sub hl_84 [0, 1] rfl)
            · rw [hbw_73] at hd_74 h_61
              replace h_61 : Y_62 = setRow (setRow (setRow (setRow X 15 w_54) 24 zz) 15 (ps w_54 p_72 1)) 24 z_67 := h_61
              replace h_61 : Y_62 = setRow (setRow (setRow (setRow X 15 w_54) 24 zz) 15 (ps w_54 p_72 1)) 24 z_67 := h_61
              obtain ⟨w_85, ew_85⟩ : ∃ Z9, Z9 = ps w_54 p_72 1 := ⟨_, rfl⟩
              obtain ⟨w_86, ew_86⟩ : ∃ Z9, Z9 = z_67 := ⟨_, rfl⟩
              have qqw_85 : Y_62 = setRow (setRow (setRow (setRow X 15 w_54) 24 zz) 15 w_85) 24 w_86 := by rw [h_61, ew_85, ew_86]
              have hW_87 : Wd G (setRow (setRow X 15 w_85) 24 w_86) H_63 := Wd.cast (((qqw_85).trans (congrArg (fun Z9 => setRow (Z9) 24 w_86) (sr_in (by decide) sr_out))).trans (congrArg (fun Z9 => Z9) sr_out)) hW_65
              have kn_88 : w_85 (7) = nI L := by rw [ew_85]; exact (ps_o (by decide) (by decide)).trans kn_56
              have kn_89 : w_85 (10) = 0 := by rw [ew_85]; exact (ps_o (by decide) (by decide)).trans kn_57
              have kn_90 : w_85 (0) = 0 := by rw [ew_85]; exact (ps_o (by decide) (by decide)).trans kn_58
              have kn_91 : w_85 (6) = nI p_72 := by rw [ew_85]; exact ps_6
              have kn_92 : w_85 (9) = 1 := by rw [ew_85]; exact ps_9
              refine lv_iinc (v := nI (nn + 1)) (lv' := [(1, .int (nI (nn + 1))), (0, .ref (ad G 723))]) hx hb dX8_commands_58 hl (k := 0) rfl (nI_1 nn) (by decide) rfl (fun ls_93 hl_94 => ?_)
              refine lv_goto (tgt := 16) hx hb dX8_commands_61 (by decide) ?_
              refine lv_aload_n hx hb dX8_commands_16 rfl (lv_at hl_94 1 rfl) ?_
              refine gM_isWrong C hW_87 (hwc hwX8) (mc qw_1496) dX8_commands_17 ?_
              refine g_top (y := w_85 (9)) (congrFun (rd_in (by decide) rd_out) _) ?_
              refine g_top (y := 1) kn_92 ?_
              refine lv_if_ne (tgt := 64) hx hb dX8_commands_20 (by decide) (fun _ => ?_) (fun h9 => absurd h9 (by decide))
              refine lv_iload_n hx hb dX8_commands_64 rfl (lv_at hl_94 0 rfl) ?_
              exact g_iret C hr hlk hW_87 hS_66 dX8_commands_65 (by have e8 : csM (X.1 22) L = (p_72, (1, nn + 1)) := (by rw [csL] at hf; simp only [fb_46, eq_true b_53, hd_74, if_true, if_false, Nat.one_ne_zero, Nat.zero_ne_one] at hf; exact hf.symm); rw [e8]; subst ew_86; subst ew_85; subst ew_54; exact ⟨rfl, _, by rw [hy]; first | done | rfl | (simp only [ps_ps]; rfl)⟩)
          · rw [if_neg b_53, if_neg b_53] at h_47
            replace h_47 : Y_48 = setRow (setRow (setRow X 15 yy) 24 zz) 15 (ps yy kk 1) := h_47
            obtain ⟨w_95, ew_95⟩ : ∃ Z9, Z9 = ps yy kk 1 := ⟨_, rfl⟩
            have qqw_95 : Y_48 = setRow (setRow (setRow X 15 yy) 24 zz) 15 w_95 := by rw [h_47, ew_95]
            have hW_96 : Wd G (setRow (setRow X 15 w_95) 24 zz) H_49 := Wd.cast ((qqw_95).trans (congrArg (fun Z9 => Z9) (sr_in (by decide) sr_out))) hW_51
            have kn_97 : w_95 (7) = nI L := by rw [ew_95]; exact (ps_o (by decide) (by decide)).trans hy7
            have kn_98 : w_95 (10) = 0 := by rw [ew_95]; exact (ps_o (by decide) (by decide)).trans hy10
            have kn_99 : w_95 (0) = 0 := by rw [ew_95]; exact (ps_o (by decide) (by decide)).trans hy0
            have kn_100 : w_95 (6) = nI kk := by rw [ew_95]; exact ps_6
            have kn_101 : w_95 (9) = 1 := by rw [ew_95]; exact ps_9
            refine lv_aload_n hx hb dX8_commands_47 rfl (lv_at hl 1 rfl) ?_
            refine gM_isWrong C hW_96 (hwc hwX8) (mc qw_1496) dX8_commands_48 ?_
            refine g_top (y := w_95 (9)) (congrFun (rd_in (by decide) rd_out) _) ?_
            refine g_top (y := 1) kn_101 ?_
            refine lv_if_ne (tgt := 58) hx hb dX8_commands_51 (by decide) (fun _ => ?_) (fun h9 => absurd h9 (by decide))
            refine lv_iinc (v := nI (nn + 1)) (lv' := [(1, .int (nI (nn + 1))), (0, .ref (ad G 723))]) hx hb dX8_commands_58 hl (k := 0) rfl (nI_1 nn) (by decide) rfl (fun ls_102 hl_103 => ?_)
            refine lv_goto (tgt := 16) hx hb dX8_commands_61 (by decide) ?_
            refine lv_aload_n hx hb dX8_commands_16 rfl (lv_at hl_103 1 rfl) ?_
            refine gM_isWrong C hW_96 (hwc hwX8) (mc qw_1496) dX8_commands_17 ?_
            refine g_top (y := w_95 (9)) (congrFun (rd_in (by decide) rd_out) _) ?_
            refine g_top (y := 1) kn_101 ?_
            refine lv_if_ne (tgt := 64) hx hb dX8_commands_20 (by decide) (fun _ => ?_) (fun h9 => absurd h9 (by decide))
            refine lv_iload_n hx hb dX8_commands_64 rfl (lv_at hl_103 0 rfl) ?_
            exact g_iret C hr hlk hW_96 hS_52 dX8_commands_65 (by have e8 : csM (X.1 22) L = (kk, (1, nn + 1)) := (by rw [csL] at hf; simp only [fb_46, b_53, if_true, if_false, Nat.one_ne_zero, Nat.zero_ne_one] at hf; exact hf.symm); rw [e8]; subst ew_95; exact ⟨rfl, _, by rw [hy]; first | done | rfl | (simp only [ps_ps]; rfl)⟩)
    exact loop 60 p_35 1 w_38 w_39 H_26 locs_27 ls_22 (by omega) (by omega) (by omega) (by unfold csM; simp only [hd_37, if_false, Nat.zero_ne_one]) (by subst ew_39; subst ew_38; subst ew_15; subst ew_5; rw [show upd (upd (X.1 15) (6) 0) (9) 0 = ps (X.1 15) 0 0 from rfl]; exact ps_ps) hW_40 hS_29 (lv_sub hl_23 [0, 1] rfl)
  · rw [hbw_36] at hd_37 h_24
    replace h_24 : Y_25 = setRow (setRow (setRow (setRow X 15 w_15) 24 (X.1 24)) 15 (ps w_15 p_35 1)) 24 z_30 := h_24
    replace h_24 : Y_25 = setRow (setRow (setRow (setRow X 15 w_15) 24 (X.1 24)) 15 (ps w_15 p_35 1)) 24 z_30 := h_24
    obtain ⟨w_104, ew_104⟩ : ∃ Z9, Z9 = ps w_15 p_35 1 := ⟨_, rfl⟩
    obtain ⟨w_105, ew_105⟩ : ∃ Z9, Z9 = z_30 := ⟨_, rfl⟩
    have qqw_104 : Y_25 = setRow (setRow (setRow (setRow X 15 w_15) 24 (X.1 24)) 15 w_104) 24 w_105 := by rw [h_24, ew_104, ew_105]
    have hW_106 : Wd G (setRow (setRow X 15 w_104) 24 w_105) H_26 := Wd.cast (((qqw_104).trans (congrArg (fun Z9 => setRow (Z9) 24 w_105) (sr_in (by decide) sr_out))).trans (congrArg (fun Z9 => Z9) sr_out)) hW_28
    have kn_107 : w_104 (7) = nI L := by rw [ew_104]; exact (ps_o (by decide) (by decide)).trans kn_16
    have kn_108 : w_104 (10) = 0 := by rw [ew_104]; exact (ps_o (by decide) (by decide)).trans kn_18
    have kn_109 : w_104 (0) = 0 := by rw [ew_104]; exact (ps_o (by decide) (by decide)).trans kn_17
    have kn_110 : w_104 (6) = nI p_35 := by rw [ew_104]; exact ps_6
    have kn_111 : w_104 (9) = 1 := by rw [ew_104]; exact ps_9
    refine lv_aload_n hx hb dX8_commands_16 rfl (lv_at hl_23 1 rfl) ?_
    refine gM_isWrong C hW_106 (hwc hwX8) (mc qw_1496) dX8_commands_17 ?_
    refine g_top (y := w_104 (9)) (congrFun (rd_in (by decide) rd_out) _) ?_
    refine g_top (y := 1) kn_111 ?_
    refine lv_if_ne (tgt := 64) hx hb dX8_commands_20 (by decide) (fun _ => ?_) (fun h9 => absurd h9 (by decide))
    refine lv_iload_n hx hb dX8_commands_64 rfl (lv_at hl_23 0 rfl) ?_
    exact g_iret C hr hlk hW_106 hS_29 dX8_commands_65 (by have e8 : csM (X.1 22) L = (p_35, (1, 1)) := (by unfold csM; simp only [hd_37, if_true]); rw [e8]; subst ew_105; subst ew_104; subst ew_15; subst ew_5; exact ⟨rfl, _, by exact congrArg (fun z9 => setRow (setRow X 15 z9) 24 _) (show ps (ps (X.1 15) 0 0) _ _ = _ from ps_ps)⟩)

set_option maxHeartbeats 4000000 in
set_option maxRecDepth 100000 in
theorem cX8_commands1_ok (l : Launch) (G : GT) (X : St) (L : Nat) (hL : L ≤ 60) (e7 : X.1 15 7 = nI L) (e0 : X.1 15 0 = 0) (hwd : WdOk (X.1 25) (X.1 26)) (e10 : X.1 15 10 = 1) (hm : MInv (X.1 16)) (hMd : ∀ (k : Nat) (w15 w16 w20 : Nat → Int32) (a b c_ : Int32), MInv w16 → (k = 0 → ∃ j, j < 4 ∧ b = nI j) → MInv (doM k w15 w16 w20 (X.1 21) a b c_).2.1) (hok : (csM (X.1 22) L).2.1 = 0) : MetI l G yX8_commands (wsG yX8_commands cX8_commands 2 (some .int)) (rmz 6 139) [.ref (ad G 723)] X (fun res Y => res = nI (cdM (X.1 22) L (X.1 21) (X.1 15) (X.1 16) (X.1 20)).1 ∧ ∃ z1, Y = setRow (setRow (setRow (setRow X 15 (cdM (X.1 22) L (X.1 21) (X.1 15) (X.1 16) (X.1 20)).2.1) 24 z1) 16 (cdM (X.1 22) L (X.1 21) (X.1 15) (X.1 16) (X.1 20)).2.2.1) 20 (cdM (X.1 22) L (X.1 21) (X.1 15) (X.1 16) (X.1 20)).2.2.2) := by
  refine g_met (cc := cX8_commands) (maxL := 2) (ret := (some .int)) (by decide) rfl (Nat.le_of_ble_eq_true rfl) ?_
  intro p e s m below meth c ls C hr hlk hnm hW hl
  have hx := C.1.1
  have hb := C.1.2.1
  have hS : va_S (Ab G) s.heap s.heap [] := va_S.rf
  have hl : lv_has ls 2 [(0, .ref (ad G 723))] := hl
  have hW : Wd G (setRow (setRow (setRow (setRow (X) 15 (X.1 15)) 24 (X.1 24)) 16 (X.1 16)) 20 (X.1 20)) s.heap := Wd.cast (((((sr_same (X := setRow (setRow (setRow (X) 15 (X.1 15)) 24 (X.1 24)) 16 (X.1 16)) (r := 20) rfl).trans (sr_same (X := setRow (setRow (X) 15 (X.1 15)) 24 (X.1 24)) (r := 16) rfl)).trans (sr_same (X := setRow (X) 15 (X.1 15)) (r := 24) rfl)).trans (sr_same (X := X) (r := 15) rfl))).symm hW
  refine lv_aload_n hx hb dX8_commands_0 rfl (lv_at hl 0 rfl) ?_
  refine lv_iconst (v := 0) hx hb dX8_commands_1 (by decide) ?_
  refine gM_hereP C hW hS (hwc hwX8) (mc qw_1493) dX8_commands_2 (fun H_1 locs_2 hW_3 hS_4 => ?_)
  obtain ⟨w_5, ew_5⟩ : ∃ Z9, Z9 = upd (X.1 15) (6) 0 := ⟨_, rfl⟩
  have kn_6 : w_5 (7) = nI L := by rw [ew_5]; exact (pk_un (by omega)).trans e7
  have kn_7 : w_5 (0) = 0 := by rw [ew_5]; exact (pk_un (by omega)).trans e0
  have kn_8 : w_5 (10) = 1 := by rw [ew_5]; exact (pk_un (by omega)).trans e10
  have kn_9 : w_5 (6) = 0 := by rw [ew_5]; exact pk_us
  have hW_10 : Wd G (setRow (setRow (setRow (setRow X 15 w_5) 24 (X.1 24)) 16 (X.1 16)) 20 (X.1 20)) H_1 := Wd.cast (by rw [ew_5]; exact (st_in (by decide) (st_in (by decide) (st_in (by decide) st_out)))) hW_3
  refine lv_aload_n hx hb dX8_commands_5 rfl (lv_at hl 0 rfl) ?_
  refine lv_iconst (v := 0) hx hb dX8_commands_6 (by decide) ?_
  refine gM_isWrongP C hW_10 hS_4 (hwc hwX8) (mc qw_1496) rfl rfl dX8_commands_7 (fun H_11 locs_12 hW_13 hS_14 => ?_)
  obtain ⟨w_15, ew_15⟩ : ∃ Z9, Z9 = upd w_5 (9) 0 := ⟨_, rfl⟩
  have kn_16 : w_15 (7) = nI L := by rw [ew_15]; exact (pk_un (by omega)).trans kn_6
  have kn_17 : w_15 (0) = 0 := by rw [ew_15]; exact (pk_un (by omega)).trans kn_7
  have kn_18 : w_15 (10) = 1 := by rw [ew_15]; exact (pk_un (by omega)).trans kn_8
  have kn_19 : w_15 (6) = 0 := by rw [ew_15]; exact (pk_un (by omega)).trans kn_9
  have kn_20 : w_15 (9) = 0 := by rw [ew_15]; exact pk_us
  have hW_21 : Wd G (setRow (setRow (setRow (setRow X 15 w_15) 24 (X.1 24)) 16 (X.1 16)) 20 (X.1 20)) H_11 := Wd.cast (by rw [ew_15]; exact (st_in (by decide) (st_in (by decide) (st_in (by decide) st_out)))) hW_13
  refine lv_iconst (v := 1) hx hb dX8_commands_10 (by decide) ?_
  refine lv_istore_n (lv' := [(1, .int 1), (0, .ref (ad G 723))]) hx hb dX8_commands_11 rfl hl (by decide) rfl (fun ls_22 hl_23 => ?_)
  refine lv_aload_n hx hb dX8_commands_12 rfl (lv_at hl_23 1 rfl) ?_
  refine g_callv (va_runV (As := []) (rest := []) C.1 (cX8_command1_ok l G (setRow (setRow (setRow (setRow X 15 w_15) 24 (X.1 24)) 16 (X.1 16)) 20 (X.1 20)) 0 L (show 0 ≤ L by omega) hL kn_19 kn_16 kn_20 hwd kn_18 hm (csM_c hok)) (cwV 0 C.1.2.2.2.2 (gV qw_1891 qw_1893 qw_62 qw_81 qw_1894) rfl rfl rfl (by decide +kernel) ⟨Nat.le_of_ble_eq_true rfl, Nat.le_of_ble_eq_true rfl⟩) (g_rModel C hW_21 hS_14 []) rfl rfl hl_23.1 rfl (lv_room (Nat.le_of_ble_eq_true rfl)) dX8_commands_13 ⟨Nat.zero_le _, Nat.zero_le _⟩) hS_14 (fun Y_25 H_26 locs_27 hW_28 hS_29 h_24 => ?_)
  obtain ⟨z_30, h_24⟩ := h_24
  replace h_24 : Y_25 = setRow (setRow (setRow (setRow (setRow (setRow (setRow (setRow X 15 w_15) 24 (X.1 24)) 16 (X.1 16)) 20 (X.1 20)) 15 (doM ((cmM (X.1 22) L 0).1) (ps w_15 ((cmM (X.1 22) L 0).2.2.2.2.1) 0) (X.1 16) (X.1 20) (X.1 21) ((cmM (X.1 22) L 0).2.1) ((cmM (X.1 22) L 0).2.2.1) ((cmM (X.1 22) L 0).2.2.2.1)).1) 24 z_30) 16 (doM ((cmM (X.1 22) L 0).1) (ps w_15 ((cmM (X.1 22) L 0).2.2.2.2.1) 0) (X.1 16) (X.1 20) (X.1 21) ((cmM (X.1 22) L 0).2.1) ((cmM (X.1 22) L 0).2.2.1) ((cmM (X.1 22) L 0).2.2.2.1)).2.1) 20 (doM ((cmM (X.1 22) L 0).1) (ps w_15 ((cmM (X.1 22) L 0).2.2.2.2.1) 0) (X.1 16) (X.1 20) (X.1 21) ((cmM (X.1 22) L 0).2.1) ((cmM (X.1 22) L 0).2.2.1) ((cmM (X.1 22) L 0).2.2.2.1)).2.2 := h_24
  obtain ⟨k_31, a_32, b_33, c_34, p_35, w_36, hd_37⟩ : ∃ q1 q2 q3 q4 q5 q6, cmM (X.1 22) L 0 = (q1, (q2, (q3, (q4, (q5, q6))))) := ⟨_, _, _, _, _, _, rfl⟩
  rw [hd_37] at h_24
  have hp_35 := cmM_le (show 0 ≤ L by omega) hL hd_37
  replace h_24 : Y_25 = setRow (setRow (setRow (setRow (setRow (setRow (setRow (setRow X 15 w_15) 24 (X.1 24)) 16 (X.1 16)) 20 (X.1 20)) 15 (doM k_31 (ps w_15 p_35 0) (X.1 16) (X.1 20) (X.1 21) a_32 b_33 c_34).1) 24 z_30) 16 (doM k_31 (ps w_15 p_35 0) (X.1 16) (X.1 20) (X.1 21) a_32 b_33 c_34).2.1) 20 (doM k_31 (ps w_15 p_35 0) (X.1 16) (X.1 20) (X.1 21) a_32 b_33 c_34).2.2 := h_24
  have hbw_36 : w_36 = 0 := by have := (csM_c hok); rw [hd_37] at this; exact this
  rw [hbw_36] at hd_37
  replace h_24 : Y_25 = setRow (setRow (setRow (setRow (setRow (setRow (setRow (setRow X 15 w_15) 24 (X.1 24)) 16 (X.1 16)) 20 (X.1 20)) 15 ((doM k_31 (ps w_15 p_35 0) (X.1 16) (X.1 20) (X.1 21) a_32 b_33 c_34).1)) 24 z_30) 16 ((doM k_31 (ps w_15 p_35 0) (X.1 16) (X.1 20) (X.1 21) a_32 b_33 c_34).2.1)) 20 ((doM k_31 (ps w_15 p_35 0) (X.1 16) (X.1 20) (X.1 21) a_32 b_33 c_34).2.2) := h_24
  obtain ⟨w_38, ew_38⟩ : ∃ Z9, Z9 = (doM k_31 (ps w_15 p_35 0) (X.1 16) (X.1 20) (X.1 21) a_32 b_33 c_34).1 := ⟨_, rfl⟩
  obtain ⟨w_39, ew_39⟩ : ∃ Z9, Z9 = z_30 := ⟨_, rfl⟩
  obtain ⟨w_40, ew_40⟩ : ∃ Z9, Z9 = (doM k_31 (ps w_15 p_35 0) (X.1 16) (X.1 20) (X.1 21) a_32 b_33 c_34).2.1 := ⟨_, rfl⟩
  obtain ⟨w_41, ew_41⟩ : ∃ Z9, Z9 = (doM k_31 (ps w_15 p_35 0) (X.1 16) (X.1 20) (X.1 21) a_32 b_33 c_34).2.2 := ⟨_, rfl⟩
  have qqw_38 : Y_25 = setRow (setRow (setRow (setRow (setRow (setRow (setRow (setRow X 15 w_15) 24 (X.1 24)) 16 (X.1 16)) 20 (X.1 20)) 15 w_38) 24 w_39) 16 w_40) 20 w_41 := by rw [h_24, ew_38, ew_39, ew_40, ew_41]
  have hW_42 : Wd G (setRow (setRow (setRow (setRow X 15 w_38) 24 w_39) 16 w_40) 20 w_41) H_26 := Wd.cast (((((qqw_38).trans (congrArg (fun Z9 => setRow (setRow (setRow (Z9) 24 w_39) 16 w_40) 20 w_41) (sr_in (by decide) (sr_in (by decide) (sr_in (by decide) sr_out))))).trans (congrArg (fun Z9 => setRow (setRow (Z9) 16 w_40) 20 w_41) (sr_in (by decide) (sr_in (by decide) sr_out)))).trans (congrArg (fun Z9 => setRow (Z9) 20 w_41) (sr_in (by decide) sr_out))).trans (congrArg (fun Z9 => Z9) sr_out)) hW_28
  have kn_43 : w_38 (6) = nI p_35 := by rw [ew_38, doM_o (by decide)]; exact ps_6
  have kn_44 : w_38 (7) = nI L := by rw [ew_38, doM_o (by decide)]; exact (ps_o (by decide) (by decide)).trans kn_16
  have kn_45 : w_38 (9) = 0 := by rw [ew_38, doM_o (by decide)]; exact ps_9
  have kn_46 : w_38 (10) = 1 := by rw [ew_38, doM_o (by decide)]; exact (ps_o (by decide) (by decide)).trans kn_18
  have hm_47 : MInv w_40 := by rw [ew_40]; exact hMd _ _ _ _ _ _ _ hm (cmM_k hd_37)
  refine lv_aload_n hx hb dX8_commands_16 rfl (lv_at hl_23 1 rfl) ?_
  refine gM_isWrong C hW_42 (hwc hwX8) (mc qw_1496) dX8_commands_17 ?_
  refine g_top (y := w_38 (9)) (congrFun (rd_in (by decide) (rd_in (by decide) (rd_in (by decide) rd_out))) _) ?_
  refine g_top (y := 0) kn_45 ?_
  refine lv_if_ne (tgt := 64) hx hb dX8_commands_20 (by decide) (fun h9 => absurd h9 (by decide)) (fun _ => ?_)
  have loop : ∀ (q : Nat) (kk nn : Nat) (yy zz vv pp : Nat → Int32) (H : Heap) (locs : List Loc) (ls : Array Slot), L ≤ kk + q → kk ≤ L → nn + q = 61 → cdL (X.1 22) L (X.1 21) q kk nn (yy, (vv, pp)) = cdM (X.1 22) L (X.1 21) (X.1 15) (X.1 16) (X.1 20) → (csL (X.1 22) L q kk nn).2.1 = 0 → yy (6) = nI kk → yy (7) = nI L → yy (9) = 0 → yy (10) = 1 → MInv vv → Wd G (setRow (setRow (setRow (setRow X 15 yy) 24 zz) 16 vv) 20 pp) H → va_S (Ab G) s.heap H locs → lv_has ls 2 [(1, .int (nI nn)), (0, .ref (ad G 723))] → W p l e (rmz 6 139) s m ([.ref (ad G 723)] : List Value).toArray below meth c H locs 0 0 (MQ below (Ki G (fun res Y => res = nI (cdM (X.1 22) L (X.1 21) (X.1 15) (X.1 16) (X.1 20)).1 ∧ ∃ z1, Y = setRow (setRow (setRow (setRow X 15 (cdM (X.1 22) L (X.1 21) (X.1 15) (X.1 16) (X.1 20)).2.1) 24 z1) 16 (cdM (X.1 22) L (X.1 21) (X.1 15) (X.1 16) (X.1 20)).2.2.1) 20 (cdM (X.1 22) L (X.1 21) (X.1 15) (X.1 16) (X.1 20)).2.2.2)) ([.ref (ad G 723)] : List Value).toArray s 0 0 (Ab G)) (F0 m 23 ls []) := by
    intro q
    induction q with
    | zero =>
      intro kk nn yy zz vv pp H locs ls hq hkL hnn hf hok9 hy6 hy7 hy9 hy10 hmz hW hS hl
      have e8 : cdM (X.1 22) L (X.1 21) (X.1 15) (X.1 16) (X.1 20) = (nn, (yy, (vv, pp))) := hf.symm
      refine lv_aload_n hx hb dX8_commands_23 rfl (lv_at hl 1 rfl) ?_
      refine gM_thrown C hW (hwc hwX8) (mc qw_1476) dX8_commands_24 ?_
      refine g_top (y := yy (0)) (congrFun (rd_in (by decide) (rd_in (by decide) (rd_in (by decide) rd_out))) _) ?_
      refine lv_if_ne (tgt := 64) hx hb dX8_commands_27 (by decide) (fun b_48 => ?_) (fun b_48 => ?_)
      · refine lv_iload_n hx hb dX8_commands_64 rfl (lv_at hl 0 rfl) ?_
        exact g_iret C hr hlk hW hS dX8_commands_65 (by rw [e8]; exact ⟨rfl, _, rfl⟩)
      · refine lv_aload_n hx hb dX8_commands_30 rfl (lv_at hl 1 rfl) ?_
        refine gM_here C hW (hwc hwX8) (mc qw_1493) dX8_commands_31 ?_
        refine g_top (y := yy (6)) (congrFun (rd_in (by decide) (rd_in (by decide) (rd_in (by decide) rd_out))) _) ?_
        refine g_top (y := nI kk) hy6 ?_
        refine lv_aload_n hx hb dX8_commands_34 rfl (lv_at hl 1 rfl) ?_
        refine gM_end C hW (hwc hwX8) (mc qw_1494) dX8_commands_35 ?_
        refine g_top (y := yy (7)) (congrFun (rd_in (by decide) (rd_in (by decide) (rd_in (by decide) rd_out))) _) ?_
        refine g_top (y := nI L) hy7 ?_
        refine lv_icmp_ge (tgt := 64) hx hb dX8_commands_38 (by decide) (fun _ => ?_) (fun h9 => absurd (nI_le (a := L) (b := kk) (by omega) (by omega)) h9)
        refine lv_iload_n hx hb dX8_commands_64 rfl (lv_at hl 0 rfl) ?_
        exact g_iret C hr hlk hW hS dX8_commands_65 (by rw [e8]; exact ⟨rfl, _, rfl⟩)
    | succ q ih =>
      intro kk nn yy zz vv pp H locs ls hq hkL hnn hf hok9 hy6 hy7 hy9 hy10 hmz hW hS hl
      refine lv_aload_n hx hb dX8_commands_23 rfl (lv_at hl 1 rfl) ?_
      refine gM_thrown C hW (hwc hwX8) (mc qw_1476) dX8_commands_24 ?_
      refine g_top (y := yy (0)) (congrFun (rd_in (by decide) (rd_in (by decide) (rd_in (by decide) rd_out))) _) ?_
      refine lv_if_ne (tgt := 64) hx hb dX8_commands_27 (by decide) (fun b_49 => ?_) (fun b_49 => ?_)
      · refine lv_iload_n hx hb dX8_commands_64 rfl (lv_at hl 0 rfl) ?_
        exact g_iret C hr hlk hW hS dX8_commands_65 (by have e8 : cdM (X.1 22) L (X.1 21) (X.1 15) (X.1 16) (X.1 20) = (nn, (yy, (vv, pp))) := (by rw [cdL] at hf; simp only [b_49, if_true, if_false] at hf; exact hf.symm); rw [e8]; exact ⟨rfl, _, rfl⟩)
      · refine lv_aload_n hx hb dX8_commands_30 rfl (lv_at hl 1 rfl) ?_
        refine gM_here C hW (hwc hwX8) (mc qw_1493) dX8_commands_31 ?_
        refine g_top (y := yy (6)) (congrFun (rd_in (by decide) (rd_in (by decide) (rd_in (by decide) rd_out))) _) ?_
        refine g_top (y := nI kk) hy6 ?_
        refine lv_aload_n hx hb dX8_commands_34 rfl (lv_at hl 1 rfl) ?_
        refine gM_end C hW (hwc hwX8) (mc qw_1494) dX8_commands_35 ?_
        refine g_top (y := yy (7)) (congrFun (rd_in (by decide) (rd_in (by decide) (rd_in (by decide) rd_out))) _) ?_
        refine g_top (y := nI L) hy7 ?_
        refine lv_icmp_ge (tgt := 64) hx hb dX8_commands_38 (by decide) (fun b_50 => ?_) (fun b_50 => ?_)
        · have fb_50 : L ≤ kk := (nI_leI (a := L) (b := kk) (by omega) (by omega)).mp b_50
          refine lv_iload_n hx hb dX8_commands_64 rfl (lv_at hl 0 rfl) ?_
          exact g_iret C hr hlk hW hS dX8_commands_65 (by have e8 : cdM (X.1 22) L (X.1 21) (X.1 15) (X.1 16) (X.1 20) = (nn, (yy, (vv, pp))) := (by rw [cdL] at hf; simp only [eq_true b_49, fb_50, if_true, if_false] at hf; exact hf.symm); rw [e8]; exact ⟨rfl, _, rfl⟩)
        · have fb_50 : ¬ L ≤ kk := fun q9 => b_50 ((nI_leI (a := L) (b := kk) (by omega) (by omega)).mpr q9)
          refine lv_aload_n hx hb dX8_commands_41 rfl (lv_at hl 1 rfl) ?_
          refine lv_bipush (v := 59) hx hb dX8_commands_42 (by decide) ?_
          refine g_callv (va_runV (As := [.int 59]) (rest := []) C.1 (cX8_mark_ok l G (setRow (setRow (setRow (setRow X 15 yy) 24 zz) 16 vv) 20 pp) kk L (show kk ≤ L by omega) hL hy6 hy7 hy9 59 (by decide)) (cwV 1 C.1.2.2.2.2 (gV qw_1911 qw_1913 qw_67 qw_81 qw_1914) rfl rfl rfl (by decide +kernel) ⟨Nat.le_of_ble_eq_true rfl, Nat.le_of_ble_eq_true rfl⟩) (g_rModel C hW hS [.int 59]) rfl rfl hl.1 rfl (lv_room (Nat.le_of_ble_eq_true rfl)) dX8_commands_44 ⟨Nat.zero_le _, Nat.zero_le _⟩) hS (fun Y_52 H_53 locs_54 hW_55 hS_56 h_51 => ?_)
          replace h_51 : Y_52 = setRow (setRow (setRow (setRow (setRow X 15 yy) 24 zz) 16 vv) 20 pp) 15 (ps yy (if sgM (X.1 22) L kk = 59 then kk + 1 else kk) (if sgM (X.1 22) L kk = 59 then 0 else 1)) := h_51
          have b_57 : sgM (X.1 22) L kk = 59 := (csL_ok hok9 fb_50).1
          rw [if_pos b_57, if_pos b_57] at h_51
          have hb_57 : kk < L := sg_lt b_57 (by decide)
          replace h_51 : Y_52 = setRow (setRow (setRow (setRow (setRow X 15 yy) 24 zz) 16 vv) 20 pp) 15 (ps yy (kk + 1) 0) := h_51
          obtain ⟨w_58, ew_58⟩ : ∃ Z9, Z9 = ps yy (kk + 1) 0 := ⟨_, rfl⟩
          have qqw_58 : Y_52 = setRow (setRow (setRow (setRow (setRow X 15 yy) 24 zz) 16 vv) 20 pp) 15 w_58 := by rw [h_51, ew_58]
          have hW_59 : Wd G (setRow (setRow (setRow (setRow X 15 w_58) 24 zz) 16 vv) 20 pp) H_53 := Wd.cast ((qqw_58).trans (congrArg (fun Z9 => Z9) (sr_in (by decide) (sr_in (by decide) (sr_in (by decide) sr_out))))) hW_55
          have kn_60 : w_58 (7) = nI L := by rw [ew_58]; exact (ps_o (by decide) (by decide)).trans hy7
          have kn_61 : w_58 (10) = 1 := by rw [ew_58]; exact (ps_o (by decide) (by decide)).trans hy10
          have kn_62 : w_58 (6) = nI (kk + 1) := by rw [ew_58]; exact ps_6
          have kn_63 : w_58 (9) = 0 := by rw [ew_58]; exact ps_9
          refine lv_aload_n hx hb dX8_commands_47 rfl (lv_at hl 1 rfl) ?_
          refine gM_isWrong C hW_59 (hwc hwX8) (mc qw_1496) dX8_commands_48 ?_
          refine g_top (y := w_58 (9)) (congrFun (rd_in (by decide) (rd_in (by decide) (rd_in (by decide) rd_out))) _) ?_
          refine g_top (y := 0) kn_63 ?_
          refine lv_if_ne (tgt := 58) hx hb dX8_commands_51 (by decide) (fun h9 => absurd h9 (by decide)) (fun _ => ?_)
          refine lv_aload_n hx hb dX8_commands_54 rfl (lv_at hl 1 rfl) ?_
          refine g_callv (va_runV (As := []) (rest := []) C.1 (cX8_command1_ok l G (setRow (setRow (setRow (setRow X 15 w_58) 24 zz) 16 vv) 20 pp) (kk + 1) L (show kk + 1 ≤ L by omega) hL kn_62 kn_60 kn_63 hwd kn_61 hmz (csL_ok hok9 fb_50).2.1) (cwV 0 C.1.2.2.2.2 (gV qw_1891 qw_1893 qw_62 qw_81 qw_1894) rfl rfl rfl (by decide +kernel) ⟨Nat.le_of_ble_eq_true rfl, Nat.le_of_ble_eq_true rfl⟩) (g_rModel C hW_59 hS_56 []) rfl rfl hl.1 rfl (lv_room (Nat.le_of_ble_eq_true rfl)) dX8_commands_55 ⟨Nat.zero_le _, Nat.zero_le _⟩) hS_56 (fun Y_65 H_66 locs_67 hW_68 hS_69 h_64 => ?_)
          obtain ⟨z_70, h_64⟩ := h_64
          replace h_64 : Y_65 = setRow (setRow (setRow (setRow (setRow (setRow (setRow (setRow X 15 w_58) 24 zz) 16 vv) 20 pp) 15 (doM ((cmM (X.1 22) L (kk + 1)).1) (ps w_58 ((cmM (X.1 22) L (kk + 1)).2.2.2.2.1) 0) vv pp (X.1 21) ((cmM (X.1 22) L (kk + 1)).2.1) ((cmM (X.1 22) L (kk + 1)).2.2.1) ((cmM (X.1 22) L (kk + 1)).2.2.2.1)).1) 24 z_70) 16 (doM ((cmM (X.1 22) L (kk + 1)).1) (ps w_58 ((cmM (X.1 22) L (kk + 1)).2.2.2.2.1) 0) vv pp (X.1 21) ((cmM (X.1 22) L (kk + 1)).2.1) ((cmM (X.1 22) L (kk + 1)).2.2.1) ((cmM (X.1 22) L (kk + 1)).2.2.2.1)).2.1) 20 (doM ((cmM (X.1 22) L (kk + 1)).1) (ps w_58 ((cmM (X.1 22) L (kk + 1)).2.2.2.2.1) 0) vv pp (X.1 21) ((cmM (X.1 22) L (kk + 1)).2.1) ((cmM (X.1 22) L (kk + 1)).2.2.1) ((cmM (X.1 22) L (kk + 1)).2.2.2.1)).2.2 := h_64
          obtain ⟨k_71, a_72, b_73, c_74, p_75, w_76, hd_77⟩ : ∃ q1 q2 q3 q4 q5 q6, cmM (X.1 22) L (kk + 1) = (q1, (q2, (q3, (q4, (q5, q6))))) := ⟨_, _, _, _, _, _, rfl⟩
          rw [hd_77] at h_64
          have hp_75 := cmM_le (show kk + 1 ≤ L by omega) hL hd_77
          replace h_64 : Y_65 = setRow (setRow (setRow (setRow (setRow (setRow (setRow (setRow X 15 w_58) 24 zz) 16 vv) 20 pp) 15 (doM k_71 (ps w_58 p_75 0) vv pp (X.1 21) a_72 b_73 c_74).1) 24 z_70) 16 (doM k_71 (ps w_58 p_75 0) vv pp (X.1 21) a_72 b_73 c_74).2.1) 20 (doM k_71 (ps w_58 p_75 0) vv pp (X.1 21) a_72 b_73 c_74).2.2 := h_64
          have hbw_76 : w_76 = 0 := by have := (csL_ok hok9 fb_50).2.1; rw [hd_77] at this; exact this
          rw [hbw_76] at hd_77
          replace h_64 : Y_65 = setRow (setRow (setRow (setRow (setRow (setRow (setRow (setRow X 15 w_58) 24 zz) 16 vv) 20 pp) 15 ((doM k_71 (ps w_58 p_75 0) vv pp (X.1 21) a_72 b_73 c_74).1)) 24 z_70) 16 ((doM k_71 (ps w_58 p_75 0) vv pp (X.1 21) a_72 b_73 c_74).2.1)) 20 ((doM k_71 (ps w_58 p_75 0) vv pp (X.1 21) a_72 b_73 c_74).2.2) := h_64
          obtain ⟨w_78, ew_78⟩ : ∃ Z9, Z9 = (doM k_71 (ps w_58 p_75 0) vv pp (X.1 21) a_72 b_73 c_74).1 := ⟨_, rfl⟩
          obtain ⟨w_79, ew_79⟩ : ∃ Z9, Z9 = z_70 := ⟨_, rfl⟩
          obtain ⟨w_80, ew_80⟩ : ∃ Z9, Z9 = (doM k_71 (ps w_58 p_75 0) vv pp (X.1 21) a_72 b_73 c_74).2.1 := ⟨_, rfl⟩
          obtain ⟨w_81, ew_81⟩ : ∃ Z9, Z9 = (doM k_71 (ps w_58 p_75 0) vv pp (X.1 21) a_72 b_73 c_74).2.2 := ⟨_, rfl⟩
          have qqw_78 : Y_65 = setRow (setRow (setRow (setRow (setRow (setRow (setRow (setRow X 15 w_58) 24 zz) 16 vv) 20 pp) 15 w_78) 24 w_79) 16 w_80) 20 w_81 := by rw [h_64, ew_78, ew_79, ew_80, ew_81]
          have hW_82 : Wd G (setRow (setRow (setRow (setRow X 15 w_78) 24 w_79) 16 w_80) 20 w_81) H_66 := Wd.cast (((((qqw_78).trans (congrArg (fun Z9 => setRow (setRow (setRow (Z9) 24 w_79) 16 w_80) 20 w_81) (sr_in (by decide) (sr_in (by decide) (sr_in (by decide) sr_out))))).trans (congrArg (fun Z9 => setRow (setRow (Z9) 16 w_80) 20 w_81) (sr_in (by decide) (sr_in (by decide) sr_out)))).trans (congrArg (fun Z9 => setRow (Z9) 20 w_81) (sr_in (by decide) sr_out))).trans (congrArg (fun Z9 => Z9) sr_out)) hW_68
          have kn_83 : w_78 (6) = nI p_75 := by rw [ew_78, doM_o (by decide)]; exact ps_6
          have kn_84 : w_78 (7) = nI L := by rw [ew_78, doM_o (by decide)]; exact (ps_o (by decide) (by decide)).trans kn_60
          have kn_85 : w_78 (9) = 0 := by rw [ew_78, doM_o (by decide)]; exact ps_9
          have kn_86 : w_78 (10) = 1 := by rw [ew_78, doM_o (by decide)]; exact (ps_o (by decide) (by decide)).trans kn_61
          have hm_87 : MInv w_80 := by rw [ew_80]; exact hMd _ _ _ _ _ _ _ hmz (cmM_k hd_77)
          refine lv_iinc (v := nI (nn + 1)) (lv' := [(1, .int (nI (nn + 1))), (0, .ref (ad G 723))]) hx hb dX8_commands_58 hl (k := 0) rfl (nI_1 nn) (by decide) rfl (fun ls_88 hl_89 => ?_)
          refine lv_goto (tgt := 16) hx hb dX8_commands_61 (by decide) ?_
          refine lv_aload_n hx hb dX8_commands_16 rfl (lv_at hl_89 1 rfl) ?_
          refine gM_isWrong C hW_82 (hwc hwX8) (mc qw_1496) dX8_commands_17 ?_
          refine g_top (y := w_78 (9)) (congrFun (rd_in (by decide) (rd_in (by decide) (rd_in (by decide) rd_out))) _) ?_
          refine g_top (y := 0) kn_85 ?_
          refine lv_if_ne (tgt := 64) hx hb dX8_commands_20 (by decide) (fun h9 => absurd h9 (by decide)) (fun _ => ?_)
          exact ih p_75 (nn + 1) w_78 w_79 w_80 w_81 H_66 locs_67 ls_88 (by omega) (by omega) (by omega) (by rw [cdL] at hf; simp only [eq_true b_49, fb_50, hd_77, if_true, if_false] at hf; subst ew_81; subst ew_80; subst ew_79; subst ew_78; subst ew_58; simp only [ps_ps]; exact hf) (by have := (csL_ok hok9 fb_50).2.2; rw [hd_77] at this; exact this) kn_83 kn_84 kn_85 kn_86 hm_87 hW_82 hS_69 (lv_sub hl_89 [0, 1] rfl)
  exact loop 60 p_35 1 w_38 w_39 w_40 w_41 H_26 locs_27 ls_22 (by omega) (by omega) (by omega) (by unfold cdM; simp only [hd_37]; subst ew_41; subst ew_40; subst ew_39; subst ew_38; subst ew_15; subst ew_5; simp only [show upd (upd (X.1 15) (6) 0) (9) 0 = ps (X.1 15) 0 0 from rfl, ps_ps]) (csM_ok hok hd_37) kn_43 kn_44 kn_45 kn_46 hm_47 hW_42 hS_29 (lv_sub hl_23 [0, 1] rfl)

set_option maxHeartbeats 4000000 in
set_option maxRecDepth 100000 in
theorem cX8_runScript1_ok (l : Launch) (G : GT) (X : St) (L : Nat) (hL : L ≤ 60) (eL : X.1 15 5 = nI L) (hwd : WdOk (X.1 25) (X.1 26)) (p1 n1 : Nat) (hcs : csM (X.1 22) L = (p1, (1, n1))) : MetI l G yX8_runScript (wsG yX8_runScript cX8_runScript 2 (some .int)) (rmz 5 112) [.ref (ad G 723)] X (fun res Y => res = 0 ∧ ∃ z1, Y = setRow (setRow (setRow X 15 (upd (upd (ps (upd (upd (upd (upd (X.1 15) 0 0) 7 (nI L)) 5 0) 10 0) p1 1) 2 (nI p1)) 0 1)) 24 z1) 17 (cpT 128 (X.1 17) (X.1 16))) := by
  refine g_met (cc := cX8_runScript) (maxL := 2) (ret := (some .int)) (by decide) rfl (Nat.le_of_ble_eq_true rfl) ?_
  intro p e s m below meth c ls C hr hlk hnm hW hl
  have hx := C.1.1
  have hb := C.1.2.1
  have hS : va_S (Ab G) s.heap s.heap [] := va_S.rf
  have hl : lv_has ls 2 [(0, .ref (ad G 723))] := hl
  have hW : Wd G (setRow (setRow (setRow (X) 15 (X.1 15)) 24 (X.1 24)) 17 (X.1 17)) s.heap := Wd.cast ((((sr_same (X := setRow (setRow (X) 15 (X.1 15)) 24 (X.1 24)) (r := 17) rfl).trans (sr_same (X := setRow (X) 15 (X.1 15)) (r := 24) rfl)).trans (sr_same (X := X) (r := 15) rfl))).symm hW
  refine lv_aload_n hx hb dX8_runScript_0 rfl (lv_at hl 0 rfl) ?_
  refine g_callv (va_runV (As := []) (rest := []) C.1 (cX8_begins_ok l G (setRow (setRow (setRow X 15 (X.1 15)) 24 (X.1 24)) 17 (X.1 17))) (cwV 0 C.1.2.2.2.2 (gV qw_1551 qw_1553 qw_29 qw_81 qw_1554) rfl rfl rfl (by decide +kernel) ⟨Nat.le_of_ble_eq_true rfl, Nat.le_of_ble_eq_true rfl⟩) (g_rModel C hW hS []) rfl rfl hl.1 rfl (lv_room (Nat.le_of_ble_eq_true rfl)) dX8_runScript_1 ⟨Nat.zero_le _, Nat.zero_le _⟩) hS (fun Y_2 H_3 locs_4 hW_5 hS_6 h_1 => ?_)
  replace h_1 : Y_2 = setRow (setRow (setRow (setRow (setRow X 15 (X.1 15)) 24 (X.1 24)) 17 (X.1 17)) 15 ((oM_begins (X.1 15) (X.1 16) (X.1 17)).1)) 17 ((oM_begins (X.1 15) (X.1 16) (X.1 17)).2) := h_1
  obtain ⟨w_7, ew_7⟩ : ∃ Z9, Z9 = (oM_begins (X.1 15) (X.1 16) (X.1 17)).1 := ⟨_, rfl⟩
  obtain ⟨w_8, ew_8⟩ : ∃ Z9, Z9 = (oM_begins (X.1 15) (X.1 16) (X.1 17)).2 := ⟨_, rfl⟩
  have qqw_7 : Y_2 = setRow (setRow (setRow (setRow (setRow X 15 (X.1 15)) 24 (X.1 24)) 17 (X.1 17)) 15 w_7) 17 w_8 := by rw [h_1, ew_7, ew_8]
  have hW_9 : Wd G (setRow (setRow (setRow X 15 w_7) 24 (X.1 24)) 17 w_8) H_3 := Wd.cast (((qqw_7).trans (congrArg (fun Z9 => setRow (Z9) 17 w_8) (sr_in (by decide) (sr_in (by decide) sr_out)))).trans (congrArg (fun Z9 => Z9) sr_out)) hW_5
  have kn_10 : w_7 (5) = nI L := by rw [ew_7]; show upd (X.1 15) 0 0 5 = nI L; exact (pk_un (by decide)).trans eL
  have kn_11 : w_7 (0) = 0 := by rw [ew_7]; show upd (X.1 15) 0 0 0 = 0; exact pk_us
  refine lv_aload_n hx hb dX8_runScript_4 rfl (lv_at hl 0 rfl) ?_
  refine lv_aload_n hx hb dX8_runScript_5 rfl (lv_at hl 0 rfl) ?_
  refine gM_textN C hW_9 (hwc hwX8) (mc qw_1492) dX8_runScript_6 ?_
  refine g_top (y := w_7 (5)) (congrFun (rd_in (by decide) (rd_in (by decide) rd_out)) _) ?_
  refine g_top (y := nI L) kn_10 ?_
  refine gM_endP C hW_9 hS_6 (hwc hwX8) (mc qw_1494) dX8_runScript_9 (fun H_12 locs_13 hW_14 hS_15 => ?_)
  obtain ⟨w_16, ew_16⟩ : ∃ Z9, Z9 = upd w_7 (7) (nI L) := ⟨_, rfl⟩
  have kn_17 : w_16 (5) = nI L := by rw [ew_16]; exact (pk_un (by omega)).trans kn_10
  have kn_18 : w_16 (0) = 0 := by rw [ew_16]; exact (pk_un (by omega)).trans kn_11
  have kn_19 : w_16 (7) = nI L := by rw [ew_16]; exact pk_us
  have hW_20 : Wd G (setRow (setRow (setRow X 15 w_16) 24 (X.1 24)) 17 w_8) H_12 := Wd.cast (by rw [ew_16]; exact (st_in (by decide) (st_in (by decide) st_out))) hW_14
  refine lv_aload_n hx hb dX8_runScript_12 rfl (lv_at hl 0 rfl) ?_
  refine lv_iconst (v := 0) hx hb dX8_runScript_13 (by decide) ?_
  refine gM_textNP C hW_20 hS_15 (hwc hwX8) (mc qw_1492) dX8_runScript_14 (fun H_21 locs_22 hW_23 hS_24 => ?_)
  obtain ⟨w_25, ew_25⟩ : ∃ Z9, Z9 = upd w_16 (5) 0 := ⟨_, rfl⟩
  have kn_26 : w_25 (0) = 0 := by rw [ew_25]; exact (pk_un (by omega)).trans kn_18
  have kn_27 : w_25 (7) = nI L := by rw [ew_25]; exact (pk_un (by omega)).trans kn_19
  have kn_28 : w_25 (5) = 0 := by rw [ew_25]; exact pk_us
  have hW_29 : Wd G (setRow (setRow (setRow X 15 w_25) 24 (X.1 24)) 17 w_8) H_21 := Wd.cast (by rw [ew_25]; exact (st_in (by decide) (st_in (by decide) st_out))) hW_23
  refine lv_aload_n hx hb dX8_runScript_17 rfl (lv_at hl 0 rfl) ?_
  refine lv_iconst (v := 0) hx hb dX8_runScript_18 (by decide) ?_
  refine gM_isDoingP C hW_29 hS_24 (hwc hwX8) (mc qw_1497) rfl rfl dX8_runScript_19 (fun H_30 locs_31 hW_32 hS_33 => ?_)
  obtain ⟨w_34, ew_34⟩ : ∃ Z9, Z9 = upd w_25 (10) 0 := ⟨_, rfl⟩
  have kn_35 : w_34 (0) = 0 := by rw [ew_34]; exact (pk_un (by omega)).trans kn_26
  have kn_36 : w_34 (7) = nI L := by rw [ew_34]; exact (pk_un (by omega)).trans kn_27
  have kn_37 : w_34 (5) = 0 := by rw [ew_34]; exact (pk_un (by omega)).trans kn_28
  have kn_38 : w_34 (10) = 0 := by rw [ew_34]; exact pk_us
  have hW_39 : Wd G (setRow (setRow (setRow X 15 w_34) 24 (X.1 24)) 17 w_8) H_30 := Wd.cast (by rw [ew_34]; exact (st_in (by decide) (st_in (by decide) st_out))) hW_32
  refine lv_aload_n hx hb dX8_runScript_22 rfl (lv_at hl 0 rfl) ?_
  refine g_calli (va_runV (As := []) (rest := []) C.1 (cX8_commands0_ok l G (setRow (setRow (setRow X 15 w_34) 24 (X.1 24)) 17 w_8) L hL kn_36 kn_35 hwd kn_38) (cwV 0 C.1.2.2.2.2 (gV qw_1887 qw_1889 qw_61 qw_81 qw_1890) rfl rfl rfl (by decide +kernel) ⟨Nat.le_of_ble_eq_true rfl, Nat.le_of_ble_eq_true rfl⟩) (g_rModel C hW_39 hS_33 []) rfl rfl hl.1 rfl (lv_room (Nat.le_of_ble_eq_true rfl)) dX8_runScript_23 ⟨Nat.zero_le _, Nat.zero_le _⟩) hS_33 (fun r_41 Y_42 H_43 locs_44 hW_45 hS_46 h_40 => ?_)
  obtain ⟨h_48, z_47, h_40⟩ := h_40
  replace h_48 : r_41 = nI (csM (X.1 22) L).2.2 := h_48
  rw [hcs] at h_48
  replace h_48 : r_41 = nI n1 := h_48
  subst h_48
  replace h_40 : Y_42 = setRow (setRow (setRow (setRow (setRow X 15 w_34) 24 (X.1 24)) 17 w_8) 15 (ps w_34 (csM (X.1 22) L).1 (csM (X.1 22) L).2.1)) 24 z_47 := h_40
  rw [hcs] at h_40
  replace h_40 : Y_42 = setRow (setRow (setRow (setRow (setRow X 15 w_34) 24 (X.1 24)) 17 w_8) 15 (ps w_34 p1 1)) 24 z_47 := h_40
  replace h_40 : Y_42 = setRow (setRow (setRow (setRow (setRow X 15 w_34) 24 (X.1 24)) 17 w_8) 15 (ps w_34 p1 1)) 24 z_47 := h_40
  obtain ⟨w_49, ew_49⟩ : ∃ Z9, Z9 = ps w_34 p1 1 := ⟨_, rfl⟩
  obtain ⟨w_50, ew_50⟩ : ∃ Z9, Z9 = z_47 := ⟨_, rfl⟩
  have qqw_49 : Y_42 = setRow (setRow (setRow (setRow (setRow X 15 w_34) 24 (X.1 24)) 17 w_8) 15 w_49) 24 w_50 := by rw [h_40, ew_49, ew_50]
  have hW_51 : Wd G (setRow (setRow (setRow X 15 w_49) 24 w_50) 17 w_8) H_43 := Wd.cast (((qqw_49).trans (congrArg (fun Z9 => setRow (Z9) 24 w_50) (sr_in (by decide) (sr_in (by decide) sr_out)))).trans (congrArg (fun Z9 => Z9) (sr_in (by decide) sr_out))) hW_45
  have kn_52 : w_49 (7) = nI L := by rw [ew_49]; exact (ps_o (by decide) (by decide)).trans kn_36
  have kn_53 : w_49 (10) = 0 := by rw [ew_49]; exact (ps_o (by decide) (by decide)).trans kn_38
  have kn_54 : w_49 (0) = 0 := by rw [ew_49]; exact (ps_o (by decide) (by decide)).trans kn_35
  have kn_55 : w_49 (6) = nI p1 := by rw [ew_49]; exact ps_6
  have kn_56 : w_49 (9) = 1 := by rw [ew_49]; exact ps_9
  refine lv_topi (fun v_57 ev_57 => ?_)
  refine lv_istore_n (lv' := [(1, .int v_57), (0, .ref (ad G 723))]) hx hb dX8_runScript_26 rfl hl (by decide) rfl (fun ls_58 hl_59 => ?_)
  refine lv_aload_n hx hb dX8_runScript_27 rfl (lv_at hl_59 1 rfl) ?_
  refine gM_isWrong C hW_51 (hwc hwX8) (mc qw_1496) dX8_runScript_28 ?_
  refine g_top (y := w_49 (9)) (congrFun (rd_in (by decide) (rd_in (by decide) rd_out)) _) ?_
  refine g_top (y := 1) kn_56 ?_
  refine lv_if_eq (tgt := 48) hx hb dX8_runScript_31 (by decide) (fun h9 => absurd h9 (by decide)) (fun _ => ?_)
  refine lv_aload_n hx hb dX8_runScript_34 rfl (lv_at hl_59 1 rfl) ?_
  refine lv_aload_n hx hb dX8_runScript_35 rfl (lv_at hl_59 1 rfl) ?_
  refine gM_here C hW_51 (hwc hwX8) (mc qw_1493) dX8_runScript_36 ?_
  refine g_top (y := w_49 (6)) (congrFun (rd_in (by decide) (rd_in (by decide) rd_out)) _) ?_
  refine g_top (y := nI p1) kn_55 ?_
  refine gM_errorAtP C hW_51 hS_46 (hwc hwX8) (mc qw_1478) dX8_runScript_39 (fun H_60 locs_61 hW_62 hS_63 => ?_)
  obtain ⟨w_64, ew_64⟩ : ∃ Z9, Z9 = upd w_49 (2) (nI p1) := ⟨_, rfl⟩
  have kn_65 : w_64 (7) = nI L := by rw [ew_64]; exact (pk_un (by omega)).trans kn_52
  have kn_66 : w_64 (10) = 0 := by rw [ew_64]; exact (pk_un (by omega)).trans kn_53
  have kn_67 : w_64 (0) = 0 := by rw [ew_64]; exact (pk_un (by omega)).trans kn_54
  have kn_68 : w_64 (6) = nI p1 := by rw [ew_64]; exact (pk_un (by omega)).trans kn_55
  have kn_69 : w_64 (9) = 1 := by rw [ew_64]; exact (pk_un (by omega)).trans kn_56
  have kn_70 : w_64 (2) = nI p1 := by rw [ew_64]; exact pk_us
  have hW_71 : Wd G (setRow (setRow (setRow X 15 w_64) 24 w_50) 17 w_8) H_60 := Wd.cast (by rw [ew_64]; exact (st_in (by decide) (st_in (by decide) st_out))) hW_62
  refine lv_aload_n hx hb dX8_runScript_42 rfl (lv_at hl_59 1 rfl) ?_
  refine lv_iconst (v := 1) hx hb dX8_runScript_43 (by decide) ?_
  refine g_calli (va_runV (As := [.int 1]) (rest := []) C.1 (cX8_fail_ok l G (setRow (setRow (setRow X 15 w_64) 24 w_50) 17 w_8) 1) (cwV 1 C.1.2.2.2.2 (gV qw_1571 qw_1573 qw_31 qw_81 qw_1574) rfl rfl rfl (by decide +kernel) ⟨Nat.le_of_ble_eq_true rfl, Nat.le_of_ble_eq_true rfl⟩) (g_rModel C hW_71 hS_63 [.int 1]) rfl rfl hl_59.1 rfl (lv_room (Nat.le_of_ble_eq_true rfl)) dX8_runScript_44 ⟨Nat.zero_le _, Nat.zero_le _⟩) hS_63 (fun r_73 Y_74 H_75 locs_76 hW_77 hS_78 h_72 => ?_)
  obtain ⟨h_79, h_72⟩ := h_72
  replace h_79 : r_73 = (oM_fail w_64 1).1 := h_79
  subst h_79
  replace h_72 : Y_74 = setRow (setRow (setRow (setRow X 15 w_64) 24 w_50) 17 w_8) 15 ((oM_fail w_64 1).2) := h_72
  obtain ⟨w_80, ew_80⟩ : ∃ Z9, Z9 = (oM_fail w_64 1).2 := ⟨_, rfl⟩
  have qqw_80 : Y_74 = setRow (setRow (setRow (setRow X 15 w_64) 24 w_50) 17 w_8) 15 w_80 := by rw [h_72, ew_80]
  have hW_81 : Wd G (setRow (setRow (setRow X 15 w_80) 24 w_50) 17 w_8) H_75 := Wd.cast ((qqw_80).trans (congrArg (fun Z9 => Z9) (sr_in (by decide) (sr_in (by decide) sr_out)))) hW_77
  exact g_iret C hr hlk hW_81 hS_78 dX8_runScript_47 (by subst ew_80; subst ew_64; subst ev_57; subst ew_50; subst ew_49; subst ew_34; subst ew_25; subst ew_16; subst ew_8; subst ew_7; exact ⟨rfl, _, rfl⟩)

set_option maxHeartbeats 4000000 in
set_option maxRecDepth 100000 in
theorem cX8_runScript0_ok (l : Launch) (G : GT) (X : St) (L : Nat) (hL : L ≤ 60) (eL : X.1 15 5 = nI L) (hwd : WdOk (X.1 25) (X.1 26)) (p1 n1 : Nat) (cg : Nat) (hc : cg ≤ 8) (ec : X.1 15 1 = nI cg) (hm : MInv (X.1 16)) (hMd : ∀ (k : Nat) (w15 w16 w20 : Nat → Int32) (a b c_ : Int32), MInv w16 → (k = 0 → ∃ j, j < 4 ∧ b = nI j) → MInv (doM k w15 w16 w20 (X.1 21) a b c_).2.1) (hcs : csM (X.1 22) L = (p1, (0, n1))) : MetI l G yX8_runScript (wsG yX8_runScript cX8_runScript 2 (some .int)) (rmz 7 160) [.ref (ad G 723)] X (fun res Y => res = (oM_ends (rsF (cdM (X.1 22) L (X.1 21) (upd (ps (upd (upd (upd (upd (X.1 15) 0 0) 7 (nI L)) 5 0) 10 0) p1 0) 10 1) (X.1 16) (X.1 20))) (cdM (X.1 22) L (X.1 21) (upd (ps (upd (upd (upd (upd (X.1 15) 0 0) 7 (nI L)) 5 0) 10 0) p1 0) 10 1) (X.1 16) (X.1 20)).2.2.1 (cpT 128 (X.1 17) (X.1 16)) (X.1 19) (nI (cdM (X.1 22) L (X.1 21) (upd (ps (upd (upd (upd (upd (X.1 15) 0 0) 7 (nI L)) 5 0) 10 0) p1 0) 10 1) (X.1 16) (X.1 20)).1)).1 ∧ ∃ z1, Y = setRow (setRow (setRow (setRow (setRow (setRow X 15 (oM_ends (rsF (cdM (X.1 22) L (X.1 21) (upd (ps (upd (upd (upd (upd (X.1 15) 0 0) 7 (nI L)) 5 0) 10 0) p1 0) 10 1) (X.1 16) (X.1 20))) (cdM (X.1 22) L (X.1 21) (upd (ps (upd (upd (upd (upd (X.1 15) 0 0) 7 (nI L)) 5 0) 10 0) p1 0) 10 1) (X.1 16) (X.1 20)).2.2.1 (cpT 128 (X.1 17) (X.1 16)) (X.1 19) (nI (cdM (X.1 22) L (X.1 21) (upd (ps (upd (upd (upd (upd (X.1 15) 0 0) 7 (nI L)) 5 0) 10 0) p1 0) 10 1) (X.1 16) (X.1 20)).1)).2.1) 24 z1) 17 (cpT 128 (X.1 17) (X.1 16))) 16 (oM_ends (rsF (cdM (X.1 22) L (X.1 21) (upd (ps (upd (upd (upd (upd (X.1 15) 0 0) 7 (nI L)) 5 0) 10 0) p1 0) 10 1) (X.1 16) (X.1 20))) (cdM (X.1 22) L (X.1 21) (upd (ps (upd (upd (upd (upd (X.1 15) 0 0) 7 (nI L)) 5 0) 10 0) p1 0) 10 1) (X.1 16) (X.1 20)).2.2.1 (cpT 128 (X.1 17) (X.1 16)) (X.1 19) (nI (cdM (X.1 22) L (X.1 21) (upd (ps (upd (upd (upd (upd (X.1 15) 0 0) 7 (nI L)) 5 0) 10 0) p1 0) 10 1) (X.1 16) (X.1 20)).1)).2.2.1) 20 (cdM (X.1 22) L (X.1 21) (upd (ps (upd (upd (upd (upd (X.1 15) 0 0) 7 (nI L)) 5 0) 10 0) p1 0) 10 1) (X.1 16) (X.1 20)).2.2.2) 19 (oM_ends (rsF (cdM (X.1 22) L (X.1 21) (upd (ps (upd (upd (upd (upd (X.1 15) 0 0) 7 (nI L)) 5 0) 10 0) p1 0) 10 1) (X.1 16) (X.1 20))) (cdM (X.1 22) L (X.1 21) (upd (ps (upd (upd (upd (upd (X.1 15) 0 0) 7 (nI L)) 5 0) 10 0) p1 0) 10 1) (X.1 16) (X.1 20)).2.2.1 (cpT 128 (X.1 17) (X.1 16)) (X.1 19) (nI (cdM (X.1 22) L (X.1 21) (upd (ps (upd (upd (upd (upd (X.1 15) 0 0) 7 (nI L)) 5 0) 10 0) p1 0) 10 1) (X.1 16) (X.1 20)).1)).2.2.2) := by
  refine g_met (cc := cX8_runScript) (maxL := 2) (ret := (some .int)) (by decide) rfl (Nat.le_of_ble_eq_true rfl) ?_
  intro p e s m below meth c ls C hr hlk hnm hW hl
  have hx := C.1.1
  have hb := C.1.2.1
  have hS : va_S (Ab G) s.heap s.heap [] := va_S.rf
  have hl : lv_has ls 2 [(0, .ref (ad G 723))] := hl
  have hW : Wd G (setRow (setRow (setRow (setRow (setRow (setRow (X) 15 (X.1 15)) 24 (X.1 24)) 17 (X.1 17)) 16 (X.1 16)) 20 (X.1 20)) 19 (X.1 19)) s.heap := Wd.cast (((((((sr_same (X := setRow (setRow (setRow (setRow (setRow (X) 15 (X.1 15)) 24 (X.1 24)) 17 (X.1 17)) 16 (X.1 16)) 20 (X.1 20)) (r := 19) rfl).trans (sr_same (X := setRow (setRow (setRow (setRow (X) 15 (X.1 15)) 24 (X.1 24)) 17 (X.1 17)) 16 (X.1 16)) (r := 20) rfl)).trans (sr_same (X := setRow (setRow (setRow (X) 15 (X.1 15)) 24 (X.1 24)) 17 (X.1 17)) (r := 16) rfl)).trans (sr_same (X := setRow (setRow (X) 15 (X.1 15)) 24 (X.1 24)) (r := 17) rfl)).trans (sr_same (X := setRow (X) 15 (X.1 15)) (r := 24) rfl)).trans (sr_same (X := X) (r := 15) rfl))).symm hW
  refine lv_aload_n hx hb dX8_runScript_0 rfl (lv_at hl 0 rfl) ?_
  refine g_callv (va_runV (As := []) (rest := []) C.1 (cX8_begins_ok l G (setRow (setRow (setRow (setRow (setRow (setRow X 15 (X.1 15)) 24 (X.1 24)) 17 (X.1 17)) 16 (X.1 16)) 20 (X.1 20)) 19 (X.1 19))) (cwV 0 C.1.2.2.2.2 (gV qw_1551 qw_1553 qw_29 qw_81 qw_1554) rfl rfl rfl (by decide +kernel) ⟨Nat.le_of_ble_eq_true rfl, Nat.le_of_ble_eq_true rfl⟩) (g_rModel C hW hS []) rfl rfl hl.1 rfl (lv_room (Nat.le_of_ble_eq_true rfl)) dX8_runScript_1 ⟨Nat.zero_le _, Nat.zero_le _⟩) hS (fun Y_2 H_3 locs_4 hW_5 hS_6 h_1 => ?_)
  replace h_1 : Y_2 = setRow (setRow (setRow (setRow (setRow (setRow (setRow (setRow X 15 (X.1 15)) 24 (X.1 24)) 17 (X.1 17)) 16 (X.1 16)) 20 (X.1 20)) 19 (X.1 19)) 15 ((oM_begins (X.1 15) (X.1 16) (X.1 17)).1)) 17 ((oM_begins (X.1 15) (X.1 16) (X.1 17)).2) := h_1
  obtain ⟨w_7, ew_7⟩ : ∃ Z9, Z9 = (oM_begins (X.1 15) (X.1 16) (X.1 17)).1 := ⟨_, rfl⟩
  obtain ⟨w_8, ew_8⟩ : ∃ Z9, Z9 = (oM_begins (X.1 15) (X.1 16) (X.1 17)).2 := ⟨_, rfl⟩
  have qqw_7 : Y_2 = setRow (setRow (setRow (setRow (setRow (setRow (setRow (setRow X 15 (X.1 15)) 24 (X.1 24)) 17 (X.1 17)) 16 (X.1 16)) 20 (X.1 20)) 19 (X.1 19)) 15 w_7) 17 w_8 := by rw [h_1, ew_7, ew_8]
  have hW_9 : Wd G (setRow (setRow (setRow (setRow (setRow (setRow X 15 w_7) 24 (X.1 24)) 17 w_8) 16 (X.1 16)) 20 (X.1 20)) 19 (X.1 19)) H_3 := Wd.cast (((qqw_7).trans (congrArg (fun Z9 => setRow (Z9) 17 w_8) (sr_in (by decide) (sr_in (by decide) (sr_in (by decide) (sr_in (by decide) (sr_in (by decide) sr_out))))))).trans (congrArg (fun Z9 => Z9) (sr_in (by decide) (sr_in (by decide) (sr_in (by decide) sr_out))))) hW_5
  have kn_10 : w_7 (5) = nI L := by rw [ew_7]; show upd (X.1 15) 0 0 5 = nI L; exact (pk_un (by decide)).trans eL
  have kn_11 : w_7 (1) = nI cg := by rw [ew_7]; show upd (X.1 15) 0 0 1 = nI cg; exact (pk_un (by decide)).trans ec
  have kn_12 : w_7 (0) = 0 := by rw [ew_7]; show upd (X.1 15) 0 0 0 = 0; exact pk_us
  refine lv_aload_n hx hb dX8_runScript_4 rfl (lv_at hl 0 rfl) ?_
  refine lv_aload_n hx hb dX8_runScript_5 rfl (lv_at hl 0 rfl) ?_
  refine gM_textN C hW_9 (hwc hwX8) (mc qw_1492) dX8_runScript_6 ?_
  refine g_top (y := w_7 (5)) (congrFun (rd_in (by decide) (rd_in (by decide) (rd_in (by decide) (rd_in (by decide) (rd_in (by decide) rd_out))))) _) ?_
  refine g_top (y := nI L) kn_10 ?_
  refine gM_endP C hW_9 hS_6 (hwc hwX8) (mc qw_1494) dX8_runScript_9 (fun H_13 locs_14 hW_15 hS_16 => ?_)
  obtain ⟨w_17, ew_17⟩ : ∃ Z9, Z9 = upd w_7 (7) (nI L) := ⟨_, rfl⟩
  have kn_18 : w_17 (5) = nI L := by rw [ew_17]; exact (pk_un (by omega)).trans kn_10
  have kn_19 : w_17 (1) = nI cg := by rw [ew_17]; exact (pk_un (by omega)).trans kn_11
  have kn_20 : w_17 (0) = 0 := by rw [ew_17]; exact (pk_un (by omega)).trans kn_12
  have kn_21 : w_17 (7) = nI L := by rw [ew_17]; exact pk_us
  have hW_22 : Wd G (setRow (setRow (setRow (setRow (setRow (setRow X 15 w_17) 24 (X.1 24)) 17 w_8) 16 (X.1 16)) 20 (X.1 20)) 19 (X.1 19)) H_13 := Wd.cast (by rw [ew_17]; exact (st_in (by decide) (st_in (by decide) (st_in (by decide) (st_in (by decide) (st_in (by decide) st_out)))))) hW_15
  refine lv_aload_n hx hb dX8_runScript_12 rfl (lv_at hl 0 rfl) ?_
  refine lv_iconst (v := 0) hx hb dX8_runScript_13 (by decide) ?_
  refine gM_textNP C hW_22 hS_16 (hwc hwX8) (mc qw_1492) dX8_runScript_14 (fun H_23 locs_24 hW_25 hS_26 => ?_)
  obtain ⟨w_27, ew_27⟩ : ∃ Z9, Z9 = upd w_17 (5) 0 := ⟨_, rfl⟩
  have kn_28 : w_27 (1) = nI cg := by rw [ew_27]; exact (pk_un (by omega)).trans kn_19
  have kn_29 : w_27 (0) = 0 := by rw [ew_27]; exact (pk_un (by omega)).trans kn_20
  have kn_30 : w_27 (7) = nI L := by rw [ew_27]; exact (pk_un (by omega)).trans kn_21
  have kn_31 : w_27 (5) = 0 := by rw [ew_27]; exact pk_us
  have hW_32 : Wd G (setRow (setRow (setRow (setRow (setRow (setRow X 15 w_27) 24 (X.1 24)) 17 w_8) 16 (X.1 16)) 20 (X.1 20)) 19 (X.1 19)) H_23 := Wd.cast (by rw [ew_27]; exact (st_in (by decide) (st_in (by decide) (st_in (by decide) (st_in (by decide) (st_in (by decide) st_out)))))) hW_25
  refine lv_aload_n hx hb dX8_runScript_17 rfl (lv_at hl 0 rfl) ?_
  refine lv_iconst (v := 0) hx hb dX8_runScript_18 (by decide) ?_
  refine gM_isDoingP C hW_32 hS_26 (hwc hwX8) (mc qw_1497) rfl rfl dX8_runScript_19 (fun H_33 locs_34 hW_35 hS_36 => ?_)
  obtain ⟨w_37, ew_37⟩ : ∃ Z9, Z9 = upd w_27 (10) 0 := ⟨_, rfl⟩
  have kn_38 : w_37 (1) = nI cg := by rw [ew_37]; exact (pk_un (by omega)).trans kn_28
  have kn_39 : w_37 (0) = 0 := by rw [ew_37]; exact (pk_un (by omega)).trans kn_29
  have kn_40 : w_37 (7) = nI L := by rw [ew_37]; exact (pk_un (by omega)).trans kn_30
  have kn_41 : w_37 (5) = 0 := by rw [ew_37]; exact (pk_un (by omega)).trans kn_31
  have kn_42 : w_37 (10) = 0 := by rw [ew_37]; exact pk_us
  have hW_43 : Wd G (setRow (setRow (setRow (setRow (setRow (setRow X 15 w_37) 24 (X.1 24)) 17 w_8) 16 (X.1 16)) 20 (X.1 20)) 19 (X.1 19)) H_33 := Wd.cast (by rw [ew_37]; exact (st_in (by decide) (st_in (by decide) (st_in (by decide) (st_in (by decide) (st_in (by decide) st_out)))))) hW_35
  refine lv_aload_n hx hb dX8_runScript_22 rfl (lv_at hl 0 rfl) ?_
  refine g_calli (va_runV (As := []) (rest := []) C.1 (cX8_commands0_ok l G (setRow (setRow (setRow (setRow (setRow (setRow X 15 w_37) 24 (X.1 24)) 17 w_8) 16 (X.1 16)) 20 (X.1 20)) 19 (X.1 19)) L hL kn_40 kn_39 hwd kn_42) (cwV 0 C.1.2.2.2.2 (gV qw_1887 qw_1889 qw_61 qw_81 qw_1890) rfl rfl rfl (by decide +kernel) ⟨Nat.le_of_ble_eq_true rfl, Nat.le_of_ble_eq_true rfl⟩) (g_rModel C hW_43 hS_36 []) rfl rfl hl.1 rfl (lv_room (Nat.le_of_ble_eq_true rfl)) dX8_runScript_23 ⟨Nat.zero_le _, Nat.zero_le _⟩) hS_36 (fun r_45 Y_46 H_47 locs_48 hW_49 hS_50 h_44 => ?_)
  obtain ⟨h_52, z_51, h_44⟩ := h_44
  replace h_52 : r_45 = nI (csM (X.1 22) L).2.2 := h_52
  rw [hcs] at h_52
  replace h_52 : r_45 = nI n1 := h_52
  subst h_52
  replace h_44 : Y_46 = setRow (setRow (setRow (setRow (setRow (setRow (setRow (setRow X 15 w_37) 24 (X.1 24)) 17 w_8) 16 (X.1 16)) 20 (X.1 20)) 19 (X.1 19)) 15 (ps w_37 (csM (X.1 22) L).1 (csM (X.1 22) L).2.1)) 24 z_51 := h_44
  rw [hcs] at h_44
  replace h_44 : Y_46 = setRow (setRow (setRow (setRow (setRow (setRow (setRow (setRow X 15 w_37) 24 (X.1 24)) 17 w_8) 16 (X.1 16)) 20 (X.1 20)) 19 (X.1 19)) 15 (ps w_37 p1 0)) 24 z_51 := h_44
  replace h_44 : Y_46 = setRow (setRow (setRow (setRow (setRow (setRow (setRow (setRow X 15 w_37) 24 (X.1 24)) 17 w_8) 16 (X.1 16)) 20 (X.1 20)) 19 (X.1 19)) 15 (ps w_37 p1 0)) 24 z_51 := h_44
  obtain ⟨w_53, ew_53⟩ : ∃ Z9, Z9 = ps w_37 p1 0 := ⟨_, rfl⟩
  obtain ⟨w_54, ew_54⟩ : ∃ Z9, Z9 = z_51 := ⟨_, rfl⟩
  have qqw_53 : Y_46 = setRow (setRow (setRow (setRow (setRow (setRow (setRow (setRow X 15 w_37) 24 (X.1 24)) 17 w_8) 16 (X.1 16)) 20 (X.1 20)) 19 (X.1 19)) 15 w_53) 24 w_54 := by rw [h_44, ew_53, ew_54]
  have hW_55 : Wd G (setRow (setRow (setRow (setRow (setRow (setRow X 15 w_53) 24 w_54) 17 w_8) 16 (X.1 16)) 20 (X.1 20)) 19 (X.1 19)) H_47 := Wd.cast (((qqw_53).trans (congrArg (fun Z9 => setRow (Z9) 24 w_54) (sr_in (by decide) (sr_in (by decide) (sr_in (by decide) (sr_in (by decide) (sr_in (by decide) sr_out))))))).trans (congrArg (fun Z9 => Z9) (sr_in (by decide) (sr_in (by decide) (sr_in (by decide) (sr_in (by decide) sr_out)))))) hW_49
  have kn_56 : w_53 (7) = nI L := by rw [ew_53]; exact (ps_o (by decide) (by decide)).trans kn_40
  have kn_57 : w_53 (10) = 0 := by rw [ew_53]; exact (ps_o (by decide) (by decide)).trans kn_42
  have kn_58 : w_53 (0) = 0 := by rw [ew_53]; exact (ps_o (by decide) (by decide)).trans kn_39
  have kn_59 : w_53 (1) = nI cg := by rw [ew_53]; exact (ps_o (by decide) (by decide)).trans kn_38
  have kn_60 : w_53 (6) = nI p1 := by rw [ew_53]; exact ps_6
  have kn_61 : w_53 (9) = 0 := by rw [ew_53]; exact ps_9
  refine lv_topi (fun v_62 ev_62 => ?_)
  refine lv_istore_n (lv' := [(1, .int v_62), (0, .ref (ad G 723))]) hx hb dX8_runScript_26 rfl hl (by decide) rfl (fun ls_63 hl_64 => ?_)
  refine lv_aload_n hx hb dX8_runScript_27 rfl (lv_at hl_64 1 rfl) ?_
  refine gM_isWrong C hW_55 (hwc hwX8) (mc qw_1496) dX8_runScript_28 ?_
  refine g_top (y := w_53 (9)) (congrFun (rd_in (by decide) (rd_in (by decide) (rd_in (by decide) (rd_in (by decide) (rd_in (by decide) rd_out))))) _) ?_
  refine g_top (y := 0) kn_61 ?_
  refine lv_if_eq (tgt := 48) hx hb dX8_runScript_31 (by decide) (fun _ => ?_) (fun h9 => absurd h9 (by decide))
  refine lv_aload_n hx hb dX8_runScript_48 rfl (lv_at hl_64 1 rfl) ?_
  refine lv_iconst (v := 1) hx hb dX8_runScript_49 (by decide) ?_
  refine gM_isDoingP C hW_55 hS_50 (hwc hwX8) (mc qw_1497) rfl rfl dX8_runScript_50 (fun H_65 locs_66 hW_67 hS_68 => ?_)
  obtain ⟨w_69, ew_69⟩ : ∃ Z9, Z9 = upd w_53 (10) 1 := ⟨_, rfl⟩
  have kn_70 : w_69 (7) = nI L := by rw [ew_69]; exact (pk_un (by omega)).trans kn_56
  have kn_71 : w_69 (0) = 0 := by rw [ew_69]; exact (pk_un (by omega)).trans kn_58
  have kn_72 : w_69 (1) = nI cg := by rw [ew_69]; exact (pk_un (by omega)).trans kn_59
  have kn_73 : w_69 (6) = nI p1 := by rw [ew_69]; exact (pk_un (by omega)).trans kn_60
  have kn_74 : w_69 (9) = 0 := by rw [ew_69]; exact (pk_un (by omega)).trans kn_61
  have kn_75 : w_69 (10) = 1 := by rw [ew_69]; exact pk_us
  have hW_76 : Wd G (setRow (setRow (setRow (setRow (setRow (setRow X 15 w_69) 24 w_54) 17 w_8) 16 (X.1 16)) 20 (X.1 20)) 19 (X.1 19)) H_65 := Wd.cast (by rw [ew_69]; exact (st_in (by decide) (st_in (by decide) (st_in (by decide) (st_in (by decide) (st_in (by decide) st_out)))))) hW_67
  refine lv_aload_n hx hb dX8_runScript_53 rfl (lv_at hl_64 1 rfl) ?_
  refine g_calli (va_runV (As := []) (rest := []) C.1 (cX8_commands1_ok l G (setRow (setRow (setRow (setRow (setRow (setRow X 15 w_69) 24 w_54) 17 w_8) 16 (X.1 16)) 20 (X.1 20)) 19 (X.1 19)) L hL kn_70 kn_71 hwd kn_75 hm hMd (by show (csM (X.1 22) L).2.1 = 0; rw [hcs])) (cwV 0 C.1.2.2.2.2 (gV qw_1887 qw_1889 qw_61 qw_81 qw_1890) rfl rfl rfl (by decide +kernel) ⟨Nat.le_of_ble_eq_true rfl, Nat.le_of_ble_eq_true rfl⟩) (g_rModel C hW_76 hS_68 []) rfl rfl hl_64.1 rfl (lv_room (Nat.le_of_ble_eq_true rfl)) dX8_runScript_54 ⟨Nat.zero_le _, Nat.zero_le _⟩) hS_68 (fun r_78 Y_79 H_80 locs_81 hW_82 hS_83 h_77 => ?_)
  obtain ⟨h_85, z_84, h_77⟩ := h_77
  replace h_85 : r_78 = nI (cdM (X.1 22) L (X.1 21) w_69 (X.1 16) (X.1 20)).1 := h_85
  subst h_85
  replace h_77 : Y_79 = setRow (setRow (setRow (setRow (setRow (setRow (setRow (setRow (setRow (setRow X 15 w_69) 24 w_54) 17 w_8) 16 (X.1 16)) 20 (X.1 20)) 19 (X.1 19)) 15 (cdM (X.1 22) L (X.1 21) w_69 (X.1 16) (X.1 20)).2.1) 24 z_84) 16 (cdM (X.1 22) L (X.1 21) w_69 (X.1 16) (X.1 20)).2.2.1) 20 (cdM (X.1 22) L (X.1 21) w_69 (X.1 16) (X.1 20)).2.2.2 := h_77
  replace h_77 : Y_79 = setRow (setRow (setRow (setRow (setRow (setRow (setRow (setRow (setRow (setRow X 15 w_69) 24 w_54) 17 w_8) 16 (X.1 16)) 20 (X.1 20)) 19 (X.1 19)) 15 ((cdM (X.1 22) L (X.1 21) w_69 (X.1 16) (X.1 20)).2.1)) 24 z_84) 16 ((cdM (X.1 22) L (X.1 21) w_69 (X.1 16) (X.1 20)).2.2.1)) 20 ((cdM (X.1 22) L (X.1 21) w_69 (X.1 16) (X.1 20)).2.2.2) := h_77
  obtain ⟨w_86, ew_86⟩ : ∃ Z9, Z9 = (cdM (X.1 22) L (X.1 21) w_69 (X.1 16) (X.1 20)).2.1 := ⟨_, rfl⟩
  obtain ⟨w_87, ew_87⟩ : ∃ Z9, Z9 = z_84 := ⟨_, rfl⟩
  obtain ⟨w_88, ew_88⟩ : ∃ Z9, Z9 = (cdM (X.1 22) L (X.1 21) w_69 (X.1 16) (X.1 20)).2.2.1 := ⟨_, rfl⟩
  obtain ⟨w_89, ew_89⟩ : ∃ Z9, Z9 = (cdM (X.1 22) L (X.1 21) w_69 (X.1 16) (X.1 20)).2.2.2 := ⟨_, rfl⟩
  have qqw_86 : Y_79 = setRow (setRow (setRow (setRow (setRow (setRow (setRow (setRow (setRow (setRow X 15 w_69) 24 w_54) 17 w_8) 16 (X.1 16)) 20 (X.1 20)) 19 (X.1 19)) 15 w_86) 24 w_87) 16 w_88) 20 w_89 := by rw [h_77, ew_86, ew_87, ew_88, ew_89]
  have hW_90 : Wd G (setRow (setRow (setRow (setRow (setRow (setRow X 15 w_86) 24 w_87) 17 w_8) 16 w_88) 20 w_89) 19 (X.1 19)) H_80 := Wd.cast (((((qqw_86).trans (congrArg (fun Z9 => setRow (setRow (setRow (Z9) 24 w_87) 16 w_88) 20 w_89) (sr_in (by decide) (sr_in (by decide) (sr_in (by decide) (sr_in (by decide) (sr_in (by decide) sr_out))))))).trans (congrArg (fun Z9 => setRow (setRow (Z9) 16 w_88) 20 w_89) (sr_in (by decide) (sr_in (by decide) (sr_in (by decide) (sr_in (by decide) sr_out)))))).trans (congrArg (fun Z9 => setRow (Z9) 20 w_89) (sr_in (by decide) (sr_in (by decide) sr_out)))).trans (congrArg (fun Z9 => Z9) (sr_in (by decide) sr_out))) hW_82
  have kn_91 : w_86 (1) = nI cg := by rw [ew_86, cdM_o (by decide) (by decide) (by decide)]; exact kn_72
  refine lv_topi (fun v_92 ev_92 => ?_)
  refine lv_istore_n (lv' := [(1, .int v_92), (0, .ref (ad G 723))]) hx hb dX8_runScript_57 rfl hl_64 (by decide) rfl (fun ls_93 hl_94 => ?_)
  refine lv_aload_n hx hb dX8_runScript_58 rfl (lv_at hl_94 1 rfl) ?_
  refine gM_thrown C hW_90 (hwc hwX8) (mc qw_1476) dX8_runScript_59 ?_
  refine g_top (y := w_86 (0)) (congrFun (rd_in (by decide) (rd_in (by decide) (rd_in (by decide) (rd_in (by decide) (rd_in (by decide) rd_out))))) _) ?_
  refine lv_if_eq (tgt := 77) hx hb dX8_runScript_62 (by decide) (fun b_95 => ?_) (fun b_95 => ?_)
  · refine lv_aload_n hx hb dX8_runScript_77 rfl (lv_at hl_94 1 rfl) ?_
    refine lv_iload_n hx hb dX8_runScript_78 rfl (lv_at hl_94 0 rfl) ?_
    refine g_calli (va_runV (As := [.int v_92]) (rest := []) C.1 (cX8_ends_ok l G (setRow (setRow (setRow (setRow (setRow (setRow X 15 w_86) 24 w_87) 17 w_8) 16 w_88) 20 w_89) 19 (X.1 19)) v_92 cg hc kn_91) (cwV 1 C.1.2.2.2.2 (gV qw_1591 qw_1593 qw_36 qw_81 qw_1594) rfl rfl rfl (by decide +kernel) ⟨Nat.le_of_ble_eq_true rfl, Nat.le_of_ble_eq_true rfl⟩) (g_rModel C hW_90 hS_83 [.int v_92]) rfl rfl hl_94.1 rfl (lv_room (Nat.le_of_ble_eq_true rfl)) dX8_runScript_79 ⟨Nat.zero_le _, Nat.zero_le _⟩) hS_83 (fun r_97 Y_98 H_99 locs_100 hW_101 hS_102 h_96 => ?_)
    obtain ⟨h_103, h_96⟩ := h_96
    replace h_103 : r_97 = (oM_ends w_86 w_88 w_8 (X.1 19) v_92).1 := h_103
    subst h_103
    replace h_96 : Y_98 = setRow (setRow (setRow (setRow (setRow (setRow (setRow (setRow (setRow X 15 w_86) 24 w_87) 17 w_8) 16 w_88) 20 w_89) 19 (X.1 19)) 15 ((oM_ends w_86 w_88 w_8 (X.1 19) v_92).2.1)) 16 ((oM_ends w_86 w_88 w_8 (X.1 19) v_92).2.2.1)) 19 ((oM_ends w_86 w_88 w_8 (X.1 19) v_92).2.2.2) := h_96
    obtain ⟨w_104, ew_104⟩ : ∃ Z9, Z9 = (oM_ends w_86 w_88 w_8 (X.1 19) v_92).2.1 := ⟨_, rfl⟩
    obtain ⟨w_105, ew_105⟩ : ∃ Z9, Z9 = (oM_ends w_86 w_88 w_8 (X.1 19) v_92).2.2.1 := ⟨_, rfl⟩
    obtain ⟨w_106, ew_106⟩ : ∃ Z9, Z9 = (oM_ends w_86 w_88 w_8 (X.1 19) v_92).2.2.2 := ⟨_, rfl⟩
    have qqw_104 : Y_98 = setRow (setRow (setRow (setRow (setRow (setRow (setRow (setRow (setRow X 15 w_86) 24 w_87) 17 w_8) 16 w_88) 20 w_89) 19 (X.1 19)) 15 w_104) 16 w_105) 19 w_106 := by rw [h_96, ew_104, ew_105, ew_106]
    have hW_107 : Wd G (setRow (setRow (setRow (setRow (setRow (setRow X 15 w_104) 24 w_87) 17 w_8) 16 w_105) 20 w_89) 19 w_106) H_99 := Wd.cast ((((qqw_104).trans (congrArg (fun Z9 => setRow (setRow (Z9) 16 w_105) 19 w_106) (sr_in (by decide) (sr_in (by decide) (sr_in (by decide) (sr_in (by decide) (sr_in (by decide) sr_out))))))).trans (congrArg (fun Z9 => setRow (Z9) 19 w_106) (sr_in (by decide) (sr_in (by decide) sr_out)))).trans (congrArg (fun Z9 => Z9) sr_out)) hW_101
    exact g_iret C hr hlk hW_107 hS_102 dX8_runScript_82 (by subst ew_106; subst ew_105; subst ew_104; subst ev_92; subst ew_89; subst ew_88; subst ew_87; subst ew_86; subst ew_69; subst ev_62; subst ew_54; subst ew_53; subst ew_37; subst ew_27; subst ew_17; subst ew_8; subst ew_7; have e9 : rsF (cdM (X.1 22) L (X.1 21) (upd (ps (upd (upd (upd (upd (X.1 15) 0 0) 7 (nI L)) 5 0) 10 0) p1 0) 10 1) (X.1 16) (X.1 20)) = _ := if_pos b_95; rw [e9]; exact ⟨rfl, _, rfl⟩)
  · refine lv_aload_n hx hb dX8_runScript_65 rfl (lv_at hl_94 1 rfl) ?_
    refine lv_iload_n hx hb dX8_runScript_66 rfl (lv_at hl_94 0 rfl) ?_
    refine lv_iconst (v := 1) hx hb dX8_runScript_67 (by decide) ?_
    refine lv_isub hx hb dX8_runScript_68 ?_
    refine gM_failedAtP C hW_90 hS_83 (hwc hwX8) (mc qw_1479) dX8_runScript_69 (fun H_108 locs_109 hW_110 hS_111 => ?_)
    obtain ⟨w_112, ew_112⟩ : ∃ Z9, Z9 = upd w_86 (3) (v_92 - 1) := ⟨_, rfl⟩
    have kn_113 : w_112 (1) = nI cg := by rw [ew_112]; exact (pk_un (by omega)).trans kn_91
    have hW_114 : Wd G (setRow (setRow (setRow (setRow (setRow (setRow X 15 w_112) 24 w_87) 17 w_8) 16 w_88) 20 w_89) 19 (X.1 19)) H_108 := Wd.cast (by rw [ew_112]; exact (st_in (by decide) (st_in (by decide) (st_in (by decide) (st_in (by decide) (st_in (by decide) st_out)))))) hW_110
    refine lv_aload_n hx hb dX8_runScript_72 rfl (lv_at hl_94 1 rfl) ?_
    refine lv_iconst (v := 2) hx hb dX8_runScript_73 (by decide) ?_
    refine gM_thrownP C hW_114 hS_111 (hwc hwX8) (mc qw_1476) dX8_runScript_74 (fun H_115 locs_116 hW_117 hS_118 => ?_)
    obtain ⟨w_119, ew_119⟩ : ∃ Z9, Z9 = upd w_112 (0) 2 := ⟨_, rfl⟩
    have kn_120 : w_119 (1) = nI cg := by rw [ew_119]; exact (pk_un (by omega)).trans kn_113
    have kn_121 : w_119 (0) = 2 := by rw [ew_119]; exact pk_us
    have hW_122 : Wd G (setRow (setRow (setRow (setRow (setRow (setRow X 15 w_119) 24 w_87) 17 w_8) 16 w_88) 20 w_89) 19 (X.1 19)) H_115 := Wd.cast (by rw [ew_119]; exact (st_in (by decide) (st_in (by decide) (st_in (by decide) (st_in (by decide) (st_in (by decide) st_out)))))) hW_117
    refine lv_aload_n hx hb dX8_runScript_77 rfl (lv_at hl_94 1 rfl) ?_
    refine lv_iload_n hx hb dX8_runScript_78 rfl (lv_at hl_94 0 rfl) ?_
    refine g_calli (va_runV (As := [.int v_92]) (rest := []) C.1 (cX8_ends_ok l G (setRow (setRow (setRow (setRow (setRow (setRow X 15 w_119) 24 w_87) 17 w_8) 16 w_88) 20 w_89) 19 (X.1 19)) v_92 cg hc kn_120) (cwV 1 C.1.2.2.2.2 (gV qw_1591 qw_1593 qw_36 qw_81 qw_1594) rfl rfl rfl (by decide +kernel) ⟨Nat.le_of_ble_eq_true rfl, Nat.le_of_ble_eq_true rfl⟩) (g_rModel C hW_122 hS_118 [.int v_92]) rfl rfl hl_94.1 rfl (lv_room (Nat.le_of_ble_eq_true rfl)) dX8_runScript_79 ⟨Nat.zero_le _, Nat.zero_le _⟩) hS_118 (fun r_124 Y_125 H_126 locs_127 hW_128 hS_129 h_123 => ?_)
    obtain ⟨h_130, h_123⟩ := h_123
    replace h_130 : r_124 = (oM_ends w_119 w_88 w_8 (X.1 19) v_92).1 := h_130
    subst h_130
    replace h_123 : Y_125 = setRow (setRow (setRow (setRow (setRow (setRow (setRow (setRow (setRow X 15 w_119) 24 w_87) 17 w_8) 16 w_88) 20 w_89) 19 (X.1 19)) 15 ((oM_ends w_119 w_88 w_8 (X.1 19) v_92).2.1)) 16 ((oM_ends w_119 w_88 w_8 (X.1 19) v_92).2.2.1)) 19 ((oM_ends w_119 w_88 w_8 (X.1 19) v_92).2.2.2) := h_123
    obtain ⟨w_131, ew_131⟩ : ∃ Z9, Z9 = (oM_ends w_119 w_88 w_8 (X.1 19) v_92).2.1 := ⟨_, rfl⟩
    obtain ⟨w_132, ew_132⟩ : ∃ Z9, Z9 = (oM_ends w_119 w_88 w_8 (X.1 19) v_92).2.2.1 := ⟨_, rfl⟩
    obtain ⟨w_133, ew_133⟩ : ∃ Z9, Z9 = (oM_ends w_119 w_88 w_8 (X.1 19) v_92).2.2.2 := ⟨_, rfl⟩
    have qqw_131 : Y_125 = setRow (setRow (setRow (setRow (setRow (setRow (setRow (setRow (setRow X 15 w_119) 24 w_87) 17 w_8) 16 w_88) 20 w_89) 19 (X.1 19)) 15 w_131) 16 w_132) 19 w_133 := by rw [h_123, ew_131, ew_132, ew_133]
    have hW_134 : Wd G (setRow (setRow (setRow (setRow (setRow (setRow X 15 w_131) 24 w_87) 17 w_8) 16 w_132) 20 w_89) 19 w_133) H_126 := Wd.cast ((((qqw_131).trans (congrArg (fun Z9 => setRow (setRow (Z9) 16 w_132) 19 w_133) (sr_in (by decide) (sr_in (by decide) (sr_in (by decide) (sr_in (by decide) (sr_in (by decide) sr_out))))))).trans (congrArg (fun Z9 => setRow (Z9) 19 w_133) (sr_in (by decide) (sr_in (by decide) sr_out)))).trans (congrArg (fun Z9 => Z9) sr_out)) hW_128
    exact g_iret C hr hlk hW_134 hS_129 dX8_runScript_82 (by subst ew_133; subst ew_132; subst ew_131; subst ew_119; subst ew_112; subst ev_92; subst ew_89; subst ew_88; subst ew_87; subst ew_86; subst ew_69; subst ev_62; subst ew_54; subst ew_53; subst ew_37; subst ew_27; subst ew_17; subst ew_8; subst ew_7; have e9 : rsF (cdM (X.1 22) L (X.1 21) (upd (ps (upd (upd (upd (upd (X.1 15) 0 0) 7 (nI L)) 5 0) 10 0) p1 0) 10 1) (X.1 16) (X.1 20)) = _ := if_neg b_95; rw [e9]; exact ⟨rfl, _, rfl⟩)
