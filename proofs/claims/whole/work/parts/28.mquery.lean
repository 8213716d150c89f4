/-! The reference's queries. -/
theorem qx_threeM : Cond.constantDouble "FoundryModel" 194 4613937818241073152 ∈ lw_all := lw_mem 1847 (by decide +kernel) (by decide +kernel)
def chW (x : Int32) : Int32 := (x.toUInt32 % 65536).toInt32
theorem nar_ch (x : Int32) : narrow .char (.int (chW x)) = .int (chW x) := by
  show Value.int _ = Value.int _
  refine congrArg Value.int ?_
  have e : ∀ a : UInt32, (a % 65536).toUInt16.toUInt32 = a % 65536 := fun a => UInt32.toNat_inj.mp (by
    rw [UInt16.toNat_toUInt32, UInt32.toNat_toUInt16, UInt32.toNat_mod]
    exact Nat.mod_mod _ _)
  exact congrArg UInt32.toInt32 (e x.toUInt32)
theorem nI_nn {k : Nat} (h : k < 2 ^ 31) : ¬ nI k < 0 := fun q => by
  have := (nI_ltI (a := k) (b := 0) h (by decide)).mp q
  omega
theorem kind_in {x : Int32} (h : ¬ oM_kind x < 0) : ∃ k, k < 4 ∧ oM_kind x = nI k := by
  unfold oM_kind at h ⊢
  by_cases h1 : x = 99
  · exact ⟨0, by decide, by rw [if_pos h1]; rfl⟩
  · rw [if_neg h1] at h ⊢
    by_cases h2 : x = 116
    · exact ⟨1, by decide, by rw [if_pos h2]; rfl⟩
    · rw [if_neg h2] at h ⊢
      by_cases h3 : x = 108
      · exact ⟨2, by decide, by rw [if_pos h3]; rfl⟩
      · rw [if_neg h3] at h ⊢
        by_cases h4 : x = 111
        · exact ⟨3, by decide, by rw [if_pos h4]; rfl⟩
        · rw [if_neg h4] at h
          exact absurd (by decide) h
theorem nI_ge0 {k : Nat} (h : k < 2 ^ 31) : 0 ≤ nI k := (nI_leI (a := 0) (b := k) (by decide) h).mpr (Nat.zero_le _)
theorem kind_ge {x : Int32} (h : 0 ≤ oM_kind x) : ∃ k, k < 4 ∧ oM_kind x = nI k := kind_in fun q => by
  rw [Int32.le_iff_toInt_le] at h
  rw [Int32.lt_iff_toInt_lt] at q
  omega
theorem hat_fur {x : Int32} {n : Nat} (hn : n ≤ 4) (h : ¬ oM_isThree x = 0) : ∃ i, i + n ≤ 128 ∧ oM_furnace x = nI i := by
  obtain ⟨f, hf, rfl⟩ := three_in h
  exact ⟨_, by omega, at_furnace f⟩
theorem hat_furp {x k : Int32} {j : Nat} (hj : j ≤ 5) (hk : k = nI j) (h : ¬ oM_isThree x = 0) : ∃ i, i + 1 ≤ 128 ∧ oM_furnace x + k = nI i := by
  obtain ⟨f, hf, rfl⟩ := three_in h
  exact ⟨9 + 6 * f + j, by omega, by rw [at_furnace, hk, nI_add]⟩
theorem hat_lad {x : Int32} {n : Nat} (hn : n ≤ 4) (h : ¬ oM_isThree x = 0) : ∃ i, i + n ≤ 128 ∧ oM_ladle x = nI i := by
  obtain ⟨f, hf, rfl⟩ := three_in h
  exact ⟨_, by omega, at_ladle f⟩
theorem hat_ladp {x k : Int32} {j : Nat} (hj : j ≤ 5) (hk : k = nI j) (h : ¬ oM_isThree x = 0) : ∃ i, i + 1 ≤ 128 ∧ oM_ladle x + k = nI i := by
  obtain ⟨f, hf, rfl⟩ := three_in h
  exact ⟨27 + 5 * f + j, by omega, by rw [at_ladle, hk, nI_add]⟩
theorem mou_in {w : Nat → Int32} (hm : MInv w) {x : Int32} (h : ¬ oM_isMould w x = 0) : ∃ f, f < 6 ∧ x = nI f := by
  obtain ⟨km, hkm, em, _⟩ := hm.2.2.1
  obtain ⟨f, hf, rfl⟩ := count_in (by omega) em h
  exact ⟨f, by omega, rfl⟩
theorem ing_in {w : Nat → Int32} (hm : MInv w) {x : Int32} (h : ¬ oM_isIngot w x = 0) : ∃ f, f < 12 ∧ x = nI f := by
  obtain ⟨km, hkm, em, _⟩ := hm.2.2.2.1
  obtain ⟨f, hf, rfl⟩ := count_in (by omega) em h
  exact ⟨f, by omega, rfl⟩
theorem hat_mou {w : Nat → Int32} (hm : MInv w) {x : Int32} {n : Nat} (hn : n ≤ 4) (h : ¬ oM_isMould w x = 0) : ∃ i, i + n ≤ 128 ∧ oM_mould x = nI i := by
  obtain ⟨f, hf, rfl⟩ := mou_in hm h
  exact ⟨_, by omega, at_mould f⟩
theorem hat_moup {w : Nat → Int32} (hm : MInv w) {x k : Int32} {j : Nat} (hj : j ≤ 5) (hk : k = nI j) (h : ¬ oM_isMould w x = 0) : ∃ i, i + 1 ≤ 128 ∧ oM_mould x + k = nI i := by
  obtain ⟨f, hf, rfl⟩ := mou_in hm h
  exact ⟨44 + 6 * f + j, by omega, by rw [at_mould, hk, nI_add]⟩
theorem hat_ing {w : Nat → Int32} (hm : MInv w) {x : Int32} {n : Nat} (hn : n ≤ 4) (h : ¬ oM_isIngot w x = 0) : ∃ i, i + n ≤ 128 ∧ oM_ingot x = nI i := by
  obtain ⟨f, hf, rfl⟩ := ing_in hm h
  exact ⟨_, by omega, at_ingot f⟩
def wtM (h b p : Int32) : Nat → Nat → Int32
  | 0, k => nI k
  | q + 1, k => if p ≤ h + nI k * b then nI k else wtM h b p q (k + 1)
def PtsOk (w : Nat → Int32) : Prop := w 0 = 1085 ∧ w 1 = 232 ∧ w 2 = 327 ∧ w 3 = 1200
theorem by_nat {f : Nat} (h : 0 < f) : (10 : Int32) * nI f - 5 = nI (10 * f - 5) := by
  rw [show (10 : Int32) * nI f = nI (10 * f) from pk_mul 10 f]
  exact pk_sub (a := 10 * f) (b := 5) (by omega)
theorem wt_end {x y z : Int32} {h b p k : Nat} (eh : x = nI h) (h1 : 20 ≤ h) (eb : y = nI b) (hb : 5 ≤ b) (hb2 : b ≤ 45) (ep : z = nI p) (hp : p ≤ 1200) (hk : k = 1200) (hh : h ≤ 1500) : z ≤ x + nI k * y := by
  subst eh eb ep hk
  rw [pk_mul, nI_add, nI_leI (by omega) (by omega)]
  omega
theorem fluid_mass {w p : Nat → Int32} {i : Nat} (h : ¬ oM_isFluid w p i = 0) : ¬ oM_mass w i = 0 := fun q => h (by
  unfold oM_isFluid
  rw [if_pos (by rw [q]; decide)])
theorem ing_mass {w : Nat → Int32} {ki i : Nat} (h : ∀ i, i < ki → ∃ s, 1 ≤ s ∧ s ≤ 40 ∧ MixS w (80 + 4 * i) s) (hi : i < ki) : ¬ oM_mass w (80 + 4 * i) = 0 := by
  obtain ⟨s, h1, h2, h3⟩ := h i hi
  exact nz_of h3.mass (by omega) (by omega)
theorem point_le {w p : Nat → Int32} {i : Nat} (hp : PtsOk p) (h : ∃ s, s ≤ 100 ∧ MixS w i s) (h0 : ¬ oM_mass w i = 0) : ∃ q, q ≤ 1200 ∧ oM_point w p i = nI q := by
  obtain ⟨s, hs, hm⟩ := h
  have e := hm.mass
  obtain ⟨a, b, c, d, ha, hb, hc, hd, rfl⟩ := hm
  have hs0 : 0 < a + b + c + d := Nat.pos_of_ne_zero fun q => h0 (by rw [e, q]; rfl)
  refine ⟨(a * 1085 + b * 232 + c * 327 + d * 1200) / (a + b + c + d), ?_, ?_⟩
  · exact Nat.div_le_of_le_mul (by omega)
  · have k1 : ∀ (x y : Int32) (m n : Nat), x = nI m → y = nI n → x * y = nI (m * n) := fun x y m n h1 h2 => by rw [h1, h2, pk_mul]
    have ha' : w i = nI a := ha
    unfold oM_point
    rw [e]
    rw [k1 _ _ a 1085 ha' hp.1, k1 _ _ b 232 hb hp.2.1, k1 _ _ c 327 hc hp.2.2.1, k1 _ _ d 1200 hd hp.2.2.2, nI_add, nI_add, nI_add]
    exact pk_div (by omega) hs0 (by omega)
def rkM (c : (Nat → Int32) → Nat → Nat → Nat) (w : Nat → Int32) (f : Nat) : Nat → Nat
  | 0 => 0
  | o + 1 => rkM c w f o + c w o f
def fbL (c : (Nat → Int32) → Nat → Nat → Nat) (w : Nat → Int32) (x : Int32) (n : Nat) : Nat → Nat → Option Nat
  | 0, _ => none
  | q + 1, k => if nI (rkM c w k n) = x then some k else fbL c w x n q (k + 1)
def cmF (w : Nat → Int32) (o f : Nat) : Nat :=
  if w (9 + 6 * o + 4) - w (9 + 6 * f + 4) = 0 then
    (if 0 < oM_mass w (9 + 6 * o) - oM_mass w (9 + 6 * f) then 1 else if oM_mass w (9 + 6 * o) - oM_mass w (9 + 6 * f) = 0 then (if nI f ≤ nI o then 0 else 1) else 0)
  else if 0 < w (9 + 6 * o + 4) - w (9 + 6 * f + 4) then 1 else 0
def cmI (w : Nat → Int32) (o f : Nat) : Nat :=
  if oM_mass w (80 + 4 * o) - oM_mass w (80 + 4 * f) = 0 then
    (if 0 < w (80 + 4 * o) - w (80 + 4 * f) then 1 else if w (80 + 4 * o) - w (80 + 4 * f) = 0 then (if nI f ≤ nI o then 0 else 1) else 0)
  else if 0 < oM_mass w (80 + 4 * o) - oM_mass w (80 + 4 * f) then 1 else 0
def smL (w : Nat → Int32) (b st : Nat) : Nat → Int32 → Int32
  | 0, s => s
  | n + 1, s => smL w b st n s + oM_mass w (b + st * n)
def srM (w : Nat → Int32) : UInt32 := if oM_mass w 1 = 0 then FP.fconst0 else rateF (oM_mass w 5) (oM_mass w 1)
def oM_tells (w15 : Nat → Int32) (w16 : Nat → Int32) (b : Int32) (aa : Int32) (letter : Int32) : Int32 × (Nat → Int32) := if b = 0 then (0, (upd (w15) (0) 1)) else (if 0 ≤ oM_kind letter then (w16 (aa.toNatClampNeg + ((oM_kind letter).toNatClampNeg)), (upd (w15) (0) 0)) else (0, (upd (w15) (0) 2)))
set_option maxHeartbeats 4000000 in
set_option maxRecDepth 100000 in
theorem cX8_tells_ok (l : Launch) (G : GT) (X : St) (b : Int32) (aa : Int32) (letter : Int32) (hat : ¬ b = 0 → ∃ i, i + 4 ≤ 128 ∧ aa = nI i) : MetI l G yX8_tells (wsG yX8_tells cX8_tells 4 (some .int)) (rmz 1 20) [.ref (ad G 723), .int b, .int aa, .int letter] X (fun res Y => res = (oM_tells (X.1 15) (X.1 16) b aa letter).1 ∧ Y = setRow (X) 15 ((oM_tells (X.1 15) (X.1 16) b aa letter).2)) := by
  refine g_met (cc := cX8_tells) (maxL := 4) (ret := (some .int)) (by decide) rfl (Nat.le_of_ble_eq_true rfl) ?_
  intro p e s m below meth c ls C hr hlk hnm hW hl
  have hx := C.1.1
  have hb := C.1.2.1
  have hS : va_S (Ab G) s.heap s.heap [] := va_S.rf
  have hl : lv_has ls 4 [(0, .ref (ad G 723)), (1, .int b), (2, .int aa), (3, .int letter)] := hl
  have hW : Wd G (setRow (X) 15 (X.1 15)) s.heap := Wd.cast ((sr_same (X := X) (r := 15) rfl)).symm hW
  refine lv_aload_n hx hb dX8_tells_0 rfl (lv_at hl 0 rfl) ?_
  refine lv_iload_n hx hb dX8_tells_1 rfl (lv_at hl 1 rfl) ?_
  refine lv_if_ne (tgt := 9) hx hb dX8_tells_2 (by decide) (fun b_1 => ?_) (fun b_1 => ?_)
  · obtain ⟨f_2, hf_2, rfl⟩ := hat b_1
    refine lv_iload_n hx hb dX8_tells_9 rfl (lv_at hl 3 rfl) ?_
    refine g_calli (va_runS (As := [.int letter]) (rest := [.ref (ad G 723)]) C.1 (cX8_kind_ok l G (setRow X 15 (X.1 15)) letter) (va_cwS 1 C.1.2.2.2.2 (gS qw_1558 qw_1559 qw_81 qw_1560) rfl rfl rfl (by decide +kernel) ⟨Nat.le_of_ble_eq_true rfl, Nat.le_of_ble_eq_true rfl⟩) (g_pre C hW hS [.int letter]) rfl rfl hl.1 rfl (lv_room (Nat.le_of_ble_eq_true rfl)) dX8_tells_10 ⟨Nat.zero_le _, Nat.zero_le _⟩) hS (fun r_4 Y_5 H_6 locs_7 hW_8 hS_9 h_3 => ?_)
    obtain ⟨h_3, hy_10⟩ := h_3
    replace hy_10 := hy_10.symm
    subst hy_10
    replace h_3 : r_4 = oM_kind letter := h_3
    subst h_3
    refine lv_if_ge (tgt := 20) hx hb dX8_tells_13 (by decide) (fun b_11 => ?_) (fun b_11 => ?_)
    · obtain ⟨f_12, hf_12, hkf_12⟩ := kind_ge b_11
      refine lv_iconst (v := 0) hx hb dX8_tells_20 (by decide) ?_
      refine gM_thrownP C hW_8 hS_9 (hwc hwX8) (mc qw_1476) dX8_tells_21 (fun H_13 locs_14 hW_15 hS_16 => ?_)
      obtain ⟨w_17, ew_17⟩ : ∃ Z9, Z9 = upd (X.1 15) (0) 0 := ⟨_, rfl⟩
      have kn_18 : w_17 (0) = 0 := by rw [ew_17]; exact pk_us
      have hW_19 : Wd G (setRow X 15 w_17) H_13 := Wd.cast (by rw [ew_17]; exact st_out) hW_15
      refine lv_aload_n hx hb dX8_tells_24 rfl (lv_at hl 0 rfl) ?_
      refine gM_thrown C hW_19 (hwc hwX8) (mc qw_1476) dX8_tells_25 ?_
      refine g_top (y := w_17 (0)) (congrFun rd_out _) ?_
      refine g_top (y := 0) kn_18 ?_
      refine lv_if_ne (tgt := 45) hx hb dX8_tells_28 (by decide) (fun h9 => absurd h9 (by decide)) (fun _ => ?_)
      refine lv_aload_n hx hb dX8_tells_31 rfl (lv_at hl 0 rfl) ?_
      refine gM_v C hW_19 (hwc hwX8) (mc qw_1481) dX8_tells_32 ?_
      refine lv_iload_n hx hb dX8_tells_35 rfl (lv_at hl 2 rfl) ?_
      refine lv_iload_n hx hb dX8_tells_36 rfl (lv_at hl 3 rfl) ?_
      refine g_calli (va_runS (As := [.int letter]) (rest := [.int (nI f_2), .ref (ad G 724)]) C.1 (cX8_kind_ok l G (setRow X 15 w_17) letter) (va_cwS 1 C.1.2.2.2.2 (gS qw_1558 qw_1559 qw_81 qw_1560) rfl rfl rfl (by decide +kernel) ⟨Nat.le_of_ble_eq_true rfl, Nat.le_of_ble_eq_true rfl⟩) (g_pre C hW_19 hS_16 [.int letter]) rfl rfl hl.1 rfl (lv_room (Nat.le_of_ble_eq_true rfl)) dX8_tells_37 ⟨Nat.zero_le _, Nat.zero_le _⟩) hS_16 (fun r_21 Y_22 H_23 locs_24 hW_25 hS_26 h_20 => ?_)
      obtain ⟨h_20, hy_27⟩ := h_20
      replace hy_27 := hy_27.symm
      subst hy_27
      replace h_20 : r_21 = oM_kind letter := h_20
      subst h_20
      refine g_top (y := nI f_12) hkf_12 ?_
      refine lv_iadd hx hb dX8_tells_40 ?_
      refine g_top (y := nI (f_2 + f_12)) (nI_add f_2 f_12) ?_
      refine gm_vld C hW_25 (f_2 + f_12) (nI_clamp (by omega)) (vp_in_nI (show f_2 + f_12 < 128 by omega) (by decide)) dX8_tells_41 ?_
      refine g_top (y := X.1 16 (f_2 + f_12)) (congrFun (rd_in (by decide) rfl) _) ?_
      refine lv_goto (tgt := 46) hx hb dX8_tells_42 (by decide) ?_
      exact g_iret C hr hlk hW_25 hS_26 dX8_tells_46 (by subst ew_17; exact ⟨(by first | rfl | (simp only [oM_tells, clf (show f_2 < 2 ^ 31 by omega), hkf_12, clf (show f_12 < 2 ^ 31 by omega), nI_ge0 (show f_12 < 2 ^ 31 by omega), b_1, b_11, if_true, if_false]; first | done | rfl)), (by first | rfl | (simp only [oM_tells, clf (show f_2 < 2 ^ 31 by omega), hkf_12, clf (show f_12 < 2 ^ 31 by omega), nI_ge0 (show f_12 < 2 ^ 31 by omega), b_1, b_11, if_true, if_false]; first | done | rfl))⟩)
    · refine lv_iconst (v := 2) hx hb dX8_tells_16 (by decide) ?_
      refine lv_goto (tgt := 21) hx hb dX8_tells_17 (by decide) ?_
      refine gM_thrownP C hW_8 hS_9 (hwc hwX8) (mc qw_1476) dX8_tells_21 (fun H_28 locs_29 hW_30 hS_31 => ?_)
      obtain ⟨w_32, ew_32⟩ : ∃ Z9, Z9 = upd (X.1 15) (0) 2 := ⟨_, rfl⟩
      have kn_33 : w_32 (0) = 2 := by rw [ew_32]; exact pk_us
      have hW_34 : Wd G (setRow X 15 w_32) H_28 := Wd.cast (by rw [ew_32]; exact st_out) hW_30
      refine lv_aload_n hx hb dX8_tells_24 rfl (lv_at hl 0 rfl) ?_
      refine gM_thrown C hW_34 (hwc hwX8) (mc qw_1476) dX8_tells_25 ?_
      refine g_top (y := w_32 (0)) (congrFun rd_out _) ?_
      refine g_top (y := 2) kn_33 ?_
      refine lv_if_ne (tgt := 45) hx hb dX8_tells_28 (by decide) (fun _ => ?_) (fun h9 => absurd h9 (by decide))
      refine lv_iconst (v := 0) hx hb dX8_tells_45 (by decide) ?_
      exact g_iret C hr hlk hW_34 hS_31 dX8_tells_46 (by subst ew_32; exact ⟨(by first | rfl | (simp only [oM_tells, clf (show f_2 < 2 ^ 31 by omega), b_1, b_11, if_true, if_false]; first | done | rfl)), (by first | rfl | (simp only [oM_tells, clf (show f_2 < 2 ^ 31 by omega), b_1, b_11, if_true, if_false]; first | done | rfl))⟩)
  · refine lv_iconst (v := 1) hx hb dX8_tells_5 (by decide) ?_
    refine lv_goto (tgt := 21) hx hb dX8_tells_6 (by decide) ?_
    refine gM_thrownP C hW hS (hwc hwX8) (mc qw_1476) dX8_tells_21 (fun H_35 locs_36 hW_37 hS_38 => ?_)
    obtain ⟨w_39, ew_39⟩ : ∃ Z9, Z9 = upd (X.1 15) (0) 1 := ⟨_, rfl⟩
    have kn_40 : w_39 (0) = 1 := by rw [ew_39]; exact pk_us
    have hW_41 : Wd G (setRow X 15 w_39) H_35 := Wd.cast (by rw [ew_39]; exact st_out) hW_37
    refine lv_aload_n hx hb dX8_tells_24 rfl (lv_at hl 0 rfl) ?_
    refine gM_thrown C hW_41 (hwc hwX8) (mc qw_1476) dX8_tells_25 ?_
    refine g_top (y := w_39 (0)) (congrFun rd_out _) ?_
    refine g_top (y := 1) kn_40 ?_
    refine lv_if_ne (tgt := 45) hx hb dX8_tells_28 (by decide) (fun _ => ?_) (fun h9 => absurd h9 (by decide))
    refine lv_iconst (v := 0) hx hb dX8_tells_45 (by decide) ?_
    exact g_iret C hr hlk hW_41 hS_38 dX8_tells_46 (by subst ew_39; exact ⟨(by first | rfl | (simp only [oM_tells, eq_true b_1, if_true, if_false]; first | done | rfl)), (by first | rfl | (simp only [oM_tells, eq_true b_1, if_true, if_false]; first | done | rfl))⟩)

def oM_tellsMass (w15 : Nat → Int32) (w16 : Nat → Int32) (b : Int32) (aa : Int32) : Int32 × (Nat → Int32) := if b = 0 then (0, (upd (w15) (0) 1)) else (oM_mass (w16) aa.toNatClampNeg, (upd (w15) (0) 0))
set_option maxHeartbeats 4000000 in
set_option maxRecDepth 100000 in
theorem cX8_tellsMass_ok (l : Launch) (G : GT) (X : St) (b : Int32) (aa : Int32) (hat : ¬ b = 0 → ∃ i, i + 4 ≤ 128 ∧ aa = nI i) : MetI l G yX8_tellsMass (wsG yX8_tellsMass cX8_tellsMass 3 (some .int)) (rmz 1 21) [.ref (ad G 723), .int b, .int aa] X (fun res Y => res = (oM_tellsMass (X.1 15) (X.1 16) b aa).1 ∧ Y = setRow (X) 15 ((oM_tellsMass (X.1 15) (X.1 16) b aa).2)) := by
  refine g_met (cc := cX8_tellsMass) (maxL := 3) (ret := (some .int)) (by decide) rfl (Nat.le_of_ble_eq_true rfl) ?_
  intro p e s m below meth c ls C hr hlk hnm hW hl
  have hx := C.1.1
  have hb := C.1.2.1
  have hS : va_S (Ab G) s.heap s.heap [] := va_S.rf
  have hl : lv_has ls 3 [(0, .ref (ad G 723)), (1, .int b), (2, .int aa)] := hl
  have hW : Wd G (setRow (X) 15 (X.1 15)) s.heap := Wd.cast ((sr_same (X := X) (r := 15) rfl)).symm hW
  refine lv_aload_n hx hb dX8_tellsMass_0 rfl (lv_at hl 0 rfl) ?_
  refine lv_iload_n hx hb dX8_tellsMass_1 rfl (lv_at hl 1 rfl) ?_
  refine lv_if_eq (tgt := 9) hx hb dX8_tellsMass_2 (by decide) (fun b_1 => ?_) (fun b_1 => ?_)
  · refine lv_iconst (v := 1) hx hb dX8_tellsMass_9 (by decide) ?_
    refine gM_thrownP C hW hS (hwc hwX8) (mc qw_1476) dX8_tellsMass_10 (fun H_2 locs_3 hW_4 hS_5 => ?_)
    obtain ⟨w_6, ew_6⟩ : ∃ Z9, Z9 = upd (X.1 15) (0) 1 := ⟨_, rfl⟩
    have kn_7 : w_6 (0) = 1 := by rw [ew_6]; exact pk_us
    have hW_8 : Wd G (setRow X 15 w_6) H_2 := Wd.cast (by rw [ew_6]; exact st_out) hW_4
    refine lv_aload_n hx hb dX8_tellsMass_13 rfl (lv_at hl 0 rfl) ?_
    refine gM_thrown C hW_8 (hwc hwX8) (mc qw_1476) dX8_tellsMass_14 ?_
    refine g_top (y := w_6 (0)) (congrFun rd_out _) ?_
    refine g_top (y := 1) kn_7 ?_
    refine lv_if_ne (tgt := 28) hx hb dX8_tellsMass_17 (by decide) (fun _ => ?_) (fun h9 => absurd h9 (by decide))
    refine lv_iconst (v := 0) hx hb dX8_tellsMass_28 (by decide) ?_
    exact g_iret C hr hlk hW_8 hS_5 dX8_tellsMass_29 (by subst ew_6; exact ⟨(by first | rfl | (simp only [oM_tellsMass, eq_true b_1, if_true, if_false]; first | done | rfl)), (by first | rfl | (simp only [oM_tellsMass, eq_true b_1, if_true, if_false]; first | done | rfl))⟩)
  · obtain ⟨f_9, hf_9, rfl⟩ := hat b_1
    refine lv_iconst (v := 0) hx hb dX8_tellsMass_5 (by decide) ?_
    refine lv_goto (tgt := 10) hx hb dX8_tellsMass_6 (by decide) ?_
    refine gM_thrownP C hW hS (hwc hwX8) (mc qw_1476) dX8_tellsMass_10 (fun H_10 locs_11 hW_12 hS_13 => ?_)
    obtain ⟨w_14, ew_14⟩ : ∃ Z9, Z9 = upd (X.1 15) (0) 0 := ⟨_, rfl⟩
    have kn_15 : w_14 (0) = 0 := by rw [ew_14]; exact pk_us
    have hW_16 : Wd G (setRow X 15 w_14) H_10 := Wd.cast (by rw [ew_14]; exact st_out) hW_12
    refine lv_aload_n hx hb dX8_tellsMass_13 rfl (lv_at hl 0 rfl) ?_
    refine gM_thrown C hW_16 (hwc hwX8) (mc qw_1476) dX8_tellsMass_14 ?_
    refine g_top (y := w_14 (0)) (congrFun rd_out _) ?_
    refine g_top (y := 0) kn_15 ?_
    refine lv_if_ne (tgt := 28) hx hb dX8_tellsMass_17 (by decide) (fun h9 => absurd h9 (by decide)) (fun _ => ?_)
    refine lv_aload_n hx hb dX8_tellsMass_20 rfl (lv_at hl 0 rfl) ?_
    refine lv_iload_n hx hb dX8_tellsMass_21 rfl (lv_at hl 2 rfl) ?_
    refine g_calli (va_runV (As := [.int (nI f_9)]) (rest := []) C.1 (cX8_mass_ok l G (setRow X 15 w_14) f_9 (show f_9 + 4 ≤ 128 by omega)) (cwV 1 C.1.2.2.2.2 (gV qw_1575 qw_1577 qw_32 qw_81 qw_1578) rfl rfl rfl (by decide +kernel) ⟨Nat.le_of_ble_eq_true rfl, Nat.le_of_ble_eq_true rfl⟩) (g_rModel C hW_16 hS_13 [.int (nI f_9)]) rfl rfl hl.1 rfl (lv_room (Nat.le_of_ble_eq_true rfl)) dX8_tellsMass_22 ⟨Nat.zero_le _, Nat.zero_le _⟩) hS_13 (fun r_18 Y_19 H_20 locs_21 hW_22 hS_23 h_17 => ?_)
    obtain ⟨h_17, hy_24⟩ := h_17
    replace hy_24 := hy_24.symm
    subst hy_24
    replace h_17 : r_18 = oM_mass (X.1 16) f_9 := h_17
    subst h_17
    refine lv_goto (tgt := 29) hx hb dX8_tellsMass_25 (by decide) ?_
    exact g_iret C hr hlk hW_22 hS_23 dX8_tellsMass_29 (by subst ew_14; exact ⟨(by first | rfl | (simp only [oM_tellsMass, clf (show f_9 < 2 ^ 31 by omega), b_1, if_true, if_false]; first | done | rfl)), (by first | rfl | (simp only [oM_tellsMass, clf (show f_9 < 2 ^ 31 by omega), b_1, if_true, if_false]; first | done | rfl))⟩)

def oM_tellsOne (w15 : Nat → Int32) (w16 : Nat → Int32) (b : Int32) (aa : Int32) : Int32 × (Nat → Int32) := if b = 0 then (0, (upd (w15) (0) 1)) else (w16 (aa.toNatClampNeg), (upd (w15) (0) 0))
set_option maxHeartbeats 4000000 in
set_option maxRecDepth 100000 in
theorem cX8_tellsOne_ok (l : Launch) (G : GT) (X : St) (b : Int32) (aa : Int32) (hat : ¬ b = 0 → ∃ i, i + 1 ≤ 128 ∧ aa = nI i) : MetI l G yX8_tellsOne (wsG yX8_tellsOne cX8_tellsOne 3 (some .int)) (rmz 0 0) [.ref (ad G 723), .int b, .int aa] X (fun res Y => res = (oM_tellsOne (X.1 15) (X.1 16) b aa).1 ∧ Y = setRow (X) 15 ((oM_tellsOne (X.1 15) (X.1 16) b aa).2)) := by
  refine g_met (cc := cX8_tellsOne) (maxL := 3) (ret := (some .int)) (by decide) rfl (Nat.le_of_ble_eq_true rfl) ?_
  intro p e s m below meth c ls C hr hlk hnm hW hl
  have hx := C.1.1
  have hb := C.1.2.1
  have hS : va_S (Ab G) s.heap s.heap [] := va_S.rf
  have hl : lv_has ls 3 [(0, .ref (ad G 723)), (1, .int b), (2, .int aa)] := hl
  have hW : Wd G (setRow (X) 15 (X.1 15)) s.heap := Wd.cast ((sr_same (X := X) (r := 15) rfl)).symm hW
  refine lv_aload_n hx hb dX8_tellsOne_0 rfl (lv_at hl 0 rfl) ?_
  refine lv_iload_n hx hb dX8_tellsOne_1 rfl (lv_at hl 1 rfl) ?_
  refine lv_if_eq (tgt := 9) hx hb dX8_tellsOne_2 (by decide) (fun b_1 => ?_) (fun b_1 => ?_)
  · refine lv_iconst (v := 1) hx hb dX8_tellsOne_9 (by decide) ?_
    refine gM_thrownP C hW hS (hwc hwX8) (mc qw_1476) dX8_tellsOne_10 (fun H_2 locs_3 hW_4 hS_5 => ?_)
    obtain ⟨w_6, ew_6⟩ : ∃ Z9, Z9 = upd (X.1 15) (0) 1 := ⟨_, rfl⟩
    have kn_7 : w_6 (0) = 1 := by rw [ew_6]; exact pk_us
    have hW_8 : Wd G (setRow X 15 w_6) H_2 := Wd.cast (by rw [ew_6]; exact st_out) hW_4
    refine lv_aload_n hx hb dX8_tellsOne_13 rfl (lv_at hl 0 rfl) ?_
    refine gM_thrown C hW_8 (hwc hwX8) (mc qw_1476) dX8_tellsOne_14 ?_
    refine g_top (y := w_6 (0)) (congrFun rd_out _) ?_
    refine g_top (y := 1) kn_7 ?_
    refine lv_if_ne (tgt := 29) hx hb dX8_tellsOne_17 (by decide) (fun _ => ?_) (fun h9 => absurd h9 (by decide))
    refine lv_iconst (v := 0) hx hb dX8_tellsOne_29 (by decide) ?_
    exact g_iret C hr hlk hW_8 hS_5 dX8_tellsOne_30 (by subst ew_6; exact ⟨(by first | rfl | (simp only [oM_tellsOne, eq_true b_1, if_true, if_false]; first | done | rfl)), (by first | rfl | (simp only [oM_tellsOne, eq_true b_1, if_true, if_false]; first | done | rfl))⟩)
  · obtain ⟨f_9, hf_9, rfl⟩ := hat b_1
    refine lv_iconst (v := 0) hx hb dX8_tellsOne_5 (by decide) ?_
    refine lv_goto (tgt := 10) hx hb dX8_tellsOne_6 (by decide) ?_
    refine gM_thrownP C hW hS (hwc hwX8) (mc qw_1476) dX8_tellsOne_10 (fun H_10 locs_11 hW_12 hS_13 => ?_)
    obtain ⟨w_14, ew_14⟩ : ∃ Z9, Z9 = upd (X.1 15) (0) 0 := ⟨_, rfl⟩
    have kn_15 : w_14 (0) = 0 := by rw [ew_14]; exact pk_us
    have hW_16 : Wd G (setRow X 15 w_14) H_10 := Wd.cast (by rw [ew_14]; exact st_out) hW_12
    refine lv_aload_n hx hb dX8_tellsOne_13 rfl (lv_at hl 0 rfl) ?_
    refine gM_thrown C hW_16 (hwc hwX8) (mc qw_1476) dX8_tellsOne_14 ?_
    refine g_top (y := w_14 (0)) (congrFun rd_out _) ?_
    refine g_top (y := 0) kn_15 ?_
    refine lv_if_ne (tgt := 29) hx hb dX8_tellsOne_17 (by decide) (fun h9 => absurd h9 (by decide)) (fun _ => ?_)
    refine lv_aload_n hx hb dX8_tellsOne_20 rfl (lv_at hl 0 rfl) ?_
    refine gM_v C hW_16 (hwc hwX8) (mc qw_1481) dX8_tellsOne_21 ?_
    refine lv_iload_n hx hb dX8_tellsOne_24 rfl (lv_at hl 2 rfl) ?_
    refine gm_vld C hW_16 f_9 (nI_clamp (by omega)) (vp_in_nI (show f_9 < 128 by omega) (by decide)) dX8_tellsOne_25 ?_
    refine g_top (y := X.1 16 (f_9)) (congrFun (rd_in (by decide) rfl) _) ?_
    refine lv_goto (tgt := 30) hx hb dX8_tellsOne_26 (by decide) ?_
    exact g_iret C hr hlk hW_16 hS_13 dX8_tellsOne_30 (by subst ew_14; exact ⟨(by first | rfl | (simp only [oM_tellsOne, clf (show f_9 < 2 ^ 31 by omega), b_1, if_true, if_false]; first | done | rfl)), (by first | rfl | (simp only [oM_tellsOne, clf (show f_9 < 2 ^ 31 by omega), b_1, if_true, if_false]; first | done | rfl))⟩)

def oM_furnaceMass (w15 : Nat → Int32) (w16 : Nat → Int32) (x : Int32) (mt : Int32) : Int32 × (Nat → Int32) := ((oM_tells (w15) (w16) (oM_isThree x) (oM_furnace x) mt).1, ((oM_tells (w15) (w16) (oM_isThree x) (oM_furnace x) mt).2))
set_option maxHeartbeats 4000000 in
set_option maxRecDepth 100000 in
theorem cX8_furnaceMass_ok (l : Launch) (G : GT) (X : St) (x : Int32) (mt : Int32) : MetI l G yX8_furnaceMass (wsG yX8_furnaceMass cX8_furnaceMass 3 (some .int)) (rmz 2 43) [.ref (ad G 723), .int x, .int mt] X (fun res Y => res = (oM_furnaceMass (X.1 15) (X.1 16) x mt).1 ∧ Y = setRow (X) 15 ((oM_furnaceMass (X.1 15) (X.1 16) x mt).2)) := by
  refine g_met (cc := cX8_furnaceMass) (maxL := 3) (ret := (some .int)) (by decide) rfl (Nat.le_of_ble_eq_true rfl) ?_
  intro p e s m below meth c ls C hr hlk hnm hW hl
  have hx := C.1.1
  have hb := C.1.2.1
  have hS : va_S (Ab G) s.heap s.heap [] := va_S.rf
  have hl : lv_has ls 3 [(0, .ref (ad G 723)), (1, .int x), (2, .int mt)] := hl
  have hW : Wd G (setRow (X) 15 (X.1 15)) s.heap := Wd.cast ((sr_same (X := X) (r := 15) rfl)).symm hW
  refine lv_aload_n hx hb dX8_furnaceMass_0 rfl (lv_at hl 0 rfl) ?_
  refine lv_iload_n hx hb dX8_furnaceMass_1 rfl (lv_at hl 1 rfl) ?_
  refine g_calli (va_runS (As := [.int x]) (rest := [.ref (ad G 723)]) C.1 (cX8_isThree_ok l G (setRow X 15 (X.1 15)) x) (va_cwS 1 C.1.2.2.2.2 (gS qw_1565 qw_1566 qw_81 qw_1567) rfl rfl rfl (by decide +kernel) ⟨Nat.le_of_ble_eq_true rfl, Nat.le_of_ble_eq_true rfl⟩) (g_pre C hW hS [.int x]) rfl rfl hl.1 rfl (lv_room (Nat.le_of_ble_eq_true rfl)) dX8_furnaceMass_2 ⟨Nat.zero_le _, Nat.zero_le _⟩) hS (fun r_2 Y_3 H_4 locs_5 hW_6 hS_7 h_1 => ?_)
  obtain ⟨h_1, hy_8⟩ := h_1
  replace hy_8 := hy_8.symm
  subst hy_8
  replace h_1 : r_2 = oM_isThree x := h_1
  subst h_1
  refine lv_iload_n hx hb dX8_furnaceMass_5 rfl (lv_at hl 1 rfl) ?_
  refine g_calli (va_runS (As := [.int x]) (rest := [.int (oM_isThree x), .ref (ad G 723)]) C.1 (cX8_furnace_ok l G (setRow X 15 (X.1 15)) x) (va_cwS 1 C.1.2.2.2.2 (gS qw_1470 qw_1471 qw_81 qw_1472) rfl rfl rfl (by decide +kernel) ⟨Nat.le_of_ble_eq_true rfl, Nat.le_of_ble_eq_true rfl⟩) (g_pre C hW_6 hS_7 [.int x]) rfl rfl hl.1 rfl (lv_room (Nat.le_of_ble_eq_true rfl)) dX8_furnaceMass_6 ⟨Nat.zero_le _, Nat.zero_le _⟩) hS_7 (fun r_10 Y_11 H_12 locs_13 hW_14 hS_15 h_9 => ?_)
  obtain ⟨h_9, hy_16⟩ := h_9
  replace hy_16 := hy_16.symm
  subst hy_16
  replace h_9 : r_10 = oM_furnace x := h_9
  subst h_9
  refine lv_iload_n hx hb dX8_furnaceMass_9 rfl (lv_at hl 2 rfl) ?_
  refine g_calli (va_runV (As := [.int (oM_isThree x), .int (oM_furnace x), .int mt]) (rest := []) C.1 (cX8_tells_ok l G (setRow X 15 (X.1 15)) (oM_isThree x) (oM_furnace x) mt (fun h9 => hat_fur (n := 4) (by decide) h9)) (cwV 3 C.1.2.2.2.2 (gV qw_1708 qw_1710 qw_53 qw_81 qw_1711) rfl rfl rfl (by decide +kernel) ⟨Nat.le_of_ble_eq_true rfl, Nat.le_of_ble_eq_true rfl⟩) (g_rModel C hW_14 hS_15 [.int (oM_isThree x), .int (oM_furnace x), .int mt]) rfl rfl hl.1 rfl (lv_room (Nat.le_of_ble_eq_true rfl)) dX8_furnaceMass_10 ⟨Nat.zero_le _, Nat.zero_le _⟩) hS_15 (fun r_18 Y_19 H_20 locs_21 hW_22 hS_23 h_17 => ?_)
  obtain ⟨h_24, h_17⟩ := h_17
  replace h_24 : r_18 = (oM_tells (X.1 15) (X.1 16) (oM_isThree x) (oM_furnace x) mt).1 := h_24
  subst h_24
  replace h_17 : Y_19 = setRow (setRow X 15 (X.1 15)) 15 ((oM_tells (X.1 15) (X.1 16) (oM_isThree x) (oM_furnace x) mt).2) := h_17
  obtain ⟨w_25, ew_25⟩ : ∃ Z9, Z9 = (oM_tells (X.1 15) (X.1 16) (oM_isThree x) (oM_furnace x) mt).2 := ⟨_, rfl⟩
  have qqw_25 : Y_19 = setRow (setRow X 15 (X.1 15)) 15 w_25 := by rw [h_17, ew_25]
  have hW_26 : Wd G (setRow X 15 w_25) H_20 := Wd.cast ((qqw_25).trans (congrArg (fun Z9 => Z9) sr_out)) hW_22
  exact g_iret C hr hlk hW_26 hS_23 dX8_furnaceMass_13 (by subst ew_25; exact ⟨(by first | rfl | (simp only [oM_furnaceMass, if_true, if_false]; first | done | rfl)), (by first | rfl | (simp only [oM_furnaceMass, if_true, if_false]; first | done | rfl))⟩)

def oM_furnaceTotal (w15 : Nat → Int32) (w16 : Nat → Int32) (x : Int32) : Int32 × (Nat → Int32) := ((oM_tellsMass (w15) (w16) (oM_isThree x) (oM_furnace x)).1, ((oM_tellsMass (w15) (w16) (oM_isThree x) (oM_furnace x)).2))
set_option maxHeartbeats 4000000 in
set_option maxRecDepth 100000 in
theorem cX8_furnaceTotal_ok (l : Launch) (G : GT) (X : St) (x : Int32) : MetI l G yX8_furnaceTotal (wsG yX8_furnaceTotal cX8_furnaceTotal 2 (some .int)) (rmz 2 43) [.ref (ad G 723), .int x] X (fun res Y => res = (oM_furnaceTotal (X.1 15) (X.1 16) x).1 ∧ Y = setRow (X) 15 ((oM_furnaceTotal (X.1 15) (X.1 16) x).2)) := by
  refine g_met (cc := cX8_furnaceTotal) (maxL := 2) (ret := (some .int)) (by decide) rfl (Nat.le_of_ble_eq_true rfl) ?_
  intro p e s m below meth c ls C hr hlk hnm hW hl
  have hx := C.1.1
  have hb := C.1.2.1
  have hS : va_S (Ab G) s.heap s.heap [] := va_S.rf
  have hl : lv_has ls 2 [(0, .ref (ad G 723)), (1, .int x)] := hl
  have hW : Wd G (setRow (X) 15 (X.1 15)) s.heap := Wd.cast ((sr_same (X := X) (r := 15) rfl)).symm hW
  refine lv_aload_n hx hb dX8_furnaceTotal_0 rfl (lv_at hl 0 rfl) ?_
  refine lv_iload_n hx hb dX8_furnaceTotal_1 rfl (lv_at hl 1 rfl) ?_
  refine g_calli (va_runS (As := [.int x]) (rest := [.ref (ad G 723)]) C.1 (cX8_isThree_ok l G (setRow X 15 (X.1 15)) x) (va_cwS 1 C.1.2.2.2.2 (gS qw_1565 qw_1566 qw_81 qw_1567) rfl rfl rfl (by decide +kernel) ⟨Nat.le_of_ble_eq_true rfl, Nat.le_of_ble_eq_true rfl⟩) (g_pre C hW hS [.int x]) rfl rfl hl.1 rfl (lv_room (Nat.le_of_ble_eq_true rfl)) dX8_furnaceTotal_2 ⟨Nat.zero_le _, Nat.zero_le _⟩) hS (fun r_2 Y_3 H_4 locs_5 hW_6 hS_7 h_1 => ?_)
  obtain ⟨h_1, hy_8⟩ := h_1
  replace hy_8 := hy_8.symm
  subst hy_8
  replace h_1 : r_2 = oM_isThree x := h_1
  subst h_1
  refine lv_iload_n hx hb dX8_furnaceTotal_5 rfl (lv_at hl 1 rfl) ?_
  refine g_calli (va_runS (As := [.int x]) (rest := [.int (oM_isThree x), .ref (ad G 723)]) C.1 (cX8_furnace_ok l G (setRow X 15 (X.1 15)) x) (va_cwS 1 C.1.2.2.2.2 (gS qw_1470 qw_1471 qw_81 qw_1472) rfl rfl rfl (by decide +kernel) ⟨Nat.le_of_ble_eq_true rfl, Nat.le_of_ble_eq_true rfl⟩) (g_pre C hW_6 hS_7 [.int x]) rfl rfl hl.1 rfl (lv_room (Nat.le_of_ble_eq_true rfl)) dX8_furnaceTotal_6 ⟨Nat.zero_le _, Nat.zero_le _⟩) hS_7 (fun r_10 Y_11 H_12 locs_13 hW_14 hS_15 h_9 => ?_)
  obtain ⟨h_9, hy_16⟩ := h_9
  replace hy_16 := hy_16.symm
  subst hy_16
  replace h_9 : r_10 = oM_furnace x := h_9
  subst h_9
  refine g_calli (va_runV (As := [.int (oM_isThree x), .int (oM_furnace x)]) (rest := []) C.1 (cX8_tellsMass_ok l G (setRow X 15 (X.1 15)) (oM_isThree x) (oM_furnace x) (fun h9 => hat_fur (n := 4) (by decide) h9)) (cwV 2 C.1.2.2.2.2 (gV qw_1716 qw_1718 qw_54 qw_81 qw_1719) rfl rfl rfl (by decide +kernel) ⟨Nat.le_of_ble_eq_true rfl, Nat.le_of_ble_eq_true rfl⟩) (g_rModel C hW_14 hS_15 [.int (oM_isThree x), .int (oM_furnace x)]) rfl rfl hl.1 rfl (lv_room (Nat.le_of_ble_eq_true rfl)) dX8_furnaceTotal_9 ⟨Nat.zero_le _, Nat.zero_le _⟩) hS_15 (fun r_18 Y_19 H_20 locs_21 hW_22 hS_23 h_17 => ?_)
  obtain ⟨h_24, h_17⟩ := h_17
  replace h_24 : r_18 = (oM_tellsMass (X.1 15) (X.1 16) (oM_isThree x) (oM_furnace x)).1 := h_24
  subst h_24
  replace h_17 : Y_19 = setRow (setRow X 15 (X.1 15)) 15 ((oM_tellsMass (X.1 15) (X.1 16) (oM_isThree x) (oM_furnace x)).2) := h_17
  obtain ⟨w_25, ew_25⟩ : ∃ Z9, Z9 = (oM_tellsMass (X.1 15) (X.1 16) (oM_isThree x) (oM_furnace x)).2 := ⟨_, rfl⟩
  have qqw_25 : Y_19 = setRow (setRow X 15 (X.1 15)) 15 w_25 := by rw [h_17, ew_25]
  have hW_26 : Wd G (setRow X 15 w_25) H_20 := Wd.cast ((qqw_25).trans (congrArg (fun Z9 => Z9) sr_out)) hW_22
  exact g_iret C hr hlk hW_26 hS_23 dX8_furnaceTotal_12 (by subst ew_25; exact ⟨(by first | rfl | (simp only [oM_furnaceTotal, if_true, if_false]; first | done | rfl)), (by first | rfl | (simp only [oM_furnaceTotal, if_true, if_false]; first | done | rfl))⟩)

def oM_furnaceTemperature (w15 : Nat → Int32) (w16 : Nat → Int32) (x : Int32) : Int32 × (Nat → Int32) := ((oM_tellsOne (w15) (w16) (oM_isThree x) ((oM_furnace x) + 4)).1, ((oM_tellsOne (w15) (w16) (oM_isThree x) ((oM_furnace x) + 4)).2))
set_option maxHeartbeats 4000000 in
set_option maxRecDepth 100000 in
theorem cX8_furnaceTemperature_ok (l : Launch) (G : GT) (X : St) (x : Int32) : MetI l G yX8_furnaceTemperature (wsG yX8_furnaceTemperature cX8_furnaceTemperature 2 (some .int)) (rmz 2 42) [.ref (ad G 723), .int x] X (fun res Y => res = (oM_furnaceTemperature (X.1 15) (X.1 16) x).1 ∧ Y = setRow (X) 15 ((oM_furnaceTemperature (X.1 15) (X.1 16) x).2)) := by
  refine g_met (cc := cX8_furnaceTemperature) (maxL := 2) (ret := (some .int)) (by decide) rfl (Nat.le_of_ble_eq_true rfl) ?_
  intro p e s m below meth c ls C hr hlk hnm hW hl
  have hx := C.1.1
  have hb := C.1.2.1
  have hS : va_S (Ab G) s.heap s.heap [] := va_S.rf
  have hl : lv_has ls 2 [(0, .ref (ad G 723)), (1, .int x)] := hl
  have hW : Wd G (setRow (X) 15 (X.1 15)) s.heap := Wd.cast ((sr_same (X := X) (r := 15) rfl)).symm hW
  refine lv_aload_n hx hb dX8_furnaceTemperature_0 rfl (lv_at hl 0 rfl) ?_
  refine lv_iload_n hx hb dX8_furnaceTemperature_1 rfl (lv_at hl 1 rfl) ?_
  refine g_calli (va_runS (As := [.int x]) (rest := [.ref (ad G 723)]) C.1 (cX8_isThree_ok l G (setRow X 15 (X.1 15)) x) (va_cwS 1 C.1.2.2.2.2 (gS qw_1565 qw_1566 qw_81 qw_1567) rfl rfl rfl (by decide +kernel) ⟨Nat.le_of_ble_eq_true rfl, Nat.le_of_ble_eq_true rfl⟩) (g_pre C hW hS [.int x]) rfl rfl hl.1 rfl (lv_room (Nat.le_of_ble_eq_true rfl)) dX8_furnaceTemperature_2 ⟨Nat.zero_le _, Nat.zero_le _⟩) hS (fun r_2 Y_3 H_4 locs_5 hW_6 hS_7 h_1 => ?_)
  obtain ⟨h_1, hy_8⟩ := h_1
  replace hy_8 := hy_8.symm
  subst hy_8
  replace h_1 : r_2 = oM_isThree x := h_1
  subst h_1
  refine lv_iload_n hx hb dX8_furnaceTemperature_5 rfl (lv_at hl 1 rfl) ?_
  refine g_calli (va_runS (As := [.int x]) (rest := [.int (oM_isThree x), .ref (ad G 723)]) C.1 (cX8_furnace_ok l G (setRow X 15 (X.1 15)) x) (va_cwS 1 C.1.2.2.2.2 (gS qw_1470 qw_1471 qw_81 qw_1472) rfl rfl rfl (by decide +kernel) ⟨Nat.le_of_ble_eq_true rfl, Nat.le_of_ble_eq_true rfl⟩) (g_pre C hW_6 hS_7 [.int x]) rfl rfl hl.1 rfl (lv_room (Nat.le_of_ble_eq_true rfl)) dX8_furnaceTemperature_6 ⟨Nat.zero_le _, Nat.zero_le _⟩) hS_7 (fun r_10 Y_11 H_12 locs_13 hW_14 hS_15 h_9 => ?_)
  obtain ⟨h_9, hy_16⟩ := h_9
  replace hy_16 := hy_16.symm
  subst hy_16
  replace h_9 : r_10 = oM_furnace x := h_9
  subst h_9
  refine lv_iconst (v := 4) hx hb dX8_furnaceTemperature_9 (by decide) ?_
  refine lv_iadd hx hb dX8_furnaceTemperature_10 ?_
  refine g_calli (va_runV (As := [.int (oM_isThree x), .int ((oM_furnace x) + 4)]) (rest := []) C.1 (cX8_tellsOne_ok l G (setRow X 15 (X.1 15)) (oM_isThree x) ((oM_furnace x) + 4) (fun h9 => hat_furp (k := 4) (j := 4) (by decide) rfl h9)) (cwV 2 C.1.2.2.2.2 (gV qw_1724 qw_1726 qw_55 qw_81 qw_1727) rfl rfl rfl (by decide +kernel) ⟨Nat.le_of_ble_eq_true rfl, Nat.le_of_ble_eq_true rfl⟩) (g_rModel C hW_14 hS_15 [.int (oM_isThree x), .int ((oM_furnace x) + 4)]) rfl rfl hl.1 rfl (lv_room (Nat.le_of_ble_eq_true rfl)) dX8_furnaceTemperature_11 ⟨Nat.zero_le _, Nat.zero_le _⟩) hS_15 (fun r_18 Y_19 H_20 locs_21 hW_22 hS_23 h_17 => ?_)
  obtain ⟨h_24, h_17⟩ := h_17
  replace h_24 : r_18 = (oM_tellsOne (X.1 15) (X.1 16) (oM_isThree x) ((oM_furnace x) + 4)).1 := h_24
  subst h_24
  replace h_17 : Y_19 = setRow (setRow X 15 (X.1 15)) 15 ((oM_tellsOne (X.1 15) (X.1 16) (oM_isThree x) ((oM_furnace x) + 4)).2) := h_17
  obtain ⟨w_25, ew_25⟩ : ∃ Z9, Z9 = (oM_tellsOne (X.1 15) (X.1 16) (oM_isThree x) ((oM_furnace x) + 4)).2 := ⟨_, rfl⟩
  have qqw_25 : Y_19 = setRow (setRow X 15 (X.1 15)) 15 w_25 := by rw [h_17, ew_25]
  have hW_26 : Wd G (setRow X 15 w_25) H_20 := Wd.cast ((qqw_25).trans (congrArg (fun Z9 => Z9) sr_out)) hW_22
  exact g_iret C hr hlk hW_26 hS_23 dX8_furnaceTemperature_14 (by subst ew_25; exact ⟨(by first | rfl | (simp only [oM_furnaceTemperature, if_true, if_false]; first | done | rfl)), (by first | rfl | (simp only [oM_furnaceTemperature, if_true, if_false]; first | done | rfl))⟩)

def oM_fire (w15 : Nat → Int32) (w16 : Nat → Int32) (x : Int32) : Int32 × (Nat → Int32) := ((oM_tellsOne (w15) (w16) (oM_isThree x) ((oM_furnace x) + 5)).1, ((oM_tellsOne (w15) (w16) (oM_isThree x) ((oM_furnace x) + 5)).2))
set_option maxHeartbeats 4000000 in
set_option maxRecDepth 100000 in
theorem cX8_fire_ok (l : Launch) (G : GT) (X : St) (x : Int32) : MetI l G yX8_fire (wsG yX8_fire cX8_fire 2 (some .int)) (rmz 2 42) [.ref (ad G 723), .int x] X (fun res Y => res = (oM_fire (X.1 15) (X.1 16) x).1 ∧ Y = setRow (X) 15 ((oM_fire (X.1 15) (X.1 16) x).2)) := by
  refine g_met (cc := cX8_fire) (maxL := 2) (ret := (some .int)) (by decide) rfl (Nat.le_of_ble_eq_true rfl) ?_
  intro p e s m below meth c ls C hr hlk hnm hW hl
  have hx := C.1.1
  have hb := C.1.2.1
  have hS : va_S (Ab G) s.heap s.heap [] := va_S.rf
  have hl : lv_has ls 2 [(0, .ref (ad G 723)), (1, .int x)] := hl
  have hW : Wd G (setRow (X) 15 (X.1 15)) s.heap := Wd.cast ((sr_same (X := X) (r := 15) rfl)).symm hW
  refine lv_aload_n hx hb dX8_fire_0 rfl (lv_at hl 0 rfl) ?_
  refine lv_iload_n hx hb dX8_fire_1 rfl (lv_at hl 1 rfl) ?_
  refine g_calli (va_runS (As := [.int x]) (rest := [.ref (ad G 723)]) C.1 (cX8_isThree_ok l G (setRow X 15 (X.1 15)) x) (va_cwS 1 C.1.2.2.2.2 (gS qw_1565 qw_1566 qw_81 qw_1567) rfl rfl rfl (by decide +kernel) ⟨Nat.le_of_ble_eq_true rfl, Nat.le_of_ble_eq_true rfl⟩) (g_pre C hW hS [.int x]) rfl rfl hl.1 rfl (lv_room (Nat.le_of_ble_eq_true rfl)) dX8_fire_2 ⟨Nat.zero_le _, Nat.zero_le _⟩) hS (fun r_2 Y_3 H_4 locs_5 hW_6 hS_7 h_1 => ?_)
  obtain ⟨h_1, hy_8⟩ := h_1
  replace hy_8 := hy_8.symm
  subst hy_8
  replace h_1 : r_2 = oM_isThree x := h_1
  subst h_1
  refine lv_iload_n hx hb dX8_fire_5 rfl (lv_at hl 1 rfl) ?_
  refine g_calli (va_runS (As := [.int x]) (rest := [.int (oM_isThree x), .ref (ad G 723)]) C.1 (cX8_furnace_ok l G (setRow X 15 (X.1 15)) x) (va_cwS 1 C.1.2.2.2.2 (gS qw_1470 qw_1471 qw_81 qw_1472) rfl rfl rfl (by decide +kernel) ⟨Nat.le_of_ble_eq_true rfl, Nat.le_of_ble_eq_true rfl⟩) (g_pre C hW_6 hS_7 [.int x]) rfl rfl hl.1 rfl (lv_room (Nat.le_of_ble_eq_true rfl)) dX8_fire_6 ⟨Nat.zero_le _, Nat.zero_le _⟩) hS_7 (fun r_10 Y_11 H_12 locs_13 hW_14 hS_15 h_9 => ?_)
  obtain ⟨h_9, hy_16⟩ := h_9
  replace hy_16 := hy_16.symm
  subst hy_16
  replace h_9 : r_10 = oM_furnace x := h_9
  subst h_9
  refine lv_iconst (v := 5) hx hb dX8_fire_9 (by decide) ?_
  refine lv_iadd hx hb dX8_fire_10 ?_
  refine g_calli (va_runV (As := [.int (oM_isThree x), .int ((oM_furnace x) + 5)]) (rest := []) C.1 (cX8_tellsOne_ok l G (setRow X 15 (X.1 15)) (oM_isThree x) ((oM_furnace x) + 5) (fun h9 => hat_furp (k := 5) (j := 5) (by decide) rfl h9)) (cwV 2 C.1.2.2.2.2 (gV qw_1724 qw_1726 qw_55 qw_81 qw_1727) rfl rfl rfl (by decide +kernel) ⟨Nat.le_of_ble_eq_true rfl, Nat.le_of_ble_eq_true rfl⟩) (g_rModel C hW_14 hS_15 [.int (oM_isThree x), .int ((oM_furnace x) + 5)]) rfl rfl hl.1 rfl (lv_room (Nat.le_of_ble_eq_true rfl)) dX8_fire_11 ⟨Nat.zero_le _, Nat.zero_le _⟩) hS_15 (fun r_18 Y_19 H_20 locs_21 hW_22 hS_23 h_17 => ?_)
  obtain ⟨h_24, h_17⟩ := h_17
  replace h_24 : r_18 = (oM_tellsOne (X.1 15) (X.1 16) (oM_isThree x) ((oM_furnace x) + 5)).1 := h_24
  subst h_24
  replace h_17 : Y_19 = setRow (setRow X 15 (X.1 15)) 15 ((oM_tellsOne (X.1 15) (X.1 16) (oM_isThree x) ((oM_furnace x) + 5)).2) := h_17
  obtain ⟨w_25, ew_25⟩ : ∃ Z9, Z9 = (oM_tellsOne (X.1 15) (X.1 16) (oM_isThree x) ((oM_furnace x) + 5)).2 := ⟨_, rfl⟩
  have qqw_25 : Y_19 = setRow (setRow X 15 (X.1 15)) 15 w_25 := by rw [h_17, ew_25]
  have hW_26 : Wd G (setRow X 15 w_25) H_20 := Wd.cast ((qqw_25).trans (congrArg (fun Z9 => Z9) sr_out)) hW_22
  exact g_iret C hr hlk hW_26 hS_23 dX8_fire_14 (by subst ew_25; exact ⟨(by first | rfl | (simp only [oM_fire, if_true, if_false]; first | done | rfl)), (by first | rfl | (simp only [oM_fire, if_true, if_false]; first | done | rfl))⟩)

def oM_ladleMass (w15 : Nat → Int32) (w16 : Nat → Int32) (x : Int32) (mt : Int32) : Int32 × (Nat → Int32) := ((oM_tells (w15) (w16) (oM_isThree x) (oM_ladle x) mt).1, ((oM_tells (w15) (w16) (oM_isThree x) (oM_ladle x) mt).2))
set_option maxHeartbeats 4000000 in
set_option maxRecDepth 100000 in
theorem cX8_ladleMass_ok (l : Launch) (G : GT) (X : St) (x : Int32) (mt : Int32) : MetI l G yX8_ladleMass (wsG yX8_ladleMass cX8_ladleMass 3 (some .int)) (rmz 2 43) [.ref (ad G 723), .int x, .int mt] X (fun res Y => res = (oM_ladleMass (X.1 15) (X.1 16) x mt).1 ∧ Y = setRow (X) 15 ((oM_ladleMass (X.1 15) (X.1 16) x mt).2)) := by
  refine g_met (cc := cX8_ladleMass) (maxL := 3) (ret := (some .int)) (by decide) rfl (Nat.le_of_ble_eq_true rfl) ?_
  intro p e s m below meth c ls C hr hlk hnm hW hl
  have hx := C.1.1
  have hb := C.1.2.1
  have hS : va_S (Ab G) s.heap s.heap [] := va_S.rf
  have hl : lv_has ls 3 [(0, .ref (ad G 723)), (1, .int x), (2, .int mt)] := hl
  have hW : Wd G (setRow (X) 15 (X.1 15)) s.heap := Wd.cast ((sr_same (X := X) (r := 15) rfl)).symm hW
  refine lv_aload_n hx hb dX8_ladleMass_0 rfl (lv_at hl 0 rfl) ?_
  refine lv_iload_n hx hb dX8_ladleMass_1 rfl (lv_at hl 1 rfl) ?_
  refine g_calli (va_runS (As := [.int x]) (rest := [.ref (ad G 723)]) C.1 (cX8_isThree_ok l G (setRow X 15 (X.1 15)) x) (va_cwS 1 C.1.2.2.2.2 (gS qw_1565 qw_1566 qw_81 qw_1567) rfl rfl rfl (by decide +kernel) ⟨Nat.le_of_ble_eq_true rfl, Nat.le_of_ble_eq_true rfl⟩) (g_pre C hW hS [.int x]) rfl rfl hl.1 rfl (lv_room (Nat.le_of_ble_eq_true rfl)) dX8_ladleMass_2 ⟨Nat.zero_le _, Nat.zero_le _⟩) hS (fun r_2 Y_3 H_4 locs_5 hW_6 hS_7 h_1 => ?_)
  obtain ⟨h_1, hy_8⟩ := h_1
  replace hy_8 := hy_8.symm
  subst hy_8
  replace h_1 : r_2 = oM_isThree x := h_1
  subst h_1
  refine lv_iload_n hx hb dX8_ladleMass_5 rfl (lv_at hl 1 rfl) ?_
  refine g_calli (va_runS (As := [.int x]) (rest := [.int (oM_isThree x), .ref (ad G 723)]) C.1 (cX8_ladle_ok l G (setRow X 15 (X.1 15)) x) (va_cwS 1 C.1.2.2.2.2 (gS qw_1473 qw_1474 qw_81 qw_1475) rfl rfl rfl (by decide +kernel) ⟨Nat.le_of_ble_eq_true rfl, Nat.le_of_ble_eq_true rfl⟩) (g_pre C hW_6 hS_7 [.int x]) rfl rfl hl.1 rfl (lv_room (Nat.le_of_ble_eq_true rfl)) dX8_ladleMass_6 ⟨Nat.zero_le _, Nat.zero_le _⟩) hS_7 (fun r_10 Y_11 H_12 locs_13 hW_14 hS_15 h_9 => ?_)
  obtain ⟨h_9, hy_16⟩ := h_9
  replace hy_16 := hy_16.symm
  subst hy_16
  replace h_9 : r_10 = oM_ladle x := h_9
  subst h_9
  refine lv_iload_n hx hb dX8_ladleMass_9 rfl (lv_at hl 2 rfl) ?_
  refine g_calli (va_runV (As := [.int (oM_isThree x), .int (oM_ladle x), .int mt]) (rest := []) C.1 (cX8_tells_ok l G (setRow X 15 (X.1 15)) (oM_isThree x) (oM_ladle x) mt (fun h9 => hat_lad (n := 4) (by decide) h9)) (cwV 3 C.1.2.2.2.2 (gV qw_1708 qw_1710 qw_53 qw_81 qw_1711) rfl rfl rfl (by decide +kernel) ⟨Nat.le_of_ble_eq_true rfl, Nat.le_of_ble_eq_true rfl⟩) (g_rModel C hW_14 hS_15 [.int (oM_isThree x), .int (oM_ladle x), .int mt]) rfl rfl hl.1 rfl (lv_room (Nat.le_of_ble_eq_true rfl)) dX8_ladleMass_10 ⟨Nat.zero_le _, Nat.zero_le _⟩) hS_15 (fun r_18 Y_19 H_20 locs_21 hW_22 hS_23 h_17 => ?_)
  obtain ⟨h_24, h_17⟩ := h_17
  replace h_24 : r_18 = (oM_tells (X.1 15) (X.1 16) (oM_isThree x) (oM_ladle x) mt).1 := h_24
  subst h_24
  replace h_17 : Y_19 = setRow (setRow X 15 (X.1 15)) 15 ((oM_tells (X.1 15) (X.1 16) (oM_isThree x) (oM_ladle x) mt).2) := h_17
  obtain ⟨w_25, ew_25⟩ : ∃ Z9, Z9 = (oM_tells (X.1 15) (X.1 16) (oM_isThree x) (oM_ladle x) mt).2 := ⟨_, rfl⟩
  have qqw_25 : Y_19 = setRow (setRow X 15 (X.1 15)) 15 w_25 := by rw [h_17, ew_25]
  have hW_26 : Wd G (setRow X 15 w_25) H_20 := Wd.cast ((qqw_25).trans (congrArg (fun Z9 => Z9) sr_out)) hW_22
  exact g_iret C hr hlk hW_26 hS_23 dX8_ladleMass_13 (by subst ew_25; exact ⟨(by first | rfl | (simp only [oM_ladleMass, if_true, if_false]; first | done | rfl)), (by first | rfl | (simp only [oM_ladleMass, if_true, if_false]; first | done | rfl))⟩)

def oM_ladleTotal (w15 : Nat → Int32) (w16 : Nat → Int32) (x : Int32) : Int32 × (Nat → Int32) := ((oM_tellsMass (w15) (w16) (oM_isThree x) (oM_ladle x)).1, ((oM_tellsMass (w15) (w16) (oM_isThree x) (oM_ladle x)).2))
set_option maxHeartbeats 4000000 in
set_option maxRecDepth 100000 in
theorem cX8_ladleTotal_ok (l : Launch) (G : GT) (X : St) (x : Int32) : MetI l G yX8_ladleTotal (wsG yX8_ladleTotal cX8_ladleTotal 2 (some .int)) (rmz 2 43) [.ref (ad G 723), .int x] X (fun res Y => res = (oM_ladleTotal (X.1 15) (X.1 16) x).1 ∧ Y = setRow (X) 15 ((oM_ladleTotal (X.1 15) (X.1 16) x).2)) := by
  refine g_met (cc := cX8_ladleTotal) (maxL := 2) (ret := (some .int)) (by decide) rfl (Nat.le_of_ble_eq_true rfl) ?_
  intro p e s m below meth c ls C hr hlk hnm hW hl
  have hx := C.1.1
  have hb := C.1.2.1
  have hS : va_S (Ab G) s.heap s.heap [] := va_S.rf
  have hl : lv_has ls 2 [(0, .ref (ad G 723)), (1, .int x)] := hl
  have hW : Wd G (setRow (X) 15 (X.1 15)) s.heap := Wd.cast ((sr_same (X := X) (r := 15) rfl)).symm hW
  refine lv_aload_n hx hb dX8_ladleTotal_0 rfl (lv_at hl 0 rfl) ?_
  refine lv_iload_n hx hb dX8_ladleTotal_1 rfl (lv_at hl 1 rfl) ?_
  refine g_calli (va_runS (As := [.int x]) (rest := [.ref (ad G 723)]) C.1 (cX8_isThree_ok l G (setRow X 15 (X.1 15)) x) (va_cwS 1 C.1.2.2.2.2 (gS qw_1565 qw_1566 qw_81 qw_1567) rfl rfl rfl (by decide +kernel) ⟨Nat.le_of_ble_eq_true rfl, Nat.le_of_ble_eq_true rfl⟩) (g_pre C hW hS [.int x]) rfl rfl hl.1 rfl (lv_room (Nat.le_of_ble_eq_true rfl)) dX8_ladleTotal_2 ⟨Nat.zero_le _, Nat.zero_le _⟩) hS (fun r_2 Y_3 H_4 locs_5 hW_6 hS_7 h_1 => ?_)
  obtain ⟨h_1, hy_8⟩ := h_1
  replace hy_8 := hy_8.symm
  subst hy_8
  replace h_1 : r_2 = oM_isThree x := h_1
  subst h_1
  refine lv_iload_n hx hb dX8_ladleTotal_5 rfl (lv_at hl 1 rfl) ?_
  refine g_calli (va_runS (As := [.int x]) (rest := [.int (oM_isThree x), .ref (ad G 723)]) C.1 (cX8_ladle_ok l G (setRow X 15 (X.1 15)) x) (va_cwS 1 C.1.2.2.2.2 (gS qw_1473 qw_1474 qw_81 qw_1475) rfl rfl rfl (by decide +kernel) ⟨Nat.le_of_ble_eq_true rfl, Nat.le_of_ble_eq_true rfl⟩) (g_pre C hW_6 hS_7 [.int x]) rfl rfl hl.1 rfl (lv_room (Nat.le_of_ble_eq_true rfl)) dX8_ladleTotal_6 ⟨Nat.zero_le _, Nat.zero_le _⟩) hS_7 (fun r_10 Y_11 H_12 locs_13 hW_14 hS_15 h_9 => ?_)
  obtain ⟨h_9, hy_16⟩ := h_9
  replace hy_16 := hy_16.symm
  subst hy_16
  replace h_9 : r_10 = oM_ladle x := h_9
  subst h_9
  refine g_calli (va_runV (As := [.int (oM_isThree x), .int (oM_ladle x)]) (rest := []) C.1 (cX8_tellsMass_ok l G (setRow X 15 (X.1 15)) (oM_isThree x) (oM_ladle x) (fun h9 => hat_lad (n := 4) (by decide) h9)) (cwV 2 C.1.2.2.2.2 (gV qw_1716 qw_1718 qw_54 qw_81 qw_1719) rfl rfl rfl (by decide +kernel) ⟨Nat.le_of_ble_eq_true rfl, Nat.le_of_ble_eq_true rfl⟩) (g_rModel C hW_14 hS_15 [.int (oM_isThree x), .int (oM_ladle x)]) rfl rfl hl.1 rfl (lv_room (Nat.le_of_ble_eq_true rfl)) dX8_ladleTotal_9 ⟨Nat.zero_le _, Nat.zero_le _⟩) hS_15 (fun r_18 Y_19 H_20 locs_21 hW_22 hS_23 h_17 => ?_)
  obtain ⟨h_24, h_17⟩ := h_17
  replace h_24 : r_18 = (oM_tellsMass (X.1 15) (X.1 16) (oM_isThree x) (oM_ladle x)).1 := h_24
  subst h_24
  replace h_17 : Y_19 = setRow (setRow X 15 (X.1 15)) 15 ((oM_tellsMass (X.1 15) (X.1 16) (oM_isThree x) (oM_ladle x)).2) := h_17
  obtain ⟨w_25, ew_25⟩ : ∃ Z9, Z9 = (oM_tellsMass (X.1 15) (X.1 16) (oM_isThree x) (oM_ladle x)).2 := ⟨_, rfl⟩
  have qqw_25 : Y_19 = setRow (setRow X 15 (X.1 15)) 15 w_25 := by rw [h_17, ew_25]
  have hW_26 : Wd G (setRow X 15 w_25) H_20 := Wd.cast ((qqw_25).trans (congrArg (fun Z9 => Z9) sr_out)) hW_22
  exact g_iret C hr hlk hW_26 hS_23 dX8_ladleTotal_12 (by subst ew_25; exact ⟨(by first | rfl | (simp only [oM_ladleTotal, if_true, if_false]; first | done | rfl)), (by first | rfl | (simp only [oM_ladleTotal, if_true, if_false]; first | done | rfl))⟩)

def oM_ladleTemperature (w15 : Nat → Int32) (w16 : Nat → Int32) (x : Int32) : Int32 × (Nat → Int32) := ((oM_tellsOne (w15) (w16) (oM_isThree x) ((oM_ladle x) + 4)).1, ((oM_tellsOne (w15) (w16) (oM_isThree x) ((oM_ladle x) + 4)).2))
set_option maxHeartbeats 4000000 in
set_option maxRecDepth 100000 in
theorem cX8_ladleTemperature_ok (l : Launch) (G : GT) (X : St) (x : Int32) : MetI l G yX8_ladleTemperature (wsG yX8_ladleTemperature cX8_ladleTemperature 2 (some .int)) (rmz 2 42) [.ref (ad G 723), .int x] X (fun res Y => res = (oM_ladleTemperature (X.1 15) (X.1 16) x).1 ∧ Y = setRow (X) 15 ((oM_ladleTemperature (X.1 15) (X.1 16) x).2)) := by
  refine g_met (cc := cX8_ladleTemperature) (maxL := 2) (ret := (some .int)) (by decide) rfl (Nat.le_of_ble_eq_true rfl) ?_
  intro p e s m below meth c ls C hr hlk hnm hW hl
  have hx := C.1.1
  have hb := C.1.2.1
  have hS : va_S (Ab G) s.heap s.heap [] := va_S.rf
  have hl : lv_has ls 2 [(0, .ref (ad G 723)), (1, .int x)] := hl
  have hW : Wd G (setRow (X) 15 (X.1 15)) s.heap := Wd.cast ((sr_same (X := X) (r := 15) rfl)).symm hW
  refine lv_aload_n hx hb dX8_ladleTemperature_0 rfl (lv_at hl 0 rfl) ?_
  refine lv_iload_n hx hb dX8_ladleTemperature_1 rfl (lv_at hl 1 rfl) ?_
  refine g_calli (va_runS (As := [.int x]) (rest := [.ref (ad G 723)]) C.1 (cX8_isThree_ok l G (setRow X 15 (X.1 15)) x) (va_cwS 1 C.1.2.2.2.2 (gS qw_1565 qw_1566 qw_81 qw_1567) rfl rfl rfl (by decide +kernel) ⟨Nat.le_of_ble_eq_true rfl, Nat.le_of_ble_eq_true rfl⟩) (g_pre C hW hS [.int x]) rfl rfl hl.1 rfl (lv_room (Nat.le_of_ble_eq_true rfl)) dX8_ladleTemperature_2 ⟨Nat.zero_le _, Nat.zero_le _⟩) hS (fun r_2 Y_3 H_4 locs_5 hW_6 hS_7 h_1 => ?_)
  obtain ⟨h_1, hy_8⟩ := h_1
  replace hy_8 := hy_8.symm
  subst hy_8
  replace h_1 : r_2 = oM_isThree x := h_1
  subst h_1
  refine lv_iload_n hx hb dX8_ladleTemperature_5 rfl (lv_at hl 1 rfl) ?_
  refine g_calli (va_runS (As := [.int x]) (rest := [.int (oM_isThree x), .ref (ad G 723)]) C.1 (cX8_ladle_ok l G (setRow X 15 (X.1 15)) x) (va_cwS 1 C.1.2.2.2.2 (gS qw_1473 qw_1474 qw_81 qw_1475) rfl rfl rfl (by decide +kernel) ⟨Nat.le_of_ble_eq_true rfl, Nat.le_of_ble_eq_true rfl⟩) (g_pre C hW_6 hS_7 [.int x]) rfl rfl hl.1 rfl (lv_room (Nat.le_of_ble_eq_true rfl)) dX8_ladleTemperature_6 ⟨Nat.zero_le _, Nat.zero_le _⟩) hS_7 (fun r_10 Y_11 H_12 locs_13 hW_14 hS_15 h_9 => ?_)
  obtain ⟨h_9, hy_16⟩ := h_9
  replace hy_16 := hy_16.symm
  subst hy_16
  replace h_9 : r_10 = oM_ladle x := h_9
  subst h_9
  refine lv_iconst (v := 4) hx hb dX8_ladleTemperature_9 (by decide) ?_
  refine lv_iadd hx hb dX8_ladleTemperature_10 ?_
  refine g_calli (va_runV (As := [.int (oM_isThree x), .int ((oM_ladle x) + 4)]) (rest := []) C.1 (cX8_tellsOne_ok l G (setRow X 15 (X.1 15)) (oM_isThree x) ((oM_ladle x) + 4) (fun h9 => hat_ladp (k := 4) (j := 4) (by decide) rfl h9)) (cwV 2 C.1.2.2.2.2 (gV qw_1724 qw_1726 qw_55 qw_81 qw_1727) rfl rfl rfl (by decide +kernel) ⟨Nat.le_of_ble_eq_true rfl, Nat.le_of_ble_eq_true rfl⟩) (g_rModel C hW_14 hS_15 [.int (oM_isThree x), .int ((oM_ladle x) + 4)]) rfl rfl hl.1 rfl (lv_room (Nat.le_of_ble_eq_true rfl)) dX8_ladleTemperature_11 ⟨Nat.zero_le _, Nat.zero_le _⟩) hS_15 (fun r_18 Y_19 H_20 locs_21 hW_22 hS_23 h_17 => ?_)
  obtain ⟨h_24, h_17⟩ := h_17
  replace h_24 : r_18 = (oM_tellsOne (X.1 15) (X.1 16) (oM_isThree x) ((oM_ladle x) + 4)).1 := h_24
  subst h_24
  replace h_17 : Y_19 = setRow (setRow X 15 (X.1 15)) 15 ((oM_tellsOne (X.1 15) (X.1 16) (oM_isThree x) ((oM_ladle x) + 4)).2) := h_17
  obtain ⟨w_25, ew_25⟩ : ∃ Z9, Z9 = (oM_tellsOne (X.1 15) (X.1 16) (oM_isThree x) ((oM_ladle x) + 4)).2 := ⟨_, rfl⟩
  have qqw_25 : Y_19 = setRow (setRow X 15 (X.1 15)) 15 w_25 := by rw [h_17, ew_25]
  have hW_26 : Wd G (setRow X 15 w_25) H_20 := Wd.cast ((qqw_25).trans (congrArg (fun Z9 => Z9) sr_out)) hW_22
  exact g_iret C hr hlk hW_26 hS_23 dX8_ladleTemperature_14 (by subst ew_25; exact ⟨(by first | rfl | (simp only [oM_ladleTemperature, if_true, if_false]; first | done | rfl)), (by first | rfl | (simp only [oM_ladleTemperature, if_true, if_false]; first | done | rfl))⟩)

def oM_volume (w15 : Nat → Int32) (w16 : Nat → Int32) (x : Int32) : Int32 × (Nat → Int32) := ((oM_tellsOne (w15) (w16) (oM_isMould (w16) x) ((oM_mould x) + 4)).1, ((oM_tellsOne (w15) (w16) (oM_isMould (w16) x) ((oM_mould x) + 4)).2))
set_option maxHeartbeats 4000000 in
set_option maxRecDepth 100000 in
theorem cX8_volume_ok (l : Launch) (G : GT) (X : St) (x : Int32) (hm : MInv (X.1 16)) : MetI l G yX8_volume (wsG yX8_volume cX8_volume 2 (some .int)) (rmz 2 43) [.ref (ad G 723), .int x] X (fun res Y => res = (oM_volume (X.1 15) (X.1 16) x).1 ∧ Y = setRow (X) 15 ((oM_volume (X.1 15) (X.1 16) x).2)) := by
  refine g_met (cc := cX8_volume) (maxL := 2) (ret := (some .int)) (by decide) rfl (Nat.le_of_ble_eq_true rfl) ?_
  intro p e s m below meth c ls C hr hlk hnm hW hl
  have hx := C.1.1
  have hb := C.1.2.1
  have hS : va_S (Ab G) s.heap s.heap [] := va_S.rf
  have hl : lv_has ls 2 [(0, .ref (ad G 723)), (1, .int x)] := hl
  have hW : Wd G (setRow (X) 15 (X.1 15)) s.heap := Wd.cast ((sr_same (X := X) (r := 15) rfl)).symm hW
  refine lv_aload_n hx hb dX8_volume_0 rfl (lv_at hl 0 rfl) ?_
  refine lv_aload_n hx hb dX8_volume_1 rfl (lv_at hl 0 rfl) ?_
  refine lv_iload_n hx hb dX8_volume_2 rfl (lv_at hl 1 rfl) ?_
  refine g_calli (va_runV (As := [.int x]) (rest := [.ref (ad G 723)]) C.1 (cX8_isMould_ok l G (setRow X 15 (X.1 15)) x) (cwV 1 C.1.2.2.2.2 (gV qw_1666 qw_1668 qw_48 qw_81 qw_1669) rfl rfl rfl (by decide +kernel) ⟨Nat.le_of_ble_eq_true rfl, Nat.le_of_ble_eq_true rfl⟩) (g_rModel C hW hS [.int x]) rfl rfl hl.1 rfl (lv_room (Nat.le_of_ble_eq_true rfl)) dX8_volume_3 ⟨Nat.zero_le _, Nat.zero_le _⟩) hS (fun r_2 Y_3 H_4 locs_5 hW_6 hS_7 h_1 => ?_)
  obtain ⟨h_1, hy_8⟩ := h_1
  replace hy_8 := hy_8.symm
  subst hy_8
  replace h_1 : r_2 = oM_isMould (X.1 16) x := h_1
  subst h_1
  refine lv_iload_n hx hb dX8_volume_6 rfl (lv_at hl 1 rfl) ?_
  refine g_calli (va_runS (As := [.int x]) (rest := [.int (oM_isMould (X.1 16) x), .ref (ad G 723)]) C.1 (cX8_mould_ok l G (setRow X 15 (X.1 15)) x) (va_cwS 1 C.1.2.2.2.2 (gS qw_1655 qw_1656 qw_81 qw_1657) rfl rfl rfl (by decide +kernel) ⟨Nat.le_of_ble_eq_true rfl, Nat.le_of_ble_eq_true rfl⟩) (g_pre C hW_6 hS_7 [.int x]) rfl rfl hl.1 rfl (lv_room (Nat.le_of_ble_eq_true rfl)) dX8_volume_7 ⟨Nat.zero_le _, Nat.zero_le _⟩) hS_7 (fun r_10 Y_11 H_12 locs_13 hW_14 hS_15 h_9 => ?_)
  obtain ⟨h_9, hy_16⟩ := h_9
  replace hy_16 := hy_16.symm
  subst hy_16
  replace h_9 : r_10 = oM_mould x := h_9
  subst h_9
  refine lv_iconst (v := 4) hx hb dX8_volume_10 (by decide) ?_
  refine lv_iadd hx hb dX8_volume_11 ?_
  refine g_calli (va_runV (As := [.int (oM_isMould (X.1 16) x), .int ((oM_mould x) + 4)]) (rest := []) C.1 (cX8_tellsOne_ok l G (setRow X 15 (X.1 15)) (oM_isMould (X.1 16) x) ((oM_mould x) + 4) (fun h9 => hat_moup hm (k := 4) (j := 4) (by decide) rfl h9)) (cwV 2 C.1.2.2.2.2 (gV qw_1724 qw_1726 qw_55 qw_81 qw_1727) rfl rfl rfl (by decide +kernel) ⟨Nat.le_of_ble_eq_true rfl, Nat.le_of_ble_eq_true rfl⟩) (g_rModel C hW_14 hS_15 [.int (oM_isMould (X.1 16) x), .int ((oM_mould x) + 4)]) rfl rfl hl.1 rfl (lv_room (Nat.le_of_ble_eq_true rfl)) dX8_volume_12 ⟨Nat.zero_le _, Nat.zero_le _⟩) hS_15 (fun r_18 Y_19 H_20 locs_21 hW_22 hS_23 h_17 => ?_)
  obtain ⟨h_24, h_17⟩ := h_17
  replace h_24 : r_18 = (oM_tellsOne (X.1 15) (X.1 16) (oM_isMould (X.1 16) x) ((oM_mould x) + 4)).1 := h_24
  subst h_24
  replace h_17 : Y_19 = setRow (setRow X 15 (X.1 15)) 15 ((oM_tellsOne (X.1 15) (X.1 16) (oM_isMould (X.1 16) x) ((oM_mould x) + 4)).2) := h_17
  obtain ⟨w_25, ew_25⟩ : ∃ Z9, Z9 = (oM_tellsOne (X.1 15) (X.1 16) (oM_isMould (X.1 16) x) ((oM_mould x) + 4)).2 := ⟨_, rfl⟩
  have qqw_25 : Y_19 = setRow (setRow X 15 (X.1 15)) 15 w_25 := by rw [h_17, ew_25]
  have hW_26 : Wd G (setRow X 15 w_25) H_20 := Wd.cast ((qqw_25).trans (congrArg (fun Z9 => Z9) sr_out)) hW_22
  exact g_iret C hr hlk hW_26 hS_23 dX8_volume_15 (by subst ew_25; exact ⟨(by first | rfl | (simp only [oM_volume, if_true, if_false]; first | done | rfl)), (by first | rfl | (simp only [oM_volume, if_true, if_false]; first | done | rfl))⟩)

def oM_isFilled (w15 : Nat → Int32) (w16 : Nat → Int32) (x : Int32) : Int32 × (Nat → Int32) := if (oM_tellsOne (w15) (w16) (oM_isMould (w16) x) ((oM_mould x) + 5)).1 = 1 then (1, ((oM_tellsOne (w15) (w16) (oM_isMould (w16) x) ((oM_mould x) + 5)).2)) else (0, ((oM_tellsOne (w15) (w16) (oM_isMould (w16) x) ((oM_mould x) + 5)).2))
set_option maxHeartbeats 4000000 in
set_option maxRecDepth 100000 in
theorem cX8_isFilled_ok (l : Launch) (G : GT) (X : St) (x : Int32) (hm : MInv (X.1 16)) : MetI l G yX8_isFilled (wsG yX8_isFilled cX8_isFilled 2 (some .boolean)) (rmz 2 43) [.ref (ad G 723), .int x] X (fun res Y => res = (oM_isFilled (X.1 15) (X.1 16) x).1 ∧ Y = setRow (X) 15 ((oM_isFilled (X.1 15) (X.1 16) x).2)) := by
  refine g_met (cc := cX8_isFilled) (maxL := 2) (ret := (some .boolean)) (by decide) rfl (Nat.le_of_ble_eq_true rfl) ?_
  intro p e s m below meth c ls C hr hlk hnm hW hl
  have hx := C.1.1
  have hb := C.1.2.1
  have hS : va_S (Ab G) s.heap s.heap [] := va_S.rf
  have hl : lv_has ls 2 [(0, .ref (ad G 723)), (1, .int x)] := hl
  have hW : Wd G (setRow (X) 15 (X.1 15)) s.heap := Wd.cast ((sr_same (X := X) (r := 15) rfl)).symm hW
  refine lv_aload_n hx hb dX8_isFilled_0 rfl (lv_at hl 0 rfl) ?_
  refine lv_aload_n hx hb dX8_isFilled_1 rfl (lv_at hl 0 rfl) ?_
  refine lv_iload_n hx hb dX8_isFilled_2 rfl (lv_at hl 1 rfl) ?_
  refine g_calli (va_runV (As := [.int x]) (rest := [.ref (ad G 723)]) C.1 (cX8_isMould_ok l G (setRow X 15 (X.1 15)) x) (cwV 1 C.1.2.2.2.2 (gV qw_1666 qw_1668 qw_48 qw_81 qw_1669) rfl rfl rfl (by decide +kernel) ⟨Nat.le_of_ble_eq_true rfl, Nat.le_of_ble_eq_true rfl⟩) (g_rModel C hW hS [.int x]) rfl rfl hl.1 rfl (lv_room (Nat.le_of_ble_eq_true rfl)) dX8_isFilled_3 ⟨Nat.zero_le _, Nat.zero_le _⟩) hS (fun r_2 Y_3 H_4 locs_5 hW_6 hS_7 h_1 => ?_)
  obtain ⟨h_1, hy_8⟩ := h_1
  replace hy_8 := hy_8.symm
  subst hy_8
  replace h_1 : r_2 = oM_isMould (X.1 16) x := h_1
  subst h_1
  refine lv_iload_n hx hb dX8_isFilled_6 rfl (lv_at hl 1 rfl) ?_
  refine g_calli (va_runS (As := [.int x]) (rest := [.int (oM_isMould (X.1 16) x), .ref (ad G 723)]) C.1 (cX8_mould_ok l G (setRow X 15 (X.1 15)) x) (va_cwS 1 C.1.2.2.2.2 (gS qw_1655 qw_1656 qw_81 qw_1657) rfl rfl rfl (by decide +kernel) ⟨Nat.le_of_ble_eq_true rfl, Nat.le_of_ble_eq_true rfl⟩) (g_pre C hW_6 hS_7 [.int x]) rfl rfl hl.1 rfl (lv_room (Nat.le_of_ble_eq_true rfl)) dX8_isFilled_7 ⟨Nat.zero_le _, Nat.zero_le _⟩) hS_7 (fun r_10 Y_11 H_12 locs_13 hW_14 hS_15 h_9 => ?_)
  obtain ⟨h_9, hy_16⟩ := h_9
  replace hy_16 := hy_16.symm
  subst hy_16
  replace h_9 : r_10 = oM_mould x := h_9
  subst h_9
  refine lv_iconst (v := 5) hx hb dX8_isFilled_10 (by decide) ?_
  refine lv_iadd hx hb dX8_isFilled_11 ?_
  refine g_calli (va_runV (As := [.int (oM_isMould (X.1 16) x), .int ((oM_mould x) + 5)]) (rest := []) C.1 (cX8_tellsOne_ok l G (setRow X 15 (X.1 15)) (oM_isMould (X.1 16) x) ((oM_mould x) + 5) (fun h9 => hat_moup hm (k := 5) (j := 5) (by decide) rfl h9)) (cwV 2 C.1.2.2.2.2 (gV qw_1724 qw_1726 qw_55 qw_81 qw_1727) rfl rfl rfl (by decide +kernel) ⟨Nat.le_of_ble_eq_true rfl, Nat.le_of_ble_eq_true rfl⟩) (g_rModel C hW_14 hS_15 [.int (oM_isMould (X.1 16) x), .int ((oM_mould x) + 5)]) rfl rfl hl.1 rfl (lv_room (Nat.le_of_ble_eq_true rfl)) dX8_isFilled_12 ⟨Nat.zero_le _, Nat.zero_le _⟩) hS_15 (fun r_18 Y_19 H_20 locs_21 hW_22 hS_23 h_17 => ?_)
  obtain ⟨h_24, h_17⟩ := h_17
  replace h_24 : r_18 = (oM_tellsOne (X.1 15) (X.1 16) (oM_isMould (X.1 16) x) ((oM_mould x) + 5)).1 := h_24
  subst h_24
  replace h_17 : Y_19 = setRow (setRow X 15 (X.1 15)) 15 ((oM_tellsOne (X.1 15) (X.1 16) (oM_isMould (X.1 16) x) ((oM_mould x) + 5)).2) := h_17
  obtain ⟨w_25, ew_25⟩ : ∃ Z9, Z9 = (oM_tellsOne (X.1 15) (X.1 16) (oM_isMould (X.1 16) x) ((oM_mould x) + 5)).2 := ⟨_, rfl⟩
  have qqw_25 : Y_19 = setRow (setRow X 15 (X.1 15)) 15 w_25 := by rw [h_17, ew_25]
  have hW_26 : Wd G (setRow X 15 w_25) H_20 := Wd.cast ((qqw_25).trans (congrArg (fun Z9 => Z9) sr_out)) hW_22
  refine lv_iconst (v := 1) hx hb dX8_isFilled_15 (by decide) ?_
  refine lv_icmp_ne (tgt := 23) hx hb dX8_isFilled_16 (by decide) (fun b_27 => ?_) (fun b_27 => ?_)
  · refine lv_iconst (v := 0) hx hb dX8_isFilled_23 (by decide) ?_
    exact g_zret C hr hlk hW_26 hS_23 dX8_isFilled_24 rfl (by subst ew_25; exact ⟨(by first | rfl | (simp only [oM_isFilled, b_27, if_true, if_false]; first | done | rfl)), (by first | rfl | (simp only [oM_isFilled, b_27, if_true, if_false]; first | done | rfl))⟩)
  · refine lv_iconst (v := 1) hx hb dX8_isFilled_19 (by decide) ?_
    refine lv_goto (tgt := 24) hx hb dX8_isFilled_20 (by decide) ?_
    exact g_zret C hr hlk hW_26 hS_23 dX8_isFilled_24 rfl (by subst ew_25; exact ⟨(by first | rfl | (simp only [oM_isFilled, eq_true b_27, if_true, if_false]; first | done | rfl)), (by first | rfl | (simp only [oM_isFilled, eq_true b_27, if_true, if_false]; first | done | rfl))⟩)

def oM_mouldMass (w15 : Nat → Int32) (w16 : Nat → Int32) (x : Int32) (mt : Int32) : Int32 × (Nat → Int32) := ((oM_tells (w15) (w16) (oM_isMould (w16) x) (oM_mould x) mt).1, ((oM_tells (w15) (w16) (oM_isMould (w16) x) (oM_mould x) mt).2))
set_option maxHeartbeats 4000000 in
set_option maxRecDepth 100000 in
theorem cX8_mouldMass_ok (l : Launch) (G : GT) (X : St) (x : Int32) (mt : Int32) (hm : MInv (X.1 16)) : MetI l G yX8_mouldMass (wsG yX8_mouldMass cX8_mouldMass 3 (some .int)) (rmz 2 43) [.ref (ad G 723), .int x, .int mt] X (fun res Y => res = (oM_mouldMass (X.1 15) (X.1 16) x mt).1 ∧ Y = setRow (X) 15 ((oM_mouldMass (X.1 15) (X.1 16) x mt).2)) := by
  refine g_met (cc := cX8_mouldMass) (maxL := 3) (ret := (some .int)) (by decide) rfl (Nat.le_of_ble_eq_true rfl) ?_
  intro p e s m below meth c ls C hr hlk hnm hW hl
  have hx := C.1.1
  have hb := C.1.2.1
  have hS : va_S (Ab G) s.heap s.heap [] := va_S.rf
  have hl : lv_has ls 3 [(0, .ref (ad G 723)), (1, .int x), (2, .int mt)] := hl
  have hW : Wd G (setRow (X) 15 (X.1 15)) s.heap := Wd.cast ((sr_same (X := X) (r := 15) rfl)).symm hW
  refine lv_aload_n hx hb dX8_mouldMass_0 rfl (lv_at hl 0 rfl) ?_
  refine lv_aload_n hx hb dX8_mouldMass_1 rfl (lv_at hl 0 rfl) ?_
  refine lv_iload_n hx hb dX8_mouldMass_2 rfl (lv_at hl 1 rfl) ?_
  refine g_calli (va_runV (As := [.int x]) (rest := [.ref (ad G 723)]) C.1 (cX8_isMould_ok l G (setRow X 15 (X.1 15)) x) (cwV 1 C.1.2.2.2.2 (gV qw_1666 qw_1668 qw_48 qw_81 qw_1669) rfl rfl rfl (by decide +kernel) ⟨Nat.le_of_ble_eq_true rfl, Nat.le_of_ble_eq_true rfl⟩) (g_rModel C hW hS [.int x]) rfl rfl hl.1 rfl (lv_room (Nat.le_of_ble_eq_true rfl)) dX8_mouldMass_3 ⟨Nat.zero_le _, Nat.zero_le _⟩) hS (fun r_2 Y_3 H_4 locs_5 hW_6 hS_7 h_1 => ?_)
  obtain ⟨h_1, hy_8⟩ := h_1
  replace hy_8 := hy_8.symm
  subst hy_8
  replace h_1 : r_2 = oM_isMould (X.1 16) x := h_1
  subst h_1
  refine lv_iload_n hx hb dX8_mouldMass_6 rfl (lv_at hl 1 rfl) ?_
  refine g_calli (va_runS (As := [.int x]) (rest := [.int (oM_isMould (X.1 16) x), .ref (ad G 723)]) C.1 (cX8_mould_ok l G (setRow X 15 (X.1 15)) x) (va_cwS 1 C.1.2.2.2.2 (gS qw_1655 qw_1656 qw_81 qw_1657) rfl rfl rfl (by decide +kernel) ⟨Nat.le_of_ble_eq_true rfl, Nat.le_of_ble_eq_true rfl⟩) (g_pre C hW_6 hS_7 [.int x]) rfl rfl hl.1 rfl (lv_room (Nat.le_of_ble_eq_true rfl)) dX8_mouldMass_7 ⟨Nat.zero_le _, Nat.zero_le _⟩) hS_7 (fun r_10 Y_11 H_12 locs_13 hW_14 hS_15 h_9 => ?_)
  obtain ⟨h_9, hy_16⟩ := h_9
  replace hy_16 := hy_16.symm
  subst hy_16
  replace h_9 : r_10 = oM_mould x := h_9
  subst h_9
  refine lv_iload_n hx hb dX8_mouldMass_10 rfl (lv_at hl 2 rfl) ?_
  refine g_calli (va_runV (As := [.int (oM_isMould (X.1 16) x), .int (oM_mould x), .int mt]) (rest := []) C.1 (cX8_tells_ok l G (setRow X 15 (X.1 15)) (oM_isMould (X.1 16) x) (oM_mould x) mt (fun h9 => hat_mou hm (n := 4) (by decide) h9)) (cwV 3 C.1.2.2.2.2 (gV qw_1708 qw_1710 qw_53 qw_81 qw_1711) rfl rfl rfl (by decide +kernel) ⟨Nat.le_of_ble_eq_true rfl, Nat.le_of_ble_eq_true rfl⟩) (g_rModel C hW_14 hS_15 [.int (oM_isMould (X.1 16) x), .int (oM_mould x), .int mt]) rfl rfl hl.1 rfl (lv_room (Nat.le_of_ble_eq_true rfl)) dX8_mouldMass_11 ⟨Nat.zero_le _, Nat.zero_le _⟩) hS_15 (fun r_18 Y_19 H_20 locs_21 hW_22 hS_23 h_17 => ?_)
  obtain ⟨h_24, h_17⟩ := h_17
  replace h_24 : r_18 = (oM_tells (X.1 15) (X.1 16) (oM_isMould (X.1 16) x) (oM_mould x) mt).1 := h_24
  subst h_24
  replace h_17 : Y_19 = setRow (setRow X 15 (X.1 15)) 15 ((oM_tells (X.1 15) (X.1 16) (oM_isMould (X.1 16) x) (oM_mould x) mt).2) := h_17
  obtain ⟨w_25, ew_25⟩ : ∃ Z9, Z9 = (oM_tells (X.1 15) (X.1 16) (oM_isMould (X.1 16) x) (oM_mould x) mt).2 := ⟨_, rfl⟩
  have qqw_25 : Y_19 = setRow (setRow X 15 (X.1 15)) 15 w_25 := by rw [h_17, ew_25]
  have hW_26 : Wd G (setRow X 15 w_25) H_20 := Wd.cast ((qqw_25).trans (congrArg (fun Z9 => Z9) sr_out)) hW_22
  exact g_iret C hr hlk hW_26 hS_23 dX8_mouldMass_14 (by subst ew_25; exact ⟨(by first | rfl | (simp only [oM_mouldMass, if_true, if_false]; first | done | rfl)), (by first | rfl | (simp only [oM_mouldMass, if_true, if_false]; first | done | rfl))⟩)

def oM_ingotMass (w15 : Nat → Int32) (w16 : Nat → Int32) (x : Int32) (mt : Int32) : Int32 × (Nat → Int32) := ((oM_tells (w15) (w16) (oM_isIngot (w16) x) (oM_ingot x) mt).1, ((oM_tells (w15) (w16) (oM_isIngot (w16) x) (oM_ingot x) mt).2))
set_option maxHeartbeats 4000000 in
set_option maxRecDepth 100000 in
theorem cX8_ingotMass_ok (l : Launch) (G : GT) (X : St) (x : Int32) (mt : Int32) (hm : MInv (X.1 16)) : MetI l G yX8_ingotMass (wsG yX8_ingotMass cX8_ingotMass 3 (some .int)) (rmz 2 43) [.ref (ad G 723), .int x, .int mt] X (fun res Y => res = (oM_ingotMass (X.1 15) (X.1 16) x mt).1 ∧ Y = setRow (X) 15 ((oM_ingotMass (X.1 15) (X.1 16) x mt).2)) := by
  refine g_met (cc := cX8_ingotMass) (maxL := 3) (ret := (some .int)) (by decide) rfl (Nat.le_of_ble_eq_true rfl) ?_
  intro p e s m below meth c ls C hr hlk hnm hW hl
  have hx := C.1.1
  have hb := C.1.2.1
  have hS : va_S (Ab G) s.heap s.heap [] := va_S.rf
  have hl : lv_has ls 3 [(0, .ref (ad G 723)), (1, .int x), (2, .int mt)] := hl
  have hW : Wd G (setRow (X) 15 (X.1 15)) s.heap := Wd.cast ((sr_same (X := X) (r := 15) rfl)).symm hW
  refine lv_aload_n hx hb dX8_ingotMass_0 rfl (lv_at hl 0 rfl) ?_
  refine lv_aload_n hx hb dX8_ingotMass_1 rfl (lv_at hl 0 rfl) ?_
  refine lv_iload_n hx hb dX8_ingotMass_2 rfl (lv_at hl 1 rfl) ?_
  refine g_calli (va_runV (As := [.int x]) (rest := [.ref (ad G 723)]) C.1 (cX8_isIngot_ok l G (setRow X 15 (X.1 15)) x) (cwV 1 C.1.2.2.2.2 (gV qw_1689 qw_1691 qw_51 qw_81 qw_1692) rfl rfl rfl (by decide +kernel) ⟨Nat.le_of_ble_eq_true rfl, Nat.le_of_ble_eq_true rfl⟩) (g_rModel C hW hS [.int x]) rfl rfl hl.1 rfl (lv_room (Nat.le_of_ble_eq_true rfl)) dX8_ingotMass_3 ⟨Nat.zero_le _, Nat.zero_le _⟩) hS (fun r_2 Y_3 H_4 locs_5 hW_6 hS_7 h_1 => ?_)
  obtain ⟨h_1, hy_8⟩ := h_1
  replace hy_8 := hy_8.symm
  subst hy_8
  replace h_1 : r_2 = oM_isIngot (X.1 16) x := h_1
  subst h_1
  refine lv_iload_n hx hb dX8_ingotMass_6 rfl (lv_at hl 1 rfl) ?_
  refine g_calli (va_runS (As := [.int x]) (rest := [.int (oM_isIngot (X.1 16) x), .ref (ad G 723)]) C.1 (cX8_ingot_ok l G (setRow X 15 (X.1 15)) x) (va_cwS 1 C.1.2.2.2.2 (gS qw_1678 qw_1679 qw_81 qw_1680) rfl rfl rfl (by decide +kernel) ⟨Nat.le_of_ble_eq_true rfl, Nat.le_of_ble_eq_true rfl⟩) (g_pre C hW_6 hS_7 [.int x]) rfl rfl hl.1 rfl (lv_room (Nat.le_of_ble_eq_true rfl)) dX8_ingotMass_7 ⟨Nat.zero_le _, Nat.zero_le _⟩) hS_7 (fun r_10 Y_11 H_12 locs_13 hW_14 hS_15 h_9 => ?_)
  obtain ⟨h_9, hy_16⟩ := h_9
  replace hy_16 := hy_16.symm
  subst hy_16
  replace h_9 : r_10 = oM_ingot x := h_9
  subst h_9
  refine lv_iload_n hx hb dX8_ingotMass_10 rfl (lv_at hl 2 rfl) ?_
  refine g_calli (va_runV (As := [.int (oM_isIngot (X.1 16) x), .int (oM_ingot x), .int mt]) (rest := []) C.1 (cX8_tells_ok l G (setRow X 15 (X.1 15)) (oM_isIngot (X.1 16) x) (oM_ingot x) mt (fun h9 => hat_ing hm (n := 4) (by decide) h9)) (cwV 3 C.1.2.2.2.2 (gV qw_1708 qw_1710 qw_53 qw_81 qw_1711) rfl rfl rfl (by decide +kernel) ⟨Nat.le_of_ble_eq_true rfl, Nat.le_of_ble_eq_true rfl⟩) (g_rModel C hW_14 hS_15 [.int (oM_isIngot (X.1 16) x), .int (oM_ingot x), .int mt]) rfl rfl hl.1 rfl (lv_room (Nat.le_of_ble_eq_true rfl)) dX8_ingotMass_11 ⟨Nat.zero_le _, Nat.zero_le _⟩) hS_15 (fun r_18 Y_19 H_20 locs_21 hW_22 hS_23 h_17 => ?_)
  obtain ⟨h_24, h_17⟩ := h_17
  replace h_24 : r_18 = (oM_tells (X.1 15) (X.1 16) (oM_isIngot (X.1 16) x) (oM_ingot x) mt).1 := h_24
  subst h_24
  replace h_17 : Y_19 = setRow (setRow X 15 (X.1 15)) 15 ((oM_tells (X.1 15) (X.1 16) (oM_isIngot (X.1 16) x) (oM_ingot x) mt).2) := h_17
  obtain ⟨w_25, ew_25⟩ : ∃ Z9, Z9 = (oM_tells (X.1 15) (X.1 16) (oM_isIngot (X.1 16) x) (oM_ingot x) mt).2 := ⟨_, rfl⟩
  have qqw_25 : Y_19 = setRow (setRow X 15 (X.1 15)) 15 w_25 := by rw [h_17, ew_25]
  have hW_26 : Wd G (setRow X 15 w_25) H_20 := Wd.cast ((qqw_25).trans (congrArg (fun Z9 => Z9) sr_out)) hW_22
  exact g_iret C hr hlk hW_26 hS_23 dX8_ingotMass_14 (by subst ew_25; exact ⟨(by first | rfl | (simp only [oM_ingotMass, if_true, if_false]; first | done | rfl)), (by first | rfl | (simp only [oM_ingotMass, if_true, if_false]; first | done | rfl))⟩)

def oM_mouldCount (w15 : Nat → Int32) (w16 : Nat → Int32) : Int32 × (Nat → Int32) := (w16 (42), (upd (w15) (0) 0))
set_option maxHeartbeats 4000000 in
set_option maxRecDepth 100000 in
theorem cX8_mouldCount_ok (l : Launch) (G : GT) (X : St) : MetI l G yX8_mouldCount (wsG yX8_mouldCount cX8_mouldCount 1 (some .int)) (rmz 0 0) [.ref (ad G 723)] X (fun res Y => res = (oM_mouldCount (X.1 15) (X.1 16)).1 ∧ Y = setRow (X) 15 ((oM_mouldCount (X.1 15) (X.1 16)).2)) := by
  refine g_met (cc := cX8_mouldCount) (maxL := 1) (ret := (some .int)) (by decide) rfl (Nat.le_of_ble_eq_true rfl) ?_
  intro p e s m below meth c ls C hr hlk hnm hW hl
  have hx := C.1.1
  have hb := C.1.2.1
  have hS : va_S (Ab G) s.heap s.heap [] := va_S.rf
  have hl : lv_has ls 1 [(0, .ref (ad G 723))] := hl
  have hW : Wd G (setRow (X) 15 (X.1 15)) s.heap := Wd.cast ((sr_same (X := X) (r := 15) rfl)).symm hW
  refine lv_aload_n hx hb dX8_mouldCount_0 rfl (lv_at hl 0 rfl) ?_
  refine lv_iconst (v := 0) hx hb dX8_mouldCount_1 (by decide) ?_
  refine gM_thrownP C hW hS (hwc hwX8) (mc qw_1476) dX8_mouldCount_2 (fun H_1 locs_2 hW_3 hS_4 => ?_)
  obtain ⟨w_5, ew_5⟩ : ∃ Z9, Z9 = upd (X.1 15) (0) 0 := ⟨_, rfl⟩
  have kn_6 : w_5 (0) = 0 := by rw [ew_5]; exact pk_us
  have hW_7 : Wd G (setRow X 15 w_5) H_1 := Wd.cast (by rw [ew_5]; exact st_out) hW_3
  refine lv_aload_n hx hb dX8_mouldCount_5 rfl (lv_at hl 0 rfl) ?_
  refine gM_v C hW_7 (hwc hwX8) (mc qw_1481) dX8_mouldCount_6 ?_
  refine lv_bipush (v := 42) hx hb dX8_mouldCount_9 (by decide) ?_
  refine gm_vld C hW_7 42 (by decide) (vlit (by decide)) dX8_mouldCount_11 ?_
  refine g_top (y := X.1 16 (42)) (congrFun (rd_in (by decide) rfl) _) ?_
  exact g_iret C hr hlk hW_7 hS_4 dX8_mouldCount_12 (by subst ew_5; exact ⟨(by first | rfl | (simp only [oM_mouldCount, if_true, if_false]; first | done | rfl)), (by first | rfl | (simp only [oM_mouldCount, if_true, if_false]; first | done | rfl))⟩)

def oM_ingotCount (w15 : Nat → Int32) (w16 : Nat → Int32) : Int32 × (Nat → Int32) := (w16 (43), (upd (w15) (0) 0))
set_option maxHeartbeats 4000000 in
set_option maxRecDepth 100000 in
theorem cX8_ingotCount_ok (l : Launch) (G : GT) (X : St) : MetI l G yX8_ingotCount (wsG yX8_ingotCount cX8_ingotCount 1 (some .int)) (rmz 0 0) [.ref (ad G 723)] X (fun res Y => res = (oM_ingotCount (X.1 15) (X.1 16)).1 ∧ Y = setRow (X) 15 ((oM_ingotCount (X.1 15) (X.1 16)).2)) := by
  refine g_met (cc := cX8_ingotCount) (maxL := 1) (ret := (some .int)) (by decide) rfl (Nat.le_of_ble_eq_true rfl) ?_
  intro p e s m below meth c ls C hr hlk hnm hW hl
  have hx := C.1.1
  have hb := C.1.2.1
  have hS : va_S (Ab G) s.heap s.heap [] := va_S.rf
  have hl : lv_has ls 1 [(0, .ref (ad G 723))] := hl
  have hW : Wd G (setRow (X) 15 (X.1 15)) s.heap := Wd.cast ((sr_same (X := X) (r := 15) rfl)).symm hW
  refine lv_aload_n hx hb dX8_ingotCount_0 rfl (lv_at hl 0 rfl) ?_
  refine lv_iconst (v := 0) hx hb dX8_ingotCount_1 (by decide) ?_
  refine gM_thrownP C hW hS (hwc hwX8) (mc qw_1476) dX8_ingotCount_2 (fun H_1 locs_2 hW_3 hS_4 => ?_)
  obtain ⟨w_5, ew_5⟩ : ∃ Z9, Z9 = upd (X.1 15) (0) 0 := ⟨_, rfl⟩
  have kn_6 : w_5 (0) = 0 := by rw [ew_5]; exact pk_us
  have hW_7 : Wd G (setRow X 15 w_5) H_1 := Wd.cast (by rw [ew_5]; exact st_out) hW_3
  refine lv_aload_n hx hb dX8_ingotCount_5 rfl (lv_at hl 0 rfl) ?_
  refine gM_v C hW_7 (hwc hwX8) (mc qw_1481) dX8_ingotCount_6 ?_
  refine lv_bipush (v := 43) hx hb dX8_ingotCount_9 (by decide) ?_
  refine gm_vld C hW_7 43 (by decide) (vlit (by decide)) dX8_ingotCount_11 ?_
  refine g_top (y := X.1 16 (43)) (congrFun (rd_in (by decide) rfl) _) ?_
  exact g_iret C hr hlk hW_7 hS_4 dX8_ingotCount_12 (by subst ew_5; exact ⟨(by first | rfl | (simp only [oM_ingotCount, if_true, if_false]; first | done | rfl)), (by first | rfl | (simp only [oM_ingotCount, if_true, if_false]; first | done | rfl))⟩)

def oM_time (w15 : Nat → Int32) (w16 : Nat → Int32) : Int32 × (Nat → Int32) := (w16 (0), (upd (w15) (0) 0))
set_option maxHeartbeats 4000000 in
set_option maxRecDepth 100000 in
theorem cX8_time_ok (l : Launch) (G : GT) (X : St) : MetI l G yX8_time (wsG yX8_time cX8_time 1 (some .int)) (rmz 0 0) [.ref (ad G 723)] X (fun res Y => res = (oM_time (X.1 15) (X.1 16)).1 ∧ Y = setRow (X) 15 ((oM_time (X.1 15) (X.1 16)).2)) := by
  refine g_met (cc := cX8_time) (maxL := 1) (ret := (some .int)) (by decide) rfl (Nat.le_of_ble_eq_true rfl) ?_
  intro p e s m below meth c ls C hr hlk hnm hW hl
  have hx := C.1.1
  have hb := C.1.2.1
  have hS : va_S (Ab G) s.heap s.heap [] := va_S.rf
  have hl : lv_has ls 1 [(0, .ref (ad G 723))] := hl
  have hW : Wd G (setRow (X) 15 (X.1 15)) s.heap := Wd.cast ((sr_same (X := X) (r := 15) rfl)).symm hW
  refine lv_aload_n hx hb dX8_time_0 rfl (lv_at hl 0 rfl) ?_
  refine lv_iconst (v := 0) hx hb dX8_time_1 (by decide) ?_
  refine gM_thrownP C hW hS (hwc hwX8) (mc qw_1476) dX8_time_2 (fun H_1 locs_2 hW_3 hS_4 => ?_)
  obtain ⟨w_5, ew_5⟩ : ∃ Z9, Z9 = upd (X.1 15) (0) 0 := ⟨_, rfl⟩
  have kn_6 : w_5 (0) = 0 := by rw [ew_5]; exact pk_us
  have hW_7 : Wd G (setRow X 15 w_5) H_1 := Wd.cast (by rw [ew_5]; exact st_out) hW_3
  refine lv_aload_n hx hb dX8_time_5 rfl (lv_at hl 0 rfl) ?_
  refine gM_v C hW_7 (hwc hwX8) (mc qw_1481) dX8_time_6 ?_
  refine lv_iconst (v := 0) hx hb dX8_time_9 (by decide) ?_
  refine gm_vld C hW_7 0 (by decide) (vlit (by decide)) dX8_time_10 ?_
  refine g_top (y := X.1 16 (0)) (congrFun (rd_in (by decide) rfl) _) ?_
  exact g_iret C hr hlk hW_7 hS_4 dX8_time_11 (by subst ew_5; exact ⟨(by first | rfl | (simp only [oM_time, if_true, if_false]; first | done | rfl)), (by first | rfl | (simp only [oM_time, if_true, if_false]; first | done | rfl))⟩)

def oM_meltingPoint (w15 : Nat → Int32) (w16 : Nat → Int32) (w21 : Nat → Int32) (x : Int32) : Int32 × (Nat → Int32) := if oM_isThree x = 0 then (0, (upd (w15) (0) 1)) else (if oM_mass (w16) (9 + 6 * x.toNatClampNeg) = 0 then (0, (upd (w15) (0) 2)) else (oM_point (w16) (w21) (9 + 6 * x.toNatClampNeg), (upd (w15) (0) 0)))
set_option maxHeartbeats 4000000 in
set_option maxRecDepth 100000 in
theorem cX8_meltingPoint_ok (l : Launch) (G : GT) (X : St) (x : Int32) : MetI l G yX8_meltingPoint (wsG yX8_meltingPoint cX8_meltingPoint 2 (some .int)) (rmz 2 44) [.ref (ad G 723), .int x] X (fun res Y => res = (oM_meltingPoint (X.1 15) (X.1 16) (X.1 21) x).1 ∧ Y = setRow (X) 15 ((oM_meltingPoint (X.1 15) (X.1 16) (X.1 21) x).2)) := by
  refine g_met (cc := cX8_meltingPoint) (maxL := 2) (ret := (some .int)) (by decide) rfl (Nat.le_of_ble_eq_true rfl) ?_
  intro p e s m below meth c ls C hr hlk hnm hW hl
  have hx := C.1.1
  have hb := C.1.2.1
  have hS : va_S (Ab G) s.heap s.heap [] := va_S.rf
  have hl : lv_has ls 2 [(0, .ref (ad G 723)), (1, .int x)] := hl
  have hW : Wd G (setRow (X) 15 (X.1 15)) s.heap := Wd.cast ((sr_same (X := X) (r := 15) rfl)).symm hW
  refine lv_aload_n hx hb dX8_meltingPoint_0 rfl (lv_at hl 0 rfl) ?_
  refine lv_iload_n hx hb dX8_meltingPoint_1 rfl (lv_at hl 1 rfl) ?_
  refine g_calli (va_runS (As := [.int x]) (rest := [.ref (ad G 723)]) C.1 (cX8_isThree_ok l G (setRow X 15 (X.1 15)) x) (va_cwS 1 C.1.2.2.2.2 (gS qw_1565 qw_1566 qw_81 qw_1567) rfl rfl rfl (by decide +kernel) ⟨Nat.le_of_ble_eq_true rfl, Nat.le_of_ble_eq_true rfl⟩) (g_pre C hW hS [.int x]) rfl rfl hl.1 rfl (lv_room (Nat.le_of_ble_eq_true rfl)) dX8_meltingPoint_2 ⟨Nat.zero_le _, Nat.zero_le _⟩) hS (fun r_2 Y_3 H_4 locs_5 hW_6 hS_7 h_1 => ?_)
  obtain ⟨h_1, hy_8⟩ := h_1
  replace hy_8 := hy_8.symm
  subst hy_8
  replace h_1 : r_2 = oM_isThree x := h_1
  subst h_1
  refine lv_if_ne (tgt := 12) hx hb dX8_meltingPoint_5 (by decide) (fun b_9 => ?_) (fun b_9 => ?_)
  · obtain ⟨f_10, hf_10, rfl⟩ := three_in b_9
    refine lv_aload_n hx hb dX8_meltingPoint_12 rfl (lv_at hl 0 rfl) ?_
    refine lv_iload_n hx hb dX8_meltingPoint_13 rfl (lv_at hl 1 rfl) ?_
    refine g_calli (va_runS (As := [.int (nI f_10)]) (rest := [.ref (ad G 723), .ref (ad G 723)]) C.1 (cX8_furnace_ok l G (setRow X 15 (X.1 15)) (nI f_10)) (va_cwS 1 C.1.2.2.2.2 (gS qw_1470 qw_1471 qw_81 qw_1472) rfl rfl rfl (by decide +kernel) ⟨Nat.le_of_ble_eq_true rfl, Nat.le_of_ble_eq_true rfl⟩) (g_pre C hW_6 hS_7 [.int (nI f_10)]) rfl rfl hl.1 rfl (lv_room (Nat.le_of_ble_eq_true rfl)) dX8_meltingPoint_14 ⟨Nat.zero_le _, Nat.zero_le _⟩) hS_7 (fun r_12 Y_13 H_14 locs_15 hW_16 hS_17 h_11 => ?_)
    obtain ⟨h_11, hy_18⟩ := h_11
    replace hy_18 := hy_18.symm
    subst hy_18
    replace h_11 : r_12 = oM_furnace (nI f_10) := h_11
    subst h_11
    refine g_top (y := nI (9 + 6 * f_10)) (at_furnace f_10) ?_
    refine g_calli (va_runV (As := [.int (nI (9 + 6 * f_10))]) (rest := [.ref (ad G 723)]) C.1 (cX8_mass_ok l G (setRow X 15 (X.1 15)) (9 + 6 * f_10) (show 9 + 6 * f_10 + 4 ≤ 128 by omega)) (cwV 1 C.1.2.2.2.2 (gV qw_1575 qw_1577 qw_32 qw_81 qw_1578) rfl rfl rfl (by decide +kernel) ⟨Nat.le_of_ble_eq_true rfl, Nat.le_of_ble_eq_true rfl⟩) (g_rModel C hW_16 hS_17 [.int (nI (9 + 6 * f_10))]) rfl rfl hl.1 rfl (lv_room (Nat.le_of_ble_eq_true rfl)) dX8_meltingPoint_17 ⟨Nat.zero_le _, Nat.zero_le _⟩) hS_17 (fun r_20 Y_21 H_22 locs_23 hW_24 hS_25 h_19 => ?_)
    obtain ⟨h_19, hy_26⟩ := h_19
    replace hy_26 := hy_26.symm
    subst hy_26
    replace h_19 : r_20 = oM_mass (X.1 16) (9 + 6 * f_10) := h_19
    subst h_19
    refine lv_if_ne (tgt := 27) hx hb dX8_meltingPoint_20 (by decide) (fun b_27 => ?_) (fun b_27 => ?_)
    · refine lv_iconst (v := 0) hx hb dX8_meltingPoint_27 (by decide) ?_
      refine gM_thrownP C hW_24 hS_25 (hwc hwX8) (mc qw_1476) dX8_meltingPoint_28 (fun H_28 locs_29 hW_30 hS_31 => ?_)
      obtain ⟨w_32, ew_32⟩ : ∃ Z9, Z9 = upd (X.1 15) (0) 0 := ⟨_, rfl⟩
      have kn_33 : w_32 (0) = 0 := by rw [ew_32]; exact pk_us
      have hW_34 : Wd G (setRow X 15 w_32) H_28 := Wd.cast (by rw [ew_32]; exact st_out) hW_30
      refine lv_aload_n hx hb dX8_meltingPoint_31 rfl (lv_at hl 0 rfl) ?_
      refine gM_thrown C hW_34 (hwc hwX8) (mc qw_1476) dX8_meltingPoint_32 ?_
      refine g_top (y := w_32 (0)) (congrFun rd_out _) ?_
      refine g_top (y := 0) kn_33 ?_
      refine lv_if_ne (tgt := 49) hx hb dX8_meltingPoint_35 (by decide) (fun h9 => absurd h9 (by decide)) (fun _ => ?_)
      refine lv_aload_n hx hb dX8_meltingPoint_38 rfl (lv_at hl 0 rfl) ?_
      refine lv_iload_n hx hb dX8_meltingPoint_39 rfl (lv_at hl 1 rfl) ?_
      refine g_calli (va_runS (As := [.int (nI f_10)]) (rest := [.ref (ad G 723)]) C.1 (cX8_furnace_ok l G (setRow X 15 w_32) (nI f_10)) (va_cwS 1 C.1.2.2.2.2 (gS qw_1470 qw_1471 qw_81 qw_1472) rfl rfl rfl (by decide +kernel) ⟨Nat.le_of_ble_eq_true rfl, Nat.le_of_ble_eq_true rfl⟩) (g_pre C hW_34 hS_31 [.int (nI f_10)]) rfl rfl hl.1 rfl (lv_room (Nat.le_of_ble_eq_true rfl)) dX8_meltingPoint_40 ⟨Nat.zero_le _, Nat.zero_le _⟩) hS_31 (fun r_36 Y_37 H_38 locs_39 hW_40 hS_41 h_35 => ?_)
      obtain ⟨h_35, hy_42⟩ := h_35
      replace hy_42 := hy_42.symm
      subst hy_42
      replace h_35 : r_36 = oM_furnace (nI f_10) := h_35
      subst h_35
      refine g_top (y := nI (9 + 6 * f_10)) (at_furnace f_10) ?_
      refine g_calli (va_runV (As := [.int (nI (9 + 6 * f_10))]) (rest := []) C.1 (cX8_point_ok l G (setRow X 15 w_32) (9 + 6 * f_10) (show 9 + 6 * f_10 + 4 ≤ 128 by omega) b_27) (cwV 1 C.1.2.2.2.2 (gV qw_1615 qw_1617 qw_40 qw_81 qw_1618) rfl rfl rfl (by decide +kernel) ⟨Nat.le_of_ble_eq_true rfl, Nat.le_of_ble_eq_true rfl⟩) (g_rModel C hW_40 hS_41 [.int (nI (9 + 6 * f_10))]) rfl rfl hl.1 rfl (lv_room (Nat.le_of_ble_eq_true rfl)) dX8_meltingPoint_43 ⟨Nat.zero_le _, Nat.zero_le _⟩) hS_41 (fun r_44 Y_45 H_46 locs_47 hW_48 hS_49 h_43 => ?_)
      obtain ⟨h_43, hy_50⟩ := h_43
      replace hy_50 := hy_50.symm
      subst hy_50
      replace h_43 : r_44 = oM_point (X.1 16) (X.1 21) (9 + 6 * f_10) := h_43
      subst h_43
      refine lv_goto (tgt := 50) hx hb dX8_meltingPoint_46 (by decide) ?_
      exact g_iret C hr hlk hW_48 hS_49 dX8_meltingPoint_50 (by subst ew_32; exact ⟨(by first | rfl | (simp only [oM_meltingPoint, clf (show f_10 < 2 ^ 31 by omega), b_9, b_27, if_true, if_false]; first | done | rfl)), (by first | rfl | (simp only [oM_meltingPoint, clf (show f_10 < 2 ^ 31 by omega), b_9, b_27, if_true, if_false]; first | done | rfl))⟩)
    · refine lv_iconst (v := 2) hx hb dX8_meltingPoint_23 (by decide) ?_
      refine lv_goto (tgt := 28) hx hb dX8_meltingPoint_24 (by decide) ?_
      refine gM_thrownP C hW_24 hS_25 (hwc hwX8) (mc qw_1476) dX8_meltingPoint_28 (fun H_51 locs_52 hW_53 hS_54 => ?_)
      obtain ⟨w_55, ew_55⟩ : ∃ Z9, Z9 = upd (X.1 15) (0) 2 := ⟨_, rfl⟩
      have kn_56 : w_55 (0) = 2 := by rw [ew_55]; exact pk_us
      have hW_57 : Wd G (setRow X 15 w_55) H_51 := Wd.cast (by rw [ew_55]; exact st_out) hW_53
      refine lv_aload_n hx hb dX8_meltingPoint_31 rfl (lv_at hl 0 rfl) ?_
      refine gM_thrown C hW_57 (hwc hwX8) (mc qw_1476) dX8_meltingPoint_32 ?_
      refine g_top (y := w_55 (0)) (congrFun rd_out _) ?_
      refine g_top (y := 2) kn_56 ?_
      refine lv_if_ne (tgt := 49) hx hb dX8_meltingPoint_35 (by decide) (fun _ => ?_) (fun h9 => absurd h9 (by decide))
      refine lv_iconst (v := 0) hx hb dX8_meltingPoint_49 (by decide) ?_
      exact g_iret C hr hlk hW_57 hS_54 dX8_meltingPoint_50 (by subst ew_55; exact ⟨(by first | rfl | (simp only [oM_meltingPoint, clf (show f_10 < 2 ^ 31 by omega), b_9, eq_true b_27, if_true, if_false]; first | done | rfl)), (by first | rfl | (simp only [oM_meltingPoint, clf (show f_10 < 2 ^ 31 by omega), b_9, eq_true b_27, if_true, if_false]; first | done | rfl))⟩)
  · refine lv_iconst (v := 1) hx hb dX8_meltingPoint_8 (by decide) ?_
    refine lv_goto (tgt := 28) hx hb dX8_meltingPoint_9 (by decide) ?_
    refine gM_thrownP C hW_6 hS_7 (hwc hwX8) (mc qw_1476) dX8_meltingPoint_28 (fun H_58 locs_59 hW_60 hS_61 => ?_)
    obtain ⟨w_62, ew_62⟩ : ∃ Z9, Z9 = upd (X.1 15) (0) 1 := ⟨_, rfl⟩
    have kn_63 : w_62 (0) = 1 := by rw [ew_62]; exact pk_us
    have hW_64 : Wd G (setRow X 15 w_62) H_58 := Wd.cast (by rw [ew_62]; exact st_out) hW_60
    refine lv_aload_n hx hb dX8_meltingPoint_31 rfl (lv_at hl 0 rfl) ?_
    refine gM_thrown C hW_64 (hwc hwX8) (mc qw_1476) dX8_meltingPoint_32 ?_
    refine g_top (y := w_62 (0)) (congrFun rd_out _) ?_
    refine g_top (y := 1) kn_63 ?_
    refine lv_if_ne (tgt := 49) hx hb dX8_meltingPoint_35 (by decide) (fun _ => ?_) (fun h9 => absurd h9 (by decide))
    refine lv_iconst (v := 0) hx hb dX8_meltingPoint_49 (by decide) ?_
    exact g_iret C hr hlk hW_64 hS_61 dX8_meltingPoint_50 (by subst ew_62; exact ⟨(by first | rfl | (simp only [oM_meltingPoint, eq_true b_9, if_true, if_false]; first | done | rfl)), (by first | rfl | (simp only [oM_meltingPoint, eq_true b_9, if_true, if_false]; first | done | rfl))⟩)

def oM_meltingPointByDifferences (w15 : Nat → Int32) (w16 : Nat → Int32) (w21 : Nat → Int32) (x : Int32) : Int32 × (Nat → Int32) := ((oM_meltingPoint (w15) (w16) (w21) x).1, ((oM_meltingPoint (w15) (w16) (w21) x).2))
set_option maxHeartbeats 4000000 in
set_option maxRecDepth 100000 in
theorem cX8_meltingPointByDifferences_ok (l : Launch) (G : GT) (X : St) (x : Int32) : MetI l G yX8_meltingPointByDifferences (wsG yX8_meltingPointByDifferences cX8_meltingPointByDifferences 2 (some .int)) (rmz 3 65) [.ref (ad G 723), .int x] X (fun res Y => res = (oM_meltingPointByDifferences (X.1 15) (X.1 16) (X.1 21) x).1 ∧ Y = setRow (X) 15 ((oM_meltingPointByDifferences (X.1 15) (X.1 16) (X.1 21) x).2)) := by
  refine g_met (cc := cX8_meltingPointByDifferences) (maxL := 2) (ret := (some .int)) (by decide) rfl (Nat.le_of_ble_eq_true rfl) ?_
  intro p e s m below meth c ls C hr hlk hnm hW hl
  have hx := C.1.1
  have hb := C.1.2.1
  have hS : va_S (Ab G) s.heap s.heap [] := va_S.rf
  have hl : lv_has ls 2 [(0, .ref (ad G 723)), (1, .int x)] := hl
  have hW : Wd G (setRow (X) 15 (X.1 15)) s.heap := Wd.cast ((sr_same (X := X) (r := 15) rfl)).symm hW
  refine lv_aload_n hx hb dX8_meltingPointByDifferences_0 rfl (lv_at hl 0 rfl) ?_
  refine lv_iload_n hx hb dX8_meltingPointByDifferences_1 rfl (lv_at hl 1 rfl) ?_
  refine g_calli (va_runV (As := [.int x]) (rest := []) C.1 (cX8_meltingPoint_ok l G (setRow X 15 (X.1 15)) x) (cwV 1 C.1.2.2.2.2 (gV qw_1740 qw_1733 qw_1734 qw_81 qw_1735) rfl rfl rfl (by decide +kernel) ⟨Nat.le_of_ble_eq_true rfl, Nat.le_of_ble_eq_true rfl⟩) (g_rModel C hW hS [.int x]) rfl rfl hl.1 rfl (lv_room (Nat.le_of_ble_eq_true rfl)) dX8_meltingPointByDifferences_2 ⟨Nat.zero_le _, Nat.zero_le _⟩) hS (fun r_2 Y_3 H_4 locs_5 hW_6 hS_7 h_1 => ?_)
  obtain ⟨h_8, h_1⟩ := h_1
  replace h_8 : r_2 = (oM_meltingPoint (X.1 15) (X.1 16) (X.1 21) x).1 := h_8
  subst h_8
  replace h_1 : Y_3 = setRow (setRow X 15 (X.1 15)) 15 ((oM_meltingPoint (X.1 15) (X.1 16) (X.1 21) x).2) := h_1
  obtain ⟨w_9, ew_9⟩ : ∃ Z9, Z9 = (oM_meltingPoint (X.1 15) (X.1 16) (X.1 21) x).2 := ⟨_, rfl⟩
  have qqw_9 : Y_3 = setRow (setRow X 15 (X.1 15)) 15 w_9 := by rw [h_1, ew_9]
  have hW_10 : Wd G (setRow X 15 w_9) H_4 := Wd.cast ((qqw_9).trans (congrArg (fun Z9 => Z9) sr_out)) hW_6
  exact g_iret C hr hlk hW_10 hS_7 dX8_meltingPointByDifferences_5 (by subst ew_9; exact ⟨(by first | rfl | (simp only [oM_meltingPointByDifferences, if_true, if_false]; first | done | rfl)), (by first | rfl | (simp only [oM_meltingPointByDifferences, if_true, if_false]; first | done | rfl))⟩)

def oM_isMolten (w15 : Nat → Int32) (w16 : Nat → Int32) (w21 : Nat → Int32) (x : Int32) : Int32 × (Nat → Int32) := if oM_isThree x = 0 then (0, (upd (w15) (0) 1)) else (if oM_isFluid (w16) (w21) (9 + 6 * x.toNatClampNeg) = 0 then (0, (upd (w15) (0) 0)) else (1, (upd (w15) (0) 0)))
set_option maxHeartbeats 4000000 in
set_option maxRecDepth 100000 in
theorem cX8_isMolten_ok (l : Launch) (G : GT) (X : St) (x : Int32) : MetI l G yX8_isMolten (wsG yX8_isMolten cX8_isMolten 2 (some .boolean)) (rmz 3 65) [.ref (ad G 723), .int x] X (fun res Y => res = (oM_isMolten (X.1 15) (X.1 16) (X.1 21) x).1 ∧ Y = setRow (X) 15 ((oM_isMolten (X.1 15) (X.1 16) (X.1 21) x).2)) := by
  refine g_met (cc := cX8_isMolten) (maxL := 2) (ret := (some .boolean)) (by decide) rfl (Nat.le_of_ble_eq_true rfl) ?_
  intro p e s m below meth c ls C hr hlk hnm hW hl
  have hx := C.1.1
  have hb := C.1.2.1
  have hS : va_S (Ab G) s.heap s.heap [] := va_S.rf
  have hl : lv_has ls 2 [(0, .ref (ad G 723)), (1, .int x)] := hl
  have hW : Wd G (setRow (X) 15 (X.1 15)) s.heap := Wd.cast ((sr_same (X := X) (r := 15) rfl)).symm hW
  refine lv_aload_n hx hb dX8_isMolten_0 rfl (lv_at hl 0 rfl) ?_
  refine lv_iload_n hx hb dX8_isMolten_1 rfl (lv_at hl 1 rfl) ?_
  refine g_calli (va_runS (As := [.int x]) (rest := [.ref (ad G 723)]) C.1 (cX8_isThree_ok l G (setRow X 15 (X.1 15)) x) (va_cwS 1 C.1.2.2.2.2 (gS qw_1565 qw_1566 qw_81 qw_1567) rfl rfl rfl (by decide +kernel) ⟨Nat.le_of_ble_eq_true rfl, Nat.le_of_ble_eq_true rfl⟩) (g_pre C hW hS [.int x]) rfl rfl hl.1 rfl (lv_room (Nat.le_of_ble_eq_true rfl)) dX8_isMolten_2 ⟨Nat.zero_le _, Nat.zero_le _⟩) hS (fun r_2 Y_3 H_4 locs_5 hW_6 hS_7 h_1 => ?_)
  obtain ⟨h_1, hy_8⟩ := h_1
  replace hy_8 := hy_8.symm
  subst hy_8
  replace h_1 : r_2 = oM_isThree x := h_1
  subst h_1
  refine lv_if_eq (tgt := 12) hx hb dX8_isMolten_5 (by decide) (fun b_9 => ?_) (fun b_9 => ?_)
  · refine lv_iconst (v := 1) hx hb dX8_isMolten_12 (by decide) ?_
    refine gM_thrownP C hW_6 hS_7 (hwc hwX8) (mc qw_1476) dX8_isMolten_13 (fun H_10 locs_11 hW_12 hS_13 => ?_)
    obtain ⟨w_14, ew_14⟩ : ∃ Z9, Z9 = upd (X.1 15) (0) 1 := ⟨_, rfl⟩
    have kn_15 : w_14 (0) = 1 := by rw [ew_14]; exact pk_us
    have hW_16 : Wd G (setRow X 15 w_14) H_10 := Wd.cast (by rw [ew_14]; exact st_out) hW_12
    refine lv_aload_n hx hb dX8_isMolten_16 rfl (lv_at hl 0 rfl) ?_
    refine gM_thrown C hW_16 (hwc hwX8) (mc qw_1476) dX8_isMolten_17 ?_
    refine g_top (y := w_14 (0)) (congrFun rd_out _) ?_
    refine g_top (y := 1) kn_15 ?_
    refine lv_if_ne (tgt := 38) hx hb dX8_isMolten_20 (by decide) (fun _ => ?_) (fun h9 => absurd h9 (by decide))
    refine lv_iconst (v := 0) hx hb dX8_isMolten_38 (by decide) ?_
    exact g_zret C hr hlk hW_16 hS_13 dX8_isMolten_39 rfl (by subst ew_14; exact ⟨(by first | rfl | (simp only [oM_isMolten, eq_true b_9, if_true, if_false]; first | done | rfl)), (by first | rfl | (simp only [oM_isMolten, eq_true b_9, if_true, if_false]; first | done | rfl))⟩)
  · obtain ⟨f_17, hf_17, rfl⟩ := three_in b_9
    refine lv_iconst (v := 0) hx hb dX8_isMolten_8 (by decide) ?_
    refine lv_goto (tgt := 13) hx hb dX8_isMolten_9 (by decide) ?_
    refine gM_thrownP C hW_6 hS_7 (hwc hwX8) (mc qw_1476) dX8_isMolten_13 (fun H_18 locs_19 hW_20 hS_21 => ?_)
    obtain ⟨w_22, ew_22⟩ : ∃ Z9, Z9 = upd (X.1 15) (0) 0 := ⟨_, rfl⟩
    have kn_23 : w_22 (0) = 0 := by rw [ew_22]; exact pk_us
    have hW_24 : Wd G (setRow X 15 w_22) H_18 := Wd.cast (by rw [ew_22]; exact st_out) hW_20
    refine lv_aload_n hx hb dX8_isMolten_16 rfl (lv_at hl 0 rfl) ?_
    refine gM_thrown C hW_24 (hwc hwX8) (mc qw_1476) dX8_isMolten_17 ?_
    refine g_top (y := w_22 (0)) (congrFun rd_out _) ?_
    refine g_top (y := 0) kn_23 ?_
    refine lv_if_ne (tgt := 38) hx hb dX8_isMolten_20 (by decide) (fun h9 => absurd h9 (by decide)) (fun _ => ?_)
    refine lv_aload_n hx hb dX8_isMolten_23 rfl (lv_at hl 0 rfl) ?_
    refine lv_iload_n hx hb dX8_isMolten_24 rfl (lv_at hl 1 rfl) ?_
    refine g_calli (va_runS (As := [.int (nI f_17)]) (rest := [.ref (ad G 723)]) C.1 (cX8_furnace_ok l G (setRow X 15 w_22) (nI f_17)) (va_cwS 1 C.1.2.2.2.2 (gS qw_1470 qw_1471 qw_81 qw_1472) rfl rfl rfl (by decide +kernel) ⟨Nat.le_of_ble_eq_true rfl, Nat.le_of_ble_eq_true rfl⟩) (g_pre C hW_24 hS_21 [.int (nI f_17)]) rfl rfl hl.1 rfl (lv_room (Nat.le_of_ble_eq_true rfl)) dX8_isMolten_25 ⟨Nat.zero_le _, Nat.zero_le _⟩) hS_21 (fun r_26 Y_27 H_28 locs_29 hW_30 hS_31 h_25 => ?_)
    obtain ⟨h_25, hy_32⟩ := h_25
    replace hy_32 := hy_32.symm
    subst hy_32
    replace h_25 : r_26 = oM_furnace (nI f_17) := h_25
    subst h_25
    refine g_top (y := nI (9 + 6 * f_17)) (at_furnace f_17) ?_
    refine g_calli (va_runV (As := [.int (nI (9 + 6 * f_17))]) (rest := []) C.1 (cX8_isFluid_ok l G (setRow X 15 w_22) (9 + 6 * f_17) (show 9 + 6 * f_17 + 5 ≤ 128 by omega)) (cwV 1 C.1.2.2.2.2 (gV qw_1611 qw_1613 qw_39 qw_81 qw_1614) rfl rfl rfl (by decide +kernel) ⟨Nat.le_of_ble_eq_true rfl, Nat.le_of_ble_eq_true rfl⟩) (g_rModel C hW_30 hS_31 [.int (nI (9 + 6 * f_17))]) rfl rfl hl.1 rfl (lv_room (Nat.le_of_ble_eq_true rfl)) dX8_isMolten_28 ⟨Nat.zero_le _, Nat.zero_le _⟩) hS_31 (fun r_34 Y_35 H_36 locs_37 hW_38 hS_39 h_33 => ?_)
    obtain ⟨h_33, hy_40⟩ := h_33
    replace hy_40 := hy_40.symm
    subst hy_40
    replace h_33 : r_34 = oM_isFluid (X.1 16) (X.1 21) (9 + 6 * f_17) := h_33
    subst h_33
    refine lv_if_eq (tgt := 38) hx hb dX8_isMolten_31 (by decide) (fun b_41 => ?_) (fun b_41 => ?_)
    · refine lv_iconst (v := 0) hx hb dX8_isMolten_38 (by decide) ?_
      exact g_zret C hr hlk hW_38 hS_39 dX8_isMolten_39 rfl (by subst ew_22; exact ⟨(by first | rfl | (simp only [oM_isMolten, clf (show f_17 < 2 ^ 31 by omega), b_9, eq_true b_41, if_true, if_false]; first | done | rfl)), (by first | rfl | (simp only [oM_isMolten, clf (show f_17 < 2 ^ 31 by omega), b_9, eq_true b_41, if_true, if_false]; first | done | rfl))⟩)
    · refine lv_iconst (v := 1) hx hb dX8_isMolten_34 (by decide) ?_
      refine lv_goto (tgt := 39) hx hb dX8_isMolten_35 (by decide) ?_
      exact g_zret C hr hlk hW_38 hS_39 dX8_isMolten_39 rfl (by subst ew_22; exact ⟨(by first | rfl | (simp only [oM_isMolten, clf (show f_17 < 2 ^ 31 by omega), b_9, b_41, if_true, if_false]; first | done | rfl)), (by first | rfl | (simp only [oM_isMolten, clf (show f_17 < 2 ^ 31 by omega), b_9, b_41, if_true, if_false]; first | done | rfl))⟩)

def oM_minutesUntilMolten (w15 : Nat → Int32) (w16 : Nat → Int32) (w21 : Nat → Int32) (x : Int32) : Int32 × (Nat → Int32) := 
  if oM_isThree x = 0 then ((oM_fail w15 1).1, (oM_fail w15 1).2)
  else if oM_mass w16 (9 + 6 * x.toNatClampNeg) = 0 then (0, upd w15 0 2)
  else if w16 (9 + 6 * x.toNatClampNeg + 5) = 0 then (if oM_isFluid w16 w21 (9 + 6 * x.toNatClampNeg) = 0 then (0, upd w15 0 2) else (0, upd w15 0 0))
  else if oM_isFluid w16 w21 (9 + 6 * x.toNatClampNeg) = 0 then (wtM (w16 (9 + 6 * x.toNatClampNeg + 4)) (10 * w16 (9 + 6 * x.toNatClampNeg + 5) - 5) (oM_point w16 w21 (9 + 6 * x.toNatClampNeg)) 1200 0, upd w15 0 0)
  else (0, upd w15 0 0)
set_option maxHeartbeats 4000000 in
set_option maxRecDepth 100000 in
theorem cX8_minutesUntilMolten_ok (l : Launch) (G : GT) (X : St) (x : Int32) (hm : MInv (X.1 16)) (hp : PtsOk (X.1 21)) : MetI l G yX8_minutesUntilMolten (wsG yX8_minutesUntilMolten cX8_minutesUntilMolten 5 (some .int)) (rmz 3 65) [.ref (ad G 723), .int x] X (fun res Y => res = (oM_minutesUntilMolten (X.1 15) (X.1 16) (X.1 21) x).1 ∧ Y = setRow (X) 15 ((oM_minutesUntilMolten (X.1 15) (X.1 16) (X.1 21) x).2)) := by
  refine g_met (cc := cX8_minutesUntilMolten) (maxL := 5) (ret := (some .int)) (by decide) rfl (Nat.le_of_ble_eq_true rfl) ?_
  intro p e s m below meth c ls C hr hlk hnm hW hl
  have hx := C.1.1
  have hb := C.1.2.1
  have hS : va_S (Ab G) s.heap s.heap [] := va_S.rf
  have hl : lv_has ls 5 [(0, .ref (ad G 723)), (1, .int x)] := hl
  have hW : Wd G (setRow (X) 15 (X.1 15)) s.heap := Wd.cast ((sr_same (X := X) (r := 15) rfl)).symm hW
  refine lv_iload_n hx hb dX8_minutesUntilMolten_0 rfl (lv_at hl 1 rfl) ?_
  refine g_calli (va_runS (As := [.int x]) (rest := []) C.1 (cX8_isThree_ok l G (setRow X 15 (X.1 15)) x) (va_cwS 1 C.1.2.2.2.2 (gS qw_1565 qw_1566 qw_81 qw_1567) rfl rfl rfl (by decide +kernel) ⟨Nat.le_of_ble_eq_true rfl, Nat.le_of_ble_eq_true rfl⟩) (g_pre C hW hS [.int x]) rfl rfl hl.1 rfl (lv_room (Nat.le_of_ble_eq_true rfl)) dX8_minutesUntilMolten_1 ⟨Nat.zero_le _, Nat.zero_le _⟩) hS (fun r_2 Y_3 H_4 locs_5 hW_6 hS_7 h_1 => ?_)
  obtain ⟨h_1, hy_8⟩ := h_1
  replace hy_8 := hy_8.symm
  subst hy_8
  replace h_1 : r_2 = oM_isThree x := h_1
  subst h_1
  refine lv_if_ne (tgt := 13) hx hb dX8_minutesUntilMolten_4 (by decide) (fun b_9 => ?_) (fun b_9 => ?_)
  · obtain ⟨f_10, hf_10, rfl⟩ := three_in b_9
    refine lv_iload_n hx hb dX8_minutesUntilMolten_13 rfl (lv_at hl 1 rfl) ?_
    refine g_calli (va_runS (As := [.int (nI f_10)]) (rest := []) C.1 (cX8_furnace_ok l G (setRow X 15 (X.1 15)) (nI f_10)) (va_cwS 1 C.1.2.2.2.2 (gS qw_1470 qw_1471 qw_81 qw_1472) rfl rfl rfl (by decide +kernel) ⟨Nat.le_of_ble_eq_true rfl, Nat.le_of_ble_eq_true rfl⟩) (g_pre C hW_6 hS_7 [.int (nI f_10)]) rfl rfl hl.1 rfl (lv_room (Nat.le_of_ble_eq_true rfl)) dX8_minutesUntilMolten_14 ⟨Nat.zero_le _, Nat.zero_le _⟩) hS_7 (fun r_12 Y_13 H_14 locs_15 hW_16 hS_17 h_11 => ?_)
    obtain ⟨h_11, hy_18⟩ := h_11
    replace hy_18 := hy_18.symm
    subst hy_18
    replace h_11 : r_12 = oM_furnace (nI f_10) := h_11
    subst h_11
    refine g_top (y := nI (9 + 6 * f_10)) (at_furnace f_10) ?_
    refine lv_istore_n (lv' := [(2, .int (nI (9 + 6 * f_10))), (0, .ref (ad G 723)), (1, .int (nI f_10))]) hx hb dX8_minutesUntilMolten_17 rfl hl (by decide) rfl (fun ls_19 hl_20 => ?_)
    refine lv_iconst (v := 0) hx hb dX8_minutesUntilMolten_18 (by decide) ?_
    refine lv_istore_n (lv' := [(3, .int 0), (2, .int (nI (9 + 6 * f_10))), (0, .ref (ad G 723)), (1, .int (nI f_10))]) hx hb dX8_minutesUntilMolten_19 rfl hl_20 (by decide) rfl (fun ls_21 hl_22 => ?_)
    refine lv_bipush (v := 10) hx hb dX8_minutesUntilMolten_20 (by decide) ?_
    refine lv_aload_n hx hb dX8_minutesUntilMolten_22 rfl (lv_at hl_22 2 rfl) ?_
    refine gM_v C hW_16 (hwc hwX8) (mc qw_1481) dX8_minutesUntilMolten_23 ?_
    refine lv_iload_n hx hb dX8_minutesUntilMolten_26 rfl (lv_at hl_22 1 rfl) ?_
    refine lv_iconst (v := 5) hx hb dX8_minutesUntilMolten_27 (by decide) ?_
    refine lv_iadd hx hb dX8_minutesUntilMolten_28 ?_
    refine g_top (y := nI ((9 + 6 * f_10) + 5)) (nI_add (9 + 6 * f_10) 5) ?_
    refine gm_vld C hW_16 ((9 + 6 * f_10) + 5) (nI_clamp (by omega)) (vp_in_nI (show (9 + 6 * f_10) + 5 < 128 by omega) (by decide)) dX8_minutesUntilMolten_29 ?_
    refine g_top (y := X.1 16 ((9 + 6 * f_10) + 5)) (congrFun (rd_in (by decide) rfl) _) ?_
    refine lv_imul hx hb dX8_minutesUntilMolten_30 ?_
    refine lv_iconst (v := 5) hx hb dX8_minutesUntilMolten_31 (by decide) ?_
    refine lv_isub hx hb dX8_minutesUntilMolten_32 ?_
    refine lv_topi (fun v_23 ev_23 => ?_)
    refine lv_istore (lv' := [(4, .int v_23), (3, .int 0), (2, .int (nI (9 + 6 * f_10))), (0, .ref (ad G 723)), (1, .int (nI f_10))]) hx hb dX8_minutesUntilMolten_33 hl_22 (by decide) rfl (fun ls_24 hl_25 => ?_)
    refine lv_aload_n hx hb dX8_minutesUntilMolten_35 rfl (lv_at hl_25 3 rfl) ?_
    refine lv_aload_n hx hb dX8_minutesUntilMolten_36 rfl (lv_at hl_25 3 rfl) ?_
    refine lv_iload_n hx hb dX8_minutesUntilMolten_37 rfl (lv_at hl_25 2 rfl) ?_
    refine g_calli (va_runV (As := [.int (nI (9 + 6 * f_10))]) (rest := [.ref (ad G 723)]) C.1 (cX8_mass_ok l G (setRow X 15 (X.1 15)) (9 + 6 * f_10) (show 9 + 6 * f_10 + 4 ≤ 128 by omega)) (cwV 1 C.1.2.2.2.2 (gV qw_1575 qw_1577 qw_32 qw_81 qw_1578) rfl rfl rfl (by decide +kernel) ⟨Nat.le_of_ble_eq_true rfl, Nat.le_of_ble_eq_true rfl⟩) (g_rModel C hW_16 hS_17 [.int (nI (9 + 6 * f_10))]) rfl rfl hl_25.1 rfl (lv_room (Nat.le_of_ble_eq_true rfl)) dX8_minutesUntilMolten_38 ⟨Nat.zero_le _, Nat.zero_le _⟩) hS_17 (fun r_27 Y_28 H_29 locs_30 hW_31 hS_32 h_26 => ?_)
    obtain ⟨h_26, hy_33⟩ := h_26
    replace hy_33 := hy_33.symm
    subst hy_33
    replace h_26 : r_27 = oM_mass (X.1 16) (9 + 6 * f_10) := h_26
    subst h_26
    refine lv_if_eq (tgt := 63) hx hb dX8_minutesUntilMolten_41 (by decide) (fun b_34 => ?_) (fun b_34 => ?_)
    · refine lv_iconst (v := 2) hx hb dX8_minutesUntilMolten_63 (by decide) ?_
      refine lv_goto (tgt := 68) hx hb dX8_minutesUntilMolten_64 (by decide) ?_
      refine gM_thrownP C hW_31 hS_32 (hwc hwX8) (mc qw_1476) dX8_minutesUntilMolten_68 (fun H_35 locs_36 hW_37 hS_38 => ?_)
      obtain ⟨w_39, ew_39⟩ : ∃ Z9, Z9 = upd (X.1 15) (0) 2 := ⟨_, rfl⟩
      have kn_40 : w_39 (0) = 2 := by rw [ew_39]; exact pk_us
      have hW_41 : Wd G (setRow X 15 w_39) H_35 := Wd.cast (by rw [ew_39]; exact st_out) hW_37
      refine lv_aload_n hx hb dX8_minutesUntilMolten_71 rfl (lv_at hl_25 3 rfl) ?_
      refine gM_thrown C hW_41 (hwc hwX8) (mc qw_1476) dX8_minutesUntilMolten_72 ?_
      refine g_top (y := w_39 (0)) (congrFun rd_out _) ?_
      refine g_top (y := 2) kn_40 ?_
      refine lv_if_ne (tgt := 86) hx hb dX8_minutesUntilMolten_75 (by decide) (fun _ => ?_) (fun h9 => absurd h9 (by decide))
      refine lv_iconst (v := 0) hx hb dX8_minutesUntilMolten_86 (by decide) ?_
      exact g_iret C hr hlk hW_41 hS_38 dX8_minutesUntilMolten_87 (by subst ew_39; subst ev_23; exact ⟨(by simp only [oM_minutesUntilMolten, clf (show f_10 < 2 ^ 31 by omega), b_9, eq_true b_34, if_true, if_false]), (by simp only [oM_minutesUntilMolten, clf (show f_10 < 2 ^ 31 by omega), b_9, eq_true b_34, if_true, if_false])⟩)
    · refine lv_aload_n hx hb dX8_minutesUntilMolten_44 rfl (lv_at hl_25 3 rfl) ?_
      refine gM_v C hW_31 (hwc hwX8) (mc qw_1481) dX8_minutesUntilMolten_45 ?_
      refine lv_iload_n hx hb dX8_minutesUntilMolten_48 rfl (lv_at hl_25 2 rfl) ?_
      refine lv_iconst (v := 5) hx hb dX8_minutesUntilMolten_49 (by decide) ?_
      refine lv_iadd hx hb dX8_minutesUntilMolten_50 ?_
      refine g_top (y := nI ((9 + 6 * f_10) + 5)) (nI_add (9 + 6 * f_10) 5) ?_
      refine gm_vld C hW_31 ((9 + 6 * f_10) + 5) (nI_clamp (by omega)) (vp_in_nI (show (9 + 6 * f_10) + 5 < 128 by omega) (by decide)) dX8_minutesUntilMolten_51 ?_
      refine g_top (y := X.1 16 ((9 + 6 * f_10) + 5)) (congrFun (rd_in (by decide) rfl) _) ?_
      refine lv_if_ne (tgt := 67) hx hb dX8_minutesUntilMolten_52 (by decide) (fun b_42 => ?_) (fun b_42 => ?_)
      · refine lv_iconst (v := 0) hx hb dX8_minutesUntilMolten_67 (by decide) ?_
        refine gM_thrownP C hW_31 hS_32 (hwc hwX8) (mc qw_1476) dX8_minutesUntilMolten_68 (fun H_43 locs_44 hW_45 hS_46 => ?_)
        obtain ⟨w_47, ew_47⟩ : ∃ Z9, Z9 = upd (X.1 15) (0) 0 := ⟨_, rfl⟩
        have kn_48 : w_47 (0) = 0 := by rw [ew_47]; exact pk_us
        have hW_49 : Wd G (setRow X 15 w_47) H_43 := Wd.cast (by rw [ew_47]; exact st_out) hW_45
        refine lv_aload_n hx hb dX8_minutesUntilMolten_71 rfl (lv_at hl_25 3 rfl) ?_
        refine gM_thrown C hW_49 (hwc hwX8) (mc qw_1476) dX8_minutesUntilMolten_72 ?_
        refine g_top (y := w_47 (0)) (congrFun rd_out _) ?_
        refine g_top (y := 0) kn_48 ?_
        refine lv_if_ne (tgt := 86) hx hb dX8_minutesUntilMolten_75 (by decide) (fun h9 => absurd h9 (by decide)) (fun _ => ?_)
        refine lv_aload_n hx hb dX8_minutesUntilMolten_78 rfl (lv_at hl_25 3 rfl) ?_
        refine lv_iload_n hx hb dX8_minutesUntilMolten_79 rfl (lv_at hl_25 2 rfl) ?_
        refine g_calli (va_runV (As := [.int (nI (9 + 6 * f_10))]) (rest := []) C.1 (cX8_isFluid_ok l G (setRow X 15 w_47) (9 + 6 * f_10) (show 9 + 6 * f_10 + 5 ≤ 128 by omega)) (cwV 1 C.1.2.2.2.2 (gV qw_1611 qw_1613 qw_39 qw_81 qw_1614) rfl rfl rfl (by decide +kernel) ⟨Nat.le_of_ble_eq_true rfl, Nat.le_of_ble_eq_true rfl⟩) (g_rModel C hW_49 hS_46 [.int (nI (9 + 6 * f_10))]) rfl rfl hl_25.1 rfl (lv_room (Nat.le_of_ble_eq_true rfl)) dX8_minutesUntilMolten_80 ⟨Nat.zero_le _, Nat.zero_le _⟩) hS_46 (fun r_51 Y_52 H_53 locs_54 hW_55 hS_56 h_50 => ?_)
        obtain ⟨h_50, hy_57⟩ := h_50
        replace hy_57 := hy_57.symm
        subst hy_57
        replace h_50 : r_51 = oM_isFluid (X.1 16) (X.1 21) (9 + 6 * f_10) := h_50
        subst h_50
        refine lv_if_eq (tgt := 88) hx hb dX8_minutesUntilMolten_83 (by decide) (fun b_58 => ?_) (fun b_58 => ?_)
        · obtain ⟨hh, hh1, hh2, ehh⟩ := hm.2.2.2.2.1 f_10 (by omega)
          obtain ⟨ff, hff, eff⟩ := hm.2.2.2.2.2.1 f_10 (by omega)
          have ehh : X.1 16 (9 + 6 * f_10 + 4) = nI hh := by rw [show 9 + 6 * f_10 + 4 = 13 + 6 * f_10 by omega]; exact ehh
          have eff : X.1 16 (9 + 6 * f_10 + 5) = nI ff := by rw [show 9 + 6 * f_10 + 5 = 14 + 6 * f_10 by omega]; exact eff
          have hff0 : 0 < ff := Nat.pos_of_ne_zero (fun q9 => b_42 (by rw [eff, q9]; rfl))
          obtain ⟨pp, hpp, epp⟩ := point_le hp (hm.1 f_10 (by omega)) b_34
          obtain ⟨bb, hbb1, hbb2, ebb⟩ : ∃ bb, 5 ≤ bb ∧ bb ≤ 45 ∧ v_23 = nI bb := ⟨10 * ff - 5, by omega, by omega, by rw [ev_23, eff]; exact by_nat hff0⟩
          have loop : ∀ (q : Nat) (kk : Nat) (H : Heap) (locs : List Loc) (ls : Array Slot), kk + q = 1200 → wtM (X.1 16 (9 + 6 * f_10 + 4)) v_23 (oM_point (X.1 16) (X.1 21) (9 + 6 * f_10)) q kk = wtM (X.1 16 (9 + 6 * f_10 + 4)) v_23 (oM_point (X.1 16) (X.1 21) (9 + 6 * f_10)) 1200 0 → Wd G (setRow X 15 w_47) H → va_S (Ab G) s.heap H locs → lv_has ls 5 [(3, .int (nI kk)), (0, .ref (ad G 723)), (2, .int (nI (9 + 6 * f_10))), (4, .int v_23)] → W p l e (rmz 3 65) s m ([.ref (ad G 723), .int (nI f_10)] : List Value).toArray below meth c H locs 0 0 (MQ below (Ki G (fun res Y => res = (oM_minutesUntilMolten (X.1 15) (X.1 16) (X.1 21) (nI f_10)).1 ∧ Y = setRow (X) 15 ((oM_minutesUntilMolten (X.1 15) (X.1 16) (X.1 21) (nI f_10)).2))) ([.ref (ad G 723), .int (nI f_10)] : List Value).toArray s 0 0 (Ab G)) (F0 m 88 ls []) := by
            intro q
            induction q with
            | zero =>
              intro kk H locs ls hq hf hW hS hl
              refine lv_aload_n hx hb dX8_minutesUntilMolten_88 rfl (lv_at hl 1 rfl) ?_
              refine gM_v C hW (hwc hwX8) (mc qw_1481) dX8_minutesUntilMolten_89 ?_
              refine lv_iload_n hx hb dX8_minutesUntilMolten_92 rfl (lv_at hl 2 rfl) ?_
              refine lv_iconst (v := 4) hx hb dX8_minutesUntilMolten_93 (by decide) ?_
              refine lv_iadd hx hb dX8_minutesUntilMolten_94 ?_
              refine g_top (y := nI ((9 + 6 * f_10) + 4)) (nI_add (9 + 6 * f_10) 4) ?_
              refine gm_vld C hW ((9 + 6 * f_10) + 4) (nI_clamp (by omega)) (vp_in_nI (show (9 + 6 * f_10) + 4 < 128 by omega) (by decide)) dX8_minutesUntilMolten_95 ?_
              refine g_top (y := X.1 16 ((9 + 6 * f_10) + 4)) (congrFun (rd_in (by decide) rfl) _) ?_
              refine lv_iload_n hx hb dX8_minutesUntilMolten_96 rfl (lv_at hl 0 rfl) ?_
              refine lv_iload hx hb dX8_minutesUntilMolten_97 (lv_at hl 3 rfl) ?_
              refine lv_imul hx hb dX8_minutesUntilMolten_99 ?_
              refine lv_iadd hx hb dX8_minutesUntilMolten_100 ?_
              refine lv_aload_n hx hb dX8_minutesUntilMolten_101 rfl (lv_at hl 1 rfl) ?_
              refine lv_iload_n hx hb dX8_minutesUntilMolten_102 rfl (lv_at hl 2 rfl) ?_
              refine g_calli (va_runV (As := [.int (nI (9 + 6 * f_10))]) (rest := [.int ((X.1 16 ((9 + 6 * f_10) + 4)) + ((nI kk) * v_23))]) C.1 (cX8_point_ok l G (setRow X 15 w_47) (9 + 6 * f_10) (show 9 + 6 * f_10 + 4 ≤ 128 by omega) b_34) (cwV 1 C.1.2.2.2.2 (gV qw_1615 qw_1617 qw_40 qw_81 qw_1618) rfl rfl rfl (by decide +kernel) ⟨Nat.le_of_ble_eq_true rfl, Nat.le_of_ble_eq_true rfl⟩) (g_rModel C hW hS [.int (nI (9 + 6 * f_10))]) rfl rfl hl.1 rfl (lv_room (Nat.le_of_ble_eq_true rfl)) dX8_minutesUntilMolten_103 ⟨Nat.zero_le _, Nat.zero_le _⟩) hS (fun r_60 Y_61 H_62 locs_63 hW_64 hS_65 h_59 => ?_)
              obtain ⟨h_59, hy_66⟩ := h_59
              replace hy_66 := hy_66.symm
              subst hy_66
              replace h_59 : r_60 = oM_point (X.1 16) (X.1 21) (9 + 6 * f_10) := h_59
              subst h_59
              refine lv_icmp_ge (tgt := 115) hx hb dX8_minutesUntilMolten_106 (by decide) (fun _ => ?_) (fun h9 => absurd (wt_end ehh hh1 ebb hbb1 (by omega) epp (by omega) (by omega) hh2) h9)
              refine lv_iload_n hx hb dX8_minutesUntilMolten_115 rfl (lv_at hl 0 rfl) ?_
              exact g_iret C hr hlk hW_64 hS_65 dX8_minutesUntilMolten_116 (by have e9 : wtM (X.1 16 (9 + 6 * f_10 + 4)) v_23 (oM_point (X.1 16) (X.1 21) (9 + 6 * f_10)) 1200 0 = nI kk := hf.symm; subst ew_47; subst ev_23; exact ⟨(by simp only [oM_minutesUntilMolten, clf (show f_10 < 2 ^ 31 by omega), b_9, b_34, b_42, eq_true b_58, if_true, if_false]; exact e9.symm), (by simp only [oM_minutesUntilMolten, clf (show f_10 < 2 ^ 31 by omega), b_9, b_34, b_42, eq_true b_58, if_true, if_false])⟩)
            | succ q ih =>
              intro kk H locs ls hq hf hW hS hl
              refine lv_aload_n hx hb dX8_minutesUntilMolten_88 rfl (lv_at hl 1 rfl) ?_
              refine gM_v C hW (hwc hwX8) (mc qw_1481) dX8_minutesUntilMolten_89 ?_
              refine lv_iload_n hx hb dX8_minutesUntilMolten_92 rfl (lv_at hl 2 rfl) ?_
              refine lv_iconst (v := 4) hx hb dX8_minutesUntilMolten_93 (by decide) ?_
              refine lv_iadd hx hb dX8_minutesUntilMolten_94 ?_
              refine g_top (y := nI ((9 + 6 * f_10) + 4)) (nI_add (9 + 6 * f_10) 4) ?_
              refine gm_vld C hW ((9 + 6 * f_10) + 4) (nI_clamp (by omega)) (vp_in_nI (show (9 + 6 * f_10) + 4 < 128 by omega) (by decide)) dX8_minutesUntilMolten_95 ?_
              refine g_top (y := X.1 16 ((9 + 6 * f_10) + 4)) (congrFun (rd_in (by decide) rfl) _) ?_
              refine lv_iload_n hx hb dX8_minutesUntilMolten_96 rfl (lv_at hl 0 rfl) ?_
              refine lv_iload hx hb dX8_minutesUntilMolten_97 (lv_at hl 3 rfl) ?_
              refine lv_imul hx hb dX8_minutesUntilMolten_99 ?_
              refine lv_iadd hx hb dX8_minutesUntilMolten_100 ?_
              refine lv_aload_n hx hb dX8_minutesUntilMolten_101 rfl (lv_at hl 1 rfl) ?_
              refine lv_iload_n hx hb dX8_minutesUntilMolten_102 rfl (lv_at hl 2 rfl) ?_
              refine g_calli (va_runV (As := [.int (nI (9 + 6 * f_10))]) (rest := [.int ((X.1 16 ((9 + 6 * f_10) + 4)) + ((nI kk) * v_23))]) C.1 (cX8_point_ok l G (setRow X 15 w_47) (9 + 6 * f_10) (show 9 + 6 * f_10 + 4 ≤ 128 by omega) b_34) (cwV 1 C.1.2.2.2.2 (gV qw_1615 qw_1617 qw_40 qw_81 qw_1618) rfl rfl rfl (by decide +kernel) ⟨Nat.le_of_ble_eq_true rfl, Nat.le_of_ble_eq_true rfl⟩) (g_rModel C hW hS [.int (nI (9 + 6 * f_10))]) rfl rfl hl.1 rfl (lv_room (Nat.le_of_ble_eq_true rfl)) dX8_minutesUntilMolten_103 ⟨Nat.zero_le _, Nat.zero_le _⟩) hS (fun r_68 Y_69 H_70 locs_71 hW_72 hS_73 h_67 => ?_)
              obtain ⟨h_67, hy_74⟩ := h_67
              replace hy_74 := hy_74.symm
              subst hy_74
              replace h_67 : r_68 = oM_point (X.1 16) (X.1 21) (9 + 6 * f_10) := h_67
              subst h_67
              refine lv_icmp_ge (tgt := 115) hx hb dX8_minutesUntilMolten_106 (by decide) (fun b_75 => ?_) (fun b_75 => ?_)
              · refine lv_iload_n hx hb dX8_minutesUntilMolten_115 rfl (lv_at hl 0 rfl) ?_
                exact g_iret C hr hlk hW_72 hS_73 dX8_minutesUntilMolten_116 (by have e9 : wtM (X.1 16 (9 + 6 * f_10 + 4)) v_23 (oM_point (X.1 16) (X.1 21) (9 + 6 * f_10)) 1200 0 = nI kk := hf.symm.trans (if_pos b_75); subst ew_47; subst ev_23; exact ⟨(by simp only [oM_minutesUntilMolten, clf (show f_10 < 2 ^ 31 by omega), b_9, b_34, b_42, eq_true b_58, if_true, if_false]; exact e9.symm), (by simp only [oM_minutesUntilMolten, clf (show f_10 < 2 ^ 31 by omega), b_9, b_34, b_42, eq_true b_58, if_true, if_false])⟩)
              · refine lv_iinc (v := nI (kk + 1)) (lv' := [(3, .int (nI (kk + 1))), (0, .ref (ad G 723)), (2, .int (nI (9 + 6 * f_10))), (4, .int v_23)]) hx hb dX8_minutesUntilMolten_109 hl (k := 0) rfl (nI_1 kk) (by decide) rfl (fun ls_76 hl_77 => ?_)
                refine lv_goto (tgt := 88) hx hb dX8_minutesUntilMolten_112 (by decide) ?_
                exact ih (kk + 1) H_70 locs_71 ls_76 (by omega) ((if_neg b_75).symm.trans hf) hW_72 hS_73 (lv_sub hl_77 [0, 1, 2, 3] rfl)
          exact loop 1200 0 H_53 locs_54 ls_24 rfl rfl hW_55 hS_56 (lv_sub hl_25 [1, 3, 2, 0] rfl)
        · refine lv_iconst (v := 0) hx hb dX8_minutesUntilMolten_86 (by decide) ?_
          exact g_iret C hr hlk hW_55 hS_56 dX8_minutesUntilMolten_87 (by subst ew_47; subst ev_23; exact ⟨(by simp only [oM_minutesUntilMolten, clf (show f_10 < 2 ^ 31 by omega), b_9, b_34, b_42, b_58, if_true, if_false]), (by simp only [oM_minutesUntilMolten, clf (show f_10 < 2 ^ 31 by omega), b_9, b_34, b_42, b_58, if_true, if_false])⟩)
      · refine lv_aload_n hx hb dX8_minutesUntilMolten_55 rfl (lv_at hl_25 3 rfl) ?_
        refine lv_iload_n hx hb dX8_minutesUntilMolten_56 rfl (lv_at hl_25 2 rfl) ?_
        refine g_calli (va_runV (As := [.int (nI (9 + 6 * f_10))]) (rest := [.ref (ad G 723)]) C.1 (cX8_isFluid_ok l G (setRow X 15 (X.1 15)) (9 + 6 * f_10) (show 9 + 6 * f_10 + 5 ≤ 128 by omega)) (cwV 1 C.1.2.2.2.2 (gV qw_1611 qw_1613 qw_39 qw_81 qw_1614) rfl rfl rfl (by decide +kernel) ⟨Nat.le_of_ble_eq_true rfl, Nat.le_of_ble_eq_true rfl⟩) (g_rModel C hW_31 hS_32 [.int (nI (9 + 6 * f_10))]) rfl rfl hl_25.1 rfl (lv_room (Nat.le_of_ble_eq_true rfl)) dX8_minutesUntilMolten_57 ⟨Nat.zero_le _, Nat.zero_le _⟩) hS_32 (fun r_79 Y_80 H_81 locs_82 hW_83 hS_84 h_78 => ?_)
        obtain ⟨h_78, hy_85⟩ := h_78
        replace hy_85 := hy_85.symm
        subst hy_85
        replace h_78 : r_79 = oM_isFluid (X.1 16) (X.1 21) (9 + 6 * f_10) := h_78
        subst h_78
        refine lv_if_ne (tgt := 67) hx hb dX8_minutesUntilMolten_60 (by decide) (fun b_86 => ?_) (fun b_86 => ?_)
        · refine lv_iconst (v := 0) hx hb dX8_minutesUntilMolten_67 (by decide) ?_
          refine gM_thrownP C hW_83 hS_84 (hwc hwX8) (mc qw_1476) dX8_minutesUntilMolten_68 (fun H_87 locs_88 hW_89 hS_90 => ?_)
          obtain ⟨w_91, ew_91⟩ : ∃ Z9, Z9 = upd (X.1 15) (0) 0 := ⟨_, rfl⟩
          have kn_92 : w_91 (0) = 0 := by rw [ew_91]; exact pk_us
          have hW_93 : Wd G (setRow X 15 w_91) H_87 := Wd.cast (by rw [ew_91]; exact st_out) hW_89
          refine lv_aload_n hx hb dX8_minutesUntilMolten_71 rfl (lv_at hl_25 3 rfl) ?_
          refine gM_thrown C hW_93 (hwc hwX8) (mc qw_1476) dX8_minutesUntilMolten_72 ?_
          refine g_top (y := w_91 (0)) (congrFun rd_out _) ?_
          refine g_top (y := 0) kn_92 ?_
          refine lv_if_ne (tgt := 86) hx hb dX8_minutesUntilMolten_75 (by decide) (fun h9 => absurd h9 (by decide)) (fun _ => ?_)
          refine lv_aload_n hx hb dX8_minutesUntilMolten_78 rfl (lv_at hl_25 3 rfl) ?_
          refine lv_iload_n hx hb dX8_minutesUntilMolten_79 rfl (lv_at hl_25 2 rfl) ?_
          refine g_calli (va_runV (As := [.int (nI (9 + 6 * f_10))]) (rest := []) C.1 (cX8_isFluid_ok l G (setRow X 15 w_91) (9 + 6 * f_10) (show 9 + 6 * f_10 + 5 ≤ 128 by omega)) (cwV 1 C.1.2.2.2.2 (gV qw_1611 qw_1613 qw_39 qw_81 qw_1614) rfl rfl rfl (by decide +kernel) ⟨Nat.le_of_ble_eq_true rfl, Nat.le_of_ble_eq_true rfl⟩) (g_rModel C hW_93 hS_90 [.int (nI (9 + 6 * f_10))]) rfl rfl hl_25.1 rfl (lv_room (Nat.le_of_ble_eq_true rfl)) dX8_minutesUntilMolten_80 ⟨Nat.zero_le _, Nat.zero_le _⟩) hS_90 (fun r_95 Y_96 H_97 locs_98 hW_99 hS_100 h_94 => ?_)
          obtain ⟨h_94, hy_101⟩ := h_94
          replace hy_101 := hy_101.symm
          subst hy_101
          replace h_94 : r_95 = oM_isFluid (X.1 16) (X.1 21) (9 + 6 * f_10) := h_94
          subst h_94
          refine lv_if_eq (tgt := 88) hx hb dX8_minutesUntilMolten_83 (by decide) (fun h9 => absurd h9 b_86) (fun _ => ?_)
          refine lv_iconst (v := 0) hx hb dX8_minutesUntilMolten_86 (by decide) ?_
          exact g_iret C hr hlk hW_99 hS_100 dX8_minutesUntilMolten_87 (by subst ew_91; subst ev_23; exact ⟨(by simp only [oM_minutesUntilMolten, clf (show f_10 < 2 ^ 31 by omega), b_9, b_34, eq_true b_42, b_86, if_true, if_false]), (by simp only [oM_minutesUntilMolten, clf (show f_10 < 2 ^ 31 by omega), b_9, b_34, eq_true b_42, b_86, if_true, if_false])⟩)
        · refine lv_iconst (v := 2) hx hb dX8_minutesUntilMolten_63 (by decide) ?_
          refine lv_goto (tgt := 68) hx hb dX8_minutesUntilMolten_64 (by decide) ?_
          refine gM_thrownP C hW_83 hS_84 (hwc hwX8) (mc qw_1476) dX8_minutesUntilMolten_68 (fun H_102 locs_103 hW_104 hS_105 => ?_)
          obtain ⟨w_106, ew_106⟩ : ∃ Z9, Z9 = upd (X.1 15) (0) 2 := ⟨_, rfl⟩
          have kn_107 : w_106 (0) = 2 := by rw [ew_106]; exact pk_us
          have hW_108 : Wd G (setRow X 15 w_106) H_102 := Wd.cast (by rw [ew_106]; exact st_out) hW_104
          refine lv_aload_n hx hb dX8_minutesUntilMolten_71 rfl (lv_at hl_25 3 rfl) ?_
          refine gM_thrown C hW_108 (hwc hwX8) (mc qw_1476) dX8_minutesUntilMolten_72 ?_
          refine g_top (y := w_106 (0)) (congrFun rd_out _) ?_
          refine g_top (y := 2) kn_107 ?_
          refine lv_if_ne (tgt := 86) hx hb dX8_minutesUntilMolten_75 (by decide) (fun _ => ?_) (fun h9 => absurd h9 (by decide))
          refine lv_iconst (v := 0) hx hb dX8_minutesUntilMolten_86 (by decide) ?_
          exact g_iret C hr hlk hW_108 hS_105 dX8_minutesUntilMolten_87 (by subst ew_106; subst ev_23; exact ⟨(by simp only [oM_minutesUntilMolten, clf (show f_10 < 2 ^ 31 by omega), b_9, b_34, eq_true b_42, eq_true b_86, if_true, if_false]), (by simp only [oM_minutesUntilMolten, clf (show f_10 < 2 ^ 31 by omega), b_9, b_34, eq_true b_42, eq_true b_86, if_true, if_false])⟩)
  · refine lv_aload_n hx hb dX8_minutesUntilMolten_7 rfl (lv_at hl 0 rfl) ?_
    refine lv_iconst (v := 1) hx hb dX8_minutesUntilMolten_8 (by decide) ?_
    refine g_calli (va_runV (As := [.int 1]) (rest := []) C.1 (cX8_fail_ok l G (setRow X 15 (X.1 15)) 1) (cwV 1 C.1.2.2.2.2 (gV qw_1571 qw_1573 qw_31 qw_81 qw_1574) rfl rfl rfl (by decide +kernel) ⟨Nat.le_of_ble_eq_true rfl, Nat.le_of_ble_eq_true rfl⟩) (g_rModel C hW_6 hS_7 [.int 1]) rfl rfl hl.1 rfl (lv_room (Nat.le_of_ble_eq_true rfl)) dX8_minutesUntilMolten_9 ⟨Nat.zero_le _, Nat.zero_le _⟩) hS_7 (fun r_110 Y_111 H_112 locs_113 hW_114 hS_115 h_109 => ?_)
    obtain ⟨h_116, h_109⟩ := h_109
    replace h_116 : r_110 = (oM_fail (X.1 15) 1).1 := h_116
    subst h_116
    replace h_109 : Y_111 = setRow (setRow X 15 (X.1 15)) 15 ((oM_fail (X.1 15) 1).2) := h_109
    obtain ⟨w_117, ew_117⟩ : ∃ Z9, Z9 = (oM_fail (X.1 15) 1).2 := ⟨_, rfl⟩
    have qqw_117 : Y_111 = setRow (setRow X 15 (X.1 15)) 15 w_117 := by rw [h_109, ew_117]
    have hW_118 : Wd G (setRow X 15 w_117) H_112 := Wd.cast ((qqw_117).trans (congrArg (fun Z9 => Z9) sr_out)) hW_114
    exact g_iret C hr hlk hW_118 hS_115 dX8_minutesUntilMolten_12 (by subst ew_117; exact ⟨(by simp only [oM_minutesUntilMolten, eq_true b_9, if_true, if_false]), (by simp only [oM_minutesUntilMolten, eq_true b_9, if_true, if_false])⟩)

def oM_minutesUntilMoltenByDivision (w15 : Nat → Int32) (w16 : Nat → Int32) (w21 : Nat → Int32) (x : Int32) : Int32 × (Nat → Int32) := ((oM_minutesUntilMolten (w15) (w16) (w21) x).1, ((oM_minutesUntilMolten (w15) (w16) (w21) x).2))
set_option maxHeartbeats 4000000 in
set_option maxRecDepth 100000 in
theorem cX8_minutesUntilMoltenByDivision_ok (l : Launch) (G : GT) (X : St) (x : Int32) (hm : MInv (X.1 16)) (hp : PtsOk (X.1 21)) : MetI l G yX8_minutesUntilMoltenByDivision (wsG yX8_minutesUntilMoltenByDivision cX8_minutesUntilMoltenByDivision 2 (some .int)) (rmz 4 89) [.ref (ad G 723), .int x] X (fun res Y => res = (oM_minutesUntilMoltenByDivision (X.1 15) (X.1 16) (X.1 21) x).1 ∧ Y = setRow (X) 15 ((oM_minutesUntilMoltenByDivision (X.1 15) (X.1 16) (X.1 21) x).2)) := by
  refine g_met (cc := cX8_minutesUntilMoltenByDivision) (maxL := 2) (ret := (some .int)) (by decide) rfl (Nat.le_of_ble_eq_true rfl) ?_
  intro p e s m below meth c ls C hr hlk hnm hW hl
  have hx := C.1.1
  have hb := C.1.2.1
  have hS : va_S (Ab G) s.heap s.heap [] := va_S.rf
  have hl : lv_has ls 2 [(0, .ref (ad G 723)), (1, .int x)] := hl
  have hW : Wd G (setRow (X) 15 (X.1 15)) s.heap := Wd.cast ((sr_same (X := X) (r := 15) rfl)).symm hW
  refine lv_aload_n hx hb dX8_minutesUntilMoltenByDivision_0 rfl (lv_at hl 0 rfl) ?_
  refine lv_iload_n hx hb dX8_minutesUntilMoltenByDivision_1 rfl (lv_at hl 1 rfl) ?_
  refine g_calli (va_runV (As := [.int x]) (rest := []) C.1 (cX8_minutesUntilMolten_ok l G (setRow X 15 (X.1 15)) x hm hp) (cwV 1 C.1.2.2.2.2 (gV qw_1753 qw_1746 qw_1747 qw_81 qw_1748) rfl rfl rfl (by decide +kernel) ⟨Nat.le_of_ble_eq_true rfl, Nat.le_of_ble_eq_true rfl⟩) (g_rModel C hW hS [.int x]) rfl rfl hl.1 rfl (lv_room (Nat.le_of_ble_eq_true rfl)) dX8_minutesUntilMoltenByDivision_2 ⟨Nat.zero_le _, Nat.zero_le _⟩) hS (fun r_2 Y_3 H_4 locs_5 hW_6 hS_7 h_1 => ?_)
  obtain ⟨h_8, h_1⟩ := h_1
  replace h_8 : r_2 = (oM_minutesUntilMolten (X.1 15) (X.1 16) (X.1 21) x).1 := h_8
  subst h_8
  replace h_1 : Y_3 = setRow (setRow X 15 (X.1 15)) 15 ((oM_minutesUntilMolten (X.1 15) (X.1 16) (X.1 21) x).2) := h_1
  obtain ⟨w_9, ew_9⟩ : ∃ Z9, Z9 = (oM_minutesUntilMolten (X.1 15) (X.1 16) (X.1 21) x).2 := ⟨_, rfl⟩
  have qqw_9 : Y_3 = setRow (setRow X 15 (X.1 15)) 15 w_9 := by rw [h_1, ew_9]
  have hW_10 : Wd G (setRow X 15 w_9) H_4 := Wd.cast ((qqw_9).trans (congrArg (fun Z9 => Z9) sr_out)) hW_6
  exact g_iret C hr hlk hW_10 hS_7 dX8_minutesUntilMoltenByDivision_5 (by subst ew_9; exact ⟨(by first | rfl | (simp only [oM_minutesUntilMoltenByDivision, if_true, if_false]; first | done | rfl)), (by first | rfl | (simp only [oM_minutesUntilMoltenByDivision, if_true, if_false]; first | done | rfl))⟩)

def oM_furnaceByTemperature (w15 : Nat → Int32) (w16 : Nat → Int32) (x : Int32) : Int32 × (Nat → Int32) := 
  match fbL cmF w16 x (3) (3) 0 with
  | some k => (nI k, upd w15 0 0)
  | none => ((oM_fail (upd w15 0 0) 1).1, (oM_fail (upd w15 0 0) 1).2)
set_option maxHeartbeats 4000000 in
set_option maxRecDepth 100000 in
theorem cX8_furnaceByTemperature_ok (l : Launch) (G : GT) (X : St) (x : Int32) : MetI l G yX8_furnaceByTemperature (wsG yX8_furnaceByTemperature cX8_furnaceByTemperature 6 (some .int)) (rmz 1 21) [.ref (ad G 723), .int x] X (fun res Y => res = (oM_furnaceByTemperature (X.1 15) (X.1 16) x).1 ∧ Y = setRow (X) 15 ((oM_furnaceByTemperature (X.1 15) (X.1 16) x).2)) := by
  refine g_met (cc := cX8_furnaceByTemperature) (maxL := 6) (ret := (some .int)) (by decide) rfl (Nat.le_of_ble_eq_true rfl) ?_
  intro p e s m below meth c ls C hr hlk hnm hW hl
  have hx := C.1.1
  have hb := C.1.2.1
  have hS : va_S (Ab G) s.heap s.heap [] := va_S.rf
  have hl : lv_has ls 6 [(0, .ref (ad G 723)), (1, .int x)] := hl
  have hW : Wd G (setRow (X) 15 (X.1 15)) s.heap := Wd.cast ((sr_same (X := X) (r := 15) rfl)).symm hW
  refine lv_aload_n hx hb dX8_furnaceByTemperature_0 rfl (lv_at hl 0 rfl) ?_
  refine lv_iconst (v := 0) hx hb dX8_furnaceByTemperature_1 (by decide) ?_
  refine gM_thrownP C hW hS (hwc hwX8) (mc qw_1476) dX8_furnaceByTemperature_2 (fun H_1 locs_2 hW_3 hS_4 => ?_)
  obtain ⟨w_5, ew_5⟩ : ∃ Z9, Z9 = upd (X.1 15) (0) 0 := ⟨_, rfl⟩
  have kn_6 : w_5 (0) = 0 := by rw [ew_5]; exact pk_us
  have hW_7 : Wd G (setRow X 15 w_5) H_1 := Wd.cast (by rw [ew_5]; exact st_out) hW_3
  refine lv_iconst (v := 0) hx hb dX8_furnaceByTemperature_5 (by decide) ?_
  refine lv_istore_n (lv' := [(2, .int 0), (0, .ref (ad G 723)), (1, .int x)]) hx hb dX8_furnaceByTemperature_6 rfl hl (by decide) rfl (fun ls_8 hl_9 => ?_)
  have loop : ∀ (q : Nat) (ff : Nat) (H : Heap) (locs : List Loc) (ls : Array Slot), ff + q = 3 → fbL cmF (X.1 16) x 3 q ff = fbL cmF (X.1 16) x 3 3 0 → Wd G (setRow X 15 w_5) H → va_S (Ab G) s.heap H locs → lv_has ls 6 [(2, .int (nI ff)), (0, .ref (ad G 723)), (1, .int x)] → W p l e (rmz 1 21) s m ([.ref (ad G 723), .int x] : List Value).toArray below meth c H locs 0 0 (MQ below (Ki G (fun res Y => res = (oM_furnaceByTemperature (X.1 15) (X.1 16) x).1 ∧ Y = setRow (X) 15 ((oM_furnaceByTemperature (X.1 15) (X.1 16) x).2))) ([.ref (ad G 723), .int x] : List Value).toArray s 0 0 (Ab G)) (F0 m 7 ls []) := by
    intro q
    induction q with
    | zero =>
      intro ff H locs ls hq hf hW hS hl
      refine lv_iload_n hx hb dX8_furnaceByTemperature_7 rfl (lv_at hl 0 rfl) ?_
      refine lv_iconst (v := 3) hx hb dX8_furnaceByTemperature_8 (by decide) ?_
      refine lv_icmp_ge (tgt := 122) hx hb dX8_furnaceByTemperature_9 (by decide) (fun _ => ?_) (fun h9 => absurd (nI_le (a := 3) (b := ff) (by omega) (by omega)) h9)
      refine lv_aload_n hx hb dX8_furnaceByTemperature_122 rfl (lv_at hl 1 rfl) ?_
      refine lv_iconst (v := 1) hx hb dX8_furnaceByTemperature_123 (by decide) ?_
      refine g_calli (va_runV (As := [.int 1]) (rest := []) C.1 (cX8_fail_ok l G (setRow X 15 w_5) 1) (cwV 1 C.1.2.2.2.2 (gV qw_1571 qw_1573 qw_31 qw_81 qw_1574) rfl rfl rfl (by decide +kernel) ⟨Nat.le_of_ble_eq_true rfl, Nat.le_of_ble_eq_true rfl⟩) (g_rModel C hW hS [.int 1]) rfl rfl hl.1 rfl (lv_room (Nat.le_of_ble_eq_true rfl)) dX8_furnaceByTemperature_124 ⟨Nat.zero_le _, Nat.zero_le _⟩) hS (fun r_11 Y_12 H_13 locs_14 hW_15 hS_16 h_10 => ?_)
      obtain ⟨h_17, h_10⟩ := h_10
      replace h_17 : r_11 = (oM_fail w_5 1).1 := h_17
      subst h_17
      replace h_10 : Y_12 = setRow (setRow X 15 w_5) 15 ((oM_fail w_5 1).2) := h_10
      obtain ⟨w_18, ew_18⟩ : ∃ Z9, Z9 = (oM_fail w_5 1).2 := ⟨_, rfl⟩
      have qqw_18 : Y_12 = setRow (setRow X 15 w_5) 15 w_18 := by rw [h_10, ew_18]
      have hW_19 : Wd G (setRow X 15 w_18) H_13 := Wd.cast ((qqw_18).trans (congrArg (fun Z9 => Z9) sr_out)) hW_15
      exact g_iret C hr hlk hW_19 hS_16 dX8_furnaceByTemperature_127 (by have e9 : fbL cmF (X.1 16) x 3 3 0 = none := hf.symm; subst ew_5; subst ew_18; exact ⟨(by simp only [oM_furnaceByTemperature, e9]), (by simp only [oM_furnaceByTemperature, e9])⟩)
    | succ q ih =>
      intro ff H locs ls hq hf hW hS hl
      refine lv_iload_n hx hb dX8_furnaceByTemperature_7 rfl (lv_at hl 0 rfl) ?_
      refine lv_iconst (v := 3) hx hb dX8_furnaceByTemperature_8 (by decide) ?_
      refine lv_icmp_ge (tgt := 122) hx hb dX8_furnaceByTemperature_9 (by decide) (fun h9 => absurd h9 (nI_ge (a := ff) (b := 3) (by omega) (by omega))) (fun _ => ?_)
      refine lv_iconst (v := 0) hx hb dX8_furnaceByTemperature_12 (by decide) ?_
      refine lv_istore_n (lv' := [(3, .int 0), (2, .int (nI ff)), (0, .ref (ad G 723)), (1, .int x)]) hx hb dX8_furnaceByTemperature_13 rfl hl (by decide) rfl (fun ls_20 hl_21 => ?_)
      refine lv_iconst (v := 0) hx hb dX8_furnaceByTemperature_14 (by decide) ?_
      refine lv_istore (lv' := [(4, .int 0), (3, .int 0), (2, .int (nI ff)), (0, .ref (ad G 723)), (1, .int x)]) hx hb dX8_furnaceByTemperature_15 hl_21 (by decide) rfl (fun ls_22 hl_23 => ?_)
      have loop2 : ∀ (q2 : Nat) (oo nn : Nat) (H : Heap) (locs : List Loc) (ls : Array Slot), oo + q2 = 3 → nn ≤ oo → nn = rkM cmF (X.1 16) ff oo → Wd G (setRow X 15 w_5) H → va_S (Ab G) s.heap H locs → lv_has ls 6 [(4, .int (nI oo)), (3, .int (nI nn)), (2, .int (nI ff)), (0, .ref (ad G 723)), (1, .int x)] → W p l e (rmz 1 21) s m ([.ref (ad G 723), .int x] : List Value).toArray below meth c H locs 0 0 (MQ below (Ki G (fun res Y => res = (oM_furnaceByTemperature (X.1 15) (X.1 16) x).1 ∧ Y = setRow (X) 15 ((oM_furnaceByTemperature (X.1 15) (X.1 16) x).2))) ([.ref (ad G 723), .int x] : List Value).toArray s 0 0 (Ab G)) (F0 m 17 ls []) := by
        intro q2
        induction q2 with
        | zero =>
          intro oo nn H locs ls hq2 hbn hn hW hS hl
          have ho9 : oo = 3 := by omega
          have hn9 : nn = rkM cmF (X.1 16) ff 3 := by rw [hn, ho9]
          refine lv_iload hx hb dX8_furnaceByTemperature_17 (lv_at hl 0 rfl) ?_
          refine lv_iconst (v := 3) hx hb dX8_furnaceByTemperature_19 (by decide) ?_
          refine lv_icmp_ge (tgt := 109) hx hb dX8_furnaceByTemperature_20 (by decide) (fun _ => ?_) (fun h9 => absurd (nI_le (a := 3) (b := oo) (by omega) (by omega)) h9)
          refine lv_iload_n hx hb dX8_furnaceByTemperature_109 rfl (lv_at hl 1 rfl) ?_
          refine lv_iload_n hx hb dX8_furnaceByTemperature_110 rfl (lv_at hl 4 rfl) ?_
          refine lv_icmp_ne (tgt := 116) hx hb dX8_furnaceByTemperature_111 (by decide) (fun b_24 => ?_) (fun b_24 => ?_)
          · refine lv_iinc (v := nI (ff + 1)) (lv' := [(2, .int (nI (ff + 1))), (4, .int (nI oo)), (3, .int (nI nn)), (0, .ref (ad G 723)), (1, .int x)]) hx hb dX8_furnaceByTemperature_116 hl (k := 2) rfl (nI_1 ff) (by decide) rfl (fun ls_25 hl_26 => ?_)
            refine lv_goto (tgt := 7) hx hb dX8_furnaceByTemperature_119 (by decide) ?_
            exact ih (ff + 1) H locs ls_25 (by omega) ((if_neg (by rw [← hn9]; exact b_24)).symm.trans hf) hW hS (lv_sub hl_26 [0, 3, 4] rfl)
          · refine lv_iload_n hx hb dX8_furnaceByTemperature_114 rfl (lv_at hl 2 rfl) ?_
            exact g_iret C hr hlk hW hS dX8_furnaceByTemperature_115 (by have e9 : fbL cmF (X.1 16) x 3 3 0 = some ff := hf.symm.trans (if_pos (by rw [← hn9]; exact b_24)); subst ew_5; exact ⟨(by simp only [oM_furnaceByTemperature, e9]), (by simp only [oM_furnaceByTemperature, e9])⟩)
        | succ q2 ih2 =>
          intro oo nn H locs ls hq2 hbn hn hW hS hl
          refine lv_iload hx hb dX8_furnaceByTemperature_17 (lv_at hl 0 rfl) ?_
          refine lv_iconst (v := 3) hx hb dX8_furnaceByTemperature_19 (by decide) ?_
          refine lv_icmp_ge (tgt := 109) hx hb dX8_furnaceByTemperature_20 (by decide) (fun h9 => absurd h9 (nI_ge (a := oo) (b := 3) (by omega) (by omega))) (fun _ => ?_)
          refine lv_aload_n hx hb dX8_furnaceByTemperature_23 rfl (lv_at hl 3 rfl) ?_
          refine gM_v C hW (hwc hwX8) (mc qw_1481) dX8_furnaceByTemperature_24 ?_
          refine lv_iload hx hb dX8_furnaceByTemperature_27 (lv_at hl 0 rfl) ?_
          refine g_calli (va_runS (As := [.int (nI oo)]) (rest := [.ref (ad G 724)]) C.1 (cX8_furnace_ok l G (setRow X 15 w_5) (nI oo)) (va_cwS 1 C.1.2.2.2.2 (gS qw_1470 qw_1471 qw_81 qw_1472) rfl rfl rfl (by decide +kernel) ⟨Nat.le_of_ble_eq_true rfl, Nat.le_of_ble_eq_true rfl⟩) (g_pre C hW hS [.int (nI oo)]) rfl rfl hl.1 rfl (lv_room (Nat.le_of_ble_eq_true rfl)) dX8_furnaceByTemperature_29 ⟨Nat.zero_le _, Nat.zero_le _⟩) hS (fun r_28 Y_29 H_30 locs_31 hW_32 hS_33 h_27 => ?_)
          obtain ⟨h_27, hy_34⟩ := h_27
          replace hy_34 := hy_34.symm
          subst hy_34
          replace h_27 : r_28 = oM_furnace (nI oo) := h_27
          subst h_27
          refine g_top (y := nI (9 + 6 * oo)) (at_furnace oo) ?_
          refine lv_iconst (v := 4) hx hb dX8_furnaceByTemperature_32 (by decide) ?_
          refine lv_iadd hx hb dX8_furnaceByTemperature_33 ?_
          refine g_top (y := nI ((9 + 6 * oo) + 4)) (nI_add (9 + 6 * oo) 4) ?_
          refine gm_vld C hW_32 ((9 + 6 * oo) + 4) (nI_clamp (by omega)) (vp_in_nI (show (9 + 6 * oo) + 4 < 128 by omega) (by decide)) dX8_furnaceByTemperature_34 ?_
          refine g_top (y := X.1 16 ((9 + 6 * oo) + 4)) (congrFun (rd_in (by decide) rfl) _) ?_
          refine lv_aload_n hx hb dX8_furnaceByTemperature_35 rfl (lv_at hl 3 rfl) ?_
          refine gM_v C hW_32 (hwc hwX8) (mc qw_1481) dX8_furnaceByTemperature_36 ?_
          refine lv_iload_n hx hb dX8_furnaceByTemperature_39 rfl (lv_at hl 2 rfl) ?_
          refine g_calli (va_runS (As := [.int (nI ff)]) (rest := [.ref (ad G 724), .int (X.1 16 ((9 + 6 * oo) + 4))]) C.1 (cX8_furnace_ok l G (setRow X 15 w_5) (nI ff)) (va_cwS 1 C.1.2.2.2.2 (gS qw_1470 qw_1471 qw_81 qw_1472) rfl rfl rfl (by decide +kernel) ⟨Nat.le_of_ble_eq_true rfl, Nat.le_of_ble_eq_true rfl⟩) (g_pre C hW_32 hS_33 [.int (nI ff)]) rfl rfl hl.1 rfl (lv_room (Nat.le_of_ble_eq_true rfl)) dX8_furnaceByTemperature_40 ⟨Nat.zero_le _, Nat.zero_le _⟩) hS_33 (fun r_36 Y_37 H_38 locs_39 hW_40 hS_41 h_35 => ?_)
          obtain ⟨h_35, hy_42⟩ := h_35
          replace hy_42 := hy_42.symm
          subst hy_42
          replace h_35 : r_36 = oM_furnace (nI ff) := h_35
          subst h_35
          refine g_top (y := nI (9 + 6 * ff)) (at_furnace ff) ?_
          refine lv_iconst (v := 4) hx hb dX8_furnaceByTemperature_43 (by decide) ?_
          refine lv_iadd hx hb dX8_furnaceByTemperature_44 ?_
          refine g_top (y := nI ((9 + 6 * ff) + 4)) (nI_add (9 + 6 * ff) 4) ?_
          refine gm_vld C hW_40 ((9 + 6 * ff) + 4) (nI_clamp (by omega)) (vp_in_nI (show (9 + 6 * ff) + 4 < 128 by omega) (by decide)) dX8_furnaceByTemperature_45 ?_
          refine g_top (y := X.1 16 ((9 + 6 * ff) + 4)) (congrFun (rd_in (by decide) rfl) _) ?_
          refine lv_isub hx hb dX8_furnaceByTemperature_46 ?_
          refine lv_topi (fun v_43 ev_43 => ?_)
          refine lv_istore (lv' := [(5, .int v_43), (4, .int (nI oo)), (3, .int (nI nn)), (2, .int (nI ff)), (0, .ref (ad G 723)), (1, .int x)]) hx hb dX8_furnaceByTemperature_47 hl (by decide) rfl (fun ls_44 hl_45 => ?_)
          refine lv_iload hx hb dX8_furnaceByTemperature_49 (lv_at hl_45 0 rfl) ?_
          refine lv_if_eq (tgt := 59) hx hb dX8_furnaceByTemperature_51 (by decide) (fun b_46 => ?_) (fun b_46 => ?_)
          · refine lv_aload_n hx hb dX8_furnaceByTemperature_59 rfl (lv_at hl_45 4 rfl) ?_
            refine lv_iload hx hb dX8_furnaceByTemperature_60 (lv_at hl_45 1 rfl) ?_
            refine g_calli (va_runS (As := [.int (nI oo)]) (rest := [.ref (ad G 723)]) C.1 (cX8_furnace_ok l G (setRow X 15 w_5) (nI oo)) (va_cwS 1 C.1.2.2.2.2 (gS qw_1470 qw_1471 qw_81 qw_1472) rfl rfl rfl (by decide +kernel) ⟨Nat.le_of_ble_eq_true rfl, Nat.le_of_ble_eq_true rfl⟩) (g_pre C hW_40 hS_41 [.int (nI oo)]) rfl rfl hl_45.1 rfl (lv_room (Nat.le_of_ble_eq_true rfl)) dX8_furnaceByTemperature_62 ⟨Nat.zero_le _, Nat.zero_le _⟩) hS_41 (fun r_48 Y_49 H_50 locs_51 hW_52 hS_53 h_47 => ?_)
            obtain ⟨h_47, hy_54⟩ := h_47
            replace hy_54 := hy_54.symm
            subst hy_54
            replace h_47 : r_48 = oM_furnace (nI oo) := h_47
            subst h_47
            refine g_top (y := nI (9 + 6 * oo)) (at_furnace oo) ?_
            refine g_calli (va_runV (As := [.int (nI (9 + 6 * oo))]) (rest := []) C.1 (cX8_mass_ok l G (setRow X 15 w_5) (9 + 6 * oo) (show 9 + 6 * oo + 4 ≤ 128 by omega)) (cwV 1 C.1.2.2.2.2 (gV qw_1575 qw_1577 qw_32 qw_81 qw_1578) rfl rfl rfl (by decide +kernel) ⟨Nat.le_of_ble_eq_true rfl, Nat.le_of_ble_eq_true rfl⟩) (g_rModel C hW_52 hS_53 [.int (nI (9 + 6 * oo))]) rfl rfl hl_45.1 rfl (lv_room (Nat.le_of_ble_eq_true rfl)) dX8_furnaceByTemperature_65 ⟨Nat.zero_le _, Nat.zero_le _⟩) hS_53 (fun r_56 Y_57 H_58 locs_59 hW_60 hS_61 h_55 => ?_)
            obtain ⟨h_55, hy_62⟩ := h_55
            replace hy_62 := hy_62.symm
            subst hy_62
            replace h_55 : r_56 = oM_mass (X.1 16) (9 + 6 * oo) := h_55
            subst h_55
            refine lv_aload_n hx hb dX8_furnaceByTemperature_68 rfl (lv_at hl_45 4 rfl) ?_
            refine lv_iload_n hx hb dX8_furnaceByTemperature_69 rfl (lv_at hl_45 3 rfl) ?_
            refine g_calli (va_runS (As := [.int (nI ff)]) (rest := [.ref (ad G 723), .int (oM_mass (X.1 16) (9 + 6 * oo))]) C.1 (cX8_furnace_ok l G (setRow X 15 w_5) (nI ff)) (va_cwS 1 C.1.2.2.2.2 (gS qw_1470 qw_1471 qw_81 qw_1472) rfl rfl rfl (by decide +kernel) ⟨Nat.le_of_ble_eq_true rfl, Nat.le_of_ble_eq_true rfl⟩) (g_pre C hW_60 hS_61 [.int (nI ff)]) rfl rfl hl_45.1 rfl (lv_room (Nat.le_of_ble_eq_true rfl)) dX8_furnaceByTemperature_70 ⟨Nat.zero_le _, Nat.zero_le _⟩) hS_61 (fun r_64 Y_65 H_66 locs_67 hW_68 hS_69 h_63 => ?_)
            obtain ⟨h_63, hy_70⟩ := h_63
            replace hy_70 := hy_70.symm
            subst hy_70
            replace h_63 : r_64 = oM_furnace (nI ff) := h_63
            subst h_63
            refine g_top (y := nI (9 + 6 * ff)) (at_furnace ff) ?_
            refine g_calli (va_runV (As := [.int (nI (9 + 6 * ff))]) (rest := [.int (oM_mass (X.1 16) (9 + 6 * oo))]) C.1 (cX8_mass_ok l G (setRow X 15 w_5) (9 + 6 * ff) (show 9 + 6 * ff + 4 ≤ 128 by omega)) (cwV 1 C.1.2.2.2.2 (gV qw_1575 qw_1577 qw_32 qw_81 qw_1578) rfl rfl rfl (by decide +kernel) ⟨Nat.le_of_ble_eq_true rfl, Nat.le_of_ble_eq_true rfl⟩) (g_rModel C hW_68 hS_69 [.int (nI (9 + 6 * ff))]) rfl rfl hl_45.1 rfl (lv_room (Nat.le_of_ble_eq_true rfl)) dX8_furnaceByTemperature_73 ⟨Nat.zero_le _, Nat.zero_le _⟩) hS_69 (fun r_72 Y_73 H_74 locs_75 hW_76 hS_77 h_71 => ?_)
            obtain ⟨h_71, hy_78⟩ := h_71
            replace hy_78 := hy_78.symm
            subst hy_78
            replace h_71 : r_72 = oM_mass (X.1 16) (9 + 6 * ff) := h_71
            subst h_71
            refine lv_isub hx hb dX8_furnaceByTemperature_76 ?_
            refine lv_topi (fun v_79 ev_79 => ?_)
            refine lv_istore (lv' := [(5, .int v_79), (4, .int (nI oo)), (3, .int (nI nn)), (2, .int (nI ff)), (0, .ref (ad G 723)), (1, .int x)]) hx hb dX8_furnaceByTemperature_77 hl_45 (by decide) rfl (fun ls_80 hl_81 => ?_)
            refine lv_iload_n hx hb dX8_furnaceByTemperature_79 rfl (lv_at hl_81 2 rfl) ?_
            refine lv_iload hx hb dX8_furnaceByTemperature_80 (lv_at hl_81 0 rfl) ?_
            refine lv_if_gt (tgt := 96) hx hb dX8_furnaceByTemperature_82 (by decide) (fun b_82 => ?_) (fun b_82 => ?_)
            · refine lv_iconst (v := 1) hx hb dX8_furnaceByTemperature_96 (by decide) ?_
              refine lv_goto (tgt := 101) hx hb dX8_furnaceByTemperature_97 (by decide) ?_
              refine lv_iadd hx hb dX8_furnaceByTemperature_101 ?_
              refine g_top (y := nI (nn + 1)) (nI_add nn 1) ?_
              refine lv_istore_n (lv' := [(3, .int (nI (nn + 1))), (5, .int v_79), (4, .int (nI oo)), (2, .int (nI ff)), (0, .ref (ad G 723)), (1, .int x)]) hx hb dX8_furnaceByTemperature_102 rfl hl_81 (by decide) rfl (fun ls_83 hl_84 => ?_)
              refine lv_iinc (v := nI (oo + 1)) (lv' := [(4, .int (nI (oo + 1))), (3, .int (nI (nn + 1))), (5, .int v_79), (2, .int (nI ff)), (0, .ref (ad G 723)), (1, .int x)]) hx hb dX8_furnaceByTemperature_103 hl_84 (k := 2) rfl (nI_1 oo) (by decide) rfl (fun ls_85 hl_86 => ?_)
              refine lv_goto (tgt := 17) hx hb dX8_furnaceByTemperature_106 (by decide) ?_
              exact ih2 (oo + 1) (nn + 1) H_74 locs_75 ls_85 (by omega) (by omega) (by rw [rkM, ← hn]; subst ev_79; subst ev_43; simp only [cmF, eq_true b_46, b_82, if_true, if_false, Nat.add_zero]) hW_76 hS_77 (lv_sub hl_86 [0, 1, 3, 4, 5] rfl)
            · refine lv_iload hx hb dX8_furnaceByTemperature_85 (lv_at hl_81 0 rfl) ?_
              refine lv_if_ne (tgt := 100) hx hb dX8_furnaceByTemperature_87 (by decide) (fun b_87 => ?_) (fun b_87 => ?_)
              · refine lv_iconst (v := 0) hx hb dX8_furnaceByTemperature_100 (by decide) ?_
                refine lv_iadd hx hb dX8_furnaceByTemperature_101 ?_
                refine g_top (y := (nI nn)) (Int32.add_zero _) ?_
                refine lv_istore_n (lv' := [(3, .int (nI nn)), (5, .int v_79), (4, .int (nI oo)), (2, .int (nI ff)), (0, .ref (ad G 723)), (1, .int x)]) hx hb dX8_furnaceByTemperature_102 rfl hl_81 (by decide) rfl (fun ls_88 hl_89 => ?_)
                refine lv_iinc (v := nI (oo + 1)) (lv' := [(4, .int (nI (oo + 1))), (3, .int (nI nn)), (5, .int v_79), (2, .int (nI ff)), (0, .ref (ad G 723)), (1, .int x)]) hx hb dX8_furnaceByTemperature_103 hl_89 (k := 2) rfl (nI_1 oo) (by decide) rfl (fun ls_90 hl_91 => ?_)
                refine lv_goto (tgt := 17) hx hb dX8_furnaceByTemperature_106 (by decide) ?_
                exact ih2 (oo + 1) nn H_74 locs_75 ls_90 (by omega) (by omega) (by rw [rkM, ← hn]; subst ev_79; subst ev_43; simp only [cmF, eq_true b_46, b_82, b_87, if_true, if_false, Nat.add_zero]) hW_76 hS_77 (lv_sub hl_91 [0, 1, 3, 4, 5] rfl)
              · refine lv_iload hx hb dX8_furnaceByTemperature_90 (lv_at hl_81 1 rfl) ?_
                refine lv_iload_n hx hb dX8_furnaceByTemperature_92 rfl (lv_at hl_81 3 rfl) ?_
                refine lv_icmp_ge (tgt := 100) hx hb dX8_furnaceByTemperature_93 (by decide) (fun b_92 => ?_) (fun b_92 => ?_)
                · have fb_92 : ff ≤ oo := (nI_leI (a := ff) (b := oo) (by omega) (by omega)).mp b_92
                  refine lv_iconst (v := 0) hx hb dX8_furnaceByTemperature_100 (by decide) ?_
                  refine lv_iadd hx hb dX8_furnaceByTemperature_101 ?_
                  refine g_top (y := (nI nn)) (Int32.add_zero _) ?_
                  refine lv_istore_n (lv' := [(3, .int (nI nn)), (5, .int v_79), (4, .int (nI oo)), (2, .int (nI ff)), (0, .ref (ad G 723)), (1, .int x)]) hx hb dX8_furnaceByTemperature_102 rfl hl_81 (by decide) rfl (fun ls_93 hl_94 => ?_)
                  refine lv_iinc (v := nI (oo + 1)) (lv' := [(4, .int (nI (oo + 1))), (3, .int (nI nn)), (5, .int v_79), (2, .int (nI ff)), (0, .ref (ad G 723)), (1, .int x)]) hx hb dX8_furnaceByTemperature_103 hl_94 (k := 2) rfl (nI_1 oo) (by decide) rfl (fun ls_95 hl_96 => ?_)
                  refine lv_goto (tgt := 17) hx hb dX8_furnaceByTemperature_106 (by decide) ?_
                  exact ih2 (oo + 1) nn H_74 locs_75 ls_95 (by omega) (by omega) (by rw [rkM, ← hn]; subst ev_79; subst ev_43; simp only [cmF, eq_true b_46, b_82, eq_true b_87, b_92, if_true, if_false, Nat.add_zero]) hW_76 hS_77 (lv_sub hl_96 [0, 1, 3, 4, 5] rfl)
                · have fb_92 : ¬ ff ≤ oo := fun q9 => b_92 ((nI_leI (a := ff) (b := oo) (by omega) (by omega)).mpr q9)
                  refine lv_iconst (v := 1) hx hb dX8_furnaceByTemperature_96 (by decide) ?_
                  refine lv_goto (tgt := 101) hx hb dX8_furnaceByTemperature_97 (by decide) ?_
                  refine lv_iadd hx hb dX8_furnaceByTemperature_101 ?_
                  refine g_top (y := nI (nn + 1)) (nI_add nn 1) ?_
                  refine lv_istore_n (lv' := [(3, .int (nI (nn + 1))), (5, .int v_79), (4, .int (nI oo)), (2, .int (nI ff)), (0, .ref (ad G 723)), (1, .int x)]) hx hb dX8_furnaceByTemperature_102 rfl hl_81 (by decide) rfl (fun ls_97 hl_98 => ?_)
                  refine lv_iinc (v := nI (oo + 1)) (lv' := [(4, .int (nI (oo + 1))), (3, .int (nI (nn + 1))), (5, .int v_79), (2, .int (nI ff)), (0, .ref (ad G 723)), (1, .int x)]) hx hb dX8_furnaceByTemperature_103 hl_98 (k := 2) rfl (nI_1 oo) (by decide) rfl (fun ls_99 hl_100 => ?_)
                  refine lv_goto (tgt := 17) hx hb dX8_furnaceByTemperature_106 (by decide) ?_
                  exact ih2 (oo + 1) (nn + 1) H_74 locs_75 ls_99 (by omega) (by omega) (by rw [rkM, ← hn]; subst ev_79; subst ev_43; simp only [cmF, eq_true b_46, b_82, eq_true b_87, b_92, if_true, if_false, Nat.add_zero]) hW_76 hS_77 (lv_sub hl_100 [0, 1, 3, 4, 5] rfl)
          · refine lv_iload hx hb dX8_furnaceByTemperature_54 (lv_at hl_45 0 rfl) ?_
            refine lv_goto (tgt := 77) hx hb dX8_furnaceByTemperature_56 (by decide) ?_
            refine lv_istore (lv' := [(5, .int v_43), (4, .int (nI oo)), (3, .int (nI nn)), (2, .int (nI ff)), (0, .ref (ad G 723)), (1, .int x)]) hx hb dX8_furnaceByTemperature_77 hl_45 (by decide) rfl (fun ls_101 hl_102 => ?_)
            refine lv_iload_n hx hb dX8_furnaceByTemperature_79 rfl (lv_at hl_102 2 rfl) ?_
            refine lv_iload hx hb dX8_furnaceByTemperature_80 (lv_at hl_102 0 rfl) ?_
            refine lv_if_gt (tgt := 96) hx hb dX8_furnaceByTemperature_82 (by decide) (fun b_103 => ?_) (fun b_103 => ?_)
            · refine lv_iconst (v := 1) hx hb dX8_furnaceByTemperature_96 (by decide) ?_
              refine lv_goto (tgt := 101) hx hb dX8_furnaceByTemperature_97 (by decide) ?_
              refine lv_iadd hx hb dX8_furnaceByTemperature_101 ?_
              refine g_top (y := nI (nn + 1)) (nI_add nn 1) ?_
              refine lv_istore_n (lv' := [(3, .int (nI (nn + 1))), (5, .int v_43), (4, .int (nI oo)), (2, .int (nI ff)), (0, .ref (ad G 723)), (1, .int x)]) hx hb dX8_furnaceByTemperature_102 rfl hl_102 (by decide) rfl (fun ls_104 hl_105 => ?_)
              refine lv_iinc (v := nI (oo + 1)) (lv' := [(4, .int (nI (oo + 1))), (3, .int (nI (nn + 1))), (5, .int v_43), (2, .int (nI ff)), (0, .ref (ad G 723)), (1, .int x)]) hx hb dX8_furnaceByTemperature_103 hl_105 (k := 2) rfl (nI_1 oo) (by decide) rfl (fun ls_106 hl_107 => ?_)
              refine lv_goto (tgt := 17) hx hb dX8_furnaceByTemperature_106 (by decide) ?_
              exact ih2 (oo + 1) (nn + 1) H_38 locs_39 ls_106 (by omega) (by omega) (by rw [rkM, ← hn]; subst ev_43; simp only [cmF, b_46, b_103, if_true, if_false, Nat.add_zero]) hW_40 hS_41 (lv_sub hl_107 [0, 1, 3, 4, 5] rfl)
            · refine lv_iload hx hb dX8_furnaceByTemperature_85 (lv_at hl_102 0 rfl) ?_
              refine lv_if_ne (tgt := 100) hx hb dX8_furnaceByTemperature_87 (by decide) (fun _ => ?_) (fun h9 => absurd h9 b_46)
              refine lv_iconst (v := 0) hx hb dX8_furnaceByTemperature_100 (by decide) ?_
              refine lv_iadd hx hb dX8_furnaceByTemperature_101 ?_
              refine g_top (y := (nI nn)) (Int32.add_zero _) ?_
              refine lv_istore_n (lv' := [(3, .int (nI nn)), (5, .int v_43), (4, .int (nI oo)), (2, .int (nI ff)), (0, .ref (ad G 723)), (1, .int x)]) hx hb dX8_furnaceByTemperature_102 rfl hl_102 (by decide) rfl (fun ls_108 hl_109 => ?_)
              refine lv_iinc (v := nI (oo + 1)) (lv' := [(4, .int (nI (oo + 1))), (3, .int (nI nn)), (5, .int v_43), (2, .int (nI ff)), (0, .ref (ad G 723)), (1, .int x)]) hx hb dX8_furnaceByTemperature_103 hl_109 (k := 2) rfl (nI_1 oo) (by decide) rfl (fun ls_110 hl_111 => ?_)
              refine lv_goto (tgt := 17) hx hb dX8_furnaceByTemperature_106 (by decide) ?_
              exact ih2 (oo + 1) nn H_38 locs_39 ls_110 (by omega) (by omega) (by rw [rkM, ← hn]; subst ev_43; simp only [cmF, b_46, b_103, if_true, if_false, Nat.add_zero]) hW_40 hS_41 (lv_sub hl_111 [0, 1, 3, 4, 5] rfl)
      exact loop2 3 0 0 H locs ls_22 (by omega) (by omega) rfl hW hS (lv_sub hl_23 [0, 1, 2, 3, 4] rfl)
  exact loop 3 0 H_1 locs_2 ls_8 (by omega) rfl hW_7 hS_4 (lv_sub hl_9 [0, 1, 2] rfl)

def oM_ingotByMass (w15 : Nat → Int32) (w16 : Nat → Int32) (x : Int32) : Int32 × (Nat → Int32) := 
  match fbL cmI w16 x ((w16 43).toNatClampNeg) ((w16 43).toNatClampNeg) 0 with
  | some k => (nI k, upd w15 0 0)
  | none => ((oM_fail (upd w15 0 0) 1).1, (oM_fail (upd w15 0 0) 1).2)
set_option maxHeartbeats 4000000 in
set_option maxRecDepth 100000 in
theorem cX8_ingotByMass_ok (l : Launch) (G : GT) (X : St) (x : Int32) (hm : MInv (X.1 16)) : MetI l G yX8_ingotByMass (wsG yX8_ingotByMass cX8_ingotByMass 6 (some .int)) (rmz 1 21) [.ref (ad G 723), .int x] X (fun res Y => res = (oM_ingotByMass (X.1 15) (X.1 16) x).1 ∧ Y = setRow (X) 15 ((oM_ingotByMass (X.1 15) (X.1 16) x).2)) := by
  refine g_met (cc := cX8_ingotByMass) (maxL := 6) (ret := (some .int)) (by decide) rfl (Nat.le_of_ble_eq_true rfl) ?_
  intro p e s m below meth c ls C hr hlk hnm hW hl
  have hx := C.1.1
  have hb := C.1.2.1
  have hS : va_S (Ab G) s.heap s.heap [] := va_S.rf
  have hl : lv_has ls 6 [(0, .ref (ad G 723)), (1, .int x)] := hl
  have hW : Wd G (setRow (X) 15 (X.1 15)) s.heap := Wd.cast ((sr_same (X := X) (r := 15) rfl)).symm hW
  obtain ⟨km, hkm, em, hmm⟩ := hm.2.2.1
  obtain ⟨ki, hki, ei, hii⟩ := hm.2.2.2.1
  refine lv_aload_n hx hb dX8_ingotByMass_0 rfl (lv_at hl 0 rfl) ?_
  refine lv_iconst (v := 0) hx hb dX8_ingotByMass_1 (by decide) ?_
  refine gM_thrownP C hW hS (hwc hwX8) (mc qw_1476) dX8_ingotByMass_2 (fun H_1 locs_2 hW_3 hS_4 => ?_)
  obtain ⟨w_5, ew_5⟩ : ∃ Z9, Z9 = upd (X.1 15) (0) 0 := ⟨_, rfl⟩
  have kn_6 : w_5 (0) = 0 := by rw [ew_5]; exact pk_us
  have hW_7 : Wd G (setRow X 15 w_5) H_1 := Wd.cast (by rw [ew_5]; exact st_out) hW_3
  refine lv_iconst (v := 0) hx hb dX8_ingotByMass_5 (by decide) ?_
  refine lv_istore_n (lv' := [(2, .int 0), (0, .ref (ad G 723)), (1, .int x)]) hx hb dX8_ingotByMass_6 rfl hl (by decide) rfl (fun ls_8 hl_9 => ?_)
  have loop : ∀ (q : Nat) (ff : Nat) (H : Heap) (locs : List Loc) (ls : Array Slot), ff + q = ki → fbL cmI (X.1 16) x ki q ff = fbL cmI (X.1 16) x ki ki 0 → Wd G (setRow X 15 w_5) H → va_S (Ab G) s.heap H locs → lv_has ls 6 [(2, .int (nI ff)), (0, .ref (ad G 723)), (1, .int x)] → W p l e (rmz 1 21) s m ([.ref (ad G 723), .int x] : List Value).toArray below meth c H locs 0 0 (MQ below (Ki G (fun res Y => res = (oM_ingotByMass (X.1 15) (X.1 16) x).1 ∧ Y = setRow (X) 15 ((oM_ingotByMass (X.1 15) (X.1 16) x).2))) ([.ref (ad G 723), .int x] : List Value).toArray s 0 0 (Ab G)) (F0 m 7 ls []) := by
    intro q
    induction q with
    | zero =>
      intro ff H locs ls hq hf hW hS hl
      refine lv_iload_n hx hb dX8_ingotByMass_7 rfl (lv_at hl 0 rfl) ?_
      refine lv_aload_n hx hb dX8_ingotByMass_8 rfl (lv_at hl 1 rfl) ?_
      refine gM_v C hW (hwc hwX8) (mc qw_1481) dX8_ingotByMass_9 ?_
      refine lv_bipush (v := 43) hx hb dX8_ingotByMass_12 (by decide) ?_
      refine gm_vld C hW 43 (by decide) (vlit (by decide)) dX8_ingotByMass_14 ?_
      refine g_top (y := X.1 16 (43)) (congrFun (rd_in (by decide) rfl) _) ?_
      refine g_top (y := nI ki) ei ?_
      refine lv_icmp_ge (tgt := 130) hx hb dX8_ingotByMass_15 (by decide) (fun _ => ?_) (fun h9 => absurd (nI_le (a := ki) (b := ff) (by omega) (by omega)) h9)
      refine lv_aload_n hx hb dX8_ingotByMass_130 rfl (lv_at hl 1 rfl) ?_
      refine lv_iconst (v := 1) hx hb dX8_ingotByMass_131 (by decide) ?_
      refine g_calli (va_runV (As := [.int 1]) (rest := []) C.1 (cX8_fail_ok l G (setRow X 15 w_5) 1) (cwV 1 C.1.2.2.2.2 (gV qw_1571 qw_1573 qw_31 qw_81 qw_1574) rfl rfl rfl (by decide +kernel) ⟨Nat.le_of_ble_eq_true rfl, Nat.le_of_ble_eq_true rfl⟩) (g_rModel C hW hS [.int 1]) rfl rfl hl.1 rfl (lv_room (Nat.le_of_ble_eq_true rfl)) dX8_ingotByMass_132 ⟨Nat.zero_le _, Nat.zero_le _⟩) hS (fun r_11 Y_12 H_13 locs_14 hW_15 hS_16 h_10 => ?_)
      obtain ⟨h_17, h_10⟩ := h_10
      replace h_17 : r_11 = (oM_fail w_5 1).1 := h_17
      subst h_17
      replace h_10 : Y_12 = setRow (setRow X 15 w_5) 15 ((oM_fail w_5 1).2) := h_10
      obtain ⟨w_18, ew_18⟩ : ∃ Z9, Z9 = (oM_fail w_5 1).2 := ⟨_, rfl⟩
      have qqw_18 : Y_12 = setRow (setRow X 15 w_5) 15 w_18 := by rw [h_10, ew_18]
      have hW_19 : Wd G (setRow X 15 w_18) H_13 := Wd.cast ((qqw_18).trans (congrArg (fun Z9 => Z9) sr_out)) hW_15
      exact g_iret C hr hlk hW_19 hS_16 dX8_ingotByMass_135 (by have e9 : fbL cmI (X.1 16) x ki ki 0 = none := hf.symm; subst ew_5; subst ew_18; exact ⟨(by simp only [oM_ingotByMass, ei, clf (show ki < 2 ^ 31 by omega), e9]), (by simp only [oM_ingotByMass, ei, clf (show ki < 2 ^ 31 by omega), e9])⟩)
    | succ q ih =>
      intro ff H locs ls hq hf hW hS hl
      refine lv_iload_n hx hb dX8_ingotByMass_7 rfl (lv_at hl 0 rfl) ?_
      refine lv_aload_n hx hb dX8_ingotByMass_8 rfl (lv_at hl 1 rfl) ?_
      refine gM_v C hW (hwc hwX8) (mc qw_1481) dX8_ingotByMass_9 ?_
      refine lv_bipush (v := 43) hx hb dX8_ingotByMass_12 (by decide) ?_
      refine gm_vld C hW 43 (by decide) (vlit (by decide)) dX8_ingotByMass_14 ?_
      refine g_top (y := X.1 16 (43)) (congrFun (rd_in (by decide) rfl) _) ?_
      refine g_top (y := nI ki) ei ?_
      refine lv_icmp_ge (tgt := 130) hx hb dX8_ingotByMass_15 (by decide) (fun h9 => absurd h9 (nI_ge (a := ff) (b := ki) (by omega) (by omega))) (fun _ => ?_)
      refine lv_iconst (v := 0) hx hb dX8_ingotByMass_18 (by decide) ?_
      refine lv_istore_n (lv' := [(3, .int 0), (2, .int (nI ff)), (0, .ref (ad G 723)), (1, .int x)]) hx hb dX8_ingotByMass_19 rfl hl (by decide) rfl (fun ls_20 hl_21 => ?_)
      refine lv_iconst (v := 0) hx hb dX8_ingotByMass_20 (by decide) ?_
      refine lv_istore (lv' := [(4, .int 0), (3, .int 0), (2, .int (nI ff)), (0, .ref (ad G 723)), (1, .int x)]) hx hb dX8_ingotByMass_21 hl_21 (by decide) rfl (fun ls_22 hl_23 => ?_)
      have loop2 : ∀ (q2 : Nat) (oo nn : Nat) (H : Heap) (locs : List Loc) (ls : Array Slot), oo + q2 = ki → nn ≤ oo → nn = rkM cmI (X.1 16) ff oo → Wd G (setRow X 15 w_5) H → va_S (Ab G) s.heap H locs → lv_has ls 6 [(4, .int (nI oo)), (3, .int (nI nn)), (2, .int (nI ff)), (0, .ref (ad G 723)), (1, .int x)] → W p l e (rmz 1 21) s m ([.ref (ad G 723), .int x] : List Value).toArray below meth c H locs 0 0 (MQ below (Ki G (fun res Y => res = (oM_ingotByMass (X.1 15) (X.1 16) x).1 ∧ Y = setRow (X) 15 ((oM_ingotByMass (X.1 15) (X.1 16) x).2))) ([.ref (ad G 723), .int x] : List Value).toArray s 0 0 (Ab G)) (F0 m 23 ls []) := by
        intro q2
        induction q2 with
        | zero =>
          intro oo nn H locs ls hq2 hbn hn hW hS hl
          have ho9 : oo = ki := by omega
          have hn9 : nn = rkM cmI (X.1 16) ff ki := by rw [hn, ho9]
          refine lv_iload hx hb dX8_ingotByMass_23 (lv_at hl 0 rfl) ?_
          refine lv_aload_n hx hb dX8_ingotByMass_25 rfl (lv_at hl 3 rfl) ?_
          refine gM_v C hW (hwc hwX8) (mc qw_1481) dX8_ingotByMass_26 ?_
          refine lv_bipush (v := 43) hx hb dX8_ingotByMass_29 (by decide) ?_
          refine gm_vld C hW 43 (by decide) (vlit (by decide)) dX8_ingotByMass_31 ?_
          refine g_top (y := X.1 16 (43)) (congrFun (rd_in (by decide) rfl) _) ?_
          refine g_top (y := nI ki) ei ?_
          refine lv_icmp_ge (tgt := 117) hx hb dX8_ingotByMass_32 (by decide) (fun _ => ?_) (fun h9 => absurd (nI_le (a := ki) (b := oo) (by omega) (by omega)) h9)
          refine lv_iload_n hx hb dX8_ingotByMass_117 rfl (lv_at hl 1 rfl) ?_
          refine lv_iload_n hx hb dX8_ingotByMass_118 rfl (lv_at hl 4 rfl) ?_
          refine lv_icmp_ne (tgt := 124) hx hb dX8_ingotByMass_119 (by decide) (fun b_24 => ?_) (fun b_24 => ?_)
          · refine lv_iinc (v := nI (ff + 1)) (lv' := [(2, .int (nI (ff + 1))), (4, .int (nI oo)), (3, .int (nI nn)), (0, .ref (ad G 723)), (1, .int x)]) hx hb dX8_ingotByMass_124 hl (k := 2) rfl (nI_1 ff) (by decide) rfl (fun ls_25 hl_26 => ?_)
            refine lv_goto (tgt := 7) hx hb dX8_ingotByMass_127 (by decide) ?_
            exact ih (ff + 1) H locs ls_25 (by omega) ((if_neg (by rw [← hn9]; exact b_24)).symm.trans hf) hW hS (lv_sub hl_26 [0, 3, 4] rfl)
          · refine lv_iload_n hx hb dX8_ingotByMass_122 rfl (lv_at hl 2 rfl) ?_
            exact g_iret C hr hlk hW hS dX8_ingotByMass_123 (by have e9 : fbL cmI (X.1 16) x ki ki 0 = some ff := hf.symm.trans (if_pos (by rw [← hn9]; exact b_24)); subst ew_5; exact ⟨(by simp only [oM_ingotByMass, ei, clf (show ki < 2 ^ 31 by omega), e9]), (by simp only [oM_ingotByMass, ei, clf (show ki < 2 ^ 31 by omega), e9])⟩)
        | succ q2 ih2 =>
          intro oo nn H locs ls hq2 hbn hn hW hS hl
          refine lv_iload hx hb dX8_ingotByMass_23 (lv_at hl 0 rfl) ?_
          refine lv_aload_n hx hb dX8_ingotByMass_25 rfl (lv_at hl 3 rfl) ?_
          refine gM_v C hW (hwc hwX8) (mc qw_1481) dX8_ingotByMass_26 ?_
          refine lv_bipush (v := 43) hx hb dX8_ingotByMass_29 (by decide) ?_
          refine gm_vld C hW 43 (by decide) (vlit (by decide)) dX8_ingotByMass_31 ?_
          refine g_top (y := X.1 16 (43)) (congrFun (rd_in (by decide) rfl) _) ?_
          refine g_top (y := nI ki) ei ?_
          refine lv_icmp_ge (tgt := 117) hx hb dX8_ingotByMass_32 (by decide) (fun h9 => absurd h9 (nI_ge (a := oo) (b := ki) (by omega) (by omega))) (fun _ => ?_)
          refine lv_aload_n hx hb dX8_ingotByMass_35 rfl (lv_at hl 3 rfl) ?_
          refine lv_iload hx hb dX8_ingotByMass_36 (lv_at hl 0 rfl) ?_
          refine g_calli (va_runS (As := [.int (nI oo)]) (rest := [.ref (ad G 723)]) C.1 (cX8_ingot_ok l G (setRow X 15 w_5) (nI oo)) (va_cwS 1 C.1.2.2.2.2 (gS qw_1678 qw_1679 qw_81 qw_1680) rfl rfl rfl (by decide +kernel) ⟨Nat.le_of_ble_eq_true rfl, Nat.le_of_ble_eq_true rfl⟩) (g_pre C hW hS [.int (nI oo)]) rfl rfl hl.1 rfl (lv_room (Nat.le_of_ble_eq_true rfl)) dX8_ingotByMass_38 ⟨Nat.zero_le _, Nat.zero_le _⟩) hS (fun r_28 Y_29 H_30 locs_31 hW_32 hS_33 h_27 => ?_)
          obtain ⟨h_27, hy_34⟩ := h_27
          replace hy_34 := hy_34.symm
          subst hy_34
          replace h_27 : r_28 = oM_ingot (nI oo) := h_27
          subst h_27
          refine g_top (y := nI (80 + 4 * oo)) (at_ingot oo) ?_
          refine g_calli (va_runV (As := [.int (nI (80 + 4 * oo))]) (rest := []) C.1 (cX8_mass_ok l G (setRow X 15 w_5) (80 + 4 * oo) (show 80 + 4 * oo + 4 ≤ 128 by omega)) (cwV 1 C.1.2.2.2.2 (gV qw_1575 qw_1577 qw_32 qw_81 qw_1578) rfl rfl rfl (by decide +kernel) ⟨Nat.le_of_ble_eq_true rfl, Nat.le_of_ble_eq_true rfl⟩) (g_rModel C hW_32 hS_33 [.int (nI (80 + 4 * oo))]) rfl rfl hl.1 rfl (lv_room (Nat.le_of_ble_eq_true rfl)) dX8_ingotByMass_41 ⟨Nat.zero_le _, Nat.zero_le _⟩) hS_33 (fun r_36 Y_37 H_38 locs_39 hW_40 hS_41 h_35 => ?_)
          obtain ⟨h_35, hy_42⟩ := h_35
          replace hy_42 := hy_42.symm
          subst hy_42
          replace h_35 : r_36 = oM_mass (X.1 16) (80 + 4 * oo) := h_35
          subst h_35
          refine lv_aload_n hx hb dX8_ingotByMass_44 rfl (lv_at hl 3 rfl) ?_
          refine lv_iload_n hx hb dX8_ingotByMass_45 rfl (lv_at hl 2 rfl) ?_
          refine g_calli (va_runS (As := [.int (nI ff)]) (rest := [.ref (ad G 723), .int (oM_mass (X.1 16) (80 + 4 * oo))]) C.1 (cX8_ingot_ok l G (setRow X 15 w_5) (nI ff)) (va_cwS 1 C.1.2.2.2.2 (gS qw_1678 qw_1679 qw_81 qw_1680) rfl rfl rfl (by decide +kernel) ⟨Nat.le_of_ble_eq_true rfl, Nat.le_of_ble_eq_true rfl⟩) (g_pre C hW_40 hS_41 [.int (nI ff)]) rfl rfl hl.1 rfl (lv_room (Nat.le_of_ble_eq_true rfl)) dX8_ingotByMass_46 ⟨Nat.zero_le _, Nat.zero_le _⟩) hS_41 (fun r_44 Y_45 H_46 locs_47 hW_48 hS_49 h_43 => ?_)
          obtain ⟨h_43, hy_50⟩ := h_43
          replace hy_50 := hy_50.symm
          subst hy_50
          replace h_43 : r_44 = oM_ingot (nI ff) := h_43
          subst h_43
          refine g_top (y := nI (80 + 4 * ff)) (at_ingot ff) ?_
          refine g_calli (va_runV (As := [.int (nI (80 + 4 * ff))]) (rest := [.int (oM_mass (X.1 16) (80 + 4 * oo))]) C.1 (cX8_mass_ok l G (setRow X 15 w_5) (80 + 4 * ff) (show 80 + 4 * ff + 4 ≤ 128 by omega)) (cwV 1 C.1.2.2.2.2 (gV qw_1575 qw_1577 qw_32 qw_81 qw_1578) rfl rfl rfl (by decide +kernel) ⟨Nat.le_of_ble_eq_true rfl, Nat.le_of_ble_eq_true rfl⟩) (g_rModel C hW_48 hS_49 [.int (nI (80 + 4 * ff))]) rfl rfl hl.1 rfl (lv_room (Nat.le_of_ble_eq_true rfl)) dX8_ingotByMass_49 ⟨Nat.zero_le _, Nat.zero_le _⟩) hS_49 (fun r_52 Y_53 H_54 locs_55 hW_56 hS_57 h_51 => ?_)
          obtain ⟨h_51, hy_58⟩ := h_51
          replace hy_58 := hy_58.symm
          subst hy_58
          replace h_51 : r_52 = oM_mass (X.1 16) (80 + 4 * ff) := h_51
          subst h_51
          refine lv_isub hx hb dX8_ingotByMass_52 ?_
          refine lv_topi (fun v_59 ev_59 => ?_)
          refine lv_istore (lv' := [(5, .int v_59), (4, .int (nI oo)), (3, .int (nI nn)), (2, .int (nI ff)), (0, .ref (ad G 723)), (1, .int x)]) hx hb dX8_ingotByMass_53 hl (by decide) rfl (fun ls_60 hl_61 => ?_)
          refine lv_iload hx hb dX8_ingotByMass_55 (lv_at hl_61 0 rfl) ?_
          refine lv_if_eq (tgt := 65) hx hb dX8_ingotByMass_57 (by decide) (fun b_62 => ?_) (fun b_62 => ?_)
          · refine lv_aload_n hx hb dX8_ingotByMass_65 rfl (lv_at hl_61 4 rfl) ?_
            refine gM_v C hW_56 (hwc hwX8) (mc qw_1481) dX8_ingotByMass_66 ?_
            refine lv_iload hx hb dX8_ingotByMass_69 (lv_at hl_61 1 rfl) ?_
            refine g_calli (va_runS (As := [.int (nI oo)]) (rest := [.ref (ad G 724)]) C.1 (cX8_ingot_ok l G (setRow X 15 w_5) (nI oo)) (va_cwS 1 C.1.2.2.2.2 (gS qw_1678 qw_1679 qw_81 qw_1680) rfl rfl rfl (by decide +kernel) ⟨Nat.le_of_ble_eq_true rfl, Nat.le_of_ble_eq_true rfl⟩) (g_pre C hW_56 hS_57 [.int (nI oo)]) rfl rfl hl_61.1 rfl (lv_room (Nat.le_of_ble_eq_true rfl)) dX8_ingotByMass_71 ⟨Nat.zero_le _, Nat.zero_le _⟩) hS_57 (fun r_64 Y_65 H_66 locs_67 hW_68 hS_69 h_63 => ?_)
            obtain ⟨h_63, hy_70⟩ := h_63
            replace hy_70 := hy_70.symm
            subst hy_70
            replace h_63 : r_64 = oM_ingot (nI oo) := h_63
            subst h_63
            refine g_top (y := nI (80 + 4 * oo)) (at_ingot oo) ?_
            refine gm_vld C hW_68 (80 + 4 * oo) (nI_clamp (by omega)) (vp_in_nI (show 80 + 4 * oo < 128 by omega) (by decide)) dX8_ingotByMass_74 ?_
            refine g_top (y := X.1 16 (80 + 4 * oo)) (congrFun (rd_in (by decide) rfl) _) ?_
            refine lv_aload_n hx hb dX8_ingotByMass_75 rfl (lv_at hl_61 4 rfl) ?_
            refine gM_v C hW_68 (hwc hwX8) (mc qw_1481) dX8_ingotByMass_76 ?_
            refine lv_iload_n hx hb dX8_ingotByMass_79 rfl (lv_at hl_61 3 rfl) ?_
            refine g_calli (va_runS (As := [.int (nI ff)]) (rest := [.ref (ad G 724), .int (X.1 16 (80 + 4 * oo))]) C.1 (cX8_ingot_ok l G (setRow X 15 w_5) (nI ff)) (va_cwS 1 C.1.2.2.2.2 (gS qw_1678 qw_1679 qw_81 qw_1680) rfl rfl rfl (by decide +kernel) ⟨Nat.le_of_ble_eq_true rfl, Nat.le_of_ble_eq_true rfl⟩) (g_pre C hW_68 hS_69 [.int (nI ff)]) rfl rfl hl_61.1 rfl (lv_room (Nat.le_of_ble_eq_true rfl)) dX8_ingotByMass_80 ⟨Nat.zero_le _, Nat.zero_le _⟩) hS_69 (fun r_72 Y_73 H_74 locs_75 hW_76 hS_77 h_71 => ?_)
            obtain ⟨h_71, hy_78⟩ := h_71
            replace hy_78 := hy_78.symm
            subst hy_78
            replace h_71 : r_72 = oM_ingot (nI ff) := h_71
            subst h_71
            refine g_top (y := nI (80 + 4 * ff)) (at_ingot ff) ?_
            refine gm_vld C hW_76 (80 + 4 * ff) (nI_clamp (by omega)) (vp_in_nI (show 80 + 4 * ff < 128 by omega) (by decide)) dX8_ingotByMass_83 ?_
            refine g_top (y := X.1 16 (80 + 4 * ff)) (congrFun (rd_in (by decide) rfl) _) ?_
            refine lv_isub hx hb dX8_ingotByMass_84 ?_
            refine lv_topi (fun v_79 ev_79 => ?_)
            refine lv_istore (lv' := [(5, .int v_79), (4, .int (nI oo)), (3, .int (nI nn)), (2, .int (nI ff)), (0, .ref (ad G 723)), (1, .int x)]) hx hb dX8_ingotByMass_85 hl_61 (by decide) rfl (fun ls_80 hl_81 => ?_)
            refine lv_iload_n hx hb dX8_ingotByMass_87 rfl (lv_at hl_81 2 rfl) ?_
            refine lv_iload hx hb dX8_ingotByMass_88 (lv_at hl_81 0 rfl) ?_
            refine lv_if_gt (tgt := 104) hx hb dX8_ingotByMass_90 (by decide) (fun b_82 => ?_) (fun b_82 => ?_)
            · refine lv_iconst (v := 1) hx hb dX8_ingotByMass_104 (by decide) ?_
              refine lv_goto (tgt := 109) hx hb dX8_ingotByMass_105 (by decide) ?_
              refine lv_iadd hx hb dX8_ingotByMass_109 ?_
              refine g_top (y := nI (nn + 1)) (nI_add nn 1) ?_
              refine lv_istore_n (lv' := [(3, .int (nI (nn + 1))), (5, .int v_79), (4, .int (nI oo)), (2, .int (nI ff)), (0, .ref (ad G 723)), (1, .int x)]) hx hb dX8_ingotByMass_110 rfl hl_81 (by decide) rfl (fun ls_83 hl_84 => ?_)
              refine lv_iinc (v := nI (oo + 1)) (lv' := [(4, .int (nI (oo + 1))), (3, .int (nI (nn + 1))), (5, .int v_79), (2, .int (nI ff)), (0, .ref (ad G 723)), (1, .int x)]) hx hb dX8_ingotByMass_111 hl_84 (k := 2) rfl (nI_1 oo) (by decide) rfl (fun ls_85 hl_86 => ?_)
              refine lv_goto (tgt := 23) hx hb dX8_ingotByMass_114 (by decide) ?_
              exact ih2 (oo + 1) (nn + 1) H_74 locs_75 ls_85 (by omega) (by omega) (by rw [rkM, ← hn]; subst ev_79; subst ev_59; simp only [cmI, eq_true b_62, b_82, if_true, if_false, Nat.add_zero]) hW_76 hS_77 (lv_sub hl_86 [0, 1, 3, 4, 5] rfl)
            · refine lv_iload hx hb dX8_ingotByMass_93 (lv_at hl_81 0 rfl) ?_
              refine lv_if_ne (tgt := 108) hx hb dX8_ingotByMass_95 (by decide) (fun b_87 => ?_) (fun b_87 => ?_)
              · refine lv_iconst (v := 0) hx hb dX8_ingotByMass_108 (by decide) ?_
                refine lv_iadd hx hb dX8_ingotByMass_109 ?_
                refine g_top (y := (nI nn)) (Int32.add_zero _) ?_
                refine lv_istore_n (lv' := [(3, .int (nI nn)), (5, .int v_79), (4, .int (nI oo)), (2, .int (nI ff)), (0, .ref (ad G 723)), (1, .int x)]) hx hb dX8_ingotByMass_110 rfl hl_81 (by decide) rfl (fun ls_88 hl_89 => ?_)
                refine lv_iinc (v := nI (oo + 1)) (lv' := [(4, .int (nI (oo + 1))), (3, .int (nI nn)), (5, .int v_79), (2, .int (nI ff)), (0, .ref (ad G 723)), (1, .int x)]) hx hb dX8_ingotByMass_111 hl_89 (k := 2) rfl (nI_1 oo) (by decide) rfl (fun ls_90 hl_91 => ?_)
                refine lv_goto (tgt := 23) hx hb dX8_ingotByMass_114 (by decide) ?_
                exact ih2 (oo + 1) nn H_74 locs_75 ls_90 (by omega) (by omega) (by rw [rkM, ← hn]; subst ev_79; subst ev_59; simp only [cmI, eq_true b_62, b_82, b_87, if_true, if_false, Nat.add_zero]) hW_76 hS_77 (lv_sub hl_91 [0, 1, 3, 4, 5] rfl)
              · refine lv_iload hx hb dX8_ingotByMass_98 (lv_at hl_81 1 rfl) ?_
                refine lv_iload_n hx hb dX8_ingotByMass_100 rfl (lv_at hl_81 3 rfl) ?_
                refine lv_icmp_ge (tgt := 108) hx hb dX8_ingotByMass_101 (by decide) (fun b_92 => ?_) (fun b_92 => ?_)
                · have fb_92 : ff ≤ oo := (nI_leI (a := ff) (b := oo) (by omega) (by omega)).mp b_92
                  refine lv_iconst (v := 0) hx hb dX8_ingotByMass_108 (by decide) ?_
                  refine lv_iadd hx hb dX8_ingotByMass_109 ?_
                  refine g_top (y := (nI nn)) (Int32.add_zero _) ?_
                  refine lv_istore_n (lv' := [(3, .int (nI nn)), (5, .int v_79), (4, .int (nI oo)), (2, .int (nI ff)), (0, .ref (ad G 723)), (1, .int x)]) hx hb dX8_ingotByMass_110 rfl hl_81 (by decide) rfl (fun ls_93 hl_94 => ?_)
                  refine lv_iinc (v := nI (oo + 1)) (lv' := [(4, .int (nI (oo + 1))), (3, .int (nI nn)), (5, .int v_79), (2, .int (nI ff)), (0, .ref (ad G 723)), (1, .int x)]) hx hb dX8_ingotByMass_111 hl_94 (k := 2) rfl (nI_1 oo) (by decide) rfl (fun ls_95 hl_96 => ?_)
                  refine lv_goto (tgt := 23) hx hb dX8_ingotByMass_114 (by decide) ?_
                  exact ih2 (oo + 1) nn H_74 locs_75 ls_95 (by omega) (by omega) (by rw [rkM, ← hn]; subst ev_79; subst ev_59; simp only [cmI, eq_true b_62, b_82, eq_true b_87, b_92, if_true, if_false, Nat.add_zero]) hW_76 hS_77 (lv_sub hl_96 [0, 1, 3, 4, 5] rfl)
                · have fb_92 : ¬ ff ≤ oo := fun q9 => b_92 ((nI_leI (a := ff) (b := oo) (by omega) (by omega)).mpr q9)
                  refine lv_iconst (v := 1) hx hb dX8_ingotByMass_104 (by decide) ?_
                  refine lv_goto (tgt := 109) hx hb dX8_ingotByMass_105 (by decide) ?_
                  refine lv_iadd hx hb dX8_ingotByMass_109 ?_
                  refine g_top (y := nI (nn + 1)) (nI_add nn 1) ?_
                  refine lv_istore_n (lv' := [(3, .int (nI (nn + 1))), (5, .int v_79), (4, .int (nI oo)), (2, .int (nI ff)), (0, .ref (ad G 723)), (1, .int x)]) hx hb dX8_ingotByMass_110 rfl hl_81 (by decide) rfl (fun ls_97 hl_98 => ?_)
                  refine lv_iinc (v := nI (oo + 1)) (lv' := [(4, .int (nI (oo + 1))), (3, .int (nI (nn + 1))), (5, .int v_79), (2, .int (nI ff)), (0, .ref (ad G 723)), (1, .int x)]) hx hb dX8_ingotByMass_111 hl_98 (k := 2) rfl (nI_1 oo) (by decide) rfl (fun ls_99 hl_100 => ?_)
                  refine lv_goto (tgt := 23) hx hb dX8_ingotByMass_114 (by decide) ?_
                  exact ih2 (oo + 1) (nn + 1) H_74 locs_75 ls_99 (by omega) (by omega) (by rw [rkM, ← hn]; subst ev_79; subst ev_59; simp only [cmI, eq_true b_62, b_82, eq_true b_87, b_92, if_true, if_false, Nat.add_zero]) hW_76 hS_77 (lv_sub hl_100 [0, 1, 3, 4, 5] rfl)
          · refine lv_iload hx hb dX8_ingotByMass_60 (lv_at hl_61 0 rfl) ?_
            refine lv_goto (tgt := 85) hx hb dX8_ingotByMass_62 (by decide) ?_
            refine lv_istore (lv' := [(5, .int v_59), (4, .int (nI oo)), (3, .int (nI nn)), (2, .int (nI ff)), (0, .ref (ad G 723)), (1, .int x)]) hx hb dX8_ingotByMass_85 hl_61 (by decide) rfl (fun ls_101 hl_102 => ?_)
            refine lv_iload_n hx hb dX8_ingotByMass_87 rfl (lv_at hl_102 2 rfl) ?_
            refine lv_iload hx hb dX8_ingotByMass_88 (lv_at hl_102 0 rfl) ?_
            refine lv_if_gt (tgt := 104) hx hb dX8_ingotByMass_90 (by decide) (fun b_103 => ?_) (fun b_103 => ?_)
            · refine lv_iconst (v := 1) hx hb dX8_ingotByMass_104 (by decide) ?_
              refine lv_goto (tgt := 109) hx hb dX8_ingotByMass_105 (by decide) ?_
              refine lv_iadd hx hb dX8_ingotByMass_109 ?_
              refine g_top (y := nI (nn + 1)) (nI_add nn 1) ?_
              refine lv_istore_n (lv' := [(3, .int (nI (nn + 1))), (5, .int v_59), (4, .int (nI oo)), (2, .int (nI ff)), (0, .ref (ad G 723)), (1, .int x)]) hx hb dX8_ingotByMass_110 rfl hl_102 (by decide) rfl (fun ls_104 hl_105 => ?_)
              refine lv_iinc (v := nI (oo + 1)) (lv' := [(4, .int (nI (oo + 1))), (3, .int (nI (nn + 1))), (5, .int v_59), (2, .int (nI ff)), (0, .ref (ad G 723)), (1, .int x)]) hx hb dX8_ingotByMass_111 hl_105 (k := 2) rfl (nI_1 oo) (by decide) rfl (fun ls_106 hl_107 => ?_)
              refine lv_goto (tgt := 23) hx hb dX8_ingotByMass_114 (by decide) ?_
              exact ih2 (oo + 1) (nn + 1) H_54 locs_55 ls_106 (by omega) (by omega) (by rw [rkM, ← hn]; subst ev_59; simp only [cmI, b_62, b_103, if_true, if_false, Nat.add_zero]) hW_56 hS_57 (lv_sub hl_107 [0, 1, 3, 4, 5] rfl)
            · refine lv_iload hx hb dX8_ingotByMass_93 (lv_at hl_102 0 rfl) ?_
              refine lv_if_ne (tgt := 108) hx hb dX8_ingotByMass_95 (by decide) (fun _ => ?_) (fun h9 => absurd h9 b_62)
              refine lv_iconst (v := 0) hx hb dX8_ingotByMass_108 (by decide) ?_
              refine lv_iadd hx hb dX8_ingotByMass_109 ?_
              refine g_top (y := (nI nn)) (Int32.add_zero _) ?_
              refine lv_istore_n (lv' := [(3, .int (nI nn)), (5, .int v_59), (4, .int (nI oo)), (2, .int (nI ff)), (0, .ref (ad G 723)), (1, .int x)]) hx hb dX8_ingotByMass_110 rfl hl_102 (by decide) rfl (fun ls_108 hl_109 => ?_)
              refine lv_iinc (v := nI (oo + 1)) (lv' := [(4, .int (nI (oo + 1))), (3, .int (nI nn)), (5, .int v_59), (2, .int (nI ff)), (0, .ref (ad G 723)), (1, .int x)]) hx hb dX8_ingotByMass_111 hl_109 (k := 2) rfl (nI_1 oo) (by decide) rfl (fun ls_110 hl_111 => ?_)
              refine lv_goto (tgt := 23) hx hb dX8_ingotByMass_114 (by decide) ?_
              exact ih2 (oo + 1) nn H_54 locs_55 ls_110 (by omega) (by omega) (by rw [rkM, ← hn]; subst ev_59; simp only [cmI, b_62, b_103, if_true, if_false, Nat.add_zero]) hW_56 hS_57 (lv_sub hl_111 [0, 1, 3, 4, 5] rfl)
      exact loop2 ki 0 0 H locs ls_22 (by omega) (by omega) rfl hW hS (lv_sub hl_23 [0, 1, 2, 3, 4] rfl)
  exact loop ki 0 H_1 locs_2 ls_8 (by omega) rfl hW_7 hS_4 (lv_sub hl_9 [0, 1, 2] rfl)

def oM_pouringMinutes (w15 : Nat → Int32) (w16 : Nat → Int32) (w21 : Nat → Int32) (x : Int32) : Int32 × (Nat → Int32) := if oM_isThree x = 0 then (0, (upd (w15) (0) 1)) else (if oM_isFluid (w16) (w21) (27 + 5 * x.toNatClampNeg) = 0 then (0, (upd (w15) (0) 2)) else (((w16 ((27 + 5 * x.toNatClampNeg) + 4)) - (oM_point (w16) (w21) (27 + 5 * x.toNatClampNeg))) / 10, (upd (w15) (0) 0)))
set_option maxHeartbeats 4000000 in
set_option maxRecDepth 100000 in
theorem cX8_pouringMinutes_ok (l : Launch) (G : GT) (X : St) (x : Int32) : MetI l G yX8_pouringMinutes (wsG yX8_pouringMinutes cX8_pouringMinutes 2 (some .int)) (rmz 3 65) [.ref (ad G 723), .int x] X (fun res Y => res = (oM_pouringMinutes (X.1 15) (X.1 16) (X.1 21) x).1 ∧ Y = setRow (X) 15 ((oM_pouringMinutes (X.1 15) (X.1 16) (X.1 21) x).2)) := by
  refine g_met (cc := cX8_pouringMinutes) (maxL := 2) (ret := (some .int)) (by decide) rfl (Nat.le_of_ble_eq_true rfl) ?_
  intro p e s m below meth c ls C hr hlk hnm hW hl
  have hx := C.1.1
  have hb := C.1.2.1
  have hS : va_S (Ab G) s.heap s.heap [] := va_S.rf
  have hl : lv_has ls 2 [(0, .ref (ad G 723)), (1, .int x)] := hl
  have hW : Wd G (setRow (X) 15 (X.1 15)) s.heap := Wd.cast ((sr_same (X := X) (r := 15) rfl)).symm hW
  refine lv_aload_n hx hb dX8_pouringMinutes_0 rfl (lv_at hl 0 rfl) ?_
  refine lv_iload_n hx hb dX8_pouringMinutes_1 rfl (lv_at hl 1 rfl) ?_
  refine g_calli (va_runS (As := [.int x]) (rest := [.ref (ad G 723)]) C.1 (cX8_isThree_ok l G (setRow X 15 (X.1 15)) x) (va_cwS 1 C.1.2.2.2.2 (gS qw_1565 qw_1566 qw_81 qw_1567) rfl rfl rfl (by decide +kernel) ⟨Nat.le_of_ble_eq_true rfl, Nat.le_of_ble_eq_true rfl⟩) (g_pre C hW hS [.int x]) rfl rfl hl.1 rfl (lv_room (Nat.le_of_ble_eq_true rfl)) dX8_pouringMinutes_2 ⟨Nat.zero_le _, Nat.zero_le _⟩) hS (fun r_2 Y_3 H_4 locs_5 hW_6 hS_7 h_1 => ?_)
  obtain ⟨h_1, hy_8⟩ := h_1
  replace hy_8 := hy_8.symm
  subst hy_8
  replace h_1 : r_2 = oM_isThree x := h_1
  subst h_1
  refine lv_if_ne (tgt := 12) hx hb dX8_pouringMinutes_5 (by decide) (fun b_9 => ?_) (fun b_9 => ?_)
  · obtain ⟨f_10, hf_10, rfl⟩ := three_in b_9
    refine lv_aload_n hx hb dX8_pouringMinutes_12 rfl (lv_at hl 0 rfl) ?_
    refine lv_iload_n hx hb dX8_pouringMinutes_13 rfl (lv_at hl 1 rfl) ?_
    refine g_calli (va_runS (As := [.int (nI f_10)]) (rest := [.ref (ad G 723), .ref (ad G 723)]) C.1 (cX8_ladle_ok l G (setRow X 15 (X.1 15)) (nI f_10)) (va_cwS 1 C.1.2.2.2.2 (gS qw_1473 qw_1474 qw_81 qw_1475) rfl rfl rfl (by decide +kernel) ⟨Nat.le_of_ble_eq_true rfl, Nat.le_of_ble_eq_true rfl⟩) (g_pre C hW_6 hS_7 [.int (nI f_10)]) rfl rfl hl.1 rfl (lv_room (Nat.le_of_ble_eq_true rfl)) dX8_pouringMinutes_14 ⟨Nat.zero_le _, Nat.zero_le _⟩) hS_7 (fun r_12 Y_13 H_14 locs_15 hW_16 hS_17 h_11 => ?_)
    obtain ⟨h_11, hy_18⟩ := h_11
    replace hy_18 := hy_18.symm
    subst hy_18
    replace h_11 : r_12 = oM_ladle (nI f_10) := h_11
    subst h_11
    refine g_top (y := nI (27 + 5 * f_10)) (at_ladle f_10) ?_
    refine g_calli (va_runV (As := [.int (nI (27 + 5 * f_10))]) (rest := [.ref (ad G 723)]) C.1 (cX8_isFluid_ok l G (setRow X 15 (X.1 15)) (27 + 5 * f_10) (show 27 + 5 * f_10 + 5 ≤ 128 by omega)) (cwV 1 C.1.2.2.2.2 (gV qw_1611 qw_1613 qw_39 qw_81 qw_1614) rfl rfl rfl (by decide +kernel) ⟨Nat.le_of_ble_eq_true rfl, Nat.le_of_ble_eq_true rfl⟩) (g_rModel C hW_16 hS_17 [.int (nI (27 + 5 * f_10))]) rfl rfl hl.1 rfl (lv_room (Nat.le_of_ble_eq_true rfl)) dX8_pouringMinutes_17 ⟨Nat.zero_le _, Nat.zero_le _⟩) hS_17 (fun r_20 Y_21 H_22 locs_23 hW_24 hS_25 h_19 => ?_)
    obtain ⟨h_19, hy_26⟩ := h_19
    replace hy_26 := hy_26.symm
    subst hy_26
    replace h_19 : r_20 = oM_isFluid (X.1 16) (X.1 21) (27 + 5 * f_10) := h_19
    subst h_19
    refine lv_if_eq (tgt := 27) hx hb dX8_pouringMinutes_20 (by decide) (fun b_27 => ?_) (fun b_27 => ?_)
    · refine lv_iconst (v := 2) hx hb dX8_pouringMinutes_27 (by decide) ?_
      refine gM_thrownP C hW_24 hS_25 (hwc hwX8) (mc qw_1476) dX8_pouringMinutes_28 (fun H_28 locs_29 hW_30 hS_31 => ?_)
      obtain ⟨w_32, ew_32⟩ : ∃ Z9, Z9 = upd (X.1 15) (0) 2 := ⟨_, rfl⟩
      have kn_33 : w_32 (0) = 2 := by rw [ew_32]; exact pk_us
      have hW_34 : Wd G (setRow X 15 w_32) H_28 := Wd.cast (by rw [ew_32]; exact st_out) hW_30
      refine lv_aload_n hx hb dX8_pouringMinutes_31 rfl (lv_at hl 0 rfl) ?_
      refine gM_thrown C hW_34 (hwc hwX8) (mc qw_1476) dX8_pouringMinutes_32 ?_
      refine g_top (y := w_32 (0)) (congrFun rd_out _) ?_
      refine g_top (y := 2) kn_33 ?_
      refine lv_if_ne (tgt := 64) hx hb dX8_pouringMinutes_35 (by decide) (fun _ => ?_) (fun h9 => absurd h9 (by decide))
      refine lv_iconst (v := 0) hx hb dX8_pouringMinutes_64 (by decide) ?_
      exact g_iret C hr hlk hW_34 hS_31 dX8_pouringMinutes_65 (by subst ew_32; exact ⟨(by first | rfl | (simp only [oM_pouringMinutes, clf (show f_10 < 2 ^ 31 by omega), b_9, eq_true b_27, if_true, if_false]; first | done | rfl)), (by first | rfl | (simp only [oM_pouringMinutes, clf (show f_10 < 2 ^ 31 by omega), b_9, eq_true b_27, if_true, if_false]; first | done | rfl))⟩)
    · refine lv_iconst (v := 0) hx hb dX8_pouringMinutes_23 (by decide) ?_
      refine lv_goto (tgt := 28) hx hb dX8_pouringMinutes_24 (by decide) ?_
      refine gM_thrownP C hW_24 hS_25 (hwc hwX8) (mc qw_1476) dX8_pouringMinutes_28 (fun H_35 locs_36 hW_37 hS_38 => ?_)
      obtain ⟨w_39, ew_39⟩ : ∃ Z9, Z9 = upd (X.1 15) (0) 0 := ⟨_, rfl⟩
      have kn_40 : w_39 (0) = 0 := by rw [ew_39]; exact pk_us
      have hW_41 : Wd G (setRow X 15 w_39) H_35 := Wd.cast (by rw [ew_39]; exact st_out) hW_37
      refine lv_aload_n hx hb dX8_pouringMinutes_31 rfl (lv_at hl 0 rfl) ?_
      refine gM_thrown C hW_41 (hwc hwX8) (mc qw_1476) dX8_pouringMinutes_32 ?_
      refine g_top (y := w_39 (0)) (congrFun rd_out _) ?_
      refine g_top (y := 0) kn_40 ?_
      refine lv_if_ne (tgt := 64) hx hb dX8_pouringMinutes_35 (by decide) (fun h9 => absurd h9 (by decide)) (fun _ => ?_)
      refine lv_aload_n hx hb dX8_pouringMinutes_38 rfl (lv_at hl 0 rfl) ?_
      refine gM_v C hW_41 (hwc hwX8) (mc qw_1481) dX8_pouringMinutes_39 ?_
      refine lv_iload_n hx hb dX8_pouringMinutes_42 rfl (lv_at hl 1 rfl) ?_
      refine g_calli (va_runS (As := [.int (nI f_10)]) (rest := [.ref (ad G 724)]) C.1 (cX8_ladle_ok l G (setRow X 15 w_39) (nI f_10)) (va_cwS 1 C.1.2.2.2.2 (gS qw_1473 qw_1474 qw_81 qw_1475) rfl rfl rfl (by decide +kernel) ⟨Nat.le_of_ble_eq_true rfl, Nat.le_of_ble_eq_true rfl⟩) (g_pre C hW_41 hS_38 [.int (nI f_10)]) rfl rfl hl.1 rfl (lv_room (Nat.le_of_ble_eq_true rfl)) dX8_pouringMinutes_43 ⟨Nat.zero_le _, Nat.zero_le _⟩) hS_38 (fun r_43 Y_44 H_45 locs_46 hW_47 hS_48 h_42 => ?_)
      obtain ⟨h_42, hy_49⟩ := h_42
      replace hy_49 := hy_49.symm
      subst hy_49
      replace h_42 : r_43 = oM_ladle (nI f_10) := h_42
      subst h_42
      refine g_top (y := nI (27 + 5 * f_10)) (at_ladle f_10) ?_
      refine lv_iconst (v := 4) hx hb dX8_pouringMinutes_46 (by decide) ?_
      refine lv_iadd hx hb dX8_pouringMinutes_47 ?_
      refine g_top (y := nI ((27 + 5 * f_10) + 4)) (nI_add (27 + 5 * f_10) 4) ?_
      refine gm_vld C hW_47 ((27 + 5 * f_10) + 4) (nI_clamp (by omega)) (vp_in_nI (show (27 + 5 * f_10) + 4 < 128 by omega) (by decide)) dX8_pouringMinutes_48 ?_
      refine g_top (y := X.1 16 ((27 + 5 * f_10) + 4)) (congrFun (rd_in (by decide) rfl) _) ?_
      refine lv_aload_n hx hb dX8_pouringMinutes_49 rfl (lv_at hl 0 rfl) ?_
      refine lv_iload_n hx hb dX8_pouringMinutes_50 rfl (lv_at hl 1 rfl) ?_
      refine g_calli (va_runS (As := [.int (nI f_10)]) (rest := [.ref (ad G 723), .int (X.1 16 ((27 + 5 * f_10) + 4))]) C.1 (cX8_ladle_ok l G (setRow X 15 w_39) (nI f_10)) (va_cwS 1 C.1.2.2.2.2 (gS qw_1473 qw_1474 qw_81 qw_1475) rfl rfl rfl (by decide +kernel) ⟨Nat.le_of_ble_eq_true rfl, Nat.le_of_ble_eq_true rfl⟩) (g_pre C hW_47 hS_48 [.int (nI f_10)]) rfl rfl hl.1 rfl (lv_room (Nat.le_of_ble_eq_true rfl)) dX8_pouringMinutes_51 ⟨Nat.zero_le _, Nat.zero_le _⟩) hS_48 (fun r_51 Y_52 H_53 locs_54 hW_55 hS_56 h_50 => ?_)
      obtain ⟨h_50, hy_57⟩ := h_50
      replace hy_57 := hy_57.symm
      subst hy_57
      replace h_50 : r_51 = oM_ladle (nI f_10) := h_50
      subst h_50
      refine g_top (y := nI (27 + 5 * f_10)) (at_ladle f_10) ?_
      refine g_calli (va_runV (As := [.int (nI (27 + 5 * f_10))]) (rest := [.int (X.1 16 ((27 + 5 * f_10) + 4))]) C.1 (cX8_point_ok l G (setRow X 15 w_39) (27 + 5 * f_10) (show 27 + 5 * f_10 + 4 ≤ 128 by omega) (fluid_mass b_27)) (cwV 1 C.1.2.2.2.2 (gV qw_1615 qw_1617 qw_40 qw_81 qw_1618) rfl rfl rfl (by decide +kernel) ⟨Nat.le_of_ble_eq_true rfl, Nat.le_of_ble_eq_true rfl⟩) (g_rModel C hW_55 hS_56 [.int (nI (27 + 5 * f_10))]) rfl rfl hl.1 rfl (lv_room (Nat.le_of_ble_eq_true rfl)) dX8_pouringMinutes_54 ⟨Nat.zero_le _, Nat.zero_le _⟩) hS_56 (fun r_59 Y_60 H_61 locs_62 hW_63 hS_64 h_58 => ?_)
      obtain ⟨h_58, hy_65⟩ := h_58
      replace hy_65 := hy_65.symm
      subst hy_65
      replace h_58 : r_59 = oM_point (X.1 16) (X.1 21) (27 + 5 * f_10) := h_58
      subst h_58
      refine lv_isub hx hb dX8_pouringMinutes_57 ?_
      refine lv_bipush (v := 10) hx hb dX8_pouringMinutes_58 (by decide) ?_
      refine lv_idiv hx hb dX8_pouringMinutes_60 (by decide) ?_
      refine lv_goto (tgt := 65) hx hb dX8_pouringMinutes_61 (by decide) ?_
      exact g_iret C hr hlk hW_63 hS_64 dX8_pouringMinutes_65 (by subst ew_39; exact ⟨(by first | rfl | (simp only [oM_pouringMinutes, clf (show f_10 < 2 ^ 31 by omega), b_9, b_27, if_true, if_false]; first | done | rfl)), (by first | rfl | (simp only [oM_pouringMinutes, clf (show f_10 < 2 ^ 31 by omega), b_9, b_27, if_true, if_false]; first | done | rfl))⟩)
  · refine lv_iconst (v := 1) hx hb dX8_pouringMinutes_8 (by decide) ?_
    refine lv_goto (tgt := 28) hx hb dX8_pouringMinutes_9 (by decide) ?_
    refine gM_thrownP C hW_6 hS_7 (hwc hwX8) (mc qw_1476) dX8_pouringMinutes_28 (fun H_66 locs_67 hW_68 hS_69 => ?_)
    obtain ⟨w_70, ew_70⟩ : ∃ Z9, Z9 = upd (X.1 15) (0) 1 := ⟨_, rfl⟩
    have kn_71 : w_70 (0) = 1 := by rw [ew_70]; exact pk_us
    have hW_72 : Wd G (setRow X 15 w_70) H_66 := Wd.cast (by rw [ew_70]; exact st_out) hW_68
    refine lv_aload_n hx hb dX8_pouringMinutes_31 rfl (lv_at hl 0 rfl) ?_
    refine gM_thrown C hW_72 (hwc hwX8) (mc qw_1476) dX8_pouringMinutes_32 ?_
    refine g_top (y := w_70 (0)) (congrFun rd_out _) ?_
    refine g_top (y := 1) kn_71 ?_
    refine lv_if_ne (tgt := 64) hx hb dX8_pouringMinutes_35 (by decide) (fun _ => ?_) (fun h9 => absurd h9 (by decide))
    refine lv_iconst (v := 0) hx hb dX8_pouringMinutes_64 (by decide) ?_
    exact g_iret C hr hlk hW_72 hS_69 dX8_pouringMinutes_65 (by subst ew_70; exact ⟨(by first | rfl | (simp only [oM_pouringMinutes, eq_true b_9, if_true, if_false]; first | done | rfl)), (by first | rfl | (simp only [oM_pouringMinutes, eq_true b_9, if_true, if_false]; first | done | rfl))⟩)

def oM_shareOf (w16 : Nat → Int32) (i : Nat) (k : Nat) : Int32 := (1000 * (w16 ((80 + 4 * i) + k))) / (oM_mass (w16) (80 + 4 * i))
set_option maxHeartbeats 4000000 in
set_option maxRecDepth 100000 in
theorem cX8_shareOf_ok (l : Launch) (G : GT) (X : St) (i : Nat) (k : Nat) (hi : i < 12) (hk : k < 4) (hd : ¬ oM_mass (X.1 16) (80 + 4 * i) = 0) : MetI l G yX8_shareOf (wsG yX8_shareOf cX8_shareOf 3 (some .int)) (rmz 1 21) [.ref (ad G 723), .int (nI i), .int (nI k)] X (fun res Y => res = oM_shareOf (X.1 16) i k ∧ Y = X) := by
  refine g_met (cc := cX8_shareOf) (maxL := 3) (ret := (some .int)) (by decide) rfl (Nat.le_of_ble_eq_true rfl) ?_
  intro p e s m below meth c ls C hr hlk hnm hW hl
  have hx := C.1.1
  have hb := C.1.2.1
  have hS : va_S (Ab G) s.heap s.heap [] := va_S.rf
  have hl : lv_has ls 3 [(0, .ref (ad G 723)), (1, .int (nI i)), (2, .int (nI k))] := hl
  refine lv_sipush (v := 1000) hx hb dX8_shareOf_0 (by decide) ?_
  refine lv_aload_n hx hb dX8_shareOf_3 rfl (lv_at hl 0 rfl) ?_
  refine gM_v C hW (hwc hwX8) (mc qw_1481) dX8_shareOf_4 ?_
  refine lv_iload_n hx hb dX8_shareOf_7 rfl (lv_at hl 1 rfl) ?_
  refine g_calli (va_runS (As := [.int (nI i)]) (rest := [.ref (ad G 724), .int 1000]) C.1 (cX8_ingot_ok l G X (nI i)) (va_cwS 1 C.1.2.2.2.2 (gS qw_1678 qw_1679 qw_81 qw_1680) rfl rfl rfl (by decide +kernel) ⟨Nat.le_of_ble_eq_true rfl, Nat.le_of_ble_eq_true rfl⟩) (g_pre C hW hS [.int (nI i)]) rfl rfl hl.1 rfl (lv_room (Nat.le_of_ble_eq_true rfl)) dX8_shareOf_8 ⟨Nat.zero_le _, Nat.zero_le _⟩) hS (fun r_2 Y_3 H_4 locs_5 hW_6 hS_7 h_1 => ?_)
  obtain ⟨h_1, hy_8⟩ := h_1
  replace hy_8 := hy_8.symm
  subst hy_8
  replace h_1 : r_2 = oM_ingot (nI i) := h_1
  subst h_1
  refine g_top (y := nI (80 + 4 * i)) (at_ingot i) ?_
  refine lv_iload_n hx hb dX8_shareOf_11 rfl (lv_at hl 2 rfl) ?_
  refine lv_iadd hx hb dX8_shareOf_12 ?_
  refine g_top (y := nI ((80 + 4 * i) + k)) (nI_add (80 + 4 * i) k) ?_
  refine gm_vld C hW_6 ((80 + 4 * i) + k) (nI_clamp (by omega)) (vp_in_nI (show (80 + 4 * i) + k < 128 by omega) (by decide)) dX8_shareOf_13 ?_
  refine lv_imul hx hb dX8_shareOf_14 ?_
  refine lv_aload_n hx hb dX8_shareOf_15 rfl (lv_at hl 0 rfl) ?_
  refine lv_iload_n hx hb dX8_shareOf_16 rfl (lv_at hl 1 rfl) ?_
  refine g_calli (va_runS (As := [.int (nI i)]) (rest := [.ref (ad G 723), .int (1000 * (X.1 16 ((80 + 4 * i) + k)))]) C.1 (cX8_ingot_ok l G X (nI i)) (va_cwS 1 C.1.2.2.2.2 (gS qw_1678 qw_1679 qw_81 qw_1680) rfl rfl rfl (by decide +kernel) ⟨Nat.le_of_ble_eq_true rfl, Nat.le_of_ble_eq_true rfl⟩) (g_pre C hW_6 hS_7 [.int (nI i)]) rfl rfl hl.1 rfl (lv_room (Nat.le_of_ble_eq_true rfl)) dX8_shareOf_17 ⟨Nat.zero_le _, Nat.zero_le _⟩) hS_7 (fun r_10 Y_11 H_12 locs_13 hW_14 hS_15 h_9 => ?_)
  obtain ⟨h_9, hy_16⟩ := h_9
  replace hy_16 := hy_16.symm
  subst hy_16
  replace h_9 : r_10 = oM_ingot (nI i) := h_9
  subst h_9
  refine g_top (y := nI (80 + 4 * i)) (at_ingot i) ?_
  refine g_calli (va_runV (As := [.int (nI (80 + 4 * i))]) (rest := [.int (1000 * (X.1 16 ((80 + 4 * i) + k)))]) C.1 (cX8_mass_ok l G X (80 + 4 * i) (show 80 + 4 * i + 4 ≤ 128 by omega)) (cwV 1 C.1.2.2.2.2 (gV qw_1575 qw_1577 qw_32 qw_81 qw_1578) rfl rfl rfl (by decide +kernel) ⟨Nat.le_of_ble_eq_true rfl, Nat.le_of_ble_eq_true rfl⟩) (g_rModel C hW_14 hS_15 [.int (nI (80 + 4 * i))]) rfl rfl hl.1 rfl (lv_room (Nat.le_of_ble_eq_true rfl)) dX8_shareOf_20 ⟨Nat.zero_le _, Nat.zero_le _⟩) hS_15 (fun r_18 Y_19 H_20 locs_21 hW_22 hS_23 h_17 => ?_)
  obtain ⟨h_17, hy_24⟩ := h_17
  replace hy_24 := hy_24.symm
  subst hy_24
  replace h_17 : r_18 = oM_mass (X.1 16) (80 + 4 * i) := h_17
  subst h_17
  refine lv_idiv hx hb dX8_shareOf_23 hd ?_
  exact g_iret C hr hlk hW_22 hS_23 dX8_shareOf_24 (by exact ⟨(by first | rfl | (simp only [oM_shareOf, if_true, if_false]; first | done | rfl)), (by first | rfl | (simp only [oM_shareOf, if_true, if_false]; first | done | rfl))⟩)

def oM_share (w15 : Nat → Int32) (w16 : Nat → Int32) (x : Int32) (mt : Int32) : Int32 × (Nat → Int32) := if oM_isIngot (w16) x = 0 then (0, (upd (w15) (0) 1)) else (if 0 ≤ oM_kind mt then (oM_shareOf (w16) x.toNatClampNeg ((oM_kind mt).toNatClampNeg), (upd (w15) (0) 0)) else (0, (upd (w15) (0) 2)))
set_option maxHeartbeats 4000000 in
set_option maxRecDepth 100000 in
theorem cX8_share_ok (l : Launch) (G : GT) (X : St) (x : Int32) (mt : Int32) (hm : MInv (X.1 16)) : MetI l G yX8_share (wsG yX8_share cX8_share 3 (some .int)) (rmz 2 43) [.ref (ad G 723), .int x, .int mt] X (fun res Y => res = (oM_share (X.1 15) (X.1 16) x mt).1 ∧ Y = setRow (X) 15 ((oM_share (X.1 15) (X.1 16) x mt).2)) := by
  refine g_met (cc := cX8_share) (maxL := 3) (ret := (some .int)) (by decide) rfl (Nat.le_of_ble_eq_true rfl) ?_
  intro p e s m below meth c ls C hr hlk hnm hW hl
  have hx := C.1.1
  have hb := C.1.2.1
  have hS : va_S (Ab G) s.heap s.heap [] := va_S.rf
  have hl : lv_has ls 3 [(0, .ref (ad G 723)), (1, .int x), (2, .int mt)] := hl
  have hW : Wd G (setRow (X) 15 (X.1 15)) s.heap := Wd.cast ((sr_same (X := X) (r := 15) rfl)).symm hW
  obtain ⟨km, hkm, em, hmm⟩ := hm.2.2.1
  obtain ⟨ki, hki, ei, hii⟩ := hm.2.2.2.1
  refine lv_aload_n hx hb dX8_share_0 rfl (lv_at hl 0 rfl) ?_
  refine lv_aload_n hx hb dX8_share_1 rfl (lv_at hl 0 rfl) ?_
  refine lv_iload_n hx hb dX8_share_2 rfl (lv_at hl 1 rfl) ?_
  refine g_calli (va_runV (As := [.int x]) (rest := [.ref (ad G 723)]) C.1 (cX8_isIngot_ok l G (setRow X 15 (X.1 15)) x) (cwV 1 C.1.2.2.2.2 (gV qw_1689 qw_1691 qw_51 qw_81 qw_1692) rfl rfl rfl (by decide +kernel) ⟨Nat.le_of_ble_eq_true rfl, Nat.le_of_ble_eq_true rfl⟩) (g_rModel C hW hS [.int x]) rfl rfl hl.1 rfl (lv_room (Nat.le_of_ble_eq_true rfl)) dX8_share_3 ⟨Nat.zero_le _, Nat.zero_le _⟩) hS (fun r_2 Y_3 H_4 locs_5 hW_6 hS_7 h_1 => ?_)
  obtain ⟨h_1, hy_8⟩ := h_1
  replace hy_8 := hy_8.symm
  subst hy_8
  replace h_1 : r_2 = oM_isIngot (X.1 16) x := h_1
  subst h_1
  refine lv_if_ne (tgt := 13) hx hb dX8_share_6 (by decide) (fun b_9 => ?_) (fun b_9 => ?_)
  · obtain ⟨f_10, hf_10, rfl⟩ := count_in (by omega) ei b_9
    refine lv_iload_n hx hb dX8_share_13 rfl (lv_at hl 2 rfl) ?_
    refine g_calli (va_runS (As := [.int mt]) (rest := [.ref (ad G 723)]) C.1 (cX8_kind_ok l G (setRow X 15 (X.1 15)) mt) (va_cwS 1 C.1.2.2.2.2 (gS qw_1558 qw_1559 qw_81 qw_1560) rfl rfl rfl (by decide +kernel) ⟨Nat.le_of_ble_eq_true rfl, Nat.le_of_ble_eq_true rfl⟩) (g_pre C hW_6 hS_7 [.int mt]) rfl rfl hl.1 rfl (lv_room (Nat.le_of_ble_eq_true rfl)) dX8_share_14 ⟨Nat.zero_le _, Nat.zero_le _⟩) hS_7 (fun r_12 Y_13 H_14 locs_15 hW_16 hS_17 h_11 => ?_)
    obtain ⟨h_11, hy_18⟩ := h_11
    replace hy_18 := hy_18.symm
    subst hy_18
    replace h_11 : r_12 = oM_kind mt := h_11
    subst h_11
    refine lv_if_ge (tgt := 24) hx hb dX8_share_17 (by decide) (fun b_19 => ?_) (fun b_19 => ?_)
    · obtain ⟨f_20, hf_20, hkf_20⟩ := kind_ge b_19
      refine lv_iconst (v := 0) hx hb dX8_share_24 (by decide) ?_
      refine gM_thrownP C hW_16 hS_17 (hwc hwX8) (mc qw_1476) dX8_share_25 (fun H_21 locs_22 hW_23 hS_24 => ?_)
      obtain ⟨w_25, ew_25⟩ : ∃ Z9, Z9 = upd (X.1 15) (0) 0 := ⟨_, rfl⟩
      have kn_26 : w_25 (0) = 0 := by rw [ew_25]; exact pk_us
      have hW_27 : Wd G (setRow X 15 w_25) H_21 := Wd.cast (by rw [ew_25]; exact st_out) hW_23
      refine lv_aload_n hx hb dX8_share_28 rfl (lv_at hl 0 rfl) ?_
      refine gM_thrown C hW_27 (hwc hwX8) (mc qw_1476) dX8_share_29 ?_
      refine g_top (y := w_25 (0)) (congrFun rd_out _) ?_
      refine g_top (y := 0) kn_26 ?_
      refine lv_if_ne (tgt := 47) hx hb dX8_share_32 (by decide) (fun h9 => absurd h9 (by decide)) (fun _ => ?_)
      refine lv_aload_n hx hb dX8_share_35 rfl (lv_at hl 0 rfl) ?_
      refine lv_iload_n hx hb dX8_share_36 rfl (lv_at hl 1 rfl) ?_
      refine lv_iload_n hx hb dX8_share_37 rfl (lv_at hl 2 rfl) ?_
      refine g_calli (va_runS (As := [.int mt]) (rest := [.int (nI f_10), .ref (ad G 723)]) C.1 (cX8_kind_ok l G (setRow X 15 w_25) mt) (va_cwS 1 C.1.2.2.2.2 (gS qw_1558 qw_1559 qw_81 qw_1560) rfl rfl rfl (by decide +kernel) ⟨Nat.le_of_ble_eq_true rfl, Nat.le_of_ble_eq_true rfl⟩) (g_pre C hW_27 hS_24 [.int mt]) rfl rfl hl.1 rfl (lv_room (Nat.le_of_ble_eq_true rfl)) dX8_share_38 ⟨Nat.zero_le _, Nat.zero_le _⟩) hS_24 (fun r_29 Y_30 H_31 locs_32 hW_33 hS_34 h_28 => ?_)
      obtain ⟨h_28, hy_35⟩ := h_28
      replace hy_35 := hy_35.symm
      subst hy_35
      replace h_28 : r_29 = oM_kind mt := h_28
      subst h_28
      refine g_top (y := nI f_20) hkf_20 ?_
      refine g_calli (va_runV (As := [.int (nI f_10), .int (nI f_20)]) (rest := []) C.1 (cX8_shareOf_ok l G (setRow X 15 w_25) f_10 f_20 (show f_10 < 12 by omega) (show f_20 < 4 by omega) (ing_mass hii (show f_10 < ki by omega))) (cwV 2 C.1.2.2.2.2 (gV qw_1802 qw_1804 qw_56 qw_81 qw_1805) rfl rfl rfl (by decide +kernel) ⟨Nat.le_of_ble_eq_true rfl, Nat.le_of_ble_eq_true rfl⟩) (g_rModel C hW_33 hS_34 [.int (nI f_10), .int (nI f_20)]) rfl rfl hl.1 rfl (lv_room (Nat.le_of_ble_eq_true rfl)) dX8_share_41 ⟨Nat.zero_le _, Nat.zero_le _⟩) hS_34 (fun r_37 Y_38 H_39 locs_40 hW_41 hS_42 h_36 => ?_)
      obtain ⟨h_36, hy_43⟩ := h_36
      replace hy_43 := hy_43.symm
      subst hy_43
      replace h_36 : r_37 = oM_shareOf (X.1 16) f_10 f_20 := h_36
      subst h_36
      refine lv_goto (tgt := 48) hx hb dX8_share_44 (by decide) ?_
      exact g_iret C hr hlk hW_41 hS_42 dX8_share_48 (by subst ew_25; exact ⟨(by first | rfl | (simp only [oM_share, clf (show f_10 < 2 ^ 31 by omega), hkf_20, clf (show f_20 < 2 ^ 31 by omega), nI_ge0 (show f_20 < 2 ^ 31 by omega), b_9, b_19, if_true, if_false, em, ei, clf (show km < 2 ^ 31 by omega), clf (show ki < 2 ^ 31 by omega)]; first | done | rfl)), (by first | rfl | (simp only [oM_share, clf (show f_10 < 2 ^ 31 by omega), hkf_20, clf (show f_20 < 2 ^ 31 by omega), nI_ge0 (show f_20 < 2 ^ 31 by omega), b_9, b_19, if_true, if_false, em, ei, clf (show km < 2 ^ 31 by omega), clf (show ki < 2 ^ 31 by omega)]; first | done | rfl))⟩)
    · refine lv_iconst (v := 2) hx hb dX8_share_20 (by decide) ?_
      refine lv_goto (tgt := 25) hx hb dX8_share_21 (by decide) ?_
      refine gM_thrownP C hW_16 hS_17 (hwc hwX8) (mc qw_1476) dX8_share_25 (fun H_44 locs_45 hW_46 hS_47 => ?_)
      obtain ⟨w_48, ew_48⟩ : ∃ Z9, Z9 = upd (X.1 15) (0) 2 := ⟨_, rfl⟩
      have kn_49 : w_48 (0) = 2 := by rw [ew_48]; exact pk_us
      have hW_50 : Wd G (setRow X 15 w_48) H_44 := Wd.cast (by rw [ew_48]; exact st_out) hW_46
      refine lv_aload_n hx hb dX8_share_28 rfl (lv_at hl 0 rfl) ?_
      refine gM_thrown C hW_50 (hwc hwX8) (mc qw_1476) dX8_share_29 ?_
      refine g_top (y := w_48 (0)) (congrFun rd_out _) ?_
      refine g_top (y := 2) kn_49 ?_
      refine lv_if_ne (tgt := 47) hx hb dX8_share_32 (by decide) (fun _ => ?_) (fun h9 => absurd h9 (by decide))
      refine lv_iconst (v := 0) hx hb dX8_share_47 (by decide) ?_
      exact g_iret C hr hlk hW_50 hS_47 dX8_share_48 (by subst ew_48; exact ⟨(by first | rfl | (simp only [oM_share, clf (show f_10 < 2 ^ 31 by omega), b_9, b_19, if_true, if_false, em, ei, clf (show km < 2 ^ 31 by omega), clf (show ki < 2 ^ 31 by omega)]; first | done | rfl)), (by first | rfl | (simp only [oM_share, clf (show f_10 < 2 ^ 31 by omega), b_9, b_19, if_true, if_false, em, ei, clf (show km < 2 ^ 31 by omega), clf (show ki < 2 ^ 31 by omega)]; first | done | rfl))⟩)
  · refine lv_iconst (v := 1) hx hb dX8_share_9 (by decide) ?_
    refine lv_goto (tgt := 25) hx hb dX8_share_10 (by decide) ?_
    refine gM_thrownP C hW_6 hS_7 (hwc hwX8) (mc qw_1476) dX8_share_25 (fun H_51 locs_52 hW_53 hS_54 => ?_)
    obtain ⟨w_55, ew_55⟩ : ∃ Z9, Z9 = upd (X.1 15) (0) 1 := ⟨_, rfl⟩
    have kn_56 : w_55 (0) = 1 := by rw [ew_55]; exact pk_us
    have hW_57 : Wd G (setRow X 15 w_55) H_51 := Wd.cast (by rw [ew_55]; exact st_out) hW_53
    refine lv_aload_n hx hb dX8_share_28 rfl (lv_at hl 0 rfl) ?_
    refine gM_thrown C hW_57 (hwc hwX8) (mc qw_1476) dX8_share_29 ?_
    refine g_top (y := w_55 (0)) (congrFun rd_out _) ?_
    refine g_top (y := 1) kn_56 ?_
    refine lv_if_ne (tgt := 47) hx hb dX8_share_32 (by decide) (fun _ => ?_) (fun h9 => absurd h9 (by decide))
    refine lv_iconst (v := 0) hx hb dX8_share_47 (by decide) ?_
    exact g_iret C hr hlk hW_57 hS_54 dX8_share_48 (by subst ew_55; exact ⟨(by first | rfl | (simp only [oM_share, eq_true b_9, if_true, if_false, em, ei, clf (show km < 2 ^ 31 by omega), clf (show ki < 2 ^ 31 by omega)]; first | done | rfl)), (by first | rfl | (simp only [oM_share, eq_true b_9, if_true, if_false, em, ei, clf (show km < 2 ^ 31 by omega), clf (show ki < 2 ^ 31 by omega)]; first | done | rfl))⟩)

def oM_gradeOf (w16 : Nat → Int32) (i : Nat) : Int32 := if oM_shareOf (w16) i 3 ≤ 50 then (if oM_shareOf (w16) i 0 < 950 then (if oM_shareOf (w16) i 0 < 800 then (if oM_shareOf (w16) i 1 < 500 then 120 else (if oM_shareOf (w16) i 2 < 300 then 120 else 115)) else (if oM_shareOf (w16) i 1 < 100 then (if oM_shareOf (w16) i 1 < 500 then 120 else (if oM_shareOf (w16) i 2 < 300 then 120 else 115)) else 98)) else 99) else 120
set_option maxHeartbeats 4000000 in
set_option maxRecDepth 100000 in
theorem cX8_gradeOf_ok (l : Launch) (G : GT) (X : St) (i : Nat) (hi : i < 12) (hd : ¬ oM_mass (X.1 16) (80 + 4 * i) = 0) : MetI l G yX8_gradeOf (wsG yX8_gradeOf cX8_gradeOf 2 (some .int)) (rmz 2 43) [.ref (ad G 723), .int (nI i)] X (fun res Y => res = oM_gradeOf (X.1 16) i ∧ Y = X) := by
  refine g_met (cc := cX8_gradeOf) (maxL := 2) (ret := (some .int)) (by decide) rfl (Nat.le_of_ble_eq_true rfl) ?_
  intro p e s m below meth c ls C hr hlk hnm hW hl
  have hx := C.1.1
  have hb := C.1.2.1
  have hS : va_S (Ab G) s.heap s.heap [] := va_S.rf
  have hl : lv_has ls 2 [(0, .ref (ad G 723)), (1, .int (nI i))] := hl
  refine lv_aload_n hx hb dX8_gradeOf_0 rfl (lv_at hl 0 rfl) ?_
  refine lv_iload_n hx hb dX8_gradeOf_1 rfl (lv_at hl 1 rfl) ?_
  refine lv_iconst (v := 3) hx hb dX8_gradeOf_2 (by decide) ?_
  refine g_calli (va_runV (As := [.int (nI i), .int 3]) (rest := []) C.1 (cX8_shareOf_ok l G X i 3 (show i < 12 by omega) (show 3 < 4 by omega) hd) (cwV 2 C.1.2.2.2.2 (gV qw_1802 qw_1804 qw_56 qw_81 qw_1805) rfl rfl rfl (by decide +kernel) ⟨Nat.le_of_ble_eq_true rfl, Nat.le_of_ble_eq_true rfl⟩) (g_rModel C hW hS [.int (nI i), .int 3]) rfl rfl hl.1 rfl (lv_room (Nat.le_of_ble_eq_true rfl)) dX8_gradeOf_3 ⟨Nat.zero_le _, Nat.zero_le _⟩) hS (fun r_2 Y_3 H_4 locs_5 hW_6 hS_7 h_1 => ?_)
  obtain ⟨h_1, hy_8⟩ := h_1
  replace hy_8 := hy_8.symm
  subst hy_8
  replace h_1 : r_2 = oM_shareOf (X.1 16) i 3 := h_1
  subst h_1
  refine lv_bipush (v := 50) hx hb dX8_gradeOf_6 (by decide) ?_
  refine lv_icmp_le (tgt := 14) hx hb dX8_gradeOf_8 (by decide) (fun b_9 => ?_) (fun b_9 => ?_)
  · refine lv_aload_n hx hb dX8_gradeOf_14 rfl (lv_at hl 0 rfl) ?_
    refine lv_iload_n hx hb dX8_gradeOf_15 rfl (lv_at hl 1 rfl) ?_
    refine lv_iconst (v := 0) hx hb dX8_gradeOf_16 (by decide) ?_
    refine g_calli (va_runV (As := [.int (nI i), .int 0]) (rest := []) C.1 (cX8_shareOf_ok l G X i 0 (show i < 12 by omega) (show 0 < 4 by omega) hd) (cwV 2 C.1.2.2.2.2 (gV qw_1802 qw_1804 qw_56 qw_81 qw_1805) rfl rfl rfl (by decide +kernel) ⟨Nat.le_of_ble_eq_true rfl, Nat.le_of_ble_eq_true rfl⟩) (g_rModel C hW_6 hS_7 [.int (nI i), .int 0]) rfl rfl hl.1 rfl (lv_room (Nat.le_of_ble_eq_true rfl)) dX8_gradeOf_17 ⟨Nat.zero_le _, Nat.zero_le _⟩) hS_7 (fun r_11 Y_12 H_13 locs_14 hW_15 hS_16 h_10 => ?_)
    obtain ⟨h_10, hy_17⟩ := h_10
    replace hy_17 := hy_17.symm
    subst hy_17
    replace h_10 : r_11 = oM_shareOf (X.1 16) i 0 := h_10
    subst h_10
    refine lv_sipush (v := 950) hx hb dX8_gradeOf_20 (by decide) ?_
    refine lv_icmp_lt (tgt := 29) hx hb dX8_gradeOf_23 (by decide) (fun b_18 => ?_) (fun b_18 => ?_)
    · refine lv_aload_n hx hb dX8_gradeOf_29 rfl (lv_at hl 0 rfl) ?_
      refine lv_iload_n hx hb dX8_gradeOf_30 rfl (lv_at hl 1 rfl) ?_
      refine lv_iconst (v := 0) hx hb dX8_gradeOf_31 (by decide) ?_
      refine g_calli (va_runV (As := [.int (nI i), .int 0]) (rest := []) C.1 (cX8_shareOf_ok l G X i 0 (show i < 12 by omega) (show 0 < 4 by omega) hd) (cwV 2 C.1.2.2.2.2 (gV qw_1802 qw_1804 qw_56 qw_81 qw_1805) rfl rfl rfl (by decide +kernel) ⟨Nat.le_of_ble_eq_true rfl, Nat.le_of_ble_eq_true rfl⟩) (g_rModel C hW_15 hS_16 [.int (nI i), .int 0]) rfl rfl hl.1 rfl (lv_room (Nat.le_of_ble_eq_true rfl)) dX8_gradeOf_32 ⟨Nat.zero_le _, Nat.zero_le _⟩) hS_16 (fun r_20 Y_21 H_22 locs_23 hW_24 hS_25 h_19 => ?_)
      obtain ⟨h_19, hy_26⟩ := h_19
      replace hy_26 := hy_26.symm
      subst hy_26
      replace h_19 : r_20 = oM_shareOf (X.1 16) i 0 := h_19
      subst h_19
      refine lv_sipush (v := 800) hx hb dX8_gradeOf_35 (by decide) ?_
      refine lv_icmp_lt (tgt := 55) hx hb dX8_gradeOf_38 (by decide) (fun b_27 => ?_) (fun b_27 => ?_)
      · refine lv_aload_n hx hb dX8_gradeOf_55 rfl (lv_at hl 0 rfl) ?_
        refine lv_iload_n hx hb dX8_gradeOf_56 rfl (lv_at hl 1 rfl) ?_
        refine lv_iconst (v := 1) hx hb dX8_gradeOf_57 (by decide) ?_
        refine g_calli (va_runV (As := [.int (nI i), .int 1]) (rest := []) C.1 (cX8_shareOf_ok l G X i 1 (show i < 12 by omega) (show 1 < 4 by omega) hd) (cwV 2 C.1.2.2.2.2 (gV qw_1802 qw_1804 qw_56 qw_81 qw_1805) rfl rfl rfl (by decide +kernel) ⟨Nat.le_of_ble_eq_true rfl, Nat.le_of_ble_eq_true rfl⟩) (g_rModel C hW_24 hS_25 [.int (nI i), .int 1]) rfl rfl hl.1 rfl (lv_room (Nat.le_of_ble_eq_true rfl)) dX8_gradeOf_58 ⟨Nat.zero_le _, Nat.zero_le _⟩) hS_25 (fun r_29 Y_30 H_31 locs_32 hW_33 hS_34 h_28 => ?_)
        obtain ⟨h_28, hy_35⟩ := h_28
        replace hy_35 := hy_35.symm
        subst hy_35
        replace h_28 : r_29 = oM_shareOf (X.1 16) i 1 := h_28
        subst h_28
        refine lv_sipush (v := 500) hx hb dX8_gradeOf_61 (by decide) ?_
        refine lv_icmp_lt (tgt := 84) hx hb dX8_gradeOf_64 (by decide) (fun b_36 => ?_) (fun b_36 => ?_)
        · refine lv_bipush (v := 120) hx hb dX8_gradeOf_84 (by decide) ?_
          exact g_iret C hr hlk hW_33 hS_34 dX8_gradeOf_86 (by exact ⟨(by first | rfl | (simp only [oM_gradeOf, b_9, b_18, b_27, b_36, if_true, if_false]; first | done | rfl)), (by first | rfl | (simp only [oM_gradeOf, b_9, b_18, b_27, b_36, if_true, if_false]; first | done | rfl))⟩)
        · refine lv_aload_n hx hb dX8_gradeOf_67 rfl (lv_at hl 0 rfl) ?_
          refine lv_iload_n hx hb dX8_gradeOf_68 rfl (lv_at hl 1 rfl) ?_
          refine lv_iconst (v := 2) hx hb dX8_gradeOf_69 (by decide) ?_
          refine g_calli (va_runV (As := [.int (nI i), .int 2]) (rest := []) C.1 (cX8_shareOf_ok l G X i 2 (show i < 12 by omega) (show 2 < 4 by omega) hd) (cwV 2 C.1.2.2.2.2 (gV qw_1802 qw_1804 qw_56 qw_81 qw_1805) rfl rfl rfl (by decide +kernel) ⟨Nat.le_of_ble_eq_true rfl, Nat.le_of_ble_eq_true rfl⟩) (g_rModel C hW_33 hS_34 [.int (nI i), .int 2]) rfl rfl hl.1 rfl (lv_room (Nat.le_of_ble_eq_true rfl)) dX8_gradeOf_70 ⟨Nat.zero_le _, Nat.zero_le _⟩) hS_34 (fun r_38 Y_39 H_40 locs_41 hW_42 hS_43 h_37 => ?_)
          obtain ⟨h_37, hy_44⟩ := h_37
          replace hy_44 := hy_44.symm
          subst hy_44
          replace h_37 : r_38 = oM_shareOf (X.1 16) i 2 := h_37
          subst h_37
          refine lv_sipush (v := 300) hx hb dX8_gradeOf_73 (by decide) ?_
          refine lv_icmp_lt (tgt := 84) hx hb dX8_gradeOf_76 (by decide) (fun b_45 => ?_) (fun b_45 => ?_)
          · refine lv_bipush (v := 120) hx hb dX8_gradeOf_84 (by decide) ?_
            exact g_iret C hr hlk hW_42 hS_43 dX8_gradeOf_86 (by exact ⟨(by first | rfl | (simp only [oM_gradeOf, b_9, b_18, b_27, b_36, b_45, if_true, if_false]; first | done | rfl)), (by first | rfl | (simp only [oM_gradeOf, b_9, b_18, b_27, b_36, b_45, if_true, if_false]; first | done | rfl))⟩)
          · refine lv_bipush (v := 115) hx hb dX8_gradeOf_79 (by decide) ?_
            refine lv_goto (tgt := 86) hx hb dX8_gradeOf_81 (by decide) ?_
            exact g_iret C hr hlk hW_42 hS_43 dX8_gradeOf_86 (by exact ⟨(by first | rfl | (simp only [oM_gradeOf, b_9, b_18, b_27, b_36, b_45, if_true, if_false]; first | done | rfl)), (by first | rfl | (simp only [oM_gradeOf, b_9, b_18, b_27, b_36, b_45, if_true, if_false]; first | done | rfl))⟩)
      · refine lv_aload_n hx hb dX8_gradeOf_41 rfl (lv_at hl 0 rfl) ?_
        refine lv_iload_n hx hb dX8_gradeOf_42 rfl (lv_at hl 1 rfl) ?_
        refine lv_iconst (v := 1) hx hb dX8_gradeOf_43 (by decide) ?_
        refine g_calli (va_runV (As := [.int (nI i), .int 1]) (rest := []) C.1 (cX8_shareOf_ok l G X i 1 (show i < 12 by omega) (show 1 < 4 by omega) hd) (cwV 2 C.1.2.2.2.2 (gV qw_1802 qw_1804 qw_56 qw_81 qw_1805) rfl rfl rfl (by decide +kernel) ⟨Nat.le_of_ble_eq_true rfl, Nat.le_of_ble_eq_true rfl⟩) (g_rModel C hW_24 hS_25 [.int (nI i), .int 1]) rfl rfl hl.1 rfl (lv_room (Nat.le_of_ble_eq_true rfl)) dX8_gradeOf_44 ⟨Nat.zero_le _, Nat.zero_le _⟩) hS_25 (fun r_47 Y_48 H_49 locs_50 hW_51 hS_52 h_46 => ?_)
        obtain ⟨h_46, hy_53⟩ := h_46
        replace hy_53 := hy_53.symm
        subst hy_53
        replace h_46 : r_47 = oM_shareOf (X.1 16) i 1 := h_46
        subst h_46
        refine lv_bipush (v := 100) hx hb dX8_gradeOf_47 (by decide) ?_
        refine lv_icmp_lt (tgt := 55) hx hb dX8_gradeOf_49 (by decide) (fun b_54 => ?_) (fun b_54 => ?_)
        · refine lv_aload_n hx hb dX8_gradeOf_55 rfl (lv_at hl 0 rfl) ?_
          refine lv_iload_n hx hb dX8_gradeOf_56 rfl (lv_at hl 1 rfl) ?_
          refine lv_iconst (v := 1) hx hb dX8_gradeOf_57 (by decide) ?_
          refine g_calli (va_runV (As := [.int (nI i), .int 1]) (rest := []) C.1 (cX8_shareOf_ok l G X i 1 (show i < 12 by omega) (show 1 < 4 by omega) hd) (cwV 2 C.1.2.2.2.2 (gV qw_1802 qw_1804 qw_56 qw_81 qw_1805) rfl rfl rfl (by decide +kernel) ⟨Nat.le_of_ble_eq_true rfl, Nat.le_of_ble_eq_true rfl⟩) (g_rModel C hW_51 hS_52 [.int (nI i), .int 1]) rfl rfl hl.1 rfl (lv_room (Nat.le_of_ble_eq_true rfl)) dX8_gradeOf_58 ⟨Nat.zero_le _, Nat.zero_le _⟩) hS_52 (fun r_56 Y_57 H_58 locs_59 hW_60 hS_61 h_55 => ?_)
          obtain ⟨h_55, hy_62⟩ := h_55
          replace hy_62 := hy_62.symm
          subst hy_62
          replace h_55 : r_56 = oM_shareOf (X.1 16) i 1 := h_55
          subst h_55
          refine lv_sipush (v := 500) hx hb dX8_gradeOf_61 (by decide) ?_
          refine lv_icmp_lt (tgt := 84) hx hb dX8_gradeOf_64 (by decide) (fun b_63 => ?_) (fun b_63 => ?_)
          · refine lv_bipush (v := 120) hx hb dX8_gradeOf_84 (by decide) ?_
            exact g_iret C hr hlk hW_60 hS_61 dX8_gradeOf_86 (by exact ⟨(by first | rfl | (simp only [oM_gradeOf, b_9, b_18, b_27, b_54, b_63, if_true, if_false]; first | done | rfl)), (by first | rfl | (simp only [oM_gradeOf, b_9, b_18, b_27, b_54, b_63, if_true, if_false]; first | done | rfl))⟩)
          · refine lv_aload_n hx hb dX8_gradeOf_67 rfl (lv_at hl 0 rfl) ?_
            refine lv_iload_n hx hb dX8_gradeOf_68 rfl (lv_at hl 1 rfl) ?_
            refine lv_iconst (v := 2) hx hb dX8_gradeOf_69 (by decide) ?_
            refine g_calli (va_runV (As := [.int (nI i), .int 2]) (rest := []) C.1 (cX8_shareOf_ok l G X i 2 (show i < 12 by omega) (show 2 < 4 by omega) hd) (cwV 2 C.1.2.2.2.2 (gV qw_1802 qw_1804 qw_56 qw_81 qw_1805) rfl rfl rfl (by decide +kernel) ⟨Nat.le_of_ble_eq_true rfl, Nat.le_of_ble_eq_true rfl⟩) (g_rModel C hW_60 hS_61 [.int (nI i), .int 2]) rfl rfl hl.1 rfl (lv_room (Nat.le_of_ble_eq_true rfl)) dX8_gradeOf_70 ⟨Nat.zero_le _, Nat.zero_le _⟩) hS_61 (fun r_65 Y_66 H_67 locs_68 hW_69 hS_70 h_64 => ?_)
            obtain ⟨h_64, hy_71⟩ := h_64
            replace hy_71 := hy_71.symm
            subst hy_71
            replace h_64 : r_65 = oM_shareOf (X.1 16) i 2 := h_64
            subst h_64
            refine lv_sipush (v := 300) hx hb dX8_gradeOf_73 (by decide) ?_
            refine lv_icmp_lt (tgt := 84) hx hb dX8_gradeOf_76 (by decide) (fun b_72 => ?_) (fun b_72 => ?_)
            · refine lv_bipush (v := 120) hx hb dX8_gradeOf_84 (by decide) ?_
              exact g_iret C hr hlk hW_69 hS_70 dX8_gradeOf_86 (by exact ⟨(by first | rfl | (simp only [oM_gradeOf, b_9, b_18, b_27, b_54, b_63, b_72, if_true, if_false]; first | done | rfl)), (by first | rfl | (simp only [oM_gradeOf, b_9, b_18, b_27, b_54, b_63, b_72, if_true, if_false]; first | done | rfl))⟩)
            · refine lv_bipush (v := 115) hx hb dX8_gradeOf_79 (by decide) ?_
              refine lv_goto (tgt := 86) hx hb dX8_gradeOf_81 (by decide) ?_
              exact g_iret C hr hlk hW_69 hS_70 dX8_gradeOf_86 (by exact ⟨(by first | rfl | (simp only [oM_gradeOf, b_9, b_18, b_27, b_54, b_63, b_72, if_true, if_false]; first | done | rfl)), (by first | rfl | (simp only [oM_gradeOf, b_9, b_18, b_27, b_54, b_63, b_72, if_true, if_false]; first | done | rfl))⟩)
        · refine lv_bipush (v := 98) hx hb dX8_gradeOf_52 (by decide) ?_
          exact g_iret C hr hlk hW_51 hS_52 dX8_gradeOf_54 (by exact ⟨(by first | rfl | (simp only [oM_gradeOf, b_9, b_18, b_27, b_54, if_true, if_false]; first | done | rfl)), (by first | rfl | (simp only [oM_gradeOf, b_9, b_18, b_27, b_54, if_true, if_false]; first | done | rfl))⟩)
    · refine lv_bipush (v := 99) hx hb dX8_gradeOf_26 (by decide) ?_
      exact g_iret C hr hlk hW_15 hS_16 dX8_gradeOf_28 (by exact ⟨(by first | rfl | (simp only [oM_gradeOf, b_9, b_18, if_true, if_false]; first | done | rfl)), (by first | rfl | (simp only [oM_gradeOf, b_9, b_18, if_true, if_false]; first | done | rfl))⟩)
  · refine lv_bipush (v := 120) hx hb dX8_gradeOf_11 (by decide) ?_
    exact g_iret C hr hlk hW_6 hS_7 dX8_gradeOf_13 (by exact ⟨(by first | rfl | (simp only [oM_gradeOf, b_9, if_true, if_false]; first | done | rfl)), (by first | rfl | (simp only [oM_gradeOf, b_9, if_true, if_false]; first | done | rfl))⟩)

def oM_grade (w15 : Nat → Int32) (w16 : Nat → Int32) (x : Int32) : Int32 × (Nat → Int32) := if oM_isIngot (w16) x = 0 then (97, (upd (w15) (0) 1)) else (chW (oM_gradeOf (w16) x.toNatClampNeg), (upd (w15) (0) 0))
set_option maxHeartbeats 4000000 in
set_option maxRecDepth 100000 in
theorem cX8_grade_ok (l : Launch) (G : GT) (X : St) (x : Int32) (hm : MInv (X.1 16)) : MetI l G yX8_grade (wsG yX8_grade cX8_grade 2 (some .char)) (rmz 3 64) [.ref (ad G 723), .int x] X (fun res Y => res = (oM_grade (X.1 15) (X.1 16) x).1 ∧ Y = setRow (X) 15 ((oM_grade (X.1 15) (X.1 16) x).2)) := by
  refine g_met (cc := cX8_grade) (maxL := 2) (ret := (some .char)) (by decide) rfl (Nat.le_of_ble_eq_true rfl) ?_
  intro p e s m below meth c ls C hr hlk hnm hW hl
  have hx := C.1.1
  have hb := C.1.2.1
  have hS : va_S (Ab G) s.heap s.heap [] := va_S.rf
  have hl : lv_has ls 2 [(0, .ref (ad G 723)), (1, .int x)] := hl
  have hW : Wd G (setRow (X) 15 (X.1 15)) s.heap := Wd.cast ((sr_same (X := X) (r := 15) rfl)).symm hW
  obtain ⟨km, hkm, em, hmm⟩ := hm.2.2.1
  obtain ⟨ki, hki, ei, hii⟩ := hm.2.2.2.1
  refine lv_aload_n hx hb dX8_grade_0 rfl (lv_at hl 0 rfl) ?_
  refine lv_aload_n hx hb dX8_grade_1 rfl (lv_at hl 0 rfl) ?_
  refine lv_iload_n hx hb dX8_grade_2 rfl (lv_at hl 1 rfl) ?_
  refine g_calli (va_runV (As := [.int x]) (rest := [.ref (ad G 723)]) C.1 (cX8_isIngot_ok l G (setRow X 15 (X.1 15)) x) (cwV 1 C.1.2.2.2.2 (gV qw_1689 qw_1691 qw_51 qw_81 qw_1692) rfl rfl rfl (by decide +kernel) ⟨Nat.le_of_ble_eq_true rfl, Nat.le_of_ble_eq_true rfl⟩) (g_rModel C hW hS [.int x]) rfl rfl hl.1 rfl (lv_room (Nat.le_of_ble_eq_true rfl)) dX8_grade_3 ⟨Nat.zero_le _, Nat.zero_le _⟩) hS (fun r_2 Y_3 H_4 locs_5 hW_6 hS_7 h_1 => ?_)
  obtain ⟨h_1, hy_8⟩ := h_1
  replace hy_8 := hy_8.symm
  subst hy_8
  replace h_1 : r_2 = oM_isIngot (X.1 16) x := h_1
  subst h_1
  refine lv_if_eq (tgt := 13) hx hb dX8_grade_6 (by decide) (fun b_9 => ?_) (fun b_9 => ?_)
  · refine lv_iconst (v := 1) hx hb dX8_grade_13 (by decide) ?_
    refine gM_thrownP C hW_6 hS_7 (hwc hwX8) (mc qw_1476) dX8_grade_14 (fun H_10 locs_11 hW_12 hS_13 => ?_)
    obtain ⟨w_14, ew_14⟩ : ∃ Z9, Z9 = upd (X.1 15) (0) 1 := ⟨_, rfl⟩
    have kn_15 : w_14 (0) = 1 := by rw [ew_14]; exact pk_us
    have hW_16 : Wd G (setRow X 15 w_14) H_10 := Wd.cast (by rw [ew_14]; exact st_out) hW_12
    refine lv_aload_n hx hb dX8_grade_17 rfl (lv_at hl 0 rfl) ?_
    refine gM_thrown C hW_16 (hwc hwX8) (mc qw_1476) dX8_grade_18 ?_
    refine g_top (y := w_14 (0)) (congrFun rd_out _) ?_
    refine g_top (y := 1) kn_15 ?_
    refine lv_if_ne (tgt := 33) hx hb dX8_grade_21 (by decide) (fun _ => ?_) (fun h9 => absurd h9 (by decide))
    refine lv_bipush (v := 97) hx hb dX8_grade_33 (by decide) ?_
    exact g_zret C hr hlk hW_16 hS_13 dX8_grade_35 rfl (by subst ew_14; exact ⟨(by first | rfl | (simp only [oM_grade, eq_true b_9, if_true, if_false, em, ei, clf (show km < 2 ^ 31 by omega), clf (show ki < 2 ^ 31 by omega)]; first | done | rfl)), (by first | rfl | (simp only [oM_grade, eq_true b_9, if_true, if_false, em, ei, clf (show km < 2 ^ 31 by omega), clf (show ki < 2 ^ 31 by omega)]; first | done | rfl))⟩)
  · obtain ⟨f_17, hf_17, rfl⟩ := count_in (by omega) ei b_9
    refine lv_iconst (v := 0) hx hb dX8_grade_9 (by decide) ?_
    refine lv_goto (tgt := 14) hx hb dX8_grade_10 (by decide) ?_
    refine gM_thrownP C hW_6 hS_7 (hwc hwX8) (mc qw_1476) dX8_grade_14 (fun H_18 locs_19 hW_20 hS_21 => ?_)
    obtain ⟨w_22, ew_22⟩ : ∃ Z9, Z9 = upd (X.1 15) (0) 0 := ⟨_, rfl⟩
    have kn_23 : w_22 (0) = 0 := by rw [ew_22]; exact pk_us
    have hW_24 : Wd G (setRow X 15 w_22) H_18 := Wd.cast (by rw [ew_22]; exact st_out) hW_20
    refine lv_aload_n hx hb dX8_grade_17 rfl (lv_at hl 0 rfl) ?_
    refine gM_thrown C hW_24 (hwc hwX8) (mc qw_1476) dX8_grade_18 ?_
    refine g_top (y := w_22 (0)) (congrFun rd_out _) ?_
    refine g_top (y := 0) kn_23 ?_
    refine lv_if_ne (tgt := 33) hx hb dX8_grade_21 (by decide) (fun h9 => absurd h9 (by decide)) (fun _ => ?_)
    refine lv_aload_n hx hb dX8_grade_24 rfl (lv_at hl 0 rfl) ?_
    refine lv_iload_n hx hb dX8_grade_25 rfl (lv_at hl 1 rfl) ?_
    refine g_calli (va_runV (As := [.int (nI f_17)]) (rest := []) C.1 (cX8_gradeOf_ok l G (setRow X 15 w_22) f_17 (show f_17 < 12 by omega) (ing_mass hii (show f_17 < ki by omega))) (cwV 1 C.1.2.2.2.2 (gV qw_1810 qw_1812 qw_57 qw_81 qw_1813) rfl rfl rfl (by decide +kernel) ⟨Nat.le_of_ble_eq_true rfl, Nat.le_of_ble_eq_true rfl⟩) (g_rModel C hW_24 hS_21 [.int (nI f_17)]) rfl rfl hl.1 rfl (lv_room (Nat.le_of_ble_eq_true rfl)) dX8_grade_26 ⟨Nat.zero_le _, Nat.zero_le _⟩) hS_21 (fun r_26 Y_27 H_28 locs_29 hW_30 hS_31 h_25 => ?_)
    obtain ⟨h_25, hy_32⟩ := h_25
    replace hy_32 := hy_32.symm
    subst hy_32
    replace h_25 : r_26 = oM_gradeOf (X.1 16) f_17 := h_25
    subst h_25
    refine lv_i2c (v := chW (oM_gradeOf (X.1 16) f_17)) hx hb dX8_grade_29 rfl ?_
    refine lv_goto (tgt := 35) hx hb dX8_grade_30 (by decide) ?_
    exact g_zret C hr hlk hW_30 hS_31 dX8_grade_35 (nar_ch _) (by subst ew_22; exact ⟨(by first | rfl | (simp only [oM_grade, clf (show f_17 < 2 ^ 31 by omega), b_9, if_true, if_false, em, ei, clf (show km < 2 ^ 31 by omega), clf (show ki < 2 ^ 31 by omega)]; first | done | rfl)), (by first | rfl | (simp only [oM_grade, clf (show f_17 < 2 ^ 31 by omega), b_9, if_true, if_false, em, ei, clf (show km < 2 ^ 31 by omega), clf (show ki < 2 ^ 31 by omega)]; first | done | rfl))⟩)

def oM_account (w15 : Nat → Int32) (w16 : Nat → Int32) (a : Nat) (letter : Int32) : Int32 × (Nat → Int32) := if 0 ≤ oM_kind letter then (w16 (a + ((oM_kind letter).toNatClampNeg)), (upd (w15) (0) 0)) else (0, (upd (w15) (0) 1))
set_option maxHeartbeats 4000000 in
set_option maxRecDepth 100000 in
theorem cX8_account_ok (l : Launch) (G : GT) (X : St) (a : Nat) (letter : Int32) (ha : a + 4 ≤ 128) : MetI l G yX8_account (wsG yX8_account cX8_account 3 (some .int)) (rmz 1 20) [.ref (ad G 723), .int (nI a), .int letter] X (fun res Y => res = (oM_account (X.1 15) (X.1 16) a letter).1 ∧ Y = setRow (X) 15 ((oM_account (X.1 15) (X.1 16) a letter).2)) := by
  refine g_met (cc := cX8_account) (maxL := 3) (ret := (some .int)) (by decide) rfl (Nat.le_of_ble_eq_true rfl) ?_
  intro p e s m below meth c ls C hr hlk hnm hW hl
  have hx := C.1.1
  have hb := C.1.2.1
  have hS : va_S (Ab G) s.heap s.heap [] := va_S.rf
  have hl : lv_has ls 3 [(0, .ref (ad G 723)), (1, .int (nI a)), (2, .int letter)] := hl
  have hW : Wd G (setRow (X) 15 (X.1 15)) s.heap := Wd.cast ((sr_same (X := X) (r := 15) rfl)).symm hW
  refine lv_aload_n hx hb dX8_account_0 rfl (lv_at hl 0 rfl) ?_
  refine lv_iload_n hx hb dX8_account_1 rfl (lv_at hl 2 rfl) ?_
  refine g_calli (va_runS (As := [.int letter]) (rest := [.ref (ad G 723)]) C.1 (cX8_kind_ok l G (setRow X 15 (X.1 15)) letter) (va_cwS 1 C.1.2.2.2.2 (gS qw_1558 qw_1559 qw_81 qw_1560) rfl rfl rfl (by decide +kernel) ⟨Nat.le_of_ble_eq_true rfl, Nat.le_of_ble_eq_true rfl⟩) (g_pre C hW hS [.int letter]) rfl rfl hl.1 rfl (lv_room (Nat.le_of_ble_eq_true rfl)) dX8_account_2 ⟨Nat.zero_le _, Nat.zero_le _⟩) hS (fun r_2 Y_3 H_4 locs_5 hW_6 hS_7 h_1 => ?_)
  obtain ⟨h_1, hy_8⟩ := h_1
  replace hy_8 := hy_8.symm
  subst hy_8
  replace h_1 : r_2 = oM_kind letter := h_1
  subst h_1
  refine lv_if_ge (tgt := 12) hx hb dX8_account_5 (by decide) (fun b_9 => ?_) (fun b_9 => ?_)
  · obtain ⟨f_10, hf_10, hkf_10⟩ := kind_ge b_9
    refine lv_iconst (v := 0) hx hb dX8_account_12 (by decide) ?_
    refine gM_thrownP C hW_6 hS_7 (hwc hwX8) (mc qw_1476) dX8_account_13 (fun H_11 locs_12 hW_13 hS_14 => ?_)
    obtain ⟨w_15, ew_15⟩ : ∃ Z9, Z9 = upd (X.1 15) (0) 0 := ⟨_, rfl⟩
    have kn_16 : w_15 (0) = 0 := by rw [ew_15]; exact pk_us
    have hW_17 : Wd G (setRow X 15 w_15) H_11 := Wd.cast (by rw [ew_15]; exact st_out) hW_13
    refine lv_aload_n hx hb dX8_account_16 rfl (lv_at hl 0 rfl) ?_
    refine gM_thrown C hW_17 (hwc hwX8) (mc qw_1476) dX8_account_17 ?_
    refine g_top (y := w_15 (0)) (congrFun rd_out _) ?_
    refine g_top (y := 0) kn_16 ?_
    refine lv_if_ne (tgt := 37) hx hb dX8_account_20 (by decide) (fun h9 => absurd h9 (by decide)) (fun _ => ?_)
    refine lv_aload_n hx hb dX8_account_23 rfl (lv_at hl 0 rfl) ?_
    refine gM_v C hW_17 (hwc hwX8) (mc qw_1481) dX8_account_24 ?_
    refine lv_iload_n hx hb dX8_account_27 rfl (lv_at hl 1 rfl) ?_
    refine lv_iload_n hx hb dX8_account_28 rfl (lv_at hl 2 rfl) ?_
    refine g_calli (va_runS (As := [.int letter]) (rest := [.int (nI a), .ref (ad G 724)]) C.1 (cX8_kind_ok l G (setRow X 15 w_15) letter) (va_cwS 1 C.1.2.2.2.2 (gS qw_1558 qw_1559 qw_81 qw_1560) rfl rfl rfl (by decide +kernel) ⟨Nat.le_of_ble_eq_true rfl, Nat.le_of_ble_eq_true rfl⟩) (g_pre C hW_17 hS_14 [.int letter]) rfl rfl hl.1 rfl (lv_room (Nat.le_of_ble_eq_true rfl)) dX8_account_29 ⟨Nat.zero_le _, Nat.zero_le _⟩) hS_14 (fun r_19 Y_20 H_21 locs_22 hW_23 hS_24 h_18 => ?_)
    obtain ⟨h_18, hy_25⟩ := h_18
    replace hy_25 := hy_25.symm
    subst hy_25
    replace h_18 : r_19 = oM_kind letter := h_18
    subst h_18
    refine g_top (y := nI f_10) hkf_10 ?_
    refine lv_iadd hx hb dX8_account_32 ?_
    refine g_top (y := nI (a + f_10)) (nI_add a f_10) ?_
    refine gm_vld C hW_23 (a + f_10) (nI_clamp (by omega)) (vp_in_nI (show a + f_10 < 128 by omega) (by decide)) dX8_account_33 ?_
    refine g_top (y := X.1 16 (a + f_10)) (congrFun (rd_in (by decide) rfl) _) ?_
    refine lv_goto (tgt := 38) hx hb dX8_account_34 (by decide) ?_
    exact g_iret C hr hlk hW_23 hS_24 dX8_account_38 (by subst ew_15; exact ⟨(by first | rfl | (simp only [oM_account, hkf_10, clf (show f_10 < 2 ^ 31 by omega), nI_ge0 (show f_10 < 2 ^ 31 by omega), b_9, if_true, if_false]; first | done | rfl)), (by first | rfl | (simp only [oM_account, hkf_10, clf (show f_10 < 2 ^ 31 by omega), nI_ge0 (show f_10 < 2 ^ 31 by omega), b_9, if_true, if_false]; first | done | rfl))⟩)
  · refine lv_iconst (v := 1) hx hb dX8_account_8 (by decide) ?_
    refine lv_goto (tgt := 13) hx hb dX8_account_9 (by decide) ?_
    refine gM_thrownP C hW_6 hS_7 (hwc hwX8) (mc qw_1476) dX8_account_13 (fun H_26 locs_27 hW_28 hS_29 => ?_)
    obtain ⟨w_30, ew_30⟩ : ∃ Z9, Z9 = upd (X.1 15) (0) 1 := ⟨_, rfl⟩
    have kn_31 : w_30 (0) = 1 := by rw [ew_30]; exact pk_us
    have hW_32 : Wd G (setRow X 15 w_30) H_26 := Wd.cast (by rw [ew_30]; exact st_out) hW_28
    refine lv_aload_n hx hb dX8_account_16 rfl (lv_at hl 0 rfl) ?_
    refine gM_thrown C hW_32 (hwc hwX8) (mc qw_1476) dX8_account_17 ?_
    refine g_top (y := w_30 (0)) (congrFun rd_out _) ?_
    refine g_top (y := 1) kn_31 ?_
    refine lv_if_ne (tgt := 37) hx hb dX8_account_20 (by decide) (fun _ => ?_) (fun h9 => absurd h9 (by decide))
    refine lv_iconst (v := 0) hx hb dX8_account_37 (by decide) ?_
    exact g_iret C hr hlk hW_32 hS_29 dX8_account_38 (by subst ew_30; exact ⟨(by first | rfl | (simp only [oM_account, b_9, if_true, if_false]; first | done | rfl)), (by first | rfl | (simp only [oM_account, b_9, if_true, if_false]; first | done | rfl))⟩)

def oM_charged (w15 : Nat → Int32) (w16 : Nat → Int32) (mt : Int32) : Int32 × (Nat → Int32) := ((oM_account (w15) (w16) 1 mt).1, ((oM_account (w15) (w16) 1 mt).2))
set_option maxHeartbeats 4000000 in
set_option maxRecDepth 100000 in
theorem cX8_charged_ok (l : Launch) (G : GT) (X : St) (mt : Int32) : MetI l G yX8_charged (wsG yX8_charged cX8_charged 2 (some .int)) (rmz 2 42) [.ref (ad G 723), .int mt] X (fun res Y => res = (oM_charged (X.1 15) (X.1 16) mt).1 ∧ Y = setRow (X) 15 ((oM_charged (X.1 15) (X.1 16) mt).2)) := by
  refine g_met (cc := cX8_charged) (maxL := 2) (ret := (some .int)) (by decide) rfl (Nat.le_of_ble_eq_true rfl) ?_
  intro p e s m below meth c ls C hr hlk hnm hW hl
  have hx := C.1.1
  have hb := C.1.2.1
  have hS : va_S (Ab G) s.heap s.heap [] := va_S.rf
  have hl : lv_has ls 2 [(0, .ref (ad G 723)), (1, .int mt)] := hl
  have hW : Wd G (setRow (X) 15 (X.1 15)) s.heap := Wd.cast ((sr_same (X := X) (r := 15) rfl)).symm hW
  refine lv_aload_n hx hb dX8_charged_0 rfl (lv_at hl 0 rfl) ?_
  refine lv_iconst (v := 1) hx hb dX8_charged_1 (by decide) ?_
  refine lv_iload_n hx hb dX8_charged_2 rfl (lv_at hl 1 rfl) ?_
  refine g_calli (va_runV (As := [.int 1, .int mt]) (rest := []) C.1 (cX8_account_ok l G (setRow X 15 (X.1 15)) 1 mt (show 1 + 4 ≤ 128 by decide)) (cwV 2 C.1.2.2.2.2 (gV qw_1826 qw_1828 qw_58 qw_81 qw_1829) rfl rfl rfl (by decide +kernel) ⟨Nat.le_of_ble_eq_true rfl, Nat.le_of_ble_eq_true rfl⟩) (g_rModel C hW hS [.int 1, .int mt]) rfl rfl hl.1 rfl (lv_room (Nat.le_of_ble_eq_true rfl)) dX8_charged_3 ⟨Nat.zero_le _, Nat.zero_le _⟩) hS (fun r_2 Y_3 H_4 locs_5 hW_6 hS_7 h_1 => ?_)
  obtain ⟨h_8, h_1⟩ := h_1
  replace h_8 : r_2 = (oM_account (X.1 15) (X.1 16) 1 mt).1 := h_8
  subst h_8
  replace h_1 : Y_3 = setRow (setRow X 15 (X.1 15)) 15 ((oM_account (X.1 15) (X.1 16) 1 mt).2) := h_1
  obtain ⟨w_9, ew_9⟩ : ∃ Z9, Z9 = (oM_account (X.1 15) (X.1 16) 1 mt).2 := ⟨_, rfl⟩
  have qqw_9 : Y_3 = setRow (setRow X 15 (X.1 15)) 15 w_9 := by rw [h_1, ew_9]
  have hW_10 : Wd G (setRow X 15 w_9) H_4 := Wd.cast ((qqw_9).trans (congrArg (fun Z9 => Z9) sr_out)) hW_6
  exact g_iret C hr hlk hW_10 hS_7 dX8_charged_6 (by subst ew_9; exact ⟨(by first | rfl | (simp only [oM_charged, if_true, if_false]; first | done | rfl)), (by first | rfl | (simp only [oM_charged, if_true, if_false]; first | done | rfl))⟩)

def oM_slag (w15 : Nat → Int32) (w16 : Nat → Int32) (mt : Int32) : Int32 × (Nat → Int32) := ((oM_account (w15) (w16) 5 mt).1, ((oM_account (w15) (w16) 5 mt).2))
set_option maxHeartbeats 4000000 in
set_option maxRecDepth 100000 in
theorem cX8_slag_ok (l : Launch) (G : GT) (X : St) (mt : Int32) : MetI l G yX8_slag (wsG yX8_slag cX8_slag 2 (some .int)) (rmz 2 42) [.ref (ad G 723), .int mt] X (fun res Y => res = (oM_slag (X.1 15) (X.1 16) mt).1 ∧ Y = setRow (X) 15 ((oM_slag (X.1 15) (X.1 16) mt).2)) := by
  refine g_met (cc := cX8_slag) (maxL := 2) (ret := (some .int)) (by decide) rfl (Nat.le_of_ble_eq_true rfl) ?_
  intro p e s m below meth c ls C hr hlk hnm hW hl
  have hx := C.1.1
  have hb := C.1.2.1
  have hS : va_S (Ab G) s.heap s.heap [] := va_S.rf
  have hl : lv_has ls 2 [(0, .ref (ad G 723)), (1, .int mt)] := hl
  have hW : Wd G (setRow (X) 15 (X.1 15)) s.heap := Wd.cast ((sr_same (X := X) (r := 15) rfl)).symm hW
  refine lv_aload_n hx hb dX8_slag_0 rfl (lv_at hl 0 rfl) ?_
  refine lv_iconst (v := 5) hx hb dX8_slag_1 (by decide) ?_
  refine lv_iload_n hx hb dX8_slag_2 rfl (lv_at hl 1 rfl) ?_
  refine g_calli (va_runV (As := [.int 5, .int mt]) (rest := []) C.1 (cX8_account_ok l G (setRow X 15 (X.1 15)) 5 mt (show 5 + 4 ≤ 128 by decide)) (cwV 2 C.1.2.2.2.2 (gV qw_1826 qw_1828 qw_58 qw_81 qw_1829) rfl rfl rfl (by decide +kernel) ⟨Nat.le_of_ble_eq_true rfl, Nat.le_of_ble_eq_true rfl⟩) (g_rModel C hW hS [.int 5, .int mt]) rfl rfl hl.1 rfl (lv_room (Nat.le_of_ble_eq_true rfl)) dX8_slag_3 ⟨Nat.zero_le _, Nat.zero_le _⟩) hS (fun r_2 Y_3 H_4 locs_5 hW_6 hS_7 h_1 => ?_)
  obtain ⟨h_8, h_1⟩ := h_1
  replace h_8 : r_2 = (oM_account (X.1 15) (X.1 16) 5 mt).1 := h_8
  subst h_8
  replace h_1 : Y_3 = setRow (setRow X 15 (X.1 15)) 15 ((oM_account (X.1 15) (X.1 16) 5 mt).2) := h_1
  obtain ⟨w_9, ew_9⟩ : ∃ Z9, Z9 = (oM_account (X.1 15) (X.1 16) 5 mt).2 := ⟨_, rfl⟩
  have qqw_9 : Y_3 = setRow (setRow X 15 (X.1 15)) 15 w_9 := by rw [h_1, ew_9]
  have hW_10 : Wd G (setRow X 15 w_9) H_4 := Wd.cast ((qqw_9).trans (congrArg (fun Z9 => Z9) sr_out)) hW_6
  exact g_iret C hr hlk hW_10 hS_7 dX8_slag_6 (by subst ew_9; exact ⟨(by first | rfl | (simp only [oM_slag, if_true, if_false]; first | done | rfl)), (by first | rfl | (simp only [oM_slag, if_true, if_false]; first | done | rfl))⟩)

def oM_stock (w15 : Nat → Int32) (w16 : Nat → Int32) (mt : Int32) : Int32 × (Nat → Int32) := if 0 ≤ oM_kind mt then ((w16 (1 + ((oM_kind mt).toNatClampNeg))) - (w16 (5 + ((oM_kind mt).toNatClampNeg))), (upd (w15) (0) 0)) else (0, (upd (w15) (0) 1))
set_option maxHeartbeats 4000000 in
set_option maxRecDepth 100000 in
theorem cX8_stock_ok (l : Launch) (G : GT) (X : St) (mt : Int32) : MetI l G yX8_stock (wsG yX8_stock cX8_stock 2 (some .int)) (rmz 1 20) [.ref (ad G 723), .int mt] X (fun res Y => res = (oM_stock (X.1 15) (X.1 16) mt).1 ∧ Y = setRow (X) 15 ((oM_stock (X.1 15) (X.1 16) mt).2)) := by
  refine g_met (cc := cX8_stock) (maxL := 2) (ret := (some .int)) (by decide) rfl (Nat.le_of_ble_eq_true rfl) ?_
  intro p e s m below meth c ls C hr hlk hnm hW hl
  have hx := C.1.1
  have hb := C.1.2.1
  have hS : va_S (Ab G) s.heap s.heap [] := va_S.rf
  have hl : lv_has ls 2 [(0, .ref (ad G 723)), (1, .int mt)] := hl
  have hW : Wd G (setRow (X) 15 (X.1 15)) s.heap := Wd.cast ((sr_same (X := X) (r := 15) rfl)).symm hW
  refine lv_aload_n hx hb dX8_stock_0 rfl (lv_at hl 0 rfl) ?_
  refine lv_iload_n hx hb dX8_stock_1 rfl (lv_at hl 1 rfl) ?_
  refine g_calli (va_runS (As := [.int mt]) (rest := [.ref (ad G 723)]) C.1 (cX8_kind_ok l G (setRow X 15 (X.1 15)) mt) (va_cwS 1 C.1.2.2.2.2 (gS qw_1558 qw_1559 qw_81 qw_1560) rfl rfl rfl (by decide +kernel) ⟨Nat.le_of_ble_eq_true rfl, Nat.le_of_ble_eq_true rfl⟩) (g_pre C hW hS [.int mt]) rfl rfl hl.1 rfl (lv_room (Nat.le_of_ble_eq_true rfl)) dX8_stock_2 ⟨Nat.zero_le _, Nat.zero_le _⟩) hS (fun r_2 Y_3 H_4 locs_5 hW_6 hS_7 h_1 => ?_)
  obtain ⟨h_1, hy_8⟩ := h_1
  replace hy_8 := hy_8.symm
  subst hy_8
  replace h_1 : r_2 = oM_kind mt := h_1
  subst h_1
  refine lv_if_ge (tgt := 12) hx hb dX8_stock_5 (by decide) (fun b_9 => ?_) (fun b_9 => ?_)
  · obtain ⟨f_10, hf_10, hkf_10⟩ := kind_ge b_9
    refine lv_iconst (v := 0) hx hb dX8_stock_12 (by decide) ?_
    refine gM_thrownP C hW_6 hS_7 (hwc hwX8) (mc qw_1476) dX8_stock_13 (fun H_11 locs_12 hW_13 hS_14 => ?_)
    obtain ⟨w_15, ew_15⟩ : ∃ Z9, Z9 = upd (X.1 15) (0) 0 := ⟨_, rfl⟩
    have kn_16 : w_15 (0) = 0 := by rw [ew_15]; exact pk_us
    have hW_17 : Wd G (setRow X 15 w_15) H_11 := Wd.cast (by rw [ew_15]; exact st_out) hW_13
    refine lv_aload_n hx hb dX8_stock_16 rfl (lv_at hl 0 rfl) ?_
    refine gM_thrown C hW_17 (hwc hwX8) (mc qw_1476) dX8_stock_17 ?_
    refine g_top (y := w_15 (0)) (congrFun rd_out _) ?_
    refine g_top (y := 0) kn_16 ?_
    refine lv_if_ne (tgt := 49) hx hb dX8_stock_20 (by decide) (fun h9 => absurd h9 (by decide)) (fun _ => ?_)
    refine lv_aload_n hx hb dX8_stock_23 rfl (lv_at hl 0 rfl) ?_
    refine gM_v C hW_17 (hwc hwX8) (mc qw_1481) dX8_stock_24 ?_
    refine lv_iconst (v := 1) hx hb dX8_stock_27 (by decide) ?_
    refine lv_iload_n hx hb dX8_stock_28 rfl (lv_at hl 1 rfl) ?_
    refine g_calli (va_runS (As := [.int mt]) (rest := [.int 1, .ref (ad G 724)]) C.1 (cX8_kind_ok l G (setRow X 15 w_15) mt) (va_cwS 1 C.1.2.2.2.2 (gS qw_1558 qw_1559 qw_81 qw_1560) rfl rfl rfl (by decide +kernel) ⟨Nat.le_of_ble_eq_true rfl, Nat.le_of_ble_eq_true rfl⟩) (g_pre C hW_17 hS_14 [.int mt]) rfl rfl hl.1 rfl (lv_room (Nat.le_of_ble_eq_true rfl)) dX8_stock_29 ⟨Nat.zero_le _, Nat.zero_le _⟩) hS_14 (fun r_19 Y_20 H_21 locs_22 hW_23 hS_24 h_18 => ?_)
    obtain ⟨h_18, hy_25⟩ := h_18
    replace hy_25 := hy_25.symm
    subst hy_25
    replace h_18 : r_19 = oM_kind mt := h_18
    subst h_18
    refine g_top (y := nI f_10) hkf_10 ?_
    refine lv_iadd hx hb dX8_stock_32 ?_
    refine g_top (y := nI (1 + f_10)) (nI_add 1 f_10) ?_
    refine gm_vld C hW_23 (1 + f_10) (nI_clamp (by omega)) (vp_in_nI (show 1 + f_10 < 128 by omega) (by decide)) dX8_stock_33 ?_
    refine g_top (y := X.1 16 (1 + f_10)) (congrFun (rd_in (by decide) rfl) _) ?_
    refine lv_aload_n hx hb dX8_stock_34 rfl (lv_at hl 0 rfl) ?_
    refine gM_v C hW_23 (hwc hwX8) (mc qw_1481) dX8_stock_35 ?_
    refine lv_iconst (v := 5) hx hb dX8_stock_38 (by decide) ?_
    refine lv_iload_n hx hb dX8_stock_39 rfl (lv_at hl 1 rfl) ?_
    refine g_calli (va_runS (As := [.int mt]) (rest := [.int 5, .ref (ad G 724), .int (X.1 16 (1 + f_10))]) C.1 (cX8_kind_ok l G (setRow X 15 w_15) mt) (va_cwS 1 C.1.2.2.2.2 (gS qw_1558 qw_1559 qw_81 qw_1560) rfl rfl rfl (by decide +kernel) ⟨Nat.le_of_ble_eq_true rfl, Nat.le_of_ble_eq_true rfl⟩) (g_pre C hW_23 hS_24 [.int mt]) rfl rfl hl.1 rfl (lv_room (Nat.le_of_ble_eq_true rfl)) dX8_stock_40 ⟨Nat.zero_le _, Nat.zero_le _⟩) hS_24 (fun r_27 Y_28 H_29 locs_30 hW_31 hS_32 h_26 => ?_)
    obtain ⟨h_26, hy_33⟩ := h_26
    replace hy_33 := hy_33.symm
    subst hy_33
    replace h_26 : r_27 = oM_kind mt := h_26
    subst h_26
    refine g_top (y := nI f_10) hkf_10 ?_
    refine lv_iadd hx hb dX8_stock_43 ?_
    refine g_top (y := nI (5 + f_10)) (nI_add 5 f_10) ?_
    refine gm_vld C hW_31 (5 + f_10) (nI_clamp (by omega)) (vp_in_nI (show 5 + f_10 < 128 by omega) (by decide)) dX8_stock_44 ?_
    refine g_top (y := X.1 16 (5 + f_10)) (congrFun (rd_in (by decide) rfl) _) ?_
    refine lv_isub hx hb dX8_stock_45 ?_
    refine lv_goto (tgt := 50) hx hb dX8_stock_46 (by decide) ?_
    exact g_iret C hr hlk hW_31 hS_32 dX8_stock_50 (by subst ew_15; exact ⟨(by first | rfl | (simp only [oM_stock, hkf_10, clf (show f_10 < 2 ^ 31 by omega), nI_ge0 (show f_10 < 2 ^ 31 by omega), b_9, if_true, if_false]; first | done | rfl)), (by first | rfl | (simp only [oM_stock, hkf_10, clf (show f_10 < 2 ^ 31 by omega), nI_ge0 (show f_10 < 2 ^ 31 by omega), b_9, if_true, if_false]; first | done | rfl))⟩)
  · refine lv_iconst (v := 1) hx hb dX8_stock_8 (by decide) ?_
    refine lv_goto (tgt := 13) hx hb dX8_stock_9 (by decide) ?_
    refine gM_thrownP C hW_6 hS_7 (hwc hwX8) (mc qw_1476) dX8_stock_13 (fun H_34 locs_35 hW_36 hS_37 => ?_)
    obtain ⟨w_38, ew_38⟩ : ∃ Z9, Z9 = upd (X.1 15) (0) 1 := ⟨_, rfl⟩
    have kn_39 : w_38 (0) = 1 := by rw [ew_38]; exact pk_us
    have hW_40 : Wd G (setRow X 15 w_38) H_34 := Wd.cast (by rw [ew_38]; exact st_out) hW_36
    refine lv_aload_n hx hb dX8_stock_16 rfl (lv_at hl 0 rfl) ?_
    refine gM_thrown C hW_40 (hwc hwX8) (mc qw_1476) dX8_stock_17 ?_
    refine g_top (y := w_38 (0)) (congrFun rd_out _) ?_
    refine g_top (y := 1) kn_39 ?_
    refine lv_if_ne (tgt := 49) hx hb dX8_stock_20 (by decide) (fun _ => ?_) (fun h9 => absurd h9 (by decide))
    refine lv_iconst (v := 0) hx hb dX8_stock_49 (by decide) ?_
    exact g_iret C hr hlk hW_40 hS_37 dX8_stock_50 (by subst ew_38; exact ⟨(by first | rfl | (simp only [oM_stock, b_9, if_true, if_false]; first | done | rfl)), (by first | rfl | (simp only [oM_stock, b_9, if_true, if_false]; first | done | rfl))⟩)

def oM_stockByAccounts (w15 : Nat → Int32) (w16 : Nat → Int32) (mt : Int32) : Int32 × (Nat → Int32) := ((oM_stock (w15) (w16) mt).1, ((oM_stock (w15) (w16) mt).2))
set_option maxHeartbeats 4000000 in
set_option maxRecDepth 100000 in
theorem cX8_stockByAccounts_ok (l : Launch) (G : GT) (X : St) (mt : Int32) : MetI l G yX8_stockByAccounts (wsG yX8_stockByAccounts cX8_stockByAccounts 2 (some .int)) (rmz 2 41) [.ref (ad G 723), .int mt] X (fun res Y => res = (oM_stockByAccounts (X.1 15) (X.1 16) mt).1 ∧ Y = setRow (X) 15 ((oM_stockByAccounts (X.1 15) (X.1 16) mt).2)) := by
  refine g_met (cc := cX8_stockByAccounts) (maxL := 2) (ret := (some .int)) (by decide) rfl (Nat.le_of_ble_eq_true rfl) ?_
  intro p e s m below meth c ls C hr hlk hnm hW hl
  have hx := C.1.1
  have hb := C.1.2.1
  have hS : va_S (Ab G) s.heap s.heap [] := va_S.rf
  have hl : lv_has ls 2 [(0, .ref (ad G 723)), (1, .int mt)] := hl
  have hW : Wd G (setRow (X) 15 (X.1 15)) s.heap := Wd.cast ((sr_same (X := X) (r := 15) rfl)).symm hW
  refine lv_aload_n hx hb dX8_stockByAccounts_0 rfl (lv_at hl 0 rfl) ?_
  refine lv_iload_n hx hb dX8_stockByAccounts_1 rfl (lv_at hl 1 rfl) ?_
  refine g_calli (va_runV (As := [.int mt]) (rest := []) C.1 (cX8_stock_ok l G (setRow X 15 (X.1 15)) mt) (cwV 1 C.1.2.2.2.2 (gV qw_1842 qw_1835 qw_1836 qw_81 qw_1837) rfl rfl rfl (by decide +kernel) ⟨Nat.le_of_ble_eq_true rfl, Nat.le_of_ble_eq_true rfl⟩) (g_rModel C hW hS [.int mt]) rfl rfl hl.1 rfl (lv_room (Nat.le_of_ble_eq_true rfl)) dX8_stockByAccounts_2 ⟨Nat.zero_le _, Nat.zero_le _⟩) hS (fun r_2 Y_3 H_4 locs_5 hW_6 hS_7 h_1 => ?_)
  obtain ⟨h_8, h_1⟩ := h_1
  replace h_8 : r_2 = (oM_stock (X.1 15) (X.1 16) mt).1 := h_8
  subst h_8
  replace h_1 : Y_3 = setRow (setRow X 15 (X.1 15)) 15 ((oM_stock (X.1 15) (X.1 16) mt).2) := h_1
  obtain ⟨w_9, ew_9⟩ : ∃ Z9, Z9 = (oM_stock (X.1 15) (X.1 16) mt).2 := ⟨_, rfl⟩
  have qqw_9 : Y_3 = setRow (setRow X 15 (X.1 15)) 15 w_9 := by rw [h_1, ew_9]
  have hW_10 : Wd G (setRow X 15 w_9) H_4 := Wd.cast ((qqw_9).trans (congrArg (fun Z9 => Z9) sr_out)) hW_6
  exact g_iret C hr hlk hW_10 hS_7 dX8_stockByAccounts_5 (by subst ew_9; exact ⟨(by first | rfl | (simp only [oM_stockByAccounts, if_true, if_false]; first | done | rfl)), (by first | rfl | (simp only [oM_stockByAccounts, if_true, if_false]; first | done | rfl))⟩)

def oM_isConsistent (w15 : Nat → Int32) (w16 : Nat → Int32) : Int32 × (Nat → Int32) := 
  if smL w16 80 4 (w16 43).toNatClampNeg (smL w16 44 6 (w16 42).toNatClampNeg (oM_mass w16 (9 + 6 * 0) + oM_mass w16 (27 + 5 * 0) + (oM_mass w16 (9 + 6 * 1) + oM_mass w16 (27 + 5 * 1)) + (oM_mass w16 (9 + 6 * 2) + oM_mass w16 (27 + 5 * 2)))) = oM_mass w16 1 - oM_mass w16 5 then (1, upd w15 0 0) else (0, upd w15 0 0)
set_option maxHeartbeats 4000000 in
set_option maxRecDepth 100000 in
theorem cX8_isConsistent_ok (l : Launch) (G : GT) (X : St) (hm : MInv (X.1 16)) : MetI l G yX8_isConsistent (wsG yX8_isConsistent cX8_isConsistent 3 (some .boolean)) (rmz 1 21) [.ref (ad G 723)] X (fun res Y => res = (oM_isConsistent (X.1 15) (X.1 16)).1 ∧ Y = setRow (X) 15 ((oM_isConsistent (X.1 15) (X.1 16)).2)) := by
  refine g_met (cc := cX8_isConsistent) (maxL := 3) (ret := (some .boolean)) (by decide) rfl (Nat.le_of_ble_eq_true rfl) ?_
  intro p e s m below meth c ls C hr hlk hnm hW hl
  have hx := C.1.1
  have hb := C.1.2.1
  have hS : va_S (Ab G) s.heap s.heap [] := va_S.rf
  have hl : lv_has ls 3 [(0, .ref (ad G 723))] := hl
  have hW : Wd G (setRow (X) 15 (X.1 15)) s.heap := Wd.cast ((sr_same (X := X) (r := 15) rfl)).symm hW
  obtain ⟨km, hkm, em, hmm⟩ := hm.2.2.1
  obtain ⟨ki, hki, ei, hii⟩ := hm.2.2.2.1
  refine lv_aload_n hx hb dX8_isConsistent_0 rfl (lv_at hl 0 rfl) ?_
  refine lv_iconst (v := 0) hx hb dX8_isConsistent_1 (by decide) ?_
  refine gM_thrownP C hW hS (hwc hwX8) (mc qw_1476) dX8_isConsistent_2 (fun H_1 locs_2 hW_3 hS_4 => ?_)
  obtain ⟨w_5, ew_5⟩ : ∃ Z9, Z9 = upd (X.1 15) (0) 0 := ⟨_, rfl⟩
  have kn_6 : w_5 (0) = 0 := by rw [ew_5]; exact pk_us
  have hW_7 : Wd G (setRow X 15 w_5) H_1 := Wd.cast (by rw [ew_5]; exact st_out) hW_3
  refine lv_iconst (v := 0) hx hb dX8_isConsistent_5 (by decide) ?_
  refine lv_istore_n (lv' := [(1, .int 0), (0, .ref (ad G 723))]) hx hb dX8_isConsistent_6 rfl hl (by decide) rfl (fun ls_8 hl_9 => ?_)
  refine lv_iconst (v := 0) hx hb dX8_isConsistent_7 (by decide) ?_
  refine lv_istore_n (lv' := [(2, .int 0), (1, .int 0), (0, .ref (ad G 723))]) hx hb dX8_isConsistent_8 rfl hl_9 (by decide) rfl (fun ls_10 hl_11 => ?_)
  refine lv_iload_n hx hb dX8_isConsistent_9 rfl (lv_at hl_11 0 rfl) ?_
  refine lv_iconst (v := 3) hx hb dX8_isConsistent_10 (by decide) ?_
  refine lv_icmp_ge (tgt := 40) hx hb dX8_isConsistent_11 (by decide) (fun h9 => absurd h9 (by decide)) (fun _ => ?_)
  refine lv_iload_n hx hb dX8_isConsistent_14 rfl (lv_at hl_11 1 rfl) ?_
  refine lv_aload_n hx hb dX8_isConsistent_15 rfl (lv_at hl_11 2 rfl) ?_
  refine lv_iload_n hx hb dX8_isConsistent_16 rfl (lv_at hl_11 0 rfl) ?_
  refine g_calli (va_runS (As := [.int 0]) (rest := [.ref (ad G 723), .int 0]) C.1 (cX8_furnace_ok l G (setRow X 15 w_5) 0) (va_cwS 1 C.1.2.2.2.2 (gS qw_1470 qw_1471 qw_81 qw_1472) rfl rfl rfl (by decide +kernel) ⟨Nat.le_of_ble_eq_true rfl, Nat.le_of_ble_eq_true rfl⟩) (g_pre C hW_7 hS_4 [.int 0]) rfl rfl hl_11.1 rfl (lv_room (Nat.le_of_ble_eq_true rfl)) dX8_isConsistent_17 ⟨Nat.zero_le _, Nat.zero_le _⟩) hS_4 (fun r_13 Y_14 H_15 locs_16 hW_17 hS_18 h_12 => ?_)
  obtain ⟨h_12, hy_19⟩ := h_12
  replace hy_19 := hy_19.symm
  subst hy_19
  replace h_12 : r_13 = oM_furnace 0 := h_12
  subst h_12
  refine g_top (y := nI (9 + 6 * 0)) (at_furnace 0) ?_
  refine g_calli (va_runV (As := [.int (nI (9 + 6 * 0))]) (rest := [.int 0]) C.1 (cX8_mass_ok l G (setRow X 15 w_5) (9 + 6 * 0) (show 9 + 6 * 0 + 4 ≤ 128 by omega)) (cwV 1 C.1.2.2.2.2 (gV qw_1575 qw_1577 qw_32 qw_81 qw_1578) rfl rfl rfl (by decide +kernel) ⟨Nat.le_of_ble_eq_true rfl, Nat.le_of_ble_eq_true rfl⟩) (g_rModel C hW_17 hS_18 [.int (nI (9 + 6 * 0))]) rfl rfl hl_11.1 rfl (lv_room (Nat.le_of_ble_eq_true rfl)) dX8_isConsistent_20 ⟨Nat.zero_le _, Nat.zero_le _⟩) hS_18 (fun r_21 Y_22 H_23 locs_24 hW_25 hS_26 h_20 => ?_)
  obtain ⟨h_20, hy_27⟩ := h_20
  replace hy_27 := hy_27.symm
  subst hy_27
  replace h_20 : r_21 = oM_mass (X.1 16) (9 + 6 * 0) := h_20
  subst h_20
  refine lv_aload_n hx hb dX8_isConsistent_23 rfl (lv_at hl_11 2 rfl) ?_
  refine lv_iload_n hx hb dX8_isConsistent_24 rfl (lv_at hl_11 0 rfl) ?_
  refine g_calli (va_runS (As := [.int 0]) (rest := [.ref (ad G 723), .int (oM_mass (X.1 16) (9 + 6 * 0)), .int 0]) C.1 (cX8_ladle_ok l G (setRow X 15 w_5) 0) (va_cwS 1 C.1.2.2.2.2 (gS qw_1473 qw_1474 qw_81 qw_1475) rfl rfl rfl (by decide +kernel) ⟨Nat.le_of_ble_eq_true rfl, Nat.le_of_ble_eq_true rfl⟩) (g_pre C hW_25 hS_26 [.int 0]) rfl rfl hl_11.1 rfl (lv_room (Nat.le_of_ble_eq_true rfl)) dX8_isConsistent_25 ⟨Nat.zero_le _, Nat.zero_le _⟩) hS_26 (fun r_29 Y_30 H_31 locs_32 hW_33 hS_34 h_28 => ?_)
  obtain ⟨h_28, hy_35⟩ := h_28
  replace hy_35 := hy_35.symm
  subst hy_35
  replace h_28 : r_29 = oM_ladle 0 := h_28
  subst h_28
  refine g_top (y := nI (27 + 5 * 0)) (at_ladle 0) ?_
  refine g_calli (va_runV (As := [.int (nI (27 + 5 * 0))]) (rest := [.int (oM_mass (X.1 16) (9 + 6 * 0)), .int 0]) C.1 (cX8_mass_ok l G (setRow X 15 w_5) (27 + 5 * 0) (show 27 + 5 * 0 + 4 ≤ 128 by omega)) (cwV 1 C.1.2.2.2.2 (gV qw_1575 qw_1577 qw_32 qw_81 qw_1578) rfl rfl rfl (by decide +kernel) ⟨Nat.le_of_ble_eq_true rfl, Nat.le_of_ble_eq_true rfl⟩) (g_rModel C hW_33 hS_34 [.int (nI (27 + 5 * 0))]) rfl rfl hl_11.1 rfl (lv_room (Nat.le_of_ble_eq_true rfl)) dX8_isConsistent_28 ⟨Nat.zero_le _, Nat.zero_le _⟩) hS_34 (fun r_37 Y_38 H_39 locs_40 hW_41 hS_42 h_36 => ?_)
  obtain ⟨h_36, hy_43⟩ := h_36
  replace hy_43 := hy_43.symm
  subst hy_43
  replace h_36 : r_37 = oM_mass (X.1 16) (27 + 5 * 0) := h_36
  subst h_36
  refine lv_iadd hx hb dX8_isConsistent_31 ?_
  refine lv_iadd hx hb dX8_isConsistent_32 ?_
  refine g_top (y := ((oM_mass (X.1 16) (9 + 6 * 0)) + (oM_mass (X.1 16) (27 + 5 * 0)))) (Int32.zero_add _) ?_
  refine lv_topi (fun v_44 ev_44 => ?_)
  refine lv_istore_n (lv' := [(1, .int v_44), (2, .int 0), (0, .ref (ad G 723))]) hx hb dX8_isConsistent_33 rfl hl_11 (by decide) rfl (fun ls_45 hl_46 => ?_)
  refine lv_iinc (v := 1) (lv' := [(2, .int 1), (1, .int v_44), (0, .ref (ad G 723))]) hx hb dX8_isConsistent_34 hl_46 (k := 1) rfl (by decide) (by decide) rfl (fun ls_47 hl_48 => ?_)
  refine lv_goto (tgt := 9) hx hb dX8_isConsistent_37 (by decide) ?_
  refine lv_iload_n hx hb dX8_isConsistent_9 rfl (lv_at hl_48 0 rfl) ?_
  refine lv_iconst (v := 3) hx hb dX8_isConsistent_10 (by decide) ?_
  refine lv_icmp_ge (tgt := 40) hx hb dX8_isConsistent_11 (by decide) (fun h9 => absurd h9 (by decide)) (fun _ => ?_)
  refine lv_iload_n hx hb dX8_isConsistent_14 rfl (lv_at hl_48 1 rfl) ?_
  refine lv_aload_n hx hb dX8_isConsistent_15 rfl (lv_at hl_48 2 rfl) ?_
  refine lv_iload_n hx hb dX8_isConsistent_16 rfl (lv_at hl_48 0 rfl) ?_
  refine g_calli (va_runS (As := [.int 1]) (rest := [.ref (ad G 723), .int v_44]) C.1 (cX8_furnace_ok l G (setRow X 15 w_5) 1) (va_cwS 1 C.1.2.2.2.2 (gS qw_1470 qw_1471 qw_81 qw_1472) rfl rfl rfl (by decide +kernel) ⟨Nat.le_of_ble_eq_true rfl, Nat.le_of_ble_eq_true rfl⟩) (g_pre C hW_41 hS_42 [.int 1]) rfl rfl hl_48.1 rfl (lv_room (Nat.le_of_ble_eq_true rfl)) dX8_isConsistent_17 ⟨Nat.zero_le _, Nat.zero_le _⟩) hS_42 (fun r_50 Y_51 H_52 locs_53 hW_54 hS_55 h_49 => ?_)
  obtain ⟨h_49, hy_56⟩ := h_49
  replace hy_56 := hy_56.symm
  subst hy_56
  replace h_49 : r_50 = oM_furnace 1 := h_49
  subst h_49
  refine g_top (y := nI (9 + 6 * 1)) (at_furnace 1) ?_
  refine g_calli (va_runV (As := [.int (nI (9 + 6 * 1))]) (rest := [.int v_44]) C.1 (cX8_mass_ok l G (setRow X 15 w_5) (9 + 6 * 1) (show 9 + 6 * 1 + 4 ≤ 128 by omega)) (cwV 1 C.1.2.2.2.2 (gV qw_1575 qw_1577 qw_32 qw_81 qw_1578) rfl rfl rfl (by decide +kernel) ⟨Nat.le_of_ble_eq_true rfl, Nat.le_of_ble_eq_true rfl⟩) (g_rModel C hW_54 hS_55 [.int (nI (9 + 6 * 1))]) rfl rfl hl_48.1 rfl (lv_room (Nat.le_of_ble_eq_true rfl)) dX8_isConsistent_20 ⟨Nat.zero_le _, Nat.zero_le _⟩) hS_55 (fun r_58 Y_59 H_60 locs_61 hW_62 hS_63 h_57 => ?_)
  obtain ⟨h_57, hy_64⟩ := h_57
  replace hy_64 := hy_64.symm
  subst hy_64
  replace h_57 : r_58 = oM_mass (X.1 16) (9 + 6 * 1) := h_57
  subst h_57
  refine lv_aload_n hx hb dX8_isConsistent_23 rfl (lv_at hl_48 2 rfl) ?_
  refine lv_iload_n hx hb dX8_isConsistent_24 rfl (lv_at hl_48 0 rfl) ?_
  refine g_calli (va_runS (As := [.int 1]) (rest := [.ref (ad G 723), .int (oM_mass (X.1 16) (9 + 6 * 1)), .int v_44]) C.1 (cX8_ladle_ok l G (setRow X 15 w_5) 1) (va_cwS 1 C.1.2.2.2.2 (gS qw_1473 qw_1474 qw_81 qw_1475) rfl rfl rfl (by decide +kernel) ⟨Nat.le_of_ble_eq_true rfl, Nat.le_of_ble_eq_true rfl⟩) (g_pre C hW_62 hS_63 [.int 1]) rfl rfl hl_48.1 rfl (lv_room (Nat.le_of_ble_eq_true rfl)) dX8_isConsistent_25 ⟨Nat.zero_le _, Nat.zero_le _⟩) hS_63 (fun r_66 Y_67 H_68 locs_69 hW_70 hS_71 h_65 => ?_)
  obtain ⟨h_65, hy_72⟩ := h_65
  replace hy_72 := hy_72.symm
  subst hy_72
  replace h_65 : r_66 = oM_ladle 1 := h_65
  subst h_65
  refine g_top (y := nI (27 + 5 * 1)) (at_ladle 1) ?_
  refine g_calli (va_runV (As := [.int (nI (27 + 5 * 1))]) (rest := [.int (oM_mass (X.1 16) (9 + 6 * 1)), .int v_44]) C.1 (cX8_mass_ok l G (setRow X 15 w_5) (27 + 5 * 1) (show 27 + 5 * 1 + 4 ≤ 128 by omega)) (cwV 1 C.1.2.2.2.2 (gV qw_1575 qw_1577 qw_32 qw_81 qw_1578) rfl rfl rfl (by decide +kernel) ⟨Nat.le_of_ble_eq_true rfl, Nat.le_of_ble_eq_true rfl⟩) (g_rModel C hW_70 hS_71 [.int (nI (27 + 5 * 1))]) rfl rfl hl_48.1 rfl (lv_room (Nat.le_of_ble_eq_true rfl)) dX8_isConsistent_28 ⟨Nat.zero_le _, Nat.zero_le _⟩) hS_71 (fun r_74 Y_75 H_76 locs_77 hW_78 hS_79 h_73 => ?_)
  obtain ⟨h_73, hy_80⟩ := h_73
  replace hy_80 := hy_80.symm
  subst hy_80
  replace h_73 : r_74 = oM_mass (X.1 16) (27 + 5 * 1) := h_73
  subst h_73
  refine lv_iadd hx hb dX8_isConsistent_31 ?_
  refine lv_iadd hx hb dX8_isConsistent_32 ?_
  refine lv_topi (fun v_81 ev_81 => ?_)
  refine lv_istore_n (lv' := [(1, .int v_81), (2, .int 1), (0, .ref (ad G 723))]) hx hb dX8_isConsistent_33 rfl hl_48 (by decide) rfl (fun ls_82 hl_83 => ?_)
  refine lv_iinc (v := 2) (lv' := [(2, .int 2), (1, .int v_81), (0, .ref (ad G 723))]) hx hb dX8_isConsistent_34 hl_83 (k := 1) rfl (by decide) (by decide) rfl (fun ls_84 hl_85 => ?_)
  refine lv_goto (tgt := 9) hx hb dX8_isConsistent_37 (by decide) ?_
  refine lv_iload_n hx hb dX8_isConsistent_9 rfl (lv_at hl_85 0 rfl) ?_
  refine lv_iconst (v := 3) hx hb dX8_isConsistent_10 (by decide) ?_
  refine lv_icmp_ge (tgt := 40) hx hb dX8_isConsistent_11 (by decide) (fun h9 => absurd h9 (by decide)) (fun _ => ?_)
  refine lv_iload_n hx hb dX8_isConsistent_14 rfl (lv_at hl_85 1 rfl) ?_
  refine lv_aload_n hx hb dX8_isConsistent_15 rfl (lv_at hl_85 2 rfl) ?_
  refine lv_iload_n hx hb dX8_isConsistent_16 rfl (lv_at hl_85 0 rfl) ?_
  refine g_calli (va_runS (As := [.int 2]) (rest := [.ref (ad G 723), .int v_81]) C.1 (cX8_furnace_ok l G (setRow X 15 w_5) 2) (va_cwS 1 C.1.2.2.2.2 (gS qw_1470 qw_1471 qw_81 qw_1472) rfl rfl rfl (by decide +kernel) ⟨Nat.le_of_ble_eq_true rfl, Nat.le_of_ble_eq_true rfl⟩) (g_pre C hW_78 hS_79 [.int 2]) rfl rfl hl_85.1 rfl (lv_room (Nat.le_of_ble_eq_true rfl)) dX8_isConsistent_17 ⟨Nat.zero_le _, Nat.zero_le _⟩) hS_79 (fun r_87 Y_88 H_89 locs_90 hW_91 hS_92 h_86 => ?_)
  obtain ⟨h_86, hy_93⟩ := h_86
  replace hy_93 := hy_93.symm
  subst hy_93
  replace h_86 : r_87 = oM_furnace 2 := h_86
  subst h_86
  refine g_top (y := nI (9 + 6 * 2)) (at_furnace 2) ?_
  refine g_calli (va_runV (As := [.int (nI (9 + 6 * 2))]) (rest := [.int v_81]) C.1 (cX8_mass_ok l G (setRow X 15 w_5) (9 + 6 * 2) (show 9 + 6 * 2 + 4 ≤ 128 by omega)) (cwV 1 C.1.2.2.2.2 (gV qw_1575 qw_1577 qw_32 qw_81 qw_1578) rfl rfl rfl (by decide +kernel) ⟨Nat.le_of_ble_eq_true rfl, Nat.le_of_ble_eq_true rfl⟩) (g_rModel C hW_91 hS_92 [.int (nI (9 + 6 * 2))]) rfl rfl hl_85.1 rfl (lv_room (Nat.le_of_ble_eq_true rfl)) dX8_isConsistent_20 ⟨Nat.zero_le _, Nat.zero_le _⟩) hS_92 (fun r_95 Y_96 H_97 locs_98 hW_99 hS_100 h_94 => ?_)
  obtain ⟨h_94, hy_101⟩ := h_94
  replace hy_101 := hy_101.symm
  subst hy_101
  replace h_94 : r_95 = oM_mass (X.1 16) (9 + 6 * 2) := h_94
  subst h_94
  refine lv_aload_n hx hb dX8_isConsistent_23 rfl (lv_at hl_85 2 rfl) ?_
  refine lv_iload_n hx hb dX8_isConsistent_24 rfl (lv_at hl_85 0 rfl) ?_
  refine g_calli (va_runS (As := [.int 2]) (rest := [.ref (ad G 723), .int (oM_mass (X.1 16) (9 + 6 * 2)), .int v_81]) C.1 (cX8_ladle_ok l G (setRow X 15 w_5) 2) (va_cwS 1 C.1.2.2.2.2 (gS qw_1473 qw_1474 qw_81 qw_1475) rfl rfl rfl (by decide +kernel) ⟨Nat.le_of_ble_eq_true rfl, Nat.le_of_ble_eq_true rfl⟩) (g_pre C hW_99 hS_100 [.int 2]) rfl rfl hl_85.1 rfl (lv_room (Nat.le_of_ble_eq_true rfl)) dX8_isConsistent_25 ⟨Nat.zero_le _, Nat.zero_le _⟩) hS_100 (fun r_103 Y_104 H_105 locs_106 hW_107 hS_108 h_102 => ?_)
  obtain ⟨h_102, hy_109⟩ := h_102
  replace hy_109 := hy_109.symm
  subst hy_109
  replace h_102 : r_103 = oM_ladle 2 := h_102
  subst h_102
  refine g_top (y := nI (27 + 5 * 2)) (at_ladle 2) ?_
  refine g_calli (va_runV (As := [.int (nI (27 + 5 * 2))]) (rest := [.int (oM_mass (X.1 16) (9 + 6 * 2)), .int v_81]) C.1 (cX8_mass_ok l G (setRow X 15 w_5) (27 + 5 * 2) (show 27 + 5 * 2 + 4 ≤ 128 by omega)) (cwV 1 C.1.2.2.2.2 (gV qw_1575 qw_1577 qw_32 qw_81 qw_1578) rfl rfl rfl (by decide +kernel) ⟨Nat.le_of_ble_eq_true rfl, Nat.le_of_ble_eq_true rfl⟩) (g_rModel C hW_107 hS_108 [.int (nI (27 + 5 * 2))]) rfl rfl hl_85.1 rfl (lv_room (Nat.le_of_ble_eq_true rfl)) dX8_isConsistent_28 ⟨Nat.zero_le _, Nat.zero_le _⟩) hS_108 (fun r_111 Y_112 H_113 locs_114 hW_115 hS_116 h_110 => ?_)
  obtain ⟨h_110, hy_117⟩ := h_110
  replace hy_117 := hy_117.symm
  subst hy_117
  replace h_110 : r_111 = oM_mass (X.1 16) (27 + 5 * 2) := h_110
  subst h_110
  refine lv_iadd hx hb dX8_isConsistent_31 ?_
  refine lv_iadd hx hb dX8_isConsistent_32 ?_
  refine lv_topi (fun v_118 ev_118 => ?_)
  refine lv_istore_n (lv' := [(1, .int v_118), (2, .int 2), (0, .ref (ad G 723))]) hx hb dX8_isConsistent_33 rfl hl_85 (by decide) rfl (fun ls_119 hl_120 => ?_)
  refine lv_iinc (v := 3) (lv' := [(2, .int 3), (1, .int v_118), (0, .ref (ad G 723))]) hx hb dX8_isConsistent_34 hl_120 (k := 1) rfl (by decide) (by decide) rfl (fun ls_121 hl_122 => ?_)
  refine lv_goto (tgt := 9) hx hb dX8_isConsistent_37 (by decide) ?_
  refine lv_iload_n hx hb dX8_isConsistent_9 rfl (lv_at hl_122 0 rfl) ?_
  refine lv_iconst (v := 3) hx hb dX8_isConsistent_10 (by decide) ?_
  refine lv_icmp_ge (tgt := 40) hx hb dX8_isConsistent_11 (by decide) (fun _ => ?_) (fun h9 => absurd h9 (by decide))
  refine lv_iconst (v := 0) hx hb dX8_isConsistent_40 (by decide) ?_
  refine lv_istore_n (lv' := [(2, .int 0), (1, .int v_118), (0, .ref (ad G 723))]) hx hb dX8_isConsistent_41 rfl hl_122 (by decide) rfl (fun ls_123 hl_124 => ?_)
  have loop : ∀ (q : Nat) (mm : Nat) (sm : Int32) (H : Heap) (locs : List Loc) (ls : Array Slot), mm + q = km → sm = smL (X.1 16) 44 6 mm v_118 → Wd G (setRow X 15 w_5) H → va_S (Ab G) s.heap H locs → lv_has ls 3 [(1, .int sm), (2, .int (nI mm)), (0, .ref (ad G 723))] → W p l e (rmz 1 21) s m ([.ref (ad G 723)] : List Value).toArray below meth c H locs 0 0 (MQ below (Ki G (fun res Y => res = (oM_isConsistent (X.1 15) (X.1 16)).1 ∧ Y = setRow (X) 15 ((oM_isConsistent (X.1 15) (X.1 16)).2))) ([.ref (ad G 723)] : List Value).toArray s 0 0 (Ab G)) (F0 m 42 ls []) := by
    intro q
    induction q with
    | zero =>
      intro mm sm H locs ls hq hs hW hS hl
      have hs9 : sm = smL (X.1 16) 44 6 km v_118 := by rw [hs, show mm = km by omega]
      refine lv_iload_n hx hb dX8_isConsistent_42 rfl (lv_at hl 1 rfl) ?_
      refine lv_aload_n hx hb dX8_isConsistent_43 rfl (lv_at hl 2 rfl) ?_
      refine gM_v C hW (hwc hwX8) (mc qw_1481) dX8_isConsistent_44 ?_
      refine lv_bipush (v := 42) hx hb dX8_isConsistent_47 (by decide) ?_
      refine gm_vld C hW 42 (by decide) (vlit (by decide)) dX8_isConsistent_49 ?_
      refine g_top (y := X.1 16 (42)) (congrFun (rd_in (by decide) rfl) _) ?_
      refine g_top (y := nI km) em ?_
      refine lv_icmp_ge (tgt := 70) hx hb dX8_isConsistent_50 (by decide) (fun _ => ?_) (fun h9 => absurd (nI_le (a := km) (b := mm) (by omega) (by omega)) h9)
      refine lv_iconst (v := 0) hx hb dX8_isConsistent_70 (by decide) ?_
      refine lv_istore_n (lv' := [(2, .int 0), (1, .int sm), (0, .ref (ad G 723))]) hx hb dX8_isConsistent_71 rfl hl (by decide) rfl (fun ls_125 hl_126 => ?_)
      have loop2 : ∀ (q2 : Nat) (ii : Nat) (sn : Int32) (H : Heap) (locs : List Loc) (ls : Array Slot), ii + q2 = ki → sn = smL (X.1 16) 80 4 ii sm → Wd G (setRow X 15 w_5) H → va_S (Ab G) s.heap H locs → lv_has ls 3 [(1, .int sn), (2, .int (nI ii)), (0, .ref (ad G 723))] → W p l e (rmz 1 21) s m ([.ref (ad G 723)] : List Value).toArray below meth c H locs 0 0 (MQ below (Ki G (fun res Y => res = (oM_isConsistent (X.1 15) (X.1 16)).1 ∧ Y = setRow (X) 15 ((oM_isConsistent (X.1 15) (X.1 16)).2))) ([.ref (ad G 723)] : List Value).toArray s 0 0 (Ab G)) (F0 m 72 ls []) := by
        intro q2
        induction q2 with
        | zero =>
          intro ii sn H locs ls hq2 hs2 hW hS hl
          have hs8 : sn = smL (X.1 16) 80 4 ki sm := by rw [hs2, show ii = ki by omega]
          refine lv_iload_n hx hb dX8_isConsistent_72 rfl (lv_at hl 1 rfl) ?_
          refine lv_aload_n hx hb dX8_isConsistent_73 rfl (lv_at hl 2 rfl) ?_
          refine gM_v C hW (hwc hwX8) (mc qw_1481) dX8_isConsistent_74 ?_
          refine lv_bipush (v := 43) hx hb dX8_isConsistent_77 (by decide) ?_
          refine gm_vld C hW 43 (by decide) (vlit (by decide)) dX8_isConsistent_79 ?_
          refine g_top (y := X.1 16 (43)) (congrFun (rd_in (by decide) rfl) _) ?_
          refine g_top (y := nI ki) ei ?_
          refine lv_icmp_ge (tgt := 100) hx hb dX8_isConsistent_80 (by decide) (fun _ => ?_) (fun h9 => absurd (nI_le (a := ki) (b := ii) (by omega) (by omega)) h9)
          refine lv_iload_n hx hb dX8_isConsistent_100 rfl (lv_at hl 0 rfl) ?_
          refine lv_aload_n hx hb dX8_isConsistent_101 rfl (lv_at hl 2 rfl) ?_
          refine lv_iconst (v := 1) hx hb dX8_isConsistent_102 (by decide) ?_
          refine g_calli (va_runV (As := [.int 1]) (rest := [.int sn]) C.1 (cX8_mass_ok l G (setRow X 15 w_5) 1 (show 1 + 4 ≤ 128 by omega)) (cwV 1 C.1.2.2.2.2 (gV qw_1575 qw_1577 qw_32 qw_81 qw_1578) rfl rfl rfl (by decide +kernel) ⟨Nat.le_of_ble_eq_true rfl, Nat.le_of_ble_eq_true rfl⟩) (g_rModel C hW hS [.int 1]) rfl rfl hl.1 rfl (lv_room (Nat.le_of_ble_eq_true rfl)) dX8_isConsistent_103 ⟨Nat.zero_le _, Nat.zero_le _⟩) hS (fun r_128 Y_129 H_130 locs_131 hW_132 hS_133 h_127 => ?_)
          obtain ⟨h_127, hy_134⟩ := h_127
          replace hy_134 := hy_134.symm
          subst hy_134
          replace h_127 : r_128 = oM_mass (X.1 16) 1 := h_127
          subst h_127
          refine lv_aload_n hx hb dX8_isConsistent_106 rfl (lv_at hl 2 rfl) ?_
          refine lv_iconst (v := 5) hx hb dX8_isConsistent_107 (by decide) ?_
          refine g_calli (va_runV (As := [.int 5]) (rest := [.int (oM_mass (X.1 16) 1), .int sn]) C.1 (cX8_mass_ok l G (setRow X 15 w_5) 5 (show 5 + 4 ≤ 128 by omega)) (cwV 1 C.1.2.2.2.2 (gV qw_1575 qw_1577 qw_32 qw_81 qw_1578) rfl rfl rfl (by decide +kernel) ⟨Nat.le_of_ble_eq_true rfl, Nat.le_of_ble_eq_true rfl⟩) (g_rModel C hW_132 hS_133 [.int 5]) rfl rfl hl.1 rfl (lv_room (Nat.le_of_ble_eq_true rfl)) dX8_isConsistent_108 ⟨Nat.zero_le _, Nat.zero_le _⟩) hS_133 (fun r_136 Y_137 H_138 locs_139 hW_140 hS_141 h_135 => ?_)
          obtain ⟨h_135, hy_142⟩ := h_135
          replace hy_142 := hy_142.symm
          subst hy_142
          replace h_135 : r_136 = oM_mass (X.1 16) 5 := h_135
          subst h_135
          refine lv_isub hx hb dX8_isConsistent_111 ?_
          refine lv_icmp_ne (tgt := 119) hx hb dX8_isConsistent_112 (by decide) (fun b_143 => ?_) (fun b_143 => ?_)
          · refine lv_iconst (v := 0) hx hb dX8_isConsistent_119 (by decide) ?_
            exact g_zret C hr hlk hW_140 hS_141 dX8_isConsistent_120 rfl (by have e9 : smL (X.1 16) 80 4 (X.1 16 43).toNatClampNeg (smL (X.1 16) 44 6 (X.1 16 42).toNatClampNeg v_118) = sn := (by rw [em, ei, clf (show km < 2 ^ 31 by omega), ← hs9, clf (show ki < 2 ^ 31 by omega)]; exact hs8.symm); subst ev_118; subst ev_81; subst ev_44; subst ew_5; rw [show oM_isConsistent (X.1 15) (X.1 16) = (0, upd (X.1 15) 0 0) from if_neg (fun q9 => b_143 (e9.symm.trans q9))]; exact ⟨rfl, rfl⟩)
          · refine lv_iconst (v := 1) hx hb dX8_isConsistent_115 (by decide) ?_
            refine lv_goto (tgt := 120) hx hb dX8_isConsistent_116 (by decide) ?_
            exact g_zret C hr hlk hW_140 hS_141 dX8_isConsistent_120 rfl (by have e9 : smL (X.1 16) 80 4 (X.1 16 43).toNatClampNeg (smL (X.1 16) 44 6 (X.1 16 42).toNatClampNeg v_118) = sn := (by rw [em, ei, clf (show km < 2 ^ 31 by omega), ← hs9, clf (show ki < 2 ^ 31 by omega)]; exact hs8.symm); subst ev_118; subst ev_81; subst ev_44; subst ew_5; rw [show oM_isConsistent (X.1 15) (X.1 16) = (1, upd (X.1 15) 0 0) from if_pos (e9.trans b_143)]; exact ⟨rfl, rfl⟩)
        | succ q2 ih2 =>
          intro ii sn H locs ls hq2 hs2 hW hS hl
          refine lv_iload_n hx hb dX8_isConsistent_72 rfl (lv_at hl 1 rfl) ?_
          refine lv_aload_n hx hb dX8_isConsistent_73 rfl (lv_at hl 2 rfl) ?_
          refine gM_v C hW (hwc hwX8) (mc qw_1481) dX8_isConsistent_74 ?_
          refine lv_bipush (v := 43) hx hb dX8_isConsistent_77 (by decide) ?_
          refine gm_vld C hW 43 (by decide) (vlit (by decide)) dX8_isConsistent_79 ?_
          refine g_top (y := X.1 16 (43)) (congrFun (rd_in (by decide) rfl) _) ?_
          refine g_top (y := nI ki) ei ?_
          refine lv_icmp_ge (tgt := 100) hx hb dX8_isConsistent_80 (by decide) (fun h9 => absurd h9 (nI_ge (a := ii) (b := ki) (by omega) (by omega))) (fun _ => ?_)
          refine lv_iload_n hx hb dX8_isConsistent_83 rfl (lv_at hl 0 rfl) ?_
          refine lv_aload_n hx hb dX8_isConsistent_84 rfl (lv_at hl 2 rfl) ?_
          refine lv_iload_n hx hb dX8_isConsistent_85 rfl (lv_at hl 1 rfl) ?_
          refine g_calli (va_runS (As := [.int (nI ii)]) (rest := [.ref (ad G 723), .int sn]) C.1 (cX8_ingot_ok l G (setRow X 15 w_5) (nI ii)) (va_cwS 1 C.1.2.2.2.2 (gS qw_1678 qw_1679 qw_81 qw_1680) rfl rfl rfl (by decide +kernel) ⟨Nat.le_of_ble_eq_true rfl, Nat.le_of_ble_eq_true rfl⟩) (g_pre C hW hS [.int (nI ii)]) rfl rfl hl.1 rfl (lv_room (Nat.le_of_ble_eq_true rfl)) dX8_isConsistent_86 ⟨Nat.zero_le _, Nat.zero_le _⟩) hS (fun r_145 Y_146 H_147 locs_148 hW_149 hS_150 h_144 => ?_)
          obtain ⟨h_144, hy_151⟩ := h_144
          replace hy_151 := hy_151.symm
          subst hy_151
          replace h_144 : r_145 = oM_ingot (nI ii) := h_144
          subst h_144
          refine g_top (y := nI (80 + 4 * ii)) (at_ingot ii) ?_
          refine g_calli (va_runV (As := [.int (nI (80 + 4 * ii))]) (rest := [.int sn]) C.1 (cX8_mass_ok l G (setRow X 15 w_5) (80 + 4 * ii) (show 80 + 4 * ii + 4 ≤ 128 by omega)) (cwV 1 C.1.2.2.2.2 (gV qw_1575 qw_1577 qw_32 qw_81 qw_1578) rfl rfl rfl (by decide +kernel) ⟨Nat.le_of_ble_eq_true rfl, Nat.le_of_ble_eq_true rfl⟩) (g_rModel C hW_149 hS_150 [.int (nI (80 + 4 * ii))]) rfl rfl hl.1 rfl (lv_room (Nat.le_of_ble_eq_true rfl)) dX8_isConsistent_89 ⟨Nat.zero_le _, Nat.zero_le _⟩) hS_150 (fun r_153 Y_154 H_155 locs_156 hW_157 hS_158 h_152 => ?_)
          obtain ⟨h_152, hy_159⟩ := h_152
          replace hy_159 := hy_159.symm
          subst hy_159
          replace h_152 : r_153 = oM_mass (X.1 16) (80 + 4 * ii) := h_152
          subst h_152
          refine lv_iadd hx hb dX8_isConsistent_92 ?_
          refine lv_topi (fun v_160 ev_160 => ?_)
          refine lv_istore_n (lv' := [(1, .int v_160), (2, .int (nI ii)), (0, .ref (ad G 723))]) hx hb dX8_isConsistent_93 rfl hl (by decide) rfl (fun ls_161 hl_162 => ?_)
          refine lv_iinc (v := nI (ii + 1)) (lv' := [(2, .int (nI (ii + 1))), (1, .int v_160), (0, .ref (ad G 723))]) hx hb dX8_isConsistent_94 hl_162 (k := 1) rfl (nI_1 ii) (by decide) rfl (fun ls_163 hl_164 => ?_)
          refine lv_goto (tgt := 72) hx hb dX8_isConsistent_97 (by decide) ?_
          exact ih2 (ii + 1) v_160 H_155 locs_156 ls_163 (by omega) (by subst ev_160; rw [hs2]; rfl) hW_157 hS_158 (lv_sub hl_164 [1, 0, 2] rfl)
      exact loop2 ki 0 sm H locs ls_125 (by omega) rfl hW hS (lv_sub hl_126 [1, 0, 2] rfl)
    | succ q ih =>
      intro mm sm H locs ls hq hs hW hS hl
      refine lv_iload_n hx hb dX8_isConsistent_42 rfl (lv_at hl 1 rfl) ?_
      refine lv_aload_n hx hb dX8_isConsistent_43 rfl (lv_at hl 2 rfl) ?_
      refine gM_v C hW (hwc hwX8) (mc qw_1481) dX8_isConsistent_44 ?_
      refine lv_bipush (v := 42) hx hb dX8_isConsistent_47 (by decide) ?_
      refine gm_vld C hW 42 (by decide) (vlit (by decide)) dX8_isConsistent_49 ?_
      refine g_top (y := X.1 16 (42)) (congrFun (rd_in (by decide) rfl) _) ?_
      refine g_top (y := nI km) em ?_
      refine lv_icmp_ge (tgt := 70) hx hb dX8_isConsistent_50 (by decide) (fun h9 => absurd h9 (nI_ge (a := mm) (b := km) (by omega) (by omega))) (fun _ => ?_)
      refine lv_iload_n hx hb dX8_isConsistent_53 rfl (lv_at hl 0 rfl) ?_
      refine lv_aload_n hx hb dX8_isConsistent_54 rfl (lv_at hl 2 rfl) ?_
      refine lv_iload_n hx hb dX8_isConsistent_55 rfl (lv_at hl 1 rfl) ?_
      refine g_calli (va_runS (As := [.int (nI mm)]) (rest := [.ref (ad G 723), .int sm]) C.1 (cX8_mould_ok l G (setRow X 15 w_5) (nI mm)) (va_cwS 1 C.1.2.2.2.2 (gS qw_1655 qw_1656 qw_81 qw_1657) rfl rfl rfl (by decide +kernel) ⟨Nat.le_of_ble_eq_true rfl, Nat.le_of_ble_eq_true rfl⟩) (g_pre C hW hS [.int (nI mm)]) rfl rfl hl.1 rfl (lv_room (Nat.le_of_ble_eq_true rfl)) dX8_isConsistent_56 ⟨Nat.zero_le _, Nat.zero_le _⟩) hS (fun r_166 Y_167 H_168 locs_169 hW_170 hS_171 h_165 => ?_)
      obtain ⟨h_165, hy_172⟩ := h_165
      replace hy_172 := hy_172.symm
      subst hy_172
      replace h_165 : r_166 = oM_mould (nI mm) := h_165
      subst h_165
      refine g_top (y := nI (44 + 6 * mm)) (at_mould mm) ?_
      refine g_calli (va_runV (As := [.int (nI (44 + 6 * mm))]) (rest := [.int sm]) C.1 (cX8_mass_ok l G (setRow X 15 w_5) (44 + 6 * mm) (show 44 + 6 * mm + 4 ≤ 128 by omega)) (cwV 1 C.1.2.2.2.2 (gV qw_1575 qw_1577 qw_32 qw_81 qw_1578) rfl rfl rfl (by decide +kernel) ⟨Nat.le_of_ble_eq_true rfl, Nat.le_of_ble_eq_true rfl⟩) (g_rModel C hW_170 hS_171 [.int (nI (44 + 6 * mm))]) rfl rfl hl.1 rfl (lv_room (Nat.le_of_ble_eq_true rfl)) dX8_isConsistent_59 ⟨Nat.zero_le _, Nat.zero_le _⟩) hS_171 (fun r_174 Y_175 H_176 locs_177 hW_178 hS_179 h_173 => ?_)
      obtain ⟨h_173, hy_180⟩ := h_173
      replace hy_180 := hy_180.symm
      subst hy_180
      replace h_173 : r_174 = oM_mass (X.1 16) (44 + 6 * mm) := h_173
      subst h_173
      refine lv_iadd hx hb dX8_isConsistent_62 ?_
      refine lv_topi (fun v_181 ev_181 => ?_)
      refine lv_istore_n (lv' := [(1, .int v_181), (2, .int (nI mm)), (0, .ref (ad G 723))]) hx hb dX8_isConsistent_63 rfl hl (by decide) rfl (fun ls_182 hl_183 => ?_)
      refine lv_iinc (v := nI (mm + 1)) (lv' := [(2, .int (nI (mm + 1))), (1, .int v_181), (0, .ref (ad G 723))]) hx hb dX8_isConsistent_64 hl_183 (k := 1) rfl (nI_1 mm) (by decide) rfl (fun ls_184 hl_185 => ?_)
      refine lv_goto (tgt := 42) hx hb dX8_isConsistent_67 (by decide) ?_
      exact ih (mm + 1) v_181 H_176 locs_177 ls_184 (by omega) (by subst ev_181; rw [hs]; rfl) hW_178 hS_179 (lv_sub hl_185 [1, 0, 2] rfl)
  exact loop km 0 v_118 H_113 locs_114 ls_123 (by omega) rfl hW_115 hS_116 (lv_sub hl_124 [1, 0, 2] rfl)

set_option maxHeartbeats 4000000 in
set_option maxRecDepth 100000 in
theorem cX8_meanTemperature_ok (l : Launch) (G : GT) (X : St) : MetQd l G yX8_meanTemperature (wsG yX8_meanTemperature cX8_meanTemperature 3 (some .double)) (rmz 1 20) [.ref (ad G 723)] X (fun res Y => res = meanD (mtW (X.1 16)) ∧ Y = setRow X 15 (upd (X.1 15) 0 0)) := by
  refine g_met (cc := cX8_meanTemperature) (maxL := 3) (ret := (some .double)) (by decide) rfl (Nat.le_of_ble_eq_true rfl) ?_
  intro p e s m below meth c ls C hr hlk hnm hW hl
  have hx := C.1.1
  have hb := C.1.2.1
  have hS : va_S (Ab G) s.heap s.heap [] := va_S.rf
  have hl : lv_has ls 3 [(0, .ref (ad G 723))] := hl
  have hW : Wd G (setRow X 15 (X.1 15)) s.heap := Wd.cast (sr_same (X := X) (r := 15) rfl).symm hW
  refine lv_aload_n hx hb dX8_meanTemperature_0 rfl (lv_at hl 0 rfl) ?_
  refine lv_iconst (v := 0) hx hb dX8_meanTemperature_1 (by decide) ?_
  refine gM_thrownP C hW hS (hwc hwX8) (mc qw_1476) dX8_meanTemperature_2 (fun H_1 locs_2 hW_3 hS_4 => ?_)
  obtain ⟨w_5, ew_5⟩ : ∃ Z9, Z9 = upd (X.1 15) (0) 0 := ⟨_, rfl⟩
  have kn_6 : w_5 (0) = 0 := by rw [ew_5]; exact pk_us
  have hW_7 : Wd G (setRow X 15 w_5) H_1 := Wd.cast (by rw [ew_5]; exact st_out) hW_3
  refine lv_iconst (v := 0) hx hb dX8_meanTemperature_5 (by decide) ?_
  refine lv_istore_n (lv' := [(1, .int 0), (0, .ref (ad G 723))]) hx hb dX8_meanTemperature_6 rfl hl (by decide) rfl (fun ls_8 hl_9 => ?_)
  refine lv_iconst (v := 0) hx hb dX8_meanTemperature_7 (by decide) ?_
  refine lv_istore_n (lv' := [(2, .int 0), (1, .int 0), (0, .ref (ad G 723))]) hx hb dX8_meanTemperature_8 rfl hl_9 (by decide) rfl (fun ls_10 hl_11 => ?_)
  refine lv_iload_n hx hb dX8_meanTemperature_9 rfl (lv_at hl_11 0 rfl) ?_
  refine lv_iconst (v := 3) hx hb dX8_meanTemperature_10 (by decide) ?_
  refine lv_icmp_ge (tgt := 34) hx hb dX8_meanTemperature_11 (by decide) (fun h9 => absurd h9 (by decide)) (fun _ => ?_)
  refine lv_iload_n hx hb dX8_meanTemperature_14 rfl (lv_at hl_11 1 rfl) ?_
  refine lv_aload_n hx hb dX8_meanTemperature_15 rfl (lv_at hl_11 2 rfl) ?_
  refine gM_v C hW_7 (hwc hwX8) (mc qw_1481) dX8_meanTemperature_16 ?_
  refine lv_iload_n hx hb dX8_meanTemperature_19 rfl (lv_at hl_11 0 rfl) ?_
  refine g_calli (va_runS (As := [.int 0]) (rest := [.ref (ad G 724), .int 0]) C.1 (cX8_furnace_ok l G (setRow X 15 w_5) 0) (va_cwS 1 C.1.2.2.2.2 (gS qw_1470 qw_1471 qw_81 qw_1472) rfl rfl rfl (by decide +kernel) ⟨Nat.le_of_ble_eq_true rfl, Nat.le_of_ble_eq_true rfl⟩) (g_pre C hW_7 hS_4 [.int 0]) rfl rfl hl_11.1 rfl (lv_room (Nat.le_of_ble_eq_true rfl)) dX8_meanTemperature_20 ⟨Nat.zero_le _, Nat.zero_le _⟩) hS_4 (fun r_13 Y_14 H_15 locs_16 hW_17 hS_18 h_12 => ?_)
  obtain ⟨h_12, hy_19⟩ := h_12
  replace hy_19 := hy_19.symm
  subst hy_19
  replace h_12 : r_13 = oM_furnace 0 := h_12
  subst h_12
  refine g_top (y := nI (9 + 6 * 0)) (at_furnace 0) ?_
  refine lv_iconst (v := 4) hx hb dX8_meanTemperature_23 (by decide) ?_
  refine lv_iadd hx hb dX8_meanTemperature_24 ?_
  refine g_top (y := nI ((9 + 6 * 0) + 4)) (nI_add (9 + 6 * 0) 4) ?_
  refine gm_vld C hW_17 ((9 + 6 * 0) + 4) (nI_clamp (by omega)) (vp_in_nI (show (9 + 6 * 0) + 4 < 128 by omega) (by decide)) dX8_meanTemperature_25 ?_
  refine g_top (y := X.1 16 ((9 + 6 * 0) + 4)) (congrFun (rd_in (by decide) rfl) _) ?_
  refine lv_iadd hx hb dX8_meanTemperature_26 ?_
  refine g_top (y := (X.1 16 ((9 + 6 * 0) + 4))) (Int32.zero_add _) ?_
  refine lv_topi (fun v_20 ev_20 => ?_)
  refine lv_istore_n (lv' := [(1, .int v_20), (2, .int 0), (0, .ref (ad G 723))]) hx hb dX8_meanTemperature_27 rfl hl_11 (by decide) rfl (fun ls_21 hl_22 => ?_)
  refine lv_iinc (v := 1) (lv' := [(2, .int 1), (1, .int v_20), (0, .ref (ad G 723))]) hx hb dX8_meanTemperature_28 hl_22 (k := 1) rfl (by decide) (by decide) rfl (fun ls_23 hl_24 => ?_)
  refine lv_goto (tgt := 9) hx hb dX8_meanTemperature_31 (by decide) ?_
  refine lv_iload_n hx hb dX8_meanTemperature_9 rfl (lv_at hl_24 0 rfl) ?_
  refine lv_iconst (v := 3) hx hb dX8_meanTemperature_10 (by decide) ?_
  refine lv_icmp_ge (tgt := 34) hx hb dX8_meanTemperature_11 (by decide) (fun h9 => absurd h9 (by decide)) (fun _ => ?_)
  refine lv_iload_n hx hb dX8_meanTemperature_14 rfl (lv_at hl_24 1 rfl) ?_
  refine lv_aload_n hx hb dX8_meanTemperature_15 rfl (lv_at hl_24 2 rfl) ?_
  refine gM_v C hW_17 (hwc hwX8) (mc qw_1481) dX8_meanTemperature_16 ?_
  refine lv_iload_n hx hb dX8_meanTemperature_19 rfl (lv_at hl_24 0 rfl) ?_
  refine g_calli (va_runS (As := [.int 1]) (rest := [.ref (ad G 724), .int v_20]) C.1 (cX8_furnace_ok l G (setRow X 15 w_5) 1) (va_cwS 1 C.1.2.2.2.2 (gS qw_1470 qw_1471 qw_81 qw_1472) rfl rfl rfl (by decide +kernel) ⟨Nat.le_of_ble_eq_true rfl, Nat.le_of_ble_eq_true rfl⟩) (g_pre C hW_17 hS_18 [.int 1]) rfl rfl hl_24.1 rfl (lv_room (Nat.le_of_ble_eq_true rfl)) dX8_meanTemperature_20 ⟨Nat.zero_le _, Nat.zero_le _⟩) hS_18 (fun r_26 Y_27 H_28 locs_29 hW_30 hS_31 h_25 => ?_)
  obtain ⟨h_25, hy_32⟩ := h_25
  replace hy_32 := hy_32.symm
  subst hy_32
  replace h_25 : r_26 = oM_furnace 1 := h_25
  subst h_25
  refine g_top (y := nI (9 + 6 * 1)) (at_furnace 1) ?_
  refine lv_iconst (v := 4) hx hb dX8_meanTemperature_23 (by decide) ?_
  refine lv_iadd hx hb dX8_meanTemperature_24 ?_
  refine g_top (y := nI ((9 + 6 * 1) + 4)) (nI_add (9 + 6 * 1) 4) ?_
  refine gm_vld C hW_30 ((9 + 6 * 1) + 4) (nI_clamp (by omega)) (vp_in_nI (show (9 + 6 * 1) + 4 < 128 by omega) (by decide)) dX8_meanTemperature_25 ?_
  refine g_top (y := X.1 16 ((9 + 6 * 1) + 4)) (congrFun (rd_in (by decide) rfl) _) ?_
  refine lv_iadd hx hb dX8_meanTemperature_26 ?_
  refine lv_topi (fun v_33 ev_33 => ?_)
  refine lv_istore_n (lv' := [(1, .int v_33), (2, .int 1), (0, .ref (ad G 723))]) hx hb dX8_meanTemperature_27 rfl hl_24 (by decide) rfl (fun ls_34 hl_35 => ?_)
  refine lv_iinc (v := 2) (lv' := [(2, .int 2), (1, .int v_33), (0, .ref (ad G 723))]) hx hb dX8_meanTemperature_28 hl_35 (k := 1) rfl (by decide) (by decide) rfl (fun ls_36 hl_37 => ?_)
  refine lv_goto (tgt := 9) hx hb dX8_meanTemperature_31 (by decide) ?_
  refine lv_iload_n hx hb dX8_meanTemperature_9 rfl (lv_at hl_37 0 rfl) ?_
  refine lv_iconst (v := 3) hx hb dX8_meanTemperature_10 (by decide) ?_
  refine lv_icmp_ge (tgt := 34) hx hb dX8_meanTemperature_11 (by decide) (fun h9 => absurd h9 (by decide)) (fun _ => ?_)
  refine lv_iload_n hx hb dX8_meanTemperature_14 rfl (lv_at hl_37 1 rfl) ?_
  refine lv_aload_n hx hb dX8_meanTemperature_15 rfl (lv_at hl_37 2 rfl) ?_
  refine gM_v C hW_30 (hwc hwX8) (mc qw_1481) dX8_meanTemperature_16 ?_
  refine lv_iload_n hx hb dX8_meanTemperature_19 rfl (lv_at hl_37 0 rfl) ?_
  refine g_calli (va_runS (As := [.int 2]) (rest := [.ref (ad G 724), .int v_33]) C.1 (cX8_furnace_ok l G (setRow X 15 w_5) 2) (va_cwS 1 C.1.2.2.2.2 (gS qw_1470 qw_1471 qw_81 qw_1472) rfl rfl rfl (by decide +kernel) ⟨Nat.le_of_ble_eq_true rfl, Nat.le_of_ble_eq_true rfl⟩) (g_pre C hW_30 hS_31 [.int 2]) rfl rfl hl_37.1 rfl (lv_room (Nat.le_of_ble_eq_true rfl)) dX8_meanTemperature_20 ⟨Nat.zero_le _, Nat.zero_le _⟩) hS_31 (fun r_39 Y_40 H_41 locs_42 hW_43 hS_44 h_38 => ?_)
  obtain ⟨h_38, hy_45⟩ := h_38
  replace hy_45 := hy_45.symm
  subst hy_45
  replace h_38 : r_39 = oM_furnace 2 := h_38
  subst h_38
  refine g_top (y := nI (9 + 6 * 2)) (at_furnace 2) ?_
  refine lv_iconst (v := 4) hx hb dX8_meanTemperature_23 (by decide) ?_
  refine lv_iadd hx hb dX8_meanTemperature_24 ?_
  refine g_top (y := nI ((9 + 6 * 2) + 4)) (nI_add (9 + 6 * 2) 4) ?_
  refine gm_vld C hW_43 ((9 + 6 * 2) + 4) (nI_clamp (by omega)) (vp_in_nI (show (9 + 6 * 2) + 4 < 128 by omega) (by decide)) dX8_meanTemperature_25 ?_
  refine g_top (y := X.1 16 ((9 + 6 * 2) + 4)) (congrFun (rd_in (by decide) rfl) _) ?_
  refine lv_iadd hx hb dX8_meanTemperature_26 ?_
  refine lv_topi (fun v_46 ev_46 => ?_)
  refine lv_istore_n (lv' := [(1, .int v_46), (2, .int 2), (0, .ref (ad G 723))]) hx hb dX8_meanTemperature_27 rfl hl_37 (by decide) rfl (fun ls_47 hl_48 => ?_)
  refine lv_iinc (v := 3) (lv' := [(2, .int 3), (1, .int v_46), (0, .ref (ad G 723))]) hx hb dX8_meanTemperature_28 hl_48 (k := 1) rfl (by decide) (by decide) rfl (fun ls_49 hl_50 => ?_)
  refine lv_goto (tgt := 9) hx hb dX8_meanTemperature_31 (by decide) ?_
  refine lv_iload_n hx hb dX8_meanTemperature_9 rfl (lv_at hl_50 0 rfl) ?_
  refine lv_iconst (v := 3) hx hb dX8_meanTemperature_10 (by decide) ?_
  refine lv_icmp_ge (tgt := 34) hx hb dX8_meanTemperature_11 (by decide) (fun _ => ?_) (fun h9 => absurd h9 (by decide))
  refine lv_iload_n hx hb dX8_meanTemperature_34 rfl (lv_at hl_50 1 rfl) ?_
  refine lv_i2d hx hb dX8_meanTemperature_35 ?_
  refine lv_ldc2d (v := 4613937818241073152) hx hb C.1.2.2.2.1 (C.1.2.2.2.2 _ (mc qx_threeM)) dX8_meanTemperature_36 ?_
  refine lv_ddiv hx hb dX8_meanTemperature_39 (fl_n64 (fl_mean v_46)) ?_
  exact g_dret C hr hlk hW_43 hS_44 dX8_meanTemperature_40 (by subst ev_46; subst ev_33; subst ev_20; subst ew_5; exact ⟨rfl, rfl⟩)

set_option maxHeartbeats 4000000 in
set_option maxRecDepth 100000 in
theorem cX8_slagRate_ok (l : Launch) (G : GT) (X : St) : MetQf l G yX8_slagRate (wsG yX8_slagRate cX8_slagRate 1 (some .float)) (rmz 1 21) [.ref (ad G 723)] X (fun res Y => res = srM (X.1 16) ∧ Y = setRow X 15 (upd (X.1 15) 0 (if oM_mass (X.1 16) 1 = 0 then 1 else 0))) := by
  refine g_met (cc := cX8_slagRate) (maxL := 1) (ret := (some .float)) (by decide) rfl (Nat.le_of_ble_eq_true rfl) ?_
  intro p e s m below meth c ls C hr hlk hnm hW hl
  have hx := C.1.1
  have hb := C.1.2.1
  have hS : va_S (Ab G) s.heap s.heap [] := va_S.rf
  have hl : lv_has ls 1 [(0, .ref (ad G 723))] := hl
  have hW : Wd G (setRow X 15 (X.1 15)) s.heap := Wd.cast (sr_same (X := X) (r := 15) rfl).symm hW
  refine lv_aload_n hx hb dX8_slagRate_0 rfl (lv_at hl 0 rfl) ?_
  refine lv_aload_n hx hb dX8_slagRate_1 rfl (lv_at hl 0 rfl) ?_
  refine lv_iconst (v := 1) hx hb dX8_slagRate_2 (by decide) ?_
  refine g_calli (va_runV (As := [.int 1]) (rest := [.ref (ad G 723)]) C.1 (cX8_mass_ok l G (setRow X 15 (X.1 15)) 1 (show 1 + 4 ≤ 128 by omega)) (cwV 1 C.1.2.2.2.2 (gV qw_1575 qw_1577 qw_32 qw_81 qw_1578) rfl rfl rfl (by decide +kernel) ⟨Nat.le_of_ble_eq_true rfl, Nat.le_of_ble_eq_true rfl⟩) (g_rModel C hW hS [.int 1]) rfl rfl hl.1 rfl (lv_room (Nat.le_of_ble_eq_true rfl)) dX8_slagRate_3 ⟨Nat.zero_le _, Nat.zero_le _⟩) hS (fun r_2 Y_3 H_4 locs_5 hW_6 hS_7 h_1 => ?_)
  obtain ⟨h_1, hy_8⟩ := h_1
  replace hy_8 := hy_8.symm
  subst hy_8
  replace h_1 : r_2 = oM_mass (X.1 16) 1 := h_1
  subst h_1
  refine lv_if_ne (tgt := 13) hx hb dX8_slagRate_6 (by decide) (fun b_9 => ?_) (fun b_9 => ?_)
  · refine lv_iconst (v := 0) hx hb dX8_slagRate_13 (by decide) ?_
    refine gM_thrownP C hW_6 hS_7 (hwc hwX8) (mc qw_1476) dX8_slagRate_14 (fun H_10 locs_11 hW_12 hS_13 => ?_)
    obtain ⟨w_14, ew_14⟩ : ∃ Z9, Z9 = upd (X.1 15) (0) 0 := ⟨_, rfl⟩
    have kn_15 : w_14 (0) = 0 := by rw [ew_14]; exact pk_us
    have hW_16 : Wd G (setRow X 15 w_14) H_10 := Wd.cast (by rw [ew_14]; exact st_out) hW_12
    refine lv_aload_n hx hb dX8_slagRate_17 rfl (lv_at hl 0 rfl) ?_
    refine gM_thrown C hW_16 (hwc hwX8) (mc qw_1476) dX8_slagRate_18 ?_
    refine g_top (y := w_14 (0)) (congrFun rd_out _) ?_
    refine g_top (y := 0) kn_15 ?_
    refine lv_if_ne (tgt := 40) hx hb dX8_slagRate_21 (by decide) (fun h9 => absurd h9 (by decide)) (fun _ => ?_)
    refine lv_aload_n hx hb dX8_slagRate_24 rfl (lv_at hl 0 rfl) ?_
    refine lv_iconst (v := 5) hx hb dX8_slagRate_25 (by decide) ?_
    refine g_calli (va_runV (As := [.int 5]) (rest := []) C.1 (cX8_mass_ok l G (setRow X 15 w_14) 5 (show 5 + 4 ≤ 128 by omega)) (cwV 1 C.1.2.2.2.2 (gV qw_1575 qw_1577 qw_32 qw_81 qw_1578) rfl rfl rfl (by decide +kernel) ⟨Nat.le_of_ble_eq_true rfl, Nat.le_of_ble_eq_true rfl⟩) (g_rModel C hW_16 hS_13 [.int 5]) rfl rfl hl.1 rfl (lv_room (Nat.le_of_ble_eq_true rfl)) dX8_slagRate_26 ⟨Nat.zero_le _, Nat.zero_le _⟩) hS_13 (fun r_18 Y_19 H_20 locs_21 hW_22 hS_23 h_17 => ?_)
    obtain ⟨h_17, hy_24⟩ := h_17
    replace hy_24 := hy_24.symm
    subst hy_24
    replace h_17 : r_18 = oM_mass (X.1 16) 5 := h_17
    subst h_17
    refine lv_i2f hx hb dX8_slagRate_29 ?_
    refine lv_aload_n hx hb dX8_slagRate_30 rfl (lv_at hl 0 rfl) ?_
    refine lv_iconst (v := 1) hx hb dX8_slagRate_31 (by decide) ?_
    refine g_calli (va_runV (As := [.int 1]) (rest := [.float (FP.i2f (oM_mass (X.1 16) 5))]) C.1 (cX8_mass_ok l G (setRow X 15 w_14) 1 (show 1 + 4 ≤ 128 by omega)) (cwV 1 C.1.2.2.2.2 (gV qw_1575 qw_1577 qw_32 qw_81 qw_1578) rfl rfl rfl (by decide +kernel) ⟨Nat.le_of_ble_eq_true rfl, Nat.le_of_ble_eq_true rfl⟩) (g_rModel C hW_22 hS_23 [.int 1]) rfl rfl hl.1 rfl (lv_room (Nat.le_of_ble_eq_true rfl)) dX8_slagRate_32 ⟨Nat.zero_le _, Nat.zero_le _⟩) hS_23 (fun r_26 Y_27 H_28 locs_29 hW_30 hS_31 h_25 => ?_)
    obtain ⟨h_25, hy_32⟩ := h_25
    replace hy_32 := hy_32.symm
    subst hy_32
    replace h_25 : r_26 = oM_mass (X.1 16) 1 := h_25
    subst h_25
    refine lv_i2f hx hb dX8_slagRate_35 ?_
    refine lv_fdiv hx hb dX8_slagRate_36 (fl_n32 (fl_rate (oM_mass (X.1 16) 5) b_9)) ?_
    refine lv_goto (tgt := 41) hx hb dX8_slagRate_37 (by decide) ?_
    exact g_fret C hr hlk hW_30 hS_31 dX8_slagRate_41 (by subst ew_14; exact ⟨(if_neg b_9).symm, by rw [if_neg b_9]⟩)
  · refine lv_iconst (v := 1) hx hb dX8_slagRate_9 (by decide) ?_
    refine lv_goto (tgt := 14) hx hb dX8_slagRate_10 (by decide) ?_
    refine gM_thrownP C hW_6 hS_7 (hwc hwX8) (mc qw_1476) dX8_slagRate_14 (fun H_33 locs_34 hW_35 hS_36 => ?_)
    obtain ⟨w_37, ew_37⟩ : ∃ Z9, Z9 = upd (X.1 15) (0) 1 := ⟨_, rfl⟩
    have kn_38 : w_37 (0) = 1 := by rw [ew_37]; exact pk_us
    have hW_39 : Wd G (setRow X 15 w_37) H_33 := Wd.cast (by rw [ew_37]; exact st_out) hW_35
    refine lv_aload_n hx hb dX8_slagRate_17 rfl (lv_at hl 0 rfl) ?_
    refine gM_thrown C hW_39 (hwc hwX8) (mc qw_1476) dX8_slagRate_18 ?_
    refine g_top (y := w_37 (0)) (congrFun rd_out _) ?_
    refine g_top (y := 1) kn_38 ?_
    refine lv_if_ne (tgt := 40) hx hb dX8_slagRate_21 (by decide) (fun _ => ?_) (fun h9 => absurd h9 (by decide))
    refine lv_fconst0 hx hb dX8_slagRate_40 ?_
    exact g_fret C hr hlk hW_39 hS_36 dX8_slagRate_41 (by subst ew_37; exact ⟨(if_pos b_9).symm, by rw [if_pos b_9]⟩)
