section
variable {X : mm_X} {M : mm_M} {s a m w d p h sh x y z : Int}
theorem c_X13_pullOf (hR : mm_Rf M) (hK : mm_KV (mm_rk M)) (hs : ks_st (mm_rk M) s) (ha : ks_ac (mm_rk M) a) (hw : 0 ≤ w ∧ w ≤ 120) : mm_Fn X Y_X13_pullOf 243 [(2, 184), (0, s), (0, a), (0, w)] M (0, ks_p (mm_rk M) s a w) M := by
  have hsl := ks_slb hK ha
  have hm := ks_mvb ha.1
  have hc := ks_colb hK s
  have h0 := hK.1
  have hb := ks_pab hK (sl := a / 15) (c := ks_col (mm_rk M) s) (w := w) ⟨hsl.1, hsl.2.2⟩ (by omega) hw
  have el : M 188 (a / 15).toNat = mm_rk M (20 + (a / 15).toNat) := (mm_rk_l M (by omega)).symm
  have ew : M 190 (ks_col (mm_rk M) s).toNat = mm_rk M (30 + (ks_col (mm_rk M) s).toNat) := (mm_rk_w M).symm
  have e8 : M 186 8 = mm_rk M 8 := rfl
  have e6 : (2 : Int) = 2 := rfl
  refine mm_startF (ls := [(2, 184), (0, s), (0, a), (0, w), (9, 0)]) rfl ?_
  refine mm_aload_n dX13_pullOf_0 rfl rfl ?_
  refine mm_getr dX13_pullOf_1 rfl fl_X13_157 (c := 183) rfl (by decide) rfl rfl (hR.at (c := 183) (i := 12) (v := 189) rfl (by decide)) ?_
  refine mm_iload_n dX13_pullOf_4 rfl rfl ?_
  refine mm_bipush dX13_pullOf_5 rfl (by decide) ?_
  refine mm_idiv dX13_pullOf_7 rfl (by omega) (by omega) (by omega) ?_
  rw [mm_tdiv ha.1]
  refine mm_iald dX13_pullOf_8 rfl (c := 188) rfl (by decide) rfl (by omega) (by omega) ?_
  rw [el]
  refine mm_iload_n dX13_pullOf_9 rfl rfl ?_
  refine mm_imul dX13_pullOf_10 rfl ?_
  refine mm_iload_n dX13_pullOf_11 rfl rfl ?_
  refine mm_imul dX13_pullOf_12 rfl ?_
  refine mm_aload_n dX13_pullOf_13 rfl rfl ?_
  refine mm_getr dX13_pullOf_14 rfl fl_X13_159 (c := 183) rfl (by decide) rfl rfl (hR.at (c := 183) (i := 14) (v := 191) rfl (by decide)) ?_
  refine mm_aload_n dX13_pullOf_17 rfl rfl ?_
  refine mm_iload_n dX13_pullOf_18 rfl rfl ?_
  refine mm_V1i dX13_pullOf_19 rfl lk_X13_438 (c := 183) rfl (by decide) rfl (by simp) rfl rfl rfl (c_X13_columnOf hR hK hs) ?_
  refine mm_iald dX13_pullOf_22 rfl (c := 190) rfl (by decide) rfl (by omega) (by omega) ?_
  rw [ew]
  refine mm_imul dX13_pullOf_23 rfl ?_
  refine mm_bipush dX13_pullOf_24 rfl (by decide) ?_
  refine mm_idiv dX13_pullOf_26 rfl (by omega) (by omega) (by omega) ?_
  rw [mm_tdiv (by omega)]
  refine mm_istore dX13_pullOf_27 rfl (Nat.le_of_ble_eq_true rfl) rfl ?_
  refine mm_iload_n dX13_pullOf_29 rfl rfl ?_
  refine mm_S1i dX13_pullOf_30 rfl lk_X13_441 (by simp) rfl rfl rfl (c_X13_moveOf (by omega)) ?_
  refine mm_i2l dX13_pullOf_33 rfl (by omega) ?_
  refine mm_lconst1 dX13_pullOf_34 rfl ?_
  refine mm_ldc2 dX13_pullOf_35 rfl kc_X13_454 ?_
  refine mm_S3i dX13_pullOf_38 rfl lk_X13_5 (by simp) (by simp) (by simp) rfl rfl rfl (c_X13_in (by omega) (by decide) (by omega)) ?_
  refine mm_ifeqb dX13_pullOf_41 (fun h41 => ?_) (fun h41 => ?_)
  · refine mm_iload dX13_pullOf_60 rfl rfl ?_
    refine mm_iret dX13_pullOf_62 rfl rfl ?_
    refine mm_fin ?_ rfl
    unfold ks_p ks_pa ks_side
    first
    | (rw [if_pos (by omega), mm_tdiv (by omega)]; done)
    | (rw [if_neg (by omega)]; done)
  · refine mm_iload dX13_pullOf_44 rfl rfl ?_
    refine mm_aload_n dX13_pullOf_46 rfl rfl ?_
    refine mm_getr dX13_pullOf_47 rfl fl_X13_151 (c := 183) rfl (by decide) rfl rfl (hR.at (c := 183) (i := 10) (v := 187) rfl (by decide)) ?_
    refine mm_bipush dX13_pullOf_50 rfl (by decide) ?_
    refine mm_ialk (k0 := 8) dX13_pullOf_52 rfl (c := 186) rfl (by decide) rfl rfl (by decide) ?_
    rw [e8]
    refine mm_imul dX13_pullOf_53 rfl ?_
    refine mm_bipush dX13_pullOf_54 rfl (by decide) ?_
    refine mm_idiv dX13_pullOf_56 rfl (by omega) (by omega) (by omega) ?_
    refine mm_goto dX13_pullOf_57 ?_
    refine mm_iret dX13_pullOf_62 rfl rfl ?_
    refine mm_fin ?_ rfl
    unfold ks_p ks_pa ks_side
    first
    | (rw [if_pos (by omega), mm_tdiv (by omega)]; done)
    | (rw [if_neg (by omega)]; done)
theorem c_X13_workOf (hR : mm_Rf M) (hK : mm_KV (mm_rk M)) (ha : 0 ≤ a ∧ a < 1000) (hp : 0 ≤ p ∧ p ≤ 1425600) : mm_Fn X Y_X13_workOf 243 [(2, 184), (0, a), (0, p)] M (0, ks_w (mm_rk M) (ks_dr a) p) M := by
  have hb := ks_wb hK hp
  have hd := ks_drb ha.1
  obtain ⟨-, -, -, -, -, -, h6, h7, -⟩ := id hK
  have e6 : M 186 6 = mm_rk M 6 := rfl
  have e7 : M 186 7 = mm_rk M 7 := rfl
  refine mm_startF (ls := [(2, 184), (0, a), (0, p), (9, 0)]) rfl ?_
  refine mm_iload_n dX13_workOf_0 rfl rfl ?_
  refine mm_S1i dX13_workOf_1 rfl lk_X13_448 (by simp) rfl rfl rfl (c_X13_drumOf ha) ?_
  refine mm_istore_n dX13_workOf_4 rfl (Nat.le_of_ble_eq_true rfl) rfl ?_
  refine mm_iload_n dX13_workOf_5 rfl rfl ?_
  refine mm_iconst dX13_workOf_6 rfl ?_
  refine mm_icne dX13_workOf_7 (by omega) (by omega) (fun h7 => ?_) (fun h7 => ?_)
  · refine mm_iload_n dX13_workOf_22 rfl rfl ?_
    refine mm_iconst dX13_workOf_23 rfl ?_
    refine mm_icne dX13_workOf_24 (by omega) (by omega) (fun h24 => ?_) (fun h24 => ?_)
    · refine mm_iconst dX13_workOf_55 rfl ?_
      refine mm_iret dX13_workOf_56 rfl rfl ?_
      refine mm_fin ?_ rfl
      unfold ks_w
      first
      | (rw [if_pos (by omega)]; done)
      | (rw [if_neg (by omega), if_pos (by omega)]; done)
      | (rw [if_neg (by omega), if_neg (by omega)]; done)
    · refine mm_iload_n dX13_workOf_27 rfl rfl ?_
      refine mm_i2l dX13_workOf_28 rfl (by omega) ?_
      refine mm_aload_n dX13_workOf_29 rfl rfl ?_
      refine mm_getr dX13_workOf_30 rfl fl_X13_151 (c := 183) rfl (by decide) rfl rfl (hR.at (c := 183) (i := 10) (v := 187) rfl (by decide)) ?_
      refine mm_bipush dX13_workOf_33 rfl (by decide) ?_
      refine mm_ialk (k0 := 7) dX13_workOf_35 rfl (c := 186) rfl (by decide) rfl rfl (by decide) ?_
      rw [e7]
      refine mm_i2l dX13_workOf_36 rfl (by omega) ?_
      refine mm_lmul dX13_workOf_37 rfl ?_
      refine mm_ldc2 dX13_workOf_38 rfl kc_X13_456 ?_
      refine mm_ldiv dX13_workOf_41 rfl (by omega) (by omega) (by omega) ?_
      rw [mm_tdiv hb.1]
      refine mm_l2i dX13_workOf_42 rfl ?_
      refine mm_ineg dX13_workOf_43 rfl ?_
      refine mm_aload_n dX13_workOf_44 rfl rfl ?_
      refine mm_getr dX13_workOf_45 rfl fl_X13_151 (c := 183) rfl (by decide) rfl rfl (hR.at (c := 183) (i := 10) (v := 187) rfl (by decide)) ?_
      refine mm_bipush dX13_workOf_48 rfl (by decide) ?_
      refine mm_ialk (k0 := 6) dX13_workOf_50 rfl (c := 186) rfl (by decide) rfl rfl (by decide) ?_
      rw [e6]
      refine mm_isub dX13_workOf_51 rfl ?_
      refine mm_goto dX13_workOf_52 ?_
      refine mm_iret dX13_workOf_56 rfl rfl ?_
      refine mm_fin ?_ rfl
      unfold ks_w
      first
      | (rw [if_pos (by omega)]; done)
      | (rw [if_neg (by omega), if_pos (by omega)]; done)
      | (rw [if_neg (by omega), if_neg (by omega)]; done)
  · refine mm_iload_n dX13_workOf_10 rfl rfl ?_
    refine mm_aload_n dX13_workOf_11 rfl rfl ?_
    refine mm_getr dX13_workOf_12 rfl fl_X13_151 (c := 183) rfl (by decide) rfl rfl (hR.at (c := 183) (i := 10) (v := 187) rfl (by decide)) ?_
    refine mm_bipush dX13_workOf_15 rfl (by decide) ?_
    refine mm_ialk (k0 := 6) dX13_workOf_17 rfl (c := 186) rfl (by decide) rfl rfl (by decide) ?_
    rw [e6]
    refine mm_isub dX13_workOf_18 rfl ?_
    refine mm_goto dX13_workOf_19 ?_
    refine mm_iret dX13_workOf_56 rfl rfl ?_
    refine mm_fin ?_ rfl
    unfold ks_w
    first
    | (rw [if_pos (by omega)]; done)
    | (rw [if_neg (by omega), if_pos (by omega)]; done)
    | (rw [if_neg (by omega), if_neg (by omega)]; done)
theorem c_X13_isState (hR : mm_Rf M) (hK : mm_KV (mm_rk M)) (hx : mm_R x) : mm_Fn X Y_X13_isState 243 [(2, 184), (0, x)] M (0, mm_b (ks_st (mm_rk M) x)) M := by
  have hn := ks_nb hK
  refine mm_startF (ls := [(2, 184), (0, x)]) rfl ?_
  refine mm_iload_n dX13_isState_0 rfl rfl ?_
  refine mm_i2l dX13_isState_1 rfl (by omega) ?_
  refine mm_lconst0 dX13_isState_2 rfl ?_
  refine mm_aload_n dX13_isState_3 rfl rfl ?_
  refine mm_V0i dX13_isState_4 rfl lk_X13_458 (c := 183) rfl (by decide) rfl  rfl rfl rfl (c_X13_states hR) ?_
  refine mm_i2l dX13_isState_7 rfl (by omega) ?_
  refine mm_lconst1 dX13_isState_8 rfl ?_
  refine mm_lsub dX13_isState_9 rfl ?_
  refine mm_S3i dX13_isState_10 rfl lk_X13_5 (by simp) (by simp) (by simp) rfl rfl rfl (c_X13_in (by omega) (by decide) (by omega)) ?_
  refine mm_zret dX13_isState_13 rfl rfl (mm_b_01 _) ?_
  exact mm_fin (mm_b_congr (by unfold ks_st; omega)) rfl
theorem c_X13_isAct (hR : mm_Rf M) (hK : mm_KV (mm_rk M)) (hx : mm_R x) : mm_Fn X Y_X13_isAct 243 [(2, 184), (0, x)] M (0, mm_b (ks_ac (mm_rk M) x)) M := by
  obtain ⟨-, -, -, -, -, -, -, -, -, -, h10, -⟩ := id hK
  refine mm_startF (ls := [(2, 184), (0, x)]) rfl ?_
  refine mm_iload_n dX13_isAct_0 rfl rfl ?_
  refine mm_i2l dX13_isAct_1 rfl (by omega) ?_
  refine mm_lconst0 dX13_isAct_2 rfl ?_
  refine mm_aload_n dX13_isAct_3 rfl rfl ?_
  refine mm_V0i dX13_isAct_4 rfl lk_X13_461 (c := 183) rfl (by decide) rfl  rfl rfl rfl (c_X13_acts hR) ?_
  refine mm_i2l dX13_isAct_7 rfl (by omega) ?_
  refine mm_lconst1 dX13_isAct_8 rfl ?_
  refine mm_lsub dX13_isAct_9 rfl ?_
  refine mm_S3i dX13_isAct_10 rfl lk_X13_5 (by simp) (by simp) (by simp) rfl rfl rfl (c_X13_in (by omega) (by decide) (by omega)) ?_
  refine mm_zret dX13_isAct_13 rfl rfl (mm_b_01 _) ?_
  exact mm_fin (mm_b_congr (by unfold ks_ac; omega)) rfl
theorem c_X13_lowAt (hR : mm_Rf M) (hK : mm_KV (mm_rk M)) (hs : ks_st (mm_rk M) s) (hh : ks_hr h) : mm_Fn X Y_X13_lowAt 243 [(2, 184), (0, s), (0, h)] M (0, ks_wi (M 203) (mm_rk M) s h) M := by
  have hb := ks_bandb hK hs
  refine mm_startF (ls := [(2, 184), (0, s), (0, h)]) rfl ?_
  refine mm_aload_n dX13_lowAt_0 rfl rfl ?_
  refine mm_getr dX13_lowAt_1 rfl fl_X13_255 (c := 183) rfl (by decide) rfl rfl (hR.at (c := 183) (i := 34) (v := 204) rfl (by decide)) ?_
  refine mm_iconst dX13_lowAt_4 rfl ?_
  refine mm_iload_n dX13_lowAt_5 rfl rfl ?_
  refine mm_imul dX13_lowAt_6 rfl ?_
  refine mm_aload_n dX13_lowAt_7 rfl rfl ?_
  refine mm_iload_n dX13_lowAt_8 rfl rfl ?_
  refine mm_V1i dX13_lowAt_9 rfl lk_X13_467 (c := 183) rfl (by decide) rfl (by simp) rfl rfl rfl (c_X13_bandOf hR hK hs) ?_
  refine mm_iadd dX13_lowAt_12 rfl ?_
  refine mm_ialk (k0 := ks_pl h (ks_band (mm_rk M) s)) dX13_lowAt_13 rfl (c := 203) rfl (by decide) rfl (by unfold ks_pl; omega) (by unfold ks_pl; omega) ?_
  refine mm_iret dX13_lowAt_14 rfl rfl ?_
  exact mm_fin rfl rfl
theorem c_X13_highAt (hR : mm_Rf M) (hK : mm_KV (mm_rk M)) (hs : ks_st (mm_rk M) s) (hh : ks_hr h) : mm_Fn X Y_X13_highAt 243 [(2, 184), (0, s), (0, h)] M (0, ks_wi (M 204) (mm_rk M) s h) M := by
  have hb := ks_bandb hK hs
  refine mm_startF (ls := [(2, 184), (0, s), (0, h)]) rfl ?_
  refine mm_aload_n dX13_highAt_0 rfl rfl ?_
  refine mm_getr dX13_highAt_1 rfl fl_X13_258 (c := 183) rfl (by decide) rfl rfl (hR.at (c := 183) (i := 35) (v := 205) rfl (by decide)) ?_
  refine mm_iconst dX13_highAt_4 rfl ?_
  refine mm_iload_n dX13_highAt_5 rfl rfl ?_
  refine mm_imul dX13_highAt_6 rfl ?_
  refine mm_aload_n dX13_highAt_7 rfl rfl ?_
  refine mm_iload_n dX13_highAt_8 rfl rfl ?_
  refine mm_V1i dX13_highAt_9 rfl lk_X13_467 (c := 183) rfl (by decide) rfl (by simp) rfl rfl rfl (c_X13_bandOf hR hK hs) ?_
  refine mm_iadd dX13_highAt_12 rfl ?_
  refine mm_ialk (k0 := ks_pl h (ks_band (mm_rk M) s)) dX13_highAt_13 rfl (c := 204) rfl (by decide) rfl (by unfold ks_pl; omega) (by unfold ks_pl; omega) ?_
  refine mm_iret dX13_highAt_14 rfl rfl ?_
  exact mm_fin rfl rfl
theorem mm_RA.wi {M : mm_M} (h : mm_RA M) (hK : mm_KV (mm_rk M)) {s hr : Int} (hs : ks_st (mm_rk M) s) (hh : ks_hr hr) : (0 ≤ ks_wi (M 203) (mm_rk M) s hr ∧ ks_wi (M 203) (mm_rk M) s hr ≤ 60) ∧ (0 ≤ ks_wi (M 204) (mm_rk M) s hr ∧ ks_wi (M 204) (mm_rk M) s hr ≤ 60) := by
  have := h _ (ks_plb hh (ks_bandb hK hs))
  unfold ks_wi
  omega
theorem c_X13_isSafe (hR : mm_Rf M) (hK : mm_KV (mm_rk M)) (hA : mm_RA M) (hs : ks_st (mm_rk M) s) (ha : ks_ac (mm_rk M) a) (hh : ks_hr h) : mm_Fn X Y_X13_isSafe 243 [(2, 184), (0, s), (0, a), (0, h)] M (0, mm_b (ks_safe (mm_rk M) (M 203) (M 204) s a h)) M := by
  have hw := hA.wi hK hs hh
  have p1 := ks_pw hK (s := s) ha hw.1
  have p2 := ks_pw hK (s := s) ha hw.2
  have hsl := ks_slb hK ha
  have h4 : 0 ≤ M 186 4 ∧ M 186 4 ≤ 9999 := hK.2.2.2.2.1
  have h5 : 1 ≤ M 186 5 ∧ M 186 5 ≤ 99999 := hK.2.2.2.2.2.1
  refine mm_startF (ls := [(2, 184), (0, s), (0, a), (0, h)]) rfl ?_
  refine mm_aload_n dX13_isSafe_0 rfl rfl ?_
  refine mm_iload_n dX13_isSafe_1 rfl rfl ?_
  refine mm_iload_n dX13_isSafe_2 rfl rfl ?_
  refine mm_V2i dX13_isSafe_3 rfl lk_X13_473 (c := 183) rfl (by decide) rfl (by simp) (by simp) rfl rfl rfl (c_X13_canDo hR hK hs (by omega)) ?_
  refine mm_ifeqb dX13_isSafe_6 (fun h6 => ?_) (fun h6 => ?_)
  · refine mm_iconst dX13_isSafe_55 rfl ?_
    refine mm_zret dX13_isSafe_56 rfl rfl (Or.inl rfl) ?_
    first
    | exact mm_fin (mm_b0 (fun q => h6 q.1)) rfl
    | exact mm_fin (mm_b0 (fun q => Int.not_le.mpr h27 q.2.2)) rfl
    | exact mm_fin (mm_b0 (fun q => Int.not_le.mpr h48 q.2.1)) rfl
    | exact mm_fin (mm_b1 ⟨h6, Int.not_lt.mp h48, Int.not_lt.mp h27⟩) rfl
  · refine mm_aload_n dX13_isSafe_9 rfl rfl ?_
    refine mm_iload_n dX13_isSafe_10 rfl rfl ?_
    refine mm_iload_n dX13_isSafe_11 rfl rfl ?_
    refine mm_aload_n dX13_isSafe_12 rfl rfl ?_
    refine mm_iload_n dX13_isSafe_13 rfl rfl ?_
    refine mm_iload_n dX13_isSafe_14 rfl rfl ?_
    refine mm_V2i dX13_isSafe_15 rfl lk_X13_501 (c := 183) rfl (by decide) rfl (by simp) (by simp) rfl rfl rfl (c_X13_highAt hR hK hs hh) ?_
    refine mm_V3i dX13_isSafe_18 rfl lk_X13_497 (c := 183) rfl (by decide) rfl (by simp) (by simp) (by simp) rfl rfl rfl (c_X13_pullOf hR hK hs ha (by omega)) ?_
    refine mm_aload_n dX13_isSafe_21 rfl rfl ?_
    refine mm_getr dX13_isSafe_22 rfl fl_X13_151 (c := 183) rfl (by decide) rfl rfl (hR.at (c := 183) (i := 10) (v := 187) rfl (by decide)) ?_
    refine mm_iconst dX13_isSafe_25 rfl ?_
    refine mm_ialk (k0 := 5) dX13_isSafe_26 rfl (c := 186) rfl (by decide) rfl rfl (by decide) ?_
    refine mm_icgt dX13_isSafe_27 (by omega) (by omega) (fun h27 => ?_) (fun h27 => ?_)
    · refine mm_iconst dX13_isSafe_55 rfl ?_
      refine mm_zret dX13_isSafe_56 rfl rfl (Or.inl rfl) ?_
      first
      | exact mm_fin (mm_b0 (fun q => h6 q.1)) rfl
      | exact mm_fin (mm_b0 (fun q => Int.not_le.mpr h27 q.2.2)) rfl
      | exact mm_fin (mm_b0 (fun q => Int.not_le.mpr h48 q.2.1)) rfl
      | exact mm_fin (mm_b1 ⟨h6, Int.not_lt.mp h48, Int.not_lt.mp h27⟩) rfl
    · refine mm_aload_n dX13_isSafe_30 rfl rfl ?_
      refine mm_iload_n dX13_isSafe_31 rfl rfl ?_
      refine mm_iload_n dX13_isSafe_32 rfl rfl ?_
      refine mm_aload_n dX13_isSafe_33 rfl rfl ?_
      refine mm_iload_n dX13_isSafe_34 rfl rfl ?_
      refine mm_iload_n dX13_isSafe_35 rfl rfl ?_
      refine mm_V2i dX13_isSafe_36 rfl lk_X13_504 (c := 183) rfl (by decide) rfl (by simp) (by simp) rfl rfl rfl (c_X13_lowAt hR hK hs hh) ?_
      refine mm_V3i dX13_isSafe_39 rfl lk_X13_497 (c := 183) rfl (by decide) rfl (by simp) (by simp) (by simp) rfl rfl rfl (c_X13_pullOf hR hK hs ha (by omega)) ?_
      refine mm_aload_n dX13_isSafe_42 rfl rfl ?_
      refine mm_getr dX13_isSafe_43 rfl fl_X13_151 (c := 183) rfl (by decide) rfl rfl (hR.at (c := 183) (i := 10) (v := 187) rfl (by decide)) ?_
      refine mm_iconst dX13_isSafe_46 rfl ?_
      refine mm_ialk (k0 := 4) dX13_isSafe_47 rfl (c := 186) rfl (by decide) rfl rfl (by decide) ?_
      refine mm_iclt dX13_isSafe_48 (by omega) (by omega) (fun h48 => ?_) (fun h48 => ?_)
      · refine mm_iconst dX13_isSafe_55 rfl ?_
        refine mm_zret dX13_isSafe_56 rfl rfl (Or.inl rfl) ?_
        first
        | exact mm_fin (mm_b0 (fun q => h6 q.1)) rfl
        | exact mm_fin (mm_b0 (fun q => Int.not_le.mpr h27 q.2.2)) rfl
        | exact mm_fin (mm_b0 (fun q => Int.not_le.mpr h48 q.2.1)) rfl
        | exact mm_fin (mm_b1 ⟨h6, Int.not_lt.mp h48, Int.not_lt.mp h27⟩) rfl
      · refine mm_iconst dX13_isSafe_51 rfl ?_
        refine mm_goto dX13_isSafe_52 ?_
        refine mm_zret dX13_isSafe_56 rfl rfl (Or.inr rfl) ?_
        first
        | exact mm_fin (mm_b0 (fun q => h6 q.1)) rfl
        | exact mm_fin (mm_b0 (fun q => Int.not_le.mpr h27 q.2.2)) rfl
        | exact mm_fin (mm_b0 (fun q => Int.not_le.mpr h48 q.2.1)) rfl
        | exact mm_fin (mm_b1 ⟨h6, Int.not_lt.mp h48, Int.not_lt.mp h27⟩) rfl
theorem c_X13_surely (hR : mm_Rf M) (hK : mm_KV (mm_rk M)) (hA : mm_RA M) (hs : ks_st (mm_rk M) s) (ha : ks_ac (mm_rk M) a) (hh : ks_hr h) : mm_Fn X Y_X13_surely 243 [(2, 184), (0, s), (0, a), (0, h)] M (0, ks_sure (mm_rk M) (M 203) (M 204) s a h) M := by
  have hw := hA.wi hK hs hh
  have p1 := ks_pw hK (s := s) ha hw.1
  have p2 := ks_pw hK (s := s) ha hw.2
  have hsl := ks_slb hK ha
  have hd := ks_drb ha.1
  refine mm_startF (ls := [(2, 184), (0, s), (0, a), (0, h)]) rfl ?_
  refine mm_aload_n dX13_surely_0 rfl rfl ?_
  refine mm_iload_n dX13_surely_1 rfl rfl ?_
  refine mm_aload_n dX13_surely_2 rfl rfl ?_
  refine mm_iload_n dX13_surely_3 rfl rfl ?_
  refine mm_iload_n dX13_surely_4 rfl rfl ?_
  refine mm_iload_n dX13_surely_5 rfl rfl ?_
  refine mm_S1i dX13_surely_6 rfl lk_X13_448 (by simp) rfl rfl rfl (c_X13_drumOf (by omega)) ?_
  refine mm_iconst dX13_surely_9 rfl ?_
  refine mm_icne dX13_surely_10 (by omega) (by omega) (fun h10 => ?_) (fun h10 => ?_)
  · refine mm_aload_n dX13_surely_22 rfl rfl ?_
    refine mm_iload_n dX13_surely_23 rfl rfl ?_
    refine mm_iload_n dX13_surely_24 rfl rfl ?_
    refine mm_V2i dX13_surely_25 rfl lk_X13_504 (c := 183) rfl (by decide) rfl (by simp) (by simp) rfl rfl rfl (c_X13_lowAt hR hK hs hh) ?_
    refine mm_V3i dX13_surely_28 rfl lk_X13_497 (c := 183) rfl (by decide) rfl (by simp) (by simp) (by simp) rfl rfl rfl (c_X13_pullOf hR hK hs ha (by omega)) ?_
    refine mm_V2i dX13_surely_31 rfl lk_X13_507 (c := 183) rfl (by decide) rfl (by simp) (by simp) rfl rfl rfl (c_X13_workOf hR hK (by omega) (by first | exact p1 | exact p2)) ?_
    refine mm_iret dX13_surely_34 rfl rfl ?_
    refine mm_fin ?_ rfl
    unfold ks_sure
    first
    | (rw [if_neg h10]; done)
    | (rw [if_pos h10]; done)
  · refine mm_aload_n dX13_surely_13 rfl rfl ?_
    refine mm_iload_n dX13_surely_14 rfl rfl ?_
    refine mm_iload_n dX13_surely_15 rfl rfl ?_
    refine mm_V2i dX13_surely_16 rfl lk_X13_501 (c := 183) rfl (by decide) rfl (by simp) (by simp) rfl rfl rfl (c_X13_highAt hR hK hs hh) ?_
    refine mm_goto dX13_surely_19 ?_
    refine mm_V3i dX13_surely_28 rfl lk_X13_497 (c := 183) rfl (by decide) rfl (by simp) (by simp) (by simp) rfl rfl rfl (c_X13_pullOf hR hK hs ha (by omega)) ?_
    refine mm_V2i dX13_surely_31 rfl lk_X13_507 (c := 183) rfl (by decide) rfl (by simp) (by simp) rfl rfl rfl (c_X13_workOf hR hK (by omega) (by first | exact p1 | exact p2)) ?_
    refine mm_iret dX13_surely_34 rfl rfl ?_
    refine mm_fin ?_ rfl
    unfold ks_sure
    first
    | (rw [if_neg h10]; done)
    | (rw [if_pos h10]; done)
theorem c_X13_pullBy (hR : mm_Rf M) (hK : mm_KV (mm_rk M)) (hA : mm_RA M) (hs : ks_st (mm_rk M) s) (ha : ks_ac (mm_rk M) a) (hh : ks_hr h) (hsh : 0 ≤ sh ∧ sh ≤ 20) : mm_Fn X Y_X13_pullBy 243 [(2, 184), (0, s), (0, a), (0, h), (0, sh)] M (0, ks_p (mm_rk M) s a (ks_wi (M 203) (mm_rk M) s h * sh / 10)) M := by
  have hw := hA.wi hK hs hh
  have hm := mm_mulb (a := ks_wi (M 203) (mm_rk M) s h) (b := sh) (A := 60) (B := 20) hw.1.1 hw.1.2 hsh.1 hsh.2
  refine mm_startF (ls := [(2, 184), (0, s), (0, a), (0, h), (0, sh)]) rfl ?_
  refine mm_aload_n dX13_pullBy_0 rfl rfl ?_
  refine mm_iload_n dX13_pullBy_1 rfl rfl ?_
  refine mm_iload_n dX13_pullBy_2 rfl rfl ?_
  refine mm_aload_n dX13_pullBy_3 rfl rfl ?_
  refine mm_iload_n dX13_pullBy_4 rfl rfl ?_
  refine mm_iload_n dX13_pullBy_5 rfl rfl ?_
  refine mm_V2i dX13_pullBy_6 rfl lk_X13_504 (c := 183) rfl (by decide) rfl (by simp) (by simp) rfl rfl rfl (c_X13_lowAt hR hK hs hh) ?_
  refine mm_iload dX13_pullBy_9 rfl rfl ?_
  refine mm_imul dX13_pullBy_11 rfl ?_
  refine mm_bipush dX13_pullBy_12 rfl (by decide) ?_
  refine mm_idiv dX13_pullBy_14 rfl (by omega) (by omega) (by omega) ?_
  rw [mm_tdiv hm.1]
  refine mm_V3i dX13_pullBy_15 rfl lk_X13_497 (c := 183) rfl (by decide) rfl (by simp) (by simp) (by simp) rfl rfl rfl (c_X13_pullOf hR hK hs ha (by omega)) ?_
  refine mm_iret dX13_pullBy_18 rfl rfl ?_
  exact mm_fin rfl rfl
theorem c_X13_isBand (hx : mm_R x) : mm_Fn X Y_X13_isBand 243 [(0, x)] M (0, mm_b (0 ≤ x ∧ x ≤ 4)) M := by
  refine mm_startF (ls := [(0, x)]) rfl ?_
  refine mm_iload_n dX13_isBand_0 rfl rfl ?_
  refine mm_i2l dX13_isBand_1 rfl (by omega) ?_
  refine mm_lconst0 dX13_isBand_2 rfl ?_
  refine mm_ldc2 dX13_isBand_3 rfl kc_X13_479 ?_
  refine mm_S3i dX13_isBand_6 rfl lk_X13_5 (by simp) (by simp) (by simp) rfl rfl rfl (c_X13_in (by omega) (by decide) (by omega)) ?_
  refine mm_zret dX13_isBand_9 rfl rfl (mm_b_01 _) ?_
  exact mm_fin rfl rfl
theorem c_X13_isSlot (hx : mm_R x) : mm_Fn X Y_X13_isSlot 243 [(0, x)] M (0, mm_b (0 ≤ x ∧ x ≤ 5)) M := by
  refine mm_startF (ls := [(0, x)]) rfl ?_
  refine mm_iload_n dX13_isSlot_0 rfl rfl ?_
  refine mm_i2l dX13_isSlot_1 rfl (by omega) ?_
  refine mm_lconst0 dX13_isSlot_2 rfl ?_
  refine mm_ldc2 dX13_isSlot_3 rfl kc_X13_627 ?_
  refine mm_S3i dX13_isSlot_6 rfl lk_X13_5 (by simp) (by simp) (by simp) rfl rfl rfl (c_X13_in (by omega) (by decide) (by omega)) ?_
  refine mm_zret dX13_isSlot_9 rfl rfl (mm_b_01 _) ?_
  exact mm_fin rfl rfl
theorem c_X13_isCost (hx : mm_R x) : mm_Fn X Y_X13_isCost 243 [(0, x)] M (0, mm_b (0 ≤ x ∧ x ≤ 1000000)) M := by
  refine mm_startF (ls := [(0, x)]) rfl ?_
  refine mm_iload_n dX13_isCost_0 rfl rfl ?_
  refine mm_i2l dX13_isCost_1 rfl (by omega) ?_
  refine mm_lconst0 dX13_isCost_2 rfl ?_
  refine mm_ldc2 dX13_isCost_3 rfl kc_X13_668 ?_
  refine mm_S3i dX13_isCost_6 rfl lk_X13_5 (by simp) (by simp) (by simp) rfl rfl rfl (c_X13_in (by omega) (by decide) (by omega)) ?_
  refine mm_zret dX13_isCost_9 rfl rfl (mm_b_01 _) ?_
  exact mm_fin rfl rfl
theorem c_X13_isSite (hx : mm_R x) : mm_Fn X Y_X13_isSite 243 [(0, x)] M (0, mm_b (0 ≤ x ∧ x ≤ 40)) M := by
  refine mm_startF (ls := [(0, x)]) rfl ?_
  refine mm_iload_n dX13_isSite_0 rfl rfl ?_
  refine mm_i2l dX13_isSite_1 rfl (by omega) ?_
  refine mm_lconst0 dX13_isSite_2 rfl ?_
  refine mm_ldc2 dX13_isSite_3 rfl kc_X13_691 ?_
  refine mm_S3i dX13_isSite_6 rfl lk_X13_5 (by simp) (by simp) (by simp) rfl rfl rfl (c_X13_in (by omega) (by decide) (by omega)) ?_
  refine mm_zret dX13_isSite_9 rfl rfl (mm_b_01 _) ?_
  exact mm_fin rfl rfl
theorem c_X13_arePulls (hx : mm_R x) (hy : mm_R y) : mm_Fn X Y_X13_arePulls 243 [(0, x), (0, y)] M (0, mm_b (0 ≤ x ∧ x ≤ y ∧ y ≤ 99999999)) M := by
  refine mm_startF (ls := [(0, x), (0, y)]) rfl ?_
  refine mm_iload_n dX13_arePulls_0 rfl rfl ?_
  refine mm_i2l dX13_arePulls_1 rfl (by omega) ?_
  refine mm_lconst0 dX13_arePulls_2 rfl ?_
  refine mm_ldc2 dX13_arePulls_3 rfl kc_X13_713 ?_
  refine mm_S3i dX13_arePulls_6 rfl lk_X13_5 (by simp) (by simp) (by simp) rfl rfl rfl (c_X13_in (by omega) (by first | decide | omega) (by omega)) ?_
  refine mm_ifeqb dX13_arePulls_9 (fun h9 => ?_) (fun h9 => ?_)
  · refine mm_iconst dX13_arePulls_29 rfl ?_
    refine mm_zret dX13_arePulls_30 rfl rfl (Or.inl rfl) ?_
    refine mm_fin ?_ rfl
    unfold mm_b
    split <;> omega
  · refine mm_iload_n dX13_arePulls_12 rfl rfl ?_
    refine mm_i2l dX13_arePulls_13 rfl (by omega) ?_
    refine mm_iload_n dX13_arePulls_14 rfl rfl ?_
    refine mm_i2l dX13_arePulls_15 rfl (by omega) ?_
    refine mm_ldc2 dX13_arePulls_16 rfl kc_X13_713 ?_
    refine mm_S3i dX13_arePulls_19 rfl lk_X13_5 (by simp) (by simp) (by simp) rfl rfl rfl (c_X13_in (by omega) (by first | decide | omega) (by omega)) ?_
    refine mm_ifeqb dX13_arePulls_22 (fun h22 => ?_) (fun h22 => ?_)
    · refine mm_iconst dX13_arePulls_29 rfl ?_
      refine mm_zret dX13_arePulls_30 rfl rfl (Or.inl rfl) ?_
      refine mm_fin ?_ rfl
      unfold mm_b
      split <;> omega
    · refine mm_iconst dX13_arePulls_25 rfl ?_
      refine mm_goto dX13_arePulls_26 ?_
      refine mm_zret dX13_arePulls_30 rfl rfl (Or.inr rfl) ?_
      refine mm_fin ?_ rfl
      unfold mm_b
      split <;> omega
end

