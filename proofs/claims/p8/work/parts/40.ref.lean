/-! ===== KitePowerModel: states and acts ===== -/
/-- the reference's kite as numbers -/
def mm_rk (M : mm_M) : Nat → Int := fun i => if i < 10 then M 186 i else if i < 20 then M 183 16 else if i < 30 then M 188 (i - 20) else M 190 (i - 30)
theorem mm_rk_r (M : mm_M) {i : Nat} (h : i < 10) : mm_rk M i = M 186 i := if_pos h
theorem mm_rk_n (M : mm_M) : mm_rk M 10 = M 183 16 := rfl
theorem mm_rk_l (M : mm_M) {i : Nat} (h : i < 3) : mm_rk M (20 + i) = M 188 i := by
  unfold mm_rk
  rw [if_neg (by omega), if_neg (by omega), if_pos (by omega)]
  congr 1
  omega
theorem mm_rk_w (M : mm_M) {i : Nat} : mm_rk M (30 + i) = M 190 i := by
  unfold mm_rk
  rw [if_neg (by omega), if_neg (by omega), if_neg (by omega)]
  congr 1
  omega
def mm_RA (M : mm_M) : Prop := ∀ p, p < 120 → 0 ≤ M 203 p ∧ M 203 p ≤ M 204 p ∧ M 204 p ≤ 60
section
variable {X : mm_X} {M : mm_M} {s a m w d p h sh x y z : Int}
theorem c_X13_in (hx : mm_RL x) (hy : mm_RL y) (hz : mm_RL z) : mm_Fn X Y_X13_in 243 [(1, x), (1, y), (1, z)] M (0, mm_b (y ≤ x ∧ x ≤ z)) M := by
  refine mm_startF (ls := [(1, x), (9, 0), (1, y), (9, 0), (1, z), (9, 0)]) rfl ?_
  refine mm_lload_n dX13_in_0 rfl rfl ?_
  refine mm_lload_n dX13_in_1 rfl rfl ?_
  refine mm_lcmp dX13_in_2 rfl (by omega) (by omega) ?_
  refine mm_ifltc dX13_in_3 (fun h3 => ?_) (fun h3 => ?_)
  · refine mm_iconst dX13_in_17 rfl ?_
    refine mm_zret dX13_in_18 rfl rfl (Or.inl rfl) ?_
    exact mm_fin (by unfold mm_b; split <;> omega) rfl
  · refine mm_lload_n dX13_in_6 rfl rfl ?_
    refine mm_lload dX13_in_7 rfl rfl ?_
    refine mm_lcmp dX13_in_9 rfl (by omega) (by omega) ?_
    refine mm_ifgtc dX13_in_10 (fun h10 => ?_) (fun h10 => ?_)
    · refine mm_iconst dX13_in_17 rfl ?_
      refine mm_zret dX13_in_18 rfl rfl (Or.inl rfl) ?_
      exact mm_fin (by unfold mm_b; split <;> omega) rfl
    · refine mm_iconst dX13_in_13 rfl ?_
      refine mm_goto dX13_in_14 ?_
      refine mm_zret dX13_in_18 rfl rfl (Or.inr rfl) ?_
      exact mm_fin (by unfold mm_b; split <;> omega) rfl
theorem c_X13_isHour (hx : mm_R x) : mm_Fn X Y_X13_isHour 243 [(0, x)] M (0, mm_b (ks_hr x)) M := by
  refine mm_startF (ls := [(0, x)]) rfl ?_
  refine mm_iload_n dX13_isHour_0 rfl rfl ?_
  refine mm_i2l dX13_isHour_1 rfl (by omega) ?_
  refine mm_lconst0 dX13_isHour_2 rfl ?_
  refine mm_ldc2 dX13_isHour_3 rfl kc_X13_3 ?_
  refine mm_S3i dX13_isHour_6 rfl lk_X13_5 (by simp) (by simp) (by simp) rfl rfl rfl (c_X13_in (by omega) (by decide) (by omega)) ?_
  refine mm_zret dX13_isHour_9 rfl rfl (mm_b_01 _) ?_
  exact mm_fin rfl rfl
theorem c_X13_states (hR : mm_Rf M) : mm_Fn X Y_X13_states 243 [(2, 184)] M (0, ks_n (mm_rk M)) M := by
  refine mm_startF (ls := [(2, 184)]) rfl ?_
  refine mm_aload_n dX13_states_0 rfl rfl ?_
  refine mm_getr dX13_states_1 rfl fl_X13_151 (c := 183) rfl (by decide) rfl rfl (hR.at (c := 183) (i := 10) (v := 187) rfl (by decide)) ?_
  refine mm_iconst dX13_states_4 rfl ?_
  refine mm_ialk (k0 := 0) dX13_states_5 rfl (c := 186) rfl (by decide) rfl rfl (by decide) ?_
  refine mm_aload_n dX13_states_6 rfl rfl ?_
  refine mm_getr dX13_states_7 rfl fl_X13_151 (c := 183) rfl (by decide) rfl rfl (hR.at (c := 183) (i := 10) (v := 187) rfl (by decide)) ?_
  refine mm_iconst dX13_states_10 rfl ?_
  refine mm_ialk (k0 := 1) dX13_states_11 rfl (c := 186) rfl (by decide) rfl rfl (by decide) ?_
  refine mm_imul dX13_states_12 rfl ?_
  refine mm_aload_n dX13_states_13 rfl rfl ?_
  refine mm_getr dX13_states_14 rfl fl_X13_151 (c := 183) rfl (by decide) rfl rfl (hR.at (c := 183) (i := 10) (v := 187) rfl (by decide)) ?_
  refine mm_iconst dX13_states_17 rfl ?_
  refine mm_ialk (k0 := 2) dX13_states_18 rfl (c := 186) rfl (by decide) rfl rfl (by decide) ?_
  refine mm_imul dX13_states_19 rfl ?_
  refine mm_iret dX13_states_20 rfl rfl ?_
  exact mm_fin rfl rfl
theorem c_X13_columnOf (hR : mm_Rf M) (hK : mm_KV (mm_rk M)) (hs : ks_st (mm_rk M) s) : mm_Fn X Y_X13_columnOf 243 [(2, 184), (0, s)] M (0, ks_col (mm_rk M) s) M := by
  have h0 : 2 ≤ M 186 0 ∧ M 186 0 ≤ 6 := hK.1
  have hn := ks_nb hK
  have := hs.1
  have := hs.2
  refine mm_startF (ls := [(2, 184), (0, s)]) rfl ?_
  refine mm_iload_n dX13_columnOf_0 rfl rfl ?_
  refine mm_aload_n dX13_columnOf_1 rfl rfl ?_
  refine mm_getr dX13_columnOf_2 rfl fl_X13_151 (c := 183) rfl (by decide) rfl rfl (hR.at (c := 183) (i := 10) (v := 187) rfl (by decide)) ?_
  refine mm_iconst dX13_columnOf_5 rfl ?_
  refine mm_ialk (k0 := 0) dX13_columnOf_6 rfl (c := 186) rfl (by decide) rfl rfl (by decide) ?_
  refine mm_irem dX13_columnOf_7 rfl (by omega) (by omega) (by omega) ?_
  refine mm_iret dX13_columnOf_8 rfl rfl ?_
  exact mm_fin (by rw [mm_tmod hs.1]; rfl) rfl
theorem c_X13_rowOf (hR : mm_Rf M) (hK : mm_KV (mm_rk M)) (hs : ks_st (mm_rk M) s) : mm_Fn X Y_X13_rowOf 243 [(2, 184), (0, s)] M (0, ks_row (mm_rk M) s) M := by
  have h0 : 2 ≤ M 186 0 ∧ M 186 0 ≤ 6 := hK.1
  have h1 : 2 ≤ M 186 1 ∧ M 186 1 ≤ 6 := hK.2.1
  have hn := ks_nb hK
  have := hs.1
  have := hs.2
  have hd := mm_divb (a := s) (b := M 186 0) (A := 288) (by omega) (by omega) (by omega)
  refine mm_startF (ls := [(2, 184), (0, s)]) rfl ?_
  refine mm_iload_n dX13_rowOf_0 rfl rfl ?_
  refine mm_aload_n dX13_rowOf_1 rfl rfl ?_
  refine mm_getr dX13_rowOf_2 rfl fl_X13_151 (c := 183) rfl (by decide) rfl rfl (hR.at (c := 183) (i := 10) (v := 187) rfl (by decide)) ?_
  refine mm_iconst dX13_rowOf_5 rfl ?_
  refine mm_ialk (k0 := 0) dX13_rowOf_6 rfl (c := 186) rfl (by decide) rfl rfl (by decide) ?_
  refine mm_idiv dX13_rowOf_7 rfl (by omega) (by omega) (by omega) ?_
  rw [mm_tdiv hs.1]
  refine mm_aload_n dX13_rowOf_8 rfl rfl ?_
  refine mm_getr dX13_rowOf_9 rfl fl_X13_151 (c := 183) rfl (by decide) rfl rfl (hR.at (c := 183) (i := 10) (v := 187) rfl (by decide)) ?_
  refine mm_iconst dX13_rowOf_12 rfl ?_
  refine mm_ialk (k0 := 1) dX13_rowOf_13 rfl (c := 186) rfl (by decide) rfl rfl (by decide) ?_
  refine mm_irem dX13_rowOf_14 rfl (by omega) (by omega) (by omega) ?_
  refine mm_iret dX13_rowOf_15 rfl rfl ?_
  exact mm_fin (by rw [mm_tmod hd.1]; rfl) rfl
theorem c_X13_ropeOf (hR : mm_Rf M) (hK : mm_KV (mm_rk M)) (hs : ks_st (mm_rk M) s) : mm_Fn X Y_X13_ropeOf 243 [(2, 184), (0, s)] M (0, ks_rope (mm_rk M) s) M := by
  have h0 : 2 ≤ M 186 0 ∧ M 186 0 ≤ 6 := hK.1
  have h1 : 2 ≤ M 186 1 ∧ M 186 1 ≤ 6 := hK.2.1
  have hn := ks_nb hK
  have := hs.1
  have := hs.2
  have hd := mm_divb (a := s) (b := M 186 0) (A := 288) (by omega) (by omega) (by omega)
  refine mm_startF (ls := [(2, 184), (0, s)]) rfl ?_
  refine mm_iload_n dX13_ropeOf_0 rfl rfl ?_
  refine mm_aload_n dX13_ropeOf_1 rfl rfl ?_
  refine mm_getr dX13_ropeOf_2 rfl fl_X13_151 (c := 183) rfl (by decide) rfl rfl (hR.at (c := 183) (i := 10) (v := 187) rfl (by decide)) ?_
  refine mm_iconst dX13_ropeOf_5 rfl ?_
  refine mm_ialk (k0 := 0) dX13_ropeOf_6 rfl (c := 186) rfl (by decide) rfl rfl (by decide) ?_
  refine mm_idiv dX13_ropeOf_7 rfl (by omega) (by omega) (by omega) ?_
  rw [mm_tdiv hs.1]
  refine mm_aload_n dX13_ropeOf_8 rfl rfl ?_
  refine mm_getr dX13_ropeOf_9 rfl fl_X13_151 (c := 183) rfl (by decide) rfl rfl (hR.at (c := 183) (i := 10) (v := 187) rfl (by decide)) ?_
  refine mm_iconst dX13_ropeOf_12 rfl ?_
  refine mm_ialk (k0 := 1) dX13_ropeOf_13 rfl (c := 186) rfl (by decide) rfl rfl (by decide) ?_
  refine mm_idiv dX13_ropeOf_14 rfl (by omega) (by omega) (by omega) ?_
  refine mm_iret dX13_ropeOf_15 rfl rfl ?_
  exact mm_fin (by rw [mm_tdiv hd.1]; rfl) rfl
theorem c_X13_heightOf (hR : mm_Rf M) (hK : mm_KV (mm_rk M)) (hs : ks_st (mm_rk M) s) : mm_Fn X Y_X13_heightOf 243 [(2, 184), (0, s)] M (0, ks_h (mm_rk M) s) M := by
  have h1 : 2 ≤ M 186 1 ∧ M 186 1 ≤ 6 := hK.2.1
  have e3 : M 186 3 = mm_rk M 3 := rfl
  have hh := ks_hb hK hs
  refine mm_startF (ls := [(2, 184), (0, s)]) rfl ?_
  refine mm_aload_n dX13_heightOf_0 rfl rfl ?_
  refine mm_getr dX13_heightOf_1 rfl fl_X13_151 (c := 183) rfl (by decide) rfl rfl (hR.at (c := 183) (i := 10) (v := 187) rfl (by decide)) ?_
  refine mm_iconst dX13_heightOf_4 rfl ?_
  refine mm_ialk (k0 := 3) dX13_heightOf_5 rfl (c := 186) rfl (by decide) rfl rfl (by decide) ?_
  refine mm_aload_n dX13_heightOf_6 rfl rfl ?_
  refine mm_iload_n dX13_heightOf_7 rfl rfl ?_
  refine mm_V1i dX13_heightOf_8 rfl lk_X13_429 (c := 183) rfl (by decide) rfl (by simp) rfl rfl rfl (c_X13_ropeOf hR hK hs) ?_
  refine mm_iconst dX13_heightOf_11 rfl ?_
  refine mm_iadd dX13_heightOf_12 rfl ?_
  refine mm_imul dX13_heightOf_13 rfl ?_
  refine mm_aload_n dX13_heightOf_14 rfl rfl ?_
  refine mm_iload_n dX13_heightOf_15 rfl rfl ?_
  refine mm_V1i dX13_heightOf_16 rfl lk_X13_432 (c := 183) rfl (by decide) rfl (by simp) rfl rfl rfl (c_X13_rowOf hR hK hs) ?_
  refine mm_iconst dX13_heightOf_19 rfl ?_
  refine mm_iadd dX13_heightOf_20 rfl ?_
  refine mm_imul dX13_heightOf_21 rfl ?_
  rw [e3]
  refine mm_aload_n dX13_heightOf_22 rfl rfl ?_
  refine mm_getr dX13_heightOf_23 rfl fl_X13_151 (c := 183) rfl (by decide) rfl rfl (hR.at (c := 183) (i := 10) (v := 187) rfl (by decide)) ?_
  refine mm_iconst dX13_heightOf_26 rfl ?_
  refine mm_ialk (k0 := 1) dX13_heightOf_27 rfl (c := 186) rfl (by decide) rfl rfl (by decide) ?_
  refine mm_idiv dX13_heightOf_28 rfl (by omega) (by omega) (by omega) ?_
  refine mm_iret dX13_heightOf_29 rfl rfl ?_
  exact mm_fin (by rw [mm_tdiv hh.2.2.2.2.1]; rfl) rfl
theorem c_X13_bandOf (hR : mm_Rf M) (hK : mm_KV (mm_rk M)) (hs : ks_st (mm_rk M) s) : mm_Fn X Y_X13_bandOf 243 [(2, 184), (0, s)] M (0, ks_band (mm_rk M) s) M := by
  have hh := ks_hb hK hs
  refine mm_startF (ls := [(2, 184), (0, s)]) rfl ?_
  refine mm_iconst dX13_bandOf_0 rfl ?_
  refine mm_aload_n dX13_bandOf_1 rfl rfl ?_
  refine mm_iload_n dX13_bandOf_2 rfl rfl ?_
  refine mm_V1i dX13_bandOf_3 rfl lk_X13_435 (c := 183) rfl (by decide) rfl (by simp) rfl rfl rfl (c_X13_heightOf hR hK hs) ?_
  refine mm_bipush dX13_bandOf_6 rfl (by decide) ?_
  refine mm_idiv dX13_bandOf_8 rfl (by omega) (by omega) (by omega) ?_
  rw [mm_tdiv hh.1]
  refine mm_min dX13_bandOf_9 rfl lm_X13_161 rfl rfl (by simp) (by omega) (by omega) ?_
  refine mm_iret dX13_bandOf_12 rfl rfl ?_
  exact mm_fin rfl rfl
theorem c_X13_acts (hR : mm_Rf M) : mm_Fn X Y_X13_acts 243 [(2, 184)] M (0, 15 * mm_rk M 10) M := by
  refine mm_startF (ls := [(2, 184)]) rfl ?_
  refine mm_bipush dX13_acts_0 rfl (by decide) ?_
  refine mm_aload_n dX13_acts_2 rfl rfl ?_
  refine mm_get (kd := 0) dX13_acts_3 rfl fl_X13_154 (c := 183) rfl (by decide) rfl rfl ?_
  refine mm_imul dX13_acts_6 rfl ?_
  refine mm_iret dX13_acts_7 rfl rfl ?_
  exact mm_fin rfl rfl
theorem c_X13_moveOf (ha : 0 ≤ a ∧ a < 1000) : mm_Fn X Y_X13_moveOf 243 [(0, a)] M (0, ks_mv a) M := by
  refine mm_startF (ls := [(0, a)]) rfl ?_
  refine mm_iload_n dX13_moveOf_0 rfl rfl ?_
  refine mm_iconst dX13_moveOf_1 rfl ?_
  refine mm_idiv dX13_moveOf_2 rfl (by omega) (by omega) (by omega) ?_
  refine mm_iconst dX13_moveOf_3 rfl ?_
  refine mm_irem dX13_moveOf_4 rfl (by rw [mm_tdiv ha.1]; omega) (by omega) (by omega) ?_
  refine mm_iret dX13_moveOf_5 rfl rfl ?_
  exact mm_fin (by rw [mm_tdiv ha.1, mm_tmod (by omega)]; rfl) rfl
theorem c_X13_drumOf (ha : 0 ≤ a ∧ a < 1000) : mm_Fn X Y_X13_drumOf 243 [(0, a)] M (0, ks_dr a) M := by
  refine mm_startF (ls := [(0, a)]) rfl ?_
  refine mm_iload_n dX13_drumOf_0 rfl rfl ?_
  refine mm_iconst dX13_drumOf_1 rfl ?_
  refine mm_irem dX13_drumOf_2 rfl (by omega) (by omega) (by omega) ?_
  refine mm_iret dX13_drumOf_3 rfl rfl ?_
  exact mm_fin (by rw [mm_tmod ha.1]; rfl) rfl
theorem c_X13_canMove (hR : mm_Rf M) (hK : mm_KV (mm_rk M)) (hs : ks_st (mm_rk M) s) (hm : 0 ≤ m ∧ m ≤ 4) : mm_Fn X Y_X13_canMove 243 [(2, 184), (0, s), (0, m)] M (0, mm_b (ks_cm (mm_rk M) s m)) M := by
  have h0 : 2 ≤ M 186 0 ∧ M 186 0 ≤ 6 := hK.1
  have h1 : 2 ≤ M 186 1 ∧ M 186 1 ≤ 6 := hK.2.1
  have e0 : mm_rk M 0 = M 186 0 := rfl
  have e1 : mm_rk M 1 = M 186 1 := rfl
  have hc := ks_colb hK s
  have hr := ks_rowb hK s
  refine mm_startF (ls := [(2, 184), (0, s), (0, m), (9, 0), (9, 0)]) rfl ?_
  refine mm_aload_n dX13_canMove_0 rfl rfl ?_
  refine mm_iload_n dX13_canMove_1 rfl rfl ?_
  refine mm_V1i dX13_canMove_2 rfl lk_X13_438 (c := 183) rfl (by decide) rfl (by simp) rfl rfl rfl (c_X13_columnOf hR hK hs) ?_
  refine mm_istore_n dX13_canMove_5 rfl (Nat.le_of_ble_eq_true rfl) rfl ?_
  refine mm_aload_n dX13_canMove_6 rfl rfl ?_
  refine mm_iload_n dX13_canMove_7 rfl rfl ?_
  refine mm_V1i dX13_canMove_8 rfl lk_X13_432 (c := 183) rfl (by decide) rfl (by simp) rfl rfl rfl (c_X13_rowOf hR hK hs) ?_
  refine mm_istore dX13_canMove_11 rfl (Nat.le_of_ble_eq_true rfl) rfl ?_
  refine mm_iload_n dX13_canMove_13 rfl rfl ?_
  refine mm_ifeq dX13_canMove_14 (by omega) (fun h14 => ?_) (fun h14 => ?_)
  · refine mm_iconst dX13_canMove_75 rfl ?_
    refine mm_goto dX13_canMove_76 ?_
    refine mm_zret dX13_canMove_80 rfl rfl (Or.inr rfl) ?_
    exact mm_fin (by unfold mm_b ks_cm; split <;> omega) rfl
  · refine mm_iload_n dX13_canMove_17 rfl rfl ?_
    refine mm_iconst dX13_canMove_18 rfl ?_
    refine mm_icne dX13_canMove_19 (by omega) (by omega) (fun h19 => ?_) (fun h19 => ?_)
    · refine mm_iload_n dX13_canMove_29 rfl rfl ?_
      refine mm_iconst dX13_canMove_30 rfl ?_
      refine mm_icne dX13_canMove_31 (by omega) (by omega) (fun h31 => ?_) (fun h31 => ?_)
      · refine mm_iload_n dX13_canMove_49 rfl rfl ?_
        refine mm_iconst dX13_canMove_50 rfl ?_
        refine mm_icne dX13_canMove_51 (by omega) (by omega) (fun h51 => ?_) (fun h51 => ?_)
        · refine mm_iload dX13_canMove_70 rfl rfl ?_
          refine mm_ifle dX13_canMove_72 (by omega) (fun h72 => ?_) (fun h72 => ?_)
          · refine mm_iconst dX13_canMove_79 rfl ?_
            refine mm_zret dX13_canMove_80 rfl rfl (Or.inl rfl) ?_
            exact mm_fin (by unfold mm_b ks_cm; split <;> omega) rfl
          · refine mm_iconst dX13_canMove_75 rfl ?_
            refine mm_goto dX13_canMove_76 ?_
            refine mm_zret dX13_canMove_80 rfl rfl (Or.inr rfl) ?_
            exact mm_fin (by unfold mm_b ks_cm; split <;> omega) rfl
        · refine mm_iload dX13_canMove_54 rfl rfl ?_
          refine mm_iconst dX13_canMove_56 rfl ?_
          refine mm_iadd dX13_canMove_57 rfl ?_
          refine mm_aload_n dX13_canMove_58 rfl rfl ?_
          refine mm_getr dX13_canMove_59 rfl fl_X13_151 (c := 183) rfl (by decide) rfl rfl (hR.at (c := 183) (i := 10) (v := 187) rfl (by decide)) ?_
          refine mm_iconst dX13_canMove_62 rfl ?_
          refine mm_ialk (k0 := 1) dX13_canMove_63 rfl (c := 186) rfl (by decide) rfl rfl (by decide) ?_
          refine mm_icge dX13_canMove_64 (by omega) (by omega) (fun h64 => ?_) (fun h64 => ?_)
          · refine mm_iconst dX13_canMove_79 rfl ?_
            refine mm_zret dX13_canMove_80 rfl rfl (Or.inl rfl) ?_
            exact mm_fin (by unfold mm_b ks_cm; split <;> omega) rfl
          · refine mm_goto dX13_canMove_67 ?_
            refine mm_iconst dX13_canMove_75 rfl ?_
            refine mm_goto dX13_canMove_76 ?_
            refine mm_zret dX13_canMove_80 rfl rfl (Or.inr rfl) ?_
            exact mm_fin (by unfold mm_b ks_cm; split <;> omega) rfl
      · refine mm_iload_n dX13_canMove_34 rfl rfl ?_
        refine mm_iconst dX13_canMove_35 rfl ?_
        refine mm_iadd dX13_canMove_36 rfl ?_
        refine mm_aload_n dX13_canMove_37 rfl rfl ?_
        refine mm_getr dX13_canMove_38 rfl fl_X13_151 (c := 183) rfl (by decide) rfl rfl (hR.at (c := 183) (i := 10) (v := 187) rfl (by decide)) ?_
        refine mm_iconst dX13_canMove_41 rfl ?_
        refine mm_ialk (k0 := 0) dX13_canMove_42 rfl (c := 186) rfl (by decide) rfl rfl (by decide) ?_
        refine mm_icge dX13_canMove_43 (by omega) (by omega) (fun h43 => ?_) (fun h43 => ?_)
        · refine mm_iconst dX13_canMove_79 rfl ?_
          refine mm_zret dX13_canMove_80 rfl rfl (Or.inl rfl) ?_
          exact mm_fin (by unfold mm_b ks_cm; split <;> omega) rfl
        · refine mm_goto dX13_canMove_46 ?_
          refine mm_iconst dX13_canMove_75 rfl ?_
          refine mm_goto dX13_canMove_76 ?_
          refine mm_zret dX13_canMove_80 rfl rfl (Or.inr rfl) ?_
          exact mm_fin (by unfold mm_b ks_cm; split <;> omega) rfl
    · refine mm_iload_n dX13_canMove_22 rfl rfl ?_
      refine mm_ifle dX13_canMove_23 (by omega) (fun h23 => ?_) (fun h23 => ?_)
      · refine mm_iconst dX13_canMove_79 rfl ?_
        refine mm_zret dX13_canMove_80 rfl rfl (Or.inl rfl) ?_
        exact mm_fin (by unfold mm_b ks_cm; split <;> omega) rfl
      · refine mm_goto dX13_canMove_26 ?_
        refine mm_iconst dX13_canMove_75 rfl ?_
        refine mm_goto dX13_canMove_76 ?_
        refine mm_zret dX13_canMove_80 rfl rfl (Or.inr rfl) ?_
        exact mm_fin (by unfold mm_b ks_cm; split <;> omega) rfl
theorem c_X13_canReel (hR : mm_Rf M) (hK : mm_KV (mm_rk M)) (hs : ks_st (mm_rk M) s) (hd : 0 ≤ d ∧ d ≤ 2) : mm_Fn X Y_X13_canReel 243 [(2, 184), (0, s), (0, d)] M (0, mm_b (ks_cr (mm_rk M) s d)) M := by
  have h2 : 2 ≤ M 186 2 ∧ M 186 2 ≤ 8 := hK.2.2.1
  have e2 : mm_rk M 2 = M 186 2 := rfl
  have hc := ks_ropeb hK hs
  refine mm_startF (ls := [(2, 184), (0, s), (0, d)]) rfl ?_
  refine mm_iload_n dX13_canReel_0 rfl rfl ?_
  refine mm_ifeq dX13_canReel_1 (by omega) (fun h1 => ?_) (fun h1 => ?_)
  · refine mm_iconst dX13_canReel_36 rfl ?_
    refine mm_goto dX13_canReel_37 ?_
    refine mm_zret dX13_canReel_41 rfl rfl (Or.inr rfl) ?_
    exact mm_fin (by unfold mm_b ks_cr; split <;> omega) rfl
  · refine mm_iload_n dX13_canReel_4 rfl rfl ?_
    refine mm_iconst dX13_canReel_5 rfl ?_
    refine mm_icne dX13_canReel_6 (by omega) (by omega) (fun h6 => ?_) (fun h6 => ?_)
    · refine mm_aload_n dX13_canReel_28 rfl rfl ?_
      refine mm_iload_n dX13_canReel_29 rfl rfl ?_
      refine mm_V1i dX13_canReel_30 rfl lk_X13_429 (c := 183) rfl (by decide) rfl (by simp) rfl rfl rfl (c_X13_ropeOf hR hK hs) ?_
      refine mm_ifle dX13_canReel_33 (by omega) (fun h33 => ?_) (fun h33 => ?_)
      · refine mm_iconst dX13_canReel_40 rfl ?_
        refine mm_zret dX13_canReel_41 rfl rfl (Or.inl rfl) ?_
        exact mm_fin (by unfold mm_b ks_cr; split <;> omega) rfl
      · refine mm_iconst dX13_canReel_36 rfl ?_
        refine mm_goto dX13_canReel_37 ?_
        refine mm_zret dX13_canReel_41 rfl rfl (Or.inr rfl) ?_
        exact mm_fin (by unfold mm_b ks_cr; split <;> omega) rfl
    · refine mm_aload_n dX13_canReel_9 rfl rfl ?_
      refine mm_iload_n dX13_canReel_10 rfl rfl ?_
      refine mm_V1i dX13_canReel_11 rfl lk_X13_429 (c := 183) rfl (by decide) rfl (by simp) rfl rfl rfl (c_X13_ropeOf hR hK hs) ?_
      refine mm_iconst dX13_canReel_14 rfl ?_
      refine mm_iadd dX13_canReel_15 rfl ?_
      refine mm_aload_n dX13_canReel_16 rfl rfl ?_
      refine mm_getr dX13_canReel_17 rfl fl_X13_151 (c := 183) rfl (by decide) rfl rfl (hR.at (c := 183) (i := 10) (v := 187) rfl (by decide)) ?_
      refine mm_iconst dX13_canReel_20 rfl ?_
      refine mm_ialk (k0 := 2) dX13_canReel_21 rfl (c := 186) rfl (by decide) rfl rfl (by decide) ?_
      refine mm_icge dX13_canReel_22 (by omega) (by omega) (fun h22 => ?_) (fun h22 => ?_)
      · refine mm_iconst dX13_canReel_40 rfl ?_
        refine mm_zret dX13_canReel_41 rfl rfl (Or.inl rfl) ?_
        exact mm_fin (by unfold mm_b ks_cr; split <;> omega) rfl
      · refine mm_goto dX13_canReel_25 ?_
        refine mm_iconst dX13_canReel_36 rfl ?_
        refine mm_goto dX13_canReel_37 ?_
        refine mm_zret dX13_canReel_41 rfl rfl (Or.inr rfl) ?_
        exact mm_fin (by unfold mm_b ks_cr; split <;> omega) rfl
theorem c_X13_canDo (hR : mm_Rf M) (hK : mm_KV (mm_rk M)) (hs : ks_st (mm_rk M) s) (ha : 0 ≤ a ∧ a < 1000) : mm_Fn X Y_X13_canDo 243 [(2, 184), (0, s), (0, a)] M (0, mm_b (ks_can (mm_rk M) s a)) M := by
  refine mm_startF (ls := [(2, 184), (0, s), (0, a)]) rfl ?_
  refine mm_aload_n dX13_canDo_0 rfl rfl ?_
  refine mm_iload_n dX13_canDo_1 rfl rfl ?_
  refine mm_iload_n dX13_canDo_2 rfl rfl ?_
  refine mm_S1i dX13_canDo_3 rfl lk_X13_441 (by simp) rfl rfl rfl (c_X13_moveOf ha) ?_
  refine mm_V2i dX13_canDo_6 rfl lk_X13_444 (c := 183) rfl (by decide) rfl (by simp) (by simp) rfl rfl rfl (c_X13_canMove hR hK hs (ks_mvb ha.1)) ?_
  refine mm_ifeqb dX13_canDo_9 (fun h9 => ?_) (fun h9 => ?_)
  · refine mm_iconst dX13_canDo_28 rfl ?_
    refine mm_zret dX13_canDo_29 rfl rfl (Or.inl rfl) ?_
    first
    | exact mm_fin (mm_b1 ⟨h9, h21⟩) rfl
    | exact mm_fin (mm_b0 (fun q => h9 q.1)) rfl
    | exact mm_fin (mm_b0 (fun q => h21 q.2)) rfl
  · refine mm_aload_n dX13_canDo_12 rfl rfl ?_
    refine mm_iload_n dX13_canDo_13 rfl rfl ?_
    refine mm_iload_n dX13_canDo_14 rfl rfl ?_
    refine mm_S1i dX13_canDo_15 rfl lk_X13_448 (by simp) rfl rfl rfl (c_X13_drumOf ha) ?_
    refine mm_V2i dX13_canDo_18 rfl lk_X13_451 (c := 183) rfl (by decide) rfl (by simp) (by simp) rfl rfl rfl (c_X13_canReel hR hK hs (ks_drb ha.1)) ?_
    refine mm_ifeqb dX13_canDo_21 (fun h21 => ?_) (fun h21 => ?_)
    · refine mm_iconst dX13_canDo_28 rfl ?_
      refine mm_zret dX13_canDo_29 rfl rfl (Or.inl rfl) ?_
      first
      | exact mm_fin (mm_b1 ⟨h9, h21⟩) rfl
      | exact mm_fin (mm_b0 (fun q => h9 q.1)) rfl
      | exact mm_fin (mm_b0 (fun q => h21 q.2)) rfl
    · refine mm_iconst dX13_canDo_24 rfl ?_
      refine mm_goto dX13_canDo_25 ?_
      refine mm_zret dX13_canDo_29 rfl rfl (Or.inr rfl) ?_
      first
      | exact mm_fin (mm_b1 ⟨h9, h21⟩) rfl
      | exact mm_fin (mm_b0 (fun q => h9 q.1)) rfl
      | exact mm_fin (mm_b0 (fun q => h21 q.2)) rfl
theorem c_X13_after (hR : mm_Rf M) (ha : 0 ≤ a ∧ a < 1000) : mm_Fn X Y_X13_after 243 [(2, 184), (0, s), (0, a)] M (0, ks_to (mm_rk M) s a) M := by
  have hm := ks_mvb ha.1
  have hd := ks_drb ha.1
  have e0 : mm_rk M 0 = M 186 0 := rfl
  have e1 : mm_rk M 1 = M 186 1 := rfl
  refine mm_startF (ls := [(2, 184), (0, s), (0, a), (9, 0), (9, 0), (9, 0)]) rfl ?_
  refine mm_iload_n dX13_after_0 rfl rfl ?_
  refine mm_S1i dX13_after_1 rfl lk_X13_441 (by simp) rfl rfl rfl (c_X13_moveOf ha) ?_
  refine mm_istore_n dX13_after_4 rfl (Nat.le_of_ble_eq_true rfl) rfl ?_
  refine mm_iload_n dX13_after_5 rfl rfl ?_
  refine mm_S1i dX13_after_6 rfl lk_X13_448 (by simp) rfl rfl rfl (c_X13_drumOf ha) ?_
  refine mm_istore dX13_after_9 rfl (Nat.le_of_ble_eq_true rfl) rfl ?_
  refine mm_iload_n dX13_after_11 rfl rfl ?_
  refine mm_iload_n dX13_after_12 rfl rfl ?_
  refine mm_iconst dX13_after_13 rfl ?_
  refine mm_icne dX13_after_14 (by omega) (by omega) (fun h14 => ?_) (fun h14 => ?_)
  · refine mm_iload_n dX13_after_21 rfl rfl ?_
    refine mm_iconst dX13_after_22 rfl ?_
    refine mm_icne dX13_after_23 (by omega) (by omega) (fun h23 => ?_) (fun h23 => ?_)
    · refine mm_iload_n dX13_after_30 rfl rfl ?_
      refine mm_iconst dX13_after_31 rfl ?_
      refine mm_icne dX13_after_32 (by omega) (by omega) (fun h32 => ?_) (fun h32 => ?_)
      · refine mm_iload_n dX13_after_44 rfl rfl ?_
        refine mm_iconst dX13_after_45 rfl ?_
        refine mm_icne dX13_after_46 (by omega) (by omega) (fun h46 => ?_) (fun h46 => ?_)
        · refine mm_iconst dX13_after_59 rfl ?_
          refine mm_iadd dX13_after_60 rfl ?_
          refine mm_istore dX13_after_61 rfl (Nat.le_of_ble_eq_true rfl) rfl ?_
          refine mm_iload dX13_after_63 rfl rfl ?_
          refine mm_iload dX13_after_65 rfl rfl ?_
          refine mm_iconst dX13_after_67 rfl ?_
          refine mm_icne dX13_after_68 (by omega) (by omega) (fun h68 => ?_) (fun h68 => ?_)
          · refine mm_iload dX13_after_75 rfl rfl ?_
            refine mm_iconst dX13_after_77 rfl ?_
            refine mm_icne dX13_after_78 (by omega) (by omega) (fun h78 => ?_) (fun h78 => ?_)
            · refine mm_iconst dX13_after_85 rfl ?_
              refine mm_aload_n dX13_after_86 rfl rfl ?_
              refine mm_getr dX13_after_87 rfl fl_X13_151 (c := 183) rfl (by decide) rfl rfl (hR.at (c := 183) (i := 10) (v := 187) rfl (by decide)) ?_
              refine mm_iconst dX13_after_90 rfl ?_
              refine mm_ialk (k0 := 0) dX13_after_91 rfl (c := 186) rfl (by decide) rfl rfl (by decide) ?_
              refine mm_imul dX13_after_92 rfl ?_
              refine mm_aload_n dX13_after_93 rfl rfl ?_
              refine mm_getr dX13_after_94 rfl fl_X13_151 (c := 183) rfl (by decide) rfl rfl (hR.at (c := 183) (i := 10) (v := 187) rfl (by decide)) ?_
              refine mm_iconst dX13_after_97 rfl ?_
              refine mm_ialk (k0 := 1) dX13_after_98 rfl (c := 186) rfl (by decide) rfl rfl (by decide) ?_
              refine mm_imul dX13_after_99 rfl ?_
              refine mm_iadd dX13_after_100 rfl ?_
              refine mm_iret dX13_after_101 rfl rfl ?_
              exact mm_fin (by unfold ks_to ks_ms ks_ds; rw [e0, e1]; simp [*, Int.neg_mul]) rfl
            · refine mm_iconst dX13_after_81 rfl ?_
              refine mm_goto dX13_after_82 ?_
              refine mm_aload_n dX13_after_86 rfl rfl ?_
              refine mm_getr dX13_after_87 rfl fl_X13_151 (c := 183) rfl (by decide) rfl rfl (hR.at (c := 183) (i := 10) (v := 187) rfl (by decide)) ?_
              refine mm_iconst dX13_after_90 rfl ?_
              refine mm_ialk (k0 := 0) dX13_after_91 rfl (c := 186) rfl (by decide) rfl rfl (by decide) ?_
              refine mm_imul dX13_after_92 rfl ?_
              refine mm_aload_n dX13_after_93 rfl rfl ?_
              refine mm_getr dX13_after_94 rfl fl_X13_151 (c := 183) rfl (by decide) rfl rfl (hR.at (c := 183) (i := 10) (v := 187) rfl (by decide)) ?_
              refine mm_iconst dX13_after_97 rfl ?_
              refine mm_ialk (k0 := 1) dX13_after_98 rfl (c := 186) rfl (by decide) rfl rfl (by decide) ?_
              refine mm_imul dX13_after_99 rfl ?_
              refine mm_iadd dX13_after_100 rfl ?_
              refine mm_iret dX13_after_101 rfl rfl ?_
              exact mm_fin (by unfold ks_to ks_ms ks_ds; rw [e0, e1]; simp [*, Int.neg_mul]) rfl
          · refine mm_iconst dX13_after_71 rfl ?_
            refine mm_goto dX13_after_72 ?_
            refine mm_aload_n dX13_after_86 rfl rfl ?_
            refine mm_getr dX13_after_87 rfl fl_X13_151 (c := 183) rfl (by decide) rfl rfl (hR.at (c := 183) (i := 10) (v := 187) rfl (by decide)) ?_
            refine mm_iconst dX13_after_90 rfl ?_
            refine mm_ialk (k0 := 0) dX13_after_91 rfl (c := 186) rfl (by decide) rfl rfl (by decide) ?_
            refine mm_imul dX13_after_92 rfl ?_
            refine mm_aload_n dX13_after_93 rfl rfl ?_
            refine mm_getr dX13_after_94 rfl fl_X13_151 (c := 183) rfl (by decide) rfl rfl (hR.at (c := 183) (i := 10) (v := 187) rfl (by decide)) ?_
            refine mm_iconst dX13_after_97 rfl ?_
            refine mm_ialk (k0 := 1) dX13_after_98 rfl (c := 186) rfl (by decide) rfl rfl (by decide) ?_
            refine mm_imul dX13_after_99 rfl ?_
            refine mm_iadd dX13_after_100 rfl ?_
            refine mm_iret dX13_after_101 rfl rfl ?_
            exact mm_fin (by unfold ks_to ks_ms ks_ds; rw [e0, e1]; simp [*, Int.neg_mul]) rfl
        · refine mm_aload_n dX13_after_49 rfl rfl ?_
          refine mm_getr dX13_after_50 rfl fl_X13_151 (c := 183) rfl (by decide) rfl rfl (hR.at (c := 183) (i := 10) (v := 187) rfl (by decide)) ?_
          refine mm_iconst dX13_after_53 rfl ?_
          refine mm_ialk (k0 := 0) dX13_after_54 rfl (c := 186) rfl (by decide) rfl rfl (by decide) ?_
          refine mm_ineg dX13_after_55 rfl ?_
          refine mm_goto dX13_after_56 ?_
          refine mm_iadd dX13_after_60 rfl ?_
          refine mm_istore dX13_after_61 rfl (Nat.le_of_ble_eq_true rfl) rfl ?_
          refine mm_iload dX13_after_63 rfl rfl ?_
          refine mm_iload dX13_after_65 rfl rfl ?_
          refine mm_iconst dX13_after_67 rfl ?_
          refine mm_icne dX13_after_68 (by omega) (by omega) (fun h68 => ?_) (fun h68 => ?_)
          · refine mm_iload dX13_after_75 rfl rfl ?_
            refine mm_iconst dX13_after_77 rfl ?_
            refine mm_icne dX13_after_78 (by omega) (by omega) (fun h78 => ?_) (fun h78 => ?_)
            · refine mm_iconst dX13_after_85 rfl ?_
              refine mm_aload_n dX13_after_86 rfl rfl ?_
              refine mm_getr dX13_after_87 rfl fl_X13_151 (c := 183) rfl (by decide) rfl rfl (hR.at (c := 183) (i := 10) (v := 187) rfl (by decide)) ?_
              refine mm_iconst dX13_after_90 rfl ?_
              refine mm_ialk (k0 := 0) dX13_after_91 rfl (c := 186) rfl (by decide) rfl rfl (by decide) ?_
              refine mm_imul dX13_after_92 rfl ?_
              refine mm_aload_n dX13_after_93 rfl rfl ?_
              refine mm_getr dX13_after_94 rfl fl_X13_151 (c := 183) rfl (by decide) rfl rfl (hR.at (c := 183) (i := 10) (v := 187) rfl (by decide)) ?_
              refine mm_iconst dX13_after_97 rfl ?_
              refine mm_ialk (k0 := 1) dX13_after_98 rfl (c := 186) rfl (by decide) rfl rfl (by decide) ?_
              refine mm_imul dX13_after_99 rfl ?_
              refine mm_iadd dX13_after_100 rfl ?_
              refine mm_iret dX13_after_101 rfl rfl ?_
              exact mm_fin (by unfold ks_to ks_ms ks_ds; rw [e0, e1]; simp [*, Int.neg_mul]) rfl
            · refine mm_iconst dX13_after_81 rfl ?_
              refine mm_goto dX13_after_82 ?_
              refine mm_aload_n dX13_after_86 rfl rfl ?_
              refine mm_getr dX13_after_87 rfl fl_X13_151 (c := 183) rfl (by decide) rfl rfl (hR.at (c := 183) (i := 10) (v := 187) rfl (by decide)) ?_
              refine mm_iconst dX13_after_90 rfl ?_
              refine mm_ialk (k0 := 0) dX13_after_91 rfl (c := 186) rfl (by decide) rfl rfl (by decide) ?_
              refine mm_imul dX13_after_92 rfl ?_
              refine mm_aload_n dX13_after_93 rfl rfl ?_
              refine mm_getr dX13_after_94 rfl fl_X13_151 (c := 183) rfl (by decide) rfl rfl (hR.at (c := 183) (i := 10) (v := 187) rfl (by decide)) ?_
              refine mm_iconst dX13_after_97 rfl ?_
              refine mm_ialk (k0 := 1) dX13_after_98 rfl (c := 186) rfl (by decide) rfl rfl (by decide) ?_
              refine mm_imul dX13_after_99 rfl ?_
              refine mm_iadd dX13_after_100 rfl ?_
              refine mm_iret dX13_after_101 rfl rfl ?_
              exact mm_fin (by unfold ks_to ks_ms ks_ds; rw [e0, e1]; simp [*, Int.neg_mul]) rfl
          · refine mm_iconst dX13_after_71 rfl ?_
            refine mm_goto dX13_after_72 ?_
            refine mm_aload_n dX13_after_86 rfl rfl ?_
            refine mm_getr dX13_after_87 rfl fl_X13_151 (c := 183) rfl (by decide) rfl rfl (hR.at (c := 183) (i := 10) (v := 187) rfl (by decide)) ?_
            refine mm_iconst dX13_after_90 rfl ?_
            refine mm_ialk (k0 := 0) dX13_after_91 rfl (c := 186) rfl (by decide) rfl rfl (by decide) ?_
            refine mm_imul dX13_after_92 rfl ?_
            refine mm_aload_n dX13_after_93 rfl rfl ?_
            refine mm_getr dX13_after_94 rfl fl_X13_151 (c := 183) rfl (by decide) rfl rfl (hR.at (c := 183) (i := 10) (v := 187) rfl (by decide)) ?_
            refine mm_iconst dX13_after_97 rfl ?_
            refine mm_ialk (k0 := 1) dX13_after_98 rfl (c := 186) rfl (by decide) rfl rfl (by decide) ?_
            refine mm_imul dX13_after_99 rfl ?_
            refine mm_iadd dX13_after_100 rfl ?_
            refine mm_iret dX13_after_101 rfl rfl ?_
            exact mm_fin (by unfold ks_to ks_ms ks_ds; rw [e0, e1]; simp [*, Int.neg_mul]) rfl
      · refine mm_aload_n dX13_after_35 rfl rfl ?_
        refine mm_getr dX13_after_36 rfl fl_X13_151 (c := 183) rfl (by decide) rfl rfl (hR.at (c := 183) (i := 10) (v := 187) rfl (by decide)) ?_
        refine mm_iconst dX13_after_39 rfl ?_
        refine mm_ialk (k0 := 0) dX13_after_40 rfl (c := 186) rfl (by decide) rfl rfl (by decide) ?_
        refine mm_goto dX13_after_41 ?_
        refine mm_iadd dX13_after_60 rfl ?_
        refine mm_istore dX13_after_61 rfl (Nat.le_of_ble_eq_true rfl) rfl ?_
        refine mm_iload dX13_after_63 rfl rfl ?_
        refine mm_iload dX13_after_65 rfl rfl ?_
        refine mm_iconst dX13_after_67 rfl ?_
        refine mm_icne dX13_after_68 (by omega) (by omega) (fun h68 => ?_) (fun h68 => ?_)
        · refine mm_iload dX13_after_75 rfl rfl ?_
          refine mm_iconst dX13_after_77 rfl ?_
          refine mm_icne dX13_after_78 (by omega) (by omega) (fun h78 => ?_) (fun h78 => ?_)
          · refine mm_iconst dX13_after_85 rfl ?_
            refine mm_aload_n dX13_after_86 rfl rfl ?_
            refine mm_getr dX13_after_87 rfl fl_X13_151 (c := 183) rfl (by decide) rfl rfl (hR.at (c := 183) (i := 10) (v := 187) rfl (by decide)) ?_
            refine mm_iconst dX13_after_90 rfl ?_
            refine mm_ialk (k0 := 0) dX13_after_91 rfl (c := 186) rfl (by decide) rfl rfl (by decide) ?_
            refine mm_imul dX13_after_92 rfl ?_
            refine mm_aload_n dX13_after_93 rfl rfl ?_
            refine mm_getr dX13_after_94 rfl fl_X13_151 (c := 183) rfl (by decide) rfl rfl (hR.at (c := 183) (i := 10) (v := 187) rfl (by decide)) ?_
            refine mm_iconst dX13_after_97 rfl ?_
            refine mm_ialk (k0 := 1) dX13_after_98 rfl (c := 186) rfl (by decide) rfl rfl (by decide) ?_
            refine mm_imul dX13_after_99 rfl ?_
            refine mm_iadd dX13_after_100 rfl ?_
            refine mm_iret dX13_after_101 rfl rfl ?_
            exact mm_fin (by unfold ks_to ks_ms ks_ds; rw [e0, e1]; simp [*, Int.neg_mul]) rfl
          · refine mm_iconst dX13_after_81 rfl ?_
            refine mm_goto dX13_after_82 ?_
            refine mm_aload_n dX13_after_86 rfl rfl ?_
            refine mm_getr dX13_after_87 rfl fl_X13_151 (c := 183) rfl (by decide) rfl rfl (hR.at (c := 183) (i := 10) (v := 187) rfl (by decide)) ?_
            refine mm_iconst dX13_after_90 rfl ?_
            refine mm_ialk (k0 := 0) dX13_after_91 rfl (c := 186) rfl (by decide) rfl rfl (by decide) ?_
            refine mm_imul dX13_after_92 rfl ?_
            refine mm_aload_n dX13_after_93 rfl rfl ?_
            refine mm_getr dX13_after_94 rfl fl_X13_151 (c := 183) rfl (by decide) rfl rfl (hR.at (c := 183) (i := 10) (v := 187) rfl (by decide)) ?_
            refine mm_iconst dX13_after_97 rfl ?_
            refine mm_ialk (k0 := 1) dX13_after_98 rfl (c := 186) rfl (by decide) rfl rfl (by decide) ?_
            refine mm_imul dX13_after_99 rfl ?_
            refine mm_iadd dX13_after_100 rfl ?_
            refine mm_iret dX13_after_101 rfl rfl ?_
            exact mm_fin (by unfold ks_to ks_ms ks_ds; rw [e0, e1]; simp [*, Int.neg_mul]) rfl
        · refine mm_iconst dX13_after_71 rfl ?_
          refine mm_goto dX13_after_72 ?_
          refine mm_aload_n dX13_after_86 rfl rfl ?_
          refine mm_getr dX13_after_87 rfl fl_X13_151 (c := 183) rfl (by decide) rfl rfl (hR.at (c := 183) (i := 10) (v := 187) rfl (by decide)) ?_
          refine mm_iconst dX13_after_90 rfl ?_
          refine mm_ialk (k0 := 0) dX13_after_91 rfl (c := 186) rfl (by decide) rfl rfl (by decide) ?_
          refine mm_imul dX13_after_92 rfl ?_
          refine mm_aload_n dX13_after_93 rfl rfl ?_
          refine mm_getr dX13_after_94 rfl fl_X13_151 (c := 183) rfl (by decide) rfl rfl (hR.at (c := 183) (i := 10) (v := 187) rfl (by decide)) ?_
          refine mm_iconst dX13_after_97 rfl ?_
          refine mm_ialk (k0 := 1) dX13_after_98 rfl (c := 186) rfl (by decide) rfl rfl (by decide) ?_
          refine mm_imul dX13_after_99 rfl ?_
          refine mm_iadd dX13_after_100 rfl ?_
          refine mm_iret dX13_after_101 rfl rfl ?_
          exact mm_fin (by unfold ks_to ks_ms ks_ds; rw [e0, e1]; simp [*, Int.neg_mul]) rfl
    · refine mm_iconst dX13_after_26 rfl ?_
      refine mm_goto dX13_after_27 ?_
      refine mm_iadd dX13_after_60 rfl ?_
      refine mm_istore dX13_after_61 rfl (Nat.le_of_ble_eq_true rfl) rfl ?_
      refine mm_iload dX13_after_63 rfl rfl ?_
      refine mm_iload dX13_after_65 rfl rfl ?_
      refine mm_iconst dX13_after_67 rfl ?_
      refine mm_icne dX13_after_68 (by omega) (by omega) (fun h68 => ?_) (fun h68 => ?_)
      · refine mm_iload dX13_after_75 rfl rfl ?_
        refine mm_iconst dX13_after_77 rfl ?_
        refine mm_icne dX13_after_78 (by omega) (by omega) (fun h78 => ?_) (fun h78 => ?_)
        · refine mm_iconst dX13_after_85 rfl ?_
          refine mm_aload_n dX13_after_86 rfl rfl ?_
          refine mm_getr dX13_after_87 rfl fl_X13_151 (c := 183) rfl (by decide) rfl rfl (hR.at (c := 183) (i := 10) (v := 187) rfl (by decide)) ?_
          refine mm_iconst dX13_after_90 rfl ?_
          refine mm_ialk (k0 := 0) dX13_after_91 rfl (c := 186) rfl (by decide) rfl rfl (by decide) ?_
          refine mm_imul dX13_after_92 rfl ?_
          refine mm_aload_n dX13_after_93 rfl rfl ?_
          refine mm_getr dX13_after_94 rfl fl_X13_151 (c := 183) rfl (by decide) rfl rfl (hR.at (c := 183) (i := 10) (v := 187) rfl (by decide)) ?_
          refine mm_iconst dX13_after_97 rfl ?_
          refine mm_ialk (k0 := 1) dX13_after_98 rfl (c := 186) rfl (by decide) rfl rfl (by decide) ?_
          refine mm_imul dX13_after_99 rfl ?_
          refine mm_iadd dX13_after_100 rfl ?_
          refine mm_iret dX13_after_101 rfl rfl ?_
          exact mm_fin (by unfold ks_to ks_ms ks_ds; rw [e0, e1]; simp [*, Int.neg_mul]) rfl
        · refine mm_iconst dX13_after_81 rfl ?_
          refine mm_goto dX13_after_82 ?_
          refine mm_aload_n dX13_after_86 rfl rfl ?_
          refine mm_getr dX13_after_87 rfl fl_X13_151 (c := 183) rfl (by decide) rfl rfl (hR.at (c := 183) (i := 10) (v := 187) rfl (by decide)) ?_
          refine mm_iconst dX13_after_90 rfl ?_
          refine mm_ialk (k0 := 0) dX13_after_91 rfl (c := 186) rfl (by decide) rfl rfl (by decide) ?_
          refine mm_imul dX13_after_92 rfl ?_
          refine mm_aload_n dX13_after_93 rfl rfl ?_
          refine mm_getr dX13_after_94 rfl fl_X13_151 (c := 183) rfl (by decide) rfl rfl (hR.at (c := 183) (i := 10) (v := 187) rfl (by decide)) ?_
          refine mm_iconst dX13_after_97 rfl ?_
          refine mm_ialk (k0 := 1) dX13_after_98 rfl (c := 186) rfl (by decide) rfl rfl (by decide) ?_
          refine mm_imul dX13_after_99 rfl ?_
          refine mm_iadd dX13_after_100 rfl ?_
          refine mm_iret dX13_after_101 rfl rfl ?_
          exact mm_fin (by unfold ks_to ks_ms ks_ds; rw [e0, e1]; simp [*, Int.neg_mul]) rfl
      · refine mm_iconst dX13_after_71 rfl ?_
        refine mm_goto dX13_after_72 ?_
        refine mm_aload_n dX13_after_86 rfl rfl ?_
        refine mm_getr dX13_after_87 rfl fl_X13_151 (c := 183) rfl (by decide) rfl rfl (hR.at (c := 183) (i := 10) (v := 187) rfl (by decide)) ?_
        refine mm_iconst dX13_after_90 rfl ?_
        refine mm_ialk (k0 := 0) dX13_after_91 rfl (c := 186) rfl (by decide) rfl rfl (by decide) ?_
        refine mm_imul dX13_after_92 rfl ?_
        refine mm_aload_n dX13_after_93 rfl rfl ?_
        refine mm_getr dX13_after_94 rfl fl_X13_151 (c := 183) rfl (by decide) rfl rfl (hR.at (c := 183) (i := 10) (v := 187) rfl (by decide)) ?_
        refine mm_iconst dX13_after_97 rfl ?_
        refine mm_ialk (k0 := 1) dX13_after_98 rfl (c := 186) rfl (by decide) rfl rfl (by decide) ?_
        refine mm_imul dX13_after_99 rfl ?_
        refine mm_iadd dX13_after_100 rfl ?_
        refine mm_iret dX13_after_101 rfl rfl ?_
        exact mm_fin (by unfold ks_to ks_ms ks_ds; rw [e0, e1]; simp [*, Int.neg_mul]) rfl
  · refine mm_iconst dX13_after_17 rfl ?_
    refine mm_goto dX13_after_18 ?_
    refine mm_iadd dX13_after_60 rfl ?_
    refine mm_istore dX13_after_61 rfl (Nat.le_of_ble_eq_true rfl) rfl ?_
    refine mm_iload dX13_after_63 rfl rfl ?_
    refine mm_iload dX13_after_65 rfl rfl ?_
    refine mm_iconst dX13_after_67 rfl ?_
    refine mm_icne dX13_after_68 (by omega) (by omega) (fun h68 => ?_) (fun h68 => ?_)
    · refine mm_iload dX13_after_75 rfl rfl ?_
      refine mm_iconst dX13_after_77 rfl ?_
      refine mm_icne dX13_after_78 (by omega) (by omega) (fun h78 => ?_) (fun h78 => ?_)
      · refine mm_iconst dX13_after_85 rfl ?_
        refine mm_aload_n dX13_after_86 rfl rfl ?_
        refine mm_getr dX13_after_87 rfl fl_X13_151 (c := 183) rfl (by decide) rfl rfl (hR.at (c := 183) (i := 10) (v := 187) rfl (by decide)) ?_
        refine mm_iconst dX13_after_90 rfl ?_
        refine mm_ialk (k0 := 0) dX13_after_91 rfl (c := 186) rfl (by decide) rfl rfl (by decide) ?_
        refine mm_imul dX13_after_92 rfl ?_
        refine mm_aload_n dX13_after_93 rfl rfl ?_
        refine mm_getr dX13_after_94 rfl fl_X13_151 (c := 183) rfl (by decide) rfl rfl (hR.at (c := 183) (i := 10) (v := 187) rfl (by decide)) ?_
        refine mm_iconst dX13_after_97 rfl ?_
        refine mm_ialk (k0 := 1) dX13_after_98 rfl (c := 186) rfl (by decide) rfl rfl (by decide) ?_
        refine mm_imul dX13_after_99 rfl ?_
        refine mm_iadd dX13_after_100 rfl ?_
        refine mm_iret dX13_after_101 rfl rfl ?_
        exact mm_fin (by unfold ks_to ks_ms ks_ds; rw [e0, e1]; simp [*, Int.neg_mul]) rfl
      · refine mm_iconst dX13_after_81 rfl ?_
        refine mm_goto dX13_after_82 ?_
        refine mm_aload_n dX13_after_86 rfl rfl ?_
        refine mm_getr dX13_after_87 rfl fl_X13_151 (c := 183) rfl (by decide) rfl rfl (hR.at (c := 183) (i := 10) (v := 187) rfl (by decide)) ?_
        refine mm_iconst dX13_after_90 rfl ?_
        refine mm_ialk (k0 := 0) dX13_after_91 rfl (c := 186) rfl (by decide) rfl rfl (by decide) ?_
        refine mm_imul dX13_after_92 rfl ?_
        refine mm_aload_n dX13_after_93 rfl rfl ?_
        refine mm_getr dX13_after_94 rfl fl_X13_151 (c := 183) rfl (by decide) rfl rfl (hR.at (c := 183) (i := 10) (v := 187) rfl (by decide)) ?_
        refine mm_iconst dX13_after_97 rfl ?_
        refine mm_ialk (k0 := 1) dX13_after_98 rfl (c := 186) rfl (by decide) rfl rfl (by decide) ?_
        refine mm_imul dX13_after_99 rfl ?_
        refine mm_iadd dX13_after_100 rfl ?_
        refine mm_iret dX13_after_101 rfl rfl ?_
        exact mm_fin (by unfold ks_to ks_ms ks_ds; rw [e0, e1]; simp [*, Int.neg_mul]) rfl
    · refine mm_iconst dX13_after_71 rfl ?_
      refine mm_goto dX13_after_72 ?_
      refine mm_aload_n dX13_after_86 rfl rfl ?_
      refine mm_getr dX13_after_87 rfl fl_X13_151 (c := 183) rfl (by decide) rfl rfl (hR.at (c := 183) (i := 10) (v := 187) rfl (by decide)) ?_
      refine mm_iconst dX13_after_90 rfl ?_
      refine mm_ialk (k0 := 0) dX13_after_91 rfl (c := 186) rfl (by decide) rfl rfl (by decide) ?_
      refine mm_imul dX13_after_92 rfl ?_
      refine mm_aload_n dX13_after_93 rfl rfl ?_
      refine mm_getr dX13_after_94 rfl fl_X13_151 (c := 183) rfl (by decide) rfl rfl (hR.at (c := 183) (i := 10) (v := 187) rfl (by decide)) ?_
      refine mm_iconst dX13_after_97 rfl ?_
      refine mm_ialk (k0 := 1) dX13_after_98 rfl (c := 186) rfl (by decide) rfl rfl (by decide) ?_
      refine mm_imul dX13_after_99 rfl ?_
      refine mm_iadd dX13_after_100 rfl ?_
      refine mm_iret dX13_after_101 rfl rfl ?_
      exact mm_fin (by unfold ks_to ks_ms ks_ds; rw [e0, e1]; simp [*, Int.neg_mul]) rfl
end

