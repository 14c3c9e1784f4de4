/-! ===== KitePower: small questions and simple calls ===== -/
section
variable {X : mm_X} {M : mm_M} {s a m w d p h sh x y z n k l u v t : Int}
theorem c_X11_isBand (hx : mm_R x) : mm_Fn X Y_X11_isBand 243 [(0, x)] M (0, mm_b (0 ≤ x ∧ x ≤ 4)) M := by
  refine mm_startF (ls := [(0, x)]) rfl ?_
  refine mm_iload_n dX11_isBand_0 rfl rfl ?_
  refine mm_iconst dX11_isBand_1 rfl ?_
  refine mm_iconst dX11_isBand_2 rfl ?_
  refine mm_S3i dX11_isBand_3 rfl lk_X11_171 (by simp) (by simp) (by simp) rfl rfl rfl (c_X11_isWithin hx (by omega) (by omega)) ?_
  refine mm_zret dX11_isBand_6 rfl rfl (mm_b_01 _) ?_
  exact mm_fin rfl rfl
theorem c_X11_isStep (hx : mm_R x) : mm_Fn X Y_X11_isStep 243 [(0, x)] M (0, mm_b (0 ≤ x ∧ x ≤ 999)) M := by
  refine mm_startF (ls := [(0, x)]) rfl ?_
  refine mm_iload_n dX11_isStep_0 rfl rfl ?_
  refine mm_iconst dX11_isStep_1 rfl ?_
  refine mm_sipush dX11_isStep_2 rfl (by decide) ?_
  refine mm_S3i dX11_isStep_5 rfl lk_X11_171 (by simp) (by simp) (by simp) rfl rfl rfl (c_X11_isWithin hx (by omega) (by omega)) ?_
  refine mm_zret dX11_isStep_8 rfl rfl (mm_b_01 _) ?_
  exact mm_fin rfl rfl
theorem c_X11_isSlot (hx : mm_R x) : mm_Fn X Y_X11_isSlot 243 [(0, x)] M (0, mm_b (0 ≤ x ∧ x ≤ 5)) M := by
  refine mm_startF (ls := [(0, x)]) rfl ?_
  refine mm_iload_n dX11_isSlot_0 rfl rfl ?_
  refine mm_iconst dX11_isSlot_1 rfl ?_
  refine mm_iconst dX11_isSlot_2 rfl ?_
  refine mm_S3i dX11_isSlot_3 rfl lk_X11_171 (by simp) (by simp) (by simp) rfl rfl rfl (c_X11_isWithin hx (by omega) (by omega)) ?_
  refine mm_zret dX11_isSlot_6 rfl rfl (mm_b_01 _) ?_
  exact mm_fin rfl rfl
theorem c_X11_isSite (hx : mm_R x) : mm_Fn X Y_X11_isSite 243 [(0, x)] M (0, mm_b (0 ≤ x ∧ x ≤ 40)) M := by
  refine mm_startF (ls := [(0, x)]) rfl ?_
  refine mm_iload_n dX11_isSite_0 rfl rfl ?_
  refine mm_iconst dX11_isSite_1 rfl ?_
  refine mm_bipush dX11_isSite_2 rfl (by decide) ?_
  refine mm_S3i dX11_isSite_4 rfl lk_X11_171 (by simp) (by simp) (by simp) rfl rfl rfl (c_X11_isWithin hx (by omega) (by omega)) ?_
  refine mm_zret dX11_isSite_7 rfl rfl (mm_b_01 _) ?_
  exact mm_fin rfl rfl
theorem c_X11_isEach (hx : mm_R x) : mm_Fn X Y_X11_isEach 243 [(0, x)] M (0, mm_b (1 ≤ x ∧ x ≤ 60)) M := by
  refine mm_startF (ls := [(0, x)]) rfl ?_
  refine mm_iload_n dX11_isEach_0 rfl rfl ?_
  refine mm_iconst dX11_isEach_1 rfl ?_
  refine mm_bipush dX11_isEach_2 rfl (by decide) ?_
  refine mm_S3i dX11_isEach_4 rfl lk_X11_171 (by simp) (by simp) (by simp) rfl rfl rfl (c_X11_isWithin hx (by omega) (by omega)) ?_
  refine mm_zret dX11_isEach_7 rfl rfl (mm_b_01 _) ?_
  exact mm_fin rfl rfl
theorem c_X11_isCost (hx : mm_R x) : mm_Fn X Y_X11_isCost 243 [(0, x)] M (0, mm_b (0 ≤ x ∧ x ≤ 1000000)) M := by
  refine mm_startF (ls := [(0, x)]) rfl ?_
  refine mm_iload_n dX11_isCost_0 rfl rfl ?_
  refine mm_iconst dX11_isCost_1 rfl ?_
  refine mm_ldcw dX11_isCost_2 rfl kc_X11_281 ?_
  refine mm_S3i dX11_isCost_5 rfl lk_X11_171 (by simp) (by simp) (by simp) rfl rfl rfl (c_X11_isWithin hx (by omega) (by omega)) ?_
  refine mm_zret dX11_isCost_8 rfl rfl (mm_b_01 _) ?_
  exact mm_fin rfl rfl
theorem c_X11_canAsk (hR : mm_Rf M) (hK : mm_CK M) (hs : mm_R s) (ha : mm_R a) (hh : mm_R h) : mm_Fn X Y_X11_canAsk 243 [(2, 1), (0, s), (0, a), (0, h)] M (0, mm_b (ks_st (M 4) s ∧ ks_ac (M 4) a ∧ ks_hr h)) M := by
  refine mm_startF (ls := [(2, 1), (0, s), (0, a), (0, h)]) rfl ?_
  refine mm_aload_n dX11_canAsk_0 rfl rfl ?_
  refine mm_getr dX11_canAsk_1 rfl fl_X11_19 (c := 0) rfl (by decide) rfl rfl (hR.at (c := 0) (i := 1) (v := 4) rfl (by decide)) ?_
  refine mm_iload_n dX11_canAsk_4 rfl rfl ?_
  refine mm_V1i dX11_canAsk_5 rfl lk_X11_139 (c := 3) rfl (by decide) rfl (by simp) rfl rfl rfl (c_X4_hasState hR hK hs) ?_
  refine mm_ifeqb dX11_canAsk_8 (fun h8 => ?_) (fun h8 => ?_)
  · refine mm_iconst dX11_canAsk_33 rfl ?_
    refine mm_zret dX11_canAsk_34 rfl rfl (Or.inl rfl) ?_
    first
    | exact mm_fin (mm_b1 ⟨h8, h19, h26⟩) rfl
    | exact mm_fin (mm_b0 (fun q => h8 q.1)) rfl
    | exact mm_fin (mm_b0 (fun q => h19 q.2.1)) rfl
    | exact mm_fin (mm_b0 (fun q => h26 q.2.2)) rfl
  · refine mm_aload_n dX11_canAsk_11 rfl rfl ?_
    refine mm_getr dX11_canAsk_12 rfl fl_X11_19 (c := 0) rfl (by decide) rfl rfl (hR.at (c := 0) (i := 1) (v := 4) rfl (by decide)) ?_
    refine mm_iload_n dX11_canAsk_15 rfl rfl ?_
    refine mm_V1i dX11_canAsk_16 rfl lk_X11_158 (c := 3) rfl (by decide) rfl (by simp) rfl rfl rfl (c_X4_hasAct hR hK ha) ?_
    refine mm_ifeqb dX11_canAsk_19 (fun h19 => ?_) (fun h19 => ?_)
    · refine mm_iconst dX11_canAsk_33 rfl ?_
      refine mm_zret dX11_canAsk_34 rfl rfl (Or.inl rfl) ?_
      first
      | exact mm_fin (mm_b1 ⟨h8, h19, h26⟩) rfl
      | exact mm_fin (mm_b0 (fun q => h8 q.1)) rfl
      | exact mm_fin (mm_b0 (fun q => h19 q.2.1)) rfl
      | exact mm_fin (mm_b0 (fun q => h26 q.2.2)) rfl
    · refine mm_iload_n dX11_canAsk_22 rfl rfl ?_
      refine mm_S1i dX11_canAsk_23 rfl lk_X11_165 (by simp) rfl rfl rfl (c_X11_isHour hh) ?_
      refine mm_ifeqb dX11_canAsk_26 (fun h26 => ?_) (fun h26 => ?_)
      · refine mm_iconst dX11_canAsk_33 rfl ?_
        refine mm_zret dX11_canAsk_34 rfl rfl (Or.inl rfl) ?_
        first
        | exact mm_fin (mm_b1 ⟨h8, h19, h26⟩) rfl
        | exact mm_fin (mm_b0 (fun q => h8 q.1)) rfl
        | exact mm_fin (mm_b0 (fun q => h19 q.2.1)) rfl
        | exact mm_fin (mm_b0 (fun q => h26 q.2.2)) rfl
      · refine mm_iconst dX11_canAsk_29 rfl ?_
        refine mm_goto dX11_canAsk_30 ?_
        refine mm_zret dX11_canAsk_34 rfl rfl (Or.inr rfl) ?_
        first
        | exact mm_fin (mm_b1 ⟨h8, h19, h26⟩) rfl
        | exact mm_fin (mm_b0 (fun q => h8 q.1)) rfl
        | exact mm_fin (mm_b0 (fun q => h19 q.2.1)) rfl
        | exact mm_fin (mm_b0 (fun q => h26 q.2.2)) rfl
theorem c_X11_canRead (hR : mm_Rf M) (hl : 0 ≤ M 174 4 ∧ M 174 4 ≤ 999) (ht : mm_R t) (hx : mm_R x) (hy : mm_R y) : mm_Fn X Y_X11_canRead 243 [(2, 1), (0, t), (0, x), (0, y)] M (0, mm_b ((0 ≤ x ∧ x ≤ y ∧ y ≤ 99999999) ∧ M 174 4 ≤ t ∧ t ≤ 999)) M := by
  refine mm_startF (ls := [(2, 1), (0, t), (0, x), (0, y), (9, 0)]) rfl ?_
  refine mm_iload_n dX11_canRead_0 rfl rfl ?_
  refine mm_iconst dX11_canRead_1 rfl ?_
  refine mm_iload_n dX11_canRead_2 rfl rfl ?_
  refine mm_S3i dX11_canRead_3 rfl lk_X11_171 (by simp) (by simp) (by simp) rfl rfl rfl (c_X11_isWithin (by omega) (by omega) (by omega)) ?_
  refine mm_ifeqb dX11_canRead_6 (fun h6 => ?_) (fun h6 => ?_)
  · refine mm_iconst dX11_canRead_20 rfl ?_
    refine mm_istore dX11_canRead_21 rfl (Nat.le_of_ble_eq_true rfl) rfl ?_
    refine mm_iload dX11_canRead_23 rfl rfl ?_
    refine mm_ifeq dX11_canRead_25 (by omega) (fun _ => ?_) (fun h => absurd (by decide) h)
    refine mm_iconst dX11_canRead_49 rfl ?_
    refine mm_zret dX11_canRead_50 rfl rfl (Or.inl rfl) ?_
    refine mm_fin ?_ rfl
    unfold mm_b
    split <;> omega
  · refine mm_iload_n dX11_canRead_9 rfl rfl ?_
    refine mm_ldcw dX11_canRead_10 rfl kc_X11_375 ?_
    refine mm_icgt dX11_canRead_13 (by omega) (by omega) (fun h13 => ?_) (fun h13 => ?_)
    · refine mm_iconst dX11_canRead_20 rfl ?_
      refine mm_istore dX11_canRead_21 rfl (Nat.le_of_ble_eq_true rfl) rfl ?_
      refine mm_iload dX11_canRead_23 rfl rfl ?_
      refine mm_ifeq dX11_canRead_25 (by omega) (fun _ => ?_) (fun h => absurd (by decide) h)
      refine mm_iconst dX11_canRead_49 rfl ?_
      refine mm_zret dX11_canRead_50 rfl rfl (Or.inl rfl) ?_
      refine mm_fin ?_ rfl
      unfold mm_b
      split <;> omega
    · refine mm_iconst dX11_canRead_16 rfl ?_
      refine mm_goto dX11_canRead_17 ?_
      refine mm_istore dX11_canRead_21 rfl (Nat.le_of_ble_eq_true rfl) rfl ?_
      refine mm_iload dX11_canRead_23 rfl rfl ?_
      refine mm_ifeq dX11_canRead_25 (by omega) (fun h => absurd h (by decide)) (fun _ => ?_)
      refine mm_iload_n dX11_canRead_28 rfl rfl ?_
      refine mm_aload_n dX11_canRead_29 rfl rfl ?_
      refine mm_getr dX11_canRead_30 rfl fl_X11_90 (c := 0) rfl (by decide) rfl rfl (hR.at (c := 0) (i := 11) (v := 175) rfl (by decide)) ?_
      refine mm_get (kd := 0) dX11_canRead_33 rfl fl_X11_376 (c := 174) rfl (by decide) rfl rfl ?_
      refine mm_sipush dX11_canRead_36 rfl (by decide) ?_
      refine mm_S3i dX11_canRead_39 rfl lk_X11_171 (by simp) (by simp) (by simp) rfl rfl rfl (c_X11_isWithin (by omega) (by omega) (by omega)) ?_
      refine mm_ifeqb dX11_canRead_42 (fun h42 => ?_) (fun h42 => ?_)
      · refine mm_iconst dX11_canRead_49 rfl ?_
        refine mm_zret dX11_canRead_50 rfl rfl (Or.inl rfl) ?_
        refine mm_fin ?_ rfl
        unfold mm_b
        split <;> omega
      · refine mm_iconst dX11_canRead_45 rfl ?_
        refine mm_goto dX11_canRead_46 ?_
        refine mm_zret dX11_canRead_50 rfl rfl (Or.inr rfl) ?_
        refine mm_fin ?_ rfl
        unfold mm_b
        split <;> omega
theorem c_X11_canPair (hx : mm_R x) (hy : mm_R y) (hu : mm_R u) (hv : mm_R v) : mm_Fn X Y_X11_canPair 243 [(2, 1), (0, x), (0, y), (0, u), (0, v)] M (0, mm_b ((0 ≤ x ∧ x ≤ 5) ∧ (0 ≤ y ∧ y ≤ 40) ∧ (0 ≤ u ∧ u ≤ 5) ∧ (0 ≤ v ∧ v ≤ 40))) M := by
  refine mm_startF (ls := [(2, 1), (0, x), (0, y), (0, u), (0, v)]) rfl ?_
  refine mm_iload_n dX11_canPair_0 rfl rfl ?_
  refine mm_S1i dX11_canPair_1 rfl lk_X11_254 (by simp) rfl rfl rfl (c_X11_isSlot (by omega)) ?_
  refine mm_ifeqb dX11_canPair_4 (fun h4 => ?_) (fun h4 => ?_)
  · refine mm_iconst dX11_canPair_33 rfl ?_
    refine mm_zret dX11_canPair_34 rfl rfl (Or.inl rfl) ?_
    refine mm_fin ?_ rfl
    unfold mm_b
    split <;> omega
  · refine mm_iload_n dX11_canPair_7 rfl rfl ?_
    refine mm_S1i dX11_canPair_8 rfl lk_X11_328 (by simp) rfl rfl rfl (c_X11_isSite (by omega)) ?_
    refine mm_ifeqb dX11_canPair_11 (fun h11 => ?_) (fun h11 => ?_)
    · refine mm_iconst dX11_canPair_33 rfl ?_
      refine mm_zret dX11_canPair_34 rfl rfl (Or.inl rfl) ?_
      refine mm_fin ?_ rfl
      unfold mm_b
      split <;> omega
    · refine mm_iload_n dX11_canPair_14 rfl rfl ?_
      refine mm_S1i dX11_canPair_15 rfl lk_X11_254 (by simp) rfl rfl rfl (c_X11_isSlot (by omega)) ?_
      refine mm_ifeqb dX11_canPair_18 (fun h18 => ?_) (fun h18 => ?_)
      · refine mm_iconst dX11_canPair_33 rfl ?_
        refine mm_zret dX11_canPair_34 rfl rfl (Or.inl rfl) ?_
        refine mm_fin ?_ rfl
        unfold mm_b
        split <;> omega
      · refine mm_iload dX11_canPair_21 rfl rfl ?_
        refine mm_S1i dX11_canPair_23 rfl lk_X11_328 (by simp) rfl rfl rfl (c_X11_isSite (by omega)) ?_
        refine mm_ifeqb dX11_canPair_26 (fun h26 => ?_) (fun h26 => ?_)
        · refine mm_iconst dX11_canPair_33 rfl ?_
          refine mm_zret dX11_canPair_34 rfl rfl (Or.inl rfl) ?_
          refine mm_fin ?_ rfl
          unfold mm_b
          split <;> omega
        · refine mm_iconst dX11_canPair_29 rfl ?_
          refine mm_goto dX11_canPair_30 ?_
          refine mm_zret dX11_canPair_34 rfl rfl (Or.inr rfl) ?_
          refine mm_fin ?_ rfl
          unfold mm_b
          split <;> omega
theorem c_X11_fault (hR : mm_Rf M) (hx : mm_R x) : mm_Fn X Y_X11_fault 243 [(2, 1), (0, x)] M (0, if x = 0 then M 1 2 else if x = 1 then M 1 3 else -1) M := by
  refine mm_startF (ls := [(2, 1), (0, x)]) rfl ?_
  refine mm_iload_n dX11_fault_0 rfl rfl ?_
  refine mm_ifne dX11_fault_1 (by omega) (fun h1 => ?_) (fun h1 => ?_)
  · refine mm_iload_n dX11_fault_12 rfl rfl ?_
    refine mm_iconst dX11_fault_13 rfl ?_
    refine mm_icne dX11_fault_14 (by omega) (by omega) (fun h14 => ?_) (fun h14 => ?_)
    · refine mm_iconst dX11_fault_27 rfl ?_
      refine mm_iret dX11_fault_28 rfl rfl ?_
      refine mm_fin ?_ rfl
      first
      | (rw [if_pos (by omega)]; done)
      | (rw [if_neg (by omega), if_pos (by omega)]; done)
      | (rw [if_neg (by omega), if_neg (by omega)]; done)
    · refine mm_aload_n dX11_fault_17 rfl rfl ?_
      refine mm_getr dX11_fault_18 rfl fl_X11_10 (c := 0) rfl (by decide) rfl rfl (hR.at (c := 0) (i := 0) (v := 2) rfl (by decide)) ?_
      refine mm_get (kd := 0) dX11_fault_21 rfl fl_X11_129 (c := 1) rfl (by decide) rfl rfl ?_
      refine mm_goto dX11_fault_24 ?_
      refine mm_iret dX11_fault_28 rfl rfl ?_
      refine mm_fin ?_ rfl
      first
      | (rw [if_pos (by omega)]; done)
      | (rw [if_neg (by omega), if_pos (by omega)]; done)
      | (rw [if_neg (by omega), if_neg (by omega)]; done)
  · refine mm_aload_n dX11_fault_4 rfl rfl ?_
    refine mm_getr dX11_fault_5 rfl fl_X11_10 (c := 0) rfl (by decide) rfl rfl (hR.at (c := 0) (i := 0) (v := 2) rfl (by decide)) ?_
    refine mm_get (kd := 0) dX11_fault_8 rfl fl_X11_126 (c := 1) rfl (by decide) rfl rfl ?_
    refine mm_iret dX11_fault_11 rfl rfl ?_
    refine mm_fin ?_ rfl
    first
    | (rw [if_pos (by omega)]; done)
    | (rw [if_neg (by omega), if_pos (by omega)]; done)
    | (rw [if_neg (by omega), if_neg (by omega)]; done)
theorem c_X11_told (hR : mm_Rf M) (hK : mm_CK M) (hx : mm_R x) : mm_Fn X Y_X11_told 243 [(2, 1), (0, x)] M (0, if x = 11 then M 18 1 else ks_told (M 4) x) M := by
  refine mm_startF (ls := [(2, 1), (0, x)]) rfl ?_
  refine mm_iload_n dX11_told_0 rfl rfl ?_
  refine mm_bipush dX11_told_1 rfl (by decide) ?_
  refine mm_icne dX11_told_3 (by omega) (by omega) (fun h3 => ?_) (fun h3 => ?_)
  · refine mm_aload_n dX11_told_16 rfl rfl ?_
    refine mm_getr dX11_told_17 rfl fl_X11_19 (c := 0) rfl (by decide) rfl rfl (hR.at (c := 0) (i := 1) (v := 4) rfl (by decide)) ?_
    refine mm_iload_n dX11_told_20 rfl rfl ?_
    refine mm_V1i dX11_told_21 rfl lk_X11_135 (c := 3) rfl (by decide) rfl (by simp) rfl rfl rfl (c_X4_fact hR hK hx) ?_
    refine mm_iret dX11_told_24 rfl rfl ?_
    refine mm_fin ?_ rfl
    first
    | (rw [if_pos (by omega)]; done)
    | (rw [if_neg (by omega)]; done)
  · refine mm_aload_n dX11_told_6 rfl rfl ?_
    refine mm_getr dX11_told_7 rfl fl_X11_35 (c := 0) rfl (by decide) rfl rfl (hR.at (c := 0) (i := 3) (v := 19) rfl (by decide)) ?_
    refine mm_get (kd := 0) dX11_told_10 rfl fl_X11_132 (c := 18) rfl (by decide) rfl rfl ?_
    refine mm_goto dX11_told_13 ?_
    refine mm_iret dX11_told_24 rfl rfl ?_
    refine mm_fin ?_ rfl
    first
    | (rw [if_pos (by omega)]; done)
    | (rw [if_neg (by omega)]; done)
def kv_state (K : Nat → Int) (s x : Int) : Int := if ks_st K s then (if x = 0 then ks_col K s else if x = 1 then ks_row K s else if x = 2 then ks_rope K s else if x = 3 then ks_h K s else if x = 4 then ks_band K s else -1) else -1
theorem c_X11_state (hR : mm_Rf M) (hK : mm_CK M) (hs : mm_R s) (hx : mm_R x) : mm_Fn X Y_X11_state 243 [(2, 1), (0, s), (0, x)] M (0, kv_state (M 4) s x) M := by
  have hn := ks_nb hK.1
  unfold kv_state
  refine mm_startF (ls := [(2, 1), (0, s), (0, x)]) rfl ?_
  by_cases hst : ks_st (M 4) s
  · have ht := hK.tab hst
    have := hst.1
    have := hst.2
    rw [if_pos hst]
    refine mm_aload_n dX11_state_0 rfl rfl ?_
    refine mm_getr dX11_state_1 rfl fl_X11_19 (c := 0) rfl (by decide) rfl rfl (hR.at (c := 0) (i := 1) (v := 4) rfl (by decide)) ?_
    refine mm_iload_n dX11_state_4 rfl rfl ?_
    refine mm_V1i dX11_state_5 rfl lk_X11_139 (c := 3) rfl (by decide) rfl (by simp) rfl rfl rfl (c_X4_hasState hR hK hs) ?_
    refine mm_ifneb dX11_state_8 (fun h8 => ?_) (fun h8 => ?_)
    · refine mm_iload_n dX11_state_13 rfl rfl ?_
      have hsw : (x < 0 ∨ 4 < x) ∨ x = 0 ∨ x = 1 ∨ x = 2 ∨ x = 3 ∨ x = 4 := by omega
      rcases hsw with h14 | h14 | h14 | h14 | h14 | h14
      · refine mm_tsd (t := 98) dX11_state_14.1 (by omega) h14 (by decide) ?_
        refine mm_iconst dX11_state_98 rfl ?_
        refine mm_iret dX11_state_99 rfl rfl ?_
        refine mm_fin ?_ rfl
        first
        | (rw [ht.1, if_pos h14]; done)
        | (rw [ht.2.1, if_neg (by omega), if_pos h14]; done)
        | (rw [ht.2.2.1, if_neg (by omega), if_neg (by omega), if_pos h14]; done)
        | (rw [ht.2.2.2.1, if_neg (by omega), if_neg (by omega), if_neg (by omega), if_pos h14]; done)
        | (rw [ht.2.2.2.2, if_neg (by omega), if_neg (by omega), if_neg (by omega), if_neg (by omega), if_pos h14]; done)
        | (rw [if_neg (by omega), if_neg (by omega), if_neg (by omega), if_neg (by omega), if_neg (by omega)]; done)
      · refine mm_tsw (t := 48) (k := 0) dX11_state_14.1 (by omega) (by omega) (by omega) (by omega) rfl (by decide) ?_
        refine mm_aload_n dX11_state_48 rfl rfl ?_
        refine mm_getr dX11_state_49 rfl fl_X11_19 (c := 0) rfl (by decide) rfl rfl (hR.at (c := 0) (i := 1) (v := 4) rfl (by decide)) ?_
        refine mm_getr dX11_state_52 rfl fl_X11_142 (c := 3) rfl (by decide) rfl rfl (hR.at (c := 3) (i := 3) (v := 7) rfl (by decide)) ?_
        refine mm_iload_n dX11_state_55 rfl rfl ?_
        refine mm_iald dX11_state_56 rfl (c := 6) rfl (by decide) rfl (by omega) (by omega) ?_
        refine mm_iret dX11_state_57 rfl rfl ?_
        refine mm_fin ?_ rfl
        first
        | (rw [ht.1, if_pos h14]; done)
        | (rw [ht.2.1, if_neg (by omega), if_pos h14]; done)
        | (rw [ht.2.2.1, if_neg (by omega), if_neg (by omega), if_pos h14]; done)
        | (rw [ht.2.2.2.1, if_neg (by omega), if_neg (by omega), if_neg (by omega), if_pos h14]; done)
        | (rw [ht.2.2.2.2, if_neg (by omega), if_neg (by omega), if_neg (by omega), if_neg (by omega), if_pos h14]; done)
        | (rw [if_neg (by omega), if_neg (by omega), if_neg (by omega), if_neg (by omega), if_neg (by omega)]; done)
      · refine mm_tsw (t := 58) (k := 1) dX11_state_14.1 (by omega) (by omega) (by omega) (by omega) rfl (by decide) ?_
        refine mm_aload_n dX11_state_58 rfl rfl ?_
        refine mm_getr dX11_state_59 rfl fl_X11_19 (c := 0) rfl (by decide) rfl rfl (hR.at (c := 0) (i := 1) (v := 4) rfl (by decide)) ?_
        refine mm_getr dX11_state_62 rfl fl_X11_146 (c := 3) rfl (by decide) rfl rfl (hR.at (c := 3) (i := 4) (v := 8) rfl (by decide)) ?_
        refine mm_iload_n dX11_state_65 rfl rfl ?_
        refine mm_iald dX11_state_66 rfl (c := 7) rfl (by decide) rfl (by omega) (by omega) ?_
        refine mm_iret dX11_state_67 rfl rfl ?_
        refine mm_fin ?_ rfl
        first
        | (rw [ht.1, if_pos h14]; done)
        | (rw [ht.2.1, if_neg (by omega), if_pos h14]; done)
        | (rw [ht.2.2.1, if_neg (by omega), if_neg (by omega), if_pos h14]; done)
        | (rw [ht.2.2.2.1, if_neg (by omega), if_neg (by omega), if_neg (by omega), if_pos h14]; done)
        | (rw [ht.2.2.2.2, if_neg (by omega), if_neg (by omega), if_neg (by omega), if_neg (by omega), if_pos h14]; done)
        | (rw [if_neg (by omega), if_neg (by omega), if_neg (by omega), if_neg (by omega), if_neg (by omega)]; done)
      · refine mm_tsw (t := 68) (k := 2) dX11_state_14.1 (by omega) (by omega) (by omega) (by omega) rfl (by decide) ?_
        refine mm_aload_n dX11_state_68 rfl rfl ?_
        refine mm_getr dX11_state_69 rfl fl_X11_19 (c := 0) rfl (by decide) rfl rfl (hR.at (c := 0) (i := 1) (v := 4) rfl (by decide)) ?_
        refine mm_getr dX11_state_72 rfl fl_X11_149 (c := 3) rfl (by decide) rfl rfl (hR.at (c := 3) (i := 5) (v := 9) rfl (by decide)) ?_
        refine mm_iload_n dX11_state_75 rfl rfl ?_
        refine mm_iald dX11_state_76 rfl (c := 8) rfl (by decide) rfl (by omega) (by omega) ?_
        refine mm_iret dX11_state_77 rfl rfl ?_
        refine mm_fin ?_ rfl
        first
        | (rw [ht.1, if_pos h14]; done)
        | (rw [ht.2.1, if_neg (by omega), if_pos h14]; done)
        | (rw [ht.2.2.1, if_neg (by omega), if_neg (by omega), if_pos h14]; done)
        | (rw [ht.2.2.2.1, if_neg (by omega), if_neg (by omega), if_neg (by omega), if_pos h14]; done)
        | (rw [ht.2.2.2.2, if_neg (by omega), if_neg (by omega), if_neg (by omega), if_neg (by omega), if_pos h14]; done)
        | (rw [if_neg (by omega), if_neg (by omega), if_neg (by omega), if_neg (by omega), if_neg (by omega)]; done)
      · refine mm_tsw (t := 78) (k := 3) dX11_state_14.1 (by omega) (by omega) (by omega) (by omega) rfl (by decide) ?_
        refine mm_aload_n dX11_state_78 rfl rfl ?_
        refine mm_getr dX11_state_79 rfl fl_X11_19 (c := 0) rfl (by decide) rfl rfl (hR.at (c := 0) (i := 1) (v := 4) rfl (by decide)) ?_
        refine mm_getr dX11_state_82 rfl fl_X11_152 (c := 3) rfl (by decide) rfl rfl (hR.at (c := 3) (i := 6) (v := 10) rfl (by decide)) ?_
        refine mm_iload_n dX11_state_85 rfl rfl ?_
        refine mm_iald dX11_state_86 rfl (c := 9) rfl (by decide) rfl (by omega) (by omega) ?_
        refine mm_iret dX11_state_87 rfl rfl ?_
        refine mm_fin ?_ rfl
        first
        | (rw [ht.1, if_pos h14]; done)
        | (rw [ht.2.1, if_neg (by omega), if_pos h14]; done)
        | (rw [ht.2.2.1, if_neg (by omega), if_neg (by omega), if_pos h14]; done)
        | (rw [ht.2.2.2.1, if_neg (by omega), if_neg (by omega), if_neg (by omega), if_pos h14]; done)
        | (rw [ht.2.2.2.2, if_neg (by omega), if_neg (by omega), if_neg (by omega), if_neg (by omega), if_pos h14]; done)
        | (rw [if_neg (by omega), if_neg (by omega), if_neg (by omega), if_neg (by omega), if_neg (by omega)]; done)
      · refine mm_tsw (t := 88) (k := 4) dX11_state_14.1 (by omega) (by omega) (by omega) (by omega) rfl (by decide) ?_
        refine mm_aload_n dX11_state_88 rfl rfl ?_
        refine mm_getr dX11_state_89 rfl fl_X11_19 (c := 0) rfl (by decide) rfl rfl (hR.at (c := 0) (i := 1) (v := 4) rfl (by decide)) ?_
        refine mm_getr dX11_state_92 rfl fl_X11_155 (c := 3) rfl (by decide) rfl rfl (hR.at (c := 3) (i := 7) (v := 11) rfl (by decide)) ?_
        refine mm_iload_n dX11_state_95 rfl rfl ?_
        refine mm_iald dX11_state_96 rfl (c := 10) rfl (by decide) rfl (by omega) (by omega) ?_
        refine mm_iret dX11_state_97 rfl rfl ?_
        refine mm_fin ?_ rfl
        first
        | (rw [ht.1, if_pos h14]; done)
        | (rw [ht.2.1, if_neg (by omega), if_pos h14]; done)
        | (rw [ht.2.2.1, if_neg (by omega), if_neg (by omega), if_pos h14]; done)
        | (rw [ht.2.2.2.1, if_neg (by omega), if_neg (by omega), if_neg (by omega), if_pos h14]; done)
        | (rw [ht.2.2.2.2, if_neg (by omega), if_neg (by omega), if_neg (by omega), if_neg (by omega), if_pos h14]; done)
        | (rw [if_neg (by omega), if_neg (by omega), if_neg (by omega), if_neg (by omega), if_neg (by omega)]; done)
    · exact absurd hst h8
  · rw [if_neg hst]
    refine mm_aload_n dX11_state_0 rfl rfl ?_
    refine mm_getr dX11_state_1 rfl fl_X11_19 (c := 0) rfl (by decide) rfl rfl (hR.at (c := 0) (i := 1) (v := 4) rfl (by decide)) ?_
    refine mm_iload_n dX11_state_4 rfl rfl ?_
    refine mm_V1i dX11_state_5 rfl lk_X11_139 (c := 3) rfl (by decide) rfl (by simp) rfl rfl rfl (c_X4_hasState hR hK hs) ?_
    refine mm_ifneb dX11_state_8 (fun h8 => ?_) (fun h8 => ?_)
    · exact absurd h8 hst
    · refine mm_iconst dX11_state_11 rfl ?_
      refine mm_iret dX11_state_12 rfl rfl ?_
      exact mm_fin rfl rfl
def kv_leads (K : Nat → Int) (s a : Int) : Int := if ks_st K s ∧ ks_ac K a then (if ks_can K s a then ks_to K s a else -1) else -2
theorem c_X11_leads (hR : mm_Rf M) (hK : mm_CK M) (hs : mm_R s) (ha : mm_R a) : mm_Fn X Y_X11_leads 243 [(2, 1), (0, s), (0, a)] M (0, kv_leads (M 4) s a) M := by
  unfold kv_leads
  refine mm_startF (ls := [(2, 1), (0, s), (0, a)]) rfl ?_
  refine mm_aload_n dX11_leads_0 rfl rfl ?_
  refine mm_getr dX11_leads_1 rfl fl_X11_19 (c := 0) rfl (by decide) rfl rfl (hR.at (c := 0) (i := 1) (v := 4) rfl (by decide)) ?_
  refine mm_iload_n dX11_leads_4 rfl rfl ?_
  refine mm_V1i dX11_leads_5 rfl lk_X11_139 (c := 3) rfl (by decide) rfl (by simp) rfl rfl rfl (c_X4_hasState hR hK hs) ?_
  refine mm_ifeqb dX11_leads_8 (fun h8 => ?_) (fun h8 => ?_)
  · refine mm_bipush dX11_leads_34 rfl (by decide) ?_
    refine mm_iret dX11_leads_36 rfl rfl ?_
    refine mm_fin ?_ rfl
    first
    | (rw [if_pos (And.intro h8 h19)]; done)
    | (rw [if_neg (fun q => h8 q.1)]; done)
    | (rw [if_neg (fun q => h19 q.2)]; done)
  · refine mm_aload_n dX11_leads_11 rfl rfl ?_
    refine mm_getr dX11_leads_12 rfl fl_X11_19 (c := 0) rfl (by decide) rfl rfl (hR.at (c := 0) (i := 1) (v := 4) rfl (by decide)) ?_
    refine mm_iload_n dX11_leads_15 rfl rfl ?_
    refine mm_V1i dX11_leads_16 rfl lk_X11_158 (c := 3) rfl (by decide) rfl (by simp) rfl rfl rfl (c_X4_hasAct hR hK ha) ?_
    refine mm_ifeqb dX11_leads_19 (fun h19 => ?_) (fun h19 => ?_)
    · refine mm_bipush dX11_leads_34 rfl (by decide) ?_
      refine mm_iret dX11_leads_36 rfl rfl ?_
      refine mm_fin ?_ rfl
      first
      | (rw [if_pos (And.intro h8 h19)]; done)
      | (rw [if_neg (fun q => h8 q.1)]; done)
      | (rw [if_neg (fun q => h19 q.2)]; done)
    · refine mm_aload_n dX11_leads_22 rfl rfl ?_
      refine mm_getr dX11_leads_23 rfl fl_X11_19 (c := 0) rfl (by decide) rfl rfl (hR.at (c := 0) (i := 1) (v := 4) rfl (by decide)) ?_
      refine mm_iload_n dX11_leads_26 rfl rfl ?_
      refine mm_iload_n dX11_leads_27 rfl rfl ?_
      refine mm_V2i dX11_leads_28 rfl lk_X11_161 (c := 3) rfl (by decide) rfl (by simp) (by simp) rfl rfl rfl (c_X4_goal hR hK h8 h19) ?_
      refine mm_goto dX11_leads_31 ?_
      refine mm_iret dX11_leads_36 rfl rfl ?_
      refine mm_fin ?_ rfl
      first
      | (rw [if_pos (And.intro h8 h19)]; done)
      | (rw [if_neg (fun q => h8 q.1)]; done)
      | (rw [if_neg (fun q => h19 q.2)]; done)
def kv_pull (K : Nat → Int) (s a w : Int) : Int := if ks_st K s ∧ ks_ac K a ∧ 0 ≤ w ∧ w ≤ 60 then ks_p K s a w else -2
theorem c_X11_pull (hR : mm_Rf M) (hK : mm_CK M) (hs : mm_R s) (ha : mm_R a) (hw : mm_R w) : mm_Fn X Y_X11_pull 243 [(2, 1), (0, s), (0, a), (0, w)] M (0, kv_pull (M 4) s a w) M := by
  unfold kv_pull
  refine mm_startF (ls := [(2, 1), (0, s), (0, a), (0, w), (9, 0)]) rfl ?_
  refine mm_aload_n dX11_pull_0 rfl rfl ?_
  refine mm_getr dX11_pull_1 rfl fl_X11_19 (c := 0) rfl (by decide) rfl rfl (hR.at (c := 0) (i := 1) (v := 4) rfl (by decide)) ?_
  refine mm_iload_n dX11_pull_4 rfl rfl ?_
  refine mm_V1i dX11_pull_5 rfl lk_X11_139 (c := 3) rfl (by decide) rfl (by simp) rfl rfl rfl (c_X4_hasState hR hK hs) ?_
  refine mm_ifeqb dX11_pull_8 (fun h8 => ?_) (fun h8 => ?_)
  · refine mm_iconst dX11_pull_36 rfl ?_
    refine mm_istore dX11_pull_37 rfl (Nat.le_of_ble_eq_true rfl) rfl ?_
    refine mm_iload dX11_pull_39 rfl rfl ?_
    refine mm_ifeq dX11_pull_41 (by omega) (fun _ => ?_) (fun h => absurd (by decide) h)
    refine mm_bipush dX11_pull_57 rfl (by decide) ?_
    refine mm_iret dX11_pull_59 rfl rfl ?_
    refine mm_fin ?_ rfl
    first
    | (rw [if_pos ⟨h8, h19, h29⟩]; done)
    | (rw [if_neg (fun q => h8 q.1)]; done)
    | (rw [if_neg (fun q => h19 q.2.1)]; done)
    | (rw [if_neg (fun q => h29 q.2.2)]; done)
  · refine mm_aload_n dX11_pull_11 rfl rfl ?_
    refine mm_getr dX11_pull_12 rfl fl_X11_19 (c := 0) rfl (by decide) rfl rfl (hR.at (c := 0) (i := 1) (v := 4) rfl (by decide)) ?_
    refine mm_iload_n dX11_pull_15 rfl rfl ?_
    refine mm_V1i dX11_pull_16 rfl lk_X11_158 (c := 3) rfl (by decide) rfl (by simp) rfl rfl rfl (c_X4_hasAct hR hK ha) ?_
    refine mm_ifeqb dX11_pull_19 (fun h19 => ?_) (fun h19 => ?_)
    · refine mm_iconst dX11_pull_36 rfl ?_
      refine mm_istore dX11_pull_37 rfl (Nat.le_of_ble_eq_true rfl) rfl ?_
      refine mm_iload dX11_pull_39 rfl rfl ?_
      refine mm_ifeq dX11_pull_41 (by omega) (fun _ => ?_) (fun h => absurd (by decide) h)
      refine mm_bipush dX11_pull_57 rfl (by decide) ?_
      refine mm_iret dX11_pull_59 rfl rfl ?_
      refine mm_fin ?_ rfl
      first
      | (rw [if_pos ⟨h8, h19, h29⟩]; done)
      | (rw [if_neg (fun q => h8 q.1)]; done)
      | (rw [if_neg (fun q => h19 q.2.1)]; done)
      | (rw [if_neg (fun q => h29 q.2.2)]; done)
    · refine mm_iload_n dX11_pull_22 rfl rfl ?_
      refine mm_iconst dX11_pull_23 rfl ?_
      refine mm_bipush dX11_pull_24 rfl (by decide) ?_
      refine mm_S3i dX11_pull_26 rfl lk_X11_171 (by simp) (by simp) (by simp) rfl rfl rfl (c_X11_isWithin hw (by omega) (by omega)) ?_
      refine mm_ifeqb dX11_pull_29 (fun h29 => ?_) (fun h29 => ?_)
      · refine mm_iconst dX11_pull_36 rfl ?_
        refine mm_istore dX11_pull_37 rfl (Nat.le_of_ble_eq_true rfl) rfl ?_
        refine mm_iload dX11_pull_39 rfl rfl ?_
        refine mm_ifeq dX11_pull_41 (by omega) (fun _ => ?_) (fun h => absurd (by decide) h)
        refine mm_bipush dX11_pull_57 rfl (by decide) ?_
        refine mm_iret dX11_pull_59 rfl rfl ?_
        refine mm_fin ?_ rfl
        first
        | (rw [if_pos ⟨h8, h19, h29⟩]; done)
        | (rw [if_neg (fun q => h8 q.1)]; done)
        | (rw [if_neg (fun q => h19 q.2.1)]; done)
        | (rw [if_neg (fun q => h29 q.2.2)]; done)
      · refine mm_iconst dX11_pull_32 rfl ?_
        refine mm_goto dX11_pull_33 ?_
        refine mm_istore dX11_pull_37 rfl (Nat.le_of_ble_eq_true rfl) rfl ?_
        refine mm_iload dX11_pull_39 rfl rfl ?_
        refine mm_ifeq dX11_pull_41 (by omega) (fun h => absurd h (by decide)) (fun _ => ?_)
        refine mm_aload_n dX11_pull_44 rfl rfl ?_
        refine mm_getr dX11_pull_45 rfl fl_X11_19 (c := 0) rfl (by decide) rfl rfl (hR.at (c := 0) (i := 1) (v := 4) rfl (by decide)) ?_
        refine mm_iload_n dX11_pull_48 rfl rfl ?_
        refine mm_iload_n dX11_pull_49 rfl rfl ?_
        refine mm_iload_n dX11_pull_50 rfl rfl ?_
        refine mm_V3i dX11_pull_51 rfl lk_X11_195 (c := 3) rfl (by decide) rfl (by simp) (by simp) (by simp) rfl rfl rfl (c_X4_pullOf hR hK h8 h19 (by omega)) ?_
        refine mm_goto dX11_pull_54 ?_
        refine mm_iret dX11_pull_59 rfl rfl ?_
        refine mm_fin ?_ rfl
        first
        | (rw [if_pos ⟨h8, h19, h29⟩]; done)
        | (rw [if_neg (fun q => h8 q.1)]; done)
        | (rw [if_neg (fun q => h19 q.2.1)]; done)
        | (rw [if_neg (fun q => h29 q.2.2)]; done)
def kv_safe (K Lo Hi : Nat → Int) (s a h : Int) : Int := if ks_st K s ∧ ks_ac K a ∧ ks_hr h then mm_b (ks_safe K Lo Hi s a h) else -2
theorem c_X11_safe (hR : mm_Rf M) (hK : mm_CK M) (hA : mm_CA M) (hs : mm_R s) (ha : mm_R a) (hh : mm_R h) : mm_Fn X Y_X11_safe 243 [(2, 1), (0, s), (0, a), (0, h)] M (0, kv_safe (M 4) (M 16) (M 17) s a h) M := by
  unfold kv_safe
  refine mm_startF (ls := [(2, 1), (0, s), (0, a), (0, h)]) rfl ?_
  refine mm_aload_n dX11_safe_0 rfl rfl ?_
  refine mm_iload_n dX11_safe_1 rfl rfl ?_
  refine mm_iload_n dX11_safe_2 rfl rfl ?_
  refine mm_iload_n dX11_safe_3 rfl rfl ?_
  refine mm_V3i dX11_safe_4 rfl lk_X11_198 (c := 0) rfl (by decide) rfl (by simp) (by simp) (by simp) rfl rfl rfl (c_X11_canAsk hR hK hs ha hh) ?_
  refine mm_ifneb dX11_safe_7 (fun h7 => ?_) (fun h7 => ?_)
  · refine mm_aload_n dX11_safe_13 rfl rfl ?_
    refine mm_getr dX11_safe_14 rfl fl_X11_28 (c := 0) rfl (by decide) rfl rfl (hR.at (c := 0) (i := 2) (v := 12) rfl (by decide)) ?_
    refine mm_iload_n dX11_safe_17 rfl rfl ?_
    refine mm_iload_n dX11_safe_18 rfl rfl ?_
    refine mm_iload_n dX11_safe_19 rfl rfl ?_
    refine mm_V3i dX11_safe_20 rfl lk_X11_201 (c := 11) rfl (by decide) rfl (by simp) (by simp) (by simp) rfl rfl rfl (c_X0_isSafe hR hK hA h7.1 h7.2.1 h7.2.2) ?_
    refine mm_ifeqb dX11_safe_23 (fun h23 => ?_) (fun h23 => ?_)
    · refine mm_iconst dX11_safe_30 rfl ?_
      refine mm_iret dX11_safe_31 rfl rfl ?_
      refine mm_fin ?_ rfl
      first
      | (rw [if_pos h7]; first | exact mm_b1 h23 | exact mm_b0 h23)
      | (rw [if_neg h7]; done)
    · refine mm_iconst dX11_safe_26 rfl ?_
      refine mm_goto dX11_safe_27 ?_
      refine mm_iret dX11_safe_31 rfl rfl ?_
      refine mm_fin ?_ rfl
      first
      | (rw [if_pos h7]; first | exact mm_b1 h23 | exact mm_b0 h23)
      | (rw [if_neg h7]; done)
  · refine mm_bipush dX11_safe_10 rfl (by decide) ?_
    refine mm_iret dX11_safe_12 rfl rfl ?_
    refine mm_fin ?_ rfl
    first
    | (rw [if_pos h7]; first | exact mm_b1 h23 | exact mm_b0 h23)
    | (rw [if_neg h7]; done)
def kv_gives (K Lo Hi : Nat → Int) (s a h : Int) : Int := if ks_st K s ∧ ks_ac K a ∧ ks_hr h then ks_sure K Lo Hi s a h else -100000000
theorem c_X11_gives (hR : mm_Rf M) (hK : mm_CK M) (hA : mm_CA M) (hs : mm_R s) (ha : mm_R a) (hh : mm_R h) : mm_Fn X Y_X11_gives 243 [(2, 1), (0, s), (0, a), (0, h)] M (0, kv_gives (M 4) (M 16) (M 17) s a h) M := by
  unfold kv_gives
  refine mm_startF (ls := [(2, 1), (0, s), (0, a), (0, h)]) rfl ?_
  refine mm_aload_n dX11_gives_0 rfl rfl ?_
  refine mm_iload_n dX11_gives_1 rfl rfl ?_
  refine mm_iload_n dX11_gives_2 rfl rfl ?_
  refine mm_iload_n dX11_gives_3 rfl rfl ?_
  refine mm_V3i dX11_gives_4 rfl lk_X11_198 (c := 0) rfl (by decide) rfl (by simp) (by simp) (by simp) rfl rfl rfl (c_X11_canAsk hR hK hs ha hh) ?_
  refine mm_ifeqb dX11_gives_7 (fun h7 => ?_) (fun h7 => ?_)
  · refine mm_ldc dX11_gives_23 rfl kc_X11_207 ?_
    refine mm_iret dX11_gives_25 rfl rfl ?_
    refine mm_fin ?_ rfl
    first
    | (rw [if_pos h7]; done)
    | (rw [if_neg h7]; done)
  · refine mm_aload_n dX11_gives_10 rfl rfl ?_
    refine mm_getr dX11_gives_11 rfl fl_X11_28 (c := 0) rfl (by decide) rfl rfl (hR.at (c := 0) (i := 2) (v := 12) rfl (by decide)) ?_
    refine mm_iload_n dX11_gives_14 rfl rfl ?_
    refine mm_iload_n dX11_gives_15 rfl rfl ?_
    refine mm_iload_n dX11_gives_16 rfl rfl ?_
    refine mm_V3i dX11_gives_17 rfl lk_X11_204 (c := 11) rfl (by decide) rfl (by simp) (by simp) (by simp) rfl rfl rfl (c_X0_sureWork hR hK hA h7.1 h7.2.1 h7.2.2) ?_
    refine mm_goto dX11_gives_20 ?_
    refine mm_iret dX11_gives_25 rfl rfl ?_
    refine mm_fin ?_ rfl
    first
    | (rw [if_pos h7]; done)
    | (rw [if_neg h7]; done)
theorem c_X11_tired (hR : mm_Rf M) (hx : mm_R x) : mm_Fn X Y_X11_tired 243 [(2, 1), (0, x)] M (0, if 0 ≤ x ∧ x ≤ 1000000 then M 0 13 else -2) (if 0 ≤ x ∧ x ≤ 1000000 then mm_up M 0 13 x else M) := by
  refine mm_startF (ls := [(2, 1), (0, x), (9, 0)]) rfl ?_
  refine mm_iload_n dX11_tired_0 rfl rfl ?_
  refine mm_iconst dX11_tired_1 rfl ?_
  refine mm_ldcw dX11_tired_2 rfl kc_X11_281 ?_
  refine mm_S3i dX11_tired_5 rfl lk_X11_171 (by simp) (by simp) (by simp) rfl rfl rfl (c_X11_isWithin (by omega) (by omega) (by omega)) ?_
  refine mm_ifneb dX11_tired_8 (fun h8 => ?_) (fun h8 => ?_)
  · refine mm_aload_n dX11_tired_14 rfl rfl ?_
    refine mm_get (kd := 0) dX11_tired_15 rfl fl_X11_282 (c := 0) rfl (by decide) rfl rfl ?_
    refine mm_istore_n dX11_tired_18 rfl (Nat.le_of_ble_eq_true rfl) rfl ?_
    refine mm_aload_n dX11_tired_19 rfl rfl ?_
    refine mm_iload_n dX11_tired_20 rfl rfl ?_
    refine mm_puti dX11_tired_21 rfl fl_X11_282 (c := 0) rfl (by decide) rfl rfl (fun M21 hM21 => ?_)
    have hR21 : mm_Rf M21 := by rw [hM21]; exact hR.up rfl
    refine mm_iload_n dX11_tired_24 rfl rfl ?_
    refine mm_iret dX11_tired_25 rfl rfl ?_
    exact mm_fin (by rw [if_pos h8]) (by rw [if_pos h8, hM21])
  · refine mm_bipush dX11_tired_11 rfl (by decide) ?_
    refine mm_iret dX11_tired_13 rfl rfl ?_
    exact mm_fin (by rw [if_neg h8]) (by rw [if_neg h8])
theorem c_X11_hidden (hR : mm_Rf M) (hx : mm_R x) : mm_Fn X Y_X11_hidden 243 [(2, 1), (0, x)] M (0, if 0 ≤ x ∧ x ≤ 20 then M 0 14 else -2) (if 0 ≤ x ∧ x ≤ 20 then mm_up M 0 14 x else M) := by
  refine mm_startF (ls := [(2, 1), (0, x), (9, 0)]) rfl ?_
  refine mm_iload_n dX11_hidden_0 rfl rfl ?_
  refine mm_iconst dX11_hidden_1 rfl ?_
  refine mm_bipush dX11_hidden_2 rfl (by decide) ?_
  refine mm_S3i dX11_hidden_4 rfl lk_X11_171 (by simp) (by simp) (by simp) rfl rfl rfl (c_X11_isWithin (by omega) (by omega) (by omega)) ?_
  refine mm_ifneb dX11_hidden_7 (fun h7 => ?_) (fun h7 => ?_)
  · refine mm_aload_n dX11_hidden_13 rfl rfl ?_
    refine mm_get (kd := 0) dX11_hidden_14 rfl fl_X11_94 (c := 0) rfl (by decide) rfl rfl ?_
    refine mm_istore_n dX11_hidden_17 rfl (Nat.le_of_ble_eq_true rfl) rfl ?_
    refine mm_aload_n dX11_hidden_18 rfl rfl ?_
    refine mm_iload_n dX11_hidden_19 rfl rfl ?_
    refine mm_puti dX11_hidden_20 rfl fl_X11_94 (c := 0) rfl (by decide) rfl rfl (fun M20 hM20 => ?_)
    have hR20 : mm_Rf M20 := by rw [hM20]; exact hR.up rfl
    refine mm_iload_n dX11_hidden_23 rfl rfl ?_
    refine mm_iret dX11_hidden_24 rfl rfl ?_
    exact mm_fin (by rw [if_pos h7]) (by rw [if_pos h7, hM20])
  · refine mm_bipush dX11_hidden_10 rfl (by decide) ?_
    refine mm_iret dX11_hidden_12 rfl rfl ?_
    exact mm_fin (by rw [if_neg h7]) (by rw [if_neg h7])
def kv_pulls (K Lo : Nat → Int) (sh s a h : Int) : Int := if ks_st K s ∧ ks_ac K a ∧ ks_hr h then ks_p K s a (ks_wi Lo K s h * sh / 10) else -2
theorem c_X11_pulls (hR : mm_Rf M) (hK : mm_CK M) (hA : mm_CA M) (hsh : 0 ≤ M 0 14 ∧ M 0 14 ≤ 20) (hs : mm_R s) (ha : mm_R a) (hh : mm_R h) : mm_Fn X Y_X11_pulls 243 [(2, 1), (0, s), (0, a), (0, h)] M (0, kv_pulls (M 4) (M 16) (M 0 14) s a h) M := by
  unfold kv_pulls
  refine mm_startF (ls := [(2, 1), (0, s), (0, a), (0, h)]) rfl ?_
  refine mm_aload_n dX11_pulls_0 rfl rfl ?_
  refine mm_iload_n dX11_pulls_1 rfl rfl ?_
  refine mm_iload_n dX11_pulls_2 rfl rfl ?_
  refine mm_iload_n dX11_pulls_3 rfl rfl ?_
  refine mm_V3i dX11_pulls_4 rfl lk_X11_198 (c := 0) rfl (by decide) rfl (by simp) (by simp) (by simp) rfl rfl rfl (c_X11_canAsk hR hK hs ha hh) ?_
  refine mm_ifeqb dX11_pulls_7 (fun h7 => ?_) (fun h7 => ?_)
  · refine mm_bipush dX11_pulls_27 rfl (by decide) ?_
    refine mm_iret dX11_pulls_29 rfl rfl ?_
    refine mm_fin ?_ rfl
    first
    | (rw [if_pos h7]; done)
    | (rw [if_neg h7]; done)
  · refine mm_aload_n dX11_pulls_10 rfl rfl ?_
    refine mm_getr dX11_pulls_11 rfl fl_X11_28 (c := 0) rfl (by decide) rfl rfl (hR.at (c := 0) (i := 2) (v := 12) rfl (by decide)) ?_
    refine mm_iload_n dX11_pulls_14 rfl rfl ?_
    refine mm_iload_n dX11_pulls_15 rfl rfl ?_
    refine mm_iload_n dX11_pulls_16 rfl rfl ?_
    refine mm_aload_n dX11_pulls_17 rfl rfl ?_
    refine mm_get (kd := 0) dX11_pulls_18 rfl fl_X11_94 (c := 0) rfl (by decide) rfl rfl ?_
    refine mm_V4i dX11_pulls_21 rfl lk_X11_350 (c := 11) rfl (by decide) rfl (by simp) (by simp) (by simp) (by simp) rfl rfl rfl (c_X0_sharedPull hR hK hA h7.1 h7.2.1 h7.2.2 hsh) ?_
    refine mm_goto dX11_pulls_24 ?_
    refine mm_iret dX11_pulls_29 rfl rfl ?_
    refine mm_fin ?_ rfl
    first
    | (rw [if_pos h7]; done)
    | (rw [if_neg h7]; done)
theorem c_X11_fielded (hR : mm_Rf M) : mm_Fn X Y_X11_fielded 243 [(2, 1)] M (0, M 144 2) M := by
  refine mm_startF (ls := [(2, 1)]) rfl ?_
  refine mm_aload_n dX11_fielded_0 rfl rfl ?_
  refine mm_getr dX11_fielded_1 rfl fl_X11_76 (c := 0) rfl (by decide) rfl rfl (hR.at (c := 0) (i := 9) (v := 145) rfl (by decide)) ?_
  refine mm_get (kd := 0) dX11_fielded_4 rfl fl_X11_340 (c := 144) rfl (by decide) rfl rfl ?_
  refine mm_iret dX11_fielded_7 rfl rfl ?_
  exact mm_fin rfl rfl
end

