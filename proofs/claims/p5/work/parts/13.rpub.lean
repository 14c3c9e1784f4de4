/-! 51.rpub -/
section
/-! ===== KitePowerModel: the simple calls ===== -/
section
variable {X : mm_X} {M : mm_M} {s a m w d p h sh x y z n k l u v t : Int}
theorem c_X13_fault (hR : mm_Rf M) (hx : mm_R x) : mm_Fn X Y_X13_fault 243 [(2, 184), (0, x)] M (0, if x = 0 then M 183 8 else if x = 1 then M 183 9 else -1) M := by
  refine mm_startF (ls := [(2, 184), (0, x)]) rfl ?_
  refine mm_iload_n dX13_fault_0 rfl rfl ?_
  refine mm_ifne dX13_fault_1 (by omega) (fun h1 => ?_) (fun h1 => ?_)
  · refine mm_iload_n dX13_fault_11 rfl rfl ?_
    refine mm_iconst dX13_fault_12 rfl ?_
    refine mm_icne dX13_fault_13 (by omega) (by omega) (fun h13 => ?_) (fun h13 => ?_)
    · refine mm_iconst dX13_fault_23 rfl ?_
      refine mm_iret dX13_fault_24 rfl rfl ?_
      refine mm_fin ?_ rfl
      first
      | (rw [if_pos (by omega)]; done)
      | (rw [if_neg (by omega), if_pos (by omega)]; done)
      | (rw [if_neg (by omega), if_neg (by omega)]; done)
    · refine mm_aload_n dX13_fault_16 rfl rfl ?_
      refine mm_get (kd := 0) dX13_fault_17 rfl fl_X13_16 (c := 183) rfl (by decide) rfl rfl ?_
      refine mm_goto dX13_fault_20 ?_
      refine mm_iret dX13_fault_24 rfl rfl ?_
      refine mm_fin ?_ rfl
      first
      | (rw [if_pos (by omega)]; done)
      | (rw [if_neg (by omega), if_pos (by omega)]; done)
      | (rw [if_neg (by omega), if_neg (by omega)]; done)
  · refine mm_aload_n dX13_fault_4 rfl rfl ?_
    refine mm_get (kd := 0) dX13_fault_5 rfl fl_X13_9 (c := 183) rfl (by decide) rfl rfl ?_
    refine mm_goto dX13_fault_8 ?_
    refine mm_iret dX13_fault_24 rfl rfl ?_
    refine mm_fin ?_ rfl
    first
    | (rw [if_pos (by omega)]; done)
    | (rw [if_neg (by omega), if_pos (by omega)]; done)
    | (rw [if_neg (by omega), if_neg (by omega)]; done)
theorem c_X13_told (hR : mm_Rf M) (hK : mm_KV (mm_rk M)) (hx : mm_R x) : mm_Fn X Y_X13_told 243 [(2, 184), (0, x)] M (0, if x = 11 then M 183 20 else ks_told (mm_rk M) x) M := by
  obtain ⟨h0, -, -, -, -, -, -, -, -, -, h10, -⟩ := id hK
  have e0 : mm_rk M 0 = M 186 0 := rfl
  have e10 : mm_rk M 10 = M 183 16 := rfl
  refine mm_startF (ls := [(2, 184), (0, x)]) rfl ?_
  refine mm_iload_n dX13_told_0 rfl rfl ?_
  refine mm_i2l dX13_told_1 rfl (by omega) ?_
  refine mm_lconst0 dX13_told_2 rfl ?_
  refine mm_ldc2 dX13_told_3 rfl kc_X13_419 ?_
  refine mm_S3i dX13_told_6 rfl lk_X13_5 (by simp) (by simp) (by simp) rfl rfl rfl (c_X13_in (by omega) (by first | decide | omega) (by omega)) ?_
  refine mm_ifeqb dX13_told_9 (fun h9 => ?_) (fun h9 => ?_)
  · refine mm_iload_n dX13_told_19 rfl rfl ?_
    refine mm_bipush dX13_told_20 rfl (by decide) ?_
    refine mm_icne dX13_told_22 (by omega) (by omega) (fun h22 => ?_) (fun h22 => ?_)
    · refine mm_iload_n dX13_told_30 rfl rfl ?_
      refine mm_bipush dX13_told_31 rfl (by decide) ?_
      refine mm_icne dX13_told_33 (by omega) (by omega) (fun h33 => ?_) (fun h33 => ?_)
      · refine mm_iload_n dX13_told_41 rfl rfl ?_
        refine mm_i2l dX13_told_42 rfl (by omega) ?_
        refine mm_ldc2 dX13_told_43 rfl kc_X13_421 ?_
        refine mm_ldc2 dX13_told_46 rfl kc_X13_423 ?_
        refine mm_aload_n dX13_told_49 rfl rfl ?_
        refine mm_get (kd := 0) dX13_told_50 rfl fl_X13_154 (c := 183) rfl (by decide) rfl rfl ?_
        refine mm_i2l dX13_told_53 rfl (by omega) ?_
        refine mm_ladd dX13_told_54 rfl ?_
        refine mm_S3i dX13_told_55 rfl lk_X13_5 (by simp) (by simp) (by simp) rfl rfl rfl (c_X13_in (by omega) (by first | decide | omega) (by omega)) ?_
        refine mm_ifeqb dX13_told_58 (fun h58 => ?_) (fun h58 => ?_)
        · refine mm_iload_n dX13_told_71 rfl rfl ?_
          refine mm_i2l dX13_told_72 rfl (by omega) ?_
          refine mm_ldc2 dX13_told_73 rfl kc_X13_425 ?_
          refine mm_ldc2 dX13_told_76 rfl kc_X13_427 ?_
          refine mm_aload_n dX13_told_79 rfl rfl ?_
          refine mm_getr dX13_told_80 rfl fl_X13_151 (c := 183) rfl (by decide) rfl rfl (hR.at (c := 183) (i := 10) (v := 187) rfl (by decide)) ?_
          refine mm_iconst dX13_told_83 rfl ?_
          refine mm_ialk (k0 := 0) dX13_told_84 rfl (c := 186) rfl (by decide) rfl rfl (by decide) ?_
          refine mm_i2l dX13_told_85 rfl (by omega) ?_
          refine mm_ladd dX13_told_86 rfl ?_
          refine mm_S3i dX13_told_87 rfl lk_X13_5 (by simp) (by simp) (by simp) rfl rfl rfl (c_X13_in (by omega) (by first | decide | omega) (by omega)) ?_
          refine mm_ifeqb dX13_told_90 (fun h90 => ?_) (fun h90 => ?_)
          · refine mm_iconst dX13_told_105 rfl ?_
            refine mm_iret dX13_told_106 rfl rfl ?_
            refine mm_fin ?_ rfl
            rw [if_neg (by omega)]
            unfold ks_told
            first
            | (rw [if_pos (by omega), show x.toNat = 30 + (x - 30).toNat by omega, mm_rk_w M]; done)
            | (rw [if_neg (by omega)]; done)
          · refine mm_aload_n dX13_told_93 rfl rfl ?_
            refine mm_getr dX13_told_94 rfl fl_X13_159 (c := 183) rfl (by decide) rfl rfl (hR.at (c := 183) (i := 14) (v := 191) rfl (by decide)) ?_
            refine mm_iload_n dX13_told_97 rfl rfl ?_
            refine mm_bipush dX13_told_98 rfl (by decide) ?_
            refine mm_isub dX13_told_100 rfl ?_
            refine mm_iald dX13_told_101 rfl (c := 190) rfl (by decide) rfl (by omega) (by omega) ?_
            refine mm_goto dX13_told_102 ?_
            refine mm_iret dX13_told_106 rfl rfl ?_
            refine mm_fin ?_ rfl
            rw [if_neg (by omega)]
            unfold ks_told
            first
            | (rw [if_pos (by omega), show x.toNat = 30 + (x - 30).toNat by omega, mm_rk_w M]; done)
            | (rw [if_neg (by omega)]; done)
        · refine mm_aload_n dX13_told_61 rfl rfl ?_
          refine mm_getr dX13_told_62 rfl fl_X13_157 (c := 183) rfl (by decide) rfl rfl (hR.at (c := 183) (i := 12) (v := 189) rfl (by decide)) ?_
          refine mm_iload_n dX13_told_65 rfl rfl ?_
          refine mm_bipush dX13_told_66 rfl (by decide) ?_
          refine mm_isub dX13_told_68 rfl ?_
          refine mm_iald dX13_told_69 rfl (c := 188) rfl (by decide) rfl (by omega) (by omega) ?_
          refine mm_iret dX13_told_70 rfl rfl ?_
          refine mm_fin ?_ rfl
          rw [if_neg (by omega)]
          unfold ks_told
          rw [if_pos (by omega), show x.toNat = 20 + (x - 20).toNat by omega, mm_rk_l M (by omega)]
      · refine mm_aload_n dX13_told_36 rfl rfl ?_
        refine mm_get (kd := 0) dX13_told_37 rfl fl_X13_394 (c := 183) rfl (by decide) rfl rfl ?_
        refine mm_iret dX13_told_40 rfl rfl ?_
        refine mm_fin ?_ rfl
        rw [if_pos (by omega)]
    · refine mm_aload_n dX13_told_25 rfl rfl ?_
      refine mm_get (kd := 0) dX13_told_26 rfl fl_X13_154 (c := 183) rfl (by decide) rfl rfl ?_
      refine mm_iret dX13_told_29 rfl rfl ?_
      refine mm_fin ?_ rfl
      rw [if_neg (by omega)]
      unfold ks_told
      rw [if_pos (by omega), h22]
      rfl
  · refine mm_aload_n dX13_told_12 rfl rfl ?_
    refine mm_getr dX13_told_13 rfl fl_X13_151 (c := 183) rfl (by decide) rfl rfl (hR.at (c := 183) (i := 10) (v := 187) rfl (by decide)) ?_
    refine mm_iload_n dX13_told_16 rfl rfl ?_
    refine mm_iald dX13_told_17 rfl (c := 186) rfl (by decide) rfl (by omega) (by omega) ?_
    refine mm_iret dX13_told_18 rfl rfl ?_
    refine mm_fin ?_ rfl
    rw [if_neg (by omega)]
    unfold ks_told
    rw [if_pos (by omega), mm_rk_r M (by omega)]
theorem c_X13_state (hR : mm_Rf M) (hK : mm_KV (mm_rk M)) (hs : mm_R s) (hx : mm_R x) : mm_Fn X Y_X13_state 243 [(2, 184), (0, s), (0, x)] M (0, kv_state (mm_rk M) s x) M := by
  unfold kv_state
  refine mm_startF (ls := [(2, 184), (0, s), (0, x)]) rfl ?_
  by_cases hst : ks_st (mm_rk M) s
  · rw [if_pos hst]
    refine mm_aload_n dX13_state_0 rfl rfl ?_
    refine mm_iload_n dX13_state_1 rfl rfl ?_
    refine mm_V1i dX13_state_2 rfl lk_X13_464 (c := 183) rfl (by decide) rfl (by simp) rfl rfl rfl (c_X13_isState hR hK hs) ?_
    refine mm_ifneb dX13_state_5 (fun h5 => ?_) (fun h5 => ?_)
    · refine mm_iload_n dX13_state_10 rfl rfl ?_
      have hsw : (x < 0 ∨ 4 < x) ∨ x = 0 ∨ x = 1 ∨ x = 2 ∨ x = 3 ∨ x = 4 := by omega
      rcases hsw with h11 | h11 | h11 | h11 | h11 | h11
      · refine mm_tsd (t := 74) dX13_state_11.1 (by omega) h11 (by decide) ?_
        refine mm_iconst dX13_state_74 rfl ?_
        refine mm_iret dX13_state_75 rfl rfl ?_
        refine mm_fin ?_ rfl
        first
        | (rw [if_pos h11]; done)
        | (rw [if_neg (by omega), if_pos h11]; done)
        | (rw [if_neg (by omega), if_neg (by omega), if_pos h11]; done)
        | (rw [if_neg (by omega), if_neg (by omega), if_neg (by omega), if_pos h11]; done)
        | (rw [if_neg (by omega), if_neg (by omega), if_neg (by omega), if_neg (by omega), if_pos h11]; done)
        | (rw [if_neg (by omega), if_neg (by omega), if_neg (by omega), if_neg (by omega), if_neg (by omega)]; done)
      · refine mm_tsw (t := 44) (k := 0) dX13_state_11.1 (by omega) (by omega) (by omega) (by omega) rfl (by decide) ?_
        refine mm_aload_n dX13_state_44 rfl rfl ?_
        refine mm_iload_n dX13_state_45 rfl rfl ?_
        refine mm_V1i dX13_state_46 rfl lk_X13_438 (c := 183) rfl (by decide) rfl (by simp) rfl rfl rfl (c_X13_columnOf hR hK hst) ?_
        refine mm_iret dX13_state_49 rfl rfl ?_
        refine mm_fin ?_ rfl
        first
        | (rw [if_pos h11]; done)
        | (rw [if_neg (by omega), if_pos h11]; done)
        | (rw [if_neg (by omega), if_neg (by omega), if_pos h11]; done)
        | (rw [if_neg (by omega), if_neg (by omega), if_neg (by omega), if_pos h11]; done)
        | (rw [if_neg (by omega), if_neg (by omega), if_neg (by omega), if_neg (by omega), if_pos h11]; done)
        | (rw [if_neg (by omega), if_neg (by omega), if_neg (by omega), if_neg (by omega), if_neg (by omega)]; done)
      · refine mm_tsw (t := 50) (k := 1) dX13_state_11.1 (by omega) (by omega) (by omega) (by omega) rfl (by decide) ?_
        refine mm_aload_n dX13_state_50 rfl rfl ?_
        refine mm_iload_n dX13_state_51 rfl rfl ?_
        refine mm_V1i dX13_state_52 rfl lk_X13_432 (c := 183) rfl (by decide) rfl (by simp) rfl rfl rfl (c_X13_rowOf hR hK hst) ?_
        refine mm_iret dX13_state_55 rfl rfl ?_
        refine mm_fin ?_ rfl
        first
        | (rw [if_pos h11]; done)
        | (rw [if_neg (by omega), if_pos h11]; done)
        | (rw [if_neg (by omega), if_neg (by omega), if_pos h11]; done)
        | (rw [if_neg (by omega), if_neg (by omega), if_neg (by omega), if_pos h11]; done)
        | (rw [if_neg (by omega), if_neg (by omega), if_neg (by omega), if_neg (by omega), if_pos h11]; done)
        | (rw [if_neg (by omega), if_neg (by omega), if_neg (by omega), if_neg (by omega), if_neg (by omega)]; done)
      · refine mm_tsw (t := 56) (k := 2) dX13_state_11.1 (by omega) (by omega) (by omega) (by omega) rfl (by decide) ?_
        refine mm_aload_n dX13_state_56 rfl rfl ?_
        refine mm_iload_n dX13_state_57 rfl rfl ?_
        refine mm_V1i dX13_state_58 rfl lk_X13_429 (c := 183) rfl (by decide) rfl (by simp) rfl rfl rfl (c_X13_ropeOf hR hK hst) ?_
        refine mm_iret dX13_state_61 rfl rfl ?_
        refine mm_fin ?_ rfl
        first
        | (rw [if_pos h11]; done)
        | (rw [if_neg (by omega), if_pos h11]; done)
        | (rw [if_neg (by omega), if_neg (by omega), if_pos h11]; done)
        | (rw [if_neg (by omega), if_neg (by omega), if_neg (by omega), if_pos h11]; done)
        | (rw [if_neg (by omega), if_neg (by omega), if_neg (by omega), if_neg (by omega), if_pos h11]; done)
        | (rw [if_neg (by omega), if_neg (by omega), if_neg (by omega), if_neg (by omega), if_neg (by omega)]; done)
      · refine mm_tsw (t := 62) (k := 3) dX13_state_11.1 (by omega) (by omega) (by omega) (by omega) rfl (by decide) ?_
        refine mm_aload_n dX13_state_62 rfl rfl ?_
        refine mm_iload_n dX13_state_63 rfl rfl ?_
        refine mm_V1i dX13_state_64 rfl lk_X13_435 (c := 183) rfl (by decide) rfl (by simp) rfl rfl rfl (c_X13_heightOf hR hK hst) ?_
        refine mm_iret dX13_state_67 rfl rfl ?_
        refine mm_fin ?_ rfl
        first
        | (rw [if_pos h11]; done)
        | (rw [if_neg (by omega), if_pos h11]; done)
        | (rw [if_neg (by omega), if_neg (by omega), if_pos h11]; done)
        | (rw [if_neg (by omega), if_neg (by omega), if_neg (by omega), if_pos h11]; done)
        | (rw [if_neg (by omega), if_neg (by omega), if_neg (by omega), if_neg (by omega), if_pos h11]; done)
        | (rw [if_neg (by omega), if_neg (by omega), if_neg (by omega), if_neg (by omega), if_neg (by omega)]; done)
      · refine mm_tsw (t := 68) (k := 4) dX13_state_11.1 (by omega) (by omega) (by omega) (by omega) rfl (by decide) ?_
        refine mm_aload_n dX13_state_68 rfl rfl ?_
        refine mm_iload_n dX13_state_69 rfl rfl ?_
        refine mm_V1i dX13_state_70 rfl lk_X13_467 (c := 183) rfl (by decide) rfl (by simp) rfl rfl rfl (c_X13_bandOf hR hK hst) ?_
        refine mm_iret dX13_state_73 rfl rfl ?_
        refine mm_fin ?_ rfl
        first
        | (rw [if_pos h11]; done)
        | (rw [if_neg (by omega), if_pos h11]; done)
        | (rw [if_neg (by omega), if_neg (by omega), if_pos h11]; done)
        | (rw [if_neg (by omega), if_neg (by omega), if_neg (by omega), if_pos h11]; done)
        | (rw [if_neg (by omega), if_neg (by omega), if_neg (by omega), if_neg (by omega), if_pos h11]; done)
        | (rw [if_neg (by omega), if_neg (by omega), if_neg (by omega), if_neg (by omega), if_neg (by omega)]; done)
    · exact absurd hst h5
  · rw [if_neg hst]
    refine mm_aload_n dX13_state_0 rfl rfl ?_
    refine mm_iload_n dX13_state_1 rfl rfl ?_
    refine mm_V1i dX13_state_2 rfl lk_X13_464 (c := 183) rfl (by decide) rfl (by simp) rfl rfl rfl (c_X13_isState hR hK hs) ?_
    refine mm_ifneb dX13_state_5 (fun h5 => ?_) (fun h5 => ?_)
    · exact absurd h5 hst
    · refine mm_iconst dX13_state_8 rfl ?_
      refine mm_iret dX13_state_9 rfl rfl ?_
      exact mm_fin rfl rfl
theorem c_X13_leads (hR : mm_Rf M) (hK : mm_KV (mm_rk M)) (hs : mm_R s) (ha : mm_R a) : mm_Fn X Y_X13_leads 243 [(2, 184), (0, s), (0, a)] M (0, kv_leads (mm_rk M) s a) M := by
  unfold kv_leads
  have h10 : 1 ≤ mm_rk M 10 ∧ mm_rk M 10 ≤ 3 := hK.2.2.2.2.2.2.2.2.2.2.1
  refine mm_startF (ls := [(2, 184), (0, s), (0, a)]) rfl ?_
  refine mm_aload_n dX13_leads_0 rfl rfl ?_
  refine mm_iload_n dX13_leads_1 rfl rfl ?_
  refine mm_V1i dX13_leads_2 rfl lk_X13_464 (c := 183) rfl (by decide) rfl (by simp) rfl rfl rfl (c_X13_isState hR hK hs) ?_
  refine mm_ifeqb dX13_leads_5 (fun h5 => ?_) (fun h5 => ?_)
  · refine mm_bipush dX13_leads_16 rfl (by decide) ?_
    refine mm_goto dX13_leads_18 ?_
    refine mm_iret dX13_leads_40 rfl rfl ?_
    refine mm_fin ?_ rfl
    first
    | (rw [if_pos (And.intro h5 h13), if_pos h27]; done)
    | (rw [if_pos (And.intro h5 h13), if_neg h27]; done)
    | (rw [if_neg (fun q => h5 q.1)]; done)
    | (rw [if_neg (fun q => h13 q.2)]; done)
  · refine mm_aload_n dX13_leads_8 rfl rfl ?_
    refine mm_iload_n dX13_leads_9 rfl rfl ?_
    refine mm_V1i dX13_leads_10 rfl lk_X13_470 (c := 183) rfl (by decide) rfl (by simp) rfl rfl rfl (c_X13_isAct hR hK ha) ?_
    refine mm_ifneb dX13_leads_13 (fun h13 => ?_) (fun h13 => ?_)
    · refine mm_aload_n dX13_leads_21 rfl rfl ?_
      refine mm_iload_n dX13_leads_22 rfl rfl ?_
      refine mm_iload_n dX13_leads_23 rfl rfl ?_
      refine mm_V2i dX13_leads_24 rfl lk_X13_473 (c := 183) rfl (by decide) rfl (by simp) (by simp) rfl rfl rfl (c_X13_canDo hR hK h5 ⟨h13.1, by have := h13.2; omega⟩) ?_
      refine mm_ifeqb dX13_leads_27 (fun h27 => ?_) (fun h27 => ?_)
      · refine mm_iconst dX13_leads_39 rfl ?_
        refine mm_iret dX13_leads_40 rfl rfl ?_
        refine mm_fin ?_ rfl
        first
        | (rw [if_pos (And.intro h5 h13), if_pos h27]; done)
        | (rw [if_pos (And.intro h5 h13), if_neg h27]; done)
        | (rw [if_neg (fun q => h5 q.1)]; done)
        | (rw [if_neg (fun q => h13 q.2)]; done)
      · refine mm_aload_n dX13_leads_30 rfl rfl ?_
        refine mm_iload_n dX13_leads_31 rfl rfl ?_
        refine mm_iload_n dX13_leads_32 rfl rfl ?_
        refine mm_V2i dX13_leads_33 rfl lk_X13_476 (c := 183) rfl (by decide) rfl (by simp) (by simp) rfl rfl rfl (c_X13_after hR ⟨h13.1, by have := h13.2; omega⟩) ?_
        refine mm_goto dX13_leads_36 ?_
        refine mm_iret dX13_leads_40 rfl rfl ?_
        refine mm_fin ?_ rfl
        first
        | (rw [if_pos (And.intro h5 h13), if_pos h27]; done)
        | (rw [if_pos (And.intro h5 h13), if_neg h27]; done)
        | (rw [if_neg (fun q => h5 q.1)]; done)
        | (rw [if_neg (fun q => h13 q.2)]; done)
    · refine mm_bipush dX13_leads_16 rfl (by decide) ?_
      refine mm_goto dX13_leads_18 ?_
      refine mm_iret dX13_leads_40 rfl rfl ?_
      refine mm_fin ?_ rfl
      first
      | (rw [if_pos (And.intro h5 h13), if_pos h27]; done)
      | (rw [if_pos (And.intro h5 h13), if_neg h27]; done)
      | (rw [if_neg (fun q => h5 q.1)]; done)
      | (rw [if_neg (fun q => h13 q.2)]; done)
theorem c_X13_pull (hR : mm_Rf M) (hK : mm_KV (mm_rk M)) (hs : mm_R s) (ha : mm_R a) (hw : mm_R w) : mm_Fn X Y_X13_pull 243 [(2, 184), (0, s), (0, a), (0, w)] M (0, kv_pull (mm_rk M) s a w) M := by
  unfold kv_pull
  refine mm_startF (ls := [(2, 184), (0, s), (0, a), (0, w)]) rfl ?_
  refine mm_aload_n dX13_pull_0 rfl rfl ?_
  refine mm_iload_n dX13_pull_1 rfl rfl ?_
  refine mm_V1i dX13_pull_2 rfl lk_X13_464 (c := 183) rfl (by decide) rfl (by simp) rfl rfl rfl (c_X13_isState hR hK hs) ?_
  refine mm_ifeqb dX13_pull_5 (fun h5 => ?_) (fun h5 => ?_)
  · refine mm_bipush dX13_pull_38 rfl (by decide) ?_
    refine mm_iret dX13_pull_40 rfl rfl ?_
    refine mm_fin ?_ rfl
    first
    | (rw [if_pos ⟨h5, h13, h25⟩]; done)
    | (rw [if_neg (fun q => h5 q.1)]; done)
    | (rw [if_neg (fun q => h13 q.2.1)]; done)
    | (rw [if_neg (fun q => h25 q.2.2)]; done)
  · refine mm_aload_n dX13_pull_8 rfl rfl ?_
    refine mm_iload_n dX13_pull_9 rfl rfl ?_
    refine mm_V1i dX13_pull_10 rfl lk_X13_470 (c := 183) rfl (by decide) rfl (by simp) rfl rfl rfl (c_X13_isAct hR hK ha) ?_
    refine mm_ifeqb dX13_pull_13 (fun h13 => ?_) (fun h13 => ?_)
    · refine mm_bipush dX13_pull_38 rfl (by decide) ?_
      refine mm_iret dX13_pull_40 rfl rfl ?_
      refine mm_fin ?_ rfl
      first
      | (rw [if_pos ⟨h5, h13, h25⟩]; done)
      | (rw [if_neg (fun q => h5 q.1)]; done)
      | (rw [if_neg (fun q => h13 q.2.1)]; done)
      | (rw [if_neg (fun q => h25 q.2.2)]; done)
    · refine mm_iload_n dX13_pull_16 rfl rfl ?_
      refine mm_i2l dX13_pull_17 rfl (by omega) ?_
      refine mm_lconst0 dX13_pull_18 rfl ?_
      refine mm_ldc2 dX13_pull_19 rfl kc_X13_492 ?_
      refine mm_S3i dX13_pull_22 rfl lk_X13_5 (by simp) (by simp) (by simp) rfl rfl rfl (c_X13_in (by omega) (by decide) (by omega)) ?_
      refine mm_ifeqb dX13_pull_25 (fun h25 => ?_) (fun h25 => ?_)
      · refine mm_bipush dX13_pull_38 rfl (by decide) ?_
        refine mm_iret dX13_pull_40 rfl rfl ?_
        refine mm_fin ?_ rfl
        first
        | (rw [if_pos ⟨h5, h13, h25⟩]; done)
        | (rw [if_neg (fun q => h5 q.1)]; done)
        | (rw [if_neg (fun q => h13 q.2.1)]; done)
        | (rw [if_neg (fun q => h25 q.2.2)]; done)
      · refine mm_aload_n dX13_pull_28 rfl rfl ?_
        refine mm_iload_n dX13_pull_29 rfl rfl ?_
        refine mm_iload_n dX13_pull_30 rfl rfl ?_
        refine mm_iload_n dX13_pull_31 rfl rfl ?_
        refine mm_V3i dX13_pull_32 rfl lk_X13_497 (c := 183) rfl (by decide) rfl (by simp) (by simp) (by simp) rfl rfl rfl (c_X13_pullOf hR hK h5 h13 (by omega)) ?_
        refine mm_goto dX13_pull_35 ?_
        refine mm_iret dX13_pull_40 rfl rfl ?_
        refine mm_fin ?_ rfl
        first
        | (rw [if_pos ⟨h5, h13, h25⟩]; done)
        | (rw [if_neg (fun q => h5 q.1)]; done)
        | (rw [if_neg (fun q => h13 q.2.1)]; done)
        | (rw [if_neg (fun q => h25 q.2.2)]; done)
theorem c_X13_safe (hR : mm_Rf M) (hK : mm_KV (mm_rk M)) (hA : mm_RA M) (hs : mm_R s) (ha : mm_R a) (hh : mm_R h) : mm_Fn X Y_X13_safe 243 [(2, 184), (0, s), (0, a), (0, h)] M (0, kv_safe (mm_rk M) (M 203) (M 204) s a h) M := by
  unfold kv_safe
  refine mm_startF (ls := [(2, 184), (0, s), (0, a), (0, h)]) rfl ?_
  refine mm_aload_n dX13_safe_0 rfl rfl ?_
  refine mm_iload_n dX13_safe_1 rfl rfl ?_
  refine mm_V1i dX13_safe_2 rfl lk_X13_464 (c := 183) rfl (by decide) rfl (by simp) rfl rfl rfl (c_X13_isState hR hK hs) ?_
  refine mm_ifeqb dX13_safe_5 (fun h5 => ?_) (fun h5 => ?_)
  · refine mm_bipush dX13_safe_23 rfl (by decide) ?_
    refine mm_goto dX13_safe_25 ?_
    refine mm_iret dX13_safe_43 rfl rfl ?_
    refine mm_fin ?_ rfl
    first
    | (rw [if_pos ⟨h5, h13, h20⟩]; first | exact mm_b1 h35 | exact mm_b0 h35)
    | (rw [if_neg (fun q => h5 q.1)]; done)
    | (rw [if_neg (fun q => h13 q.2.1)]; done)
    | (rw [if_neg (fun q => h20 q.2.2)]; done)
  · refine mm_aload_n dX13_safe_8 rfl rfl ?_
    refine mm_iload_n dX13_safe_9 rfl rfl ?_
    refine mm_V1i dX13_safe_10 rfl lk_X13_470 (c := 183) rfl (by decide) rfl (by simp) rfl rfl rfl (c_X13_isAct hR hK ha) ?_
    refine mm_ifeqb dX13_safe_13 (fun h13 => ?_) (fun h13 => ?_)
    · refine mm_bipush dX13_safe_23 rfl (by decide) ?_
      refine mm_goto dX13_safe_25 ?_
      refine mm_iret dX13_safe_43 rfl rfl ?_
      refine mm_fin ?_ rfl
      first
      | (rw [if_pos ⟨h5, h13, h20⟩]; first | exact mm_b1 h35 | exact mm_b0 h35)
      | (rw [if_neg (fun q => h5 q.1)]; done)
      | (rw [if_neg (fun q => h13 q.2.1)]; done)
      | (rw [if_neg (fun q => h20 q.2.2)]; done)
    · refine mm_iload_n dX13_safe_16 rfl rfl ?_
      refine mm_S1i dX13_safe_17 rfl lk_X13_486 (by simp) rfl rfl rfl (c_X13_isHour hh) ?_
      refine mm_ifneb dX13_safe_20 (fun h20 => ?_) (fun h20 => ?_)
      · refine mm_aload_n dX13_safe_28 rfl rfl ?_
        refine mm_iload_n dX13_safe_29 rfl rfl ?_
        refine mm_iload_n dX13_safe_30 rfl rfl ?_
        refine mm_iload_n dX13_safe_31 rfl rfl ?_
        refine mm_V3i dX13_safe_32 rfl lk_X13_510 (c := 183) rfl (by decide) rfl (by simp) (by simp) (by simp) rfl rfl rfl (c_X13_isSafe hR hK hA h5 h13 h20) ?_
        refine mm_ifeqb dX13_safe_35 (fun h35 => ?_) (fun h35 => ?_)
        · refine mm_iconst dX13_safe_42 rfl ?_
          refine mm_iret dX13_safe_43 rfl rfl ?_
          refine mm_fin ?_ rfl
          first
          | (rw [if_pos ⟨h5, h13, h20⟩]; first | exact mm_b1 h35 | exact mm_b0 h35)
          | (rw [if_neg (fun q => h5 q.1)]; done)
          | (rw [if_neg (fun q => h13 q.2.1)]; done)
          | (rw [if_neg (fun q => h20 q.2.2)]; done)
        · refine mm_iconst dX13_safe_38 rfl ?_
          refine mm_goto dX13_safe_39 ?_
          refine mm_iret dX13_safe_43 rfl rfl ?_
          refine mm_fin ?_ rfl
          first
          | (rw [if_pos ⟨h5, h13, h20⟩]; first | exact mm_b1 h35 | exact mm_b0 h35)
          | (rw [if_neg (fun q => h5 q.1)]; done)
          | (rw [if_neg (fun q => h13 q.2.1)]; done)
          | (rw [if_neg (fun q => h20 q.2.2)]; done)
      · refine mm_bipush dX13_safe_23 rfl (by decide) ?_
        refine mm_goto dX13_safe_25 ?_
        refine mm_iret dX13_safe_43 rfl rfl ?_
        refine mm_fin ?_ rfl
        first
        | (rw [if_pos ⟨h5, h13, h20⟩]; first | exact mm_b1 h35 | exact mm_b0 h35)
        | (rw [if_neg (fun q => h5 q.1)]; done)
        | (rw [if_neg (fun q => h13 q.2.1)]; done)
        | (rw [if_neg (fun q => h20 q.2.2)]; done)
theorem c_X13_gives (hR : mm_Rf M) (hK : mm_KV (mm_rk M)) (hA : mm_RA M) (hs : mm_R s) (ha : mm_R a) (hh : mm_R h) : mm_Fn X Y_X13_gives 243 [(2, 184), (0, s), (0, a), (0, h)] M (0, kv_gives (mm_rk M) (M 203) (M 204) s a h) M := by
  unfold kv_gives
  refine mm_startF (ls := [(2, 184), (0, s), (0, a), (0, h)]) rfl ?_
  refine mm_aload_n dX13_gives_0 rfl rfl ?_
  refine mm_iload_n dX13_gives_1 rfl rfl ?_
  refine mm_V1i dX13_gives_2 rfl lk_X13_464 (c := 183) rfl (by decide) rfl (by simp) rfl rfl rfl (c_X13_isState hR hK hs) ?_
  refine mm_ifeqb dX13_gives_5 (fun h5 => ?_) (fun h5 => ?_)
  · refine mm_ldcw dX13_gives_33 rfl kc_X13_517 ?_
    refine mm_iret dX13_gives_36 rfl rfl ?_
    refine mm_fin ?_ rfl
    first
    | (rw [if_pos ⟨h5, h13, h20⟩]; done)
    | (rw [if_neg (fun q => h5 q.1)]; done)
    | (rw [if_neg (fun q => h13 q.2.1)]; done)
    | (rw [if_neg (fun q => h20 q.2.2)]; done)
  · refine mm_aload_n dX13_gives_8 rfl rfl ?_
    refine mm_iload_n dX13_gives_9 rfl rfl ?_
    refine mm_V1i dX13_gives_10 rfl lk_X13_470 (c := 183) rfl (by decide) rfl (by simp) rfl rfl rfl (c_X13_isAct hR hK ha) ?_
    refine mm_ifeqb dX13_gives_13 (fun h13 => ?_) (fun h13 => ?_)
    · refine mm_ldcw dX13_gives_33 rfl kc_X13_517 ?_
      refine mm_iret dX13_gives_36 rfl rfl ?_
      refine mm_fin ?_ rfl
      first
      | (rw [if_pos ⟨h5, h13, h20⟩]; done)
      | (rw [if_neg (fun q => h5 q.1)]; done)
      | (rw [if_neg (fun q => h13 q.2.1)]; done)
      | (rw [if_neg (fun q => h20 q.2.2)]; done)
    · refine mm_iload_n dX13_gives_16 rfl rfl ?_
      refine mm_S1i dX13_gives_17 rfl lk_X13_486 (by simp) rfl rfl rfl (c_X13_isHour hh) ?_
      refine mm_ifeqb dX13_gives_20 (fun h20 => ?_) (fun h20 => ?_)
      · refine mm_ldcw dX13_gives_33 rfl kc_X13_517 ?_
        refine mm_iret dX13_gives_36 rfl rfl ?_
        refine mm_fin ?_ rfl
        first
        | (rw [if_pos ⟨h5, h13, h20⟩]; done)
        | (rw [if_neg (fun q => h5 q.1)]; done)
        | (rw [if_neg (fun q => h13 q.2.1)]; done)
        | (rw [if_neg (fun q => h20 q.2.2)]; done)
      · refine mm_aload_n dX13_gives_23 rfl rfl ?_
        refine mm_iload_n dX13_gives_24 rfl rfl ?_
        refine mm_iload_n dX13_gives_25 rfl rfl ?_
        refine mm_iload_n dX13_gives_26 rfl rfl ?_
        refine mm_V3i dX13_gives_27 rfl lk_X13_514 (c := 183) rfl (by decide) rfl (by simp) (by simp) (by simp) rfl rfl rfl (c_X13_surely hR hK hA h5 h13 h20) ?_
        refine mm_goto dX13_gives_30 ?_
        refine mm_iret dX13_gives_36 rfl rfl ?_
        refine mm_fin ?_ rfl
        first
        | (rw [if_pos ⟨h5, h13, h20⟩]; done)
        | (rw [if_neg (fun q => h5 q.1)]; done)
        | (rw [if_neg (fun q => h13 q.2.1)]; done)
        | (rw [if_neg (fun q => h20 q.2.2)]; done)
theorem c_X13_pulls (hR : mm_Rf M) (hK : mm_KV (mm_rk M)) (hA : mm_RA M) (hsh : 0 ≤ M 183 96 ∧ M 183 96 ≤ 20) (hs : mm_R s) (ha : mm_R a) (hh : mm_R h) : mm_Fn X Y_X13_pulls 243 [(2, 184), (0, s), (0, a), (0, h)] M (0, kv_pulls (mm_rk M) (M 203) (M 183 96) s a h) M := by
  unfold kv_pulls
  refine mm_startF (ls := [(2, 184), (0, s), (0, a), (0, h)]) rfl ?_
  refine mm_aload_n dX13_pulls_0 rfl rfl ?_
  refine mm_iload_n dX13_pulls_1 rfl rfl ?_
  refine mm_V1i dX13_pulls_2 rfl lk_X13_464 (c := 183) rfl (by decide) rfl (by simp) rfl rfl rfl (c_X13_isState hR hK hs) ?_
  refine mm_ifeqb dX13_pulls_5 (fun h5 => ?_) (fun h5 => ?_)
  · refine mm_bipush dX13_pulls_37 rfl (by decide) ?_
    refine mm_iret dX13_pulls_39 rfl rfl ?_
    refine mm_fin ?_ rfl
    first
    | (rw [if_pos ⟨h5, h13, h20⟩]; done)
    | (rw [if_neg (fun q => h5 q.1)]; done)
    | (rw [if_neg (fun q => h13 q.2.1)]; done)
    | (rw [if_neg (fun q => h20 q.2.2)]; done)
  · refine mm_aload_n dX13_pulls_8 rfl rfl ?_
    refine mm_iload_n dX13_pulls_9 rfl rfl ?_
    refine mm_V1i dX13_pulls_10 rfl lk_X13_470 (c := 183) rfl (by decide) rfl (by simp) rfl rfl rfl (c_X13_isAct hR hK ha) ?_
    refine mm_ifeqb dX13_pulls_13 (fun h13 => ?_) (fun h13 => ?_)
    · refine mm_bipush dX13_pulls_37 rfl (by decide) ?_
      refine mm_iret dX13_pulls_39 rfl rfl ?_
      refine mm_fin ?_ rfl
      first
      | (rw [if_pos ⟨h5, h13, h20⟩]; done)
      | (rw [if_neg (fun q => h5 q.1)]; done)
      | (rw [if_neg (fun q => h13 q.2.1)]; done)
      | (rw [if_neg (fun q => h20 q.2.2)]; done)
    · refine mm_iload_n dX13_pulls_16 rfl rfl ?_
      refine mm_S1i dX13_pulls_17 rfl lk_X13_486 (by simp) rfl rfl rfl (c_X13_isHour hh) ?_
      refine mm_ifeqb dX13_pulls_20 (fun h20 => ?_) (fun h20 => ?_)
      · refine mm_bipush dX13_pulls_37 rfl (by decide) ?_
        refine mm_iret dX13_pulls_39 rfl rfl ?_
        refine mm_fin ?_ rfl
        first
        | (rw [if_pos ⟨h5, h13, h20⟩]; done)
        | (rw [if_neg (fun q => h5 q.1)]; done)
        | (rw [if_neg (fun q => h13 q.2.1)]; done)
        | (rw [if_neg (fun q => h20 q.2.2)]; done)
      · refine mm_aload_n dX13_pulls_23 rfl rfl ?_
        refine mm_iload_n dX13_pulls_24 rfl rfl ?_
        refine mm_iload_n dX13_pulls_25 rfl rfl ?_
        refine mm_iload_n dX13_pulls_26 rfl rfl ?_
        refine mm_aload_n dX13_pulls_27 rfl rfl ?_
        refine mm_get (kd := 0) dX13_pulls_28 rfl fl_X13_349 (c := 183) rfl (by decide) rfl rfl ?_
        refine mm_V4i dX13_pulls_31 rfl lk_X13_709 (c := 183) rfl (by decide) rfl (by simp) (by simp) (by simp) (by simp) rfl rfl rfl (c_X13_pullBy hR hK hA h5 h13 h20 hsh) ?_
        refine mm_goto dX13_pulls_34 ?_
        refine mm_iret dX13_pulls_39 rfl rfl ?_
        refine mm_fin ?_ rfl
        first
        | (rw [if_pos ⟨h5, h13, h20⟩]; done)
        | (rw [if_neg (fun q => h5 q.1)]; done)
        | (rw [if_neg (fun q => h13 q.2.1)]; done)
        | (rw [if_neg (fun q => h20 q.2.2)]; done)
theorem c_X13_tired (hR : mm_Rf M) (hx : mm_R x) : mm_Fn X Y_X13_tired 243 [(2, 184), (0, x)] M (0, if 0 ≤ x ∧ x ≤ 1000000 then M 183 79 else -2) (if 0 ≤ x ∧ x ≤ 1000000 then mm_up M 183 79 x else M) := by
  refine mm_startF (ls := [(2, 184), (0, x), (9, 0)]) rfl ?_
  refine mm_iload_n dX13_tired_0 rfl rfl ?_
  refine mm_i2l dX13_tired_1 rfl (by omega) ?_
  refine mm_lconst0 dX13_tired_2 rfl ?_
  refine mm_ldc2 dX13_tired_3 rfl kc_X13_668 ?_
  refine mm_S3i dX13_tired_6 rfl lk_X13_5 (by simp) (by simp) (by simp) rfl rfl rfl (c_X13_in (by omega) (by decide) (by omega)) ?_
  refine mm_ifneb dX13_tired_9 (fun h9 => ?_) (fun h9 => ?_)
  · refine mm_aload_n dX13_tired_15 rfl rfl ?_
    refine mm_get (kd := 0) dX13_tired_16 rfl fl_X13_670 (c := 183) rfl (by decide) rfl rfl ?_
    refine mm_istore_n dX13_tired_19 rfl (Nat.le_of_ble_eq_true rfl) rfl ?_
    refine mm_aload_n dX13_tired_20 rfl rfl ?_
    refine mm_iload_n dX13_tired_21 rfl rfl ?_
    refine mm_puti dX13_tired_22 rfl fl_X13_670 (c := 183) rfl (by decide) rfl rfl (fun M22 hM22 => ?_)
    have hR22 : mm_Rf M22 := by rw [hM22]; exact hR.up rfl
    refine mm_iload_n dX13_tired_25 rfl rfl ?_
    refine mm_iret dX13_tired_26 rfl rfl ?_
    exact mm_fin (by rw [if_pos h9]) (by rw [if_pos h9, hM22])
  · refine mm_bipush dX13_tired_12 rfl (by decide) ?_
    refine mm_iret dX13_tired_14 rfl rfl ?_
    exact mm_fin (by rw [if_neg h9]) (by rw [if_neg h9])
theorem c_X13_hidden (hR : mm_Rf M) (hx : mm_R x) : mm_Fn X Y_X13_hidden 243 [(2, 184), (0, x)] M (0, if 0 ≤ x ∧ x ≤ 20 then M 183 96 else -2) (if 0 ≤ x ∧ x ≤ 20 then mm_up M 183 96 x else M) := by
  refine mm_startF (ls := [(2, 184), (0, x), (9, 0)]) rfl ?_
  refine mm_iload_n dX13_hidden_0 rfl rfl ?_
  refine mm_i2l dX13_hidden_1 rfl (by omega) ?_
  refine mm_lconst0 dX13_hidden_2 rfl ?_
  refine mm_ldc2 dX13_hidden_3 rfl kc_X13_421 ?_
  refine mm_S3i dX13_hidden_6 rfl lk_X13_5 (by simp) (by simp) (by simp) rfl rfl rfl (c_X13_in (by omega) (by decide) (by omega)) ?_
  refine mm_ifneb dX13_hidden_9 (fun h9 => ?_) (fun h9 => ?_)
  · refine mm_aload_n dX13_hidden_15 rfl rfl ?_
    refine mm_get (kd := 0) dX13_hidden_16 rfl fl_X13_349 (c := 183) rfl (by decide) rfl rfl ?_
    refine mm_istore_n dX13_hidden_19 rfl (Nat.le_of_ble_eq_true rfl) rfl ?_
    refine mm_aload_n dX13_hidden_20 rfl rfl ?_
    refine mm_iload_n dX13_hidden_21 rfl rfl ?_
    refine mm_puti dX13_hidden_22 rfl fl_X13_349 (c := 183) rfl (by decide) rfl rfl (fun M22 hM22 => ?_)
    have hR22 : mm_Rf M22 := by rw [hM22]; exact hR.up rfl
    refine mm_iload_n dX13_hidden_25 rfl rfl ?_
    refine mm_iret dX13_hidden_26 rfl rfl ?_
    exact mm_fin (by rw [if_pos h9]) (by rw [if_pos h9, hM22])
  · refine mm_bipush dX13_hidden_12 rfl (by decide) ?_
    refine mm_iret dX13_hidden_14 rfl rfl ?_
    exact mm_fin (by rw [if_neg h9]) (by rw [if_neg h9])
theorem c_X13_end (hR : mm_Rf M) (hx : mm_R x) (hl : 0 ≤ M 183 2 ∧ M 183 2 ≤ 800) : mm_Fn X Y_X13_end 243 [(2, 184), (0, x)] M (0, if 0 ≤ x ∧ x ≤ M 183 2 then x else -1) (if 0 ≤ x ∧ x ≤ M 183 2 then mm_up M 183 2 x else M) := by
  refine mm_startF (ls := [(2, 184), (0, x)]) rfl ?_
  refine mm_iload_n dX13_end_0 rfl rfl ?_
  refine mm_i2l dX13_end_1 rfl (by omega) ?_
  refine mm_lconst0 dX13_end_2 rfl ?_
  refine mm_aload_n dX13_end_3 rfl rfl ?_
  refine mm_get (kd := 0) dX13_end_4 rfl fl_X13_75 (c := 183) rfl (by decide) rfl rfl ?_
  refine mm_i2l dX13_end_7 rfl (by omega) ?_
  refine mm_S3i dX13_end_8 rfl lk_X13_5 (by simp) (by simp) (by simp) rfl rfl rfl (c_X13_in (by omega) (by decide) (by omega)) ?_
  refine mm_ifneb dX13_end_11 (fun h11 => ?_) (fun h11 => ?_)
  · refine mm_aload_n dX13_end_16 rfl rfl ?_
    refine mm_iload_n dX13_end_17 rfl rfl ?_
    refine mm_puti dX13_end_18 rfl fl_X13_75 (c := 183) rfl (by decide) rfl rfl (fun M18 hM18 => ?_)
    have hR18 : mm_Rf M18 := by rw [hM18]; exact hR.up rfl
    refine mm_iload_n dX13_end_21 rfl rfl ?_
    refine mm_iret dX13_end_22 rfl rfl ?_
    exact mm_fin (by rw [if_pos h11]) (by rw [if_pos h11, hM18])
  · refine mm_iconst dX13_end_14 rfl ?_
    refine mm_iret dX13_end_15 rfl rfl ?_
    exact mm_fin (by rw [if_neg h11]) (by rw [if_neg h11])
theorem c_X13_fielded (hR : mm_Rf M) : mm_Fn X Y_X13_fielded 243 [(2, 184)] M (0, M 183 89) M := by
  refine mm_startF (ls := [(2, 184)]) rfl ?_
  refine mm_aload_n dX13_fielded_0 rfl rfl ?_
  refine mm_get (kd := 0) dX13_fielded_1 rfl fl_X13_400 (c := 183) rfl (by decide) rfl rfl ?_
  refine mm_iret dX13_fielded_4 rfl rfl ?_
  exact mm_fin rfl rfl
theorem c_X13_isKept (hR : mm_Rf M) (hx : 0 ≤ x ∧ x < 14) (hl : mm_R (M 216 x.toNat)) : mm_Fn X Y_X13_isKept 243 [(2, 184), (0, x)] M (0, mm_b (0 < M 216 x.toNat)) M := by
  refine mm_startF (ls := [(2, 184), (0, x)]) rfl ?_
  refine mm_aload_n dX13_isKept_0 rfl rfl ?_
  refine mm_getr dX13_isKept_1 rfl fl_X13_295 (c := 183) rfl (by decide) rfl rfl (hR.at (c := 183) (i := 64) (v := 217) rfl (by decide)) ?_
  refine mm_iload_n dX13_isKept_4 rfl rfl ?_
  refine mm_iald dX13_isKept_5 rfl (c := 216) rfl (by decide) rfl (by omega) (by omega) ?_
  refine mm_ifle dX13_isKept_6 (by omega) (fun h6 => ?_) (fun h6 => ?_)
  · refine mm_iconst dX13_isKept_13 rfl ?_
    refine mm_zret dX13_isKept_14 rfl rfl (Or.inl rfl) ?_
    refine mm_fin ?_ rfl
    first
    | exact mm_b1 (by omega)
    | exact mm_b0 (by omega)
  · refine mm_iconst dX13_isKept_9 rfl ?_
    refine mm_goto dX13_isKept_10 ?_
    refine mm_zret dX13_isKept_14 rfl rfl (Or.inr rfl) ?_
    refine mm_fin ?_ rfl
    first
    | exact mm_b1 (by omega)
    | exact mm_b0 (by omega)
theorem c_X13_planned (hR : mm_Rf M) (hx : mm_R x) (hf : M 183 84 = -1 ∨ (0 ≤ M 183 84 ∧ M 183 85 ≤ 23)) (hr : mm_R (M 183 84) ∧ mm_R (M 183 85)) : mm_Fn X Y_X13_planned 243 [(2, 184), (0, x)] M (0, if M 183 84 ≠ -1 ∧ M 183 84 ≤ x ∧ x ≤ M 183 85 then M 223 x.toNat else -1) M := by
  refine mm_startF (ls := [(2, 184), (0, x)]) rfl ?_
  refine mm_aload_n dX13_planned_0 rfl rfl ?_
  refine mm_get (kd := 0) dX13_planned_1 rfl fl_X13_325 (c := 183) rfl (by decide) rfl rfl ?_
  refine mm_iconst dX13_planned_4 rfl ?_
  refine mm_iceq dX13_planned_5 (by omega) (by omega) (fun h5 => ?_) (fun h5 => ?_)
  · refine mm_iconst dX13_planned_35 rfl ?_
    refine mm_iret dX13_planned_36 rfl rfl ?_
    refine mm_fin ?_ rfl
    first
    | (rw [if_pos (by omega)]; done)
    | (rw [if_neg (by omega)]; done)
  · refine mm_iload_n dX13_planned_8 rfl rfl ?_
    refine mm_i2l dX13_planned_9 rfl (by omega) ?_
    refine mm_aload_n dX13_planned_10 rfl rfl ?_
    refine mm_get (kd := 0) dX13_planned_11 rfl fl_X13_325 (c := 183) rfl (by decide) rfl rfl ?_
    refine mm_i2l dX13_planned_14 rfl (by omega) ?_
    refine mm_aload_n dX13_planned_15 rfl rfl ?_
    refine mm_get (kd := 0) dX13_planned_16 rfl fl_X13_681 (c := 183) rfl (by decide) rfl rfl ?_
    refine mm_i2l dX13_planned_19 rfl (by omega) ?_
    refine mm_S3i dX13_planned_20 rfl lk_X13_5 (by simp) (by simp) (by simp) rfl rfl rfl (c_X13_in (by omega) (by omega) (by omega)) ?_
    refine mm_ifeqb dX13_planned_23 (fun h23 => ?_) (fun h23 => ?_)
    · refine mm_iconst dX13_planned_35 rfl ?_
      refine mm_iret dX13_planned_36 rfl rfl ?_
      refine mm_fin ?_ rfl
      first
      | (rw [if_pos (by omega)]; done)
      | (rw [if_neg (by omega)]; done)
    · refine mm_aload_n dX13_planned_26 rfl rfl ?_
      refine mm_getr dX13_planned_27 rfl fl_X13_316 (c := 183) rfl (by decide) rfl rfl (hR.at (c := 183) (i := 81) (v := 224) rfl (by decide)) ?_
      refine mm_iload_n dX13_planned_30 rfl rfl ?_
      refine mm_iald dX13_planned_31 rfl (c := 223) rfl (by decide) rfl (by omega) (by omega) ?_
      refine mm_goto dX13_planned_32 ?_
      refine mm_iret dX13_planned_36 rfl rfl ?_
      refine mm_fin ?_ rfl
      first
      | (rw [if_pos (by omega)]; done)
      | (rw [if_neg (by omega)]; done)
def kv_count (n0 n1 n2 n3 n4 n5 n6 n7 : Int) (L : Int → Int) (x : Int) : Int := if x = 0 then n0 else if x = 1 then n1 else if x = 2 then n2 else if x = 3 then n3 else if x = 4 then n4 else if x = 5 then n5 else if x = 6 then n6 else if x = 7 then n7 else if 10 ≤ x ∧ x ≤ 15 then L (x - 10) else -1
theorem c_X13_count (hR : mm_Rf M) (hx : mm_R x) : mm_Fn X Y_X13_count 243 [(2, 184), (0, x)] M (0, kv_count (ks_n (mm_rk M)) (M 183 27) (M 183 88) (M 183 92) (M 183 97) (M 183 98) (M 183 79) (M 183 2) (fun i => M 216 i.toNat) x) M := by
  refine mm_startF (ls := [(2, 184), (0, x)]) rfl ?_
  unfold kv_count
  refine mm_iload_n dX13_count_0 rfl rfl ?_
  refine mm_i2l dX13_count_1 rfl (by omega) ?_
  refine mm_ldc2 dX13_count_2 rfl kc_X13_601 ?_
  refine mm_ldc2 dX13_count_5 rfl kc_X13_724 ?_
  refine mm_S3i dX13_count_8 rfl lk_X13_5 (by simp) (by simp) (by simp) rfl rfl rfl (c_X13_in (by omega) (by omega) (by omega)) ?_
  refine mm_ifeqb dX13_count_11 (fun h11 => ?_) (fun h11 => ?_)
  · refine mm_iload_n dX13_count_24 rfl rfl ?_
    have hsw : (x < 0 ∨ 7 < x) ∨ x = 0 ∨ x = 1 ∨ x = 2 ∨ x = 3 ∨ x = 4 ∨ x = 5 ∨ x = 6 ∨ x = 7 := by omega
    rcases hsw with h25 | h25 | h25 | h25 | h25 | h25 | h25 | h25 | h25
    · refine mm_tsd (t := 112) dX13_count_25.1 (by omega) h25 (by decide) ?_
      refine mm_iconst dX13_count_112 rfl ?_
      refine mm_iret dX13_count_113 rfl rfl ?_
      refine mm_fin ?_ rfl
      first
      | (rw [if_neg (by omega), if_neg (by omega), if_neg (by omega), if_neg (by omega), if_neg (by omega), if_neg (by omega), if_neg (by omega), if_neg (by omega), if_neg (by omega)]; done)
      | (subst h25; rfl)
    · refine mm_tsw (t := 72) (k := 0) dX13_count_25.1 (by omega) (by omega) (by omega) (by omega) rfl (by decide) ?_
      refine mm_aload_n dX13_count_72 rfl rfl ?_
      refine mm_V0i dX13_count_73 rfl lk_X13_458 (c := 183) rfl (by decide) rfl  rfl rfl rfl (c_X13_states hR) ?_
      refine mm_iret dX13_count_76 rfl rfl ?_
      refine mm_fin ?_ rfl
      first
      | (rw [if_neg (by omega), if_neg (by omega), if_neg (by omega), if_neg (by omega), if_neg (by omega), if_neg (by omega), if_neg (by omega), if_neg (by omega), if_neg (by omega)]; done)
      | (subst h25; rfl)
    · refine mm_tsw (t := 77) (k := 1) dX13_count_25.1 (by omega) (by omega) (by omega) (by omega) rfl (by decide) ?_
      refine mm_aload_n dX13_count_77 rfl rfl ?_
      refine mm_get (kd := 0) dX13_count_78 rfl fl_X13_494 (c := 183) rfl (by decide) rfl rfl ?_
      refine mm_iret dX13_count_81 rfl rfl ?_
      refine mm_fin ?_ rfl
      first
      | (rw [if_neg (by omega), if_neg (by omega), if_neg (by omega), if_neg (by omega), if_neg (by omega), if_neg (by omega), if_neg (by omega), if_neg (by omega), if_neg (by omega)]; done)
      | (subst h25; rfl)
    · refine mm_tsw (t := 82) (k := 2) dX13_count_25.1 (by omega) (by omega) (by omega) (by omega) rfl (by decide) ?_
      refine mm_aload_n dX13_count_82 rfl rfl ?_
      refine mm_get (kd := 0) dX13_count_83 rfl fl_X13_397 (c := 183) rfl (by decide) rfl rfl ?_
      refine mm_iret dX13_count_86 rfl rfl ?_
      refine mm_fin ?_ rfl
      first
      | (rw [if_neg (by omega), if_neg (by omega), if_neg (by omega), if_neg (by omega), if_neg (by omega), if_neg (by omega), if_neg (by omega), if_neg (by omega), if_neg (by omega)]; done)
      | (subst h25; rfl)
    · refine mm_tsw (t := 87) (k := 3) dX13_count_25.1 (by omega) (by omega) (by omega) (by omega) rfl (by decide) ?_
      refine mm_aload_n dX13_count_87 rfl rfl ?_
      refine mm_get (kd := 0) dX13_count_88 rfl fl_X13_704 (c := 183) rfl (by decide) rfl rfl ?_
      refine mm_iret dX13_count_91 rfl rfl ?_
      refine mm_fin ?_ rfl
      first
      | (rw [if_neg (by omega), if_neg (by omega), if_neg (by omega), if_neg (by omega), if_neg (by omega), if_neg (by omega), if_neg (by omega), if_neg (by omega), if_neg (by omega)]; done)
      | (subst h25; rfl)
    · refine mm_tsw (t := 92) (k := 4) dX13_count_25.1 (by omega) (by omega) (by omega) (by omega) rfl (by decide) ?_
      refine mm_aload_n dX13_count_92 rfl rfl ?_
      refine mm_get (kd := 0) dX13_count_93 rfl fl_X13_403 (c := 183) rfl (by decide) rfl rfl ?_
      refine mm_iret dX13_count_96 rfl rfl ?_
      refine mm_fin ?_ rfl
      first
      | (rw [if_neg (by omega), if_neg (by omega), if_neg (by omega), if_neg (by omega), if_neg (by omega), if_neg (by omega), if_neg (by omega), if_neg (by omega), if_neg (by omega)]; done)
      | (subst h25; rfl)
    · refine mm_tsw (t := 97) (k := 5) dX13_count_25.1 (by omega) (by omega) (by omega) (by omega) rfl (by decide) ?_
      refine mm_aload_n dX13_count_97 rfl rfl ?_
      refine mm_get (kd := 0) dX13_count_98 rfl fl_X13_406 (c := 183) rfl (by decide) rfl rfl ?_
      refine mm_iret dX13_count_101 rfl rfl ?_
      refine mm_fin ?_ rfl
      first
      | (rw [if_neg (by omega), if_neg (by omega), if_neg (by omega), if_neg (by omega), if_neg (by omega), if_neg (by omega), if_neg (by omega), if_neg (by omega), if_neg (by omega)]; done)
      | (subst h25; rfl)
    · refine mm_tsw (t := 102) (k := 6) dX13_count_25.1 (by omega) (by omega) (by omega) (by omega) rfl (by decide) ?_
      refine mm_aload_n dX13_count_102 rfl rfl ?_
      refine mm_get (kd := 0) dX13_count_103 rfl fl_X13_670 (c := 183) rfl (by decide) rfl rfl ?_
      refine mm_iret dX13_count_106 rfl rfl ?_
      refine mm_fin ?_ rfl
      first
      | (rw [if_neg (by omega), if_neg (by omega), if_neg (by omega), if_neg (by omega), if_neg (by omega), if_neg (by omega), if_neg (by omega), if_neg (by omega), if_neg (by omega)]; done)
      | (subst h25; rfl)
    · refine mm_tsw (t := 107) (k := 7) dX13_count_25.1 (by omega) (by omega) (by omega) (by omega) rfl (by decide) ?_
      refine mm_aload_n dX13_count_107 rfl rfl ?_
      refine mm_get (kd := 0) dX13_count_108 rfl fl_X13_75 (c := 183) rfl (by decide) rfl rfl ?_
      refine mm_iret dX13_count_111 rfl rfl ?_
      refine mm_fin ?_ rfl
      first
      | (rw [if_neg (by omega), if_neg (by omega), if_neg (by omega), if_neg (by omega), if_neg (by omega), if_neg (by omega), if_neg (by omega), if_neg (by omega), if_neg (by omega)]; done)
      | (subst h25; rfl)
  · refine mm_aload_n dX13_count_14 rfl rfl ?_
    refine mm_getr dX13_count_15 rfl fl_X13_295 (c := 183) rfl (by decide) rfl rfl (hR.at (c := 183) (i := 64) (v := 217) rfl (by decide)) ?_
    refine mm_iload_n dX13_count_18 rfl rfl ?_
    refine mm_bipush dX13_count_19 rfl (by decide) ?_
    refine mm_isub dX13_count_21 rfl ?_
    refine mm_iald dX13_count_22 rfl (c := 216) rfl (by decide) rfl (by omega) (by omega) ?_
    refine mm_iret dX13_count_23 rfl rfl ?_
    refine mm_fin ?_ rfl
    rw [if_neg (by omega), if_neg (by omega), if_neg (by omega), if_neg (by omega), if_neg (by omega), if_neg (by omega), if_neg (by omega), if_neg (by omega), if_pos (by omega)]
end
end
/-! 52.row -/
section
/-! ===== KitePower$Row ===== -/
/-- the cell rc is a row with room for len acts; its two arrays follow it -/
def mm_rw (rc len : Nat) : Prop := mm_sh rc = (0, 8) ∧ mm_sh (rc + 1) = (1, len) ∧ mm_sh (rc + 2) = (1, len) ∧ rc + 2 < 183 ∧ mm_rt rc 0 = ((rc + 1 : Nat) : Int) + 1 ∧ mm_rt rc 1 = ((rc + 2 : Nat) : Int) + 1 ∧ 0 < len
theorem mm_rw_kept : ∀ k : Nat, k < 6 → mm_rw (121 + 3 * k) 100 ∧ mm_rt 120 k = ((121 + 3 * k : Nat) : Int) + 1 := by unfold mm_rw; decide +kernel
theorem mm_rw_loops : ∀ k : Nat, k < 24 → mm_rw (42 + 3 * k) 288 ∧ mm_rt 22 k = ((42 + 3 * k : Nat) : Int) + 1 := by unfold mm_rw; decide +kernel
theorem mm_rw_stands : ∀ k : Nat, k < 8 → mm_rw (148 + 3 * k) 100 ∧ mm_rt 145 k = ((148 + 3 * k : Nat) : Int) + 1 := by unfold mm_rw; decide +kernel
theorem mm_rw_latest : mm_rw 114 288 := by unfold mm_rw; decide +kernel
theorem mm_rw_judged : mm_rw 117 100 := by unfold mm_rw; decide +kernel
theorem mm_rw.acts {rc len : Nat} (h : mm_rw rc len) {M : mm_M} (hR : mm_Rf M) : M rc 0 = ((rc + 1 : Nat) : Int) + 1 := hR.at h.2.2.2.2.1 (by omega)
theorem mm_rw.states {rc len : Nat} (h : mm_rw rc len) {M : mm_M} (hR : mm_Rf M) : M rc 1 = ((rc + 2 : Nat) : Int) + 1 := hR.at h.2.2.2.2.2.1 (by omega)
theorem mm_rw.c0 {rc len : Nat} (h : mm_rw rc len) : rc < 243 := by have := h.2.2.2.1; omega
theorem mm_rw.c1 {rc len : Nat} (h : mm_rw rc len) : rc + 1 < 243 := by have := h.2.2.2.1; omega
theorem mm_rw.c2 {rc len : Nat} (h : mm_rw rc len) : rc + 2 < 243 := by have := h.2.2.2.1; omega
theorem mm_rt_row {rc len i : Nat} (h : mm_rw rc len) (hi : 2 ≤ i) : mm_rt rc i = 0 := by
  have key : mm_rl.all (fun q => ((mm_sl.getD q.1 (0, 99)).1 != 0 || (mm_sl.getD q.1 (0, 99)).2 != 8) || decide (q.2.1 < 2)) = true := by decide +kernel
  unfold mm_rt
  have : mm_rl.find? (fun q => q.1 == rc && q.2.1 == i) = none := by
    rw [List.find?_eq_none]
    intro q hq hc
    have k := List.all_eq_true.mp key q hq
    simp only [Bool.and_eq_true, beq_iff_eq] at hc
    rw [hc.1] at k
    have e : mm_sl.getD rc (0, 99) = (0, 8) := h.1
    rw [e] at k
    simp at k
    omega
  rw [this]
  rfl
theorem mm_rt_arr {c len : Nat} (h : mm_sh c = (1, len)) (i : Nat) : mm_rt c i = 0 := by
  have key : mm_rl.all (fun q => (mm_sl.getD q.1 (0, 99)).1 != 1) = true := by decide +kernel
  unfold mm_rt
  have : mm_rl.find? (fun q => q.1 == c && q.2.1 == i) = none := by
    rw [List.find?_eq_none]
    intro q hq hc
    have k := List.all_eq_true.mp key q hq
    simp only [Bool.and_eq_true, beq_iff_eq] at hc
    rw [hc.1] at k
    have e : mm_sl.getD c (0, 99) = (1, len) := h
    rw [e] at k
    simp at k
  rw [this]
  rfl
theorem mm_Rf.cp {M : mm_M} (h : mm_Rf M) {d len sp dp n : Nat} {f : Nat → Int} (hd : mm_sh d = (1, len)) : mm_Rf (mm_cp M d f sp dp n) := by
  intro a b hab
  unfold mm_cp
  rw [if_neg (fun q => hab (by rw [q.1]; exact mm_rt_arr hd b))]
  exact h a b hab
/-- the memory after a row was copied from another -/
def mm_cf (M : mm_M) (rc rd len : Nat) : mm_M := fun a b =>
  if a = rc ∧ b = 2 then min (M rd 2) len else if a = rc ∧ b = 3 then M rd 3 else if a = rc + 1 ∧ (b : Int) < min (M rd 2) len then M (rd + 1) b else if a = rc + 2 ∧ (b : Int) < min (M rd 2) len then M (rd + 2) b else M a b
section
variable {X : mm_X} {M : mm_M} {rc rd len len' : Nat}
theorem c_X8_copyFrom (hR : mm_Rf M) (h1 : mm_rw rc len) (h2 : mm_rw rd len') (hne : rc + 3 ≤ rd ∨ rd + 3 ≤ rc) (hl : 0 ≤ M rd 2 ∧ M rd 2 ≤ len') : mm_Fn X Y_X8_copyFrom 243 [(2, (rc : Int) + 1), (2, (rd : Int) + 1)] M (3, 0) (mm_cf M rc rd len) := by
  have hs1 := (mm_shA _ h1.2.1).1
  have hs2 := (mm_shA _ h2.2.1).1
  refine mm_startF (ls := [(2, (rc : Int) + 1), (2, (rd : Int) + 1)]) rfl ?_
  refine mm_aload_n dX8_copyFrom_0 rfl rfl ?_
  refine mm_aload_n dX8_copyFrom_1 rfl rfl ?_
  refine mm_get (kd := 0) dX8_copyFrom_2 rfl fl_X8_22 (c := rd) rfl h2.c0 h2.1 rfl ?_
  refine mm_aload_n dX8_copyFrom_5 rfl rfl ?_
  refine mm_getr dX8_copyFrom_6 rfl fl_X8_13 (c := rc) rfl h1.c0 h1.1 rfl (h1.acts hR) ?_
  refine mm_aln dX8_copyFrom_9 rfl (c := rc + 1) rfl h1.c1 h1.2.1 ?_
  refine mm_min dX8_copyFrom_10 rfl lm_X8_26 rfl rfl (by simp) (by omega) (by omega) ?_
  refine mm_puti dX8_copyFrom_13 rfl fl_X8_22 (c := rc) rfl h1.c0 h1.1 rfl (fun M13 hM13 => ?_)
  have hR13 : mm_Rf M13 := by rw [hM13]; exact hR.up (mm_rt_row h1 (by omega))
  refine mm_aload_n dX8_copyFrom_16 rfl rfl ?_
  refine mm_getr dX8_copyFrom_17 rfl fl_X8_13 (c := rd) rfl h2.c0 h2.1 rfl (h2.acts hR13) ?_
  refine mm_iconst dX8_copyFrom_20 rfl ?_
  refine mm_aload_n dX8_copyFrom_21 rfl rfl ?_
  refine mm_getr dX8_copyFrom_22 rfl fl_X8_13 (c := rc) rfl h1.c0 h1.1 rfl (h1.acts hR13) ?_
  refine mm_iconst dX8_copyFrom_25 rfl ?_
  refine mm_aload_n dX8_copyFrom_26 rfl rfl ?_
  refine mm_get (kd := 0) dX8_copyFrom_27 rfl fl_X8_22 (c := rc) rfl h1.c0 h1.1 rfl ?_
  have e13 : M13 rc 2 = min (M rd 2) len := by rw [hM13, mm_up_s]
  rw [e13]
  refine mm_copy dX8_copyFrom_30 rfl la_X8_29 rfl rfl (c := rd + 1) rfl h2.c1 h2.2.1 (d := rc + 1) rfl h1.c1 h1.2.1 (by omega) (by omega) (by omega) (by omega) (by omega) ?_
  obtain ⟨M30, hM30⟩ : ∃ m, m = mm_cp M13 (rc + 1) (M13 (rd + 1)) (0 : Int).toNat (0 : Int).toNat (min (M rd 2) (len : Int)).toNat := ⟨_, rfl⟩
  rw [← hM30]
  have hR30 : mm_Rf M30 := by rw [hM30]; exact hR13.cp h1.2.1
  refine mm_aload_n dX8_copyFrom_33 rfl rfl ?_
  refine mm_getr dX8_copyFrom_34 rfl fl_X8_19 (c := rd) rfl h2.c0 h2.1 rfl (h2.states hR30) ?_
  refine mm_iconst dX8_copyFrom_37 rfl ?_
  refine mm_aload_n dX8_copyFrom_38 rfl rfl ?_
  refine mm_getr dX8_copyFrom_39 rfl fl_X8_19 (c := rc) rfl h1.c0 h1.1 rfl (h1.states hR30) ?_
  refine mm_iconst dX8_copyFrom_42 rfl ?_
  refine mm_aload_n dX8_copyFrom_43 rfl rfl ?_
  refine mm_get (kd := 0) dX8_copyFrom_44 rfl fl_X8_22 (c := rc) rfl h1.c0 h1.1 rfl ?_
  have e30 : M30 rc 2 = min (M rd 2) len := by
    rw [hM30]; unfold mm_cp; rw [if_neg (fun q => absurd q.1 (by omega)), e13]
  rw [e30]
  refine mm_copy dX8_copyFrom_47 rfl la_X8_29 rfl rfl (c := rd + 2) rfl h2.c2 h2.2.2.1 (d := rc + 2) rfl h1.c2 h1.2.2.1 (by omega) (by omega) (by omega) (by omega) (by omega) ?_
  obtain ⟨M47, hM47⟩ : ∃ m, m = mm_cp M30 (rc + 2) (M30 (rd + 2)) (0 : Int).toNat (0 : Int).toNat (min (M rd 2) (len : Int)).toNat := ⟨_, rfl⟩
  rw [← hM47]
  have hR47 : mm_Rf M47 := by rw [hM47]; exact hR30.cp h1.2.2.1
  refine mm_aload_n dX8_copyFrom_50 rfl rfl ?_
  refine mm_aload_n dX8_copyFrom_51 rfl rfl ?_
  refine mm_get (kd := 0) dX8_copyFrom_52 rfl fl_X8_35 (c := rd) rfl h2.c0 h2.1 rfl ?_
  refine mm_puti dX8_copyFrom_55 rfl fl_X8_35 (c := rc) rfl h1.c0 h1.1 rfl (fun M55 hM55 => ?_)
  have hR55 : mm_Rf M55 := by rw [hM55]; exact hR47.up (mm_rt_row h1 (by omega))
  refine mm_vret dX8_copyFrom_58 rfl rfl ?_
  refine mm_fin rfl ?_
  have up : ∀ a b : Nat, M13 a b = if a = rc ∧ b = 2 then min (M rd 2) len else M a b := fun a b => by rw [hM13]; rfl
  funext a b
  rw [hM55]
  unfold mm_up
  by_cases c1 : a = rc ∧ b = 3
  · rw [if_pos c1]
    unfold mm_cf
    rw [if_neg (by omega), if_pos c1, hM47]
    unfold mm_cp
    rw [if_neg (by omega), hM30]
    unfold mm_cp
    rw [if_neg (by omega), up, if_neg (by omega)]
  · rw [if_neg c1, hM47]
    unfold mm_cf mm_cp
    by_cases c2 : a = rc + 2 ∧ (b : Int) < min (M rd 2) len
    · rw [if_pos (by omega), if_neg (by omega), if_neg (by omega), if_neg (by omega), if_pos c2, hM30]
      unfold mm_cp
      rw [if_neg (by omega), up, if_neg (by omega)]
      congr 1
      omega
    · rw [if_neg (by omega), hM30]
      unfold mm_cp
      by_cases c3 : a = rc + 1 ∧ (b : Int) < min (M rd 2) len
      · rw [if_pos (by omega), if_neg (by omega), if_neg (by omega), if_pos c3, up, if_neg (by omega)]
        congr 1
        omega
      · rw [if_neg (by omega), up]
        by_cases c4 : a = rc ∧ b = 2
        · rw [if_pos c4, if_pos c4]
        · rw [if_neg c4, if_neg c4, if_neg c1, if_neg c3, if_neg c2]
end
end
/-! 53.pub2 -/
section
/-! ===== KitePower: counts, looped, judged, flown, planned, winds ===== -/
/-- the span told last of those that a test picks, of the first n -/
def kw_last (ok : Nat → Prop) [∀ i, Decidable (ok i)] (v : Nat → Int) : Nat → Int
  | 0 => 1010
  | n + 1 => if ok n then v n else kw_last ok v n
section
variable {X : mm_X} {M : mm_M} {s a m w d p h b sh x y z k l u v t lo hi : Int}
theorem mm_keptref (hR : mm_Rf M) (hk : 0 ≤ k ∧ k ≤ 5) : M 120 k.toNat = ((121 + 3 * k.toNat : Nat) : Int) + 1 := hR.at (mm_rw_kept k.toNat (by omega)).2 (by omega)
theorem c_X11_areKept (hR : mm_Rf M) (hx : 0 ≤ x ∧ x ≤ 5) (hy : 0 ≤ y ∧ y ≤ 5) (hl : ∀ k : Nat, k < 6 → 0 ≤ M (121 + 3 * k) 2 ∧ M (121 + 3 * k) 2 ≤ 100) : mm_Fn X Y_X11_areKept 243 [(2, 1), (0, x), (0, y)] M (0, mm_b (0 < M (121 + 3 * x.toNat) 2 ∧ 0 < M (121 + 3 * y.toNat) 2)) M := by
  have e1 := mm_keptref hR hx
  have e2 := mm_keptref hR hy
  have w1 := (mm_rw_kept x.toNat (by omega)).1
  have w2 := (mm_rw_kept y.toNat (by omega)).1
  have l1 := hl x.toNat (by omega)
  have l2 := hl y.toNat (by omega)
  refine mm_startF (ls := [(2, 1), (0, x), (0, y)]) rfl ?_
  refine mm_aload_n dX11_areKept_0 rfl rfl ?_
  refine mm_getr dX11_areKept_1 rfl fl_X11_60 (c := 0) rfl (by decide) rfl rfl (hR.at (c := 0) (i := 7) (v := 121) rfl (by decide)) ?_
  refine mm_iload_n dX11_areKept_4 rfl rfl ?_
  refine mm_aald dX11_areKept_5 rfl (c := 120) rfl (by decide) rfl (by omega) (by omega) ?_
  rw [e1]
  refine mm_get (kd := 0) dX11_areKept_6 rfl fl_X11_115 (c := 121 + 3 * x.toNat) rfl w1.c0 w1.1 rfl ?_
  refine mm_ifle dX11_areKept_9 (by omega) (fun h9 => ?_) (fun h9 => ?_)
  · refine mm_iconst dX11_areKept_28 rfl ?_
    refine mm_zret dX11_areKept_29 rfl rfl (Or.inl rfl) ?_
    refine mm_fin ?_ rfl
    first
    | exact mm_b1 (by omega)
    | exact mm_b0 (by omega)
  · refine mm_aload_n dX11_areKept_12 rfl rfl ?_
    refine mm_getr dX11_areKept_13 rfl fl_X11_60 (c := 0) rfl (by decide) rfl rfl (hR.at (c := 0) (i := 7) (v := 121) rfl (by decide)) ?_
    refine mm_iload_n dX11_areKept_16 rfl rfl ?_
    refine mm_aald dX11_areKept_17 rfl (c := 120) rfl (by decide) rfl (by omega) (by omega) ?_
    rw [e2]
    refine mm_get (kd := 0) dX11_areKept_18 rfl fl_X11_115 (c := 121 + 3 * y.toNat) rfl w2.c0 w2.1 rfl ?_
    refine mm_ifle dX11_areKept_21 (by omega) (fun h21 => ?_) (fun h21 => ?_)
    · refine mm_iconst dX11_areKept_28 rfl ?_
      refine mm_zret dX11_areKept_29 rfl rfl (Or.inl rfl) ?_
      refine mm_fin ?_ rfl
      first
      | exact mm_b1 (by omega)
      | exact mm_b0 (by omega)
    · refine mm_iconst dX11_areKept_24 rfl ?_
      refine mm_goto dX11_areKept_25 ?_
      refine mm_zret dX11_areKept_29 rfl rfl (Or.inr rfl) ?_
      refine mm_fin ?_ rfl
      first
      | exact mm_b1 (by omega)
      | exact mm_b0 (by omega)
theorem c_X11_count (hR : mm_Rf M) (hx : mm_R x) : mm_Fn X Y_X11_count 243 [(2, 1), (0, x)] M (0, kv_count (M 3 2) (M 11 1) (M 144 1) (M 172 0) (M 174 2) (M 174 3) (M 0 13) (M 1 1) (fun i => M (121 + 3 * i.toNat) 2) x) M := by
  have big : x < 10 ∨ 15 < x ∨ (0 ≤ x - 10 ∧ x - 10 ≤ 5) := by omega
  refine mm_startF (ls := [(2, 1), (0, x)]) rfl ?_
  unfold kv_count
  by_cases hb : 0 ≤ x - 10 ∧ x - 10 ≤ 5
  · have e1 := mm_keptref hR hb
    have w1 := (mm_rw_kept (x - 10).toNat (by omega)).1
    refine mm_iload_n dX11_count_0 rfl rfl ?_
    have hsw : (x < 0 ∨ 7 < x) ∨ x = 0 ∨ x = 1 ∨ x = 2 ∨ x = 3 ∨ x = 4 ∨ x = 5 ∨ x = 6 ∨ x = 7 := by omega
    rcases hsw with h1 | h1 | h1 | h1 | h1 | h1 | h1 | h1 | h1
    · refine mm_tsd (t := 109) dX11_count_1.1 (by omega) h1 (by decide) ?_
      refine mm_iload_n dX11_count_109 rfl rfl ?_
      refine mm_bipush dX11_count_110 rfl (by decide) ?_
      refine mm_iclt dX11_count_112 (by omega) (by omega) (fun h112 => ?_) (fun h112 => ?_)
      · exfalso; omega
      · refine mm_iload_n dX11_count_115 rfl rfl ?_
        refine mm_bipush dX11_count_116 rfl (by decide) ?_
        refine mm_isub dX11_count_118 rfl ?_
        refine mm_S1i dX11_count_119 rfl lk_X11_254 (by simp) rfl rfl rfl (c_X11_isSlot (by omega)) ?_
        refine mm_ifeqb dX11_count_122 (fun h122 => ?_) (fun h122 => ?_)
        · exact absurd hb h122
        · refine mm_aload_n dX11_count_125 rfl rfl ?_
          refine mm_getr dX11_count_126 rfl fl_X11_60 (c := 0) rfl (by decide) rfl rfl (hR.at (c := 0) (i := 7) (v := 121) rfl (by decide)) ?_
          refine mm_iload_n dX11_count_129 rfl rfl ?_
          refine mm_bipush dX11_count_130 rfl (by decide) ?_
          refine mm_isub dX11_count_132 rfl ?_
          refine mm_aald dX11_count_133 rfl (c := 120) rfl (by decide) rfl (by omega) (by omega) ?_
          rw [e1]
          refine mm_get (kd := 0) dX11_count_134 rfl fl_X11_115 (c := 121 + 3 * (x - 10).toNat) rfl w1.c0 w1.1 rfl ?_
          refine mm_goto dX11_count_137 ?_
          refine mm_iret dX11_count_141 rfl rfl ?_
          refine mm_fin ?_ rfl
          first
          | (exfalso; omega)
          | (rw [if_neg (by omega), if_neg (by omega), if_neg (by omega), if_neg (by omega), if_neg (by omega), if_neg (by omega), if_neg (by omega), if_neg (by omega), if_pos (by omega)]; done)
    · refine mm_tsw (t := 48) (k := 0) dX11_count_1.1 (by omega) (by omega) (by omega) (by omega) rfl (by decide) ?_
      refine mm_aload_n dX11_count_48 rfl rfl ?_
      refine mm_getr dX11_count_49 rfl fl_X11_19 (c := 0) rfl (by decide) rfl rfl (hR.at (c := 0) (i := 1) (v := 4) rfl (by decide)) ?_
      refine mm_get (kd := 0) dX11_count_52 rfl fl_X11_373 (c := 3) rfl (by decide) rfl rfl ?_
      refine mm_iret dX11_count_55 rfl rfl ?_
      refine mm_fin ?_ rfl
      first
      | (exfalso; omega)
      | (rw [if_neg (by omega), if_neg (by omega), if_neg (by omega), if_neg (by omega), if_neg (by omega), if_neg (by omega), if_neg (by omega), if_neg (by omega), if_pos (by omega)]; done)
    · refine mm_tsw (t := 56) (k := 1) dX11_count_1.1 (by omega) (by omega) (by omega) (by omega) rfl (by decide) ?_
      refine mm_aload_n dX11_count_56 rfl rfl ?_
      refine mm_getr dX11_count_57 rfl fl_X11_28 (c := 0) rfl (by decide) rfl rfl (hR.at (c := 0) (i := 2) (v := 12) rfl (by decide)) ?_
      refine mm_get (kd := 0) dX11_count_60 rfl fl_X11_178 (c := 11) rfl (by decide) rfl rfl ?_
      refine mm_iret dX11_count_63 rfl rfl ?_
      refine mm_fin ?_ rfl
      first
      | (exfalso; omega)
      | (rw [if_neg (by omega), if_neg (by omega), if_neg (by omega), if_neg (by omega), if_neg (by omega), if_neg (by omega), if_neg (by omega), if_neg (by omega), if_pos (by omega)]; done)
    · refine mm_tsw (t := 64) (k := 2) dX11_count_1.1 (by omega) (by omega) (by omega) (by omega) rfl (by decide) ?_
      refine mm_aload_n dX11_count_64 rfl rfl ?_
      refine mm_getr dX11_count_65 rfl fl_X11_76 (c := 0) rfl (by decide) rfl rfl (hR.at (c := 0) (i := 9) (v := 145) rfl (by decide)) ?_
      refine mm_get (kd := 0) dX11_count_68 rfl fl_X11_331 (c := 144) rfl (by decide) rfl rfl ?_
      refine mm_iret dX11_count_71 rfl rfl ?_
      refine mm_fin ?_ rfl
      first
      | (exfalso; omega)
      | (rw [if_neg (by omega), if_neg (by omega), if_neg (by omega), if_neg (by omega), if_neg (by omega), if_neg (by omega), if_neg (by omega), if_neg (by omega), if_pos (by omega)]; done)
    · refine mm_tsw (t := 72) (k := 3) dX11_count_1.1 (by omega) (by omega) (by omega) (by omega) rfl (by decide) ?_
      refine mm_aload_n dX11_count_72 rfl rfl ?_
      refine mm_getr dX11_count_73 rfl fl_X11_83 (c := 0) rfl (by decide) rfl rfl (hR.at (c := 0) (i := 10) (v := 173) rfl (by decide)) ?_
      refine mm_get (kd := 0) dX11_count_76 rfl fl_X11_343 (c := 172) rfl (by decide) rfl rfl ?_
      refine mm_iret dX11_count_79 rfl rfl ?_
      refine mm_fin ?_ rfl
      first
      | (exfalso; omega)
      | (rw [if_neg (by omega), if_neg (by omega), if_neg (by omega), if_neg (by omega), if_neg (by omega), if_neg (by omega), if_neg (by omega), if_neg (by omega), if_pos (by omega)]; done)
    · refine mm_tsw (t := 80) (k := 4) dX11_count_1.1 (by omega) (by omega) (by omega) (by omega) rfl (by decide) ?_
      refine mm_aload_n dX11_count_80 rfl rfl ?_
      refine mm_getr dX11_count_81 rfl fl_X11_90 (c := 0) rfl (by decide) rfl rfl (hR.at (c := 0) (i := 11) (v := 175) rfl (by decide)) ?_
      refine mm_get (kd := 0) dX11_count_84 rfl fl_X11_357 (c := 174) rfl (by decide) rfl rfl ?_
      refine mm_iret dX11_count_87 rfl rfl ?_
      refine mm_fin ?_ rfl
      first
      | (exfalso; omega)
      | (rw [if_neg (by omega), if_neg (by omega), if_neg (by omega), if_neg (by omega), if_neg (by omega), if_neg (by omega), if_neg (by omega), if_neg (by omega), if_pos (by omega)]; done)
    · refine mm_tsw (t := 88) (k := 5) dX11_count_1.1 (by omega) (by omega) (by omega) (by omega) rfl (by decide) ?_
      refine mm_aload_n dX11_count_88 rfl rfl ?_
      refine mm_getr dX11_count_89 rfl fl_X11_90 (c := 0) rfl (by decide) rfl rfl (hR.at (c := 0) (i := 11) (v := 175) rfl (by decide)) ?_
      refine mm_get (kd := 0) dX11_count_92 rfl fl_X11_361 (c := 174) rfl (by decide) rfl rfl ?_
      refine mm_iret dX11_count_95 rfl rfl ?_
      refine mm_fin ?_ rfl
      first
      | (exfalso; omega)
      | (rw [if_neg (by omega), if_neg (by omega), if_neg (by omega), if_neg (by omega), if_neg (by omega), if_neg (by omega), if_neg (by omega), if_neg (by omega), if_pos (by omega)]; done)
    · refine mm_tsw (t := 96) (k := 6) dX11_count_1.1 (by omega) (by omega) (by omega) (by omega) rfl (by decide) ?_
      refine mm_aload_n dX11_count_96 rfl rfl ?_
      refine mm_get (kd := 0) dX11_count_97 rfl fl_X11_282 (c := 0) rfl (by decide) rfl rfl ?_
      refine mm_iret dX11_count_100 rfl rfl ?_
      refine mm_fin ?_ rfl
      first
      | (exfalso; omega)
      | (rw [if_neg (by omega), if_neg (by omega), if_neg (by omega), if_neg (by omega), if_neg (by omega), if_neg (by omega), if_neg (by omega), if_neg (by omega), if_pos (by omega)]; done)
    · refine mm_tsw (t := 101) (k := 7) dX11_count_1.1 (by omega) (by omega) (by omega) (by omega) rfl (by decide) ?_
      refine mm_aload_n dX11_count_101 rfl rfl ?_
      refine mm_getr dX11_count_102 rfl fl_X11_10 (c := 0) rfl (by decide) rfl rfl (hR.at (c := 0) (i := 0) (v := 2) rfl (by decide)) ?_
      refine mm_get (kd := 0) dX11_count_105 rfl fl_X11_105 (c := 1) rfl (by decide) rfl rfl ?_
      refine mm_iret dX11_count_108 rfl rfl ?_
      refine mm_fin ?_ rfl
      first
      | (exfalso; omega)
      | (rw [if_neg (by omega), if_neg (by omega), if_neg (by omega), if_neg (by omega), if_neg (by omega), if_neg (by omega), if_neg (by omega), if_neg (by omega), if_pos (by omega)]; done)
  · refine mm_iload_n dX11_count_0 rfl rfl ?_
    have hsw : (x < 0 ∨ 7 < x) ∨ x = 0 ∨ x = 1 ∨ x = 2 ∨ x = 3 ∨ x = 4 ∨ x = 5 ∨ x = 6 ∨ x = 7 := by omega
    rcases hsw with h1 | h1 | h1 | h1 | h1 | h1 | h1 | h1 | h1
    · refine mm_tsd (t := 109) dX11_count_1.1 (by omega) h1 (by decide) ?_
      refine mm_iload_n dX11_count_109 rfl rfl ?_
      refine mm_bipush dX11_count_110 rfl (by decide) ?_
      refine mm_iclt dX11_count_112 (by omega) (by omega) (fun h112 => ?_) (fun h112 => ?_)
      · refine mm_iconst dX11_count_140 rfl ?_
        refine mm_iret dX11_count_141 rfl rfl ?_
        refine mm_fin ?_ rfl
        first
        | (rw [if_neg (by omega), if_neg (by omega), if_neg (by omega), if_neg (by omega), if_neg (by omega), if_neg (by omega), if_neg (by omega), if_neg (by omega), if_neg (by omega)]; done)
        | (subst h1; rfl)
      · refine mm_iload_n dX11_count_115 rfl rfl ?_
        refine mm_bipush dX11_count_116 rfl (by decide) ?_
        refine mm_isub dX11_count_118 rfl ?_
        refine mm_S1i dX11_count_119 rfl lk_X11_254 (by simp) rfl rfl rfl (c_X11_isSlot (by omega)) ?_
        refine mm_ifeqb dX11_count_122 (fun h122 => ?_) (fun h122 => ?_)
        · refine mm_iconst dX11_count_140 rfl ?_
          refine mm_iret dX11_count_141 rfl rfl ?_
          refine mm_fin ?_ rfl
          first
          | (rw [if_neg (by omega), if_neg (by omega), if_neg (by omega), if_neg (by omega), if_neg (by omega), if_neg (by omega), if_neg (by omega), if_neg (by omega), if_neg (by omega)]; done)
          | (subst h1; rfl)
        · exact absurd h122 hb
    · refine mm_tsw (t := 48) (k := 0) dX11_count_1.1 (by omega) (by omega) (by omega) (by omega) rfl (by decide) ?_
      refine mm_aload_n dX11_count_48 rfl rfl ?_
      refine mm_getr dX11_count_49 rfl fl_X11_19 (c := 0) rfl (by decide) rfl rfl (hR.at (c := 0) (i := 1) (v := 4) rfl (by decide)) ?_
      refine mm_get (kd := 0) dX11_count_52 rfl fl_X11_373 (c := 3) rfl (by decide) rfl rfl ?_
      refine mm_iret dX11_count_55 rfl rfl ?_
      refine mm_fin ?_ rfl
      first
      | (rw [if_neg (by omega), if_neg (by omega), if_neg (by omega), if_neg (by omega), if_neg (by omega), if_neg (by omega), if_neg (by omega), if_neg (by omega), if_neg (by omega)]; done)
      | (subst h1; rfl)
    · refine mm_tsw (t := 56) (k := 1) dX11_count_1.1 (by omega) (by omega) (by omega) (by omega) rfl (by decide) ?_
      refine mm_aload_n dX11_count_56 rfl rfl ?_
      refine mm_getr dX11_count_57 rfl fl_X11_28 (c := 0) rfl (by decide) rfl rfl (hR.at (c := 0) (i := 2) (v := 12) rfl (by decide)) ?_
      refine mm_get (kd := 0) dX11_count_60 rfl fl_X11_178 (c := 11) rfl (by decide) rfl rfl ?_
      refine mm_iret dX11_count_63 rfl rfl ?_
      refine mm_fin ?_ rfl
      first
      | (rw [if_neg (by omega), if_neg (by omega), if_neg (by omega), if_neg (by omega), if_neg (by omega), if_neg (by omega), if_neg (by omega), if_neg (by omega), if_neg (by omega)]; done)
      | (subst h1; rfl)
    · refine mm_tsw (t := 64) (k := 2) dX11_count_1.1 (by omega) (by omega) (by omega) (by omega) rfl (by decide) ?_
      refine mm_aload_n dX11_count_64 rfl rfl ?_
      refine mm_getr dX11_count_65 rfl fl_X11_76 (c := 0) rfl (by decide) rfl rfl (hR.at (c := 0) (i := 9) (v := 145) rfl (by decide)) ?_
      refine mm_get (kd := 0) dX11_count_68 rfl fl_X11_331 (c := 144) rfl (by decide) rfl rfl ?_
      refine mm_iret dX11_count_71 rfl rfl ?_
      refine mm_fin ?_ rfl
      first
      | (rw [if_neg (by omega), if_neg (by omega), if_neg (by omega), if_neg (by omega), if_neg (by omega), if_neg (by omega), if_neg (by omega), if_neg (by omega), if_neg (by omega)]; done)
      | (subst h1; rfl)
    · refine mm_tsw (t := 72) (k := 3) dX11_count_1.1 (by omega) (by omega) (by omega) (by omega) rfl (by decide) ?_
      refine mm_aload_n dX11_count_72 rfl rfl ?_
      refine mm_getr dX11_count_73 rfl fl_X11_83 (c := 0) rfl (by decide) rfl rfl (hR.at (c := 0) (i := 10) (v := 173) rfl (by decide)) ?_
      refine mm_get (kd := 0) dX11_count_76 rfl fl_X11_343 (c := 172) rfl (by decide) rfl rfl ?_
      refine mm_iret dX11_count_79 rfl rfl ?_
      refine mm_fin ?_ rfl
      first
      | (rw [if_neg (by omega), if_neg (by omega), if_neg (by omega), if_neg (by omega), if_neg (by omega), if_neg (by omega), if_neg (by omega), if_neg (by omega), if_neg (by omega)]; done)
      | (subst h1; rfl)
    · refine mm_tsw (t := 80) (k := 4) dX11_count_1.1 (by omega) (by omega) (by omega) (by omega) rfl (by decide) ?_
      refine mm_aload_n dX11_count_80 rfl rfl ?_
      refine mm_getr dX11_count_81 rfl fl_X11_90 (c := 0) rfl (by decide) rfl rfl (hR.at (c := 0) (i := 11) (v := 175) rfl (by decide)) ?_
      refine mm_get (kd := 0) dX11_count_84 rfl fl_X11_357 (c := 174) rfl (by decide) rfl rfl ?_
      refine mm_iret dX11_count_87 rfl rfl ?_
      refine mm_fin ?_ rfl
      first
      | (rw [if_neg (by omega), if_neg (by omega), if_neg (by omega), if_neg (by omega), if_neg (by omega), if_neg (by omega), if_neg (by omega), if_neg (by omega), if_neg (by omega)]; done)
      | (subst h1; rfl)
    · refine mm_tsw (t := 88) (k := 5) dX11_count_1.1 (by omega) (by omega) (by omega) (by omega) rfl (by decide) ?_
      refine mm_aload_n dX11_count_88 rfl rfl ?_
      refine mm_getr dX11_count_89 rfl fl_X11_90 (c := 0) rfl (by decide) rfl rfl (hR.at (c := 0) (i := 11) (v := 175) rfl (by decide)) ?_
      refine mm_get (kd := 0) dX11_count_92 rfl fl_X11_361 (c := 174) rfl (by decide) rfl rfl ?_
      refine mm_iret dX11_count_95 rfl rfl ?_
      refine mm_fin ?_ rfl
      first
      | (rw [if_neg (by omega), if_neg (by omega), if_neg (by omega), if_neg (by omega), if_neg (by omega), if_neg (by omega), if_neg (by omega), if_neg (by omega), if_neg (by omega)]; done)
      | (subst h1; rfl)
    · refine mm_tsw (t := 96) (k := 6) dX11_count_1.1 (by omega) (by omega) (by omega) (by omega) rfl (by decide) ?_
      refine mm_aload_n dX11_count_96 rfl rfl ?_
      refine mm_get (kd := 0) dX11_count_97 rfl fl_X11_282 (c := 0) rfl (by decide) rfl rfl ?_
      refine mm_iret dX11_count_100 rfl rfl ?_
      refine mm_fin ?_ rfl
      first
      | (rw [if_neg (by omega), if_neg (by omega), if_neg (by omega), if_neg (by omega), if_neg (by omega), if_neg (by omega), if_neg (by omega), if_neg (by omega), if_neg (by omega)]; done)
      | (subst h1; rfl)
    · refine mm_tsw (t := 101) (k := 7) dX11_count_1.1 (by omega) (by omega) (by omega) (by omega) rfl (by decide) ?_
      refine mm_aload_n dX11_count_101 rfl rfl ?_
      refine mm_getr dX11_count_102 rfl fl_X11_10 (c := 0) rfl (by decide) rfl rfl (hR.at (c := 0) (i := 0) (v := 2) rfl (by decide)) ?_
      refine mm_get (kd := 0) dX11_count_105 rfl fl_X11_105 (c := 1) rfl (by decide) rfl rfl ?_
      refine mm_iret dX11_count_108 rfl rfl ?_
      refine mm_fin ?_ rfl
      first
      | (rw [if_neg (by omega), if_neg (by omega), if_neg (by omega), if_neg (by omega), if_neg (by omega), if_neg (by omega), if_neg (by omega), if_neg (by omega), if_neg (by omega)]; done)
      | (subst h1; rfl)
def kv_looped (len worth start : Int) (A : Nat → Int) (x : Int) : Int := if len = 0 then -100000000 else if x = 0 then worth else if x = 1 then start else if 10 ≤ x ∧ x - 10 < len then A (x - 10).toNat else -100000000
theorem c_X11_looped (hR : mm_Rf M) (hx : mm_R x) (hl : 0 ≤ M 114 2 ∧ M 114 2 ≤ 288) : mm_Fn X Y_X11_looped 243 [(2, 1), (0, x)] M (0, kv_looped (M 114 2) (M 114 3) (M 116 0) (M 115) x) M := by
  refine mm_startF (ls := [(2, 1), (0, x)]) rfl ?_
  unfold kv_looped
  refine mm_aload_n dX11_looped_0 rfl rfl ?_
  refine mm_getr dX11_looped_1 rfl fl_X11_53 (c := 0) rfl (by decide) rfl rfl (hR.at (c := 0) (i := 5) (v := 115) rfl (by decide)) ?_
  refine mm_get (kd := 0) dX11_looped_4 rfl fl_X11_115 (c := 114) rfl (by decide) rfl rfl ?_
  refine mm_ifne dX11_looped_7 (by omega) (fun h7 => ?_) (fun h7 => ?_)
  · refine mm_iload_n dX11_looped_13 rfl rfl ?_
    refine mm_ifne dX11_looped_14 (by omega) (fun h14 => ?_) (fun h14 => ?_)
    · refine mm_iload_n dX11_looped_25 rfl rfl ?_
      refine mm_iconst dX11_looped_26 rfl ?_
      refine mm_icne dX11_looped_27 (by omega) (by omega) (fun h27 => ?_) (fun h27 => ?_)
      · refine mm_iload_n dX11_looped_40 rfl rfl ?_
        refine mm_bipush dX11_looped_41 rfl (by decide) ?_
        refine mm_iclt dX11_looped_43 (by omega) (by omega) (fun h43 => ?_) (fun h43 => ?_)
        · refine mm_ldc dX11_looped_75 rfl kc_X11_207 ?_
          refine mm_iret dX11_looped_77 rfl rfl ?_
          refine mm_fin ?_ rfl
          first
          | (rw [if_pos (by omega)]; done)
          | (rw [if_neg (by omega), if_pos (by omega)]; done)
          | (rw [if_neg (by omega), if_neg (by omega), if_pos (by omega)]; done)
          | (rw [if_neg (by omega), if_neg (by omega), if_neg (by omega), if_pos (by omega)]; done)
          | (rw [if_neg (by omega), if_neg (by omega), if_neg (by omega), if_neg (by omega)]; done)
        · refine mm_iload_n dX11_looped_46 rfl rfl ?_
          refine mm_bipush dX11_looped_47 rfl (by decide) ?_
          refine mm_isub dX11_looped_49 rfl ?_
          refine mm_aload_n dX11_looped_50 rfl rfl ?_
          refine mm_getr dX11_looped_51 rfl fl_X11_53 (c := 0) rfl (by decide) rfl rfl (hR.at (c := 0) (i := 5) (v := 115) rfl (by decide)) ?_
          refine mm_get (kd := 0) dX11_looped_54 rfl fl_X11_115 (c := 114) rfl (by decide) rfl rfl ?_
          refine mm_icge dX11_looped_57 (by omega) (by omega) (fun h57 => ?_) (fun h57 => ?_)
          · refine mm_ldc dX11_looped_75 rfl kc_X11_207 ?_
            refine mm_iret dX11_looped_77 rfl rfl ?_
            refine mm_fin ?_ rfl
            first
            | (rw [if_pos (by omega)]; done)
            | (rw [if_neg (by omega), if_pos (by omega)]; done)
            | (rw [if_neg (by omega), if_neg (by omega), if_pos (by omega)]; done)
            | (rw [if_neg (by omega), if_neg (by omega), if_neg (by omega), if_pos (by omega)]; done)
            | (rw [if_neg (by omega), if_neg (by omega), if_neg (by omega), if_neg (by omega)]; done)
          · refine mm_aload_n dX11_looped_60 rfl rfl ?_
            refine mm_getr dX11_looped_61 rfl fl_X11_53 (c := 0) rfl (by decide) rfl rfl (hR.at (c := 0) (i := 5) (v := 115) rfl (by decide)) ?_
            refine mm_getr dX11_looped_64 rfl fl_X11_222 (c := 114) rfl (by decide) rfl rfl (hR.at (c := 114) (i := 0) (v := 116) rfl (by decide)) ?_
            refine mm_iload_n dX11_looped_67 rfl rfl ?_
            refine mm_bipush dX11_looped_68 rfl (by decide) ?_
            refine mm_isub dX11_looped_70 rfl ?_
            refine mm_iald dX11_looped_71 rfl (c := 115) rfl (by decide) rfl (by omega) (by omega) ?_
            refine mm_goto dX11_looped_72 ?_
            refine mm_iret dX11_looped_77 rfl rfl ?_
            refine mm_fin ?_ rfl
            first
            | (rw [if_pos (by omega)]; done)
            | (rw [if_neg (by omega), if_pos (by omega)]; done)
            | (rw [if_neg (by omega), if_neg (by omega), if_pos (by omega)]; done)
            | (rw [if_neg (by omega), if_neg (by omega), if_neg (by omega), if_pos (by omega)]; done)
            | (rw [if_neg (by omega), if_neg (by omega), if_neg (by omega), if_neg (by omega)]; done)
      · refine mm_aload_n dX11_looped_30 rfl rfl ?_
        refine mm_getr dX11_looped_31 rfl fl_X11_53 (c := 0) rfl (by decide) rfl rfl (hR.at (c := 0) (i := 5) (v := 115) rfl (by decide)) ?_
        refine mm_getr dX11_looped_34 rfl fl_X11_219 (c := 114) rfl (by decide) rfl rfl (hR.at (c := 114) (i := 1) (v := 117) rfl (by decide)) ?_
        refine mm_iconst dX11_looped_37 rfl ?_
        refine mm_ialk (k0 := 0) dX11_looped_38 rfl (c := 116) rfl (by decide) rfl rfl (by decide) ?_
        refine mm_iret dX11_looped_39 rfl rfl ?_
        refine mm_fin ?_ rfl
        first
        | (rw [if_pos (by omega)]; done)
        | (rw [if_neg (by omega), if_pos (by omega)]; done)
        | (rw [if_neg (by omega), if_neg (by omega), if_pos (by omega)]; done)
        | (rw [if_neg (by omega), if_neg (by omega), if_neg (by omega), if_pos (by omega)]; done)
        | (rw [if_neg (by omega), if_neg (by omega), if_neg (by omega), if_neg (by omega)]; done)
    · refine mm_aload_n dX11_looped_17 rfl rfl ?_
      refine mm_getr dX11_looped_18 rfl fl_X11_53 (c := 0) rfl (by decide) rfl rfl (hR.at (c := 0) (i := 5) (v := 115) rfl (by decide)) ?_
      refine mm_get (kd := 0) dX11_looped_21 rfl fl_X11_216 (c := 114) rfl (by decide) rfl rfl ?_
      refine mm_iret dX11_looped_24 rfl rfl ?_
      refine mm_fin ?_ rfl
      first
      | (rw [if_pos (by omega)]; done)
      | (rw [if_neg (by omega), if_pos (by omega)]; done)
      | (rw [if_neg (by omega), if_neg (by omega), if_pos (by omega)]; done)
      | (rw [if_neg (by omega), if_neg (by omega), if_neg (by omega), if_pos (by omega)]; done)
      | (rw [if_neg (by omega), if_neg (by omega), if_neg (by omega), if_neg (by omega)]; done)
  · refine mm_ldc dX11_looped_10 rfl kc_X11_207 ?_
    refine mm_iret dX11_looped_12 rfl rfl ?_
    refine mm_fin ?_ rfl
    first
    | (rw [if_pos (by omega)]; done)
    | (rw [if_neg (by omega), if_pos (by omega)]; done)
    | (rw [if_neg (by omega), if_neg (by omega), if_pos (by omega)]; done)
    | (rw [if_neg (by omega), if_neg (by omega), if_neg (by omega), if_pos (by omega)]; done)
    | (rw [if_neg (by omega), if_neg (by omega), if_neg (by omega), if_neg (by omega)]; done)
def kv_judged (has e won spent great loop x : Int) : Int := if has = 0 then -1 else if x = 0 then e else if x = 1 then won else if x = 2 then spent else if x = 3 then great else if x = 4 then (if loop = 0 then 0 else 1) else -1
theorem c_X11_judged (hR : mm_Rf M) (hx : mm_R x) (hl : mm_R (M 117 2)) (hz : M 117 9 = 0 ∨ M 117 9 = 1) : mm_Fn X Y_X11_judged 243 [(2, 1), (0, x)] M (0, kv_judged (M 117 2) (M 117 5) (M 117 6) (M 117 7) (M 117 8) (M 117 9) x) M := by
  refine mm_startF (ls := [(2, 1), (0, x)]) rfl ?_
  unfold kv_judged
  refine mm_aload_n dX11_judged_0 rfl rfl ?_
  refine mm_getr dX11_judged_1 rfl fl_X11_57 (c := 0) rfl (by decide) rfl rfl (hR.at (c := 0) (i := 6) (v := 118) rfl (by decide)) ?_
  refine mm_get (kd := 0) dX11_judged_4 rfl fl_X11_115 (c := 117) rfl (by decide) rfl rfl ?_
  refine mm_ifne dX11_judged_7 (by omega) (fun h7 => ?_) (fun h7 => ?_)
  · refine mm_iload_n dX11_judged_12 rfl rfl ?_
    have hsw : (x < 0 ∨ 4 < x) ∨ x = 0 ∨ x = 1 ∨ x = 2 ∨ x = 3 ∨ x = 4 := by omega
    rcases hsw with h13 | h13 | h13 | h13 | h13 | h13
    · refine mm_tsd (t := 96) dX11_judged_13.1 (by omega) h13 (by decide) ?_
      refine mm_iconst dX11_judged_96 rfl ?_
      refine mm_iret dX11_judged_97 rfl rfl ?_
      refine mm_fin ?_ rfl
      first
      | (rw [if_pos (by omega)]; done)
      | (rw [if_neg h7]; subst h13; first | rfl | (rw [if_pos h87]; rfl) | (rw [if_neg h87]; rfl) | (simp [h87]; done))
      | (rw [if_neg (by omega), if_neg (by omega), if_neg (by omega), if_neg (by omega), if_neg (by omega), if_neg (by omega)]; done)
    · refine mm_tsw (t := 48) (k := 0) dX11_judged_13.1 (by omega) (by omega) (by omega) (by omega) rfl (by decide) ?_
      refine mm_aload_n dX11_judged_48 rfl rfl ?_
      refine mm_getr dX11_judged_49 rfl fl_X11_57 (c := 0) rfl (by decide) rfl rfl (hR.at (c := 0) (i := 6) (v := 118) rfl (by decide)) ?_
      refine mm_get (kd := 0) dX11_judged_52 rfl fl_X11_239 (c := 117) rfl (by decide) rfl rfl ?_
      refine mm_iret dX11_judged_55 rfl rfl ?_
      refine mm_fin ?_ rfl
      first
      | (rw [if_pos (by omega)]; done)
      | (rw [if_neg h7]; subst h13; first | rfl | (rw [if_pos h87]; rfl) | (rw [if_neg h87]; rfl) | (simp [h87]; done))
      | (rw [if_neg (by omega), if_neg (by omega), if_neg (by omega), if_neg (by omega), if_neg (by omega), if_neg (by omega)]; done)
    · refine mm_tsw (t := 56) (k := 1) dX11_judged_13.1 (by omega) (by omega) (by omega) (by omega) rfl (by decide) ?_
      refine mm_aload_n dX11_judged_56 rfl rfl ?_
      refine mm_getr dX11_judged_57 rfl fl_X11_57 (c := 0) rfl (by decide) rfl rfl (hR.at (c := 0) (i := 6) (v := 118) rfl (by decide)) ?_
      refine mm_get (kd := 0) dX11_judged_60 rfl fl_X11_242 (c := 117) rfl (by decide) rfl rfl ?_
      refine mm_iret dX11_judged_63 rfl rfl ?_
      refine mm_fin ?_ rfl
      first
      | (rw [if_pos (by omega)]; done)
      | (rw [if_neg h7]; subst h13; first | rfl | (rw [if_pos h87]; rfl) | (rw [if_neg h87]; rfl) | (simp [h87]; done))
      | (rw [if_neg (by omega), if_neg (by omega), if_neg (by omega), if_neg (by omega), if_neg (by omega), if_neg (by omega)]; done)
    · refine mm_tsw (t := 64) (k := 2) dX11_judged_13.1 (by omega) (by omega) (by omega) (by omega) rfl (by decide) ?_
      refine mm_aload_n dX11_judged_64 rfl rfl ?_
      refine mm_getr dX11_judged_65 rfl fl_X11_57 (c := 0) rfl (by decide) rfl rfl (hR.at (c := 0) (i := 6) (v := 118) rfl (by decide)) ?_
      refine mm_get (kd := 0) dX11_judged_68 rfl fl_X11_245 (c := 117) rfl (by decide) rfl rfl ?_
      refine mm_iret dX11_judged_71 rfl rfl ?_
      refine mm_fin ?_ rfl
      first
      | (rw [if_pos (by omega)]; done)
      | (rw [if_neg h7]; subst h13; first | rfl | (rw [if_pos h87]; rfl) | (rw [if_neg h87]; rfl) | (simp [h87]; done))
      | (rw [if_neg (by omega), if_neg (by omega), if_neg (by omega), if_neg (by omega), if_neg (by omega), if_neg (by omega)]; done)
    · refine mm_tsw (t := 72) (k := 3) dX11_judged_13.1 (by omega) (by omega) (by omega) (by omega) rfl (by decide) ?_
      refine mm_aload_n dX11_judged_72 rfl rfl ?_
      refine mm_getr dX11_judged_73 rfl fl_X11_57 (c := 0) rfl (by decide) rfl rfl (hR.at (c := 0) (i := 6) (v := 118) rfl (by decide)) ?_
      refine mm_get (kd := 0) dX11_judged_76 rfl fl_X11_248 (c := 117) rfl (by decide) rfl rfl ?_
      refine mm_iret dX11_judged_79 rfl rfl ?_
      refine mm_fin ?_ rfl
      first
      | (rw [if_pos (by omega)]; done)
      | (rw [if_neg h7]; subst h13; first | rfl | (rw [if_pos h87]; rfl) | (rw [if_neg h87]; rfl) | (simp [h87]; done))
      | (rw [if_neg (by omega), if_neg (by omega), if_neg (by omega), if_neg (by omega), if_neg (by omega), if_neg (by omega)]; done)
    · refine mm_tsw (t := 80) (k := 4) dX11_judged_13.1 (by omega) (by omega) (by omega) (by omega) rfl (by decide) ?_
      refine mm_aload_n dX11_judged_80 rfl rfl ?_
      refine mm_getr dX11_judged_81 rfl fl_X11_57 (c := 0) rfl (by decide) rfl rfl (hR.at (c := 0) (i := 6) (v := 118) rfl (by decide)) ?_
      refine mm_get (kd := 0) dX11_judged_84 rfl fl_X11_251 (c := 117) rfl (by decide) rfl rfl ?_
      refine mm_ifeq dX11_judged_87 (by omega) (fun h87 => ?_) (fun h87 => ?_)
      · refine mm_iconst dX11_judged_94 rfl ?_
        refine mm_iret dX11_judged_95 rfl rfl ?_
        refine mm_fin ?_ rfl
        first
        | (rw [if_pos (by omega)]; done)
        | (rw [if_neg h7]; subst h13; first | rfl | (rw [if_pos h87]; rfl) | (rw [if_neg h87]; rfl) | (simp [h87]; done))
        | (rw [if_neg (by omega), if_neg (by omega), if_neg (by omega), if_neg (by omega), if_neg (by omega), if_neg (by omega)]; done)
      · refine mm_iconst dX11_judged_90 rfl ?_
        refine mm_goto dX11_judged_91 ?_
        refine mm_iret dX11_judged_95 rfl rfl ?_
        refine mm_fin ?_ rfl
        first
        | (rw [if_pos (by omega)]; done)
        | (rw [if_neg h7]; subst h13; first | rfl | (rw [if_pos h87]; rfl) | (rw [if_neg h87]; rfl) | (simp [h87]; done))
        | (rw [if_neg (by omega), if_neg (by omega), if_neg (by omega), if_neg (by omega), if_neg (by omega), if_neg (by omega)]; done)
  · refine mm_iconst dX11_judged_10 rfl ?_
    refine mm_iret dX11_judged_11 rfl rfl ?_
    refine mm_fin ?_ rfl
    first
    | (rw [if_pos (by omega)]; done)
    | (rw [if_neg h7]; subst h13; first | rfl | (rw [if_pos h87]; rfl) | (rw [if_neg h87]; rfl) | (simp [h87]; done))
    | (rw [if_neg (by omega), if_neg (by omega), if_neg (by omega), if_neg (by omega), if_neg (by omega), if_neg (by omega)]; done)
def kv_flown (has fate work e n : Int) (A : Nat → Int) (x : Int) : Int := if has = 0 then -100000000 else if x = 0 then fate else if x = 1 then work else if x = 2 then e else if 10 ≤ x ∧ x - 10 < n then A (x - 10).toNat else -100000000
theorem c_X11_flown (hR : mm_Rf M) (hx : mm_R x) (hz : M 139 3 = 0 ∨ M 139 3 = 1) (hn : 0 ≤ M 139 4 ∧ M 139 4 ≤ 500) : mm_Fn X Y_X11_flown 243 [(2, 1), (0, x)] M (0, kv_flown (M 139 3) (M 139 5) (M 139 6) (M 139 7) (M 139 4) (M 140) x) M := by
  refine mm_startF (ls := [(2, 1), (0, x)]) rfl ?_
  unfold kv_flown
  refine mm_aload_n dX11_flown_0 rfl rfl ?_
  refine mm_getr dX11_flown_1 rfl fl_X11_69 (c := 0) rfl (by decide) rfl rfl (hR.at (c := 0) (i := 8) (v := 140) rfl (by decide)) ?_
  refine mm_get (kd := 0) dX11_flown_4 rfl fl_X11_264 (c := 139) rfl (by decide) rfl rfl ?_
  refine mm_ifne dX11_flown_7 (by omega) (fun h7 => ?_) (fun h7 => ?_)
  · refine mm_iload_n dX11_flown_13 rfl rfl ?_
    have hsw : (x < 0 ∨ 2 < x) ∨ x = 0 ∨ x = 1 ∨ x = 2 := by omega
    rcases hsw with h14 | h14 | h14 | h14
    · refine mm_tsd (t := 64) dX11_flown_14.1 (by omega) h14 (by decide) ?_
      refine mm_iload_n dX11_flown_64 rfl rfl ?_
      refine mm_bipush dX11_flown_65 rfl (by decide) ?_
      refine mm_iclt dX11_flown_67 (by omega) (by omega) (fun h67 => ?_) (fun h67 => ?_)
      · refine mm_ldc dX11_flown_99 rfl kc_X11_207 ?_
        refine mm_iret dX11_flown_101 rfl rfl ?_
        refine mm_fin ?_ rfl
        first
        | (rw [if_pos (by omega)]; done)
        | (rw [if_neg h7]; subst h14; rfl)
        | (rw [if_neg (by omega), if_neg (by omega), if_neg (by omega), if_neg (by omega), if_pos (by omega)]; done)
        | (rw [if_neg (by omega), if_neg (by omega), if_neg (by omega), if_neg (by omega), if_neg (by omega)]; done)
      · refine mm_iload_n dX11_flown_70 rfl rfl ?_
        refine mm_bipush dX11_flown_71 rfl (by decide) ?_
        refine mm_isub dX11_flown_73 rfl ?_
        refine mm_aload_n dX11_flown_74 rfl rfl ?_
        refine mm_getr dX11_flown_75 rfl fl_X11_69 (c := 0) rfl (by decide) rfl rfl (hR.at (c := 0) (i := 8) (v := 140) rfl (by decide)) ?_
        refine mm_get (kd := 0) dX11_flown_78 rfl fl_X11_274 (c := 139) rfl (by decide) rfl rfl ?_
        refine mm_icge dX11_flown_81 (by omega) (by omega) (fun h81 => ?_) (fun h81 => ?_)
        · refine mm_ldc dX11_flown_99 rfl kc_X11_207 ?_
          refine mm_iret dX11_flown_101 rfl rfl ?_
          refine mm_fin ?_ rfl
          first
          | (rw [if_pos (by omega)]; done)
          | (rw [if_neg h7]; subst h14; rfl)
          | (rw [if_neg (by omega), if_neg (by omega), if_neg (by omega), if_neg (by omega), if_pos (by omega)]; done)
          | (rw [if_neg (by omega), if_neg (by omega), if_neg (by omega), if_neg (by omega), if_neg (by omega)]; done)
        · refine mm_aload_n dX11_flown_84 rfl rfl ?_
          refine mm_getr dX11_flown_85 rfl fl_X11_69 (c := 0) rfl (by decide) rfl rfl (hR.at (c := 0) (i := 8) (v := 140) rfl (by decide)) ?_
          refine mm_getr dX11_flown_88 rfl fl_X11_277 (c := 139) rfl (by decide) rfl rfl (hR.at (c := 139) (i := 8) (v := 141) rfl (by decide)) ?_
          refine mm_iload_n dX11_flown_91 rfl rfl ?_
          refine mm_bipush dX11_flown_92 rfl (by decide) ?_
          refine mm_isub dX11_flown_94 rfl ?_
          refine mm_iald dX11_flown_95 rfl (c := 140) rfl (by decide) rfl (by omega) (by omega) ?_
          refine mm_goto dX11_flown_96 ?_
          refine mm_iret dX11_flown_101 rfl rfl ?_
          refine mm_fin ?_ rfl
          first
          | (rw [if_pos (by omega)]; done)
          | (rw [if_neg h7]; subst h14; rfl)
          | (rw [if_neg (by omega), if_neg (by omega), if_neg (by omega), if_neg (by omega), if_pos (by omega)]; done)
          | (rw [if_neg (by omega), if_neg (by omega), if_neg (by omega), if_neg (by omega), if_neg (by omega)]; done)
    · refine mm_tsw (t := 40) (k := 0) dX11_flown_14.1 (by omega) (by omega) (by omega) (by omega) rfl (by decide) ?_
      refine mm_aload_n dX11_flown_40 rfl rfl ?_
      refine mm_getr dX11_flown_41 rfl fl_X11_69 (c := 0) rfl (by decide) rfl rfl (hR.at (c := 0) (i := 8) (v := 140) rfl (by decide)) ?_
      refine mm_get (kd := 0) dX11_flown_44 rfl fl_X11_267 (c := 139) rfl (by decide) rfl rfl ?_
      refine mm_iret dX11_flown_47 rfl rfl ?_
      refine mm_fin ?_ rfl
      first
      | (rw [if_pos (by omega)]; done)
      | (rw [if_neg h7]; subst h14; rfl)
      | (rw [if_neg (by omega), if_neg (by omega), if_neg (by omega), if_neg (by omega), if_pos (by omega)]; done)
      | (rw [if_neg (by omega), if_neg (by omega), if_neg (by omega), if_neg (by omega), if_neg (by omega)]; done)
    · refine mm_tsw (t := 48) (k := 1) dX11_flown_14.1 (by omega) (by omega) (by omega) (by omega) rfl (by decide) ?_
      refine mm_aload_n dX11_flown_48 rfl rfl ?_
      refine mm_getr dX11_flown_49 rfl fl_X11_69 (c := 0) rfl (by decide) rfl rfl (hR.at (c := 0) (i := 8) (v := 140) rfl (by decide)) ?_
      refine mm_get (kd := 0) dX11_flown_52 rfl fl_X11_270 (c := 139) rfl (by decide) rfl rfl ?_
      refine mm_iret dX11_flown_55 rfl rfl ?_
      refine mm_fin ?_ rfl
      first
      | (rw [if_pos (by omega)]; done)
      | (rw [if_neg h7]; subst h14; rfl)
      | (rw [if_neg (by omega), if_neg (by omega), if_neg (by omega), if_neg (by omega), if_pos (by omega)]; done)
      | (rw [if_neg (by omega), if_neg (by omega), if_neg (by omega), if_neg (by omega), if_neg (by omega)]; done)
    · refine mm_tsw (t := 56) (k := 2) dX11_flown_14.1 (by omega) (by omega) (by omega) (by omega) rfl (by decide) ?_
      refine mm_aload_n dX11_flown_56 rfl rfl ?_
      refine mm_getr dX11_flown_57 rfl fl_X11_69 (c := 0) rfl (by decide) rfl rfl (hR.at (c := 0) (i := 8) (v := 140) rfl (by decide)) ?_
      refine mm_get (kd := 0) dX11_flown_60 rfl fl_X11_273 (c := 139) rfl (by decide) rfl rfl ?_
      refine mm_iret dX11_flown_63 rfl rfl ?_
      refine mm_fin ?_ rfl
      first
      | (rw [if_pos (by omega)]; done)
      | (rw [if_neg h7]; subst h14; rfl)
      | (rw [if_neg (by omega), if_neg (by omega), if_neg (by omega), if_neg (by omega), if_pos (by omega)]; done)
      | (rw [if_neg (by omega), if_neg (by omega), if_neg (by omega), if_neg (by omega), if_neg (by omega)]; done)
  · refine mm_ldc dX11_flown_10 rfl kc_X11_207 ?_
    refine mm_iret dX11_flown_12 rfl rfl ?_
    refine mm_fin ?_ rfl
    first
    | (rw [if_pos (by omega)]; done)
    | (rw [if_neg h7]; subst h14; rfl)
    | (rw [if_neg (by omega), if_neg (by omega), if_neg (by omega), if_neg (by omega), if_pos (by omega)]; done)
    | (rw [if_neg (by omega), if_neg (by omega), if_neg (by omega), if_neg (by omega), if_neg (by omega)]; done)
theorem c_X3_isPlanned (hR : mm_Rf M) (hx : mm_R x) (h1 : mm_R (M 21 8)) (h2 : mm_R (M 21 9)) : mm_Fn X Y_X3_isPlanned 243 [(2, 22), (0, x)] M (0, mm_b (M 21 8 ≤ x ∧ x ≤ M 21 9)) M := by
  refine mm_startF (ls := [(2, 22), (0, x)]) rfl ?_
  refine mm_iload_n dX3_isPlanned_0 rfl rfl ?_
  refine mm_aload_n dX3_isPlanned_1 rfl rfl ?_
  refine mm_get (kd := 0) dX3_isPlanned_2 rfl fl_X3_36 (c := 21) rfl (by decide) rfl rfl ?_
  refine mm_iclt dX3_isPlanned_5 (by omega) (by omega) (fun h5 => ?_) (fun h5 => ?_)
  · refine mm_iconst dX3_isPlanned_20 rfl ?_
    refine mm_zret dX3_isPlanned_21 rfl rfl (Or.inl rfl) ?_
    refine mm_fin ?_ rfl
    unfold mm_b
    split <;> omega
  · refine mm_iload_n dX3_isPlanned_8 rfl rfl ?_
    refine mm_aload_n dX3_isPlanned_9 rfl rfl ?_
    refine mm_get (kd := 0) dX3_isPlanned_10 rfl fl_X3_40 (c := 21) rfl (by decide) rfl rfl ?_
    refine mm_icgt dX3_isPlanned_13 (by omega) (by omega) (fun h13 => ?_) (fun h13 => ?_)
    · refine mm_iconst dX3_isPlanned_20 rfl ?_
      refine mm_zret dX3_isPlanned_21 rfl rfl (Or.inl rfl) ?_
      refine mm_fin ?_ rfl
      unfold mm_b
      split <;> omega
    · refine mm_iconst dX3_isPlanned_16 rfl ?_
      refine mm_goto dX3_isPlanned_17 ?_
      refine mm_zret dX3_isPlanned_21 rfl rfl (Or.inr rfl) ?_
      refine mm_fin ?_ rfl
      unfold mm_b
      split <;> omega
theorem c_X11_planned (hR : mm_Rf M) (hx : mm_R x) (h1 : 0 ≤ M 21 8 ∧ M 21 8 ≤ 23) (h2 : -1 ≤ M 21 9 ∧ M 21 9 ≤ 23) : mm_Fn X Y_X11_planned 243 [(2, 1), (0, x)] M (0, if M 21 8 ≤ x ∧ x ≤ M 21 9 then M 27 x.toNat else -1) M := by
  refine mm_startF (ls := [(2, 1), (0, x)]) rfl ?_
  refine mm_aload_n dX11_planned_0 rfl rfl ?_
  refine mm_getr dX11_planned_1 rfl fl_X11_44 (c := 0) rfl (by decide) rfl rfl (hR.at (c := 0) (i := 4) (v := 22) rfl (by decide)) ?_
  refine mm_iload_n dX11_planned_4 rfl rfl ?_
  refine mm_V1i dX11_planned_5 rfl lk_X11_306 (c := 21) rfl (by decide) rfl (by simp) rfl rfl rfl (c_X3_isPlanned hR hx (by omega) (by omega)) ?_
  refine mm_ifeqb dX11_planned_8 (fun h8 => ?_) (fun h8 => ?_)
  · refine mm_iconst dX11_planned_23 rfl ?_
    refine mm_iret dX11_planned_24 rfl rfl ?_
    refine mm_fin ?_ rfl
    first
    | (rw [if_pos h8]; done)
    | (rw [if_neg h8]; done)
  · refine mm_aload_n dX11_planned_11 rfl rfl ?_
    refine mm_getr dX11_planned_12 rfl fl_X11_44 (c := 0) rfl (by decide) rfl rfl (hR.at (c := 0) (i := 4) (v := 22) rfl (by decide)) ?_
    refine mm_getr dX11_planned_15 rfl fl_X11_309 (c := 21) rfl (by decide) rfl rfl (hR.at (c := 21) (i := 7) (v := 28) rfl (by decide)) ?_
    refine mm_iload_n dX11_planned_18 rfl rfl ?_
    refine mm_iald dX11_planned_19 rfl (c := 27) rfl (by decide) rfl (by omega) (by omega) ?_
    refine mm_goto dX11_planned_20 ?_
    refine mm_iret dX11_planned_24 rfl rfl ?_
    refine mm_fin ?_ rfl
    first
    | (rw [if_pos h8]; done)
    | (rw [if_neg h8]; done)
theorem c_X3_forgetHour (hR : mm_Rf M) (hh : ks_hr h) : mm_Fn X Y_X3_forgetHour 243 [(2, 22), (0, h)] M (3, 0) (mm_up M 23 h.toNat 0) := by
  refine mm_startF (ls := [(2, 22), (0, h)]) rfl ?_
  refine mm_aload_n dX3_forgetHour_0 rfl rfl ?_
  refine mm_getr dX3_forgetHour_1 rfl fl_X3_19 (c := 21) rfl (by decide) rfl rfl (hR.at (c := 21) (i := 3) (v := 24) rfl (by decide)) ?_
  refine mm_iload_n dX3_forgetHour_4 rfl rfl ?_
  refine mm_iconst dX3_forgetHour_5 rfl ?_
  refine mm_zsto dX3_forgetHour_6 rfl (c := 23) rfl (by decide) rfl (by omega) (by omega) (Or.inl rfl) (fun M6 hM6 => ?_)
  have hR6 : mm_Rf M6 := by rw [hM6]; exact hR.up (mm_rt_ar (t := 2) rfl (by decide))
  refine mm_vret dX3_forgetHour_7 rfl rfl ?_
  exact mm_fin rfl hM6
theorem c_X0_knownAt (hR : mm_Rf M) (hh : ks_hr h) (hb : 0 ≤ b ∧ b ≤ 4) (hk : mm_R k) (hc : 0 ≤ M 11 1 ∧ M 11 1 ≤ 200) (ht : ∀ i, i < 200 → mm_R (M 13 i) ∧ mm_R (M 12 i)) :
    mm_Fn X Y_X0_knownAt 243 [(2, 12), (0, h), (0, b), (0, k)] M (0, kw_last (fun i => M 13 i = h * 5 + b ∧ M 12 i ≤ k) (fun i => 100 * M 14 i + M 15 i) (M 11 1).toNat) M := by
  refine mm_startF (ls := [(2, 12), (0, h), (0, b), (0, k), (9, 0), (9, 0)]) rfl ?_
  have loop : ∀ (i : Nat), i ≤ 200 → kw_last (fun i => M 13 i = h * 5 + b ∧ M 12 i ≤ k) (fun i => 100 * M 14 i + M 15 i) i = kw_last (fun i => M 13 i = h * 5 + b ∧ M 12 i ≤ k) (fun i => 100 * M 14 i + M 15 i) (M 11 1).toNat →
      mm_J X Y_X0_knownAt 243 243 243 15 [(2, 12), (0, h), (0, b), (0, k), (0, h * 5 + b), (0, (i : Int) - 1)] [] M (fun r' M'' => r' = (0, kw_last (fun i => M 13 i = h * 5 + b ∧ M 12 i ≤ k) (fun i => 100 * M 14 i + M 15 i) (M 11 1).toNat) ∧ M'' = M) := by
    intro i
    induction i with
    | zero =>
      intro hi he
      refine mm_iload dX0_knownAt_15 rfl rfl ?_
      refine mm_iflt dX0_knownAt_17 (by omega) (fun h17 => ?_) (fun h17 => ?_)
      · refine mm_sipush dX0_knownAt_68 rfl (by decide) ?_
        refine mm_iret dX0_knownAt_71 rfl rfl ?_
        exact mm_fin he rfl
      · exfalso; omega
    | succ i ih =>
      intro hi he
      have q := ht i (by omega)
      have e1 : ((i + 1 : Nat) : Int) - 1 = (i : Int) := by omega
      rw [e1]
      refine mm_iload dX0_knownAt_15 rfl rfl ?_
      refine mm_iflt dX0_knownAt_17 (by omega) (fun h17 => ?_) (fun h17 => ?_)
      · exfalso; omega
      · refine mm_aload_n dX0_knownAt_20 rfl rfl ?_
        refine mm_getr dX0_knownAt_21 rfl fl_X0_15 (c := 11) rfl (by decide) rfl rfl (hR.at (c := 11) (i := 4) (v := 14) rfl (by decide)) ?_
        refine mm_iload dX0_knownAt_24 rfl rfl ?_
        refine mm_ialk (k0 := i) dX0_knownAt_26 rfl (c := 13) rfl (by decide) rfl (by omega) (by omega) ?_
        refine mm_iload dX0_knownAt_27 rfl rfl ?_
        refine mm_icne dX0_knownAt_29 (by omega) (by omega) (fun h29 => ?_) (fun h29 => ?_)
        · refine mm_iinc dX0_knownAt_62 rfl rfl (Nat.le_of_ble_eq_true rfl) rfl ?_
          refine mm_goto dX0_knownAt_65 ?_
          exact ih (by omega) (by rw [← he, kw_last, if_neg (by omega)])
        · refine mm_aload_n dX0_knownAt_32 rfl rfl ?_
          refine mm_getr dX0_knownAt_33 rfl fl_X0_11 (c := 11) rfl (by decide) rfl rfl (hR.at (c := 11) (i := 3) (v := 13) rfl (by decide)) ?_
          refine mm_iload dX0_knownAt_36 rfl rfl ?_
          refine mm_ialk (k0 := i) dX0_knownAt_38 rfl (c := 12) rfl (by decide) rfl (by omega) (by omega) ?_
          refine mm_iload_n dX0_knownAt_39 rfl rfl ?_
          refine mm_icgt dX0_knownAt_40 (by omega) (by omega) (fun h40 => ?_) (fun h40 => ?_)
          · refine mm_iinc dX0_knownAt_62 rfl rfl (Nat.le_of_ble_eq_true rfl) rfl ?_
            refine mm_goto dX0_knownAt_65 ?_
            exact ih (by omega) (by rw [← he, kw_last, if_neg (by omega)])
          · refine mm_bipush dX0_knownAt_43 rfl (by decide) ?_
            refine mm_aload_n dX0_knownAt_45 rfl rfl ?_
            refine mm_getr dX0_knownAt_46 rfl fl_X0_18 (c := 11) rfl (by decide) rfl rfl (hR.at (c := 11) (i := 5) (v := 15) rfl (by decide)) ?_
            refine mm_iload dX0_knownAt_49 rfl rfl ?_
            refine mm_ialk (k0 := i) dX0_knownAt_51 rfl (c := 14) rfl (by decide) rfl (by omega) (by omega) ?_
            refine mm_imul dX0_knownAt_52 rfl ?_
            refine mm_aload_n dX0_knownAt_53 rfl rfl ?_
            refine mm_getr dX0_knownAt_54 rfl fl_X0_21 (c := 11) rfl (by decide) rfl rfl (hR.at (c := 11) (i := 6) (v := 16) rfl (by decide)) ?_
            refine mm_iload dX0_knownAt_57 rfl rfl ?_
            refine mm_ialk (k0 := i) dX0_knownAt_59 rfl (c := 15) rfl (by decide) rfl (by omega) (by omega) ?_
            refine mm_iadd dX0_knownAt_60 rfl ?_
            refine mm_iret dX0_knownAt_61 rfl rfl ?_
            exact mm_fin (by rw [← he, kw_last, if_pos ⟨h29, by omega⟩]) rfl
  refine mm_iload_n dX0_knownAt_0 rfl rfl ?_
  refine mm_iload_n dX0_knownAt_1 rfl rfl ?_
  refine mm_S2i dX0_knownAt_2 rfl lk_X0_48 (by simp) (by simp) rfl rfl rfl (c_X0_placeOf) ?_
  refine mm_istore dX0_knownAt_5 rfl (Nat.le_of_ble_eq_true rfl) rfl ?_
  refine mm_aload_n dX0_knownAt_7 rfl rfl ?_
  refine mm_get (kd := 0) dX0_knownAt_8 rfl fl_X0_51 (c := 11) rfl (by decide) rfl rfl ?_
  refine mm_iconst dX0_knownAt_11 rfl ?_
  refine mm_isub dX0_knownAt_12 rfl ?_
  refine mm_istore dX0_knownAt_13 rfl (Nat.le_of_ble_eq_true rfl) rfl ?_
  have := loop (M 11 1).toNat (by omega) rfl
  rw [Int.toNat_of_nonneg hc.1] at this
  exact this
end
end
/-! 54.wind -/
section
/-! ===== winds told, laws ===== -/
/-- the class's memory behind a wind that was told -/
def mw_take (M : mm_M) (t h b lo hi : Int) : mm_M :=
  mm_up (mm_up (mm_up (mm_up (mm_up (mm_up (mm_up (mm_up M 16 (h * 5 + b).toNat lo) 17 (h * 5 + b).toNat hi) 12 (M 11 1).toNat t) 13 (M 11 1).toNat (h * 5 + b)) 14 (M 11 1).toNat lo) 15 (M 11 1).toNat hi) 11 2 t) 11 1 (M 11 1 + 1)
/-- the reference's -/
def mw_takeR (M : mm_M) (t h b lo hi : Int) : mm_M :=
  mm_up (mm_up (mm_up (mm_up (mm_up (mm_up (mm_up (mm_up (mm_up M 183 28 t) 198 (M 183 27).toNat h) 199 (M 183 27).toNat b) 200 (M 183 27).toNat lo) 201 (M 183 27).toNat hi) 202 (M 183 27).toNat t) 183 27 (M 183 27 + 1)) 203 (5 * h + b).toNat lo) 204 (5 * h + b).toNat hi
abbrev kw_ok (last t h b lo hi : Int) : Prop := (last ≤ t ∧ t ≤ 999) ∧ ks_hr h ∧ (0 ≤ b ∧ b ≤ 4) ∧ 0 ≤ lo ∧ lo ≤ hi ∧ hi ≤ 60
section
variable {X : mm_X} {M : mm_M} {s a m w d p h b sh x y z k l u v t lo hi fr to : Int}
theorem c_X0_take (hR : mm_Rf M) (hh : ks_hr h) (hb : 0 ≤ b ∧ b ≤ 4) (hc : 0 ≤ M 11 1 ∧ M 11 1 < 200) : mm_Fn X Y_X0_take 243 [(2, 12), (0, t), (0, h), (0, b), (0, lo), (0, hi)] M (3, 0) (mw_take M t h b lo hi) := by
  refine mm_startF (ls := [(2, 12), (0, t), (0, h), (0, b), (0, lo), (0, hi), (9, 0)]) rfl ?_
  refine mm_iload_n dX0_take_0 rfl rfl ?_
  refine mm_iload_n dX0_take_1 rfl rfl ?_
  refine mm_S2i dX0_take_2 rfl lk_X0_48 (by simp) (by simp) rfl rfl rfl (c_X0_placeOf) ?_
  refine mm_istore dX0_take_5 rfl (Nat.le_of_ble_eq_true rfl) rfl ?_
  refine mm_aload_n dX0_take_7 rfl rfl ?_
  refine mm_getr dX0_take_8 rfl fl_X0_26 (c := 11) rfl (by decide) rfl rfl (hR.at (c := 11) (i := 7) (v := 17) rfl (by decide)) ?_
  refine mm_iload dX0_take_11 rfl rfl ?_
  refine mm_iload dX0_take_13 rfl rfl ?_
  refine mm_isto dX0_take_15 rfl (c := 16) rfl (by decide) rfl (by omega) (by omega) (fun M15 hM15 => ?_)
  have hR15 : mm_Rf M15 := by rw [hM15]; exact hR.up (mm_rt_ar (t := 0) rfl (by decide))
  refine mm_aload_n dX0_take_16 rfl rfl ?_
  refine mm_getr dX0_take_17 rfl fl_X0_29 (c := 11) rfl (by decide) rfl rfl (hR15.at (c := 11) (i := 8) (v := 18) rfl (by decide)) ?_
  refine mm_iload dX0_take_20 rfl rfl ?_
  refine mm_iload dX0_take_22 rfl rfl ?_
  refine mm_isto dX0_take_24 rfl (c := 17) rfl (by decide) rfl (by omega) (by omega) (fun M24 hM24 => ?_)
  have hR24 : mm_Rf M24 := by rw [hM24]; exact hR15.up (mm_rt_ar (t := 0) rfl (by decide))
  refine mm_aload_n dX0_take_25 rfl rfl ?_
  refine mm_getr dX0_take_26 rfl fl_X0_11 (c := 11) rfl (by decide) rfl rfl (hR24.at (c := 11) (i := 3) (v := 13) rfl (by decide)) ?_
  refine mm_aload_n dX0_take_29 rfl rfl ?_
  refine mm_get (kd := 0) dX0_take_30 rfl fl_X0_51 (c := 11) rfl (by decide) rfl rfl ?_
  have e24 : M24 11 1 = M 11 1 := by simp [hM24, hM15, mm_up]
  rw [e24]
  refine mm_iload_n dX0_take_33 rfl rfl ?_
  refine mm_isto dX0_take_34 rfl (c := 12) rfl (by decide) rfl (by omega) (by omega) (fun M34 hM34 => ?_)
  have hR34 : mm_Rf M34 := by rw [hM34]; exact hR24.up (mm_rt_ar (t := 0) rfl (by decide))
  refine mm_aload_n dX0_take_35 rfl rfl ?_
  refine mm_getr dX0_take_36 rfl fl_X0_15 (c := 11) rfl (by decide) rfl rfl (hR34.at (c := 11) (i := 4) (v := 14) rfl (by decide)) ?_
  refine mm_aload_n dX0_take_39 rfl rfl ?_
  refine mm_get (kd := 0) dX0_take_40 rfl fl_X0_51 (c := 11) rfl (by decide) rfl rfl ?_
  have e34 : M34 11 1 = M 11 1 := by simp [hM34, e24, mm_up]
  rw [e34]
  refine mm_iload dX0_take_43 rfl rfl ?_
  refine mm_isto dX0_take_45 rfl (c := 13) rfl (by decide) rfl (by omega) (by omega) (fun M45 hM45 => ?_)
  have hR45 : mm_Rf M45 := by rw [hM45]; exact hR34.up (mm_rt_ar (t := 0) rfl (by decide))
  refine mm_aload_n dX0_take_46 rfl rfl ?_
  refine mm_getr dX0_take_47 rfl fl_X0_18 (c := 11) rfl (by decide) rfl rfl (hR45.at (c := 11) (i := 5) (v := 15) rfl (by decide)) ?_
  refine mm_aload_n dX0_take_50 rfl rfl ?_
  refine mm_get (kd := 0) dX0_take_51 rfl fl_X0_51 (c := 11) rfl (by decide) rfl rfl ?_
  have e45 : M45 11 1 = M 11 1 := by simp [hM45, e34, mm_up]
  rw [e45]
  refine mm_iload dX0_take_54 rfl rfl ?_
  refine mm_isto dX0_take_56 rfl (c := 14) rfl (by decide) rfl (by omega) (by omega) (fun M56 hM56 => ?_)
  have hR56 : mm_Rf M56 := by rw [hM56]; exact hR45.up (mm_rt_ar (t := 0) rfl (by decide))
  refine mm_aload_n dX0_take_57 rfl rfl ?_
  refine mm_getr dX0_take_58 rfl fl_X0_21 (c := 11) rfl (by decide) rfl rfl (hR56.at (c := 11) (i := 6) (v := 16) rfl (by decide)) ?_
  refine mm_aload_n dX0_take_61 rfl rfl ?_
  refine mm_get (kd := 0) dX0_take_62 rfl fl_X0_51 (c := 11) rfl (by decide) rfl rfl ?_
  have e56 : M56 11 1 = M 11 1 := by simp [hM56, e45, mm_up]
  rw [e56]
  refine mm_iload dX0_take_65 rfl rfl ?_
  refine mm_isto dX0_take_67 rfl (c := 15) rfl (by decide) rfl (by omega) (by omega) (fun M67 hM67 => ?_)
  have hR67 : mm_Rf M67 := by rw [hM67]; exact hR56.up (mm_rt_ar (t := 0) rfl (by decide))
  refine mm_aload_n dX0_take_68 rfl rfl ?_
  refine mm_iload_n dX0_take_69 rfl rfl ?_
  refine mm_puti dX0_take_70 rfl fl_X0_55 (c := 11) rfl (by decide) rfl rfl (fun M70 hM70 => ?_)
  have hR70 : mm_Rf M70 := by rw [hM70]; exact hR67.up rfl
  refine mm_aload_n dX0_take_73 rfl rfl ?_
  refine mm_dup dX0_take_74 rfl (by simp) ?_
  refine mm_get (kd := 0) dX0_take_75 rfl fl_X0_51 (c := 11) rfl (by decide) rfl rfl ?_
  have e70 : M70 11 1 = M 11 1 := by simp [hM70, hM67, e56, mm_up]
  rw [e70]
  refine mm_iconst dX0_take_78 rfl ?_
  refine mm_iadd dX0_take_79 rfl ?_
  refine mm_puti dX0_take_80 rfl fl_X0_51 (c := 11) rfl (by decide) rfl rfl (fun M80 hM80 => ?_)
  have hR80 : mm_Rf M80 := by rw [hM80]; exact hR70.up rfl
  refine mm_vret dX0_take_83 rfl rfl ?_
  exact mm_fin rfl (by rw [hM80, hM70, hM67, hM56, hM45, hM34, hM24, hM15]; rfl)
theorem c_X11_wind (hR : mm_Rf M) (ht : mm_R t) (hh : mm_R h) (hb : mm_R b) (hlo : mm_R lo) (hhi : mm_R hi) (hl : 0 ≤ M 11 2 ∧ M 11 2 ≤ 999) (hc : 0 ≤ M 11 1 ∧ M 11 1 ≤ 200) :
    mm_Fn X Y_X11_wind 243 [(2, 1), (0, t), (0, h), (0, b), (0, lo), (0, hi)] M (0, if kw_ok (M 11 2) t h b lo hi then (if 200 ≤ M 11 1 then -3 else M 11 1 + 1) else -2) (if kw_ok (M 11 2) t h b lo hi ∧ M 11 1 < 200 then mm_up (mw_take M t h b lo hi) 23 h.toNat 0 else M) := by
  refine mm_startF (ls := [(2, 1), (0, t), (0, h), (0, b), (0, lo), (0, hi), (9, 0)]) rfl ?_
  refine mm_iload_n dX11_wind_0 rfl rfl ?_
  refine mm_S1i dX11_wind_1 rfl lk_X11_165 (by simp) rfl rfl rfl (c_X11_isHour hh) ?_
  refine mm_ifeqb dX11_wind_4 (fun h4 => ?_) (fun h4 => ?_)
  · refine mm_iconst dX11_wind_36 rfl ?_
    refine mm_istore dX11_wind_37 rfl (Nat.le_of_ble_eq_true rfl) rfl ?_
    refine mm_iload dX11_wind_39 rfl rfl ?_
    refine mm_ifeq dX11_wind_41 (by omega) (fun _ => ?_) (fun h => absurd (by decide) h)
    refine mm_bipush dX11_wind_61 rfl (by decide) ?_
    refine mm_iret dX11_wind_63 rfl rfl ?_
    refine mm_fin ?_ ?_
    · rw [if_neg (by unfold kw_ok; omega)]
    · rw [if_neg (by unfold kw_ok; omega)]
  · refine mm_iload_n dX11_wind_7 rfl rfl ?_
    refine mm_S1i dX11_wind_8 rfl lk_X11_168 (by simp) rfl rfl rfl (c_X11_isBand hb) ?_
    refine mm_ifeqb dX11_wind_11 (fun h11 => ?_) (fun h11 => ?_)
    · refine mm_iconst dX11_wind_36 rfl ?_
      refine mm_istore dX11_wind_37 rfl (Nat.le_of_ble_eq_true rfl) rfl ?_
      refine mm_iload dX11_wind_39 rfl rfl ?_
      refine mm_ifeq dX11_wind_41 (by omega) (fun _ => ?_) (fun h => absurd (by decide) h)
      refine mm_bipush dX11_wind_61 rfl (by decide) ?_
      refine mm_iret dX11_wind_63 rfl rfl ?_
      refine mm_fin ?_ ?_
      · rw [if_neg (by unfold kw_ok; omega)]
      · rw [if_neg (by unfold kw_ok; omega)]
    · refine mm_iload dX11_wind_14 rfl rfl ?_
      refine mm_iconst dX11_wind_16 rfl ?_
      refine mm_iload dX11_wind_17 rfl rfl ?_
      refine mm_S3i dX11_wind_19 rfl lk_X11_171 (by simp) (by simp) (by simp) rfl rfl rfl (c_X11_isWithin (by omega) (by omega) (by omega)) ?_
      refine mm_ifeqb dX11_wind_22 (fun h22 => ?_) (fun h22 => ?_)
      · refine mm_iconst dX11_wind_36 rfl ?_
        refine mm_istore dX11_wind_37 rfl (Nat.le_of_ble_eq_true rfl) rfl ?_
        refine mm_iload dX11_wind_39 rfl rfl ?_
        refine mm_ifeq dX11_wind_41 (by omega) (fun _ => ?_) (fun h => absurd (by decide) h)
        refine mm_bipush dX11_wind_61 rfl (by decide) ?_
        refine mm_iret dX11_wind_63 rfl rfl ?_
        refine mm_fin ?_ ?_
        · rw [if_neg (by unfold kw_ok; omega)]
        · rw [if_neg (by unfold kw_ok; omega)]
      · refine mm_iload dX11_wind_25 rfl rfl ?_
        refine mm_bipush dX11_wind_27 rfl (by decide) ?_
        refine mm_icgt dX11_wind_29 (by omega) (by omega) (fun h29 => ?_) (fun h29 => ?_)
        · refine mm_iconst dX11_wind_36 rfl ?_
          refine mm_istore dX11_wind_37 rfl (Nat.le_of_ble_eq_true rfl) rfl ?_
          refine mm_iload dX11_wind_39 rfl rfl ?_
          refine mm_ifeq dX11_wind_41 (by omega) (fun _ => ?_) (fun h => absurd (by decide) h)
          refine mm_bipush dX11_wind_61 rfl (by decide) ?_
          refine mm_iret dX11_wind_63 rfl rfl ?_
          refine mm_fin ?_ ?_
          · rw [if_neg (by unfold kw_ok; omega)]
          · rw [if_neg (by unfold kw_ok; omega)]
        · refine mm_iconst dX11_wind_32 rfl ?_
          refine mm_goto dX11_wind_33 ?_
          refine mm_istore dX11_wind_37 rfl (Nat.le_of_ble_eq_true rfl) rfl ?_
          refine mm_iload dX11_wind_39 rfl rfl ?_
          refine mm_ifeq dX11_wind_41 (by omega) (fun h => absurd h (by decide)) (fun _ => ?_)
          refine mm_iload_n dX11_wind_44 rfl rfl ?_
          refine mm_aload_n dX11_wind_45 rfl rfl ?_
          refine mm_getr dX11_wind_46 rfl fl_X11_28 (c := 0) rfl (by decide) rfl rfl (hR.at (c := 0) (i := 2) (v := 12) rfl (by decide)) ?_
          refine mm_get (kd := 0) dX11_wind_49 rfl fl_X11_175 (c := 11) rfl (by decide) rfl rfl ?_
          refine mm_sipush dX11_wind_52 rfl (by decide) ?_
          refine mm_S3i dX11_wind_55 rfl lk_X11_171 (by simp) (by simp) (by simp) rfl rfl rfl (c_X11_isWithin (by omega) (by omega) (by omega)) ?_
          refine mm_ifneb dX11_wind_58 (fun h58 => ?_) (fun h58 => ?_)
          · refine mm_aload_n dX11_wind_64 rfl rfl ?_
            refine mm_getr dX11_wind_65 rfl fl_X11_28 (c := 0) rfl (by decide) rfl rfl (hR.at (c := 0) (i := 2) (v := 12) rfl (by decide)) ?_
            refine mm_get (kd := 0) dX11_wind_68 rfl fl_X11_178 (c := 11) rfl (by decide) rfl rfl ?_
            refine mm_sipush dX11_wind_71 rfl (by decide) ?_
            refine mm_iclt dX11_wind_74 (by omega) (by omega) (fun h74 => ?_) (fun h74 => ?_)
            · refine mm_aload_n dX11_wind_80 rfl rfl ?_
              refine mm_getr dX11_wind_81 rfl fl_X11_28 (c := 0) rfl (by decide) rfl rfl (hR.at (c := 0) (i := 2) (v := 12) rfl (by decide)) ?_
              refine mm_iload_n dX11_wind_84 rfl rfl ?_
              refine mm_iload_n dX11_wind_85 rfl rfl ?_
              refine mm_iload_n dX11_wind_86 rfl rfl ?_
              refine mm_iload dX11_wind_87 rfl rfl ?_
              refine mm_iload dX11_wind_89 rfl rfl ?_
              have hT := c_X0_take (X := X) (t := t) (lo := lo) (hi := hi) hR h4 h11 ⟨hc.1, h74⟩
              obtain ⟨Mt, hMt⟩ : ∃ m, m = mw_take M t h b lo hi := ⟨_, rfl⟩
              rw [← hMt] at hT
              have hRt : mm_Rf Mt := by
                rw [hMt]; unfold mw_take
                exact ((((((((hR.up (mm_rt_ar (t := 0) rfl (by decide))).up (mm_rt_ar (t := 0) rfl (by decide))).up (mm_rt_ar (t := 0) rfl (by decide))).up (mm_rt_ar (t := 0) rfl (by decide))).up (mm_rt_ar (t := 0) rfl (by decide))).up (mm_rt_ar (t := 0) rfl (by decide))).up rfl).up rfl)
              refine mm_V5v dX11_wind_91 rfl lk_X11_181 (c := 11) rfl (by decide) rfl (by simp) (by simp) (by simp) (by simp) (by simp) rfl rfl rfl (hT) ?_
              refine mm_aload_n dX11_wind_94 rfl rfl ?_
              refine mm_getr dX11_wind_95 rfl fl_X11_44 (c := 0) rfl (by decide) rfl rfl (hRt.at (c := 0) (i := 4) (v := 22) rfl (by decide)) ?_
              refine mm_iload_n dX11_wind_98 rfl rfl ?_
              refine mm_V1v dX11_wind_99 rfl lk_X11_185 (c := 21) rfl (by decide) rfl (by simp) rfl rfl rfl (c_X3_forgetHour hRt h4) ?_
              skip
              have hRu : mm_Rf (mm_up Mt 23 h.toNat 0) := hRt.up (mm_rt_ar (t := 2) rfl (by decide))
              refine mm_aload_n dX11_wind_102 rfl rfl ?_
              skip
              refine mm_getr dX11_wind_103 rfl fl_X11_28 (c := 0) rfl (by decide) rfl rfl (hRt.at (c := 0) (i := 2) (v := 12) rfl (by decide)) ?_
              refine mm_get (kd := 0) dX11_wind_106 rfl fl_X11_178 (c := 11) rfl (by decide) rfl rfl ?_
              refine mm_iret dX11_wind_109 rfl rfl ?_
              refine mm_fin ?_ ?_
              · rw [if_pos (by unfold kw_ok; omega), if_neg (by omega), hMt]
                simp [mw_take, mm_up]
              · rw [if_pos (by unfold kw_ok; omega), hMt]
            · refine mm_bipush dX11_wind_77 rfl (by decide) ?_
              refine mm_iret dX11_wind_79 rfl rfl ?_
              refine mm_fin ?_ ?_
              · rw [if_pos (by unfold kw_ok; omega), if_pos (by omega)]
              · rw [if_neg (by omega)]
          · refine mm_bipush dX11_wind_61 rfl (by decide) ?_
            refine mm_iret dX11_wind_63 rfl rfl ?_
            refine mm_fin ?_ ?_
            · rw [if_neg (by unfold kw_ok; omega)]
            · rw [if_neg (by unfold kw_ok; omega)]
def kw_roofs (R : Nat → Int) (fr to ht : Int) : Nat → Int := fun i => if fr ≤ i ∧ (i : Int) ≤ to then min (R i) ht else R i
theorem c_X5_add (hR : mm_Rf M) (hf : ks_hr fr) (ht : ks_hr to) (hft : fr ≤ to) (hx : mm_R x) (hr : ∀ i, i < 24 → mm_R (M 173 i)) (hc : mm_R (M 172 0)) :
    mm_Fn X Y_X5_add 243 [(2, 173), (0, fr), (0, to), (0, x)] M (0, M 172 0 + 1) (mm_up (fun a b => if a = 173 then kw_roofs (M 173) fr to x b else M a b) 172 0 (M 172 0 + 1)) := by
  refine mm_startF (ls := [(2, 173), (0, fr), (0, to), (0, x), (9, 0)]) rfl ?_
  have loop : ∀ (k : Nat) (j : Int) (N : mm_M), mm_Rf N → fr ≤ j → j + k = to + 1 → (∀ a b, N a b = if a = 173 then kw_roofs (M 173) fr (j - 1) x b else M a b) →
      mm_J X Y_X5_add 243 243 243 3 [(2, 173), (0, fr), (0, to), (0, x), (0, j)] [] N (fun r' M'' => r' = (0, M 172 0 + 1) ∧ M'' = mm_up (fun a b => if a = 173 then kw_roofs (M 173) fr to x b else M a b) 172 0 (M 172 0 + 1)) := by
    intro k
    induction k with
    | zero =>
      intro j N hRN hj hk hN
      have ej : j - 1 = to := by omega
      rw [ej] at hN
      have eN : N = fun a b => if a = 173 then kw_roofs (M 173) fr to x b else M a b := by
        funext a b; exact hN a b
      have ec : N 172 0 = M 172 0 := by rw [hN, if_neg (by decide)]
      refine mm_iload dX5_add_3 rfl rfl ?_
      refine mm_iload_n dX5_add_5 rfl rfl ?_
      refine mm_icgt dX5_add_6 (by omega) (by omega) (fun h6 => ?_) (fun h6 => ?_)
      · refine mm_aload_n dX5_add_33 rfl rfl ?_
        refine mm_dup dX5_add_34 rfl (by simp) ?_
        refine mm_get (kd := 0) dX5_add_35 rfl fl_X5_29 (c := 172) rfl (by decide) rfl rfl ?_
        refine mm_iconst dX5_add_38 rfl ?_
        refine mm_iadd dX5_add_39 rfl ?_
        refine mm_puti dX5_add_40 rfl fl_X5_29 (c := 172) rfl (by decide) rfl rfl (fun M40 hM40 => ?_)
        have hR40 : mm_Rf M40 := by rw [hM40]; exact hRN.up rfl
        refine mm_aload_n dX5_add_43 rfl rfl ?_
        refine mm_get (kd := 0) dX5_add_44 rfl fl_X5_29 (c := 172) rfl (by decide) rfl rfl ?_
        refine mm_iret dX5_add_47 rfl rfl ?_
        exact mm_fin (by rw [hM40, mm_up_s, ec]) (by rw [hM40, ec, eN])
      · exfalso; omega
    | succ k ih =>
      intro j N hRN hj hk hN
      have er : N 173 j.toNat = M 173 j.toNat := by
        rw [hN, if_pos rfl]
        unfold kw_roofs
        rw [if_neg (by omega)]
      have q := hr j.toNat (by omega)
      refine mm_iload dX5_add_3 rfl rfl ?_
      refine mm_iload_n dX5_add_5 rfl rfl ?_
      refine mm_icgt dX5_add_6 (by omega) (by omega) (fun h6 => ?_) (fun h6 => ?_)
      · exfalso; omega
      · refine mm_aload_n dX5_add_9 rfl rfl ?_
        refine mm_getr dX5_add_10 rfl fl_X5_11 (c := 172) rfl (by decide) rfl rfl (hRN.at (c := 172) (i := 1) (v := 174) rfl (by decide)) ?_
        refine mm_iload dX5_add_13 rfl rfl ?_
        refine mm_aload_n dX5_add_15 rfl rfl ?_
        refine mm_getr dX5_add_16 rfl fl_X5_11 (c := 172) rfl (by decide) rfl rfl (hRN.at (c := 172) (i := 1) (v := 174) rfl (by decide)) ?_
        refine mm_iload dX5_add_19 rfl rfl ?_
        refine mm_iald dX5_add_21 rfl (c := 173) rfl (by decide) rfl (by omega) (by omega) ?_
        rw [er]
        refine mm_iload_n dX5_add_22 rfl rfl ?_
        refine mm_min dX5_add_23 rfl lm_X5_23 rfl rfl (by simp) (by omega) (by omega) ?_
        refine mm_isto dX5_add_26 rfl (c := 173) rfl (by decide) rfl (by omega) (by omega) (fun M26 hM26 => ?_)
        have hR26 : mm_Rf M26 := by rw [hM26]; exact hRN.up (mm_rt_ar (t := 0) rfl (by decide))
        refine mm_iinc dX5_add_27 rfl rfl (Nat.le_of_ble_eq_true rfl) rfl ?_
        refine mm_goto dX5_add_30 ?_
        refine ih (j + 1) M26 hR26 (by omega) (by omega) (fun a b => ?_)
        rw [hM26]
        unfold mm_up
        by_cases c1 : a = 173 ∧ b = j.toNat
        · rw [if_pos c1, if_pos c1.1]
          unfold kw_roofs
          rw [if_pos (by omega), c1.2]
        · rw [if_neg c1, hN]
          by_cases c2 : a = 173
          · rw [if_pos c2, if_pos c2]
            unfold kw_roofs
            by_cases c3 : fr ≤ (b : Int) ∧ (b : Int) ≤ j - 1
            · rw [if_pos c3, if_pos (by omega)]
            · rw [if_neg c3, if_neg (by omega)]
          · rw [if_neg c2, if_neg c2]
  refine mm_iload_n dX5_add_0 rfl rfl ?_
  refine mm_istore dX5_add_1 rfl (Nat.le_of_ble_eq_true rfl) rfl ?_
  refine loop (to + 1 - fr).toNat fr M hR (Int.le_refl _) (by omega) (fun a b => ?_)
  by_cases c2 : a = 173
  · rw [if_pos c2]
    unfold kw_roofs
    rw [if_neg (by omega), c2]
  · rw [if_neg c2]
end
end
