/-! ===== KitePowerModel: the simple calls ===== -/
section
variable {X : mm_X} {M : mm_M} {s a m w d p h sh x y z n k l u v t : Int}
theorem c_X13_fault (hR : mm_Rf M) (hx : mm_R x) : mm_Fn X Y_X13_fault 243 [(2, 184), (0, x)] M (0, if x = 0 then M 183 8 else if x = 1 then M 183 9 else -1) M := by
  refine mm_startF (ls := [(2, 184), (0, x)]) rfl ?_
  refine mm_iload_n dX13_fault_0 rfl rfl ?_
  refine mm_ifne dX13_fault_1 (by omega) (fun h1 => ?_) (fun h1 => ?_)
  · refine mm_iload_n dX13_fault_11 rfl rfl ?_
    refine mm_iconst dX13_fault_12 rfl ?_
    refine mm_icne dX13_fault_13 (by omega) (by omega) (fun h13 => ?_) (fun h13 => ?_)
    · refine mm_iconst dX13_fault_23 rfl ?_
      refine mm_iret dX13_fault_24 rfl rfl ?_
      refine mm_fin ?_ rfl
      first
      | (rw [if_pos (by omega)]; done)
      | (rw [if_neg (by omega), if_pos (by omega)]; done)
      | (rw [if_neg (by omega), if_neg (by omega)]; done)
    · refine mm_aload_n dX13_fault_16 rfl rfl ?_
      refine mm_get (kd := 0) dX13_fault_17 rfl fl_X13_16 (c := 183) rfl (by decide) rfl rfl ?_
      refine mm_goto dX13_fault_20 ?_
      refine mm_iret dX13_fault_24 rfl rfl ?_
      refine mm_fin ?_ rfl
      first
      | (rw [if_pos (by omega)]; done)
      | (rw [if_neg (by omega), if_pos (by omega)]; done)
      | (rw [if_neg (by omega), if_neg (by omega)]; done)
  · refine mm_aload_n dX13_fault_4 rfl rfl ?_
    refine mm_get (kd := 0) dX13_fault_5 rfl fl_X13_9 (c := 183) rfl (by decide) rfl rfl ?_
    refine mm_goto dX13_fault_8 ?_
    refine mm_iret dX13_fault_24 rfl rfl ?_
    refine mm_fin ?_ rfl
    first
    | (rw [if_pos (by omega)]; done)
    | (rw [if_neg (by omega), if_pos (by omega)]; done)
    | (rw [if_neg (by omega), if_neg (by omega)]; done)
theorem c_X13_told (hR : mm_Rf M) (hK : mm_KV (mm_rk M)) (hx : mm_R x) : mm_Fn X Y_X13_told 243 [(2, 184), (0, x)] M (0, if x = 11 then M 183 20 else ks_told (mm_rk M) x) M := by
  obtain ⟨h0, -, -, -, -, -, -, -, -, -, h10, -⟩ := id hK
  have e0 : mm_rk M 0 = M 186 0 := rfl
  have e10 : mm_rk M 10 = M 183 16 := rfl
  refine mm_startF (ls := [(2, 184), (0, x)]) rfl ?_
  refine mm_iload_n dX13_told_0 rfl rfl ?_
  refine mm_i2l dX13_told_1 rfl (by omega) ?_
  refine mm_lconst0 dX13_told_2 rfl ?_
  refine mm_ldc2 dX13_told_3 rfl kc_X13_419 ?_
  refine mm_S3i dX13_told_6 rfl lk_X13_5 (by simp) (by simp) (by simp) rfl rfl rfl (c_X13_in (by omega) (by first | decide | omega) (by omega)) ?_
  refine mm_ifeqb dX13_told_9 (fun h9 => ?_) (fun h9 => ?_)
  · refine mm_iload_n dX13_told_19 rfl rfl ?_
    refine mm_bipush dX13_told_20 rfl (by decide) ?_
    refine mm_icne dX13_told_22 (by omega) (by omega) (fun h22 => ?_) (fun h22 => ?_)
    · refine mm_iload_n dX13_told_30 rfl rfl ?_
      refine mm_bipush dX13_told_31 rfl (by decide) ?_
      refine mm_icne dX13_told_33 (by omega) (by omega) (fun h33 => ?_) (fun h33 => ?_)
      · refine mm_iload_n dX13_told_41 rfl rfl ?_
        refine mm_i2l dX13_told_42 rfl (by omega) ?_
        refine mm_ldc2 dX13_told_43 rfl kc_X13_421 ?_
        refine mm_ldc2 dX13_told_46 rfl kc_X13_423 ?_
        refine mm_aload_n dX13_told_49 rfl rfl ?_
        refine mm_get (kd := 0) dX13_told_50 rfl fl_X13_154 (c := 183) rfl (by decide) rfl rfl ?_
        refine mm_i2l dX13_told_53 rfl (by omega) ?_
        refine mm_ladd dX13_told_54 rfl ?_
        refine mm_S3i dX13_told_55 rfl lk_X13_5 (by simp) (by simp) (by simp) rfl rfl rfl (c_X13_in (by omega) (by first | decide | omega) (by omega)) ?_
        refine mm_ifeqb dX13_told_58 (fun h58 => ?_) (fun h58 => ?_)
        · refine mm_iload_n dX13_told_71 rfl rfl ?_
          refine mm_i2l dX13_told_72 rfl (by omega) ?_
          refine mm_ldc2 dX13_told_73 rfl kc_X13_425 ?_
          refine mm_ldc2 dX13_told_76 rfl kc_X13_427 ?_
          refine mm_aload_n dX13_told_79 rfl rfl ?_
          refine mm_getr dX13_told_80 rfl fl_X13_151 (c := 183) rfl (by decide) rfl rfl (hR.at (c := 183) (i := 10) (v := 187) rfl (by decide)) ?_
          refine mm_iconst dX13_told_83 rfl ?_
          refine mm_ialk (k0 := 0) dX13_told_84 rfl (c := 186) rfl (by decide) rfl rfl (by decide) ?_
          refine mm_i2l dX13_told_85 rfl (by omega) ?_
          refine mm_ladd dX13_told_86 rfl ?_
          refine mm_S3i dX13_told_87 rfl lk_X13_5 (by simp) (by simp) (by simp) rfl rfl rfl (c_X13_in (by omega) (by first | decide | omega) (by omega)) ?_
          refine mm_ifeqb dX13_told_90 (fun h90 => ?_) (fun h90 => ?_)
          · refine mm_iconst dX13_told_105 rfl ?_
            refine mm_iret dX13_told_106 rfl rfl ?_
            refine mm_fin ?_ rfl
            rw [if_neg (by omega)]
            unfold ks_told
            first
            | (rw [if_pos (by omega), show x.toNat = 30 + (x - 30).toNat by omega, mm_rk_w M]; done)
            | (rw [if_neg (by omega)]; done)
          · refine mm_aload_n dX13_told_93 rfl rfl ?_
            refine mm_getr dX13_told_94 rfl fl_X13_159 (c := 183) rfl (by decide) rfl rfl (hR.at (c := 183) (i := 14) (v := 191) rfl (by decide)) ?_
            refine mm_iload_n dX13_told_97 rfl rfl ?_
            refine mm_bipush dX13_told_98 rfl (by decide) ?_
            refine mm_isub dX13_told_100 rfl ?_
            refine mm_iald dX13_told_101 rfl (c := 190) rfl (by decide) rfl (by omega) (by omega) ?_
            refine mm_goto dX13_told_102 ?_
            refine mm_iret dX13_told_106 rfl rfl ?_
            refine mm_fin ?_ rfl
            rw [if_neg (by omega)]
            unfold ks_told
            first
            | (rw [if_pos (by omega), show x.toNat = 30 + (x - 30).toNat by omega, mm_rk_w M]; done)
            | (rw [if_neg (by omega)]; done)
        · refine mm_aload_n dX13_told_61 rfl rfl ?_
          refine mm_getr dX13_told_62 rfl fl_X13_157 (c := 183) rfl (by decide) rfl rfl (hR.at (c := 183) (i := 12) (v := 189) rfl (by decide)) ?_
          refine mm_iload_n dX13_told_65 rfl rfl ?_
          refine mm_bipush dX13_told_66 rfl (by decide) ?_
          refine mm_isub dX13_told_68 rfl ?_
          refine mm_iald dX13_told_69 rfl (c := 188) rfl (by decide) rfl (by omega) (by omega) ?_
          refine mm_iret dX13_told_70 rfl rfl ?_
          refine mm_fin ?_ rfl
          rw [if_neg (by omega)]
          unfold ks_told
          rw [if_pos (by omega), show x.toNat = 20 + (x - 20).toNat by omega, mm_rk_l M (by omega)]
      · refine mm_aload_n dX13_told_36 rfl rfl ?_
        refine mm_get (kd := 0) dX13_told_37 rfl fl_X13_394 (c := 183) rfl (by decide) rfl rfl ?_
        refine mm_iret dX13_told_40 rfl rfl ?_
        refine mm_fin ?_ rfl
        rw [if_pos (by omega)]
    · refine mm_aload_n dX13_told_25 rfl rfl ?_
      refine mm_get (kd := 0) dX13_told_26 rfl fl_X13_154 (c := 183) rfl (by decide) rfl rfl ?_
      refine mm_iret dX13_told_29 rfl rfl ?_
      refine mm_fin ?_ rfl
      rw [if_neg (by omega)]
      unfold ks_told
      rw [if_pos (by omega), h22]
      rfl
  · refine mm_aload_n dX13_told_12 rfl rfl ?_
    refine mm_getr dX13_told_13 rfl fl_X13_151 (c := 183) rfl (by decide) rfl rfl (hR.at (c := 183) (i := 10) (v := 187) rfl (by decide)) ?_
    refine mm_iload_n dX13_told_16 rfl rfl ?_
    refine mm_iald dX13_told_17 rfl (c := 186) rfl (by decide) rfl (by omega) (by omega) ?_
    refine mm_iret dX13_told_18 rfl rfl ?_
    refine mm_fin ?_ rfl
    rw [if_neg (by omega)]
    unfold ks_told
    rw [if_pos (by omega), mm_rk_r M (by omega)]
theorem c_X13_state (hR : mm_Rf M) (hK : mm_KV (mm_rk M)) (hs : mm_R s) (hx : mm_R x) : mm_Fn X Y_X13_state 243 [(2, 184), (0, s), (0, x)] M (0, kv_state (mm_rk M) s x) M := by
  unfold kv_state
  refine mm_startF (ls := [(2, 184), (0, s), (0, x)]) rfl ?_
  by_cases hst : ks_st (mm_rk M) s
  · rw [if_pos hst]
    refine mm_aload_n dX13_state_0 rfl rfl ?_
    refine mm_iload_n dX13_state_1 rfl rfl ?_
    refine mm_V1i dX13_state_2 rfl lk_X13_464 (c := 183) rfl (by decide) rfl (by simp) rfl rfl rfl (c_X13_isState hR hK hs) ?_
    refine mm_ifneb dX13_state_5 (fun h5 => ?_) (fun h5 => ?_)
    · refine mm_iload_n dX13_state_10 rfl rfl ?_
      have hsw : (x < 0 ∨ 4 < x) ∨ x = 0 ∨ x = 1 ∨ x = 2 ∨ x = 3 ∨ x = 4 := by omega
      rcases hsw with h11 | h11 | h11 | h11 | h11 | h11
      · refine mm_tsd (t := 74) dX13_state_11.1 (by omega) h11 (by decide) ?_
        refine mm_iconst dX13_state_74 rfl ?_
        refine mm_iret dX13_state_75 rfl rfl ?_
        refine mm_fin ?_ rfl
        first
        | (rw [if_pos h11]; done)
        | (rw [if_neg (by omega), if_pos h11]; done)
        | (rw [if_neg (by omega), if_neg (by omega), if_pos h11]; done)
        | (rw [if_neg (by omega), if_neg (by omega), if_neg (by omega), if_pos h11]; done)
        | (rw [if_neg (by omega), if_neg (by omega), if_neg (by omega), if_neg (by omega), if_pos h11]; done)
        | (rw [if_neg (by omega), if_neg (by omega), if_neg (by omega), if_neg (by omega), if_neg (by omega)]; done)
      · refine mm_tsw (t := 44) (k := 0) dX13_state_11.1 (by omega) (by omega) (by omega) (by omega) rfl (by decide) ?_
        refine mm_aload_n dX13_state_44 rfl rfl ?_
        refine mm_iload_n dX13_state_45 rfl rfl ?_
        refine mm_V1i dX13_state_46 rfl lk_X13_438 (c := 183) rfl (by decide) rfl (by simp) rfl rfl rfl (c_X13_columnOf hR hK hst) ?_
        refine mm_iret dX13_state_49 rfl rfl ?_
        refine mm_fin ?_ rfl
        first
        | (rw [if_pos h11]; done)
        | (rw [if_neg (by omega), if_pos h11]; done)
        | (rw [if_neg (by omega), if_neg (by omega), if_pos h11]; done)
        | (rw [if_neg (by omega), if_neg (by omega), if_neg (by omega), if_pos h11]; done)
        | (rw [if_neg (by omega), if_neg (by omega), if_neg (by omega), if_neg (by omega), if_pos h11]; done)
        | (rw [if_neg (by omega), if_neg (by omega), if_neg (by omega), if_neg (by omega), if_neg (by omega)]; done)
      · refine mm_tsw (t := 50) (k := 1) dX13_state_11.1 (by omega) (by omega) (by omega) (by omega) rfl (by decide) ?_
        refine mm_aload_n dX13_state_50 rfl rfl ?_
        refine mm_iload_n dX13_state_51 rfl rfl ?_
        refine mm_V1i dX13_state_52 rfl lk_X13_432 (c := 183) rfl (by decide) rfl (by simp) rfl rfl rfl (c_X13_rowOf hR hK hst) ?_
        refine mm_iret dX13_state_55 rfl rfl ?_
        refine mm_fin ?_ rfl
        first
        | (rw [if_pos h11]; done)
        | (rw [if_neg (by omega), if_pos h11]; done)
        | (rw [if_neg (by omega), if_neg (by omega), if_pos h11]; done)
        | (rw [if_neg (by omega), if_neg (by omega), if_neg (by omega), if_pos h11]; done)
        | (rw [if_neg (by omega), if_neg (by omega), if_neg (by omega), if_neg (by omega), if_pos h11]; done)
        | (rw [if_neg (by omega), if_neg (by omega), if_neg (by omega), if_neg (by omega), if_neg (by omega)]; done)
      · refine mm_tsw (t := 56) (k := 2) dX13_state_11.1 (by omega) (by omega) (by omega) (by omega) rfl (by decide) ?_
        refine mm_aload_n dX13_state_56 rfl rfl ?_
        refine mm_iload_n dX13_state_57 rfl rfl ?_
        refine mm_V1i dX13_state_58 rfl lk_X13_429 (c := 183) rfl (by decide) rfl (by simp) rfl rfl rfl (c_X13_ropeOf hR hK hst) ?_
        refine mm_iret dX13_state_61 rfl rfl ?_
        refine mm_fin ?_ rfl
        first
        | (rw [if_pos h11]; done)
        | (rw [if_neg (by omega), if_pos h11]; done)
        | (rw [if_neg (by omega), if_neg (by omega), if_pos h11]; done)
        | (rw [if_neg (by omega), if_neg (by omega), if_neg (by omega), if_pos h11]; done)
        | (rw [if_neg (by omega), if_neg (by omega), if_neg (by omega), if_neg (by omega), if_pos h11]; done)
        | (rw [if_neg (by omega), if_neg (by omega), if_neg (by omega), if_neg (by omega), if_neg (by omega)]; done)
      · refine mm_tsw (t := 62) (k := 3) dX13_state_11.1 (by omega) (by omega) (by omega) (by omega) rfl (by decide) ?_
        refine mm_aload_n dX13_state_62 rfl rfl ?_
        refine mm_iload_n dX13_state_63 rfl rfl ?_
        refine mm_V1i dX13_state_64 rfl lk_X13_435 (c := 183) rfl (by decide) rfl (by simp) rfl rfl rfl (c_X13_heightOf hR hK hst) ?_
        refine mm_iret dX13_state_67 rfl rfl ?_
        refine mm_fin ?_ rfl
        first
        | (rw [if_pos h11]; done)
        | (rw [if_neg (by omega), if_pos h11]; done)
        | (rw [if_neg (by omega), if_neg (by omega), if_pos h11]; done)
        | (rw [if_neg (by omega), if_neg (by omega), if_neg (by omega), if_pos h11]; done)
        | (rw [if_neg (by omega), if_neg (by omega), if_neg (by omega), if_neg (by omega), if_pos h11]; done)
        | (rw [if_neg (by omega), if_neg (by omega), if_neg (by omega), if_neg (by omega), if_neg (by omega)]; done)
      · refine mm_tsw (t := 68) (k := 4) dX13_state_11.1 (by omega) (by omega) (by omega) (by omega) rfl (by decide) ?_
        refine mm_aload_n dX13_state_68 rfl rfl ?_
        refine mm_iload_n dX13_state_69 rfl rfl ?_
        refine mm_V1i dX13_state_70 rfl lk_X13_467 (c := 183) rfl (by decide) rfl (by simp) rfl rfl rfl (c_X13_bandOf hR hK hst) ?_
        refine mm_iret dX13_state_73 rfl rfl ?_
        refine mm_fin ?_ rfl
        first
        | (rw [if_pos h11]; done)
        | (rw [if_neg (by omega), if_pos h11]; done)
        | (rw [if_neg (by omega), if_neg (by omega), if_pos h11]; done)
        | (rw [if_neg (by omega), if_neg (by omega), if_neg (by omega), if_pos h11]; done)
        | (rw [if_neg (by omega), if_neg (by omega), if_neg (by omega), if_neg (by omega), if_pos h11]; done)
        | (rw [if_neg (by omega), if_neg (by omega), if_neg (by omega), if_neg (by omega), if_neg (by omega)]; done)
    · exact absurd hst h5
  · rw [if_neg hst]
    refine mm_aload_n dX13_state_0 rfl rfl ?_
    refine mm_iload_n dX13_state_1 rfl rfl ?_
    refine mm_V1i dX13_state_2 rfl lk_X13_464 (c := 183) rfl (by decide) rfl (by simp) rfl rfl rfl (c_X13_isState hR hK hs) ?_
    refine mm_ifneb dX13_state_5 (fun h5 => ?_) (fun h5 => ?_)
    · exact absurd h5 hst
    · refine mm_iconst dX13_state_8 rfl ?_
      refine mm_iret dX13_state_9 rfl rfl ?_
      exact mm_fin rfl rfl
theorem c_X13_leads (hR : mm_Rf M) (hK : mm_KV (mm_rk M)) (hs : mm_R s) (ha : mm_R a) : mm_Fn X Y_X13_leads 243 [(2, 184), (0, s), (0, a)] M (0, kv_leads (mm_rk M) s a) M := by
  unfold kv_leads
  have h10 : 1 ≤ mm_rk M 10 ∧ mm_rk M 10 ≤ 3 := hK.2.2.2.2.2.2.2.2.2.2.1
  refine mm_startF (ls := [(2, 184), (0, s), (0, a)]) rfl ?_
  refine mm_aload_n dX13_leads_0 rfl rfl ?_
  refine mm_iload_n dX13_leads_1 rfl rfl ?_
  refine mm_V1i dX13_leads_2 rfl lk_X13_464 (c := 183) rfl (by decide) rfl (by simp) rfl rfl rfl (c_X13_isState hR hK hs) ?_
  refine mm_ifeqb dX13_leads_5 (fun h5 => ?_) (fun h5 => ?_)
  · refine mm_bipush dX13_leads_16 rfl (by decide) ?_
    refine mm_goto dX13_leads_18 ?_
    refine mm_iret dX13_leads_40 rfl rfl ?_
    refine mm_fin ?_ rfl
    first
    | (rw [if_pos (And.intro h5 h13), if_pos h27]; done)
    | (rw [if_pos (And.intro h5 h13), if_neg h27]; done)
    | (rw [if_neg (fun q => h5 q.1)]; done)
    | (rw [if_neg (fun q => h13 q.2)]; done)
  · refine mm_aload_n dX13_leads_8 rfl rfl ?_
    refine mm_iload_n dX13_leads_9 rfl rfl ?_
    refine mm_V1i dX13_leads_10 rfl lk_X13_470 (c := 183) rfl (by decide) rfl (by simp) rfl rfl rfl (c_X13_isAct hR hK ha) ?_
    refine mm_ifneb dX13_leads_13 (fun h13 => ?_) (fun h13 => ?_)
    · refine mm_aload_n dX13_leads_21 rfl rfl ?_
      refine mm_iload_n dX13_leads_22 rfl rfl ?_
      refine mm_iload_n dX13_leads_23 rfl rfl ?_
      refine mm_V2i dX13_leads_24 rfl lk_X13_473 (c := 183) rfl (by decide) rfl (by simp) (by simp) rfl rfl rfl (c_X13_canDo hR hK h5 ⟨h13.1, by have := h13.2; omega⟩) ?_
      refine mm_ifeqb dX13_leads_27 (fun h27 => ?_) (fun h27 => ?_)
      · refine mm_iconst dX13_leads_39 rfl ?_
        refine mm_iret dX13_leads_40 rfl rfl ?_
        refine mm_fin ?_ rfl
        first
        | (rw [if_pos (And.intro h5 h13), if_pos h27]; done)
        | (rw [if_pos (And.intro h5 h13), if_neg h27]; done)
        | (rw [if_neg (fun q => h5 q.1)]; done)
        | (rw [if_neg (fun q => h13 q.2)]; done)
      · refine mm_aload_n dX13_leads_30 rfl rfl ?_
        refine mm_iload_n dX13_leads_31 rfl rfl ?_
        refine mm_iload_n dX13_leads_32 rfl rfl ?_
        refine mm_V2i dX13_leads_33 rfl lk_X13_476 (c := 183) rfl (by decide) rfl (by simp) (by simp) rfl rfl rfl (c_X13_after hR ⟨h13.1, by have := h13.2; omega⟩) ?_
        refine mm_goto dX13_leads_36 ?_
        refine mm_iret dX13_leads_40 rfl rfl ?_
        refine mm_fin ?_ rfl
        first
        | (rw [if_pos (And.intro h5 h13), if_pos h27]; done)
        | (rw [if_pos (And.intro h5 h13), if_neg h27]; done)
        | (rw [if_neg (fun q => h5 q.1)]; done)
        | (rw [if_neg (fun q => h13 q.2)]; done)
    · refine mm_bipush dX13_leads_16 rfl (by decide) ?_
      refine mm_goto dX13_leads_18 ?_
      refine mm_iret dX13_leads_40 rfl rfl ?_
      refine mm_fin ?_ rfl
      first
      | (rw [if_pos (And.intro h5 h13), if_pos h27]; done)
      | (rw [if_pos (And.intro h5 h13), if_neg h27]; done)
      | (rw [if_neg (fun q => h5 q.1)]; done)
      | (rw [if_neg (fun q => h13 q.2)]; done)
theorem c_X13_pull (hR : mm_Rf M) (hK : mm_KV (mm_rk M)) (hs : mm_R s) (ha : mm_R a) (hw : mm_R w) : mm_Fn X Y_X13_pull 243 [(2, 184), (0, s), (0, a), (0, w)] M (0, kv_pull (mm_rk M) s a w) M := by
  unfold kv_pull
  refine mm_startF (ls := [(2, 184), (0, s), (0, a), (0, w)]) rfl ?_
  refine mm_aload_n dX13_pull_0 rfl rfl ?_
  refine mm_iload_n dX13_pull_1 rfl rfl ?_
  refine mm_V1i dX13_pull_2 rfl lk_X13_464 (c := 183) rfl (by decide) rfl (by simp) rfl rfl rfl (c_X13_isState hR hK hs) ?_
  refine mm_ifeqb dX13_pull_5 (fun h5 => ?_) (fun h5 => ?_)
  · refine mm_bipush dX13_pull_38 rfl (by decide) ?_
    refine mm_iret dX13_pull_40 rfl rfl ?_
    refine mm_fin ?_ rfl
    first
    | (rw [if_pos ⟨h5, h13, h25⟩]; done)
    | (rw [if_neg (fun q => h5 q.1)]; done)
    | (rw [if_neg (fun q => h13 q.2.1)]; done)
    | (rw [if_neg (fun q => h25 q.2.2)]; done)
  · refine mm_aload_n dX13_pull_8 rfl rfl ?_
    refine mm_iload_n dX13_pull_9 rfl rfl ?_
    refine mm_V1i dX13_pull_10 rfl lk_X13_470 (c := 183) rfl (by decide) rfl (by simp) rfl rfl rfl (c_X13_isAct hR hK ha) ?_
    refine mm_ifeqb dX13_pull_13 (fun h13 => ?_) (fun h13 => ?_)
    · refine mm_bipush dX13_pull_38 rfl (by decide) ?_
      refine mm_iret dX13_pull_40 rfl rfl ?_
      refine mm_fin ?_ rfl
      first
      | (rw [if_pos ⟨h5, h13, h25⟩]; done)
      | (rw [if_neg (fun q => h5 q.1)]; done)
      | (rw [if_neg (fun q => h13 q.2.1)]; done)
      | (rw [if_neg (fun q => h25 q.2.2)]; done)
    · refine mm_iload_n dX13_pull_16 rfl rfl ?_
      refine mm_i2l dX13_pull_17 rfl (by omega) ?_
      refine mm_lconst0 dX13_pull_18 rfl ?_
      refine mm_ldc2 dX13_pull_19 rfl kc_X13_492 ?_
      refine mm_S3i dX13_pull_22 rfl lk_X13_5 (by simp) (by simp) (by simp) rfl rfl rfl (c_X13_in (by omega) (by decide) (by omega)) ?_
      refine mm_ifeqb dX13_pull_25 (fun h25 => ?_) (fun h25 => ?_)
      · refine mm_bipush dX13_pull_38 rfl (by decide) ?_
        refine mm_iret dX13_pull_40 rfl rfl ?_
        refine mm_fin ?_ rfl
        first
        | (rw [if_pos ⟨h5, h13, h25⟩]; done)
        | (rw [if_neg (fun q => h5 q.1)]; done)
        | (rw [if_neg (fun q => h13 q.2.1)]; done)
        | (rw [if_neg (fun q => h25 q.2.2)]; done)
      · refine mm_aload_n dX13_pull_28 rfl rfl ?_
        refine mm_iload_n dX13_pull_29 rfl rfl ?_
        refine mm_iload_n dX13_pull_30 rfl rfl ?_
        refine mm_iload_n dX13_pull_31 rfl rfl ?_
        refine mm_V3i dX13_pull_32 rfl lk_X13_497 (c := 183) rfl (by decide) rfl (by simp) (by simp) (by simp) rfl rfl rfl (c_X13_pullOf hR hK h5 h13 (by omega)) ?_
        refine mm_goto dX13_pull_35 ?_
        refine mm_iret dX13_pull_40 rfl rfl ?_
        refine mm_fin ?_ rfl
        first
        | (rw [if_pos ⟨h5, h13, h25⟩]; done)
        | (rw [if_neg (fun q => h5 q.1)]; done)
        | (rw [if_neg (fun q => h13 q.2.1)]; done)
        | (rw [if_neg (fun q => h25 q.2.2)]; done)
theorem c_X13_safe (hR : mm_Rf M) (hK : mm_KV (mm_rk M)) (hA : mm_RA M) (hs : mm_R s) (ha : mm_R a) (hh : mm_R h) : mm_Fn X Y_X13_safe 243 [(2, 184), (0, s), (0, a), (0, h)] M (0, kv_safe (mm_rk M) (M 203) (M 204) s a h) M := by
  unfold kv_safe
  refine mm_startF (ls := [(2, 184), (0, s), (0, a), (0, h)]) rfl ?_
  refine mm_aload_n dX13_safe_0 rfl rfl ?_
  refine mm_iload_n dX13_safe_1 rfl rfl ?_
  refine mm_V1i dX13_safe_2 rfl lk_X13_464 (c := 183) rfl (by decide) rfl (by simp) rfl rfl rfl (c_X13_isState hR hK hs) ?_
  refine mm_ifeqb dX13_safe_5 (fun h5 => ?_) (fun h5 => ?_)
  · refine mm_bipush dX13_safe_23 rfl (by decide) ?_
    refine mm_goto dX13_safe_25 ?_
    refine mm_iret dX13_safe_43 rfl rfl ?_
    refine mm_fin ?_ rfl
    first
    | (rw [if_pos ⟨h5, h13, h20⟩]; first | exact mm_b1 h35 | exact mm_b0 h35)
    | (rw [if_neg (fun q => h5 q.1)]; done)
    | (rw [if_neg (fun q => h13 q.2.1)]; done)
    | (rw [if_neg (fun q => h20 q.2.2)]; done)
  · refine mm_aload_n dX13_safe_8 rfl rfl ?_
    refine mm_iload_n dX13_safe_9 rfl rfl ?_
    refine mm_V1i dX13_safe_10 rfl lk_X13_470 (c := 183) rfl (by decide) rfl (by simp) rfl rfl rfl (c_X13_isAct hR hK ha) ?_
    refine mm_ifeqb dX13_safe_13 (fun h13 => ?_) (fun h13 => ?_)
    · refine mm_bipush dX13_safe_23 rfl (by decide) ?_
      refine mm_goto dX13_safe_25 ?_
      refine mm_iret dX13_safe_43 rfl rfl ?_
      refine mm_fin ?_ rfl
      first
      | (rw [if_pos ⟨h5, h13, h20⟩]; first | exact mm_b1 h35 | exact mm_b0 h35)
      | (rw [if_neg (fun q => h5 q.1)]; done)
      | (rw [if_neg (fun q => h13 q.2.1)]; done)
      | (rw [if_neg (fun q => h20 q.2.2)]; done)
    · refine mm_iload_n dX13_safe_16 rfl rfl ?_
      refine mm_S1i dX13_safe_17 rfl lk_X13_486 (by simp) rfl rfl rfl (c_X13_isHour hh) ?_
      refine mm_ifneb dX13_safe_20 (fun h20 => ?_) (fun h20 => ?_)
      · refine mm_aload_n dX13_safe_28 rfl rfl ?_
        refine mm_iload_n dX13_safe_29 rfl rfl ?_
        refine mm_iload_n dX13_safe_30 rfl rfl ?_
        refine mm_iload_n dX13_safe_31 rfl rfl ?_
        refine mm_V3i dX13_safe_32 rfl lk_X13_510 (c := 183) rfl (by decide) rfl (by simp) (by simp) (by simp) rfl rfl rfl (c_X13_isSafe hR hK hA h5 h13 h20) ?_
        refine mm_ifeqb dX13_safe_35 (fun h35 => ?_) (fun h35 => ?_)
        · refine mm_iconst dX13_safe_42 rfl ?_
          refine mm_iret dX13_safe_43 rfl rfl ?_
          refine mm_fin ?_ rfl
          first
          | (rw [if_pos ⟨h5, h13, h20⟩]; first | exact mm_b1 h35 | exact mm_b0 h35)
          | (rw [if_neg (fun q => h5 q.1)]; done)
          | (rw [if_neg (fun q => h13 q.2.1)]; done)
          | (rw [if_neg (fun q => h20 q.2.2)]; done)
        · refine mm_iconst dX13_safe_38 rfl ?_
          refine mm_goto dX13_safe_39 ?_
          refine mm_iret dX13_safe_43 rfl rfl ?_
          refine mm_fin ?_ rfl
          first
          | (rw [if_pos ⟨h5, h13, h20⟩]; first | exact mm_b1 h35 | exact mm_b0 h35)
          | (rw [if_neg (fun q => h5 q.1)]; done)
          | (rw [if_neg (fun q => h13 q.2.1)]; done)
          | (rw [if_neg (fun q => h20 q.2.2)]; done)
      · refine mm_bipush dX13_safe_23 rfl (by decide) ?_
        refine mm_goto dX13_safe_25 ?_
        refine mm_iret dX13_safe_43 rfl rfl ?_
        refine mm_fin ?_ rfl
        first
        | (rw [if_pos ⟨h5, h13, h20⟩]; first | exact mm_b1 h35 | exact mm_b0 h35)
        | (rw [if_neg (fun q => h5 q.1)]; done)
        | (rw [if_neg (fun q => h13 q.2.1)]; done)
        | (rw [if_neg (fun q => h20 q.2.2)]; done)
theorem c_X13_gives (hR : mm_Rf M) (hK : mm_KV (mm_rk M)) (hA : mm_RA M) (hs : mm_R s) (ha : mm_R a) (hh : mm_R h) : mm_Fn X Y_X13_gives 243 [(2, 184), (0, s), (0, a), (0, h)] M (0, kv_gives (mm_rk M) (M 203) (M 204) s a h) M := by
  unfold kv_gives
  refine mm_startF (ls := [(2, 184), (0, s), (0, a), (0, h)]) rfl ?_
  refine mm_aload_n dX13_gives_0 rfl rfl ?_
  refine mm_iload_n dX13_gives_1 rfl rfl ?_
  refine mm_V1i dX13_gives_2 rfl lk_X13_464 (c := 183) rfl (by decide) rfl (by simp) rfl rfl rfl (c_X13_isState hR hK hs) ?_
  refine mm_ifeqb dX13_gives_5 (fun h5 => ?_) (fun h5 => ?_)
  · refine mm_ldcw dX13_gives_33 rfl kc_X13_517 ?_
    refine mm_iret dX13_gives_36 rfl rfl ?_
    refine mm_fin ?_ rfl
    first
    | (rw [if_pos ⟨h5, h13, h20⟩]; done)
    | (rw [if_neg (fun q => h5 q.1)]; done)
    | (rw [if_neg (fun q => h13 q.2.1)]; done)
    | (rw [if_neg (fun q => h20 q.2.2)]; done)
  · refine mm_aload_n dX13_gives_8 rfl rfl ?_
    refine mm_iload_n dX13_gives_9 rfl rfl ?_
    refine mm_V1i dX13_gives_10 rfl lk_X13_470 (c := 183) rfl (by decide) rfl (by simp) rfl rfl rfl (c_X13_isAct hR hK ha) ?_
    refine mm_ifeqb dX13_gives_13 (fun h13 => ?_) (fun h13 => ?_)
    · refine mm_ldcw dX13_gives_33 rfl kc_X13_517 ?_
      refine mm_iret dX13_gives_36 rfl rfl ?_
      refine mm_fin ?_ rfl
      first
      | (rw [if_pos ⟨h5, h13, h20⟩]; done)
      | (rw [if_neg (fun q => h5 q.1)]; done)
      | (rw [if_neg (fun q => h13 q.2.1)]; done)
      | (rw [if_neg (fun q => h20 q.2.2)]; done)
    · refine mm_iload_n dX13_gives_16 rfl rfl ?_
      refine mm_S1i dX13_gives_17 rfl lk_X13_486 (by simp) rfl rfl rfl (c_X13_isHour hh) ?_
      refine mm_ifeqb dX13_gives_20 (fun h20 => ?_) (fun h20 => ?_)
      · refine mm_ldcw dX13_gives_33 rfl kc_X13_517 ?_
        refine mm_iret dX13_gives_36 rfl rfl ?_
        refine mm_fin ?_ rfl
        first
        | (rw [if_pos ⟨h5, h13, h20⟩]; done)
        | (rw [if_neg (fun q => h5 q.1)]; done)
        | (rw [if_neg (fun q => h13 q.2.1)]; done)
        | (rw [if_neg (fun q => h20 q.2.2)]; done)
      · refine mm_aload_n dX13_gives_23 rfl rfl ?_
        refine mm_iload_n dX13_gives_24 rfl rfl ?_
        refine mm_iload_n dX13_gives_25 rfl rfl ?_
        refine mm_iload_n dX13_gives_26 rfl rfl ?_
        refine mm_V3i dX13_gives_27 rfl lk_X13_514 (c := 183) rfl (by decide) rfl (by simp) (by simp) (by simp) rfl rfl rfl (c_X13_surely hR hK hA h5 h13 h20) ?_
        refine mm_goto dX13_gives_30 ?_
        refine mm_iret dX13_gives_36 rfl rfl ?_
        refine mm_fin ?_ rfl
        first
        | (rw [if_pos ⟨h5, h13, h20⟩]; done)
        | (rw [if_neg (fun q => h5 q.1)]; done)
        | (rw [if_neg (fun q => h13 q.2.1)]; done)
        | (rw [if_neg (fun q => h20 q.2.2)]; done)
theorem c_X13_pulls (hR : mm_Rf M) (hK : mm_KV (mm_rk M)) (hA : mm_RA M) (hsh : 0 ≤ M 183 96 ∧ M 183 96 ≤ 20) (hs : mm_R s) (ha : mm_R a) (hh : mm_R h) : mm_Fn X Y_X13_pulls 243 [(2, 184), (0, s), (0, a), (0, h)] M (0, kv_pulls (mm_rk M) (M 203) (M 183 96) s a h) M := by
  unfold kv_pulls
  refine mm_startF (ls := [(2, 184), (0, s), (0, a), (0, h)]) rfl ?_
  refine mm_aload_n dX13_pulls_0 rfl rfl ?_
  refine mm_iload_n dX13_pulls_1 rfl rfl ?_
  refine mm_V1i dX13_pulls_2 rfl lk_X13_464 (c := 183) rfl (by decide) rfl (by simp) rfl rfl rfl (c_X13_isState hR hK hs) ?_
  refine mm_ifeqb dX13_pulls_5 (fun h5 => ?_) (fun h5 => ?_)
  · refine mm_bipush dX13_pulls_37 rfl (by decide) ?_
    refine mm_iret dX13_pulls_39 rfl rfl ?_
    refine mm_fin ?_ rfl
    first
    | (rw [if_pos ⟨h5, h13, h20⟩]; done)
    | (rw [if_neg (fun q => h5 q.1)]; done)
    | (rw [if_neg (fun q => h13 q.2.1)]; done)
    | (rw [if_neg (fun q => h20 q.2.2)]; done)
  · refine mm_aload_n dX13_pulls_8 rfl rfl ?_
    refine mm_iload_n dX13_pulls_9 rfl rfl ?_
    refine mm_V1i dX13_pulls_10 rfl lk_X13_470 (c := 183) rfl (by decide) rfl (by simp) rfl rfl rfl (c_X13_isAct hR hK ha) ?_
    refine mm_ifeqb dX13_pulls_13 (fun h13 => ?_) (fun h13 => ?_)
    · refine mm_bipush dX13_pulls_37 rfl (by decide) ?_
      refine mm_iret dX13_pulls_39 rfl rfl ?_
      refine mm_fin ?_ rfl
      first
      | (rw [if_pos ⟨h5, h13, h20⟩]; done)
      | (rw [if_neg (fun q => h5 q.1)]; done)
      | (rw [if_neg (fun q => h13 q.2.1)]; done)
      | (rw [if_neg (fun q => h20 q.2.2)]; done)
    · refine mm_iload_n dX13_pulls_16 rfl rfl ?_
      refine mm_S1i dX13_pulls_17 rfl lk_X13_486 (by simp) rfl rfl rfl (c_X13_isHour hh) ?_
      refine mm_ifeqb dX13_pulls_20 (fun h20 => ?_) (fun h20 => ?_)
      · refine mm_bipush dX13_pulls_37 rfl (by decide) ?_
        refine mm_iret dX13_pulls_39 rfl rfl ?_
        refine mm_fin ?_ rfl
        first
        | (rw [if_pos ⟨h5, h13, h20⟩]; done)
        | (rw [if_neg (fun q => h5 q.1)]; done)
        | (rw [if_neg (fun q => h13 q.2.1)]; done)
        | (rw [if_neg (fun q => h20 q.2.2)]; done)
      · refine mm_aload_n dX13_pulls_23 rfl rfl ?_
        refine mm_iload_n dX13_pulls_24 rfl rfl ?_
        refine mm_iload_n dX13_pulls_25 rfl rfl ?_
        refine mm_iload_n dX13_pulls_26 rfl rfl ?_
        refine mm_aload_n dX13_pulls_27 rfl rfl ?_
        refine mm_get (kd := 0) dX13_pulls_28 rfl fl_X13_349 (c := 183) rfl (by decide) rfl rfl ?_
        refine mm_V4i dX13_pulls_31 rfl lk_X13_709 (c := 183) rfl (by decide) rfl (by simp) (by simp) (by simp) (by simp) rfl rfl rfl (c_X13_pullBy hR hK hA h5 h13 h20 hsh) ?_
        refine mm_goto dX13_pulls_34 ?_
        refine mm_iret dX13_pulls_39 rfl rfl ?_
        refine mm_fin ?_ rfl
        first
        | (rw [if_pos ⟨h5, h13, h20⟩]; done)
        | (rw [if_neg (fun q => h5 q.1)]; done)
        | (rw [if_neg (fun q => h13 q.2.1)]; done)
        | (rw [if_neg (fun q => h20 q.2.2)]; done)
theorem c_X13_tired (hR : mm_Rf M) (hx : mm_R x) : mm_Fn X Y_X13_tired 243 [(2, 184), (0, x)] M (0, if 0 ≤ x ∧ x ≤ 1000000 then M 183 79 else -2) (if 0 ≤ x ∧ x ≤ 1000000 then mm_up M 183 79 x else M) := by
  refine mm_startF (ls := [(2, 184), (0, x), (9, 0)]) rfl ?_
  refine mm_iload_n dX13_tired_0 rfl rfl ?_
  refine mm_i2l dX13_tired_1 rfl (by omega) ?_
  refine mm_lconst0 dX13_tired_2 rfl ?_
  refine mm_ldc2 dX13_tired_3 rfl kc_X13_668 ?_
  refine mm_S3i dX13_tired_6 rfl lk_X13_5 (by simp) (by simp) (by simp) rfl rfl rfl (c_X13_in (by omega) (by decide) (by omega)) ?_
  refine mm_ifneb dX13_tired_9 (fun h9 => ?_) (fun h9 => ?_)
  · refine mm_aload_n dX13_tired_15 rfl rfl ?_
    refine mm_get (kd := 0) dX13_tired_16 rfl fl_X13_670 (c := 183) rfl (by decide) rfl rfl ?_
    refine mm_istore_n dX13_tired_19 rfl (Nat.le_of_ble_eq_true rfl) rfl ?_
    refine mm_aload_n dX13_tired_20 rfl rfl ?_
    refine mm_iload_n dX13_tired_21 rfl rfl ?_
    refine mm_puti dX13_tired_22 rfl fl_X13_670 (c := 183) rfl (by decide) rfl rfl (fun M22 hM22 => ?_)
    have hR22 : mm_Rf M22 := by rw [hM22]; exact hR.up rfl
    refine mm_iload_n dX13_tired_25 rfl rfl ?_
    refine mm_iret dX13_tired_26 rfl rfl ?_
    exact mm_fin (by rw [if_pos h9]) (by rw [if_pos h9, hM22])
  · refine mm_bipush dX13_tired_12 rfl (by decide) ?_
    refine mm_iret dX13_tired_14 rfl rfl ?_
    exact mm_fin (by rw [if_neg h9]) (by rw [if_neg h9])
theorem c_X13_hidden (hR : mm_Rf M) (hx : mm_R x) : mm_Fn X Y_X13_hidden 243 [(2, 184), (0, x)] M (0, if 0 ≤ x ∧ x ≤ 20 then M 183 96 else -2) (if 0 ≤ x ∧ x ≤ 20 then mm_up M 183 96 x else M) := by
  refine mm_startF (ls := [(2, 184), (0, x), (9, 0)]) rfl ?_
  refine mm_iload_n dX13_hidden_0 rfl rfl ?_
  refine mm_i2l dX13_hidden_1 rfl (by omega) ?_
  refine mm_lconst0 dX13_hidden_2 rfl ?_
  refine mm_ldc2 dX13_hidden_3 rfl kc_X13_421 ?_
  refine mm_S3i dX13_hidden_6 rfl lk_X13_5 (by simp) (by simp) (by simp) rfl rfl rfl (c_X13_in (by omega) (by decide) (by omega)) ?_
  refine mm_ifneb dX13_hidden_9 (fun h9 => ?_) (fun h9 => ?_)
  · refine mm_aload_n dX13_hidden_15 rfl rfl ?_
    refine mm_get (kd := 0) dX13_hidden_16 rfl fl_X13_349 (c := 183) rfl (by decide) rfl rfl ?_
    refine mm_istore_n dX13_hidden_19 rfl (Nat.le_of_ble_eq_true rfl) rfl ?_
    refine mm_aload_n dX13_hidden_20 rfl rfl ?_
    refine mm_iload_n dX13_hidden_21 rfl rfl ?_
    refine mm_puti dX13_hidden_22 rfl fl_X13_349 (c := 183) rfl (by decide) rfl rfl (fun M22 hM22 => ?_)
    have hR22 : mm_Rf M22 := by rw [hM22]; exact hR.up rfl
    refine mm_iload_n dX13_hidden_25 rfl rfl ?_
    refine mm_iret dX13_hidden_26 rfl rfl ?_
    exact mm_fin (by rw [if_pos h9]) (by rw [if_pos h9, hM22])
  · refine mm_bipush dX13_hidden_12 rfl (by decide) ?_
    refine mm_iret dX13_hidden_14 rfl rfl ?_
    exact mm_fin (by rw [if_neg h9]) (by rw [if_neg h9])
theorem c_X13_end (hR : mm_Rf M) (hx : mm_R x) (hl : 0 ≤ M 183 2 ∧ M 183 2 ≤ 800) : mm_Fn X Y_X13_end 243 [(2, 184), (0, x)] M (0, if 0 ≤ x ∧ x ≤ M 183 2 then x else -1) (if 0 ≤ x ∧ x ≤ M 183 2 then mm_up M 183 2 x else M) := by
  refine mm_startF (ls := [(2, 184), (0, x)]) rfl ?_
  refine mm_iload_n dX13_end_0 rfl rfl ?_
  refine mm_i2l dX13_end_1 rfl (by omega) ?_
  refine mm_lconst0 dX13_end_2 rfl ?_
  refine mm_aload_n dX13_end_3 rfl rfl ?_
  refine mm_get (kd := 0) dX13_end_4 rfl fl_X13_75 (c := 183) rfl (by decide) rfl rfl ?_
  refine mm_i2l dX13_end_7 rfl (by omega) ?_
  refine mm_S3i dX13_end_8 rfl lk_X13_5 (by simp) (by simp) (by simp) rfl rfl rfl (c_X13_in (by omega) (by decide) (by omega)) ?_
  refine mm_ifneb dX13_end_11 (fun h11 => ?_) (fun h11 => ?_)
  · refine mm_aload_n dX13_end_16 rfl rfl ?_
    refine mm_iload_n dX13_end_17 rfl rfl ?_
    refine mm_puti dX13_end_18 rfl fl_X13_75 (c := 183) rfl (by decide) rfl rfl (fun M18 hM18 => ?_)
    have hR18 : mm_Rf M18 := by rw [hM18]; exact hR.up rfl
    refine mm_iload_n dX13_end_21 rfl rfl ?_
    refine mm_iret dX13_end_22 rfl rfl ?_
    exact mm_fin (by rw [if_pos h11]) (by rw [if_pos h11, hM18])
  · refine mm_iconst dX13_end_14 rfl ?_
    refine mm_iret dX13_end_15 rfl rfl ?_
    exact mm_fin (by rw [if_neg h11]) (by rw [if_neg h11])
theorem c_X13_fielded (hR : mm_Rf M) : mm_Fn X Y_X13_fielded 243 [(2, 184)] M (0, M 183 89) M := by
  refine mm_startF (ls := [(2, 184)]) rfl ?_
  refine mm_aload_n dX13_fielded_0 rfl rfl ?_
  refine mm_get (kd := 0) dX13_fielded_1 rfl fl_X13_400 (c := 183) rfl (by decide) rfl rfl ?_
  refine mm_iret dX13_fielded_4 rfl rfl ?_
  exact mm_fin rfl rfl
theorem c_X13_isKept (hR : mm_Rf M) (hx : 0 ≤ x ∧ x < 14) (hl : mm_R (M 216 x.toNat)) : mm_Fn X Y_X13_isKept 243 [(2, 184), (0, x)] M (0, mm_b (0 < M 216 x.toNat)) M := by
  refine mm_startF (ls := [(2, 184), (0, x)]) rfl ?_
  refine mm_aload_n dX13_isKept_0 rfl rfl ?_
  refine mm_getr dX13_isKept_1 rfl fl_X13_295 (c := 183) rfl (by decide) rfl rfl (hR.at (c := 183) (i := 64) (v := 217) rfl (by decide)) ?_
  refine mm_iload_n dX13_isKept_4 rfl rfl ?_
  refine mm_iald dX13_isKept_5 rfl (c := 216) rfl (by decide) rfl (by omega) (by omega) ?_
  refine mm_ifle dX13_isKept_6 (by omega) (fun h6 => ?_) (fun h6 => ?_)
  · refine mm_iconst dX13_isKept_13 rfl ?_
    refine mm_zret dX13_isKept_14 rfl rfl (Or.inl rfl) ?_
    refine mm_fin ?_ rfl
    first
    | exact mm_b1 (by omega)
    | exact mm_b0 (by omega)
  · refine mm_iconst dX13_isKept_9 rfl ?_
    refine mm_goto dX13_isKept_10 ?_
    refine mm_zret dX13_isKept_14 rfl rfl (Or.inr rfl) ?_
    refine mm_fin ?_ rfl
    first
    | exact mm_b1 (by omega)
    | exact mm_b0 (by omega)
theorem c_X13_planned (hR : mm_Rf M) (hx : mm_R x) (hf : M 183 84 = -1 ∨ (0 ≤ M 183 84 ∧ M 183 85 ≤ 23)) (hr : mm_R (M 183 84) ∧ mm_R (M 183 85)) : mm_Fn X Y_X13_planned 243 [(2, 184), (0, x)] M (0, if M 183 84 ≠ -1 ∧ M 183 84 ≤ x ∧ x ≤ M 183 85 then M 223 x.toNat else -1) M := by
  refine mm_startF (ls := [(2, 184), (0, x)]) rfl ?_
  refine mm_aload_n dX13_planned_0 rfl rfl ?_
  refine mm_get (kd := 0) dX13_planned_1 rfl fl_X13_325 (c := 183) rfl (by decide) rfl rfl ?_
  refine mm_iconst dX13_planned_4 rfl ?_
  refine mm_iceq dX13_planned_5 (by omega) (by omega) (fun h5 => ?_) (fun h5 => ?_)
  · refine mm_iconst dX13_planned_35 rfl ?_
    refine mm_iret dX13_planned_36 rfl rfl ?_
    refine mm_fin ?_ rfl
    first
    | (rw [if_pos (by omega)]; done)
    | (rw [if_neg (by omega)]; done)
  · refine mm_iload_n dX13_planned_8 rfl rfl ?_
    refine mm_i2l dX13_planned_9 rfl (by omega) ?_
    refine mm_aload_n dX13_planned_10 rfl rfl ?_
    refine mm_get (kd := 0) dX13_planned_11 rfl fl_X13_325 (c := 183) rfl (by decide) rfl rfl ?_
    refine mm_i2l dX13_planned_14 rfl (by omega) ?_
    refine mm_aload_n dX13_planned_15 rfl rfl ?_
    refine mm_get (kd := 0) dX13_planned_16 rfl fl_X13_681 (c := 183) rfl (by decide) rfl rfl ?_
    refine mm_i2l dX13_planned_19 rfl (by omega) ?_
    refine mm_S3i dX13_planned_20 rfl lk_X13_5 (by simp) (by simp) (by simp) rfl rfl rfl (c_X13_in (by omega) (by omega) (by omega)) ?_
    refine mm_ifeqb dX13_planned_23 (fun h23 => ?_) (fun h23 => ?_)
    · refine mm_iconst dX13_planned_35 rfl ?_
      refine mm_iret dX13_planned_36 rfl rfl ?_
      refine mm_fin ?_ rfl
      first
      | (rw [if_pos (by omega)]; done)
      | (rw [if_neg (by omega)]; done)
    · refine mm_aload_n dX13_planned_26 rfl rfl ?_
      refine mm_getr dX13_planned_27 rfl fl_X13_316 (c := 183) rfl (by decide) rfl rfl (hR.at (c := 183) (i := 81) (v := 224) rfl (by decide)) ?_
      refine mm_iload_n dX13_planned_30 rfl rfl ?_
      refine mm_iald dX13_planned_31 rfl (c := 223) rfl (by decide) rfl (by omega) (by omega) ?_
      refine mm_goto dX13_planned_32 ?_
      refine mm_iret dX13_planned_36 rfl rfl ?_
      refine mm_fin ?_ rfl
      first
      | (rw [if_pos (by omega)]; done)
      | (rw [if_neg (by omega)]; done)
def kv_count (n0 n1 n2 n3 n4 n5 n6 n7 : Int) (L : Int → Int) (x : Int) : Int := if x = 0 then n0 else if x = 1 then n1 else if x = 2 then n2 else if x = 3 then n3 else if x = 4 then n4 else if x = 5 then n5 else if x = 6 then n6 else if x = 7 then n7 else if 10 ≤ x ∧ x ≤ 15 then L (x - 10) else -1
theorem c_X13_count (hR : mm_Rf M) (hx : mm_R x) : mm_Fn X Y_X13_count 243 [(2, 184), (0, x)] M (0, kv_count (ks_n (mm_rk M)) (M 183 27) (M 183 88) (M 183 92) (M 183 97) (M 183 98) (M 183 79) (M 183 2) (fun i => M 216 i.toNat) x) M := by
  refine mm_startF (ls := [(2, 184), (0, x)]) rfl ?_
  unfold kv_count
  refine mm_iload_n dX13_count_0 rfl rfl ?_
  refine mm_i2l dX13_count_1 rfl (by omega) ?_
  refine mm_ldc2 dX13_count_2 rfl kc_X13_601 ?_
  refine mm_ldc2 dX13_count_5 rfl kc_X13_724 ?_
  refine mm_S3i dX13_count_8 rfl lk_X13_5 (by simp) (by simp) (by simp) rfl rfl rfl (c_X13_in (by omega) (by omega) (by omega)) ?_
  refine mm_ifeqb dX13_count_11 (fun h11 => ?_) (fun h11 => ?_)
  · refine mm_iload_n dX13_count_24 rfl rfl ?_
    have hsw : (x < 0 ∨ 7 < x) ∨ x = 0 ∨ x = 1 ∨ x = 2 ∨ x = 3 ∨ x = 4 ∨ x = 5 ∨ x = 6 ∨ x = 7 := by omega
    rcases hsw with h25 | h25 | h25 | h25 | h25 | h25 | h25 | h25 | h25
    · refine mm_tsd (t := 112) dX13_count_25.1 (by omega) h25 (by decide) ?_
      refine mm_iconst dX13_count_112 rfl ?_
      refine mm_iret dX13_count_113 rfl rfl ?_
      refine mm_fin ?_ rfl
      first
      | (rw [if_neg (by omega), if_neg (by omega), if_neg (by omega), if_neg (by omega), if_neg (by omega), if_neg (by omega), if_neg (by omega), if_neg (by omega), if_neg (by omega)]; done)
      | (subst h25; rfl)
    · refine mm_tsw (t := 72) (k := 0) dX13_count_25.1 (by omega) (by omega) (by omega) (by omega) rfl (by decide) ?_
      refine mm_aload_n dX13_count_72 rfl rfl ?_
      refine mm_V0i dX13_count_73 rfl lk_X13_458 (c := 183) rfl (by decide) rfl  rfl rfl rfl (c_X13_states hR) ?_
      refine mm_iret dX13_count_76 rfl rfl ?_
      refine mm_fin ?_ rfl
      first
      | (rw [if_neg (by omega), if_neg (by omega), if_neg (by omega), if_neg (by omega), if_neg (by omega), if_neg (by omega), if_neg (by omega), if_neg (by omega), if_neg (by omega)]; done)
      | (subst h25; rfl)
    · refine mm_tsw (t := 77) (k := 1) dX13_count_25.1 (by omega) (by omega) (by omega) (by omega) rfl (by decide) ?_
      refine mm_aload_n dX13_count_77 rfl rfl ?_
      refine mm_get (kd := 0) dX13_count_78 rfl fl_X13_494 (c := 183) rfl (by decide) rfl rfl ?_
      refine mm_iret dX13_count_81 rfl rfl ?_
      refine mm_fin ?_ rfl
      first
      | (rw [if_neg (by omega), if_neg (by omega), if_neg (by omega), if_neg (by omega), if_neg (by omega), if_neg (by omega), if_neg (by omega), if_neg (by omega), if_neg (by omega)]; done)
      | (subst h25; rfl)
    · refine mm_tsw (t := 82) (k := 2) dX13_count_25.1 (by omega) (by omega) (by omega) (by omega) rfl (by decide) ?_
      refine mm_aload_n dX13_count_82 rfl rfl ?_
      refine mm_get (kd := 0) dX13_count_83 rfl fl_X13_397 (c := 183) rfl (by decide) rfl rfl ?_
      refine mm_iret dX13_count_86 rfl rfl ?_
      refine mm_fin ?_ rfl
      first
      | (rw [if_neg (by omega), if_neg (by omega), if_neg (by omega), if_neg (by omega), if_neg (by omega), if_neg (by omega), if_neg (by omega), if_neg (by omega), if_neg (by omega)]; done)
      | (subst h25; rfl)
    · refine mm_tsw (t := 87) (k := 3) dX13_count_25.1 (by omega) (by omega) (by omega) (by omega) rfl (by decide) ?_
      refine mm_aload_n dX13_count_87 rfl rfl ?_
      refine mm_get (kd := 0) dX13_count_88 rfl fl_X13_704 (c := 183) rfl (by decide) rfl rfl ?_
      refine mm_iret dX13_count_91 rfl rfl ?_
      refine mm_fin ?_ rfl
      first
      | (rw [if_neg (by omega), if_neg (by omega), if_neg (by omega), if_neg (by omega), if_neg (by omega), if_neg (by omega), if_neg (by omega), if_neg (by omega), if_neg (by omega)]; done)
      | (subst h25; rfl)
    · refine mm_tsw (t := 92) (k := 4) dX13_count_25.1 (by omega) (by omega) (by omega) (by omega) rfl (by decide) ?_
      refine mm_aload_n dX13_count_92 rfl rfl ?_
      refine mm_get (kd := 0) dX13_count_93 rfl fl_X13_403 (c := 183) rfl (by decide) rfl rfl ?_
      refine mm_iret dX13_count_96 rfl rfl ?_
      refine mm_fin ?_ rfl
      first
      | (rw [if_neg (by omega), if_neg (by omega), if_neg (by omega), if_neg (by omega), if_neg (by omega), if_neg (by omega), if_neg (by omega), if_neg (by omega), if_neg (by omega)]; done)
      | (subst h25; rfl)
    · refine mm_tsw (t := 97) (k := 5) dX13_count_25.1 (by omega) (by omega) (by omega) (by omega) rfl (by decide) ?_
      refine mm_aload_n dX13_count_97 rfl rfl ?_
      refine mm_get (kd := 0) dX13_count_98 rfl fl_X13_406 (c := 183) rfl (by decide) rfl rfl ?_
      refine mm_iret dX13_count_101 rfl rfl ?_
      refine mm_fin ?_ rfl
      first
      | (rw [if_neg (by omega), if_neg (by omega), if_neg (by omega), if_neg (by omega), if_neg (by omega), if_neg (by omega), if_neg (by omega), if_neg (by omega), if_neg (by omega)]; done)
      | (subst h25; rfl)
    · refine mm_tsw (t := 102) (k := 6) dX13_count_25.1 (by omega) (by omega) (by omega) (by omega) rfl (by decide) ?_
      refine mm_aload_n dX13_count_102 rfl rfl ?_
      refine mm_get (kd := 0) dX13_count_103 rfl fl_X13_670 (c := 183) rfl (by decide) rfl rfl ?_
      refine mm_iret dX13_count_106 rfl rfl ?_
      refine mm_fin ?_ rfl
      first
      | (rw [if_neg (by omega), if_neg (by omega), if_neg (by omega), if_neg (by omega), if_neg (by omega), if_neg (by omega), if_neg (by omega), if_neg (by omega), if_neg (by omega)]; done)
      | (subst h25; rfl)
    · refine mm_tsw (t := 107) (k := 7) dX13_count_25.1 (by omega) (by omega) (by omega) (by omega) rfl (by decide) ?_
      refine mm_aload_n dX13_count_107 rfl rfl ?_
      refine mm_get (kd := 0) dX13_count_108 rfl fl_X13_75 (c := 183) rfl (by decide) rfl rfl ?_
      refine mm_iret dX13_count_111 rfl rfl ?_
      refine mm_fin ?_ rfl
      first
      | (rw [if_neg (by omega), if_neg (by omega), if_neg (by omega), if_neg (by omega), if_neg (by omega), if_neg (by omega), if_neg (by omega), if_neg (by omega), if_neg (by omega)]; done)
      | (subst h25; rfl)
  · refine mm_aload_n dX13_count_14 rfl rfl ?_
    refine mm_getr dX13_count_15 rfl fl_X13_295 (c := 183) rfl (by decide) rfl rfl (hR.at (c := 183) (i := 64) (v := 217) rfl (by decide)) ?_
    refine mm_iload_n dX13_count_18 rfl rfl ?_
    refine mm_bipush dX13_count_19 rfl (by decide) ?_
    refine mm_isub dX13_count_21 rfl ?_
    refine mm_iald dX13_count_22 rfl (c := 216) rfl (by decide) rfl (by omega) (by omega) ?_
    refine mm_iret dX13_count_23 rfl rfl ?_
    refine mm_fin ?_ rfl
    rw [if_neg (by omega), if_neg (by omega), if_neg (by omega), if_neg (by omega), if_neg (by omega), if_neg (by omega), if_neg (by omega), if_neg (by omega), if_pos (by omega)]
end

