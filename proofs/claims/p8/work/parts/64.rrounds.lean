/-! ===== the reference's rounds ===== -/
section
variable {X : mm_X} {M : mm_M} {x h b : Int}
theorem c_X13_rounds (hR : mm_Rf M) (hK : mm_KV (mm_rk M)) (hA : mm_RA M) (hx : mm_R x) (hh : mm_R h) (hb : mm_R b) (ht : 0 ≤ M 183 79 ∧ M 183 79 ≤ 1000000) (hl : ∀ k : Nat, k < 6 → 0 ≤ M 216 k ∧ M 216 k ≤ 100)
    (hst : ∀ k : Nat, k < 6 → ∀ i : Nat, (i : Int) < M 216 k → ks_st (mm_rk M) (kl_S M k i) ∧ ks_ac (mm_rk M) (M 219 (100 * k + i))) :
    mm_Fn X Y_X13_rounds 243 [(2, 184), (0, x), (0, h), (0, b)] M (0, if (0 ≤ x ∧ x ≤ 5) ∧ ks_hr h ∧ 0 ≤ b ∧ b ≤ 1000000 then (if 0 < M 216 x.toNat then kv_rounds (M 183 79) b (kt_sum (mm_rk M) (M 204) (kl_S M x.toNat) (fun i => M 219 (100 * x.toNat + i)) h (M 216 x.toNat).toNat) else -4) else -2) M := by
  refine mm_startF (ls := [(2, 184), (0, x), (0, h), (0, b), (9, 0), (9, 0), (9, 0), (9, 0)]) rfl ?_
  by_cases hs : ((0 ≤ x ∧ x ≤ 5) ∧ ks_hr h ∧ 0 ≤ b ∧ b ≤ 1000000) ∧ 0 < M 216 x.toNat
  · have l1 := hl x.toNat (by omega)
    have s1 := hst x.toNat (by omega)
    have hhs := hs.1.2.1
    have h9 : 0 ≤ mm_rk M 9 ∧ mm_rk M 9 ≤ 99999 := hK.2.2.2.2.2.2.2.2.2.1
    have e9 : M 186 9 = mm_rk M 9 := rfl
    have hsb : ∀ i : Nat, i ≤ (M 216 x.toNat).toNat → 0 ≤ kt_sum (mm_rk M) (M 204) (kl_S M x.toNat) (fun i => M 219 (100 * x.toNat + i)) h i ∧ kt_sum (mm_rk M) (M 204) (kl_S M x.toNat) (fun i => M 219 (100 * x.toNat + i)) h i ≤ 20000 * i :=
      fun i hi => kt_sumb hK i (fun j q => ⟨(s1 j (by omega)).2, (hA.wi hK (s1 j (by omega)).1 hhs).2⟩)
    have fin : ∀ (T : Int) (l5 l6 l7 : Nat × Int), 0 ≤ T → T ≤ 2000000 → mm_J X Y_X13_rounds 243 243 243 130 [(2, 184), (0, x), (0, h), (0, b), (0, T), l5, l6, l7] [] M (fun r' M'' => r' = (0, kv_rounds (M 183 79) b T) ∧ M'' = M) := by
      intro T l5 l6 l7 hT0 hT1
      have hq : ∀ u : Int, 0 ≤ u → u ≤ 1000000 → 0 < T → 0 ≤ u / T ∧ u / T ≤ 1000000 := fun u h1 h2 h3 => mm_divb h1 h2 h3
      refine mm_aload_n dX13_rounds_130 rfl rfl ?_
      refine mm_get (kd := 0) dX13_rounds_131 rfl fl_X13_670 (c := 183) rfl (by decide) rfl rfl ?_
      refine mm_iload_n dX13_rounds_134 rfl rfl ?_
      refine mm_icle dX13_rounds_135 (by omega) (by omega) (fun h135 => ?_) (fun h135 => ?_)
      · refine mm_iload dX13_rounds_140 rfl rfl ?_
        refine mm_ifne dX13_rounds_142 (by omega) (fun h142 => ?_) (fun h142 => ?_)
        · refine mm_ldcw dX13_rounds_151 rfl kc_X13_676 ?_
          refine mm_iload_n dX13_rounds_154 rfl rfl ?_
          refine mm_aload_n dX13_rounds_155 rfl rfl ?_
          refine mm_get (kd := 0) dX13_rounds_156 rfl fl_X13_670 (c := 183) rfl (by decide) rfl rfl ?_
          refine mm_isub dX13_rounds_159 rfl ?_
          refine mm_iload dX13_rounds_160 rfl rfl ?_
          refine mm_idiv dX13_rounds_162 rfl (by omega) (by omega) (by omega) ?_
          rw [mm_tdiv (by omega)]
          have hqq := hq (b - M 183 79) (by omega) (by omega) (by omega)
          refine mm_min dX13_rounds_163 rfl lm_X13_161 rfl rfl (by simp) (by omega) (by omega) ?_
          refine mm_iret dX13_rounds_166 rfl rfl ?_
          refine mm_fin ?_ rfl
          rw [kv_rounds, if_neg (by omega)]
          first
          | (rw [if_neg (by omega)]; done)
          | (rw [if_pos (by omega), Int.min_comm]; done)
        · refine mm_ldcw dX13_rounds_145 rfl kc_X13_676 ?_
          refine mm_goto dX13_rounds_148 ?_
          refine mm_iret dX13_rounds_166 rfl rfl ?_
          refine mm_fin ?_ rfl
          rw [kv_rounds, if_neg (by omega)]
          first
          | (rw [if_neg (by omega)]; done)
          | (rw [if_pos (by omega), Int.min_comm]; done)
      · refine mm_iconst dX13_rounds_138 rfl ?_
        refine mm_iret dX13_rounds_139 rfl rfl ?_
        exact mm_fin (by rw [kv_rounds, if_pos (by omega)]) rfl
    have loop : ∀ (k i : Nat) (l7 : Nat × Int), i + k = (M 216 x.toNat).toNat → mm_J X Y_X13_rounds 243 243 243 54 [(2, 184), (0, x), (0, h), (0, b), (0, kt_sum (mm_rk M) (M 204) (kl_S M x.toNat) (fun i => M 219 (100 * x.toNat + i)) h i), (0, kl_S M x.toNat i), (0, (i : Int)), l7] [] M (fun r' M'' => r' = (0, kv_rounds (M 183 79) b (kt_sum (mm_rk M) (M 204) (kl_S M x.toNat) (fun i => M 219 (100 * x.toNat + i)) h (M 216 x.toNat).toNat)) ∧ M'' = M) := by
      intro k
      induction k with
      | zero =>
        intro i l7 hi
        have ei : i = (M 216 x.toNat).toNat := by omega
        have hbi := hsb i (by omega)
        refine mm_iload dX13_rounds_54 rfl rfl ?_
        refine mm_aload_n dX13_rounds_56 rfl rfl ?_
        refine mm_getr dX13_rounds_57 rfl fl_X13_295 (c := 183) rfl (by decide) rfl rfl (hR.at (c := 183) (i := 64) (v := 217) rfl (by decide)) ?_
        refine mm_iload_n dX13_rounds_60 rfl rfl ?_
        refine mm_ialk (k0 := x.toNat) dX13_rounds_61 rfl (c := 216) rfl (by decide) rfl (by omega) (by omega) ?_
        refine mm_icge dX13_rounds_62 (by omega) (by omega) (fun h62 => ?_) (fun h62 => ?_)
        · rw [← ei]
          exact fin _ _ _ _ hbi.1 (by omega)
        · exfalso; omega
      | succ k ih =>
        intro i l7 hi
        have hs2 := s1 i (by omega)
        have hw := hA.wi hK hs2.1 hhs
        have hp := ks_pw hK (s := kl_S M x.toNat i) hs2.2 hw.2
        have hbi := hsb i (by omega)
        have hac := hs2.2
        have ha3 : 0 ≤ M 219 (100 * x.toNat + i) ∧ M 219 (100 * x.toNat + i) < 1000 := by
          have := ks_slb hK hac
          have := hac.1
          omega
        refine mm_iload dX13_rounds_54 rfl rfl ?_
        refine mm_aload_n dX13_rounds_56 rfl rfl ?_
        refine mm_getr dX13_rounds_57 rfl fl_X13_295 (c := 183) rfl (by decide) rfl rfl (hR.at (c := 183) (i := 64) (v := 217) rfl (by decide)) ?_
        refine mm_iload_n dX13_rounds_60 rfl rfl ?_
        refine mm_ialk (k0 := x.toNat) dX13_rounds_61 rfl (c := 216) rfl (by decide) rfl (by omega) (by omega) ?_
        refine mm_icge dX13_rounds_62 (by omega) (by omega) (fun h62 => ?_) (fun h62 => ?_)
        · exfalso; omega
        · refine mm_aload_n dX13_rounds_65 rfl rfl ?_
          refine mm_getr dX13_rounds_66 rfl fl_X13_304 (c := 183) rfl (by decide) rfl rfl (hR.at (c := 183) (i := 67) (v := 220) rfl (by decide)) ?_
          refine mm_bipush dX13_rounds_69 rfl (by decide) ?_
          refine mm_iload_n dX13_rounds_71 rfl rfl ?_
          refine mm_imul dX13_rounds_72 rfl ?_
          refine mm_iload dX13_rounds_73 rfl rfl ?_
          refine mm_iadd dX13_rounds_75 rfl ?_
          refine mm_ialk (k0 := (100 * x.toNat + i)) dX13_rounds_76 rfl (c := 219) rfl (by decide) rfl (by omega) (by omega) ?_
          refine mm_istore dX13_rounds_77 rfl (Nat.le_of_ble_eq_true rfl) rfl ?_
          refine mm_iload dX13_rounds_79 rfl rfl ?_
          refine mm_iconst dX13_rounds_81 rfl ?_
          refine mm_aload_n dX13_rounds_82 rfl rfl ?_
          refine mm_iload dX13_rounds_83 rfl rfl ?_
          refine mm_iload dX13_rounds_85 rfl rfl ?_
          refine mm_aload_n dX13_rounds_87 rfl rfl ?_
          refine mm_iload dX13_rounds_88 rfl rfl ?_
          refine mm_iload_n dX13_rounds_90 rfl rfl ?_
          refine mm_V2i dX13_rounds_91 rfl lk_X13_501 (c := 183) rfl (by decide) rfl (by simp) (by simp) rfl rfl rfl (c_X13_highAt hR hK hs2.1 hhs) ?_
          refine mm_V3i dX13_rounds_94 rfl lk_X13_497 (c := 183) rfl (by decide) rfl (by simp) (by simp) (by simp) rfl rfl rfl (c_X13_pullOf hR hK hs2.1 hs2.2 (by omega)) ?_
          refine mm_aload_n dX13_rounds_97 rfl rfl ?_
          refine mm_getr dX13_rounds_98 rfl fl_X13_151 (c := 183) rfl (by decide) rfl rfl (hR.at (c := 183) (i := 10) (v := 187) rfl (by decide)) ?_
          refine mm_bipush dX13_rounds_101 rfl (by decide) ?_
          refine mm_ialk (k0 := 9) dX13_rounds_103 rfl (c := 186) rfl (by decide) rfl rfl (by decide) ?_
          rw [e9]
          refine mm_isub dX13_rounds_104 rfl ?_
          refine mm_max dX13_rounds_105 rfl lm_X13_518 rfl rfl (by simp) (by omega) (by omega) ?_
          refine mm_bipush dX13_rounds_108 rfl (by decide) ?_
          refine mm_idiv dX13_rounds_110 rfl (by omega) (by omega) (by omega) ?_
          rw [mm_tdiv (by omega), Int.max_comm]
          refine mm_iadd dX13_rounds_111 rfl ?_
          refine mm_istore dX13_rounds_112 rfl (Nat.le_of_ble_eq_true rfl) rfl ?_
          refine mm_aload_n dX13_rounds_114 rfl rfl ?_
          refine mm_iload dX13_rounds_115 rfl rfl ?_
          refine mm_iload dX13_rounds_117 rfl rfl ?_
          refine mm_V2i dX13_rounds_119 rfl lk_X13_476 (c := 183) rfl (by decide) rfl (by simp) (by simp) rfl rfl rfl (c_X13_after hR ha3) ?_
          refine mm_istore dX13_rounds_122 rfl (Nat.le_of_ble_eq_true rfl) rfl ?_
          refine mm_iinc dX13_rounds_124 rfl rfl (Nat.le_of_ble_eq_true rfl) rfl ?_
          refine mm_goto dX13_rounds_127 ?_
          exact ih (i + 1) _ (by omega)
    refine mm_iload_n dX13_rounds_0 rfl rfl ?_
    refine mm_S1i dX13_rounds_1 rfl lk_X13_629 (by simp) rfl rfl rfl (c_X13_isSlot hx) ?_
    refine mm_ifeqb dX13_rounds_4 (fun h4 => ?_) (fun h4 => ?_)
    · refine mm_bipush dX13_rounds_26 rfl (by decide) ?_
      refine mm_iret dX13_rounds_28 rfl rfl ?_
      exfalso; omega
    · refine mm_iload_n dX13_rounds_7 rfl rfl ?_
      refine mm_S1i dX13_rounds_8 rfl lk_X13_486 (by simp) rfl rfl rfl (c_X13_isHour hh) ?_
      refine mm_ifeqb dX13_rounds_11 (fun h11 => ?_) (fun h11 => ?_)
      · refine mm_bipush dX13_rounds_26 rfl (by decide) ?_
        refine mm_iret dX13_rounds_28 rfl rfl ?_
        exfalso; omega
      · refine mm_iload_n dX13_rounds_14 rfl rfl ?_
        refine mm_i2l dX13_rounds_15 rfl (by omega) ?_
        refine mm_lconst0 dX13_rounds_16 rfl ?_
        refine mm_ldc2 dX13_rounds_17 rfl kc_X13_668 ?_
        refine mm_S3i dX13_rounds_20 rfl lk_X13_5 (by simp) (by simp) (by simp) rfl rfl rfl (c_X13_in (by omega) (by omega) (by omega)) ?_
        refine mm_ifneb dX13_rounds_23 (fun h23 => ?_) (fun h23 => ?_)
        · refine mm_aload_n dX13_rounds_29 rfl rfl ?_
          refine mm_iload_n dX13_rounds_30 rfl rfl ?_
          refine mm_V1i dX13_rounds_31 rfl lk_X13_673 (c := 183) rfl (by decide) rfl (by simp) rfl rfl rfl (c_X13_isKept hR (by omega) (by omega)) ?_
          refine mm_ifneb dX13_rounds_34 (fun h34 => ?_) (fun h34 => ?_)
          · refine mm_iconst dX13_rounds_40 rfl ?_
            refine mm_istore dX13_rounds_41 rfl (Nat.le_of_ble_eq_true rfl) rfl ?_
            refine mm_aload_n dX13_rounds_43 rfl rfl ?_
            refine mm_getr dX13_rounds_44 rfl fl_X13_298 (c := 183) rfl (by decide) rfl rfl (hR.at (c := 183) (i := 65) (v := 218) rfl (by decide)) ?_
            refine mm_iload_n dX13_rounds_47 rfl rfl ?_
            refine mm_ialk (k0 := x.toNat) dX13_rounds_48 rfl (c := 217) rfl (by decide) rfl (by omega) (by omega) ?_
            refine mm_istore dX13_rounds_49 rfl (Nat.le_of_ble_eq_true rfl) rfl ?_
            refine mm_iconst dX13_rounds_51 rfl ?_
            refine mm_istore dX13_rounds_52 rfl (Nat.le_of_ble_eq_true rfl) rfl ?_
            rw [if_pos hs.1, if_pos hs.2]
            exact loop (M 216 x.toNat).toNat 0 _ (by omega)
          · refine mm_bipush dX13_rounds_37 rfl (by decide) ?_
            refine mm_iret dX13_rounds_39 rfl rfl ?_
            exfalso; omega
        · refine mm_bipush dX13_rounds_26 rfl (by decide) ?_
          refine mm_iret dX13_rounds_28 rfl rfl ?_
          exfalso; omega
  · refine mm_iload_n dX13_rounds_0 rfl rfl ?_
    refine mm_S1i dX13_rounds_1 rfl lk_X13_629 (by simp) rfl rfl rfl (c_X13_isSlot hx) ?_
    refine mm_ifeqb dX13_rounds_4 (fun h4 => ?_) (fun h4 => ?_)
    · refine mm_bipush dX13_rounds_26 rfl (by decide) ?_
      refine mm_iret dX13_rounds_28 rfl rfl ?_
      exact mm_fin (by rw [if_neg (by omega)]) rfl
    · refine mm_iload_n dX13_rounds_7 rfl rfl ?_
      refine mm_S1i dX13_rounds_8 rfl lk_X13_486 (by simp) rfl rfl rfl (c_X13_isHour hh) ?_
      refine mm_ifeqb dX13_rounds_11 (fun h11 => ?_) (fun h11 => ?_)
      · refine mm_bipush dX13_rounds_26 rfl (by decide) ?_
        refine mm_iret dX13_rounds_28 rfl rfl ?_
        exact mm_fin (by rw [if_neg (by omega)]) rfl
      · refine mm_iload_n dX13_rounds_14 rfl rfl ?_
        refine mm_i2l dX13_rounds_15 rfl (by omega) ?_
        refine mm_lconst0 dX13_rounds_16 rfl ?_
        refine mm_ldc2 dX13_rounds_17 rfl kc_X13_668 ?_
        refine mm_S3i dX13_rounds_20 rfl lk_X13_5 (by simp) (by simp) (by simp) rfl rfl rfl (c_X13_in (by omega) (by omega) (by omega)) ?_
        refine mm_ifneb dX13_rounds_23 (fun h23 => ?_) (fun h23 => ?_)
        · refine mm_aload_n dX13_rounds_29 rfl rfl ?_
          refine mm_iload_n dX13_rounds_30 rfl rfl ?_
          refine mm_V1i dX13_rounds_31 rfl lk_X13_673 (c := 183) rfl (by decide) rfl (by simp) rfl rfl rfl (c_X13_isKept hR (by omega) (by have := hl x.toNat (by omega); omega)) ?_
          refine mm_ifneb dX13_rounds_34 (fun h34 => ?_) (fun h34 => ?_)
          · exfalso; omega
          · refine mm_bipush dX13_rounds_37 rfl (by decide) ?_
            refine mm_iret dX13_rounds_39 rfl rfl ?_
            exact mm_fin (by rw [if_pos (by omega), if_neg (by omega)]) rfl
        · refine mm_bipush dX13_rounds_26 rfl (by decide) ?_
          refine mm_iret dX13_rounds_28 rfl rfl ?_
          exact mm_fin (by rw [if_neg (by omega)]) rfl
end

