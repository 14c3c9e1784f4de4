section
variable {X : mm_X} {M : mm_M} {s a m w d p h b sh x y z k l u v t lo hi fr to : Int}
theorem c_X11_winds (hR : mm_Rf M) (hh : mm_R h) (hb : mm_R b) (hk : mm_R k) (hc : 0 ≤ M 11 1 ∧ M 11 1 ≤ 200) (ht : ∀ i, i < 200 → mm_R (M 13 i) ∧ mm_R (M 12 i)) :
    mm_Fn X Y_X11_winds 243 [(2, 1), (0, h), (0, b), (0, k)] M (0, if ks_hr h ∧ (0 ≤ b ∧ b ≤ 4) ∧ (0 ≤ k ∧ k ≤ 999) then kw_last (fun i => M 13 i = h * 5 + b ∧ M 12 i ≤ k) (fun i => 100 * M 14 i + M 15 i) (M 11 1).toNat else -2) M := by
  refine mm_startF (ls := [(2, 1), (0, h), (0, b), (0, k)]) rfl ?_
  refine mm_iload_n dX11_winds_0 rfl rfl ?_
  refine mm_S1i dX11_winds_1 rfl lk_X11_165 (by simp) rfl rfl rfl (c_X11_isHour hh) ?_
  refine mm_ifeqb dX11_winds_4 (fun h4 => ?_) (fun h4 => ?_)
  · refine mm_bipush dX11_winds_34 rfl (by decide) ?_
    refine mm_iret dX11_winds_36 rfl rfl ?_
    refine mm_fin ?_ rfl
    first
    | (rw [if_pos ⟨h4, h11, h18⟩]; done)
    | (rw [if_neg (by unfold ks_hr; omega)]; done)
  · refine mm_iload_n dX11_winds_7 rfl rfl ?_
    refine mm_S1i dX11_winds_8 rfl lk_X11_168 (by simp) rfl rfl rfl (c_X11_isBand hb) ?_
    refine mm_ifeqb dX11_winds_11 (fun h11 => ?_) (fun h11 => ?_)
    · refine mm_bipush dX11_winds_34 rfl (by decide) ?_
      refine mm_iret dX11_winds_36 rfl rfl ?_
      refine mm_fin ?_ rfl
      first
      | (rw [if_pos ⟨h4, h11, h18⟩]; done)
      | (rw [if_neg (by unfold ks_hr; omega)]; done)
    · refine mm_iload_n dX11_winds_14 rfl rfl ?_
      refine mm_S1i dX11_winds_15 rfl lk_X11_188 (by simp) rfl rfl rfl (c_X11_isStep hk) ?_
      refine mm_ifeqb dX11_winds_18 (fun h18 => ?_) (fun h18 => ?_)
      · refine mm_bipush dX11_winds_34 rfl (by decide) ?_
        refine mm_iret dX11_winds_36 rfl rfl ?_
        refine mm_fin ?_ rfl
        first
        | (rw [if_pos ⟨h4, h11, h18⟩]; done)
        | (rw [if_neg (by unfold ks_hr; omega)]; done)
      · refine mm_aload_n dX11_winds_21 rfl rfl ?_
        refine mm_getr dX11_winds_22 rfl fl_X11_28 (c := 0) rfl (by decide) rfl rfl (hR.at (c := 0) (i := 2) (v := 12) rfl (by decide)) ?_
        refine mm_iload_n dX11_winds_25 rfl rfl ?_
        refine mm_iload_n dX11_winds_26 rfl rfl ?_
        refine mm_iload_n dX11_winds_27 rfl rfl ?_
        refine mm_V3i dX11_winds_28 rfl lk_X11_191 (c := 11) rfl (by decide) rfl (by simp) (by simp) (by simp) rfl rfl rfl (c_X0_knownAt hR h4 h11 hk hc ht) ?_
        refine mm_goto dX11_winds_31 ?_
        refine mm_iret dX11_winds_36 rfl rfl ?_
        refine mm_fin ?_ rfl
        first
        | (rw [if_pos ⟨h4, h11, h18⟩]; done)
        | (rw [if_neg (by unfold ks_hr; omega)]; done)
theorem c_X11_law (hR : mm_Rf M) (hf : mm_R fr) (ht : mm_R to) (hx : mm_R x) (hr : ∀ i, i < 24 → mm_R (M 173 i)) (hc : 0 ≤ M 172 0 ∧ M 172 0 ≤ 10) :
    mm_Fn X Y_X11_law 243 [(2, 1), (0, fr), (0, to), (0, x)] M (0, if (0 ≤ fr ∧ fr ≤ to ∧ to ≤ 23) ∧ 0 ≤ x ∧ x ≤ 9999 then (if M 172 0 < 10 then M 172 0 + 1 else -3) else -2)
      (if ((0 ≤ fr ∧ fr ≤ to ∧ to ≤ 23) ∧ 0 ≤ x ∧ x ≤ 9999) ∧ M 172 0 < 10 then mm_up (fun a b => if a = 173 then kw_roofs (M 173) fr to x b else M a b) 172 0 (M 172 0 + 1) else M) := by
  refine mm_startF (ls := [(2, 1), (0, fr), (0, to), (0, x)]) rfl ?_
  refine mm_iload_n dX11_law_0 rfl rfl ?_
  refine mm_S1i dX11_law_1 rfl lk_X11_165 (by simp) rfl rfl rfl (c_X11_isHour hf) ?_
  refine mm_ifeqb dX11_law_4 (fun h4 => ?_) (fun h4 => ?_)
  · refine mm_bipush dX11_law_30 rfl (by decide) ?_
    refine mm_iret dX11_law_32 rfl rfl ?_
    refine mm_fin ?_ ?_
    · rw [if_neg (by omega)]
    · rw [if_neg (by omega)]
  · refine mm_iload_n dX11_law_7 rfl rfl ?_
    refine mm_S1i dX11_law_8 rfl lk_X11_165 (by simp) rfl rfl rfl (c_X11_isHour ht) ?_
    refine mm_ifeqb dX11_law_11 (fun h11 => ?_) (fun h11 => ?_)
    · refine mm_bipush dX11_law_30 rfl (by decide) ?_
      refine mm_iret dX11_law_32 rfl rfl ?_
      refine mm_fin ?_ ?_
      · rw [if_neg (by omega)]
      · rw [if_neg (by omega)]
    · refine mm_iload_n dX11_law_14 rfl rfl ?_
      refine mm_iload_n dX11_law_15 rfl rfl ?_
      refine mm_icgt dX11_law_16 (by omega) (by omega) (fun h16 => ?_) (fun h16 => ?_)
      · refine mm_bipush dX11_law_30 rfl (by decide) ?_
        refine mm_iret dX11_law_32 rfl rfl ?_
        refine mm_fin ?_ ?_
        · rw [if_neg (by omega)]
        · rw [if_neg (by omega)]
      · refine mm_iload_n dX11_law_19 rfl rfl ?_
        refine mm_iconst dX11_law_20 rfl ?_
        refine mm_sipush dX11_law_21 rfl (by decide) ?_
        refine mm_S3i dX11_law_24 rfl lk_X11_171 (by simp) (by simp) (by simp) rfl rfl rfl (c_X11_isWithin (by omega) (by omega) (by omega)) ?_
        refine mm_ifneb dX11_law_27 (fun h27 => ?_) (fun h27 => ?_)
        · refine mm_aload_n dX11_law_33 rfl rfl ?_
          refine mm_getr dX11_law_34 rfl fl_X11_83 (c := 0) rfl (by decide) rfl rfl (hR.at (c := 0) (i := 10) (v := 173) rfl (by decide)) ?_
          refine mm_get (kd := 0) dX11_law_37 rfl fl_X11_343 (c := 172) rfl (by decide) rfl rfl ?_
          refine mm_bipush dX11_law_40 rfl (by decide) ?_
          refine mm_icge dX11_law_42 (by omega) (by omega) (fun h42 => ?_) (fun h42 => ?_)
          · refine mm_bipush dX11_law_58 rfl (by decide) ?_
            refine mm_iret dX11_law_60 rfl rfl ?_
            first
            | (refine mm_fin ?_ ?_
               · rw [if_pos (by omega), if_pos (by omega)]
               · rw [if_pos (by omega)])
            | (refine mm_fin ?_ ?_
               · rw [if_pos (by omega), if_neg (by omega)]
               · rw [if_neg (by omega)])
          · refine mm_aload_n dX11_law_45 rfl rfl ?_
            refine mm_getr dX11_law_46 rfl fl_X11_83 (c := 0) rfl (by decide) rfl rfl (hR.at (c := 0) (i := 10) (v := 173) rfl (by decide)) ?_
            refine mm_iload_n dX11_law_49 rfl rfl ?_
            refine mm_iload_n dX11_law_50 rfl rfl ?_
            refine mm_iload_n dX11_law_51 rfl rfl ?_
            refine mm_V3i dX11_law_52 rfl lk_X11_344 (c := 172) rfl (by decide) rfl (by simp) (by simp) (by simp) rfl rfl rfl (c_X5_add hR h4 h11 (by omega) hx hr (by omega)) ?_
            refine mm_goto dX11_law_55 ?_
            refine mm_iret dX11_law_60 rfl rfl ?_
            first
            | (refine mm_fin ?_ ?_
               · rw [if_pos (by omega), if_pos (by omega)]
               · rw [if_pos (by omega)])
            | (refine mm_fin ?_ ?_
               · rw [if_pos (by omega), if_neg (by omega)]
               · rw [if_neg (by omega)])
        · refine mm_bipush dX11_law_30 rfl (by decide) ?_
          refine mm_iret dX11_law_32 rfl rfl ?_
          refine mm_fin ?_ ?_
          · rw [if_neg (by omega)]
          · rw [if_neg (by omega)]
theorem c_X13_winds (hR : mm_Rf M) (hh : mm_R h) (hb : mm_R b) (hk : mm_R k) (hc : 0 ≤ M 183 27 ∧ M 183 27 ≤ 200) (ht : ∀ i, i < 200 → mm_R (M 198 i) ∧ mm_R (M 199 i) ∧ mm_R (M 202 i)) :
    mm_Fn X Y_X13_winds 243 [(2, 184), (0, h), (0, b), (0, k)] M (0, if ks_hr h ∧ (0 ≤ b ∧ b ≤ 4) ∧ (0 ≤ k ∧ k ≤ 999) then kw_last (fun i => M 198 i = h ∧ M 199 i = b ∧ M 202 i ≤ k) (fun i => 100 * M 200 i + M 201 i) (M 183 27).toNat else -2) M := by
  refine mm_startF (ls := [(2, 184), (0, h), (0, b), (0, k), (9, 0), (9, 0)]) rfl ?_
  by_cases ok : ks_hr h ∧ (0 ≤ b ∧ b ≤ 4) ∧ (0 ≤ k ∧ k ≤ 999)
  · rw [if_pos ok]
    have loop : ∀ (q i : Nat), i + q = (M 183 27).toNat → mm_J X Y_X13_winds 243 243 243 37 [(2, 184), (0, h), (0, b), (0, k), (0, kw_last (fun i => M 198 i = h ∧ M 199 i = b ∧ M 202 i ≤ k) (fun i => 100 * M 200 i + M 201 i) i), (0, (i : Int))] [] M (fun r' M'' => r' = (0, kw_last (fun i => M 198 i = h ∧ M 199 i = b ∧ M 202 i ≤ k) (fun i => 100 * M 200 i + M 201 i) (M 183 27).toNat) ∧ M'' = M) := by
      intro q
      induction q with
      | zero =>
        intro i hi
        refine mm_iload dX13_winds_37 rfl rfl ?_
        refine mm_aload_n dX13_winds_39 rfl rfl ?_
        refine mm_get (kd := 0) dX13_winds_40 rfl fl_X13_494 (c := 183) rfl (by decide) rfl rfl ?_
        refine mm_icge dX13_winds_43 (by omega) (by omega) (fun h43 => ?_) (fun h43 => ?_)
        · refine mm_iload dX13_winds_105 rfl rfl ?_
          refine mm_iret dX13_winds_107 rfl rfl ?_
          exact mm_fin (by rw [← hi]; rfl) rfl
        · exfalso; omega
      | succ q ih =>
        intro i hi
        have hr := ht i (by omega)
        have stp : ∀ z, z = kw_last (fun i => M 198 i = h ∧ M 199 i = b ∧ M 202 i ≤ k) (fun i => 100 * M 200 i + M 201 i) (i + 1) → mm_J X Y_X13_winds 243 243 243 99 [(2, 184), (0, h), (0, b), (0, k), (0, z), (0, (i : Int))] [] M (fun r' M'' => r' = (0, kw_last (fun i => M 198 i = h ∧ M 199 i = b ∧ M 202 i ≤ k) (fun i => 100 * M 200 i + M 201 i) (M 183 27).toNat) ∧ M'' = M) := by
          intro z hz
          subst hz
          refine mm_iinc dX13_winds_99 rfl rfl (Nat.le_of_ble_eq_true rfl) rfl ?_
          refine mm_goto dX13_winds_102 ?_
          exact ih (i + 1) (by omega)
        refine mm_iload dX13_winds_37 rfl rfl ?_
        refine mm_aload_n dX13_winds_39 rfl rfl ?_
        refine mm_get (kd := 0) dX13_winds_40 rfl fl_X13_494 (c := 183) rfl (by decide) rfl rfl ?_
        refine mm_icge dX13_winds_43 (by omega) (by omega) (fun h43 => ?_) (fun h43 => ?_)
        · exfalso; omega
        · refine mm_aload_n dX13_winds_46 rfl rfl ?_
          refine mm_getr dX13_winds_47 rfl fl_X13_240 (c := 183) rfl (by decide) rfl rfl (hR.at (c := 183) (i := 29) (v := 199) rfl (by decide)) ?_
          refine mm_iload dX13_winds_50 rfl rfl ?_
          refine mm_ialk (k0 := i) dX13_winds_52 rfl (c := 198) rfl (by decide) rfl (by omega) (by omega) ?_
          refine mm_iload_n dX13_winds_53 rfl rfl ?_
          refine mm_icne dX13_winds_54 (by omega) (by omega) (fun h54 => ?_) (fun h54 => ?_)
          · first
            | exact stp _ (by rw [kw_last, if_neg (by omega)])
            | exact stp _ (by rw [kw_last, if_pos ⟨h54, h65, by omega⟩])
          · refine mm_aload_n dX13_winds_57 rfl rfl ?_
            refine mm_getr dX13_winds_58 rfl fl_X13_243 (c := 183) rfl (by decide) rfl rfl (hR.at (c := 183) (i := 30) (v := 200) rfl (by decide)) ?_
            refine mm_iload dX13_winds_61 rfl rfl ?_
            refine mm_ialk (k0 := i) dX13_winds_63 rfl (c := 199) rfl (by decide) rfl (by omega) (by omega) ?_
            refine mm_iload_n dX13_winds_64 rfl rfl ?_
            refine mm_icne dX13_winds_65 (by omega) (by omega) (fun h65 => ?_) (fun h65 => ?_)
            · first
              | exact stp _ (by rw [kw_last, if_neg (by omega)])
              | exact stp _ (by rw [kw_last, if_pos ⟨h54, h65, by omega⟩])
            · refine mm_aload_n dX13_winds_68 rfl rfl ?_
              refine mm_getr dX13_winds_69 rfl fl_X13_252 (c := 183) rfl (by decide) rfl rfl (hR.at (c := 183) (i := 33) (v := 203) rfl (by decide)) ?_
              refine mm_iload dX13_winds_72 rfl rfl ?_
              refine mm_ialk (k0 := i) dX13_winds_74 rfl (c := 202) rfl (by decide) rfl (by omega) (by omega) ?_
              refine mm_iload_n dX13_winds_75 rfl rfl ?_
              refine mm_icgt dX13_winds_76 (by omega) (by omega) (fun h76 => ?_) (fun h76 => ?_)
              · first
                | exact stp _ (by rw [kw_last, if_neg (by omega)])
                | exact stp _ (by rw [kw_last, if_pos ⟨h54, h65, by omega⟩])
              · refine mm_bipush dX13_winds_79 rfl (by decide) ?_
                refine mm_aload_n dX13_winds_81 rfl rfl ?_
                refine mm_getr dX13_winds_82 rfl fl_X13_246 (c := 183) rfl (by decide) rfl rfl (hR.at (c := 183) (i := 31) (v := 201) rfl (by decide)) ?_
                refine mm_iload dX13_winds_85 rfl rfl ?_
                refine mm_ialk (k0 := i) dX13_winds_87 rfl (c := 200) rfl (by decide) rfl (by omega) (by omega) ?_
                refine mm_imul dX13_winds_88 rfl ?_
                refine mm_aload_n dX13_winds_89 rfl rfl ?_
                refine mm_getr dX13_winds_90 rfl fl_X13_249 (c := 183) rfl (by decide) rfl rfl (hR.at (c := 183) (i := 32) (v := 202) rfl (by decide)) ?_
                refine mm_iload dX13_winds_93 rfl rfl ?_
                refine mm_ialk (k0 := i) dX13_winds_95 rfl (c := 201) rfl (by decide) rfl (by omega) (by omega) ?_
                refine mm_iadd dX13_winds_96 rfl ?_
                refine mm_istore dX13_winds_97 rfl (Nat.le_of_ble_eq_true rfl) rfl ?_
                first
                | exact stp _ (by rw [kw_last, if_neg (by omega)])
                | exact stp _ (by rw [kw_last, if_pos ⟨h54, h65, by omega⟩])
    refine mm_iload_n dX13_winds_0 rfl rfl ?_
    refine mm_S1i dX13_winds_1 rfl lk_X13_486 (by simp) rfl rfl rfl (c_X13_isHour hh) ?_
    refine mm_ifeqb dX13_winds_4 (fun h4 => ?_) (fun h4 => ?_)
    · exact absurd ok.1 h4
    · refine mm_iload_n dX13_winds_7 rfl rfl ?_
      refine mm_S1i dX13_winds_8 rfl lk_X13_489 (by simp) rfl rfl rfl (c_X13_isBand hb) ?_
      refine mm_ifeqb dX13_winds_11 (fun h11 => ?_) (fun h11 => ?_)
      · exact absurd ok.2.1 h11
      · refine mm_iload_n dX13_winds_14 rfl rfl ?_
        refine mm_i2l dX13_winds_15 rfl (by omega) ?_
        refine mm_lconst0 dX13_winds_16 rfl ?_
        refine mm_ldc2 dX13_winds_17 rfl kc_X13_484 ?_
        refine mm_S3i dX13_winds_20 rfl lk_X13_5 (by simp) (by simp) (by simp) rfl rfl rfl (c_X13_in (by omega) (by decide) (by omega)) ?_
        refine mm_ifneb dX13_winds_23 (fun h23 => ?_) (fun h23 => ?_)
        · refine mm_sipush dX13_winds_29 rfl (by decide) ?_
          refine mm_istore dX13_winds_32 rfl (Nat.le_of_ble_eq_true rfl) rfl ?_
          refine mm_iconst dX13_winds_34 rfl ?_
          refine mm_istore dX13_winds_35 rfl (Nat.le_of_ble_eq_true rfl) rfl ?_
          exact loop (M 183 27).toNat 0 (by omega)
        · exact absurd ok.2.2 h23
  · rw [if_neg ok]
    refine mm_iload_n dX13_winds_0 rfl rfl ?_
    refine mm_S1i dX13_winds_1 rfl lk_X13_486 (by simp) rfl rfl rfl (c_X13_isHour hh) ?_
    refine mm_ifeqb dX13_winds_4 (fun h4 => ?_) (fun h4 => ?_)
    · refine mm_bipush dX13_winds_26 rfl (by decide) ?_
      refine mm_iret dX13_winds_28 rfl rfl ?_
      exact mm_fin rfl rfl
    · refine mm_iload_n dX13_winds_7 rfl rfl ?_
      refine mm_S1i dX13_winds_8 rfl lk_X13_489 (by simp) rfl rfl rfl (c_X13_isBand hb) ?_
      refine mm_ifeqb dX13_winds_11 (fun h11 => ?_) (fun h11 => ?_)
      · refine mm_bipush dX13_winds_26 rfl (by decide) ?_
        refine mm_iret dX13_winds_28 rfl rfl ?_
        exact mm_fin rfl rfl
      · refine mm_iload_n dX13_winds_14 rfl rfl ?_
        refine mm_i2l dX13_winds_15 rfl (by omega) ?_
        refine mm_lconst0 dX13_winds_16 rfl ?_
        refine mm_ldc2 dX13_winds_17 rfl kc_X13_484 ?_
        refine mm_S3i dX13_winds_20 rfl lk_X13_5 (by simp) (by simp) (by simp) rfl rfl rfl (c_X13_in (by omega) (by decide) (by omega)) ?_
        refine mm_ifneb dX13_winds_23 (fun h23 => ?_) (fun h23 => ?_)
        · exact absurd ⟨h4, h11, h23⟩ ok
        · refine mm_bipush dX13_winds_26 rfl (by decide) ?_
          refine mm_iret dX13_winds_28 rfl rfl ?_
          exact mm_fin rfl rfl
theorem c_X13_wind (hR : mm_Rf M) (ht : mm_R t) (hh : mm_R h) (hb : mm_R b) (hlo : mm_R lo) (hhi : mm_R hi) (hl : 0 ≤ M 183 28 ∧ M 183 28 ≤ 999) (hc : 0 ≤ M 183 27 ∧ M 183 27 ≤ 200) :
    mm_Fn X Y_X13_wind 243 [(2, 184), (0, t), (0, h), (0, b), (0, lo), (0, hi)] M (0, if kw_ok (M 183 28) t h b lo hi then (if 200 ≤ M 183 27 then -3 else M 183 27 + 1) else -2) (if kw_ok (M 183 28) t h b lo hi ∧ M 183 27 < 200 then mw_takeR M t h b lo hi else M) := by
  refine mm_startF (ls := [(2, 184), (0, t), (0, h), (0, b), (0, lo), (0, hi)]) rfl ?_
  refine mm_iload_n dX13_wind_0 rfl rfl ?_
  refine mm_i2l dX13_wind_1 rfl (by omega) ?_
  refine mm_aload_n dX13_wind_2 rfl rfl ?_
  refine mm_get (kd := 0) dX13_wind_3 rfl fl_X13_481 (c := 183) rfl (by decide) rfl rfl ?_
  refine mm_i2l dX13_wind_6 rfl (by omega) ?_
  refine mm_ldc2 dX13_wind_7 rfl kc_X13_484 ?_
  refine mm_S3i dX13_wind_10 rfl lk_X13_5 (by simp) (by simp) (by simp) rfl rfl rfl (c_X13_in (by omega) (by first | decide | omega) (by omega)) ?_
  refine mm_ifeqb dX13_wind_13 (fun h13 => ?_) (fun h13 => ?_)
  · refine mm_bipush dX13_wind_58 rfl (by decide) ?_
    refine mm_iret dX13_wind_60 rfl rfl ?_
    refine mm_fin ?_ ?_
    · rw [if_neg (by unfold kw_ok; omega)]
    · rw [if_neg (by unfold kw_ok; omega)]
  · refine mm_iload_n dX13_wind_16 rfl rfl ?_
    refine mm_S1i dX13_wind_17 rfl lk_X13_486 (by simp) rfl rfl rfl (c_X13_isHour hh) ?_
    refine mm_ifeqb dX13_wind_20 (fun h20 => ?_) (fun h20 => ?_)
    · refine mm_bipush dX13_wind_58 rfl (by decide) ?_
      refine mm_iret dX13_wind_60 rfl rfl ?_
      refine mm_fin ?_ ?_
      · rw [if_neg (by unfold kw_ok; omega)]
      · rw [if_neg (by unfold kw_ok; omega)]
    · refine mm_iload_n dX13_wind_23 rfl rfl ?_
      refine mm_S1i dX13_wind_24 rfl lk_X13_489 (by simp) rfl rfl rfl (c_X13_isBand hb) ?_
      refine mm_ifeqb dX13_wind_27 (fun h27 => ?_) (fun h27 => ?_)
      · refine mm_bipush dX13_wind_58 rfl (by decide) ?_
        refine mm_iret dX13_wind_60 rfl rfl ?_
        refine mm_fin ?_ ?_
        · rw [if_neg (by unfold kw_ok; omega)]
        · rw [if_neg (by unfold kw_ok; omega)]
      · refine mm_iload dX13_wind_30 rfl rfl ?_
        refine mm_i2l dX13_wind_32 rfl (by omega) ?_
        refine mm_lconst0 dX13_wind_33 rfl ?_
        refine mm_ldc2 dX13_wind_34 rfl kc_X13_492 ?_
        refine mm_S3i dX13_wind_37 rfl lk_X13_5 (by simp) (by simp) (by simp) rfl rfl rfl (c_X13_in (by omega) (by first | decide | omega) (by omega)) ?_
        refine mm_ifeqb dX13_wind_40 (fun h40 => ?_) (fun h40 => ?_)
        · refine mm_bipush dX13_wind_58 rfl (by decide) ?_
          refine mm_iret dX13_wind_60 rfl rfl ?_
          refine mm_fin ?_ ?_
          · rw [if_neg (by unfold kw_ok; omega)]
          · rw [if_neg (by unfold kw_ok; omega)]
        · refine mm_iload dX13_wind_43 rfl rfl ?_
          refine mm_i2l dX13_wind_45 rfl (by omega) ?_
          refine mm_iload dX13_wind_46 rfl rfl ?_
          refine mm_i2l dX13_wind_48 rfl (by omega) ?_
          refine mm_ldc2 dX13_wind_49 rfl kc_X13_492 ?_
          refine mm_S3i dX13_wind_52 rfl lk_X13_5 (by simp) (by simp) (by simp) rfl rfl rfl (c_X13_in (by omega) (by first | decide | omega) (by omega)) ?_
          refine mm_ifneb dX13_wind_55 (fun h55 => ?_) (fun h55 => ?_)
          · refine mm_aload_n dX13_wind_61 rfl rfl ?_
            refine mm_get (kd := 0) dX13_wind_62 rfl fl_X13_494 (c := 183) rfl (by decide) rfl rfl ?_
            refine mm_sipush dX13_wind_65 rfl (by decide) ?_
            refine mm_icne dX13_wind_68 (by omega) (by omega) (fun h68 => ?_) (fun h68 => ?_)
            · refine mm_aload_n dX13_wind_74 rfl rfl ?_
              refine mm_iload_n dX13_wind_75 rfl rfl ?_
              refine mm_puti dX13_wind_76 rfl fl_X13_481 (c := 183) rfl (by decide) rfl rfl (fun M76 hM76 => ?_)
              have hR76 : mm_Rf M76 := by rw [hM76]; exact hR.up rfl
              refine mm_aload_n dX13_wind_79 rfl rfl ?_
              refine mm_getr dX13_wind_80 rfl fl_X13_240 (c := 183) rfl (by decide) rfl rfl (hR76.at (c := 183) (i := 29) (v := 199) rfl (by decide)) ?_
              refine mm_aload_n dX13_wind_83 rfl rfl ?_
              refine mm_get (kd := 0) dX13_wind_84 rfl fl_X13_494 (c := 183) rfl (by decide) rfl rfl ?_
              have e1 : M76 183 27 = M 183 27 := by simp [hM76, mm_up]
              rw [e1]
              refine mm_iload_n dX13_wind_87 rfl rfl ?_
              refine mm_isto dX13_wind_88 rfl (c := 198) rfl (by decide) rfl (by omega) (by omega) (fun M88 hM88 => ?_)
              have hR88 : mm_Rf M88 := by rw [hM88]; exact hR76.up (mm_rt_ar (t := 0) rfl (by decide))
              refine mm_aload_n dX13_wind_89 rfl rfl ?_
              refine mm_getr dX13_wind_90 rfl fl_X13_243 (c := 183) rfl (by decide) rfl rfl (hR88.at (c := 183) (i := 30) (v := 200) rfl (by decide)) ?_
              refine mm_aload_n dX13_wind_93 rfl rfl ?_
              refine mm_get (kd := 0) dX13_wind_94 rfl fl_X13_494 (c := 183) rfl (by decide) rfl rfl ?_
              have e2 : M88 183 27 = M 183 27 := by simp [hM88, e1, mm_up]
              rw [e2]
              refine mm_iload_n dX13_wind_97 rfl rfl ?_
              refine mm_isto dX13_wind_98 rfl (c := 199) rfl (by decide) rfl (by omega) (by omega) (fun M98 hM98 => ?_)
              have hR98 : mm_Rf M98 := by rw [hM98]; exact hR88.up (mm_rt_ar (t := 0) rfl (by decide))
              refine mm_aload_n dX13_wind_99 rfl rfl ?_
              refine mm_getr dX13_wind_100 rfl fl_X13_246 (c := 183) rfl (by decide) rfl rfl (hR98.at (c := 183) (i := 31) (v := 201) rfl (by decide)) ?_
              refine mm_aload_n dX13_wind_103 rfl rfl ?_
              refine mm_get (kd := 0) dX13_wind_104 rfl fl_X13_494 (c := 183) rfl (by decide) rfl rfl ?_
              have e3 : M98 183 27 = M 183 27 := by simp [hM98, e2, mm_up]
              rw [e3]
              refine mm_iload dX13_wind_107 rfl rfl ?_
              refine mm_isto dX13_wind_109 rfl (c := 200) rfl (by decide) rfl (by omega) (by omega) (fun M109 hM109 => ?_)
              have hR109 : mm_Rf M109 := by rw [hM109]; exact hR98.up (mm_rt_ar (t := 0) rfl (by decide))
              refine mm_aload_n dX13_wind_110 rfl rfl ?_
              refine mm_getr dX13_wind_111 rfl fl_X13_249 (c := 183) rfl (by decide) rfl rfl (hR109.at (c := 183) (i := 32) (v := 202) rfl (by decide)) ?_
              refine mm_aload_n dX13_wind_114 rfl rfl ?_
              refine mm_get (kd := 0) dX13_wind_115 rfl fl_X13_494 (c := 183) rfl (by decide) rfl rfl ?_
              have e4 : M109 183 27 = M 183 27 := by simp [hM109, e3, mm_up]
              rw [e4]
              refine mm_iload dX13_wind_118 rfl rfl ?_
              refine mm_isto dX13_wind_120 rfl (c := 201) rfl (by decide) rfl (by omega) (by omega) (fun M120 hM120 => ?_)
              have hR120 : mm_Rf M120 := by rw [hM120]; exact hR109.up (mm_rt_ar (t := 0) rfl (by decide))
              refine mm_aload_n dX13_wind_121 rfl rfl ?_
              refine mm_getr dX13_wind_122 rfl fl_X13_252 (c := 183) rfl (by decide) rfl rfl (hR120.at (c := 183) (i := 33) (v := 203) rfl (by decide)) ?_
              refine mm_aload_n dX13_wind_125 rfl rfl ?_
              refine mm_get (kd := 0) dX13_wind_126 rfl fl_X13_494 (c := 183) rfl (by decide) rfl rfl ?_
              have e5 : M120 183 27 = M 183 27 := by simp [hM120, e4, mm_up]
              rw [e5]
              refine mm_iload_n dX13_wind_129 rfl rfl ?_
              refine mm_isto dX13_wind_130 rfl (c := 202) rfl (by decide) rfl (by omega) (by omega) (fun M130 hM130 => ?_)
              have hR130 : mm_Rf M130 := by rw [hM130]; exact hR120.up (mm_rt_ar (t := 0) rfl (by decide))
              refine mm_aload_n dX13_wind_131 rfl rfl ?_
              refine mm_dup dX13_wind_132 rfl (by simp) ?_
              refine mm_get (kd := 0) dX13_wind_133 rfl fl_X13_494 (c := 183) rfl (by decide) rfl rfl ?_
              have e6 : M130 183 27 = M 183 27 := by simp [hM130, e5, mm_up]
              rw [e6]
              refine mm_iconst dX13_wind_136 rfl ?_
              refine mm_iadd dX13_wind_137 rfl ?_
              refine mm_puti dX13_wind_138 rfl fl_X13_494 (c := 183) rfl (by decide) rfl rfl (fun M138 hM138 => ?_)
              have hR138 : mm_Rf M138 := by rw [hM138]; exact hR130.up rfl
              refine mm_aload_n dX13_wind_141 rfl rfl ?_
              refine mm_getr dX13_wind_142 rfl fl_X13_255 (c := 183) rfl (by decide) rfl rfl (hR138.at (c := 183) (i := 34) (v := 204) rfl (by decide)) ?_
              refine mm_iconst dX13_wind_145 rfl ?_
              refine mm_iload_n dX13_wind_146 rfl rfl ?_
              refine mm_imul dX13_wind_147 rfl ?_
              refine mm_iload_n dX13_wind_148 rfl rfl ?_
              refine mm_iadd dX13_wind_149 rfl ?_
              refine mm_iload dX13_wind_150 rfl rfl ?_
              refine mm_isto dX13_wind_152 rfl (c := 203) rfl (by decide) rfl (by omega) (by omega) (fun M152 hM152 => ?_)
              have hR152 : mm_Rf M152 := by rw [hM152]; exact hR138.up (mm_rt_ar (t := 0) rfl (by decide))
              refine mm_aload_n dX13_wind_153 rfl rfl ?_
              refine mm_getr dX13_wind_154 rfl fl_X13_258 (c := 183) rfl (by decide) rfl rfl (hR152.at (c := 183) (i := 35) (v := 205) rfl (by decide)) ?_
              refine mm_iconst dX13_wind_157 rfl ?_
              refine mm_iload_n dX13_wind_158 rfl rfl ?_
              refine mm_imul dX13_wind_159 rfl ?_
              refine mm_iload_n dX13_wind_160 rfl rfl ?_
              refine mm_iadd dX13_wind_161 rfl ?_
              refine mm_iload dX13_wind_162 rfl rfl ?_
              refine mm_isto dX13_wind_164 rfl (c := 204) rfl (by decide) rfl (by omega) (by omega) (fun M164 hM164 => ?_)
              have hR164 : mm_Rf M164 := by rw [hM164]; exact hR152.up (mm_rt_ar (t := 0) rfl (by decide))
              refine mm_aload_n dX13_wind_165 rfl rfl ?_
              refine mm_get (kd := 0) dX13_wind_166 rfl fl_X13_494 (c := 183) rfl (by decide) rfl rfl ?_
              refine mm_iret dX13_wind_169 rfl rfl ?_
              refine mm_fin ?_ ?_
              · rw [if_pos (by unfold kw_ok; omega), if_neg (by omega)]
                simp [hM164, hM152, hM138, mm_up]
              · rw [if_pos (by unfold kw_ok; omega), hM164, hM152, hM138, hM130, hM120, hM109, hM98, hM88, hM76]
                rfl
            · refine mm_bipush dX13_wind_71 rfl (by decide) ?_
              refine mm_iret dX13_wind_73 rfl rfl ?_
              refine mm_fin ?_ ?_
              · rw [if_pos (by unfold kw_ok; omega), if_pos (by omega)]
              · rw [if_neg (by omega)]
          · refine mm_bipush dX13_wind_58 rfl (by decide) ?_
            refine mm_iret dX13_wind_60 rfl rfl ?_
            refine mm_fin ?_ ?_
            · rw [if_neg (by unfold kw_ok; omega)]
            · rw [if_neg (by unfold kw_ok; omega)]
theorem c_X13_law (hR : mm_Rf M) (hf : mm_R fr) (ht : mm_R to) (hx : mm_R x) (hc : 0 ≤ M 183 92 ∧ M 183 92 ≤ 10) :
    mm_Fn X Y_X13_law 243 [(2, 184), (0, fr), (0, to), (0, x)] M (0, if (0 ≤ fr ∧ fr ≤ to ∧ to ≤ 23) ∧ 0 ≤ x ∧ x ≤ 9999 then (if M 183 92 < 10 then M 183 92 + 1 else -3) else -2)
      (if ((0 ≤ fr ∧ fr ≤ to ∧ to ≤ 23) ∧ 0 ≤ x ∧ x ≤ 9999) ∧ M 183 92 < 10 then mm_up (mm_up (mm_up (mm_up M 230 (M 183 92).toNat fr) 231 (M 183 92).toNat to) 232 (M 183 92).toNat x) 183 92 (M 183 92 + 1) else M) := by
  refine mm_startF (ls := [(2, 184), (0, fr), (0, to), (0, x)]) rfl ?_
  refine mm_iload_n dX13_law_0 rfl rfl ?_
  refine mm_S1i dX13_law_1 rfl lk_X13_486 (by simp) rfl rfl rfl (c_X13_isHour hf) ?_
  refine mm_ifeqb dX13_law_4 (fun h4 => ?_) (fun h4 => ?_)
  · refine mm_bipush dX13_law_32 rfl (by decide) ?_
    refine mm_iret dX13_law_34 rfl rfl ?_
    refine mm_fin ?_ ?_
    · rw [if_neg (by omega)]
    · rw [if_neg (by omega)]
  · refine mm_iload_n dX13_law_7 rfl rfl ?_
    refine mm_i2l dX13_law_8 rfl (by omega) ?_
    refine mm_iload_n dX13_law_9 rfl rfl ?_
    refine mm_i2l dX13_law_10 rfl (by omega) ?_
    refine mm_ldc2 dX13_law_11 rfl kc_X13_3 ?_
    refine mm_S3i dX13_law_14 rfl lk_X13_5 (by simp) (by simp) (by simp) rfl rfl rfl (c_X13_in (by omega) (by first | decide | omega) (by omega)) ?_
    refine mm_ifeqb dX13_law_17 (fun h17 => ?_) (fun h17 => ?_)
    · refine mm_bipush dX13_law_32 rfl (by decide) ?_
      refine mm_iret dX13_law_34 rfl rfl ?_
      refine mm_fin ?_ ?_
      · rw [if_neg (by omega)]
      · rw [if_neg (by omega)]
    · refine mm_iload_n dX13_law_20 rfl rfl ?_
      refine mm_i2l dX13_law_21 rfl (by omega) ?_
      refine mm_lconst0 dX13_law_22 rfl ?_
      refine mm_ldc2 dX13_law_23 rfl kc_X13_702 ?_
      refine mm_S3i dX13_law_26 rfl lk_X13_5 (by simp) (by simp) (by simp) rfl rfl rfl (c_X13_in (by omega) (by first | decide | omega) (by omega)) ?_
      refine mm_ifneb dX13_law_29 (fun h29 => ?_) (fun h29 => ?_)
      · refine mm_aload_n dX13_law_35 rfl rfl ?_
        refine mm_get (kd := 0) dX13_law_36 rfl fl_X13_704 (c := 183) rfl (by decide) rfl rfl ?_
        refine mm_bipush dX13_law_39 rfl (by decide) ?_
        refine mm_icne dX13_law_41 (by omega) (by omega) (fun h41 => ?_) (fun h41 => ?_)
        · refine mm_aload_n dX13_law_47 rfl rfl ?_
          refine mm_getr dX13_law_48 rfl fl_X13_340 (c := 183) rfl (by decide) rfl rfl (hR.at (c := 183) (i := 93) (v := 231) rfl (by decide)) ?_
          refine mm_aload_n dX13_law_51 rfl rfl ?_
          refine mm_get (kd := 0) dX13_law_52 rfl fl_X13_704 (c := 183) rfl (by decide) rfl rfl ?_
          refine mm_iload_n dX13_law_55 rfl rfl ?_
          refine mm_isto dX13_law_56 rfl (c := 230) rfl (by decide) rfl (by omega) (by omega) (fun M56 hM56 => ?_)
          have hR56 : mm_Rf M56 := by rw [hM56]; exact hR.up (mm_rt_ar (t := 0) rfl (by decide))
          refine mm_aload_n dX13_law_57 rfl rfl ?_
          refine mm_getr dX13_law_58 rfl fl_X13_343 (c := 183) rfl (by decide) rfl rfl (hR56.at (c := 183) (i := 94) (v := 232) rfl (by decide)) ?_
          refine mm_aload_n dX13_law_61 rfl rfl ?_
          refine mm_get (kd := 0) dX13_law_62 rfl fl_X13_704 (c := 183) rfl (by decide) rfl rfl ?_
          have e1 : M56 183 92 = M 183 92 := by simp [hM56, mm_up]
          rw [e1]
          refine mm_iload_n dX13_law_65 rfl rfl ?_
          refine mm_isto dX13_law_66 rfl (c := 231) rfl (by decide) rfl (by omega) (by omega) (fun M66 hM66 => ?_)
          have hR66 : mm_Rf M66 := by rw [hM66]; exact hR56.up (mm_rt_ar (t := 0) rfl (by decide))
          refine mm_aload_n dX13_law_67 rfl rfl ?_
          refine mm_getr dX13_law_68 rfl fl_X13_346 (c := 183) rfl (by decide) rfl rfl (hR66.at (c := 183) (i := 95) (v := 233) rfl (by decide)) ?_
          refine mm_aload_n dX13_law_71 rfl rfl ?_
          refine mm_get (kd := 0) dX13_law_72 rfl fl_X13_704 (c := 183) rfl (by decide) rfl rfl ?_
          have e2 : M66 183 92 = M 183 92 := by simp [hM66, e1, mm_up]
          rw [e2]
          refine mm_iload_n dX13_law_75 rfl rfl ?_
          refine mm_isto dX13_law_76 rfl (c := 232) rfl (by decide) rfl (by omega) (by omega) (fun M76 hM76 => ?_)
          have hR76 : mm_Rf M76 := by rw [hM76]; exact hR66.up (mm_rt_ar (t := 0) rfl (by decide))
          refine mm_aload_n dX13_law_77 rfl rfl ?_
          refine mm_dup dX13_law_78 rfl (by simp) ?_
          refine mm_get (kd := 0) dX13_law_79 rfl fl_X13_704 (c := 183) rfl (by decide) rfl rfl ?_
          have e3 : M76 183 92 = M 183 92 := by simp [hM76, e2, mm_up]
          rw [e3]
          refine mm_iconst dX13_law_82 rfl ?_
          refine mm_iadd dX13_law_83 rfl ?_
          refine mm_puti dX13_law_84 rfl fl_X13_704 (c := 183) rfl (by decide) rfl rfl (fun M84 hM84 => ?_)
          have hR84 : mm_Rf M84 := by rw [hM84]; exact hR76.up rfl
          refine mm_aload_n dX13_law_87 rfl rfl ?_
          refine mm_get (kd := 0) dX13_law_88 rfl fl_X13_704 (c := 183) rfl (by decide) rfl rfl ?_
          refine mm_iret dX13_law_91 rfl rfl ?_
          refine mm_fin ?_ ?_
          · rw [if_pos (by omega), if_pos (by omega), hM84, mm_up_s]
          · rw [if_pos (by omega), hM84, hM76, hM66, hM56]
        · refine mm_bipush dX13_law_44 rfl (by decide) ?_
          refine mm_iret dX13_law_46 rfl rfl ?_
          refine mm_fin ?_ ?_
          · rw [if_pos (by omega), if_neg (by omega)]
          · rw [if_neg (by omega)]
      · refine mm_bipush dX13_law_32 rfl (by decide) ?_
        refine mm_iret dX13_law_34 rfl rfl ?_
        refine mm_fin ?_ ?_
        · rw [if_neg (by omega)]
        · rw [if_neg (by omega)]
theorem c_X13_looped (hR : mm_Rf M) (hx : mm_R x) (hz : M 183 54 = 0 ∨ M 183 54 = 1) (hn : 0 ≤ M 183 50 ∧ M 183 50 ≤ 288) : mm_Fn X Y_X13_looped 243 [(2, 184), (0, x)] M (0, if M 183 54 = 0 then -100000000 else if x = 0 then M 183 51 else if x = 1 then M 183 52 else if 10 ≤ x ∧ x - 10 < M 183 50 then M 214 (x - 10).toNat else -100000000) M := by
  refine mm_startF (ls := [(2, 184), (0, x)]) rfl ?_
  refine mm_aload_n dX13_looped_0 rfl rfl ?_
  refine mm_get (kd := 0) dX13_looped_1 rfl fl_X13_598 (c := 183) rfl (by decide) rfl rfl ?_
  refine mm_ifne dX13_looped_4 (by omega) (fun h4 => ?_) (fun h4 => ?_)
  · refine mm_iload_n dX13_looped_13 rfl rfl ?_
    refine mm_ifne dX13_looped_14 (by omega) (fun h14 => ?_) (fun h14 => ?_)
    · refine mm_iload_n dX13_looped_24 rfl rfl ?_
      refine mm_iconst dX13_looped_25 rfl ?_
      refine mm_icne dX13_looped_26 (by omega) (by omega) (fun h26 => ?_) (fun h26 => ?_)
      · refine mm_iload_n dX13_looped_36 rfl rfl ?_
        refine mm_i2l dX13_looped_37 rfl (by omega) ?_
        refine mm_ldc2 dX13_looped_38 rfl kc_X13_601 ?_
        refine mm_ldc2 dX13_looped_41 rfl kc_X13_419 ?_
        refine mm_aload_n dX13_looped_44 rfl rfl ?_
        refine mm_get (kd := 0) dX13_looped_45 rfl fl_X13_589 (c := 183) rfl (by decide) rfl rfl ?_
        refine mm_i2l dX13_looped_48 rfl (by omega) ?_
        refine mm_ladd dX13_looped_49 rfl ?_
        refine mm_S3i dX13_looped_50 rfl lk_X13_5 (by simp) (by simp) (by simp) rfl rfl rfl (c_X13_in (by omega) (by omega) (by omega)) ?_
        refine mm_ifeqb dX13_looped_53 (fun h53 => ?_) (fun h53 => ?_)
        · refine mm_ldcw dX13_looped_68 rfl kc_X13_517 ?_
          refine mm_iret dX13_looped_71 rfl rfl ?_
          refine mm_fin ?_ rfl
          first
          | (rw [if_pos (by omega)]; done)
          | (rw [if_neg (by omega), if_pos (by omega)]; done)
          | (rw [if_neg (by omega), if_neg (by omega), if_pos (by omega)]; done)
          | (rw [if_neg (by omega), if_neg (by omega), if_neg (by omega), if_pos (by omega)]; done)
          | (rw [if_neg (by omega), if_neg (by omega), if_neg (by omega), if_neg (by omega)]; done)
        · refine mm_aload_n dX13_looped_56 rfl rfl ?_
          refine mm_getr dX13_looped_57 rfl fl_X13_289 (c := 183) rfl (by decide) rfl rfl (hR.at (c := 183) (i := 53) (v := 215) rfl (by decide)) ?_
          refine mm_iload_n dX13_looped_60 rfl rfl ?_
          refine mm_bipush dX13_looped_61 rfl (by decide) ?_
          refine mm_isub dX13_looped_63 rfl ?_
          refine mm_iald dX13_looped_64 rfl (c := 214) rfl (by decide) rfl (by omega) (by omega) ?_
          refine mm_goto dX13_looped_65 ?_
          refine mm_iret dX13_looped_71 rfl rfl ?_
          refine mm_fin ?_ rfl
          first
          | (rw [if_pos (by omega)]; done)
          | (rw [if_neg (by omega), if_pos (by omega)]; done)
          | (rw [if_neg (by omega), if_neg (by omega), if_pos (by omega)]; done)
          | (rw [if_neg (by omega), if_neg (by omega), if_neg (by omega), if_pos (by omega)]; done)
          | (rw [if_neg (by omega), if_neg (by omega), if_neg (by omega), if_neg (by omega)]; done)
      · refine mm_aload_n dX13_looped_29 rfl rfl ?_
        refine mm_get (kd := 0) dX13_looped_30 rfl fl_X13_595 (c := 183) rfl (by decide) rfl rfl ?_
        refine mm_goto dX13_looped_33 ?_
        refine mm_iret dX13_looped_71 rfl rfl ?_
        refine mm_fin ?_ rfl
        first
        | (rw [if_pos (by omega)]; done)
        | (rw [if_neg (by omega), if_pos (by omega)]; done)
        | (rw [if_neg (by omega), if_neg (by omega), if_pos (by omega)]; done)
        | (rw [if_neg (by omega), if_neg (by omega), if_neg (by omega), if_pos (by omega)]; done)
        | (rw [if_neg (by omega), if_neg (by omega), if_neg (by omega), if_neg (by omega)]; done)
    · refine mm_aload_n dX13_looped_17 rfl rfl ?_
      refine mm_get (kd := 0) dX13_looped_18 rfl fl_X13_592 (c := 183) rfl (by decide) rfl rfl ?_
      refine mm_goto dX13_looped_21 ?_
      refine mm_iret dX13_looped_71 rfl rfl ?_
      refine mm_fin ?_ rfl
      first
      | (rw [if_pos (by omega)]; done)
      | (rw [if_neg (by omega), if_pos (by omega)]; done)
      | (rw [if_neg (by omega), if_neg (by omega), if_pos (by omega)]; done)
      | (rw [if_neg (by omega), if_neg (by omega), if_neg (by omega), if_pos (by omega)]; done)
      | (rw [if_neg (by omega), if_neg (by omega), if_neg (by omega), if_neg (by omega)]; done)
  · refine mm_ldcw dX13_looped_7 rfl kc_X13_517 ?_
    refine mm_goto dX13_looped_10 ?_
    refine mm_iret dX13_looped_71 rfl rfl ?_
    refine mm_fin ?_ rfl
    first
    | (rw [if_pos (by omega)]; done)
    | (rw [if_neg (by omega), if_pos (by omega)]; done)
    | (rw [if_neg (by omega), if_neg (by omega), if_pos (by omega)]; done)
    | (rw [if_neg (by omega), if_neg (by omega), if_neg (by omega), if_pos (by omega)]; done)
    | (rw [if_neg (by omega), if_neg (by omega), if_neg (by omega), if_neg (by omega)]; done)
theorem c_X13_judged (hR : mm_Rf M) (hx : mm_R x) (hl : M 183 61 = 0 ∨ M 183 61 = 1) (hz : M 183 68 = 0 ∨ M 183 68 = 1) : mm_Fn X Y_X13_judged 243 [(2, 184), (0, x)] M (0, kv_judged (M 183 61) (M 183 55) (M 183 56) (M 183 57) (M 183 58) (M 183 68) x) M := by
  refine mm_startF (ls := [(2, 184), (0, x)]) rfl ?_
  unfold kv_judged
  refine mm_aload_n dX13_judged_0 rfl rfl ?_
  refine mm_get (kd := 0) dX13_judged_1 rfl fl_X13_621 (c := 183) rfl (by decide) rfl rfl ?_
  refine mm_ifne dX13_judged_4 (by omega) (fun h4 => ?_) (fun h4 => ?_)
  · refine mm_iload_n dX13_judged_9 rfl rfl ?_
    have hsw : (x < 0 ∨ 4 < x) ∨ x = 0 ∨ x = 1 ∨ x = 2 ∨ x = 3 ∨ x = 4 := by omega
    rcases hsw with h10 | h10 | h10 | h10 | h10 | h10
    · refine mm_tsd (t := 77) dX13_judged_10.1 (by omega) h10 (by decide) ?_
      refine mm_iconst dX13_judged_77 rfl ?_
      refine mm_iret dX13_judged_78 rfl rfl ?_
      refine mm_fin ?_ rfl
      first
      | (rw [if_pos (by omega)]; done)
      | (rw [if_neg h4]; subst h10; first | rfl | (rw [if_pos h68]; rfl) | (rw [if_neg h68]; rfl) | (simp [h68]; done))
      | (rw [if_neg (by omega), if_neg (by omega), if_neg (by omega), if_neg (by omega), if_neg (by omega), if_neg (by omega)]; done)
    · refine mm_tsw (t := 44) (k := 0) dX13_judged_10.1 (by omega) (by omega) (by omega) (by omega) rfl (by decide) ?_
      refine mm_aload_n dX13_judged_44 rfl rfl ?_
      refine mm_get (kd := 0) dX13_judged_45 rfl fl_X13_615 (c := 183) rfl (by decide) rfl rfl ?_
      refine mm_iret dX13_judged_48 rfl rfl ?_
      refine mm_fin ?_ rfl
      first
      | (rw [if_pos (by omega)]; done)
      | (rw [if_neg h4]; subst h10; first | rfl | (rw [if_pos h68]; rfl) | (rw [if_neg h68]; rfl) | (simp [h68]; done))
      | (rw [if_neg (by omega), if_neg (by omega), if_neg (by omega), if_neg (by omega), if_neg (by omega), if_neg (by omega)]; done)
    · refine mm_tsw (t := 49) (k := 1) dX13_judged_10.1 (by omega) (by omega) (by omega) (by omega) rfl (by decide) ?_
      refine mm_aload_n dX13_judged_49 rfl rfl ?_
      refine mm_get (kd := 0) dX13_judged_50 rfl fl_X13_603 (c := 183) rfl (by decide) rfl rfl ?_
      refine mm_iret dX13_judged_53 rfl rfl ?_
      refine mm_fin ?_ rfl
      first
      | (rw [if_pos (by omega)]; done)
      | (rw [if_neg h4]; subst h10; first | rfl | (rw [if_pos h68]; rfl) | (rw [if_neg h68]; rfl) | (simp [h68]; done))
      | (rw [if_neg (by omega), if_neg (by omega), if_neg (by omega), if_neg (by omega), if_neg (by omega), if_neg (by omega)]; done)
    · refine mm_tsw (t := 54) (k := 2) dX13_judged_10.1 (by omega) (by omega) (by omega) (by omega) rfl (by decide) ?_
      refine mm_aload_n dX13_judged_54 rfl rfl ?_
      refine mm_get (kd := 0) dX13_judged_55 rfl fl_X13_606 (c := 183) rfl (by decide) rfl rfl ?_
      refine mm_iret dX13_judged_58 rfl rfl ?_
      refine mm_fin ?_ rfl
      first
      | (rw [if_pos (by omega)]; done)
      | (rw [if_neg h4]; subst h10; first | rfl | (rw [if_pos h68]; rfl) | (rw [if_neg h68]; rfl) | (simp [h68]; done))
      | (rw [if_neg (by omega), if_neg (by omega), if_neg (by omega), if_neg (by omega), if_neg (by omega), if_neg (by omega)]; done)
    · refine mm_tsw (t := 59) (k := 3) dX13_judged_10.1 (by omega) (by omega) (by omega) (by omega) rfl (by decide) ?_
      refine mm_aload_n dX13_judged_59 rfl rfl ?_
      refine mm_get (kd := 0) dX13_judged_60 rfl fl_X13_609 (c := 183) rfl (by decide) rfl rfl ?_
      refine mm_iret dX13_judged_63 rfl rfl ?_
      refine mm_fin ?_ rfl
      first
      | (rw [if_pos (by omega)]; done)
      | (rw [if_neg h4]; subst h10; first | rfl | (rw [if_pos h68]; rfl) | (rw [if_neg h68]; rfl) | (simp [h68]; done))
      | (rw [if_neg (by omega), if_neg (by omega), if_neg (by omega), if_neg (by omega), if_neg (by omega), if_neg (by omega)]; done)
    · refine mm_tsw (t := 64) (k := 4) dX13_judged_10.1 (by omega) (by omega) (by omega) (by omega) rfl (by decide) ?_
      refine mm_aload_n dX13_judged_64 rfl rfl ?_
      refine mm_get (kd := 0) dX13_judged_65 rfl fl_X13_624 (c := 183) rfl (by decide) rfl rfl ?_
      refine mm_ifeq dX13_judged_68 (by omega) (fun h68 => ?_) (fun h68 => ?_)
      · refine mm_iconst dX13_judged_75 rfl ?_
        refine mm_iret dX13_judged_76 rfl rfl ?_
        refine mm_fin ?_ rfl
        first
        | (rw [if_pos (by omega)]; done)
        | (rw [if_neg h4]; subst h10; first | rfl | (rw [if_pos h68]; rfl) | (rw [if_neg h68]; rfl) | (simp [h68]; done))
        | (rw [if_neg (by omega), if_neg (by omega), if_neg (by omega), if_neg (by omega), if_neg (by omega), if_neg (by omega)]; done)
      · refine mm_iconst dX13_judged_71 rfl ?_
        refine mm_goto dX13_judged_72 ?_
        refine mm_iret dX13_judged_76 rfl rfl ?_
        refine mm_fin ?_ rfl
        first
        | (rw [if_pos (by omega)]; done)
        | (rw [if_neg h4]; subst h10; first | rfl | (rw [if_pos h68]; rfl) | (rw [if_neg h68]; rfl) | (simp [h68]; done))
        | (rw [if_neg (by omega), if_neg (by omega), if_neg (by omega), if_neg (by omega), if_neg (by omega), if_neg (by omega)]; done)
  · refine mm_iconst dX13_judged_7 rfl ?_
    refine mm_iret dX13_judged_8 rfl rfl ?_
    refine mm_fin ?_ rfl
    first
    | (rw [if_pos (by omega)]; done)
    | (rw [if_neg h4]; subst h10; first | rfl | (rw [if_pos h68]; rfl) | (rw [if_neg h68]; rfl) | (simp [h68]; done))
    | (rw [if_neg (by omega), if_neg (by omega), if_neg (by omega), if_neg (by omega), if_neg (by omega), if_neg (by omega)]; done)
theorem c_X13_flown (hR : mm_Rf M) (hx : mm_R x) (hz : M 183 75 = 0 ∨ M 183 75 = 1) (hn : 0 ≤ M 183 72 ∧ M 183 72 ≤ 500) : mm_Fn X Y_X13_flown 243 [(2, 184), (0, x)] M (0, kv_flown (M 183 75) (M 183 69) (M 183 70) (M 183 71) (M 183 72) (M 220) x) M := by
  refine mm_startF (ls := [(2, 184), (0, x)]) rfl ?_
  unfold kv_flown
  refine mm_aload_n dX13_flown_0 rfl rfl ?_
  refine mm_get (kd := 0) dX13_flown_1 rfl fl_X13_665 (c := 183) rfl (by decide) rfl rfl ?_
  refine mm_ifne dX13_flown_4 (by omega) (fun h4 => ?_) (fun h4 => ?_)
  · refine mm_iload_n dX13_flown_13 rfl rfl ?_
    refine mm_ifne dX13_flown_14 (by omega) (fun h14 => ?_) (fun h14 => ?_)
    · refine mm_iload_n dX13_flown_24 rfl rfl ?_
      refine mm_iconst dX13_flown_25 rfl ?_
      refine mm_icne dX13_flown_26 (by omega) (by omega) (fun h26 => ?_) (fun h26 => ?_)
      · refine mm_iload_n dX13_flown_36 rfl rfl ?_
        refine mm_iconst dX13_flown_37 rfl ?_
        refine mm_icne dX13_flown_38 (by omega) (by omega) (fun h38 => ?_) (fun h38 => ?_)
        · refine mm_iload_n dX13_flown_48 rfl rfl ?_
          refine mm_i2l dX13_flown_49 rfl (by omega) ?_
          refine mm_ldc2 dX13_flown_50 rfl kc_X13_601 ?_
          refine mm_ldc2 dX13_flown_53 rfl kc_X13_419 ?_
          refine mm_aload_n dX13_flown_56 rfl rfl ?_
          refine mm_get (kd := 0) dX13_flown_57 rfl fl_X13_653 (c := 183) rfl (by decide) rfl rfl ?_
          refine mm_i2l dX13_flown_60 rfl (by omega) ?_
          refine mm_ladd dX13_flown_61 rfl ?_
          refine mm_S3i dX13_flown_62 rfl lk_X13_5 (by simp) (by simp) (by simp) rfl rfl rfl (c_X13_in (by omega) (by omega) (by omega)) ?_
          refine mm_ifeqb dX13_flown_65 (fun h65 => ?_) (fun h65 => ?_)
          · refine mm_ldcw dX13_flown_80 rfl kc_X13_517 ?_
            refine mm_iret dX13_flown_83 rfl rfl ?_
            refine mm_fin ?_ rfl
            first
            | (rw [if_pos (by omega)]; done)
            | (rw [if_neg (by omega), if_pos (by omega)]; done)
            | (rw [if_neg (by omega), if_neg (by omega), if_pos (by omega)]; done)
            | (rw [if_neg (by omega), if_neg (by omega), if_neg (by omega), if_pos (by omega)]; done)
            | (rw [if_neg (by omega), if_neg (by omega), if_neg (by omega), if_neg (by omega), if_pos (by omega)]; done)
            | (rw [if_neg (by omega), if_neg (by omega), if_neg (by omega), if_neg (by omega), if_neg (by omega)]; done)
          · refine mm_aload_n dX13_flown_68 rfl rfl ?_
            refine mm_getr dX13_flown_69 rfl fl_X13_307 (c := 183) rfl (by decide) rfl rfl (hR.at (c := 183) (i := 73) (v := 221) rfl (by decide)) ?_
            refine mm_iload_n dX13_flown_72 rfl rfl ?_
            refine mm_bipush dX13_flown_73 rfl (by decide) ?_
            refine mm_isub dX13_flown_75 rfl ?_
            refine mm_iald dX13_flown_76 rfl (c := 220) rfl (by decide) rfl (by omega) (by omega) ?_
            refine mm_goto dX13_flown_77 ?_
            refine mm_iret dX13_flown_83 rfl rfl ?_
            refine mm_fin ?_ rfl
            first
            | (rw [if_pos (by omega)]; done)
            | (rw [if_neg (by omega), if_pos (by omega)]; done)
            | (rw [if_neg (by omega), if_neg (by omega), if_pos (by omega)]; done)
            | (rw [if_neg (by omega), if_neg (by omega), if_neg (by omega), if_pos (by omega)]; done)
            | (rw [if_neg (by omega), if_neg (by omega), if_neg (by omega), if_neg (by omega), if_pos (by omega)]; done)
            | (rw [if_neg (by omega), if_neg (by omega), if_neg (by omega), if_neg (by omega), if_neg (by omega)]; done)
        · refine mm_aload_n dX13_flown_41 rfl rfl ?_
          refine mm_get (kd := 0) dX13_flown_42 rfl fl_X13_662 (c := 183) rfl (by decide) rfl rfl ?_
          refine mm_goto dX13_flown_45 ?_
          refine mm_iret dX13_flown_83 rfl rfl ?_
          refine mm_fin ?_ rfl
          first
          | (rw [if_pos (by omega)]; done)
          | (rw [if_neg (by omega), if_pos (by omega)]; done)
          | (rw [if_neg (by omega), if_neg (by omega), if_pos (by omega)]; done)
          | (rw [if_neg (by omega), if_neg (by omega), if_neg (by omega), if_pos (by omega)]; done)
          | (rw [if_neg (by omega), if_neg (by omega), if_neg (by omega), if_neg (by omega), if_pos (by omega)]; done)
          | (rw [if_neg (by omega), if_neg (by omega), if_neg (by omega), if_neg (by omega), if_neg (by omega)]; done)
      · refine mm_aload_n dX13_flown_29 rfl rfl ?_
        refine mm_get (kd := 0) dX13_flown_30 rfl fl_X13_659 (c := 183) rfl (by decide) rfl rfl ?_
        refine mm_goto dX13_flown_33 ?_
        refine mm_iret dX13_flown_83 rfl rfl ?_
        refine mm_fin ?_ rfl
        first
        | (rw [if_pos (by omega)]; done)
        | (rw [if_neg (by omega), if_pos (by omega)]; done)
        | (rw [if_neg (by omega), if_neg (by omega), if_pos (by omega)]; done)
        | (rw [if_neg (by omega), if_neg (by omega), if_neg (by omega), if_pos (by omega)]; done)
        | (rw [if_neg (by omega), if_neg (by omega), if_neg (by omega), if_neg (by omega), if_pos (by omega)]; done)
        | (rw [if_neg (by omega), if_neg (by omega), if_neg (by omega), if_neg (by omega), if_neg (by omega)]; done)
    · refine mm_aload_n dX13_flown_17 rfl rfl ?_
      refine mm_get (kd := 0) dX13_flown_18 rfl fl_X13_656 (c := 183) rfl (by decide) rfl rfl ?_
      refine mm_goto dX13_flown_21 ?_
      refine mm_iret dX13_flown_83 rfl rfl ?_
      refine mm_fin ?_ rfl
      first
      | (rw [if_pos (by omega)]; done)
      | (rw [if_neg (by omega), if_pos (by omega)]; done)
      | (rw [if_neg (by omega), if_neg (by omega), if_pos (by omega)]; done)
      | (rw [if_neg (by omega), if_neg (by omega), if_neg (by omega), if_pos (by omega)]; done)
      | (rw [if_neg (by omega), if_neg (by omega), if_neg (by omega), if_neg (by omega), if_pos (by omega)]; done)
      | (rw [if_neg (by omega), if_neg (by omega), if_neg (by omega), if_neg (by omega), if_neg (by omega)]; done)
  · refine mm_ldcw dX13_flown_7 rfl kc_X13_517 ?_
    refine mm_goto dX13_flown_10 ?_
    refine mm_iret dX13_flown_83 rfl rfl ?_
    refine mm_fin ?_ rfl
    first
    | (rw [if_pos (by omega)]; done)
    | (rw [if_neg (by omega), if_pos (by omega)]; done)
    | (rw [if_neg (by omega), if_neg (by omega), if_pos (by omega)]; done)
    | (rw [if_neg (by omega), if_neg (by omega), if_neg (by omega), if_pos (by omega)]; done)
    | (rw [if_neg (by omega), if_neg (by omega), if_neg (by omega), if_neg (by omega), if_pos (by omega)]; done)
    | (rw [if_neg (by omega), if_neg (by omega), if_neg (by omega), if_neg (by omega), if_neg (by omega)]; done)
end

