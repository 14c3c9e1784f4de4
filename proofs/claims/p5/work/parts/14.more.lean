/-! 55.more -/
section
section
variable {X : mm_X} {M : mm_M} {s a m w d p h b sh x y z k l u v t lo hi fr to : Int}
theorem c_X11_winds (hR : mm_Rf M) (hh : mm_R h) (hb : mm_R b) (hk : mm_R k) (hc : 0 ≤ M 11 1 ∧ M 11 1 ≤ 200) (ht : ∀ i, i < 200 → mm_R (M 13 i) ∧ mm_R (M 12 i)) :
    mm_Fn X Y_X11_winds 243 [(2, 1), (0, h), (0, b), (0, k)] M (0, if ks_hr h ∧ (0 ≤ b ∧ b ≤ 4) ∧ (0 ≤ k ∧ k ≤ 999) then kw_last (fun i => M 13 i = h * 5 + b ∧ M 12 i ≤ k) (fun i => 100 * M 14 i + M 15 i) (M 11 1).toNat else -2) M := by
  refine mm_startF (ls := [(2, 1), (0, h), (0, b), (0, k)]) rfl ?_
  refine mm_iload_n dX11_winds_0 rfl rfl ?_
  refine mm_S1i dX11_winds_1 rfl lk_X11_165 (by simp) rfl rfl rfl (c_X11_isHour hh) ?_
  refine mm_ifeqb dX11_winds_4 (fun h4 => ?_) (fun h4 => ?_)
  · refine mm_bipush dX11_winds_34 rfl (by decide) ?_
    refine mm_iret dX11_winds_36 rfl rfl ?_
    refine mm_fin ?_ rfl
    first
    | (rw [if_pos ⟨h4, h11, h18⟩]; done)
    | (rw [if_neg (by unfold ks_hr; omega)]; done)
  · refine mm_iload_n dX11_winds_7 rfl rfl ?_
    refine mm_S1i dX11_winds_8 rfl lk_X11_168 (by simp) rfl rfl rfl (c_X11_isBand hb) ?_
    refine mm_ifeqb dX11_winds_11 (fun h11 => ?_) (fun h11 => ?_)
    · refine mm_bipush dX11_winds_34 rfl (by decide) ?_
      refine mm_iret dX11_winds_36 rfl rfl ?_
      refine mm_fin ?_ rfl
      first
      | (rw [if_pos ⟨h4, h11, h18⟩]; done)
      | (rw [if_neg (by unfold ks_hr; omega)]; done)
    · refine mm_iload_n dX11_winds_14 rfl rfl ?_
      refine mm_S1i dX11_winds_15 rfl lk_X11_188 (by simp) rfl rfl rfl (c_X11_isStep hk) ?_
      refine mm_ifeqb dX11_winds_18 (fun h18 => ?_) (fun h18 => ?_)
      · refine mm_bipush dX11_winds_34 rfl (by decide) ?_
        refine mm_iret dX11_winds_36 rfl rfl ?_
        refine mm_fin ?_ rfl
        first
        | (rw [if_pos ⟨h4, h11, h18⟩]; done)
        | (rw [if_neg (by unfold ks_hr; omega)]; done)
      · refine mm_aload_n dX11_winds_21 rfl rfl ?_
        refine mm_getr dX11_winds_22 rfl fl_X11_28 (c := 0) rfl (by decide) rfl rfl (hR.at (c := 0) (i := 2) (v := 12) rfl (by decide)) ?_
        refine mm_iload_n dX11_winds_25 rfl rfl ?_
        refine mm_iload_n dX11_winds_26 rfl rfl ?_
        refine mm_iload_n dX11_winds_27 rfl rfl ?_
        refine mm_V3i dX11_winds_28 rfl lk_X11_191 (c := 11) rfl (by decide) rfl (by simp) (by simp) (by simp) rfl rfl rfl (c_X0_knownAt hR h4 h11 hk hc ht) ?_
        refine mm_goto dX11_winds_31 ?_
        refine mm_iret dX11_winds_36 rfl rfl ?_
        refine mm_fin ?_ rfl
        first
        | (rw [if_pos ⟨h4, h11, h18⟩]; done)
        | (rw [if_neg (by unfold ks_hr; omega)]; done)
theorem c_X11_law (hR : mm_Rf M) (hf : mm_R fr) (ht : mm_R to) (hx : mm_R x) (hr : ∀ i, i < 24 → mm_R (M 173 i)) (hc : 0 ≤ M 172 0 ∧ M 172 0 ≤ 10) :
    mm_Fn X Y_X11_law 243 [(2, 1), (0, fr), (0, to), (0, x)] M (0, if (0 ≤ fr ∧ fr ≤ to ∧ to ≤ 23) ∧ 0 ≤ x ∧ x ≤ 9999 then (if M 172 0 < 10 then M 172 0 + 1 else -3) else -2)
      (if ((0 ≤ fr ∧ fr ≤ to ∧ to ≤ 23) ∧ 0 ≤ x ∧ x ≤ 9999) ∧ M 172 0 < 10 then mm_up (fun a b => if a = 173 then kw_roofs (M 173) fr to x b else M a b) 172 0 (M 172 0 + 1) else M) := by
  refine mm_startF (ls := [(2, 1), (0, fr), (0, to), (0, x)]) rfl ?_
  refine mm_iload_n dX11_law_0 rfl rfl ?_
  refine mm_S1i dX11_law_1 rfl lk_X11_165 (by simp) rfl rfl rfl (c_X11_isHour hf) ?_
  refine mm_ifeqb dX11_law_4 (fun h4 => ?_) (fun h4 => ?_)
  · refine mm_bipush dX11_law_30 rfl (by decide) ?_
    refine mm_iret dX11_law_32 rfl rfl ?_
    refine mm_fin ?_ ?_
    · rw [if_neg (by omega)]
    · rw [if_neg (by omega)]
  · refine mm_iload_n dX11_law_7 rfl rfl ?_
    refine mm_S1i dX11_law_8 rfl lk_X11_165 (by simp) rfl rfl rfl (c_X11_isHour ht) ?_
    refine mm_ifeqb dX11_law_11 (fun h11 => ?_) (fun h11 => ?_)
    · refine mm_bipush dX11_law_30 rfl (by decide) ?_
      refine mm_iret dX11_law_32 rfl rfl ?_
      refine mm_fin ?_ ?_
      · rw [if_neg (by omega)]
      · rw [if_neg (by omega)]
    · refine mm_iload_n dX11_law_14 rfl rfl ?_
      refine mm_iload_n dX11_law_15 rfl rfl ?_
      refine mm_icgt dX11_law_16 (by omega) (by omega) (fun h16 => ?_) (fun h16 => ?_)
      · refine mm_bipush dX11_law_30 rfl (by decide) ?_
        refine mm_iret dX11_law_32 rfl rfl ?_
        refine mm_fin ?_ ?_
        · rw [if_neg (by omega)]
        · rw [if_neg (by omega)]
      · refine mm_iload_n dX11_law_19 rfl rfl ?_
        refine mm_iconst dX11_law_20 rfl ?_
        refine mm_sipush dX11_law_21 rfl (by decide) ?_
        refine mm_S3i dX11_law_24 rfl lk_X11_171 (by simp) (by simp) (by simp) rfl rfl rfl (c_X11_isWithin (by omega) (by omega) (by omega)) ?_
        refine mm_ifneb dX11_law_27 (fun h27 => ?_) (fun h27 => ?_)
        · refine mm_aload_n dX11_law_33 rfl rfl ?_
          refine mm_getr dX11_law_34 rfl fl_X11_83 (c := 0) rfl (by decide) rfl rfl (hR.at (c := 0) (i := 10) (v := 173) rfl (by decide)) ?_
          refine mm_get (kd := 0) dX11_law_37 rfl fl_X11_343 (c := 172) rfl (by decide) rfl rfl ?_
          refine mm_bipush dX11_law_40 rfl (by decide) ?_
          refine mm_icge dX11_law_42 (by omega) (by omega) (fun h42 => ?_) (fun h42 => ?_)
          · refine mm_bipush dX11_law_58 rfl (by decide) ?_
            refine mm_iret dX11_law_60 rfl rfl ?_
            first
            | (refine mm_fin ?_ ?_
               · rw [if_pos (by omega), if_pos (by omega)]
               · rw [if_pos (by omega)])
            | (refine mm_fin ?_ ?_
               · rw [if_pos (by omega), if_neg (by omega)]
               · rw [if_neg (by omega)])
          · refine mm_aload_n dX11_law_45 rfl rfl ?_
            refine mm_getr dX11_law_46 rfl fl_X11_83 (c := 0) rfl (by decide) rfl rfl (hR.at (c := 0) (i := 10) (v := 173) rfl (by decide)) ?_
            refine mm_iload_n dX11_law_49 rfl rfl ?_
            refine mm_iload_n dX11_law_50 rfl rfl ?_
            refine mm_iload_n dX11_law_51 rfl rfl ?_
            refine mm_V3i dX11_law_52 rfl lk_X11_344 (c := 172) rfl (by decide) rfl (by simp) (by simp) (by simp) rfl rfl rfl (c_X5_add hR h4 h11 (by omega) hx hr (by omega)) ?_
            refine mm_goto dX11_law_55 ?_
            refine mm_iret dX11_law_60 rfl rfl ?_
            first
            | (refine mm_fin ?_ ?_
               · rw [if_pos (by omega), if_pos (by omega)]
               · rw [if_pos (by omega)])
            | (refine mm_fin ?_ ?_
               · rw [if_pos (by omega), if_neg (by omega)]
               · rw [if_neg (by omega)])
        · refine mm_bipush dX11_law_30 rfl (by decide) ?_
          refine mm_iret dX11_law_32 rfl rfl ?_
          refine mm_fin ?_ ?_
          · rw [if_neg (by omega)]
          · rw [if_neg (by omega)]
theorem c_X13_winds (hR : mm_Rf M) (hh : mm_R h) (hb : mm_R b) (hk : mm_R k) (hc : 0 ≤ M 183 27 ∧ M 183 27 ≤ 200) (ht : ∀ i, i < 200 → mm_R (M 198 i) ∧ mm_R (M 199 i) ∧ mm_R (M 202 i)) :
    mm_Fn X Y_X13_winds 243 [(2, 184), (0, h), (0, b), (0, k)] M (0, if ks_hr h ∧ (0 ≤ b ∧ b ≤ 4) ∧ (0 ≤ k ∧ k ≤ 999) then kw_last (fun i => M 198 i = h ∧ M 199 i = b ∧ M 202 i ≤ k) (fun i => 100 * M 200 i + M 201 i) (M 183 27).toNat else -2) M := by
  refine mm_startF (ls := [(2, 184), (0, h), (0, b), (0, k), (9, 0), (9, 0)]) rfl ?_
  by_cases ok : ks_hr h ∧ (0 ≤ b ∧ b ≤ 4) ∧ (0 ≤ k ∧ k ≤ 999)
  · rw [if_pos ok]
    have loop : ∀ (q i : Nat), i + q = (M 183 27).toNat → mm_J X Y_X13_winds 243 243 243 37 [(2, 184), (0, h), (0, b), (0, k), (0, kw_last (fun i => M 198 i = h ∧ M 199 i = b ∧ M 202 i ≤ k) (fun i => 100 * M 200 i + M 201 i) i), (0, (i : Int))] [] M (fun r' M'' => r' = (0, kw_last (fun i => M 198 i = h ∧ M 199 i = b ∧ M 202 i ≤ k) (fun i => 100 * M 200 i + M 201 i) (M 183 27).toNat) ∧ M'' = M) := by
      intro q
      induction q with
      | zero =>
        intro i hi
        refine mm_iload dX13_winds_37 rfl rfl ?_
        refine mm_aload_n dX13_winds_39 rfl rfl ?_
        refine mm_get (kd := 0) dX13_winds_40 rfl fl_X13_494 (c := 183) rfl (by decide) rfl rfl ?_
        refine mm_icge dX13_winds_43 (by omega) (by omega) (fun h43 => ?_) (fun h43 => ?_)
        · refine mm_iload dX13_winds_105 rfl rfl ?_
          refine mm_iret dX13_winds_107 rfl rfl ?_
          exact mm_fin (by rw [← hi]; rfl) rfl
        · exfalso; omega
      | succ q ih =>
        intro i hi
        have hr := ht i (by omega)
        have stp : ∀ z, z = kw_last (fun i => M 198 i = h ∧ M 199 i = b ∧ M 202 i ≤ k) (fun i => 100 * M 200 i + M 201 i) (i + 1) → mm_J X Y_X13_winds 243 243 243 99 [(2, 184), (0, h), (0, b), (0, k), (0, z), (0, (i : Int))] [] M (fun r' M'' => r' = (0, kw_last (fun i => M 198 i = h ∧ M 199 i = b ∧ M 202 i ≤ k) (fun i => 100 * M 200 i + M 201 i) (M 183 27).toNat) ∧ M'' = M) := by
          intro z hz
          subst hz
          refine mm_iinc dX13_winds_99 rfl rfl (Nat.le_of_ble_eq_true rfl) rfl ?_
          refine mm_goto dX13_winds_102 ?_
          exact ih (i + 1) (by omega)
        refine mm_iload dX13_winds_37 rfl rfl ?_
        refine mm_aload_n dX13_winds_39 rfl rfl ?_
        refine mm_get (kd := 0) dX13_winds_40 rfl fl_X13_494 (c := 183) rfl (by decide) rfl rfl ?_
        refine mm_icge dX13_winds_43 (by omega) (by omega) (fun h43 => ?_) (fun h43 => ?_)
        · exfalso; omega
        · refine mm_aload_n dX13_winds_46 rfl rfl ?_
          refine mm_getr dX13_winds_47 rfl fl_X13_240 (c := 183) rfl (by decide) rfl rfl (hR.at (c := 183) (i := 29) (v := 199) rfl (by decide)) ?_
          refine mm_iload dX13_winds_50 rfl rfl ?_
          refine mm_ialk (k0 := i) dX13_winds_52 rfl (c := 198) rfl (by decide) rfl (by omega) (by omega) ?_
          refine mm_iload_n dX13_winds_53 rfl rfl ?_
          refine mm_icne dX13_winds_54 (by omega) (by omega) (fun h54 => ?_) (fun h54 => ?_)
          · first
            | exact stp _ (by rw [kw_last, if_neg (by omega)])
            | exact stp _ (by rw [kw_last, if_pos ⟨h54, h65, by omega⟩])
          · refine mm_aload_n dX13_winds_57 rfl rfl ?_
            refine mm_getr dX13_winds_58 rfl fl_X13_243 (c := 183) rfl (by decide) rfl rfl (hR.at (c := 183) (i := 30) (v := 200) rfl (by decide)) ?_
            refine mm_iload dX13_winds_61 rfl rfl ?_
            refine mm_ialk (k0 := i) dX13_winds_63 rfl (c := 199) rfl (by decide) rfl (by omega) (by omega) ?_
            refine mm_iload_n dX13_winds_64 rfl rfl ?_
            refine mm_icne dX13_winds_65 (by omega) (by omega) (fun h65 => ?_) (fun h65 => ?_)
            · first
              | exact stp _ (by rw [kw_last, if_neg (by omega)])
              | exact stp _ (by rw [kw_last, if_pos ⟨h54, h65, by omega⟩])
            · refine mm_aload_n dX13_winds_68 rfl rfl ?_
              refine mm_getr dX13_winds_69 rfl fl_X13_252 (c := 183) rfl (by decide) rfl rfl (hR.at (c := 183) (i := 33) (v := 203) rfl (by decide)) ?_
              refine mm_iload dX13_winds_72 rfl rfl ?_
              refine mm_ialk (k0 := i) dX13_winds_74 rfl (c := 202) rfl (by decide) rfl (by omega) (by omega) ?_
              refine mm_iload_n dX13_winds_75 rfl rfl ?_
              refine mm_icgt dX13_winds_76 (by omega) (by omega) (fun h76 => ?_) (fun h76 => ?_)
              · first
                | exact stp _ (by rw [kw_last, if_neg (by omega)])
                | exact stp _ (by rw [kw_last, if_pos ⟨h54, h65, by omega⟩])
              · refine mm_bipush dX13_winds_79 rfl (by decide) ?_
                refine mm_aload_n dX13_winds_81 rfl rfl ?_
                refine mm_getr dX13_winds_82 rfl fl_X13_246 (c := 183) rfl (by decide) rfl rfl (hR.at (c := 183) (i := 31) (v := 201) rfl (by decide)) ?_
                refine mm_iload dX13_winds_85 rfl rfl ?_
                refine mm_ialk (k0 := i) dX13_winds_87 rfl (c := 200) rfl (by decide) rfl (by omega) (by omega) ?_
                refine mm_imul dX13_winds_88 rfl ?_
                refine mm_aload_n dX13_winds_89 rfl rfl ?_
                refine mm_getr dX13_winds_90 rfl fl_X13_249 (c := 183) rfl (by decide) rfl rfl (hR.at (c := 183) (i := 32) (v := 202) rfl (by decide)) ?_
                refine mm_iload dX13_winds_93 rfl rfl ?_
                refine mm_ialk (k0 := i) dX13_winds_95 rfl (c := 201) rfl (by decide) rfl (by omega) (by omega) ?_
                refine mm_iadd dX13_winds_96 rfl ?_
                refine mm_istore dX13_winds_97 rfl (Nat.le_of_ble_eq_true rfl) rfl ?_
                first
                | exact stp _ (by rw [kw_last, if_neg (by omega)])
                | exact stp _ (by rw [kw_last, if_pos ⟨h54, h65, by omega⟩])
    refine mm_iload_n dX13_winds_0 rfl rfl ?_
    refine mm_S1i dX13_winds_1 rfl lk_X13_486 (by simp) rfl rfl rfl (c_X13_isHour hh) ?_
    refine mm_ifeqb dX13_winds_4 (fun h4 => ?_) (fun h4 => ?_)
    · exact absurd ok.1 h4
    · refine mm_iload_n dX13_winds_7 rfl rfl ?_
      refine mm_S1i dX13_winds_8 rfl lk_X13_489 (by simp) rfl rfl rfl (c_X13_isBand hb) ?_
      refine mm_ifeqb dX13_winds_11 (fun h11 => ?_) (fun h11 => ?_)
      · exact absurd ok.2.1 h11
      · refine mm_iload_n dX13_winds_14 rfl rfl ?_
        refine mm_i2l dX13_winds_15 rfl (by omega) ?_
        refine mm_lconst0 dX13_winds_16 rfl ?_
        refine mm_ldc2 dX13_winds_17 rfl kc_X13_484 ?_
        refine mm_S3i dX13_winds_20 rfl lk_X13_5 (by simp) (by simp) (by simp) rfl rfl rfl (c_X13_in (by omega) (by decide) (by omega)) ?_
        refine mm_ifneb dX13_winds_23 (fun h23 => ?_) (fun h23 => ?_)
        · refine mm_sipush dX13_winds_29 rfl (by decide) ?_
          refine mm_istore dX13_winds_32 rfl (Nat.le_of_ble_eq_true rfl) rfl ?_
          refine mm_iconst dX13_winds_34 rfl ?_
          refine mm_istore dX13_winds_35 rfl (Nat.le_of_ble_eq_true rfl) rfl ?_
          exact loop (M 183 27).toNat 0 (by omega)
        · exact absurd ok.2.2 h23
  · rw [if_neg ok]
    refine mm_iload_n dX13_winds_0 rfl rfl ?_
    refine mm_S1i dX13_winds_1 rfl lk_X13_486 (by simp) rfl rfl rfl (c_X13_isHour hh) ?_
    refine mm_ifeqb dX13_winds_4 (fun h4 => ?_) (fun h4 => ?_)
    · refine mm_bipush dX13_winds_26 rfl (by decide) ?_
      refine mm_iret dX13_winds_28 rfl rfl ?_
      exact mm_fin rfl rfl
    · refine mm_iload_n dX13_winds_7 rfl rfl ?_
      refine mm_S1i dX13_winds_8 rfl lk_X13_489 (by simp) rfl rfl rfl (c_X13_isBand hb) ?_
      refine mm_ifeqb dX13_winds_11 (fun h11 => ?_) (fun h11 => ?_)
      · refine mm_bipush dX13_winds_26 rfl (by decide) ?_
        refine mm_iret dX13_winds_28 rfl rfl ?_
        exact mm_fin rfl rfl
      · refine mm_iload_n dX13_winds_14 rfl rfl ?_
        refine mm_i2l dX13_winds_15 rfl (by omega) ?_
        refine mm_lconst0 dX13_winds_16 rfl ?_
        refine mm_ldc2 dX13_winds_17 rfl kc_X13_484 ?_
        refine mm_S3i dX13_winds_20 rfl lk_X13_5 (by simp) (by simp) (by simp) rfl rfl rfl (c_X13_in (by omega) (by decide) (by omega)) ?_
        refine mm_ifneb dX13_winds_23 (fun h23 => ?_) (fun h23 => ?_)
        · exact absurd ⟨h4, h11, h23⟩ ok
        · refine mm_bipush dX13_winds_26 rfl (by decide) ?_
          refine mm_iret dX13_winds_28 rfl rfl ?_
          exact mm_fin rfl rfl
theorem c_X13_wind (hR : mm_Rf M) (ht : mm_R t) (hh : mm_R h) (hb : mm_R b) (hlo : mm_R lo) (hhi : mm_R hi) (hl : 0 ≤ M 183 28 ∧ M 183 28 ≤ 999) (hc : 0 ≤ M 183 27 ∧ M 183 27 ≤ 200) :
    mm_Fn X Y_X13_wind 243 [(2, 184), (0, t), (0, h), (0, b), (0, lo), (0, hi)] M (0, if kw_ok (M 183 28) t h b lo hi then (if 200 ≤ M 183 27 then -3 else M 183 27 + 1) else -2) (if kw_ok (M 183 28) t h b lo hi ∧ M 183 27 < 200 then mw_takeR M t h b lo hi else M) := by
  refine mm_startF (ls := [(2, 184), (0, t), (0, h), (0, b), (0, lo), (0, hi)]) rfl ?_
  refine mm_iload_n dX13_wind_0 rfl rfl ?_
  refine mm_i2l dX13_wind_1 rfl (by omega) ?_
  refine mm_aload_n dX13_wind_2 rfl rfl ?_
  refine mm_get (kd := 0) dX13_wind_3 rfl fl_X13_481 (c := 183) rfl (by decide) rfl rfl ?_
  refine mm_i2l dX13_wind_6 rfl (by omega) ?_
  refine mm_ldc2 dX13_wind_7 rfl kc_X13_484 ?_
  refine mm_S3i dX13_wind_10 rfl lk_X13_5 (by simp) (by simp) (by simp) rfl rfl rfl (c_X13_in (by omega) (by first | decide | omega) (by omega)) ?_
  refine mm_ifeqb dX13_wind_13 (fun h13 => ?_) (fun h13 => ?_)
  · refine mm_bipush dX13_wind_58 rfl (by decide) ?_
    refine mm_iret dX13_wind_60 rfl rfl ?_
    refine mm_fin ?_ ?_
    · rw [if_neg (by unfold kw_ok; omega)]
    · rw [if_neg (by unfold kw_ok; omega)]
  · refine mm_iload_n dX13_wind_16 rfl rfl ?_
    refine mm_S1i dX13_wind_17 rfl lk_X13_486 (by simp) rfl rfl rfl (c_X13_isHour hh) ?_
    refine mm_ifeqb dX13_wind_20 (fun h20 => ?_) (fun h20 => ?_)
    · refine mm_bipush dX13_wind_58 rfl (by decide) ?_
      refine mm_iret dX13_wind_60 rfl rfl ?_
      refine mm_fin ?_ ?_
      · rw [if_neg (by unfold kw_ok; omega)]
      · rw [if_neg (by unfold kw_ok; omega)]
    · refine mm_iload_n dX13_wind_23 rfl rfl ?_
      refine mm_S1i dX13_wind_24 rfl lk_X13_489 (by simp) rfl rfl rfl (c_X13_isBand hb) ?_
      refine mm_ifeqb dX13_wind_27 (fun h27 => ?_) (fun h27 => ?_)
      · refine mm_bipush dX13_wind_58 rfl (by decide) ?_
        refine mm_iret dX13_wind_60 rfl rfl ?_
        refine mm_fin ?_ ?_
        · rw [if_neg (by unfold kw_ok; omega)]
        · rw [if_neg (by unfold kw_ok; omega)]
      · refine mm_iload dX13_wind_30 rfl rfl ?_
        refine mm_i2l dX13_wind_32 rfl (by omega) ?_
        refine mm_lconst0 dX13_wind_33 rfl ?_
        refine mm_ldc2 dX13_wind_34 rfl kc_X13_492 ?_
        refine mm_S3i dX13_wind_37 rfl lk_X13_5 (by simp) (by simp) (by simp) rfl rfl rfl (c_X13_in (by omega) (by first | decide | omega) (by omega)) ?_
        refine mm_ifeqb dX13_wind_40 (fun h40 => ?_) (fun h40 => ?_)
        · refine mm_bipush dX13_wind_58 rfl (by decide) ?_
          refine mm_iret dX13_wind_60 rfl rfl ?_
          refine mm_fin ?_ ?_
          · rw [if_neg (by unfold kw_ok; omega)]
          · rw [if_neg (by unfold kw_ok; omega)]
        · refine mm_iload dX13_wind_43 rfl rfl ?_
          refine mm_i2l dX13_wind_45 rfl (by omega) ?_
          refine mm_iload dX13_wind_46 rfl rfl ?_
          refine mm_i2l dX13_wind_48 rfl (by omega) ?_
          refine mm_ldc2 dX13_wind_49 rfl kc_X13_492 ?_
          refine mm_S3i dX13_wind_52 rfl lk_X13_5 (by simp) (by simp) (by simp) rfl rfl rfl (c_X13_in (by omega) (by first | decide | omega) (by omega)) ?_
          refine mm_ifneb dX13_wind_55 (fun h55 => ?_) (fun h55 => ?_)
          · refine mm_aload_n dX13_wind_61 rfl rfl ?_
            refine mm_get (kd := 0) dX13_wind_62 rfl fl_X13_494 (c := 183) rfl (by decide) rfl rfl ?_
            refine mm_sipush dX13_wind_65 rfl (by decide) ?_
            refine mm_icne dX13_wind_68 (by omega) (by omega) (fun h68 => ?_) (fun h68 => ?_)
            · refine mm_aload_n dX13_wind_74 rfl rfl ?_
              refine mm_iload_n dX13_wind_75 rfl rfl ?_
              refine mm_puti dX13_wind_76 rfl fl_X13_481 (c := 183) rfl (by decide) rfl rfl (fun M76 hM76 => ?_)
              have hR76 : mm_Rf M76 := by rw [hM76]; exact hR.up rfl
              refine mm_aload_n dX13_wind_79 rfl rfl ?_
              refine mm_getr dX13_wind_80 rfl fl_X13_240 (c := 183) rfl (by decide) rfl rfl (hR76.at (c := 183) (i := 29) (v := 199) rfl (by decide)) ?_
              refine mm_aload_n dX13_wind_83 rfl rfl ?_
              refine mm_get (kd := 0) dX13_wind_84 rfl fl_X13_494 (c := 183) rfl (by decide) rfl rfl ?_
              have e1 : M76 183 27 = M 183 27 := by simp [hM76, mm_up]
              rw [e1]
              refine mm_iload_n dX13_wind_87 rfl rfl ?_
              refine mm_isto dX13_wind_88 rfl (c := 198) rfl (by decide) rfl (by omega) (by omega) (fun M88 hM88 => ?_)
              have hR88 : mm_Rf M88 := by rw [hM88]; exact hR76.up (mm_rt_ar (t := 0) rfl (by decide))
              refine mm_aload_n dX13_wind_89 rfl rfl ?_
              refine mm_getr dX13_wind_90 rfl fl_X13_243 (c := 183) rfl (by decide) rfl rfl (hR88.at (c := 183) (i := 30) (v := 200) rfl (by decide)) ?_
              refine mm_aload_n dX13_wind_93 rfl rfl ?_
              refine mm_get (kd := 0) dX13_wind_94 rfl fl_X13_494 (c := 183) rfl (by decide) rfl rfl ?_
              have e2 : M88 183 27 = M 183 27 := by simp [hM88, e1, mm_up]
              rw [e2]
              refine mm_iload_n dX13_wind_97 rfl rfl ?_
              refine mm_isto dX13_wind_98 rfl (c := 199) rfl (by decide) rfl (by omega) (by omega) (fun M98 hM98 => ?_)
              have hR98 : mm_Rf M98 := by rw [hM98]; exact hR88.up (mm_rt_ar (t := 0) rfl (by decide))
              refine mm_aload_n dX13_wind_99 rfl rfl ?_
              refine mm_getr dX13_wind_100 rfl fl_X13_246 (c := 183) rfl (by decide) rfl rfl (hR98.at (c := 183) (i := 31) (v := 201) rfl (by decide)) ?_
              refine mm_aload_n dX13_wind_103 rfl rfl ?_
              refine mm_get (kd := 0) dX13_wind_104 rfl fl_X13_494 (c := 183) rfl (by decide) rfl rfl ?_
              have e3 : M98 183 27 = M 183 27 := by simp [hM98, e2, mm_up]
              rw [e3]
              refine mm_iload dX13_wind_107 rfl rfl ?_
              refine mm_isto dX13_wind_109 rfl (c := 200) rfl (by decide) rfl (by omega) (by omega) (fun M109 hM109 => ?_)
              have hR109 : mm_Rf M109 := by rw [hM109]; exact hR98.up (mm_rt_ar (t := 0) rfl (by decide))
              refine mm_aload_n dX13_wind_110 rfl rfl ?_
              refine mm_getr dX13_wind_111 rfl fl_X13_249 (c := 183) rfl (by decide) rfl rfl (hR109.at (c := 183) (i := 32) (v := 202) rfl (by decide)) ?_
              refine mm_aload_n dX13_wind_114 rfl rfl ?_
              refine mm_get (kd := 0) dX13_wind_115 rfl fl_X13_494 (c := 183) rfl (by decide) rfl rfl ?_
              have e4 : M109 183 27 = M 183 27 := by simp [hM109, e3, mm_up]
              rw [e4]
              refine mm_iload dX13_wind_118 rfl rfl ?_
              refine mm_isto dX13_wind_120 rfl (c := 201) rfl (by decide) rfl (by omega) (by omega) (fun M120 hM120 => ?_)
              have hR120 : mm_Rf M120 := by rw [hM120]; exact hR109.up (mm_rt_ar (t := 0) rfl (by decide))
              refine mm_aload_n dX13_wind_121 rfl rfl ?_
              refine mm_getr dX13_wind_122 rfl fl_X13_252 (c := 183) rfl (by decide) rfl rfl (hR120.at (c := 183) (i := 33) (v := 203) rfl (by decide)) ?_
              refine mm_aload_n dX13_wind_125 rfl rfl ?_
              refine mm_get (kd := 0) dX13_wind_126 rfl fl_X13_494 (c := 183) rfl (by decide) rfl rfl ?_
              have e5 : M120 183 27 = M 183 27 := by simp [hM120, e4, mm_up]
              rw [e5]
              refine mm_iload_n dX13_wind_129 rfl rfl ?_
              refine mm_isto dX13_wind_130 rfl (c := 202) rfl (by decide) rfl (by omega) (by omega) (fun M130 hM130 => ?_)
              have hR130 : mm_Rf M130 := by rw [hM130]; exact hR120.up (mm_rt_ar (t := 0) rfl (by decide))
              refine mm_aload_n dX13_wind_131 rfl rfl ?_
              refine mm_dup dX13_wind_132 rfl (by simp) ?_
              refine mm_get (kd := 0) dX13_wind_133 rfl fl_X13_494 (c := 183) rfl (by decide) rfl rfl ?_
              have e6 : M130 183 27 = M 183 27 := by simp [hM130, e5, mm_up]
              rw [e6]
              refine mm_iconst dX13_wind_136 rfl ?_
              refine mm_iadd dX13_wind_137 rfl ?_
              refine mm_puti dX13_wind_138 rfl fl_X13_494 (c := 183) rfl (by decide) rfl rfl (fun M138 hM138 => ?_)
              have hR138 : mm_Rf M138 := by rw [hM138]; exact hR130.up rfl
              refine mm_aload_n dX13_wind_141 rfl rfl ?_
              refine mm_getr dX13_wind_142 rfl fl_X13_255 (c := 183) rfl (by decide) rfl rfl (hR138.at (c := 183) (i := 34) (v := 204) rfl (by decide)) ?_
              refine mm_iconst dX13_wind_145 rfl ?_
              refine mm_iload_n dX13_wind_146 rfl rfl ?_
              refine mm_imul dX13_wind_147 rfl ?_
              refine mm_iload_n dX13_wind_148 rfl rfl ?_
              refine mm_iadd dX13_wind_149 rfl ?_
              refine mm_iload dX13_wind_150 rfl rfl ?_
              refine mm_isto dX13_wind_152 rfl (c := 203) rfl (by decide) rfl (by omega) (by omega) (fun M152 hM152 => ?_)
              have hR152 : mm_Rf M152 := by rw [hM152]; exact hR138.up (mm_rt_ar (t := 0) rfl (by decide))
              refine mm_aload_n dX13_wind_153 rfl rfl ?_
              refine mm_getr dX13_wind_154 rfl fl_X13_258 (c := 183) rfl (by decide) rfl rfl (hR152.at (c := 183) (i := 35) (v := 205) rfl (by decide)) ?_
              refine mm_iconst dX13_wind_157 rfl ?_
              refine mm_iload_n dX13_wind_158 rfl rfl ?_
              refine mm_imul dX13_wind_159 rfl ?_
              refine mm_iload_n dX13_wind_160 rfl rfl ?_
              refine mm_iadd dX13_wind_161 rfl ?_
              refine mm_iload dX13_wind_162 rfl rfl ?_
              refine mm_isto dX13_wind_164 rfl (c := 204) rfl (by decide) rfl (by omega) (by omega) (fun M164 hM164 => ?_)
              have hR164 : mm_Rf M164 := by rw [hM164]; exact hR152.up (mm_rt_ar (t := 0) rfl (by decide))
              refine mm_aload_n dX13_wind_165 rfl rfl ?_
              refine mm_get (kd := 0) dX13_wind_166 rfl fl_X13_494 (c := 183) rfl (by decide) rfl rfl ?_
              refine mm_iret dX13_wind_169 rfl rfl ?_
              refine mm_fin ?_ ?_
              · rw [if_pos (by unfold kw_ok; omega), if_neg (by omega)]
                simp [hM164, hM152, hM138, mm_up]
              · rw [if_pos (by unfold kw_ok; omega), hM164, hM152, hM138, hM130, hM120, hM109, hM98, hM88, hM76]
                rfl
            · refine mm_bipush dX13_wind_71 rfl (by decide) ?_
              refine mm_iret dX13_wind_73 rfl rfl ?_
              refine mm_fin ?_ ?_
              · rw [if_pos (by unfold kw_ok; omega), if_pos (by omega)]
              · rw [if_neg (by omega)]
          · refine mm_bipush dX13_wind_58 rfl (by decide) ?_
            refine mm_iret dX13_wind_60 rfl rfl ?_
            refine mm_fin ?_ ?_
            · rw [if_neg (by unfold kw_ok; omega)]
            · rw [if_neg (by unfold kw_ok; omega)]
theorem c_X13_law (hR : mm_Rf M) (hf : mm_R fr) (ht : mm_R to) (hx : mm_R x) (hc : 0 ≤ M 183 92 ∧ M 183 92 ≤ 10) :
    mm_Fn X Y_X13_law 243 [(2, 184), (0, fr), (0, to), (0, x)] M (0, if (0 ≤ fr ∧ fr ≤ to ∧ to ≤ 23) ∧ 0 ≤ x ∧ x ≤ 9999 then (if M 183 92 < 10 then M 183 92 + 1 else -3) else -2)
      (if ((0 ≤ fr ∧ fr ≤ to ∧ to ≤ 23) ∧ 0 ≤ x ∧ x ≤ 9999) ∧ M 183 92 < 10 then mm_up (mm_up (mm_up (mm_up M 230 (M 183 92).toNat fr) 231 (M 183 92).toNat to) 232 (M 183 92).toNat x) 183 92 (M 183 92 + 1) else M) := by
  refine mm_startF (ls := [(2, 184), (0, fr), (0, to), (0, x)]) rfl ?_
  refine mm_iload_n dX13_law_0 rfl rfl ?_
  refine mm_S1i dX13_law_1 rfl lk_X13_486 (by simp) rfl rfl rfl (c_X13_isHour hf) ?_
  refine mm_ifeqb dX13_law_4 (fun h4 => ?_) (fun h4 => ?_)
  · refine mm_bipush dX13_law_32 rfl (by decide) ?_
    refine mm_iret dX13_law_34 rfl rfl ?_
    refine mm_fin ?_ ?_
    · rw [if_neg (by omega)]
    · rw [if_neg (by omega)]
  · refine mm_iload_n dX13_law_7 rfl rfl ?_
    refine mm_i2l dX13_law_8 rfl (by omega) ?_
    refine mm_iload_n dX13_law_9 rfl rfl ?_
    refine mm_i2l dX13_law_10 rfl (by omega) ?_
    refine mm_ldc2 dX13_law_11 rfl kc_X13_3 ?_
    refine mm_S3i dX13_law_14 rfl lk_X13_5 (by simp) (by simp) (by simp) rfl rfl rfl (c_X13_in (by omega) (by first | decide | omega) (by omega)) ?_
    refine mm_ifeqb dX13_law_17 (fun h17 => ?_) (fun h17 => ?_)
    · refine mm_bipush dX13_law_32 rfl (by decide) ?_
      refine mm_iret dX13_law_34 rfl rfl ?_
      refine mm_fin ?_ ?_
      · rw [if_neg (by omega)]
      · rw [if_neg (by omega)]
    · refine mm_iload_n dX13_law_20 rfl rfl ?_
      refine mm_i2l dX13_law_21 rfl (by omega) ?_
      refine mm_lconst0 dX13_law_22 rfl ?_
      refine mm_ldc2 dX13_law_23 rfl kc_X13_702 ?_
      refine mm_S3i dX13_law_26 rfl lk_X13_5 (by simp) (by simp) (by simp) rfl rfl rfl (c_X13_in (by omega) (by first | decide | omega) (by omega)) ?_
      refine mm_ifneb dX13_law_29 (fun h29 => ?_) (fun h29 => ?_)
      · refine mm_aload_n dX13_law_35 rfl rfl ?_
        refine mm_get (kd := 0) dX13_law_36 rfl fl_X13_704 (c := 183) rfl (by decide) rfl rfl ?_
        refine mm_bipush dX13_law_39 rfl (by decide) ?_
        refine mm_icne dX13_law_41 (by omega) (by omega) (fun h41 => ?_) (fun h41 => ?_)
        · refine mm_aload_n dX13_law_47 rfl rfl ?_
          refine mm_getr dX13_law_48 rfl fl_X13_340 (c := 183) rfl (by decide) rfl rfl (hR.at (c := 183) (i := 93) (v := 231) rfl (by decide)) ?_
          refine mm_aload_n dX13_law_51 rfl rfl ?_
          refine mm_get (kd := 0) dX13_law_52 rfl fl_X13_704 (c := 183) rfl (by decide) rfl rfl ?_
          refine mm_iload_n dX13_law_55 rfl rfl ?_
          refine mm_isto dX13_law_56 rfl (c := 230) rfl (by decide) rfl (by omega) (by omega) (fun M56 hM56 => ?_)
          have hR56 : mm_Rf M56 := by rw [hM56]; exact hR.up (mm_rt_ar (t := 0) rfl (by decide))
          refine mm_aload_n dX13_law_57 rfl rfl ?_
          refine mm_getr dX13_law_58 rfl fl_X13_343 (c := 183) rfl (by decide) rfl rfl (hR56.at (c := 183) (i := 94) (v := 232) rfl (by decide)) ?_
          refine mm_aload_n dX13_law_61 rfl rfl ?_
          refine mm_get (kd := 0) dX13_law_62 rfl fl_X13_704 (c := 183) rfl (by decide) rfl rfl ?_
          have e1 : M56 183 92 = M 183 92 := by simp [hM56, mm_up]
          rw [e1]
          refine mm_iload_n dX13_law_65 rfl rfl ?_
          refine mm_isto dX13_law_66 rfl (c := 231) rfl (by decide) rfl (by omega) (by omega) (fun M66 hM66 => ?_)
          have hR66 : mm_Rf M66 := by rw [hM66]; exact hR56.up (mm_rt_ar (t := 0) rfl (by decide))
          refine mm_aload_n dX13_law_67 rfl rfl ?_
          refine mm_getr dX13_law_68 rfl fl_X13_346 (c := 183) rfl (by decide) rfl rfl (hR66.at (c := 183) (i := 95) (v := 233) rfl (by decide)) ?_
          refine mm_aload_n dX13_law_71 rfl rfl ?_
          refine mm_get (kd := 0) dX13_law_72 rfl fl_X13_704 (c := 183) rfl (by decide) rfl rfl ?_
          have e2 : M66 183 92 = M 183 92 := by simp [hM66, e1, mm_up]
          rw [e2]
          refine mm_iload_n dX13_law_75 rfl rfl ?_
          refine mm_isto dX13_law_76 rfl (c := 232) rfl (by decide) rfl (by omega) (by omega) (fun M76 hM76 => ?_)
          have hR76 : mm_Rf M76 := by rw [hM76]; exact hR66.up (mm_rt_ar (t := 0) rfl (by decide))
          refine mm_aload_n dX13_law_77 rfl rfl ?_
          refine mm_dup dX13_law_78 rfl (by simp) ?_
          refine mm_get (kd := 0) dX13_law_79 rfl fl_X13_704 (c := 183) rfl (by decide) rfl rfl ?_
          have e3 : M76 183 92 = M 183 92 := by simp [hM76, e2, mm_up]
          rw [e3]
          refine mm_iconst dX13_law_82 rfl ?_
          refine mm_iadd dX13_law_83 rfl ?_
          refine mm_puti dX13_law_84 rfl fl_X13_704 (c := 183) rfl (by decide) rfl rfl (fun M84 hM84 => ?_)
          have hR84 : mm_Rf M84 := by rw [hM84]; exact hR76.up rfl
          refine mm_aload_n dX13_law_87 rfl rfl ?_
          refine mm_get (kd := 0) dX13_law_88 rfl fl_X13_704 (c := 183) rfl (by decide) rfl rfl ?_
          refine mm_iret dX13_law_91 rfl rfl ?_
          refine mm_fin ?_ ?_
          · rw [if_pos (by omega), if_pos (by omega), hM84, mm_up_s]
          · rw [if_pos (by omega), hM84, hM76, hM66, hM56]
        · refine mm_bipush dX13_law_44 rfl (by decide) ?_
          refine mm_iret dX13_law_46 rfl rfl ?_
          refine mm_fin ?_ ?_
          · rw [if_pos (by omega), if_neg (by omega)]
          · rw [if_neg (by omega)]
      · refine mm_bipush dX13_law_32 rfl (by decide) ?_
        refine mm_iret dX13_law_34 rfl rfl ?_
        refine mm_fin ?_ ?_
        · rw [if_neg (by omega)]
        · rw [if_neg (by omega)]
theorem c_X13_looped (hR : mm_Rf M) (hx : mm_R x) (hz : M 183 54 = 0 ∨ M 183 54 = 1) (hn : 0 ≤ M 183 50 ∧ M 183 50 ≤ 288) : mm_Fn X Y_X13_looped 243 [(2, 184), (0, x)] M (0, if M 183 54 = 0 then -100000000 else if x = 0 then M 183 51 else if x = 1 then M 183 52 else if 10 ≤ x ∧ x - 10 < M 183 50 then M 214 (x - 10).toNat else -100000000) M := by
  refine mm_startF (ls := [(2, 184), (0, x)]) rfl ?_
  refine mm_aload_n dX13_looped_0 rfl rfl ?_
  refine mm_get (kd := 0) dX13_looped_1 rfl fl_X13_598 (c := 183) rfl (by decide) rfl rfl ?_
  refine mm_ifne dX13_looped_4 (by omega) (fun h4 => ?_) (fun h4 => ?_)
  · refine mm_iload_n dX13_looped_13 rfl rfl ?_
    refine mm_ifne dX13_looped_14 (by omega) (fun h14 => ?_) (fun h14 => ?_)
    · refine mm_iload_n dX13_looped_24 rfl rfl ?_
      refine mm_iconst dX13_looped_25 rfl ?_
      refine mm_icne dX13_looped_26 (by omega) (by omega) (fun h26 => ?_) (fun h26 => ?_)
      · refine mm_iload_n dX13_looped_36 rfl rfl ?_
        refine mm_i2l dX13_looped_37 rfl (by omega) ?_
        refine mm_ldc2 dX13_looped_38 rfl kc_X13_601 ?_
        refine mm_ldc2 dX13_looped_41 rfl kc_X13_419 ?_
        refine mm_aload_n dX13_looped_44 rfl rfl ?_
        refine mm_get (kd := 0) dX13_looped_45 rfl fl_X13_589 (c := 183) rfl (by decide) rfl rfl ?_
        refine mm_i2l dX13_looped_48 rfl (by omega) ?_
        refine mm_ladd dX13_looped_49 rfl ?_
        refine mm_S3i dX13_looped_50 rfl lk_X13_5 (by simp) (by simp) (by simp) rfl rfl rfl (c_X13_in (by omega) (by omega) (by omega)) ?_
        refine mm_ifeqb dX13_looped_53 (fun h53 => ?_) (fun h53 => ?_)
        · refine mm_ldcw dX13_looped_68 rfl kc_X13_517 ?_
          refine mm_iret dX13_looped_71 rfl rfl ?_
          refine mm_fin ?_ rfl
          first
          | (rw [if_pos (by omega)]; done)
          | (rw [if_neg (by omega), if_pos (by omega)]; done)
          | (rw [if_neg (by omega), if_neg (by omega), if_pos (by omega)]; done)
          | (rw [if_neg (by omega), if_neg (by omega), if_neg (by omega), if_pos (by omega)]; done)
          | (rw [if_neg (by omega), if_neg (by omega), if_neg (by omega), if_neg (by omega)]; done)
        · refine mm_aload_n dX13_looped_56 rfl rfl ?_
          refine mm_getr dX13_looped_57 rfl fl_X13_289 (c := 183) rfl (by decide) rfl rfl (hR.at (c := 183) (i := 53) (v := 215) rfl (by decide)) ?_
          refine mm_iload_n dX13_looped_60 rfl rfl ?_
          refine mm_bipush dX13_looped_61 rfl (by decide) ?_
          refine mm_isub dX13_looped_63 rfl ?_
          refine mm_iald dX13_looped_64 rfl (c := 214) rfl (by decide) rfl (by omega) (by omega) ?_
          refine mm_goto dX13_looped_65 ?_
          refine mm_iret dX13_looped_71 rfl rfl ?_
          refine mm_fin ?_ rfl
          first
          | (rw [if_pos (by omega)]; done)
          | (rw [if_neg (by omega), if_pos (by omega)]; done)
          | (rw [if_neg (by omega), if_neg (by omega), if_pos (by omega)]; done)
          | (rw [if_neg (by omega), if_neg (by omega), if_neg (by omega), if_pos (by omega)]; done)
          | (rw [if_neg (by omega), if_neg (by omega), if_neg (by omega), if_neg (by omega)]; done)
      · refine mm_aload_n dX13_looped_29 rfl rfl ?_
        refine mm_get (kd := 0) dX13_looped_30 rfl fl_X13_595 (c := 183) rfl (by decide) rfl rfl ?_
        refine mm_goto dX13_looped_33 ?_
        refine mm_iret dX13_looped_71 rfl rfl ?_
        refine mm_fin ?_ rfl
        first
        | (rw [if_pos (by omega)]; done)
        | (rw [if_neg (by omega), if_pos (by omega)]; done)
        | (rw [if_neg (by omega), if_neg (by omega), if_pos (by omega)]; done)
        | (rw [if_neg (by omega), if_neg (by omega), if_neg (by omega), if_pos (by omega)]; done)
        | (rw [if_neg (by omega), if_neg (by omega), if_neg (by omega), if_neg (by omega)]; done)
    · refine mm_aload_n dX13_looped_17 rfl rfl ?_
      refine mm_get (kd := 0) dX13_looped_18 rfl fl_X13_592 (c := 183) rfl (by decide) rfl rfl ?_
      refine mm_goto dX13_looped_21 ?_
      refine mm_iret dX13_looped_71 rfl rfl ?_
      refine mm_fin ?_ rfl
      first
      | (rw [if_pos (by omega)]; done)
      | (rw [if_neg (by omega), if_pos (by omega)]; done)
      | (rw [if_neg (by omega), if_neg (by omega), if_pos (by omega)]; done)
      | (rw [if_neg (by omega), if_neg (by omega), if_neg (by omega), if_pos (by omega)]; done)
      | (rw [if_neg (by omega), if_neg (by omega), if_neg (by omega), if_neg (by omega)]; done)
  · refine mm_ldcw dX13_looped_7 rfl kc_X13_517 ?_
    refine mm_goto dX13_looped_10 ?_
    refine mm_iret dX13_looped_71 rfl rfl ?_
    refine mm_fin ?_ rfl
    first
    | (rw [if_pos (by omega)]; done)
    | (rw [if_neg (by omega), if_pos (by omega)]; done)
    | (rw [if_neg (by omega), if_neg (by omega), if_pos (by omega)]; done)
    | (rw [if_neg (by omega), if_neg (by omega), if_neg (by omega), if_pos (by omega)]; done)
    | (rw [if_neg (by omega), if_neg (by omega), if_neg (by omega), if_neg (by omega)]; done)
theorem c_X13_judged (hR : mm_Rf M) (hx : mm_R x) (hl : M 183 61 = 0 ∨ M 183 61 = 1) (hz : M 183 68 = 0 ∨ M 183 68 = 1) : mm_Fn X Y_X13_judged 243 [(2, 184), (0, x)] M (0, kv_judged (M 183 61) (M 183 55) (M 183 56) (M 183 57) (M 183 58) (M 183 68) x) M := by
  refine mm_startF (ls := [(2, 184), (0, x)]) rfl ?_
  unfold kv_judged
  refine mm_aload_n dX13_judged_0 rfl rfl ?_
  refine mm_get (kd := 0) dX13_judged_1 rfl fl_X13_621 (c := 183) rfl (by decide) rfl rfl ?_
  refine mm_ifne dX13_judged_4 (by omega) (fun h4 => ?_) (fun h4 => ?_)
  · refine mm_iload_n dX13_judged_9 rfl rfl ?_
    have hsw : (x < 0 ∨ 4 < x) ∨ x = 0 ∨ x = 1 ∨ x = 2 ∨ x = 3 ∨ x = 4 := by omega
    rcases hsw with h10 | h10 | h10 | h10 | h10 | h10
    · refine mm_tsd (t := 77) dX13_judged_10.1 (by omega) h10 (by decide) ?_
      refine mm_iconst dX13_judged_77 rfl ?_
      refine mm_iret dX13_judged_78 rfl rfl ?_
      refine mm_fin ?_ rfl
      first
      | (rw [if_pos (by omega)]; done)
      | (rw [if_neg h4]; subst h10; first | rfl | (rw [if_pos h68]; rfl) | (rw [if_neg h68]; rfl) | (simp [h68]; done))
      | (rw [if_neg (by omega), if_neg (by omega), if_neg (by omega), if_neg (by omega), if_neg (by omega), if_neg (by omega)]; done)
    · refine mm_tsw (t := 44) (k := 0) dX13_judged_10.1 (by omega) (by omega) (by omega) (by omega) rfl (by decide) ?_
      refine mm_aload_n dX13_judged_44 rfl rfl ?_
      refine mm_get (kd := 0) dX13_judged_45 rfl fl_X13_615 (c := 183) rfl (by decide) rfl rfl ?_
      refine mm_iret dX13_judged_48 rfl rfl ?_
      refine mm_fin ?_ rfl
      first
      | (rw [if_pos (by omega)]; done)
      | (rw [if_neg h4]; subst h10; first | rfl | (rw [if_pos h68]; rfl) | (rw [if_neg h68]; rfl) | (simp [h68]; done))
      | (rw [if_neg (by omega), if_neg (by omega), if_neg (by omega), if_neg (by omega), if_neg (by omega), if_neg (by omega)]; done)
    · refine mm_tsw (t := 49) (k := 1) dX13_judged_10.1 (by omega) (by omega) (by omega) (by omega) rfl (by decide) ?_
      refine mm_aload_n dX13_judged_49 rfl rfl ?_
      refine mm_get (kd := 0) dX13_judged_50 rfl fl_X13_603 (c := 183) rfl (by decide) rfl rfl ?_
      refine mm_iret dX13_judged_53 rfl rfl ?_
      refine mm_fin ?_ rfl
      first
      | (rw [if_pos (by omega)]; done)
      | (rw [if_neg h4]; subst h10; first | rfl | (rw [if_pos h68]; rfl) | (rw [if_neg h68]; rfl) | (simp [h68]; done))
      | (rw [if_neg (by omega), if_neg (by omega), if_neg (by omega), if_neg (by omega), if_neg (by omega), if_neg (by omega)]; done)
    · refine mm_tsw (t := 54) (k := 2) dX13_judged_10.1 (by omega) (by omega) (by omega) (by omega) rfl (by decide) ?_
      refine mm_aload_n dX13_judged_54 rfl rfl ?_
      refine mm_get (kd := 0) dX13_judged_55 rfl fl_X13_606 (c := 183) rfl (by decide) rfl rfl ?_
      refine mm_iret dX13_judged_58 rfl rfl ?_
      refine mm_fin ?_ rfl
      first
      | (rw [if_pos (by omega)]; done)
      | (rw [if_neg h4]; subst h10; first | rfl | (rw [if_pos h68]; rfl) | (rw [if_neg h68]; rfl) | (simp [h68]; done))
      | (rw [if_neg (by omega), if_neg (by omega), if_neg (by omega), if_neg (by omega), if_neg (by omega), if_neg (by omega)]; done)
    · refine mm_tsw (t := 59) (k := 3) dX13_judged_10.1 (by omega) (by omega) (by omega) (by omega) rfl (by decide) ?_
      refine mm_aload_n dX13_judged_59 rfl rfl ?_
      refine mm_get (kd := 0) dX13_judged_60 rfl fl_X13_609 (c := 183) rfl (by decide) rfl rfl ?_
      refine mm_iret dX13_judged_63 rfl rfl ?_
      refine mm_fin ?_ rfl
      first
      | (rw [if_pos (by omega)]; done)
      | (rw [if_neg h4]; subst h10; first | rfl | (rw [if_pos h68]; rfl) | (rw [if_neg h68]; rfl) | (simp [h68]; done))
      | (rw [if_neg (by omega), if_neg (by omega), if_neg (by omega), if_neg (by omega), if_neg (by omega), if_neg (by omega)]; done)
    · refine mm_tsw (t := 64) (k := 4) dX13_judged_10.1 (by omega) (by omega) (by omega) (by omega) rfl (by decide) ?_
      refine mm_aload_n dX13_judged_64 rfl rfl ?_
      refine mm_get (kd := 0) dX13_judged_65 rfl fl_X13_624 (c := 183) rfl (by decide) rfl rfl ?_
      refine mm_ifeq dX13_judged_68 (by omega) (fun h68 => ?_) (fun h68 => ?_)
      · refine mm_iconst dX13_judged_75 rfl ?_
        refine mm_iret dX13_judged_76 rfl rfl ?_
        refine mm_fin ?_ rfl
        first
        | (rw [if_pos (by omega)]; done)
        | (rw [if_neg h4]; subst h10; first | rfl | (rw [if_pos h68]; rfl) | (rw [if_neg h68]; rfl) | (simp [h68]; done))
        | (rw [if_neg (by omega), if_neg (by omega), if_neg (by omega), if_neg (by omega), if_neg (by omega), if_neg (by omega)]; done)
      · refine mm_iconst dX13_judged_71 rfl ?_
        refine mm_goto dX13_judged_72 ?_
        refine mm_iret dX13_judged_76 rfl rfl ?_
        refine mm_fin ?_ rfl
        first
        | (rw [if_pos (by omega)]; done)
        | (rw [if_neg h4]; subst h10; first | rfl | (rw [if_pos h68]; rfl) | (rw [if_neg h68]; rfl) | (simp [h68]; done))
        | (rw [if_neg (by omega), if_neg (by omega), if_neg (by omega), if_neg (by omega), if_neg (by omega), if_neg (by omega)]; done)
  · refine mm_iconst dX13_judged_7 rfl ?_
    refine mm_iret dX13_judged_8 rfl rfl ?_
    refine mm_fin ?_ rfl
    first
    | (rw [if_pos (by omega)]; done)
    | (rw [if_neg h4]; subst h10; first | rfl | (rw [if_pos h68]; rfl) | (rw [if_neg h68]; rfl) | (simp [h68]; done))
    | (rw [if_neg (by omega), if_neg (by omega), if_neg (by omega), if_neg (by omega), if_neg (by omega), if_neg (by omega)]; done)
theorem c_X13_flown (hR : mm_Rf M) (hx : mm_R x) (hz : M 183 75 = 0 ∨ M 183 75 = 1) (hn : 0 ≤ M 183 72 ∧ M 183 72 ≤ 500) : mm_Fn X Y_X13_flown 243 [(2, 184), (0, x)] M (0, kv_flown (M 183 75) (M 183 69) (M 183 70) (M 183 71) (M 183 72) (M 220) x) M := by
  refine mm_startF (ls := [(2, 184), (0, x)]) rfl ?_
  unfold kv_flown
  refine mm_aload_n dX13_flown_0 rfl rfl ?_
  refine mm_get (kd := 0) dX13_flown_1 rfl fl_X13_665 (c := 183) rfl (by decide) rfl rfl ?_
  refine mm_ifne dX13_flown_4 (by omega) (fun h4 => ?_) (fun h4 => ?_)
  · refine mm_iload_n dX13_flown_13 rfl rfl ?_
    refine mm_ifne dX13_flown_14 (by omega) (fun h14 => ?_) (fun h14 => ?_)
    · refine mm_iload_n dX13_flown_24 rfl rfl ?_
      refine mm_iconst dX13_flown_25 rfl ?_
      refine mm_icne dX13_flown_26 (by omega) (by omega) (fun h26 => ?_) (fun h26 => ?_)
      · refine mm_iload_n dX13_flown_36 rfl rfl ?_
        refine mm_iconst dX13_flown_37 rfl ?_
        refine mm_icne dX13_flown_38 (by omega) (by omega) (fun h38 => ?_) (fun h38 => ?_)
        · refine mm_iload_n dX13_flown_48 rfl rfl ?_
          refine mm_i2l dX13_flown_49 rfl (by omega) ?_
          refine mm_ldc2 dX13_flown_50 rfl kc_X13_601 ?_
          refine mm_ldc2 dX13_flown_53 rfl kc_X13_419 ?_
          refine mm_aload_n dX13_flown_56 rfl rfl ?_
          refine mm_get (kd := 0) dX13_flown_57 rfl fl_X13_653 (c := 183) rfl (by decide) rfl rfl ?_
          refine mm_i2l dX13_flown_60 rfl (by omega) ?_
          refine mm_ladd dX13_flown_61 rfl ?_
          refine mm_S3i dX13_flown_62 rfl lk_X13_5 (by simp) (by simp) (by simp) rfl rfl rfl (c_X13_in (by omega) (by omega) (by omega)) ?_
          refine mm_ifeqb dX13_flown_65 (fun h65 => ?_) (fun h65 => ?_)
          · refine mm_ldcw dX13_flown_80 rfl kc_X13_517 ?_
            refine mm_iret dX13_flown_83 rfl rfl ?_
            refine mm_fin ?_ rfl
            first
            | (rw [if_pos (by omega)]; done)
            | (rw [if_neg (by omega), if_pos (by omega)]; done)
            | (rw [if_neg (by omega), if_neg (by omega), if_pos (by omega)]; done)
            | (rw [if_neg (by omega), if_neg (by omega), if_neg (by omega), if_pos (by omega)]; done)
            | (rw [if_neg (by omega), if_neg (by omega), if_neg (by omega), if_neg (by omega), if_pos (by omega)]; done)
            | (rw [if_neg (by omega), if_neg (by omega), if_neg (by omega), if_neg (by omega), if_neg (by omega)]; done)
          · refine mm_aload_n dX13_flown_68 rfl rfl ?_
            refine mm_getr dX13_flown_69 rfl fl_X13_307 (c := 183) rfl (by decide) rfl rfl (hR.at (c := 183) (i := 73) (v := 221) rfl (by decide)) ?_
            refine mm_iload_n dX13_flown_72 rfl rfl ?_
            refine mm_bipush dX13_flown_73 rfl (by decide) ?_
            refine mm_isub dX13_flown_75 rfl ?_
            refine mm_iald dX13_flown_76 rfl (c := 220) rfl (by decide) rfl (by omega) (by omega) ?_
            refine mm_goto dX13_flown_77 ?_
            refine mm_iret dX13_flown_83 rfl rfl ?_
            refine mm_fin ?_ rfl
            first
            | (rw [if_pos (by omega)]; done)
            | (rw [if_neg (by omega), if_pos (by omega)]; done)
            | (rw [if_neg (by omega), if_neg (by omega), if_pos (by omega)]; done)
            | (rw [if_neg (by omega), if_neg (by omega), if_neg (by omega), if_pos (by omega)]; done)
            | (rw [if_neg (by omega), if_neg (by omega), if_neg (by omega), if_neg (by omega), if_pos (by omega)]; done)
            | (rw [if_neg (by omega), if_neg (by omega), if_neg (by omega), if_neg (by omega), if_neg (by omega)]; done)
        · refine mm_aload_n dX13_flown_41 rfl rfl ?_
          refine mm_get (kd := 0) dX13_flown_42 rfl fl_X13_662 (c := 183) rfl (by decide) rfl rfl ?_
          refine mm_goto dX13_flown_45 ?_
          refine mm_iret dX13_flown_83 rfl rfl ?_
          refine mm_fin ?_ rfl
          first
          | (rw [if_pos (by omega)]; done)
          | (rw [if_neg (by omega), if_pos (by omega)]; done)
          | (rw [if_neg (by omega), if_neg (by omega), if_pos (by omega)]; done)
          | (rw [if_neg (by omega), if_neg (by omega), if_neg (by omega), if_pos (by omega)]; done)
          | (rw [if_neg (by omega), if_neg (by omega), if_neg (by omega), if_neg (by omega), if_pos (by omega)]; done)
          | (rw [if_neg (by omega), if_neg (by omega), if_neg (by omega), if_neg (by omega), if_neg (by omega)]; done)
      · refine mm_aload_n dX13_flown_29 rfl rfl ?_
        refine mm_get (kd := 0) dX13_flown_30 rfl fl_X13_659 (c := 183) rfl (by decide) rfl rfl ?_
        refine mm_goto dX13_flown_33 ?_
        refine mm_iret dX13_flown_83 rfl rfl ?_
        refine mm_fin ?_ rfl
        first
        | (rw [if_pos (by omega)]; done)
        | (rw [if_neg (by omega), if_pos (by omega)]; done)
        | (rw [if_neg (by omega), if_neg (by omega), if_pos (by omega)]; done)
        | (rw [if_neg (by omega), if_neg (by omega), if_neg (by omega), if_pos (by omega)]; done)
        | (rw [if_neg (by omega), if_neg (by omega), if_neg (by omega), if_neg (by omega), if_pos (by omega)]; done)
        | (rw [if_neg (by omega), if_neg (by omega), if_neg (by omega), if_neg (by omega), if_neg (by omega)]; done)
    · refine mm_aload_n dX13_flown_17 rfl rfl ?_
      refine mm_get (kd := 0) dX13_flown_18 rfl fl_X13_656 (c := 183) rfl (by decide) rfl rfl ?_
      refine mm_goto dX13_flown_21 ?_
      refine mm_iret dX13_flown_83 rfl rfl ?_
      refine mm_fin ?_ rfl
      first
      | (rw [if_pos (by omega)]; done)
      | (rw [if_neg (by omega), if_pos (by omega)]; done)
      | (rw [if_neg (by omega), if_neg (by omega), if_pos (by omega)]; done)
      | (rw [if_neg (by omega), if_neg (by omega), if_neg (by omega), if_pos (by omega)]; done)
      | (rw [if_neg (by omega), if_neg (by omega), if_neg (by omega), if_neg (by omega), if_pos (by omega)]; done)
      | (rw [if_neg (by omega), if_neg (by omega), if_neg (by omega), if_neg (by omega), if_neg (by omega)]; done)
  · refine mm_ldcw dX13_flown_7 rfl kc_X13_517 ?_
    refine mm_goto dX13_flown_10 ?_
    refine mm_iret dX13_flown_83 rfl rfl ?_
    refine mm_fin ?_ rfl
    first
    | (rw [if_pos (by omega)]; done)
    | (rw [if_neg (by omega), if_pos (by omega)]; done)
    | (rw [if_neg (by omega), if_neg (by omega), if_pos (by omega)]; done)
    | (rw [if_neg (by omega), if_neg (by omega), if_neg (by omega), if_pos (by omega)]; done)
    | (rw [if_neg (by omega), if_neg (by omega), if_neg (by omega), if_neg (by omega), if_pos (by omega)]; done)
    | (rw [if_neg (by omega), if_neg (by omega), if_neg (by omega), if_neg (by omega), if_neg (by omega)]; done)
end
end
/-! 56.tape -/
section
/-! ===== the tape: feed ===== -/
/-- the byte of v that lies k bits up -/
def kb (v k : Int) : Int := (mm_i ((mm_i v >>> (mm_i k &&& 31)).toInt)).toInt8.toInt
theorem kb_b (v k : Int) : -128 ≤ kb v k ∧ kb v k ≤ 127 := by
  unfold kb
  have h1 := Int8.le_toInt (mm_i ((mm_i v >>> (mm_i k &&& 31)).toInt)).toInt8
  have h2 := Int8.toInt_lt (mm_i ((mm_i v >>> (mm_i k &&& 31)).toInt)).toInt8
  omega
/-- j bytes of v behind a tape of bytes bc with its length at lc li -/
def kb_add (bc lc li : Nat) (M : mm_M) (v : Int) (j : Nat) : mm_M := fun a b =>
  if a = lc ∧ b = li then M lc li + j else if a = bc ∧ (M lc li).toNat ≤ b ∧ b < (M lc li).toNat + j then kb v (24 - 8 * ((b : Int) - M lc li)) else M a b
theorem kb_add_0 {bc lc li : Nat} {M : mm_M} {v : Int} : kb_add bc lc li M v 0 = M := by
  funext a b
  unfold kb_add
  by_cases h : a = lc ∧ b = li
  · rw [if_pos h, h.1, h.2]; omega
  · rw [if_neg h, if_neg (by omega)]
theorem kb_add_l {bc lc li : Nat} {M : mm_M} {v : Int} {j : Nat} : kb_add bc lc li M v j lc li = M lc li + j := by unfold kb_add; rw [if_pos ⟨rfl, rfl⟩]
theorem kb_add_s {bc lc li : Nat} {M : mm_M} {v : Int} {j : Nat} (hne : bc ≠ lc) (h0 : 0 ≤ M lc li) : mm_up (mm_up (kb_add bc lc li M v j) bc (M lc li + j).toNat (kb v (24 - 8 * (j : Int)))) lc li (M lc li + j + 1) = kb_add bc lc li M v (j + 1) := by
  funext a b
  unfold mm_up kb_add
  by_cases h : a = lc ∧ b = li
  · rw [if_pos h, if_pos h]; omega
  · simp only [if_neg h]
    by_cases h2 : a = bc ∧ b = (M lc li + j).toNat
    · rw [if_pos h2, if_pos (by omega)]
      congr 1
      omega
    · rw [if_neg h2]
      by_cases h3 : a = bc ∧ (M lc li).toNat ≤ b ∧ b < (M lc li).toNat + j
      · rw [if_pos h3, if_pos (by omega)]
      · rw [if_neg h3, if_neg (by omega)]
theorem mm_Rf.kb {M : mm_M} (h : mm_Rf M) {bc lc li j len : Nat} {v : Int} (hb : mm_sh bc = (2, len)) (hl : mm_rt lc li = 0) : mm_Rf (kb_add bc lc li M v j) := by
  intro a b hab
  unfold kb_add
  rw [if_neg (fun q => hab (by rw [q.1, q.2]; exact hl)), if_neg (fun q => hab (by rw [q.1]; exact mm_rt_ar (t := 1) hb (by decide)))]
  exact h a b hab
section
variable {X : mm_X} {M : mm_M} {a b c d e v x : Int}
theorem c_X10_hasRoom (hR : mm_Rf M) (hl : 0 ≤ M 1 1 ∧ M 1 1 ≤ 800) (hx : 0 ≤ x ∧ x ≤ 1000) : mm_Fn X Y_X10_hasRoom 243 [(2, 2), (0, x)] M (0, mm_b (M 1 1 + x ≤ 800)) M := by
  refine mm_startF (ls := [(2, 2), (0, x)]) rfl ?_
  refine mm_aload_n dX10_hasRoom_0 rfl rfl ?_
  refine mm_get (kd := 0) dX10_hasRoom_1 rfl fl_X10_19 (c := 1) rfl (by decide) rfl rfl ?_
  refine mm_iload_n dX10_hasRoom_4 rfl rfl ?_
  refine mm_iadd dX10_hasRoom_5 rfl ?_
  refine mm_sipush dX10_hasRoom_6 rfl (by decide) ?_
  refine mm_icgt dX10_hasRoom_9 (by omega) (by omega) (fun h9 => ?_) (fun h9 => ?_)
  · refine mm_iconst dX10_hasRoom_16 rfl ?_
    refine mm_zret dX10_hasRoom_17 rfl rfl (Or.inl rfl) ?_
    refine mm_fin ?_ rfl
    unfold mm_b
    split <;> omega
  · refine mm_iconst dX10_hasRoom_12 rfl ?_
    refine mm_goto dX10_hasRoom_13 ?_
    refine mm_zret dX10_hasRoom_17 rfl rfl (Or.inr rfl) ?_
    refine mm_fin ?_ rfl
    unfold mm_b
    split <;> omega
theorem c_X10_addInt (hR : mm_Rf M) (hl : 0 ≤ M 1 1 ∧ M 1 1 + 4 ≤ 800) : mm_Fn X Y_X10_addInt 243 [(2, 2), (0, v)] M (3, 0) (kb_add 2 1 1 M v 4) := by
  refine mm_startF (ls := [(2, 2), (0, v), (9, 0)]) rfl ?_
  have loop : ∀ (k j : Nat), j + k = 4 → mm_J X Y_X10_addInt 243 243 243 3 [(2, 2), (0, v), (0, 24 - 8 * (j : Int))] [] (kb_add 2 1 1 M v j) (fun r' M'' => r' = (3, 0) ∧ M'' = kb_add 2 1 1 M v 4) := by
    intro k
    induction k with
    | zero =>
      intro j hj
      have ej : j = 4 := by omega
      subst ej
      refine mm_iload_n dX10_addInt_3 rfl rfl ?_
      refine mm_iflt dX10_addInt_4 (by omega) (fun h4 => ?_) (fun h4 => ?_)
      · refine mm_vret dX10_addInt_46 rfl rfl ?_
        exact mm_fin rfl rfl
      · exfalso; omega
    | succ k ih =>
      intro j hj
      obtain ⟨N, hN⟩ : ∃ N, N = kb_add 2 1 1 M v j := ⟨_, rfl⟩
      have hRN : mm_Rf N := by rw [hN]; exact hR.kb (bc := 2) rfl rfl
      have el : N 1 1 = M 1 1 + j := by rw [hN]; exact kb_add_l
      rw [← hN]
      refine mm_iload_n dX10_addInt_3 rfl rfl ?_
      refine mm_iflt dX10_addInt_4 (by omega) (fun h4 => ?_) (fun h4 => ?_)
      · exfalso; omega
      · refine mm_aload_n dX10_addInt_7 rfl rfl ?_
        refine mm_get (kd := 0) dX10_addInt_8 rfl fl_X10_19 (c := 1) rfl (by decide) rfl rfl ?_
        refine mm_sipush dX10_addInt_11 rfl (by decide) ?_
        refine mm_icge dX10_addInt_14 (by omega) (by omega) (fun h14 => ?_) (fun h14 => ?_)
        · exfalso; omega
        · refine mm_aload_n dX10_addInt_17 rfl rfl ?_
          refine mm_getr dX10_addInt_18 rfl fl_X10_11 (c := 1) rfl (by decide) rfl rfl (hRN.at (c := 1) (i := 0) (v := 3) rfl (by decide)) ?_
          refine mm_aload_n dX10_addInt_21 rfl rfl ?_
          refine mm_get (kd := 0) dX10_addInt_22 rfl fl_X10_19 (c := 1) rfl (by decide) rfl rfl ?_
          rw [el]
          refine mm_iload_n dX10_addInt_25 rfl rfl ?_
          refine mm_iload_n dX10_addInt_26 rfl rfl ?_
          refine mm_ishr dX10_addInt_27 rfl ?_
          refine mm_i2b dX10_addInt_28 rfl ?_
          refine mm_bsto dX10_addInt_29 rfl (c := 2) rfl (by decide) rfl (by omega) (by omega) (kb_b v _) (fun M29 hM29 => ?_)
          have hR29 : mm_Rf M29 := by rw [hM29]; exact hRN.up (mm_rt_ar (t := 1) rfl (by decide))
          refine mm_aload_n dX10_addInt_30 rfl rfl ?_
          refine mm_dup dX10_addInt_31 rfl (by simp) ?_
          refine mm_get (kd := 0) dX10_addInt_32 rfl fl_X10_19 (c := 1) rfl (by decide) rfl rfl ?_
          have e2 : M29 1 1 = M 1 1 + j := by simp [hM29, el, mm_up]
          rw [e2]
          refine mm_iconst dX10_addInt_35 rfl ?_
          refine mm_iadd dX10_addInt_36 rfl ?_
          refine mm_puti dX10_addInt_37 rfl fl_X10_19 (c := 1) rfl (by decide) rfl rfl (fun M37 hM37 => ?_)
          have hR37 : mm_Rf M37 := by rw [hM37]; exact hR29.up rfl
          refine mm_iinc dX10_addInt_40 rfl rfl (Nat.le_of_ble_eq_true rfl) rfl ?_
          refine mm_goto dX10_addInt_43 ?_
          have e3 : M37 = kb_add 2 1 1 M v (j + 1) := by
            rw [hM37, hM29, hN]
            exact kb_add_s (bc := 2) (by decide) hl.1
          rw [e3, show (24 : Int) - 8 * (j : Int) + -8 = 24 - 8 * ((j + 1 : Nat) : Int) by omega]
          exact ih (j + 1) (by omega)
  have := loop 4 0 rfl
  rw [kb_add_0] at this
  refine mm_bipush dX10_addInt_0 rfl (by decide) ?_
  refine mm_istore_n dX10_addInt_2 rfl (Nat.le_of_ble_eq_true rfl) rfl ?_
  exact this
/-- five ints, one behind the other -/
def kb_feed (bc lc li : Nat) (M : mm_M) (a b c d e : Int) : mm_M := kb_add bc lc li (kb_add bc lc li (kb_add bc lc li (kb_add bc lc li (kb_add bc lc li M a 4) b 4) c 4) d 4) e 4
theorem c_X11_feed (hR : mm_Rf M) (hl : 0 ≤ M 1 1 ∧ M 1 1 ≤ 800) : mm_Fn X Y_X11_feed 243 [(2, 1), (0, a), (0, b), (0, c), (0, d), (0, e)] M (0, if M 1 1 + 20 ≤ 800 then M 1 1 + 20 else -3) (if M 1 1 + 20 ≤ 800 then kb_feed 2 1 1 M a b c d e else M) := by
  refine mm_startF (ls := [(2, 1), (0, a), (0, b), (0, c), (0, d), (0, e)]) rfl ?_
  refine mm_aload_n dX11_feed_0 rfl rfl ?_
  refine mm_getr dX11_feed_1 rfl fl_X11_10 (c := 0) rfl (by decide) rfl rfl (hR.at (c := 0) (i := 0) (v := 2) rfl (by decide)) ?_
  refine mm_bipush dX11_feed_4 rfl (by decide) ?_
  refine mm_V1i dX11_feed_6 rfl lk_X11_98 (c := 1) rfl (by decide) rfl (by simp) rfl rfl rfl (c_X10_hasRoom hR hl (by omega)) ?_
  refine mm_ifneb dX11_feed_9 (fun h9 => ?_) (fun h9 => ?_)
  · obtain ⟨N1, hN1⟩ : ∃ N, N = kb_add 2 1 1 M a 4 := ⟨_, rfl⟩
    obtain ⟨N2, hN2⟩ : ∃ N, N = kb_add 2 1 1 N1 b 4 := ⟨_, rfl⟩
    obtain ⟨N3, hN3⟩ : ∃ N, N = kb_add 2 1 1 N2 c 4 := ⟨_, rfl⟩
    obtain ⟨N4, hN4⟩ : ∃ N, N = kb_add 2 1 1 N3 d 4 := ⟨_, rfl⟩
    obtain ⟨N5, hN5⟩ : ∃ N, N = kb_add 2 1 1 N4 e 4 := ⟨_, rfl⟩
    have r1 : mm_Rf N1 := by rw [hN1]; exact hR.kb (bc := 2) rfl rfl
    have r2 : mm_Rf N2 := by rw [hN2]; exact r1.kb (bc := 2) rfl rfl
    have r3 : mm_Rf N3 := by rw [hN3]; exact r2.kb (bc := 2) rfl rfl
    have r4 : mm_Rf N4 := by rw [hN4]; exact r3.kb (bc := 2) rfl rfl
    have r5 : mm_Rf N5 := by rw [hN5]; exact r4.kb (bc := 2) rfl rfl
    have l1 : N1 1 1 = M 1 1 + 4 := by rw [hN1]; exact kb_add_l
    have l2 : N2 1 1 = N1 1 1 + 4 := by rw [hN2]; exact kb_add_l
    have l3 : N3 1 1 = N2 1 1 + 4 := by rw [hN3]; exact kb_add_l
    have l4 : N4 1 1 = N3 1 1 + 4 := by rw [hN4]; exact kb_add_l
    have l5 : N5 1 1 = N4 1 1 + 4 := by rw [hN5]; exact kb_add_l
    have f1 := c_X10_addInt (X := X) (M := M) (v := a) hR (by omega)
    have f2 := c_X10_addInt (X := X) (M := N1) (v := b) r1 (by omega)
    have f3 := c_X10_addInt (X := X) (M := N2) (v := c) r2 (by omega)
    have f4 := c_X10_addInt (X := X) (M := N3) (v := d) r3 (by omega)
    have f5 := c_X10_addInt (X := X) (M := N4) (v := e) r4 (by omega)
    rw [← hN1] at f1
    rw [← hN2] at f2
    rw [← hN3] at f3
    rw [← hN4] at f4
    rw [← hN5] at f5
    refine mm_aload_n dX11_feed_15 rfl rfl ?_
    refine mm_getr dX11_feed_16 rfl fl_X11_10 (c := 0) rfl (by decide) rfl rfl (hR.at (c := 0) (i := 0) (v := 2) rfl (by decide)) ?_
    refine mm_iload_n dX11_feed_19 rfl rfl ?_
    refine mm_V1v dX11_feed_20 rfl lk_X11_102 (c := 1) rfl (by decide) rfl (by simp) rfl rfl rfl (f1) ?_
    refine mm_aload_n dX11_feed_23 rfl rfl ?_
    refine mm_getr dX11_feed_24 rfl fl_X11_10 (c := 0) rfl (by decide) rfl rfl (r1.at (c := 0) (i := 0) (v := 2) rfl (by decide)) ?_
    refine mm_iload_n dX11_feed_27 rfl rfl ?_
    refine mm_V1v dX11_feed_28 rfl lk_X11_102 (c := 1) rfl (by decide) rfl (by simp) rfl rfl rfl (f2) ?_
    refine mm_aload_n dX11_feed_31 rfl rfl ?_
    refine mm_getr dX11_feed_32 rfl fl_X11_10 (c := 0) rfl (by decide) rfl rfl (r2.at (c := 0) (i := 0) (v := 2) rfl (by decide)) ?_
    refine mm_iload_n dX11_feed_35 rfl rfl ?_
    refine mm_V1v dX11_feed_36 rfl lk_X11_102 (c := 1) rfl (by decide) rfl (by simp) rfl rfl rfl (f3) ?_
    refine mm_aload_n dX11_feed_39 rfl rfl ?_
    refine mm_getr dX11_feed_40 rfl fl_X11_10 (c := 0) rfl (by decide) rfl rfl (r3.at (c := 0) (i := 0) (v := 2) rfl (by decide)) ?_
    refine mm_iload dX11_feed_43 rfl rfl ?_
    refine mm_V1v dX11_feed_45 rfl lk_X11_102 (c := 1) rfl (by decide) rfl (by simp) rfl rfl rfl (f4) ?_
    refine mm_aload_n dX11_feed_48 rfl rfl ?_
    refine mm_getr dX11_feed_49 rfl fl_X11_10 (c := 0) rfl (by decide) rfl rfl (r4.at (c := 0) (i := 0) (v := 2) rfl (by decide)) ?_
    refine mm_iload dX11_feed_52 rfl rfl ?_
    refine mm_V1v dX11_feed_54 rfl lk_X11_102 (c := 1) rfl (by decide) rfl (by simp) rfl rfl rfl (f5) ?_
    refine mm_aload_n dX11_feed_57 rfl rfl ?_
    refine mm_getr dX11_feed_58 rfl fl_X11_10 (c := 0) rfl (by decide) rfl rfl (r5.at (c := 0) (i := 0) (v := 2) rfl (by decide)) ?_
    refine mm_get (kd := 0) dX11_feed_61 rfl fl_X11_105 (c := 1) rfl (by decide) rfl rfl ?_
    refine mm_iret dX11_feed_64 rfl rfl ?_
    exact mm_fin (by rw [if_pos h9]; omega) (by rw [if_pos h9, hN5, hN4, hN3, hN2, hN1]; rfl)
  · refine mm_bipush dX11_feed_12 rfl (by decide) ?_
    refine mm_iret dX11_feed_14 rfl rfl ?_
    exact mm_fin (by rw [if_neg h9]) (by rw [if_neg h9])
theorem c_X13_lay (hR : mm_Rf M) (hl : 0 ≤ M 183 2 ∧ M 183 2 + 4 ≤ 800) : mm_Fn X Y_X13_lay 243 [(2, 184), (0, v)] M (3, 0) (kb_add 185 183 2 M v 4) := by
  refine mm_startF (ls := [(2, 184), (0, v), (9, 0)]) rfl ?_
  have loop : ∀ (k j : Nat), j + k = 4 → mm_J X Y_X13_lay 243 243 243 3 [(2, 184), (0, v), (0, 24 - 8 * (j : Int))] [] (kb_add 185 183 2 M v j) (fun r' M'' => r' = (3, 0) ∧ M'' = kb_add 185 183 2 M v 4) := by
    intro k
    induction k with
    | zero =>
      intro j hj
      have ej : j = 4 := by omega
      subst ej
      refine mm_iload_n dX13_lay_3 rfl rfl ?_
      refine mm_iflt dX13_lay_4 (by omega) (fun h4 => ?_) (fun h4 => ?_)
      · refine mm_vret dX13_lay_36 rfl rfl ?_
        exact mm_fin rfl rfl
      · exfalso; omega
    | succ k ih =>
      intro j hj
      obtain ⟨N, hN⟩ : ∃ N, N = kb_add 185 183 2 M v j := ⟨_, rfl⟩
      have hRN : mm_Rf N := by rw [hN]; exact hR.kb (bc := 185) rfl rfl
      have el : N 183 2 = M 183 2 + j := by rw [hN]; exact kb_add_l
      rw [← hN]
      refine mm_iload_n dX13_lay_3 rfl rfl ?_
      refine mm_iflt dX13_lay_4 (by omega) (fun h4 => ?_) (fun h4 => ?_)
      · exfalso; omega
      · refine mm_aload_n dX13_lay_7 rfl rfl ?_
        refine mm_getr dX13_lay_8 rfl fl_X13_26 (c := 183) rfl (by decide) rfl rfl (hRN.at (c := 183) (i := 1) (v := 186) rfl (by decide)) ?_
        refine mm_aload_n dX13_lay_11 rfl rfl ?_
        refine mm_get (kd := 0) dX13_lay_12 rfl fl_X13_75 (c := 183) rfl (by decide) rfl rfl ?_
        rw [el]
        refine mm_iload_n dX13_lay_15 rfl rfl ?_
        refine mm_iload_n dX13_lay_16 rfl rfl ?_
        refine mm_ishr dX13_lay_17 rfl ?_
        refine mm_i2b dX13_lay_18 rfl ?_
        refine mm_bsto dX13_lay_19 rfl (c := 185) rfl (by decide) rfl (by omega) (by omega) (kb_b v _) (fun M19 hM19 => ?_)
        have hR19 : mm_Rf M19 := by rw [hM19]; exact hRN.up (mm_rt_ar (t := 1) rfl (by decide))
        refine mm_aload_n dX13_lay_20 rfl rfl ?_
        refine mm_dup dX13_lay_21 rfl (by simp) ?_
        refine mm_get (kd := 0) dX13_lay_22 rfl fl_X13_75 (c := 183) rfl (by decide) rfl rfl ?_
        have e2 : M19 183 2 = M 183 2 + j := by simp [hM19, el, mm_up]
        rw [e2]
        refine mm_iconst dX13_lay_25 rfl ?_
        refine mm_iadd dX13_lay_26 rfl ?_
        refine mm_puti dX13_lay_27 rfl fl_X13_75 (c := 183) rfl (by decide) rfl rfl (fun M27 hM27 => ?_)
        have hR27 : mm_Rf M27 := by rw [hM27]; exact hR19.up rfl
        refine mm_iinc dX13_lay_30 rfl rfl (Nat.le_of_ble_eq_true rfl) rfl ?_
        refine mm_goto dX13_lay_33 ?_
        have e3 : M27 = kb_add 185 183 2 M v (j + 1) := by
          rw [hM27, hM19, hN]
          exact kb_add_s (bc := 185) (by decide) hl.1
        rw [e3, show (24 : Int) - 8 * (j : Int) + -8 = 24 - 8 * ((j + 1 : Nat) : Int) by omega]
        exact ih (j + 1) (by omega)
  have := loop 4 0 rfl
  rw [kb_add_0] at this
  refine mm_bipush dX13_lay_0 rfl (by decide) ?_
  refine mm_istore_n dX13_lay_2 rfl (Nat.le_of_ble_eq_true rfl) rfl ?_
  exact this
theorem c_X13_feed (hR : mm_Rf M) (hl : 0 ≤ M 183 2 ∧ M 183 2 ≤ 800) : mm_Fn X Y_X13_feed 243 [(2, 184), (0, a), (0, b), (0, c), (0, d), (0, e)] M (0, if M 183 2 + 20 ≤ 800 then M 183 2 + 20 else -3) (if M 183 2 + 20 ≤ 800 then kb_feed 185 183 2 M a b c d e else M) := by
  refine mm_startF (ls := [(2, 184), (0, a), (0, b), (0, c), (0, d), (0, e)]) rfl ?_
  refine mm_aload_n dX13_feed_0 rfl rfl ?_
  refine mm_get (kd := 0) dX13_feed_1 rfl fl_X13_75 (c := 183) rfl (by decide) rfl rfl ?_
  refine mm_bipush dX13_feed_4 rfl (by decide) ?_
  refine mm_iadd dX13_feed_6 rfl ?_
  refine mm_sipush dX13_feed_7 rfl (by decide) ?_
  refine mm_icle dX13_feed_10 (by omega) (by omega) (fun h10 => ?_) (fun h10 => ?_)
  · obtain ⟨N1, hN1⟩ : ∃ N, N = kb_add 185 183 2 M a 4 := ⟨_, rfl⟩
    obtain ⟨N2, hN2⟩ : ∃ N, N = kb_add 185 183 2 N1 b 4 := ⟨_, rfl⟩
    obtain ⟨N3, hN3⟩ : ∃ N, N = kb_add 185 183 2 N2 c 4 := ⟨_, rfl⟩
    obtain ⟨N4, hN4⟩ : ∃ N, N = kb_add 185 183 2 N3 d 4 := ⟨_, rfl⟩
    obtain ⟨N5, hN5⟩ : ∃ N, N = kb_add 185 183 2 N4 e 4 := ⟨_, rfl⟩
    have r1 : mm_Rf N1 := by rw [hN1]; exact hR.kb (bc := 185) rfl rfl
    have r2 : mm_Rf N2 := by rw [hN2]; exact r1.kb (bc := 185) rfl rfl
    have r3 : mm_Rf N3 := by rw [hN3]; exact r2.kb (bc := 185) rfl rfl
    have r4 : mm_Rf N4 := by rw [hN4]; exact r3.kb (bc := 185) rfl rfl
    have r5 : mm_Rf N5 := by rw [hN5]; exact r4.kb (bc := 185) rfl rfl
    have l1 : N1 183 2 = M 183 2 + 4 := by rw [hN1]; exact kb_add_l
    have l2 : N2 183 2 = N1 183 2 + 4 := by rw [hN2]; exact kb_add_l
    have l3 : N3 183 2 = N2 183 2 + 4 := by rw [hN3]; exact kb_add_l
    have l4 : N4 183 2 = N3 183 2 + 4 := by rw [hN4]; exact kb_add_l
    have l5 : N5 183 2 = N4 183 2 + 4 := by rw [hN5]; exact kb_add_l
    have f1 := c_X13_lay (X := X) (M := M) (v := a) hR (by omega)
    have f2 := c_X13_lay (X := X) (M := N1) (v := b) r1 (by omega)
    have f3 := c_X13_lay (X := X) (M := N2) (v := c) r2 (by omega)
    have f4 := c_X13_lay (X := X) (M := N3) (v := d) r3 (by omega)
    have f5 := c_X13_lay (X := X) (M := N4) (v := e) r4 (by omega)
    rw [← hN1] at f1
    rw [← hN2] at f2
    rw [← hN3] at f3
    rw [← hN4] at f4
    rw [← hN5] at f5
    refine mm_aload_n dX13_feed_16 rfl rfl ?_
    refine mm_iload_n dX13_feed_17 rfl rfl ?_
    refine mm_V1v dX13_feed_18 rfl lk_X13_385 (c := 183) rfl (by decide) rfl (by simp) rfl rfl rfl (f1) ?_
    refine mm_aload_n dX13_feed_21 rfl rfl ?_
    refine mm_iload_n dX13_feed_22 rfl rfl ?_
    refine mm_V1v dX13_feed_23 rfl lk_X13_385 (c := 183) rfl (by decide) rfl (by simp) rfl rfl rfl (f2) ?_
    refine mm_aload_n dX13_feed_26 rfl rfl ?_
    refine mm_iload_n dX13_feed_27 rfl rfl ?_
    refine mm_V1v dX13_feed_28 rfl lk_X13_385 (c := 183) rfl (by decide) rfl (by simp) rfl rfl rfl (f3) ?_
    refine mm_aload_n dX13_feed_31 rfl rfl ?_
    refine mm_iload dX13_feed_32 rfl rfl ?_
    refine mm_V1v dX13_feed_34 rfl lk_X13_385 (c := 183) rfl (by decide) rfl (by simp) rfl rfl rfl (f4) ?_
    refine mm_aload_n dX13_feed_37 rfl rfl ?_
    refine mm_iload dX13_feed_38 rfl rfl ?_
    refine mm_V1v dX13_feed_40 rfl lk_X13_385 (c := 183) rfl (by decide) rfl (by simp) rfl rfl rfl (f5) ?_
    refine mm_aload_n dX13_feed_43 rfl rfl ?_
    refine mm_get (kd := 0) dX13_feed_44 rfl fl_X13_75 (c := 183) rfl (by decide) rfl rfl ?_
    refine mm_iret dX13_feed_47 rfl rfl ?_
    exact mm_fin (by rw [if_pos (by omega)]; omega) (by rw [if_pos (by omega), hN5, hN4, hN3, hN2, hN1]; rfl)
  · refine mm_bipush dX13_feed_13 rfl (by decide) ?_
    refine mm_iret dX13_feed_15 rfl rfl ?_
    exact mm_fin (by rw [if_neg (by omega)]) (by rw [if_neg (by omega)])
end
end
/-! 57.read -/
section
/-! ===== readings ===== -/
def mr_add (M : mm_M) (t s a h lo hi : Int) : mm_M :=
  mm_up (mm_up (mm_up (mm_up (mm_up (mm_up (mm_up (mm_up M 175 (M 174 2).toNat t) 176 (M 174 2).toNat s) 177 (M 174 2).toNat a) 178 (M 174 2).toNat h) 179 (M 174 2).toNat lo) 180 (M 174 2).toNat hi) 174 4 t) 174 2 (M 174 2 + 1)
def mr_addR (M : mm_M) (t s a h lo hi : Int) : mm_M :=
  mm_up (mm_up (mm_up (mm_up (mm_up (mm_up (mm_up (mm_up M 183 99 t) 233 (M 183 97).toNat s) 234 (M 183 97).toNat a) 235 (M 183 97).toNat h) 236 (M 183 97).toNat lo) 237 (M 183 97).toNat hi) 238 (M 183 97).toNat t) 183 97 (M 183 97 + 1)
abbrev kr_ok (K : Nat → Int) (last t s a h lo hi : Int) : Prop := (ks_st K s ∧ ks_ac K a ∧ ks_hr h) ∧ (0 ≤ lo ∧ lo ≤ hi ∧ hi ≤ 99999999) ∧ last ≤ t ∧ t ≤ 999
section
variable {X : mm_X} {M : mm_M} {s a m w d p h b sh x y z k l u v t lo hi : Int}
theorem c_X7_forget (hR : mm_Rf M) : mm_Fn X Y_X7_forget 243 [(2, 175)] M (3, 0) (mm_up (mm_up (mm_up M 174 2 0) 174 3 0) 174 4 0) := by
  refine mm_startF (ls := [(2, 175)]) rfl ?_
  refine mm_aload_n dX7_forget_0 rfl rfl ?_
  refine mm_iconst dX7_forget_1 rfl ?_
  refine mm_puti dX7_forget_2 rfl fl_X7_44 (c := 174) rfl (by decide) rfl rfl (fun M2 hM2 => ?_)
  have hR2 : mm_Rf M2 := by rw [hM2]; exact hR.up rfl
  refine mm_aload_n dX7_forget_5 rfl rfl ?_
  refine mm_iconst dX7_forget_6 rfl ?_
  refine mm_puti dX7_forget_7 rfl fl_X7_48 (c := 174) rfl (by decide) rfl rfl (fun M7 hM7 => ?_)
  have hR7 : mm_Rf M7 := by rw [hM7]; exact hR2.up rfl
  refine mm_aload_n dX7_forget_10 rfl rfl ?_
  refine mm_iconst dX7_forget_11 rfl ?_
  refine mm_puti dX7_forget_12 rfl fl_X7_51 (c := 174) rfl (by decide) rfl rfl (fun M12 hM12 => ?_)
  have hR12 : mm_Rf M12 := by rw [hM12]; exact hR7.up rfl
  refine mm_vret dX7_forget_15 rfl rfl ?_
  exact mm_fin rfl (by rw [hM12, hM7, hM2])
theorem c_X7_add (hR : mm_Rf M) (hc : 0 ≤ M 174 2 ∧ M 174 2 < 30) : mm_Fn X Y_X7_add 243 [(2, 175), (0, t), (0, s), (0, a), (0, h), (0, lo), (0, hi)] M (0, M 174 2) (mr_add M t s a h lo hi) := by
  refine mm_startF (ls := [(2, 175), (0, t), (0, s), (0, a), (0, h), (0, lo), (0, hi)]) rfl ?_
  refine mm_aload_n dX7_add_0 rfl rfl ?_
  refine mm_getr dX7_add_1 rfl fl_X7_11 (c := 174) rfl (by decide) rfl rfl (hR.at (c := 174) (i := 5) (v := 176) rfl (by decide)) ?_
  refine mm_aload_n dX7_add_4 rfl rfl ?_
  refine mm_get (kd := 0) dX7_add_5 rfl fl_X7_44 (c := 174) rfl (by decide) rfl rfl ?_
  refine mm_iload_n dX7_add_8 rfl rfl ?_
  refine mm_isto dX7_add_9 rfl (c := 175) rfl (by decide) rfl (by omega) (by omega) (fun M9 hM9 => ?_)
  have hR9 : mm_Rf M9 := by rw [hM9]; exact hR.up (mm_rt_ar (t := 0) rfl (by decide))
  refine mm_aload_n dX7_add_10 rfl rfl ?_
  refine mm_getr dX7_add_11 rfl fl_X7_15 (c := 174) rfl (by decide) rfl rfl (hR9.at (c := 174) (i := 6) (v := 177) rfl (by decide)) ?_
  refine mm_aload_n dX7_add_14 rfl rfl ?_
  refine mm_get (kd := 0) dX7_add_15 rfl fl_X7_44 (c := 174) rfl (by decide) rfl rfl ?_
  have e1 : M9 174 2 = M 174 2 := by simp [hM9, mm_up]
  rw [e1]
  refine mm_iload_n dX7_add_18 rfl rfl ?_
  refine mm_isto dX7_add_19 rfl (c := 176) rfl (by decide) rfl (by omega) (by omega) (fun M19 hM19 => ?_)
  have hR19 : mm_Rf M19 := by rw [hM19]; exact hR9.up (mm_rt_ar (t := 0) rfl (by decide))
  refine mm_aload_n dX7_add_20 rfl rfl ?_
  refine mm_getr dX7_add_21 rfl fl_X7_18 (c := 174) rfl (by decide) rfl rfl (hR19.at (c := 174) (i := 7) (v := 178) rfl (by decide)) ?_
  refine mm_aload_n dX7_add_24 rfl rfl ?_
  refine mm_get (kd := 0) dX7_add_25 rfl fl_X7_44 (c := 174) rfl (by decide) rfl rfl ?_
  have e2 : M19 174 2 = M 174 2 := by simp [hM19, e1, mm_up]
  rw [e2]
  refine mm_iload_n dX7_add_28 rfl rfl ?_
  refine mm_isto dX7_add_29 rfl (c := 177) rfl (by decide) rfl (by omega) (by omega) (fun M29 hM29 => ?_)
  have hR29 : mm_Rf M29 := by rw [hM29]; exact hR19.up (mm_rt_ar (t := 0) rfl (by decide))
  refine mm_aload_n dX7_add_30 rfl rfl ?_
  refine mm_getr dX7_add_31 rfl fl_X7_21 (c := 174) rfl (by decide) rfl rfl (hR29.at (c := 174) (i := 8) (v := 179) rfl (by decide)) ?_
  refine mm_aload_n dX7_add_34 rfl rfl ?_
  refine mm_get (kd := 0) dX7_add_35 rfl fl_X7_44 (c := 174) rfl (by decide) rfl rfl ?_
  have e3 : M29 174 2 = M 174 2 := by simp [hM29, e2, mm_up]
  rw [e3]
  refine mm_iload dX7_add_38 rfl rfl ?_
  refine mm_isto dX7_add_40 rfl (c := 178) rfl (by decide) rfl (by omega) (by omega) (fun M40 hM40 => ?_)
  have hR40 : mm_Rf M40 := by rw [hM40]; exact hR29.up (mm_rt_ar (t := 0) rfl (by decide))
  refine mm_aload_n dX7_add_41 rfl rfl ?_
  refine mm_getr dX7_add_42 rfl fl_X7_24 (c := 174) rfl (by decide) rfl rfl (hR40.at (c := 174) (i := 9) (v := 180) rfl (by decide)) ?_
  refine mm_aload_n dX7_add_45 rfl rfl ?_
  refine mm_get (kd := 0) dX7_add_46 rfl fl_X7_44 (c := 174) rfl (by decide) rfl rfl ?_
  have e4 : M40 174 2 = M 174 2 := by simp [hM40, e3, mm_up]
  rw [e4]
  refine mm_iload dX7_add_49 rfl rfl ?_
  refine mm_isto dX7_add_51 rfl (c := 179) rfl (by decide) rfl (by omega) (by omega) (fun M51 hM51 => ?_)
  have hR51 : mm_Rf M51 := by rw [hM51]; exact hR40.up (mm_rt_ar (t := 0) rfl (by decide))
  refine mm_aload_n dX7_add_52 rfl rfl ?_
  refine mm_getr dX7_add_53 rfl fl_X7_27 (c := 174) rfl (by decide) rfl rfl (hR51.at (c := 174) (i := 10) (v := 181) rfl (by decide)) ?_
  refine mm_aload_n dX7_add_56 rfl rfl ?_
  refine mm_get (kd := 0) dX7_add_57 rfl fl_X7_44 (c := 174) rfl (by decide) rfl rfl ?_
  have e5 : M51 174 2 = M 174 2 := by simp [hM51, e4, mm_up]
  rw [e5]
  refine mm_iload dX7_add_60 rfl rfl ?_
  refine mm_isto dX7_add_62 rfl (c := 180) rfl (by decide) rfl (by omega) (by omega) (fun M62 hM62 => ?_)
  have hR62 : mm_Rf M62 := by rw [hM62]; exact hR51.up (mm_rt_ar (t := 0) rfl (by decide))
  refine mm_aload_n dX7_add_63 rfl rfl ?_
  refine mm_iload_n dX7_add_64 rfl rfl ?_
  refine mm_puti dX7_add_65 rfl fl_X7_51 (c := 174) rfl (by decide) rfl rfl (fun M65 hM65 => ?_)
  have hR65 : mm_Rf M65 := by rw [hM65]; exact hR62.up rfl
  refine mm_aload_n dX7_add_68 rfl rfl ?_
  refine mm_dup dX7_add_69 rfl (by simp) ?_
  refine mm_get (kd := 0) dX7_add_70 rfl fl_X7_44 (c := 174) rfl (by decide) rfl rfl ?_
  have e6 : M65 174 2 = M 174 2 := by simp [hM65, hM62, e5, mm_up]
  rw [e6]
  refine mm_iconst dX7_add_73 rfl ?_
  refine mm_iadd dX7_add_74 rfl ?_
  refine mm_puti dX7_add_75 rfl fl_X7_44 (c := 174) rfl (by decide) rfl rfl (fun M75 hM75 => ?_)
  have hR75 : mm_Rf M75 := by rw [hM75]; exact hR65.up rfl
  refine mm_aload_n dX7_add_78 rfl rfl ?_
  refine mm_get (kd := 0) dX7_add_79 rfl fl_X7_44 (c := 174) rfl (by decide) rfl rfl ?_
  refine mm_iconst dX7_add_82 rfl ?_
  refine mm_isub dX7_add_83 rfl ?_
  refine mm_iret dX7_add_84 rfl rfl ?_
  exact mm_fin (by rw [hM75, mm_up_s]; omega) (by rw [hM75, hM65, hM62, hM51, hM40, hM29, hM19, hM9]; rfl)
theorem c_X11_read (hR : mm_Rf M) (hK : mm_CK M) (ht : mm_R t) (hs : mm_R s) (ha : mm_R a) (hh : mm_R h) (hlo : mm_R lo) (hhi : mm_R hi) (hl : 0 ≤ M 174 4 ∧ M 174 4 ≤ 999) (hc : 0 ≤ M 174 2 ∧ M 174 2 ≤ 30) :
    mm_Fn X Y_X11_read 243 [(2, 1), (0, t), (0, s), (0, a), (0, h), (0, lo), (0, hi)] M (0, if kr_ok (M 4) (M 174 4) t s a h lo hi then (if M 174 2 < 30 then M 174 2 else -3) else -2) (if kr_ok (M 4) (M 174 4) t s a h lo hi ∧ M 174 2 < 30 then mr_add M t s a h lo hi else M) := by
  refine mm_startF (ls := [(2, 1), (0, t), (0, s), (0, a), (0, h), (0, lo), (0, hi)]) rfl ?_
  refine mm_aload_n dX11_read_0 rfl rfl ?_
  refine mm_iload_n dX11_read_1 rfl rfl ?_
  refine mm_iload_n dX11_read_2 rfl rfl ?_
  refine mm_iload dX11_read_3 rfl rfl ?_
  refine mm_V3i dX11_read_5 rfl lk_X11_198 (c := 0) rfl (by decide) rfl (by simp) (by simp) (by simp) rfl rfl rfl (c_X11_canAsk hR hK hs ha hh) ?_
  refine mm_ifeqb dX11_read_8 (fun h8 => ?_) (fun h8 => ?_)
  · refine mm_bipush dX11_read_23 rfl (by decide) ?_
    refine mm_iret dX11_read_25 rfl rfl ?_
    first
    | exact mm_fin (by rw [if_neg (fun q => h8 q.1)]) (by rw [if_neg (fun q => h8 q.1.1)])
    | exact mm_fin (by rw [if_neg (fun q => h20 q.2)]) (by rw [if_neg (fun q => h20 q.1.2)])
  · refine mm_aload_n dX11_read_11 rfl rfl ?_
    refine mm_iload_n dX11_read_12 rfl rfl ?_
    refine mm_iload dX11_read_13 rfl rfl ?_
    refine mm_iload dX11_read_15 rfl rfl ?_
    refine mm_V3i dX11_read_17 rfl lk_X11_354 (c := 0) rfl (by decide) rfl (by simp) (by simp) (by simp) rfl rfl rfl (c_X11_canRead hR hl ht hlo hhi) ?_
    refine mm_ifneb dX11_read_20 (fun h20 => ?_) (fun h20 => ?_)
    · refine mm_aload_n dX11_read_26 rfl rfl ?_
      refine mm_getr dX11_read_27 rfl fl_X11_90 (c := 0) rfl (by decide) rfl rfl (hR.at (c := 0) (i := 11) (v := 175) rfl (by decide)) ?_
      refine mm_get (kd := 0) dX11_read_30 rfl fl_X11_357 (c := 174) rfl (by decide) rfl rfl ?_
      refine mm_bipush dX11_read_33 rfl (by decide) ?_
      refine mm_icge dX11_read_35 (by omega) (by omega) (fun h35 => ?_) (fun h35 => ?_)
      · refine mm_bipush dX11_read_57 rfl (by decide) ?_
        refine mm_iret dX11_read_59 rfl rfl ?_
        exact mm_fin (by rw [if_pos (And.intro h8 h20), if_neg (by omega)]) (by rw [if_neg (by omega)])
      · refine mm_aload_n dX11_read_38 rfl rfl ?_
        refine mm_getr dX11_read_39 rfl fl_X11_90 (c := 0) rfl (by decide) rfl rfl (hR.at (c := 0) (i := 11) (v := 175) rfl (by decide)) ?_
        refine mm_iload_n dX11_read_42 rfl rfl ?_
        refine mm_iload_n dX11_read_43 rfl rfl ?_
        refine mm_iload_n dX11_read_44 rfl rfl ?_
        refine mm_iload dX11_read_45 rfl rfl ?_
        refine mm_iload dX11_read_47 rfl rfl ?_
        refine mm_iload dX11_read_49 rfl rfl ?_
        refine mm_V6i dX11_read_51 rfl lk_X11_358 (c := 174) rfl (by decide) rfl (by simp) (by simp) (by simp) (by simp) (by simp) (by simp) rfl rfl rfl (c_X7_add hR (by omega)) ?_
        refine mm_goto dX11_read_54 ?_
        refine mm_iret dX11_read_59 rfl rfl ?_
        exact mm_fin (by rw [if_pos (And.intro h8 h20), if_pos (by omega)]) (by rw [if_pos ⟨And.intro h8 h20, by omega⟩])
    · refine mm_bipush dX11_read_23 rfl (by decide) ?_
      refine mm_iret dX11_read_25 rfl rfl ?_
      first
      | exact mm_fin (by rw [if_neg (fun q => h8 q.1)]) (by rw [if_neg (fun q => h8 q.1.1)])
      | exact mm_fin (by rw [if_neg (fun q => h20 q.2)]) (by rw [if_neg (fun q => h20 q.1.2)])
theorem c_X13_read (hR : mm_Rf M) (hK : mm_KV (mm_rk M)) (ht : mm_R t) (hs : mm_R s) (ha : mm_R a) (hh : mm_R h) (hlo : mm_R lo) (hhi : mm_R hi) (hl : 0 ≤ M 183 99 ∧ M 183 99 ≤ 999) (hc : 0 ≤ M 183 97 ∧ M 183 97 ≤ 30) :
    mm_Fn X Y_X13_read 243 [(2, 184), (0, t), (0, s), (0, a), (0, h), (0, lo), (0, hi)] M (0, if kr_ok (mm_rk M) (M 183 99) t s a h lo hi then (if M 183 97 < 30 then M 183 97 else -3) else -2) (if kr_ok (mm_rk M) (M 183 99) t s a h lo hi ∧ M 183 97 < 30 then mr_addR M t s a h lo hi else M) := by
  refine mm_startF (ls := [(2, 184), (0, t), (0, s), (0, a), (0, h), (0, lo), (0, hi)]) rfl ?_
  refine mm_iload_n dX13_read_0 rfl rfl ?_
  refine mm_i2l dX13_read_1 rfl (by omega) ?_
  refine mm_aload_n dX13_read_2 rfl rfl ?_
  refine mm_get (kd := 0) dX13_read_3 rfl fl_X13_409 (c := 183) rfl (by decide) rfl rfl ?_
  refine mm_i2l dX13_read_6 rfl (by omega) ?_
  refine mm_ldc2 dX13_read_7 rfl kc_X13_484 ?_
  refine mm_S3i dX13_read_10 rfl lk_X13_5 (by simp) (by simp) (by simp) rfl rfl rfl (c_X13_in (by omega) (by omega) (by omega)) ?_
  refine mm_ifeqb dX13_read_13 (fun h13 => ?_) (fun h13 => ?_)
  · refine mm_bipush dX13_read_50 rfl (by decide) ?_
    refine mm_iret dX13_read_52 rfl rfl ?_
    have no : ¬ kr_ok (mm_rk M) (M 183 99) t s a h lo hi := by
      first
      | exact fun q => h13 q.2.2
      | exact fun q => h21 q.1.1
      | exact fun q => h29 q.1.2.1
      | exact fun q => h37 q.1.2.2
      | exact fun q => h47 q.2.1
    exact mm_fin (by rw [if_neg no]) (by rw [if_neg (fun q => no q.1)])
  · refine mm_aload_n dX13_read_16 rfl rfl ?_
    refine mm_iload_n dX13_read_17 rfl rfl ?_
    refine mm_V1i dX13_read_18 rfl lk_X13_464 (c := 183) rfl (by decide) rfl (by simp) rfl rfl rfl (c_X13_isState hR hK hs) ?_
    refine mm_ifeqb dX13_read_21 (fun h21 => ?_) (fun h21 => ?_)
    · refine mm_bipush dX13_read_50 rfl (by decide) ?_
      refine mm_iret dX13_read_52 rfl rfl ?_
      have no : ¬ kr_ok (mm_rk M) (M 183 99) t s a h lo hi := by
        first
        | exact fun q => h13 q.2.2
        | exact fun q => h21 q.1.1
        | exact fun q => h29 q.1.2.1
        | exact fun q => h37 q.1.2.2
        | exact fun q => h47 q.2.1
      exact mm_fin (by rw [if_neg no]) (by rw [if_neg (fun q => no q.1)])
    · refine mm_aload_n dX13_read_24 rfl rfl ?_
      refine mm_iload_n dX13_read_25 rfl rfl ?_
      refine mm_V1i dX13_read_26 rfl lk_X13_470 (c := 183) rfl (by decide) rfl (by simp) rfl rfl rfl (c_X13_isAct hR hK ha) ?_
      refine mm_ifeqb dX13_read_29 (fun h29 => ?_) (fun h29 => ?_)
      · refine mm_bipush dX13_read_50 rfl (by decide) ?_
        refine mm_iret dX13_read_52 rfl rfl ?_
        have no : ¬ kr_ok (mm_rk M) (M 183 99) t s a h lo hi := by
          first
          | exact fun q => h13 q.2.2
          | exact fun q => h21 q.1.1
          | exact fun q => h29 q.1.2.1
          | exact fun q => h37 q.1.2.2
          | exact fun q => h47 q.2.1
        exact mm_fin (by rw [if_neg no]) (by rw [if_neg (fun q => no q.1)])
      · refine mm_iload dX13_read_32 rfl rfl ?_
        refine mm_S1i dX13_read_34 rfl lk_X13_486 (by simp) rfl rfl rfl (c_X13_isHour hh) ?_
        refine mm_ifeqb dX13_read_37 (fun h37 => ?_) (fun h37 => ?_)
        · refine mm_bipush dX13_read_50 rfl (by decide) ?_
          refine mm_iret dX13_read_52 rfl rfl ?_
          have no : ¬ kr_ok (mm_rk M) (M 183 99) t s a h lo hi := by
            first
            | exact fun q => h13 q.2.2
            | exact fun q => h21 q.1.1
            | exact fun q => h29 q.1.2.1
            | exact fun q => h37 q.1.2.2
            | exact fun q => h47 q.2.1
          exact mm_fin (by rw [if_neg no]) (by rw [if_neg (fun q => no q.1)])
        · refine mm_iload dX13_read_40 rfl rfl ?_
          refine mm_iload dX13_read_42 rfl rfl ?_
          refine mm_S2i dX13_read_44 rfl lk_X13_715 (by simp) (by simp) rfl rfl rfl (c_X13_arePulls hlo hhi) ?_
          refine mm_ifneb dX13_read_47 (fun h47 => ?_) (fun h47 => ?_)
          · refine mm_aload_n dX13_read_53 rfl rfl ?_
            refine mm_get (kd := 0) dX13_read_54 rfl fl_X13_403 (c := 183) rfl (by decide) rfl rfl ?_
            refine mm_bipush dX13_read_57 rfl (by decide) ?_
            refine mm_icne dX13_read_59 (by omega) (by omega) (fun h59 => ?_) (fun h59 => ?_)
            · refine mm_aload_n dX13_read_65 rfl rfl ?_
              refine mm_iload_n dX13_read_66 rfl rfl ?_
              refine mm_puti dX13_read_67 rfl fl_X13_409 (c := 183) rfl (by decide) rfl rfl (fun M67 hM67 => ?_)
              have hR67 : mm_Rf M67 := by rw [hM67]; exact hR.up rfl
              refine mm_aload_n dX13_read_70 rfl rfl ?_
              refine mm_getr dX13_read_71 rfl fl_X13_352 (c := 183) rfl (by decide) rfl rfl (hR67.at (c := 183) (i := 100) (v := 234) rfl (by decide)) ?_
              refine mm_aload_n dX13_read_74 rfl rfl ?_
              refine mm_get (kd := 0) dX13_read_75 rfl fl_X13_403 (c := 183) rfl (by decide) rfl rfl ?_
              have e1 : M67 183 97 = M 183 97 := by simp [hM67, mm_up]
              rw [e1]
              refine mm_iload_n dX13_read_78 rfl rfl ?_
              refine mm_isto dX13_read_79 rfl (c := 233) rfl (by decide) rfl (by omega) (by omega) (fun M79 hM79 => ?_)
              have hR79 : mm_Rf M79 := by rw [hM79]; exact hR67.up (mm_rt_ar (t := 0) rfl (by decide))
              refine mm_aload_n dX13_read_80 rfl rfl ?_
              refine mm_getr dX13_read_81 rfl fl_X13_355 (c := 183) rfl (by decide) rfl rfl (hR79.at (c := 183) (i := 101) (v := 235) rfl (by decide)) ?_
              refine mm_aload_n dX13_read_84 rfl rfl ?_
              refine mm_get (kd := 0) dX13_read_85 rfl fl_X13_403 (c := 183) rfl (by decide) rfl rfl ?_
              have e2 : M79 183 97 = M 183 97 := by simp [hM79, e1, mm_up]
              rw [e2]
              refine mm_iload_n dX13_read_88 rfl rfl ?_
              refine mm_isto dX13_read_89 rfl (c := 234) rfl (by decide) rfl (by omega) (by omega) (fun M89 hM89 => ?_)
              have hR89 : mm_Rf M89 := by rw [hM89]; exact hR79.up (mm_rt_ar (t := 0) rfl (by decide))
              refine mm_aload_n dX13_read_90 rfl rfl ?_
              refine mm_getr dX13_read_91 rfl fl_X13_358 (c := 183) rfl (by decide) rfl rfl (hR89.at (c := 183) (i := 102) (v := 236) rfl (by decide)) ?_
              refine mm_aload_n dX13_read_94 rfl rfl ?_
              refine mm_get (kd := 0) dX13_read_95 rfl fl_X13_403 (c := 183) rfl (by decide) rfl rfl ?_
              have e3 : M89 183 97 = M 183 97 := by simp [hM89, e2, mm_up]
              rw [e3]
              refine mm_iload dX13_read_98 rfl rfl ?_
              refine mm_isto dX13_read_100 rfl (c := 235) rfl (by decide) rfl (by omega) (by omega) (fun M100 hM100 => ?_)
              have hR100 : mm_Rf M100 := by rw [hM100]; exact hR89.up (mm_rt_ar (t := 0) rfl (by decide))
              refine mm_aload_n dX13_read_101 rfl rfl ?_
              refine mm_getr dX13_read_102 rfl fl_X13_361 (c := 183) rfl (by decide) rfl rfl (hR100.at (c := 183) (i := 103) (v := 237) rfl (by decide)) ?_
              refine mm_aload_n dX13_read_105 rfl rfl ?_
              refine mm_get (kd := 0) dX13_read_106 rfl fl_X13_403 (c := 183) rfl (by decide) rfl rfl ?_
              have e4 : M100 183 97 = M 183 97 := by simp [hM100, e3, mm_up]
              rw [e4]
              refine mm_iload dX13_read_109 rfl rfl ?_
              refine mm_isto dX13_read_111 rfl (c := 236) rfl (by decide) rfl (by omega) (by omega) (fun M111 hM111 => ?_)
              have hR111 : mm_Rf M111 := by rw [hM111]; exact hR100.up (mm_rt_ar (t := 0) rfl (by decide))
              refine mm_aload_n dX13_read_112 rfl rfl ?_
              refine mm_getr dX13_read_113 rfl fl_X13_364 (c := 183) rfl (by decide) rfl rfl (hR111.at (c := 183) (i := 104) (v := 238) rfl (by decide)) ?_
              refine mm_aload_n dX13_read_116 rfl rfl ?_
              refine mm_get (kd := 0) dX13_read_117 rfl fl_X13_403 (c := 183) rfl (by decide) rfl rfl ?_
              have e5 : M111 183 97 = M 183 97 := by simp [hM111, e4, mm_up]
              rw [e5]
              refine mm_iload dX13_read_120 rfl rfl ?_
              refine mm_isto dX13_read_122 rfl (c := 237) rfl (by decide) rfl (by omega) (by omega) (fun M122 hM122 => ?_)
              have hR122 : mm_Rf M122 := by rw [hM122]; exact hR111.up (mm_rt_ar (t := 0) rfl (by decide))
              refine mm_aload_n dX13_read_123 rfl rfl ?_
              refine mm_getr dX13_read_124 rfl fl_X13_367 (c := 183) rfl (by decide) rfl rfl (hR122.at (c := 183) (i := 105) (v := 239) rfl (by decide)) ?_
              refine mm_aload_n dX13_read_127 rfl rfl ?_
              refine mm_get (kd := 0) dX13_read_128 rfl fl_X13_403 (c := 183) rfl (by decide) rfl rfl ?_
              have e6 : M122 183 97 = M 183 97 := by simp [hM122, e5, mm_up]
              rw [e6]
              refine mm_iload_n dX13_read_131 rfl rfl ?_
              refine mm_isto dX13_read_132 rfl (c := 238) rfl (by decide) rfl (by omega) (by omega) (fun M132 hM132 => ?_)
              have hR132 : mm_Rf M132 := by rw [hM132]; exact hR122.up (mm_rt_ar (t := 0) rfl (by decide))
              refine mm_aload_n dX13_read_133 rfl rfl ?_
              refine mm_dup dX13_read_134 rfl (by simp) ?_
              refine mm_get (kd := 0) dX13_read_135 rfl fl_X13_403 (c := 183) rfl (by decide) rfl rfl ?_
              have e7 : M132 183 97 = M 183 97 := by simp [hM132, e6, mm_up]
              rw [e7]
              refine mm_iconst dX13_read_138 rfl ?_
              refine mm_iadd dX13_read_139 rfl ?_
              refine mm_puti dX13_read_140 rfl fl_X13_403 (c := 183) rfl (by decide) rfl rfl (fun M140 hM140 => ?_)
              have hR140 : mm_Rf M140 := by rw [hM140]; exact hR132.up rfl
              refine mm_aload_n dX13_read_143 rfl rfl ?_
              refine mm_get (kd := 0) dX13_read_144 rfl fl_X13_403 (c := 183) rfl (by decide) rfl rfl ?_
              refine mm_iconst dX13_read_147 rfl ?_
              refine mm_isub dX13_read_148 rfl ?_
              refine mm_iret dX13_read_149 rfl rfl ?_
              refine mm_fin ?_ ?_
              · rw [if_pos (And.intro (And.intro h21 (And.intro h29 h37)) (And.intro h47 h13)), if_pos (by omega), hM140, mm_up_s]
                omega
              · rw [if_pos (And.intro (And.intro (And.intro h21 (And.intro h29 h37)) (And.intro h47 h13)) (by omega)), hM140, hM132, hM122, hM111, hM100, hM89, hM79, hM67]
                rfl
            · refine mm_bipush dX13_read_62 rfl (by decide) ?_
              refine mm_iret dX13_read_64 rfl rfl ?_
              exact mm_fin (by rw [if_pos (And.intro (And.intro h21 (And.intro h29 h37)) (And.intro h47 h13)), if_neg (by omega)]) (by rw [if_neg (by omega)])
          · refine mm_bipush dX13_read_50 rfl (by decide) ?_
            refine mm_iret dX13_read_52 rfl rfl ?_
            have no : ¬ kr_ok (mm_rk M) (M 183 99) t s a h lo hi := by
              first
              | exact fun q => h13 q.2.2
              | exact fun q => h21 q.1.1
              | exact fun q => h29 q.1.2.1
              | exact fun q => h37 q.1.2.2
              | exact fun q => h47 q.2.1
            exact mm_fin (by rw [if_neg no]) (by rw [if_neg (fun q => no q.1)])
end
end
/-! 58.breach -/
section
/-! ===== breaches ===== -/
/-- the first of the k ticks from t on at which P holds, or -1 -/
def kf_from (P : Nat → Prop) [∀ t, Decidable (P t)] : Nat → Nat → Int
  | _, 0 => -1
  | t, k + 1 => if P t then (t : Int) else kf_from P (t + 1) k
abbrev kb_at (K : Nat → Int) (S : Nat → Int) (len : Nat) (roof : Nat → Int) (h e : Int) (t : Nat) : Prop := roof ((h + (t : Int) / e) % 24).toNat < ks_h K (S (t % len))
theorem mm_modstep {t len : Nat} (hl : 0 < len) : (if t % len + 1 < len then t % len + 1 else 0) = (t + 1) % len := by
  have hlt := Nat.mod_lt t hl
  rw [Nat.add_mod]
  by_cases h1 : len = 1
  · subst h1; simp; omega
  · rw [Nat.mod_eq_of_lt (show 1 < len by omega)]
    generalize t % len = r at hlt ⊢
    split
    · rw [Nat.mod_eq_of_lt (by omega)]
    · rw [show r + 1 = len by omega, Nat.mod_self]
section
variable {X : mm_X} {M : mm_M} {x h e n : Int} {rc len : Nat}
theorem c_X5_firstBreach (hR : mm_Rf M) (hK : mm_CK M) (hrw : mm_rw rc len) (hl : 0 < M rc 2 ∧ M rc 2 ≤ len) (hst : ∀ i : Nat, (i : Int) < M rc 2 → ks_st (M 4) (M (rc + 2) i)) (hh : ks_hr h) (he : 1 ≤ e ∧ e ≤ 60) (hn : 1 ≤ n ∧ n ≤ 5000) (hr : ∀ i, i < 24 → mm_R (M 173 i)) :
    mm_Fn X Y_X5_firstBreach 243 [(2, 173), (2, (rc : Int) + 1), (2, 4), (0, h), (0, e), (0, n)] M (0, kf_from (kb_at (M 4) (M (rc + 2)) (M rc 2).toNat (M 173) h e) 0 n.toNat) M := by
  have hs1 := (mm_shA _ hrw.2.1).1
  refine mm_startF (ls := [(2, 173), (2, (rc : Int) + 1), (2, 4), (0, h), (0, e), (0, n), (9, 0), (9, 0)]) rfl ?_
  have loop : ∀ (k t : Nat), t + k = n.toNat → kf_from (kb_at (M 4) (M (rc + 2)) (M rc 2).toNat (M 173) h e) t k = kf_from (kb_at (M 4) (M (rc + 2)) (M rc 2).toNat (M 173) h e) 0 n.toNat →
      mm_J X Y_X5_firstBreach 243 243 243 6 [(2, 173), (2, (rc : Int) + 1), (2, 4), (0, h), (0, e), (0, n), (0, ((t % (M rc 2).toNat : Nat) : Int)), (0, (t : Int))] [] M (fun r' M'' => r' = (0, kf_from (kb_at (M 4) (M (rc + 2)) (M rc 2).toNat (M 173) h e) 0 n.toNat) ∧ M'' = M) := by
    intro k
    induction k with
    | zero =>
      intro t ht heq
      refine mm_iload dX5_firstBreach_6 rfl rfl ?_
      refine mm_iload dX5_firstBreach_8 rfl rfl ?_
      refine mm_icge dX5_firstBreach_10 (by omega) (by omega) (fun h10 => ?_) (fun h10 => ?_)
      · refine mm_iconst dX5_firstBreach_71 rfl ?_
        refine mm_iret dX5_firstBreach_72 rfl rfl ?_
        exact mm_fin heq rfl
      · exfalso; omega
    | succ k ih =>
      intro t ht heq
      have hm := Nat.mod_lt t (show 0 < (M rc 2).toNat by omega)
      have hs := hst (t % (M rc 2).toNat) (by omega)
      have hnb := ks_nb hK.1
      have htab := hK.tab hs
      have hhb := ks_hb hK.1 hs
      have hdv := mm_divb (a := (t : Int)) (b := e) (A := 5000) (by omega) (by omega) (by omega)
      have hmod : 0 ≤ (h + (t : Int) / e) % 24 ∧ (h + (t : Int) / e) % 24 < 24 := by omega
      have hrr := hr ((h + (t : Int) / e) % 24).toNat (by omega)
      have := hs.1
      have := hs.2
      have stp : ∀ z : Int, z = (((t + 1) % (M rc 2).toNat : Nat) : Int) → ¬ kb_at (M 4) (M (rc + 2)) (M rc 2).toNat (M 173) h e t → mm_J X Y_X5_firstBreach 243 243 243 63 [(2, 173), (2, (rc : Int) + 1), (2, 4), (0, h), (0, e), (0, n), (0, ((t % (M rc 2).toNat : Nat) : Int)), (0, (t : Int))] [(0, z)] M (fun r' M'' => r' = (0, kf_from (kb_at (M 4) (M (rc + 2)) (M rc 2).toNat (M 173) h e) 0 n.toNat) ∧ M'' = M) := by
        intro z hz hno
        subst hz
        refine mm_istore dX5_firstBreach_63 rfl (Nat.le_of_ble_eq_true rfl) rfl ?_
        refine mm_iinc dX5_firstBreach_65 rfl rfl (Nat.le_of_ble_eq_true rfl) rfl ?_
        refine mm_goto dX5_firstBreach_68 ?_
        exact ih (t + 1) (by omega) (by rw [← heq, kf_from, if_neg hno])
      have hstep := mm_modstep (t := t) (len := (M rc 2).toNat) (by omega)
      refine mm_iload dX5_firstBreach_6 rfl rfl ?_
      refine mm_iload dX5_firstBreach_8 rfl rfl ?_
      refine mm_icge dX5_firstBreach_10 (by omega) (by omega) (fun h10 => ?_) (fun h10 => ?_)
      · exfalso; omega
      · refine mm_aload_n dX5_firstBreach_13 rfl rfl ?_
        refine mm_getr dX5_firstBreach_14 rfl fl_X5_33 (c := 3) rfl (by decide) rfl rfl (hR.at (c := 3) (i := 6) (v := 10) rfl (by decide)) ?_
        refine mm_aload_n dX5_firstBreach_17 rfl rfl ?_
        refine mm_getr dX5_firstBreach_18 rfl fl_X5_38 (c := rc) rfl hrw.c0 hrw.1 rfl (hrw.states hR) ?_
        refine mm_iload dX5_firstBreach_21 rfl rfl ?_
        refine mm_ialk (k0 := (t % (M rc 2).toNat)) dX5_firstBreach_23 rfl (c := rc + 2) rfl hrw.c2 hrw.2.2.1 (by omega) (by omega) ?_
        refine mm_iald dX5_firstBreach_24 rfl (c := 9) rfl (by decide) rfl (by omega) (by omega) ?_
        rw [htab.2.2.2.1]
        refine mm_aload_n dX5_firstBreach_25 rfl rfl ?_
        refine mm_getr dX5_firstBreach_26 rfl fl_X5_11 (c := 172) rfl (by decide) rfl rfl (hR.at (c := 172) (i := 1) (v := 174) rfl (by decide)) ?_
        refine mm_iload_n dX5_firstBreach_29 rfl rfl ?_
        refine mm_iload dX5_firstBreach_30 rfl rfl ?_
        refine mm_iload dX5_firstBreach_32 rfl rfl ?_
        refine mm_S3i dX5_firstBreach_34 rfl lk_X5_43 (by simp) (by simp) (by simp) rfl rfl rfl (c_X0_hourOf hh (by omega) he) ?_
        refine mm_iald dX5_firstBreach_37 rfl (c := 173) rfl (by decide) rfl (by omega) (by omega) ?_
        refine mm_icle dX5_firstBreach_38 (by omega) (by omega) (fun h38 => ?_) (fun h38 => ?_)
        · refine mm_iload dX5_firstBreach_44 rfl rfl ?_
          refine mm_iconst dX5_firstBreach_46 rfl ?_
          refine mm_iadd dX5_firstBreach_47 rfl ?_
          refine mm_aload_n dX5_firstBreach_48 rfl rfl ?_
          refine mm_get (kd := 0) dX5_firstBreach_49 rfl fl_X5_47 (c := rc) rfl hrw.c0 hrw.1 rfl ?_
          refine mm_icge dX5_firstBreach_52 (by omega) (by omega) (fun h52 => ?_) (fun h52 => ?_)
          · refine mm_iconst dX5_firstBreach_62 rfl ?_
            refine stp _ ?_ (by unfold kb_at; omega)
            rw [← hstep]
            first
            | (rw [if_pos (by omega)]; omega)
            | (rw [if_neg (by omega)]; omega)
          · refine mm_iload dX5_firstBreach_55 rfl rfl ?_
            refine mm_iconst dX5_firstBreach_57 rfl ?_
            refine mm_iadd dX5_firstBreach_58 rfl ?_
            refine mm_goto dX5_firstBreach_59 ?_
            refine stp _ ?_ (by unfold kb_at; omega)
            rw [← hstep]
            first
            | (rw [if_pos (by omega)]; omega)
            | (rw [if_neg (by omega)]; omega)
        · refine mm_iload dX5_firstBreach_41 rfl rfl ?_
          refine mm_iret dX5_firstBreach_43 rfl rfl ?_
          exact mm_fin (by rw [← heq, kf_from, if_pos (show kb_at (M 4) (M (rc + 2)) (M rc 2).toNat (M 173) h e t by unfold kb_at; omega)]) rfl
  refine mm_iconst dX5_firstBreach_0 rfl ?_
  refine mm_istore dX5_firstBreach_1 rfl (Nat.le_of_ble_eq_true rfl) rfl ?_
  refine mm_iconst dX5_firstBreach_3 rfl ?_
  refine mm_istore dX5_firstBreach_4 rfl (Nat.le_of_ble_eq_true rfl) rfl ?_
  have := loop n.toNat 0 (by omega) rfl
  rw [Nat.zero_mod] at this
  exact this
theorem c_X11_breach (hR : mm_Rf M) (hK : mm_CK M) (hx : mm_R x) (hh : mm_R h) (he : mm_R e) (hn : mm_R n) (hr : ∀ i, i < 24 → mm_R (M 173 i)) (hl : ∀ k : Nat, k < 6 → 0 ≤ M (121 + 3 * k) 2 ∧ M (121 + 3 * k) 2 ≤ 100) (hst : ∀ k : Nat, k < 6 → ∀ i : Nat, (i : Int) < M (121 + 3 * k) 2 → ks_st (M 4) (M (121 + 3 * k + 2) i)) :
    mm_Fn X Y_X11_breach 243 [(2, 1), (0, x), (0, h), (0, e), (0, n)] M (0, if (0 ≤ x ∧ x ≤ 5) ∧ ks_hr h ∧ (1 ≤ e ∧ e ≤ 60) ∧ 1 ≤ n ∧ n ≤ 5000 then (if 0 < M (121 + 3 * x.toNat) 2 then kf_from (kb_at (M 4) (M (121 + 3 * x.toNat + 2)) (M (121 + 3 * x.toNat) 2).toNat (M 173) h e) 0 n.toNat else -4) else -2) M := by
  refine mm_startF (ls := [(2, 1), (0, x), (0, h), (0, e), (0, n), (9, 0)]) rfl ?_
  by_cases hs : 0 ≤ x ∧ x ≤ 5
  · have e1 := mm_keptref hR hs
    have w1 := (mm_rw_kept x.toNat (by omega)).1
    have l1 := hl x.toNat (by omega)
    refine mm_iload_n dX11_breach_0 rfl rfl ?_
    refine mm_S1i dX11_breach_1 rfl lk_X11_254 (by simp) rfl rfl rfl (c_X11_isSlot hx) ?_
    refine mm_ifeqb dX11_breach_4 (fun h4 => ?_) (fun h4 => ?_)
    · exact absurd hs h4
    · refine mm_iload_n dX11_breach_7 rfl rfl ?_
      refine mm_S1i dX11_breach_8 rfl lk_X11_165 (by simp) rfl rfl rfl (c_X11_isHour hh) ?_
      refine mm_ifeqb dX11_breach_11 (fun h11 => ?_) (fun h11 => ?_)
      · refine mm_iconst dX11_breach_25 rfl ?_
        refine mm_istore dX11_breach_26 rfl (Nat.le_of_ble_eq_true rfl) rfl ?_
        refine mm_iload dX11_breach_28 rfl rfl ?_
        refine mm_ifeq dX11_breach_30 (by omega) (fun _ => ?_) (fun h => absurd (by decide) h)
        refine mm_bipush dX11_breach_45 rfl (by decide) ?_
        refine mm_iret dX11_breach_47 rfl rfl ?_
        refine mm_fin ?_ rfl
        first
        | (rw [if_neg (fun q => h11 q.2.1)]; done)
        | (rw [if_neg (fun q => h18 q.2.2.1)]; done)
        | (rw [if_neg (fun q => h42 q.2.2.2)]; done)
      · refine mm_iload_n dX11_breach_14 rfl rfl ?_
        refine mm_S1i dX11_breach_15 rfl lk_X11_257 (by simp) rfl rfl rfl (c_X11_isEach he) ?_
        refine mm_ifeqb dX11_breach_18 (fun h18 => ?_) (fun h18 => ?_)
        · refine mm_iconst dX11_breach_25 rfl ?_
          refine mm_istore dX11_breach_26 rfl (Nat.le_of_ble_eq_true rfl) rfl ?_
          refine mm_iload dX11_breach_28 rfl rfl ?_
          refine mm_ifeq dX11_breach_30 (by omega) (fun _ => ?_) (fun h => absurd (by decide) h)
          refine mm_bipush dX11_breach_45 rfl (by decide) ?_
          refine mm_iret dX11_breach_47 rfl rfl ?_
          refine mm_fin ?_ rfl
          first
          | (rw [if_neg (fun q => h11 q.2.1)]; done)
          | (rw [if_neg (fun q => h18 q.2.2.1)]; done)
          | (rw [if_neg (fun q => h42 q.2.2.2)]; done)
        · refine mm_iconst dX11_breach_21 rfl ?_
          refine mm_goto dX11_breach_22 ?_
          refine mm_istore dX11_breach_26 rfl (Nat.le_of_ble_eq_true rfl) rfl ?_
          refine mm_iload dX11_breach_28 rfl rfl ?_
          refine mm_ifeq dX11_breach_30 (by omega) (fun h => absurd h (by decide)) (fun _ => ?_)
          refine mm_iload dX11_breach_33 rfl rfl ?_
          refine mm_iconst dX11_breach_35 rfl ?_
          refine mm_sipush dX11_breach_36 rfl (by decide) ?_
          refine mm_S3i dX11_breach_39 rfl lk_X11_171 (by simp) (by simp) (by simp) rfl rfl rfl (c_X11_isWithin hn (by omega) (by omega)) ?_
          refine mm_ifneb dX11_breach_42 (fun h42 => ?_) (fun h42 => ?_)
          · refine mm_aload_n dX11_breach_48 rfl rfl ?_
            refine mm_getr dX11_breach_49 rfl fl_X11_60 (c := 0) rfl (by decide) rfl rfl (hR.at (c := 0) (i := 7) (v := 121) rfl (by decide)) ?_
            refine mm_iload_n dX11_breach_52 rfl rfl ?_
            refine mm_aald dX11_breach_53 rfl (c := 120) rfl (by decide) rfl (by omega) (by omega) ?_
            rw [e1]
            refine mm_get (kd := 0) dX11_breach_54 rfl fl_X11_115 (c := 121 + 3 * x.toNat) rfl w1.c0 w1.1 rfl ?_
            refine mm_ifle dX11_breach_57 (by omega) (fun h57 => ?_) (fun h57 => ?_)
            · refine mm_bipush dX11_breach_84 rfl (by decide) ?_
              refine mm_iret dX11_breach_86 rfl rfl ?_
              refine mm_fin ?_ rfl
              rw [if_pos (And.intro h4 (And.intro h11 (And.intro h18 h42)))]
              first
              | (rw [if_pos (by omega)]; done)
              | (rw [if_neg (by omega)]; done)
            · refine mm_aload_n dX11_breach_60 rfl rfl ?_
              refine mm_getr dX11_breach_61 rfl fl_X11_83 (c := 0) rfl (by decide) rfl rfl (hR.at (c := 0) (i := 10) (v := 173) rfl (by decide)) ?_
              refine mm_aload_n dX11_breach_64 rfl rfl ?_
              refine mm_getr dX11_breach_65 rfl fl_X11_60 (c := 0) rfl (by decide) rfl rfl (hR.at (c := 0) (i := 7) (v := 121) rfl (by decide)) ?_
              refine mm_iload_n dX11_breach_68 rfl rfl ?_
              refine mm_aald dX11_breach_69 rfl (c := 120) rfl (by decide) rfl (by omega) (by omega) ?_
              rw [e1]
              refine mm_aload_n dX11_breach_70 rfl rfl ?_
              refine mm_getr dX11_breach_71 rfl fl_X11_19 (c := 0) rfl (by decide) rfl rfl (hR.at (c := 0) (i := 1) (v := 4) rfl (by decide)) ?_
              refine mm_iload_n dX11_breach_74 rfl rfl ?_
              refine mm_iload_n dX11_breach_75 rfl rfl ?_
              refine mm_iload dX11_breach_76 rfl rfl ?_
              refine mm_V5i dX11_breach_78 rfl lk_X11_346 (c := 172) rfl (by decide) rfl (by simp) (by simp) (by simp) (by simp) (by simp) rfl rfl rfl (c_X5_firstBreach hR hK w1 (by omega) (hst x.toNat (by omega)) h11 h18 h42 hr) ?_
              refine mm_goto dX11_breach_81 ?_
              refine mm_iret dX11_breach_86 rfl rfl ?_
              refine mm_fin ?_ rfl
              rw [if_pos (And.intro h4 (And.intro h11 (And.intro h18 h42)))]
              first
              | (rw [if_pos (by omega)]; done)
              | (rw [if_neg (by omega)]; done)
          · refine mm_bipush dX11_breach_45 rfl (by decide) ?_
            refine mm_iret dX11_breach_47 rfl rfl ?_
            refine mm_fin ?_ rfl
            first
            | (rw [if_neg (fun q => h11 q.2.1)]; done)
            | (rw [if_neg (fun q => h18 q.2.2.1)]; done)
            | (rw [if_neg (fun q => h42 q.2.2.2)]; done)
  · refine mm_iload_n dX11_breach_0 rfl rfl ?_
    refine mm_S1i dX11_breach_1 rfl lk_X11_254 (by simp) rfl rfl rfl (c_X11_isSlot hx) ?_
    refine mm_ifeqb dX11_breach_4 (fun h4 => ?_) (fun h4 => ?_)
    · refine mm_iconst dX11_breach_25 rfl ?_
      refine mm_istore dX11_breach_26 rfl (Nat.le_of_ble_eq_true rfl) rfl ?_
      refine mm_iload dX11_breach_28 rfl rfl ?_
      refine mm_ifeq dX11_breach_30 (by omega) (fun _ => ?_) (fun h => absurd (by decide) h)
      refine mm_bipush dX11_breach_45 rfl (by decide) ?_
      refine mm_iret dX11_breach_47 rfl rfl ?_
      exact mm_fin (by rw [if_neg (fun q => hs q.1)]) rfl
    · exact absurd h4 hs
end
end
/-! 59.keep -/
section
/-! ===== the reference's loops: states, breaches, keep ===== -/
/-- the state behind k acts -/
def kf_run (K : Nat → Int) (s : Int) (A : Nat → Int) : Nat → Int
  | 0 => s
  | k + 1 => ks_to K (kf_run K s A k) (A k)
def kf_mem (M : mm_M) (c : Nat) (f : Nat → Int) (n : Nat) : mm_M := fun a b => if a = c ∧ b < n then f b else M a b
theorem kf_mem_0 {M : mm_M} {c : Nat} {f : Nat → Int} : kf_mem M c f 0 = M := by
  funext a b; unfold kf_mem; rw [if_neg (by omega)]
theorem kf_mem_s {M : mm_M} {c : Nat} {f : Nat → Int} {n : Nat} : mm_up (kf_mem M c f n) c n (f n) = kf_mem M c f (n + 1) := by
  funext a b
  unfold mm_up kf_mem
  by_cases h : a = c ∧ b = n
  · rw [if_pos h, if_pos (by omega), h.2]
  · rw [if_neg h]
    by_cases h2 : a = c ∧ b < n
    · rw [if_pos h2, if_pos (by omega)]
    · rw [if_neg h2, if_neg (by omega)]
theorem kf_mem_n {M : mm_M} {c a : Nat} {f : Nat → Int} {n : Nat} (h : a ≠ c) : kf_mem M c f n a = M a := by
  funext b; unfold kf_mem; rw [if_neg (fun q => h q.1)]
theorem mm_Rf.fm {M : mm_M} (h : mm_Rf M) {c len n : Nat} {f : Nat → Int} (hs : mm_sh c = (1, len)) : mm_Rf (kf_mem M c f n) := by
  intro a b hab
  unfold kf_mem
  rw [if_neg (fun q => hab (by rw [q.1]; exact mm_rt_arr hs b))]
  exact h a b hab
section
variable {X : mm_X} {M : mm_M} {x : Int} {c : Nat}
theorem mm_rk_congr {M N : mm_M} (h1 : N 186 = M 186) (h2 : N 183 16 = M 183 16) (h3 : N 188 = M 188) (h4 : N 190 = M 190) : mm_rk N = mm_rk M := by
  funext i
  unfold mm_rk
  rw [h1, h2, h3, h4]
theorem c_X13_findStates (hR : mm_Rf M) (hc : c = 226 ∨ c = 227) (hx : 0 ≤ x ∧ x < 14) (hm : 0 ≤ M 216 x.toNat ∧ M 216 x.toNat ≤ 100) (hs : mm_R (M 217 x.toNat)) (ha : ∀ i : Nat, (i : Int) < M 216 x.toNat → 0 ≤ M 219 (100 * x.toNat + i) ∧ M 219 (100 * x.toNat + i) < 1000) :
    mm_Fn X Y_X13_findStates 243 [(2, 184), (0, x), (2, (c : Int) + 1)] M (3, 0) (kf_mem M c (kf_run (mm_rk M) (M 217 x.toNat) (fun i => M 219 (100 * x.toNat + i))) (M 216 x.toNat).toNat) := by
  have hsc : mm_sh c = (1, 100) := by rcases hc with rfl | rfl <;> rfl
  have hcn : c < 243 := by omega
  refine mm_startF (ls := [(2, 184), (0, x), (2, (c : Int) + 1), (9, 0), (9, 0)]) rfl ?_
  have loop : ∀ (k i : Nat), i + k = (M 216 x.toNat).toNat → mm_J X Y_X13_findStates 243 243 243 10 [(2, 184), (0, x), (2, (c : Int) + 1), (0, kf_run (mm_rk M) (M 217 x.toNat) (fun i => M 219 (100 * x.toNat + i)) i), (0, (i : Int))] [] (kf_mem M c (kf_run (mm_rk M) (M 217 x.toNat) (fun i => M 219 (100 * x.toNat + i))) i) (fun r' M'' => r' = (3, 0) ∧ M'' = kf_mem M c (kf_run (mm_rk M) (M 217 x.toNat) (fun i => M 219 (100 * x.toNat + i))) (M 216 x.toNat).toNat) := by
    intro k
    induction k with
    | zero =>
      intro i hi
      obtain ⟨N, hN⟩ : ∃ N, N = kf_mem M c (kf_run (mm_rk M) (M 217 x.toNat) (fun i => M 219 (100 * x.toNat + i))) i := ⟨_, rfl⟩
      have hRN : mm_Rf N := by rw [hN]; exact hR.fm hsc
      have e216 : N 216 = M 216 := by rw [hN]; exact kf_mem_n (by omega)
      have ei : i = (M 216 x.toNat).toNat := by omega
      rw [← hN]
      refine mm_iload dX13_findStates_10 rfl rfl ?_
      refine mm_aload_n dX13_findStates_12 rfl rfl ?_
      refine mm_getr dX13_findStates_13 rfl fl_X13_295 (c := 183) rfl (by decide) rfl rfl (hRN.at (c := 183) (i := 64) (v := 217) rfl (by decide)) ?_
      refine mm_iload_n dX13_findStates_16 rfl rfl ?_
      refine mm_iald dX13_findStates_17 rfl (c := 216) rfl (by decide) rfl (by omega) (by omega) ?_
      rw [e216]
      refine mm_icge dX13_findStates_18 (by omega) (by omega) (fun h18 => ?_) (fun h18 => ?_)
      · refine mm_vret dX13_findStates_50 rfl rfl ?_
        exact mm_fin rfl (by rw [hN, ei])
      · exfalso; omega
    | succ k ih =>
      intro i hi
      obtain ⟨N, hN⟩ : ∃ N, N = kf_mem M c (kf_run (mm_rk M) (M 217 x.toNat) (fun i => M 219 (100 * x.toNat + i))) i := ⟨_, rfl⟩
      have hRN : mm_Rf N := by rw [hN]; exact hR.fm hsc
      have e216 : N 216 = M 216 := by rw [hN]; exact kf_mem_n (by omega)
      have hai := ha i (by omega)
      rw [← hN]
      refine mm_iload dX13_findStates_10 rfl rfl ?_
      refine mm_aload_n dX13_findStates_12 rfl rfl ?_
      refine mm_getr dX13_findStates_13 rfl fl_X13_295 (c := 183) rfl (by decide) rfl rfl (hRN.at (c := 183) (i := 64) (v := 217) rfl (by decide)) ?_
      refine mm_iload_n dX13_findStates_16 rfl rfl ?_
      refine mm_iald dX13_findStates_17 rfl (c := 216) rfl (by decide) rfl (by omega) (by omega) ?_
      rw [e216]
      refine mm_icge dX13_findStates_18 (by omega) (by omega) (fun h18 => ?_) (fun h18 => ?_)
      · exfalso; omega
      · refine mm_aload_n dX13_findStates_21 rfl rfl ?_
        refine mm_iload dX13_findStates_22 rfl rfl ?_
        refine mm_iload_n dX13_findStates_24 rfl rfl ?_
        refine mm_istk (k0 := i) dX13_findStates_25 rfl (c := c) rfl hcn hsc (by omega) (by omega) (fun M25 hM25 => ?_)
        have hR25 : mm_Rf M25 := by rw [hM25]; exact hRN.up (mm_rt_arr hsc _)
        refine mm_aload_n dX13_findStates_26 rfl rfl ?_
        refine mm_iload_n dX13_findStates_27 rfl rfl ?_
        refine mm_aload_n dX13_findStates_28 rfl rfl ?_
        refine mm_getr dX13_findStates_29 rfl fl_X13_304 (c := 183) rfl (by decide) rfl rfl (hR25.at (c := 183) (i := 67) (v := 220) rfl (by decide)) ?_
        refine mm_bipush dX13_findStates_32 rfl (by decide) ?_
        refine mm_iload_n dX13_findStates_34 rfl rfl ?_
        refine mm_imul dX13_findStates_35 rfl ?_
        refine mm_iload dX13_findStates_36 rfl rfl ?_
        refine mm_iadd dX13_findStates_38 rfl ?_
        refine mm_ialk (k0 := (100 * x.toNat + i)) dX13_findStates_39 rfl (c := 219) rfl (by decide) rfl (by omega) (by omega) ?_
        have e25 : M25 = kf_mem M c (kf_run (mm_rk M) (M 217 x.toNat) (fun i => M 219 (100 * x.toNat + i))) (i + 1) := by rw [hM25, hN]; exact kf_mem_s
        have f219 : M25 219 = M 219 := by rw [e25]; exact kf_mem_n (by omega)
        have fk : mm_rk M25 = mm_rk M := by
          refine mm_rk_congr ?_ ?_ ?_ ?_ <;> rw [e25, kf_mem_n (by omega)]
        rw [f219]
        refine mm_V2i dX13_findStates_40 rfl lk_X13_476 (c := 183) rfl (by decide) rfl (by simp) (by simp) rfl rfl rfl (c_X13_after hR25 hai) ?_
        refine mm_istore_n dX13_findStates_43 rfl (Nat.le_of_ble_eq_true rfl) rfl ?_
        refine mm_iinc dX13_findStates_44 rfl rfl (Nat.le_of_ble_eq_true rfl) rfl ?_
        refine mm_goto dX13_findStates_47 ?_
        rw [fk, e25]
        exact ih (i + 1) (by omega)
  refine mm_aload_n dX13_findStates_0 rfl rfl ?_
  refine mm_getr dX13_findStates_1 rfl fl_X13_298 (c := 183) rfl (by decide) rfl rfl (hR.at (c := 183) (i := 65) (v := 218) rfl (by decide)) ?_
  refine mm_iload_n dX13_findStates_4 rfl rfl ?_
  refine mm_iald dX13_findStates_5 rfl (c := 217) rfl (by decide) rfl (by omega) (by omega) ?_
  refine mm_istore_n dX13_findStates_6 rfl (Nat.le_of_ble_eq_true rfl) rfl ?_
  refine mm_iconst dX13_findStates_7 rfl ?_
  refine mm_istore dX13_findStates_8 rfl (Nat.le_of_ble_eq_true rfl) rfl ?_
  have := loop (M 216 x.toNat).toNat 0 (by omega)
  rw [kf_mem_0] at this
  exact this
theorem c_X11_keep (hR : mm_Rf M) (hx : mm_R x) (hz : M 0 12 = 0 ∨ M 0 12 = 1) (hz2 : M 117 9 = 0 ∨ M 117 9 = 1) (hl : 0 ≤ M 117 2 ∧ M 117 2 ≤ 100) :
    mm_Fn X Y_X11_keep 243 [(2, 1), (0, x)] M (0, if 0 ≤ x ∧ x ≤ 5 then (if M 0 12 = 1 ∧ M 117 9 = 1 then M 117 2 else -4) else -2) (if (0 ≤ x ∧ x ≤ 5) ∧ M 0 12 = 1 ∧ M 117 9 = 1 then mm_cf M (121 + 3 * x.toNat) 117 100 else M) := by
  refine mm_startF (ls := [(2, 1), (0, x)]) rfl ?_
  by_cases hs : 0 ≤ x ∧ x ≤ 5
  · have e1 := mm_keptref hR hs
    have w1 := (mm_rw_kept x.toNat (by omega)).1
    have hcf := c_X8_copyFrom (X := X) (M := M) (rc := 121 + 3 * x.toNat) (rd := 117) hR w1 mm_rw_judged (by omega) hl
    obtain ⟨N, hN⟩ : ∃ N, N = mm_cf M (121 + 3 * x.toNat) 117 100 := ⟨_, rfl⟩
    rw [← hN] at hcf
    have hRN : mm_Rf N := by
      intro a b hab
      rw [hN]
      unfold mm_cf
      rw [if_neg (fun q => hab (by rw [q.1]; exact mm_rt_row w1 (by omega))), if_neg (fun q => hab (by rw [q.1]; exact mm_rt_row w1 (by omega))), if_neg (fun q => hab (by rw [q.1]; exact mm_rt_arr w1.2.1 b)), if_neg (fun q => hab (by rw [q.1]; exact mm_rt_arr w1.2.2.1 b))]
      exact hR a b hab
    have el : N 117 2 = M 117 2 := by
      rw [hN]; unfold mm_cf
      rw [if_neg (by omega), if_neg (by omega), if_neg (by omega), if_neg (by omega)]
    refine mm_iload_n dX11_keep_0 rfl rfl ?_
    refine mm_S1i dX11_keep_1 rfl lk_X11_254 (by simp) rfl rfl rfl (c_X11_isSlot hx) ?_
    refine mm_ifneb dX11_keep_4 (fun h4 => ?_) (fun h4 => ?_)
    · refine mm_aload_n dX11_keep_10 rfl rfl ?_
      refine mm_get (kd := 0) dX11_keep_11 rfl fl_X11_116 (c := 0) rfl (by decide) rfl rfl ?_
      refine mm_ifeq dX11_keep_14 (by omega) (fun h14 => ?_) (fun h14 => ?_)
      · refine mm_bipush dX11_keep_27 rfl (by decide) ?_
        refine mm_iret dX11_keep_29 rfl rfl ?_
        exact mm_fin (by rw [if_pos hs, if_neg (by omega)]) (by rw [if_neg (by omega)])
      · refine mm_aload_n dX11_keep_17 rfl rfl ?_
        refine mm_getr dX11_keep_18 rfl fl_X11_57 (c := 0) rfl (by decide) rfl rfl (hR.at (c := 0) (i := 6) (v := 118) rfl (by decide)) ?_
        refine mm_get (kd := 0) dX11_keep_21 rfl fl_X11_251 (c := 117) rfl (by decide) rfl rfl ?_
        refine mm_ifne dX11_keep_24 (by omega) (fun h24 => ?_) (fun h24 => ?_)
        · refine mm_aload_n dX11_keep_30 rfl rfl ?_
          refine mm_getr dX11_keep_31 rfl fl_X11_60 (c := 0) rfl (by decide) rfl rfl (hR.at (c := 0) (i := 7) (v := 121) rfl (by decide)) ?_
          refine mm_iload_n dX11_keep_34 rfl rfl ?_
          refine mm_aald dX11_keep_35 rfl (c := 120) rfl (by decide) rfl (by omega) (by omega) ?_
          rw [e1]
          refine mm_aload_n dX11_keep_36 rfl rfl ?_
          refine mm_getr dX11_keep_37 rfl fl_X11_57 (c := 0) rfl (by decide) rfl rfl (hR.at (c := 0) (i := 6) (v := 118) rfl (by decide)) ?_
          refine mm_V1v dX11_keep_40 rfl lk_X11_212 (c := 121 + 3 * x.toNat) rfl w1.c0 w1.1 (by simp) rfl rfl rfl (hcf) ?_
          refine mm_aload_n dX11_keep_43 rfl rfl ?_
          refine mm_getr dX11_keep_44 rfl fl_X11_57 (c := 0) rfl (by decide) rfl rfl (hRN.at (c := 0) (i := 6) (v := 118) rfl (by decide)) ?_
          refine mm_get (kd := 0) dX11_keep_47 rfl fl_X11_115 (c := 117) rfl (by decide) rfl rfl ?_
          refine mm_iret dX11_keep_50 rfl rfl ?_
          exact mm_fin (by rw [if_pos hs, if_pos (by omega), el]) (by rw [if_pos (by omega), hN])
        · refine mm_bipush dX11_keep_27 rfl (by decide) ?_
          refine mm_iret dX11_keep_29 rfl rfl ?_
          exact mm_fin (by rw [if_pos hs, if_neg (by omega)]) (by rw [if_neg (by omega)])
    · exact absurd hs h4
  · refine mm_iload_n dX11_keep_0 rfl rfl ?_
    refine mm_S1i dX11_keep_1 rfl lk_X11_254 (by simp) rfl rfl rfl (c_X11_isSlot hx) ?_
    refine mm_ifneb dX11_keep_4 (fun h4 => ?_) (fun h4 => ?_)
    · exact absurd h4 hs
    · refine mm_bipush dX11_keep_7 rfl (by decide) ?_
      refine mm_iret dX11_keep_9 rfl rfl ?_
      exact mm_fin (by rw [if_neg hs]) (by rw [if_neg (fun q => hs q.1)])
end
end
