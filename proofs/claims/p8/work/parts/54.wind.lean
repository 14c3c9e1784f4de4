/-! ===== winds told, laws ===== -/
/-- the class's memory behind a wind that was told -/
def mw_take (M : mm_M) (t h b lo hi : Int) : mm_M :=
  mm_up (mm_up (mm_up (mm_up (mm_up (mm_up (mm_up (mm_up M 16 (h * 5 + b).toNat lo) 17 (h * 5 + b).toNat hi) 12 (M 11 1).toNat t) 13 (M 11 1).toNat (h * 5 + b)) 14 (M 11 1).toNat lo) 15 (M 11 1).toNat hi) 11 2 t) 11 1 (M 11 1 + 1)
/-- the reference's -/
def mw_takeR (M : mm_M) (t h b lo hi : Int) : mm_M :=
  mm_up (mm_up (mm_up (mm_up (mm_up (mm_up (mm_up (mm_up (mm_up M 183 28 t) 198 (M 183 27).toNat h) 199 (M 183 27).toNat b) 200 (M 183 27).toNat lo) 201 (M 183 27).toNat hi) 202 (M 183 27).toNat t) 183 27 (M 183 27 + 1)) 203 (5 * h + b).toNat lo) 204 (5 * h + b).toNat hi
abbrev kw_ok (last t h b lo hi : Int) : Prop := (last ≤ t ∧ t ≤ 999) ∧ ks_hr h ∧ (0 ≤ b ∧ b ≤ 4) ∧ 0 ≤ lo ∧ lo ≤ hi ∧ hi ≤ 60
section
variable {X : mm_X} {M : mm_M} {s a m w d p h b sh x y z k l u v t lo hi fr to : Int}
theorem c_X0_take (hR : mm_Rf M) (hh : ks_hr h) (hb : 0 ≤ b ∧ b ≤ 4) (hc : 0 ≤ M 11 1 ∧ M 11 1 < 200) : mm_Fn X Y_X0_take 243 [(2, 12), (0, t), (0, h), (0, b), (0, lo), (0, hi)] M (3, 0) (mw_take M t h b lo hi) := by
  refine mm_startF (ls := [(2, 12), (0, t), (0, h), (0, b), (0, lo), (0, hi), (9, 0)]) rfl ?_
  refine mm_iload_n dX0_take_0 rfl rfl ?_
  refine mm_iload_n dX0_take_1 rfl rfl ?_
  refine mm_S2i dX0_take_2 rfl lk_X0_48 (by simp) (by simp) rfl rfl rfl (c_X0_placeOf) ?_
  refine mm_istore dX0_take_5 rfl (Nat.le_of_ble_eq_true rfl) rfl ?_
  refine mm_aload_n dX0_take_7 rfl rfl ?_
  refine mm_getr dX0_take_8 rfl fl_X0_26 (c := 11) rfl (by decide) rfl rfl (hR.at (c := 11) (i := 7) (v := 17) rfl (by decide)) ?_
  refine mm_iload dX0_take_11 rfl rfl ?_
  refine mm_iload dX0_take_13 rfl rfl ?_
  refine mm_isto dX0_take_15 rfl (c := 16) rfl (by decide) rfl (by omega) (by omega) (fun M15 hM15 => ?_)
  have hR15 : mm_Rf M15 := by rw [hM15]; exact hR.up (mm_rt_ar (t := 0) rfl (by decide))
  refine mm_aload_n dX0_take_16 rfl rfl ?_
  refine mm_getr dX0_take_17 rfl fl_X0_29 (c := 11) rfl (by decide) rfl rfl (hR15.at (c := 11) (i := 8) (v := 18) rfl (by decide)) ?_
  refine mm_iload dX0_take_20 rfl rfl ?_
  refine mm_iload dX0_take_22 rfl rfl ?_
  refine mm_isto dX0_take_24 rfl (c := 17) rfl (by decide) rfl (by omega) (by omega) (fun M24 hM24 => ?_)
  have hR24 : mm_Rf M24 := by rw [hM24]; exact hR15.up (mm_rt_ar (t := 0) rfl (by decide))
  refine mm_aload_n dX0_take_25 rfl rfl ?_
  refine mm_getr dX0_take_26 rfl fl_X0_11 (c := 11) rfl (by decide) rfl rfl (hR24.at (c := 11) (i := 3) (v := 13) rfl (by decide)) ?_
  refine mm_aload_n dX0_take_29 rfl rfl ?_
  refine mm_get (kd := 0) dX0_take_30 rfl fl_X0_51 (c := 11) rfl (by decide) rfl rfl ?_
  have e24 : M24 11 1 = M 11 1 := by simp [hM24, hM15, mm_up]
  rw [e24]
  refine mm_iload_n dX0_take_33 rfl rfl ?_
  refine mm_isto dX0_take_34 rfl (c := 12) rfl (by decide) rfl (by omega) (by omega) (fun M34 hM34 => ?_)
  have hR34 : mm_Rf M34 := by rw [hM34]; exact hR24.up (mm_rt_ar (t := 0) rfl (by decide))
  refine mm_aload_n dX0_take_35 rfl rfl ?_
  refine mm_getr dX0_take_36 rfl fl_X0_15 (c := 11) rfl (by decide) rfl rfl (hR34.at (c := 11) (i := 4) (v := 14) rfl (by decide)) ?_
  refine mm_aload_n dX0_take_39 rfl rfl ?_
  refine mm_get (kd := 0) dX0_take_40 rfl fl_X0_51 (c := 11) rfl (by decide) rfl rfl ?_
  have e34 : M34 11 1 = M 11 1 := by simp [hM34, e24, mm_up]
  rw [e34]
  refine mm_iload dX0_take_43 rfl rfl ?_
  refine mm_isto dX0_take_45 rfl (c := 13) rfl (by decide) rfl (by omega) (by omega) (fun M45 hM45 => ?_)
  have hR45 : mm_Rf M45 := by rw [hM45]; exact hR34.up (mm_rt_ar (t := 0) rfl (by decide))
  refine mm_aload_n dX0_take_46 rfl rfl ?_
  refine mm_getr dX0_take_47 rfl fl_X0_18 (c := 11) rfl (by decide) rfl rfl (hR45.at (c := 11) (i := 5) (v := 15) rfl (by decide)) ?_
  refine mm_aload_n dX0_take_50 rfl rfl ?_
  refine mm_get (kd := 0) dX0_take_51 rfl fl_X0_51 (c := 11) rfl (by decide) rfl rfl ?_
  have e45 : M45 11 1 = M 11 1 := by simp [hM45, e34, mm_up]
  rw [e45]
  refine mm_iload dX0_take_54 rfl rfl ?_
  refine mm_isto dX0_take_56 rfl (c := 14) rfl (by decide) rfl (by omega) (by omega) (fun M56 hM56 => ?_)
  have hR56 : mm_Rf M56 := by rw [hM56]; exact hR45.up (mm_rt_ar (t := 0) rfl (by decide))
  refine mm_aload_n dX0_take_57 rfl rfl ?_
  refine mm_getr dX0_take_58 rfl fl_X0_21 (c := 11) rfl (by decide) rfl rfl (hR56.at (c := 11) (i := 6) (v := 16) rfl (by decide)) ?_
  refine mm_aload_n dX0_take_61 rfl rfl ?_
  refine mm_get (kd := 0) dX0_take_62 rfl fl_X0_51 (c := 11) rfl (by decide) rfl rfl ?_
  have e56 : M56 11 1 = M 11 1 := by simp [hM56, e45, mm_up]
  rw [e56]
  refine mm_iload dX0_take_65 rfl rfl ?_
  refine mm_isto dX0_take_67 rfl (c := 15) rfl (by decide) rfl (by omega) (by omega) (fun M67 hM67 => ?_)
  have hR67 : mm_Rf M67 := by rw [hM67]; exact hR56.up (mm_rt_ar (t := 0) rfl (by decide))
  refine mm_aload_n dX0_take_68 rfl rfl ?_
  refine mm_iload_n dX0_take_69 rfl rfl ?_
  refine mm_puti dX0_take_70 rfl fl_X0_55 (c := 11) rfl (by decide) rfl rfl (fun M70 hM70 => ?_)
  have hR70 : mm_Rf M70 := by rw [hM70]; exact hR67.up rfl
  refine mm_aload_n dX0_take_73 rfl rfl ?_
  refine mm_dup dX0_take_74 rfl (by simp) ?_
  refine mm_get (kd := 0) dX0_take_75 rfl fl_X0_51 (c := 11) rfl (by decide) rfl rfl ?_
  have e70 : M70 11 1 = M 11 1 := by simp [hM70, hM67, e56, mm_up]
  rw [e70]
  refine mm_iconst dX0_take_78 rfl ?_
  refine mm_iadd dX0_take_79 rfl ?_
  refine mm_puti dX0_take_80 rfl fl_X0_51 (c := 11) rfl (by decide) rfl rfl (fun M80 hM80 => ?_)
  have hR80 : mm_Rf M80 := by rw [hM80]; exact hR70.up rfl
  refine mm_vret dX0_take_83 rfl rfl ?_
  exact mm_fin rfl (by rw [hM80, hM70, hM67, hM56, hM45, hM34, hM24, hM15]; rfl)
theorem c_X11_wind (hR : mm_Rf M) (ht : mm_R t) (hh : mm_R h) (hb : mm_R b) (hlo : mm_R lo) (hhi : mm_R hi) (hl : 0 ≤ M 11 2 ∧ M 11 2 ≤ 999) (hc : 0 ≤ M 11 1 ∧ M 11 1 ≤ 200) :
    mm_Fn X Y_X11_wind 243 [(2, 1), (0, t), (0, h), (0, b), (0, lo), (0, hi)] M (0, if kw_ok (M 11 2) t h b lo hi then (if 200 ≤ M 11 1 then -3 else M 11 1 + 1) else -2) (if kw_ok (M 11 2) t h b lo hi ∧ M 11 1 < 200 then mm_up (mw_take M t h b lo hi) 23 h.toNat 0 else M) := by
  refine mm_startF (ls := [(2, 1), (0, t), (0, h), (0, b), (0, lo), (0, hi), (9, 0)]) rfl ?_
  refine mm_iload_n dX11_wind_0 rfl rfl ?_
  refine mm_S1i dX11_wind_1 rfl lk_X11_165 (by simp) rfl rfl rfl (c_X11_isHour hh) ?_
  refine mm_ifeqb dX11_wind_4 (fun h4 => ?_) (fun h4 => ?_)
  · refine mm_iconst dX11_wind_36 rfl ?_
    refine mm_istore dX11_wind_37 rfl (Nat.le_of_ble_eq_true rfl) rfl ?_
    refine mm_iload dX11_wind_39 rfl rfl ?_
    refine mm_ifeq dX11_wind_41 (by omega) (fun _ => ?_) (fun h => absurd (by decide) h)
    refine mm_bipush dX11_wind_61 rfl (by decide) ?_
    refine mm_iret dX11_wind_63 rfl rfl ?_
    refine mm_fin ?_ ?_
    · rw [if_neg (by unfold kw_ok; omega)]
    · rw [if_neg (by unfold kw_ok; omega)]
  · refine mm_iload_n dX11_wind_7 rfl rfl ?_
    refine mm_S1i dX11_wind_8 rfl lk_X11_168 (by simp) rfl rfl rfl (c_X11_isBand hb) ?_
    refine mm_ifeqb dX11_wind_11 (fun h11 => ?_) (fun h11 => ?_)
    · refine mm_iconst dX11_wind_36 rfl ?_
      refine mm_istore dX11_wind_37 rfl (Nat.le_of_ble_eq_true rfl) rfl ?_
      refine mm_iload dX11_wind_39 rfl rfl ?_
      refine mm_ifeq dX11_wind_41 (by omega) (fun _ => ?_) (fun h => absurd (by decide) h)
      refine mm_bipush dX11_wind_61 rfl (by decide) ?_
      refine mm_iret dX11_wind_63 rfl rfl ?_
      refine mm_fin ?_ ?_
      · rw [if_neg (by unfold kw_ok; omega)]
      · rw [if_neg (by unfold kw_ok; omega)]
    · refine mm_iload dX11_wind_14 rfl rfl ?_
      refine mm_iconst dX11_wind_16 rfl ?_
      refine mm_iload dX11_wind_17 rfl rfl ?_
      refine mm_S3i dX11_wind_19 rfl lk_X11_171 (by simp) (by simp) (by simp) rfl rfl rfl (c_X11_isWithin (by omega) (by omega) (by omega)) ?_
      refine mm_ifeqb dX11_wind_22 (fun h22 => ?_) (fun h22 => ?_)
      · refine mm_iconst dX11_wind_36 rfl ?_
        refine mm_istore dX11_wind_37 rfl (Nat.le_of_ble_eq_true rfl) rfl ?_
        refine mm_iload dX11_wind_39 rfl rfl ?_
        refine mm_ifeq dX11_wind_41 (by omega) (fun _ => ?_) (fun h => absurd (by decide) h)
        refine mm_bipush dX11_wind_61 rfl (by decide) ?_
        refine mm_iret dX11_wind_63 rfl rfl ?_
        refine mm_fin ?_ ?_
        · rw [if_neg (by unfold kw_ok; omega)]
        · rw [if_neg (by unfold kw_ok; omega)]
      · refine mm_iload dX11_wind_25 rfl rfl ?_
        refine mm_bipush dX11_wind_27 rfl (by decide) ?_
        refine mm_icgt dX11_wind_29 (by omega) (by omega) (fun h29 => ?_) (fun h29 => ?_)
        · refine mm_iconst dX11_wind_36 rfl ?_
          refine mm_istore dX11_wind_37 rfl (Nat.le_of_ble_eq_true rfl) rfl ?_
          refine mm_iload dX11_wind_39 rfl rfl ?_
          refine mm_ifeq dX11_wind_41 (by omega) (fun _ => ?_) (fun h => absurd (by decide) h)
          refine mm_bipush dX11_wind_61 rfl (by decide) ?_
          refine mm_iret dX11_wind_63 rfl rfl ?_
          refine mm_fin ?_ ?_
          · rw [if_neg (by unfold kw_ok; omega)]
          · rw [if_neg (by unfold kw_ok; omega)]
        · refine mm_iconst dX11_wind_32 rfl ?_
          refine mm_goto dX11_wind_33 ?_
          refine mm_istore dX11_wind_37 rfl (Nat.le_of_ble_eq_true rfl) rfl ?_
          refine mm_iload dX11_wind_39 rfl rfl ?_
          refine mm_ifeq dX11_wind_41 (by omega) (fun h => absurd h (by decide)) (fun _ => ?_)
          refine mm_iload_n dX11_wind_44 rfl rfl ?_
          refine mm_aload_n dX11_wind_45 rfl rfl ?_
          refine mm_getr dX11_wind_46 rfl fl_X11_28 (c := 0) rfl (by decide) rfl rfl (hR.at (c := 0) (i := 2) (v := 12) rfl (by decide)) ?_
          refine mm_get (kd := 0) dX11_wind_49 rfl fl_X11_175 (c := 11) rfl (by decide) rfl rfl ?_
          refine mm_sipush dX11_wind_52 rfl (by decide) ?_
          refine mm_S3i dX11_wind_55 rfl lk_X11_171 (by simp) (by simp) (by simp) rfl rfl rfl (c_X11_isWithin (by omega) (by omega) (by omega)) ?_
          refine mm_ifneb dX11_wind_58 (fun h58 => ?_) (fun h58 => ?_)
          · refine mm_aload_n dX11_wind_64 rfl rfl ?_
            refine mm_getr dX11_wind_65 rfl fl_X11_28 (c := 0) rfl (by decide) rfl rfl (hR.at (c := 0) (i := 2) (v := 12) rfl (by decide)) ?_
            refine mm_get (kd := 0) dX11_wind_68 rfl fl_X11_178 (c := 11) rfl (by decide) rfl rfl ?_
            refine mm_sipush dX11_wind_71 rfl (by decide) ?_
            refine mm_iclt dX11_wind_74 (by omega) (by omega) (fun h74 => ?_) (fun h74 => ?_)
            · refine mm_aload_n dX11_wind_80 rfl rfl ?_
              refine mm_getr dX11_wind_81 rfl fl_X11_28 (c := 0) rfl (by decide) rfl rfl (hR.at (c := 0) (i := 2) (v := 12) rfl (by decide)) ?_
              refine mm_iload_n dX11_wind_84 rfl rfl ?_
              refine mm_iload_n dX11_wind_85 rfl rfl ?_
              refine mm_iload_n dX11_wind_86 rfl rfl ?_
              refine mm_iload dX11_wind_87 rfl rfl ?_
              refine mm_iload dX11_wind_89 rfl rfl ?_
              have hT := c_X0_take (X := X) (t := t) (lo := lo) (hi := hi) hR h4 h11 ⟨hc.1, h74⟩
              obtain ⟨Mt, hMt⟩ : ∃ m, m = mw_take M t h b lo hi := ⟨_, rfl⟩
              rw [← hMt] at hT
              have hRt : mm_Rf Mt := by
                rw [hMt]; unfold mw_take
                exact ((((((((hR.up (mm_rt_ar (t := 0) rfl (by decide))).up (mm_rt_ar (t := 0) rfl (by decide))).up (mm_rt_ar (t := 0) rfl (by decide))).up (mm_rt_ar (t := 0) rfl (by decide))).up (mm_rt_ar (t := 0) rfl (by decide))).up (mm_rt_ar (t := 0) rfl (by decide))).up rfl).up rfl)
              refine mm_V5v dX11_wind_91 rfl lk_X11_181 (c := 11) rfl (by decide) rfl (by simp) (by simp) (by simp) (by simp) (by simp) rfl rfl rfl (hT) ?_
              refine mm_aload_n dX11_wind_94 rfl rfl ?_
              refine mm_getr dX11_wind_95 rfl fl_X11_44 (c := 0) rfl (by decide) rfl rfl (hRt.at (c := 0) (i := 4) (v := 22) rfl (by decide)) ?_
              refine mm_iload_n dX11_wind_98 rfl rfl ?_
              refine mm_V1v dX11_wind_99 rfl lk_X11_185 (c := 21) rfl (by decide) rfl (by simp) rfl rfl rfl (c_X3_forgetHour hRt h4) ?_
              skip
              have hRu : mm_Rf (mm_up Mt 23 h.toNat 0) := hRt.up (mm_rt_ar (t := 2) rfl (by decide))
              refine mm_aload_n dX11_wind_102 rfl rfl ?_
              skip
              refine mm_getr dX11_wind_103 rfl fl_X11_28 (c := 0) rfl (by decide) rfl rfl (hRt.at (c := 0) (i := 2) (v := 12) rfl (by decide)) ?_
              refine mm_get (kd := 0) dX11_wind_106 rfl fl_X11_178 (c := 11) rfl (by decide) rfl rfl ?_
              refine mm_iret dX11_wind_109 rfl rfl ?_
              refine mm_fin ?_ ?_
              · rw [if_pos (by unfold kw_ok; omega), if_neg (by omega), hMt]
                simp [mw_take, mm_up]
              · rw [if_pos (by unfold kw_ok; omega), hMt]
            · refine mm_bipush dX11_wind_77 rfl (by decide) ?_
              refine mm_iret dX11_wind_79 rfl rfl ?_
              refine mm_fin ?_ ?_
              · rw [if_pos (by unfold kw_ok; omega), if_pos (by omega)]
              · rw [if_neg (by omega)]
          · refine mm_bipush dX11_wind_61 rfl (by decide) ?_
            refine mm_iret dX11_wind_63 rfl rfl ?_
            refine mm_fin ?_ ?_
            · rw [if_neg (by unfold kw_ok; omega)]
            · rw [if_neg (by unfold kw_ok; omega)]
def kw_roofs (R : Nat → Int) (fr to ht : Int) : Nat → Int := fun i => if fr ≤ i ∧ (i : Int) ≤ to then min (R i) ht else R i
theorem c_X5_add (hR : mm_Rf M) (hf : ks_hr fr) (ht : ks_hr to) (hft : fr ≤ to) (hx : mm_R x) (hr : ∀ i, i < 24 → mm_R (M 173 i)) (hc : mm_R (M 172 0)) :
    mm_Fn X Y_X5_add 243 [(2, 173), (0, fr), (0, to), (0, x)] M (0, M 172 0 + 1) (mm_up (fun a b => if a = 173 then kw_roofs (M 173) fr to x b else M a b) 172 0 (M 172 0 + 1)) := by
  refine mm_startF (ls := [(2, 173), (0, fr), (0, to), (0, x), (9, 0)]) rfl ?_
  have loop : ∀ (k : Nat) (j : Int) (N : mm_M), mm_Rf N → fr ≤ j → j + k = to + 1 → (∀ a b, N a b = if a = 173 then kw_roofs (M 173) fr (j - 1) x b else M a b) →
      mm_J X Y_X5_add 243 243 243 3 [(2, 173), (0, fr), (0, to), (0, x), (0, j)] [] N (fun r' M'' => r' = (0, M 172 0 + 1) ∧ M'' = mm_up (fun a b => if a = 173 then kw_roofs (M 173) fr to x b else M a b) 172 0 (M 172 0 + 1)) := by
    intro k
    induction k with
    | zero =>
      intro j N hRN hj hk hN
      have ej : j - 1 = to := by omega
      rw [ej] at hN
      have eN : N = fun a b => if a = 173 then kw_roofs (M 173) fr to x b else M a b := by
        funext a b; exact hN a b
      have ec : N 172 0 = M 172 0 := by rw [hN, if_neg (by decide)]
      refine mm_iload dX5_add_3 rfl rfl ?_
      refine mm_iload_n dX5_add_5 rfl rfl ?_
      refine mm_icgt dX5_add_6 (by omega) (by omega) (fun h6 => ?_) (fun h6 => ?_)
      · refine mm_aload_n dX5_add_33 rfl rfl ?_
        refine mm_dup dX5_add_34 rfl (by simp) ?_
        refine mm_get (kd := 0) dX5_add_35 rfl fl_X5_29 (c := 172) rfl (by decide) rfl rfl ?_
        refine mm_iconst dX5_add_38 rfl ?_
        refine mm_iadd dX5_add_39 rfl ?_
        refine mm_puti dX5_add_40 rfl fl_X5_29 (c := 172) rfl (by decide) rfl rfl (fun M40 hM40 => ?_)
        have hR40 : mm_Rf M40 := by rw [hM40]; exact hRN.up rfl
        refine mm_aload_n dX5_add_43 rfl rfl ?_
        refine mm_get (kd := 0) dX5_add_44 rfl fl_X5_29 (c := 172) rfl (by decide) rfl rfl ?_
        refine mm_iret dX5_add_47 rfl rfl ?_
        exact mm_fin (by rw [hM40, mm_up_s, ec]) (by rw [hM40, ec, eN])
      · exfalso; omega
    | succ k ih =>
      intro j N hRN hj hk hN
      have er : N 173 j.toNat = M 173 j.toNat := by
        rw [hN, if_pos rfl]
        unfold kw_roofs
        rw [if_neg (by omega)]
      have q := hr j.toNat (by omega)
      refine mm_iload dX5_add_3 rfl rfl ?_
      refine mm_iload_n dX5_add_5 rfl rfl ?_
      refine mm_icgt dX5_add_6 (by omega) (by omega) (fun h6 => ?_) (fun h6 => ?_)
      · exfalso; omega
      · refine mm_aload_n dX5_add_9 rfl rfl ?_
        refine mm_getr dX5_add_10 rfl fl_X5_11 (c := 172) rfl (by decide) rfl rfl (hRN.at (c := 172) (i := 1) (v := 174) rfl (by decide)) ?_
        refine mm_iload dX5_add_13 rfl rfl ?_
        refine mm_aload_n dX5_add_15 rfl rfl ?_
        refine mm_getr dX5_add_16 rfl fl_X5_11 (c := 172) rfl (by decide) rfl rfl (hRN.at (c := 172) (i := 1) (v := 174) rfl (by decide)) ?_
        refine mm_iload dX5_add_19 rfl rfl ?_
        refine mm_iald dX5_add_21 rfl (c := 173) rfl (by decide) rfl (by omega) (by omega) ?_
        rw [er]
        refine mm_iload_n dX5_add_22 rfl rfl ?_
        refine mm_min dX5_add_23 rfl lm_X5_23 rfl rfl (by simp) (by omega) (by omega) ?_
        refine mm_isto dX5_add_26 rfl (c := 173) rfl (by decide) rfl (by omega) (by omega) (fun M26 hM26 => ?_)
        have hR26 : mm_Rf M26 := by rw [hM26]; exact hRN.up (mm_rt_ar (t := 0) rfl (by decide))
        refine mm_iinc dX5_add_27 rfl rfl (Nat.le_of_ble_eq_true rfl) rfl ?_
        refine mm_goto dX5_add_30 ?_
        refine ih (j + 1) M26 hR26 (by omega) (by omega) (fun a b => ?_)
        rw [hM26]
        unfold mm_up
        by_cases c1 : a = 173 ∧ b = j.toNat
        · rw [if_pos c1, if_pos c1.1]
          unfold kw_roofs
          rw [if_pos (by omega), c1.2]
        · rw [if_neg c1, hN]
          by_cases c2 : a = 173
          · rw [if_pos c2, if_pos c2]
            unfold kw_roofs
            by_cases c3 : fr ≤ (b : Int) ∧ (b : Int) ≤ j - 1
            · rw [if_pos c3, if_pos (by omega)]
            · rw [if_neg c3, if_neg (by omega)]
          · rw [if_neg c2, if_neg c2]
  refine mm_iload_n dX5_add_0 rfl rfl ?_
  refine mm_istore dX5_add_1 rfl (Nat.le_of_ble_eq_true rfl) rfl ?_
  refine loop (to + 1 - fr).toNat fr M hR (Int.le_refl _) (by omega) (fun a b => ?_)
  by_cases c2 : a = 173
  · rw [if_pos c2]
    unfold kw_roofs
    rw [if_neg (by omega), c2]
  · rw [if_neg c2]
end

