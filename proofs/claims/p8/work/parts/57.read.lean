/-! ===== readings ===== -/
def mr_add (M : mm_M) (t s a h lo hi : Int) : mm_M :=
  mm_up (mm_up (mm_up (mm_up (mm_up (mm_up (mm_up (mm_up M 175 (M 174 2).toNat t) 176 (M 174 2).toNat s) 177 (M 174 2).toNat a) 178 (M 174 2).toNat h) 179 (M 174 2).toNat lo) 180 (M 174 2).toNat hi) 174 4 t) 174 2 (M 174 2 + 1)
def mr_addR (M : mm_M) (t s a h lo hi : Int) : mm_M :=
  mm_up (mm_up (mm_up (mm_up (mm_up (mm_up (mm_up (mm_up M 183 99 t) 233 (M 183 97).toNat s) 234 (M 183 97).toNat a) 235 (M 183 97).toNat h) 236 (M 183 97).toNat lo) 237 (M 183 97).toNat hi) 238 (M 183 97).toNat t) 183 97 (M 183 97 + 1)
abbrev kr_ok (K : Nat → Int) (last t s a h lo hi : Int) : Prop := (ks_st K s ∧ ks_ac K a ∧ ks_hr h) ∧ (0 ≤ lo ∧ lo ≤ hi ∧ hi ≤ 99999999) ∧ last ≤ t ∧ t ≤ 999
section
variable {X : mm_X} {M : mm_M} {s a m w d p h b sh x y z k l u v t lo hi : Int}
theorem c_X7_forget (hR : mm_Rf M) : mm_Fn X Y_X7_forget 243 [(2, 175)] M (3, 0) (mm_up (mm_up (mm_up M 174 2 0) 174 3 0) 174 4 0) := by
  refine mm_startF (ls := [(2, 175)]) rfl ?_
  refine mm_aload_n dX7_forget_0 rfl rfl ?_
  refine mm_iconst dX7_forget_1 rfl ?_
  refine mm_puti dX7_forget_2 rfl fl_X7_44 (c := 174) rfl (by decide) rfl rfl (fun M2 hM2 => ?_)
  have hR2 : mm_Rf M2 := by rw [hM2]; exact hR.up rfl
  refine mm_aload_n dX7_forget_5 rfl rfl ?_
  refine mm_iconst dX7_forget_6 rfl ?_
  refine mm_puti dX7_forget_7 rfl fl_X7_48 (c := 174) rfl (by decide) rfl rfl (fun M7 hM7 => ?_)
  have hR7 : mm_Rf M7 := by rw [hM7]; exact hR2.up rfl
  refine mm_aload_n dX7_forget_10 rfl rfl ?_
  refine mm_iconst dX7_forget_11 rfl ?_
  refine mm_puti dX7_forget_12 rfl fl_X7_51 (c := 174) rfl (by decide) rfl rfl (fun M12 hM12 => ?_)
  have hR12 : mm_Rf M12 := by rw [hM12]; exact hR7.up rfl
  refine mm_vret dX7_forget_15 rfl rfl ?_
  exact mm_fin rfl (by rw [hM12, hM7, hM2])
theorem c_X7_add (hR : mm_Rf M) (hc : 0 ≤ M 174 2 ∧ M 174 2 < 30) : mm_Fn X Y_X7_add 243 [(2, 175), (0, t), (0, s), (0, a), (0, h), (0, lo), (0, hi)] M (0, M 174 2) (mr_add M t s a h lo hi) := by
  refine mm_startF (ls := [(2, 175), (0, t), (0, s), (0, a), (0, h), (0, lo), (0, hi)]) rfl ?_
  refine mm_aload_n dX7_add_0 rfl rfl ?_
  refine mm_getr dX7_add_1 rfl fl_X7_11 (c := 174) rfl (by decide) rfl rfl (hR.at (c := 174) (i := 5) (v := 176) rfl (by decide)) ?_
  refine mm_aload_n dX7_add_4 rfl rfl ?_
  refine mm_get (kd := 0) dX7_add_5 rfl fl_X7_44 (c := 174) rfl (by decide) rfl rfl ?_
  refine mm_iload_n dX7_add_8 rfl rfl ?_
  refine mm_isto dX7_add_9 rfl (c := 175) rfl (by decide) rfl (by omega) (by omega) (fun M9 hM9 => ?_)
  have hR9 : mm_Rf M9 := by rw [hM9]; exact hR.up (mm_rt_ar (t := 0) rfl (by decide))
  refine mm_aload_n dX7_add_10 rfl rfl ?_
  refine mm_getr dX7_add_11 rfl fl_X7_15 (c := 174) rfl (by decide) rfl rfl (hR9.at (c := 174) (i := 6) (v := 177) rfl (by decide)) ?_
  refine mm_aload_n dX7_add_14 rfl rfl ?_
  refine mm_get (kd := 0) dX7_add_15 rfl fl_X7_44 (c := 174) rfl (by decide) rfl rfl ?_
  have e1 : M9 174 2 = M 174 2 := by simp [hM9, mm_up]
  rw [e1]
  refine mm_iload_n dX7_add_18 rfl rfl ?_
  refine mm_isto dX7_add_19 rfl (c := 176) rfl (by decide) rfl (by omega) (by omega) (fun M19 hM19 => ?_)
  have hR19 : mm_Rf M19 := by rw [hM19]; exact hR9.up (mm_rt_ar (t := 0) rfl (by decide))
  refine mm_aload_n dX7_add_20 rfl rfl ?_
  refine mm_getr dX7_add_21 rfl fl_X7_18 (c := 174) rfl (by decide) rfl rfl (hR19.at (c := 174) (i := 7) (v := 178) rfl (by decide)) ?_
  refine mm_aload_n dX7_add_24 rfl rfl ?_
  refine mm_get (kd := 0) dX7_add_25 rfl fl_X7_44 (c := 174) rfl (by decide) rfl rfl ?_
  have e2 : M19 174 2 = M 174 2 := by simp [hM19, e1, mm_up]
  rw [e2]
  refine mm_iload_n dX7_add_28 rfl rfl ?_
  refine mm_isto dX7_add_29 rfl (c := 177) rfl (by decide) rfl (by omega) (by omega) (fun M29 hM29 => ?_)
  have hR29 : mm_Rf M29 := by rw [hM29]; exact hR19.up (mm_rt_ar (t := 0) rfl (by decide))
  refine mm_aload_n dX7_add_30 rfl rfl ?_
  refine mm_getr dX7_add_31 rfl fl_X7_21 (c := 174) rfl (by decide) rfl rfl (hR29.at (c := 174) (i := 8) (v := 179) rfl (by decide)) ?_
  refine mm_aload_n dX7_add_34 rfl rfl ?_
  refine mm_get (kd := 0) dX7_add_35 rfl fl_X7_44 (c := 174) rfl (by decide) rfl rfl ?_
  have e3 : M29 174 2 = M 174 2 := by simp [hM29, e2, mm_up]
  rw [e3]
  refine mm_iload dX7_add_38 rfl rfl ?_
  refine mm_isto dX7_add_40 rfl (c := 178) rfl (by decide) rfl (by omega) (by omega) (fun M40 hM40 => ?_)
  have hR40 : mm_Rf M40 := by rw [hM40]; exact hR29.up (mm_rt_ar (t := 0) rfl (by decide))
  refine mm_aload_n dX7_add_41 rfl rfl ?_
  refine mm_getr dX7_add_42 rfl fl_X7_24 (c := 174) rfl (by decide) rfl rfl (hR40.at (c := 174) (i := 9) (v := 180) rfl (by decide)) ?_
  refine mm_aload_n dX7_add_45 rfl rfl ?_
  refine mm_get (kd := 0) dX7_add_46 rfl fl_X7_44 (c := 174) rfl (by decide) rfl rfl ?_
  have e4 : M40 174 2 = M 174 2 := by simp [hM40, e3, mm_up]
  rw [e4]
  refine mm_iload dX7_add_49 rfl rfl ?_
  refine mm_isto dX7_add_51 rfl (c := 179) rfl (by decide) rfl (by omega) (by omega) (fun M51 hM51 => ?_)
  have hR51 : mm_Rf M51 := by rw [hM51]; exact hR40.up (mm_rt_ar (t := 0) rfl (by decide))
  refine mm_aload_n dX7_add_52 rfl rfl ?_
  refine mm_getr dX7_add_53 rfl fl_X7_27 (c := 174) rfl (by decide) rfl rfl (hR51.at (c := 174) (i := 10) (v := 181) rfl (by decide)) ?_
  refine mm_aload_n dX7_add_56 rfl rfl ?_
  refine mm_get (kd := 0) dX7_add_57 rfl fl_X7_44 (c := 174) rfl (by decide) rfl rfl ?_
  have e5 : M51 174 2 = M 174 2 := by simp [hM51, e4, mm_up]
  rw [e5]
  refine mm_iload dX7_add_60 rfl rfl ?_
  refine mm_isto dX7_add_62 rfl (c := 180) rfl (by decide) rfl (by omega) (by omega) (fun M62 hM62 => ?_)
  have hR62 : mm_Rf M62 := by rw [hM62]; exact hR51.up (mm_rt_ar (t := 0) rfl (by decide))
  refine mm_aload_n dX7_add_63 rfl rfl ?_
  refine mm_iload_n dX7_add_64 rfl rfl ?_
  refine mm_puti dX7_add_65 rfl fl_X7_51 (c := 174) rfl (by decide) rfl rfl (fun M65 hM65 => ?_)
  have hR65 : mm_Rf M65 := by rw [hM65]; exact hR62.up rfl
  refine mm_aload_n dX7_add_68 rfl rfl ?_
  refine mm_dup dX7_add_69 rfl (by simp) ?_
  refine mm_get (kd := 0) dX7_add_70 rfl fl_X7_44 (c := 174) rfl (by decide) rfl rfl ?_
  have e6 : M65 174 2 = M 174 2 := by simp [hM65, hM62, e5, mm_up]
  rw [e6]
  refine mm_iconst dX7_add_73 rfl ?_
  refine mm_iadd dX7_add_74 rfl ?_
  refine mm_puti dX7_add_75 rfl fl_X7_44 (c := 174) rfl (by decide) rfl rfl (fun M75 hM75 => ?_)
  have hR75 : mm_Rf M75 := by rw [hM75]; exact hR65.up rfl
  refine mm_aload_n dX7_add_78 rfl rfl ?_
  refine mm_get (kd := 0) dX7_add_79 rfl fl_X7_44 (c := 174) rfl (by decide) rfl rfl ?_
  refine mm_iconst dX7_add_82 rfl ?_
  refine mm_isub dX7_add_83 rfl ?_
  refine mm_iret dX7_add_84 rfl rfl ?_
  exact mm_fin (by rw [hM75, mm_up_s]; omega) (by rw [hM75, hM65, hM62, hM51, hM40, hM29, hM19, hM9]; rfl)
theorem c_X11_read (hR : mm_Rf M) (hK : mm_CK M) (ht : mm_R t) (hs : mm_R s) (ha : mm_R a) (hh : mm_R h) (hlo : mm_R lo) (hhi : mm_R hi) (hl : 0 ≤ M 174 4 ∧ M 174 4 ≤ 999) (hc : 0 ≤ M 174 2 ∧ M 174 2 ≤ 30) :
    mm_Fn X Y_X11_read 243 [(2, 1), (0, t), (0, s), (0, a), (0, h), (0, lo), (0, hi)] M (0, if kr_ok (M 4) (M 174 4) t s a h lo hi then (if M 174 2 < 30 then M 174 2 else -3) else -2) (if kr_ok (M 4) (M 174 4) t s a h lo hi ∧ M 174 2 < 30 then mr_add M t s a h lo hi else M) := by
  refine mm_startF (ls := [(2, 1), (0, t), (0, s), (0, a), (0, h), (0, lo), (0, hi)]) rfl ?_
  refine mm_aload_n dX11_read_0 rfl rfl ?_
  refine mm_iload_n dX11_read_1 rfl rfl ?_
  refine mm_iload_n dX11_read_2 rfl rfl ?_
  refine mm_iload dX11_read_3 rfl rfl ?_
  refine mm_V3i dX11_read_5 rfl lk_X11_198 (c := 0) rfl (by decide) rfl (by simp) (by simp) (by simp) rfl rfl rfl (c_X11_canAsk hR hK hs ha hh) ?_
  refine mm_ifeqb dX11_read_8 (fun h8 => ?_) (fun h8 => ?_)
  · refine mm_bipush dX11_read_23 rfl (by decide) ?_
    refine mm_iret dX11_read_25 rfl rfl ?_
    first
    | exact mm_fin (by rw [if_neg (fun q => h8 q.1)]) (by rw [if_neg (fun q => h8 q.1.1)])
    | exact mm_fin (by rw [if_neg (fun q => h20 q.2)]) (by rw [if_neg (fun q => h20 q.1.2)])
  · refine mm_aload_n dX11_read_11 rfl rfl ?_
    refine mm_iload_n dX11_read_12 rfl rfl ?_
    refine mm_iload dX11_read_13 rfl rfl ?_
    refine mm_iload dX11_read_15 rfl rfl ?_
    refine mm_V3i dX11_read_17 rfl lk_X11_354 (c := 0) rfl (by decide) rfl (by simp) (by simp) (by simp) rfl rfl rfl (c_X11_canRead hR hl ht hlo hhi) ?_
    refine mm_ifneb dX11_read_20 (fun h20 => ?_) (fun h20 => ?_)
    · refine mm_aload_n dX11_read_26 rfl rfl ?_
      refine mm_getr dX11_read_27 rfl fl_X11_90 (c := 0) rfl (by decide) rfl rfl (hR.at (c := 0) (i := 11) (v := 175) rfl (by decide)) ?_
      refine mm_get (kd := 0) dX11_read_30 rfl fl_X11_357 (c := 174) rfl (by decide) rfl rfl ?_
      refine mm_bipush dX11_read_33 rfl (by decide) ?_
      refine mm_icge dX11_read_35 (by omega) (by omega) (fun h35 => ?_) (fun h35 => ?_)
      · refine mm_bipush dX11_read_57 rfl (by decide) ?_
        refine mm_iret dX11_read_59 rfl rfl ?_
        exact mm_fin (by rw [if_pos (And.intro h8 h20), if_neg (by omega)]) (by rw [if_neg (by omega)])
      · refine mm_aload_n dX11_read_38 rfl rfl ?_
        refine mm_getr dX11_read_39 rfl fl_X11_90 (c := 0) rfl (by decide) rfl rfl (hR.at (c := 0) (i := 11) (v := 175) rfl (by decide)) ?_
        refine mm_iload_n dX11_read_42 rfl rfl ?_
        refine mm_iload_n dX11_read_43 rfl rfl ?_
        refine mm_iload_n dX11_read_44 rfl rfl ?_
        refine mm_iload dX11_read_45 rfl rfl ?_
        refine mm_iload dX11_read_47 rfl rfl ?_
        refine mm_iload dX11_read_49 rfl rfl ?_
        refine mm_V6i dX11_read_51 rfl lk_X11_358 (c := 174) rfl (by decide) rfl (by simp) (by simp) (by simp) (by simp) (by simp) (by simp) rfl rfl rfl (c_X7_add hR (by omega)) ?_
        refine mm_goto dX11_read_54 ?_
        refine mm_iret dX11_read_59 rfl rfl ?_
        exact mm_fin (by rw [if_pos (And.intro h8 h20), if_pos (by omega)]) (by rw [if_pos ⟨And.intro h8 h20, by omega⟩])
    · refine mm_bipush dX11_read_23 rfl (by decide) ?_
      refine mm_iret dX11_read_25 rfl rfl ?_
      first
      | exact mm_fin (by rw [if_neg (fun q => h8 q.1)]) (by rw [if_neg (fun q => h8 q.1.1)])
      | exact mm_fin (by rw [if_neg (fun q => h20 q.2)]) (by rw [if_neg (fun q => h20 q.1.2)])
theorem c_X13_read (hR : mm_Rf M) (hK : mm_KV (mm_rk M)) (ht : mm_R t) (hs : mm_R s) (ha : mm_R a) (hh : mm_R h) (hlo : mm_R lo) (hhi : mm_R hi) (hl : 0 ≤ M 183 99 ∧ M 183 99 ≤ 999) (hc : 0 ≤ M 183 97 ∧ M 183 97 ≤ 30) :
    mm_Fn X Y_X13_read 243 [(2, 184), (0, t), (0, s), (0, a), (0, h), (0, lo), (0, hi)] M (0, if kr_ok (mm_rk M) (M 183 99) t s a h lo hi then (if M 183 97 < 30 then M 183 97 else -3) else -2) (if kr_ok (mm_rk M) (M 183 99) t s a h lo hi ∧ M 183 97 < 30 then mr_addR M t s a h lo hi else M) := by
  refine mm_startF (ls := [(2, 184), (0, t), (0, s), (0, a), (0, h), (0, lo), (0, hi)]) rfl ?_
  refine mm_iload_n dX13_read_0 rfl rfl ?_
  refine mm_i2l dX13_read_1 rfl (by omega) ?_
  refine mm_aload_n dX13_read_2 rfl rfl ?_
  refine mm_get (kd := 0) dX13_read_3 rfl fl_X13_409 (c := 183) rfl (by decide) rfl rfl ?_
  refine mm_i2l dX13_read_6 rfl (by omega) ?_
  refine mm_ldc2 dX13_read_7 rfl kc_X13_484 ?_
  refine mm_S3i dX13_read_10 rfl lk_X13_5 (by simp) (by simp) (by simp) rfl rfl rfl (c_X13_in (by omega) (by omega) (by omega)) ?_
  refine mm_ifeqb dX13_read_13 (fun h13 => ?_) (fun h13 => ?_)
  · refine mm_bipush dX13_read_50 rfl (by decide) ?_
    refine mm_iret dX13_read_52 rfl rfl ?_
    have no : ¬ kr_ok (mm_rk M) (M 183 99) t s a h lo hi := by
      first
      | exact fun q => h13 q.2.2
      | exact fun q => h21 q.1.1
      | exact fun q => h29 q.1.2.1
      | exact fun q => h37 q.1.2.2
      | exact fun q => h47 q.2.1
    exact mm_fin (by rw [if_neg no]) (by rw [if_neg (fun q => no q.1)])
  · refine mm_aload_n dX13_read_16 rfl rfl ?_
    refine mm_iload_n dX13_read_17 rfl rfl ?_
    refine mm_V1i dX13_read_18 rfl lk_X13_464 (c := 183) rfl (by decide) rfl (by simp) rfl rfl rfl (c_X13_isState hR hK hs) ?_
    refine mm_ifeqb dX13_read_21 (fun h21 => ?_) (fun h21 => ?_)
    · refine mm_bipush dX13_read_50 rfl (by decide) ?_
      refine mm_iret dX13_read_52 rfl rfl ?_
      have no : ¬ kr_ok (mm_rk M) (M 183 99) t s a h lo hi := by
        first
        | exact fun q => h13 q.2.2
        | exact fun q => h21 q.1.1
        | exact fun q => h29 q.1.2.1
        | exact fun q => h37 q.1.2.2
        | exact fun q => h47 q.2.1
      exact mm_fin (by rw [if_neg no]) (by rw [if_neg (fun q => no q.1)])
    · refine mm_aload_n dX13_read_24 rfl rfl ?_
      refine mm_iload_n dX13_read_25 rfl rfl ?_
      refine mm_V1i dX13_read_26 rfl lk_X13_470 (c := 183) rfl (by decide) rfl (by simp) rfl rfl rfl (c_X13_isAct hR hK ha) ?_
      refine mm_ifeqb dX13_read_29 (fun h29 => ?_) (fun h29 => ?_)
      · refine mm_bipush dX13_read_50 rfl (by decide) ?_
        refine mm_iret dX13_read_52 rfl rfl ?_
        have no : ¬ kr_ok (mm_rk M) (M 183 99) t s a h lo hi := by
          first
          | exact fun q => h13 q.2.2
          | exact fun q => h21 q.1.1
          | exact fun q => h29 q.1.2.1
          | exact fun q => h37 q.1.2.2
          | exact fun q => h47 q.2.1
        exact mm_fin (by rw [if_neg no]) (by rw [if_neg (fun q => no q.1)])
      · refine mm_iload dX13_read_32 rfl rfl ?_
        refine mm_S1i dX13_read_34 rfl lk_X13_486 (by simp) rfl rfl rfl (c_X13_isHour hh) ?_
        refine mm_ifeqb dX13_read_37 (fun h37 => ?_) (fun h37 => ?_)
        · refine mm_bipush dX13_read_50 rfl (by decide) ?_
          refine mm_iret dX13_read_52 rfl rfl ?_
          have no : ¬ kr_ok (mm_rk M) (M 183 99) t s a h lo hi := by
            first
            | exact fun q => h13 q.2.2
            | exact fun q => h21 q.1.1
            | exact fun q => h29 q.1.2.1
            | exact fun q => h37 q.1.2.2
            | exact fun q => h47 q.2.1
          exact mm_fin (by rw [if_neg no]) (by rw [if_neg (fun q => no q.1)])
        · refine mm_iload dX13_read_40 rfl rfl ?_
          refine mm_iload dX13_read_42 rfl rfl ?_
          refine mm_S2i dX13_read_44 rfl lk_X13_715 (by simp) (by simp) rfl rfl rfl (c_X13_arePulls hlo hhi) ?_
          refine mm_ifneb dX13_read_47 (fun h47 => ?_) (fun h47 => ?_)
          · refine mm_aload_n dX13_read_53 rfl rfl ?_
            refine mm_get (kd := 0) dX13_read_54 rfl fl_X13_403 (c := 183) rfl (by decide) rfl rfl ?_
            refine mm_bipush dX13_read_57 rfl (by decide) ?_
            refine mm_icne dX13_read_59 (by omega) (by omega) (fun h59 => ?_) (fun h59 => ?_)
            · refine mm_aload_n dX13_read_65 rfl rfl ?_
              refine mm_iload_n dX13_read_66 rfl rfl ?_
              refine mm_puti dX13_read_67 rfl fl_X13_409 (c := 183) rfl (by decide) rfl rfl (fun M67 hM67 => ?_)
              have hR67 : mm_Rf M67 := by rw [hM67]; exact hR.up rfl
              refine mm_aload_n dX13_read_70 rfl rfl ?_
              refine mm_getr dX13_read_71 rfl fl_X13_352 (c := 183) rfl (by decide) rfl rfl (hR67.at (c := 183) (i := 100) (v := 234) rfl (by decide)) ?_
              refine mm_aload_n dX13_read_74 rfl rfl ?_
              refine mm_get (kd := 0) dX13_read_75 rfl fl_X13_403 (c := 183) rfl (by decide) rfl rfl ?_
              have e1 : M67 183 97 = M 183 97 := by simp [hM67, mm_up]
              rw [e1]
              refine mm_iload_n dX13_read_78 rfl rfl ?_
              refine mm_isto dX13_read_79 rfl (c := 233) rfl (by decide) rfl (by omega) (by omega) (fun M79 hM79 => ?_)
              have hR79 : mm_Rf M79 := by rw [hM79]; exact hR67.up (mm_rt_ar (t := 0) rfl (by decide))
              refine mm_aload_n dX13_read_80 rfl rfl ?_
              refine mm_getr dX13_read_81 rfl fl_X13_355 (c := 183) rfl (by decide) rfl rfl (hR79.at (c := 183) (i := 101) (v := 235) rfl (by decide)) ?_
              refine mm_aload_n dX13_read_84 rfl rfl ?_
              refine mm_get (kd := 0) dX13_read_85 rfl fl_X13_403 (c := 183) rfl (by decide) rfl rfl ?_
              have e2 : M79 183 97 = M 183 97 := by simp [hM79, e1, mm_up]
              rw [e2]
              refine mm_iload_n dX13_read_88 rfl rfl ?_
              refine mm_isto dX13_read_89 rfl (c := 234) rfl (by decide) rfl (by omega) (by omega) (fun M89 hM89 => ?_)
              have hR89 : mm_Rf M89 := by rw [hM89]; exact hR79.up (mm_rt_ar (t := 0) rfl (by decide))
              refine mm_aload_n dX13_read_90 rfl rfl ?_
              refine mm_getr dX13_read_91 rfl fl_X13_358 (c := 183) rfl (by decide) rfl rfl (hR89.at (c := 183) (i := 102) (v := 236) rfl (by decide)) ?_
              refine mm_aload_n dX13_read_94 rfl rfl ?_
              refine mm_get (kd := 0) dX13_read_95 rfl fl_X13_403 (c := 183) rfl (by decide) rfl rfl ?_
              have e3 : M89 183 97 = M 183 97 := by simp [hM89, e2, mm_up]
              rw [e3]
              refine mm_iload dX13_read_98 rfl rfl ?_
              refine mm_isto dX13_read_100 rfl (c := 235) rfl (by decide) rfl (by omega) (by omega) (fun M100 hM100 => ?_)
              have hR100 : mm_Rf M100 := by rw [hM100]; exact hR89.up (mm_rt_ar (t := 0) rfl (by decide))
              refine mm_aload_n dX13_read_101 rfl rfl ?_
              refine mm_getr dX13_read_102 rfl fl_X13_361 (c := 183) rfl (by decide) rfl rfl (hR100.at (c := 183) (i := 103) (v := 237) rfl (by decide)) ?_
              refine mm_aload_n dX13_read_105 rfl rfl ?_
              refine mm_get (kd := 0) dX13_read_106 rfl fl_X13_403 (c := 183) rfl (by decide) rfl rfl ?_
              have e4 : M100 183 97 = M 183 97 := by simp [hM100, e3, mm_up]
              rw [e4]
              refine mm_iload dX13_read_109 rfl rfl ?_
              refine mm_isto dX13_read_111 rfl (c := 236) rfl (by decide) rfl (by omega) (by omega) (fun M111 hM111 => ?_)
              have hR111 : mm_Rf M111 := by rw [hM111]; exact hR100.up (mm_rt_ar (t := 0) rfl (by decide))
              refine mm_aload_n dX13_read_112 rfl rfl ?_
              refine mm_getr dX13_read_113 rfl fl_X13_364 (c := 183) rfl (by decide) rfl rfl (hR111.at (c := 183) (i := 104) (v := 238) rfl (by decide)) ?_
              refine mm_aload_n dX13_read_116 rfl rfl ?_
              refine mm_get (kd := 0) dX13_read_117 rfl fl_X13_403 (c := 183) rfl (by decide) rfl rfl ?_
              have e5 : M111 183 97 = M 183 97 := by simp [hM111, e4, mm_up]
              rw [e5]
              refine mm_iload dX13_read_120 rfl rfl ?_
              refine mm_isto dX13_read_122 rfl (c := 237) rfl (by decide) rfl (by omega) (by omega) (fun M122 hM122 => ?_)
              have hR122 : mm_Rf M122 := by rw [hM122]; exact hR111.up (mm_rt_ar (t := 0) rfl (by decide))
              refine mm_aload_n dX13_read_123 rfl rfl ?_
              refine mm_getr dX13_read_124 rfl fl_X13_367 (c := 183) rfl (by decide) rfl rfl (hR122.at (c := 183) (i := 105) (v := 239) rfl (by decide)) ?_
              refine mm_aload_n dX13_read_127 rfl rfl ?_
              refine mm_get (kd := 0) dX13_read_128 rfl fl_X13_403 (c := 183) rfl (by decide) rfl rfl ?_
              have e6 : M122 183 97 = M 183 97 := by simp [hM122, e5, mm_up]
              rw [e6]
              refine mm_iload_n dX13_read_131 rfl rfl ?_
              refine mm_isto dX13_read_132 rfl (c := 238) rfl (by decide) rfl (by omega) (by omega) (fun M132 hM132 => ?_)
              have hR132 : mm_Rf M132 := by rw [hM132]; exact hR122.up (mm_rt_ar (t := 0) rfl (by decide))
              refine mm_aload_n dX13_read_133 rfl rfl ?_
              refine mm_dup dX13_read_134 rfl (by simp) ?_
              refine mm_get (kd := 0) dX13_read_135 rfl fl_X13_403 (c := 183) rfl (by decide) rfl rfl ?_
              have e7 : M132 183 97 = M 183 97 := by simp [hM132, e6, mm_up]
              rw [e7]
              refine mm_iconst dX13_read_138 rfl ?_
              refine mm_iadd dX13_read_139 rfl ?_
              refine mm_puti dX13_read_140 rfl fl_X13_403 (c := 183) rfl (by decide) rfl rfl (fun M140 hM140 => ?_)
              have hR140 : mm_Rf M140 := by rw [hM140]; exact hR132.up rfl
              refine mm_aload_n dX13_read_143 rfl rfl ?_
              refine mm_get (kd := 0) dX13_read_144 rfl fl_X13_403 (c := 183) rfl (by decide) rfl rfl ?_
              refine mm_iconst dX13_read_147 rfl ?_
              refine mm_isub dX13_read_148 rfl ?_
              refine mm_iret dX13_read_149 rfl rfl ?_
              refine mm_fin ?_ ?_
              · rw [if_pos (And.intro (And.intro h21 (And.intro h29 h37)) (And.intro h47 h13)), if_pos (by omega), hM140, mm_up_s]
                omega
              · rw [if_pos (And.intro (And.intro (And.intro h21 (And.intro h29 h37)) (And.intro h47 h13)) (by omega)), hM140, hM132, hM122, hM111, hM100, hM89, hM79, hM67]
                rfl
            · refine mm_bipush dX13_read_62 rfl (by decide) ?_
              refine mm_iret dX13_read_64 rfl rfl ?_
              exact mm_fin (by rw [if_pos (And.intro (And.intro h21 (And.intro h29 h37)) (And.intro h47 h13)), if_neg (by omega)]) (by rw [if_neg (by omega)])
          · refine mm_bipush dX13_read_50 rfl (by decide) ?_
            refine mm_iret dX13_read_52 rfl rfl ?_
            have no : ¬ kr_ok (mm_rk M) (M 183 99) t s a h lo hi := by
              first
              | exact fun q => h13 q.2.2
              | exact fun q => h21 q.1.1
              | exact fun q => h29 q.1.2.1
              | exact fun q => h37 q.1.2.2
              | exact fun q => h47 q.2.1
            exact mm_fin (by rw [if_neg no]) (by rw [if_neg (fun q => no q.1)])
end

