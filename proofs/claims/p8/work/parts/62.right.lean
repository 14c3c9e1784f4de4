/-! ===== put right ===== -/
def kc_n (f : Nat → Int) (v : Int) : Nat → Int
  | 0 => 0
  | n + 1 => kc_n f v n + (if f n = v then 1 else 0)
theorem kc_nb {f : Nat → Int} {v : Int} : ∀ n : Nat, 0 ≤ kc_n f v n ∧ kc_n f v n ≤ n
  | 0 => by simp [kc_n]
  | n + 1 => by
    have := kc_nb (f := f) (v := v) n
    unfold kc_n
    split <;> omega
def mr_put (M : mm_M) (t k lo hi : Int) : mm_M :=
  mm_up (mm_up (mm_up (mm_up (mm_up (mm_up M 181 (M 174 3).toNat t) 182 (M 174 3).toNat k) 179 (30 + (M 174 3).toNat) lo) 180 (30 + (M 174 3).toNat) hi) 174 4 t) 174 3 (M 174 3 + 1)
def mr_putR (M : mm_M) (t k lo hi : Int) : mm_M :=
  mm_up (mm_up (mm_up (mm_up (mm_up (mm_up M 183 99 t) 239 (M 183 98).toNat k) 240 (M 183 98).toNat lo) 241 (M 183 98).toNat hi) 242 (M 183 98).toNat t) 183 98 (M 183 98 + 1)
section
variable {X : mm_X} {M N : mm_M} {t k lo hi : Int}
theorem l_X7_putRight (hRN : mm_Rf N) (hk : mm_R k) (hc : 0 ≤ N 174 3 ∧ N 174 3 ≤ 20) (hv : ∀ i : Nat, (i : Int) < N 174 3 → mm_R (N 182 i)) :
    ∀ (m i : Nat), i + m = (N 174 3).toNat → mm_J X Y_X7_putRight 243 243 243 68 [(2, 175), (0, t), (0, k), (0, lo), (0, hi), (0, kc_n (N 182) k i), (0, (i : Int))] [] N (fun r' M'' => r' = (0, kc_n (N 182) k (N 174 3).toNat) ∧ M'' = N) := by
  intro m
  induction m with
  | zero =>
    intro i hi
    have ei : i = (N 174 3).toNat := by omega
    refine mm_iload dX7_putRight_68 rfl rfl ?_
    refine mm_aload_n dX7_putRight_70 rfl rfl ?_
    refine mm_get (kd := 0) dX7_putRight_71 rfl fl_X7_48 (c := 174) rfl (by decide) rfl rfl ?_
    refine mm_icge dX7_putRight_74 (by omega) (by omega) (fun h74 => ?_) (fun h74 => ?_)
    · refine mm_iload dX7_putRight_104 rfl rfl ?_
      refine mm_iret dX7_putRight_106 rfl rfl ?_
      exact mm_fin (by rw [ei]) rfl
    · exfalso; omega
  | succ m ih =>
    intro i hi
    have hvi := hv i (by omega)
    have hb := kc_nb (f := N 182) (v := k) i
    refine mm_iload dX7_putRight_68 rfl rfl ?_
    refine mm_aload_n dX7_putRight_70 rfl rfl ?_
    refine mm_get (kd := 0) dX7_putRight_71 rfl fl_X7_48 (c := 174) rfl (by decide) rfl rfl ?_
    refine mm_icge dX7_putRight_74 (by omega) (by omega) (fun h74 => ?_) (fun h74 => ?_)
    · exfalso; omega
    · refine mm_iload dX7_putRight_77 rfl rfl ?_
      refine mm_aload_n dX7_putRight_79 rfl rfl ?_
      refine mm_getr dX7_putRight_80 rfl fl_X7_33 (c := 174) rfl (by decide) rfl rfl (hRN.at (c := 174) (i := 12) (v := 183) rfl (by decide)) ?_
      refine mm_iload dX7_putRight_83 rfl rfl ?_
      refine mm_ialk (k0 := i) dX7_putRight_85 rfl (c := 182) rfl (by decide) rfl (by omega) (by omega) ?_
      refine mm_iload_n dX7_putRight_86 rfl rfl ?_
      refine mm_icne dX7_putRight_87 (by omega) (by omega) (fun h87 => ?_) (fun h87 => ?_)
      · refine mm_iconst dX7_putRight_94 rfl ?_
        refine mm_iadd dX7_putRight_95 rfl ?_
        refine mm_istore dX7_putRight_96 rfl (Nat.le_of_ble_eq_true rfl) rfl ?_
        refine mm_iinc dX7_putRight_98 rfl rfl (Nat.le_of_ble_eq_true rfl) rfl ?_
        refine mm_goto dX7_putRight_101 ?_
        have := ih (i + 1) (by omega)
        rw [kc_n] at this
        first
        | (rw [if_pos (by omega)] at this; exact this)
        | (rw [if_neg (by omega)] at this; exact this)
      · refine mm_iconst dX7_putRight_90 rfl ?_
        refine mm_goto dX7_putRight_91 ?_
        refine mm_iadd dX7_putRight_95 rfl ?_
        refine mm_istore dX7_putRight_96 rfl (Nat.le_of_ble_eq_true rfl) rfl ?_
        refine mm_iinc dX7_putRight_98 rfl rfl (Nat.le_of_ble_eq_true rfl) rfl ?_
        refine mm_goto dX7_putRight_101 ?_
        have := ih (i + 1) (by omega)
        rw [kc_n] at this
        first
        | (rw [if_pos (by omega)] at this; exact this)
        | (rw [if_neg (by omega)] at this; exact this)
theorem c_X7_putRight (hR : mm_Rf M) (hk : mm_R k) (hc : 0 ≤ M 174 3 ∧ M 174 3 < 20) (hv : ∀ i : Nat, (i : Int) < M 174 3 → mm_R (M 182 i)) :
    mm_Fn X Y_X7_putRight 243 [(2, 175), (0, t), (0, k), (0, lo), (0, hi)] M (0, kc_n (mr_put M t k lo hi 182) k ((M 174 3).toNat + 1)) (mr_put M t k lo hi) := by
  refine mm_startF (ls := [(2, 175), (0, t), (0, k), (0, lo), (0, hi), (9, 0), (9, 0)]) rfl ?_
  refine mm_aload_n dX7_putRight_0 rfl rfl ?_
  refine mm_getr dX7_putRight_1 rfl fl_X7_30 (c := 174) rfl (by decide) rfl rfl (hR.at (c := 174) (i := 11) (v := 182) rfl (by decide)) ?_
  refine mm_aload_n dX7_putRight_4 rfl rfl ?_
  refine mm_get (kd := 0) dX7_putRight_5 rfl fl_X7_48 (c := 174) rfl (by decide) rfl rfl ?_
  refine mm_iload_n dX7_putRight_8 rfl rfl ?_
  refine mm_isto dX7_putRight_9 rfl (c := 181) rfl (by decide) rfl (by omega) (by omega) (fun M9 hM9 => ?_)
  have hR9 : mm_Rf M9 := by rw [hM9]; exact hR.up (mm_rt_ar (t := 0) rfl (by decide))
  refine mm_aload_n dX7_putRight_10 rfl rfl ?_
  refine mm_getr dX7_putRight_11 rfl fl_X7_33 (c := 174) rfl (by decide) rfl rfl (hR9.at (c := 174) (i := 12) (v := 183) rfl (by decide)) ?_
  refine mm_aload_n dX7_putRight_14 rfl rfl ?_
  refine mm_get (kd := 0) dX7_putRight_15 rfl fl_X7_48 (c := 174) rfl (by decide) rfl rfl ?_
  have e1 : M9 174 3 = M 174 3 := by simp [hM9, mm_up]
  rw [e1]
  refine mm_iload_n dX7_putRight_18 rfl rfl ?_
  refine mm_isto dX7_putRight_19 rfl (c := 182) rfl (by decide) rfl (by omega) (by omega) (fun M19 hM19 => ?_)
  have hR19 : mm_Rf M19 := by rw [hM19]; exact hR9.up (mm_rt_ar (t := 0) rfl (by decide))
  refine mm_aload_n dX7_putRight_20 rfl rfl ?_
  refine mm_getr dX7_putRight_21 rfl fl_X7_24 (c := 174) rfl (by decide) rfl rfl (hR19.at (c := 174) (i := 9) (v := 180) rfl (by decide)) ?_
  refine mm_bipush dX7_putRight_24 rfl (by decide) ?_
  refine mm_aload_n dX7_putRight_26 rfl rfl ?_
  refine mm_get (kd := 0) dX7_putRight_27 rfl fl_X7_48 (c := 174) rfl (by decide) rfl rfl ?_
  have e2 : M19 174 3 = M 174 3 := by simp [hM19, e1, mm_up]
  rw [e2]
  refine mm_iadd dX7_putRight_30 rfl ?_
  refine mm_iload_n dX7_putRight_31 rfl rfl ?_
  refine mm_istk (k0 := (30 + (M 174 3).toNat)) dX7_putRight_32 rfl (c := 179) rfl (by decide) rfl (by omega) (by omega) (fun M32 hM32 => ?_)
  have hR32 : mm_Rf M32 := by rw [hM32]; exact hR19.up (mm_rt_ar (t := 0) rfl (by decide))
  refine mm_aload_n dX7_putRight_33 rfl rfl ?_
  refine mm_getr dX7_putRight_34 rfl fl_X7_27 (c := 174) rfl (by decide) rfl rfl (hR32.at (c := 174) (i := 10) (v := 181) rfl (by decide)) ?_
  refine mm_bipush dX7_putRight_37 rfl (by decide) ?_
  refine mm_aload_n dX7_putRight_39 rfl rfl ?_
  refine mm_get (kd := 0) dX7_putRight_40 rfl fl_X7_48 (c := 174) rfl (by decide) rfl rfl ?_
  have e3 : M32 174 3 = M 174 3 := by simp [hM32, e2, mm_up]
  rw [e3]
  refine mm_iadd dX7_putRight_43 rfl ?_
  refine mm_iload dX7_putRight_44 rfl rfl ?_
  refine mm_istk (k0 := (30 + (M 174 3).toNat)) dX7_putRight_46 rfl (c := 180) rfl (by decide) rfl (by omega) (by omega) (fun M46 hM46 => ?_)
  have hR46 : mm_Rf M46 := by rw [hM46]; exact hR32.up (mm_rt_ar (t := 0) rfl (by decide))
  refine mm_aload_n dX7_putRight_47 rfl rfl ?_
  refine mm_iload_n dX7_putRight_48 rfl rfl ?_
  refine mm_puti dX7_putRight_49 rfl fl_X7_51 (c := 174) rfl (by decide) rfl rfl (fun M49 hM49 => ?_)
  have hR49 : mm_Rf M49 := by rw [hM49]; exact hR46.up rfl
  refine mm_aload_n dX7_putRight_52 rfl rfl ?_
  refine mm_dup dX7_putRight_53 rfl (by simp) ?_
  refine mm_get (kd := 0) dX7_putRight_54 rfl fl_X7_48 (c := 174) rfl (by decide) rfl rfl ?_
  have e4 : M49 174 3 = M 174 3 := by simp [hM49, hM46, e3, mm_up]
  rw [e4]
  refine mm_iconst dX7_putRight_57 rfl ?_
  refine mm_iadd dX7_putRight_58 rfl ?_
  refine mm_puti dX7_putRight_59 rfl fl_X7_48 (c := 174) rfl (by decide) rfl rfl (fun M59 hM59 => ?_)
  have hR59 : mm_Rf M59 := by rw [hM59]; exact hR49.up rfl
  refine mm_iconst dX7_putRight_62 rfl ?_
  refine mm_istore dX7_putRight_63 rfl (Nat.le_of_ble_eq_true rfl) rfl ?_
  refine mm_iconst dX7_putRight_65 rfl ?_
  refine mm_istore dX7_putRight_66 rfl (Nat.le_of_ble_eq_true rfl) rfl ?_
  have eN : M59 = mr_put M t k lo hi := by rw [hM59, hM49, hM46, hM32, hM19, hM9]; rfl
  have er : M59 174 3 = M 174 3 + 1 := by rw [hM59, mm_up_s]
  have ek : ∀ i : Nat, (i : Int) < M59 174 3 → mm_R (M59 182 i) := by
    intro i hi
    rw [er] at hi
    have e5 : M59 182 i = if i = (M 174 3).toNat then k else M 182 i := by
      simp [hM59, hM49, hM46, hM32, hM19, hM9, mm_up]
    rw [e5]
    split
    · exact hk
    · exact hv i (by omega)
  have := l_X7_putRight (X := X) (t := t) (lo := lo) (hi := hi) hR59 hk (by omega) ek (M59 174 3).toNat 0 (by omega)
  rw [er, show (M 174 3 + 1).toNat = (M 174 3).toNat + 1 by omega] at this
  rw [← eN]
  exact this
theorem c_X11_right (hR : mm_Rf M) (ht : mm_R t) (hk : mm_R k) (hlo : mm_R lo) (hhi : mm_R hi) (hl : 0 ≤ M 174 4 ∧ M 174 4 ≤ 999) (hn : 0 ≤ M 174 2 ∧ M 174 2 ≤ 30) (hc : 0 ≤ M 174 3 ∧ M 174 3 ≤ 20) (hv : ∀ i : Nat, (i : Int) < M 174 3 → mm_R (M 182 i)) :
    mm_Fn X Y_X11_right 243 [(2, 1), (0, t), (0, k), (0, lo), (0, hi)] M (0, if (0 ≤ k ∧ k ≤ M 174 2 - 1) ∧ (0 ≤ lo ∧ lo ≤ hi ∧ hi ≤ 99999999) ∧ M 174 4 ≤ t ∧ t ≤ 999 then (if M 174 3 < 20 then kc_n (mr_put M t k lo hi 182) k ((M 174 3).toNat + 1) else -3) else -2)
      (if ((0 ≤ k ∧ k ≤ M 174 2 - 1) ∧ (0 ≤ lo ∧ lo ≤ hi ∧ hi ≤ 99999999) ∧ M 174 4 ≤ t ∧ t ≤ 999) ∧ M 174 3 < 20 then mr_put M t k lo hi else M) := by
  refine mm_startF (ls := [(2, 1), (0, t), (0, k), (0, lo), (0, hi)]) rfl ?_
  obtain ⟨N, hN⟩ : ∃ N, N = mr_put M t k lo hi := ⟨_, rfl⟩
  have hRN : mm_Rf N := by
    rw [hN]; unfold mr_put
    exact (((((hR.up rfl).up rfl).up rfl).up rfl).up rfl).up rfl
  have hkb := kc_nb (f := N 182) (v := k) ((M 174 3).toNat + 1)
  refine mm_iload_n dX11_right_0 rfl rfl ?_
  refine mm_iconst dX11_right_1 rfl ?_
  refine mm_aload_n dX11_right_2 rfl rfl ?_
  refine mm_getr dX11_right_3 rfl fl_X11_90 (c := 0) rfl (by decide) rfl rfl (hR.at (c := 0) (i := 11) (v := 175) rfl (by decide)) ?_
  refine mm_get (kd := 0) dX11_right_6 rfl fl_X11_357 (c := 174) rfl (by decide) rfl rfl ?_
  refine mm_iconst dX11_right_9 rfl ?_
  refine mm_isub dX11_right_10 rfl ?_
  refine mm_S3i dX11_right_11 rfl lk_X11_171 (by simp) (by simp) (by simp) rfl rfl rfl (c_X11_isWithin hk (by omega) (by omega)) ?_
  refine mm_ifeqb dX11_right_14 (fun h14 => ?_) (fun h14 => ?_)
  · refine mm_bipush dX11_right_28 rfl (by decide) ?_
    refine mm_iret dX11_right_30 rfl rfl ?_
    first
    | exact mm_fin (by rw [if_neg (fun q => h14 q.1)]) (by rw [if_neg (fun q => h14 q.1.1)])
    | exact mm_fin (by rw [if_neg (fun q => h25 q.2)]) (by rw [if_neg (fun q => h25 q.1.2)])
  · refine mm_aload_n dX11_right_17 rfl rfl ?_
    refine mm_iload_n dX11_right_18 rfl rfl ?_
    refine mm_iload_n dX11_right_19 rfl rfl ?_
    refine mm_iload dX11_right_20 rfl rfl ?_
    refine mm_V3i dX11_right_22 rfl lk_X11_354 (c := 0) rfl (by decide) rfl (by simp) (by simp) (by simp) rfl rfl rfl (c_X11_canRead hR hl ht hlo hhi) ?_
    refine mm_ifneb dX11_right_25 (fun h25 => ?_) (fun h25 => ?_)
    · refine mm_aload_n dX11_right_31 rfl rfl ?_
      refine mm_getr dX11_right_32 rfl fl_X11_90 (c := 0) rfl (by decide) rfl rfl (hR.at (c := 0) (i := 11) (v := 175) rfl (by decide)) ?_
      refine mm_get (kd := 0) dX11_right_35 rfl fl_X11_361 (c := 174) rfl (by decide) rfl rfl ?_
      refine mm_bipush dX11_right_38 rfl (by decide) ?_
      refine mm_icge dX11_right_40 (by omega) (by omega) (fun h40 => ?_) (fun h40 => ?_)
      · refine mm_bipush dX11_right_58 rfl (by decide) ?_
        refine mm_iret dX11_right_60 rfl rfl ?_
        first
        | exact mm_fin (by rw [if_pos (And.intro h14 h25), if_pos (by omega), ← hN]) (by rw [if_pos ⟨And.intro h14 h25, by omega⟩, hN])
        | exact mm_fin (by rw [if_pos (And.intro h14 h25), if_neg (by omega)]) (by rw [if_neg (by omega)])
      · refine mm_aload_n dX11_right_43 rfl rfl ?_
        refine mm_getr dX11_right_44 rfl fl_X11_90 (c := 0) rfl (by decide) rfl rfl (hR.at (c := 0) (i := 11) (v := 175) rfl (by decide)) ?_
        refine mm_iload_n dX11_right_47 rfl rfl ?_
        refine mm_iload_n dX11_right_48 rfl rfl ?_
        refine mm_iload_n dX11_right_49 rfl rfl ?_
        refine mm_iload dX11_right_50 rfl rfl ?_
        refine mm_V4i dX11_right_52 rfl lk_X11_364 (c := 174) rfl (by decide) rfl (by simp) (by simp) (by simp) (by simp) rfl rfl rfl ((hN ▸ c_X7_putRight (t := t) (lo := lo) (hi := hi) hR hk (by omega) hv)) ?_
        refine mm_goto dX11_right_55 ?_
        refine mm_iret dX11_right_60 rfl rfl ?_
        first
        | exact mm_fin (by rw [if_pos (And.intro h14 h25), if_pos (by omega), ← hN]) (by rw [if_pos ⟨And.intro h14 h25, by omega⟩, hN])
        | exact mm_fin (by rw [if_pos (And.intro h14 h25), if_neg (by omega)]) (by rw [if_neg (by omega)])
    · refine mm_bipush dX11_right_28 rfl (by decide) ?_
      refine mm_iret dX11_right_30 rfl rfl ?_
      first
      | exact mm_fin (by rw [if_neg (fun q => h14 q.1)]) (by rw [if_neg (fun q => h14 q.1.1)])
      | exact mm_fin (by rw [if_neg (fun q => h25 q.2)]) (by rw [if_neg (fun q => h25 q.1.2)])
theorem l_X13_right (hRN : mm_Rf N) (hk : mm_R k) (hc : 0 ≤ N 183 98 ∧ N 183 98 ≤ 20) (hv : ∀ i : Nat, (i : Int) < N 183 98 → mm_R (N 239 i)) :
    ∀ (m i : Nat), i + m = (N 183 98).toNat → mm_J X Y_X13_right 243 243 243 118 [(2, 184), (0, t), (0, k), (0, lo), (0, hi), (0, kc_n (N 239) k i), (0, (i : Int))] [] N (fun r' M'' => r' = (0, kc_n (N 239) k (N 183 98).toNat) ∧ M'' = N) := by
  intro m
  induction m with
  | zero =>
    intro i hi
    have ei : i = (N 183 98).toNat := by omega
    refine mm_iload dX13_right_118 rfl rfl ?_
    refine mm_aload_n dX13_right_120 rfl rfl ?_
    refine mm_get (kd := 0) dX13_right_121 rfl fl_X13_406 (c := 183) rfl (by decide) rfl rfl ?_
    refine mm_icge dX13_right_124 (by omega) (by omega) (fun h124 => ?_) (fun h124 => ?_)
    · refine mm_iload dX13_right_154 rfl rfl ?_
      refine mm_iret dX13_right_156 rfl rfl ?_
      exact mm_fin (by rw [ei]) rfl
    · exfalso; omega
  | succ m ih =>
    intro i hi
    have hvi := hv i (by omega)
    have hb := kc_nb (f := N 239) (v := k) i
    refine mm_iload dX13_right_118 rfl rfl ?_
    refine mm_aload_n dX13_right_120 rfl rfl ?_
    refine mm_get (kd := 0) dX13_right_121 rfl fl_X13_406 (c := 183) rfl (by decide) rfl rfl ?_
    refine mm_icge dX13_right_124 (by omega) (by omega) (fun h124 => ?_) (fun h124 => ?_)
    · exfalso; omega
    · refine mm_iload dX13_right_127 rfl rfl ?_
      refine mm_aload_n dX13_right_129 rfl rfl ?_
      refine mm_getr dX13_right_130 rfl fl_X13_370 (c := 183) rfl (by decide) rfl rfl (hRN.at (c := 183) (i := 106) (v := 240) rfl (by decide)) ?_
      refine mm_iload dX13_right_133 rfl rfl ?_
      refine mm_ialk (k0 := i) dX13_right_135 rfl (c := 239) rfl (by decide) rfl (by omega) (by omega) ?_
      refine mm_iload_n dX13_right_136 rfl rfl ?_
      refine mm_icne dX13_right_137 (by omega) (by omega) (fun h137 => ?_) (fun h137 => ?_)
      · refine mm_iconst dX13_right_144 rfl ?_
        refine mm_iadd dX13_right_145 rfl ?_
        refine mm_istore dX13_right_146 rfl (Nat.le_of_ble_eq_true rfl) rfl ?_
        refine mm_iinc dX13_right_148 rfl rfl (Nat.le_of_ble_eq_true rfl) rfl ?_
        refine mm_goto dX13_right_151 ?_
        have := ih (i + 1) (by omega)
        rw [kc_n] at this
        first
        | (rw [if_pos (by omega)] at this; exact this)
        | (rw [if_neg (by omega)] at this; exact this)
      · refine mm_iconst dX13_right_140 rfl ?_
        refine mm_goto dX13_right_141 ?_
        refine mm_iadd dX13_right_145 rfl ?_
        refine mm_istore dX13_right_146 rfl (Nat.le_of_ble_eq_true rfl) rfl ?_
        refine mm_iinc dX13_right_148 rfl rfl (Nat.le_of_ble_eq_true rfl) rfl ?_
        refine mm_goto dX13_right_151 ?_
        have := ih (i + 1) (by omega)
        rw [kc_n] at this
        first
        | (rw [if_pos (by omega)] at this; exact this)
        | (rw [if_neg (by omega)] at this; exact this)
theorem c_X13_right (hR : mm_Rf M) (ht : mm_R t) (hk : mm_R k) (hlo : mm_R lo) (hhi : mm_R hi) (hl : 0 ≤ M 183 99 ∧ M 183 99 ≤ 999) (hn : 0 ≤ M 183 97 ∧ M 183 97 ≤ 30) (hc : 0 ≤ M 183 98 ∧ M 183 98 ≤ 20) (hv : ∀ i : Nat, (i : Int) < M 183 98 → mm_R (M 239 i)) :
    mm_Fn X Y_X13_right 243 [(2, 184), (0, t), (0, k), (0, lo), (0, hi)] M (0, if (0 ≤ k ∧ k ≤ M 183 97 - 1) ∧ (0 ≤ lo ∧ lo ≤ hi ∧ hi ≤ 99999999) ∧ M 183 99 ≤ t ∧ t ≤ 999 then (if M 183 98 < 20 then kc_n (mr_putR M t k lo hi 239) k ((M 183 98).toNat + 1) else -3) else -2)
      (if ((0 ≤ k ∧ k ≤ M 183 97 - 1) ∧ (0 ≤ lo ∧ lo ≤ hi ∧ hi ≤ 99999999) ∧ M 183 99 ≤ t ∧ t ≤ 999) ∧ M 183 98 < 20 then mr_putR M t k lo hi else M) := by
  refine mm_startF (ls := [(2, 184), (0, t), (0, k), (0, lo), (0, hi), (9, 0), (9, 0)]) rfl ?_
  refine mm_iload_n dX13_right_0 rfl rfl ?_
  refine mm_i2l dX13_right_1 rfl (by omega) ?_
  refine mm_aload_n dX13_right_2 rfl rfl ?_
  refine mm_get (kd := 0) dX13_right_3 rfl fl_X13_409 (c := 183) rfl (by decide) rfl rfl ?_
  refine mm_i2l dX13_right_6 rfl (by omega) ?_
  refine mm_ldc2 dX13_right_7 rfl kc_X13_484 ?_
  refine mm_S3i dX13_right_10 rfl lk_X13_5 (by simp) (by simp) (by simp) rfl rfl rfl (c_X13_in (by omega) (by omega) (by omega)) ?_
  refine mm_ifeqb dX13_right_13 (fun h13 => ?_) (fun h13 => ?_)
  · refine mm_bipush dX13_right_41 rfl (by decide) ?_
    refine mm_iret dX13_right_43 rfl rfl ?_
    first
    | exact mm_fin (by rw [if_neg (fun q => h13 q.2.2)]) (by rw [if_neg (fun q => h13 q.1.2.2)])
    | exact mm_fin (by rw [if_neg (fun q => h29 q.1)]) (by rw [if_neg (fun q => h29 q.1.1)])
    | exact mm_fin (by rw [if_neg (fun q => h38 q.2.1)]) (by rw [if_neg (fun q => h38 q.1.2.1)])
  · refine mm_iload_n dX13_right_16 rfl rfl ?_
    refine mm_i2l dX13_right_17 rfl (by omega) ?_
    refine mm_lconst0 dX13_right_18 rfl ?_
    refine mm_aload_n dX13_right_19 rfl rfl ?_
    refine mm_get (kd := 0) dX13_right_20 rfl fl_X13_403 (c := 183) rfl (by decide) rfl rfl ?_
    refine mm_i2l dX13_right_23 rfl (by omega) ?_
    refine mm_lconst1 dX13_right_24 rfl ?_
    refine mm_lsub dX13_right_25 rfl ?_
    refine mm_S3i dX13_right_26 rfl lk_X13_5 (by simp) (by simp) (by simp) rfl rfl rfl (c_X13_in (by omega) (by omega) (by omega)) ?_
    refine mm_ifeqb dX13_right_29 (fun h29 => ?_) (fun h29 => ?_)
    · refine mm_bipush dX13_right_41 rfl (by decide) ?_
      refine mm_iret dX13_right_43 rfl rfl ?_
      first
      | exact mm_fin (by rw [if_neg (fun q => h13 q.2.2)]) (by rw [if_neg (fun q => h13 q.1.2.2)])
      | exact mm_fin (by rw [if_neg (fun q => h29 q.1)]) (by rw [if_neg (fun q => h29 q.1.1)])
      | exact mm_fin (by rw [if_neg (fun q => h38 q.2.1)]) (by rw [if_neg (fun q => h38 q.1.2.1)])
    · refine mm_iload_n dX13_right_32 rfl rfl ?_
      refine mm_iload dX13_right_33 rfl rfl ?_
      refine mm_S2i dX13_right_35 rfl lk_X13_715 (by simp) (by simp) rfl rfl rfl (c_X13_arePulls hlo hhi) ?_
      refine mm_ifneb dX13_right_38 (fun h38 => ?_) (fun h38 => ?_)
      · refine mm_aload_n dX13_right_44 rfl rfl ?_
        refine mm_get (kd := 0) dX13_right_45 rfl fl_X13_406 (c := 183) rfl (by decide) rfl rfl ?_
        refine mm_bipush dX13_right_48 rfl (by decide) ?_
        refine mm_icne dX13_right_50 (by omega) (by omega) (fun h50 => ?_) (fun h50 => ?_)
        · refine mm_aload_n dX13_right_56 rfl rfl ?_
          refine mm_iload_n dX13_right_57 rfl rfl ?_
          refine mm_puti dX13_right_58 rfl fl_X13_409 (c := 183) rfl (by decide) rfl rfl (fun M58 hM58 => ?_)
          have hR58 : mm_Rf M58 := by rw [hM58]; exact hR.up rfl
          refine mm_aload_n dX13_right_61 rfl rfl ?_
          refine mm_getr dX13_right_62 rfl fl_X13_370 (c := 183) rfl (by decide) rfl rfl (hR58.at (c := 183) (i := 106) (v := 240) rfl (by decide)) ?_
          refine mm_aload_n dX13_right_65 rfl rfl ?_
          refine mm_get (kd := 0) dX13_right_66 rfl fl_X13_406 (c := 183) rfl (by decide) rfl rfl ?_
          have e1 : M58 183 98 = M 183 98 := by simp [hM58, mm_up]
          rw [e1]
          refine mm_iload_n dX13_right_69 rfl rfl ?_
          refine mm_isto dX13_right_70 rfl (c := 239) rfl (by decide) rfl (by omega) (by omega) (fun M70 hM70 => ?_)
          have hR70 : mm_Rf M70 := by rw [hM70]; exact hR58.up (mm_rt_ar (t := 0) rfl (by decide))
          refine mm_aload_n dX13_right_71 rfl rfl ?_
          refine mm_getr dX13_right_72 rfl fl_X13_373 (c := 183) rfl (by decide) rfl rfl (hR70.at (c := 183) (i := 107) (v := 241) rfl (by decide)) ?_
          refine mm_aload_n dX13_right_75 rfl rfl ?_
          refine mm_get (kd := 0) dX13_right_76 rfl fl_X13_406 (c := 183) rfl (by decide) rfl rfl ?_
          have e2 : M70 183 98 = M 183 98 := by simp [hM70, e1, mm_up]
          rw [e2]
          refine mm_iload_n dX13_right_79 rfl rfl ?_
          refine mm_isto dX13_right_80 rfl (c := 240) rfl (by decide) rfl (by omega) (by omega) (fun M80 hM80 => ?_)
          have hR80 : mm_Rf M80 := by rw [hM80]; exact hR70.up (mm_rt_ar (t := 0) rfl (by decide))
          refine mm_aload_n dX13_right_81 rfl rfl ?_
          refine mm_getr dX13_right_82 rfl fl_X13_376 (c := 183) rfl (by decide) rfl rfl (hR80.at (c := 183) (i := 108) (v := 242) rfl (by decide)) ?_
          refine mm_aload_n dX13_right_85 rfl rfl ?_
          refine mm_get (kd := 0) dX13_right_86 rfl fl_X13_406 (c := 183) rfl (by decide) rfl rfl ?_
          have e3 : M80 183 98 = M 183 98 := by simp [hM80, e2, mm_up]
          rw [e3]
          refine mm_iload dX13_right_89 rfl rfl ?_
          refine mm_isto dX13_right_91 rfl (c := 241) rfl (by decide) rfl (by omega) (by omega) (fun M91 hM91 => ?_)
          have hR91 : mm_Rf M91 := by rw [hM91]; exact hR80.up (mm_rt_ar (t := 0) rfl (by decide))
          refine mm_aload_n dX13_right_92 rfl rfl ?_
          refine mm_getr dX13_right_93 rfl fl_X13_379 (c := 183) rfl (by decide) rfl rfl (hR91.at (c := 183) (i := 109) (v := 243) rfl (by decide)) ?_
          refine mm_aload_n dX13_right_96 rfl rfl ?_
          refine mm_get (kd := 0) dX13_right_97 rfl fl_X13_406 (c := 183) rfl (by decide) rfl rfl ?_
          have e4 : M91 183 98 = M 183 98 := by simp [hM91, e3, mm_up]
          rw [e4]
          refine mm_iload_n dX13_right_100 rfl rfl ?_
          refine mm_isto dX13_right_101 rfl (c := 242) rfl (by decide) rfl (by omega) (by omega) (fun M101 hM101 => ?_)
          have hR101 : mm_Rf M101 := by rw [hM101]; exact hR91.up (mm_rt_ar (t := 0) rfl (by decide))
          refine mm_aload_n dX13_right_102 rfl rfl ?_
          refine mm_dup dX13_right_103 rfl (by simp) ?_
          refine mm_get (kd := 0) dX13_right_104 rfl fl_X13_406 (c := 183) rfl (by decide) rfl rfl ?_
          have e5 : M101 183 98 = M 183 98 := by simp [hM101, e4, mm_up]
          rw [e5]
          refine mm_iconst dX13_right_107 rfl ?_
          refine mm_iadd dX13_right_108 rfl ?_
          refine mm_puti dX13_right_109 rfl fl_X13_406 (c := 183) rfl (by decide) rfl rfl (fun M109 hM109 => ?_)
          have hR109 : mm_Rf M109 := by rw [hM109]; exact hR101.up rfl
          refine mm_iconst dX13_right_112 rfl ?_
          refine mm_istore dX13_right_113 rfl (Nat.le_of_ble_eq_true rfl) rfl ?_
          refine mm_iconst dX13_right_115 rfl ?_
          refine mm_istore dX13_right_116 rfl (Nat.le_of_ble_eq_true rfl) rfl ?_
          have eN : M109 = mr_putR M t k lo hi := by rw [hM109, hM101, hM91, hM80, hM70, hM58]; rfl
          have er : M109 183 98 = M 183 98 + 1 := by rw [hM109, mm_up_s]
          have ek : ∀ i : Nat, (i : Int) < M109 183 98 → mm_R (M109 239 i) := by
            intro i hi
            rw [er] at hi
            have e5 : M109 239 i = if i = (M 183 98).toNat then k else M 239 i := by
              simp [hM109, hM101, hM91, hM80, hM70, hM58, mm_up]
            rw [e5]
            split
            · exact hk
            · exact hv i (by omega)
          have := l_X13_right (X := X) (t := t) (lo := lo) (hi := hi) hR109 hk (by omega) ek (M109 183 98).toNat 0 (by omega)
          rw [er, show (M 183 98 + 1).toNat = (M 183 98).toNat + 1 by omega] at this
          rw [if_pos (And.intro h29 (And.intro h38 h13)), if_pos (show M 183 98 < 20 by omega), if_pos (And.intro (And.intro h29 (And.intro h38 h13)) (show M 183 98 < 20 by omega)), ← eN]
          exact this
        · refine mm_bipush dX13_right_53 rfl (by decide) ?_
          refine mm_iret dX13_right_55 rfl rfl ?_
          exact mm_fin (by rw [if_pos (And.intro h29 (And.intro h38 h13)), if_neg (by omega)]) (by rw [if_neg (by omega)])
      · refine mm_bipush dX13_right_41 rfl (by decide) ?_
        refine mm_iret dX13_right_43 rfl rfl ?_
        first
        | exact mm_fin (by rw [if_neg (fun q => h13 q.2.2)]) (by rw [if_neg (fun q => h13 q.1.2.2)])
        | exact mm_fin (by rw [if_neg (fun q => h29 q.1)]) (by rw [if_neg (fun q => h29 q.1.1)])
        | exact mm_fin (by rw [if_neg (fun q => h38 q.2.1)]) (by rw [if_neg (fun q => h38 q.1.2.1)])
end

