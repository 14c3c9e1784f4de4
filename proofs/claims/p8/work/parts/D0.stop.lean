/-! ===== constructors: the thing that is thrown ===== -/
abbrev cE_init : ByteArray := prog_16_method_5_code
abbrev cT_init : ByteArray := prog_23_method_5_code
def yE_init : MethodName := ⟨"java/lang/Exception", "<init>", "(Ljava/lang/String;Ljava/lang/Throwable;ZZ)V"⟩
def yT_init : MethodName := ⟨"java/lang/Throwable", "<init>", "(Ljava/lang/String;Ljava/lang/Throwable;ZZ)V"⟩
def Y_T_init : mm_Y := (yT_init, cT_init, 5, none, 1, 20, [])
def Y_E_init : mm_Y := (yE_init, cE_init, 5, none, 2, 50, [])
/-- the constructor of Stop, with the room that it needs -/
def Y_S_init : mm_Y := (yX12_init, cX12_init, 1, none, 3, 80, [])
theorem cw_T_init : mm_Wk (mm_cw Y_T_init) := mm_w1 5 163 rfl rfl
theorem cw_E_init : mm_Wk (mm_cw Y_E_init) := mm_w1 5 160 rfl rfl
theorem cw_S_init : mm_Wk (mm_cw Y_S_init) := mm_w1 5 157 rfl rfl
theorem in_X12 : ∀ w ∈ u_ws RX12 TX12 6, mm_Wk w := mm_inw [1327, 1329, 1331, 1333, 1335, 1373] (by decide +kernel) (by decide +kernel)
theorem cl_X12 : mm_Cl 12 RX12 TX12 6 tyX12 := ⟨rfl, rfl, in_X12, tyX12_ok, nmX12⟩
theorem dv_X12 : ∀ i, i < 6 → defaultValue (tyX12 i) = mm_dv (mm_fk 12 i) := by
  intro i hi
  match i, hi with
  | 0, _ => rfl
  | 1, _ => rfl
  | 2, _ => rfl
  | 3, _ => rfl
  | 4, _ => rfl
  | 5, _ => rfl
  | k + 6, h => exact absurd h (by omega)
theorem fl_T_7 : mm_F "java/lang/Throwable" 7 12 0 false (.object "java/lang/Throwable") := ⟨RX12, TX12, 6, tyX12, cl_X12, by decide, mm_w1 5 166 rfl rfl, rfl, rfl⟩
theorem fl_T_17 : mm_F "java/lang/Throwable" 17 12 1 false (.array (.object "java/lang/StackTraceElement")) := ⟨RX12, TX12, 6, tyX12, cl_X12, by decide, mm_w1 5 167 rfl rfl, rfl, rfl⟩
theorem fl_T_24 : mm_F "java/lang/Throwable" 24 12 2 false (.object "java/util/List") := ⟨RX12, TX12, 6, tyX12, cl_X12, by decide, mm_w1 5 168 rfl rfl, rfl, rfl⟩
theorem fl_T_31 : mm_F "java/lang/Throwable" 31 12 3 false (.object "java/lang/String") := ⟨RX12, TX12, 6, tyX12, cl_X12, by decide, mm_w1 5 165 rfl rfl, rfl, rfl⟩
theorem oi_T_1 : mm_OiP "java/lang/Throwable" 1 := ⟨mm_w1 5 141 rfl rfl, mm_w1 0 31 rfl rfl, mm_w1 0 32 rfl rfl⟩
theorem li_S_1 : mm_LI RX12 1 Y_E_init 4 := ⟨⟨mm_w1 5 158 rfl rfl, cw_E_init, by decide +kernel, ⟨by decide +kernel, by decide +kernel⟩, by decide +kernel⟩, mm_w1 5 159 rfl rfl, rfl, rfl, rfl⟩
theorem li_E_16 : mm_LI "java/lang/Exception" 16 Y_T_init 4 := ⟨⟨mm_w1 5 161 rfl rfl, cw_T_init, by decide +kernel, ⟨by decide +kernel, by decide +kernel⟩, by decide +kernel⟩, mm_w1 5 162 rfl rfl, rfl, rfl, rfl⟩
theorem li_X13_S : mm_LI RX13 239 Y_S_init 0 := ⟨⟨mm_w1 5 155 rfl rfl, cw_S_init, by decide +kernel, ⟨by decide +kernel, by decide +kernel⟩, by decide +kernel⟩, mm_w1 5 156 rfl rfl, rfl, rfl, rfl⟩
theorem nw_X13_237 : mm_NwP RX13 237 12 := ⟨RX12, TX12, 6, tyX12, cl_X12, mm_w1 5 118 rfl rfl, mm_w1 5 119 rfl rfl, mm_w1 0 19 rfl rfl, dv_X12⟩
theorem dT_0 : mm_D cT_init 0 1 (.aload_n 0) := by decide +kernel
theorem dT_1 : mm_D cT_init 1 4 (.invokespecial 1) := by decide +kernel
theorem dT_4 : mm_D cT_init 4 5 (.aload_n 0) := by decide +kernel
theorem dT_5 : mm_D cT_init 5 6 (.aload_n 0) := by decide +kernel
theorem dT_6 : mm_D cT_init 6 9 (.putfield 7) := by decide +kernel
theorem dT_9 : mm_D cT_init 9 10 (.aload_n 0) := by decide +kernel
theorem dT_10 : mm_D cT_init 10 13 (.getstatic 13) := by decide +kernel
theorem dT_13 : mm_D cT_init 13 16 (.putfield 17) := by decide +kernel
theorem dT_16 : mm_D cT_init 16 17 (.aload_n 0) := by decide +kernel
theorem dT_17 : mm_D cT_init 17 20 (.getstatic 20) := by decide +kernel
theorem dT_20 : mm_D cT_init 20 23 (.putfield 24) := by decide +kernel
theorem dT_23 : mm_D cT_init 23 25 (.iload 4) := by decide +kernel
theorem dT_25 : mm_Bz cT_init 25 28 36 .eq := by decide +kernel
theorem dT_36 : mm_D cT_init 36 37 (.aload_n 0) := by decide +kernel
theorem dT_37 : mm_D cT_init 37 38 (.aconst_null) := by decide +kernel
theorem dT_38 : mm_D cT_init 38 41 (.putfield 17) := by decide +kernel
theorem dT_41 : mm_D cT_init 41 42 (.aload_n 0) := by decide +kernel
theorem dT_42 : mm_D cT_init 42 43 (.aload_n 1) := by decide +kernel
theorem dT_43 : mm_D cT_init 43 46 (.putfield 31) := by decide +kernel
theorem dT_46 : mm_D cT_init 46 47 (.aload_n 0) := by decide +kernel
theorem dT_47 : mm_D cT_init 47 48 (.aload_n 2) := by decide +kernel
theorem dT_48 : mm_D cT_init 48 51 (.putfield 7) := by decide +kernel
theorem dT_51 : mm_D cT_init 51 52 (.iload_n 3) := by decide +kernel
theorem dT_52 : mm_Bz cT_init 52 55 60 .ne := by decide +kernel
theorem dT_55 : mm_D cT_init 55 56 (.aload_n 0) := by decide +kernel
theorem dT_56 : mm_D cT_init 56 57 (.aconst_null) := by decide +kernel
theorem dT_57 : mm_D cT_init 57 60 (.putfield 24) := by decide +kernel
theorem dT_60 : mm_D cT_init 60 61 (.return_) := by decide +kernel
theorem dE_0 : mm_D cE_init 0 1 (.aload_n 0) := by decide +kernel
theorem dE_1 : mm_D cE_init 1 2 (.aload_n 1) := by decide +kernel
theorem dE_2 : mm_D cE_init 2 3 (.aload_n 2) := by decide +kernel
theorem dE_3 : mm_D cE_init 3 4 (.iload_n 3) := by decide +kernel
theorem dE_4 : mm_D cE_init 4 6 (.iload 4) := by decide +kernel
theorem dE_6 : mm_D cE_init 6 9 (.invokespecial 16) := by decide +kernel
theorem dE_9 : mm_D cE_init 9 10 (.return_) := by decide +kernel
section
variable {X : mm_X} {Y Y' : mm_Y} {n0 n1 n n' pc q idx ci c i : Nat} {ls st : List mm_V} {M : mm_M} {Φ Ψ : mm_V → mm_M → Prop} {x r : Int} {a1 a2 a3 a4 : mm_V}
theorem mm_putq {ty : FieldType} (hd : mm_D Y.2.1 pc q (.putfield idx)) (hq : pc + 3 = q) (hf : mm_F Y.1.cls idx ci i false ty) (hty : (∃ n, ty = .object n) ∨ ∃ t, ty = .array t) (hr : r = (c : Int) + 1) (hc : c < n) (hs : mm_sh c = (0, ci)) (hk : mm_fk ci i = 2)
    (k : ∀ M', M' = mm_up M c i x → mm_J X Y n0 n1 n q ls st M' Φ) : mm_J X Y n0 n1 n pc ls ((2, x) :: (2, r) :: st) M Φ :=
  mm_put (kd := 2) hd hq hf hr hc hs hk (fun _ _ => mm_v2nf hty x) (k _ rfl)
theorem mm_I4g (hd : mm_D Y.2.1 pc q (.invokespecial idx)) (hq : pc + 3 = q) (hw : mm_LI Y.1.cls idx Y' 4) (hr : r = (c : Int) + 1) (hn : mm_le n0 n n' n1) (h1 : a1.1 ≠ 9) (h2 : a2.1 ≠ 9) (h3 : a3.1 ≠ 9) (h4 : a4.1 ≠ 9) (hpad : Nat.ble (mm_dbl [(2, r), a1, a2, a3, a4]).length Y'.2.2.1 = true) (hfr : Nat.ble (Y'.2.2.2.2.1 + 1) Y.2.2.2.2.1 = true) (hlo : Nat.ble (mm_wd st + (Y'.2.2.1 + 11) + Y'.2.2.2.2.2.1) Y.2.2.2.2.2.1 = true)
    (hC : mm_C X Y' n n' [(2, r), a1, a2, a3, a4] M Ψ) (k : ∀ r M1, Ψ r M1 → mm_Kc X Y n0 n1 n' q ls st Φ r M1) : mm_J X Y n0 n1 n pc ls (a4 :: a3 :: a2 :: a1 :: (2, r) :: st) M Φ :=
  mm_callI hd hq hw hr (as := [a1, a2, a3, a4]) rfl rfl hn (by intro v hv; simp at hv; rcases hv with rfl | rfl | rfl | rfl; exact h1; exact h2; exact h3; exact h4) (Nat.le_of_ble_eq_true hpad) (Nat.le_of_ble_eq_true hfr) (Nat.le_of_ble_eq_true hlo) hC k
end
section
variable {X : mm_X} {M : mm_M}
/-- nothing is changed but the thrown thing, and nothing is in it -/
def kx_T (M M' : mm_M) : Prop := (∀ a, a ≠ 184 → M' a = M a) ∧ ∀ b, M' 184 b = 0
theorem c_T_init (hz : ∀ b, M 184 b = 0) : mm_C X Y_T_init 185 185 [(2, 185), (2, 0), (2, 0), (0, 0), (0, 0)] M (fun r M' => r = (3, 0) ∧ kx_T M M') := by
  refine mm_start (ls := [(2, 185), (2, 0), (2, 0), (0, 0), (0, 0)]) rfl ?_
  refine mm_aload_n dT_0 rfl rfl ?_
  refine mm_oinit' (c := 184) dT_1 rfl oi_T_1 rfl rfl rfl ?_
  refine mm_aload_n dT_4 rfl rfl ?_
  refine mm_aload_n dT_5 rfl rfl ?_
  refine mm_putq dT_6 rfl fl_T_7 (Or.inl ⟨_, rfl⟩) (c := 184) rfl (by decide) rfl rfl (fun M6 hM6 => ?_)
  refine mm_aload_n dT_9 rfl rfl ?_
  refine mm_gzq (j0 := 2) dT_10 rfl (by decide) (mm_w1 5 142 rfl rfl) (fun r10 => ?_)
  refine mm_putq dT_13 rfl fl_T_17 (Or.inr ⟨_, rfl⟩) (c := 184) rfl (by decide) rfl rfl (fun M13 hM13 => ?_)
  refine mm_aload_n dT_16 rfl rfl ?_
  refine mm_gzq (j0 := 1) dT_17 rfl (by decide) (mm_w1 5 144 rfl rfl) (fun r17 => ?_)
  refine mm_putq dT_20 rfl fl_T_24 (Or.inl ⟨_, rfl⟩) (c := 184) rfl (by decide) rfl rfl (fun M20 hM20 => ?_)
  refine mm_iload dT_23 rfl rfl ?_
  refine mm_ifeq dT_25 (by unfold mm_R; omega) (fun _ => ?_) (fun h => absurd rfl h)
  refine mm_aload_n dT_36 rfl rfl ?_
  refine mm_null dT_37 rfl ?_
  refine mm_putq dT_38 rfl fl_T_17 (Or.inr ⟨_, rfl⟩) (c := 184) rfl (by decide) rfl rfl (fun M38 hM38 => ?_)
  refine mm_aload_n dT_41 rfl rfl ?_
  refine mm_aload_n dT_42 rfl rfl ?_
  refine mm_putq dT_43 rfl fl_T_31 (Or.inl ⟨_, rfl⟩) (c := 184) rfl (by decide) rfl rfl (fun M43 hM43 => ?_)
  refine mm_aload_n dT_46 rfl rfl ?_
  refine mm_aload_n dT_47 rfl rfl ?_
  refine mm_putq dT_48 rfl fl_T_7 (Or.inl ⟨_, rfl⟩) (c := 184) rfl (by decide) rfl rfl (fun M48 hM48 => ?_)
  refine mm_iload_n dT_51 rfl rfl ?_
  refine mm_ifne dT_52 (by unfold mm_R; omega) (fun h => absurd rfl h) (fun _ => ?_)
  refine mm_aload_n dT_55 rfl rfl ?_
  refine mm_null dT_56 rfl ?_
  refine mm_putq dT_57 rfl fl_T_24 (Or.inl ⟨_, rfl⟩) (c := 184) rfl (by decide) rfl rfl (fun M57 hM57 => ?_)
  refine mm_vret dT_60 rfl rfl ?_
  refine ⟨rfl, ?_, ?_⟩
  · intro a ha
    rw [hM57, mm_up_row ha, hM48, mm_up_row ha, hM43, mm_up_row ha, hM38, mm_up_row ha, hM20, mm_up_row ha, hM13, mm_up_row ha, hM6, mm_up_row ha]
  · intro b
    by_cases q0 : b = 0
    · subst q0; rw [hM57, mm_up_i (by decide), hM48, mm_up_s]
    by_cases q1 : b = 1
    · subst q1; rw [hM57, mm_up_i (by decide), hM48, mm_up_i (by decide), hM43, mm_up_i (by decide), hM38, mm_up_s]
    by_cases q2 : b = 2
    · subst q2; rw [hM57, mm_up_s]
    by_cases q3 : b = 3
    · subst q3; rw [hM57, mm_up_i (by decide), hM48, mm_up_i (by decide), hM43, mm_up_s]
    rw [hM57, mm_up_i q2, hM48, mm_up_i q0, hM43, mm_up_i q3, hM38, mm_up_i q1, hM20, mm_up_i q2, hM13, mm_up_i q1, hM6, mm_up_i q0]
    exact hz b
theorem c_E_init (hz : ∀ b, M 184 b = 0) : mm_C X Y_E_init 185 185 [(2, 185), (2, 0), (2, 0), (0, 0), (0, 0)] M (fun r M' => r = (3, 0) ∧ kx_T M M') := by
  refine mm_start (ls := [(2, 185), (2, 0), (2, 0), (0, 0), (0, 0)]) rfl ?_
  refine mm_aload_n dE_0 rfl rfl ?_
  refine mm_aload_n dE_1 rfl rfl ?_
  refine mm_aload_n dE_2 rfl rfl ?_
  refine mm_iload_n dE_3 rfl rfl ?_
  refine mm_iload dE_4 rfl rfl ?_
  refine mm_I4g (c := 184) (n := 185) (n' := 185) dE_6 rfl li_E_16 rfl ⟨by decide, by decide, by decide, by decide +kernel, by decide +kernel, by decide +kernel⟩ (by simp) (by simp) (by simp) (by simp) rfl rfl rfl (c_T_init hz) ?_
  rintro _ N6 ⟨rfl, p6⟩
  change mm_J _ _ _ _ _ _ _ _ _ _
  refine mm_vret dE_9 rfl rfl ?_
  exact ⟨rfl, p6⟩
theorem c_S_init (hz : ∀ b, M 184 b = 0) : mm_C X Y_S_init 185 185 [(2, 185)] M (fun r M' => r = (3, 0) ∧ kx_T M M') := by
  refine mm_start (ls := [(2, 185)]) rfl ?_
  refine mm_aload_n dX12_init_0 rfl rfl ?_
  refine mm_null dX12_init_1 rfl ?_
  refine mm_null dX12_init_2 rfl ?_
  refine mm_iconst dX12_init_3 rfl ?_
  refine mm_iconst dX12_init_4 rfl ?_
  refine mm_I4g (c := 184) (n := 185) (n' := 185) dX12_init_5 rfl li_S_1 rfl ⟨by decide, by decide, by decide, by decide +kernel, by decide +kernel, by decide +kernel⟩ (by simp) (by simp) (by simp) (by simp) rfl rfl rfl (c_E_init hz) ?_
  rintro _ N6 ⟨rfl, p6⟩
  change mm_J _ _ _ _ _ _ _ _ _ _
  refine mm_vret dX12_init_8 rfl rfl ?_
  exact ⟨rfl, p6⟩
end

