/-! ===== constructors: rows, laws, air ===== -/
section
variable {X : mm_X} {M : mm_M} {c len : Nat}
theorem c_X8_init (h0 : mm_sh c = (0, 8)) (h1 : mm_sh (c + 1) = (1, len)) (h2 : mm_sh (c + 1 + 1) = (1, len)) (hl : 1 ≤ len ∧ len ≤ 288) (hs1 : mm_sz (c + 1 + 1) = mm_sz (c + 1) + len) (hs2 : mm_sz (c + 1 + 1 + 1) = mm_sz (c + 1 + 1) + len) :
    mm_C X Y_X8_init (c + 1) (c + 1 + 1 + 1) [(2, (c : Int) + 1), (0, (len : Int))] M (fun r M' => r = (3, 0) ∧ (∀ a, a < c → M' a = M a) ∧ (∀ b, M' c b = if b = 0 then (c : Int) + 2 else if b = 1 then (c : Int) + 3 else M c b) ∧ (∀ b, M' (c + 1) b = 0) ∧ (∀ b, M' (c + 2) b = 0)) := by
  refine mm_start (ls := [(2, (c : Int) + 1), (0, (len : Int)), (9, 0)]) rfl ?_
  refine mm_aload_n dX8_init_0 rfl rfl ?_
  refine mm_oinit' (c := c) dX8_init_1 rfl oi_X8_1 rfl rfl rfl ?_
  refine mm_iload_n dX8_init_4 rfl rfl ?_
  refine mm_iconst dX8_init_5 rfl ?_
  refine mm_max dX8_init_6 rfl lm_X8_7 rfl rfl (by simp; omega) (by omega) (by omega) ?_
  rw [show max (len : Int) 1 = (len : Int) by omega]
  refine mm_istore_n dX8_init_9 rfl (Nat.le_of_ble_eq_true rfl) rfl ?_
  refine mm_aload_n dX8_init_10 rfl rfl ?_
  refine mm_iload_n dX8_init_11 rfl rfl ?_
  refine mm_newarr' (n := c+1) (t := 0) dX8_init_12 rfl h1 (by decide) rfl rfl ac_0 ⟨by omega, by omega, by omega, hs1, by omega⟩ (fun M12 hM12 => ?_)
  refine mm_putr' dX8_init_14 rfl fl_X8_13 (by first | exact Or.inl ⟨_, rfl⟩ | exact Or.inr ⟨_, rfl⟩) rfl fr_X8 (c := c) rfl (by omega)   h0 rfl (fun M14 hM14 => ?_)
  refine mm_aload_n dX8_init_17 rfl rfl ?_
  refine mm_iload_n dX8_init_18 rfl rfl ?_
  refine mm_newarr' (n := c+1 + 1) (t := 0) dX8_init_19 rfl h2 (by decide) rfl rfl ac_0 ⟨by omega, by omega, by omega, hs2, by omega⟩ (fun M19 hM19 => ?_)
  refine mm_putr' dX8_init_21 rfl fl_X8_19 (by first | exact Or.inl ⟨_, rfl⟩ | exact Or.inr ⟨_, rfl⟩) rfl fr_X8 (c := c) rfl (by omega)   h0 rfl (fun M21 hM21 => ?_)
  refine mm_vret dX8_init_24 rfl rfl ?_
  refine ⟨rfl, ?_, ?_, ?_, ?_⟩
  · intro a ha
    have e0 : a ≠ c := by omega
    have e1 : a ≠ c + 1 := by omega
    have e2 : a ≠ c + 1 + 1 := by omega
    funext b; simp [hM21, hM19, hM14, hM12, mm_up, mm_z, e0, e1, e2]
  · intro b
    by_cases q0 : b = 0
    · subst q0; simp [hM21, hM19, hM14, hM12, mm_up, mm_z]; omega
    · by_cases q1 : b = 1
      · subst q1; simp [hM21, hM19, hM14, hM12, mm_up, mm_z]; omega
      · simp [hM21, hM19, hM14, hM12, mm_up, mm_z, q0, q1]; omega
  · intro b; simp [hM21, hM19, hM14, hM12, mm_up, mm_z]
  · intro b; simp [hM21, hM19, hM14, hM12, mm_up, mm_z]
end
section
variable {X : mm_X} {Y Y' : mm_Y} {n0 n1 n pc q idx : Nat} {ls st : List mm_V} {M M1 : mm_M} {Φ : mm_V → mm_M → Prop} {a1 a2 : mm_V}
theorem mm_S2c (hd : mm_D Y.2.1 pc q (.invokestatic idx)) (hq : pc + 3 = q) (hw : mm_LS Y.1.cls idx Y' 2) (hn : mm_le n0 n n n1) (h1 : a1.1 ≠ 9) (h2 : a2.1 ≠ 9) (hpad : Nat.ble (mm_dbl [a1, a2]).length Y'.2.2.1 = true) (hfr : Nat.ble (Y'.2.2.2.2.1 + 1) Y.2.2.2.2.1 = true) (hlo : Nat.ble (mm_wd st + (Y'.2.2.1 + 11) + Y'.2.2.2.2.2.1) Y.2.2.2.2.2.1 = true)
    (hC : mm_Fn X Y' n [a1, a2] M (3, 0) M1) (k : ∀ M', M' = M1 → mm_J X Y n0 n1 n q ls st M' Φ) : mm_J X Y n0 n1 n pc ls (a2 :: a1 :: st) M Φ := by
  refine mm_callS hd hq hw (as := [a1, a2]) rfl rfl hn (by intro v hv; simp at hv; rcases hv with rfl | rfl; exact h1; exact h2) (Nat.le_of_ble_eq_true hpad) (Nat.le_of_ble_eq_true hfr) (Nat.le_of_ble_eq_true hlo) hC ?_
  rintro _ _ ⟨rfl, rfl⟩
  exact k _ rfl
end
section
variable {X : mm_X} {M : mm_M}
theorem c_X5_init (hz : ∀ b, M 172 b = 0) : mm_C X Y_X5_init 173 174 [(2, 173)] M (fun r M' => r = (3, 0) ∧ mm_bn M M' 172 174 (fun a b => (a = 173 ∧ b < 24)) ∧ (∀ b, b < 24 → M' 173 b = 9999)) := by
  refine mm_start (ls := [(2, 173)]) rfl ?_
  refine mm_aload_n dX5_init_0 rfl rfl ?_
  refine mm_oinit' (c := 172) dX5_init_1 rfl oi_X5_3 rfl rfl rfl ?_
  refine mm_aload_n dX5_init_4 rfl rfl ?_
  refine mm_bipush dX5_init_5 rfl (by decide) ?_
  refine mm_newarr' (n := 173) (t := 0) dX5_init_7 rfl rfl (by decide) rfl rfl ac_0 ⟨by decide, by decide, by decide +kernel, by decide +kernel, by decide +kernel⟩ (fun M7 hM7 => ?_)
  refine mm_putr' dX5_init_9 rfl fl_X5_11 (by first | exact Or.inl ⟨_, rfl⟩ | exact Or.inr ⟨_, rfl⟩) rfl fr_X5 (c := 172) rfl (by decide) rfl rfl (fun M9 hM9 => ?_)
  refine mm_aload_n dX5_init_12 rfl rfl ?_
  refine mm_getr dX5_init_13 rfl fl_X5_11 (c := 172) rfl (by decide) rfl rfl (show M9 172 1 = 174 by simp [hM9, hM7, mm_up, mm_z]) ?_
  refine mm_sipush dX5_init_16 rfl (by decide) ?_
  refine mm_S2c dX5_init_19 rfl lk_X5_17 ⟨by decide, by decide, by decide, by decide +kernel, by decide +kernel, by decide +kernel⟩ (by simp) (by simp) rfl rfl rfl (c_J7_fill2 (c := 173) (len := 24) (by decide) rfl) (fun N19 hN19 => ?_)
  refine mm_vret dX5_init_22 rfl rfl ?_
  refine ⟨rfl, ⟨?_, ?_⟩, ?_⟩
  · intro a ha
    have e172 : a ≠ 172 := by omega
    have e173 : a ≠ 173 := by omega
    funext b; simp [hN19, hM9, hM7, mm_up, mm_z, kf_mem, e172, e173]
  · intro a b h1 h2 hE
    rcases (show a = 172 ∨ a = 173 by omega) with e | e
    · subst e
      by_cases q1 : b = 1
      · subst q1; simp [hN19, hM9, hM7, mm_up, mm_z, kf_mem]; rfl
      rw [mm_rt_no [1] (by decide +kernel) (by simp [q1])]
      simp [hN19, hM9, hM7, mm_up, mm_z, kf_mem, q1]; exact hz b
    · subst e
      have hb : ¬ b < 24 := fun q => hE (by simp [q])
      rw [mm_rt_ar (t := 0) rfl (by decide)]; simp [hN19, hM9, hM7, mm_up, mm_z, kf_mem, hb]
  · intro b hb; simp [hN19, hM9, hM7, mm_up, mm_z, kf_mem, hb]
theorem c_X0_init (hz : ∀ b, M 11 b = 0) : mm_C X Y_X0_init 12 18 [(2, 12), (2, 4)] M (fun r M' => r = (3, 0) ∧ mm_bn M M' 11 18 (fun a b => (a = 16 ∧ b < 120) ∨ (a = 17 ∧ b < 120)) ∧ (∀ b, b < 120 → M' 16 b = 10) ∧ (∀ b, b < 120 → M' 17 b = 10)) := by
  refine mm_start (ls := [(2, 12), (2, 4)]) rfl ?_
  refine mm_aload_n dX0_init_0 rfl rfl ?_
  refine mm_oinit' (c := 11) dX0_init_1 rfl oi_X0_3 rfl rfl rfl ?_
  refine mm_aload_n dX0_init_4 rfl rfl ?_
  refine mm_sipush dX0_init_5 rfl (by decide) ?_
  refine mm_newarr' (n := 12) (t := 0) dX0_init_8 rfl rfl (by decide) rfl rfl ac_0 ⟨by decide, by decide, by decide +kernel, by decide +kernel, by decide +kernel⟩ (fun M8 hM8 => ?_)
  refine mm_putr' dX0_init_10 rfl fl_X0_11 (by first | exact Or.inl ⟨_, rfl⟩ | exact Or.inr ⟨_, rfl⟩) rfl fr_X0 (c := 11) rfl (by decide) rfl rfl (fun M10 hM10 => ?_)
  refine mm_aload_n dX0_init_13 rfl rfl ?_
  refine mm_sipush dX0_init_14 rfl (by decide) ?_
  refine mm_newarr' (n := 13) (t := 0) dX0_init_17 rfl rfl (by decide) rfl rfl ac_0 ⟨by decide, by decide, by decide +kernel, by decide +kernel, by decide +kernel⟩ (fun M17 hM17 => ?_)
  refine mm_putr' dX0_init_19 rfl fl_X0_15 (by first | exact Or.inl ⟨_, rfl⟩ | exact Or.inr ⟨_, rfl⟩) rfl fr_X0 (c := 11) rfl (by decide) rfl rfl (fun M19 hM19 => ?_)
  refine mm_aload_n dX0_init_22 rfl rfl ?_
  refine mm_sipush dX0_init_23 rfl (by decide) ?_
  refine mm_newarr' (n := 14) (t := 0) dX0_init_26 rfl rfl (by decide) rfl rfl ac_0 ⟨by decide, by decide, by decide +kernel, by decide +kernel, by decide +kernel⟩ (fun M26 hM26 => ?_)
  refine mm_putr' dX0_init_28 rfl fl_X0_18 (by first | exact Or.inl ⟨_, rfl⟩ | exact Or.inr ⟨_, rfl⟩) rfl fr_X0 (c := 11) rfl (by decide) rfl rfl (fun M28 hM28 => ?_)
  refine mm_aload_n dX0_init_31 rfl rfl ?_
  refine mm_sipush dX0_init_32 rfl (by decide) ?_
  refine mm_newarr' (n := 15) (t := 0) dX0_init_35 rfl rfl (by decide) rfl rfl ac_0 ⟨by decide, by decide, by decide +kernel, by decide +kernel, by decide +kernel⟩ (fun M35 hM35 => ?_)
  refine mm_putr' dX0_init_37 rfl fl_X0_21 (by first | exact Or.inl ⟨_, rfl⟩ | exact Or.inr ⟨_, rfl⟩) rfl fr_X0 (c := 11) rfl (by decide) rfl rfl (fun M37 hM37 => ?_)
  refine mm_aload_n dX0_init_40 rfl rfl ?_
  refine mm_bipush dX0_init_41 rfl (by decide) ?_
  refine mm_newarr' (n := 16) (t := 0) dX0_init_43 rfl rfl (by decide) rfl rfl ac_0 ⟨by decide, by decide, by decide +kernel, by decide +kernel, by decide +kernel⟩ (fun M43 hM43 => ?_)
  refine mm_putr' dX0_init_45 rfl fl_X0_26 (by first | exact Or.inl ⟨_, rfl⟩ | exact Or.inr ⟨_, rfl⟩) rfl fr_X0 (c := 11) rfl (by decide) rfl rfl (fun M45 hM45 => ?_)
  refine mm_aload_n dX0_init_48 rfl rfl ?_
  refine mm_bipush dX0_init_49 rfl (by decide) ?_
  refine mm_newarr' (n := 17) (t := 0) dX0_init_51 rfl rfl (by decide) rfl rfl ac_0 ⟨by decide, by decide, by decide +kernel, by decide +kernel, by decide +kernel⟩ (fun M51 hM51 => ?_)
  refine mm_putr' dX0_init_53 rfl fl_X0_29 (by first | exact Or.inl ⟨_, rfl⟩ | exact Or.inr ⟨_, rfl⟩) rfl fr_X0 (c := 11) rfl (by decide) rfl rfl (fun M53 hM53 => ?_)
  refine mm_aload_n dX0_init_56 rfl rfl ?_
  refine mm_aload_n dX0_init_57 rfl rfl ?_
  refine mm_putr' dX0_init_58 rfl fl_X0_32 (by first | exact Or.inl ⟨_, rfl⟩ | exact Or.inr ⟨_, rfl⟩) rfl fr_X0 (c := 11) rfl (by decide) rfl rfl (fun M58 hM58 => ?_)
  refine mm_aload_n dX0_init_61 rfl rfl ?_
  refine mm_getr dX0_init_62 rfl fl_X0_26 (c := 11) rfl (by decide) rfl rfl (show M58 11 7 = 17 by simp [hM58, hM53, hM51, hM45, hM43, hM37, hM35, hM28, hM26, hM19, hM17, hM10, hM8, mm_up, mm_z]) ?_
  refine mm_bipush dX0_init_65 rfl (by decide) ?_
  refine mm_S2c dX0_init_67 rfl lk_X0_36 ⟨by decide, by decide, by decide, by decide +kernel, by decide +kernel, by decide +kernel⟩ (by simp) (by simp) rfl rfl rfl (c_J7_fill2 (c := 16) (len := 120) (by decide) rfl) (fun N67 hN67 => ?_)
  refine mm_aload_n dX0_init_70 rfl rfl ?_
  refine mm_getr dX0_init_71 rfl fl_X0_29 (c := 11) rfl (by decide) rfl rfl (show N67 11 8 = 18 by simp [hN67, hM58, hM53, hM51, hM45, hM43, hM37, hM35, hM28, hM26, hM19, hM17, hM10, hM8, mm_up, mm_z, kf_mem]) ?_
  refine mm_bipush dX0_init_74 rfl (by decide) ?_
  refine mm_S2c dX0_init_76 rfl lk_X0_36 ⟨by decide, by decide, by decide, by decide +kernel, by decide +kernel, by decide +kernel⟩ (by simp) (by simp) rfl rfl rfl (c_J7_fill2 (c := 17) (len := 120) (by decide) rfl) (fun N76 hN76 => ?_)
  refine mm_vret dX0_init_79 rfl rfl ?_
  refine ⟨rfl, ⟨?_, ?_⟩, ?_, ?_⟩
  · intro a ha
    have e11 : a ≠ 11 := by omega
    have e12 : a ≠ 12 := by omega
    have e13 : a ≠ 13 := by omega
    have e14 : a ≠ 14 := by omega
    have e15 : a ≠ 15 := by omega
    have e16 : a ≠ 16 := by omega
    have e17 : a ≠ 17 := by omega
    funext b; simp [hN76, hN67, hM58, hM53, hM51, hM45, hM43, hM37, hM35, hM28, hM26, hM19, hM17, hM10, hM8, mm_up, mm_z, kf_mem, e11, e12, e13, e14, e15, e16, e17]
  · intro a b h1 h2 hE
    rcases (show a = 11 ∨ a = 12 ∨ a = 13 ∨ a = 14 ∨ a = 15 ∨ a = 16 ∨ a = 17 by omega) with e | e | e | e | e | e | e
    · subst e
      by_cases q0 : b = 0
      · subst q0; simp [hN76, hN67, hM58, hM53, hM51, hM45, hM43, hM37, hM35, hM28, hM26, hM19, hM17, hM10, hM8, mm_up, mm_z, kf_mem]; rfl
      by_cases q3 : b = 3
      · subst q3; simp [hN76, hN67, hM58, hM53, hM51, hM45, hM43, hM37, hM35, hM28, hM26, hM19, hM17, hM10, hM8, mm_up, mm_z, kf_mem]; rfl
      by_cases q4 : b = 4
      · subst q4; simp [hN76, hN67, hM58, hM53, hM51, hM45, hM43, hM37, hM35, hM28, hM26, hM19, hM17, hM10, hM8, mm_up, mm_z, kf_mem]; rfl
      by_cases q5 : b = 5
      · subst q5; simp [hN76, hN67, hM58, hM53, hM51, hM45, hM43, hM37, hM35, hM28, hM26, hM19, hM17, hM10, hM8, mm_up, mm_z, kf_mem]; rfl
      by_cases q6 : b = 6
      · subst q6; simp [hN76, hN67, hM58, hM53, hM51, hM45, hM43, hM37, hM35, hM28, hM26, hM19, hM17, hM10, hM8, mm_up, mm_z, kf_mem]; rfl
      by_cases q7 : b = 7
      · subst q7; simp [hN76, hN67, hM58, hM53, hM51, hM45, hM43, hM37, hM35, hM28, hM26, hM19, hM17, hM10, hM8, mm_up, mm_z, kf_mem]; rfl
      by_cases q8 : b = 8
      · subst q8; simp [hN76, hN67, hM58, hM53, hM51, hM45, hM43, hM37, hM35, hM28, hM26, hM19, hM17, hM10, hM8, mm_up, mm_z, kf_mem]; rfl
      rw [mm_rt_no [0, 3, 4, 5, 6, 7, 8] (by decide +kernel) (by simp [q0, q3, q4, q5, q6, q7, q8])]
      simp [hN76, hN67, hM58, hM53, hM51, hM45, hM43, hM37, hM35, hM28, hM26, hM19, hM17, hM10, hM8, mm_up, mm_z, kf_mem, q0, q3, q4, q5, q6, q7, q8]; exact hz b
    · subst e; rw [mm_rt_ar (t := 0) rfl (by decide)]; simp [hN76, hN67, hM58, hM53, hM51, hM45, hM43, hM37, hM35, hM28, hM26, hM19, hM17, hM10, hM8, mm_up, mm_z, kf_mem]
    · subst e; rw [mm_rt_ar (t := 0) rfl (by decide)]; simp [hN76, hN67, hM58, hM53, hM51, hM45, hM43, hM37, hM35, hM28, hM26, hM19, hM17, hM10, hM8, mm_up, mm_z, kf_mem]
    · subst e; rw [mm_rt_ar (t := 0) rfl (by decide)]; simp [hN76, hN67, hM58, hM53, hM51, hM45, hM43, hM37, hM35, hM28, hM26, hM19, hM17, hM10, hM8, mm_up, mm_z, kf_mem]
    · subst e; rw [mm_rt_ar (t := 0) rfl (by decide)]; simp [hN76, hN67, hM58, hM53, hM51, hM45, hM43, hM37, hM35, hM28, hM26, hM19, hM17, hM10, hM8, mm_up, mm_z, kf_mem]
    · subst e
      have hb : ¬ b < 120 := fun q => hE (by simp [q])
      rw [mm_rt_ar (t := 0) rfl (by decide)]; simp [hN76, hN67, hM58, hM53, hM51, hM45, hM43, hM37, hM35, hM28, hM26, hM19, hM17, hM10, hM8, mm_up, mm_z, kf_mem, hb]
    · subst e
      have hb : ¬ b < 120 := fun q => hE (by simp [q])
      rw [mm_rt_ar (t := 0) rfl (by decide)]; simp [hN76, hN67, hM58, hM53, hM51, hM45, hM43, hM37, hM35, hM28, hM26, hM19, hM17, hM10, hM8, mm_up, mm_z, kf_mem, hb]
  · intro b hb; simp [hN76, hN67, hM58, hM53, hM51, hM45, hM43, hM37, hM35, hM28, hM26, hM19, hM17, hM10, hM8, mm_up, mm_z, kf_mem, hb]
  · intro b hb; simp [hN76, hN67, hM58, hM53, hM51, hM45, hM43, hM37, hM35, hM28, hM26, hM19, hM17, hM10, hM8, mm_up, mm_z, kf_mem, hb]
end

