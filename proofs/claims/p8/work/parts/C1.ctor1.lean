/-! ===== constructors ===== -/
section
variable {X : mm_X} {Y Y' : mm_Y} {n0 n1 n n' pc q idx ci c : Nat} {ls st : List mm_V} {M : mm_M} {Φ Ψ : mm_V → mm_M → Prop} {r : Int} {a1 a2 a3 : mm_V}
theorem mm_I0g (hd : mm_D Y.2.1 pc q (.invokespecial idx)) (hq : pc + 3 = q) (hw : mm_LI Y.1.cls idx Y' 0) (hr : r = (c : Int) + 1) (hn : mm_le n0 n n' n1) (hpad : Nat.ble (mm_dbl [(2, r)]).length Y'.2.2.1 = true) (hfr : Nat.ble (Y'.2.2.2.2.1 + 1) Y.2.2.2.2.1 = true) (hlo : Nat.ble (mm_wd st + (Y'.2.2.1 + 11) + Y'.2.2.2.2.2.1) Y.2.2.2.2.2.1 = true)
    (hC : mm_C X Y' n n' [(2, r)] M Ψ) (k : ∀ r M1, Ψ r M1 → mm_Kc X Y n0 n1 n' q ls st Φ r M1) : mm_J X Y n0 n1 n pc ls ((2, r) :: st) M Φ :=
  mm_callI hd hq hw hr (as := []) rfl rfl hn (by simp) (Nat.le_of_ble_eq_true hpad) (Nat.le_of_ble_eq_true hfr) (Nat.le_of_ble_eq_true hlo) hC k
theorem mm_I1g (hd : mm_D Y.2.1 pc q (.invokespecial idx)) (hq : pc + 3 = q) (hw : mm_LI Y.1.cls idx Y' 1) (hr : r = (c : Int) + 1) (hn : mm_le n0 n n' n1) (h1 : a1.1 ≠ 9) (hpad : Nat.ble (mm_dbl [(2, r), a1]).length Y'.2.2.1 = true) (hfr : Nat.ble (Y'.2.2.2.2.1 + 1) Y.2.2.2.2.1 = true) (hlo : Nat.ble (mm_wd st + (Y'.2.2.1 + 11) + Y'.2.2.2.2.2.1) Y.2.2.2.2.2.1 = true)
    (hC : mm_C X Y' n n' [(2, r), a1] M Ψ) (k : ∀ r M1, Ψ r M1 → mm_Kc X Y n0 n1 n' q ls st Φ r M1) : mm_J X Y n0 n1 n pc ls (a1 :: (2, r) :: st) M Φ :=
  mm_callI hd hq hw hr (as := [a1]) rfl rfl hn (by intro v hv; simp at hv; rw [hv]; exact h1) (Nat.le_of_ble_eq_true hpad) (Nat.le_of_ble_eq_true hfr) (Nat.le_of_ble_eq_true hlo) hC k
theorem mm_I2g (hd : mm_D Y.2.1 pc q (.invokespecial idx)) (hq : pc + 3 = q) (hw : mm_LI Y.1.cls idx Y' 2) (hr : r = (c : Int) + 1) (hn : mm_le n0 n n' n1) (h1 : a1.1 ≠ 9) (h2 : a2.1 ≠ 9) (hpad : Nat.ble (mm_dbl [(2, r), a1, a2]).length Y'.2.2.1 = true) (hfr : Nat.ble (Y'.2.2.2.2.1 + 1) Y.2.2.2.2.1 = true) (hlo : Nat.ble (mm_wd st + (Y'.2.2.1 + 11) + Y'.2.2.2.2.2.1) Y.2.2.2.2.2.1 = true)
    (hC : mm_C X Y' n n' [(2, r), a1, a2] M Ψ) (k : ∀ r M1, Ψ r M1 → mm_Kc X Y n0 n1 n' q ls st Φ r M1) : mm_J X Y n0 n1 n pc ls (a2 :: a1 :: (2, r) :: st) M Φ :=
  mm_callI hd hq hw hr (as := [a1, a2]) rfl rfl hn (by intro v hv; simp at hv; rcases hv with rfl | rfl; exact h1; exact h2) (Nat.le_of_ble_eq_true hpad) (Nat.le_of_ble_eq_true hfr) (Nat.le_of_ble_eq_true hlo) hC k
theorem mm_I3g (hd : mm_D Y.2.1 pc q (.invokespecial idx)) (hq : pc + 3 = q) (hw : mm_LI Y.1.cls idx Y' 3) (hr : r = (c : Int) + 1) (hn : mm_le n0 n n' n1) (h1 : a1.1 ≠ 9) (h2 : a2.1 ≠ 9) (h3 : a3.1 ≠ 9) (hpad : Nat.ble (mm_dbl [(2, r), a1, a2, a3]).length Y'.2.2.1 = true) (hfr : Nat.ble (Y'.2.2.2.2.1 + 1) Y.2.2.2.2.1 = true) (hlo : Nat.ble (mm_wd st + (Y'.2.2.1 + 11) + Y'.2.2.2.2.2.1) Y.2.2.2.2.2.1 = true)
    (hC : mm_C X Y' n n' [(2, r), a1, a2, a3] M Ψ) (k : ∀ r M1, Ψ r M1 → mm_Kc X Y n0 n1 n' q ls st Φ r M1) : mm_J X Y n0 n1 n pc ls (a3 :: a2 :: a1 :: (2, r) :: st) M Φ :=
  mm_callI hd hq hw hr (as := [a1, a2, a3]) rfl rfl hn (by intro v hv; simp at hv; rcases hv with rfl | rfl | rfl; exact h1; exact h2; exact h3) (Nat.le_of_ble_eq_true hpad) (Nat.le_of_ble_eq_true hfr) (Nat.le_of_ble_eq_true hlo) hC k
end
/-- the memory with the cells c .. n - 1 just made: nothing in them but the references of the layout and what is excepted; the cells before are as they were -/
def mm_bn (M M' : mm_M) (c n : Nat) (E : Nat → Nat → Prop) : Prop := (∀ a, a < c → M' a = M a) ∧ ∀ a b, c ≤ a → a < n → ¬ E a b → M' a b = mm_rt a b
theorem mm_rt_no {c b : Nat} (L : List Nat) (h : mm_rl.all (fun q => q.1 != c || L.contains q.2.1) = true) (hb : ¬ L.contains b = true) : mm_rt c b = 0 := by
  unfold mm_rt
  have : mm_rl.find? (fun q => q.1 == c && q.2.1 == b) = none := by
    rw [List.find?_eq_none]
    intro q hq hc
    have k := List.all_eq_true.mp h q hq
    simp only [Bool.and_eq_true, beq_iff_eq] at hc
    rw [hc.1, hc.2] at k
    simp only [bne_self_eq_false, Bool.false_or] at k
    exact hb k
  rw [this]
  rfl
section
variable {X : mm_X} {M : mm_M}
theorem c_X9_init (hz : ∀ b, M 18 b = 0) : mm_C X Y_X9_init 19 21 [(2, 19), (2, 4)] M (fun r M' => r = (3, 0) ∧ mm_bn M M' 18 21 (fun a b => False)) := by
  refine mm_start (ls := [(2, 19), (2, 4)]) rfl ?_
  refine mm_aload_n dX9_init_0 rfl rfl ?_
  refine mm_oinit' (c := 18) dX9_init_1 rfl oi_X9_5 rfl rfl rfl ?_
  refine mm_aload_n dX9_init_4 rfl rfl ?_
  refine mm_bipush dX9_init_5 rfl (by decide) ?_
  refine mm_newarr' (n := 19) (t := 0) dX9_init_7 rfl rfl (by decide) rfl rfl ac_0 ⟨by decide, by decide, by decide +kernel, by decide +kernel, by decide +kernel⟩ (fun M7 hM7 => ?_)
  refine mm_putr' dX9_init_9 rfl fl_X9_11 (by first | exact Or.inl ⟨_, rfl⟩ | exact Or.inr ⟨_, rfl⟩) rfl fr_X9 (c := 18) rfl (by decide) rfl rfl (fun M9 hM9 => ?_)
  refine mm_aload_n dX9_init_12 rfl rfl ?_
  refine mm_bipush dX9_init_13 rfl (by decide) ?_
  refine mm_newarr' (n := 20) (t := 0) dX9_init_15 rfl rfl (by decide) rfl rfl ac_0 ⟨by decide, by decide, by decide +kernel, by decide +kernel, by decide +kernel⟩ (fun M15 hM15 => ?_)
  refine mm_putr' dX9_init_17 rfl fl_X9_15 (by first | exact Or.inl ⟨_, rfl⟩ | exact Or.inr ⟨_, rfl⟩) rfl fr_X9 (c := 18) rfl (by decide) rfl rfl (fun M17 hM17 => ?_)
  refine mm_aload_n dX9_init_20 rfl rfl ?_
  refine mm_aload_n dX9_init_21 rfl rfl ?_
  refine mm_putr' dX9_init_22 rfl fl_X9_18 (by first | exact Or.inl ⟨_, rfl⟩ | exact Or.inr ⟨_, rfl⟩) rfl fr_X9 (c := 18) rfl (by decide) rfl rfl (fun M22 hM22 => ?_)
  refine mm_vret dX9_init_25 rfl rfl ?_
  refine ⟨rfl, ⟨?_, ?_⟩⟩
  · intro a ha
    have e18 : a ≠ 18 := by omega
    have e19 : a ≠ 19 := by omega
    have e20 : a ≠ 20 := by omega
    funext b; simp [hM22, hM17, hM15, hM9, hM7, mm_up, mm_z, e18, e19, e20]
  · intro a b h1 h2 hE
    rcases (show a = 18 ∨ a = 19 ∨ a = 20 by omega) with e | e | e
    · subst e
      by_cases q0 : b = 0
      · subst q0; simp [hM22, hM17, hM15, hM9, hM7, mm_up, mm_z]; rfl
      by_cases q2 : b = 2
      · subst q2; simp [hM22, hM17, hM15, hM9, hM7, mm_up, mm_z]; rfl
      by_cases q3 : b = 3
      · subst q3; simp [hM22, hM17, hM15, hM9, hM7, mm_up, mm_z]; rfl
      rw [mm_rt_no [0, 2, 3] (by decide +kernel) (by simp [q0, q2, q3])]
      simp [hM22, hM17, hM15, hM9, hM7, mm_up, mm_z, q0, q2, q3]; exact hz b
    · subst e; rw [mm_rt_ar (t := 0) rfl (by decide)]; simp [hM22, hM17, hM15, hM9, hM7, mm_up, mm_z]
    · subst e; rw [mm_rt_ar (t := 0) rfl (by decide)]; simp [hM22, hM17, hM15, hM9, hM7, mm_up, mm_z]
theorem c_X2_init (hz : ∀ b, M 139 b = 0) : mm_C X Y_X2_init 140 144 [(2, 140), (2, 4), (2, 12), (2, 19)] M (fun r M' => r = (3, 0) ∧ mm_bn M M' 139 144 (fun a b => False)) := by
  refine mm_start (ls := [(2, 140), (2, 4), (2, 12), (2, 19)]) rfl ?_
  refine mm_aload_n dX2_init_0 rfl rfl ?_
  refine mm_oinit' (c := 139) dX2_init_1 rfl oi_X2_3 rfl rfl rfl ?_
  refine mm_aload_n dX2_init_4 rfl rfl ?_
  refine mm_sipush dX2_init_5 rfl (by decide) ?_
  refine mm_newarr' (n := 140) (t := 0) dX2_init_8 rfl rfl (by decide) rfl rfl ac_0 ⟨by decide, by decide, by decide +kernel, by decide +kernel, by decide +kernel⟩ (fun M8 hM8 => ?_)
  refine mm_putr' dX2_init_10 rfl fl_X2_11 (by first | exact Or.inl ⟨_, rfl⟩ | exact Or.inr ⟨_, rfl⟩) rfl fr_X2 (c := 139) rfl (by decide) rfl rfl (fun M10 hM10 => ?_)
  refine mm_aload_n dX2_init_13 rfl rfl ?_
  refine mm_sipush dX2_init_14 rfl (by decide) ?_
  refine mm_newarr' (n := 141) (t := 0) dX2_init_17 rfl rfl (by decide) rfl rfl ac_0 ⟨by decide, by decide, by decide +kernel, by decide +kernel, by decide +kernel⟩ (fun M17 hM17 => ?_)
  refine mm_putr' dX2_init_19 rfl fl_X2_17 (by first | exact Or.inl ⟨_, rfl⟩ | exact Or.inr ⟨_, rfl⟩) rfl fr_X2 (c := 139) rfl (by decide) rfl rfl (fun M19 hM19 => ?_)
  refine mm_aload_n dX2_init_22 rfl rfl ?_
  refine mm_sipush dX2_init_23 rfl (by decide) ?_
  refine mm_newarr' (n := 142) (t := 0) dX2_init_26 rfl rfl (by decide) rfl rfl ac_0 ⟨by decide, by decide, by decide +kernel, by decide +kernel, by decide +kernel⟩ (fun M26 hM26 => ?_)
  refine mm_putr' dX2_init_28 rfl fl_X2_20 (by first | exact Or.inl ⟨_, rfl⟩ | exact Or.inr ⟨_, rfl⟩) rfl fr_X2 (c := 139) rfl (by decide) rfl rfl (fun M28 hM28 => ?_)
  refine mm_aload_n dX2_init_31 rfl rfl ?_
  refine mm_sipush dX2_init_32 rfl (by decide) ?_
  refine mm_newarr' (n := 143) (t := 2) dX2_init_35 rfl rfl (by decide) rfl rfl ac_2 ⟨by decide, by decide, by decide +kernel, by decide +kernel, by decide +kernel⟩ (fun M35 hM35 => ?_)
  refine mm_putr' dX2_init_37 rfl fl_X2_23 (by first | exact Or.inl ⟨_, rfl⟩ | exact Or.inr ⟨_, rfl⟩) rfl fr_X2 (c := 139) rfl (by decide) rfl rfl (fun M37 hM37 => ?_)
  refine mm_aload_n dX2_init_40 rfl rfl ?_
  refine mm_aload_n dX2_init_41 rfl rfl ?_
  refine mm_putr' dX2_init_42 rfl fl_X2_27 (by first | exact Or.inl ⟨_, rfl⟩ | exact Or.inr ⟨_, rfl⟩) rfl fr_X2 (c := 139) rfl (by decide) rfl rfl (fun M42 hM42 => ?_)
  refine mm_aload_n dX2_init_45 rfl rfl ?_
  refine mm_aload_n dX2_init_46 rfl rfl ?_
  refine mm_putr' dX2_init_47 rfl fl_X2_31 (by first | exact Or.inl ⟨_, rfl⟩ | exact Or.inr ⟨_, rfl⟩) rfl fr_X2 (c := 139) rfl (by decide) rfl rfl (fun M47 hM47 => ?_)
  refine mm_aload_n dX2_init_50 rfl rfl ?_
  refine mm_aload_n dX2_init_51 rfl rfl ?_
  refine mm_putr' dX2_init_52 rfl fl_X2_35 (by first | exact Or.inl ⟨_, rfl⟩ | exact Or.inr ⟨_, rfl⟩) rfl fr_X2 (c := 139) rfl (by decide) rfl rfl (fun M52 hM52 => ?_)
  refine mm_vret dX2_init_55 rfl rfl ?_
  refine ⟨rfl, ⟨?_, ?_⟩⟩
  · intro a ha
    have e139 : a ≠ 139 := by omega
    have e140 : a ≠ 140 := by omega
    have e141 : a ≠ 141 := by omega
    have e142 : a ≠ 142 := by omega
    have e143 : a ≠ 143 := by omega
    funext b; simp [hM52, hM47, hM42, hM37, hM35, hM28, hM26, hM19, hM17, hM10, hM8, mm_up, mm_z, e139, e140, e141, e142, e143]
  · intro a b h1 h2 hE
    rcases (show a = 139 ∨ a = 140 ∨ a = 141 ∨ a = 142 ∨ a = 143 by omega) with e | e | e | e | e
    · subst e
      by_cases q0 : b = 0
      · subst q0; simp [hM52, hM47, hM42, hM37, hM35, hM28, hM26, hM19, hM17, hM10, hM8, mm_up, mm_z]; rfl
      by_cases q1 : b = 1
      · subst q1; simp [hM52, hM47, hM42, hM37, hM35, hM28, hM26, hM19, hM17, hM10, hM8, mm_up, mm_z]; rfl
      by_cases q2 : b = 2
      · subst q2; simp [hM52, hM47, hM42, hM37, hM35, hM28, hM26, hM19, hM17, hM10, hM8, mm_up, mm_z]; rfl
      by_cases q8 : b = 8
      · subst q8; simp [hM52, hM47, hM42, hM37, hM35, hM28, hM26, hM19, hM17, hM10, hM8, mm_up, mm_z]; rfl
      by_cases q9 : b = 9
      · subst q9; simp [hM52, hM47, hM42, hM37, hM35, hM28, hM26, hM19, hM17, hM10, hM8, mm_up, mm_z]; rfl
      by_cases q10 : b = 10
      · subst q10; simp [hM52, hM47, hM42, hM37, hM35, hM28, hM26, hM19, hM17, hM10, hM8, mm_up, mm_z]; rfl
      by_cases q11 : b = 11
      · subst q11; simp [hM52, hM47, hM42, hM37, hM35, hM28, hM26, hM19, hM17, hM10, hM8, mm_up, mm_z]; rfl
      rw [mm_rt_no [0, 1, 2, 8, 9, 10, 11] (by decide +kernel) (by simp [q0, q1, q2, q8, q9, q10, q11])]
      simp [hM52, hM47, hM42, hM37, hM35, hM28, hM26, hM19, hM17, hM10, hM8, mm_up, mm_z, q0, q1, q2, q8, q9, q10, q11]; exact hz b
    · subst e; rw [mm_rt_ar (t := 0) rfl (by decide)]; simp [hM52, hM47, hM42, hM37, hM35, hM28, hM26, hM19, hM17, hM10, hM8, mm_up, mm_z]
    · subst e; rw [mm_rt_ar (t := 0) rfl (by decide)]; simp [hM52, hM47, hM42, hM37, hM35, hM28, hM26, hM19, hM17, hM10, hM8, mm_up, mm_z]
    · subst e; rw [mm_rt_ar (t := 0) rfl (by decide)]; simp [hM52, hM47, hM42, hM37, hM35, hM28, hM26, hM19, hM17, hM10, hM8, mm_up, mm_z]
    · subst e; rw [mm_rt_ar (t := 2) rfl (by decide)]; simp [hM52, hM47, hM42, hM37, hM35, hM28, hM26, hM19, hM17, hM10, hM8, mm_up, mm_z]
theorem c_X6_init (hz : ∀ b, M 28 b = 0) : mm_C X Y_X6_init 29 42 [(2, 29), (2, 4), (2, 12)] M (fun r M' => r = (3, 0) ∧ mm_bn M M' 28 42 (fun a b => False)) := by
  refine mm_start (ls := [(2, 29), (2, 4), (2, 12)]) rfl ?_
  refine mm_aload_n dX6_init_0 rfl rfl ?_
  refine mm_oinit' (c := 28) dX6_init_1 rfl oi_X6_5 rfl rfl rfl ?_
  refine mm_aload_n dX6_init_4 rfl rfl ?_
  refine mm_sipush dX6_init_5 rfl (by decide) ?_
  refine mm_newarr' (n := 29) (t := 0) dX6_init_8 rfl rfl (by decide) rfl rfl ac_0 ⟨by decide, by decide, by decide +kernel, by decide +kernel, by decide +kernel⟩ (fun M8 hM8 => ?_)
  refine mm_putr' dX6_init_10 rfl fl_X6_13 (by first | exact Or.inl ⟨_, rfl⟩ | exact Or.inr ⟨_, rfl⟩) rfl fr_X6 (c := 28) rfl (by decide) rfl rfl (fun M10 hM10 => ?_)
  refine mm_aload_n dX6_init_13 rfl rfl ?_
  refine mm_sipush dX6_init_14 rfl (by decide) ?_
  refine mm_newarr' (n := 30) (t := 0) dX6_init_17 rfl rfl (by decide) rfl rfl ac_0 ⟨by decide, by decide, by decide +kernel, by decide +kernel, by decide +kernel⟩ (fun M17 hM17 => ?_)
  refine mm_putr' dX6_init_19 rfl fl_X6_17 (by first | exact Or.inl ⟨_, rfl⟩ | exact Or.inr ⟨_, rfl⟩) rfl fr_X6 (c := 28) rfl (by decide) rfl rfl (fun M19 hM19 => ?_)
  refine mm_aload_n dX6_init_22 rfl rfl ?_
  refine mm_sipush dX6_init_23 rfl (by decide) ?_
  refine mm_newarr' (n := 31) (t := 0) dX6_init_26 rfl rfl (by decide) rfl rfl ac_0 ⟨by decide, by decide, by decide +kernel, by decide +kernel, by decide +kernel⟩ (fun M26 hM26 => ?_)
  refine mm_putr' dX6_init_28 rfl fl_X6_20 (by first | exact Or.inl ⟨_, rfl⟩ | exact Or.inr ⟨_, rfl⟩) rfl fr_X6 (c := 28) rfl (by decide) rfl rfl (fun M28 hM28 => ?_)
  refine mm_aload_n dX6_init_31 rfl rfl ?_
  refine mm_sipush dX6_init_32 rfl (by decide) ?_
  refine mm_newarr' (n := 32) (t := 0) dX6_init_35 rfl rfl (by decide) rfl rfl ac_0 ⟨by decide, by decide, by decide +kernel, by decide +kernel, by decide +kernel⟩ (fun M35 hM35 => ?_)
  refine mm_putr' dX6_init_37 rfl fl_X6_23 (by first | exact Or.inl ⟨_, rfl⟩ | exact Or.inr ⟨_, rfl⟩) rfl fr_X6 (c := 28) rfl (by decide) rfl rfl (fun M37 hM37 => ?_)
  refine mm_aload_n dX6_init_40 rfl rfl ?_
  refine mm_sipush dX6_init_41 rfl (by decide) ?_
  refine mm_newarr' (n := 33) (t := 0) dX6_init_44 rfl rfl (by decide) rfl rfl ac_0 ⟨by decide, by decide, by decide +kernel, by decide +kernel, by decide +kernel⟩ (fun M44 hM44 => ?_)
  refine mm_putr' dX6_init_46 rfl fl_X6_26 (by first | exact Or.inl ⟨_, rfl⟩ | exact Or.inr ⟨_, rfl⟩) rfl fr_X6 (c := 28) rfl (by decide) rfl rfl (fun M46 hM46 => ?_)
  refine mm_aload_n dX6_init_49 rfl rfl ?_
  refine mm_sipush dX6_init_50 rfl (by decide) ?_
  refine mm_newarr' (n := 34) (t := 0) dX6_init_53 rfl rfl (by decide) rfl rfl ac_0 ⟨by decide, by decide, by decide +kernel, by decide +kernel, by decide +kernel⟩ (fun M53 hM53 => ?_)
  refine mm_putr' dX6_init_55 rfl fl_X6_29 (by first | exact Or.inl ⟨_, rfl⟩ | exact Or.inr ⟨_, rfl⟩) rfl fr_X6 (c := 28) rfl (by decide) rfl rfl (fun M55 hM55 => ?_)
  refine mm_aload_n dX6_init_58 rfl rfl ?_
  refine mm_sipush dX6_init_59 rfl (by decide) ?_
  refine mm_newarr' (n := 35) (t := 0) dX6_init_62 rfl rfl (by decide) rfl rfl ac_0 ⟨by decide, by decide, by decide +kernel, by decide +kernel, by decide +kernel⟩ (fun M62 hM62 => ?_)
  refine mm_putr' dX6_init_64 rfl fl_X6_32 (by first | exact Or.inl ⟨_, rfl⟩ | exact Or.inr ⟨_, rfl⟩) rfl fr_X6 (c := 28) rfl (by decide) rfl rfl (fun M64 hM64 => ?_)
  refine mm_aload_n dX6_init_67 rfl rfl ?_
  refine mm_sipush dX6_init_68 rfl (by decide) ?_
  refine mm_newarr' (n := 36) (t := 3) dX6_init_71 rfl rfl (by decide) rfl rfl ac_3 ⟨by decide, by decide, by decide +kernel, by decide +kernel, by decide +kernel⟩ (fun M71 hM71 => ?_)
  refine mm_putr' dX6_init_73 rfl fl_X6_35 (by first | exact Or.inl ⟨_, rfl⟩ | exact Or.inr ⟨_, rfl⟩) rfl fr_X6 (c := 28) rfl (by decide) rfl rfl (fun M73 hM73 => ?_)
  refine mm_aload_n dX6_init_76 rfl rfl ?_
  refine mm_sipush dX6_init_77 rfl (by decide) ?_
  refine mm_newarr' (n := 37) (t := 0) dX6_init_80 rfl rfl (by decide) rfl rfl ac_0 ⟨by decide, by decide, by decide +kernel, by decide +kernel, by decide +kernel⟩ (fun M80 hM80 => ?_)
  refine mm_putr' dX6_init_82 rfl fl_X6_39 (by first | exact Or.inl ⟨_, rfl⟩ | exact Or.inr ⟨_, rfl⟩) rfl fr_X6 (c := 28) rfl (by decide) rfl rfl (fun M82 hM82 => ?_)
  refine mm_aload_n dX6_init_85 rfl rfl ?_
  refine mm_sipush dX6_init_86 rfl (by decide) ?_
  refine mm_newarr' (n := 38) (t := 2) dX6_init_89 rfl rfl (by decide) rfl rfl ac_2 ⟨by decide, by decide, by decide +kernel, by decide +kernel, by decide +kernel⟩ (fun M89 hM89 => ?_)
  refine mm_putr' dX6_init_91 rfl fl_X6_42 (by first | exact Or.inl ⟨_, rfl⟩ | exact Or.inr ⟨_, rfl⟩) rfl fr_X6 (c := 28) rfl (by decide) rfl rfl (fun M91 hM91 => ?_)
  refine mm_aload_n dX6_init_94 rfl rfl ?_
  refine mm_sipush dX6_init_95 rfl (by decide) ?_
  refine mm_newarr' (n := 39) (t := 0) dX6_init_98 rfl rfl (by decide) rfl rfl ac_0 ⟨by decide, by decide, by decide +kernel, by decide +kernel, by decide +kernel⟩ (fun M98 hM98 => ?_)
  refine mm_putr' dX6_init_100 rfl fl_X6_46 (by first | exact Or.inl ⟨_, rfl⟩ | exact Or.inr ⟨_, rfl⟩) rfl fr_X6 (c := 28) rfl (by decide) rfl rfl (fun M100 hM100 => ?_)
  refine mm_aload_n dX6_init_103 rfl rfl ?_
  refine mm_sipush dX6_init_104 rfl (by decide) ?_
  refine mm_newarr' (n := 40) (t := 0) dX6_init_107 rfl rfl (by decide) rfl rfl ac_0 ⟨by decide, by decide, by decide +kernel, by decide +kernel, by decide +kernel⟩ (fun M107 hM107 => ?_)
  refine mm_putr' dX6_init_109 rfl fl_X6_49 (by first | exact Or.inl ⟨_, rfl⟩ | exact Or.inr ⟨_, rfl⟩) rfl fr_X6 (c := 28) rfl (by decide) rfl rfl (fun M109 hM109 => ?_)
  refine mm_aload_n dX6_init_112 rfl rfl ?_
  refine mm_sipush dX6_init_113 rfl (by decide) ?_
  refine mm_newarr' (n := 41) (t := 0) dX6_init_116 rfl rfl (by decide) rfl rfl ac_0 ⟨by decide, by decide, by decide +kernel, by decide +kernel, by decide +kernel⟩ (fun M116 hM116 => ?_)
  refine mm_putr' dX6_init_118 rfl fl_X6_52 (by first | exact Or.inl ⟨_, rfl⟩ | exact Or.inr ⟨_, rfl⟩) rfl fr_X6 (c := 28) rfl (by decide) rfl rfl (fun M118 hM118 => ?_)
  refine mm_aload_n dX6_init_121 rfl rfl ?_
  refine mm_aload_n dX6_init_122 rfl rfl ?_
  refine mm_putr' dX6_init_123 rfl fl_X6_55 (by first | exact Or.inl ⟨_, rfl⟩ | exact Or.inr ⟨_, rfl⟩) rfl fr_X6 (c := 28) rfl (by decide) rfl rfl (fun M123 hM123 => ?_)
  refine mm_aload_n dX6_init_126 rfl rfl ?_
  refine mm_aload_n dX6_init_127 rfl rfl ?_
  refine mm_putr' dX6_init_128 rfl fl_X6_59 (by first | exact Or.inl ⟨_, rfl⟩ | exact Or.inr ⟨_, rfl⟩) rfl fr_X6 (c := 28) rfl (by decide) rfl rfl (fun M128 hM128 => ?_)
  refine mm_vret dX6_init_131 rfl rfl ?_
  refine ⟨rfl, ⟨?_, ?_⟩⟩
  · intro a ha
    have e28 : a ≠ 28 := by omega
    have e29 : a ≠ 29 := by omega
    have e30 : a ≠ 30 := by omega
    have e31 : a ≠ 31 := by omega
    have e32 : a ≠ 32 := by omega
    have e33 : a ≠ 33 := by omega
    have e34 : a ≠ 34 := by omega
    have e35 : a ≠ 35 := by omega
    have e36 : a ≠ 36 := by omega
    have e37 : a ≠ 37 := by omega
    have e38 : a ≠ 38 := by omega
    have e39 : a ≠ 39 := by omega
    have e40 : a ≠ 40 := by omega
    have e41 : a ≠ 41 := by omega
    funext b; simp [hM128, hM123, hM118, hM116, hM109, hM107, hM100, hM98, hM91, hM89, hM82, hM80, hM73, hM71, hM64, hM62, hM55, hM53, hM46, hM44, hM37, hM35, hM28, hM26, hM19, hM17, hM10, hM8, mm_up, mm_z, e28, e29, e30, e31, e32, e33, e34, e35, e36, e37, e38, e39, e40, e41]
  · intro a b h1 h2 hE
    rcases (show a = 28 ∨ a = 29 ∨ a = 30 ∨ a = 31 ∨ a = 32 ∨ a = 33 ∨ a = 34 ∨ a = 35 ∨ a = 36 ∨ a = 37 ∨ a = 38 ∨ a = 39 ∨ a = 40 ∨ a = 41 by omega) with e | e | e | e | e | e | e | e | e | e | e | e | e | e
    · subst e
      by_cases q0 : b = 0
      · subst q0; simp [hM128, hM123, hM118, hM116, hM109, hM107, hM100, hM98, hM91, hM89, hM82, hM80, hM73, hM71, hM64, hM62, hM55, hM53, hM46, hM44, hM37, hM35, hM28, hM26, hM19, hM17, hM10, hM8, mm_up, mm_z]; rfl
      by_cases q1 : b = 1
      · subst q1; simp [hM128, hM123, hM118, hM116, hM109, hM107, hM100, hM98, hM91, hM89, hM82, hM80, hM73, hM71, hM64, hM62, hM55, hM53, hM46, hM44, hM37, hM35, hM28, hM26, hM19, hM17, hM10, hM8, mm_up, mm_z]; rfl
      by_cases q2 : b = 2
      · subst q2; simp [hM128, hM123, hM118, hM116, hM109, hM107, hM100, hM98, hM91, hM89, hM82, hM80, hM73, hM71, hM64, hM62, hM55, hM53, hM46, hM44, hM37, hM35, hM28, hM26, hM19, hM17, hM10, hM8, mm_up, mm_z]; rfl
      by_cases q3 : b = 3
      · subst q3; simp [hM128, hM123, hM118, hM116, hM109, hM107, hM100, hM98, hM91, hM89, hM82, hM80, hM73, hM71, hM64, hM62, hM55, hM53, hM46, hM44, hM37, hM35, hM28, hM26, hM19, hM17, hM10, hM8, mm_up, mm_z]; rfl
      by_cases q4 : b = 4
      · subst q4; simp [hM128, hM123, hM118, hM116, hM109, hM107, hM100, hM98, hM91, hM89, hM82, hM80, hM73, hM71, hM64, hM62, hM55, hM53, hM46, hM44, hM37, hM35, hM28, hM26, hM19, hM17, hM10, hM8, mm_up, mm_z]; rfl
      by_cases q5 : b = 5
      · subst q5; simp [hM128, hM123, hM118, hM116, hM109, hM107, hM100, hM98, hM91, hM89, hM82, hM80, hM73, hM71, hM64, hM62, hM55, hM53, hM46, hM44, hM37, hM35, hM28, hM26, hM19, hM17, hM10, hM8, mm_up, mm_z]; rfl
      by_cases q6 : b = 6
      · subst q6; simp [hM128, hM123, hM118, hM116, hM109, hM107, hM100, hM98, hM91, hM89, hM82, hM80, hM73, hM71, hM64, hM62, hM55, hM53, hM46, hM44, hM37, hM35, hM28, hM26, hM19, hM17, hM10, hM8, mm_up, mm_z]; rfl
      by_cases q7 : b = 7
      · subst q7; simp [hM128, hM123, hM118, hM116, hM109, hM107, hM100, hM98, hM91, hM89, hM82, hM80, hM73, hM71, hM64, hM62, hM55, hM53, hM46, hM44, hM37, hM35, hM28, hM26, hM19, hM17, hM10, hM8, mm_up, mm_z]; rfl
      by_cases q8 : b = 8
      · subst q8; simp [hM128, hM123, hM118, hM116, hM109, hM107, hM100, hM98, hM91, hM89, hM82, hM80, hM73, hM71, hM64, hM62, hM55, hM53, hM46, hM44, hM37, hM35, hM28, hM26, hM19, hM17, hM10, hM8, mm_up, mm_z]; rfl
      by_cases q9 : b = 9
      · subst q9; simp [hM128, hM123, hM118, hM116, hM109, hM107, hM100, hM98, hM91, hM89, hM82, hM80, hM73, hM71, hM64, hM62, hM55, hM53, hM46, hM44, hM37, hM35, hM28, hM26, hM19, hM17, hM10, hM8, mm_up, mm_z]; rfl
      by_cases q10 : b = 10
      · subst q10; simp [hM128, hM123, hM118, hM116, hM109, hM107, hM100, hM98, hM91, hM89, hM82, hM80, hM73, hM71, hM64, hM62, hM55, hM53, hM46, hM44, hM37, hM35, hM28, hM26, hM19, hM17, hM10, hM8, mm_up, mm_z]; rfl
      by_cases q11 : b = 11
      · subst q11; simp [hM128, hM123, hM118, hM116, hM109, hM107, hM100, hM98, hM91, hM89, hM82, hM80, hM73, hM71, hM64, hM62, hM55, hM53, hM46, hM44, hM37, hM35, hM28, hM26, hM19, hM17, hM10, hM8, mm_up, mm_z]; rfl
      by_cases q12 : b = 12
      · subst q12; simp [hM128, hM123, hM118, hM116, hM109, hM107, hM100, hM98, hM91, hM89, hM82, hM80, hM73, hM71, hM64, hM62, hM55, hM53, hM46, hM44, hM37, hM35, hM28, hM26, hM19, hM17, hM10, hM8, mm_up, mm_z]; rfl
      by_cases q13 : b = 13
      · subst q13; simp [hM128, hM123, hM118, hM116, hM109, hM107, hM100, hM98, hM91, hM89, hM82, hM80, hM73, hM71, hM64, hM62, hM55, hM53, hM46, hM44, hM37, hM35, hM28, hM26, hM19, hM17, hM10, hM8, mm_up, mm_z]; rfl
      by_cases q14 : b = 14
      · subst q14; simp [hM128, hM123, hM118, hM116, hM109, hM107, hM100, hM98, hM91, hM89, hM82, hM80, hM73, hM71, hM64, hM62, hM55, hM53, hM46, hM44, hM37, hM35, hM28, hM26, hM19, hM17, hM10, hM8, mm_up, mm_z]; rfl
      rw [mm_rt_no [0, 1, 2, 3, 4, 5, 6, 7, 8, 9, 10, 11, 12, 13, 14] (by decide +kernel) (by simp [q0, q1, q2, q3, q4, q5, q6, q7, q8, q9, q10, q11, q12, q13, q14])]
      simp [hM128, hM123, hM118, hM116, hM109, hM107, hM100, hM98, hM91, hM89, hM82, hM80, hM73, hM71, hM64, hM62, hM55, hM53, hM46, hM44, hM37, hM35, hM28, hM26, hM19, hM17, hM10, hM8, mm_up, mm_z, q0, q1, q2, q3, q4, q5, q6, q7, q8, q9, q10, q11, q12, q13, q14]; exact hz b
    · subst e; rw [mm_rt_ar (t := 0) rfl (by decide)]; simp [hM128, hM123, hM118, hM116, hM109, hM107, hM100, hM98, hM91, hM89, hM82, hM80, hM73, hM71, hM64, hM62, hM55, hM53, hM46, hM44, hM37, hM35, hM28, hM26, hM19, hM17, hM10, hM8, mm_up, mm_z]
    · subst e; rw [mm_rt_ar (t := 0) rfl (by decide)]; simp [hM128, hM123, hM118, hM116, hM109, hM107, hM100, hM98, hM91, hM89, hM82, hM80, hM73, hM71, hM64, hM62, hM55, hM53, hM46, hM44, hM37, hM35, hM28, hM26, hM19, hM17, hM10, hM8, mm_up, mm_z]
    · subst e; rw [mm_rt_ar (t := 0) rfl (by decide)]; simp [hM128, hM123, hM118, hM116, hM109, hM107, hM100, hM98, hM91, hM89, hM82, hM80, hM73, hM71, hM64, hM62, hM55, hM53, hM46, hM44, hM37, hM35, hM28, hM26, hM19, hM17, hM10, hM8, mm_up, mm_z]
    · subst e; rw [mm_rt_ar (t := 0) rfl (by decide)]; simp [hM128, hM123, hM118, hM116, hM109, hM107, hM100, hM98, hM91, hM89, hM82, hM80, hM73, hM71, hM64, hM62, hM55, hM53, hM46, hM44, hM37, hM35, hM28, hM26, hM19, hM17, hM10, hM8, mm_up, mm_z]
    · subst e; rw [mm_rt_ar (t := 0) rfl (by decide)]; simp [hM128, hM123, hM118, hM116, hM109, hM107, hM100, hM98, hM91, hM89, hM82, hM80, hM73, hM71, hM64, hM62, hM55, hM53, hM46, hM44, hM37, hM35, hM28, hM26, hM19, hM17, hM10, hM8, mm_up, mm_z]
    · subst e; rw [mm_rt_ar (t := 0) rfl (by decide)]; simp [hM128, hM123, hM118, hM116, hM109, hM107, hM100, hM98, hM91, hM89, hM82, hM80, hM73, hM71, hM64, hM62, hM55, hM53, hM46, hM44, hM37, hM35, hM28, hM26, hM19, hM17, hM10, hM8, mm_up, mm_z]
    · subst e; rw [mm_rt_ar (t := 0) rfl (by decide)]; simp [hM128, hM123, hM118, hM116, hM109, hM107, hM100, hM98, hM91, hM89, hM82, hM80, hM73, hM71, hM64, hM62, hM55, hM53, hM46, hM44, hM37, hM35, hM28, hM26, hM19, hM17, hM10, hM8, mm_up, mm_z]
    · subst e; rw [mm_rt_ar (t := 3) rfl (by decide)]; simp [hM128, hM123, hM118, hM116, hM109, hM107, hM100, hM98, hM91, hM89, hM82, hM80, hM73, hM71, hM64, hM62, hM55, hM53, hM46, hM44, hM37, hM35, hM28, hM26, hM19, hM17, hM10, hM8, mm_up, mm_z]
    · subst e; rw [mm_rt_ar (t := 0) rfl (by decide)]; simp [hM128, hM123, hM118, hM116, hM109, hM107, hM100, hM98, hM91, hM89, hM82, hM80, hM73, hM71, hM64, hM62, hM55, hM53, hM46, hM44, hM37, hM35, hM28, hM26, hM19, hM17, hM10, hM8, mm_up, mm_z]
    · subst e; rw [mm_rt_ar (t := 2) rfl (by decide)]; simp [hM128, hM123, hM118, hM116, hM109, hM107, hM100, hM98, hM91, hM89, hM82, hM80, hM73, hM71, hM64, hM62, hM55, hM53, hM46, hM44, hM37, hM35, hM28, hM26, hM19, hM17, hM10, hM8, mm_up, mm_z]
    · subst e; rw [mm_rt_ar (t := 0) rfl (by decide)]; simp [hM128, hM123, hM118, hM116, hM109, hM107, hM100, hM98, hM91, hM89, hM82, hM80, hM73, hM71, hM64, hM62, hM55, hM53, hM46, hM44, hM37, hM35, hM28, hM26, hM19, hM17, hM10, hM8, mm_up, mm_z]
    · subst e; rw [mm_rt_ar (t := 0) rfl (by decide)]; simp [hM128, hM123, hM118, hM116, hM109, hM107, hM100, hM98, hM91, hM89, hM82, hM80, hM73, hM71, hM64, hM62, hM55, hM53, hM46, hM44, hM37, hM35, hM28, hM26, hM19, hM17, hM10, hM8, mm_up, mm_z]
    · subst e; rw [mm_rt_ar (t := 0) rfl (by decide)]; simp [hM128, hM123, hM118, hM116, hM109, hM107, hM100, hM98, hM91, hM89, hM82, hM80, hM73, hM71, hM64, hM62, hM55, hM53, hM46, hM44, hM37, hM35, hM28, hM26, hM19, hM17, hM10, hM8, mm_up, mm_z]
theorem c_X7_init (hz : ∀ b, M 174 b = 0) : mm_C X Y_X7_init 175 183 [(2, 175), (2, 4), (2, 12)] M (fun r M' => r = (3, 0) ∧ mm_bn M M' 174 183 (fun a b => False)) := by
  refine mm_start (ls := [(2, 175), (2, 4), (2, 12)]) rfl ?_
  refine mm_aload_n dX7_init_0 rfl rfl ?_
  refine mm_oinit' (c := 174) dX7_init_1 rfl oi_X7_3 rfl rfl rfl ?_
  refine mm_aload_n dX7_init_4 rfl rfl ?_
  refine mm_bipush dX7_init_5 rfl (by decide) ?_
  refine mm_newarr' (n := 175) (t := 0) dX7_init_7 rfl rfl (by decide) rfl rfl ac_0 ⟨by decide, by decide, by decide +kernel, by decide +kernel, by decide +kernel⟩ (fun M7 hM7 => ?_)
  refine mm_putr' dX7_init_9 rfl fl_X7_11 (by first | exact Or.inl ⟨_, rfl⟩ | exact Or.inr ⟨_, rfl⟩) rfl fr_X7 (c := 174) rfl (by decide) rfl rfl (fun M9 hM9 => ?_)
  refine mm_aload_n dX7_init_12 rfl rfl ?_
  refine mm_bipush dX7_init_13 rfl (by decide) ?_
  refine mm_newarr' (n := 176) (t := 0) dX7_init_15 rfl rfl (by decide) rfl rfl ac_0 ⟨by decide, by decide, by decide +kernel, by decide +kernel, by decide +kernel⟩ (fun M15 hM15 => ?_)
  refine mm_putr' dX7_init_17 rfl fl_X7_15 (by first | exact Or.inl ⟨_, rfl⟩ | exact Or.inr ⟨_, rfl⟩) rfl fr_X7 (c := 174) rfl (by decide) rfl rfl (fun M17 hM17 => ?_)
  refine mm_aload_n dX7_init_20 rfl rfl ?_
  refine mm_bipush dX7_init_21 rfl (by decide) ?_
  refine mm_newarr' (n := 177) (t := 0) dX7_init_23 rfl rfl (by decide) rfl rfl ac_0 ⟨by decide, by decide, by decide +kernel, by decide +kernel, by decide +kernel⟩ (fun M23 hM23 => ?_)
  refine mm_putr' dX7_init_25 rfl fl_X7_18 (by first | exact Or.inl ⟨_, rfl⟩ | exact Or.inr ⟨_, rfl⟩) rfl fr_X7 (c := 174) rfl (by decide) rfl rfl (fun M25 hM25 => ?_)
  refine mm_aload_n dX7_init_28 rfl rfl ?_
  refine mm_bipush dX7_init_29 rfl (by decide) ?_
  refine mm_newarr' (n := 178) (t := 0) dX7_init_31 rfl rfl (by decide) rfl rfl ac_0 ⟨by decide, by decide, by decide +kernel, by decide +kernel, by decide +kernel⟩ (fun M31 hM31 => ?_)
  refine mm_putr' dX7_init_33 rfl fl_X7_21 (by first | exact Or.inl ⟨_, rfl⟩ | exact Or.inr ⟨_, rfl⟩) rfl fr_X7 (c := 174) rfl (by decide) rfl rfl (fun M33 hM33 => ?_)
  refine mm_aload_n dX7_init_36 rfl rfl ?_
  refine mm_bipush dX7_init_37 rfl (by decide) ?_
  refine mm_newarr' (n := 179) (t := 0) dX7_init_39 rfl rfl (by decide) rfl rfl ac_0 ⟨by decide, by decide, by decide +kernel, by decide +kernel, by decide +kernel⟩ (fun M39 hM39 => ?_)
  refine mm_putr' dX7_init_41 rfl fl_X7_24 (by first | exact Or.inl ⟨_, rfl⟩ | exact Or.inr ⟨_, rfl⟩) rfl fr_X7 (c := 174) rfl (by decide) rfl rfl (fun M41 hM41 => ?_)
  refine mm_aload_n dX7_init_44 rfl rfl ?_
  refine mm_bipush dX7_init_45 rfl (by decide) ?_
  refine mm_newarr' (n := 180) (t := 0) dX7_init_47 rfl rfl (by decide) rfl rfl ac_0 ⟨by decide, by decide, by decide +kernel, by decide +kernel, by decide +kernel⟩ (fun M47 hM47 => ?_)
  refine mm_putr' dX7_init_49 rfl fl_X7_27 (by first | exact Or.inl ⟨_, rfl⟩ | exact Or.inr ⟨_, rfl⟩) rfl fr_X7 (c := 174) rfl (by decide) rfl rfl (fun M49 hM49 => ?_)
  refine mm_aload_n dX7_init_52 rfl rfl ?_
  refine mm_bipush dX7_init_53 rfl (by decide) ?_
  refine mm_newarr' (n := 181) (t := 0) dX7_init_55 rfl rfl (by decide) rfl rfl ac_0 ⟨by decide, by decide, by decide +kernel, by decide +kernel, by decide +kernel⟩ (fun M55 hM55 => ?_)
  refine mm_putr' dX7_init_57 rfl fl_X7_30 (by first | exact Or.inl ⟨_, rfl⟩ | exact Or.inr ⟨_, rfl⟩) rfl fr_X7 (c := 174) rfl (by decide) rfl rfl (fun M57 hM57 => ?_)
  refine mm_aload_n dX7_init_60 rfl rfl ?_
  refine mm_bipush dX7_init_61 rfl (by decide) ?_
  refine mm_newarr' (n := 182) (t := 0) dX7_init_63 rfl rfl (by decide) rfl rfl ac_0 ⟨by decide, by decide, by decide +kernel, by decide +kernel, by decide +kernel⟩ (fun M63 hM63 => ?_)
  refine mm_putr' dX7_init_65 rfl fl_X7_33 (by first | exact Or.inl ⟨_, rfl⟩ | exact Or.inr ⟨_, rfl⟩) rfl fr_X7 (c := 174) rfl (by decide) rfl rfl (fun M65 hM65 => ?_)
  refine mm_aload_n dX7_init_68 rfl rfl ?_
  refine mm_aload_n dX7_init_69 rfl rfl ?_
  refine mm_putr' dX7_init_70 rfl fl_X7_36 (by first | exact Or.inl ⟨_, rfl⟩ | exact Or.inr ⟨_, rfl⟩) rfl fr_X7 (c := 174) rfl (by decide) rfl rfl (fun M70 hM70 => ?_)
  refine mm_aload_n dX7_init_73 rfl rfl ?_
  refine mm_aload_n dX7_init_74 rfl rfl ?_
  refine mm_putr' dX7_init_75 rfl fl_X7_40 (by first | exact Or.inl ⟨_, rfl⟩ | exact Or.inr ⟨_, rfl⟩) rfl fr_X7 (c := 174) rfl (by decide) rfl rfl (fun M75 hM75 => ?_)
  refine mm_vret dX7_init_78 rfl rfl ?_
  refine ⟨rfl, ⟨?_, ?_⟩⟩
  · intro a ha
    have e174 : a ≠ 174 := by omega
    have e175 : a ≠ 175 := by omega
    have e176 : a ≠ 176 := by omega
    have e177 : a ≠ 177 := by omega
    have e178 : a ≠ 178 := by omega
    have e179 : a ≠ 179 := by omega
    have e180 : a ≠ 180 := by omega
    have e181 : a ≠ 181 := by omega
    have e182 : a ≠ 182 := by omega
    funext b; simp [hM75, hM70, hM65, hM63, hM57, hM55, hM49, hM47, hM41, hM39, hM33, hM31, hM25, hM23, hM17, hM15, hM9, hM7, mm_up, mm_z, e174, e175, e176, e177, e178, e179, e180, e181, e182]
  · intro a b h1 h2 hE
    rcases (show a = 174 ∨ a = 175 ∨ a = 176 ∨ a = 177 ∨ a = 178 ∨ a = 179 ∨ a = 180 ∨ a = 181 ∨ a = 182 by omega) with e | e | e | e | e | e | e | e | e
    · subst e
      by_cases q0 : b = 0
      · subst q0; simp [hM75, hM70, hM65, hM63, hM57, hM55, hM49, hM47, hM41, hM39, hM33, hM31, hM25, hM23, hM17, hM15, hM9, hM7, mm_up, mm_z]; rfl
      by_cases q1 : b = 1
      · subst q1; simp [hM75, hM70, hM65, hM63, hM57, hM55, hM49, hM47, hM41, hM39, hM33, hM31, hM25, hM23, hM17, hM15, hM9, hM7, mm_up, mm_z]; rfl
      by_cases q5 : b = 5
      · subst q5; simp [hM75, hM70, hM65, hM63, hM57, hM55, hM49, hM47, hM41, hM39, hM33, hM31, hM25, hM23, hM17, hM15, hM9, hM7, mm_up, mm_z]; rfl
      by_cases q6 : b = 6
      · subst q6; simp [hM75, hM70, hM65, hM63, hM57, hM55, hM49, hM47, hM41, hM39, hM33, hM31, hM25, hM23, hM17, hM15, hM9, hM7, mm_up, mm_z]; rfl
      by_cases q7 : b = 7
      · subst q7; simp [hM75, hM70, hM65, hM63, hM57, hM55, hM49, hM47, hM41, hM39, hM33, hM31, hM25, hM23, hM17, hM15, hM9, hM7, mm_up, mm_z]; rfl
      by_cases q8 : b = 8
      · subst q8; simp [hM75, hM70, hM65, hM63, hM57, hM55, hM49, hM47, hM41, hM39, hM33, hM31, hM25, hM23, hM17, hM15, hM9, hM7, mm_up, mm_z]; rfl
      by_cases q9 : b = 9
      · subst q9; simp [hM75, hM70, hM65, hM63, hM57, hM55, hM49, hM47, hM41, hM39, hM33, hM31, hM25, hM23, hM17, hM15, hM9, hM7, mm_up, mm_z]; rfl
      by_cases q10 : b = 10
      · subst q10; simp [hM75, hM70, hM65, hM63, hM57, hM55, hM49, hM47, hM41, hM39, hM33, hM31, hM25, hM23, hM17, hM15, hM9, hM7, mm_up, mm_z]; rfl
      by_cases q11 : b = 11
      · subst q11; simp [hM75, hM70, hM65, hM63, hM57, hM55, hM49, hM47, hM41, hM39, hM33, hM31, hM25, hM23, hM17, hM15, hM9, hM7, mm_up, mm_z]; rfl
      by_cases q12 : b = 12
      · subst q12; simp [hM75, hM70, hM65, hM63, hM57, hM55, hM49, hM47, hM41, hM39, hM33, hM31, hM25, hM23, hM17, hM15, hM9, hM7, mm_up, mm_z]; rfl
      rw [mm_rt_no [0, 1, 5, 6, 7, 8, 9, 10, 11, 12] (by decide +kernel) (by simp [q0, q1, q5, q6, q7, q8, q9, q10, q11, q12])]
      simp [hM75, hM70, hM65, hM63, hM57, hM55, hM49, hM47, hM41, hM39, hM33, hM31, hM25, hM23, hM17, hM15, hM9, hM7, mm_up, mm_z, q0, q1, q5, q6, q7, q8, q9, q10, q11, q12]; exact hz b
    · subst e; rw [mm_rt_ar (t := 0) rfl (by decide)]; simp [hM75, hM70, hM65, hM63, hM57, hM55, hM49, hM47, hM41, hM39, hM33, hM31, hM25, hM23, hM17, hM15, hM9, hM7, mm_up, mm_z]
    · subst e; rw [mm_rt_ar (t := 0) rfl (by decide)]; simp [hM75, hM70, hM65, hM63, hM57, hM55, hM49, hM47, hM41, hM39, hM33, hM31, hM25, hM23, hM17, hM15, hM9, hM7, mm_up, mm_z]
    · subst e; rw [mm_rt_ar (t := 0) rfl (by decide)]; simp [hM75, hM70, hM65, hM63, hM57, hM55, hM49, hM47, hM41, hM39, hM33, hM31, hM25, hM23, hM17, hM15, hM9, hM7, mm_up, mm_z]
    · subst e; rw [mm_rt_ar (t := 0) rfl (by decide)]; simp [hM75, hM70, hM65, hM63, hM57, hM55, hM49, hM47, hM41, hM39, hM33, hM31, hM25, hM23, hM17, hM15, hM9, hM7, mm_up, mm_z]
    · subst e; rw [mm_rt_ar (t := 0) rfl (by decide)]; simp [hM75, hM70, hM65, hM63, hM57, hM55, hM49, hM47, hM41, hM39, hM33, hM31, hM25, hM23, hM17, hM15, hM9, hM7, mm_up, mm_z]
    · subst e; rw [mm_rt_ar (t := 0) rfl (by decide)]; simp [hM75, hM70, hM65, hM63, hM57, hM55, hM49, hM47, hM41, hM39, hM33, hM31, hM25, hM23, hM17, hM15, hM9, hM7, mm_up, mm_z]
    · subst e; rw [mm_rt_ar (t := 0) rfl (by decide)]; simp [hM75, hM70, hM65, hM63, hM57, hM55, hM49, hM47, hM41, hM39, hM33, hM31, hM25, hM23, hM17, hM15, hM9, hM7, mm_up, mm_z]
    · subst e; rw [mm_rt_ar (t := 0) rfl (by decide)]; simp [hM75, hM70, hM65, hM63, hM57, hM55, hM49, hM47, hM41, hM39, hM33, hM31, hM25, hM23, hM17, hM15, hM9, hM7, mm_up, mm_z]
theorem c_X10_init (hz : ∀ b, M 1 b = 0) : mm_C X Y_X10_init 2 3 [(2, 2)] M (fun r M' => r = (3, 0) ∧ mm_bn M M' 1 3 (fun a b => a = 1 ∧ b = 3) ∧ M' 1 3 = -1) := by
  refine mm_start (ls := [(2, 2)]) rfl ?_
  refine mm_aload_n dX10_init_0 rfl rfl ?_
  refine mm_oinit' (c := 1) dX10_init_1 rfl oi_X10_3 rfl rfl rfl ?_
  refine mm_aload_n dX10_init_4 rfl rfl ?_
  refine mm_sipush dX10_init_5 rfl (by decide) ?_
  refine mm_newarr' (n := 2) (t := 1) dX10_init_8 rfl rfl (by decide) rfl rfl ac_1 ⟨by decide, by decide, by decide +kernel, by decide +kernel, by decide +kernel⟩ (fun M8 hM8 => ?_)
  refine mm_putr' dX10_init_10 rfl fl_X10_11 (by first | exact Or.inl ⟨_, rfl⟩ | exact Or.inr ⟨_, rfl⟩) rfl fr_X10 (c := 1) rfl (by decide) rfl rfl (fun M10 hM10 => ?_)
  refine mm_aload_n dX10_init_13 rfl rfl ?_
  refine mm_iconst dX10_init_14 rfl ?_
  refine mm_puti dX10_init_15 rfl fl_X10_15 (c := 1) rfl (by decide) rfl rfl (fun M15 hM15 => ?_)
  refine mm_vret dX10_init_18 rfl rfl ?_
  refine ⟨rfl, ⟨?_, ?_⟩, ?_⟩
  · intro a ha
    have e1 : a ≠ 1 := by omega
    have e2 : a ≠ 2 := by omega
    funext b; simp [hM15, hM10, hM8, mm_up, mm_z, e1, e2]
  · intro a b h1 h2 hE
    rcases (show a = 1 ∨ a = 2 by omega) with e | e
    · subst e
      by_cases q0 : b = 0
      · subst q0; simp [hM15, hM10, hM8, mm_up, mm_z]; rfl
      by_cases q3 : b = 3
      · exact absurd (by simp [q3]) hE
      rw [mm_rt_no [0] (by decide +kernel) (by simp [q0])]
      simp [hM15, hM10, hM8, mm_up, mm_z, q0, q3]; exact hz b
    · subst e; rw [mm_rt_ar (t := 1) rfl (by decide)]; simp [hM15, hM10, hM8, mm_up, mm_z]
  · simp [hM15, hM10, hM8, mm_up, mm_z]
end

