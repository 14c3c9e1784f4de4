/-! ===== constructors: the hours ===== -/
section
variable {X : mm_X} {M : mm_M}
theorem c_X3_init (hz : ∀ b, M 21 b = 0) : mm_C X Y_X3_init 22 114 [(2, 22), (2, 4), (2, 12)] M (fun r M' => r = (3, 0) ∧ mm_bn M M' 21 114 (fun a b => a = 21 ∧ b = 9) ∧ M' 21 9 = -1) := by
  refine mm_start (ls := [(2, 22), (2, 4), (2, 12), (9, 0)]) rfl ?_
  have loop : ∀ i : Nat, i ≤ 24 → ∀ N : mm_M, (∀ a, a < 21 → N a = M a) → (∀ a b, 21 ≤ a → a ≠ 22 → a < 42 + 3 * i → ¬ (a = 21 ∧ b = 9) → N a b = mm_rt a b) → N 21 9 = -1 → (∀ b, N 22 b = if b < i then mm_rt 22 b else 0) →
      mm_J X Y_X3_init 22 114 (42 + 3 * i) 83 [(2, 22), (2, 4), (2, 12), (0, (i : Int))] [] N (fun r M' => r = (3, 0) ∧ mm_bn M M' 21 114 (fun a b => a = 21 ∧ b = 9) ∧ M' 21 9 = -1) := by
    refine mm_lp ?_
    intro i hi ih N h1 h2 hl h3
    have rr : N 21 2 = 23 := h2 21 2 (by omega) (by decide) (by omega) (by decide)
    by_cases hlt : i < 24
    · obtain ⟨w0, w1, w2, w3, w4, w5, w6, w7⟩ := kz_rows.2 i hlt
      have wr := mm_rw_loops i hlt
      refine mm_iload_n dX3_init_83 rfl rfl ?_
      refine mm_aload_n dX3_init_84 rfl rfl ?_
      refine mm_getr dX3_init_85 rfl fl_X3_13 (c := 21) rfl (by omega) rfl rfl (rr) ?_
      refine mm_aln dX3_init_88 rfl (c := 22) rfl (by omega) rfl ?_
      refine mm_icge dX3_init_89 (by omega) (by omega) (fun h89 => ?_) (fun h89 => ?_)
      · exfalso; omega
      · refine mm_aload_n dX3_init_92 rfl rfl ?_
        refine mm_getr dX3_init_93 rfl fl_X3_13 (c := 21) rfl (by omega) rfl rfl (rr) ?_
        refine mm_iload_n dX3_init_96 rfl rfl ?_
        refine mm_new' (n := 42+3*i) dX3_init_97 rfl w0 nw_X3_11 ⟨by omega, by omega, w6, w3, by omega⟩ (fun M97 hM97 => ?_)
        refine mm_dup dX3_init_100 rfl (by simp) ?_
        refine mm_sipush dX3_init_101 rfl (by decide) ?_
        refine mm_I1g (c := 42+3*i) (n := 42+3*i + 1) (n' := 42+3*i+1+1+1) dX3_init_104 rfl li_X3_58 rfl ⟨by omega, by omega, by omega, by omega, by omega, by omega⟩ (by simp) rfl rfl rfl (c_X8_init (c := 42 + 3 * i) (len := 288) w0 w1 w2 (by decide) w4 w5) ?_
        rintro _ N104 ⟨rfl, p104⟩
        change mm_J _ _ _ _ _ _ _ _ _ _
        refine mm_aast' (k0 := i) dX3_init_107 rfl (c := 22) rfl (by omega) rfl (d := 42+3*i) rfl (by omega)   w0 (by omega) (by omega) (fun M107 hM107 => ?_)
        refine mm_iinc dX3_init_108 rfl rfl (Nat.le_of_ble_eq_true rfl) rfl ?_
        refine mm_goto dX3_init_111 ?_
        obtain ⟨p1, p2, p3, p4⟩ := p104
        have e : 42 + 3 * (i + 1) = 42 + 3 * i + 1 + 1 + 1 := by omega
        have go := ih hlt M107 ?_ ?_ ?_ ?_
        · rw [e] at go; exact go
        · intro a ha; rw [hM107, mm_up_row (by omega), p1 a (by omega), hM97, mm_z_n (by omega)]; exact h1 a ha
        · intro a b a1 a2 a3 a4
          rw [hM107, mm_up_row a2]
          by_cases q : a < 42 + 3 * i
          · rw [p1 a q, hM97, mm_z_n (by omega)]; exact h2 a b a1 a2 q a4
          · rcases (show a = 42 + 3 * i ∨ a = 42 + 3 * i + 1 ∨ a = 42 + 3 * i + 1 + 1 by omega) with q | q | q
            · rw [q, p2 b]
              by_cases b0 : b = 0
              · rw [if_pos b0, b0, wr.1.2.2.2.2.1]; omega
              · by_cases b1 : b = 1
                · rw [if_neg b0, if_pos b1, b1, wr.1.2.2.2.2.2.1]; omega
                · rw [if_neg b0, if_neg b1, hM97, mm_z_0, mm_rt_row wr.1 (by omega)]
            · rw [q, p3 b, mm_rt_arr w1]
            · rw [q, mm_rt_arr w2]; exact p4 b
        · rw [hM107, mm_up_row (by decide), p1 21 (by omega), hM97, mm_z_n (by omega)]; exact hl
        · intro b
          by_cases q : b = i
          · rw [q, hM107, mm_up_s, if_pos (by omega)]; exact wr.2.symm
          · rw [hM107, mm_up_i q, p1 22 (by omega), hM97, mm_z_n (by omega), h3 b]
            by_cases w : b < i
            · rw [if_pos w, if_pos (by omega)]
            · rw [if_neg w, if_neg (by omega)]
    · have ei : i = 24 := by omega
      subst ei
      refine mm_iload_n dX3_init_83 rfl rfl ?_
      refine mm_aload_n dX3_init_84 rfl rfl ?_
      refine mm_getr dX3_init_85 rfl fl_X3_13 (c := 21) rfl (by omega) rfl rfl (rr) ?_
      refine mm_aln dX3_init_88 rfl (c := 22) rfl (by omega) rfl ?_
      refine mm_icge dX3_init_89 (by omega) (by omega) (fun h89 => ?_) (fun h89 => ?_)
      · refine mm_vret dX3_init_114 rfl rfl ?_
        refine ⟨rfl, ⟨h1, fun a b a1 a2 a3 => ?_⟩, hl⟩
        by_cases q : a = 22
        · rw [q, h3 b]
          by_cases w : b < 24
          · rw [if_pos w]
          · rw [if_neg w, mm_rt_no (List.range 24) (by decide +kernel) (by simp; omega)]
        · exact h2 a b a1 q (by omega) a3
      · exfalso; omega
  refine mm_aload_n dX3_init_0 rfl rfl ?_
  refine mm_oinit' (c := 21) dX3_init_1 rfl oi_X3_3 rfl rfl rfl ?_
  refine mm_aload_n dX3_init_4 rfl rfl ?_
  refine mm_bipush dX3_init_5 rfl (by decide) ?_
  refine mm_anew' (n := 22) dX3_init_7 rfl rfl rfl ck_X3_11 ⟨by decide, by decide, by decide +kernel, by decide +kernel, by decide +kernel⟩ (fun M7 hM7 => ?_)
  refine mm_putr' dX3_init_10 rfl fl_X3_13 (by first | exact Or.inl ⟨_, rfl⟩ | exact Or.inr ⟨_, rfl⟩) rfl fr_X3 (c := 21) rfl (by decide) rfl rfl (fun M10 hM10 => ?_)
  refine mm_aload_n dX3_init_13 rfl rfl ?_
  refine mm_bipush dX3_init_14 rfl (by decide) ?_
  refine mm_newarr' (n := 23) (t := 2) dX3_init_16 rfl rfl (by decide) rfl rfl ac_2 ⟨by decide, by decide, by decide +kernel, by decide +kernel, by decide +kernel⟩ (fun M16 hM16 => ?_)
  refine mm_putr' dX3_init_18 rfl fl_X3_19 (by first | exact Or.inl ⟨_, rfl⟩ | exact Or.inr ⟨_, rfl⟩) rfl fr_X3 (c := 21) rfl (by decide) rfl rfl (fun M18 hM18 => ?_)
  refine mm_aload_n dX3_init_21 rfl rfl ?_
  refine mm_bipush dX3_init_22 rfl (by decide) ?_
  refine mm_newarr' (n := 24) (t := 0) dX3_init_24 rfl rfl (by decide) rfl rfl ac_0 ⟨by decide, by decide, by decide +kernel, by decide +kernel, by decide +kernel⟩ (fun M24 hM24 => ?_)
  refine mm_putr' dX3_init_26 rfl fl_X3_23 (by first | exact Or.inl ⟨_, rfl⟩ | exact Or.inr ⟨_, rfl⟩) rfl fr_X3 (c := 21) rfl (by decide) rfl rfl (fun M26 hM26 => ?_)
  refine mm_aload_n dX3_init_29 rfl rfl ?_
  refine mm_bipush dX3_init_30 rfl (by decide) ?_
  refine mm_newarr' (n := 25) (t := 0) dX3_init_32 rfl rfl (by decide) rfl rfl ac_0 ⟨by decide, by decide, by decide +kernel, by decide +kernel, by decide +kernel⟩ (fun M32 hM32 => ?_)
  refine mm_putr' dX3_init_34 rfl fl_X3_27 (by first | exact Or.inl ⟨_, rfl⟩ | exact Or.inr ⟨_, rfl⟩) rfl fr_X3 (c := 21) rfl (by decide) rfl rfl (fun M34 hM34 => ?_)
  refine mm_aload_n dX3_init_37 rfl rfl ?_
  refine mm_bipush dX3_init_38 rfl (by decide) ?_
  refine mm_newarr' (n := 26) (t := 0) dX3_init_40 rfl rfl (by decide) rfl rfl ac_0 ⟨by decide, by decide, by decide +kernel, by decide +kernel, by decide +kernel⟩ (fun M40 hM40 => ?_)
  refine mm_putr' dX3_init_42 rfl fl_X3_30 (by first | exact Or.inl ⟨_, rfl⟩ | exact Or.inr ⟨_, rfl⟩) rfl fr_X3 (c := 21) rfl (by decide) rfl rfl (fun M42 hM42 => ?_)
  refine mm_aload_n dX3_init_45 rfl rfl ?_
  refine mm_bipush dX3_init_46 rfl (by decide) ?_
  refine mm_newarr' (n := 27) (t := 0) dX3_init_48 rfl rfl (by decide) rfl rfl ac_0 ⟨by decide, by decide, by decide +kernel, by decide +kernel, by decide +kernel⟩ (fun M48 hM48 => ?_)
  refine mm_putr' dX3_init_50 rfl fl_X3_33 (by first | exact Or.inl ⟨_, rfl⟩ | exact Or.inr ⟨_, rfl⟩) rfl fr_X3 (c := 21) rfl (by decide) rfl rfl (fun M50 hM50 => ?_)
  refine mm_aload_n dX3_init_53 rfl rfl ?_
  refine mm_iconst dX3_init_54 rfl ?_
  refine mm_puti dX3_init_55 rfl fl_X3_36 (c := 21) rfl (by decide) rfl rfl (fun M55 hM55 => ?_)
  refine mm_aload_n dX3_init_58 rfl rfl ?_
  refine mm_iconst dX3_init_59 rfl ?_
  refine mm_puti dX3_init_60 rfl fl_X3_40 (c := 21) rfl (by decide) rfl rfl (fun M60 hM60 => ?_)
  refine mm_aload_n dX3_init_63 rfl rfl ?_
  refine mm_aload_n dX3_init_64 rfl rfl ?_
  refine mm_putr' dX3_init_65 rfl fl_X3_43 (by first | exact Or.inl ⟨_, rfl⟩ | exact Or.inr ⟨_, rfl⟩) rfl fr_X3 (c := 21) rfl (by decide) rfl rfl (fun M65 hM65 => ?_)
  refine mm_aload_n dX3_init_68 rfl rfl ?_
  refine mm_new' (n := 28) dX3_init_69 rfl rfl nw_X3_47 ⟨by decide, by decide, by decide +kernel, by decide +kernel, by decide +kernel⟩ (fun M69 hM69 => ?_)
  refine mm_dup dX3_init_72 rfl (by simp) ?_
  refine mm_aload_n dX3_init_73 rfl rfl ?_
  refine mm_aload_n dX3_init_74 rfl rfl ?_
  refine mm_I2g (c := 28) (n := 29) (n' := 42) dX3_init_75 rfl li_X3_49 rfl ⟨by decide, by decide, by decide, by decide +kernel, by decide +kernel, by decide +kernel⟩ (by simp) (by simp) rfl rfl rfl (c_X6_init (by intro b; rw [hM69, mm_z_0])) ?_
  rintro _ N75 ⟨rfl, p75⟩
  change mm_J _ _ _ _ _ _ _ _ _ _
  refine mm_putr' dX3_init_78 rfl fl_X3_52 (by first | exact Or.inl ⟨_, rfl⟩ | exact Or.inr ⟨_, rfl⟩) rfl fr_X3 (c := 21) rfl (by decide) rfl rfl (fun M78 hM78 => ?_)
  refine mm_iconst dX3_init_81 rfl ?_
  refine mm_istore_n dX3_init_82 rfl (Nat.le_of_ble_eq_true rfl) rfl ?_
  obtain ⟨p1, p2⟩ := p75
  have m78 : ∀ a, a ≠ 21 → M78 a = N75 a := by intro a ha; rw [hM78, mm_up_row ha]
  have m69 : ∀ a, a < 21 → M69 a = M a := by
    intro a ha
    have e21 : a ≠ 21 := by omega
    have e22 : a ≠ 22 := by omega
    have e23 : a ≠ 23 := by omega
    have e24 : a ≠ 24 := by omega
    have e25 : a ≠ 25 := by omega
    have e26 : a ≠ 26 := by omega
    have e27 : a ≠ 27 := by omega
    have e28 : a ≠ 28 := by omega
    funext b; simp [hM69, hM65, hM60, hM55, hM50, hM48, hM42, hM40, hM34, hM32, hM26, hM24, hM18, hM16, hM10, hM7, mm_up, mm_z, e21, e22, e23, e24, e25, e26, e27, e28]
  have m21 : ∀ b, M78 21 b = if b = 1 then 29 else M69 21 b := by
    intro b
    by_cases q : b = 1
    · rw [if_pos q, q, hM78, mm_up_s]; rfl
    · rw [if_neg q, hM78, mm_up_i q, p1 21 (by omega)]
  refine loop 0 (Nat.zero_le _) _ ?_ ?_ ?_ ?_
  · intro a ha; rw [m78 a (by omega), p1 a (by omega)]; exact m69 a ha
  · intro a b a1 a2 a3 a4
    by_cases q28 : 28 ≤ a
    · rw [m78 a (by omega)]; exact p2 a b q28 (by omega) (fun z => z)
    · rcases (show a = 21 ∨ a = 23 ∨ a = 24 ∨ a = 25 ∨ a = 26 ∨ a = 27 by omega) with e | e | e | e | e | e
      · subst e
        rw [m21 b]
        by_cases q0 : b = 0
        · subst q0; simp [hM69, hM65, hM60, hM55, hM50, hM48, hM42, hM40, hM34, hM32, hM26, hM24, hM18, hM16, hM10, hM7, mm_up, mm_z]; rfl
        by_cases q1 : b = 1
        · subst q1; simp [hM69, hM65, hM60, hM55, hM50, hM48, hM42, hM40, hM34, hM32, hM26, hM24, hM18, hM16, hM10, hM7, mm_up, mm_z]; rfl
        by_cases q2 : b = 2
        · subst q2; simp [hM69, hM65, hM60, hM55, hM50, hM48, hM42, hM40, hM34, hM32, hM26, hM24, hM18, hM16, hM10, hM7, mm_up, mm_z]; rfl
        by_cases q3 : b = 3
        · subst q3; simp [hM69, hM65, hM60, hM55, hM50, hM48, hM42, hM40, hM34, hM32, hM26, hM24, hM18, hM16, hM10, hM7, mm_up, mm_z]; rfl
        by_cases q4 : b = 4
        · subst q4; simp [hM69, hM65, hM60, hM55, hM50, hM48, hM42, hM40, hM34, hM32, hM26, hM24, hM18, hM16, hM10, hM7, mm_up, mm_z]; rfl
        by_cases q5 : b = 5
        · subst q5; simp [hM69, hM65, hM60, hM55, hM50, hM48, hM42, hM40, hM34, hM32, hM26, hM24, hM18, hM16, hM10, hM7, mm_up, mm_z]; rfl
        by_cases q6 : b = 6
        · subst q6; simp [hM69, hM65, hM60, hM55, hM50, hM48, hM42, hM40, hM34, hM32, hM26, hM24, hM18, hM16, hM10, hM7, mm_up, mm_z]; rfl
        by_cases q7 : b = 7
        · subst q7; simp [hM69, hM65, hM60, hM55, hM50, hM48, hM42, hM40, hM34, hM32, hM26, hM24, hM18, hM16, hM10, hM7, mm_up, mm_z]; rfl
        by_cases q9 : b = 9
        · exact absurd ⟨rfl, q9⟩ a4
        rw [mm_rt_no [0, 1, 2, 3, 4, 5, 6, 7] (by decide +kernel) (by simp [q0, q1, q2, q3, q4, q5, q6, q7])]
        simp [hM69, hM65, hM60, hM55, hM50, hM48, hM42, hM40, hM34, hM32, hM26, hM24, hM18, hM16, hM10, hM7, mm_up, mm_z, q9, q0, q1, q2, q3, q4, q5, q6, q7]
        intro _; exact hz b
      · subst e; rw [mm_rt_ar (t := 2) rfl (by decide), m78 _ (by decide), p1 _ (by omega)]; simp [hM69, hM65, hM60, hM55, hM50, hM48, hM42, hM40, hM34, hM32, hM26, hM24, hM18, hM16, hM10, hM7, mm_up, mm_z]
      · subst e; rw [mm_rt_ar (t := 0) rfl (by decide), m78 _ (by decide), p1 _ (by omega)]; simp [hM69, hM65, hM60, hM55, hM50, hM48, hM42, hM40, hM34, hM32, hM26, hM24, hM18, hM16, hM10, hM7, mm_up, mm_z]
      · subst e; rw [mm_rt_ar (t := 0) rfl (by decide), m78 _ (by decide), p1 _ (by omega)]; simp [hM69, hM65, hM60, hM55, hM50, hM48, hM42, hM40, hM34, hM32, hM26, hM24, hM18, hM16, hM10, hM7, mm_up, mm_z]
      · subst e; rw [mm_rt_ar (t := 0) rfl (by decide), m78 _ (by decide), p1 _ (by omega)]; simp [hM69, hM65, hM60, hM55, hM50, hM48, hM42, hM40, hM34, hM32, hM26, hM24, hM18, hM16, hM10, hM7, mm_up, mm_z]
      · subst e; rw [mm_rt_ar (t := 0) rfl (by decide), m78 _ (by decide), p1 _ (by omega)]; simp [hM69, hM65, hM60, hM55, hM50, hM48, hM42, hM40, hM34, hM32, hM26, hM24, hM18, hM16, hM10, hM7, mm_up, mm_z]
  · rw [m21 9]; simp [hM69, hM65, hM60, hM55, hM50, hM48, hM42, hM40, hM34, hM32, hM26, hM24, hM18, hM16, hM10, hM7, mm_up, mm_z]
  · intro b; rw [m78 22 (by decide), p1 22 (by omega)]; simp [hM69, hM65, hM60, hM55, hM50, hM48, hM42, hM40, hM34, hM32, hM26, hM24, hM18, hM16, hM10, hM7, mm_up, mm_z]
end

