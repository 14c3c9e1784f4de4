/-! ===== constructors: the field, the hours ===== -/
theorem kz_rows : (∀ i : Nat, i < 8 → mm_sh (148 + 3 * i) = (0, 8) ∧ mm_sh (148 + 3 * i + 1) = (1, 100) ∧ mm_sh (148 + 3 * i + 1 + 1) = (1, 100) ∧ mm_sz (148 + 3 * i + 1) = mm_sz (148 + 3 * i) + mm_nf 8 ∧ mm_sz (148 + 3 * i + 1 + 1) = mm_sz (148 + 3 * i + 1) + 100 ∧ mm_sz (148 + 3 * i + 1 + 1 + 1) = mm_sz (148 + 3 * i + 1 + 1) + 100 ∧ mm_sz 145 ≤ mm_sz (148 + 3 * i) ∧ mm_sz (148 + 3 * i + 1 + 1 + 1) ≤ mm_sz 172) ∧
    (∀ i : Nat, i < 24 → mm_sh (42 + 3 * i) = (0, 8) ∧ mm_sh (42 + 3 * i + 1) = (1, 288) ∧ mm_sh (42 + 3 * i + 1 + 1) = (1, 288) ∧ mm_sz (42 + 3 * i + 1) = mm_sz (42 + 3 * i) + mm_nf 8 ∧ mm_sz (42 + 3 * i + 1 + 1) = mm_sz (42 + 3 * i + 1) + 288 ∧ mm_sz (42 + 3 * i + 1 + 1 + 1) = mm_sz (42 + 3 * i + 1 + 1) + 288 ∧ mm_sz 22 ≤ mm_sz (42 + 3 * i) ∧ mm_sz (42 + 3 * i + 1 + 1 + 1) ≤ mm_sz 114) := by decide +kernel
section
variable {X : mm_X} {M : mm_M}
theorem c_X1_init (hz : ∀ b, M 144 b = 0) : mm_C X Y_X1_init 145 172 [(2, 145), (2, 4)] M (fun r M' => r = (3, 0) ∧ mm_bn M M' 144 172 (fun _ _ => False)) := by
  refine mm_start (ls := [(2, 145), (2, 4), (9, 0)]) rfl ?_
  have loop : ∀ i : Nat, i ≤ 8 → ∀ N : mm_M, (∀ a, a < 144 → N a = M a) → (∀ a b, 144 ≤ a → a ≠ 145 → a < 148 + 3 * i → N a b = mm_rt a b) → (∀ b, N 145 b = if b < i then mm_rt 145 b else 0) →
      mm_J X Y_X1_init 145 172 (148 + 3 * i) 36 [(2, 145), (2, 4), (0, (i : Int))] [] N (fun r M' => r = (3, 0) ∧ mm_bn M M' 144 172 (fun _ _ => False)) := by
    refine mm_lp ?_
    intro i hi ih N h1 h2 h3
    by_cases hlt : i < 8
    · obtain ⟨w0, w1, w2, w3, w4, w5, w6, w7⟩ := kz_rows.1 i hlt
      have wr := mm_rw_stands i hlt
      have rr : N 144 3 = 146 := h2 144 3 (by omega) (by decide) (by omega)
      refine mm_iload_n dX1_init_36 rfl rfl ?_
      refine mm_bipush dX1_init_37 rfl (by decide) ?_
      refine mm_icge dX1_init_39 (by omega) (by omega) (fun h39 => ?_) (fun h39 => ?_)
      · exfalso; omega
      · refine mm_aload_n dX1_init_42 rfl rfl ?_
        refine mm_getr dX1_init_43 rfl fl_X1_13 (c := 144) rfl (by omega) rfl rfl (rr) ?_
        refine mm_iload_n dX1_init_46 rfl rfl ?_
        refine mm_new' (n := 148+3*i) dX1_init_47 rfl w0 nw_X1_11 ⟨by omega, by omega, w6, w3, by omega⟩ (fun M47 hM47 => ?_)
        refine mm_dup dX1_init_50 rfl (by simp) ?_
        refine mm_bipush dX1_init_51 rfl (by decide) ?_
        refine mm_I1g (c := 148+3*i) (n := 148+3*i + 1) (n' := 148+3*i+1+1+1) dX1_init_53 rfl li_X1_28 rfl ⟨by omega, by omega, by omega, by omega, by omega, by omega⟩ (by simp) rfl rfl rfl (c_X8_init (c := 148 + 3 * i) (len := 100) w0 w1 w2 (by decide) w4 w5) ?_
        rintro _ N53 ⟨rfl, p53⟩
        change mm_J _ _ _ _ _ _ _ _ _ _
        refine mm_aast' (k0 := i) dX1_init_56 rfl (c := 145) rfl (by omega) rfl (d := 148+3*i) rfl (by omega)   w0 (by omega) (by omega) (fun M56 hM56 => ?_)
        refine mm_iinc dX1_init_57 rfl rfl (Nat.le_of_ble_eq_true rfl) rfl ?_
        refine mm_goto dX1_init_60 ?_
        obtain ⟨p1, p2, p3, p4⟩ := p53
        have e : 148 + 3 * (i + 1) = 148 + 3 * i + 1 + 1 + 1 := by omega
        have go := ih hlt M56 ?_ ?_ ?_
        · rw [e] at go; exact go
        · intro a ha; rw [hM56, mm_up_row (by omega), p1 a (by omega), hM47, mm_z_n (by omega)]; exact h1 a ha
        · intro a b a1 a2 a3
          rw [hM56, mm_up_row a2]
          by_cases q : a < 148 + 3 * i
          · rw [p1 a q, hM47, mm_z_n (by omega)]; exact h2 a b a1 a2 q
          · rcases (show a = 148 + 3 * i ∨ a = 148 + 3 * i + 1 ∨ a = 148 + 3 * i + 1 + 1 by omega) with q | q | q
            · rw [q, p2 b]
              by_cases b0 : b = 0
              · rw [if_pos b0, b0, wr.1.2.2.2.2.1]; omega
              · by_cases b1 : b = 1
                · rw [if_neg b0, if_pos b1, b1, wr.1.2.2.2.2.2.1]; omega
                · rw [if_neg b0, if_neg b1, hM47, mm_z_0, mm_rt_row wr.1 (by omega)]
            · rw [q, p3 b, mm_rt_arr w1]
            · rw [q, mm_rt_arr w2]; exact p4 b
        · intro b
          by_cases q : b = i
          · rw [q, hM56, mm_up_s, if_pos (by omega)]; exact wr.2.symm
          · rw [hM56, mm_up_i q, p1 145 (by omega), hM47, mm_z_n (by omega), h3 b]
            by_cases w : b < i
            · rw [if_pos w, if_pos (by omega)]
            · rw [if_neg w, if_neg (by omega)]
    · have ei : i = 8 := by omega
      subst ei
      refine mm_iload_n dX1_init_36 rfl rfl ?_
      refine mm_bipush dX1_init_37 rfl (by decide) ?_
      refine mm_icge dX1_init_39 (by omega) (by omega) (fun h39 => ?_) (fun h39 => ?_)
      · refine mm_vret dX1_init_63 rfl rfl ?_
        refine ⟨rfl, h1, fun a b a1 a2 _ => ?_⟩
        by_cases q : a = 145
        · rw [q, h3 b]
          by_cases w : b < 8
          · rw [if_pos w]
          · rw [if_neg w, mm_rt_no [0, 1, 2, 3, 4, 5, 6, 7] (by decide +kernel) (by simp; omega)]
        · exact h2 a b a1 q (by omega)
      · exfalso; omega
  refine mm_aload_n dX1_init_0 rfl rfl ?_
  refine mm_oinit' (c := 144) dX1_init_1 rfl oi_X1_3 rfl rfl rfl ?_
  refine mm_aload_n dX1_init_4 rfl rfl ?_
  refine mm_bipush dX1_init_5 rfl (by decide) ?_
  refine mm_anew' (n := 145) dX1_init_7 rfl rfl rfl ck_X1_11 ⟨by decide, by decide, by decide +kernel, by decide +kernel, by decide +kernel⟩ (fun M7 hM7 => ?_)
  refine mm_putr' dX1_init_10 rfl fl_X1_13 (by first | exact Or.inl ⟨_, rfl⟩ | exact Or.inr ⟨_, rfl⟩) rfl fr_X1 (c := 144) rfl (by decide) rfl rfl (fun M10 hM10 => ?_)
  refine mm_aload_n dX1_init_13 rfl rfl ?_
  refine mm_bipush dX1_init_14 rfl (by decide) ?_
  refine mm_newarr' (n := 146) (t := 0) dX1_init_16 rfl rfl (by decide) rfl rfl ac_0 ⟨by decide, by decide, by decide +kernel, by decide +kernel, by decide +kernel⟩ (fun M16 hM16 => ?_)
  refine mm_putr' dX1_init_18 rfl fl_X1_17 (by first | exact Or.inl ⟨_, rfl⟩ | exact Or.inr ⟨_, rfl⟩) rfl fr_X1 (c := 144) rfl (by decide) rfl rfl (fun M18 hM18 => ?_)
  refine mm_aload_n dX1_init_21 rfl rfl ?_
  refine mm_bipush dX1_init_22 rfl (by decide) ?_
  refine mm_newarr' (n := 147) (t := 0) dX1_init_24 rfl rfl (by decide) rfl rfl ac_0 ⟨by decide, by decide, by decide +kernel, by decide +kernel, by decide +kernel⟩ (fun M24 hM24 => ?_)
  refine mm_putr' dX1_init_26 rfl fl_X1_21 (by first | exact Or.inl ⟨_, rfl⟩ | exact Or.inr ⟨_, rfl⟩) rfl fr_X1 (c := 144) rfl (by decide) rfl rfl (fun M26 hM26 => ?_)
  refine mm_aload_n dX1_init_29 rfl rfl ?_
  refine mm_aload_n dX1_init_30 rfl rfl ?_
  refine mm_putr' dX1_init_31 rfl fl_X1_24 (by first | exact Or.inl ⟨_, rfl⟩ | exact Or.inr ⟨_, rfl⟩) rfl fr_X1 (c := 144) rfl (by decide) rfl rfl (fun M31 hM31 => ?_)
  refine mm_iconst dX1_init_34 rfl ?_
  refine mm_istore_n dX1_init_35 rfl (Nat.le_of_ble_eq_true rfl) rfl ?_
  refine loop 0 (Nat.zero_le _) _ ?_ ?_ ?_
  · intro a ha
    have e144 : a ≠ 144 := by omega
    have e145 : a ≠ 145 := by omega
    have e146 : a ≠ 146 := by omega
    have e147 : a ≠ 147 := by omega
    funext b; simp [hM31, hM26, hM24, hM18, hM16, hM10, hM7, mm_up, mm_z, e144, e145, e146, e147]
  · intro a b a1 a2 a3
    rcases (show a = 144 ∨ a = 146 ∨ a = 147 by omega) with e | e | e
    · subst e
      by_cases q0 : b = 0
      · subst q0; simp [hM31, hM26, hM24, hM18, hM16, hM10, hM7, mm_up, mm_z]; rfl
      by_cases q3 : b = 3
      · subst q3; simp [hM31, hM26, hM24, hM18, hM16, hM10, hM7, mm_up, mm_z]; rfl
      by_cases q4 : b = 4
      · subst q4; simp [hM31, hM26, hM24, hM18, hM16, hM10, hM7, mm_up, mm_z]; rfl
      by_cases q5 : b = 5
      · subst q5; simp [hM31, hM26, hM24, hM18, hM16, hM10, hM7, mm_up, mm_z]; rfl
      rw [mm_rt_no [0, 3, 4, 5] (by decide +kernel) (by simp [q0, q3, q4, q5])]
      simp [hM31, hM26, hM24, hM18, hM16, hM10, hM7, mm_up, mm_z, q0, q3, q4, q5]; exact hz b
    · subst e; rw [mm_rt_ar (t := 0) rfl (by decide)]; simp [hM31, hM26, hM24, hM18, hM16, hM10, hM7, mm_up, mm_z]
    · subst e; rw [mm_rt_ar (t := 0) rfl (by decide)]; simp [hM31, hM26, hM24, hM18, hM16, hM10, hM7, mm_up, mm_z]
  · intro b; simp [hM31, hM26, hM24, hM18, hM16, hM10, hM7, mm_up, mm_z]
end

