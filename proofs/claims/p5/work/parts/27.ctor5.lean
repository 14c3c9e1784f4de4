/-! C5.ctor5 -/
section
/-! ===== constructors: the hours ===== -/
section
variable {X : mm_X} {M : mm_M}
theorem c_X3_init (hz : ∀ b, M 21 b = 0) : mm_C X Y_X3_init 22 114 [(2, 22), (2, 4), (2, 12)] M (fun r M' => r = (3, 0) ∧ mm_bn M M' 21 114 (fun a b => a = 21 ∧ b = 9) ∧ M' 21 9 = -1) := by
  refine mm_start (ls := [(2, 22), (2, 4), (2, 12), (9, 0)]) rfl ?_
  have loop : ∀ i : Nat, i ≤ 24 → ∀ N : mm_M, (∀ a, a < 21 → N a = M a) → (∀ a b, 21 ≤ a → a ≠ 22 → a < 42 + 3 * i → ¬ (a = 21 ∧ b = 9) → N a b = mm_rt a b) → N 21 9 = -1 → (∀ b, N 22 b = if b < i then mm_rt 22 b else 0) →
      mm_J X Y_X3_init 22 114 (42 + 3 * i) 83 [(2, 22), (2, 4), (2, 12), (0, (i : Int))] [] N (fun r M' => r = (3, 0) ∧ mm_bn M M' 21 114 (fun a b => a = 21 ∧ b = 9) ∧ M' 21 9 = -1) := by
    refine mm_lp ?_
    intro i hi ih N h1 h2 hl h3
    have rr : N 21 2 = 23 := h2 21 2 (by omega) (by decide) (by omega) (by decide)
    by_cases hlt : i < 24
    · obtain ⟨w0, w1, w2, w3, w4, w5, w6, w7⟩ := kz_rows.2 i hlt
      have wr := mm_rw_loops i hlt
      refine mm_iload_n dX3_init_83 rfl rfl ?_
      refine mm_aload_n dX3_init_84 rfl rfl ?_
      refine mm_getr dX3_init_85 rfl fl_X3_13 (c := 21) rfl (by omega) rfl rfl (rr) ?_
      refine mm_aln dX3_init_88 rfl (c := 22) rfl (by omega) rfl ?_
      refine mm_icge dX3_init_89 (by omega) (by omega) (fun h89 => ?_) (fun h89 => ?_)
      · exfalso; omega
      · refine mm_aload_n dX3_init_92 rfl rfl ?_
        refine mm_getr dX3_init_93 rfl fl_X3_13 (c := 21) rfl (by omega) rfl rfl (rr) ?_
        refine mm_iload_n dX3_init_96 rfl rfl ?_
        refine mm_new' (n := 42+3*i) dX3_init_97 rfl w0 nw_X3_11 ⟨by omega, by omega, w6, w3, by omega⟩ (fun M97 hM97 => ?_)
        refine mm_dup dX3_init_100 rfl (by simp) ?_
        refine mm_sipush dX3_init_101 rfl (by decide) ?_
        refine mm_I1g (c := 42+3*i) (n := 42+3*i + 1) (n' := 42+3*i+1+1+1) dX3_init_104 rfl li_X3_58 rfl ⟨by omega, by omega, by omega, by omega, by omega, by omega⟩ (by simp) rfl rfl rfl (c_X8_init (c := 42 + 3 * i) (len := 288) w0 w1 w2 (by decide) w4 w5) ?_
        rintro _ N104 ⟨rfl, p104⟩
        change mm_J _ _ _ _ _ _ _ _ _ _
        refine mm_aast' (k0 := i) dX3_init_107 rfl (c := 22) rfl (by omega) rfl (d := 42+3*i) rfl (by omega)   w0 (by omega) (by omega) (fun M107 hM107 => ?_)
        refine mm_iinc dX3_init_108 rfl rfl (Nat.le_of_ble_eq_true rfl) rfl ?_
        refine mm_goto dX3_init_111 ?_
        obtain ⟨p1, p2, p3, p4⟩ := p104
        have e : 42 + 3 * (i + 1) = 42 + 3 * i + 1 + 1 + 1 := by omega
        have go := ih hlt M107 ?_ ?_ ?_ ?_
        · rw [e] at go; exact go
        · intro a ha; rw [hM107, mm_up_row (by omega), p1 a (by omega), hM97, mm_z_n (by omega)]; exact h1 a ha
        · intro a b a1 a2 a3 a4
          rw [hM107, mm_up_row a2]
          by_cases q : a < 42 + 3 * i
          · rw [p1 a q, hM97, mm_z_n (by omega)]; exact h2 a b a1 a2 q a4
          · rcases (show a = 42 + 3 * i ∨ a = 42 + 3 * i + 1 ∨ a = 42 + 3 * i + 1 + 1 by omega) with q | q | q
            · rw [q, p2 b]
              by_cases b0 : b = 0
              · rw [if_pos b0, b0, wr.1.2.2.2.2.1]; omega
              · by_cases b1 : b = 1
                · rw [if_neg b0, if_pos b1, b1, wr.1.2.2.2.2.2.1]; omega
                · rw [if_neg b0, if_neg b1, hM97, mm_z_0, mm_rt_row wr.1 (by omega)]
            · rw [q, p3 b, mm_rt_arr w1]
            · rw [q, mm_rt_arr w2]; exact p4 b
        · rw [hM107, mm_up_row (by decide), p1 21 (by omega), hM97, mm_z_n (by omega)]; exact hl
        · intro b
          by_cases q : b = i
          · rw [q, hM107, mm_up_s, if_pos (by omega)]; exact wr.2.symm
          · rw [hM107, mm_up_i q, p1 22 (by omega), hM97, mm_z_n (by omega), h3 b]
            by_cases w : b < i
            · rw [if_pos w, if_pos (by omega)]
            · rw [if_neg w, if_neg (by omega)]
    · have ei : i = 24 := by omega
      subst ei
      refine mm_iload_n dX3_init_83 rfl rfl ?_
      refine mm_aload_n dX3_init_84 rfl rfl ?_
      refine mm_getr dX3_init_85 rfl fl_X3_13 (c := 21) rfl (by omega) rfl rfl (rr) ?_
      refine mm_aln dX3_init_88 rfl (c := 22) rfl (by omega) rfl ?_
      refine mm_icge dX3_init_89 (by omega) (by omega) (fun h89 => ?_) (fun h89 => ?_)
      · refine mm_vret dX3_init_114 rfl rfl ?_
        refine ⟨rfl, ⟨h1, fun a b a1 a2 a3 => ?_⟩, hl⟩
        by_cases q : a = 22
        · rw [q, h3 b]
          by_cases w : b < 24
          · rw [if_pos w]
          · rw [if_neg w, mm_rt_no (List.range 24) (by decide +kernel) (by simp; omega)]
        · exact h2 a b a1 q (by omega) a3
      · exfalso; omega
  refine mm_aload_n dX3_init_0 rfl rfl ?_
  refine mm_oinit' (c := 21) dX3_init_1 rfl oi_X3_3 rfl rfl rfl ?_
  refine mm_aload_n dX3_init_4 rfl rfl ?_
  refine mm_bipush dX3_init_5 rfl (by decide) ?_
  refine mm_anew' (n := 22) dX3_init_7 rfl rfl rfl ck_X3_11 ⟨by decide, by decide, by decide +kernel, by decide +kernel, by decide +kernel⟩ (fun M7 hM7 => ?_)
  refine mm_putr' dX3_init_10 rfl fl_X3_13 (by first | exact Or.inl ⟨_, rfl⟩ | exact Or.inr ⟨_, rfl⟩) rfl fr_X3 (c := 21) rfl (by decide) rfl rfl (fun M10 hM10 => ?_)
  refine mm_aload_n dX3_init_13 rfl rfl ?_
  refine mm_bipush dX3_init_14 rfl (by decide) ?_
  refine mm_newarr' (n := 23) (t := 2) dX3_init_16 rfl rfl (by decide) rfl rfl ac_2 ⟨by decide, by decide, by decide +kernel, by decide +kernel, by decide +kernel⟩ (fun M16 hM16 => ?_)
  refine mm_putr' dX3_init_18 rfl fl_X3_19 (by first | exact Or.inl ⟨_, rfl⟩ | exact Or.inr ⟨_, rfl⟩) rfl fr_X3 (c := 21) rfl (by decide) rfl rfl (fun M18 hM18 => ?_)
  refine mm_aload_n dX3_init_21 rfl rfl ?_
  refine mm_bipush dX3_init_22 rfl (by decide) ?_
  refine mm_newarr' (n := 24) (t := 0) dX3_init_24 rfl rfl (by decide) rfl rfl ac_0 ⟨by decide, by decide, by decide +kernel, by decide +kernel, by decide +kernel⟩ (fun M24 hM24 => ?_)
  refine mm_putr' dX3_init_26 rfl fl_X3_23 (by first | exact Or.inl ⟨_, rfl⟩ | exact Or.inr ⟨_, rfl⟩) rfl fr_X3 (c := 21) rfl (by decide) rfl rfl (fun M26 hM26 => ?_)
  refine mm_aload_n dX3_init_29 rfl rfl ?_
  refine mm_bipush dX3_init_30 rfl (by decide) ?_
  refine mm_newarr' (n := 25) (t := 0) dX3_init_32 rfl rfl (by decide) rfl rfl ac_0 ⟨by decide, by decide, by decide +kernel, by decide +kernel, by decide +kernel⟩ (fun M32 hM32 => ?_)
  refine mm_putr' dX3_init_34 rfl fl_X3_27 (by first | exact Or.inl ⟨_, rfl⟩ | exact Or.inr ⟨_, rfl⟩) rfl fr_X3 (c := 21) rfl (by decide) rfl rfl (fun M34 hM34 => ?_)
  refine mm_aload_n dX3_init_37 rfl rfl ?_
  refine mm_bipush dX3_init_38 rfl (by decide) ?_
  refine mm_newarr' (n := 26) (t := 0) dX3_init_40 rfl rfl (by decide) rfl rfl ac_0 ⟨by decide, by decide, by decide +kernel, by decide +kernel, by decide +kernel⟩ (fun M40 hM40 => ?_)
  refine mm_putr' dX3_init_42 rfl fl_X3_30 (by first | exact Or.inl ⟨_, rfl⟩ | exact Or.inr ⟨_, rfl⟩) rfl fr_X3 (c := 21) rfl (by decide) rfl rfl (fun M42 hM42 => ?_)
  refine mm_aload_n dX3_init_45 rfl rfl ?_
  refine mm_bipush dX3_init_46 rfl (by decide) ?_
  refine mm_newarr' (n := 27) (t := 0) dX3_init_48 rfl rfl (by decide) rfl rfl ac_0 ⟨by decide, by decide, by decide +kernel, by decide +kernel, by decide +kernel⟩ (fun M48 hM48 => ?_)
  refine mm_putr' dX3_init_50 rfl fl_X3_33 (by first | exact Or.inl ⟨_, rfl⟩ | exact Or.inr ⟨_, rfl⟩) rfl fr_X3 (c := 21) rfl (by decide) rfl rfl (fun M50 hM50 => ?_)
  refine mm_aload_n dX3_init_53 rfl rfl ?_
  refine mm_iconst dX3_init_54 rfl ?_
  refine mm_puti dX3_init_55 rfl fl_X3_36 (c := 21) rfl (by decide) rfl rfl (fun M55 hM55 => ?_)
  refine mm_aload_n dX3_init_58 rfl rfl ?_
  refine mm_iconst dX3_init_59 rfl ?_
  refine mm_puti dX3_init_60 rfl fl_X3_40 (c := 21) rfl (by decide) rfl rfl (fun M60 hM60 => ?_)
  refine mm_aload_n dX3_init_63 rfl rfl ?_
  refine mm_aload_n dX3_init_64 rfl rfl ?_
  refine mm_putr' dX3_init_65 rfl fl_X3_43 (by first | exact Or.inl ⟨_, rfl⟩ | exact Or.inr ⟨_, rfl⟩) rfl fr_X3 (c := 21) rfl (by decide) rfl rfl (fun M65 hM65 => ?_)
  refine mm_aload_n dX3_init_68 rfl rfl ?_
  refine mm_new' (n := 28) dX3_init_69 rfl rfl nw_X3_47 ⟨by decide, by decide, by decide +kernel, by decide +kernel, by decide +kernel⟩ (fun M69 hM69 => ?_)
  refine mm_dup dX3_init_72 rfl (by simp) ?_
  refine mm_aload_n dX3_init_73 rfl rfl ?_
  refine mm_aload_n dX3_init_74 rfl rfl ?_
  refine mm_I2g (c := 28) (n := 29) (n' := 42) dX3_init_75 rfl li_X3_49 rfl ⟨by decide, by decide, by decide, by decide +kernel, by decide +kernel, by decide +kernel⟩ (by simp) (by simp) rfl rfl rfl (c_X6_init (by intro b; rw [hM69, mm_z_0])) ?_
  rintro _ N75 ⟨rfl, p75⟩
  change mm_J _ _ _ _ _ _ _ _ _ _
  refine mm_putr' dX3_init_78 rfl fl_X3_52 (by first | exact Or.inl ⟨_, rfl⟩ | exact Or.inr ⟨_, rfl⟩) rfl fr_X3 (c := 21) rfl (by decide) rfl rfl (fun M78 hM78 => ?_)
  refine mm_iconst dX3_init_81 rfl ?_
  refine mm_istore_n dX3_init_82 rfl (Nat.le_of_ble_eq_true rfl) rfl ?_
  obtain ⟨p1, p2⟩ := p75
  have m78 : ∀ a, a ≠ 21 → M78 a = N75 a := by intro a ha; rw [hM78, mm_up_row ha]
  have m69 : ∀ a, a < 21 → M69 a = M a := by
    intro a ha
    have e21 : a ≠ 21 := by omega
    have e22 : a ≠ 22 := by omega
    have e23 : a ≠ 23 := by omega
    have e24 : a ≠ 24 := by omega
    have e25 : a ≠ 25 := by omega
    have e26 : a ≠ 26 := by omega
    have e27 : a ≠ 27 := by omega
    have e28 : a ≠ 28 := by omega
    funext b; simp [hM69, hM65, hM60, hM55, hM50, hM48, hM42, hM40, hM34, hM32, hM26, hM24, hM18, hM16, hM10, hM7, mm_up, mm_z, e21, e22, e23, e24, e25, e26, e27, e28]
  have m21 : ∀ b, M78 21 b = if b = 1 then 29 else M69 21 b := by
    intro b
    by_cases q : b = 1
    · rw [if_pos q, q, hM78, mm_up_s]; rfl
    · rw [if_neg q, hM78, mm_up_i q, p1 21 (by omega)]
  refine loop 0 (Nat.zero_le _) _ ?_ ?_ ?_ ?_
  · intro a ha; rw [m78 a (by omega), p1 a (by omega)]; exact m69 a ha
  · intro a b a1 a2 a3 a4
    by_cases q28 : 28 ≤ a
    · rw [m78 a (by omega)]; exact p2 a b q28 (by omega) (fun z => z)
    · rcases (show a = 21 ∨ a = 23 ∨ a = 24 ∨ a = 25 ∨ a = 26 ∨ a = 27 by omega) with e | e | e | e | e | e
      · subst e
        rw [m21 b]
        by_cases q0 : b = 0
        · subst q0; simp [hM69, hM65, hM60, hM55, hM50, hM48, hM42, hM40, hM34, hM32, hM26, hM24, hM18, hM16, hM10, hM7, mm_up, mm_z]; rfl
        by_cases q1 : b = 1
        · subst q1; simp [hM69, hM65, hM60, hM55, hM50, hM48, hM42, hM40, hM34, hM32, hM26, hM24, hM18, hM16, hM10, hM7, mm_up, mm_z]; rfl
        by_cases q2 : b = 2
        · subst q2; simp [hM69, hM65, hM60, hM55, hM50, hM48, hM42, hM40, hM34, hM32, hM26, hM24, hM18, hM16, hM10, hM7, mm_up, mm_z]; rfl
        by_cases q3 : b = 3
        · subst q3; simp [hM69, hM65, hM60, hM55, hM50, hM48, hM42, hM40, hM34, hM32, hM26, hM24, hM18, hM16, hM10, hM7, mm_up, mm_z]; rfl
        by_cases q4 : b = 4
        · subst q4; simp [hM69, hM65, hM60, hM55, hM50, hM48, hM42, hM40, hM34, hM32, hM26, hM24, hM18, hM16, hM10, hM7, mm_up, mm_z]; rfl
        by_cases q5 : b = 5
        · subst q5; simp [hM69, hM65, hM60, hM55, hM50, hM48, hM42, hM40, hM34, hM32, hM26, hM24, hM18, hM16, hM10, hM7, mm_up, mm_z]; rfl
        by_cases q6 : b = 6
        · subst q6; simp [hM69, hM65, hM60, hM55, hM50, hM48, hM42, hM40, hM34, hM32, hM26, hM24, hM18, hM16, hM10, hM7, mm_up, mm_z]; rfl
        by_cases q7 : b = 7
        · subst q7; simp [hM69, hM65, hM60, hM55, hM50, hM48, hM42, hM40, hM34, hM32, hM26, hM24, hM18, hM16, hM10, hM7, mm_up, mm_z]; rfl
        by_cases q9 : b = 9
        · exact absurd ⟨rfl, q9⟩ a4
        rw [mm_rt_no [0, 1, 2, 3, 4, 5, 6, 7] (by decide +kernel) (by simp [q0, q1, q2, q3, q4, q5, q6, q7])]
        simp [hM69, hM65, hM60, hM55, hM50, hM48, hM42, hM40, hM34, hM32, hM26, hM24, hM18, hM16, hM10, hM7, mm_up, mm_z, q9, q0, q1, q2, q3, q4, q5, q6, q7]
        intro _; exact hz b
      · subst e; rw [mm_rt_ar (t := 2) rfl (by decide), m78 _ (by decide), p1 _ (by omega)]; simp [hM69, hM65, hM60, hM55, hM50, hM48, hM42, hM40, hM34, hM32, hM26, hM24, hM18, hM16, hM10, hM7, mm_up, mm_z]
      · subst e; rw [mm_rt_ar (t := 0) rfl (by decide), m78 _ (by decide), p1 _ (by omega)]; simp [hM69, hM65, hM60, hM55, hM50, hM48, hM42, hM40, hM34, hM32, hM26, hM24, hM18, hM16, hM10, hM7, mm_up, mm_z]
      · subst e; rw [mm_rt_ar (t := 0) rfl (by decide), m78 _ (by decide), p1 _ (by omega)]; simp [hM69, hM65, hM60, hM55, hM50, hM48, hM42, hM40, hM34, hM32, hM26, hM24, hM18, hM16, hM10, hM7, mm_up, mm_z]
      · subst e; rw [mm_rt_ar (t := 0) rfl (by decide), m78 _ (by decide), p1 _ (by omega)]; simp [hM69, hM65, hM60, hM55, hM50, hM48, hM42, hM40, hM34, hM32, hM26, hM24, hM18, hM16, hM10, hM7, mm_up, mm_z]
      · subst e; rw [mm_rt_ar (t := 0) rfl (by decide), m78 _ (by decide), p1 _ (by omega)]; simp [hM69, hM65, hM60, hM55, hM50, hM48, hM42, hM40, hM34, hM32, hM26, hM24, hM18, hM16, hM10, hM7, mm_up, mm_z]
  · rw [m21 9]; simp [hM69, hM65, hM60, hM55, hM50, hM48, hM42, hM40, hM34, hM32, hM26, hM24, hM18, hM16, hM10, hM7, mm_up, mm_z]
  · intro b; rw [m78 22 (by decide), p1 22 (by omega)]; simp [hM69, hM65, hM60, hM55, hM50, hM48, hM42, hM40, hM34, hM32, hM26, hM24, hM18, hM16, hM10, hM7, mm_up, mm_z]
end
end
/-! C6.nest -/
section
/-! ===== a constructor that the nest calls ===== -/
/-- a private constructor of another class of the nest -/
def mm_LIn (own : String) (idx : Nat) (Y' : mm_Y) (na : Nat) : Prop := ((∃ host, (own, idx, Y'.1, host) ∈ mm_nw) ∧ mm_Wk (mm_cw Y') ∧ plainName Y'.1.cls = true ∧ (Y'.1.cls ≠ "java/lang/invoke/MethodHandle" ∧ Y'.1.cls ≠ "java/lang/invoke/VarHandle") ∧ (parseMethodDescriptor Y'.1.desc).map (fun g => g.parameters.length) = some na) ∧ mm_Wk (.instanceMethod Y'.1) ∧ Y'.1.name = "<init>" ∧ Y'.2.2.2.1 = none ∧ Y'.2.2.2.2.2.2 = []
section
variable {X : mm_X} {Y Y' : mm_Y} {n0 n1 n n' pc q idx ci c i len na : Nat} {ls st stk as : List mm_V} {M : mm_M} {Φ Ψ : mm_V → mm_M → Prop} {x r : Int}
theorem mm_callIn (hd : mm_D Y.2.1 pc q (.invokespecial idx)) (hq : pc + 3 = q) (hw : mm_LIn Y.1.cls idx Y' na) (hr : r = (c : Int) + 1) (hna : as.length = na) (hst : stk = as.reverse ++ (2, r) :: st)
    (hn : mm_le n0 n n' n1) (h9 : ∀ v ∈ as, v.1 ≠ 9) (hpad : (mm_dbl ((2, r) :: as)).length ≤ Y'.2.2.1) (hfr : Y'.2.2.2.2.1 + 1 ≤ Y.2.2.2.2.1) (hlo : mm_wd st + (Y'.2.2.1 + 11) + Y'.2.2.2.2.2.1 ≤ Y.2.2.2.2.2.1)
    (hC : mm_C X Y' n n' ((2, r) :: as) M Ψ) (hk : ∀ r M', Ψ r M' → mm_Kc X Y n0 n1 n' q ls st Φ r M') : mm_J X Y n0 n1 n pc ls stk M Φ := by
  subst hst
  intro p l e R s m args below meth cd D cA bs ro H locs lsr Cx hP hS hL
  obtain ⟨hx, hb, -, hml, hown, hT, -, -, -, -, -, -, -, hK, hRo, -⟩ := id Cx
  obtain ⟨⟨⟨host, w1⟩, w2, w3, w4, w5⟩, w6, w7, w8, w9⟩ := hw
  have h9' : ∀ v ∈ (2, r) :: as, v.1 ≠ 9 := by
    intro v hv
    rcases List.mem_cons.mp hv with rfl | hv
    · show (2 : Nat) ≠ 9
      decide
    · exact h9 v hv
  have hd3 : decode Y.2.1 pc = .ok (.invokespecial idx, 3) := by
    have := hd.1
    rw [← hq] at this
    simpa using this
  have hcode : (Jvm.Cond.code Y'.1 Y'.2.1 Y'.2.2.1 none).before args s = true := by
    have := hT.at w2
    unfold mm_cw at this
    rw [w9, w8] at this
    exact this
  refine mm_callx (ig := .invokespecial idx) Cx hP hS hL hn w3 h9' hpad (hT.at w2) w2.2 hfr hlo hd3 hq ?_ hC hk
  intro T hTH X0
  have hpl : e.platform.magicAccessors = ({} : Platform).magicAccessors := by rw [X0.admits.platform]
  obtain ⟨mk, methM, cM, kP, vm₁, hnamed, hmethM, hcodeM, -, hlocalsM, -, hkP, -, hW₁, hstep₁⟩ := Steps.initColdArgsNest (tb := p.tables) (e := e) X0.here hx X0.warmed hpl hown w7 w4 (va_Nw.use rfl (hRo.2.2.2.2.1 _ w1)) (hT.at w6) hcode (f := F0 m pc lsr ((as.reverse ++ (2, r) :: st).map (mm_v bs ro))) rfl (a := bs + c) (argsL := as.map (mm_v bs ro)) (rest := st.map (mm_v bs ro)) (fun sig h => by rw [List.length_map, hna]; exact mm_lenOf w5 h)
    (by rw [List.map_append, List.map_cons, List.map_reverse, hr, mm_v2]) (by rw [hb]; exact hd3)
  refine ⟨vm₁, mk, X0.noted hW₁, hnamed, fun target h => hstep₁ target (fun acts => ?_)⟩
  have := h acts
  rw [List.map_cons, hr, mm_v2] at this
  exact this
theorem mm_I0n (hd : mm_D Y.2.1 pc q (.invokespecial idx)) (hq : pc + 3 = q) (hw : mm_LIn Y.1.cls idx Y' 0) (hr : r = (c : Int) + 1) (hn : mm_le n0 n n' n1) (hpad : Nat.ble (mm_dbl [(2, r)]).length Y'.2.2.1 = true) (hfr : Nat.ble (Y'.2.2.2.2.1 + 1) Y.2.2.2.2.1 = true) (hlo : Nat.ble (mm_wd st + (Y'.2.2.1 + 11) + Y'.2.2.2.2.2.1) Y.2.2.2.2.2.1 = true)
    (hC : mm_C X Y' n n' [(2, r)] M Ψ) (k : ∀ r M1, Ψ r M1 → mm_Kc X Y n0 n1 n' q ls st Φ r M1) : mm_J X Y n0 n1 n pc ls ((2, r) :: st) M Φ :=
  mm_callIn hd hq hw hr (as := []) rfl rfl hn (by simp) (Nat.le_of_ble_eq_true hpad) (Nat.le_of_ble_eq_true hfr) (Nat.le_of_ble_eq_true hlo) hC k
end
theorem ln_X11_9 : mm_LIn RX11 9 Y_X10_init 0 := ⟨⟨⟨"KitePower", by decide +kernel⟩, cw_X10_init, by decide +kernel, ⟨by decide +kernel, by decide +kernel⟩, by decide +kernel⟩, mm_w1 0 36 rfl rfl, rfl, rfl, rfl⟩
end
/-! D0.stop -/
section
/-! ===== constructors: the thing that is thrown ===== -/
abbrev cE_init : ByteArray := prog_16_method_5_code
abbrev cT_init : ByteArray := prog_23_method_5_code
def yE_init : MethodName := ⟨"java/lang/Exception", "<init>", "(Ljava/lang/String;Ljava/lang/Throwable;ZZ)V"⟩
def yT_init : MethodName := ⟨"java/lang/Throwable", "<init>", "(Ljava/lang/String;Ljava/lang/Throwable;ZZ)V"⟩
def Y_T_init : mm_Y := (yT_init, cT_init, 5, none, 1, 20, [])
def Y_E_init : mm_Y := (yE_init, cE_init, 5, none, 2, 50, [])
/-- the constructor of Stop, with the room that it needs -/
def Y_S_init : mm_Y := (yX12_init, cX12_init, 1, none, 3, 80, [])
theorem cw_T_init : mm_Wk (mm_cw Y_T_init) := mm_w1 5 163 rfl rfl
theorem cw_E_init : mm_Wk (mm_cw Y_E_init) := mm_w1 5 160 rfl rfl
theorem cw_S_init : mm_Wk (mm_cw Y_S_init) := mm_w1 5 157 rfl rfl
theorem in_X12 : ∀ w ∈ u_ws RX12 TX12 6, mm_Wk w := mm_inw [1327, 1329, 1331, 1333, 1335, 1373] (by decide +kernel) (by decide +kernel)
theorem cl_X12 : mm_Cl 12 RX12 TX12 6 tyX12 := ⟨rfl, rfl, in_X12, tyX12_ok, nmX12⟩
theorem dv_X12 : ∀ i, i < 6 → defaultValue (tyX12 i) = mm_dv (mm_fk 12 i) := by
  intro i hi
  match i, hi with
  | 0, _ => rfl
  | 1, _ => rfl
  | 2, _ => rfl
  | 3, _ => rfl
  | 4, _ => rfl
  | 5, _ => rfl
  | k + 6, h => exact absurd h (by omega)
theorem fl_T_7 : mm_F "java/lang/Throwable" 7 12 0 false (.object "java/lang/Throwable") := ⟨RX12, TX12, 6, tyX12, cl_X12, by decide, mm_w1 5 166 rfl rfl, rfl, rfl⟩
theorem fl_T_17 : mm_F "java/lang/Throwable" 17 12 1 false (.array (.object "java/lang/StackTraceElement")) := ⟨RX12, TX12, 6, tyX12, cl_X12, by decide, mm_w1 5 167 rfl rfl, rfl, rfl⟩
theorem fl_T_24 : mm_F "java/lang/Throwable" 24 12 2 false (.object "java/util/List") := ⟨RX12, TX12, 6, tyX12, cl_X12, by decide, mm_w1 5 168 rfl rfl, rfl, rfl⟩
theorem fl_T_31 : mm_F "java/lang/Throwable" 31 12 3 false (.object "java/lang/String") := ⟨RX12, TX12, 6, tyX12, cl_X12, by decide, mm_w1 5 165 rfl rfl, rfl, rfl⟩
theorem oi_T_1 : mm_OiP "java/lang/Throwable" 1 := ⟨mm_w1 5 141 rfl rfl, mm_w1 0 31 rfl rfl, mm_w1 0 32 rfl rfl⟩
theorem li_S_1 : mm_LI RX12 1 Y_E_init 4 := ⟨⟨mm_w1 5 158 rfl rfl, cw_E_init, by decide +kernel, ⟨by decide +kernel, by decide +kernel⟩, by decide +kernel⟩, mm_w1 5 159 rfl rfl, rfl, rfl, rfl⟩
theorem li_E_16 : mm_LI "java/lang/Exception" 16 Y_T_init 4 := ⟨⟨mm_w1 5 161 rfl rfl, cw_T_init, by decide +kernel, ⟨by decide +kernel, by decide +kernel⟩, by decide +kernel⟩, mm_w1 5 162 rfl rfl, rfl, rfl, rfl⟩
theorem li_X13_S : mm_LI RX13 239 Y_S_init 0 := ⟨⟨mm_w1 5 155 rfl rfl, cw_S_init, by decide +kernel, ⟨by decide +kernel, by decide +kernel⟩, by decide +kernel⟩, mm_w1 5 156 rfl rfl, rfl, rfl, rfl⟩
theorem nw_X13_237 : mm_NwP RX13 237 12 := ⟨RX12, TX12, 6, tyX12, cl_X12, mm_w1 5 118 rfl rfl, mm_w1 5 119 rfl rfl, mm_w1 0 19 rfl rfl, dv_X12⟩
theorem dT_0 : mm_D cT_init 0 1 (.aload_n 0) := by decide +kernel
theorem dT_1 : mm_D cT_init 1 4 (.invokespecial 1) := by decide +kernel
theorem dT_4 : mm_D cT_init 4 5 (.aload_n 0) := by decide +kernel
theorem dT_5 : mm_D cT_init 5 6 (.aload_n 0) := by decide +kernel
theorem dT_6 : mm_D cT_init 6 9 (.putfield 7) := by decide +kernel
theorem dT_9 : mm_D cT_init 9 10 (.aload_n 0) := by decide +kernel
theorem dT_10 : mm_D cT_init 10 13 (.getstatic 13) := by decide +kernel
theorem dT_13 : mm_D cT_init 13 16 (.putfield 17) := by decide +kernel
theorem dT_16 : mm_D cT_init 16 17 (.aload_n 0) := by decide +kernel
theorem dT_17 : mm_D cT_init 17 20 (.getstatic 20) := by decide +kernel
theorem dT_20 : mm_D cT_init 20 23 (.putfield 24) := by decide +kernel
theorem dT_23 : mm_D cT_init 23 25 (.iload 4) := by decide +kernel
theorem dT_25 : mm_Bz cT_init 25 28 36 .eq := by decide +kernel
theorem dT_36 : mm_D cT_init 36 37 (.aload_n 0) := by decide +kernel
theorem dT_37 : mm_D cT_init 37 38 (.aconst_null) := by decide +kernel
theorem dT_38 : mm_D cT_init 38 41 (.putfield 17) := by decide +kernel
theorem dT_41 : mm_D cT_init 41 42 (.aload_n 0) := by decide +kernel
theorem dT_42 : mm_D cT_init 42 43 (.aload_n 1) := by decide +kernel
theorem dT_43 : mm_D cT_init 43 46 (.putfield 31) := by decide +kernel
theorem dT_46 : mm_D cT_init 46 47 (.aload_n 0) := by decide +kernel
theorem dT_47 : mm_D cT_init 47 48 (.aload_n 2) := by decide +kernel
theorem dT_48 : mm_D cT_init 48 51 (.putfield 7) := by decide +kernel
theorem dT_51 : mm_D cT_init 51 52 (.iload_n 3) := by decide +kernel
theorem dT_52 : mm_Bz cT_init 52 55 60 .ne := by decide +kernel
theorem dT_55 : mm_D cT_init 55 56 (.aload_n 0) := by decide +kernel
theorem dT_56 : mm_D cT_init 56 57 (.aconst_null) := by decide +kernel
theorem dT_57 : mm_D cT_init 57 60 (.putfield 24) := by decide +kernel
theorem dT_60 : mm_D cT_init 60 61 (.return_) := by decide +kernel
theorem dE_0 : mm_D cE_init 0 1 (.aload_n 0) := by decide +kernel
theorem dE_1 : mm_D cE_init 1 2 (.aload_n 1) := by decide +kernel
theorem dE_2 : mm_D cE_init 2 3 (.aload_n 2) := by decide +kernel
theorem dE_3 : mm_D cE_init 3 4 (.iload_n 3) := by decide +kernel
theorem dE_4 : mm_D cE_init 4 6 (.iload 4) := by decide +kernel
theorem dE_6 : mm_D cE_init 6 9 (.invokespecial 16) := by decide +kernel
theorem dE_9 : mm_D cE_init 9 10 (.return_) := by decide +kernel
section
variable {X : mm_X} {Y Y' : mm_Y} {n0 n1 n n' pc q idx ci c i : Nat} {ls st : List mm_V} {M : mm_M} {Φ Ψ : mm_V → mm_M → Prop} {x r : Int} {a1 a2 a3 a4 : mm_V}
theorem mm_putq {ty : FieldType} (hd : mm_D Y.2.1 pc q (.putfield idx)) (hq : pc + 3 = q) (hf : mm_F Y.1.cls idx ci i false ty) (hty : (∃ n, ty = .object n) ∨ ∃ t, ty = .array t) (hr : r = (c : Int) + 1) (hc : c < n) (hs : mm_sh c = (0, ci)) (hk : mm_fk ci i = 2)
    (k : ∀ M', M' = mm_up M c i x → mm_J X Y n0 n1 n q ls st M' Φ) : mm_J X Y n0 n1 n pc ls ((2, x) :: (2, r) :: st) M Φ :=
  mm_put (kd := 2) hd hq hf hr hc hs hk (fun _ _ => mm_v2nf hty x) (k _ rfl)
theorem mm_I4g (hd : mm_D Y.2.1 pc q (.invokespecial idx)) (hq : pc + 3 = q) (hw : mm_LI Y.1.cls idx Y' 4) (hr : r = (c : Int) + 1) (hn : mm_le n0 n n' n1) (h1 : a1.1 ≠ 9) (h2 : a2.1 ≠ 9) (h3 : a3.1 ≠ 9) (h4 : a4.1 ≠ 9) (hpad : Nat.ble (mm_dbl [(2, r), a1, a2, a3, a4]).length Y'.2.2.1 = true) (hfr : Nat.ble (Y'.2.2.2.2.1 + 1) Y.2.2.2.2.1 = true) (hlo : Nat.ble (mm_wd st + (Y'.2.2.1 + 11) + Y'.2.2.2.2.2.1) Y.2.2.2.2.2.1 = true)
    (hC : mm_C X Y' n n' [(2, r), a1, a2, a3, a4] M Ψ) (k : ∀ r M1, Ψ r M1 → mm_Kc X Y n0 n1 n' q ls st Φ r M1) : mm_J X Y n0 n1 n pc ls (a4 :: a3 :: a2 :: a1 :: (2, r) :: st) M Φ :=
  mm_callI hd hq hw hr (as := [a1, a2, a3, a4]) rfl rfl hn (by intro v hv; simp at hv; rcases hv with rfl | rfl | rfl | rfl; exact h1; exact h2; exact h3; exact h4) (Nat.le_of_ble_eq_true hpad) (Nat.le_of_ble_eq_true hfr) (Nat.le_of_ble_eq_true hlo) hC k
end
section
variable {X : mm_X} {M : mm_M}
/-- nothing is changed but the thrown thing, and nothing is in it -/
def kx_T (M M' : mm_M) : Prop := (∀ a, a ≠ 184 → M' a = M a) ∧ ∀ b, M' 184 b = 0
theorem c_T_init (hz : ∀ b, M 184 b = 0) : mm_C X Y_T_init 185 185 [(2, 185), (2, 0), (2, 0), (0, 0), (0, 0)] M (fun r M' => r = (3, 0) ∧ kx_T M M') := by
  refine mm_start (ls := [(2, 185), (2, 0), (2, 0), (0, 0), (0, 0)]) rfl ?_
  refine mm_aload_n dT_0 rfl rfl ?_
  refine mm_oinit' (c := 184) dT_1 rfl oi_T_1 rfl rfl rfl ?_
  refine mm_aload_n dT_4 rfl rfl ?_
  refine mm_aload_n dT_5 rfl rfl ?_
  refine mm_putq dT_6 rfl fl_T_7 (Or.inl ⟨_, rfl⟩) (c := 184) rfl (by decide) rfl rfl (fun M6 hM6 => ?_)
  refine mm_aload_n dT_9 rfl rfl ?_
  refine mm_gzq (j0 := 2) dT_10 rfl (by decide) (mm_w1 5 142 rfl rfl) (fun r10 => ?_)
  refine mm_putq dT_13 rfl fl_T_17 (Or.inr ⟨_, rfl⟩) (c := 184) rfl (by decide) rfl rfl (fun M13 hM13 => ?_)
  refine mm_aload_n dT_16 rfl rfl ?_
  refine mm_gzq (j0 := 1) dT_17 rfl (by decide) (mm_w1 5 144 rfl rfl) (fun r17 => ?_)
  refine mm_putq dT_20 rfl fl_T_24 (Or.inl ⟨_, rfl⟩) (c := 184) rfl (by decide) rfl rfl (fun M20 hM20 => ?_)
  refine mm_iload dT_23 rfl rfl ?_
  refine mm_ifeq dT_25 (by unfold mm_R; omega) (fun _ => ?_) (fun h => absurd rfl h)
  refine mm_aload_n dT_36 rfl rfl ?_
  refine mm_null dT_37 rfl ?_
  refine mm_putq dT_38 rfl fl_T_17 (Or.inr ⟨_, rfl⟩) (c := 184) rfl (by decide) rfl rfl (fun M38 hM38 => ?_)
  refine mm_aload_n dT_41 rfl rfl ?_
  refine mm_aload_n dT_42 rfl rfl ?_
  refine mm_putq dT_43 rfl fl_T_31 (Or.inl ⟨_, rfl⟩) (c := 184) rfl (by decide) rfl rfl (fun M43 hM43 => ?_)
  refine mm_aload_n dT_46 rfl rfl ?_
  refine mm_aload_n dT_47 rfl rfl ?_
  refine mm_putq dT_48 rfl fl_T_7 (Or.inl ⟨_, rfl⟩) (c := 184) rfl (by decide) rfl rfl (fun M48 hM48 => ?_)
  refine mm_iload_n dT_51 rfl rfl ?_
  refine mm_ifne dT_52 (by unfold mm_R; omega) (fun h => absurd rfl h) (fun _ => ?_)
  refine mm_aload_n dT_55 rfl rfl ?_
  refine mm_null dT_56 rfl ?_
  refine mm_putq dT_57 rfl fl_T_24 (Or.inl ⟨_, rfl⟩) (c := 184) rfl (by decide) rfl rfl (fun M57 hM57 => ?_)
  refine mm_vret dT_60 rfl rfl ?_
  refine ⟨rfl, ?_, ?_⟩
  · intro a ha
    rw [hM57, mm_up_row ha, hM48, mm_up_row ha, hM43, mm_up_row ha, hM38, mm_up_row ha, hM20, mm_up_row ha, hM13, mm_up_row ha, hM6, mm_up_row ha]
  · intro b
    by_cases q0 : b = 0
    · subst q0; rw [hM57, mm_up_i (by decide), hM48, mm_up_s]
    by_cases q1 : b = 1
    · subst q1; rw [hM57, mm_up_i (by decide), hM48, mm_up_i (by decide), hM43, mm_up_i (by decide), hM38, mm_up_s]
    by_cases q2 : b = 2
    · subst q2; rw [hM57, mm_up_s]
    by_cases q3 : b = 3
    · subst q3; rw [hM57, mm_up_i (by decide), hM48, mm_up_i (by decide), hM43, mm_up_s]
    rw [hM57, mm_up_i q2, hM48, mm_up_i q0, hM43, mm_up_i q3, hM38, mm_up_i q1, hM20, mm_up_i q2, hM13, mm_up_i q1, hM6, mm_up_i q0]
    exact hz b
theorem c_E_init (hz : ∀ b, M 184 b = 0) : mm_C X Y_E_init 185 185 [(2, 185), (2, 0), (2, 0), (0, 0), (0, 0)] M (fun r M' => r = (3, 0) ∧ kx_T M M') := by
  refine mm_start (ls := [(2, 185), (2, 0), (2, 0), (0, 0), (0, 0)]) rfl ?_
  refine mm_aload_n dE_0 rfl rfl ?_
  refine mm_aload_n dE_1 rfl rfl ?_
  refine mm_aload_n dE_2 rfl rfl ?_
  refine mm_iload_n dE_3 rfl rfl ?_
  refine mm_iload dE_4 rfl rfl ?_
  refine mm_I4g (c := 184) (n := 185) (n' := 185) dE_6 rfl li_E_16 rfl ⟨by decide, by decide, by decide, by decide +kernel, by decide +kernel, by decide +kernel⟩ (by simp) (by simp) (by simp) (by simp) rfl rfl rfl (c_T_init hz) ?_
  rintro _ N6 ⟨rfl, p6⟩
  change mm_J _ _ _ _ _ _ _ _ _ _
  refine mm_vret dE_9 rfl rfl ?_
  exact ⟨rfl, p6⟩
theorem c_S_init (hz : ∀ b, M 184 b = 0) : mm_C X Y_S_init 185 185 [(2, 185)] M (fun r M' => r = (3, 0) ∧ kx_T M M') := by
  refine mm_start (ls := [(2, 185)]) rfl ?_
  refine mm_aload_n dX12_init_0 rfl rfl ?_
  refine mm_null dX12_init_1 rfl ?_
  refine mm_null dX12_init_2 rfl ?_
  refine mm_iconst dX12_init_3 rfl ?_
  refine mm_iconst dX12_init_4 rfl ?_
  refine mm_I4g (c := 184) (n := 185) (n' := 185) dX12_init_5 rfl li_S_1 rfl ⟨by decide, by decide, by decide, by decide +kernel, by decide +kernel, by decide +kernel⟩ (by simp) (by simp) (by simp) (by simp) rfl rfl rfl (c_E_init hz) ?_
  rintro _ N6 ⟨rfl, p6⟩
  change mm_J _ _ _ _ _ _ _ _ _ _
  refine mm_vret dX12_init_8 rfl rfl ?_
  exact ⟨rfl, p6⟩
end
end
/-! D1.ctor6 -/
section
/-! ===== constructors: the class ===== -/
/-- the class as its constructor leaves it -/
def kx_C0 (M : mm_M) : Prop := (∀ c i, c < 183 → mm_rt c i ≠ 0 → M c i = mm_rt c i) ∧ (mm_CK M ∧ (∀ b, b < 36 → M 4 b = kp_D0 (fun _ => 0) b) ∧ M 5 = kp_D0 (fun _ => 0)) ∧ (∀ b, b < 120 → M 16 b = 10) ∧ (∀ b, b < 120 → M 17 b = 10) ∧ (∀ b, b < 24 → M 173 b = 9999) ∧ M 21 9 = -1 ∧ M 1 3 = -1 ∧ M 0 14 = 10 ∧
  ∀ a b, a < 183 → ¬ (3 ≤ a ∧ a ≤ 10) → ¬ (a = 16 ∧ b < 120) → ¬ (a = 17 ∧ b < 120) → ¬ (a = 173 ∧ b < 24) → ¬ (a = 21 ∧ b = 9) → ¬ (a = 1 ∧ b = 3) → ¬ (a = 0 ∧ b = 14) → M a b = mm_rt a b
theorem kx_k10 : ∀ c : Nat, 3 < c → c ≤ 10 → ∀ i, mm_rt c i = 0 := by
  intro c h1 h2 i
  rcases (show c = 4 ∨ c = 5 ∨ c = 6 ∨ c = 7 ∨ c = 8 ∨ c = 9 ∨ c = 10 by omega) with e | e | e | e | e | e | e <;> (subst e; exact mm_rt_ar (t := 0) rfl (by decide))
theorem kx_rf3 {M : mm_M} (h : kc_rf M) : ∀ i, mm_rt 3 i ≠ 0 → M 3 i = mm_rt 3 i := by
  intro i hi
  obtain ⟨a0, a1, a3, a4, a5, a6, a7⟩ := h
  by_cases q : ([0, 1, 3, 4, 5, 6, 7] : List Nat).contains i = true
  · simp at q
    rcases q with q | q | q | q | q | q | q <;> subst q
    · exact a0.trans rfl
    · exact a1.trans rfl
    · exact a3.trans rfl
    · exact a4.trans rfl
    · exact a5.trans rfl
    · exact a6.trans rfl
    · exact a7.trans rfl
  · exact absurd (mm_rt_no [0, 1, 3, 4, 5, 6, 7] (by decide +kernel) q) hi
theorem kx_row8 {M N : mm_M} {c len : Nat} (w : mm_rw c len) (w1 : mm_sh (c + 1) = (1, len)) (w2 : mm_sh (c + 1 + 1) = (1, len)) (p2 : ∀ b, N c b = if b = 0 then (c : Int) + 2 else if b = 1 then (c : Int) + 3 else M c b) (hz : ∀ b, M c b = 0) (p3 : ∀ b, N (c + 1) b = 0) (p4 : ∀ b, N (c + 2) b = 0) : ∀ a b, c ≤ a → a < c + 3 → N a b = mm_rt a b := by
  intro a b h1 h2
  rcases (show a = c ∨ a = c + 1 ∨ a = c + 1 + 1 by omega) with q | q | q
  · rw [q, p2 b]
    by_cases b0 : b = 0
    · rw [if_pos b0, b0, w.2.2.2.2.1]; omega
    · by_cases b1 : b = 1
      · rw [if_neg b0, if_pos b1, b1, w.2.2.2.2.2.1]; omega
      · rw [if_neg b0, if_neg b1, hz b, mm_rt_row w (by omega)]
  · rw [q, p3 b, mm_rt_arr w1]
  · rw [q, mm_rt_arr w2]; exact p4 b
/-- the first object while it is built: so many cells, so many fields -/
def kx_O (N : mm_M) (k : Nat) : Prop := (∀ b, b < k → N 0 b = mm_rt 0 b) ∧ ∀ b, k ≤ b → N 0 b = 0
theorem kx_O.put {N P : mm_M} {k : Nat} {v : Int} (h : kx_O N k) (hP : P 0 = N 0) (hv : v = mm_rt 0 k) : kx_O (mm_up P 0 k v) (k + 1) := by
  refine ⟨fun b hb => ?_, fun b hb => ?_⟩
  · by_cases q : b = k
    · rw [q, mm_up_s, hv]
    · rw [mm_up_i q, hP]; exact h.1 b (by omega)
  · rw [mm_up_i (by omega), hP]; exact h.2 b (by omega)
theorem kx_ck {M N : mm_M} (h : ∀ a, 3 ≤ a → a ≤ 10 → N a = M a) (hc : mm_CK M) : mm_CK N := by
  unfold mm_CK at hc ⊢
  rw [h 3 (by omega) (by omega), h 4 (by omega) (by omega), h 6 (by omega) (by omega), h 7 (by omega) (by omega), h 8 (by omega) (by omega), h 9 (by omega) (by omega), h 10 (by omega) (by omega)]
  exact hc
/-- the kite, untold -/
def kx_K0 (M : mm_M) : Prop := kc_rf M ∧ mm_CK M ∧ (∀ b, b < 36 → M 4 b = kp_D0 (fun _ => 0) b) ∧ M 5 = kp_D0 (fun _ => 0)
theorem kx_K0.fr {M N : mm_M} (h : ∀ a, 3 ≤ a → a ≤ 10 → N a = M a) (hc : kx_K0 M) : kx_K0 N := by
  obtain ⟨h1, h2, h3, h4⟩ := hc
  refine ⟨?_, kx_ck h h2, ?_, ?_⟩
  · unfold kc_rf at h1 ⊢
    rw [h 3 (by omega) (by omega)]
    exact h1
  · rw [h 4 (by omega) (by omega)]; exact h3
  · rw [h 5 (by omega) (by omega)]; exact h4
/-- what is not as the layout has it -/
def kx_E (a b : Nat) : Prop := (3 ≤ a ∧ a ≤ 10) ∨ (a = 16 ∧ b < 120) ∨ (a = 17 ∧ b < 120) ∨ (a = 173 ∧ b < 24) ∨ (a = 21 ∧ b = 9) ∨ (a = 1 ∧ b = 3) ∨ (a = 0 ∧ b = 14)
theorem kx_mk {M : mm_M} (hK : kx_K0 M) (h16 : ∀ b, b < 120 → M 16 b = 10) (h17 : ∀ b, b < 120 → M 17 b = 10) (h173 : ∀ b, b < 24 → M 173 b = 9999) (h21 : M 21 9 = -1) (h1 : M 1 3 = -1) (h0 : M 0 14 = 10) (hg : ∀ a b, a < 183 → ¬ kx_E a b → M a b = mm_rt a b) : kx_C0 M := by
  refine ⟨?_, ⟨hK.2.1, hK.2.2.1, hK.2.2.2⟩, h16, h17, h173, h21, h1, h0, ?_⟩
  · intro c i hc hne
    by_cases q : kx_E c i
    · rcases q with q | q | q | q | q | q | q
      · by_cases e : c = 3
        · subst e; exact kx_rf3 hK.1 i hne
        · exact absurd (kx_k10 c (by omega) q.2 i) hne
      · exact absurd (by rw [q.1]; exact mm_rt_ar (t := 0) rfl (by decide)) hne
      · exact absurd (by rw [q.1]; exact mm_rt_ar (t := 0) rfl (by decide)) hne
      · exact absurd (by rw [q.1]; exact mm_rt_ar (t := 0) rfl (by decide)) hne
      · exact absurd (by rw [q.1, q.2]; rfl) hne
      · exact absurd (by rw [q.1, q.2]; rfl) hne
      · exact absurd (by rw [q.1, q.2]; rfl) hne
    · exact hg c i hc q
  · intro a b ha a1 a2 a3 a4 a5 a6 a7
    exact hg a b ha (fun z => z.elim a1 (fun z => z.elim a2 (fun z => z.elim a3 (fun z => z.elim a4 (fun z => z.elim a5 (fun z => z.elim a6 a7))))))
/-- half way: the rows are to be made -/
def kx_H (N : mm_M) : Prop := kx_O N 8 ∧ kx_K0 N ∧ (∀ b, b < 120 → N 16 b = 10) ∧ (∀ b, b < 120 → N 17 b = 10) ∧ N 21 9 = -1 ∧ N 1 3 = -1 ∧ ∀ a b, 0 < a → a < 120 → ¬ kx_E a b → N a b = mm_rt a b
section
variable {X : mm_X} {M : mm_M}
theorem kx_keptrows : ∀ i : Nat, i < 6 → mm_sh (121 + 3 * i) = (0, 8) ∧ mm_sh (121 + 3 * i + 1) = (1, 100) ∧ mm_sh (121 + 3 * i + 1 + 1) = (1, 100) ∧ mm_sz (121 + 3 * i + 1) = mm_sz (121 + 3 * i) + mm_nf 8 ∧ mm_sz (121 + 3 * i + 1 + 1) = mm_sz (121 + 3 * i + 1) + 100 ∧ mm_sz (121 + 3 * i + 1 + 1 + 1) = mm_sz (121 + 3 * i + 1 + 1) + 100 ∧ mm_sz 1 ≤ mm_sz (121 + 3 * i) ∧ mm_sz (121 + 3 * i + 1 + 1 + 1) ≤ mm_sz 183 ∧ mm_sz (121 + 3 * i) ≤ mm_sz (121 + 3 * i + 1) ∧ mm_sz (121 + 3 * i + 1) ≤ mm_sz (121 + 3 * i + 1 + 1 + 1) := by decide +kernel
theorem kx_tail (N : mm_M) (hH : kx_H N) (h120 : ∀ b, N 120 b = mm_rt 120 b) (hr : ∀ a b, 121 ≤ a → a < 139 → N a b = mm_rt a b) :
    mm_J X Y_X11_init 1 183 139 140 [(2, 1), (0, 6)] [] N (fun r M' => r = (3, 0) ∧ kx_C0 M') := by
  obtain ⟨O, hK, h16, h17, h21, h1, hg⟩ := hH
  refine mm_aload_n dX11_init_140 rfl rfl ?_
  refine mm_new' (n := 139) dX11_init_141 rfl rfl nw_X11_64 ⟨by decide, by decide, by decide +kernel, by decide +kernel, by decide +kernel⟩ (fun M141 hM141 => ?_)
  refine mm_dup dX11_init_144 rfl (by simp) ?_
  have r1 : M141 0 1 = 4 := by rw [hM141, mm_z_n (by decide)]; exact O.1 1 (by decide)
  have r2 : M141 0 2 = 12 := by rw [hM141, mm_z_n (by decide)]; exact O.1 2 (by decide)
  have r3 : M141 0 3 = 19 := by rw [hM141, mm_z_n (by decide)]; exact O.1 3 (by decide)
  refine mm_aload_n dX11_init_145 rfl rfl ?_
  refine mm_getr dX11_init_146 rfl fl_X11_19 (c := 0) rfl (by decide) rfl rfl (r1) ?_
  refine mm_aload_n dX11_init_149 rfl rfl ?_
  refine mm_getr dX11_init_150 rfl fl_X11_28 (c := 0) rfl (by decide) rfl rfl (r2) ?_
  refine mm_aload_n dX11_init_153 rfl rfl ?_
  refine mm_getr dX11_init_154 rfl fl_X11_35 (c := 0) rfl (by decide) rfl rfl (r3) ?_
  refine mm_I3g (c := 139) (n := 140) (n' := 144) dX11_init_157 rfl li_X11_66 rfl ⟨by decide, by decide, by decide, by decide +kernel, by decide +kernel, by decide +kernel⟩ (by simp) (by simp) (by simp) rfl rfl rfl (c_X2_init (by intro b; rw [hM141, mm_z_0])) ?_
  rintro _ N157 ⟨rfl, p157⟩
  change mm_J _ _ _ _ _ _ _ _ _ _
  refine mm_putr' dX11_init_160 rfl fl_X11_69 (by first | exact Or.inl ⟨_, rfl⟩ | exact Or.inr ⟨_, rfl⟩) rfl fr_X11 (c := 0) rfl (by decide) rfl rfl (fun M160 hM160 => ?_)
  have u160 : ∀ a, 0 < a → a < 139 → M160 a = N a := fun a a0 ha => by rw [hM160, mm_up_row (by omega), p157.1 a ha, hM141, mm_z_n (by omega)]
  have O160 : kx_O M160 9 := by rw [hM160]; exact O.put ((p157.1 0 (by decide)).trans (by rw [hM141, mm_z_n (by decide)])) rfl
  refine mm_aload_n dX11_init_163 rfl rfl ?_
  refine mm_new' (n := 144) dX11_init_164 rfl rfl nw_X11_73 ⟨by decide, by decide, by decide +kernel, by decide +kernel, by decide +kernel⟩ (fun M164 hM164 => ?_)
  refine mm_dup dX11_init_167 rfl (by simp) ?_
  have r1 : M164 0 1 = 4 := by rw [hM164, mm_z_n (by decide)]; exact O160.1 1 (by decide)
  refine mm_aload_n dX11_init_168 rfl rfl ?_
  refine mm_getr dX11_init_169 rfl fl_X11_19 (c := 0) rfl (by decide) rfl rfl (r1) ?_
  refine mm_I1g (c := 144) (n := 145) (n' := 172) dX11_init_172 rfl li_X11_75 rfl ⟨by decide, by decide, by decide, by decide +kernel, by decide +kernel, by decide +kernel⟩ (by simp) rfl rfl rfl (c_X1_init (by intro b; rw [hM164, mm_z_0])) ?_
  rintro _ N172 ⟨rfl, p172⟩
  change mm_J _ _ _ _ _ _ _ _ _ _
  refine mm_putr' dX11_init_175 rfl fl_X11_76 (by first | exact Or.inl ⟨_, rfl⟩ | exact Or.inr ⟨_, rfl⟩) rfl fr_X11 (c := 0) rfl (by decide) rfl rfl (fun M175 hM175 => ?_)
  have u175 : ∀ a, 0 < a → a < 144 → M175 a = M160 a := fun a a0 ha => by rw [hM175, mm_up_row (by omega), p172.1 a ha, hM164, mm_z_n (by omega)]
  have O175 : kx_O M175 10 := by rw [hM175]; exact O160.put ((p172.1 0 (by decide)).trans (by rw [hM164, mm_z_n (by decide)])) rfl
  refine mm_aload_n dX11_init_178 rfl rfl ?_
  refine mm_new' (n := 172) dX11_init_179 rfl rfl nw_X11_80 ⟨by decide, by decide, by decide +kernel, by decide +kernel, by decide +kernel⟩ (fun M179 hM179 => ?_)
  refine mm_dup dX11_init_182 rfl (by simp) ?_
  refine mm_I0g (c := 172) (n := 173) (n' := 174) dX11_init_183 rfl li_X11_82 rfl ⟨by decide, by decide, by decide, by decide +kernel, by decide +kernel, by decide +kernel⟩  rfl rfl rfl (c_X5_init (by intro b; rw [hM179, mm_z_0])) ?_
  rintro _ N183 ⟨rfl, p183⟩
  change mm_J _ _ _ _ _ _ _ _ _ _
  refine mm_putr' dX11_init_186 rfl fl_X11_83 (by first | exact Or.inl ⟨_, rfl⟩ | exact Or.inr ⟨_, rfl⟩) rfl fr_X11 (c := 0) rfl (by decide) rfl rfl (fun M186 hM186 => ?_)
  have u186 : ∀ a, 0 < a → a < 172 → M186 a = M175 a := fun a a0 ha => by rw [hM186, mm_up_row (by omega), p183.1.1 a ha, hM179, mm_z_n (by omega)]
  have O186 : kx_O M186 11 := by rw [hM186]; exact O175.put ((p183.1.1 0 (by decide)).trans (by rw [hM179, mm_z_n (by decide)])) rfl
  refine mm_aload_n dX11_init_189 rfl rfl ?_
  refine mm_new' (n := 174) dX11_init_190 rfl rfl nw_X11_87 ⟨by decide, by decide, by decide +kernel, by decide +kernel, by decide +kernel⟩ (fun M190 hM190 => ?_)
  refine mm_dup dX11_init_193 rfl (by simp) ?_
  have r1 : M190 0 1 = 4 := by rw [hM190, mm_z_n (by decide)]; exact O186.1 1 (by decide)
  have r2 : M190 0 2 = 12 := by rw [hM190, mm_z_n (by decide)]; exact O186.1 2 (by decide)
  refine mm_aload_n dX11_init_194 rfl rfl ?_
  refine mm_getr dX11_init_195 rfl fl_X11_19 (c := 0) rfl (by decide) rfl rfl (r1) ?_
  refine mm_aload_n dX11_init_198 rfl rfl ?_
  refine mm_getr dX11_init_199 rfl fl_X11_28 (c := 0) rfl (by decide) rfl rfl (r2) ?_
  refine mm_I2g (c := 174) (n := 175) (n' := 183) dX11_init_202 rfl li_X11_89 rfl ⟨by decide, by decide, by decide, by decide +kernel, by decide +kernel, by decide +kernel⟩ (by simp) (by simp) rfl rfl rfl (c_X7_init (by intro b; rw [hM190, mm_z_0])) ?_
  rintro _ N202 ⟨rfl, p202⟩
  change mm_J _ _ _ _ _ _ _ _ _ _
  refine mm_putr' dX11_init_205 rfl fl_X11_90 (by first | exact Or.inl ⟨_, rfl⟩ | exact Or.inr ⟨_, rfl⟩) rfl fr_X11 (c := 0) rfl (by decide) rfl rfl (fun M205 hM205 => ?_)
  have u205 : ∀ a, 0 < a → a < 174 → M205 a = M186 a := fun a a0 ha => by rw [hM205, mm_up_row (by omega), p202.1 a ha, hM190, mm_z_n (by omega)]
  have O205 : kx_O M205 12 := by rw [hM205]; exact O186.put ((p202.1 0 (by decide)).trans (by rw [hM190, mm_z_n (by decide)])) rfl
  refine mm_aload_n dX11_init_208 rfl rfl ?_
  refine mm_bipush dX11_init_209 rfl (by decide) ?_
  refine mm_puti dX11_init_211 rfl fl_X11_94 (c := 0) rfl (by decide) rfl rfl (fun M211 hM211 => ?_)
  refine mm_vret dX11_init_214 rfl rfl ?_
  have u211 : ∀ a, 0 < a → M211 a = M205 a := fun a a0 => by rw [hM211, mm_up_row (by omega)]
  have e139 : ∀ a, 0 < a → a < 139 → M211 a = N a := fun a a0 ha => by rw [u211 a a0, u205 a a0 (by omega), u186 a a0 (by omega), u175 a a0 (by omega), u160 a a0 ha]
  have e144 : ∀ a, 0 < a → a < 144 → M211 a = M160 a := fun a a0 ha => by rw [u211 a a0, u205 a a0 (by omega), u186 a a0 (by omega), u175 a a0 (by omega)]
  have e172 : ∀ a, 0 < a → a < 172 → M211 a = M175 a := fun a a0 ha => by rw [u211 a a0, u205 a a0 (by omega), u186 a a0 (by omega)]
  have e174 : ∀ a, 0 < a → a < 174 → M211 a = M186 a := fun a a0 ha => by rw [u211 a a0, u205 a a0 (by omega)]
  refine ⟨rfl, kx_mk (hK.fr (fun a a1 a2 => e139 a (by omega) (by omega))) ?_ ?_ ?_ ?_ ?_ ?_ ?_⟩
  · rw [e139 16 (by decide) (by decide)]; exact h16
  · rw [e139 17 (by decide) (by decide)]; exact h17
  · rw [e174 173 (by decide) (by decide), hM186, mm_up_row (by decide)]; exact p183.2
  · rw [e139 21 (by decide) (by decide)]; exact h21
  · rw [e139 1 (by decide) (by decide)]; exact h1
  · rw [hM211, mm_up_s]
  · intro a b ha hE
    by_cases a0 : a = 0
    · subst a0
      have hb : b ≠ 14 := fun z => hE (Or.inr (Or.inr (Or.inr (Or.inr (Or.inr (Or.inr ⟨rfl, z⟩))))))
      rw [hM211, mm_up_i hb]
      by_cases q : b < 12
      · exact O205.1 b q
      · rw [O205.2 b (by omega), mm_rt_no (List.range 12) (by decide +kernel) (by simp; omega)]
    · have a0' : 0 < a := by omega
      by_cases q : a < 120
      · rw [e139 a a0' (by omega)]; exact hg a b a0' q hE
      · by_cases q2 : a < 139
        · rw [e139 a a0' q2]
          by_cases q3 : a = 120
          · rw [q3]; exact h120 b
          · exact hr a b (by omega) q2
        · by_cases q4 : a < 144
          · rw [e144 a a0' q4, hM160, mm_up_row a0]; exact p157.2 a b (by omega) q4 (fun z => z)
          · by_cases q5 : a < 172
            · rw [e172 a a0' q5, hM175, mm_up_row a0]; exact p172.2 a b (by omega) q5 (fun z => z)
            · by_cases q6 : a < 174
              · rw [e174 a a0' q6, hM186, mm_up_row a0]; exact p183.1.2 a b (by omega) q6 (fun z => hE (Or.inr (Or.inr (Or.inr (Or.inl z)))))
              · rw [u211 a a0', hM205, mm_up_row a0]; exact p202.2 a b (by omega) ha (fun z => z)
theorem kx_loop (P : mm_M) (hH : kx_H P) : ∀ i : Nat, i ≤ 6 → ∀ N : mm_M, (∀ a, a < 120 → N a = P a) → (∀ a b, 121 ≤ a → a < 121 + 3 * i → N a b = mm_rt a b) → (∀ b, N 120 b = if b < i then mm_rt 120 b else 0) →
    mm_J X Y_X11_init 1 183 (121 + 3 * i) 113 [(2, 1), (0, (i : Int))] [] N (fun r M' => r = (3, 0) ∧ kx_C0 M') := by
  refine mm_lp ?_
  intro i hi ih N h1 h2 h3
  have r7 : N 0 7 = 121 := by rw [h1 0 (by decide)]; exact hH.1.1 7 (by decide)
  by_cases hlt : i < 6
  · obtain ⟨w0, w1, w2, w3, w4, w5, w6, w7, w8, w9⟩ := kx_keptrows i hlt
    have wr := mm_rw_kept i hlt
    refine mm_iload_n dX11_init_113 rfl rfl ?_
    refine mm_bipush dX11_init_114 rfl (by decide) ?_
    refine mm_icge dX11_init_116 (by omega) (by omega) (fun h116 => ?_) (fun h116 => ?_)
    · exfalso; omega
    · refine mm_aload_n dX11_init_119 rfl rfl ?_
      refine mm_getr dX11_init_120 rfl fl_X11_60 (c := 0) rfl (by omega) rfl rfl (r7) ?_
      refine mm_iload_n dX11_init_123 rfl rfl ?_
      refine mm_new' (n := 121+3*i) dX11_init_124 rfl w0 nw_X11_48 ⟨by omega, by omega, w6, w3, by omega⟩ (fun M124 hM124 => ?_)
      refine mm_dup dX11_init_127 rfl (by simp) ?_
      refine mm_bipush dX11_init_128 rfl (by decide) ?_
      refine mm_I1g (c := 121+3*i) (n := 121+3*i + 1) (n' := 121+3*i+1+1+1) dX11_init_130 rfl li_X11_50 rfl ⟨by omega, by omega, by omega, by omega, by omega, by omega⟩ (by simp) rfl rfl rfl (c_X8_init (c := 121 + 3 * i) (len := 100) w0 w1 w2 (by decide) w4 w5) ?_
      rintro _ N130 ⟨rfl, p130⟩
      change mm_J _ _ _ _ _ _ _ _ _ _
      refine mm_aast' (k0 := i) dX11_init_133 rfl (c := 120) rfl (by omega) rfl (d := 121+3*i) rfl (by omega)   w0 (by omega) (by omega) (fun M133 hM133 => ?_)
      refine mm_iinc dX11_init_134 rfl rfl (Nat.le_of_ble_eq_true rfl) rfl ?_
      refine mm_goto dX11_init_137 ?_
      obtain ⟨p1, p2, p3, p4⟩ := p130
      have e : 121 + 3 * (i + 1) = 121 + 3 * i + 1 + 1 + 1 := by omega
      have go := ih hlt M133 ?_ ?_ ?_
      · rw [e] at go; exact go
      · intro a ha; rw [hM133, mm_up_row (by omega), p1 a (by omega), hM124, mm_z_n (by omega)]; exact h1 a ha
      · intro a b a1 a3
        rw [hM133, mm_up_row (by omega)]
        by_cases q : a < 121 + 3 * i
        · rw [p1 a q, hM124, mm_z_n (by omega)]; exact h2 a b a1 q
        · exact kx_row8 wr.1 w1 w2 p2 (by intro b; rw [hM124, mm_z_0]) p3 p4 a b (by omega) (by omega)
      · intro b
        by_cases q : b = i
        · rw [q, hM133, mm_up_s, if_pos (by omega)]; exact wr.2.symm
        · rw [hM133, mm_up_i q, p1 120 (by omega), hM124, mm_z_n (by omega), h3 b]
          by_cases w : b < i
          · rw [if_pos w, if_pos (by omega)]
          · rw [if_neg w, if_neg (by omega)]
  · have ei : i = 6 := by omega
    subst ei
    refine mm_iload_n dX11_init_113 rfl rfl ?_
    refine mm_bipush dX11_init_114 rfl (by decide) ?_
    refine mm_icge dX11_init_116 (by omega) (by omega) (fun h116 => ?_) (fun h116 => ?_)
    · refine kx_tail N ?_ ?_ h2
      · obtain ⟨O, hK, h16, h17, h21, h1', hg⟩ := hH
        refine ⟨⟨?_, ?_⟩, hK.fr (fun a a1 a2 => h1 a (by omega)), ?_, ?_, ?_, ?_, ?_⟩
        · intro b hb; rw [h1 0 (by decide)]; exact O.1 b hb
        · intro b hb; rw [h1 0 (by decide)]; exact O.2 b hb
        · rw [h1 16 (by decide)]; exact h16
        · rw [h1 17 (by decide)]; exact h17
        · rw [h1 21 (by decide)]; exact h21
        · rw [h1 1 (by decide)]; exact h1'
        · intro a b a1 a2 a3; rw [h1 a a2]; exact hg a b a1 a2 a3
      · intro b; rw [h3 b]
        by_cases w : b < 6
        · rw [if_pos w]
        · rw [if_neg w, mm_rt_no (List.range 6) (by decide +kernel) (by simp; omega)]
    · exfalso; omega
theorem c_X11_init (hz : ∀ b, M 0 b = 0) : mm_C X Y_X11_init 1 183 [(2, 1)] M (fun r M' => r = (3, 0) ∧ kx_C0 M') := by
  refine mm_start (ls := [(2, 1), (9, 0)]) rfl ?_
  refine mm_aload_n dX11_init_0 rfl rfl ?_
  refine mm_oinit' (c := 0) dX11_init_1 rfl oi_X11_1 rfl rfl rfl ?_
  refine mm_aload_n dX11_init_4 rfl rfl ?_
  refine mm_new' (n := 1) dX11_init_5 rfl rfl nw_X11_7 ⟨by decide, by decide, by decide +kernel, by decide +kernel, by decide +kernel⟩ (fun M5 hM5 => ?_)
  refine mm_dup dX11_init_8 rfl (by simp) ?_
  refine mm_I0n (c := 1) (n := 2) (n' := 3) dX11_init_9 rfl ln_X11_9 rfl ⟨by decide, by decide, by decide, by decide +kernel, by decide +kernel, by decide +kernel⟩  rfl rfl rfl (c_X10_init (by intro b; rw [hM5, mm_z_0])) ?_
  rintro _ N9 ⟨rfl, p9⟩
  change mm_J _ _ _ _ _ _ _ _ _ _
  refine mm_putr' dX11_init_12 rfl fl_X11_10 (by first | exact Or.inl ⟨_, rfl⟩ | exact Or.inr ⟨_, rfl⟩) rfl fr_X11 (c := 0) rfl (by decide) rfl rfl (fun M12 hM12 => ?_)
  have O12 : kx_O M12 1 := by rw [hM12]; exact kx_O.put (N := M) ⟨fun b hb => absurd hb (by omega), fun b _ => hz b⟩ ((p9.1.1 0 (by decide)).trans (by rw [hM5, mm_z_n (by decide)])) rfl
  refine mm_aload_n dX11_init_15 rfl rfl ?_
  refine mm_new' (n := 3) dX11_init_16 rfl rfl nw_X11_16 ⟨by decide, by decide, by decide +kernel, by decide +kernel, by decide +kernel⟩ (fun M16 hM16 => ?_)
  refine mm_dup dX11_init_19 rfl (by simp) ?_
  refine mm_I0g (c := 3) (n := 4) (n' := 11) dX11_init_20 rfl li_X11_18 rfl ⟨by decide, by decide, by decide, by decide +kernel, by decide +kernel, by decide +kernel⟩  rfl rfl rfl (c_X4_init (by intro b; rw [hM16, mm_z_0])) ?_
  rintro _ N20 ⟨rfl, p20⟩
  change mm_J _ _ _ _ _ _ _ _ _ _
  refine mm_putr' dX11_init_23 rfl fl_X11_19 (by first | exact Or.inl ⟨_, rfl⟩ | exact Or.inr ⟨_, rfl⟩) rfl fr_X11 (c := 0) rfl (by decide) rfl rfl (fun M23 hM23 => ?_)
  have s23 : ∀ a, 0 < a → a < 3 → M23 a = M12 a := fun a a0 ha => by rw [hM23, mm_up_row (by omega), p20.1 a ha, hM16, mm_z_n (by omega)]
  have O23 : kx_O M23 2 := by rw [hM23]; exact O12.put ((p20.1 0 (by decide)).trans (by rw [hM16, mm_z_n (by decide)])) rfl
  refine mm_aload_n dX11_init_26 rfl rfl ?_
  refine mm_new' (n := 11) dX11_init_27 rfl rfl nw_X11_23 ⟨by decide, by decide, by decide +kernel, by decide +kernel, by decide +kernel⟩ (fun M27 hM27 => ?_)
  refine mm_dup dX11_init_30 rfl (by simp) ?_
  have r1 : M27 0 1 = 4 := by rw [hM27, mm_z_n (by decide)]; exact O23.1 1 (by decide)
  refine mm_aload_n dX11_init_31 rfl rfl ?_
  refine mm_getr dX11_init_32 rfl fl_X11_19 (c := 0) rfl (by decide) rfl rfl (r1) ?_
  refine mm_I1g (c := 11) (n := 12) (n' := 18) dX11_init_35 rfl li_X11_25 rfl ⟨by decide, by decide, by decide, by decide +kernel, by decide +kernel, by decide +kernel⟩ (by simp) rfl rfl rfl (c_X0_init (by intro b; rw [hM27, mm_z_0])) ?_
  rintro _ N35 ⟨rfl, p35⟩
  change mm_J _ _ _ _ _ _ _ _ _ _
  refine mm_putr' dX11_init_38 rfl fl_X11_28 (by first | exact Or.inl ⟨_, rfl⟩ | exact Or.inr ⟨_, rfl⟩) rfl fr_X11 (c := 0) rfl (by decide) rfl rfl (fun M38 hM38 => ?_)
  have s38 : ∀ a, 0 < a → a < 11 → M38 a = M23 a := fun a a0 ha => by rw [hM38, mm_up_row (by omega), p35.1.1 a ha, hM27, mm_z_n (by omega)]
  have O38 : kx_O M38 3 := by rw [hM38]; exact O23.put ((p35.1.1 0 (by decide)).trans (by rw [hM27, mm_z_n (by decide)])) rfl
  refine mm_aload_n dX11_init_41 rfl rfl ?_
  refine mm_new' (n := 18) dX11_init_42 rfl rfl nw_X11_32 ⟨by decide, by decide, by decide +kernel, by decide +kernel, by decide +kernel⟩ (fun M42 hM42 => ?_)
  refine mm_dup dX11_init_45 rfl (by simp) ?_
  have r1 : M42 0 1 = 4 := by rw [hM42, mm_z_n (by decide)]; exact O38.1 1 (by decide)
  refine mm_aload_n dX11_init_46 rfl rfl ?_
  refine mm_getr dX11_init_47 rfl fl_X11_19 (c := 0) rfl (by decide) rfl rfl (r1) ?_
  refine mm_I1g (c := 18) (n := 19) (n' := 21) dX11_init_50 rfl li_X11_34 rfl ⟨by decide, by decide, by decide, by decide +kernel, by decide +kernel, by decide +kernel⟩ (by simp) rfl rfl rfl (c_X9_init (by intro b; rw [hM42, mm_z_0])) ?_
  rintro _ N50 ⟨rfl, p50⟩
  change mm_J _ _ _ _ _ _ _ _ _ _
  refine mm_putr' dX11_init_53 rfl fl_X11_35 (by first | exact Or.inl ⟨_, rfl⟩ | exact Or.inr ⟨_, rfl⟩) rfl fr_X11 (c := 0) rfl (by decide) rfl rfl (fun M53 hM53 => ?_)
  have s53 : ∀ a, 0 < a → a < 18 → M53 a = M38 a := fun a a0 ha => by rw [hM53, mm_up_row (by omega), p50.1 a ha, hM42, mm_z_n (by omega)]
  have O53 : kx_O M53 4 := by rw [hM53]; exact O38.put ((p50.1 0 (by decide)).trans (by rw [hM42, mm_z_n (by decide)])) rfl
  refine mm_aload_n dX11_init_56 rfl rfl ?_
  refine mm_new' (n := 21) dX11_init_57 rfl rfl nw_X11_39 ⟨by decide, by decide, by decide +kernel, by decide +kernel, by decide +kernel⟩ (fun M57 hM57 => ?_)
  refine mm_dup dX11_init_60 rfl (by simp) ?_
  have r1 : M57 0 1 = 4 := by rw [hM57, mm_z_n (by decide)]; exact O53.1 1 (by decide)
  have r2 : M57 0 2 = 12 := by rw [hM57, mm_z_n (by decide)]; exact O53.1 2 (by decide)
  refine mm_aload_n dX11_init_61 rfl rfl ?_
  refine mm_getr dX11_init_62 rfl fl_X11_19 (c := 0) rfl (by decide) rfl rfl (r1) ?_
  refine mm_aload_n dX11_init_65 rfl rfl ?_
  refine mm_getr dX11_init_66 rfl fl_X11_28 (c := 0) rfl (by decide) rfl rfl (r2) ?_
  refine mm_I2g (c := 21) (n := 22) (n' := 114) dX11_init_69 rfl li_X11_41 rfl ⟨by decide, by decide, by decide, by decide +kernel, by decide +kernel, by decide +kernel⟩ (by simp) (by simp) rfl rfl rfl (c_X3_init (by intro b; rw [hM57, mm_z_0])) ?_
  rintro _ N69 ⟨rfl, p69⟩
  change mm_J _ _ _ _ _ _ _ _ _ _
  refine mm_putr' dX11_init_72 rfl fl_X11_44 (by first | exact Or.inl ⟨_, rfl⟩ | exact Or.inr ⟨_, rfl⟩) rfl fr_X11 (c := 0) rfl (by decide) rfl rfl (fun M72 hM72 => ?_)
  have s72 : ∀ a, 0 < a → a < 21 → M72 a = M53 a := fun a a0 ha => by rw [hM72, mm_up_row (by omega), p69.1.1 a ha, hM57, mm_z_n (by omega)]
  have O72 : kx_O M72 5 := by rw [hM72]; exact O53.put ((p69.1.1 0 (by decide)).trans (by rw [hM57, mm_z_n (by decide)])) rfl
  refine mm_aload_n dX11_init_75 rfl rfl ?_
  refine mm_new' (n := 114) dX11_init_76 rfl rfl nw_X11_48 ⟨by decide, by decide, by decide +kernel, by decide +kernel, by decide +kernel⟩ (fun M76 hM76 => ?_)
  refine mm_dup dX11_init_79 rfl (by simp) ?_
  refine mm_sipush dX11_init_80 rfl (by decide) ?_
  refine mm_I1g (c := 114) (n := 115) (n' := 117) dX11_init_83 rfl li_X11_50 rfl ⟨by decide, by decide, by decide, by decide +kernel, by decide +kernel, by decide +kernel⟩ (by simp) rfl rfl rfl (c_X8_init (c := 114) (len := 288) rfl rfl rfl (by decide) (by decide +kernel) (by decide +kernel)) ?_
  rintro _ N83 ⟨rfl, p83⟩
  change mm_J _ _ _ _ _ _ _ _ _ _
  refine mm_putr' dX11_init_86 rfl fl_X11_53 (by first | exact Or.inl ⟨_, rfl⟩ | exact Or.inr ⟨_, rfl⟩) rfl fr_X11 (c := 0) rfl (by decide) rfl rfl (fun M86 hM86 => ?_)
  have s86 : ∀ a, 0 < a → a < 114 → M86 a = M72 a := fun a a0 ha => by rw [hM86, mm_up_row (by omega), p83.1 a ha, hM76, mm_z_n (by omega)]
  have O86 : kx_O M86 6 := by rw [hM86]; exact O72.put ((p83.1 0 (by decide)).trans (by rw [hM76, mm_z_n (by decide)])) rfl
  refine mm_aload_n dX11_init_89 rfl rfl ?_
  refine mm_new' (n := 117) dX11_init_90 rfl rfl nw_X11_48 ⟨by decide, by decide, by decide +kernel, by decide +kernel, by decide +kernel⟩ (fun M90 hM90 => ?_)
  refine mm_dup dX11_init_93 rfl (by simp) ?_
  refine mm_bipush dX11_init_94 rfl (by decide) ?_
  refine mm_I1g (c := 117) (n := 118) (n' := 120) dX11_init_96 rfl li_X11_50 rfl ⟨by decide, by decide, by decide, by decide +kernel, by decide +kernel, by decide +kernel⟩ (by simp) rfl rfl rfl (c_X8_init (c := 117) (len := 100) rfl rfl rfl (by decide) (by decide +kernel) (by decide +kernel)) ?_
  rintro _ N96 ⟨rfl, p96⟩
  change mm_J _ _ _ _ _ _ _ _ _ _
  refine mm_putr' dX11_init_99 rfl fl_X11_57 (by first | exact Or.inl ⟨_, rfl⟩ | exact Or.inr ⟨_, rfl⟩) rfl fr_X11 (c := 0) rfl (by decide) rfl rfl (fun M99 hM99 => ?_)
  have s99 : ∀ a, 0 < a → a < 117 → M99 a = M86 a := fun a a0 ha => by rw [hM99, mm_up_row (by omega), p96.1 a ha, hM90, mm_z_n (by omega)]
  have O99 : kx_O M99 7 := by rw [hM99]; exact O86.put ((p96.1 0 (by decide)).trans (by rw [hM90, mm_z_n (by decide)])) rfl
  refine mm_aload_n dX11_init_102 rfl rfl ?_
  refine mm_bipush dX11_init_103 rfl (by decide) ?_
  refine mm_anew' (n := 120) dX11_init_105 rfl rfl rfl ck_X11_48 ⟨by decide, by decide, by decide +kernel, by decide +kernel, by decide +kernel⟩ (fun M105 hM105 => ?_)
  refine mm_putr' dX11_init_108 rfl fl_X11_60 (by first | exact Or.inl ⟨_, rfl⟩ | exact Or.inr ⟨_, rfl⟩) rfl fr_X11 (c := 0) rfl (by decide) rfl rfl (fun M108 hM108 => ?_)
  have s108 : ∀ a, 0 < a → a < 120 → M108 a = M99 a := fun a a0 ha => by rw [hM108, mm_up_row (by omega), hM105, mm_z_n (by omega)]
  have O108 : kx_O M108 8 := by rw [hM108]; exact O99.put (by rw [hM105, mm_z_n (by decide)]) rfl
  refine mm_iconst dX11_init_111 rfl ?_
  refine mm_istore_n dX11_init_112 rfl (Nat.le_of_ble_eq_true rfl) rfl ?_
  refine kx_loop M108 ?_ 0 (by omega) _ (fun a _ => rfl) (fun a b a1 a2 => absurd a2 (by omega)) ?_
  · have e3 : ∀ a, 0 < a → a < 3 → M108 a = M12 a := fun a a0 ha => by rw [s108 a a0 (by omega), s99 a a0 (by omega), s86 a a0 (by omega), s72 a a0 (by omega), s53 a a0 (by omega), s38 a a0 (by omega), s23 a a0 ha]
    have e11 : ∀ a, 0 < a → a < 11 → M108 a = M23 a := fun a a0 ha => by rw [s108 a a0 (by omega), s99 a a0 (by omega), s86 a a0 (by omega), s72 a a0 (by omega), s53 a a0 (by omega), s38 a a0 ha]
    have e18 : ∀ a, 0 < a → a < 18 → M108 a = M38 a := fun a a0 ha => by rw [s108 a a0 (by omega), s99 a a0 (by omega), s86 a a0 (by omega), s72 a a0 (by omega), s53 a a0 ha]
    have e21 : ∀ a, 0 < a → a < 21 → M108 a = M53 a := fun a a0 ha => by rw [s108 a a0 (by omega), s99 a a0 (by omega), s86 a a0 (by omega), s72 a a0 ha]
    have e114 : ∀ a, 0 < a → a < 114 → M108 a = M72 a := fun a a0 ha => by rw [s108 a a0 (by omega), s99 a a0 (by omega), s86 a a0 ha]
    have e117 : ∀ a, 0 < a → a < 117 → M108 a = M86 a := fun a a0 ha => by rw [s108 a a0 (by omega), s99 a a0 ha]
    refine ⟨O108, kx_K0.fr (M := N20) ?_ p20.2, ?_, ?_, ?_, ?_, ?_⟩
    · intro a a1 a2; rw [e11 a (by omega) (by omega), hM23, mm_up_row (by omega)]
    · intro b hb; rw [e18 16 (by decide) (by decide), hM38, mm_up_row (by decide)]; exact p35.2.1 b hb
    · intro b hb; rw [e18 17 (by decide) (by decide), hM38, mm_up_row (by decide)]; exact p35.2.2 b hb
    · rw [e114 21 (by decide) (by decide), hM72, mm_up_row (by decide)]; exact p69.2
    · rw [e3 1 (by decide) (by decide), hM12, mm_up_row (by decide)]; exact p9.2
    · intro a b a0 ha hE
      by_cases q1 : a < 3
      · rw [e3 a a0 q1, hM12, mm_up_row (by omega)]; exact p9.1.2 a b (by omega) q1 (fun z => hE (Or.inr (Or.inr (Or.inr (Or.inr (Or.inr (Or.inl z)))))))
      by_cases q2 : a < 11
      · exact absurd (Or.inl ⟨by omega, by omega⟩) hE
      by_cases q3 : a < 18
      · rw [e18 a a0 q3, hM38, mm_up_row (by omega)]; exact p35.1.2 a b (by omega) q3 (fun z => hE (z.elim (fun z => Or.inr (Or.inl z)) (fun z => Or.inr (Or.inr (Or.inl z)))))
      by_cases q4 : a < 21
      · rw [e21 a a0 q4, hM53, mm_up_row (by omega)]; exact p50.2 a b (by omega) q4 (fun z => z)
      by_cases q5 : a < 114
      · rw [e114 a a0 q5, hM72, mm_up_row (by omega)]; exact p69.1.2 a b (by omega) q5 (fun z => hE (Or.inr (Or.inr (Or.inr (Or.inr (Or.inl z))))))
      by_cases q6 : a < 117
      · rw [e117 a a0 q6, hM86, mm_up_row (by omega)]; exact kx_row8 mm_rw_latest rfl rfl p83.2.1 (by intro b; rw [hM76, mm_z_0]) p83.2.2.1 p83.2.2.2 a b (by omega) (by omega)
      · rw [s108 a a0 (by omega), hM99, mm_up_row (by omega)]; exact kx_row8 mm_rw_judged rfl rfl p96.2.1 (by intro b; rw [hM90, mm_z_0]) p96.2.2.1 p96.2.2.2 a b (by omega) (by omega)
  · intro b
    rw [if_neg (by omega), hM108, mm_up_row (by decide), hM105, mm_z_0]
end
end
/-! D2.ctor7 -/
section
/-! ===== constructors: the reference ===== -/
/-- the constructor, with the room that it needs -/
def Y_M_init : mm_Y := (yX13_init, cX13_init, 2, none, 5, 150, [])
def kx_v (b : Nat) : Int := if b = 9 then -1 else if b = 84 then -1 else if b = 96 then 10 else mm_rt 183 b
/-- the reference while it is built: so many cells, so many fields -/
def kx_I (M N : mm_M) (n k : Nat) : Prop := (∀ a, a < 183 → N a = M a) ∧ (∀ a b, 184 ≤ a → a < n → N a b = mm_rt a b) ∧ (∀ b, b < k → N 183 b = kx_v b) ∧ ∀ b, k ≤ b → N 183 b = 0
theorem kx_I.arr {M N : mm_M} {n k i : Nat} (h : kx_I M N n k) (hn : 184 ≤ n) (hki : k ≤ i) (hv : kx_v i = (n : Int) + 1) (hg : ∀ b, b < i → k ≤ b → kx_v b = 0) (hz : ∀ b, mm_rt n b = 0) : kx_I M (mm_up (mm_z N n) 183 i ((n : Int) + 1)) (n + 1) (i + 1) := by
  obtain ⟨h1, h2, h3, h4⟩ := h
  refine ⟨fun a ha => ?_, fun a b a1 a2 => ?_, fun b hb => ?_, fun b hb => ?_⟩
  · rw [mm_up_row (by omega), mm_z_n (by omega)]; exact h1 a ha
  · rw [mm_up_row (by omega)]
    by_cases q : a = n
    · rw [q, mm_z_0]; exact (hz b).symm
    · rw [mm_z_n q]; exact h2 a b a1 (by omega)
  · by_cases q : b = i
    · rw [q, mm_up_s, hv]
    · rw [mm_up_i q, mm_z_n (by omega)]
      by_cases q2 : b < k
      · exact h3 b q2
      · rw [h4 b (by omega)]; exact (hg b (by omega) (by omega)).symm
  · rw [mm_up_i (by omega), mm_z_n (by omega)]; exact h4 b (by omega)
theorem kx_I.int {M N : mm_M} {n k i : Nat} {v : Int} (h : kx_I M N n k) (hki : k ≤ i) (hv : kx_v i = v) (hg : ∀ b, b < i → k ≤ b → kx_v b = 0) : kx_I M (mm_up N 183 i v) n (i + 1) := by
  obtain ⟨h1, h2, h3, h4⟩ := h
  refine ⟨fun a ha => ?_, fun a b a1 a2 => ?_, fun b hb => ?_, fun b hb => ?_⟩
  · rw [mm_up_row (by omega)]; exact h1 a ha
  · rw [mm_up_row (by omega)]; exact h2 a b a1 a2
  · by_cases q : b = i
    · rw [q, mm_up_s, hv]
    · rw [mm_up_i q]
      by_cases q2 : b < k
      · exact h3 b q2
      · rw [h4 b (by omega)]; exact (hg b (by omega) (by omega)).symm
  · rw [mm_up_i (by omega)]; exact h4 b (by omega)
theorem kx_big {c i : Nat} (h : mm_rt c i ≠ 0) : c < 243 ∧ (c = 183 → i < 110) := by
  unfold mm_rt at h
  match hf : mm_rl.find? (fun q => q.1 == c && q.2.1 == i) with
  | none => rw [hf] at h; exact absurd rfl h
  | some q =>
    have hm := List.mem_of_find?_eq_some hf
    have hp := List.find?_some hf
    have ha : mm_rl.all (fun q => decide (q.1 < 243) && (q.1 != 183 || decide (q.2.1 < 110))) = true := by decide +kernel
    have hq := List.all_eq_true.mp ha q hm
    simp at hp hq
    obtain ⟨e1, e2⟩ := hp
    refine ⟨by rw [← e1]; exact hq.1, fun e => ?_⟩
    rcases hq.2 with z | z
    · exact absurd (e1.trans e) z
    · rw [← e2]; exact z
theorem kx_I.rf {M N : mm_M} (h : kx_I M N 243 110) (hM : ∀ c i, c < 183 → mm_rt c i ≠ 0 → M c i = mm_rt c i) : mm_Rf N := by
  intro c i hne
  obtain ⟨b1, b2⟩ := kx_big hne
  by_cases q : c < 183
  · rw [h.1 c q]; exact hM c i q hne
  · by_cases q2 : c = 183
    · subst q2
      rw [h.2.2.1 i (b2 rfl)]
      unfold kx_v
      by_cases e1 : i = 9
      · exact absurd (by rw [e1]; rfl) hne
      by_cases e2 : i = 84
      · exact absurd (by rw [e2]; rfl) hne
      by_cases e3 : i = 96
      · exact absurd (by rw [e3]; rfl) hne
      rw [if_neg e1, if_neg e2, if_neg e3]
    · exact h.2.1 c i (by omega) b1
/-- the reference as its constructor leaves it -/
def kx_R0 (N : mm_M) : Prop := ((∀ i, i < 10 → N 186 i = kp_D0 (fun _ => 0) i) ∧ N 183 16 = 2 ∧ (N 188 0 = 10 ∧ N 188 1 = 2) ∧ (∀ i, i < 3 → 0 ≤ N 188 i ∧ N 188 i ≤ 99) ∧ (∀ i : Nat, i < 6 → N 190 i = 100)) ∧ kq_bd N ∧ (∀ b, b < 120 → N 203 b = 10 ∧ N 204 b = 10) ∧ (∀ b, 120 ≤ b → N 203 b = 0 ∧ N 204 b = 0) ∧ N 183 9 = -1 ∧ N 183 84 = -1 ∧ N 183 96 = 10 ∧
  (∀ b, b ≠ 9 → ¬ (16 ≤ b ∧ b ≤ 18) → b ≠ 84 → b ≠ 96 → N 183 b = mm_rt 183 b) ∧ ∀ a b, 184 ≤ a → a < 243 → ¬ (186 ≤ a ∧ a ≤ 192) → a ≠ 203 → a ≠ 204 → N a b = mm_rt a b
theorem kx_first {M M5 N9 : mm_M} (hz : ∀ b, M 183 b = 0) (hM5 : M5 = mm_z M 184) (p9 : kx_T M5 N9) : kx_I M (mm_up N9 183 0 185) 185 1 := by
  refine ⟨fun a ha => ?_, fun a b a1 a2 => ?_, fun b hb => ?_, fun b hb => ?_⟩
  · rw [mm_up_row (by omega), p9.1 a (by omega), hM5, mm_z_n (by omega)]
  · have e : a = 184 := by omega
    subst e
    rw [mm_up_row (by decide), p9.2 b]
    exact (mm_rt_no [] (by decide +kernel) (by simp)).symm
  · have e : b = 0 := by omega
    subst e
    rw [mm_up_s]; rfl
  · rw [mm_up_i (by omega), p9.1 183 (by decide), hM5, mm_z_n (by decide)]; exact hz b
section
variable {X : mm_X} {M : mm_M}
theorem kx_now (P : mm_M) (hRP : mm_Rf P) (Φ : mm_V → mm_M → Prop) (hΦ : ∀ N, mm_Rf N → (∀ a, a ≠ 203 → a ≠ 204 → N a = P a) → (∀ b, b < 120 → N 203 b = 10 ∧ N 204 b = 10) → (∀ b, 120 ≤ b → N 203 b = P 203 b ∧ N 204 b = P 204 b) → Φ (3, 0) N) : ∀ i : Nat, i ≤ 120 → ∀ N : mm_M, mm_Rf N → (∀ a, a ≠ 203 → a ≠ 204 → N a = P a) → (∀ b, b < i → N 203 b = 10 ∧ N 204 b = 10) → (∀ b, 120 ≤ b → N 203 b = P 203 b ∧ N 204 b = P 204 b) →
    mm_J X Y_M_init 184 243 243 522 [(2, 184), (0, (i : Int))] [] N Φ := by
  refine mm_lp ?_
  intro i hi ih N hRN h1 h2 h3
  by_cases hlt : i < 120
  · refine mm_iload_n dX13_init_522 rfl rfl ?_
    refine mm_bipush dX13_init_523 rfl (by decide) ?_
    refine mm_icge dX13_init_525 (by omega) (by omega) (fun h525 => ?_) (fun h525 => ?_)
    · exfalso; omega
    · refine mm_aload_n dX13_init_528 rfl rfl ?_
      refine mm_getr dX13_init_529 rfl fl_X13_255 (c := 183) rfl (by decide) rfl rfl (hRN.at (c := 183) (i := 34) (v := 204) rfl (by decide)) ?_
      refine mm_iload_n dX13_init_532 rfl rfl ?_
      refine mm_bipush dX13_init_533 rfl (by decide) ?_
      refine mm_istk (k0 := i) dX13_init_535 rfl (c := 203) rfl (by decide) rfl (by omega) (by omega) (fun M535 hM535 => ?_)
      have hR535 : mm_Rf M535 := by rw [hM535]; exact hRN.up (mm_rt_ar (t := 0) rfl (by decide))
      refine mm_aload_n dX13_init_536 rfl rfl ?_
      refine mm_getr dX13_init_537 rfl fl_X13_258 (c := 183) rfl (by decide) rfl rfl (hR535.at (c := 183) (i := 35) (v := 205) rfl (by decide)) ?_
      refine mm_iload_n dX13_init_540 rfl rfl ?_
      refine mm_bipush dX13_init_541 rfl (by decide) ?_
      refine mm_istk (k0 := i) dX13_init_543 rfl (c := 204) rfl (by decide) rfl (by omega) (by omega) (fun M543 hM543 => ?_)
      have hR543 : mm_Rf M543 := by rw [hM543]; exact hR535.up (mm_rt_ar (t := 0) rfl (by decide))
      refine mm_iinc dX13_init_544 rfl rfl (Nat.le_of_ble_eq_true rfl) rfl ?_
      refine mm_goto dX13_init_547 ?_
      refine ih hlt _ hR543 ?_ ?_ ?_
      · intro a a1 a2; rw [hM543, mm_up_row a2, hM535, mm_up_row a1]; exact h1 a a1 a2
      · intro b hb
        by_cases q : b = i
        · rw [q]
          exact ⟨by rw [hM543, mm_up_row (by decide), hM535, mm_up_s], by rw [hM543, mm_up_s]⟩
        · rw [hM543, mm_up_row (by decide), mm_up_i q, hM535, mm_up_i q, mm_up_row (by decide)]; exact h2 b (by omega)
      · intro b hb
        rw [hM543, mm_up_row (by decide), mm_up_i (by omega), hM535, mm_up_i (by omega), mm_up_row (by decide)]; exact h3 b hb
  · have ei : i = 120 := by omega
    subst ei
    refine mm_iload_n dX13_init_522 rfl rfl ?_
    refine mm_bipush dX13_init_523 rfl (by decide) ?_
    refine mm_icge dX13_init_525 (by omega) (by omega) (fun h525 => ?_) (fun h525 => ?_)
    · refine mm_vret dX13_init_550 rfl rfl ?_
      exact hΦ N hRN h1 h2 h3
    · exfalso; omega
theorem c_M_init (hz : ∀ b, M 183 b = 0) (hM : ∀ c i, c < 183 → mm_rt c i ≠ 0 → M c i = mm_rt c i) : mm_C X Y_M_init 184 243 [(2, 184)] M (fun r M' => r = (3, 0) ∧ mm_Rf M' ∧ (∀ a, a < 183 → M' a = M a) ∧ kx_R0 M') := by
  obtain ⟨Φ, hΦ⟩ : ∃ Φ : mm_V → mm_M → Prop, Φ = (fun r M' => r = (3, 0) ∧ mm_Rf M' ∧ (∀ a, a < 183 → M' a = M a) ∧ kx_R0 M') := ⟨_, rfl⟩
  rw [← hΦ]
  refine mm_start (ls := [(2, 184), (9, 0)]) rfl ?_
  refine mm_aload_n dX13_init_0 rfl rfl ?_
  refine mm_oinit' (c := 183) dX13_init_1 rfl oi_X13_232 rfl rfl rfl ?_
  refine mm_aload_n dX13_init_4 rfl rfl ?_
  refine mm_new' (n := 184) dX13_init_5 rfl rfl nw_X13_237 ⟨by decide, by decide, by decide +kernel, by decide +kernel, by decide +kernel⟩ (fun M5 hM5 => ?_)
  refine mm_dup dX13_init_8 rfl (by simp) ?_
  refine mm_I0g (c := 184) (n := 185) (n' := 185) dX13_init_9 rfl li_X13_S rfl ⟨by decide, by decide, by decide, by decide +kernel, by decide +kernel, by decide +kernel⟩  rfl rfl rfl (c_S_init (by intro b; rw [hM5, mm_z_0])) ?_
  rintro _ N9 ⟨rfl, p9⟩
  change mm_J _ _ _ _ _ _ _ _ _ _
  refine mm_putr' dX13_init_12 rfl fl_X13_19 (by first | exact Or.inl ⟨_, rfl⟩ | exact Or.inr ⟨_, rfl⟩) rfl fr_X13 (c := 183) rfl (by decide) rfl rfl (fun M12 hM12 => ?_)
  have I12 : kx_I M M12 185 1 := by rw [hM12]; exact kx_first hz hM5 p9
  refine mm_aload_n dX13_init_15 rfl rfl ?_
  refine mm_sipush dX13_init_16 rfl (by decide) ?_
  refine mm_newarr' (n := 185) (t := 1) dX13_init_19 rfl rfl (by decide) rfl rfl ac_1 ⟨by decide, by decide, by decide +kernel, by decide +kernel, by decide +kernel⟩ (fun M19 hM19 => ?_)
  refine mm_putr' dX13_init_21 rfl fl_X13_26 (by first | exact Or.inl ⟨_, rfl⟩ | exact Or.inr ⟨_, rfl⟩) rfl fr_X13 (c := 183) rfl (by decide) rfl rfl (fun M21 hM21 => ?_)
  have I21 : kx_I M M21 186 2 := by rw [hM21, hM19]; exact I12.arr (by decide) (by decide) rfl (by decide +kernel) (fun b => mm_rt_ar (t := 1) rfl (by decide))
  refine mm_aload_n dX13_init_24 rfl rfl ?_
  refine mm_iconst dX13_init_25 rfl ?_
  refine mm_puti dX13_init_26 rfl fl_X13_16 (c := 183) rfl (by decide) rfl rfl (fun M26 hM26 => ?_)
  have I26 : kx_I M M26 186 10 := by rw [hM26]; exact I21.int (by decide) rfl (by decide +kernel)
  refine mm_aload_n dX13_init_29 rfl rfl ?_
  refine mm_bipush dX13_init_30 rfl (by decide) ?_
  refine mm_newarr' (n := 186) (t := 0) dX13_init_32 rfl rfl (by decide) rfl rfl ac_0 ⟨by decide, by decide, by decide +kernel, by decide +kernel, by decide +kernel⟩ (fun M32 hM32 => ?_)
  refine mm_putr' dX13_init_34 rfl fl_X13_151 (by first | exact Or.inl ⟨_, rfl⟩ | exact Or.inr ⟨_, rfl⟩) rfl fr_X13 (c := 183) rfl (by decide) rfl rfl (fun M34 hM34 => ?_)
  have I34 : kx_I M M34 187 11 := by rw [hM34, hM32]; exact I26.arr (by decide) (by decide) rfl (by decide +kernel) (fun b => mm_rt_ar (t := 0) rfl (by decide))
  refine mm_aload_n dX13_init_37 rfl rfl ?_
  refine mm_bipush dX13_init_38 rfl (by decide) ?_
  refine mm_newarr' (n := 187) (t := 0) dX13_init_40 rfl rfl (by decide) rfl rfl ac_0 ⟨by decide, by decide, by decide +kernel, by decide +kernel, by decide +kernel⟩ (fun M40 hM40 => ?_)
  refine mm_putr' dX13_init_42 rfl fl_X13_78 (by first | exact Or.inl ⟨_, rfl⟩ | exact Or.inr ⟨_, rfl⟩) rfl fr_X13 (c := 183) rfl (by decide) rfl rfl (fun M42 hM42 => ?_)
  have I42 : kx_I M M42 188 12 := by rw [hM42, hM40]; exact I34.arr (by decide) (by decide) rfl (by decide +kernel) (fun b => mm_rt_ar (t := 0) rfl (by decide))
  refine mm_aload_n dX13_init_45 rfl rfl ?_
  refine mm_iconst dX13_init_46 rfl ?_
  refine mm_newarr' (n := 188) (t := 0) dX13_init_47 rfl rfl (by decide) rfl rfl ac_0 ⟨by decide, by decide, by decide +kernel, by decide +kernel, by decide +kernel⟩ (fun M47 hM47 => ?_)
  refine mm_putr' dX13_init_49 rfl fl_X13_157 (by first | exact Or.inl ⟨_, rfl⟩ | exact Or.inr ⟨_, rfl⟩) rfl fr_X13 (c := 183) rfl (by decide) rfl rfl (fun M49 hM49 => ?_)
  have I49 : kx_I M M49 189 13 := by rw [hM49, hM47]; exact I42.arr (by decide) (by decide) rfl (by decide +kernel) (fun b => mm_rt_ar (t := 0) rfl (by decide))
  refine mm_aload_n dX13_init_52 rfl rfl ?_
  refine mm_iconst dX13_init_53 rfl ?_
  refine mm_newarr' (n := 189) (t := 0) dX13_init_54 rfl rfl (by decide) rfl rfl ac_0 ⟨by decide, by decide, by decide +kernel, by decide +kernel, by decide +kernel⟩ (fun M54 hM54 => ?_)
  refine mm_putr' dX13_init_56 rfl fl_X13_85 (by first | exact Or.inl ⟨_, rfl⟩ | exact Or.inr ⟨_, rfl⟩) rfl fr_X13 (c := 183) rfl (by decide) rfl rfl (fun M56 hM56 => ?_)
  have I56 : kx_I M M56 190 14 := by rw [hM56, hM54]; exact I49.arr (by decide) (by decide) rfl (by decide +kernel) (fun b => mm_rt_ar (t := 0) rfl (by decide))
  refine mm_aload_n dX13_init_59 rfl rfl ?_
  refine mm_bipush dX13_init_60 rfl (by decide) ?_
  refine mm_newarr' (n := 190) (t := 0) dX13_init_62 rfl rfl (by decide) rfl rfl ac_0 ⟨by decide, by decide, by decide +kernel, by decide +kernel, by decide +kernel⟩ (fun M62 hM62 => ?_)
  refine mm_putr' dX13_init_64 rfl fl_X13_159 (by first | exact Or.inl ⟨_, rfl⟩ | exact Or.inr ⟨_, rfl⟩) rfl fr_X13 (c := 183) rfl (by decide) rfl rfl (fun M64 hM64 => ?_)
  have I64 : kx_I M M64 191 15 := by rw [hM64, hM62]; exact I56.arr (by decide) (by decide) rfl (by decide +kernel) (fun b => mm_rt_ar (t := 0) rfl (by decide))
  refine mm_aload_n dX13_init_67 rfl rfl ?_
  refine mm_bipush dX13_init_68 rfl (by decide) ?_
  refine mm_newarr' (n := 191) (t := 0) dX13_init_70 rfl rfl (by decide) rfl rfl ac_0 ⟨by decide, by decide, by decide +kernel, by decide +kernel, by decide +kernel⟩ (fun M70 hM70 => ?_)
  refine mm_putr' dX13_init_72 rfl fl_X13_91 (by first | exact Or.inl ⟨_, rfl⟩ | exact Or.inr ⟨_, rfl⟩) rfl fr_X13 (c := 183) rfl (by decide) rfl rfl (fun M72 hM72 => ?_)
  have I72 : kx_I M M72 192 16 := by rw [hM72, hM70]; exact I64.arr (by decide) (by decide) rfl (by decide +kernel) (fun b => mm_rt_ar (t := 0) rfl (by decide))
  refine mm_aload_n dX13_init_75 rfl rfl ?_
  refine mm_bipush dX13_init_76 rfl (by decide) ?_
  refine mm_newarr' (n := 192) (t := 2) dX13_init_78 rfl rfl (by decide) rfl rfl ac_2 ⟨by decide, by decide, by decide +kernel, by decide +kernel, by decide +kernel⟩ (fun M78 hM78 => ?_)
  refine mm_putr' dX13_init_80 rfl fl_X13_97 (by first | exact Or.inl ⟨_, rfl⟩ | exact Or.inr ⟨_, rfl⟩) rfl fr_X13 (c := 183) rfl (by decide) rfl rfl (fun M80 hM80 => ?_)
  have I80 : kx_I M M80 193 20 := by rw [hM80, hM78]; exact I72.arr (by decide) (by decide) rfl (by decide +kernel) (fun b => mm_rt_ar (t := 2) rfl (by decide))
  refine mm_aload_n dX13_init_83 rfl rfl ?_
  refine mm_bipush dX13_init_84 rfl (by decide) ?_
  refine mm_newarr' (n := 193) (t := 0) dX13_init_86 rfl rfl (by decide) rfl rfl ac_0 ⟨by decide, by decide, by decide +kernel, by decide +kernel, by decide +kernel⟩ (fun M86 hM86 => ?_)
  refine mm_putr' dX13_init_88 rfl fl_X13_185 (by first | exact Or.inl ⟨_, rfl⟩ | exact Or.inr ⟨_, rfl⟩) rfl fr_X13 (c := 183) rfl (by decide) rfl rfl (fun M88 hM88 => ?_)
  have I88 : kx_I M M88 194 23 := by rw [hM88, hM86]; exact I80.arr (by decide) (by decide) rfl (by decide +kernel) (fun b => mm_rt_ar (t := 0) rfl (by decide))
  refine mm_aload_n dX13_init_91 rfl rfl ?_
  refine mm_bipush dX13_init_92 rfl (by decide) ?_
  refine mm_newarr' (n := 194) (t := 0) dX13_init_94 rfl rfl (by decide) rfl rfl ac_0 ⟨by decide, by decide, by decide +kernel, by decide +kernel, by decide +kernel⟩ (fun M94 hM94 => ?_)
  refine mm_putr' dX13_init_96 rfl fl_X13_188 (by first | exact Or.inl ⟨_, rfl⟩ | exact Or.inr ⟨_, rfl⟩) rfl fr_X13 (c := 183) rfl (by decide) rfl rfl (fun M96 hM96 => ?_)
  have I96 : kx_I M M96 195 24 := by rw [hM96, hM94]; exact I88.arr (by decide) (by decide) rfl (by decide +kernel) (fun b => mm_rt_ar (t := 0) rfl (by decide))
  refine mm_aload_n dX13_init_99 rfl rfl ?_
  refine mm_bipush dX13_init_100 rfl (by decide) ?_
  refine mm_newarr' (n := 195) (t := 0) dX13_init_102 rfl rfl (by decide) rfl rfl ac_0 ⟨by decide, by decide, by decide +kernel, by decide +kernel, by decide +kernel⟩ (fun M102 hM102 => ?_)
  refine mm_putr' dX13_init_104 rfl fl_X13_191 (by first | exact Or.inl ⟨_, rfl⟩ | exact Or.inr ⟨_, rfl⟩) rfl fr_X13 (c := 183) rfl (by decide) rfl rfl (fun M104 hM104 => ?_)
  have I104 : kx_I M M104 196 25 := by rw [hM104, hM102]; exact I96.arr (by decide) (by decide) rfl (by decide +kernel) (fun b => mm_rt_ar (t := 0) rfl (by decide))
  refine mm_aload_n dX13_init_107 rfl rfl ?_
  refine mm_bipush dX13_init_108 rfl (by decide) ?_
  refine mm_newarr' (n := 196) (t := 0) dX13_init_110 rfl rfl (by decide) rfl rfl ac_0 ⟨by decide, by decide, by decide +kernel, by decide +kernel, by decide +kernel⟩ (fun M110 hM110 => ?_)
  refine mm_putr' dX13_init_112 rfl fl_X13_182 (by first | exact Or.inl ⟨_, rfl⟩ | exact Or.inr ⟨_, rfl⟩) rfl fr_X13 (c := 183) rfl (by decide) rfl rfl (fun M112 hM112 => ?_)
  have I112 : kx_I M M112 197 26 := by rw [hM112, hM110]; exact I104.arr (by decide) (by decide) rfl (by decide +kernel) (fun b => mm_rt_ar (t := 0) rfl (by decide))
  refine mm_aload_n dX13_init_115 rfl rfl ?_
  refine mm_bipush dX13_init_116 rfl (by decide) ?_
  refine mm_newarr' (n := 197) (t := 0) dX13_init_118 rfl rfl (by decide) rfl rfl ac_0 ⟨by decide, by decide, by decide +kernel, by decide +kernel, by decide +kernel⟩ (fun M118 hM118 => ?_)
  refine mm_putr' dX13_init_120 rfl fl_X13_229 (by first | exact Or.inl ⟨_, rfl⟩ | exact Or.inr ⟨_, rfl⟩) rfl fr_X13 (c := 183) rfl (by decide) rfl rfl (fun M120 hM120 => ?_)
  have I120 : kx_I M M120 198 27 := by rw [hM120, hM118]; exact I112.arr (by decide) (by decide) rfl (by decide +kernel) (fun b => mm_rt_ar (t := 0) rfl (by decide))
  refine mm_aload_n dX13_init_123 rfl rfl ?_
  refine mm_sipush dX13_init_124 rfl (by decide) ?_
  refine mm_newarr' (n := 198) (t := 0) dX13_init_127 rfl rfl (by decide) rfl rfl ac_0 ⟨by decide, by decide, by decide +kernel, by decide +kernel, by decide +kernel⟩ (fun M127 hM127 => ?_)
  refine mm_putr' dX13_init_129 rfl fl_X13_240 (by first | exact Or.inl ⟨_, rfl⟩ | exact Or.inr ⟨_, rfl⟩) rfl fr_X13 (c := 183) rfl (by decide) rfl rfl (fun M129 hM129 => ?_)
  have I129 : kx_I M M129 199 30 := by rw [hM129, hM127]; exact I120.arr (by decide) (by decide) rfl (by decide +kernel) (fun b => mm_rt_ar (t := 0) rfl (by decide))
  refine mm_aload_n dX13_init_132 rfl rfl ?_
  refine mm_sipush dX13_init_133 rfl (by decide) ?_
  refine mm_newarr' (n := 199) (t := 0) dX13_init_136 rfl rfl (by decide) rfl rfl ac_0 ⟨by decide, by decide, by decide +kernel, by decide +kernel, by decide +kernel⟩ (fun M136 hM136 => ?_)
  refine mm_putr' dX13_init_138 rfl fl_X13_243 (by first | exact Or.inl ⟨_, rfl⟩ | exact Or.inr ⟨_, rfl⟩) rfl fr_X13 (c := 183) rfl (by decide) rfl rfl (fun M138 hM138 => ?_)
  have I138 : kx_I M M138 200 31 := by rw [hM138, hM136]; exact I129.arr (by decide) (by decide) rfl (by decide +kernel) (fun b => mm_rt_ar (t := 0) rfl (by decide))
  refine mm_aload_n dX13_init_141 rfl rfl ?_
  refine mm_sipush dX13_init_142 rfl (by decide) ?_
  refine mm_newarr' (n := 200) (t := 0) dX13_init_145 rfl rfl (by decide) rfl rfl ac_0 ⟨by decide, by decide, by decide +kernel, by decide +kernel, by decide +kernel⟩ (fun M145 hM145 => ?_)
  refine mm_putr' dX13_init_147 rfl fl_X13_246 (by first | exact Or.inl ⟨_, rfl⟩ | exact Or.inr ⟨_, rfl⟩) rfl fr_X13 (c := 183) rfl (by decide) rfl rfl (fun M147 hM147 => ?_)
  have I147 : kx_I M M147 201 32 := by rw [hM147, hM145]; exact I138.arr (by decide) (by decide) rfl (by decide +kernel) (fun b => mm_rt_ar (t := 0) rfl (by decide))
  refine mm_aload_n dX13_init_150 rfl rfl ?_
  refine mm_sipush dX13_init_151 rfl (by decide) ?_
  refine mm_newarr' (n := 201) (t := 0) dX13_init_154 rfl rfl (by decide) rfl rfl ac_0 ⟨by decide, by decide, by decide +kernel, by decide +kernel, by decide +kernel⟩ (fun M154 hM154 => ?_)
  refine mm_putr' dX13_init_156 rfl fl_X13_249 (by first | exact Or.inl ⟨_, rfl⟩ | exact Or.inr ⟨_, rfl⟩) rfl fr_X13 (c := 183) rfl (by decide) rfl rfl (fun M156 hM156 => ?_)
  have I156 : kx_I M M156 202 33 := by rw [hM156, hM154]; exact I147.arr (by decide) (by decide) rfl (by decide +kernel) (fun b => mm_rt_ar (t := 0) rfl (by decide))
  refine mm_aload_n dX13_init_159 rfl rfl ?_
  refine mm_sipush dX13_init_160 rfl (by decide) ?_
  refine mm_newarr' (n := 202) (t := 0) dX13_init_163 rfl rfl (by decide) rfl rfl ac_0 ⟨by decide, by decide, by decide +kernel, by decide +kernel, by decide +kernel⟩ (fun M163 hM163 => ?_)
  refine mm_putr' dX13_init_165 rfl fl_X13_252 (by first | exact Or.inl ⟨_, rfl⟩ | exact Or.inr ⟨_, rfl⟩) rfl fr_X13 (c := 183) rfl (by decide) rfl rfl (fun M165 hM165 => ?_)
  have I165 : kx_I M M165 203 34 := by rw [hM165, hM163]; exact I156.arr (by decide) (by decide) rfl (by decide +kernel) (fun b => mm_rt_ar (t := 0) rfl (by decide))
  refine mm_aload_n dX13_init_168 rfl rfl ?_
  refine mm_bipush dX13_init_169 rfl (by decide) ?_
  refine mm_newarr' (n := 203) (t := 0) dX13_init_171 rfl rfl (by decide) rfl rfl ac_0 ⟨by decide, by decide, by decide +kernel, by decide +kernel, by decide +kernel⟩ (fun M171 hM171 => ?_)
  refine mm_putr' dX13_init_173 rfl fl_X13_255 (by first | exact Or.inl ⟨_, rfl⟩ | exact Or.inr ⟨_, rfl⟩) rfl fr_X13 (c := 183) rfl (by decide) rfl rfl (fun M173 hM173 => ?_)
  have I173 : kx_I M M173 204 35 := by rw [hM173, hM171]; exact I165.arr (by decide) (by decide) rfl (by decide +kernel) (fun b => mm_rt_ar (t := 0) rfl (by decide))
  refine mm_aload_n dX13_init_176 rfl rfl ?_
  refine mm_bipush dX13_init_177 rfl (by decide) ?_
  refine mm_newarr' (n := 204) (t := 0) dX13_init_179 rfl rfl (by decide) rfl rfl ac_0 ⟨by decide, by decide, by decide +kernel, by decide +kernel, by decide +kernel⟩ (fun M179 hM179 => ?_)
  refine mm_putr' dX13_init_181 rfl fl_X13_258 (by first | exact Or.inl ⟨_, rfl⟩ | exact Or.inr ⟨_, rfl⟩) rfl fr_X13 (c := 183) rfl (by decide) rfl rfl (fun M181 hM181 => ?_)
  have I181 : kx_I M M181 205 36 := by rw [hM181, hM179]; exact I173.arr (by decide) (by decide) rfl (by decide +kernel) (fun b => mm_rt_ar (t := 0) rfl (by decide))
  refine mm_aload_n dX13_init_184 rfl rfl ?_
  refine mm_sipush dX13_init_185 rfl (by decide) ?_
  refine mm_newarr' (n := 205) (t := 2) dX13_init_188 rfl rfl (by decide) rfl rfl ac_2 ⟨by decide, by decide, by decide +kernel, by decide +kernel, by decide +kernel⟩ (fun M188 hM188 => ?_)
  refine mm_putr' dX13_init_190 rfl fl_X13_261 (by first | exact Or.inl ⟨_, rfl⟩ | exact Or.inr ⟨_, rfl⟩) rfl fr_X13 (c := 183) rfl (by decide) rfl rfl (fun M190 hM190 => ?_)
  have I190 : kx_I M M190 206 37 := by rw [hM190, hM188]; exact I181.arr (by decide) (by decide) rfl (by decide +kernel) (fun b => mm_rt_ar (t := 2) rfl (by decide))
  refine mm_aload_n dX13_init_193 rfl rfl ?_
  refine mm_sipush dX13_init_194 rfl (by decide) ?_
  refine mm_newarr' (n := 206) (t := 0) dX13_init_197 rfl rfl (by decide) rfl rfl ac_0 ⟨by decide, by decide, by decide +kernel, by decide +kernel, by decide +kernel⟩ (fun M197 hM197 => ?_)
  refine mm_putr' dX13_init_199 rfl fl_X13_264 (by first | exact Or.inl ⟨_, rfl⟩ | exact Or.inr ⟨_, rfl⟩) rfl fr_X13 (c := 183) rfl (by decide) rfl rfl (fun M199 hM199 => ?_)
  have I199 : kx_I M M199 207 38 := by rw [hM199, hM197]; exact I190.arr (by decide) (by decide) rfl (by decide +kernel) (fun b => mm_rt_ar (t := 0) rfl (by decide))
  refine mm_aload_n dX13_init_202 rfl rfl ?_
  refine mm_ldcw dX13_init_203 rfl kc_X13_267 ?_
  refine mm_newarr' (n := 207) (t := 3) dX13_init_206 rfl rfl (by decide) rfl rfl ac_3 ⟨by decide, by decide, by decide +kernel, by decide +kernel, by decide +kernel⟩ (fun M206 hM206 => ?_)
  refine mm_putr' dX13_init_208 rfl fl_X13_268 (by first | exact Or.inl ⟨_, rfl⟩ | exact Or.inr ⟨_, rfl⟩) rfl fr_X13 (c := 183) rfl (by decide) rfl rfl (fun M208 hM208 => ?_)
  have I208 : kx_I M M208 208 39 := by rw [hM208, hM206]; exact I199.arr (by decide) (by decide) rfl (by decide +kernel) (fun b => mm_rt_ar (t := 3) rfl (by decide))
  refine mm_aload_n dX13_init_211 rfl rfl ?_
  refine mm_sipush dX13_init_212 rfl (by decide) ?_
  refine mm_newarr' (n := 208) (t := 3) dX13_init_215 rfl rfl (by decide) rfl rfl ac_3 ⟨by decide, by decide, by decide +kernel, by decide +kernel, by decide +kernel⟩ (fun M215 hM215 => ?_)
  refine mm_putr' dX13_init_217 rfl fl_X13_272 (by first | exact Or.inl ⟨_, rfl⟩ | exact Or.inr ⟨_, rfl⟩) rfl fr_X13 (c := 183) rfl (by decide) rfl rfl (fun M217 hM217 => ?_)
  have I217 : kx_I M M217 209 42 := by rw [hM217, hM215]; exact I208.arr (by decide) (by decide) rfl (by decide +kernel) (fun b => mm_rt_ar (t := 3) rfl (by decide))
  refine mm_aload_n dX13_init_220 rfl rfl ?_
  refine mm_sipush dX13_init_221 rfl (by decide) ?_
  refine mm_newarr' (n := 209) (t := 0) dX13_init_224 rfl rfl (by decide) rfl rfl ac_0 ⟨by decide, by decide, by decide +kernel, by decide +kernel, by decide +kernel⟩ (fun M224 hM224 => ?_)
  refine mm_putr' dX13_init_226 rfl fl_X13_274 (by first | exact Or.inl ⟨_, rfl⟩ | exact Or.inr ⟨_, rfl⟩) rfl fr_X13 (c := 183) rfl (by decide) rfl rfl (fun M226 hM226 => ?_)
  have I226 : kx_I M M226 210 43 := by rw [hM226, hM224]; exact I217.arr (by decide) (by decide) rfl (by decide +kernel) (fun b => mm_rt_ar (t := 0) rfl (by decide))
  refine mm_aload_n dX13_init_229 rfl rfl ?_
  refine mm_sipush dX13_init_230 rfl (by decide) ?_
  refine mm_newarr' (n := 210) (t := 0) dX13_init_233 rfl rfl (by decide) rfl rfl ac_0 ⟨by decide, by decide, by decide +kernel, by decide +kernel, by decide +kernel⟩ (fun M233 hM233 => ?_)
  refine mm_putr' dX13_init_235 rfl fl_X13_277 (by first | exact Or.inl ⟨_, rfl⟩ | exact Or.inr ⟨_, rfl⟩) rfl fr_X13 (c := 183) rfl (by decide) rfl rfl (fun M235 hM235 => ?_)
  have I235 : kx_I M M235 211 44 := by rw [hM235, hM233]; exact I226.arr (by decide) (by decide) rfl (by decide +kernel) (fun b => mm_rt_ar (t := 0) rfl (by decide))
  refine mm_aload_n dX13_init_238 rfl rfl ?_
  refine mm_sipush dX13_init_239 rfl (by decide) ?_
  refine mm_newarr' (n := 211) (t := 0) dX13_init_242 rfl rfl (by decide) rfl rfl ac_0 ⟨by decide, by decide, by decide +kernel, by decide +kernel, by decide +kernel⟩ (fun M242 hM242 => ?_)
  refine mm_putr' dX13_init_244 rfl fl_X13_280 (by first | exact Or.inl ⟨_, rfl⟩ | exact Or.inr ⟨_, rfl⟩) rfl fr_X13 (c := 183) rfl (by decide) rfl rfl (fun M244 hM244 => ?_)
  have I244 : kx_I M M244 212 45 := by rw [hM244, hM242]; exact I235.arr (by decide) (by decide) rfl (by decide +kernel) (fun b => mm_rt_ar (t := 0) rfl (by decide))
  refine mm_aload_n dX13_init_247 rfl rfl ?_
  refine mm_sipush dX13_init_248 rfl (by decide) ?_
  refine mm_newarr' (n := 212) (t := 0) dX13_init_251 rfl rfl (by decide) rfl rfl ac_0 ⟨by decide, by decide, by decide +kernel, by decide +kernel, by decide +kernel⟩ (fun M251 hM251 => ?_)
  refine mm_putr' dX13_init_253 rfl fl_X13_283 (by first | exact Or.inl ⟨_, rfl⟩ | exact Or.inr ⟨_, rfl⟩) rfl fr_X13 (c := 183) rfl (by decide) rfl rfl (fun M253 hM253 => ?_)
  have I253 : kx_I M M253 213 46 := by rw [hM253, hM251]; exact I244.arr (by decide) (by decide) rfl (by decide +kernel) (fun b => mm_rt_ar (t := 0) rfl (by decide))
  refine mm_aload_n dX13_init_256 rfl rfl ?_
  refine mm_sipush dX13_init_257 rfl (by decide) ?_
  refine mm_newarr' (n := 213) (t := 0) dX13_init_260 rfl rfl (by decide) rfl rfl ac_0 ⟨by decide, by decide, by decide +kernel, by decide +kernel, by decide +kernel⟩ (fun M260 hM260 => ?_)
  refine mm_putr' dX13_init_262 rfl fl_X13_286 (by first | exact Or.inl ⟨_, rfl⟩ | exact Or.inr ⟨_, rfl⟩) rfl fr_X13 (c := 183) rfl (by decide) rfl rfl (fun M262 hM262 => ?_)
  have I262 : kx_I M M262 214 50 := by rw [hM262, hM260]; exact I253.arr (by decide) (by decide) rfl (by decide +kernel) (fun b => mm_rt_ar (t := 0) rfl (by decide))
  refine mm_aload_n dX13_init_265 rfl rfl ?_
  refine mm_sipush dX13_init_266 rfl (by decide) ?_
  refine mm_newarr' (n := 214) (t := 0) dX13_init_269 rfl rfl (by decide) rfl rfl ac_0 ⟨by decide, by decide, by decide +kernel, by decide +kernel, by decide +kernel⟩ (fun M269 hM269 => ?_)
  refine mm_putr' dX13_init_271 rfl fl_X13_289 (by first | exact Or.inl ⟨_, rfl⟩ | exact Or.inr ⟨_, rfl⟩) rfl fr_X13 (c := 183) rfl (by decide) rfl rfl (fun M271 hM271 => ?_)
  have I271 : kx_I M M271 215 54 := by rw [hM271, hM269]; exact I262.arr (by decide) (by decide) rfl (by decide +kernel) (fun b => mm_rt_ar (t := 0) rfl (by decide))
  refine mm_aload_n dX13_init_274 rfl rfl ?_
  refine mm_bipush dX13_init_275 rfl (by decide) ?_
  refine mm_newarr' (n := 215) (t := 0) dX13_init_277 rfl rfl (by decide) rfl rfl ac_0 ⟨by decide, by decide, by decide +kernel, by decide +kernel, by decide +kernel⟩ (fun M277 hM277 => ?_)
  refine mm_putr' dX13_init_279 rfl fl_X13_292 (by first | exact Or.inl ⟨_, rfl⟩ | exact Or.inr ⟨_, rfl⟩) rfl fr_X13 (c := 183) rfl (by decide) rfl rfl (fun M279 hM279 => ?_)
  have I279 : kx_I M M279 216 64 := by rw [hM279, hM277]; exact I271.arr (by decide) (by decide) rfl (by decide +kernel) (fun b => mm_rt_ar (t := 0) rfl (by decide))
  refine mm_aload_n dX13_init_282 rfl rfl ?_
  refine mm_bipush dX13_init_283 rfl (by decide) ?_
  refine mm_newarr' (n := 216) (t := 0) dX13_init_285 rfl rfl (by decide) rfl rfl ac_0 ⟨by decide, by decide, by decide +kernel, by decide +kernel, by decide +kernel⟩ (fun M285 hM285 => ?_)
  refine mm_putr' dX13_init_287 rfl fl_X13_295 (by first | exact Or.inl ⟨_, rfl⟩ | exact Or.inr ⟨_, rfl⟩) rfl fr_X13 (c := 183) rfl (by decide) rfl rfl (fun M287 hM287 => ?_)
  have I287 : kx_I M M287 217 65 := by rw [hM287, hM285]; exact I279.arr (by decide) (by decide) rfl (by decide +kernel) (fun b => mm_rt_ar (t := 0) rfl (by decide))
  refine mm_aload_n dX13_init_290 rfl rfl ?_
  refine mm_bipush dX13_init_291 rfl (by decide) ?_
  refine mm_newarr' (n := 217) (t := 0) dX13_init_293 rfl rfl (by decide) rfl rfl ac_0 ⟨by decide, by decide, by decide +kernel, by decide +kernel, by decide +kernel⟩ (fun M293 hM293 => ?_)
  refine mm_putr' dX13_init_295 rfl fl_X13_298 (by first | exact Or.inl ⟨_, rfl⟩ | exact Or.inr ⟨_, rfl⟩) rfl fr_X13 (c := 183) rfl (by decide) rfl rfl (fun M295 hM295 => ?_)
  have I295 : kx_I M M295 218 66 := by rw [hM295, hM293]; exact I287.arr (by decide) (by decide) rfl (by decide +kernel) (fun b => mm_rt_ar (t := 0) rfl (by decide))
  refine mm_aload_n dX13_init_298 rfl rfl ?_
  refine mm_bipush dX13_init_299 rfl (by decide) ?_
  refine mm_newarr' (n := 218) (t := 0) dX13_init_301 rfl rfl (by decide) rfl rfl ac_0 ⟨by decide, by decide, by decide +kernel, by decide +kernel, by decide +kernel⟩ (fun M301 hM301 => ?_)
  refine mm_putr' dX13_init_303 rfl fl_X13_301 (by first | exact Or.inl ⟨_, rfl⟩ | exact Or.inr ⟨_, rfl⟩) rfl fr_X13 (c := 183) rfl (by decide) rfl rfl (fun M303 hM303 => ?_)
  have I303 : kx_I M M303 219 67 := by rw [hM303, hM301]; exact I295.arr (by decide) (by decide) rfl (by decide +kernel) (fun b => mm_rt_ar (t := 0) rfl (by decide))
  refine mm_aload_n dX13_init_306 rfl rfl ?_
  refine mm_sipush dX13_init_307 rfl (by decide) ?_
  refine mm_newarr' (n := 219) (t := 0) dX13_init_310 rfl rfl (by decide) rfl rfl ac_0 ⟨by decide, by decide, by decide +kernel, by decide +kernel, by decide +kernel⟩ (fun M310 hM310 => ?_)
  refine mm_putr' dX13_init_312 rfl fl_X13_304 (by first | exact Or.inl ⟨_, rfl⟩ | exact Or.inr ⟨_, rfl⟩) rfl fr_X13 (c := 183) rfl (by decide) rfl rfl (fun M312 hM312 => ?_)
  have I312 : kx_I M M312 220 68 := by rw [hM312, hM310]; exact I303.arr (by decide) (by decide) rfl (by decide +kernel) (fun b => mm_rt_ar (t := 0) rfl (by decide))
  refine mm_aload_n dX13_init_315 rfl rfl ?_
  refine mm_sipush dX13_init_316 rfl (by decide) ?_
  refine mm_newarr' (n := 220) (t := 0) dX13_init_319 rfl rfl (by decide) rfl rfl ac_0 ⟨by decide, by decide, by decide +kernel, by decide +kernel, by decide +kernel⟩ (fun M319 hM319 => ?_)
  refine mm_putr' dX13_init_321 rfl fl_X13_307 (by first | exact Or.inl ⟨_, rfl⟩ | exact Or.inr ⟨_, rfl⟩) rfl fr_X13 (c := 183) rfl (by decide) rfl rfl (fun M321 hM321 => ?_)
  have I321 : kx_I M M321 221 74 := by rw [hM321, hM319]; exact I312.arr (by decide) (by decide) rfl (by decide +kernel) (fun b => mm_rt_ar (t := 0) rfl (by decide))
  refine mm_aload_n dX13_init_324 rfl rfl ?_
  refine mm_sipush dX13_init_325 rfl (by decide) ?_
  refine mm_newarr' (n := 221) (t := 0) dX13_init_328 rfl rfl (by decide) rfl rfl ac_0 ⟨by decide, by decide, by decide +kernel, by decide +kernel, by decide +kernel⟩ (fun M328 hM328 => ?_)
  refine mm_putr' dX13_init_330 rfl fl_X13_310 (by first | exact Or.inl ⟨_, rfl⟩ | exact Or.inr ⟨_, rfl⟩) rfl fr_X13 (c := 183) rfl (by decide) rfl rfl (fun M330 hM330 => ?_)
  have I330 : kx_I M M330 222 75 := by rw [hM330, hM328]; exact I321.arr (by decide) (by decide) rfl (by decide +kernel) (fun b => mm_rt_ar (t := 0) rfl (by decide))
  refine mm_aload_n dX13_init_333 rfl rfl ?_
  refine mm_bipush dX13_init_334 rfl (by decide) ?_
  refine mm_newarr' (n := 222) (t := 3) dX13_init_336 rfl rfl (by decide) rfl rfl ac_3 ⟨by decide, by decide, by decide +kernel, by decide +kernel, by decide +kernel⟩ (fun M336 hM336 => ?_)
  refine mm_putr' dX13_init_338 rfl fl_X13_313 (by first | exact Or.inl ⟨_, rfl⟩ | exact Or.inr ⟨_, rfl⟩) rfl fr_X13 (c := 183) rfl (by decide) rfl rfl (fun M338 hM338 => ?_)
  have I338 : kx_I M M338 223 81 := by rw [hM338, hM336]; exact I330.arr (by decide) (by decide) rfl (by decide +kernel) (fun b => mm_rt_ar (t := 3) rfl (by decide))
  refine mm_aload_n dX13_init_341 rfl rfl ?_
  refine mm_bipush dX13_init_342 rfl (by decide) ?_
  refine mm_newarr' (n := 223) (t := 0) dX13_init_344 rfl rfl (by decide) rfl rfl ac_0 ⟨by decide, by decide, by decide +kernel, by decide +kernel, by decide +kernel⟩ (fun M344 hM344 => ?_)
  refine mm_putr' dX13_init_346 rfl fl_X13_316 (by first | exact Or.inl ⟨_, rfl⟩ | exact Or.inr ⟨_, rfl⟩) rfl fr_X13 (c := 183) rfl (by decide) rfl rfl (fun M346 hM346 => ?_)
  have I346 : kx_I M M346 224 82 := by rw [hM346, hM344]; exact I338.arr (by decide) (by decide) rfl (by decide +kernel) (fun b => mm_rt_ar (t := 0) rfl (by decide))
  refine mm_aload_n dX13_init_349 rfl rfl ?_
  refine mm_bipush dX13_init_350 rfl (by decide) ?_
  refine mm_newarr' (n := 224) (t := 3) dX13_init_352 rfl rfl (by decide) rfl rfl ac_3 ⟨by decide, by decide, by decide +kernel, by decide +kernel, by decide +kernel⟩ (fun M352 hM352 => ?_)
  refine mm_putr' dX13_init_354 rfl fl_X13_319 (by first | exact Or.inl ⟨_, rfl⟩ | exact Or.inr ⟨_, rfl⟩) rfl fr_X13 (c := 183) rfl (by decide) rfl rfl (fun M354 hM354 => ?_)
  have I354 : kx_I M M354 225 83 := by rw [hM354, hM352]; exact I346.arr (by decide) (by decide) rfl (by decide +kernel) (fun b => mm_rt_ar (t := 3) rfl (by decide))
  refine mm_aload_n dX13_init_357 rfl rfl ?_
  refine mm_bipush dX13_init_358 rfl (by decide) ?_
  refine mm_newarr' (n := 225) (t := 3) dX13_init_360 rfl rfl (by decide) rfl rfl ac_3 ⟨by decide, by decide, by decide +kernel, by decide +kernel, by decide +kernel⟩ (fun M360 hM360 => ?_)
  refine mm_putr' dX13_init_362 rfl fl_X13_322 (by first | exact Or.inl ⟨_, rfl⟩ | exact Or.inr ⟨_, rfl⟩) rfl fr_X13 (c := 183) rfl (by decide) rfl rfl (fun M362 hM362 => ?_)
  have I362 : kx_I M M362 226 84 := by rw [hM362, hM360]; exact I354.arr (by decide) (by decide) rfl (by decide +kernel) (fun b => mm_rt_ar (t := 3) rfl (by decide))
  refine mm_aload_n dX13_init_365 rfl rfl ?_
  refine mm_iconst dX13_init_366 rfl ?_
  refine mm_puti dX13_init_367 rfl fl_X13_325 (c := 183) rfl (by decide) rfl rfl (fun M367 hM367 => ?_)
  have I367 : kx_I M M367 226 85 := by rw [hM367]; exact I362.int (by decide) rfl (by decide +kernel)
  refine mm_aload_n dX13_init_370 rfl rfl ?_
  refine mm_bipush dX13_init_371 rfl (by decide) ?_
  refine mm_newarr' (n := 226) (t := 0) dX13_init_373 rfl rfl (by decide) rfl rfl ac_0 ⟨by decide, by decide, by decide +kernel, by decide +kernel, by decide +kernel⟩ (fun M373 hM373 => ?_)
  refine mm_putr' dX13_init_375 rfl fl_X13_328 (by first | exact Or.inl ⟨_, rfl⟩ | exact Or.inr ⟨_, rfl⟩) rfl fr_X13 (c := 183) rfl (by decide) rfl rfl (fun M375 hM375 => ?_)
  have I375 : kx_I M M375 227 87 := by rw [hM375, hM373]; exact I367.arr (by decide) (by decide) rfl (by decide +kernel) (fun b => mm_rt_ar (t := 0) rfl (by decide))
  refine mm_aload_n dX13_init_378 rfl rfl ?_
  refine mm_bipush dX13_init_379 rfl (by decide) ?_
  refine mm_newarr' (n := 227) (t := 0) dX13_init_381 rfl rfl (by decide) rfl rfl ac_0 ⟨by decide, by decide, by decide +kernel, by decide +kernel, by decide +kernel⟩ (fun M381 hM381 => ?_)
  refine mm_putr' dX13_init_383 rfl fl_X13_331 (by first | exact Or.inl ⟨_, rfl⟩ | exact Or.inr ⟨_, rfl⟩) rfl fr_X13 (c := 183) rfl (by decide) rfl rfl (fun M383 hM383 => ?_)
  have I383 : kx_I M M383 228 88 := by rw [hM383, hM381]; exact I375.arr (by decide) (by decide) rfl (by decide +kernel) (fun b => mm_rt_ar (t := 0) rfl (by decide))
  refine mm_aload_n dX13_init_386 rfl rfl ?_
  refine mm_bipush dX13_init_387 rfl (by decide) ?_
  refine mm_newarr' (n := 228) (t := 0) dX13_init_389 rfl rfl (by decide) rfl rfl ac_0 ⟨by decide, by decide, by decide +kernel, by decide +kernel, by decide +kernel⟩ (fun M389 hM389 => ?_)
  refine mm_putr' dX13_init_391 rfl fl_X13_334 (by first | exact Or.inl ⟨_, rfl⟩ | exact Or.inr ⟨_, rfl⟩) rfl fr_X13 (c := 183) rfl (by decide) rfl rfl (fun M391 hM391 => ?_)
  have I391 : kx_I M M391 229 91 := by rw [hM391, hM389]; exact I383.arr (by decide) (by decide) rfl (by decide +kernel) (fun b => mm_rt_ar (t := 0) rfl (by decide))
  refine mm_aload_n dX13_init_394 rfl rfl ?_
  refine mm_bipush dX13_init_395 rfl (by decide) ?_
  refine mm_newarr' (n := 229) (t := 2) dX13_init_397 rfl rfl (by decide) rfl rfl ac_2 ⟨by decide, by decide, by decide +kernel, by decide +kernel, by decide +kernel⟩ (fun M397 hM397 => ?_)
  refine mm_putr' dX13_init_399 rfl fl_X13_337 (by first | exact Or.inl ⟨_, rfl⟩ | exact Or.inr ⟨_, rfl⟩) rfl fr_X13 (c := 183) rfl (by decide) rfl rfl (fun M399 hM399 => ?_)
  have I399 : kx_I M M399 230 92 := by rw [hM399, hM397]; exact I391.arr (by decide) (by decide) rfl (by decide +kernel) (fun b => mm_rt_ar (t := 2) rfl (by decide))
  refine mm_aload_n dX13_init_402 rfl rfl ?_
  refine mm_bipush dX13_init_403 rfl (by decide) ?_
  refine mm_newarr' (n := 230) (t := 0) dX13_init_405 rfl rfl (by decide) rfl rfl ac_0 ⟨by decide, by decide, by decide +kernel, by decide +kernel, by decide +kernel⟩ (fun M405 hM405 => ?_)
  refine mm_putr' dX13_init_407 rfl fl_X13_340 (by first | exact Or.inl ⟨_, rfl⟩ | exact Or.inr ⟨_, rfl⟩) rfl fr_X13 (c := 183) rfl (by decide) rfl rfl (fun M407 hM407 => ?_)
  have I407 : kx_I M M407 231 94 := by rw [hM407, hM405]; exact I399.arr (by decide) (by decide) rfl (by decide +kernel) (fun b => mm_rt_ar (t := 0) rfl (by decide))
  refine mm_aload_n dX13_init_410 rfl rfl ?_
  refine mm_bipush dX13_init_411 rfl (by decide) ?_
  refine mm_newarr' (n := 231) (t := 0) dX13_init_413 rfl rfl (by decide) rfl rfl ac_0 ⟨by decide, by decide, by decide +kernel, by decide +kernel, by decide +kernel⟩ (fun M413 hM413 => ?_)
  refine mm_putr' dX13_init_415 rfl fl_X13_343 (by first | exact Or.inl ⟨_, rfl⟩ | exact Or.inr ⟨_, rfl⟩) rfl fr_X13 (c := 183) rfl (by decide) rfl rfl (fun M415 hM415 => ?_)
  have I415 : kx_I M M415 232 95 := by rw [hM415, hM413]; exact I407.arr (by decide) (by decide) rfl (by decide +kernel) (fun b => mm_rt_ar (t := 0) rfl (by decide))
  refine mm_aload_n dX13_init_418 rfl rfl ?_
  refine mm_bipush dX13_init_419 rfl (by decide) ?_
  refine mm_newarr' (n := 232) (t := 0) dX13_init_421 rfl rfl (by decide) rfl rfl ac_0 ⟨by decide, by decide, by decide +kernel, by decide +kernel, by decide +kernel⟩ (fun M421 hM421 => ?_)
  refine mm_putr' dX13_init_423 rfl fl_X13_346 (by first | exact Or.inl ⟨_, rfl⟩ | exact Or.inr ⟨_, rfl⟩) rfl fr_X13 (c := 183) rfl (by decide) rfl rfl (fun M423 hM423 => ?_)
  have I423 : kx_I M M423 233 96 := by rw [hM423, hM421]; exact I415.arr (by decide) (by decide) rfl (by decide +kernel) (fun b => mm_rt_ar (t := 0) rfl (by decide))
  refine mm_aload_n dX13_init_426 rfl rfl ?_
  refine mm_bipush dX13_init_427 rfl (by decide) ?_
  refine mm_puti dX13_init_429 rfl fl_X13_349 (c := 183) rfl (by decide) rfl rfl (fun M429 hM429 => ?_)
  have I429 : kx_I M M429 233 97 := by rw [hM429]; exact I423.int (by decide) rfl (by decide +kernel)
  refine mm_aload_n dX13_init_432 rfl rfl ?_
  refine mm_bipush dX13_init_433 rfl (by decide) ?_
  refine mm_newarr' (n := 233) (t := 0) dX13_init_435 rfl rfl (by decide) rfl rfl ac_0 ⟨by decide, by decide, by decide +kernel, by decide +kernel, by decide +kernel⟩ (fun M435 hM435 => ?_)
  refine mm_putr' dX13_init_437 rfl fl_X13_352 (by first | exact Or.inl ⟨_, rfl⟩ | exact Or.inr ⟨_, rfl⟩) rfl fr_X13 (c := 183) rfl (by decide) rfl rfl (fun M437 hM437 => ?_)
  have I437 : kx_I M M437 234 101 := by rw [hM437, hM435]; exact I429.arr (by decide) (by decide) rfl (by decide +kernel) (fun b => mm_rt_ar (t := 0) rfl (by decide))
  refine mm_aload_n dX13_init_440 rfl rfl ?_
  refine mm_bipush dX13_init_441 rfl (by decide) ?_
  refine mm_newarr' (n := 234) (t := 0) dX13_init_443 rfl rfl (by decide) rfl rfl ac_0 ⟨by decide, by decide, by decide +kernel, by decide +kernel, by decide +kernel⟩ (fun M443 hM443 => ?_)
  refine mm_putr' dX13_init_445 rfl fl_X13_355 (by first | exact Or.inl ⟨_, rfl⟩ | exact Or.inr ⟨_, rfl⟩) rfl fr_X13 (c := 183) rfl (by decide) rfl rfl (fun M445 hM445 => ?_)
  have I445 : kx_I M M445 235 102 := by rw [hM445, hM443]; exact I437.arr (by decide) (by decide) rfl (by decide +kernel) (fun b => mm_rt_ar (t := 0) rfl (by decide))
  refine mm_aload_n dX13_init_448 rfl rfl ?_
  refine mm_bipush dX13_init_449 rfl (by decide) ?_
  refine mm_newarr' (n := 235) (t := 0) dX13_init_451 rfl rfl (by decide) rfl rfl ac_0 ⟨by decide, by decide, by decide +kernel, by decide +kernel, by decide +kernel⟩ (fun M451 hM451 => ?_)
  refine mm_putr' dX13_init_453 rfl fl_X13_358 (by first | exact Or.inl ⟨_, rfl⟩ | exact Or.inr ⟨_, rfl⟩) rfl fr_X13 (c := 183) rfl (by decide) rfl rfl (fun M453 hM453 => ?_)
  have I453 : kx_I M M453 236 103 := by rw [hM453, hM451]; exact I445.arr (by decide) (by decide) rfl (by decide +kernel) (fun b => mm_rt_ar (t := 0) rfl (by decide))
  refine mm_aload_n dX13_init_456 rfl rfl ?_
  refine mm_bipush dX13_init_457 rfl (by decide) ?_
  refine mm_newarr' (n := 236) (t := 0) dX13_init_459 rfl rfl (by decide) rfl rfl ac_0 ⟨by decide, by decide, by decide +kernel, by decide +kernel, by decide +kernel⟩ (fun M459 hM459 => ?_)
  refine mm_putr' dX13_init_461 rfl fl_X13_361 (by first | exact Or.inl ⟨_, rfl⟩ | exact Or.inr ⟨_, rfl⟩) rfl fr_X13 (c := 183) rfl (by decide) rfl rfl (fun M461 hM461 => ?_)
  have I461 : kx_I M M461 237 104 := by rw [hM461, hM459]; exact I453.arr (by decide) (by decide) rfl (by decide +kernel) (fun b => mm_rt_ar (t := 0) rfl (by decide))
  refine mm_aload_n dX13_init_464 rfl rfl ?_
  refine mm_bipush dX13_init_465 rfl (by decide) ?_
  refine mm_newarr' (n := 237) (t := 0) dX13_init_467 rfl rfl (by decide) rfl rfl ac_0 ⟨by decide, by decide, by decide +kernel, by decide +kernel, by decide +kernel⟩ (fun M467 hM467 => ?_)
  refine mm_putr' dX13_init_469 rfl fl_X13_364 (by first | exact Or.inl ⟨_, rfl⟩ | exact Or.inr ⟨_, rfl⟩) rfl fr_X13 (c := 183) rfl (by decide) rfl rfl (fun M469 hM469 => ?_)
  have I469 : kx_I M M469 238 105 := by rw [hM469, hM467]; exact I461.arr (by decide) (by decide) rfl (by decide +kernel) (fun b => mm_rt_ar (t := 0) rfl (by decide))
  refine mm_aload_n dX13_init_472 rfl rfl ?_
  refine mm_bipush dX13_init_473 rfl (by decide) ?_
  refine mm_newarr' (n := 238) (t := 0) dX13_init_475 rfl rfl (by decide) rfl rfl ac_0 ⟨by decide, by decide, by decide +kernel, by decide +kernel, by decide +kernel⟩ (fun M475 hM475 => ?_)
  refine mm_putr' dX13_init_477 rfl fl_X13_367 (by first | exact Or.inl ⟨_, rfl⟩ | exact Or.inr ⟨_, rfl⟩) rfl fr_X13 (c := 183) rfl (by decide) rfl rfl (fun M477 hM477 => ?_)
  have I477 : kx_I M M477 239 106 := by rw [hM477, hM475]; exact I469.arr (by decide) (by decide) rfl (by decide +kernel) (fun b => mm_rt_ar (t := 0) rfl (by decide))
  refine mm_aload_n dX13_init_480 rfl rfl ?_
  refine mm_bipush dX13_init_481 rfl (by decide) ?_
  refine mm_newarr' (n := 239) (t := 0) dX13_init_483 rfl rfl (by decide) rfl rfl ac_0 ⟨by decide, by decide, by decide +kernel, by decide +kernel, by decide +kernel⟩ (fun M483 hM483 => ?_)
  refine mm_putr' dX13_init_485 rfl fl_X13_370 (by first | exact Or.inl ⟨_, rfl⟩ | exact Or.inr ⟨_, rfl⟩) rfl fr_X13 (c := 183) rfl (by decide) rfl rfl (fun M485 hM485 => ?_)
  have I485 : kx_I M M485 240 107 := by rw [hM485, hM483]; exact I477.arr (by decide) (by decide) rfl (by decide +kernel) (fun b => mm_rt_ar (t := 0) rfl (by decide))
  refine mm_aload_n dX13_init_488 rfl rfl ?_
  refine mm_bipush dX13_init_489 rfl (by decide) ?_
  refine mm_newarr' (n := 240) (t := 0) dX13_init_491 rfl rfl (by decide) rfl rfl ac_0 ⟨by decide, by decide, by decide +kernel, by decide +kernel, by decide +kernel⟩ (fun M491 hM491 => ?_)
  refine mm_putr' dX13_init_493 rfl fl_X13_373 (by first | exact Or.inl ⟨_, rfl⟩ | exact Or.inr ⟨_, rfl⟩) rfl fr_X13 (c := 183) rfl (by decide) rfl rfl (fun M493 hM493 => ?_)
  have I493 : kx_I M M493 241 108 := by rw [hM493, hM491]; exact I485.arr (by decide) (by decide) rfl (by decide +kernel) (fun b => mm_rt_ar (t := 0) rfl (by decide))
  refine mm_aload_n dX13_init_496 rfl rfl ?_
  refine mm_bipush dX13_init_497 rfl (by decide) ?_
  refine mm_newarr' (n := 241) (t := 0) dX13_init_499 rfl rfl (by decide) rfl rfl ac_0 ⟨by decide, by decide, by decide +kernel, by decide +kernel, by decide +kernel⟩ (fun M499 hM499 => ?_)
  refine mm_putr' dX13_init_501 rfl fl_X13_376 (by first | exact Or.inl ⟨_, rfl⟩ | exact Or.inr ⟨_, rfl⟩) rfl fr_X13 (c := 183) rfl (by decide) rfl rfl (fun M501 hM501 => ?_)
  have I501 : kx_I M M501 242 109 := by rw [hM501, hM499]; exact I493.arr (by decide) (by decide) rfl (by decide +kernel) (fun b => mm_rt_ar (t := 0) rfl (by decide))
  refine mm_aload_n dX13_init_504 rfl rfl ?_
  refine mm_bipush dX13_init_505 rfl (by decide) ?_
  refine mm_newarr' (n := 242) (t := 0) dX13_init_507 rfl rfl (by decide) rfl rfl ac_0 ⟨by decide, by decide, by decide +kernel, by decide +kernel, by decide +kernel⟩ (fun M507 hM507 => ?_)
  refine mm_putr' dX13_init_509 rfl fl_X13_379 (by first | exact Or.inl ⟨_, rfl⟩ | exact Or.inr ⟨_, rfl⟩) rfl fr_X13 (c := 183) rfl (by decide) rfl rfl (fun M509 hM509 => ?_)
  have I509 : kx_I M M509 243 110 := by rw [hM509, hM507]; exact I501.arr (by decide) (by decide) rfl (by decide +kernel) (fun b => mm_rt_ar (t := 0) rfl (by decide))
  have hR9 : mm_Rf M509 := I509.rf hM
  refine mm_aload_n dX13_init_512 rfl rfl ?_
  refine mm_V0c dX13_init_513 rfl lk_X13_129 (c := 183) rfl (by decide) rfl ⟨by decide, by decide, by decide, by decide +kernel, by decide +kernel, by decide +kernel⟩  rfl rfl rfl (c_X13_plain hR9) ?_
  rintro _ N513 ⟨rfl, p513⟩
  change mm_J _ _ _ _ _ _ _ _ _ _
  obtain ⟨pR, f1, f2, f3, f4, f5⟩ := p513
  refine mm_aload_n dX13_init_516 rfl rfl ?_
  refine mm_V0c dX13_init_517 rfl lk_X13_382 (c := 183) rfl (by decide) rfl ⟨by decide, by decide, by decide, by decide +kernel, by decide +kernel, by decide +kernel⟩  rfl rfl rfl (c_X13_takeKite pR (by exact (f4 (fun _ => 0)).2.2.2.2.1)) ?_
  rintro _ N517 ⟨rfl, p517⟩
  change mm_J _ _ _ _ _ _ _ _ _ _
  obtain ⟨qR, g1, g2, g3, g4, g5, g6⟩ := p517
  refine mm_iconst dX13_init_520 rfl ?_
  refine mm_istore_n dX13_init_521 rfl (Nat.le_of_ble_eq_true rfl) rfl ?_
  refine kx_now N517 qR Φ ?_ 0 (by omega) _ qR (fun _ _ _ => rfl) (fun b hb => absurd hb (by omega)) (fun _ _ => ⟨rfl, rfl⟩)
  intro N hRN e1 e2 e3
  rw [hΦ]
  obtain ⟨i1, i2, i3, i4⟩ := I509
  have hbd : kq_bd M509 := by
    intro i hi
    rw [i2 189 i (by decide) (by decide), mm_rt_ar (t := 0) rfl (by decide)]
    exact ⟨by decide, by decide⟩
  have hbd2 := f3 hbd
  obtain ⟨k1, k2, k3, k4, k5, k6⟩ := f4 (fun _ => 0)
  refine ⟨rfl, hRN, ?_, ⟨?_, ?_, ?_, ?_, ?_⟩, ?_, e2, ?_, ?_, ?_, ?_, ?_, ?_⟩
  · intro a ha
    rw [e1 a (by omega) (by omega), g1 a (by omega) (by omega) (by omega) (by omega), f1 a (by omega) (by unfold kq_A; omega)]
    exact i1 a ha
  · intro i hi
    rw [e1 186 (by decide) (by decide), g4 i hi]; exact k1 i hi
  · rw [e1 183 (by decide) (by decide), g3]; exact k2
  · rw [e1 188 (by decide) (by decide), g5 0 (by decide), g5 1 (by decide)]
    exact ⟨k4 0 (by decide), k4 1 (by decide)⟩
  · intro i hi
    rw [e1 188 (by decide) (by decide), g5 i hi]; exact hbd2 i hi
  · intro i hi
    rw [e1 190 (by decide) (by decide), g6 i hi, k6 i hi]
    unfold kp_D0
    rw [if_neg (by omega), if_neg (by omega), if_neg (by omega), if_neg (by omega), if_pos (by omega)]
  · intro i hi
    rw [e1 189 (by decide) (by decide), g1 189 (by decide) (by decide) (by decide) (by decide)]; exact hbd2 i hi
  · intro b hb
    rw [(e3 b hb).1, (e3 b hb).2, g1 203 (by decide) (by decide) (by decide) (by decide), g1 204 (by decide) (by decide) (by decide) (by decide), f1 203 (by decide) (by unfold kq_A; omega), f1 204 (by decide) (by unfold kq_A; omega), i2 203 b (by decide) (by decide), i2 204 b (by decide) (by decide), mm_rt_ar (t := 0) rfl (by decide), mm_rt_ar (t := 0) rfl (by decide)]
    exact ⟨rfl, rfl⟩
  · rw [e1 183 (by decide) (by decide), g2 9 (by decide), f2 9 (by unfold kq_S; omega), i3 9 (by decide)]; rfl
  · rw [e1 183 (by decide) (by decide), g2 84 (by decide), f2 84 (by unfold kq_S; omega), i3 84 (by decide)]; rfl
  · rw [e1 183 (by decide) (by decide), g2 96 (by decide), f2 96 (by unfold kq_S; omega), i3 96 (by decide)]; rfl
  · intro b b1 b2 b3 b4
    rw [e1 183 (by decide) (by decide), g2 b (by omega), f2 b (by unfold kq_S; omega)]
    by_cases q : b < 110
    · rw [i3 b q]; unfold kx_v; rw [if_neg b1, if_neg b3, if_neg b4]
    · rw [i4 b (by omega)]
      by_cases z : mm_rt 183 b = 0
      · exact z.symm
      · exact absurd ((kx_big z).2 rfl) q
  · intro a b a1 a2 a3 a4 a5
    rw [e1 a a4 a5, g1 a (by omega) (by omega) (by omega) (by omega), f1 a (by omega) (by unfold kq_A; omega)]
    exact i2 a b a1 a2
end
end
/-! E0.agree -/
section
/-! ===== a kite's numbers, cut to those that count ===== -/
def nK (K : Nat → Int) : Nat → Int := fun i => if i < 11 ∨ (30 ≤ i ∧ i < 36) then K i else if (20 ≤ i ∧ i < 23) ∧ (i : Int) - 20 < K 10 then K i else 0
/-- two kites that are the same as far as it counts -/
def kA (K K' : Nat → Int) : Prop := (∀ i, i < 11 → K i = K' i) ∧ (∀ i : Nat, i < 3 → (i : Int) < K 10 → K (20 + i) = K' (20 + i)) ∧ ∀ i, i < 6 → K (30 + i) = K' (30 + i)
section
variable {K K' : Nat → Int} {s a w h m d p c sl x : Int}
theorem nK_lt {i : Nat} (h : i < 11) : nK K i = K i := if_pos (Or.inl h)
theorem kA.nk (h : kA K K') : nK K = nK K' := by
  obtain ⟨h1, h2, h3⟩ := h
  funext i
  unfold nK
  by_cases q : i < 11 ∨ (30 ≤ i ∧ i < 36)
  · rw [if_pos q, if_pos q]
    rcases q with q | q
    · exact h1 i q
    · have := h3 (i - 30) (by omega)
      rw [show 30 + (i - 30) = i by omega] at this
      exact this
  · rw [if_neg q, if_neg q, ← h1 10 (by decide)]
    by_cases q2 : (20 ≤ i ∧ i < 23) ∧ (i : Int) - 20 < K 10
    · rw [if_pos q2, if_pos q2]
      have := h2 (i - 20) (by omega) (by omega)
      rw [show 20 + (i - 20) = i by omega] at this
      exact this
    · rw [if_neg q2, if_neg q2]
theorem nk_n : ks_n (nK K) = ks_n K := rfl
theorem nk_col : ks_col (nK K) s = ks_col K s := rfl
theorem nk_row : ks_row (nK K) s = ks_row K s := rfl
theorem nk_rope : ks_rope (nK K) s = ks_rope K s := rfl
theorem nk_h : ks_h (nK K) s = ks_h K s := rfl
theorem nk_band : ks_band (nK K) s = ks_band K s := rfl
theorem nk_cm : ks_cm (nK K) s m = ks_cm K s m := rfl
theorem nk_cr : ks_cr (nK K) s d = ks_cr K s d := rfl
theorem nk_can : ks_can (nK K) s a = ks_can K s a := rfl
theorem nk_to : ks_to (nK K) s a = ks_to K s a := rfl
theorem nk_w : ks_w (nK K) d p = ks_w K d p := rfl
theorem nk_in : ks_in (nK K) s a = ks_in K s a := rfl
theorem nk_fate : ks_fate (nK K) p = ks_fate K p := rfl
theorem nk_wi {L : Nat → Int} : ks_wi L (nK K) s h = ks_wi L K s h := rfl
theorem nk_p (hK : mm_KV K) (ha : ks_ac K a) : ks_p (nK K) s a w = ks_p K s a w := by
  have hc := ks_colb hK s
  obtain ⟨h0, -, -, -, -, -, -, -, -, -, h10, -⟩ := id hK
  have e1 : nK K (20 + (a / 15).toNat) = K (20 + (a / 15).toNat) := by
    unfold nK
    rw [if_neg (by omega), if_pos (by omega)]
  have e2 : nK K (30 + (ks_col K s).toNat) = K (30 + (ks_col K s).toNat) := by
    unfold nK
    rw [if_pos (by omega)]
  unfold ks_p ks_pa
  rw [nk_col, e1, e2, nK_lt (by decide)]
theorem nk_run {A : Nat → Int} : ∀ k, kf_run (nK K) s A k = kf_run K s A k
  | 0 => rfl
  | k + 1 => by unfold kf_run; rw [nk_run k]; rfl
theorem nk_safe {Lo Hi : Nat → Int} (hK : mm_KV K) (ha : ks_ac K a) : ks_safe (nK K) Lo Hi s a h = ks_safe K Lo Hi s a h := by
  show (ks_can K s a ∧ ks_bears K (ks_p (nK K) s a (ks_wi Lo K s h)) (ks_p (nK K) s a (ks_wi Hi K s h))) = _
  rw [nk_p hK ha, nk_p hK ha]
theorem nk_sure {Lo Hi : Nat → Int} (hK : mm_KV K) (ha : ks_ac K a) : ks_sure (nK K) Lo Hi s a h = ks_sure K Lo Hi s a h := by
  show ks_w K (ks_dr a) (ks_p (nK K) s a (if ks_dr a = 2 then ks_wi Hi K s h else ks_wi Lo K s h)) = _
  rw [nk_p hK ha]
  rfl
theorem nk_state : kv_state (nK K) s x = kv_state K s x := rfl
theorem nk_leads : kv_leads (nK K) s a = kv_leads K s a := rfl
theorem nk_pull (hK : mm_KV K) : kv_pull (nK K) s a w = kv_pull K s a w := by
  show (if ks_st K s ∧ ks_ac K a ∧ 0 ≤ w ∧ w ≤ 60 then ks_p (nK K) s a w else -2) = _
  unfold kv_pull
  by_cases q : ks_st K s ∧ ks_ac K a ∧ 0 ≤ w ∧ w ≤ 60
  · rw [if_pos q, if_pos q, nk_p hK q.2.1]
  · rw [if_neg q, if_neg q]
theorem nk_kvsafe {Lo Hi : Nat → Int} (hK : mm_KV K) : kv_safe (nK K) Lo Hi s a h = kv_safe K Lo Hi s a h := by
  show (if ks_st K s ∧ ks_ac K a ∧ ks_hr h then mm_b (ks_safe (nK K) Lo Hi s a h) else -2) = _
  unfold kv_safe
  by_cases q : ks_st K s ∧ ks_ac K a ∧ ks_hr h
  · rw [if_pos q, if_pos q]
    have e := nk_safe (s := s) (h := h) (Lo := Lo) (Hi := Hi) hK q.2.1
    by_cases z : ks_safe K Lo Hi s a h
    · rw [mm_b_t z, mm_b_t (e.mpr z)]
    · rw [mm_b_f z, mm_b_f (fun y => z (e.mp y))]
  · rw [if_neg q, if_neg q]
theorem nk_gives {Lo Hi : Nat → Int} (hK : mm_KV K) : kv_gives (nK K) Lo Hi s a h = kv_gives K Lo Hi s a h := by
  show (if ks_st K s ∧ ks_ac K a ∧ ks_hr h then ks_sure (nK K) Lo Hi s a h else -100000000) = _
  unfold kv_gives
  by_cases q : ks_st K s ∧ ks_ac K a ∧ ks_hr h
  · rw [if_pos q, if_pos q, nk_sure hK q.2.1]
  · rw [if_neg q, if_neg q]
theorem nk_pulls {Lo : Nat → Int} {sh : Int} (hK : mm_KV K) : kv_pulls (nK K) Lo sh s a h = kv_pulls K Lo sh s a h := by
  show (if ks_st K s ∧ ks_ac K a ∧ ks_hr h then ks_p (nK K) s a (ks_wi Lo K s h * sh / 10) else -2) = _
  unfold kv_pulls
  by_cases q : ks_st K s ∧ ks_ac K a ∧ ks_hr h
  · rw [if_pos q, if_pos q, nk_p hK q.2.1]
  · rw [if_neg q, if_neg q]
theorem nk_told (hK : mm_KV K) : ks_told (nK K) x = ks_told K x := by
  show (if (0 ≤ x ∧ x ≤ 10) ∨ (20 ≤ x ∧ x - 20 < K 10) ∨ (30 ≤ x ∧ x - 30 < K 0) then nK K x.toNat else -1) = _
  obtain ⟨h0, -, -, -, -, -, -, -, -, -, h10, -⟩ := id hK
  unfold ks_told
  by_cases q : (0 ≤ x ∧ x ≤ 10) ∨ (20 ≤ x ∧ x - 20 < K 10) ∨ (30 ≤ x ∧ x - 30 < K 0)
  · rw [if_pos q, if_pos q]
    unfold nK
    rcases q with q | q | q
    · rw [if_pos (by omega)]
    · rw [if_neg (by omega), if_pos (by omega)]
    · rw [if_pos (by omega)]
  · rw [if_neg q, if_neg q]
end
end
