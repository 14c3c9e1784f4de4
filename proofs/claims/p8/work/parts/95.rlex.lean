/-! ===== the token at hand, of the reference ===== -/
theorem kt_le_m {b : Int} (h : -128 ≤ b ∧ b ≤ 127) : kt_le (b % 256) = kt_le b := by
  unfold kt_le
  rw [decide_eq_decide]
  omega
theorem kt_di_m {b : Int} (h : -128 ≤ b ∧ b ≤ 127) : kt_di (b % 256) = kt_di b := by
  unfold kt_di
  rw [decide_eq_decide]
  omega
/-- the reference's tape as it is read -/
def mm_RT (M : mm_M) (n : Nat) : Prop := M 183 3 = (n : Int) ∧ n ≤ 800 ∧ ∀ k : Nat, k < 800 → -128 ≤ M 185 k ∧ M 185 k ≤ 127
/-- what scan leaves -/
def kt_R (M M' : mm_M) (n p : Nat) : Prop := (∀ a, a ≠ 183 → M' a = M a) ∧ (∀ b, ¬ (4 ≤ b ∧ b ≤ 7) → M' 183 b = M 183 b) ∧ M' 183 6 = kt_k (M 185) n p ∧ M' 183 4 = (kt_s (M 185) n p : Int) ∧ M' 183 5 = (kt_e (M 185) n p : Int) ∧ (kt_k (M 185) n p = 2 → M' 183 7 = kt_v (M 185) n p)
/-- the token at hand is the one behind p -/
def kt_H (M : mm_M) (n p : Nat) : Prop := M 183 6 = kt_k (M 185) n p ∧ M 183 4 = (kt_s (M 185) n p : Int) ∧ M 183 5 = (kt_e (M 185) n p : Int) ∧ (kt_k (M 185) n p = 2 → M 183 7 = kt_v (M 185) n p)
section
variable {X : mm_X} {M : mm_M} {n p s e k0 : Nat} {x y lo hi : Int}
theorem c_X13_isSmall (hx : mm_R x) : mm_Fn X Y_X13_isSmall 243 [(0, x)] M (0, mm_b (kt_le x = true)) M := by
  refine mm_startF (ls := [(0, x)]) rfl ?_
  refine mm_iload_n dX13_isSmall_0 rfl rfl ?_
  refine mm_bipush dX13_isSmall_1 rfl (by decide) ?_
  refine mm_iclt dX13_isSmall_3 (by omega) (by omega) (fun h3 => ?_) (fun h3 => ?_)
  · refine mm_iconst dX13_isSmall_16 rfl ?_
    refine mm_zret dX13_isSmall_17 rfl rfl (Or.inl rfl) ?_
    refine mm_fin ?_ rfl
    unfold kt_le
    first
    | exact mm_b1 (decide_eq_true (by omega))
    | exact mm_b0 (fun q => absurd (of_decide_eq_true q) (by omega))
  · refine mm_iload_n dX13_isSmall_6 rfl rfl ?_
    refine mm_bipush dX13_isSmall_7 rfl (by decide) ?_
    refine mm_icgt dX13_isSmall_9 (by omega) (by omega) (fun h9 => ?_) (fun h9 => ?_)
    · refine mm_iconst dX13_isSmall_16 rfl ?_
      refine mm_zret dX13_isSmall_17 rfl rfl (Or.inl rfl) ?_
      refine mm_fin ?_ rfl
      unfold kt_le
      first
      | exact mm_b1 (decide_eq_true (by omega))
      | exact mm_b0 (fun q => absurd (of_decide_eq_true q) (by omega))
    · refine mm_iconst dX13_isSmall_12 rfl ?_
      refine mm_goto dX13_isSmall_13 ?_
      refine mm_zret dX13_isSmall_17 rfl rfl (Or.inr rfl) ?_
      refine mm_fin ?_ rfl
      unfold kt_le
      first
      | exact mm_b1 (decide_eq_true (by omega))
      | exact mm_b0 (fun q => absurd (of_decide_eq_true q) (by omega))
theorem c_X13_isDigit (hx : mm_R x) : mm_Fn X Y_X13_isDigit 243 [(0, x)] M (0, mm_b (kt_di x = true)) M := by
  refine mm_startF (ls := [(0, x)]) rfl ?_
  refine mm_iload_n dX13_isDigit_0 rfl rfl ?_
  refine mm_bipush dX13_isDigit_1 rfl (by decide) ?_
  refine mm_iclt dX13_isDigit_3 (by omega) (by omega) (fun h3 => ?_) (fun h3 => ?_)
  · refine mm_iconst dX13_isDigit_16 rfl ?_
    refine mm_zret dX13_isDigit_17 rfl rfl (Or.inl rfl) ?_
    refine mm_fin ?_ rfl
    unfold kt_di
    first
    | exact mm_b1 (decide_eq_true (by omega))
    | exact mm_b0 (fun q => absurd (of_decide_eq_true q) (by omega))
  · refine mm_iload_n dX13_isDigit_6 rfl rfl ?_
    refine mm_bipush dX13_isDigit_7 rfl (by decide) ?_
    refine mm_icgt dX13_isDigit_9 (by omega) (by omega) (fun h9 => ?_) (fun h9 => ?_)
    · refine mm_iconst dX13_isDigit_16 rfl ?_
      refine mm_zret dX13_isDigit_17 rfl rfl (Or.inl rfl) ?_
      refine mm_fin ?_ rfl
      unfold kt_di
      first
      | exact mm_b1 (decide_eq_true (by omega))
      | exact mm_b0 (fun q => absurd (of_decide_eq_true q) (by omega))
    · refine mm_iconst dX13_isDigit_12 rfl ?_
      refine mm_goto dX13_isDigit_13 ?_
      refine mm_zret dX13_isDigit_17 rfl rfl (Or.inr rfl) ?_
      refine mm_fin ?_ rfl
      unfold kt_di
      first
      | exact mm_b1 (decide_eq_true (by omega))
      | exact mm_b0 (fun q => absurd (of_decide_eq_true q) (by omega))
theorem c_X13_byteAt (hR : mm_Rf M) (hT : mm_RT M n) (hp : p ≤ n) : mm_Fn X Y_X13_byteAt 243 [(2, 184), (0, (p : Int))] M (0, if p < n then M 185 p % 256 else 0) M := by
  obtain ⟨hn, hn8, hb⟩ := id hT
  refine mm_startF (ls := [(2, 184), (0, (p : Int))]) rfl ?_
  refine mm_iload_n dX13_byteAt_0 rfl rfl ?_
  refine mm_aload_n dX13_byteAt_1 rfl rfl ?_
  refine mm_get (kd := 0) dX13_byteAt_2 rfl fl_X13_23 (c := 183) rfl (by decide) rfl rfl ?_
  obtain ⟨v2, hv2⟩ : ∃ v, v = M 183 3 := ⟨_, rfl⟩
  rw [← hv2]
  rw [hn] at hv2
  subst hv2
  refine mm_icge dX13_byteAt_5 (by omega) (by omega) (fun h5 => ?_) (fun h5 => ?_)
  · refine mm_iconst dX13_byteAt_21 rfl ?_
    refine mm_iret dX13_byteAt_22 rfl rfl ?_
    refine mm_fin ?_ rfl
    first
    | (rw [if_pos (by omega)]; exact kb_and (hb p (by omega)))
    | (rw [if_neg (by omega)]; done)
  · refine mm_aload_n dX13_byteAt_8 rfl rfl ?_
    refine mm_getr dX13_byteAt_9 rfl fl_X13_26 (c := 183) rfl (by decide) rfl rfl (hR.at (c := 183) (i := 1) (v := 186) rfl (by decide)) ?_
    refine mm_iload_n dX13_byteAt_12 rfl rfl ?_
    refine mm_balk (k0 := p) dX13_byteAt_13 rfl (c := 185) rfl (by decide) rfl (by omega) (by omega) ?_
    refine mm_sipush dX13_byteAt_14 rfl (by decide) ?_
    refine mm_iand dX13_byteAt_17 rfl ?_
    refine mm_goto dX13_byteAt_18 ?_
    refine mm_iret dX13_byteAt_22 rfl rfl ?_
    refine mm_fin ?_ rfl
    first
    | (rw [if_pos (by omega)]; exact kb_and (hb p (by omega)))
    | (rw [if_neg (by omega)]; done)
theorem c_X13_scan (hR : mm_Rf M) (hT : mm_RT M n) (hp : p ≤ n) (h5 : M 183 5 = (p : Int)) :
    mm_C X Y_X13_scan 243 243 [(2, 184)] M (fun r M' => r = (3, 0) ∧ mm_Rf M' ∧ mm_rg M M' ∧ kt_R M M' n p) := by
  obtain ⟨hn, hn8, hb⟩ := id hT
  have hG0 := mm_rg.rf M
  obtain ⟨s, hs⟩ : ∃ s, s = kt_s (M 185) n p := ⟨_, rfl⟩
  have hsb := kt_sb (B := M 185) hp
  rw [← hs] at hsb
  obtain ⟨Φ, hΦ⟩ : ∃ Φ : mm_V → mm_M → Prop, Φ = (fun r M' => r = (3, 0) ∧ mm_Rf M' ∧ mm_rg M M' ∧ kt_R M M' n p) := ⟨_, rfl⟩
  rw [← hΦ]
  refine mm_start (ls := [(2, 184), (9, 0)]) rfl ?_
  -- the end of a word
  have word : s ≠ n → kt_le (M 185 s) = true → ∀ i : Nat, i ≤ n → s ≤ i → kt_run kt_le (M 185) (n - i) i = kt_w (M 185) n s → ∀ (N : mm_M) (l1 : mm_V), mm_Rf N → mm_rg M N → (∀ a, a ≠ 183 → N a = M a) → (∀ b, ¬ (4 ≤ b ∧ b ≤ 7) → N 183 b = M 183 b) → N 183 4 = (s : Int) → N 183 5 = (i : Int) →
      mm_J X Y_X13_scan 243 243 243 95 [(2, 184), l1] [] N Φ := by
    intro hsn hl
    refine mm_lp ?_
    intro i hi ih hsi hr N l1 hRN hG hfa hfb e4 e5
    have hTN : mm_RT N n := ⟨(hfb 3 (by omega)).trans hn, hn8, by rw [hfa 185 (by decide)]; exact hb⟩
    have cb := c_X13_byteAt (X := X) (p := i) hRN hTN hi
    rw [hfa 185 (by decide)] at cb
    have fin : kt_w (M 185) n s = i → mm_J X Y_X13_scan 243 243 243 122 [(2, 184), l1] [] N Φ := by
      intro eq
      rw [hΦ]
      refine mm_aload_n dX13_scan_122 rfl rfl ?_
      refine mm_aload_n dX13_scan_123 rfl rfl ?_
      refine mm_get (kd := 0) dX13_scan_124 rfl fl_X13_30 (c := 183) rfl (by decide) rfl rfl ?_
      obtain ⟨v124, hv124⟩ : ∃ v, v = N 183 5 := ⟨_, rfl⟩
      rw [← hv124]
      rw [e5] at hv124
      subst hv124
      refine mm_aload_n dX13_scan_127 rfl rfl ?_
      refine mm_get (kd := 0) dX13_scan_128 rfl fl_X13_13 (c := 183) rfl (by decide) rfl rfl ?_
      obtain ⟨v128, hv128⟩ : ∃ v, v = N 183 4 := ⟨_, rfl⟩
      rw [← hv128]
      rw [e4] at hv128
      subst hv128
      refine mm_isub dX13_scan_131 rfl ?_
      refine mm_bipush dX13_scan_132 rfl (by decide) ?_
      refine mm_icle_d (q2 := 142) dX13_scan_134 (by omega) (by omega) (fun k => mm_iconst dX13_scan_141 rfl k) (fun k => mm_iconst dX13_scan_137 rfl (mm_goto dX13_scan_138 k)) ?_
      refine mm_puti dX13_scan_142 rfl fl_X13_37 (c := 183) rfl (by decide) rfl rfl (fun M142 hM142 => ?_)
      have hR142 : mm_Rf M142 := by rw [hM142]; exact hRN.up rfl
      have hG142 : mm_rg M M142 := by rw [hM142]; exact hG.up (by decide)
      refine mm_goto dX13_scan_145 ?_
      refine mm_vret dX13_scan_273 rfl rfl ?_
      refine ⟨rfl, hR142, hG142, ?_, ?_, ?_, ?_, ?_, ?_⟩
      · intro a ha; rw [hM142, mm_up_row ha]; exact hfa a ha
      · intro b hb9; rw [hM142, mm_up_i (by omega)]; exact hfb b hb9
      · unfold kt_k; rw [← hs, if_neg hsn, if_pos hl, eq, hM142, mm_up_s]; split <;> split <;> first | rfl | (exfalso; omega)
      · rw [hM142, mm_up_i (by decide), e4, hs]
      · unfold kt_e; rw [← hs, if_neg hsn, if_pos hl, eq, hM142, mm_up_i (by decide), e5]
      · unfold kt_k; rw [← hs, if_neg hsn, if_pos hl]; intro z; split at z <;> exact absurd z (by decide)
    by_cases hlt : i < n
    · have hbi := hb i (by omega)
      rw [if_pos hlt] at cb
      rw [show n - i = (n - (i + 1)) + 1 by omega, kt_run] at hr
      refine mm_aload_n dX13_scan_95 rfl rfl ?_
      refine mm_aload_n dX13_scan_96 rfl rfl ?_
      refine mm_get (kd := 0) dX13_scan_97 rfl fl_X13_30 (c := 183) rfl (by decide) rfl rfl ?_
      obtain ⟨v97, hv97⟩ : ∃ v, v = N 183 5 := ⟨_, rfl⟩
      rw [← hv97]
      rw [e5] at hv97
      subst hv97
      refine mm_V1i dX13_scan_100 rfl lk_X13_33 (c := 183) rfl (by decide) rfl (by simp) rfl rfl rfl (cb) ?_
      refine mm_S1i dX13_scan_103 rfl lk_X13_40 (by simp) rfl rfl rfl (c_X13_isSmall (by omega)) ?_
      refine mm_ifeqb dX13_scan_106 (fun h106 => ?_) (fun h106 => ?_)
      · rw [kt_le_m hbi] at h106
        rw [if_neg h106] at hr
        exact fin hr.symm
      · refine mm_aload_n dX13_scan_109 rfl rfl ?_
        refine mm_dup dX13_scan_110 rfl (by simp) ?_
        refine mm_get (kd := 0) dX13_scan_111 rfl fl_X13_30 (c := 183) rfl (by decide) rfl rfl ?_
        obtain ⟨v111, hv111⟩ : ∃ v, v = N 183 5 := ⟨_, rfl⟩
        rw [← hv111]
        rw [e5] at hv111
        subst hv111
        refine mm_iconst dX13_scan_114 rfl ?_
        refine mm_iadd dX13_scan_115 rfl ?_
        refine mm_puti dX13_scan_116 rfl fl_X13_30 (c := 183) rfl (by decide) rfl rfl (fun M116 hM116 => ?_)
        have hR116 : mm_Rf M116 := by rw [hM116]; exact hRN.up rfl
        have hG116 : mm_rg M M116 := by rw [hM116]; exact hG.up (by decide)
        refine mm_goto dX13_scan_119 ?_
        rw [kt_le_m hbi] at h106
        rw [if_pos h106] at hr
        refine ih hlt (by omega) hr _ _ hR116 hG116 ?_ ?_ ?_ ?_
        · intro a ha; rw [hM116, mm_up_row ha]; exact hfa a ha
        · intro b hb9; rw [hM116, mm_up_i (by omega)]; exact hfb b hb9
        · rw [hM116, mm_up_i (by decide)]; exact e4
        · rw [hM116, mm_up_s]; omega
    · rw [if_neg hlt] at cb
      rw [show n - i = 0 by omega, kt_run] at hr
      refine mm_aload_n dX13_scan_95 rfl rfl ?_
      refine mm_aload_n dX13_scan_96 rfl rfl ?_
      refine mm_get (kd := 0) dX13_scan_97 rfl fl_X13_30 (c := 183) rfl (by decide) rfl rfl ?_
      obtain ⟨v97, hv97⟩ : ∃ v, v = N 183 5 := ⟨_, rfl⟩
      rw [← hv97]
      rw [e5] at hv97
      subst hv97
      refine mm_V1i dX13_scan_100 rfl lk_X13_33 (c := 183) rfl (by decide) rfl (by simp) rfl rfl rfl (cb) ?_
      refine mm_S1i dX13_scan_103 rfl lk_X13_40 (by simp) rfl rfl rfl (c_X13_isSmall (by omega)) ?_
      refine mm_ifeqb dX13_scan_106 (fun h106 => ?_) (fun h106 => ?_)
      · exact fin hr.symm
      · exact absurd h106 (by decide)
  -- the end of a number
  have hall : ∀ j, s ≤ j → j < kt_d (M 185) n s → 48 ≤ M 185 j ∧ M 185 j ≤ 57 := fun j h1 h2 => of_decide_eq_true (kt_run_all (P := kt_di) h1 h2)
  have numb : s ≠ n → ¬ kt_le (M 185 s) = true → kt_di (M 185 s) = true → ∀ i : Nat, i ≤ n → s ≤ i → i ≤ kt_d (M 185) n s → kt_run kt_di (M 185) (n - i) i = kt_d (M 185) n s → ∀ (N : mm_M) (l1 : mm_V), mm_Rf N → mm_rg M N → (∀ a, a ≠ 183 → N a = M a) → (∀ b, ¬ (4 ≤ b ∧ b ≤ 7) → N 183 b = M 183 b) → N 183 4 = (s : Int) → N 183 5 = (i : Int) → N 183 7 = kt_num (M 185) s (i - s) →
      mm_J X Y_X13_scan 243 243 243 160 [(2, 184), l1] [] N Φ := by
    intro hsn hl hdg
    refine mm_lp ?_
    intro i hi ih hsi hiq hr N l1 hRN hG hfa hfb e4 e5 e7
    have hTN : mm_RT N n := ⟨(hfb 3 (by omega)).trans hn, hn8, by rw [hfa 185 (by decide)]; exact hb⟩
    have cb := c_X13_byteAt (X := X) (p := i) hRN hTN hi
    rw [hfa 185 (by decide)] at cb
    have hnb : 0 ≤ kt_num (M 185) s (i - s) ∧ kt_num (M 185) s (i - s) ≤ 99999 := kt_numb (fun j hj => hall _ (by omega) (by omega))
    have fin : kt_d (M 185) n s = i → mm_J X Y_X13_scan 243 243 243 223 [(2, 184), l1] [] N Φ := by
      intro eq
      rw [hΦ]
      refine mm_aload_n dX13_scan_223 rfl rfl ?_
      refine mm_aload_n dX13_scan_224 rfl rfl ?_
      refine mm_get (kd := 0) dX13_scan_225 rfl fl_X13_30 (c := 183) rfl (by decide) rfl rfl ?_
      obtain ⟨v225, hv225⟩ : ∃ v, v = N 183 5 := ⟨_, rfl⟩
      rw [← hv225]
      rw [e5] at hv225
      subst hv225
      refine mm_aload_n dX13_scan_228 rfl rfl ?_
      refine mm_get (kd := 0) dX13_scan_229 rfl fl_X13_13 (c := 183) rfl (by decide) rfl rfl ?_
      obtain ⟨v229, hv229⟩ : ∃ v, v = N 183 4 := ⟨_, rfl⟩
      rw [← hv229]
      rw [e4] at hv229
      subst hv229
      refine mm_isub dX13_scan_232 rfl ?_
      refine mm_iconst dX13_scan_233 rfl ?_
      refine mm_icle_d (q2 := 242) dX13_scan_234 (by omega) (by omega) (fun k => mm_iconst dX13_scan_241 rfl k) (fun k => mm_iconst dX13_scan_237 rfl (mm_goto dX13_scan_238 k)) ?_
      refine mm_puti dX13_scan_242 rfl fl_X13_37 (c := 183) rfl (by decide) rfl rfl (fun M242 hM242 => ?_)
      have hR242 : mm_Rf M242 := by rw [hM242]; exact hRN.up rfl
      have hG242 : mm_rg M M242 := by rw [hM242]; exact hG.up (by decide)
      refine mm_goto dX13_scan_245 ?_
      refine mm_vret dX13_scan_273 rfl rfl ?_
      refine ⟨rfl, hR242, hG242, ?_, ?_, ?_, ?_, ?_, ?_⟩
      · intro a ha; rw [hM242, mm_up_row ha]; exact hfa a ha
      · intro b hb9; rw [hM242, mm_up_i (by omega)]; exact hfb b hb9
      · unfold kt_k; rw [← hs, if_neg hsn, if_neg hl, if_pos hdg, eq, hM242, mm_up_s]; split <;> split <;> first | rfl | (exfalso; omega)
      · rw [hM242, mm_up_i (by decide), e4, hs]
      · unfold kt_e; rw [← hs, if_neg hsn, if_neg hl, if_pos hdg, eq, hM242, mm_up_i (by decide), e5]
      · intro _; unfold kt_v; rw [← hs, eq, hM242, mm_up_i (by decide), e7]
    by_cases hlt : i < n
    · have hbi := hb i (by omega)
      rw [if_pos hlt] at cb
      rw [show n - i = (n - (i + 1)) + 1 by omega, kt_run] at hr
      have hks : kt_num (M 185) s (i + 1 - s) = if i - s < 5 then 10 * kt_num (M 185) s (i - s) + M 185 i - 48 else kt_num (M 185) s (i - s) := by
        rw [show i + 1 - s = (i - s) + 1 by omega, kt_num, show s + (i - s) = i by omega]
      refine mm_aload_n dX13_scan_160 rfl rfl ?_
      refine mm_aload_n dX13_scan_161 rfl rfl ?_
      refine mm_get (kd := 0) dX13_scan_162 rfl fl_X13_30 (c := 183) rfl (by decide) rfl rfl ?_
      obtain ⟨v162, hv162⟩ : ∃ v, v = N 183 5 := ⟨_, rfl⟩
      rw [← hv162]
      rw [e5] at hv162
      subst hv162
      refine mm_V1i dX13_scan_165 rfl lk_X13_33 (c := 183) rfl (by decide) rfl (by simp) rfl rfl rfl (cb) ?_
      refine mm_S1i dX13_scan_168 rfl lk_X13_44 (by simp) rfl rfl rfl (c_X13_isDigit (by omega)) ?_
      refine mm_ifeqb dX13_scan_171 (fun h171 => ?_) (fun h171 => ?_)
      · rw [kt_di_m hbi] at h171
        rw [if_neg h171] at hr
        exact fin hr.symm
      · refine mm_aload_n dX13_scan_174 rfl rfl ?_
        refine mm_get (kd := 0) dX13_scan_175 rfl fl_X13_30 (c := 183) rfl (by decide) rfl rfl ?_
        obtain ⟨v175, hv175⟩ : ∃ v, v = N 183 5 := ⟨_, rfl⟩
        rw [← hv175]
        rw [e5] at hv175
        subst hv175
        refine mm_aload_n dX13_scan_178 rfl rfl ?_
        refine mm_get (kd := 0) dX13_scan_179 rfl fl_X13_13 (c := 183) rfl (by decide) rfl rfl ?_
        obtain ⟨v179, hv179⟩ : ∃ v, v = N 183 4 := ⟨_, rfl⟩
        rw [← hv179]
        rw [e4] at hv179
        subst hv179
        refine mm_isub dX13_scan_182 rfl ?_
        refine mm_iconst dX13_scan_183 rfl ?_
        refine mm_icge dX13_scan_184 (by omega) (by omega) (fun h184 => ?_) (fun h184 => ?_)
        · refine mm_aload_n dX13_scan_210 rfl rfl ?_
          refine mm_dup dX13_scan_211 rfl (by simp) ?_
          refine mm_get (kd := 0) dX13_scan_212 rfl fl_X13_30 (c := 183) rfl (by decide) rfl rfl ?_
          obtain ⟨v212, hv212⟩ : ∃ v, v = N 183 5 := ⟨_, rfl⟩
          rw [← hv212]
          rw [e5] at hv212
          subst hv212
          refine mm_iconst dX13_scan_215 rfl ?_
          refine mm_iadd dX13_scan_216 rfl ?_
          refine mm_puti dX13_scan_217 rfl fl_X13_30 (c := 183) rfl (by decide) rfl rfl (fun M217 hM217 => ?_)
          have hR217 : mm_Rf M217 := by rw [hM217]; exact hRN.up rfl
          have hG217 : mm_rg M M217 := by rw [hM217]; exact hG.up (by decide)
          refine mm_goto dX13_scan_220 ?_
          rw [kt_di_m hbi] at h171
          rw [if_pos h171] at hr
          have hdi := of_decide_eq_true h171
          have hq1 : i + 1 ≤ kt_d (M 185) n s := by
            have := kt_runb (P := kt_di) (B := M 185) (k := n - (i + 1)) (p := i + 1)
            omega
          refine ih hlt (by omega) hq1 hr _ _ hR217 hG217 ?_ ?_ ?_ ?_ ?_
          · intro a ha; funext b; simp [hM217, mm_up, ha]; rw [hfa a ha]
          · intro b hb9
            have n1 : b ≠ 5 := by omega
            have n2 : b ≠ 7 := by omega
            simp [hM217, mm_up, n1, n2]; exact hfb b hb9
          · simp [hM217, mm_up, e4]
          · simp [hM217, mm_up]
          · rw [hks]
            first
            | (rw [if_neg (by omega)]; simp [hM217, mm_up]; exact e7)
            | (rw [if_pos (by omega)]; simp [hM217, mm_up]; omega)
        · refine mm_aload_n dX13_scan_187 rfl rfl ?_
          refine mm_bipush dX13_scan_188 rfl (by decide) ?_
          refine mm_aload_n dX13_scan_190 rfl rfl ?_
          refine mm_get (kd := 0) dX13_scan_191 rfl fl_X13_47 (c := 183) rfl (by decide) rfl rfl ?_
          obtain ⟨v191, hv191⟩ : ∃ v, v = N 183 7 := ⟨_, rfl⟩
          rw [← hv191]
          rw [e7] at hv191
          subst hv191
          refine mm_imul dX13_scan_194 rfl ?_
          refine mm_aload_n dX13_scan_195 rfl rfl ?_
          refine mm_aload_n dX13_scan_196 rfl rfl ?_
          refine mm_get (kd := 0) dX13_scan_197 rfl fl_X13_30 (c := 183) rfl (by decide) rfl rfl ?_
          obtain ⟨v197, hv197⟩ : ∃ v, v = N 183 5 := ⟨_, rfl⟩
          rw [← hv197]
          rw [e5] at hv197
          subst hv197
          refine mm_V1i dX13_scan_200 rfl lk_X13_33 (c := 183) rfl (by decide) rfl (by simp) rfl rfl rfl (cb) ?_
          refine mm_iadd dX13_scan_203 rfl ?_
          refine mm_bipush dX13_scan_204 rfl (by decide) ?_
          refine mm_isub dX13_scan_206 rfl ?_
          refine mm_puti dX13_scan_207 rfl fl_X13_47 (c := 183) rfl (by decide) rfl rfl (fun M207 hM207 => ?_)
          have hR207 : mm_Rf M207 := by rw [hM207]; exact hRN.up rfl
          have hG207 : mm_rg M M207 := by rw [hM207]; exact hG.up (by decide)
          refine mm_aload_n dX13_scan_210 rfl rfl ?_
          refine mm_dup dX13_scan_211 rfl (by simp) ?_
          refine mm_get (kd := 0) dX13_scan_212 rfl fl_X13_30 (c := 183) rfl (by decide) rfl rfl ?_
          obtain ⟨v212, hv212⟩ : ∃ v, v = M207 183 5 := ⟨_, rfl⟩
          rw [← hv212]
          rw [hM207, mm_up_i (by decide), e5] at hv212
          subst hv212
          refine mm_iconst dX13_scan_215 rfl ?_
          refine mm_iadd dX13_scan_216 rfl ?_
          refine mm_puti dX13_scan_217 rfl fl_X13_30 (c := 183) rfl (by decide) rfl rfl (fun M217 hM217 => ?_)
          have hR217 : mm_Rf M217 := by rw [hM217]; exact hR207.up rfl
          have hG217 : mm_rg M M217 := by rw [hM217]; exact hG207.up (by decide)
          refine mm_goto dX13_scan_220 ?_
          rw [kt_di_m hbi] at h171
          rw [if_pos h171] at hr
          have hdi := of_decide_eq_true h171
          have hq1 : i + 1 ≤ kt_d (M 185) n s := by
            have := kt_runb (P := kt_di) (B := M 185) (k := n - (i + 1)) (p := i + 1)
            omega
          refine ih hlt (by omega) hq1 hr _ _ hR217 hG217 ?_ ?_ ?_ ?_ ?_
          · intro a ha; funext b; simp [hM217, hM207, mm_up, ha]; rw [hfa a ha]
          · intro b hb9
            have n1 : b ≠ 5 := by omega
            have n2 : b ≠ 7 := by omega
            simp [hM217, hM207, mm_up, n1, n2]; exact hfb b hb9
          · simp [hM217, hM207, mm_up, e4]
          · simp [hM217, hM207, mm_up]
          · rw [hks]
            first
            | (rw [if_neg (by omega)]; simp [hM217, hM207, mm_up]; exact e7)
            | (rw [if_pos (by omega)]; simp [hM217, hM207, mm_up]; omega)
    · rw [if_neg hlt] at cb
      rw [show n - i = 0 by omega, kt_run] at hr
      refine mm_aload_n dX13_scan_160 rfl rfl ?_
      refine mm_aload_n dX13_scan_161 rfl rfl ?_
      refine mm_get (kd := 0) dX13_scan_162 rfl fl_X13_30 (c := 183) rfl (by decide) rfl rfl ?_
      obtain ⟨v162, hv162⟩ : ∃ v, v = N 183 5 := ⟨_, rfl⟩
      rw [← hv162]
      rw [e5] at hv162
      subst hv162
      refine mm_V1i dX13_scan_165 rfl lk_X13_33 (c := 183) rfl (by decide) rfl (by simp) rfl rfl rfl (cb) ?_
      refine mm_S1i dX13_scan_168 rfl lk_X13_44 (by simp) rfl rfl rfl (c_X13_isDigit (by omega)) ?_
      refine mm_ifeqb dX13_scan_171 (fun h171 => ?_) (fun h171 => ?_)
      · exact fin hr.symm
      · exact absurd h171 (by decide)
  -- behind the blanks
  have tok : ∀ (N : mm_M), mm_Rf N → mm_rg M N → (∀ a, a ≠ 183 → N a = M a) → (∀ b, ¬ (4 ≤ b ∧ b ≤ 7) → N 183 b = M 183 b) → N 183 5 = (s : Int) → mm_J X Y_X13_scan 243 243 243 52 [(2, 184), (9, 0)] [] N Φ := by
    intro N hRN hG hfa hfb e5
    have hTN : mm_RT N n := ⟨(hfb 3 (by omega)).trans hn, hn8, by rw [hfa 185 (by decide)]; exact hb⟩
    have e3 : N 183 3 = (n : Int) := hTN.1
    by_cases hsn : s = n
    · rw [hΦ]
      refine mm_aload_n dX13_scan_52 rfl rfl ?_
      refine mm_aload_n dX13_scan_53 rfl rfl ?_
      refine mm_get (kd := 0) dX13_scan_54 rfl fl_X13_30 (c := 183) rfl (by decide) rfl rfl ?_
      obtain ⟨v54, hv54⟩ : ∃ v, v = N 183 5 := ⟨_, rfl⟩
      rw [← hv54]
      rw [e5] at hv54
      subst hv54
      refine mm_puti dX13_scan_57 rfl fl_X13_13 (c := 183) rfl (by decide) rfl rfl (fun M57 hM57 => ?_)
      have hR57 : mm_Rf M57 := by rw [hM57]; exact hRN.up rfl
      have hG57 : mm_rg M M57 := by rw [hM57]; exact hG.up (by decide)
      refine mm_aload_n dX13_scan_60 rfl rfl ?_
      refine mm_aload_n dX13_scan_61 rfl rfl ?_
      refine mm_get (kd := 0) dX13_scan_62 rfl fl_X13_13 (c := 183) rfl (by decide) rfl rfl ?_
      obtain ⟨v62, hv62⟩ : ∃ v, v = M57 183 4 := ⟨_, rfl⟩
      rw [← hv62]
      rw [hM57, mm_up_s] at hv62
      subst hv62
      refine mm_V1i dX13_scan_65 rfl lk_X13_33 (c := 183) rfl (by decide) rfl (by simp) rfl rfl rfl ((by have := c_X13_byteAt (X := X) (M := M57) (p := s) hR57 ⟨by rw [hM57, mm_up_i (by decide)]; exact e3, hn8, by rw [hM57, mm_up_row (by decide)]; exact hTN.2.2⟩ (by omega); exact this)) ?_
      refine mm_istore_n dX13_scan_68 rfl (Nat.le_of_ble_eq_true rfl) rfl ?_
      refine mm_aload_n dX13_scan_69 rfl rfl ?_
      refine mm_get (kd := 0) dX13_scan_70 rfl fl_X13_13 (c := 183) rfl (by decide) rfl rfl ?_
      obtain ⟨v70, hv70⟩ : ∃ v, v = M57 183 4 := ⟨_, rfl⟩
      rw [← hv70]
      rw [hM57, mm_up_s] at hv70
      subst hv70
      refine mm_aload_n dX13_scan_73 rfl rfl ?_
      refine mm_get (kd := 0) dX13_scan_74 rfl fl_X13_23 (c := 183) rfl (by decide) rfl rfl ?_
      obtain ⟨v74, hv74⟩ : ∃ v, v = M57 183 3 := ⟨_, rfl⟩
      rw [← hv74]
      rw [hM57, mm_up_i (by decide), e3] at hv74
      subst hv74
      refine mm_icne dX13_scan_77 (by omega) (by omega) (fun h77 => ?_) (fun h77 => ?_)
      · exfalso; omega
      · refine mm_aload_n dX13_scan_80 rfl rfl ?_
        refine mm_iconst dX13_scan_81 rfl ?_
        refine mm_puti dX13_scan_82 rfl fl_X13_37 (c := 183) rfl (by decide) rfl rfl (fun M82 hM82 => ?_)
        have hR82 : mm_Rf M82 := by rw [hM82]; exact hR57.up rfl
        have hG82 : mm_rg M M82 := by rw [hM82]; exact hG57.up (by decide)
        refine mm_goto dX13_scan_85 ?_
        refine mm_vret dX13_scan_273 rfl rfl ?_
        refine ⟨rfl, hR82, hG82, ?_, ?_, ?_, ?_, ?_, ?_⟩
        · intro a ha; funext b; simp [hM82, hM57, mm_up, ha]; rw [hfa a ha]
        · intro b hb9
          have n1 : b ≠ 4 := by omega
          have n2 : b ≠ 6 := by omega
          simp [hM82, hM57, mm_up, n1, n2]; exact hfb b hb9
        · unfold kt_k; rw [← hs, if_pos hsn]; simp [hM82, hM57, mm_up]
        · simp [hM82, hM57, mm_up, ← hs]
        · unfold kt_e; rw [← hs, if_pos hsn]; simp [hM82, hM57, mm_up, e5]; omega
        · unfold kt_k; rw [← hs, if_pos hsn]; intro z; exact absurd z (by decide)
    · have hbs := hb s (by omega)
      have u185 : N 185 = M 185 := hfa 185 (by decide)
      refine mm_aload_n dX13_scan_52 rfl rfl ?_
      refine mm_aload_n dX13_scan_53 rfl rfl ?_
      refine mm_get (kd := 0) dX13_scan_54 rfl fl_X13_30 (c := 183) rfl (by decide) rfl rfl ?_
      obtain ⟨v54, hv54⟩ : ∃ v, v = N 183 5 := ⟨_, rfl⟩
      rw [← hv54]
      rw [e5] at hv54
      subst hv54
      refine mm_puti dX13_scan_57 rfl fl_X13_13 (c := 183) rfl (by decide) rfl rfl (fun M57 hM57 => ?_)
      have hR57 : mm_Rf M57 := by rw [hM57]; exact hRN.up rfl
      have hG57 : mm_rg M M57 := by rw [hM57]; exact hG.up (by decide)
      refine mm_aload_n dX13_scan_60 rfl rfl ?_
      refine mm_aload_n dX13_scan_61 rfl rfl ?_
      refine mm_get (kd := 0) dX13_scan_62 rfl fl_X13_13 (c := 183) rfl (by decide) rfl rfl ?_
      obtain ⟨v62, hv62⟩ : ∃ v, v = M57 183 4 := ⟨_, rfl⟩
      rw [← hv62]
      rw [hM57, mm_up_s] at hv62
      subst hv62
      refine mm_V1i dX13_scan_65 rfl lk_X13_33 (c := 183) rfl (by decide) rfl (by simp) rfl rfl rfl ((by have := c_X13_byteAt (X := X) (M := M57) (p := s) hR57 ⟨by rw [hM57, mm_up_i (by decide)]; exact e3, hn8, by rw [hM57, mm_up_row (by decide)]; exact hTN.2.2⟩ (by omega); rw [if_pos (show s < n by omega), hM57, mm_up_row (by decide), u185, ← hM57] at this; exact this)) ?_
      refine mm_istore_n dX13_scan_68 rfl (Nat.le_of_ble_eq_true rfl) rfl ?_
      refine mm_aload_n dX13_scan_69 rfl rfl ?_
      refine mm_get (kd := 0) dX13_scan_70 rfl fl_X13_13 (c := 183) rfl (by decide) rfl rfl ?_
      obtain ⟨v70, hv70⟩ : ∃ v, v = M57 183 4 := ⟨_, rfl⟩
      rw [← hv70]
      rw [hM57, mm_up_s] at hv70
      subst hv70
      refine mm_aload_n dX13_scan_73 rfl rfl ?_
      refine mm_get (kd := 0) dX13_scan_74 rfl fl_X13_23 (c := 183) rfl (by decide) rfl rfl ?_
      obtain ⟨v74, hv74⟩ : ∃ v, v = M57 183 3 := ⟨_, rfl⟩
      rw [← hv74]
      rw [hM57, mm_up_i (by decide), e3] at hv74
      subst hv74
      refine mm_icne dX13_scan_77 (by omega) (by omega) (fun h77 => ?_) (fun h77 => ?_)
      · refine mm_iload_n dX13_scan_88 rfl rfl ?_
        refine mm_S1i dX13_scan_89 rfl lk_X13_40 (by simp) rfl rfl rfl (c_X13_isSmall (by omega)) ?_
        refine mm_ifeqb dX13_scan_92 (fun h92 => ?_) (fun h92 => ?_)
        · refine mm_iload_n dX13_scan_148 rfl rfl ?_
          refine mm_S1i dX13_scan_149 rfl lk_X13_44 (by simp) rfl rfl rfl (c_X13_isDigit (by omega)) ?_
          refine mm_ifeqb dX13_scan_152 (fun h152 => ?_) (fun h152 => ?_)
          · refine mm_aload_n dX13_scan_248 rfl rfl ?_
            refine mm_iload_n dX13_scan_249 rfl rfl ?_
            refine mm_bipush dX13_scan_250 rfl (by decide) ?_
            refine mm_icne_d (q2 := 260) dX13_scan_252 (by omega) (by omega) (fun k => mm_iconst dX13_scan_259 rfl k) (fun k => mm_iconst dX13_scan_255 rfl (mm_goto dX13_scan_256 k)) ?_
            refine mm_puti dX13_scan_260 rfl fl_X13_37 (c := 183) rfl (by decide) rfl rfl (fun M260 hM260 => ?_)
            have hR260 : mm_Rf M260 := by rw [hM260]; exact hR57.up rfl
            have hG260 : mm_rg M M260 := by rw [hM260]; exact hG57.up (by decide)
            refine mm_aload_n dX13_scan_263 rfl rfl ?_
            refine mm_dup dX13_scan_264 rfl (by simp) ?_
            refine mm_get (kd := 0) dX13_scan_265 rfl fl_X13_30 (c := 183) rfl (by decide) rfl rfl ?_
            obtain ⟨v265, hv265⟩ : ∃ v, v = M260 183 5 := ⟨_, rfl⟩
            rw [← hv265]
            rw [hM260, mm_up_i (by decide), hM57, mm_up_i (by decide), e5] at hv265
            subst hv265
            refine mm_iconst dX13_scan_268 rfl ?_
            refine mm_iadd dX13_scan_269 rfl ?_
            refine mm_puti dX13_scan_270 rfl fl_X13_30 (c := 183) rfl (by decide) rfl rfl (fun M270 hM270 => ?_)
            have hR270 : mm_Rf M270 := by rw [hM270]; exact hR260.up rfl
            have hG270 : mm_rg M M270 := by rw [hM270]; exact hG260.up (by decide)
            refine mm_vret dX13_scan_273 rfl rfl ?_
            rw [kt_le_m hbs] at h92
            rw [kt_di_m hbs] at h152
            rw [hΦ]
            refine ⟨rfl, hR270, hG270, ?_, ?_, ?_, ?_, ?_, ?_⟩
            · intro a ha; funext b; simp [hM270, hM260, hM57, mm_up, ha]; rw [hfa a ha]
            · intro b hb9
              have n1 : b ≠ 4 := by omega
              have n2 : b ≠ 5 := by omega
              have n3 : b ≠ 6 := by omega
              simp [hM270, hM260, hM57, mm_up, n1, n2, n3]; exact hfb b hb9
            · unfold kt_k; rw [← hs, if_neg hsn, if_neg h92, if_neg h152]; simp [hM270, hM260, hM57, mm_up]; split <;> split <;> first | rfl | (exfalso; omega)
            · simp [hM270, hM260, hM57, mm_up, ← hs]
            · unfold kt_e; rw [← hs, if_neg hsn, if_neg h92, if_neg h152]; simp [hM270, hM260, hM57, mm_up]
            · unfold kt_k; rw [← hs, if_neg hsn, if_neg h92, if_neg h152]; intro z; split at z <;> exact absurd z (by decide)
          · refine mm_aload_n dX13_scan_155 rfl rfl ?_
            refine mm_iconst dX13_scan_156 rfl ?_
            refine mm_puti dX13_scan_157 rfl fl_X13_47 (c := 183) rfl (by decide) rfl rfl (fun M157 hM157 => ?_)
            have hR157 : mm_Rf M157 := by rw [hM157]; exact hR57.up rfl
            have hG157 : mm_rg M M157 := by rw [hM157]; exact hG57.up (by decide)
            rw [kt_le_m hbs] at h92
            rw [kt_di_m hbs] at h152
            refine numb hsn h92 h152 s (by omega) (Nat.le_refl _) (kt_db (by omega)).1 rfl _ _ hR157 hG157 ?_ ?_ ?_ ?_ ?_
            · intro a ha; funext b; simp [hM157, hM57, mm_up, ha]; rw [hfa a ha]
            · intro b hb9
              have n1 : b ≠ 4 := by omega
              have n2 : b ≠ 7 := by omega
              simp [hM157, hM57, mm_up, n1, n2]; exact hfb b hb9
            · simp [hM157, hM57, mm_up]
            · simp [hM157, hM57, mm_up]; exact e5
            · simp [hM157, hM57, mm_up]; rfl
        · rw [kt_le_m hbs] at h92
          refine word hsn h92 s (by omega) (Nat.le_refl _) rfl _ _ hR57 hG57 ?_ ?_ ?_ ?_
          · intro a ha; rw [hM57, mm_up_row ha]; exact hfa a ha
          · intro b hb9; rw [hM57, mm_up_i (by omega)]; exact hfb b hb9
          · rw [hM57, mm_up_s]
          · rw [hM57, mm_up_i (by decide)]; exact e5
      · exfalso; omega
  have blanks : ∀ i : Nat, i ≤ n → kt_run kt_bl (M 185) (n - i) i = s → ∀ N : mm_M, mm_Rf N → mm_rg M N → (∀ a, a ≠ 183 → N a = M a) → (∀ b, ¬ (4 ≤ b ∧ b ≤ 7) → N 183 b = M 183 b) → N 183 5 = (i : Int) →
      mm_J X Y_X13_scan 243 243 243 0 [(2, 184), (9, 0)] [] N Φ := by
    refine mm_lp ?_
    intro i hi ih hr N hRN hG hfa hfb e5
    have e3 : N 183 3 = (n : Int) := (hfb 3 (by omega)).trans hn
    have f185 : N 185 = M 185 := hfa 185 (by decide)
    by_cases hlt : i < n
    · have hbi := hb i (by omega)
      rw [show n - i = (n - (i + 1)) + 1 by omega, kt_run] at hr
      refine mm_aload_n dX13_scan_0 rfl rfl ?_
      refine mm_get (kd := 0) dX13_scan_1 rfl fl_X13_30 (c := 183) rfl (by decide) rfl rfl ?_
      obtain ⟨v1, hv1⟩ : ∃ v, v = N 183 5 := ⟨_, rfl⟩
      rw [← hv1]
      rw [e5] at hv1
      subst hv1
      refine mm_aload_n dX13_scan_4 rfl rfl ?_
      refine mm_get (kd := 0) dX13_scan_5 rfl fl_X13_23 (c := 183) rfl (by decide) rfl rfl ?_
      obtain ⟨v5, hv5⟩ : ∃ v, v = N 183 3 := ⟨_, rfl⟩
      rw [← hv5]
      rw [e3] at hv5
      subst hv5
      refine mm_icge dX13_scan_8 (by omega) (by omega) (fun h8 => ?_) (fun h8 => ?_)
      · exfalso; omega
      · refine mm_aload_n dX13_scan_11 rfl rfl ?_
        refine mm_getr dX13_scan_12 rfl fl_X13_26 (c := 183) rfl (by decide) rfl rfl (hRN.at (c := 183) (i := 1) (v := 186) rfl (by decide)) ?_
        refine mm_aload_n dX13_scan_15 rfl rfl ?_
        refine mm_get (kd := 0) dX13_scan_16 rfl fl_X13_30 (c := 183) rfl (by decide) rfl rfl ?_
        obtain ⟨v16, hv16⟩ : ∃ v, v = N 183 5 := ⟨_, rfl⟩
        rw [← hv16]
        rw [e5] at hv16
        subst hv16
        refine mm_balk (k0 := i) dX13_scan_19 rfl (c := 185) rfl (by decide) rfl (by omega) (by omega) ?_
        rw [f185]
        refine mm_bipush dX13_scan_20 rfl (by decide) ?_
        refine mm_iceq dX13_scan_22 (by omega) (by omega) (fun h22 => ?_) (fun h22 => ?_)
        · refine mm_aload_n dX13_scan_39 rfl rfl ?_
          refine mm_dup dX13_scan_40 rfl (by simp) ?_
          refine mm_get (kd := 0) dX13_scan_41 rfl fl_X13_30 (c := 183) rfl (by decide) rfl rfl ?_
          obtain ⟨v41, hv41⟩ : ∃ v, v = N 183 5 := ⟨_, rfl⟩
          rw [← hv41]
          rw [e5] at hv41
          subst hv41
          refine mm_iconst dX13_scan_44 rfl ?_
          refine mm_iadd dX13_scan_45 rfl ?_
          refine mm_puti dX13_scan_46 rfl fl_X13_30 (c := 183) rfl (by decide) rfl rfl (fun M46 hM46 => ?_)
          have hR46 : mm_Rf M46 := by rw [hM46]; exact hRN.up rfl
          have hG46 : mm_rg M M46 := by rw [hM46]; exact hG.up (by decide)
          refine mm_goto dX13_scan_49 ?_
          rw [if_pos (by unfold kt_bl; exact decide_eq_true (by omega))] at hr
          refine ih hlt hr _ hR46 hG46 ?_ ?_ ?_
          · intro a ha; rw [hM46, mm_up_row ha]; exact hfa a ha
          · intro b hb9; rw [hM46, mm_up_i (by omega)]; exact hfb b hb9
          · rw [hM46, mm_up_s]; omega
        · refine mm_aload_n dX13_scan_25 rfl rfl ?_
          refine mm_getr dX13_scan_26 rfl fl_X13_26 (c := 183) rfl (by decide) rfl rfl (hRN.at (c := 183) (i := 1) (v := 186) rfl (by decide)) ?_
          refine mm_aload_n dX13_scan_29 rfl rfl ?_
          refine mm_get (kd := 0) dX13_scan_30 rfl fl_X13_30 (c := 183) rfl (by decide) rfl rfl ?_
          obtain ⟨v30, hv30⟩ : ∃ v, v = N 183 5 := ⟨_, rfl⟩
          rw [← hv30]
          rw [e5] at hv30
          subst hv30
          refine mm_balk (k0 := i) dX13_scan_33 rfl (c := 185) rfl (by decide) rfl (by omega) (by omega) ?_
          rw [f185]
          refine mm_bipush dX13_scan_34 rfl (by decide) ?_
          refine mm_icne dX13_scan_36 (by omega) (by omega) (fun h36 => ?_) (fun h36 => ?_)
          · rw [if_neg (by unfold kt_bl; intro z; have := of_decide_eq_true z; omega)] at hr
            exact tok N hRN hG hfa hfb (by rw [e5, hr])
          · refine mm_aload_n dX13_scan_39 rfl rfl ?_
            refine mm_dup dX13_scan_40 rfl (by simp) ?_
            refine mm_get (kd := 0) dX13_scan_41 rfl fl_X13_30 (c := 183) rfl (by decide) rfl rfl ?_
            obtain ⟨v41, hv41⟩ : ∃ v, v = N 183 5 := ⟨_, rfl⟩
            rw [← hv41]
            rw [e5] at hv41
            subst hv41
            refine mm_iconst dX13_scan_44 rfl ?_
            refine mm_iadd dX13_scan_45 rfl ?_
            refine mm_puti dX13_scan_46 rfl fl_X13_30 (c := 183) rfl (by decide) rfl rfl (fun M46 hM46 => ?_)
            have hR46 : mm_Rf M46 := by rw [hM46]; exact hRN.up rfl
            have hG46 : mm_rg M M46 := by rw [hM46]; exact hG.up (by decide)
            refine mm_goto dX13_scan_49 ?_
            rw [if_pos (by unfold kt_bl; exact decide_eq_true (by omega))] at hr
            refine ih hlt hr _ hR46 hG46 ?_ ?_ ?_
            · intro a ha; rw [hM46, mm_up_row ha]; exact hfa a ha
            · intro b hb9; rw [hM46, mm_up_i (by omega)]; exact hfb b hb9
            · rw [hM46, mm_up_s]; omega
    · rw [show n - i = 0 by omega, kt_run] at hr
      refine mm_aload_n dX13_scan_0 rfl rfl ?_
      refine mm_get (kd := 0) dX13_scan_1 rfl fl_X13_30 (c := 183) rfl (by decide) rfl rfl ?_
      obtain ⟨v1, hv1⟩ : ∃ v, v = N 183 5 := ⟨_, rfl⟩
      rw [← hv1]
      rw [e5] at hv1
      subst hv1
      refine mm_aload_n dX13_scan_4 rfl rfl ?_
      refine mm_get (kd := 0) dX13_scan_5 rfl fl_X13_23 (c := 183) rfl (by decide) rfl rfl ?_
      obtain ⟨v5, hv5⟩ : ∃ v, v = N 183 3 := ⟨_, rfl⟩
      rw [← hv5]
      rw [e3] at hv5
      subst hv5
      refine mm_icge dX13_scan_8 (by omega) (by omega) (fun h8 => ?_) (fun h8 => ?_)
      · exact tok N hRN hG hfa hfb (by rw [e5, hr])
      · exfalso; omega
  exact blanks p hp (by rw [hs]; rfl) M hR hG0 (fun _ _ => rfl) (fun _ _ => rfl) h5
end

