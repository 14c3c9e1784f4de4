/-! ===== the text of rules, of the class: lines to the end ===== -/
section
variable {X : mm_X} {M N : mm_M} {n p a b c j k0 s : Nat} {k : Int}
theorem c_X9_takeConds (hI : kl_I M N n p) (hb : b + 11 ≤ 88) :
    mm_C X Y_X9_takeConds 243 243 [(2, 19), (2, 2), (0, (b : Int))] N (fun r M' => kl_P M N M' n (kl_conds (M 2) n b 3 0 p (N 20)) r) := by
  obtain ⟨E, hE⟩ : ∃ E, E = kl_conds (M 2) n b 3 0 p (N 20) := ⟨_, rfl⟩
  rw [← hE]
  refine mm_start (ls := [(2, 19), (2, 2), (0, (b : Int)), (9, 0), (9, 0)]) rfl ?_
  -- behind a cond
  have nx : ∀ (j : Nat) (Q : mm_M) (p : Nat) (l4 : mm_V), j < 3 → kl_I M Q n p → Q 1 2 = N 1 2 → Q 1 3 = N 1 3 → (if kp_nm (M 2) n p 4 < 0 then .error (1, kt_s (M 2) n p) else if kp_nm (M 2) n p 4 = 1 then .ok (kt_e (M 2) n p, kl_set (Q 20) b ((j : Int) + 1)) else if 2 - j = 0 then .error (4, kt_s (M 2) n p) else kl_conds (M 2) n b (2 - j) (j + 1) (kt_e (M 2) n p) (kl_set (Q 20) b ((j : Int) + 1))) = E →
      (∀ (T : mm_M) (l4 : mm_V), kl_H M T n p → T 20 = kl_set (Q 20) b ((j : Int) + 1) → T 1 2 = N 1 2 → T 1 3 = N 1 3 → ¬ (kp_nm (M 2) n p 4 < 0) → ¬ (kp_nm (M 2) n p 4 = 1) → mm_J X Y_X9_takeConds 243 243 243 2 [(2, 19), (2, 2), (0, (b : Int)), (0, (j : Int) + 1), l4] [] T (fun r M' => kl_P M N M' n E r)) →
      mm_J X Y_X9_takeConds 243 243 243 19 [(2, 19), (2, 2), (0, (b : Int)), (0, (j : Int)), l4] [(0, 1)] Q (fun r M' => kl_P M N M' n E r) := by
    intro j Q p l4 hj hQ q2 q3 hL go
    have hRQ := hQ.1
    have hb1 := kl_nmb (B := M 2) (n := n) (p := p)
    have hb1' := (kp_nmk (B := M 2) (n := n) (p := p) (k0 := 4)).1
    refine mm_ifne dX9_takeConds_19 (by omega) (fun _ => ?_) (fun h => absurd h (by decide))
    refine mm_aload_n dX9_takeConds_24 rfl rfl ?_
    refine mm_getr dX9_takeConds_25 rfl fl_X9_15 (c := 18) rfl (by decide) rfl rfl (hRQ.at (c := 18) (i := 3) (v := 21) rfl (by decide)) ?_
    refine mm_iload_n dX9_takeConds_28 rfl rfl ?_
    refine mm_iload_n dX9_takeConds_29 rfl rfl ?_
    refine mm_iconst dX9_takeConds_30 rfl ?_
    refine mm_iadd dX9_takeConds_31 rfl ?_
    refine mm_istk (k0 := b) dX9_takeConds_32 rfl (c := 20) rfl (by decide) rfl (by omega) (by omega) (fun M32 hM32 => ?_)
    have hR32 : mm_Rf M32 := by rw [hM32]; exact hRQ.up (mm_rt_ar (t := 0) rfl (by decide))
    have hI2 : kl_I M M32 n p := by rw [hM32]; exact hQ.put
    refine mm_aload_n dX9_takeConds_33 rfl rfl ?_
    refine mm_V0g (M1 := M32) dX9_takeConds_34 rfl lk_X9_31 (c := 1) rfl (by decide) rfl  rfl rfl rfl (kl_adv hI2) ?_
    rintro _ N34 ⟨rfl, p34⟩
    change mm_J _ _ _ _ _ _ _ _ _ _
    have hR34 : mm_Rf N34 := p34.1
    obtain ⟨-, hH, e1, f1, g1⟩ := p34
    refine mm_aload_n dX9_takeConds_37 rfl rfl ?_
    refine mm_lds (k0 := 4) dX9_takeConds_38 rfl (by decide) rfl rfl ?_
    refine mm_V1i dX9_takeConds_40 rfl lk_X9_50 (c := 1) rfl (by decide) rfl (by simp) rfl rfl rfl (kl_word (by decide) hH) ?_
    refine mm_istore dX9_takeConds_43 rfl (Nat.le_of_ble_eq_true rfl) rfl ?_
    refine mm_iload dX9_takeConds_45 rfl rfl ?_
    refine mm_ifge dX9_takeConds_47 (by omega) (fun h47 => ?_) (fun h47 => ?_)
    · refine mm_iload dX9_takeConds_56 rfl rfl ?_
      refine mm_iconst dX9_takeConds_58 rfl ?_
      refine mm_icne dX9_takeConds_59 (by omega) (by omega) (fun h59 => ?_) (fun h59 => ?_)
      · refine mm_iinc dX9_takeConds_64 rfl rfl (Nat.le_of_ble_eq_true rfl) rfl ?_
        refine mm_goto dX9_takeConds_67 ?_
        refine go _ _ hH ?_ ?_ ?_ (by omega) (by omega)
        · rw [e1, hM32, kl_up]
        · rw [f1, hM32, mm_up_row (by decide), q2]
        · rw [g1, hM32, mm_up_row (by decide), q3]
      · refine mm_iconst dX9_takeConds_62 rfl ?_
        refine mm_zret dX9_takeConds_63 rfl rfl (Or.inr rfl) ?_
        rw [if_neg (by omega), if_pos (by omega)] at hL
        rw [← hL]
        refine ⟨rfl, hH.1, ?_, ?_, ?_⟩
        · rw [e1, hM32, kl_up]
        · rw [f1, hM32, mm_up_row (by decide), q2]
        · rw [g1, hM32, mm_up_row (by decide), q3]
    · refine mm_aload_n dX9_takeConds_50 rfl rfl ?_
      refine mm_iconst dX9_takeConds_51 rfl ?_
      refine mm_V1i dX9_takeConds_52 rfl lk_X9_54 (c := 1) rfl (by decide) rfl (by simp) rfl rfl rfl (c_X10_fails hR34) ?_
      refine mm_zret dX9_takeConds_55 rfl rfl (Or.inl rfl) ?_
      rw [if_pos (by omega)] at hL
      rw [← hL]
      exact kl_bad hH rfl N
  have bad : ∀ (Q : mm_M) (l3 l4 : mm_V), kl_P M N Q n E (0, 0) → mm_J X Y_X9_takeConds 243 243 243 19 [(2, 19), (2, 2), (0, (b : Int)), l3, l4] [(0, 0)] Q (fun r M' => kl_P M N M' n E r) := by
    intro Q l3 l4 h
    refine mm_ifne dX9_takeConds_19 (by omega) (fun h => absurd h (by decide)) (fun _ => ?_)
    refine mm_iconst dX9_takeConds_22 rfl ?_
    refine mm_zret dX9_takeConds_23 rfl rfl (Or.inl rfl) ?_
    exact h
  -- too many conds
  have many : ∀ (T : mm_M) (p : Nat) (l4 : mm_V), kl_H M T n p → E = .error (4, kt_s (M 2) n p) → mm_J X Y_X9_takeConds 243 243 243 2 [(2, 19), (2, 2), (0, (b : Int)), (0, 3), l4] [] T (fun r M' => kl_P M N M' n E r) := by
    intro T p l4 hH hL
    have hRT := hH.1.1
    refine mm_iload_n dX9_takeConds_2 rfl rfl ?_
    refine mm_iconst dX9_takeConds_3 rfl ?_
    refine mm_icge dX9_takeConds_4 (by omega) (by omega) (fun h4 => ?_) (fun h4 => ?_)
    · refine mm_aload_n dX9_takeConds_70 rfl rfl ?_
      refine mm_iconst dX9_takeConds_71 rfl ?_
      refine mm_V1i dX9_takeConds_72 rfl lk_X9_54 (c := 1) rfl (by decide) rfl (by simp) rfl rfl rfl (c_X10_fails hRT) ?_
      refine mm_zret dX9_takeConds_75 rfl rfl (Or.inl rfl) ?_
      rw [hL]
      exact kl_bad hH rfl N
    · exfalso; omega
  have loop : ∀ j : Nat, j ≤ 2 → ∀ (Q : mm_M) (p : Nat) (l4 : mm_V), kl_I M Q n p → Q 1 2 = N 1 2 → Q 1 3 = N 1 3 → kl_conds (M 2) n b (3 - j) j p (Q 20) = E → mm_J X Y_X9_takeConds 243 243 243 2 [(2, 19), (2, 2), (0, (b : Int)), (0, (j : Int)), l4] [] Q (fun r M' => kl_P M N M' n E r) := by
    refine mm_lp ?_
    intro j hj ih Q p l4 hQ q2 q3 hL
    have hRQ := hQ.1
    rw [show 3 - j = (2 - j) + 1 by omega, kl_conds] at hL
    refine mm_iload_n dX9_takeConds_2 rfl rfl ?_
    refine mm_iconst dX9_takeConds_3 rfl ?_
    refine mm_icge dX9_takeConds_4 (by omega) (by omega) (fun h4 => ?_) (fun h4 => ?_)
    · exfalso; omega
    · refine mm_aload_n dX9_takeConds_7 rfl rfl ?_
      refine mm_aload_n dX9_takeConds_8 rfl rfl ?_
      refine mm_iload_n dX9_takeConds_9 rfl rfl ?_
      refine mm_iconst dX9_takeConds_10 rfl ?_
      refine mm_iadd dX9_takeConds_11 rfl ?_
      refine mm_iload_n dX9_takeConds_12 rfl rfl ?_
      refine mm_iconst dX9_takeConds_13 rfl ?_
      refine mm_imul dX9_takeConds_14 rfl ?_
      refine mm_iadd dX9_takeConds_15 rfl ?_
      rw [show (b : Int) + 1 + (j : Int) * 3 = ((b + 1 + 3 * j : Nat) : Int) by omega]
      refine mm_V2g (M1 := Q) dX9_takeConds_16 rfl lk_X9_64 (c := 18) rfl (by decide) rfl (by simp) (by simp) rfl rfl rfl (c_X9_takeCond (a := b + 1 + 3 * j) hQ (by omega)) ?_
      intro r M' hP
      match hCl : kl_cond (M 2) n (b + 1 + 3 * j) p (Q 20), hP with
      | .ok (p1, D1), hP =>
        obtain ⟨rfl, g1, g2, g3, g4⟩ := hP
        rw [hCl] at hL
        dsimp only at hL
        rw [← g2] at hL
        refine nx j M' p1 l4 (by omega) g1 (g3.trans q2) (g4.trans q3) hL ?_
        intro T l4' hH t1 t2 t3 n1 n2
        rw [if_neg n1, if_neg n2] at hL
        by_cases hj2 : j = 2
        · rw [if_pos (by omega)] at hL
          rw [show (j : Int) + 1 = 3 by omega]
          exact many T p1 l4' hH hL.symm
        · rw [if_neg (by omega)] at hL
          have := ih (by omega) T (kt_e (M 2) n p1) l4' hH.1 t2 t3 (by rw [show 3 - (j + 1) = 2 - j by omega, t1]; exact hL)
          rw [show ((j + 1 : Nat) : Int) = (j : Int) + 1 by omega] at this
          exact this
      | .error (k, s), hP =>
        obtain ⟨rfl, g1⟩ := hP
        rw [hCl] at hL
        dsimp only at hL
        refine bad M' _ _ ?_
        rw [← hL]
        exact ⟨rfl, g1⟩
  have hRN := hI.1
  refine mm_iconst dX9_takeConds_0 rfl ?_
  refine mm_istore_n dX9_takeConds_1 rfl (Nat.le_of_ble_eq_true rfl) rfl ?_
  exact loop 0 (Nat.zero_le _) N p _ hI rfl rfl hE.symm
theorem c_X9_takeLine {sl : Int} (hH : kl_H M N n p) (hsl : M 4 10 = sl ∧ 1 ≤ sl ∧ sl ≤ 3) (hc : c ≤ 8) :
    mm_C X Y_X9_takeLine 243 243 [(2, 19), (2, 2), (0, (c : Int))] N (fun r M' => kl_P M N M' n (kl_line (M 2) n sl c p (N 20)) r) := by
  have hRN := hH.1.1
  obtain ⟨E, hE⟩ : ∃ E, E = kl_line (M 2) n sl c p (N 20) := ⟨_, rfl⟩
  have hL := hE.symm
  rw [← hE]
  unfold kl_line at hL
  have hb1 := kl_nmb (B := M 2) (n := n) (p := p)
  have hb1' := (kp_nmk (B := M 2) (n := n) (p := p) (k0 := 1)).1
  refine mm_start (ls := [(2, 19), (2, 2), (0, (c : Int))]) rfl ?_
  have bad : ∀ (Q : mm_M), kl_P M N Q n E (0, 0) → mm_J X Y_X9_takeLine 243 243 243 36 [(2, 19), (2, 2), (0, (c : Int))] [(0, 0)] Q (fun r M' => kl_P M N M' n E r) := by
    intro Q h
    refine mm_ifeq dX9_takeLine_36 (by omega) (fun _ => ?_) (fun h => absurd (by decide) h)
    refine mm_iconst dX9_takeLine_55 rfl ?_
    refine mm_zret dX9_takeLine_56 rfl rfl (Or.inl rfl) ?_
    exact h
  have bad2 : ∀ (Q : mm_M), kl_P M N Q n E (0, 0) → mm_J X Y_X9_takeLine 243 243 243 48 [(2, 19), (2, 2), (0, (c : Int))] [(0, 0)] Q (fun r M' => kl_P M N M' n E r) := by
    intro Q h
    refine mm_ifeq dX9_takeLine_48 (by omega) (fun _ => ?_) (fun h => absurd (by decide) h)
    refine mm_iconst dX9_takeLine_55 rfl ?_
    refine mm_zret dX9_takeLine_56 rfl rfl (Or.inl rfl) ?_
    exact h
  have ok2 : ∀ (Q : mm_M), kl_P M N Q n E (0, 1) → mm_J X Y_X9_takeLine 243 243 243 48 [(2, 19), (2, 2), (0, (c : Int))] [(0, 1)] Q (fun r M' => kl_P M N M' n E r) := by
    intro Q h
    refine mm_ifeq dX9_takeLine_48 (by omega) (fun h => absurd h (by decide)) (fun _ => ?_)
    refine mm_iconst dX9_takeLine_51 rfl ?_
    refine mm_goto dX9_takeLine_52 ?_
    refine mm_zret dX9_takeLine_56 rfl rfl (Or.inr rfl) ?_
    exact h
  have act : ∀ (Q : mm_M) (p1 : Nat), c < 8 → kl_I M Q n p1 → Q 1 2 = N 1 2 → Q 1 3 = N 1 3 → kl_act (M 2) n sl (11 * c) p1 (Q 20) = E → mm_J X Y_X9_takeLine 243 243 243 36 [(2, 19), (2, 2), (0, (c : Int))] [(0, 1)] Q (fun r M' => kl_P M N M' n E r) := by
    intro Q p1 hc8 hQ q2 q3 hL
    refine mm_ifeq dX9_takeLine_36 (by omega) (fun h => absurd h (by decide)) (fun _ => ?_)
    refine mm_aload_n dX9_takeLine_39 rfl rfl ?_
    refine mm_aload_n dX9_takeLine_40 rfl rfl ?_
    refine mm_iload_n dX9_takeLine_41 rfl rfl ?_
    refine mm_bipush dX9_takeLine_42 rfl (by decide) ?_
    refine mm_imul dX9_takeLine_44 rfl ?_
    rw [show (c : Int) * 11 = ((11 * c : Nat) : Int) by omega]
    refine mm_V2g (M1 := Q) dX9_takeLine_45 rfl lk_X9_61 (c := 18) rfl (by decide) rfl (by simp) (by simp) rfl rfl rfl (c_X9_takeAct (b := 11 * c) hQ hsl (by omega)) ?_
    intro r M' hP
    rw [hL] at hP
    rcases hEc : E with ⟨k, s⟩ | ⟨p2, D2⟩
    · rw [hEc] at hP
      obtain ⟨rfl, g⟩ := hP
      exact hEc ▸ bad2 M' (by rw [hEc]; exact ⟨rfl, g⟩)
    · rw [hEc] at hP
      obtain ⟨rfl, g1, g2, g3, g4⟩ := hP
      exact hEc ▸ ok2 M' (by rw [hEc]; exact ⟨rfl, g1, g2, g3.trans q2, g4.trans q3⟩)
  refine mm_aload_n dX9_takeLine_0 rfl rfl ?_
  refine mm_lds (k0 := 1) dX9_takeLine_1 rfl (by decide) rfl rfl ?_
  refine mm_V1i dX9_takeLine_3 rfl lk_X9_50 (c := 1) rfl (by decide) rfl (by simp) rfl rfl rfl (kl_word (by decide) hH) ?_
  refine mm_ifge dX9_takeLine_6 (by omega) (fun h6 => ?_) (fun h6 => ?_)
  · refine mm_iload_n dX9_takeLine_15 rfl rfl ?_
    refine mm_bipush dX9_takeLine_16 rfl (by decide) ?_
    refine mm_iclt dX9_takeLine_18 (by omega) (by omega) (fun h18 => ?_) (fun h18 => ?_)
    · refine mm_aload_n dX9_takeLine_27 rfl rfl ?_
      refine mm_aload_n dX9_takeLine_28 rfl rfl ?_
      refine mm_iload_n dX9_takeLine_29 rfl rfl ?_
      refine mm_bipush dX9_takeLine_30 rfl (by decide) ?_
      refine mm_imul dX9_takeLine_32 rfl ?_
      rw [if_neg (by omega), if_neg (by omega)] at hL
      rw [show (c : Int) * 11 = ((11 * c : Nat) : Int) by omega]
      refine mm_V2g (M1 := N) dX9_takeLine_33 rfl lk_X9_58 (c := 18) rfl (by decide) rfl (by simp) (by simp) rfl rfl rfl (c_X9_takeConds (b := 11 * c) hH.1 (by omega)) ?_
      intro r M' hP
      match hCl : kl_conds (M 2) n (11 * c) 3 0 (kt_e (M 2) n p) (N 20), hP with
      | .ok (p1, D1), hP =>
        obtain ⟨rfl, g1, g2, g3, g4⟩ := hP
        rw [hCl] at hL
        dsimp only at hL
        rw [← g2] at hL
        exact act M' p1 (by omega) g1 g3 g4 hL
      | .error (k, s), hP =>
        obtain ⟨rfl, g1⟩ := hP
        rw [hCl] at hL
        dsimp only at hL
        refine bad M' ?_
        rw [← hL]
        exact ⟨rfl, g1⟩
    · refine mm_aload_n dX9_takeLine_21 rfl rfl ?_
      refine mm_iconst dX9_takeLine_22 rfl ?_
      refine mm_V1i dX9_takeLine_23 rfl lk_X9_54 (c := 1) rfl (by decide) rfl (by simp) rfl rfl rfl (c_X10_fails hRN) ?_
      refine mm_zret dX9_takeLine_26 rfl rfl (Or.inl rfl) ?_
      rw [if_neg (by omega), if_pos (by omega)] at hL
      rw [← hL]
      exact kl_bad hH rfl N
  · refine mm_aload_n dX9_takeLine_9 rfl rfl ?_
    refine mm_iconst dX9_takeLine_10 rfl ?_
    refine mm_V1i dX9_takeLine_11 rfl lk_X9_54 (c := 1) rfl (by decide) rfl (by simp) rfl rfl rfl (c_X10_fails hRN) ?_
    refine mm_zret dX9_takeLine_14 rfl rfl (Or.inl rfl) ?_
    rw [if_pos (by omega)] at hL
    rw [← hL]
    exact kl_bad hH rfl N
/-- how takeText ends -/
def kl_Q (M M' : mm_M) (e : kp_E) (r : mm_V) : Prop := match e with
  | .ok (c, D) => r = (0, (c : Int)) ∧ mm_Rf M' ∧ (∀ a, a ≠ 1 → a ≠ 18 → a ≠ 19 → a ≠ 20 → M' a = M a) ∧ (∀ b, b < 2 → M' 1 b = M 1 b) ∧ M' 1 2 = 0 ∧ M' 1 3 = -1 ∧ M' 18 1 = (c : Int) ∧ (∀ b, b ≠ 1 → M' 18 b = M 18 b) ∧ (∀ b, b < 88 → M' 19 b = D b)
  | .error (k, s) => r = (0, -1) ∧ mm_Rf M' ∧ (∀ a, a ≠ 1 → a ≠ 20 → M' a = M a) ∧ (∀ b, b < 2 → M' 1 b = M 1 b) ∧ M' 1 2 = k ∧ M' 1 3 = (s : Int)
theorem c_X9_takeText {sl : Int} (hR : mm_Rf M) (hT : mm_CT M n) (hsl : M 4 10 = sl ∧ 1 ≤ sl ∧ sl ≤ 3) :
    mm_C X Y_X9_takeText 243 243 [(2, 19), (2, 2)] M (fun r M' => kl_Q M M' (kl_text (M 2) n sl 9 0 0 (M 20)) r) := by
  obtain ⟨E, hE⟩ : ∃ E, E = kl_text (M 2) n sl 9 0 0 (M 20) := ⟨_, rfl⟩
  rw [← hE]
  refine mm_start (ls := [(2, 19), (2, 2), (9, 0)]) rfl ?_
  have loop : ∀ c : Nat, c ≤ 8 → ∀ (Q : mm_M) (p : Nat), kl_I M Q n p → Q 1 2 = 0 → Q 1 3 = -1 → kl_text (M 2) n sl (9 - c) c p (Q 20) = E →
      mm_J X Y_X9_takeText 243 243 243 6 [(2, 19), (2, 2), (0, (c : Int))] [] Q (fun r M' => kl_Q M M' E r) := by
    refine mm_lp ?_
    intro c hc ih Q p hQ q2 q3 hL
    have hRQ := hQ.1
    have hkb := kt_kb (B := M 2) (n := n) (p := p)
    rw [show 9 - c = (8 - c) + 1 by omega, kl_text] at hL
    have nx1 : ∀ (T : mm_M) (p' : Nat), c < 8 → kl_I M T n p' → T 1 2 = 0 → T 1 3 = -1 → kl_text (M 2) n sl (8 - c) (c + 1) p' (T 20) = E → mm_J X Y_X9_takeText 243 243 243 54 [(2, 19), (2, 2), (0, (c : Int))] [(0, 1)] T (fun r M' => kl_Q M M' E r) := by
      intro T p' hc8 hIT h2 h3 hL'
      have hRT := hIT.1
      refine mm_ifne dX9_takeText_54 (by omega) (fun _ => ?_) (fun h => absurd h (by decide))
      refine mm_iinc dX9_takeText_59 rfl rfl (Nat.le_of_ble_eq_true rfl) rfl ?_
      refine mm_goto dX9_takeText_62 ?_
      exact ih hc8 T p' hIT h2 h3 (by rw [show 9 - (c + 1) = 8 - c by omega]; exact hL')
    have nx0 : ∀ (T : mm_M), kl_Q M T E (0, -1) → mm_J X Y_X9_takeText 243 243 243 54 [(2, 19), (2, 2), (0, (c : Int))] [(0, 0)] T (fun r M' => kl_Q M M' E r) := by
      intro T hQ9
      refine mm_ifne dX9_takeText_54 (by omega) (fun h => absurd h (by decide)) (fun _ => ?_)
      refine mm_iconst dX9_takeText_57 rfl ?_
      refine mm_iret dX9_takeText_58 rfl rfl ?_
      exact hQ9
    refine mm_iload_n dX9_takeText_6 rfl rfl ?_
    refine mm_bipush dX9_takeText_7 rfl (by decide) ?_
    refine mm_icgt dX9_takeText_9 (by omega) (by omega) (fun h9 => ?_) (fun h9 => ?_)
    · exfalso; omega
    · refine mm_aload_n dX9_takeText_12 rfl rfl ?_
      refine mm_V0g (M1 := Q) dX9_takeText_13 rfl lk_X9_31 (c := 1) rfl (by decide) rfl  rfl rfl rfl (kl_adv hQ) ?_
      rintro _ N13 ⟨rfl, p13⟩
      change mm_J _ _ _ _ _ _ _ _ _ _
      have hR13 : mm_Rf N13 := p13.1
      obtain ⟨-, hH, e1, f1, g1⟩ := p13
      obtain ⟨hI2, -, ek, es, ev⟩ := id hH
      refine mm_aload_n dX9_takeText_16 rfl rfl ?_
      refine mm_V0i dX9_takeText_17 rfl lk_X9_34 (c := 1) rfl (by decide) rfl  rfl rfl rfl (c_X10_isAtEnd hR13 (by omega)) ?_
      refine mm_ifeqb dX9_takeText_20 (fun h20 => ?_) (fun h20 => ?_)
      · refine mm_aload_n dX9_takeText_48 rfl rfl ?_
        refine mm_aload_n dX9_takeText_49 rfl rfl ?_
        refine mm_iload_n dX9_takeText_50 rfl rfl ?_
        rw [ek] at h20
        rw [if_neg h20] at hL
        refine mm_V2g (M1 := N13) dX9_takeText_51 rfl lk_X9_44 (c := 18) rfl (by decide) rfl (by simp) (by simp) rfl rfl rfl (c_X9_takeLine (c := c) hH hsl (by omega)) ?_
        intro r M' hP
        rw [e1] at hP
        match hCl : kl_line (M 2) n sl c p (Q 20), hP with
        | .ok (p', D'), hP =>
          obtain ⟨rfl, g1', g2, g3, g4⟩ := hP
          have hc8 : c < 8 := by
            rcases Nat.lt_or_ge c 8 with z | z
            · exact z
            · exfalso
              unfold kl_line at hCl
              split at hCl
              · cases hCl
              · cases hCl
          rw [hCl] at hL
          exact nx1 M' p' hc8 g1' (by rw [g3, f1, q2]) (by rw [g4, g1, q3]) (by rw [g2]; exact hL)
        | .error (k, s), hP =>
          obtain ⟨rfl, g1'⟩ := hP
          rw [hCl] at hL
          refine nx0 M' ?_
          rw [← hL]
          exact ⟨rfl, g1'⟩
      · refine mm_aload_n dX9_takeText_23 rfl rfl ?_
        refine mm_getr dX9_takeText_24 rfl fl_X9_15 (c := 18) rfl (by decide) rfl rfl (hR13.at (c := 18) (i := 3) (v := 21) rfl (by decide)) ?_
        refine mm_iconst dX9_takeText_27 rfl ?_
        refine mm_aload_n dX9_takeText_28 rfl rfl ?_
        refine mm_getr dX9_takeText_29 rfl fl_X9_11 (c := 18) rfl (by decide) rfl rfl (hR13.at (c := 18) (i := 2) (v := 20) rfl (by decide)) ?_
        refine mm_iconst dX9_takeText_32 rfl ?_
        refine mm_aload_n dX9_takeText_33 rfl rfl ?_
        refine mm_getr dX9_takeText_34 rfl fl_X9_11 (c := 18) rfl (by decide) rfl rfl (hR13.at (c := 18) (i := 2) (v := 20) rfl (by decide)) ?_
        refine mm_aln dX9_takeText_37 rfl (c := 19) rfl (by decide) rfl ?_
        refine mm_copy dX9_takeText_38 rfl la_X9_38 rfl rfl (c := 20) rfl (by decide) rfl (d := 19) rfl (by decide) rfl (by omega) (by omega) (by omega) (by omega) (by omega) ?_
        obtain ⟨N38, hN38⟩ : ∃ Z, Z = mm_cp N13 19 (N13 20) (0 : Int).toNat (0 : Int).toNat ((88 : Nat) : Int).toNat := ⟨_, rfl⟩
        have hR38 : mm_Rf N38 := by rw [hN38]; exact hR13.cp (len := 88) rfl
        have u : ∀ a, a ≠ 19 → N38 a = N13 a := by intro a ha; rw [hN38]; funext b; simp [mm_cp, ha]
        have u19 : ∀ b, b < 88 → N38 19 b = N13 20 b := by
          intro b hb
          rw [hN38]
          unfold mm_cp
          rw [if_pos ⟨rfl, Nat.zero_le _, by simpa using hb⟩]
          simp
        rw [← hN38]
        refine mm_aload_n dX9_takeText_41 rfl rfl ?_
        refine mm_iload_n dX9_takeText_42 rfl rfl ?_
        refine mm_puti dX9_takeText_43 rfl fl_X9_22 (c := 18) rfl (by decide) rfl rfl (fun M43 hM43 => ?_)
        have hR43 : mm_Rf M43 := by rw [hM43]; exact hR38.up rfl
        refine mm_iload_n dX9_takeText_46 rfl rfl ?_
        refine mm_iret dX9_takeText_47 rfl rfl ?_
        rw [ek] at h20
        rw [if_pos h20] at hL
        rw [← hL]
        refine ⟨rfl, hR43, ?_, ?_, ?_, ?_, ?_, ?_, ?_⟩
        · intro a a1 a2 a3 a4; rw [hM43, mm_up_row a2, u a a3]; exact hI2.2.1 a a1 a4
        · intro b hb; rw [hM43, mm_up_row (by decide), u 1 (by decide)]; exact hI2.2.2.1 b hb
        · rw [hM43, mm_up_row (by decide), u 1 (by decide), f1]; exact q2
        · rw [hM43, mm_up_row (by decide), u 1 (by decide), g1]; exact q3
        · rw [hM43, mm_up_s]
        · intro b hb; rw [hM43, mm_up_i hb, u 18 (by decide)]; exact congrFun (hI2.2.1 18 (by decide) (by decide)) b
        · intro b hb; rw [hM43, mm_up_row (by decide), u19 b hb, e1]
  refine mm_aload_n dX9_takeText_0 rfl rfl ?_
  obtain ⟨N5, hN5⟩ : ∃ N, N = mm_up (mm_up (mm_up M 1 7 0) 1 2 0) 1 3 (-1) := ⟨_, rfl⟩
  have hR5 : mm_Rf N5 := by rw [hN5]; exact ((hR.up rfl).up rfl).up rfl
  refine mm_V0v dX9_takeText_1 rfl lk_X9_26 (c := 1) rfl (by decide) rfl  rfl rfl rfl ((hN5 ▸ c_X10_startText hR)) ?_
  refine mm_iconst dX9_takeText_4 rfl ?_
  refine mm_istore_n dX9_takeText_5 rfl (Nat.le_of_ble_eq_true rfl) rfl ?_
  have w : ∀ a, a ≠ 1 → N5 a = M a := by intro a ha; rw [hN5, mm_up_row ha, mm_up_row ha, mm_up_row ha]
  refine loop 0 (Nat.zero_le _) N5 0 ⟨hR5, ?_, ?_, ⟨?_, hT.2.1, ?_⟩, Nat.zero_le _, ?_⟩ ?_ ?_ ?_
  · intro a a1 a2; exact w a a1
  · intro b hb; rw [hN5, mm_up_i (by omega), mm_up_i (by omega), mm_up_i (by omega)]
  · rw [hN5, mm_up_i (by decide), mm_up_i (by decide), mm_up_i (by decide)]; exact hT.1
  · rw [w 2 (by decide)]; exact hT.2.2
  · rw [hN5, mm_up_i (by decide), mm_up_i (by decide), mm_up_s]; rfl
  · rw [hN5, mm_up_i (by decide), mm_up_s]
  · rw [hN5, mm_up_s]
  · rw [w 20 (by decide)]; exact hE.symm
/-- rules, of the class -/
def kl_K (M M' : mm_M) (e : kp_E) (r : mm_V) : Prop := mm_Rf M' ∧ M' 1 1 = 0 ∧ match e with
  | .ok (c, D) => r = (0, (c : Int)) ∧ (∀ a, a ≠ 1 → a ≠ 18 → a ≠ 19 → a ≠ 20 → M' a = M a) ∧ M' 1 2 = 0 ∧ M' 1 3 = -1 ∧ M' 18 1 = (c : Int) ∧ (∀ b, b < 88 → M' 19 b = D b)
  | .error (k, s) => r = (0, -1) ∧ (∀ a, a ≠ 1 → a ≠ 20 → M' a = M a) ∧ M' 1 2 = k ∧ M' 1 3 = (s : Int)
theorem c_X11_rules {sl : Int} (hR : mm_Rf M) (hT : mm_CT M n) (hsl : M 4 10 = sl ∧ 1 ≤ sl ∧ sl ≤ 3) :
    mm_C X Y_X11_rules 243 243 [(2, 1)] M (fun r M' => kl_K M M' (kl_text (M 2) n sl 9 0 0 (M 20)) r) := by
  obtain ⟨E, hE⟩ : ∃ E, E = kl_text (M 2) n sl 9 0 0 (M 20) := ⟨_, rfl⟩
  have ct := c_X9_takeText (X := X) hR hT hsl
  rw [← hE] at ct ⊢
  refine mm_start (ls := [(2, 1), (9, 0)]) rfl ?_
  have fin : ∀ (T : mm_M) (z : Int), kl_Q M T E (0, z) → mm_J X Y_X11_rules 243 243 243 11 [(2, 1), (9, 0)] [(0, z)] T (fun r M' => kl_K M M' E r) := by
    intro T z hQT
    have hRT : mm_Rf T := by
      rcases hc : E with ⟨k, s⟩ | ⟨c, D⟩ <;> rw [hc] at hQT <;> exact hQT.2.1
    refine mm_istore_n dX11_rules_11 rfl (Nat.le_of_ble_eq_true rfl) rfl ?_
    refine mm_aload_n dX11_rules_12 rfl rfl ?_
    refine mm_getr dX11_rules_13 rfl fl_X11_10 (c := 0) rfl (by decide) rfl rfl (hRT.at (c := 0) (i := 0) (v := 2) rfl (by decide)) ?_
    refine mm_iconst dX11_rules_16 rfl ?_
    refine mm_puti dX11_rules_17 rfl fl_X11_105 (c := 1) rfl (by decide) rfl rfl (fun M17 hM17 => ?_)
    have hR17 : mm_Rf M17 := by rw [hM17]; exact hRT.up rfl
    refine mm_iload_n dX11_rules_20 rfl rfl ?_
    refine mm_iret dX11_rules_21 rfl rfl ?_
    rcases hc : E with ⟨k, s⟩ | ⟨c, D⟩
    · rw [hc] at hQT
      obtain ⟨t0, t1, t2, t3, t4, t5⟩ := hQT
      refine ⟨hR17, ?_, t0, ?_, ?_, ?_⟩
      · rw [hM17, mm_up_s]
      · intro a a1 a2; rw [hM17, mm_up_row a1]; exact t2 a a1 a2
      · rw [hM17, mm_up_i (by decide)]; exact t4
      · rw [hM17, mm_up_i (by decide)]; exact t5
    · rw [hc] at hQT
      obtain ⟨t0, t1, t2, t3, t4, t5, t6, t7, t8⟩ := hQT
      refine ⟨hR17, ?_, t0, ?_, ?_, ?_, ?_, ?_⟩
      · rw [hM17, mm_up_s]
      · intro a a1 a2 a3 a4; rw [hM17, mm_up_row a1]; exact t2 a a1 a2 a3 a4
      · rw [hM17, mm_up_i (by decide)]; exact t4
      · rw [hM17, mm_up_i (by decide)]; exact t5
      · rw [hM17, mm_up_row (by decide)]; exact t6
      · intro b hb; rw [hM17, mm_up_row (by decide)]; exact t8 b hb
  refine mm_aload_n dX11_rules_0 rfl rfl ?_
  refine mm_getr dX11_rules_1 rfl fl_X11_35 (c := 0) rfl (by decide) rfl rfl (hR.at (c := 0) (i := 3) (v := 19) rfl (by decide)) ?_
  refine mm_aload_n dX11_rules_4 rfl rfl ?_
  refine mm_getr dX11_rules_5 rfl fl_X11_10 (c := 0) rfl (by decide) rfl rfl (hR.at (c := 0) (i := 0) (v := 2) rfl (by decide)) ?_
  refine mm_V1g (M1 := M) dX11_rules_8 rfl lk_X11_125 (c := 18) rfl (by decide) rfl (by simp) rfl rfl rfl ct ?_
  intro r T hQT
  have : ∃ z, r = (0, z) := by
    rcases hc : E with ⟨k, s⟩ | ⟨c, D⟩ <;> rw [hc] at hQT <;> exact ⟨_, hQT.1⟩
  obtain ⟨z, rfl⟩ := this
  exact fin T z hQT
end

