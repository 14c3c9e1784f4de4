/-! A3.rules -/
section
/-! ===== the text of rules: what it tells ===== -/
def kl_set (D : Nat → Int) (a : Nat) (v : Int) (i : Nat) : Int := if i = a then v else D i
/-- a cond, kept from place a on -/
def kl_cond (B : Nat → Int) (n a p : Nat) (D : Nat → Int) : kp_E :=
  if kp_nm B n p 2 < 0 then .error (1, kt_s B n p) else if kp_nm B n (kt_e B n p) 3 < 0 then .error (1, kt_s B n (kt_e B n p))
  else if ¬ kt_k B n (kt_e B n (kt_e B n p)) = 2 then .error (1, kt_s B n (kt_e B n (kt_e B n p)))
  else .ok (kt_e B n (kt_e B n (kt_e B n p)), kl_set (kl_set (kl_set D a (kp_nm B n p 2)) (a + 1) (kp_nm B n (kt_e B n p) 3)) (a + 2) (kt_v B n (kt_e B n (kt_e B n p))))
/-- conds, from the j-th on, to `do` -/
def kl_conds (B : Nat → Int) (n b : Nat) : Nat → Nat → Nat → (Nat → Int) → kp_E
  | 0, _, _, _ => .error (0, 0)
  | k + 1, j, p, D => match kl_cond B n (b + 1 + 3 * j) p D with
    | .error f => .error f
    | .ok (p1, D1) => if kp_nm B n p1 4 < 0 then .error (1, kt_s B n p1) else if kp_nm B n p1 4 = 1 then .ok (kt_e B n p1, kl_set D1 b ((j : Int) + 1))
      else if k = 0 then .error (4, kt_s B n p1) else kl_conds B n b k (j + 1) (kt_e B n p1) (kl_set D1 b ((j : Int) + 1))
/-- the act of a line, and its semicolon -/
def kl_act (B : Nat → Int) (n : Nat) (sl : Int) (b p : Nat) (D : Nat → Int) : kp_E :=
  if ¬ kt_k B n p = 2 then .error (1, kt_s B n p) else if sl ≤ kt_v B n p then .error (2, kt_s B n p)
  else if kp_nm B n (kt_e B n p) 5 < 0 then .error (1, kt_s B n (kt_e B n p))
  else if kp_nm B n (kt_e B n (kt_e B n p)) 6 < 0 then .error (1, kt_s B n (kt_e B n (kt_e B n p)))
  else if ¬ kt_k B n (kt_e B n (kt_e B n (kt_e B n p))) = 3 then .error (1, kt_s B n (kt_e B n (kt_e B n (kt_e B n p))))
  else .ok (kt_e B n (kt_e B n (kt_e B n (kt_e B n p))), kl_set D (b + 10) (15 * kt_v B n p + 3 * kp_nm B n (kt_e B n p) 5 + kp_nm B n (kt_e B n (kt_e B n p)) 6))
/-- the c-th line, at p -/
def kl_line (B : Nat → Int) (n : Nat) (sl : Int) (c p : Nat) (D : Nat → Int) : kp_E :=
  if kp_nm B n p 1 < 0 then .error (1, kt_s B n p) else if 8 ≤ c then .error (4, kt_s B n p)
  else match kl_conds B n (11 * c) 3 0 (kt_e B n p) D with
    | .error f => .error f
    | .ok (p1, D1) => kl_act B n sl (11 * c) p1 D1
/-- lines to the end: how many, and what they tell -/
def kl_text (B : Nat → Int) (n : Nat) (sl : Int) : Nat → Nat → Nat → (Nat → Int) → kp_E
  | 0, _, _, _ => .error (0, 0)
  | k + 1, c, p, D => if kt_k B n p = 0 then .ok (c, D) else match kl_line B n sl c p D with
    | .error f => .error f
    | .ok (p1, D1) => kl_text B n sl k (c + 1) p1 D1
theorem kp_nmk {B : Nat → Int} {n p k0 : Nat} : -1 ≤ kp_nm B n p k0 ∧ kp_nm B n p k0 ≤ ((mm_sc.getD k0 mm_sd).2.2.2.count 32 : Nat) := by
  unfold kp_nm
  split
  · have := kt_fb (T := fun j => B (kt_s B n p + j)) (len := kt_e B n p - kt_s B n p) (mm_sc.getD k0 mm_sd).2.2.2 0 0 true
    omega
  · omega
theorem kl_nmb {B : Nat → Int} {n p : Nat} : (kp_nm B n p 1 < 1) ∧ (kp_nm B n p 2 < 5) ∧ (kp_nm B n p 3 < 3) ∧ (kp_nm B n p 4 < 2) ∧ (kp_nm B n p 5 < 5) ∧ (kp_nm B n p 6 < 3) := by
  have e1 : (mm_sc.getD 1 mm_sd).2.2.2.count 32 = 0 := by decide +kernel
  have e2 : (mm_sc.getD 2 mm_sd).2.2.2.count 32 = 4 := by decide +kernel
  have e3 : (mm_sc.getD 3 mm_sd).2.2.2.count 32 = 2 := by decide +kernel
  have e4 : (mm_sc.getD 4 mm_sd).2.2.2.count 32 = 1 := by decide +kernel
  have e5 : (mm_sc.getD 5 mm_sd).2.2.2.count 32 = 4 := by decide +kernel
  have e6 : (mm_sc.getD 6 mm_sd).2.2.2.count 32 = 2 := by decide +kernel
  have a1 := (kp_nmk (B := B) (n := n) (p := p) (k0 := 1)).2
  have a2 := (kp_nmk (B := B) (n := n) (p := p) (k0 := 2)).2
  have a3 := (kp_nmk (B := B) (n := n) (p := p) (k0 := 3)).2
  have a4 := (kp_nmk (B := B) (n := n) (p := p) (k0 := 4)).2
  have a5 := (kp_nmk (B := B) (n := n) (p := p) (k0 := 5)).2
  have a6 := (kp_nmk (B := B) (n := n) (p := p) (k0 := 6)).2
  rw [e1] at a1; rw [e2] at a2; rw [e3] at a3; rw [e4] at a4; rw [e5] at a5; rw [e6] at a6
  omega
/-- while a text of rules is read -/
def kl_I (M N : mm_M) (n p : Nat) : Prop := mm_Rf N ∧ (∀ a, a ≠ 1 → a ≠ 20 → N a = M a) ∧ (∀ b, b < 2 → N 1 b = M 1 b) ∧ mm_CT N n ∧ p ≤ n ∧ N 1 7 = (p : Int)
/-- the token behind p is at hand -/
def kl_H (M N : mm_M) (n p : Nat) : Prop := kl_I M N n (kt_e (M 2) n p) ∧ p ≤ n ∧ N 1 5 = kt_k (M 2) n p ∧ N 1 6 = (kt_s (M 2) n p : Int) ∧ (kt_k (M 2) n p = 2 → N 1 4 = kt_v (M 2) n p)
/-- how a piece of it ends -/
def kl_P (M N M' : mm_M) (n : Nat) (e : kp_E) (r : mm_V) : Prop := match e with
  | .ok (p', D') => r = (0, 1) ∧ kl_I M M' n p' ∧ M' 20 = D' ∧ M' 1 2 = N 1 2 ∧ M' 1 3 = N 1 3
  | .error (k, s) => r = (0, 0) ∧ mm_Rf M' ∧ (∀ a, a ≠ 1 → a ≠ 20 → M' a = M a) ∧ (∀ b, b < 2 → M' 1 b = M 1 b) ∧ M' 1 2 = k ∧ M' 1 3 = (s : Int)
theorem kl_I.put {M N : mm_M} {n p a : Nat} {v : Int} (h : kl_I M N n p) : kl_I M (mm_up N 20 a v) n p := by
  obtain ⟨i1, i2, i3, i4, i5, i6⟩ := h
  refine ⟨i1.up rfl, ?_, ?_, ⟨?_, i4.2.1, ?_⟩, i5, ?_⟩
  · intro c c1 c2; rw [mm_up_row c2]; exact i2 c c1 c2
  · intro b hb; rw [mm_up_row (by decide)]; exact i3 b hb
  · rw [mm_up_row (by decide)]; exact i4.1
  · rw [mm_up_row (by decide)]; exact i4.2.2
  · rw [mm_up_row (by decide)]; exact i6
theorem kl_H.put {M N : mm_M} {n p a : Nat} {v : Int} (h : kl_H M N n p) : kl_H M (mm_up N 20 a v) n p := by
  obtain ⟨h1, h2, h3, h4, h5⟩ := h
  refine ⟨h1.put, h2, ?_, ?_, ?_⟩
  · rw [mm_up_row (by decide)]; exact h3
  · rw [mm_up_row (by decide)]; exact h4
  · rw [mm_up_row (by decide)]; exact h5
theorem kl_up {N : mm_M} {a : Nat} {v : Int} : (mm_up N 20 a v) 20 = kl_set (N 20) a v := by
  funext i
  unfold kl_set
  by_cases q : i = a
  · rw [if_pos q, q, mm_up_s]
  · rw [if_neg q, mm_up_i q]
section
variable {X : mm_X} {M N : mm_M} {n p a b c j k0 s : Nat} {k : Int}
theorem kl_adv (hI : kl_I M N n p) : mm_C X Y_X10_advance 243 243 [(2, 2)] N (fun r M' => r = (3, 0) ∧ mm_Rf M' ∧ kl_H M M' n p ∧ M' 20 = N 20 ∧ M' 1 2 = N 1 2 ∧ M' 1 3 = N 1 3) := by
  obtain ⟨i1, i2, i3, i4, i5, i6⟩ := hI
  have e2 : N 2 = M 2 := i2 2 (by decide) (by decide)
  refine mm_Cmono (c_X10_advance i1 i4 i5 i6) ?_
  rintro r M' ⟨h1, h2, h3⟩
  obtain ⟨q1, q2, q3, q4, q5, q6⟩ := id h3
  rw [e2] at q3 q4 q5 q6
  refine ⟨h1, h2, ⟨⟨h2, ?_, ?_, h3.ct i4, (kt_eb i5).2, q5⟩, i5, q3, q4, q6⟩, q1 20 (by decide), q2 2 (by decide), q2 3 (by decide)⟩
  · intro a a1 a2; rw [q1 a a1]; exact i2 a a1 a2
  · intro b hb; rw [q2 b (by omega)]; exact i3 b hb
theorem kl_word (hk : k0 < 37) (hH : kl_H M N n p) : mm_Fn X Y_X10_wordAmong 243 [(2, 2), (2, -((k0 + 100 : Nat) : Int))] N (0, kp_nm (M 2) n p k0) N := by
  obtain ⟨⟨i1, i2, i3, i4, i5, i6⟩, h2, h3, h4, h5⟩ := hH
  have hkb := kt_kb (B := M 2) (n := n) (p := p)
  have heb := kt_eb (B := M 2) h2
  have e2 : N 2 = M 2 := i2 2 (by decide) (by decide)
  have c := c_X10_wordAmong (X := X) (M := N) (k0 := k0) i1 i4 hk (by omega) h4 i6 heb
  rw [show (if N 1 5 = 1 then kt_f (fun j => N 2 (kt_s (M 2) n p + j)) (kt_e (M 2) n p - kt_s (M 2) n p) (mm_sc.getD k0 mm_sd).2.2.2 0 0 true else -1) = kp_nm (M 2) n p k0 by rw [e2, h3]; rfl] at c
  exact c
theorem kl_bad {M' : mm_M} (hH : kl_H M N n p) (hM : M' = mm_up (mm_up N 1 2 k) 1 3 (N 1 6)) (Q : mm_M) : kl_P M Q M' n (.error (k, kt_s (M 2) n p)) (0, 0) := by
  obtain ⟨⟨i1, i2, i3, i4, i5, i6⟩, h2, h3, h4, h5⟩ := hH
  refine ⟨rfl, by rw [hM]; exact (i1.up rfl).up rfl, ?_, ?_, ?_, ?_⟩
  · intro a a1 a2; rw [hM, mm_up_row a1, mm_up_row a1]; exact i2 a a1 a2
  · intro b hb; rw [hM, mm_up_i (by omega), mm_up_i (by omega)]; exact i3 b hb
  · rw [hM, mm_up_i (by decide), mm_up_s]
  · rw [hM, mm_up_s]; exact h4
theorem c_X9_takeCond (hI : kl_I M N n p) (ha : a + 3 ≤ 88) :
    mm_C X Y_X9_takeCond 243 243 [(2, 19), (2, 2), (0, (a : Int))] N (fun r M' => kl_P M N M' n (kl_cond (M 2) n a p (N 20)) r) := by
  have hRN := hI.1
  obtain ⟨E, hE⟩ : ∃ E, E = kl_cond (M 2) n a p (N 20) := ⟨_, rfl⟩
  have hL := hE.symm
  rw [← hE]
  unfold kl_cond at hL
  have hb1 := kl_nmb (B := M 2) (n := n) (p := p)
  have hb1' := (kp_nmk (B := M 2) (n := n) (p := p) (k0 := 2)).1
  have hb2 := kl_nmb (B := M 2) (n := n) (p := kt_e (M 2) n p)
  have hb2' := (kp_nmk (B := M 2) (n := n) (p := kt_e (M 2) n p) (k0 := 3)).1
  have hkb := kt_kb (B := M 2) (n := n) (p := kt_e (M 2) n (kt_e (M 2) n p))
  have hvb := kt_vb (B := M 2) (n := n) (p := kt_e (M 2) n (kt_e (M 2) n p))
  refine mm_start (ls := [(2, 19), (2, 2), (0, (a : Int)), (9, 0)]) rfl ?_
  refine mm_aload_n dX9_takeCond_0 rfl rfl ?_
  refine mm_V0g (M1 := N) dX9_takeCond_1 rfl lk_X9_31 (c := 1) rfl (by decide) rfl  rfl rfl rfl (kl_adv hI) ?_
  rintro _ N1 ⟨rfl, p1⟩
  change mm_J _ _ _ _ _ _ _ _ _ _
  have hR1 : mm_Rf N1 := p1.1
  obtain ⟨-, hH1, e1, f1, g1⟩ := p1
  refine mm_aload_n dX9_takeCond_4 rfl rfl ?_
  refine mm_getr dX9_takeCond_5 rfl fl_X9_15 (c := 18) rfl (by decide) rfl rfl (hR1.at (c := 18) (i := 3) (v := 21) rfl (by decide)) ?_
  refine mm_iload_n dX9_takeCond_8 rfl rfl ?_
  refine mm_aload_n dX9_takeCond_9 rfl rfl ?_
  refine mm_lds (k0 := 2) dX9_takeCond_10 rfl (by decide) rfl rfl ?_
  refine mm_V1i dX9_takeCond_12 rfl lk_X9_50 (c := 1) rfl (by decide) rfl (by simp) rfl rfl rfl (kl_word (by decide) hH1) ?_
  refine mm_istk (k0 := a) dX9_takeCond_15 rfl (c := 20) rfl (by decide) rfl (by omega) (by omega) (fun M15 hM15 => ?_)
  have hR15 : mm_Rf M15 := by rw [hM15]; exact hR1.up (mm_rt_ar (t := 0) rfl (by decide))
  have hH2 : kl_H M M15 n p := by rw [hM15]; exact hH1.put
  have d2 : M15 20 a = kp_nm (M 2) n p 2 := by rw [hM15, mm_up_s]
  refine mm_aload_n dX9_takeCond_16 rfl rfl ?_
  refine mm_getr dX9_takeCond_17 rfl fl_X9_15 (c := 18) rfl (by decide) rfl rfl (hR15.at (c := 18) (i := 3) (v := 21) rfl (by decide)) ?_
  refine mm_iload_n dX9_takeCond_20 rfl rfl ?_
  refine mm_ialk (k0 := a) dX9_takeCond_21 rfl (c := 20) rfl (by decide) rfl (by omega) (by omega) ?_
  rw [d2]
  refine mm_ifge dX9_takeCond_22 (by omega) (fun h22 => ?_) (fun h22 => ?_)
  · rw [if_neg (by omega)] at hL
    refine mm_aload_n dX9_takeCond_31 rfl rfl ?_
    refine mm_V0g (M1 := M15) dX9_takeCond_32 rfl lk_X9_31 (c := 1) rfl (by decide) rfl  rfl rfl rfl (kl_adv hH2.1) ?_
    rintro _ N32 ⟨rfl, p32⟩
    change mm_J _ _ _ _ _ _ _ _ _ _
    have hR32 : mm_Rf N32 := p32.1
    obtain ⟨-, hH3, e3, f3, g3⟩ := p32
    refine mm_aload_n dX9_takeCond_35 rfl rfl ?_
    refine mm_getr dX9_takeCond_36 rfl fl_X9_15 (c := 18) rfl (by decide) rfl rfl (hR32.at (c := 18) (i := 3) (v := 21) rfl (by decide)) ?_
    refine mm_iload_n dX9_takeCond_39 rfl rfl ?_
    refine mm_iconst dX9_takeCond_40 rfl ?_
    refine mm_iadd dX9_takeCond_41 rfl ?_
    refine mm_aload_n dX9_takeCond_42 rfl rfl ?_
    refine mm_lds (k0 := 3) dX9_takeCond_43 rfl (by decide) rfl rfl ?_
    refine mm_V1i dX9_takeCond_45 rfl lk_X9_50 (c := 1) rfl (by decide) rfl (by simp) rfl rfl rfl (kl_word (by decide) hH3) ?_
    refine mm_istk (k0 := (a + 1)) dX9_takeCond_48 rfl (c := 20) rfl (by decide) rfl (by omega) (by omega) (fun M48 hM48 => ?_)
    have hR48 : mm_Rf M48 := by rw [hM48]; exact hR32.up (mm_rt_ar (t := 0) rfl (by decide))
    have hH4 : kl_H M M48 n (kt_e (M 2) n p) := by rw [hM48]; exact hH3.put
    have d4 : M48 20 (a + 1) = kp_nm (M 2) n (kt_e (M 2) n p) 3 := by rw [hM48, mm_up_s]
    refine mm_aload_n dX9_takeCond_49 rfl rfl ?_
    refine mm_getr dX9_takeCond_50 rfl fl_X9_15 (c := 18) rfl (by decide) rfl rfl (hR48.at (c := 18) (i := 3) (v := 21) rfl (by decide)) ?_
    refine mm_iload_n dX9_takeCond_53 rfl rfl ?_
    refine mm_iconst dX9_takeCond_54 rfl ?_
    refine mm_iadd dX9_takeCond_55 rfl ?_
    refine mm_ialk (k0 := (a + 1)) dX9_takeCond_56 rfl (c := 20) rfl (by decide) rfl (by omega) (by omega) ?_
    rw [d4]
    refine mm_ifge dX9_takeCond_57 (by omega) (fun h57 => ?_) (fun h57 => ?_)
    · rw [if_neg (by omega)] at hL
      refine mm_aload_n dX9_takeCond_66 rfl rfl ?_
      refine mm_V0g (M1 := M48) dX9_takeCond_67 rfl lk_X9_31 (c := 1) rfl (by decide) rfl  rfl rfl rfl (kl_adv hH4.1) ?_
      rintro _ N67 ⟨rfl, p67⟩
      change mm_J _ _ _ _ _ _ _ _ _ _
      have hR67 : mm_Rf N67 := p67.1
      obtain ⟨-, hH5, e5, f5, g5⟩ := p67
      obtain ⟨-, -, ek, es, ev⟩ := id hH5
      refine mm_aload_n dX9_takeCond_70 rfl rfl ?_
      refine mm_iconst dX9_takeCond_71 rfl ?_
      refine mm_ldc dX9_takeCond_72 rfl kc_X9_73 ?_
      refine mm_V2g (M1 := N67) dX9_takeCond_74 rfl lk_X9_74 (c := 1) rfl (by decide) rfl (by simp) (by simp) rfl rfl rfl (c_X10_num hR67 (by omega) (by intro z; rw [ek] at z; rw [ev z]; omega) (by omega) (by omega)) ?_
      rintro _ N74 ⟨x74, rfl, p74⟩
      change mm_J _ _ _ _ _ _ _ _ _ _
      have hR74 : mm_Rf N74 := p74.1
      obtain ⟨-, hz⟩ := p74
      have hz01 : x74 = 0 ∨ x74 = 1 := by rcases hz with ⟨z, -⟩ | ⟨z, -⟩ <;> omega
      refine mm_istore_n dX9_takeCond_77 rfl (Nat.le_of_ble_eq_true rfl) rfl ?_
      refine mm_aload_n dX9_takeCond_78 rfl rfl ?_
      refine mm_getr dX9_takeCond_79 rfl fl_X9_15 (c := 18) rfl (by decide) rfl rfl (hR74.at (c := 18) (i := 3) (v := 21) rfl (by decide)) ?_
      refine mm_iload_n dX9_takeCond_82 rfl rfl ?_
      refine mm_iconst dX9_takeCond_83 rfl ?_
      refine mm_iadd dX9_takeCond_84 rfl ?_
      refine mm_aload_n dX9_takeCond_85 rfl rfl ?_
      refine mm_get (kd := 0) dX9_takeCond_86 rfl fl_X9_78 (c := 1) rfl (by decide) rfl rfl ?_
      refine mm_istk (k0 := (a + 2)) dX9_takeCond_89 rfl (c := 20) rfl (by decide) rfl (by omega) (by omega) (fun M89 hM89 => ?_)
      have hR89 : mm_Rf M89 := by rw [hM89]; exact hR74.up (mm_rt_ar (t := 0) rfl (by decide))
      refine mm_iload_n dX9_takeCond_90 rfl rfl ?_
      refine mm_zret dX9_takeCond_91 rfl rfl hz01 ?_
      rcases hz with ⟨z1, z2, z3, z4⟩ | ⟨z1, z2, z3⟩
      · rw [ek] at z3
        rw [if_neg (fun q => q z3)] at hL
        rw [← hL, z1]
        have v2 : N74 1 4 = kt_v (M 2) n (kt_e (M 2) n (kt_e (M 2) n p)) := by rw [z2]; exact ev z3
        refine ⟨rfl, ?_, ?_, ?_, ?_⟩
        · rw [hM89, z2]; exact hH5.1.put
        · rw [hM89, kl_up, v2, z2, e5, hM48, kl_up, e3, hM15, kl_up, e1]
        · rw [hM89, mm_up_row (by decide), z2, f5, hM48, mm_up_row (by decide), f3, hM15, mm_up_row (by decide), f1]
        · rw [hM89, mm_up_row (by decide), z2, g5, hM48, mm_up_row (by decide), g3, hM15, mm_up_row (by decide), g1]
      · rw [ek] at z2 z3
        by_cases q : kt_k (M 2) n (kt_e (M 2) n (kt_e (M 2) n p)) = 2
        · exact absurd ⟨q, by rw [ev q]; omega⟩ z2
        · rw [if_neg q] at z3
          rw [if_pos q] at hL
          rw [← hL, z1]
          obtain ⟨r1, r2, r3, r4, r6, r7⟩ := kl_bad hH5 z3 N
          refine ⟨rfl, hR89, ?_, ?_, ?_, ?_⟩
          · intro c c1 c2; rw [hM89, mm_up_row c2]; exact r3 c c1 c2
          · intro b hb; rw [hM89, mm_up_row (by decide)]; exact r4 b hb
          · rw [hM89, mm_up_row (by decide)]; exact r6
          · rw [hM89, mm_up_row (by decide)]; exact r7
    · refine mm_aload_n dX9_takeCond_60 rfl rfl ?_
      refine mm_iconst dX9_takeCond_61 rfl ?_
      refine mm_V1i dX9_takeCond_62 rfl lk_X9_54 (c := 1) rfl (by decide) rfl (by simp) rfl rfl rfl (c_X10_fails hR48) ?_
      refine mm_zret dX9_takeCond_65 rfl rfl (Or.inl rfl) ?_
      rw [if_pos (by omega)] at hL
      rw [← hL]
      exact kl_bad hH4 rfl N
  · refine mm_aload_n dX9_takeCond_25 rfl rfl ?_
    refine mm_iconst dX9_takeCond_26 rfl ?_
    refine mm_V1i dX9_takeCond_27 rfl lk_X9_54 (c := 1) rfl (by decide) rfl (by simp) rfl rfl rfl (c_X10_fails hR15) ?_
    refine mm_zret dX9_takeCond_30 rfl rfl (Or.inl rfl) ?_
    rw [if_pos (by omega)] at hL
    rw [← hL]
    exact kl_bad hH2 rfl N
theorem c_X9_takeAct {sl : Int} (hI : kl_I M N n p) (hsl : M 4 10 = sl ∧ 1 ≤ sl ∧ sl ≤ 3) (hb : b + 11 ≤ 88) :
    mm_C X Y_X9_takeAct 243 243 [(2, 19), (2, 2), (0, (b : Int))] N (fun r M' => kl_P M N M' n (kl_act (M 2) n sl b p (N 20)) r) := by
  have hRN := hI.1
  obtain ⟨E, hE⟩ : ∃ E, E = kl_act (M 2) n sl b p (N 20) := ⟨_, rfl⟩
  have hL := hE.symm
  rw [← hE]
  unfold kl_act at hL
  have hkb := kt_kb (B := M 2) (n := n) (p := p)
  have hvb := kt_vb (B := M 2) (n := n) (p := p)
  have hb1 := kl_nmb (B := M 2) (n := n) (p := kt_e (M 2) n p)
  have hb1' := (kp_nmk (B := M 2) (n := n) (p := kt_e (M 2) n p) (k0 := 5)).1
  have hb2 := kl_nmb (B := M 2) (n := n) (p := kt_e (M 2) n (kt_e (M 2) n p))
  have hb2' := (kp_nmk (B := M 2) (n := n) (p := kt_e (M 2) n (kt_e (M 2) n p)) (k0 := 6)).1
  have hkb3 := kt_kb (B := M 2) (n := n) (p := kt_e (M 2) n (kt_e (M 2) n (kt_e (M 2) n p)))
  refine mm_start (ls := [(2, 19), (2, 2), (0, (b : Int)), (9, 0), (9, 0), (9, 0)]) rfl ?_
  refine mm_aload_n dX9_takeAct_0 rfl rfl ?_
  refine mm_V0g (M1 := N) dX9_takeAct_1 rfl lk_X9_31 (c := 1) rfl (by decide) rfl  rfl rfl rfl (kl_adv hI) ?_
  rintro _ N1 ⟨rfl, p1⟩
  change mm_J _ _ _ _ _ _ _ _ _ _
  have hR1 : mm_Rf N1 := p1.1
  obtain ⟨-, hH1, e1, f1, g1⟩ := p1
  obtain ⟨-, -, ek, es, ev⟩ := id hH1
  have s10 : N1 4 10 = sl := by rw [hH1.1.2.1 4 (by decide) (by decide)]; exact hsl.1
  refine mm_aload_n dX9_takeAct_4 rfl rfl ?_
  refine mm_iconst dX9_takeAct_5 rfl ?_
  refine mm_aload_n dX9_takeAct_6 rfl rfl ?_
  refine mm_getr dX9_takeAct_7 rfl fl_X9_18 (c := 18) rfl (by decide) rfl rfl (hR1.at (c := 18) (i := 0) (v := 4) rfl (by decide)) ?_
  refine mm_V0i dX9_takeAct_10 rfl lk_X9_81 (c := 3) rfl (by decide) rfl  rfl rfl rfl ((s10 ▸ c_X4_slants hR1)) ?_
  refine mm_iconst dX9_takeAct_13 rfl ?_
  refine mm_isub dX9_takeAct_14 rfl ?_
  refine mm_V2g (M1 := N1) dX9_takeAct_15 rfl lk_X9_74 (c := 1) rfl (by decide) rfl (by simp) (by simp) rfl rfl rfl (c_X10_num hR1 (by omega) (by intro z; rw [ek] at z; rw [ev z]; omega) (by omega) (by omega)) ?_
  rintro _ N15 ⟨x15, rfl, p15⟩
  change mm_J _ _ _ _ _ _ _ _ _ _
  have hR15 : mm_Rf N15 := p15.1
  obtain ⟨-, hz⟩ := p15
  have hz01 : x15 = 0 ∨ x15 = 1 := by rcases hz with ⟨z, -⟩ | ⟨z, -⟩ <;> omega
  refine mm_ifne dX9_takeAct_18 (by omega) (fun h18 => ?_) (fun h18 => ?_)
  · obtain ⟨eN, z2, z3⟩ : N15 = N1 ∧ N1 1 5 = 2 ∧ 0 ≤ N1 1 4 ∧ N1 1 4 ≤ sl - 1 := by
      rcases hz with ⟨z1, z2, z3, z4⟩ | ⟨z, -⟩
      · exact ⟨z2, z3, z4⟩
      · omega
    have hk2 : kt_k (M 2) n p = 2 := by rw [← ek]; exact z2
    have ev2 := ev hk2
    rw [ev2] at z3
    rw [if_neg (fun z => z hk2), if_neg (by omega)] at hL
    have ev3 : N15 1 4 = kt_v (M 2) n p := by rw [eN]; exact ev2
    have hH2 : kl_H M N15 n p := by rw [eN]; exact hH1
    refine mm_aload_n dX9_takeAct_23 rfl rfl ?_
    refine mm_get (kd := 0) dX9_takeAct_24 rfl fl_X9_78 (c := 1) rfl (by decide) rfl rfl ?_
    obtain ⟨v24, hv24⟩ : ∃ v, v = N15 1 4 := ⟨_, rfl⟩
    rw [← hv24]
    rw [ev3] at hv24
    subst hv24
    refine mm_istore_n dX9_takeAct_27 rfl (Nat.le_of_ble_eq_true rfl) rfl ?_
    refine mm_aload_n dX9_takeAct_28 rfl rfl ?_
    refine mm_V0g (M1 := N15) dX9_takeAct_29 rfl lk_X9_31 (c := 1) rfl (by decide) rfl  rfl rfl rfl (kl_adv hH2.1) ?_
    rintro _ N29 ⟨rfl, p29⟩
    change mm_J _ _ _ _ _ _ _ _ _ _
    have hR29 : mm_Rf N29 := p29.1
    obtain ⟨-, hH3, e3, f3, g3⟩ := p29
    refine mm_aload_n dX9_takeAct_32 rfl rfl ?_
    refine mm_lds (k0 := 5) dX9_takeAct_33 rfl (by decide) rfl rfl ?_
    refine mm_V1i dX9_takeAct_35 rfl lk_X9_50 (c := 1) rfl (by decide) rfl (by simp) rfl rfl rfl (kl_word (by decide) hH3) ?_
    refine mm_istore dX9_takeAct_38 rfl (Nat.le_of_ble_eq_true rfl) rfl ?_
    refine mm_iload dX9_takeAct_40 rfl rfl ?_
    refine mm_ifge dX9_takeAct_42 (by omega) (fun h42 => ?_) (fun h42 => ?_)
    · rw [if_neg (by omega)] at hL
      refine mm_aload_n dX9_takeAct_51 rfl rfl ?_
      refine mm_V0g (M1 := N29) dX9_takeAct_52 rfl lk_X9_31 (c := 1) rfl (by decide) rfl  rfl rfl rfl (kl_adv hH3.1) ?_
      rintro _ N52 ⟨rfl, p52⟩
      change mm_J _ _ _ _ _ _ _ _ _ _
      have hR52 : mm_Rf N52 := p52.1
      obtain ⟨-, hH4, e4, f4, g4⟩ := p52
      refine mm_aload_n dX9_takeAct_55 rfl rfl ?_
      refine mm_lds (k0 := 6) dX9_takeAct_56 rfl (by decide) rfl rfl ?_
      refine mm_V1i dX9_takeAct_58 rfl lk_X9_50 (c := 1) rfl (by decide) rfl (by simp) rfl rfl rfl (kl_word (by decide) hH4) ?_
      refine mm_istore dX9_takeAct_61 rfl (Nat.le_of_ble_eq_true rfl) rfl ?_
      refine mm_iload dX9_takeAct_63 rfl rfl ?_
      refine mm_ifge dX9_takeAct_65 (by omega) (fun h65 => ?_) (fun h65 => ?_)
      · rw [if_neg (by omega)] at hL
        refine mm_aload_n dX9_takeAct_74 rfl rfl ?_
        refine mm_getr dX9_takeAct_75 rfl fl_X9_15 (c := 18) rfl (by decide) rfl rfl (hR52.at (c := 18) (i := 3) (v := 21) rfl (by decide)) ?_
        refine mm_iload_n dX9_takeAct_78 rfl rfl ?_
        refine mm_bipush dX9_takeAct_79 rfl (by decide) ?_
        refine mm_iadd dX9_takeAct_81 rfl ?_
        refine mm_bipush dX9_takeAct_82 rfl (by decide) ?_
        refine mm_iload_n dX9_takeAct_84 rfl rfl ?_
        refine mm_imul dX9_takeAct_85 rfl ?_
        refine mm_iconst dX9_takeAct_86 rfl ?_
        refine mm_iload dX9_takeAct_87 rfl rfl ?_
        refine mm_imul dX9_takeAct_89 rfl ?_
        refine mm_iadd dX9_takeAct_90 rfl ?_
        refine mm_iload dX9_takeAct_91 rfl rfl ?_
        refine mm_iadd dX9_takeAct_93 rfl ?_
        refine mm_istk (k0 := (b + 10)) dX9_takeAct_94 rfl (c := 20) rfl (by decide) rfl (by omega) (by omega) (fun M94 hM94 => ?_)
        have hR94 : mm_Rf M94 := by rw [hM94]; exact hR52.up (mm_rt_ar (t := 0) rfl (by decide))
        have hH5 : kl_H M M94 n (kt_e (M 2) n (kt_e (M 2) n p)) := by rw [hM94]; exact hH4.put
        refine mm_aload_n dX9_takeAct_95 rfl rfl ?_
        refine mm_V0g (M1 := M94) dX9_takeAct_96 rfl lk_X9_31 (c := 1) rfl (by decide) rfl  rfl rfl rfl (kl_adv hH5.1) ?_
        rintro _ N96 ⟨rfl, p96⟩
        change mm_J _ _ _ _ _ _ _ _ _ _
        have hR96 : mm_Rf N96 := p96.1
        obtain ⟨-, hH6, e6, f6, g6⟩ := p96
        obtain ⟨-, -, ek6, es6, ev6⟩ := id hH6
        refine mm_aload_n dX9_takeAct_99 rfl rfl ?_
        refine mm_V0i dX9_takeAct_100 rfl lk_X9_91 (c := 1) rfl (by decide) rfl  rfl rfl rfl (c_X10_isSemicolon hR96 (by omega)) ?_
        refine mm_ifneb dX9_takeAct_103 (fun h103 => ?_) (fun h103 => ?_)
        · refine mm_iconst dX9_takeAct_114 rfl ?_
          refine mm_goto dX9_takeAct_115 ?_
          refine mm_zret dX9_takeAct_119 rfl rfl (Or.inr rfl) ?_
          rw [ek6] at h103
          first
          | (rw [if_neg (fun y => y h103)] at hL
             rw [← hL]
             refine ⟨rfl, hH6.1, ?_, ?_, ?_⟩
             · rw [e6, hM94, kl_up, e4, e3, eN, e1]
             · rw [f6, hM94, mm_up_row (by decide), f4, f3, eN, f1]
             · rw [g6, hM94, mm_up_row (by decide), g4, g3, eN, g1])
          | (rw [if_pos h103] at hL
             rw [← hL]
             exact kl_bad hH6 rfl N)
        · refine mm_aload_n dX9_takeAct_106 rfl rfl ?_
          refine mm_iconst dX9_takeAct_107 rfl ?_
          refine mm_V1i dX9_takeAct_108 rfl lk_X9_54 (c := 1) rfl (by decide) rfl (by simp) rfl rfl rfl (c_X10_fails hR96) ?_
          refine mm_ifeq dX9_takeAct_111 (by omega) (fun _ => ?_) (fun h => absurd (by decide) h)
          refine mm_iconst dX9_takeAct_118 rfl ?_
          refine mm_zret dX9_takeAct_119 rfl rfl (Or.inl rfl) ?_
          rw [ek6] at h103
          first
          | (rw [if_neg (fun y => y h103)] at hL
             rw [← hL]
             refine ⟨rfl, hH6.1, ?_, ?_, ?_⟩
             · rw [e6, hM94, kl_up, e4, e3, eN, e1]
             · rw [f6, hM94, mm_up_row (by decide), f4, f3, eN, f1]
             · rw [g6, hM94, mm_up_row (by decide), g4, g3, eN, g1])
          | (rw [if_pos h103] at hL
             rw [← hL]
             exact kl_bad hH6 rfl N)
      · refine mm_aload_n dX9_takeAct_68 rfl rfl ?_
        refine mm_iconst dX9_takeAct_69 rfl ?_
        refine mm_V1i dX9_takeAct_70 rfl lk_X9_54 (c := 1) rfl (by decide) rfl (by simp) rfl rfl rfl (c_X10_fails hR52) ?_
        refine mm_zret dX9_takeAct_73 rfl rfl (Or.inl rfl) ?_
        rw [if_pos (by omega)] at hL
        rw [← hL]
        exact kl_bad hH4 rfl N
    · refine mm_aload_n dX9_takeAct_45 rfl rfl ?_
      refine mm_iconst dX9_takeAct_46 rfl ?_
      refine mm_V1i dX9_takeAct_47 rfl lk_X9_54 (c := 1) rfl (by decide) rfl (by simp) rfl rfl rfl (c_X10_fails hR29) ?_
      refine mm_zret dX9_takeAct_50 rfl rfl (Or.inl rfl) ?_
      rw [if_pos (by omega)] at hL
      rw [← hL]
      exact kl_bad hH3 rfl N
  · refine mm_iconst dX9_takeAct_21 rfl ?_
    refine mm_zret dX9_takeAct_22 rfl rfl (Or.inl rfl) ?_
    rcases hz with ⟨z1, -⟩ | ⟨z1, z2, z3⟩
    · omega
    · rw [ek] at z2 z3
      by_cases q : kt_k (M 2) n p = 2
      · rw [if_pos q] at z3
        rw [if_neg (fun y => y q), if_pos (by have := ev q; omega)] at hL
        rw [← hL]
        exact kl_bad hH1 z3 N
      · rw [if_neg q] at z3
        rw [if_pos q] at hL
        rw [← hL]
        exact kl_bad hH1 z3 N
end
end
/-! A4.rules2 -/
section
/-! ===== the text of rules, of the class: lines to the end ===== -/
section
variable {X : mm_X} {M N : mm_M} {n p a b c j k0 s : Nat} {k : Int}
theorem c_X9_takeConds (hI : kl_I M N n p) (hb : b + 11 ≤ 88) :
    mm_C X Y_X9_takeConds 243 243 [(2, 19), (2, 2), (0, (b : Int))] N (fun r M' => kl_P M N M' n (kl_conds (M 2) n b 3 0 p (N 20)) r) := by
  obtain ⟨E, hE⟩ : ∃ E, E = kl_conds (M 2) n b 3 0 p (N 20) := ⟨_, rfl⟩
  rw [← hE]
  refine mm_start (ls := [(2, 19), (2, 2), (0, (b : Int)), (9, 0), (9, 0)]) rfl ?_
  -- behind a cond
  have nx : ∀ (j : Nat) (Q : mm_M) (p : Nat) (l4 : mm_V), j < 3 → kl_I M Q n p → Q 1 2 = N 1 2 → Q 1 3 = N 1 3 → (if kp_nm (M 2) n p 4 < 0 then .error (1, kt_s (M 2) n p) else if kp_nm (M 2) n p 4 = 1 then .ok (kt_e (M 2) n p, kl_set (Q 20) b ((j : Int) + 1)) else if 2 - j = 0 then .error (4, kt_s (M 2) n p) else kl_conds (M 2) n b (2 - j) (j + 1) (kt_e (M 2) n p) (kl_set (Q 20) b ((j : Int) + 1))) = E →
      (∀ (T : mm_M) (l4 : mm_V), kl_H M T n p → T 20 = kl_set (Q 20) b ((j : Int) + 1) → T 1 2 = N 1 2 → T 1 3 = N 1 3 → ¬ (kp_nm (M 2) n p 4 < 0) → ¬ (kp_nm (M 2) n p 4 = 1) → mm_J X Y_X9_takeConds 243 243 243 2 [(2, 19), (2, 2), (0, (b : Int)), (0, (j : Int) + 1), l4] [] T (fun r M' => kl_P M N M' n E r)) →
      mm_J X Y_X9_takeConds 243 243 243 19 [(2, 19), (2, 2), (0, (b : Int)), (0, (j : Int)), l4] [(0, 1)] Q (fun r M' => kl_P M N M' n E r) := by
    intro j Q p l4 hj hQ q2 q3 hL go
    have hRQ := hQ.1
    have hb1 := kl_nmb (B := M 2) (n := n) (p := p)
    have hb1' := (kp_nmk (B := M 2) (n := n) (p := p) (k0 := 4)).1
    refine mm_ifne dX9_takeConds_19 (by omega) (fun _ => ?_) (fun h => absurd h (by decide))
    refine mm_aload_n dX9_takeConds_24 rfl rfl ?_
    refine mm_getr dX9_takeConds_25 rfl fl_X9_15 (c := 18) rfl (by decide) rfl rfl (hRQ.at (c := 18) (i := 3) (v := 21) rfl (by decide)) ?_
    refine mm_iload_n dX9_takeConds_28 rfl rfl ?_
    refine mm_iload_n dX9_takeConds_29 rfl rfl ?_
    refine mm_iconst dX9_takeConds_30 rfl ?_
    refine mm_iadd dX9_takeConds_31 rfl ?_
    refine mm_istk (k0 := b) dX9_takeConds_32 rfl (c := 20) rfl (by decide) rfl (by omega) (by omega) (fun M32 hM32 => ?_)
    have hR32 : mm_Rf M32 := by rw [hM32]; exact hRQ.up (mm_rt_ar (t := 0) rfl (by decide))
    have hI2 : kl_I M M32 n p := by rw [hM32]; exact hQ.put
    refine mm_aload_n dX9_takeConds_33 rfl rfl ?_
    refine mm_V0g (M1 := M32) dX9_takeConds_34 rfl lk_X9_31 (c := 1) rfl (by decide) rfl  rfl rfl rfl (kl_adv hI2) ?_
    rintro _ N34 ⟨rfl, p34⟩
    change mm_J _ _ _ _ _ _ _ _ _ _
    have hR34 : mm_Rf N34 := p34.1
    obtain ⟨-, hH, e1, f1, g1⟩ := p34
    refine mm_aload_n dX9_takeConds_37 rfl rfl ?_
    refine mm_lds (k0 := 4) dX9_takeConds_38 rfl (by decide) rfl rfl ?_
    refine mm_V1i dX9_takeConds_40 rfl lk_X9_50 (c := 1) rfl (by decide) rfl (by simp) rfl rfl rfl (kl_word (by decide) hH) ?_
    refine mm_istore dX9_takeConds_43 rfl (Nat.le_of_ble_eq_true rfl) rfl ?_
    refine mm_iload dX9_takeConds_45 rfl rfl ?_
    refine mm_ifge dX9_takeConds_47 (by omega) (fun h47 => ?_) (fun h47 => ?_)
    · refine mm_iload dX9_takeConds_56 rfl rfl ?_
      refine mm_iconst dX9_takeConds_58 rfl ?_
      refine mm_icne dX9_takeConds_59 (by omega) (by omega) (fun h59 => ?_) (fun h59 => ?_)
      · refine mm_iinc dX9_takeConds_64 rfl rfl (Nat.le_of_ble_eq_true rfl) rfl ?_
        refine mm_goto dX9_takeConds_67 ?_
        refine go _ _ hH ?_ ?_ ?_ (by omega) (by omega)
        · rw [e1, hM32, kl_up]
        · rw [f1, hM32, mm_up_row (by decide), q2]
        · rw [g1, hM32, mm_up_row (by decide), q3]
      · refine mm_iconst dX9_takeConds_62 rfl ?_
        refine mm_zret dX9_takeConds_63 rfl rfl (Or.inr rfl) ?_
        rw [if_neg (by omega), if_pos (by omega)] at hL
        rw [← hL]
        refine ⟨rfl, hH.1, ?_, ?_, ?_⟩
        · rw [e1, hM32, kl_up]
        · rw [f1, hM32, mm_up_row (by decide), q2]
        · rw [g1, hM32, mm_up_row (by decide), q3]
    · refine mm_aload_n dX9_takeConds_50 rfl rfl ?_
      refine mm_iconst dX9_takeConds_51 rfl ?_
      refine mm_V1i dX9_takeConds_52 rfl lk_X9_54 (c := 1) rfl (by decide) rfl (by simp) rfl rfl rfl (c_X10_fails hR34) ?_
      refine mm_zret dX9_takeConds_55 rfl rfl (Or.inl rfl) ?_
      rw [if_pos (by omega)] at hL
      rw [← hL]
      exact kl_bad hH rfl N
  have bad : ∀ (Q : mm_M) (l3 l4 : mm_V), kl_P M N Q n E (0, 0) → mm_J X Y_X9_takeConds 243 243 243 19 [(2, 19), (2, 2), (0, (b : Int)), l3, l4] [(0, 0)] Q (fun r M' => kl_P M N M' n E r) := by
    intro Q l3 l4 h
    refine mm_ifne dX9_takeConds_19 (by omega) (fun h => absurd h (by decide)) (fun _ => ?_)
    refine mm_iconst dX9_takeConds_22 rfl ?_
    refine mm_zret dX9_takeConds_23 rfl rfl (Or.inl rfl) ?_
    exact h
  -- too many conds
  have many : ∀ (T : mm_M) (p : Nat) (l4 : mm_V), kl_H M T n p → E = .error (4, kt_s (M 2) n p) → mm_J X Y_X9_takeConds 243 243 243 2 [(2, 19), (2, 2), (0, (b : Int)), (0, 3), l4] [] T (fun r M' => kl_P M N M' n E r) := by
    intro T p l4 hH hL
    have hRT := hH.1.1
    refine mm_iload_n dX9_takeConds_2 rfl rfl ?_
    refine mm_iconst dX9_takeConds_3 rfl ?_
    refine mm_icge dX9_takeConds_4 (by omega) (by omega) (fun h4 => ?_) (fun h4 => ?_)
    · refine mm_aload_n dX9_takeConds_70 rfl rfl ?_
      refine mm_iconst dX9_takeConds_71 rfl ?_
      refine mm_V1i dX9_takeConds_72 rfl lk_X9_54 (c := 1) rfl (by decide) rfl (by simp) rfl rfl rfl (c_X10_fails hRT) ?_
      refine mm_zret dX9_takeConds_75 rfl rfl (Or.inl rfl) ?_
      rw [hL]
      exact kl_bad hH rfl N
    · exfalso; omega
  have loop : ∀ j : Nat, j ≤ 2 → ∀ (Q : mm_M) (p : Nat) (l4 : mm_V), kl_I M Q n p → Q 1 2 = N 1 2 → Q 1 3 = N 1 3 → kl_conds (M 2) n b (3 - j) j p (Q 20) = E → mm_J X Y_X9_takeConds 243 243 243 2 [(2, 19), (2, 2), (0, (b : Int)), (0, (j : Int)), l4] [] Q (fun r M' => kl_P M N M' n E r) := by
    refine mm_lp ?_
    intro j hj ih Q p l4 hQ q2 q3 hL
    have hRQ := hQ.1
    rw [show 3 - j = (2 - j) + 1 by omega, kl_conds] at hL
    refine mm_iload_n dX9_takeConds_2 rfl rfl ?_
    refine mm_iconst dX9_takeConds_3 rfl ?_
    refine mm_icge dX9_takeConds_4 (by omega) (by omega) (fun h4 => ?_) (fun h4 => ?_)
    · exfalso; omega
    · refine mm_aload_n dX9_takeConds_7 rfl rfl ?_
      refine mm_aload_n dX9_takeConds_8 rfl rfl ?_
      refine mm_iload_n dX9_takeConds_9 rfl rfl ?_
      refine mm_iconst dX9_takeConds_10 rfl ?_
      refine mm_iadd dX9_takeConds_11 rfl ?_
      refine mm_iload_n dX9_takeConds_12 rfl rfl ?_
      refine mm_iconst dX9_takeConds_13 rfl ?_
      refine mm_imul dX9_takeConds_14 rfl ?_
      refine mm_iadd dX9_takeConds_15 rfl ?_
      rw [show (b : Int) + 1 + (j : Int) * 3 = ((b + 1 + 3 * j : Nat) : Int) by omega]
      refine mm_V2g (M1 := Q) dX9_takeConds_16 rfl lk_X9_64 (c := 18) rfl (by decide) rfl (by simp) (by simp) rfl rfl rfl (c_X9_takeCond (a := b + 1 + 3 * j) hQ (by omega)) ?_
      intro r M' hP
      match hCl : kl_cond (M 2) n (b + 1 + 3 * j) p (Q 20), hP with
      | .ok (p1, D1), hP =>
        obtain ⟨rfl, g1, g2, g3, g4⟩ := hP
        rw [hCl] at hL
        dsimp only at hL
        rw [← g2] at hL
        refine nx j M' p1 l4 (by omega) g1 (g3.trans q2) (g4.trans q3) hL ?_
        intro T l4' hH t1 t2 t3 n1 n2
        rw [if_neg n1, if_neg n2] at hL
        by_cases hj2 : j = 2
        · rw [if_pos (by omega)] at hL
          rw [show (j : Int) + 1 = 3 by omega]
          exact many T p1 l4' hH hL.symm
        · rw [if_neg (by omega)] at hL
          have := ih (by omega) T (kt_e (M 2) n p1) l4' hH.1 t2 t3 (by rw [show 3 - (j + 1) = 2 - j by omega, t1]; exact hL)
          rw [show ((j + 1 : Nat) : Int) = (j : Int) + 1 by omega] at this
          exact this
      | .error (k, s), hP =>
        obtain ⟨rfl, g1⟩ := hP
        rw [hCl] at hL
        dsimp only at hL
        refine bad M' _ _ ?_
        rw [← hL]
        exact ⟨rfl, g1⟩
  have hRN := hI.1
  refine mm_iconst dX9_takeConds_0 rfl ?_
  refine mm_istore_n dX9_takeConds_1 rfl (Nat.le_of_ble_eq_true rfl) rfl ?_
  exact loop 0 (Nat.zero_le _) N p _ hI rfl rfl hE.symm
theorem c_X9_takeLine {sl : Int} (hH : kl_H M N n p) (hsl : M 4 10 = sl ∧ 1 ≤ sl ∧ sl ≤ 3) (hc : c ≤ 8) :
    mm_C X Y_X9_takeLine 243 243 [(2, 19), (2, 2), (0, (c : Int))] N (fun r M' => kl_P M N M' n (kl_line (M 2) n sl c p (N 20)) r) := by
  have hRN := hH.1.1
  obtain ⟨E, hE⟩ : ∃ E, E = kl_line (M 2) n sl c p (N 20) := ⟨_, rfl⟩
  have hL := hE.symm
  rw [← hE]
  unfold kl_line at hL
  have hb1 := kl_nmb (B := M 2) (n := n) (p := p)
  have hb1' := (kp_nmk (B := M 2) (n := n) (p := p) (k0 := 1)).1
  refine mm_start (ls := [(2, 19), (2, 2), (0, (c : Int))]) rfl ?_
  have bad : ∀ (Q : mm_M), kl_P M N Q n E (0, 0) → mm_J X Y_X9_takeLine 243 243 243 36 [(2, 19), (2, 2), (0, (c : Int))] [(0, 0)] Q (fun r M' => kl_P M N M' n E r) := by
    intro Q h
    refine mm_ifeq dX9_takeLine_36 (by omega) (fun _ => ?_) (fun h => absurd (by decide) h)
    refine mm_iconst dX9_takeLine_55 rfl ?_
    refine mm_zret dX9_takeLine_56 rfl rfl (Or.inl rfl) ?_
    exact h
  have bad2 : ∀ (Q : mm_M), kl_P M N Q n E (0, 0) → mm_J X Y_X9_takeLine 243 243 243 48 [(2, 19), (2, 2), (0, (c : Int))] [(0, 0)] Q (fun r M' => kl_P M N M' n E r) := by
    intro Q h
    refine mm_ifeq dX9_takeLine_48 (by omega) (fun _ => ?_) (fun h => absurd (by decide) h)
    refine mm_iconst dX9_takeLine_55 rfl ?_
    refine mm_zret dX9_takeLine_56 rfl rfl (Or.inl rfl) ?_
    exact h
  have ok2 : ∀ (Q : mm_M), kl_P M N Q n E (0, 1) → mm_J X Y_X9_takeLine 243 243 243 48 [(2, 19), (2, 2), (0, (c : Int))] [(0, 1)] Q (fun r M' => kl_P M N M' n E r) := by
    intro Q h
    refine mm_ifeq dX9_takeLine_48 (by omega) (fun h => absurd h (by decide)) (fun _ => ?_)
    refine mm_iconst dX9_takeLine_51 rfl ?_
    refine mm_goto dX9_takeLine_52 ?_
    refine mm_zret dX9_takeLine_56 rfl rfl (Or.inr rfl) ?_
    exact h
  have act : ∀ (Q : mm_M) (p1 : Nat), c < 8 → kl_I M Q n p1 → Q 1 2 = N 1 2 → Q 1 3 = N 1 3 → kl_act (M 2) n sl (11 * c) p1 (Q 20) = E → mm_J X Y_X9_takeLine 243 243 243 36 [(2, 19), (2, 2), (0, (c : Int))] [(0, 1)] Q (fun r M' => kl_P M N M' n E r) := by
    intro Q p1 hc8 hQ q2 q3 hL
    refine mm_ifeq dX9_takeLine_36 (by omega) (fun h => absurd h (by decide)) (fun _ => ?_)
    refine mm_aload_n dX9_takeLine_39 rfl rfl ?_
    refine mm_aload_n dX9_takeLine_40 rfl rfl ?_
    refine mm_iload_n dX9_takeLine_41 rfl rfl ?_
    refine mm_bipush dX9_takeLine_42 rfl (by decide) ?_
    refine mm_imul dX9_takeLine_44 rfl ?_
    rw [show (c : Int) * 11 = ((11 * c : Nat) : Int) by omega]
    refine mm_V2g (M1 := Q) dX9_takeLine_45 rfl lk_X9_61 (c := 18) rfl (by decide) rfl (by simp) (by simp) rfl rfl rfl (c_X9_takeAct (b := 11 * c) hQ hsl (by omega)) ?_
    intro r M' hP
    rw [hL] at hP
    rcases hEc : E with ⟨k, s⟩ | ⟨p2, D2⟩
    · rw [hEc] at hP
      obtain ⟨rfl, g⟩ := hP
      exact hEc ▸ bad2 M' (by rw [hEc]; exact ⟨rfl, g⟩)
    · rw [hEc] at hP
      obtain ⟨rfl, g1, g2, g3, g4⟩ := hP
      exact hEc ▸ ok2 M' (by rw [hEc]; exact ⟨rfl, g1, g2, g3.trans q2, g4.trans q3⟩)
  refine mm_aload_n dX9_takeLine_0 rfl rfl ?_
  refine mm_lds (k0 := 1) dX9_takeLine_1 rfl (by decide) rfl rfl ?_
  refine mm_V1i dX9_takeLine_3 rfl lk_X9_50 (c := 1) rfl (by decide) rfl (by simp) rfl rfl rfl (kl_word (by decide) hH) ?_
  refine mm_ifge dX9_takeLine_6 (by omega) (fun h6 => ?_) (fun h6 => ?_)
  · refine mm_iload_n dX9_takeLine_15 rfl rfl ?_
    refine mm_bipush dX9_takeLine_16 rfl (by decide) ?_
    refine mm_iclt dX9_takeLine_18 (by omega) (by omega) (fun h18 => ?_) (fun h18 => ?_)
    · refine mm_aload_n dX9_takeLine_27 rfl rfl ?_
      refine mm_aload_n dX9_takeLine_28 rfl rfl ?_
      refine mm_iload_n dX9_takeLine_29 rfl rfl ?_
      refine mm_bipush dX9_takeLine_30 rfl (by decide) ?_
      refine mm_imul dX9_takeLine_32 rfl ?_
      rw [if_neg (by omega), if_neg (by omega)] at hL
      rw [show (c : Int) * 11 = ((11 * c : Nat) : Int) by omega]
      refine mm_V2g (M1 := N) dX9_takeLine_33 rfl lk_X9_58 (c := 18) rfl (by decide) rfl (by simp) (by simp) rfl rfl rfl (c_X9_takeConds (b := 11 * c) hH.1 (by omega)) ?_
      intro r M' hP
      match hCl : kl_conds (M 2) n (11 * c) 3 0 (kt_e (M 2) n p) (N 20), hP with
      | .ok (p1, D1), hP =>
        obtain ⟨rfl, g1, g2, g3, g4⟩ := hP
        rw [hCl] at hL
        dsimp only at hL
        rw [← g2] at hL
        exact act M' p1 (by omega) g1 g3 g4 hL
      | .error (k, s), hP =>
        obtain ⟨rfl, g1⟩ := hP
        rw [hCl] at hL
        dsimp only at hL
        refine bad M' ?_
        rw [← hL]
        exact ⟨rfl, g1⟩
    · refine mm_aload_n dX9_takeLine_21 rfl rfl ?_
      refine mm_iconst dX9_takeLine_22 rfl ?_
      refine mm_V1i dX9_takeLine_23 rfl lk_X9_54 (c := 1) rfl (by decide) rfl (by simp) rfl rfl rfl (c_X10_fails hRN) ?_
      refine mm_zret dX9_takeLine_26 rfl rfl (Or.inl rfl) ?_
      rw [if_neg (by omega), if_pos (by omega)] at hL
      rw [← hL]
      exact kl_bad hH rfl N
  · refine mm_aload_n dX9_takeLine_9 rfl rfl ?_
    refine mm_iconst dX9_takeLine_10 rfl ?_
    refine mm_V1i dX9_takeLine_11 rfl lk_X9_54 (c := 1) rfl (by decide) rfl (by simp) rfl rfl rfl (c_X10_fails hRN) ?_
    refine mm_zret dX9_takeLine_14 rfl rfl (Or.inl rfl) ?_
    rw [if_pos (by omega)] at hL
    rw [← hL]
    exact kl_bad hH rfl N
/-- how takeText ends -/
def kl_Q (M M' : mm_M) (e : kp_E) (r : mm_V) : Prop := match e with
  | .ok (c, D) => r = (0, (c : Int)) ∧ mm_Rf M' ∧ (∀ a, a ≠ 1 → a ≠ 18 → a ≠ 19 → a ≠ 20 → M' a = M a) ∧ (∀ b, b < 2 → M' 1 b = M 1 b) ∧ M' 1 2 = 0 ∧ M' 1 3 = -1 ∧ M' 18 1 = (c : Int) ∧ (∀ b, b ≠ 1 → M' 18 b = M 18 b) ∧ (∀ b, b < 88 → M' 19 b = D b)
  | .error (k, s) => r = (0, -1) ∧ mm_Rf M' ∧ (∀ a, a ≠ 1 → a ≠ 20 → M' a = M a) ∧ (∀ b, b < 2 → M' 1 b = M 1 b) ∧ M' 1 2 = k ∧ M' 1 3 = (s : Int)
theorem c_X9_takeText {sl : Int} (hR : mm_Rf M) (hT : mm_CT M n) (hsl : M 4 10 = sl ∧ 1 ≤ sl ∧ sl ≤ 3) :
    mm_C X Y_X9_takeText 243 243 [(2, 19), (2, 2)] M (fun r M' => kl_Q M M' (kl_text (M 2) n sl 9 0 0 (M 20)) r) := by
  obtain ⟨E, hE⟩ : ∃ E, E = kl_text (M 2) n sl 9 0 0 (M 20) := ⟨_, rfl⟩
  rw [← hE]
  refine mm_start (ls := [(2, 19), (2, 2), (9, 0)]) rfl ?_
  have loop : ∀ c : Nat, c ≤ 8 → ∀ (Q : mm_M) (p : Nat), kl_I M Q n p → Q 1 2 = 0 → Q 1 3 = -1 → kl_text (M 2) n sl (9 - c) c p (Q 20) = E →
      mm_J X Y_X9_takeText 243 243 243 6 [(2, 19), (2, 2), (0, (c : Int))] [] Q (fun r M' => kl_Q M M' E r) := by
    refine mm_lp ?_
    intro c hc ih Q p hQ q2 q3 hL
    have hRQ := hQ.1
    have hkb := kt_kb (B := M 2) (n := n) (p := p)
    rw [show 9 - c = (8 - c) + 1 by omega, kl_text] at hL
    have nx1 : ∀ (T : mm_M) (p' : Nat), c < 8 → kl_I M T n p' → T 1 2 = 0 → T 1 3 = -1 → kl_text (M 2) n sl (8 - c) (c + 1) p' (T 20) = E → mm_J X Y_X9_takeText 243 243 243 54 [(2, 19), (2, 2), (0, (c : Int))] [(0, 1)] T (fun r M' => kl_Q M M' E r) := by
      intro T p' hc8 hIT h2 h3 hL'
      have hRT := hIT.1
      refine mm_ifne dX9_takeText_54 (by omega) (fun _ => ?_) (fun h => absurd h (by decide))
      refine mm_iinc dX9_takeText_59 rfl rfl (Nat.le_of_ble_eq_true rfl) rfl ?_
      refine mm_goto dX9_takeText_62 ?_
      exact ih hc8 T p' hIT h2 h3 (by rw [show 9 - (c + 1) = 8 - c by omega]; exact hL')
    have nx0 : ∀ (T : mm_M), kl_Q M T E (0, -1) → mm_J X Y_X9_takeText 243 243 243 54 [(2, 19), (2, 2), (0, (c : Int))] [(0, 0)] T (fun r M' => kl_Q M M' E r) := by
      intro T hQ9
      refine mm_ifne dX9_takeText_54 (by omega) (fun h => absurd h (by decide)) (fun _ => ?_)
      refine mm_iconst dX9_takeText_57 rfl ?_
      refine mm_iret dX9_takeText_58 rfl rfl ?_
      exact hQ9
    refine mm_iload_n dX9_takeText_6 rfl rfl ?_
    refine mm_bipush dX9_takeText_7 rfl (by decide) ?_
    refine mm_icgt dX9_takeText_9 (by omega) (by omega) (fun h9 => ?_) (fun h9 => ?_)
    · exfalso; omega
    · refine mm_aload_n dX9_takeText_12 rfl rfl ?_
      refine mm_V0g (M1 := Q) dX9_takeText_13 rfl lk_X9_31 (c := 1) rfl (by decide) rfl  rfl rfl rfl (kl_adv hQ) ?_
      rintro _ N13 ⟨rfl, p13⟩
      change mm_J _ _ _ _ _ _ _ _ _ _
      have hR13 : mm_Rf N13 := p13.1
      obtain ⟨-, hH, e1, f1, g1⟩ := p13
      obtain ⟨hI2, -, ek, es, ev⟩ := id hH
      refine mm_aload_n dX9_takeText_16 rfl rfl ?_
      refine mm_V0i dX9_takeText_17 rfl lk_X9_34 (c := 1) rfl (by decide) rfl  rfl rfl rfl (c_X10_isAtEnd hR13 (by omega)) ?_
      refine mm_ifeqb dX9_takeText_20 (fun h20 => ?_) (fun h20 => ?_)
      · refine mm_aload_n dX9_takeText_48 rfl rfl ?_
        refine mm_aload_n dX9_takeText_49 rfl rfl ?_
        refine mm_iload_n dX9_takeText_50 rfl rfl ?_
        rw [ek] at h20
        rw [if_neg h20] at hL
        refine mm_V2g (M1 := N13) dX9_takeText_51 rfl lk_X9_44 (c := 18) rfl (by decide) rfl (by simp) (by simp) rfl rfl rfl (c_X9_takeLine (c := c) hH hsl (by omega)) ?_
        intro r M' hP
        rw [e1] at hP
        match hCl : kl_line (M 2) n sl c p (Q 20), hP with
        | .ok (p', D'), hP =>
          obtain ⟨rfl, g1', g2, g3, g4⟩ := hP
          have hc8 : c < 8 := by
            rcases Nat.lt_or_ge c 8 with z | z
            · exact z
            · exfalso
              unfold kl_line at hCl
              split at hCl
              · cases hCl
              · cases hCl
          rw [hCl] at hL
          exact nx1 M' p' hc8 g1' (by rw [g3, f1, q2]) (by rw [g4, g1, q3]) (by rw [g2]; exact hL)
        | .error (k, s), hP =>
          obtain ⟨rfl, g1'⟩ := hP
          rw [hCl] at hL
          refine nx0 M' ?_
          rw [← hL]
          exact ⟨rfl, g1'⟩
      · refine mm_aload_n dX9_takeText_23 rfl rfl ?_
        refine mm_getr dX9_takeText_24 rfl fl_X9_15 (c := 18) rfl (by decide) rfl rfl (hR13.at (c := 18) (i := 3) (v := 21) rfl (by decide)) ?_
        refine mm_iconst dX9_takeText_27 rfl ?_
        refine mm_aload_n dX9_takeText_28 rfl rfl ?_
        refine mm_getr dX9_takeText_29 rfl fl_X9_11 (c := 18) rfl (by decide) rfl rfl (hR13.at (c := 18) (i := 2) (v := 20) rfl (by decide)) ?_
        refine mm_iconst dX9_takeText_32 rfl ?_
        refine mm_aload_n dX9_takeText_33 rfl rfl ?_
        refine mm_getr dX9_takeText_34 rfl fl_X9_11 (c := 18) rfl (by decide) rfl rfl (hR13.at (c := 18) (i := 2) (v := 20) rfl (by decide)) ?_
        refine mm_aln dX9_takeText_37 rfl (c := 19) rfl (by decide) rfl ?_
        refine mm_copy dX9_takeText_38 rfl la_X9_38 rfl rfl (c := 20) rfl (by decide) rfl (d := 19) rfl (by decide) rfl (by omega) (by omega) (by omega) (by omega) (by omega) ?_
        obtain ⟨N38, hN38⟩ : ∃ Z, Z = mm_cp N13 19 (N13 20) (0 : Int).toNat (0 : Int).toNat ((88 : Nat) : Int).toNat := ⟨_, rfl⟩
        have hR38 : mm_Rf N38 := by rw [hN38]; exact hR13.cp (len := 88) rfl
        have u : ∀ a, a ≠ 19 → N38 a = N13 a := by intro a ha; rw [hN38]; funext b; simp [mm_cp, ha]
        have u19 : ∀ b, b < 88 → N38 19 b = N13 20 b := by
          intro b hb
          rw [hN38]
          unfold mm_cp
          rw [if_pos ⟨rfl, Nat.zero_le _, by simpa using hb⟩]
          simp
        rw [← hN38]
        refine mm_aload_n dX9_takeText_41 rfl rfl ?_
        refine mm_iload_n dX9_takeText_42 rfl rfl ?_
        refine mm_puti dX9_takeText_43 rfl fl_X9_22 (c := 18) rfl (by decide) rfl rfl (fun M43 hM43 => ?_)
        have hR43 : mm_Rf M43 := by rw [hM43]; exact hR38.up rfl
        refine mm_iload_n dX9_takeText_46 rfl rfl ?_
        refine mm_iret dX9_takeText_47 rfl rfl ?_
        rw [ek] at h20
        rw [if_pos h20] at hL
        rw [← hL]
        refine ⟨rfl, hR43, ?_, ?_, ?_, ?_, ?_, ?_, ?_⟩
        · intro a a1 a2 a3 a4; rw [hM43, mm_up_row a2, u a a3]; exact hI2.2.1 a a1 a4
        · intro b hb; rw [hM43, mm_up_row (by decide), u 1 (by decide)]; exact hI2.2.2.1 b hb
        · rw [hM43, mm_up_row (by decide), u 1 (by decide), f1]; exact q2
        · rw [hM43, mm_up_row (by decide), u 1 (by decide), g1]; exact q3
        · rw [hM43, mm_up_s]
        · intro b hb; rw [hM43, mm_up_i hb, u 18 (by decide)]; exact congrFun (hI2.2.1 18 (by decide) (by decide)) b
        · intro b hb; rw [hM43, mm_up_row (by decide), u19 b hb, e1]
  refine mm_aload_n dX9_takeText_0 rfl rfl ?_
  obtain ⟨N5, hN5⟩ : ∃ N, N = mm_up (mm_up (mm_up M 1 7 0) 1 2 0) 1 3 (-1) := ⟨_, rfl⟩
  have hR5 : mm_Rf N5 := by rw [hN5]; exact ((hR.up rfl).up rfl).up rfl
  refine mm_V0v dX9_takeText_1 rfl lk_X9_26 (c := 1) rfl (by decide) rfl  rfl rfl rfl ((hN5 ▸ c_X10_startText hR)) ?_
  refine mm_iconst dX9_takeText_4 rfl ?_
  refine mm_istore_n dX9_takeText_5 rfl (Nat.le_of_ble_eq_true rfl) rfl ?_
  have w : ∀ a, a ≠ 1 → N5 a = M a := by intro a ha; rw [hN5, mm_up_row ha, mm_up_row ha, mm_up_row ha]
  refine loop 0 (Nat.zero_le _) N5 0 ⟨hR5, ?_, ?_, ⟨?_, hT.2.1, ?_⟩, Nat.zero_le _, ?_⟩ ?_ ?_ ?_
  · intro a a1 a2; exact w a a1
  · intro b hb; rw [hN5, mm_up_i (by omega), mm_up_i (by omega), mm_up_i (by omega)]
  · rw [hN5, mm_up_i (by decide), mm_up_i (by decide), mm_up_i (by decide)]; exact hT.1
  · rw [w 2 (by decide)]; exact hT.2.2
  · rw [hN5, mm_up_i (by decide), mm_up_i (by decide), mm_up_s]; rfl
  · rw [hN5, mm_up_i (by decide), mm_up_s]
  · rw [hN5, mm_up_s]
  · rw [w 20 (by decide)]; exact hE.symm
/-- rules, of the class -/
def kl_K (M M' : mm_M) (e : kp_E) (r : mm_V) : Prop := mm_Rf M' ∧ M' 1 1 = 0 ∧ match e with
  | .ok (c, D) => r = (0, (c : Int)) ∧ (∀ a, a ≠ 1 → a ≠ 18 → a ≠ 19 → a ≠ 20 → M' a = M a) ∧ M' 1 2 = 0 ∧ M' 1 3 = -1 ∧ M' 18 1 = (c : Int) ∧ (∀ b, b < 88 → M' 19 b = D b)
  | .error (k, s) => r = (0, -1) ∧ (∀ a, a ≠ 1 → a ≠ 20 → M' a = M a) ∧ M' 1 2 = k ∧ M' 1 3 = (s : Int)
theorem c_X11_rules {sl : Int} (hR : mm_Rf M) (hT : mm_CT M n) (hsl : M 4 10 = sl ∧ 1 ≤ sl ∧ sl ≤ 3) :
    mm_C X Y_X11_rules 243 243 [(2, 1)] M (fun r M' => kl_K M M' (kl_text (M 2) n sl 9 0 0 (M 20)) r) := by
  obtain ⟨E, hE⟩ : ∃ E, E = kl_text (M 2) n sl 9 0 0 (M 20) := ⟨_, rfl⟩
  have ct := c_X9_takeText (X := X) hR hT hsl
  rw [← hE] at ct ⊢
  refine mm_start (ls := [(2, 1), (9, 0)]) rfl ?_
  have fin : ∀ (T : mm_M) (z : Int), kl_Q M T E (0, z) → mm_J X Y_X11_rules 243 243 243 11 [(2, 1), (9, 0)] [(0, z)] T (fun r M' => kl_K M M' E r) := by
    intro T z hQT
    have hRT : mm_Rf T := by
      rcases hc : E with ⟨k, s⟩ | ⟨c, D⟩ <;> rw [hc] at hQT <;> exact hQT.2.1
    refine mm_istore_n dX11_rules_11 rfl (Nat.le_of_ble_eq_true rfl) rfl ?_
    refine mm_aload_n dX11_rules_12 rfl rfl ?_
    refine mm_getr dX11_rules_13 rfl fl_X11_10 (c := 0) rfl (by decide) rfl rfl (hRT.at (c := 0) (i := 0) (v := 2) rfl (by decide)) ?_
    refine mm_iconst dX11_rules_16 rfl ?_
    refine mm_puti dX11_rules_17 rfl fl_X11_105 (c := 1) rfl (by decide) rfl rfl (fun M17 hM17 => ?_)
    have hR17 : mm_Rf M17 := by rw [hM17]; exact hRT.up rfl
    refine mm_iload_n dX11_rules_20 rfl rfl ?_
    refine mm_iret dX11_rules_21 rfl rfl ?_
    rcases hc : E with ⟨k, s⟩ | ⟨c, D⟩
    · rw [hc] at hQT
      obtain ⟨t0, t1, t2, t3, t4, t5⟩ := hQT
      refine ⟨hR17, ?_, t0, ?_, ?_, ?_⟩
      · rw [hM17, mm_up_s]
      · intro a a1 a2; rw [hM17, mm_up_row a1]; exact t2 a a1 a2
      · rw [hM17, mm_up_i (by decide)]; exact t4
      · rw [hM17, mm_up_i (by decide)]; exact t5
    · rw [hc] at hQT
      obtain ⟨t0, t1, t2, t3, t4, t5, t6, t7, t8⟩ := hQT
      refine ⟨hR17, ?_, t0, ?_, ?_, ?_, ?_, ?_⟩
      · rw [hM17, mm_up_s]
      · intro a a1 a2 a3 a4; rw [hM17, mm_up_row a1]; exact t2 a a1 a2 a3 a4
      · rw [hM17, mm_up_i (by decide)]; exact t4
      · rw [hM17, mm_up_i (by decide)]; exact t5
      · rw [hM17, mm_up_row (by decide)]; exact t6
      · intro b hb; rw [hM17, mm_up_row (by decide)]; exact t8 b hb
  refine mm_aload_n dX11_rules_0 rfl rfl ?_
  refine mm_getr dX11_rules_1 rfl fl_X11_35 (c := 0) rfl (by decide) rfl rfl (hR.at (c := 0) (i := 3) (v := 19) rfl (by decide)) ?_
  refine mm_aload_n dX11_rules_4 rfl rfl ?_
  refine mm_getr dX11_rules_5 rfl fl_X11_10 (c := 0) rfl (by decide) rfl rfl (hR.at (c := 0) (i := 0) (v := 2) rfl (by decide)) ?_
  refine mm_V1g (M1 := M) dX11_rules_8 rfl lk_X11_125 (c := 18) rfl (by decide) rfl (by simp) rfl rfl rfl ct ?_
  intro r T hQT
  have : ∃ z, r = (0, z) := by
    rcases hc : E with ⟨k, s⟩ | ⟨c, D⟩ <;> rw [hc] at hQT <;> exact ⟨_, hQT.1⟩
  obtain ⟨z, rfl⟩ := this
  exact fin T z hQT
end
end
/-! A5.rwords -/
section
/-! ===== words at hand, of the reference ===== -/
abbrev ks_W (k : Nat) : List Int := (mm_sc.getD k mm_sd).2.2.2
/-- the token behind p is the word k -/
def kt_ib (B : Nat → Int) (n p k : Nat) : Bool := decide (kt_k B n p = 1 ∧ kt_e B n p - kt_s B n p = (ks_W k).length ∧ ∀ j, j < (ks_W k).length → B (kt_s B n p + j) = (ks_W k).getD j 0)
abbrev kt_iw (B : Nat → Int) (n p k : Nat) : Prop := kt_ib B n p k = true
theorem kt_iw_m {B : Nat → Int} {n p k : Nat} : kt_iw B n p k ↔ (kt_k B n p = 1 ∧ kt_m (fun j => B (kt_s B n p + j)) (kt_e B n p - kt_s B n p) (ks_W k)) := by
  unfold kt_iw kt_ib kt_m
  rw [decide_eq_true_iff]
def kt_j : List (List Int) → List Int
  | [] => []
  | [w] => w
  | w :: v :: ws => w ++ 32 :: kt_j (v :: ws)
def kt_fi (B : Nat → Int) (n p : Nat) : List Nat → Nat → Int
  | [], _ => -1
  | k :: ks, i => if kt_iw B n p k then (i : Int) else kt_fi B n p ks (i + 1)
theorem kp_nm_j {B : Nat → Int} {n p k0 : Nat} {ks : List Nat} (h1 : ks_W k0 = kt_j (ks.map ks_W)) (h2 : ∀ k, k ∈ ks → 32 ∉ ks_W k) (h3 : ks ≠ []) : kp_nm B n p k0 = kt_fi B n p ks 0 := by
  unfold kp_nm
  by_cases hk : kt_k B n p = 1
  · rw [if_pos hk]
    show kt_f _ _ (ks_W k0) 0 0 true = _
    rw [h1]
    have key : ∀ (ks : List Nat) (i : Nat), (∀ k, k ∈ ks → 32 ∉ ks_W k) → ks ≠ [] → kt_f (fun j => B (kt_s B n p + j)) (kt_e B n p - kt_s B n p) (kt_j (ks.map ks_W)) i 0 true = kt_fi B n p ks i := by
      intro ks
      induction ks with
      | nil => intro i _ h; exact absurd rfl h
      | cons k ks ih =>
        intro i h2 _
        have hk2 := h2 k List.mem_cons_self
        cases ks with
        | nil =>
          have := kt_f_la (T := fun j => B (kt_s B n p + j)) (len := kt_e B n p - kt_s B n p) (w := i) hk2
          show kt_f _ _ (ks_W k) i 0 true = _
          unfold kt_fi kt_fi
          by_cases q : kt_iw B n p k
          · rw [if_pos q]; exact this.1 (kt_iw_m.1 q).2
          · rw [if_neg q]; exact this.2 (fun z => q (kt_iw_m.2 ⟨hk, z⟩))
        | cons k' ks =>
          have := kt_f_in (T := fun j => B (kt_s B n p + j)) (len := kt_e B n p - kt_s B n p) (rest := kt_j ((k' :: ks).map ks_W)) (w := i) hk2
          show kt_f _ _ (ks_W k ++ 32 :: kt_j ((k' :: ks).map ks_W)) i 0 true = _
          rw [kt_fi]
          by_cases q : kt_iw B n p k
          · rw [if_pos q]; exact this.1 (kt_iw_m.1 q).2
          · rw [if_neg q, this.2 (fun z => q (kt_iw_m.2 ⟨hk, z⟩))]
            exact ih (i + 1) (fun k hk => h2 k (List.mem_cons_of_mem _ hk)) (by simp)
    exact key ks _ h2 h3
  · rw [if_neg hk]
    have key : ∀ (ks : List Nat) (i : Nat), kt_fi B n p ks i = -1 := by
      intro ks
      induction ks with
      | nil => intro i; rfl
      | cons k ks ih => intro i; rw [kt_fi, if_neg (fun q => hk (kt_iw_m.1 q).1)]; exact ih _
    rw [key]
section
variable {X : mm_X} {M : mm_M} {n p k0 : Nat}
theorem kt_is (hR : mm_Rf M) (hT : mm_RT M n) (hp : p ≤ n) (hH : kt_H M n p) (hk : k0 < 37) : mm_Fn X Y_X13_is 243 [(2, 184), (2, -((k0 + 100 : Nat) : Int))] M (0, mm_b (kt_iw (M 185) n p k0)) M := by
  have c := c_X13_is (X := X) (k0 := k0) hR hT hk hH.b.1 hH.2.1 hH.2.2.1 (kt_eb hp)
  refine mm_Cmono c ?_
  rintro r M' ⟨z, rfl, -, rfl, h⟩
  refine ⟨?_, rfl⟩
  rw [hH.1] at h
  rcases h with ⟨rfl, h⟩ | ⟨rfl, h⟩
  · rw [mm_b_t (kt_iw_m.2 h)]
  · rw [mm_b_f (fun q => h (kt_iw_m.1 q))]
theorem kp_nm1 {B : Nat → Int} {n p : Nat} : kp_nm B n p 1 = kt_fi B n p [19] 0 := kp_nm_j (by decide +kernel) (by decide +kernel) (by simp)
theorem kp_nm3 {B : Nat → Int} {n p : Nat} : kp_nm B n p 3 = kt_fi B n p [24, 25, 26] 0 := kp_nm_j (by decide +kernel) (by decide +kernel) (by simp)
theorem kp_nm4 {B : Nat → Int} {n p : Nat} : kp_nm B n p 4 = kt_fi B n p [27, 28] 0 := kp_nm_j (by decide +kernel) (by decide +kernel) (by simp)
theorem kp_nm0 {B : Nat → Int} {n p : Nat} : kp_nm B n p 0 = kt_fi B n p [7, 8, 9, 10, 11, 12, 13, 14, 15, 16, 17, 18] 0 := kp_nm_j (by decide +kernel) (by decide +kernel) (by simp)
theorem kp_nm2 {B : Nat → Int} {n p : Nat} : kp_nm B n p 2 = kt_fi B n p [20, 21, 9, 22, 23] 0 := kp_nm_j (by decide +kernel) (by decide +kernel) (by simp)
theorem kp_nm5 {B : Nat → Int} {n p : Nat} : kp_nm B n p 5 = kt_fi B n p [29, 30, 31, 32, 33] 0 := kp_nm_j (by decide +kernel) (by decide +kernel) (by simp)
theorem kp_nm6 {B : Nat → Int} {n p : Nat} : kp_nm B n p 6 = kt_fi B n p [34, 35, 36] 0 := kp_nm_j (by decide +kernel) (by decide +kernel) (by simp)
theorem c_X13_clauseAtHand (hR : mm_Rf M) (hT : mm_RT M n) (hp : p ≤ n) (hH : kt_H M n p) : mm_Fn X Y_X13_clauseAtHand 243 [(2, 184)] M (0, kp_nm (M 185) n p 0) M := by
  refine mm_startF (ls := [(2, 184)]) rfl ?_
  rw [kp_nm0]
  simp only [kt_fi]
  refine mm_aload_n dX13_clauseAtHand_0 rfl rfl ?_
  refine mm_lds (k0 := 7) dX13_clauseAtHand_1 rfl (by decide) rfl rfl ?_
  refine mm_V1i dX13_clauseAtHand_3 rfl lk_X13_103 (c := 183) rfl (by decide) rfl (by simp) rfl rfl rfl (kt_is hR hT hp hH (by decide)) ?_
  refine mm_ifeqb dX13_clauseAtHand_6 (fun h6 => ?_) (fun h6 => ?_)
  · refine mm_aload_n dX13_clauseAtHand_11 rfl rfl ?_
    refine mm_lds (k0 := 8) dX13_clauseAtHand_12 rfl (by decide) rfl rfl ?_
    refine mm_V1i dX13_clauseAtHand_14 rfl lk_X13_103 (c := 183) rfl (by decide) rfl (by simp) rfl rfl rfl (kt_is hR hT hp hH (by decide)) ?_
    refine mm_ifeqb dX13_clauseAtHand_17 (fun h17 => ?_) (fun h17 => ?_)
    · refine mm_aload_n dX13_clauseAtHand_22 rfl rfl ?_
      refine mm_lds (k0 := 9) dX13_clauseAtHand_23 rfl (by decide) rfl rfl ?_
      refine mm_V1i dX13_clauseAtHand_25 rfl lk_X13_103 (c := 183) rfl (by decide) rfl (by simp) rfl rfl rfl (kt_is hR hT hp hH (by decide)) ?_
      refine mm_ifeqb dX13_clauseAtHand_28 (fun h28 => ?_) (fun h28 => ?_)
      · refine mm_aload_n dX13_clauseAtHand_33 rfl rfl ?_
        refine mm_lds (k0 := 10) dX13_clauseAtHand_34 rfl (by decide) rfl rfl ?_
        refine mm_V1i dX13_clauseAtHand_36 rfl lk_X13_103 (c := 183) rfl (by decide) rfl (by simp) rfl rfl rfl (kt_is hR hT hp hH (by decide)) ?_
        refine mm_ifeqb dX13_clauseAtHand_39 (fun h39 => ?_) (fun h39 => ?_)
        · refine mm_aload_n dX13_clauseAtHand_44 rfl rfl ?_
          refine mm_lds (k0 := 11) dX13_clauseAtHand_45 rfl (by decide) rfl rfl ?_
          refine mm_V1i dX13_clauseAtHand_47 rfl lk_X13_103 (c := 183) rfl (by decide) rfl (by simp) rfl rfl rfl (kt_is hR hT hp hH (by decide)) ?_
          refine mm_ifeqb dX13_clauseAtHand_50 (fun h50 => ?_) (fun h50 => ?_)
          · refine mm_aload_n dX13_clauseAtHand_55 rfl rfl ?_
            refine mm_lds (k0 := 12) dX13_clauseAtHand_56 rfl (by decide) rfl rfl ?_
            refine mm_V1i dX13_clauseAtHand_58 rfl lk_X13_103 (c := 183) rfl (by decide) rfl (by simp) rfl rfl rfl (kt_is hR hT hp hH (by decide)) ?_
            refine mm_ifeqb dX13_clauseAtHand_61 (fun h61 => ?_) (fun h61 => ?_)
            · refine mm_aload_n dX13_clauseAtHand_66 rfl rfl ?_
              refine mm_lds (k0 := 13) dX13_clauseAtHand_67 rfl (by decide) rfl rfl ?_
              refine mm_V1i dX13_clauseAtHand_69 rfl lk_X13_103 (c := 183) rfl (by decide) rfl (by simp) rfl rfl rfl (kt_is hR hT hp hH (by decide)) ?_
              refine mm_ifeqb dX13_clauseAtHand_72 (fun h72 => ?_) (fun h72 => ?_)
              · refine mm_aload_n dX13_clauseAtHand_78 rfl rfl ?_
                refine mm_lds (k0 := 14) dX13_clauseAtHand_79 rfl (by decide) rfl rfl ?_
                refine mm_V1i dX13_clauseAtHand_81 rfl lk_X13_103 (c := 183) rfl (by decide) rfl (by simp) rfl rfl rfl (kt_is hR hT hp hH (by decide)) ?_
                refine mm_ifeqb dX13_clauseAtHand_84 (fun h84 => ?_) (fun h84 => ?_)
                · refine mm_aload_n dX13_clauseAtHand_90 rfl rfl ?_
                  refine mm_lds (k0 := 15) dX13_clauseAtHand_91 rfl (by decide) rfl rfl ?_
                  refine mm_V1i dX13_clauseAtHand_93 rfl lk_X13_103 (c := 183) rfl (by decide) rfl (by simp) rfl rfl rfl (kt_is hR hT hp hH (by decide)) ?_
                  refine mm_ifeqb dX13_clauseAtHand_96 (fun h96 => ?_) (fun h96 => ?_)
                  · refine mm_aload_n dX13_clauseAtHand_102 rfl rfl ?_
                    refine mm_lds (k0 := 16) dX13_clauseAtHand_103 rfl (by decide) rfl rfl ?_
                    refine mm_V1i dX13_clauseAtHand_105 rfl lk_X13_103 (c := 183) rfl (by decide) rfl (by simp) rfl rfl rfl (kt_is hR hT hp hH (by decide)) ?_
                    refine mm_ifeqb dX13_clauseAtHand_108 (fun h108 => ?_) (fun h108 => ?_)
                    · refine mm_aload_n dX13_clauseAtHand_114 rfl rfl ?_
                      refine mm_lds (k0 := 17) dX13_clauseAtHand_115 rfl (by decide) rfl rfl ?_
                      refine mm_V1i dX13_clauseAtHand_117 rfl lk_X13_103 (c := 183) rfl (by decide) rfl (by simp) rfl rfl rfl (kt_is hR hT hp hH (by decide)) ?_
                      refine mm_ifeqb dX13_clauseAtHand_120 (fun h120 => ?_) (fun h120 => ?_)
                      · refine mm_aload_n dX13_clauseAtHand_126 rfl rfl ?_
                        refine mm_lds (k0 := 18) dX13_clauseAtHand_127 rfl (by decide) rfl rfl ?_
                        refine mm_V1i dX13_clauseAtHand_129 rfl lk_X13_103 (c := 183) rfl (by decide) rfl (by simp) rfl rfl rfl (kt_is hR hT hp hH (by decide)) ?_
                        refine mm_ifeqb dX13_clauseAtHand_132 (fun h132 => ?_) (fun h132 => ?_)
                        · refine mm_iconst dX13_clauseAtHand_140 rfl ?_
                          refine mm_iret dX13_clauseAtHand_141 rfl rfl ?_
                          refine mm_fin ?_ rfl
                          first
                          | (rw [if_pos h6]; rfl)
                          | (rw [if_neg h6, if_pos h17]; rfl)
                          | (rw [if_neg h6, if_neg h17, if_pos h28]; rfl)
                          | (rw [if_neg h6, if_neg h17, if_neg h28, if_pos h39]; rfl)
                          | (rw [if_neg h6, if_neg h17, if_neg h28, if_neg h39, if_pos h50]; rfl)
                          | (rw [if_neg h6, if_neg h17, if_neg h28, if_neg h39, if_neg h50, if_pos h61]; rfl)
                          | (rw [if_neg h6, if_neg h17, if_neg h28, if_neg h39, if_neg h50, if_neg h61, if_pos h72]; rfl)
                          | (rw [if_neg h6, if_neg h17, if_neg h28, if_neg h39, if_neg h50, if_neg h61, if_neg h72, if_pos h84]; rfl)
                          | (rw [if_neg h6, if_neg h17, if_neg h28, if_neg h39, if_neg h50, if_neg h61, if_neg h72, if_neg h84, if_pos h96]; rfl)
                          | (rw [if_neg h6, if_neg h17, if_neg h28, if_neg h39, if_neg h50, if_neg h61, if_neg h72, if_neg h84, if_neg h96, if_pos h108]; rfl)
                          | (rw [if_neg h6, if_neg h17, if_neg h28, if_neg h39, if_neg h50, if_neg h61, if_neg h72, if_neg h84, if_neg h96, if_neg h108, if_pos h120]; rfl)
                          | (rw [if_neg h6, if_neg h17, if_neg h28, if_neg h39, if_neg h50, if_neg h61, if_neg h72, if_neg h84, if_neg h96, if_neg h108, if_neg h120, if_pos h132]; rfl)
                          | (rw [if_neg h6, if_neg h17, if_neg h28, if_neg h39, if_neg h50, if_neg h61, if_neg h72, if_neg h84, if_neg h96, if_neg h108, if_neg h120, if_neg h132]; done)
                        · refine mm_bipush dX13_clauseAtHand_135 rfl (by decide) ?_
                          refine mm_goto dX13_clauseAtHand_137 ?_
                          refine mm_iret dX13_clauseAtHand_141 rfl rfl ?_
                          refine mm_fin ?_ rfl
                          first
                          | (rw [if_pos h6]; rfl)
                          | (rw [if_neg h6, if_pos h17]; rfl)
                          | (rw [if_neg h6, if_neg h17, if_pos h28]; rfl)
                          | (rw [if_neg h6, if_neg h17, if_neg h28, if_pos h39]; rfl)
                          | (rw [if_neg h6, if_neg h17, if_neg h28, if_neg h39, if_pos h50]; rfl)
                          | (rw [if_neg h6, if_neg h17, if_neg h28, if_neg h39, if_neg h50, if_pos h61]; rfl)
                          | (rw [if_neg h6, if_neg h17, if_neg h28, if_neg h39, if_neg h50, if_neg h61, if_pos h72]; rfl)
                          | (rw [if_neg h6, if_neg h17, if_neg h28, if_neg h39, if_neg h50, if_neg h61, if_neg h72, if_pos h84]; rfl)
                          | (rw [if_neg h6, if_neg h17, if_neg h28, if_neg h39, if_neg h50, if_neg h61, if_neg h72, if_neg h84, if_pos h96]; rfl)
                          | (rw [if_neg h6, if_neg h17, if_neg h28, if_neg h39, if_neg h50, if_neg h61, if_neg h72, if_neg h84, if_neg h96, if_pos h108]; rfl)
                          | (rw [if_neg h6, if_neg h17, if_neg h28, if_neg h39, if_neg h50, if_neg h61, if_neg h72, if_neg h84, if_neg h96, if_neg h108, if_pos h120]; rfl)
                          | (rw [if_neg h6, if_neg h17, if_neg h28, if_neg h39, if_neg h50, if_neg h61, if_neg h72, if_neg h84, if_neg h96, if_neg h108, if_neg h120, if_pos h132]; rfl)
                          | (rw [if_neg h6, if_neg h17, if_neg h28, if_neg h39, if_neg h50, if_neg h61, if_neg h72, if_neg h84, if_neg h96, if_neg h108, if_neg h120, if_neg h132]; done)
                      · refine mm_bipush dX13_clauseAtHand_123 rfl (by decide) ?_
                        refine mm_iret dX13_clauseAtHand_125 rfl rfl ?_
                        refine mm_fin ?_ rfl
                        first
                        | (rw [if_pos h6]; rfl)
                        | (rw [if_neg h6, if_pos h17]; rfl)
                        | (rw [if_neg h6, if_neg h17, if_pos h28]; rfl)
                        | (rw [if_neg h6, if_neg h17, if_neg h28, if_pos h39]; rfl)
                        | (rw [if_neg h6, if_neg h17, if_neg h28, if_neg h39, if_pos h50]; rfl)
                        | (rw [if_neg h6, if_neg h17, if_neg h28, if_neg h39, if_neg h50, if_pos h61]; rfl)
                        | (rw [if_neg h6, if_neg h17, if_neg h28, if_neg h39, if_neg h50, if_neg h61, if_pos h72]; rfl)
                        | (rw [if_neg h6, if_neg h17, if_neg h28, if_neg h39, if_neg h50, if_neg h61, if_neg h72, if_pos h84]; rfl)
                        | (rw [if_neg h6, if_neg h17, if_neg h28, if_neg h39, if_neg h50, if_neg h61, if_neg h72, if_neg h84, if_pos h96]; rfl)
                        | (rw [if_neg h6, if_neg h17, if_neg h28, if_neg h39, if_neg h50, if_neg h61, if_neg h72, if_neg h84, if_neg h96, if_pos h108]; rfl)
                        | (rw [if_neg h6, if_neg h17, if_neg h28, if_neg h39, if_neg h50, if_neg h61, if_neg h72, if_neg h84, if_neg h96, if_neg h108, if_pos h120]; rfl)
                        | (rw [if_neg h6, if_neg h17, if_neg h28, if_neg h39, if_neg h50, if_neg h61, if_neg h72, if_neg h84, if_neg h96, if_neg h108, if_neg h120, if_pos h132]; rfl)
                        | (rw [if_neg h6, if_neg h17, if_neg h28, if_neg h39, if_neg h50, if_neg h61, if_neg h72, if_neg h84, if_neg h96, if_neg h108, if_neg h120, if_neg h132]; done)
                    · refine mm_bipush dX13_clauseAtHand_111 rfl (by decide) ?_
                      refine mm_iret dX13_clauseAtHand_113 rfl rfl ?_
                      refine mm_fin ?_ rfl
                      first
                      | (rw [if_pos h6]; rfl)
                      | (rw [if_neg h6, if_pos h17]; rfl)
                      | (rw [if_neg h6, if_neg h17, if_pos h28]; rfl)
                      | (rw [if_neg h6, if_neg h17, if_neg h28, if_pos h39]; rfl)
                      | (rw [if_neg h6, if_neg h17, if_neg h28, if_neg h39, if_pos h50]; rfl)
                      | (rw [if_neg h6, if_neg h17, if_neg h28, if_neg h39, if_neg h50, if_pos h61]; rfl)
                      | (rw [if_neg h6, if_neg h17, if_neg h28, if_neg h39, if_neg h50, if_neg h61, if_pos h72]; rfl)
                      | (rw [if_neg h6, if_neg h17, if_neg h28, if_neg h39, if_neg h50, if_neg h61, if_neg h72, if_pos h84]; rfl)
                      | (rw [if_neg h6, if_neg h17, if_neg h28, if_neg h39, if_neg h50, if_neg h61, if_neg h72, if_neg h84, if_pos h96]; rfl)
                      | (rw [if_neg h6, if_neg h17, if_neg h28, if_neg h39, if_neg h50, if_neg h61, if_neg h72, if_neg h84, if_neg h96, if_pos h108]; rfl)
                      | (rw [if_neg h6, if_neg h17, if_neg h28, if_neg h39, if_neg h50, if_neg h61, if_neg h72, if_neg h84, if_neg h96, if_neg h108, if_pos h120]; rfl)
                      | (rw [if_neg h6, if_neg h17, if_neg h28, if_neg h39, if_neg h50, if_neg h61, if_neg h72, if_neg h84, if_neg h96, if_neg h108, if_neg h120, if_pos h132]; rfl)
                      | (rw [if_neg h6, if_neg h17, if_neg h28, if_neg h39, if_neg h50, if_neg h61, if_neg h72, if_neg h84, if_neg h96, if_neg h108, if_neg h120, if_neg h132]; done)
                  · refine mm_bipush dX13_clauseAtHand_99 rfl (by decide) ?_
                    refine mm_iret dX13_clauseAtHand_101 rfl rfl ?_
                    refine mm_fin ?_ rfl
                    first
                    | (rw [if_pos h6]; rfl)
                    | (rw [if_neg h6, if_pos h17]; rfl)
                    | (rw [if_neg h6, if_neg h17, if_pos h28]; rfl)
                    | (rw [if_neg h6, if_neg h17, if_neg h28, if_pos h39]; rfl)
                    | (rw [if_neg h6, if_neg h17, if_neg h28, if_neg h39, if_pos h50]; rfl)
                    | (rw [if_neg h6, if_neg h17, if_neg h28, if_neg h39, if_neg h50, if_pos h61]; rfl)
                    | (rw [if_neg h6, if_neg h17, if_neg h28, if_neg h39, if_neg h50, if_neg h61, if_pos h72]; rfl)
                    | (rw [if_neg h6, if_neg h17, if_neg h28, if_neg h39, if_neg h50, if_neg h61, if_neg h72, if_pos h84]; rfl)
                    | (rw [if_neg h6, if_neg h17, if_neg h28, if_neg h39, if_neg h50, if_neg h61, if_neg h72, if_neg h84, if_pos h96]; rfl)
                    | (rw [if_neg h6, if_neg h17, if_neg h28, if_neg h39, if_neg h50, if_neg h61, if_neg h72, if_neg h84, if_neg h96, if_pos h108]; rfl)
                    | (rw [if_neg h6, if_neg h17, if_neg h28, if_neg h39, if_neg h50, if_neg h61, if_neg h72, if_neg h84, if_neg h96, if_neg h108, if_pos h120]; rfl)
                    | (rw [if_neg h6, if_neg h17, if_neg h28, if_neg h39, if_neg h50, if_neg h61, if_neg h72, if_neg h84, if_neg h96, if_neg h108, if_neg h120, if_pos h132]; rfl)
                    | (rw [if_neg h6, if_neg h17, if_neg h28, if_neg h39, if_neg h50, if_neg h61, if_neg h72, if_neg h84, if_neg h96, if_neg h108, if_neg h120, if_neg h132]; done)
                · refine mm_bipush dX13_clauseAtHand_87 rfl (by decide) ?_
                  refine mm_iret dX13_clauseAtHand_89 rfl rfl ?_
                  refine mm_fin ?_ rfl
                  first
                  | (rw [if_pos h6]; rfl)
                  | (rw [if_neg h6, if_pos h17]; rfl)
                  | (rw [if_neg h6, if_neg h17, if_pos h28]; rfl)
                  | (rw [if_neg h6, if_neg h17, if_neg h28, if_pos h39]; rfl)
                  | (rw [if_neg h6, if_neg h17, if_neg h28, if_neg h39, if_pos h50]; rfl)
                  | (rw [if_neg h6, if_neg h17, if_neg h28, if_neg h39, if_neg h50, if_pos h61]; rfl)
                  | (rw [if_neg h6, if_neg h17, if_neg h28, if_neg h39, if_neg h50, if_neg h61, if_pos h72]; rfl)
                  | (rw [if_neg h6, if_neg h17, if_neg h28, if_neg h39, if_neg h50, if_neg h61, if_neg h72, if_pos h84]; rfl)
                  | (rw [if_neg h6, if_neg h17, if_neg h28, if_neg h39, if_neg h50, if_neg h61, if_neg h72, if_neg h84, if_pos h96]; rfl)
                  | (rw [if_neg h6, if_neg h17, if_neg h28, if_neg h39, if_neg h50, if_neg h61, if_neg h72, if_neg h84, if_neg h96, if_pos h108]; rfl)
                  | (rw [if_neg h6, if_neg h17, if_neg h28, if_neg h39, if_neg h50, if_neg h61, if_neg h72, if_neg h84, if_neg h96, if_neg h108, if_pos h120]; rfl)
                  | (rw [if_neg h6, if_neg h17, if_neg h28, if_neg h39, if_neg h50, if_neg h61, if_neg h72, if_neg h84, if_neg h96, if_neg h108, if_neg h120, if_pos h132]; rfl)
                  | (rw [if_neg h6, if_neg h17, if_neg h28, if_neg h39, if_neg h50, if_neg h61, if_neg h72, if_neg h84, if_neg h96, if_neg h108, if_neg h120, if_neg h132]; done)
              · refine mm_bipush dX13_clauseAtHand_75 rfl (by decide) ?_
                refine mm_iret dX13_clauseAtHand_77 rfl rfl ?_
                refine mm_fin ?_ rfl
                first
                | (rw [if_pos h6]; rfl)
                | (rw [if_neg h6, if_pos h17]; rfl)
                | (rw [if_neg h6, if_neg h17, if_pos h28]; rfl)
                | (rw [if_neg h6, if_neg h17, if_neg h28, if_pos h39]; rfl)
                | (rw [if_neg h6, if_neg h17, if_neg h28, if_neg h39, if_pos h50]; rfl)
                | (rw [if_neg h6, if_neg h17, if_neg h28, if_neg h39, if_neg h50, if_pos h61]; rfl)
                | (rw [if_neg h6, if_neg h17, if_neg h28, if_neg h39, if_neg h50, if_neg h61, if_pos h72]; rfl)
                | (rw [if_neg h6, if_neg h17, if_neg h28, if_neg h39, if_neg h50, if_neg h61, if_neg h72, if_pos h84]; rfl)
                | (rw [if_neg h6, if_neg h17, if_neg h28, if_neg h39, if_neg h50, if_neg h61, if_neg h72, if_neg h84, if_pos h96]; rfl)
                | (rw [if_neg h6, if_neg h17, if_neg h28, if_neg h39, if_neg h50, if_neg h61, if_neg h72, if_neg h84, if_neg h96, if_pos h108]; rfl)
                | (rw [if_neg h6, if_neg h17, if_neg h28, if_neg h39, if_neg h50, if_neg h61, if_neg h72, if_neg h84, if_neg h96, if_neg h108, if_pos h120]; rfl)
                | (rw [if_neg h6, if_neg h17, if_neg h28, if_neg h39, if_neg h50, if_neg h61, if_neg h72, if_neg h84, if_neg h96, if_neg h108, if_neg h120, if_pos h132]; rfl)
                | (rw [if_neg h6, if_neg h17, if_neg h28, if_neg h39, if_neg h50, if_neg h61, if_neg h72, if_neg h84, if_neg h96, if_neg h108, if_neg h120, if_neg h132]; done)
            · refine mm_iconst dX13_clauseAtHand_64 rfl ?_
              refine mm_iret dX13_clauseAtHand_65 rfl rfl ?_
              refine mm_fin ?_ rfl
              first
              | (rw [if_pos h6]; rfl)
              | (rw [if_neg h6, if_pos h17]; rfl)
              | (rw [if_neg h6, if_neg h17, if_pos h28]; rfl)
              | (rw [if_neg h6, if_neg h17, if_neg h28, if_pos h39]; rfl)
              | (rw [if_neg h6, if_neg h17, if_neg h28, if_neg h39, if_pos h50]; rfl)
              | (rw [if_neg h6, if_neg h17, if_neg h28, if_neg h39, if_neg h50, if_pos h61]; rfl)
              | (rw [if_neg h6, if_neg h17, if_neg h28, if_neg h39, if_neg h50, if_neg h61, if_pos h72]; rfl)
              | (rw [if_neg h6, if_neg h17, if_neg h28, if_neg h39, if_neg h50, if_neg h61, if_neg h72, if_pos h84]; rfl)
              | (rw [if_neg h6, if_neg h17, if_neg h28, if_neg h39, if_neg h50, if_neg h61, if_neg h72, if_neg h84, if_pos h96]; rfl)
              | (rw [if_neg h6, if_neg h17, if_neg h28, if_neg h39, if_neg h50, if_neg h61, if_neg h72, if_neg h84, if_neg h96, if_pos h108]; rfl)
              | (rw [if_neg h6, if_neg h17, if_neg h28, if_neg h39, if_neg h50, if_neg h61, if_neg h72, if_neg h84, if_neg h96, if_neg h108, if_pos h120]; rfl)
              | (rw [if_neg h6, if_neg h17, if_neg h28, if_neg h39, if_neg h50, if_neg h61, if_neg h72, if_neg h84, if_neg h96, if_neg h108, if_neg h120, if_pos h132]; rfl)
              | (rw [if_neg h6, if_neg h17, if_neg h28, if_neg h39, if_neg h50, if_neg h61, if_neg h72, if_neg h84, if_neg h96, if_neg h108, if_neg h120, if_neg h132]; done)
          · refine mm_iconst dX13_clauseAtHand_53 rfl ?_
            refine mm_iret dX13_clauseAtHand_54 rfl rfl ?_
            refine mm_fin ?_ rfl
            first
            | (rw [if_pos h6]; rfl)
            | (rw [if_neg h6, if_pos h17]; rfl)
            | (rw [if_neg h6, if_neg h17, if_pos h28]; rfl)
            | (rw [if_neg h6, if_neg h17, if_neg h28, if_pos h39]; rfl)
            | (rw [if_neg h6, if_neg h17, if_neg h28, if_neg h39, if_pos h50]; rfl)
            | (rw [if_neg h6, if_neg h17, if_neg h28, if_neg h39, if_neg h50, if_pos h61]; rfl)
            | (rw [if_neg h6, if_neg h17, if_neg h28, if_neg h39, if_neg h50, if_neg h61, if_pos h72]; rfl)
            | (rw [if_neg h6, if_neg h17, if_neg h28, if_neg h39, if_neg h50, if_neg h61, if_neg h72, if_pos h84]; rfl)
            | (rw [if_neg h6, if_neg h17, if_neg h28, if_neg h39, if_neg h50, if_neg h61, if_neg h72, if_neg h84, if_pos h96]; rfl)
            | (rw [if_neg h6, if_neg h17, if_neg h28, if_neg h39, if_neg h50, if_neg h61, if_neg h72, if_neg h84, if_neg h96, if_pos h108]; rfl)
            | (rw [if_neg h6, if_neg h17, if_neg h28, if_neg h39, if_neg h50, if_neg h61, if_neg h72, if_neg h84, if_neg h96, if_neg h108, if_pos h120]; rfl)
            | (rw [if_neg h6, if_neg h17, if_neg h28, if_neg h39, if_neg h50, if_neg h61, if_neg h72, if_neg h84, if_neg h96, if_neg h108, if_neg h120, if_pos h132]; rfl)
            | (rw [if_neg h6, if_neg h17, if_neg h28, if_neg h39, if_neg h50, if_neg h61, if_neg h72, if_neg h84, if_neg h96, if_neg h108, if_neg h120, if_neg h132]; done)
        · refine mm_iconst dX13_clauseAtHand_42 rfl ?_
          refine mm_iret dX13_clauseAtHand_43 rfl rfl ?_
          refine mm_fin ?_ rfl
          first
          | (rw [if_pos h6]; rfl)
          | (rw [if_neg h6, if_pos h17]; rfl)
          | (rw [if_neg h6, if_neg h17, if_pos h28]; rfl)
          | (rw [if_neg h6, if_neg h17, if_neg h28, if_pos h39]; rfl)
          | (rw [if_neg h6, if_neg h17, if_neg h28, if_neg h39, if_pos h50]; rfl)
          | (rw [if_neg h6, if_neg h17, if_neg h28, if_neg h39, if_neg h50, if_pos h61]; rfl)
          | (rw [if_neg h6, if_neg h17, if_neg h28, if_neg h39, if_neg h50, if_neg h61, if_pos h72]; rfl)
          | (rw [if_neg h6, if_neg h17, if_neg h28, if_neg h39, if_neg h50, if_neg h61, if_neg h72, if_pos h84]; rfl)
          | (rw [if_neg h6, if_neg h17, if_neg h28, if_neg h39, if_neg h50, if_neg h61, if_neg h72, if_neg h84, if_pos h96]; rfl)
          | (rw [if_neg h6, if_neg h17, if_neg h28, if_neg h39, if_neg h50, if_neg h61, if_neg h72, if_neg h84, if_neg h96, if_pos h108]; rfl)
          | (rw [if_neg h6, if_neg h17, if_neg h28, if_neg h39, if_neg h50, if_neg h61, if_neg h72, if_neg h84, if_neg h96, if_neg h108, if_pos h120]; rfl)
          | (rw [if_neg h6, if_neg h17, if_neg h28, if_neg h39, if_neg h50, if_neg h61, if_neg h72, if_neg h84, if_neg h96, if_neg h108, if_neg h120, if_pos h132]; rfl)
          | (rw [if_neg h6, if_neg h17, if_neg h28, if_neg h39, if_neg h50, if_neg h61, if_neg h72, if_neg h84, if_neg h96, if_neg h108, if_neg h120, if_neg h132]; done)
      · refine mm_iconst dX13_clauseAtHand_31 rfl ?_
        refine mm_iret dX13_clauseAtHand_32 rfl rfl ?_
        refine mm_fin ?_ rfl
        first
        | (rw [if_pos h6]; rfl)
        | (rw [if_neg h6, if_pos h17]; rfl)
        | (rw [if_neg h6, if_neg h17, if_pos h28]; rfl)
        | (rw [if_neg h6, if_neg h17, if_neg h28, if_pos h39]; rfl)
        | (rw [if_neg h6, if_neg h17, if_neg h28, if_neg h39, if_pos h50]; rfl)
        | (rw [if_neg h6, if_neg h17, if_neg h28, if_neg h39, if_neg h50, if_pos h61]; rfl)
        | (rw [if_neg h6, if_neg h17, if_neg h28, if_neg h39, if_neg h50, if_neg h61, if_pos h72]; rfl)
        | (rw [if_neg h6, if_neg h17, if_neg h28, if_neg h39, if_neg h50, if_neg h61, if_neg h72, if_pos h84]; rfl)
        | (rw [if_neg h6, if_neg h17, if_neg h28, if_neg h39, if_neg h50, if_neg h61, if_neg h72, if_neg h84, if_pos h96]; rfl)
        | (rw [if_neg h6, if_neg h17, if_neg h28, if_neg h39, if_neg h50, if_neg h61, if_neg h72, if_neg h84, if_neg h96, if_pos h108]; rfl)
        | (rw [if_neg h6, if_neg h17, if_neg h28, if_neg h39, if_neg h50, if_neg h61, if_neg h72, if_neg h84, if_neg h96, if_neg h108, if_pos h120]; rfl)
        | (rw [if_neg h6, if_neg h17, if_neg h28, if_neg h39, if_neg h50, if_neg h61, if_neg h72, if_neg h84, if_neg h96, if_neg h108, if_neg h120, if_pos h132]; rfl)
        | (rw [if_neg h6, if_neg h17, if_neg h28, if_neg h39, if_neg h50, if_neg h61, if_neg h72, if_neg h84, if_neg h96, if_neg h108, if_neg h120, if_neg h132]; done)
    · refine mm_iconst dX13_clauseAtHand_20 rfl ?_
      refine mm_iret dX13_clauseAtHand_21 rfl rfl ?_
      refine mm_fin ?_ rfl
      first
      | (rw [if_pos h6]; rfl)
      | (rw [if_neg h6, if_pos h17]; rfl)
      | (rw [if_neg h6, if_neg h17, if_pos h28]; rfl)
      | (rw [if_neg h6, if_neg h17, if_neg h28, if_pos h39]; rfl)
      | (rw [if_neg h6, if_neg h17, if_neg h28, if_neg h39, if_pos h50]; rfl)
      | (rw [if_neg h6, if_neg h17, if_neg h28, if_neg h39, if_neg h50, if_pos h61]; rfl)
      | (rw [if_neg h6, if_neg h17, if_neg h28, if_neg h39, if_neg h50, if_neg h61, if_pos h72]; rfl)
      | (rw [if_neg h6, if_neg h17, if_neg h28, if_neg h39, if_neg h50, if_neg h61, if_neg h72, if_pos h84]; rfl)
      | (rw [if_neg h6, if_neg h17, if_neg h28, if_neg h39, if_neg h50, if_neg h61, if_neg h72, if_neg h84, if_pos h96]; rfl)
      | (rw [if_neg h6, if_neg h17, if_neg h28, if_neg h39, if_neg h50, if_neg h61, if_neg h72, if_neg h84, if_neg h96, if_pos h108]; rfl)
      | (rw [if_neg h6, if_neg h17, if_neg h28, if_neg h39, if_neg h50, if_neg h61, if_neg h72, if_neg h84, if_neg h96, if_neg h108, if_pos h120]; rfl)
      | (rw [if_neg h6, if_neg h17, if_neg h28, if_neg h39, if_neg h50, if_neg h61, if_neg h72, if_neg h84, if_neg h96, if_neg h108, if_neg h120, if_pos h132]; rfl)
      | (rw [if_neg h6, if_neg h17, if_neg h28, if_neg h39, if_neg h50, if_neg h61, if_neg h72, if_neg h84, if_neg h96, if_neg h108, if_neg h120, if_neg h132]; done)
  · refine mm_iconst dX13_clauseAtHand_9 rfl ?_
    refine mm_iret dX13_clauseAtHand_10 rfl rfl ?_
    refine mm_fin ?_ rfl
    first
    | (rw [if_pos h6]; rfl)
    | (rw [if_neg h6, if_pos h17]; rfl)
    | (rw [if_neg h6, if_neg h17, if_pos h28]; rfl)
    | (rw [if_neg h6, if_neg h17, if_neg h28, if_pos h39]; rfl)
    | (rw [if_neg h6, if_neg h17, if_neg h28, if_neg h39, if_pos h50]; rfl)
    | (rw [if_neg h6, if_neg h17, if_neg h28, if_neg h39, if_neg h50, if_pos h61]; rfl)
    | (rw [if_neg h6, if_neg h17, if_neg h28, if_neg h39, if_neg h50, if_neg h61, if_pos h72]; rfl)
    | (rw [if_neg h6, if_neg h17, if_neg h28, if_neg h39, if_neg h50, if_neg h61, if_neg h72, if_pos h84]; rfl)
    | (rw [if_neg h6, if_neg h17, if_neg h28, if_neg h39, if_neg h50, if_neg h61, if_neg h72, if_neg h84, if_pos h96]; rfl)
    | (rw [if_neg h6, if_neg h17, if_neg h28, if_neg h39, if_neg h50, if_neg h61, if_neg h72, if_neg h84, if_neg h96, if_pos h108]; rfl)
    | (rw [if_neg h6, if_neg h17, if_neg h28, if_neg h39, if_neg h50, if_neg h61, if_neg h72, if_neg h84, if_neg h96, if_neg h108, if_pos h120]; rfl)
    | (rw [if_neg h6, if_neg h17, if_neg h28, if_neg h39, if_neg h50, if_neg h61, if_neg h72, if_neg h84, if_neg h96, if_neg h108, if_neg h120, if_pos h132]; rfl)
    | (rw [if_neg h6, if_neg h17, if_neg h28, if_neg h39, if_neg h50, if_neg h61, if_neg h72, if_neg h84, if_neg h96, if_neg h108, if_neg h120, if_neg h132]; done)
theorem c_X13_condAtHand (hR : mm_Rf M) (hT : mm_RT M n) (hp : p ≤ n) (hH : kt_H M n p) : mm_Fn X Y_X13_condAtHand 243 [(2, 184)] M (0, kp_nm (M 185) n p 2) M := by
  refine mm_startF (ls := [(2, 184)]) rfl ?_
  rw [kp_nm2]
  simp only [kt_fi]
  refine mm_aload_n dX13_condAtHand_0 rfl rfl ?_
  refine mm_lds (k0 := 20) dX13_condAtHand_1 rfl (by decide) rfl rfl ?_
  refine mm_V1i dX13_condAtHand_3 rfl lk_X13_103 (c := 183) rfl (by decide) rfl (by simp) rfl rfl rfl (kt_is hR hT hp hH (by decide)) ?_
  refine mm_ifeqb dX13_condAtHand_6 (fun h6 => ?_) (fun h6 => ?_)
  · refine mm_aload_n dX13_condAtHand_13 rfl rfl ?_
    refine mm_lds (k0 := 21) dX13_condAtHand_14 rfl (by decide) rfl rfl ?_
    refine mm_V1i dX13_condAtHand_16 rfl lk_X13_103 (c := 183) rfl (by decide) rfl (by simp) rfl rfl rfl (kt_is hR hT hp hH (by decide)) ?_
    refine mm_ifeqb dX13_condAtHand_19 (fun h19 => ?_) (fun h19 => ?_)
    · refine mm_aload_n dX13_condAtHand_26 rfl rfl ?_
      refine mm_lds (k0 := 9) dX13_condAtHand_27 rfl (by decide) rfl rfl ?_
      refine mm_V1i dX13_condAtHand_29 rfl lk_X13_103 (c := 183) rfl (by decide) rfl (by simp) rfl rfl rfl (kt_is hR hT hp hH (by decide)) ?_
      refine mm_ifeqb dX13_condAtHand_32 (fun h32 => ?_) (fun h32 => ?_)
      · refine mm_aload_n dX13_condAtHand_39 rfl rfl ?_
        refine mm_lds (k0 := 22) dX13_condAtHand_40 rfl (by decide) rfl rfl ?_
        refine mm_V1i dX13_condAtHand_42 rfl lk_X13_103 (c := 183) rfl (by decide) rfl (by simp) rfl rfl rfl (kt_is hR hT hp hH (by decide)) ?_
        refine mm_ifeqb dX13_condAtHand_45 (fun h45 => ?_) (fun h45 => ?_)
        · refine mm_aload_n dX13_condAtHand_52 rfl rfl ?_
          refine mm_lds (k0 := 23) dX13_condAtHand_53 rfl (by decide) rfl rfl ?_
          refine mm_V1i dX13_condAtHand_55 rfl lk_X13_103 (c := 183) rfl (by decide) rfl (by simp) rfl rfl rfl (kt_is hR hT hp hH (by decide)) ?_
          refine mm_ifeqb dX13_condAtHand_58 (fun h58 => ?_) (fun h58 => ?_)
          · refine mm_iconst dX13_condAtHand_65 rfl ?_
            refine mm_iret dX13_condAtHand_66 rfl rfl ?_
            refine mm_fin ?_ rfl
            first
            | (rw [if_pos h6]; rfl)
            | (rw [if_neg h6, if_pos h19]; rfl)
            | (rw [if_neg h6, if_neg h19, if_pos h32]; rfl)
            | (rw [if_neg h6, if_neg h19, if_neg h32, if_pos h45]; rfl)
            | (rw [if_neg h6, if_neg h19, if_neg h32, if_neg h45, if_pos h58]; rfl)
            | (rw [if_neg h6, if_neg h19, if_neg h32, if_neg h45, if_neg h58]; done)
          · refine mm_iconst dX13_condAtHand_61 rfl ?_
            refine mm_goto dX13_condAtHand_62 ?_
            refine mm_iret dX13_condAtHand_66 rfl rfl ?_
            refine mm_fin ?_ rfl
            first
            | (rw [if_pos h6]; rfl)
            | (rw [if_neg h6, if_pos h19]; rfl)
            | (rw [if_neg h6, if_neg h19, if_pos h32]; rfl)
            | (rw [if_neg h6, if_neg h19, if_neg h32, if_pos h45]; rfl)
            | (rw [if_neg h6, if_neg h19, if_neg h32, if_neg h45, if_pos h58]; rfl)
            | (rw [if_neg h6, if_neg h19, if_neg h32, if_neg h45, if_neg h58]; done)
        · refine mm_iconst dX13_condAtHand_48 rfl ?_
          refine mm_goto dX13_condAtHand_49 ?_
          refine mm_iret dX13_condAtHand_66 rfl rfl ?_
          refine mm_fin ?_ rfl
          first
          | (rw [if_pos h6]; rfl)
          | (rw [if_neg h6, if_pos h19]; rfl)
          | (rw [if_neg h6, if_neg h19, if_pos h32]; rfl)
          | (rw [if_neg h6, if_neg h19, if_neg h32, if_pos h45]; rfl)
          | (rw [if_neg h6, if_neg h19, if_neg h32, if_neg h45, if_pos h58]; rfl)
          | (rw [if_neg h6, if_neg h19, if_neg h32, if_neg h45, if_neg h58]; done)
      · refine mm_iconst dX13_condAtHand_35 rfl ?_
        refine mm_goto dX13_condAtHand_36 ?_
        refine mm_iret dX13_condAtHand_66 rfl rfl ?_
        refine mm_fin ?_ rfl
        first
        | (rw [if_pos h6]; rfl)
        | (rw [if_neg h6, if_pos h19]; rfl)
        | (rw [if_neg h6, if_neg h19, if_pos h32]; rfl)
        | (rw [if_neg h6, if_neg h19, if_neg h32, if_pos h45]; rfl)
        | (rw [if_neg h6, if_neg h19, if_neg h32, if_neg h45, if_pos h58]; rfl)
        | (rw [if_neg h6, if_neg h19, if_neg h32, if_neg h45, if_neg h58]; done)
    · refine mm_iconst dX13_condAtHand_22 rfl ?_
      refine mm_goto dX13_condAtHand_23 ?_
      refine mm_iret dX13_condAtHand_66 rfl rfl ?_
      refine mm_fin ?_ rfl
      first
      | (rw [if_pos h6]; rfl)
      | (rw [if_neg h6, if_pos h19]; rfl)
      | (rw [if_neg h6, if_neg h19, if_pos h32]; rfl)
      | (rw [if_neg h6, if_neg h19, if_neg h32, if_pos h45]; rfl)
      | (rw [if_neg h6, if_neg h19, if_neg h32, if_neg h45, if_pos h58]; rfl)
      | (rw [if_neg h6, if_neg h19, if_neg h32, if_neg h45, if_neg h58]; done)
  · refine mm_iconst dX13_condAtHand_9 rfl ?_
    refine mm_goto dX13_condAtHand_10 ?_
    refine mm_iret dX13_condAtHand_66 rfl rfl ?_
    refine mm_fin ?_ rfl
    first
    | (rw [if_pos h6]; rfl)
    | (rw [if_neg h6, if_pos h19]; rfl)
    | (rw [if_neg h6, if_neg h19, if_pos h32]; rfl)
    | (rw [if_neg h6, if_neg h19, if_neg h32, if_pos h45]; rfl)
    | (rw [if_neg h6, if_neg h19, if_neg h32, if_neg h45, if_pos h58]; rfl)
    | (rw [if_neg h6, if_neg h19, if_neg h32, if_neg h45, if_neg h58]; done)
theorem c_X13_moveAtHand (hR : mm_Rf M) (hT : mm_RT M n) (hp : p ≤ n) (hH : kt_H M n p) : mm_Fn X Y_X13_moveAtHand 243 [(2, 184)] M (0, kp_nm (M 185) n p 5) M := by
  refine mm_startF (ls := [(2, 184)]) rfl ?_
  rw [kp_nm5]
  simp only [kt_fi]
  refine mm_aload_n dX13_moveAtHand_0 rfl rfl ?_
  refine mm_lds (k0 := 29) dX13_moveAtHand_1 rfl (by decide) rfl rfl ?_
  refine mm_V1i dX13_moveAtHand_3 rfl lk_X13_103 (c := 183) rfl (by decide) rfl (by simp) rfl rfl rfl (kt_is hR hT hp hH (by decide)) ?_
  refine mm_ifeqb dX13_moveAtHand_6 (fun h6 => ?_) (fun h6 => ?_)
  · refine mm_aload_n dX13_moveAtHand_13 rfl rfl ?_
    refine mm_lds (k0 := 30) dX13_moveAtHand_14 rfl (by decide) rfl rfl ?_
    refine mm_V1i dX13_moveAtHand_16 rfl lk_X13_103 (c := 183) rfl (by decide) rfl (by simp) rfl rfl rfl (kt_is hR hT hp hH (by decide)) ?_
    refine mm_ifeqb dX13_moveAtHand_19 (fun h19 => ?_) (fun h19 => ?_)
    · refine mm_aload_n dX13_moveAtHand_26 rfl rfl ?_
      refine mm_lds (k0 := 31) dX13_moveAtHand_27 rfl (by decide) rfl rfl ?_
      refine mm_V1i dX13_moveAtHand_29 rfl lk_X13_103 (c := 183) rfl (by decide) rfl (by simp) rfl rfl rfl (kt_is hR hT hp hH (by decide)) ?_
      refine mm_ifeqb dX13_moveAtHand_32 (fun h32 => ?_) (fun h32 => ?_)
      · refine mm_aload_n dX13_moveAtHand_39 rfl rfl ?_
        refine mm_lds (k0 := 32) dX13_moveAtHand_40 rfl (by decide) rfl rfl ?_
        refine mm_V1i dX13_moveAtHand_42 rfl lk_X13_103 (c := 183) rfl (by decide) rfl (by simp) rfl rfl rfl (kt_is hR hT hp hH (by decide)) ?_
        refine mm_ifeqb dX13_moveAtHand_45 (fun h45 => ?_) (fun h45 => ?_)
        · refine mm_aload_n dX13_moveAtHand_52 rfl rfl ?_
          refine mm_lds (k0 := 33) dX13_moveAtHand_53 rfl (by decide) rfl rfl ?_
          refine mm_V1i dX13_moveAtHand_55 rfl lk_X13_103 (c := 183) rfl (by decide) rfl (by simp) rfl rfl rfl (kt_is hR hT hp hH (by decide)) ?_
          refine mm_ifeqb dX13_moveAtHand_58 (fun h58 => ?_) (fun h58 => ?_)
          · refine mm_iconst dX13_moveAtHand_65 rfl ?_
            refine mm_iret dX13_moveAtHand_66 rfl rfl ?_
            refine mm_fin ?_ rfl
            first
            | (rw [if_pos h6]; rfl)
            | (rw [if_neg h6, if_pos h19]; rfl)
            | (rw [if_neg h6, if_neg h19, if_pos h32]; rfl)
            | (rw [if_neg h6, if_neg h19, if_neg h32, if_pos h45]; rfl)
            | (rw [if_neg h6, if_neg h19, if_neg h32, if_neg h45, if_pos h58]; rfl)
            | (rw [if_neg h6, if_neg h19, if_neg h32, if_neg h45, if_neg h58]; done)
          · refine mm_iconst dX13_moveAtHand_61 rfl ?_
            refine mm_goto dX13_moveAtHand_62 ?_
            refine mm_iret dX13_moveAtHand_66 rfl rfl ?_
            refine mm_fin ?_ rfl
            first
            | (rw [if_pos h6]; rfl)
            | (rw [if_neg h6, if_pos h19]; rfl)
            | (rw [if_neg h6, if_neg h19, if_pos h32]; rfl)
            | (rw [if_neg h6, if_neg h19, if_neg h32, if_pos h45]; rfl)
            | (rw [if_neg h6, if_neg h19, if_neg h32, if_neg h45, if_pos h58]; rfl)
            | (rw [if_neg h6, if_neg h19, if_neg h32, if_neg h45, if_neg h58]; done)
        · refine mm_iconst dX13_moveAtHand_48 rfl ?_
          refine mm_goto dX13_moveAtHand_49 ?_
          refine mm_iret dX13_moveAtHand_66 rfl rfl ?_
          refine mm_fin ?_ rfl
          first
          | (rw [if_pos h6]; rfl)
          | (rw [if_neg h6, if_pos h19]; rfl)
          | (rw [if_neg h6, if_neg h19, if_pos h32]; rfl)
          | (rw [if_neg h6, if_neg h19, if_neg h32, if_pos h45]; rfl)
          | (rw [if_neg h6, if_neg h19, if_neg h32, if_neg h45, if_pos h58]; rfl)
          | (rw [if_neg h6, if_neg h19, if_neg h32, if_neg h45, if_neg h58]; done)
      · refine mm_iconst dX13_moveAtHand_35 rfl ?_
        refine mm_goto dX13_moveAtHand_36 ?_
        refine mm_iret dX13_moveAtHand_66 rfl rfl ?_
        refine mm_fin ?_ rfl
        first
        | (rw [if_pos h6]; rfl)
        | (rw [if_neg h6, if_pos h19]; rfl)
        | (rw [if_neg h6, if_neg h19, if_pos h32]; rfl)
        | (rw [if_neg h6, if_neg h19, if_neg h32, if_pos h45]; rfl)
        | (rw [if_neg h6, if_neg h19, if_neg h32, if_neg h45, if_pos h58]; rfl)
        | (rw [if_neg h6, if_neg h19, if_neg h32, if_neg h45, if_neg h58]; done)
    · refine mm_iconst dX13_moveAtHand_22 rfl ?_
      refine mm_goto dX13_moveAtHand_23 ?_
      refine mm_iret dX13_moveAtHand_66 rfl rfl ?_
      refine mm_fin ?_ rfl
      first
      | (rw [if_pos h6]; rfl)
      | (rw [if_neg h6, if_pos h19]; rfl)
      | (rw [if_neg h6, if_neg h19, if_pos h32]; rfl)
      | (rw [if_neg h6, if_neg h19, if_neg h32, if_pos h45]; rfl)
      | (rw [if_neg h6, if_neg h19, if_neg h32, if_neg h45, if_pos h58]; rfl)
      | (rw [if_neg h6, if_neg h19, if_neg h32, if_neg h45, if_neg h58]; done)
  · refine mm_iconst dX13_moveAtHand_9 rfl ?_
    refine mm_goto dX13_moveAtHand_10 ?_
    refine mm_iret dX13_moveAtHand_66 rfl rfl ?_
    refine mm_fin ?_ rfl
    first
    | (rw [if_pos h6]; rfl)
    | (rw [if_neg h6, if_pos h19]; rfl)
    | (rw [if_neg h6, if_neg h19, if_pos h32]; rfl)
    | (rw [if_neg h6, if_neg h19, if_neg h32, if_pos h45]; rfl)
    | (rw [if_neg h6, if_neg h19, if_neg h32, if_neg h45, if_pos h58]; rfl)
    | (rw [if_neg h6, if_neg h19, if_neg h32, if_neg h45, if_neg h58]; done)
theorem c_X13_drumAtHand (hR : mm_Rf M) (hT : mm_RT M n) (hp : p ≤ n) (hH : kt_H M n p) : mm_Fn X Y_X13_drumAtHand 243 [(2, 184)] M (0, kp_nm (M 185) n p 6) M := by
  refine mm_startF (ls := [(2, 184)]) rfl ?_
  rw [kp_nm6]
  simp only [kt_fi]
  refine mm_aload_n dX13_drumAtHand_0 rfl rfl ?_
  refine mm_lds (k0 := 34) dX13_drumAtHand_1 rfl (by decide) rfl rfl ?_
  refine mm_V1i dX13_drumAtHand_3 rfl lk_X13_103 (c := 183) rfl (by decide) rfl (by simp) rfl rfl rfl (kt_is hR hT hp hH (by decide)) ?_
  refine mm_ifeqb dX13_drumAtHand_6 (fun h6 => ?_) (fun h6 => ?_)
  · refine mm_aload_n dX13_drumAtHand_13 rfl rfl ?_
    refine mm_lds (k0 := 35) dX13_drumAtHand_14 rfl (by decide) rfl rfl ?_
    refine mm_V1i dX13_drumAtHand_16 rfl lk_X13_103 (c := 183) rfl (by decide) rfl (by simp) rfl rfl rfl (kt_is hR hT hp hH (by decide)) ?_
    refine mm_ifeqb dX13_drumAtHand_19 (fun h19 => ?_) (fun h19 => ?_)
    · refine mm_aload_n dX13_drumAtHand_26 rfl rfl ?_
      refine mm_lds (k0 := 36) dX13_drumAtHand_27 rfl (by decide) rfl rfl ?_
      refine mm_V1i dX13_drumAtHand_29 rfl lk_X13_103 (c := 183) rfl (by decide) rfl (by simp) rfl rfl rfl (kt_is hR hT hp hH (by decide)) ?_
      refine mm_ifeqb dX13_drumAtHand_32 (fun h32 => ?_) (fun h32 => ?_)
      · refine mm_iconst dX13_drumAtHand_39 rfl ?_
        refine mm_iret dX13_drumAtHand_40 rfl rfl ?_
        refine mm_fin ?_ rfl
        first
        | (rw [if_pos h6]; rfl)
        | (rw [if_neg h6, if_pos h19]; rfl)
        | (rw [if_neg h6, if_neg h19, if_pos h32]; rfl)
        | (rw [if_neg h6, if_neg h19, if_neg h32]; done)
      · refine mm_iconst dX13_drumAtHand_35 rfl ?_
        refine mm_goto dX13_drumAtHand_36 ?_
        refine mm_iret dX13_drumAtHand_40 rfl rfl ?_
        refine mm_fin ?_ rfl
        first
        | (rw [if_pos h6]; rfl)
        | (rw [if_neg h6, if_pos h19]; rfl)
        | (rw [if_neg h6, if_neg h19, if_pos h32]; rfl)
        | (rw [if_neg h6, if_neg h19, if_neg h32]; done)
    · refine mm_iconst dX13_drumAtHand_22 rfl ?_
      refine mm_goto dX13_drumAtHand_23 ?_
      refine mm_iret dX13_drumAtHand_40 rfl rfl ?_
      refine mm_fin ?_ rfl
      first
      | (rw [if_pos h6]; rfl)
      | (rw [if_neg h6, if_pos h19]; rfl)
      | (rw [if_neg h6, if_neg h19, if_pos h32]; rfl)
      | (rw [if_neg h6, if_neg h19, if_neg h32]; done)
  · refine mm_iconst dX13_drumAtHand_9 rfl ?_
    refine mm_goto dX13_drumAtHand_10 ?_
    refine mm_iret dX13_drumAtHand_40 rfl rfl ?_
    refine mm_fin ?_ rfl
    first
    | (rw [if_pos h6]; rfl)
    | (rw [if_neg h6, if_pos h19]; rfl)
    | (rw [if_neg h6, if_neg h19, if_pos h32]; rfl)
    | (rw [if_neg h6, if_neg h19, if_neg h32]; done)
end
end
/-! A6.rkite -/
section
/-! ===== the text of a kite, of the reference ===== -/
/-- while a kite's text is read: only the tokens and what is read of the kite have changed -/
def kq_bd (N : mm_M) : Prop := ∀ i, i < 3 → 0 ≤ N 189 i ∧ N 189 i ≤ 99
def kq_F (A S : Nat → Prop) (M N : mm_M) : Prop := (∀ a, a ≠ 183 → ¬ A a → N a = M a) ∧ (∀ b, ¬ (4 ≤ b ∧ b ≤ 9) → ¬ S b → N 183 b = M 183 b) ∧ (kq_bd M → kq_bd N)
theorem kq_bd.fr {M N : mm_M} (h : kq_bd M) (h1 : N 189 = M 189) : kq_bd N := by unfold kq_bd at h ⊢; rw [h1]; exact h
theorem kq_bd.up {N : mm_M} {t i : Nat} {v : Int} (h : kq_bd N) (hv : t = 189 → 0 ≤ v ∧ v ≤ 99) : kq_bd (mm_up N t i v) := by
  intro j hj
  by_cases q : t = 189
  · subst q
    by_cases w : j = i
    · rw [w, mm_up_s]; exact hv rfl
    · rw [mm_up_i w]; exact h j hj
  · rw [mm_up_row (fun z => q z.symm)]; exact h j hj
def kq_I (A S : Nat → Prop) (M N : mm_M) (n p : Nat) : Prop := mm_Rf N ∧ kq_F A S M N ∧ N 185 = M 185 ∧ mm_RT N n ∧ p ≤ n ∧ kt_H N n p
/-- a fault of kind k at s was found -/
def kq_X (A S : Nat → Prop) (M M' : mm_M) (k : Int) (s : Nat) : Prop := kq_F A S M M' ∧ M' 183 8 = k ∧ M' 183 9 = (s : Int)
/-- what a kite's text may change -/
def kq_A (a : Nat) : Prop := a = 187 ∨ a = 189 ∨ a = 191 ∨ a = 192
def kq_S (b : Nat) : Prop := b = 17 ∨ b = 18
section
variable {A S : Nat → Prop}
theorem kq_I.tp {M N : mm_M} {n p : Nat} (h : kq_I A S M N n p) : N 185 = M 185 := h.2.2.1
theorem kq_F.tr {M N P : mm_M} (h : kq_F A S M N) (h1 : ∀ a, a ≠ 183 → P a = N a) (h2 : ∀ b, ¬ (4 ≤ b ∧ b ≤ 9) → P 183 b = N 183 b) : kq_F A S M P :=
  ⟨fun a a1 a2 => (h1 a a1).trans (h.1 a a1 a2), fun b b1 b2 => (h2 b b1).trans (h.2.1 b b1 b2), fun q => (h.2.2 q).fr (h1 189 (by decide))⟩
theorem kq_I.bad {M N M' : mm_M} {n p : Nat} {x : Int} (h : kq_I A S M N n p) (hW : kt_W N M' x) : kq_X A S M M' x (kt_s (M 185) n p) := by
  refine ⟨h.2.1.tr hW.1 (fun b hb => hW.2.1 b (by omega) (by omega)), hW.2.2.1, ?_⟩
  rw [hW.2.2.2, h.2.2.2.2.2.2.1, h.tp]
/-- what is read has changed, the tokens haven't -/
theorem kq_I.fr {M N P : mm_M} {n p : Nat} (h : kq_I A S M N n p) (h0 : mm_Rf P) (h1 : ∀ a, a ≠ 183 → ¬ A a → P a = N a) (h2 : ∀ b, ¬ S b → P 183 b = N 183 b) (h3 : ∀ b, 3 ≤ b → b ≤ 7 → ¬ S b) (h4 : ¬ A 185) (h5 : kq_bd N → kq_bd P) : kq_I A S M P n p := by
  obtain ⟨i1, i2, i3, i4, i5, i6⟩ := h
  have e := h1 185 (by decide) h4
  refine ⟨h0, ⟨fun a a1 a2 => (h1 a a1 a2).trans (i2.1 a a1 a2), fun b b1 b2 => (h2 b b2).trans (i2.2.1 b b1 b2), fun q => h5 (i2.2.2 q)⟩, e.trans i3, ⟨?_, i4.2.1, ?_⟩, i5, ?_⟩
  · rw [h2 3 (h3 3 (by omega) (by omega))]; exact i4.1
  · rw [e]; exact i4.2.2
  · unfold kt_H at i6 ⊢
    rw [e, h2 4 (h3 4 (by omega) (by omega)), h2 5 (h3 5 (by omega) (by omega)), h2 6 (h3 6 (by omega) (by omega)), h2 7 (h3 7 (by omega) (by omega))]
    exact i6
theorem kq_I.up {M N : mm_M} {n p t i : Nat} {v : Int} (h : kq_I A S M N n p) (ht : A t) (ht3 : t ≠ 183) (h4 : ¬ A 185) (h3 : ∀ b, 3 ≤ b → b ≤ 7 → ¬ S b) (hs : mm_rt t i = 0) (hv : t = 189 → 0 ≤ v ∧ v ≤ 99) : kq_I A S M (mm_up N t i v) n p :=
  h.fr (h.1.up hs) (fun a a1 a2 => mm_up_row (fun z => a2 (z ▸ ht))) (fun b b1 => by rw [mm_up_row (Ne.symm ht3)]) h3 h4 (fun q => q.up hv)
theorem kq_I.uf {M N : mm_M} {n p i : Nat} {v : Int} (h : kq_I A S M N n p) (ht : S i) (h4 : ¬ A 185) (h3 : ∀ b, 3 ≤ b → b ≤ 7 → ¬ S b) (hs : mm_rt 183 i = 0) : kq_I A S M (mm_up N 183 i v) n p :=
  h.fr (h.1.up hs) (fun a a1 a2 => mm_up_row a1) (fun b b1 => mm_up_i (fun z => b1 (z ▸ ht))) h3 h4 (fun q => q.up (fun z => absurd z (by decide)))
end
/-- a list as it lies in cell t, of which j are read -/
def kq_L (T D0 D : Nat → Int) (pl room j : Nat) : Prop := (∀ i, i < j → T i = D (pl + i)) ∧ (0 < j → ∀ i, j ≤ i → i < room → T (j - 1) = D (pl + i)) ∧ (∀ i, ¬ (pl ≤ i ∧ i < pl + room) → ¬ (pl = 20 ∧ i = 10) → D i = D0 i) ∧ (pl = 20 → 0 < j → D 10 = (j : Int))
theorem kq_L.put {T D0 D : Nat → Int} {pl room j : Nat} {v : Int} (h : kq_L T D0 D pl room j) (hj : j < room) (hp : 20 ≤ pl) (T' : Nat → Int) (h1 : T' j = v) (h2 : ∀ i, i ≠ j → T' i = T i) : kq_L T' D0 (kp_put D pl room j v) pl room (j + 1) := by
  refine ⟨?_, ?_, ?_, ?_⟩
  · intro i hi
    unfold kp_put
    rw [if_neg (by omega)]
    by_cases q : i = j
    · rw [if_pos (by omega), q, h1]
    · rw [if_neg (by omega), h2 i q]; exact h.1 i (by omega)
  · intro _ i hi1 hi2
    unfold kp_put
    rw [if_neg (by omega), if_pos (by omega), Nat.add_sub_cancel, h1]
  · intro i h3 h4
    unfold kp_put
    rw [if_neg h4, if_neg (by omega)]
    exact h.2.2.1 i h3 h4
  · intro hpl _
    unfold kp_put
    rw [if_pos ⟨hpl, rfl⟩]
    omega
section
variable {X : mm_X} {A S : Nat → Prop} {M N : mm_M} {n p t pl room : Nat} {most lo hi : Int}
theorem kq_sc (hI : kq_I A S M N n p) : mm_C X Y_X13_scan 243 243 [(2, 184)] N (fun r M' => r = (3, 0) ∧ mm_Rf M' ∧ kq_I A S M M' n (kt_e (M 185) n p) ∧ (∀ a, a ≠ 183 → M' a = N a) ∧ (∀ b, ¬ (4 ≤ b ∧ b ≤ 7) → M' 183 b = N 183 b)) := by
  have e := hI.tp
  obtain ⟨h1, h2, hq, h3, h4, h5⟩ := hI
  have heb := kt_eb (B := M 185) h4
  have hb := h5.2.2.1
  rw [e] at hb
  refine mm_Cmono (c_X13_scan h1 h3 heb.2 hb) ?_
  rintro r M' ⟨r1, r2, r3, r4⟩
  exact ⟨r1, r2, ⟨r2, h2.tr r4.1 (fun b hb => r4.2.1 b (by omega)), (r4.1 185 (by decide)).trans hq, h3.sc r4, heb.2, r4.h⟩, r4.1, r4.2.1⟩
theorem kq_hd (hI : kq_I A S M N n p) : N 183 6 = kt_k (M 185) n p ∧ (kt_k (M 185) n p = 2 → N 183 7 = kt_v (M 185) n p) ∧ mm_R (N 183 6) ∧ (N 183 6 = 2 → mm_R (N 183 7)) := by
  have e := hI.tp
  obtain ⟨h1, h2, hq, h3, h4, h5⟩ := hI
  refine ⟨?_, ?_, h5.b.1, h5.b.2⟩
  · rw [h5.1, e]
  · intro z; rw [h5.2.2.2 (by rw [e]; exact z), e]
theorem kq_num (hI : kq_I A S M N n p) (hlo : mm_R lo) (hhi : mm_R hi) : mm_C X Y_X13_number 243 243 [(2, 184), (0, lo), (0, hi)] N (fun r M' =>
    (r = (4, 185) ∧ mm_Rf M' ∧ ¬ (kt_k (M 185) n p = 2 ∧ lo ≤ kt_v (M 185) n p ∧ kt_v (M 185) n p ≤ hi) ∧ kq_X A S M M' (if kt_k (M 185) n p = 2 then 2 else 1) (kt_s (M 185) n p) ∧ (∀ a, a ≠ 183 → M' a = N a)) ∨
    (∃ x, r = (0, x) ∧ mm_Rf M' ∧ (kt_k (M 185) n p = 2 ∧ lo ≤ kt_v (M 185) n p ∧ kt_v (M 185) n p ≤ hi) ∧ x = kt_v (M 185) n p ∧ kq_I A S M M' n (kt_e (M 185) n p) ∧ (∀ a, a ≠ 183 → M' a = N a) ∧ (∀ b, ¬ (4 ≤ b ∧ b ≤ 7) → M' 183 b = N 183 b))) := by
  obtain ⟨k1, k2, k3, k4⟩ := kq_hd hI
  have hI2 := hI
  obtain ⟨h1, h2, hq, h3, h4, h5⟩ := hI
  have heb := kt_eb (B := M 185) h4
  refine mm_Cmono (c_X13_number h1 h3 h4 h5 hlo hhi) ?_
  rw [k1, hq]
  rintro r M' (⟨r1, r2, r3, r4⟩ | ⟨x, r1, r2, r3, r4, r5, r6⟩)
  · refine Or.inl ⟨r1, r2, ?_, hI2.bad r4, r4.1⟩
    rintro ⟨q1, q2, q3⟩
    exact r3 ⟨q1, by rw [k2 q1]; exact q2, by rw [k2 q1]; exact q3⟩
  · rw [k2 r3.1] at r3 r4
    exact Or.inr ⟨x, r1, r2, r3, r4, ⟨r2, h2.tr r6.1 (fun b hb => r6.2.1 b (by omega)), (r6.1 185 (by decide)).trans hq, h3.sc r6, heb.2, r6.h⟩, r6.1, r6.2.1⟩
theorem kq_close (hI : kq_I A S M N n p) : mm_C X Y_X13_close 243 243 [(2, 184)] N (fun r M' =>
    (r = (4, 185) ∧ mm_Rf M' ∧ ¬ kt_k (M 185) n p = 3 ∧ kq_X A S M M' 1 (kt_s (M 185) n p) ∧ (∀ a, a ≠ 183 → M' a = N a)) ∨
    (r = (3, 0) ∧ mm_Rf M' ∧ kt_k (M 185) n p = 3 ∧ kq_I A S M M' n (kt_e (M 185) n p) ∧ (∀ a, a ≠ 183 → M' a = N a) ∧ (∀ b, ¬ (4 ≤ b ∧ b ≤ 7) → M' 183 b = N 183 b))) := by
  obtain ⟨k1, k2, k3, k4⟩ := kq_hd hI
  have hI2 := hI
  obtain ⟨h1, h2, hq, h3, h4, h5⟩ := hI
  have heb := kt_eb (B := M 185) h4
  refine mm_Cmono (c_X13_close h1 h3 h4 h5) ?_
  rw [k1, hq]
  rintro r M' (⟨r1, r2, r3, r4⟩ | ⟨r1, r2, r3, r5, r6⟩)
  · exact Or.inl ⟨r1, r2, r3, hI2.bad r4, r4.1⟩
  · exact Or.inr ⟨r1, r2, r3, ⟨r2, h2.tr r6.1 (fun b hb => r6.2.1 b (by omega)), (r6.1 185 (by decide)).trans hq, h3.sc r6, heb.2, r6.h⟩, r6.1, r6.2.1⟩
theorem kq_is {k0 : Nat} (hI : kq_I A S M N n p) (hk : k0 < 37) : mm_Fn X Y_X13_is 243 [(2, 184), (2, -((k0 + 100 : Nat) : Int))] N (0, mm_b (kt_iw (M 185) n p k0)) N := by
  have := kt_is (X := X) (k0 := k0) hI.1 hI.2.2.2.1 hI.2.2.2.2.1 hI.2.2.2.2.2 hk
  rw [hI.tp] at this
  exact this
theorem kq_need {P : Prop} [Decidable P] {x : Int} (hI : kq_I A S M N n p) : mm_C X Y_X13_need 243 243 [(2, 184), (0, mm_b P), (0, x)] N (fun r M' => (r = (4, 185) ∧ mm_Rf M' ∧ ¬ P ∧ kq_X A S M M' x (kt_s (M 185) n p) ∧ (∀ a, a ≠ 183 → M' a = N a)) ∨ (r = (3, 0) ∧ mm_Rf M' ∧ P ∧ M' = N)) := by
  refine mm_Cmono (c_X13_need hI.1) ?_
  rintro r M' (⟨r1, r2, r3, r4⟩ | r)
  · exact Or.inl ⟨r1, r2, r3, hI.bad r4, r4.1⟩
  · exact Or.inr r
theorem c_X13_readRow (ht : (t = 189 ∧ pl = 20 ∧ room = 3 ∧ most = 99) ∨ (t = 191 ∧ pl = 30 ∧ room = 6 ∧ most = 100)) (hI : kq_I kq_A kq_S M N n p) (D0 : Nat → Int) :
    mm_C X Y_X13_readRow 243 243 [(2, 184), (2, (t : Int) + 1), (0, (room : Int)), (0, most)] N (fun r M' =>
      (r = (4, 185) ∧ mm_Rf M' ∧ ∃ k s, kp_list (M 185) n pl room most (room + 1) 0 p D0 = .error (k, s) ∧ kq_X kq_A kq_S M M' k s) ∨
      (∃ x, r = (0, x) ∧ mm_Rf M' ∧ ∃ j : Nat, x = (j : Int) ∧ 1 ≤ j ∧ j ≤ room ∧ ∃ p' D', kq_I kq_A kq_S M M' n p' ∧ kq_L (M' t) D0 D' pl room j ∧ (∀ a, a ≠ 183 → a ≠ t → M' a = N a) ∧ (∀ b, ¬ (4 ≤ b ∧ b ≤ 7) → M' 183 b = N 183 b) ∧
        kp_list (M 185) n pl room most (room + 1) 0 p D0 = (if kt_k (M 185) n p' = 3 then .ok (kt_e (M 185) n p', D') else .error (1, kt_s (M 185) n p')))) := by
  have htc : t < 243 := by omega
  have hts : mm_sh t = (1, room) := by
    rcases ht with ⟨rfl, -, rfl, -⟩ | ⟨rfl, -, rfl, -⟩ <;> rfl
  have hroom : 3 ≤ room ∧ room ≤ 6 := by omega
  have hmost : 0 ≤ most ∧ most ≤ 100 := by omega
  have ht4 : kq_A t := by unfold kq_A; omega
  have hpl : 20 ≤ pl := by omega
  have ht9 : t ≠ 183 := by omega
  have h99 : t = 189 → most = 99 := by omega
  obtain ⟨E, hE⟩ : ∃ E, E = kp_list (M 185) n pl room most (room + 1) 0 p D0 := ⟨_, rfl⟩
  rw [← hE]
  obtain ⟨Φ, hΦ⟩ : ∃ Φ : mm_V → mm_M → Prop, Φ = (fun r M' =>
      (r = (4, 185) ∧ mm_Rf M' ∧ ∃ k s, E = .error (k, s) ∧ kq_X kq_A kq_S M M' k s) ∨
      (∃ x, r = (0, x) ∧ mm_Rf M' ∧ ∃ j : Nat, x = (j : Int) ∧ 1 ≤ j ∧ j ≤ room ∧ ∃ p' D', kq_I kq_A kq_S M M' n p' ∧ kq_L (M' t) D0 D' pl room j ∧ (∀ a, a ≠ 183 → a ≠ t → M' a = N a) ∧ (∀ b, ¬ (4 ≤ b ∧ b ≤ 7) → M' 183 b = N 183 b) ∧
        E = (if kt_k (M 185) n p' = 3 then .ok (kt_e (M 185) n p', D') else .error (1, kt_s (M 185) n p')))) := ⟨_, rfl⟩
  rw [← hΦ]
  clear ht
  refine mm_start (ls := [(2, 184), (2, (t : Int) + 1), (0, (room : Int)), (0, most), (9, 0), (9, 0)]) rfl ?_
  have loop : ∀ j : Nat, j ≤ room → ∀ (Q : mm_M) (p : Nat) (D : Nat → Int) (l5 : mm_V), kq_I kq_A kq_S M Q n p → (0 < j → kt_k (M 185) n p = 2) → kq_L (Q t) D0 D pl room j → (∀ a, a ≠ 183 → a ≠ t → Q a = N a) → (∀ b, ¬ (4 ≤ b ∧ b ≤ 7) → Q 183 b = N 183 b) → kp_list (M 185) n pl room most (room + 1 - j) j p D = E →
      mm_J X Y_X13_readRow 243 243 243 3 [(2, 184), (2, (t : Int) + 1), (0, (room : Int)), (0, most), (0, (j : Int)), l5] [] Q Φ := by
    refine mm_lp ?_
    intro j hj ih Q p D l5 hQ h2 hL hfa hfb hE2
    have hRQ := hQ.1
    obtain ⟨k1, k2, k3, k4⟩ := kq_hd hQ
    have hvb := kt_vb (B := M 185) (n := n) (p := p)
    rw [show room + 1 - j = (room - j) + 1 by omega, kp_list, if_neg (by rintro ⟨q1, q2⟩; have := h2 q1; omega)] at hE2
    refine mm_aload_n dX13_readRow_3 rfl rfl ?_
    refine mm_iconst dX13_readRow_4 rfl ?_
    refine mm_iload_n dX13_readRow_5 rfl rfl ?_
    refine mm_V2g (M1 := Q) dX13_readRow_6 rfl lk_X13_67 (c := 183) rfl (by decide) rfl (by simp) (by simp) rfl rfl rfl (c_X13_look hRQ k3 k4 (by omega) (by omega)) ?_
    rintro _ N6 (⟨rfl, p6⟩ | ⟨x6, rfl, p6⟩)
    · refine ⟨rfl, rfl, ?_⟩
      rw [hΦ]
      refine Or.inl ⟨rfl, p6.1, ?_⟩
      have hW := p6.2.2
      have hno := p6.2.1
      rw [k1] at hW hno
      by_cases q : kt_k (M 185) n p = 2
      · rw [if_pos q] at hW
        rw [if_neg (fun z => z q), if_pos (by have := k2 q; omega)] at hE2
        exact ⟨_, _, hE2.symm, hQ.bad hW⟩
      · rw [if_neg q] at hW
        rw [if_pos q] at hE2
        exact ⟨_, _, hE2.symm, hQ.bad hW⟩
    change mm_J _ _ _ _ _ _ _ _ _ _
    have hR6 : mm_Rf N6 := p6.1
    obtain ⟨-, hh, hx, eN⟩ := p6
    rw [eN]
    rw [k1] at hh
    have hv := k2 hh.1
    rw [hv] at hx hh
    rw [if_neg (fun z => z hh.1), if_neg (by omega)] at hE2
    refine mm_istore dX13_readRow_9 rfl (Nat.le_of_ble_eq_true rfl) rfl ?_
    refine mm_aload_n dX13_readRow_11 rfl rfl ?_
    refine mm_iload dX13_readRow_12 rfl rfl ?_
    refine mm_iload_n dX13_readRow_14 rfl rfl ?_
    refine mm_icge_z (q2 := 23) dX13_readRow_15 (by omega) (by omega) (fun k => mm_iconst dX13_readRow_22 rfl k) (fun k => mm_iconst dX13_readRow_18 rfl (mm_goto dX13_readRow_19 k)) ?_
    refine mm_iconst dX13_readRow_23 rfl ?_
    refine mm_V2g (M1 := Q) dX13_readRow_24 rfl lk_X13_63 (c := 183) rfl (by decide) rfl (by simp) (by simp) rfl rfl rfl (c_X13_need (P := (j : Int) < (room : Int)) (x := 4) hRQ) ?_
    rintro _ N24 (⟨rfl, p24⟩ | ⟨rfl, p24⟩)
    · refine ⟨rfl, rfl, ?_⟩
      rw [hΦ]
      rw [if_pos (by have := p24.2.1; omega)] at hE2
      exact Or.inl ⟨rfl, p24.1, _, _, hE2.symm, hQ.bad p24.2.2⟩
    change mm_J _ _ _ _ _ _ _ _ _ _
    have hR24 : mm_Rf N24 := p24.1
    obtain ⟨-, hlt, eN2⟩ := p24
    rw [eN2]
    rw [if_neg (by omega)] at hE2
    refine mm_aload_n dX13_readRow_27 rfl rfl ?_
    refine mm_V0g (M1 := Q) dX13_readRow_28 rfl lk_X13_71 (c := 183) rfl (by decide) rfl  rfl rfl rfl (kq_sc hQ) ?_
    rintro _ N28 ⟨rfl, p28⟩
    change mm_J _ _ _ _ _ _ _ _ _ _
    have hR28 : mm_Rf N28 := p28.1
    obtain ⟨-, hI8, u1, u2⟩ := p28
    refine mm_aload_n dX13_readRow_31 rfl rfl ?_
    refine mm_iload dX13_readRow_32 rfl rfl ?_
    refine mm_iload dX13_readRow_34 rfl rfl ?_
    refine mm_istk (k0 := j) dX13_readRow_36 rfl (c := t) rfl htc hts (by omega) (by omega) (fun M36 hM36 => ?_)
    have hR36 : mm_Rf M36 := by rw [hM36]; exact hR28.up (mm_rt_arr hts _)
    have hI9 : kq_I kq_A kq_S M M36 n (kt_e (M 185) n p) := by rw [hM36]; exact hI8.up ht4 (by omega) (by unfold kq_A; omega) (by intro b b1 b2; unfold kq_S; omega) (mm_rt_arr hts _) (fun z => by have := h99 z; omega)
    have m1 := (kq_hd hI8).1
    have hkb2 := kt_kb (B := M 185) (n := n) (p := kt_e (M 185) n p)
    have hput : kq_L (M36 t) D0 (kp_put D pl room j (kt_v (M 185) n p)) pl room (j + 1) := by
      refine hL.put (by omega) hpl _ ?_ ?_
      · rw [hM36, mm_up_s, hx]
      · intro i hi; rw [hM36, mm_up_i hi, u1 t (by omega)]
    have fa : ∀ a, a ≠ 183 → a ≠ t → M36 a = N a := by intro a a1 a2; rw [hM36, mm_up_row a2, u1 a a1]; exact hfa a a1 a2
    have fb : ∀ b, ¬ (4 ≤ b ∧ b ≤ 7) → M36 183 b = N 183 b := by intro b hb; rw [hM36, mm_up_row (by omega), u2 b hb]; exact hfb b hb
    refine mm_iinc dX13_readRow_37 rfl rfl (Nat.le_of_ble_eq_true rfl) rfl ?_
    refine mm_aload_n dX13_readRow_40 rfl rfl ?_
    refine mm_get (kd := 0) dX13_readRow_41 rfl fl_X13_37 (c := 183) rfl (by decide) rfl rfl ?_
    obtain ⟨v41, hv41⟩ : ∃ v, v = M36 183 6 := ⟨_, rfl⟩
    rw [← hv41]
    rw [hM36, mm_up_c (by omega), m1] at hv41
    subst hv41
    refine mm_iconst dX13_readRow_44 rfl ?_
    refine mm_iceq dX13_readRow_45 (by omega) (by omega) (fun h45 => ?_) (fun h45 => ?_)
    · exact ih (by omega) _ _ _ _ hI9 (fun _ => h45) hput fa fb (by rw [show room + 1 - (j + 1) = room - j by omega]; exact hE2)
    · refine mm_iload dX13_readRow_48 rfl rfl ?_
      refine mm_iret dX13_readRow_50 rfl rfl ?_
      rw [hΦ]
      rw [show room - j = (room - j - 1) + 1 by omega, kp_list] at hE2
      refine Or.inr ⟨_, rfl, hR36, j + 1, by omega, by omega, by omega, _, _, hI9, hput, fa, fb, ?_⟩
      rw [← hE2]
      by_cases q : kt_k (M 185) n (kt_e (M 185) n p) = 3
      · rw [if_pos ⟨by omega, q⟩, if_pos q]
      · rw [if_neg (fun z => q z.2), if_neg q, if_pos h45]
  have hRN := hI.1
  refine mm_iconst dX13_readRow_0 rfl ?_
  refine mm_istore dX13_readRow_1 rfl (Nat.le_of_ble_eq_true rfl) rfl ?_
  exact loop 0 (Nat.zero_le _) N p D0 _ hI (fun z => absurd z (Nat.lt_irrefl 0)) ⟨fun i hi => absurd hi (Nat.not_lt_zero i), fun z => absurd z (Nat.lt_irrefl 0), fun _ _ _ => rfl, fun _ z => absurd z (Nat.lt_irrefl 0)⟩ (fun _ _ _ => rfl) (fun _ _ => rfl) hE.symm
end
end
/-! A7.rkite2 -/
section
/-! ===== the text of a kite, of the reference: clauses to the end ===== -/
/-- what is read of a kite -/
def kq_rd (N : mm_M) (D : Nat → Int) : Prop := (∀ i, i < 10 → N 187 i = D i) ∧ N 183 17 = D 10 ∧ (1 ≤ D 10 ∧ D 10 ≤ 3) ∧ (∀ i : Nat, (i : Int) < D 10 → N 189 i = D (20 + i)) ∧ (1 ≤ N 183 18 ∧ N 183 18 ≤ 6) ∧ (∀ i : Nat, i < 6 → N 191 (min (i : Int) (N 183 18 - 1)).toNat = D (30 + i))
theorem kq_rd.fr {M N : mm_M} {D : Nat → Int} (h : kq_rd M D) (h1 : N 187 = M 187) (h2 : N 189 = M 189) (h3 : N 191 = M 191) (h4 : N 183 17 = M 183 17) (h5 : N 183 18 = M 183 18) : kq_rd N D := by
  unfold kq_rd at h ⊢
  rw [h1, h2, h3, h4, h5]
  exact h
section
variable {X : mm_X} {M N : mm_M} {n p : Nat}
theorem c_X13_plain (hR : mm_Rf M) : mm_C X Y_X13_plain 243 243 [(2, 184)] M (fun r M' => r = (3, 0) ∧ mm_Rf M' ∧ (∀ a, a ≠ 183 → ¬ kq_A a → M' a = M a) ∧ (∀ b, ¬ kq_S b → M' 183 b = M 183 b) ∧ (kq_bd M → kq_bd M') ∧ (∀ Z, kq_rd M' (kp_D0 Z)) ∧ (∀ k, k < 12 → M' 192 k = 0)) := by
  refine mm_start (ls := [(2, 184), (9, 0)]) rfl ?_
  have told : ∀ i : Nat, i ≤ 12 → ∀ N : mm_M, mm_Rf N → (∀ a, a ≠ 183 → ¬ kq_A a → N a = M a) → (∀ b, ¬ kq_S b → N 183 b = M 183 b) → (kq_bd M → kq_bd N) → (∀ Z, kq_rd N (kp_D0 Z)) → (∀ k, k < i → N 192 k = 0) →
      mm_J X Y_X13_plain 243 243 243 60 [(2, 184), (0, (i : Int))] [] N (fun r M' => r = (3, 0) ∧ mm_Rf M' ∧ (∀ a, a ≠ 183 → ¬ kq_A a → M' a = M a) ∧ (∀ b, ¬ kq_S b → M' 183 b = M 183 b) ∧ (kq_bd M → kq_bd M') ∧ (∀ Z, kq_rd M' (kp_D0 Z)) ∧ (∀ k, k < 12 → M' 192 k = 0)) := by
    refine mm_lp ?_
    intro i hi ih N hRN f1 f2 f3 hD h0
    by_cases hlt : i < 12
    · refine mm_iload_n dX13_plain_60 rfl rfl ?_
      refine mm_bipush dX13_plain_61 rfl (by decide) ?_
      refine mm_icge dX13_plain_63 (by omega) (by omega) (fun h63 => ?_) (fun h63 => ?_)
      · exfalso; omega
      · refine mm_aload_n dX13_plain_66 rfl rfl ?_
        refine mm_getr dX13_plain_67 rfl fl_X13_97 (c := 183) rfl (by decide) rfl rfl (hRN.at (c := 183) (i := 19) (v := 193) rfl (by decide)) ?_
        refine mm_iload_n dX13_plain_70 rfl rfl ?_
        refine mm_iconst dX13_plain_71 rfl ?_
        refine mm_zstk (k0 := i) dX13_plain_72 rfl (c := 192) rfl (by decide) rfl (by omega) (by omega) (Or.inl rfl) (fun M72 hM72 => ?_)
        have hR72 : mm_Rf M72 := by rw [hM72]; exact hRN.up (mm_rt_ar (t := 2) rfl (by decide))
        refine mm_iinc dX13_plain_73 rfl rfl (Nat.le_of_ble_eq_true rfl) rfl ?_
        refine mm_goto dX13_plain_76 ?_
        refine ih hlt _ hR72 ?_ ?_ (fun q => by rw [hM72]; exact (f3 q).up (fun z => absurd z (by decide))) ?_ ?_
        · intro a a1 a2; rw [hM72, mm_up_row (fun z => a2 (Or.inr (Or.inr (Or.inr z))))]; exact f1 a a1 a2
        · intro b hb; rw [hM72, mm_up_row (by decide)]; exact f2 b hb
        · intro Z
          rw [hM72]
          exact (hD Z).fr (mm_up_row (by decide)) (mm_up_row (by decide)) (mm_up_row (by decide)) (by rw [mm_up_row (by decide)]) (by rw [mm_up_row (by decide)])
        · intro k hk
          by_cases q : k = i
          · rw [hM72, q, mm_up_s]
          · rw [hM72, mm_up_i q]; exact h0 k (by omega)
    · refine mm_iload_n dX13_plain_60 rfl rfl ?_
      refine mm_bipush dX13_plain_61 rfl (by decide) ?_
      refine mm_icge dX13_plain_63 (by omega) (by omega) (fun h63 => ?_) (fun h63 => ?_)
      · refine mm_vret dX13_plain_79 rfl rfl ?_
        exact ⟨rfl, hRN, f1, f2, f3, hD, fun k hk => h0 k (by omega)⟩
      · exfalso; omega
  have rule : ∀ i : Nat, i ≤ 10 → ∀ N : mm_M, mm_Rf N → (∀ a, a ≠ 187 → N a = M a) → (∀ k, k < i → N 187 k = kp_U.getD k 0) →
      mm_J X Y_X13_plain 243 243 243 2 [(2, 184), (0, (i : Int))] [] N (fun r M' => r = (3, 0) ∧ mm_Rf M' ∧ (∀ a, a ≠ 183 → ¬ kq_A a → M' a = M a) ∧ (∀ b, ¬ kq_S b → M' 183 b = M 183 b) ∧ (kq_bd M → kq_bd M') ∧ (∀ Z, kq_rd M' (kp_D0 Z)) ∧ (∀ k, k < 12 → M' 192 k = 0)) := by
    refine mm_lp ?_
    intro i hi ih N hRN f1 h0
    by_cases hlt : i < 10
    · have eU : (mm_rc X 5).2 i = kp_U.getD i 0 := rfl
      refine mm_iload_n dX13_plain_2 rfl rfl ?_
      refine mm_bipush dX13_plain_3 rfl (by decide) ?_
      refine mm_icge dX13_plain_5 (by omega) (by omega) (fun h5 => ?_) (fun h5 => ?_)
      · exfalso; omega
      · refine mm_aload_n dX13_plain_8 rfl rfl ?_
        refine mm_getr dX13_plain_9 rfl fl_X13_78 (c := 183) rfl (by decide) rfl rfl (hRN.at (c := 183) (i := 11) (v := 188) rfl (by decide)) ?_
        refine mm_iload_n dX13_plain_12 rfl rfl ?_
        refine mm_gets (k0 := 3) dX13_plain_13 rfl (by decide) sf_X13_82 ?_
        refine mm_iload_n dX13_plain_16 rfl rfl ?_
        refine mm_iark (k1 := 5) (k0 := i) dX13_plain_17 rfl rfl (by decide) (by omega) (by (show i < 10); omega) (Nat.le_of_ble_eq_true rfl) ?_
        rw [eU]
        refine mm_istk (k0 := i) dX13_plain_18 rfl (c := 187) rfl (by decide) rfl (by omega) (by omega) (fun M18 hM18 => ?_)
        have hR18 : mm_Rf M18 := by rw [hM18]; exact hRN.up (mm_rt_ar (t := 0) rfl (by decide))
        refine mm_iinc dX13_plain_19 rfl rfl (Nat.le_of_ble_eq_true rfl) rfl ?_
        refine mm_goto dX13_plain_22 ?_
        refine ih hlt _ hR18 ?_ ?_
        · intro a a1; rw [hM18, mm_up_row a1]; exact f1 a a1
        · intro k hk
          by_cases q : k = i
          · rw [hM18, q, mm_up_s]
          · rw [hM18, mm_up_i q]; exact h0 k (by omega)
    · refine mm_iload_n dX13_plain_2 rfl rfl ?_
      refine mm_bipush dX13_plain_3 rfl (by decide) ?_
      refine mm_icge dX13_plain_5 (by omega) (by omega) (fun h5 => ?_) (fun h5 => ?_)
      · refine mm_aload_n dX13_plain_25 rfl rfl ?_
        refine mm_getr dX13_plain_26 rfl fl_X13_85 (c := 183) rfl (by decide) rfl rfl (hRN.at (c := 183) (i := 13) (v := 190) rfl (by decide)) ?_
        refine mm_iconst dX13_plain_29 rfl ?_
        refine mm_bipush dX13_plain_30 rfl (by decide) ?_
        refine mm_istk (k0 := 0) dX13_plain_32 rfl (c := 189) rfl (by decide) rfl rfl (by decide) (fun M32 hM32 => ?_)
        have hR32 : mm_Rf M32 := by rw [hM32]; exact hRN.up (mm_rt_ar (t := 0) rfl (by decide))
        refine mm_aload_n dX13_plain_33 rfl rfl ?_
        refine mm_getr dX13_plain_34 rfl fl_X13_85 (c := 183) rfl (by decide) rfl rfl (hR32.at (c := 183) (i := 13) (v := 190) rfl (by decide)) ?_
        refine mm_iconst dX13_plain_37 rfl ?_
        refine mm_iconst dX13_plain_38 rfl ?_
        refine mm_istk (k0 := 1) dX13_plain_39 rfl (c := 189) rfl (by decide) rfl rfl (by decide) (fun M39 hM39 => ?_)
        have hR39 : mm_Rf M39 := by rw [hM39]; exact hR32.up (mm_rt_ar (t := 0) rfl (by decide))
        refine mm_aload_n dX13_plain_40 rfl rfl ?_
        refine mm_iconst dX13_plain_41 rfl ?_
        refine mm_puti dX13_plain_42 rfl fl_X13_88 (c := 183) rfl (by decide) rfl rfl (fun M42 hM42 => ?_)
        have hR42 : mm_Rf M42 := by rw [hM42]; exact hR39.up rfl
        refine mm_aload_n dX13_plain_45 rfl rfl ?_
        refine mm_getr dX13_plain_46 rfl fl_X13_91 (c := 183) rfl (by decide) rfl rfl (hR42.at (c := 183) (i := 15) (v := 192) rfl (by decide)) ?_
        refine mm_iconst dX13_plain_49 rfl ?_
        refine mm_bipush dX13_plain_50 rfl (by decide) ?_
        refine mm_istk (k0 := 0) dX13_plain_52 rfl (c := 191) rfl (by decide) rfl rfl (by decide) (fun M52 hM52 => ?_)
        have hR52 : mm_Rf M52 := by rw [hM52]; exact hR42.up (mm_rt_ar (t := 0) rfl (by decide))
        refine mm_aload_n dX13_plain_53 rfl rfl ?_
        refine mm_iconst dX13_plain_54 rfl ?_
        refine mm_puti dX13_plain_55 rfl fl_X13_94 (c := 183) rfl (by decide) rfl rfl (fun M55 hM55 => ?_)
        have hR55 : mm_Rf M55 := by rw [hM55]; exact hR52.up rfl
        refine mm_iconst dX13_plain_58 rfl ?_
        refine mm_istore_n dX13_plain_59 rfl (Nat.le_of_ble_eq_true rfl) rfl ?_
        refine told 0 (Nat.zero_le _) _ hR55 ?_ ?_ (fun q => by rw [hM55, hM52, hM42, hM39, hM32]; exact (((((q.fr (f1 189 (by decide))).up (fun _ => by decide)).up (fun _ => by decide)).up (fun z => absurd z (by decide))).up (fun z => absurd z (by decide))).up (fun z => absurd z (by decide))) ?_ (fun k hk => absurd hk (Nat.not_lt_zero k))
        · intro a a1 a2
          unfold kq_A at a2
          have n1 : a ≠ 187 := by omega
          have n2 : a ≠ 189 := by omega
          have n3 : a ≠ 191 := by omega
          funext b; simp [hM55, hM52, hM42, hM39, hM32, mm_up, a1, n2, n3]; rw [f1 a n1]
        · intro b hb
          unfold kq_S at hb
          have n1 : b ≠ 17 := by omega
          have n2 : b ≠ 18 := by omega
          simp [hM55, hM52, hM42, hM39, hM32, mm_up, n1, n2]; rw [f1 183 (by decide)]
        · intro Z
          refine ⟨?_, ?_, ?_, ?_, ?_, ?_⟩
          · intro k hk; simp [hM55, hM52, hM42, hM39, hM32, mm_up, kp_D0, hk]; exact h0 k (by omega)
          · simp [hM55, hM52, hM42, hM39, hM32, mm_up, kp_D0]
          · simp [kp_D0]
          · intro k hk
            have : k < 2 := by simp [kp_D0] at hk; omega
            match k, this with
            | 0, _ => simp [hM55, hM52, hM42, hM39, hM32, mm_up, kp_D0]
            | 1, _ => simp [hM55, hM52, hM42, hM39, hM32, mm_up, kp_D0]
          · simp [hM55, hM52, hM42, hM39, hM32, mm_up]
          · intro k hk
            have e : M55 183 18 = 1 := by simp [hM55, hM52, hM42, hM39, hM32, mm_up]
            rw [e, show (min (k : Int) (1 - 1)).toNat = 0 by omega]
            unfold kp_D0
            rw [if_neg (by omega), if_neg (by omega), if_neg (by omega), if_neg (by omega), if_pos (by omega)]
            simp [hM55, hM52, hM42, hM39, hM32, mm_up]
      · exfalso; omega
  refine mm_iconst dX13_plain_0 rfl ?_
  refine mm_istore_n dX13_plain_1 rfl (Nat.le_of_ble_eq_true rfl) rfl ?_
  exact rule 0 (Nat.zero_le _) M hR (fun _ _ => rfl) (fun k hk => absurd hk (Nat.not_lt_zero k))
end
end
