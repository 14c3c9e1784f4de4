/-! ===== the text of rules: what it tells ===== -/
def kl_set (D : Nat → Int) (a : Nat) (v : Int) (i : Nat) : Int := if i = a then v else D i
/-- a cond, kept from place a on -/
def kl_cond (B : Nat → Int) (n a p : Nat) (D : Nat → Int) : kp_E :=
  if kp_nm B n p 2 < 0 then .error (1, kt_s B n p) else if kp_nm B n (kt_e B n p) 3 < 0 then .error (1, kt_s B n (kt_e B n p))
  else if ¬ kt_k B n (kt_e B n (kt_e B n p)) = 2 then .error (1, kt_s B n (kt_e B n (kt_e B n p)))
  else .ok (kt_e B n (kt_e B n (kt_e B n p)), kl_set (kl_set (kl_set D a (kp_nm B n p 2)) (a + 1) (kp_nm B n (kt_e B n p) 3)) (a + 2) (kt_v B n (kt_e B n (kt_e B n p))))
/-- conds, from the j-th on, to `do` -/
def kl_conds (B : Nat → Int) (n b : Nat) : Nat → Nat → Nat → (Nat → Int) → kp_E
  | 0, _, _, _ => .error (0, 0)
  | k + 1, j, p, D => match kl_cond B n (b + 1 + 3 * j) p D with
    | .error f => .error f
    | .ok (p1, D1) => if kp_nm B n p1 4 < 0 then .error (1, kt_s B n p1) else if kp_nm B n p1 4 = 1 then .ok (kt_e B n p1, kl_set D1 b ((j : Int) + 1))
      else if k = 0 then .error (4, kt_s B n p1) else kl_conds B n b k (j + 1) (kt_e B n p1) (kl_set D1 b ((j : Int) + 1))
/-- the act of a line, and its semicolon -/
def kl_act (B : Nat → Int) (n : Nat) (sl : Int) (b p : Nat) (D : Nat → Int) : kp_E :=
  if ¬ kt_k B n p = 2 then .error (1, kt_s B n p) else if sl ≤ kt_v B n p then .error (2, kt_s B n p)
  else if kp_nm B n (kt_e B n p) 5 < 0 then .error (1, kt_s B n (kt_e B n p))
  else if kp_nm B n (kt_e B n (kt_e B n p)) 6 < 0 then .error (1, kt_s B n (kt_e B n (kt_e B n p)))
  else if ¬ kt_k B n (kt_e B n (kt_e B n (kt_e B n p))) = 3 then .error (1, kt_s B n (kt_e B n (kt_e B n (kt_e B n p))))
  else .ok (kt_e B n (kt_e B n (kt_e B n (kt_e B n p))), kl_set D (b + 10) (15 * kt_v B n p + 3 * kp_nm B n (kt_e B n p) 5 + kp_nm B n (kt_e B n (kt_e B n p)) 6))
/-- the c-th line, at p -/
def kl_line (B : Nat → Int) (n : Nat) (sl : Int) (c p : Nat) (D : Nat → Int) : kp_E :=
  if kp_nm B n p 1 < 0 then .error (1, kt_s B n p) else if 8 ≤ c then .error (4, kt_s B n p)
  else match kl_conds B n (11 * c) 3 0 (kt_e B n p) D with
    | .error f => .error f
    | .ok (p1, D1) => kl_act B n sl (11 * c) p1 D1
/-- lines to the end: how many, and what they tell -/
def kl_text (B : Nat → Int) (n : Nat) (sl : Int) : Nat → Nat → Nat → (Nat → Int) → kp_E
  | 0, _, _, _ => .error (0, 0)
  | k + 1, c, p, D => if kt_k B n p = 0 then .ok (c, D) else match kl_line B n sl c p D with
    | .error f => .error f
    | .ok (p1, D1) => kl_text B n sl k (c + 1) p1 D1
theorem kp_nmk {B : Nat → Int} {n p k0 : Nat} : -1 ≤ kp_nm B n p k0 ∧ kp_nm B n p k0 ≤ ((mm_sc.getD k0 mm_sd).2.2.2.count 32 : Nat) := by
  unfold kp_nm
  split
  · have := kt_fb (T := fun j => B (kt_s B n p + j)) (len := kt_e B n p - kt_s B n p) (mm_sc.getD k0 mm_sd).2.2.2 0 0 true
    omega
  · omega
theorem kl_nmb {B : Nat → Int} {n p : Nat} : (kp_nm B n p 1 < 1) ∧ (kp_nm B n p 2 < 5) ∧ (kp_nm B n p 3 < 3) ∧ (kp_nm B n p 4 < 2) ∧ (kp_nm B n p 5 < 5) ∧ (kp_nm B n p 6 < 3) := by
  have e1 : (mm_sc.getD 1 mm_sd).2.2.2.count 32 = 0 := by decide +kernel
  have e2 : (mm_sc.getD 2 mm_sd).2.2.2.count 32 = 4 := by decide +kernel
  have e3 : (mm_sc.getD 3 mm_sd).2.2.2.count 32 = 2 := by decide +kernel
  have e4 : (mm_sc.getD 4 mm_sd).2.2.2.count 32 = 1 := by decide +kernel
  have e5 : (mm_sc.getD 5 mm_sd).2.2.2.count 32 = 4 := by decide +kernel
  have e6 : (mm_sc.getD 6 mm_sd).2.2.2.count 32 = 2 := by decide +kernel
  have a1 := (kp_nmk (B := B) (n := n) (p := p) (k0 := 1)).2
  have a2 := (kp_nmk (B := B) (n := n) (p := p) (k0 := 2)).2
  have a3 := (kp_nmk (B := B) (n := n) (p := p) (k0 := 3)).2
  have a4 := (kp_nmk (B := B) (n := n) (p := p) (k0 := 4)).2
  have a5 := (kp_nmk (B := B) (n := n) (p := p) (k0 := 5)).2
  have a6 := (kp_nmk (B := B) (n := n) (p := p) (k0 := 6)).2
  rw [e1] at a1; rw [e2] at a2; rw [e3] at a3; rw [e4] at a4; rw [e5] at a5; rw [e6] at a6
  omega
/-- while a text of rules is read -/
def kl_I (M N : mm_M) (n p : Nat) : Prop := mm_Rf N ∧ (∀ a, a ≠ 1 → a ≠ 20 → N a = M a) ∧ (∀ b, b < 2 → N 1 b = M 1 b) ∧ mm_CT N n ∧ p ≤ n ∧ N 1 7 = (p : Int)
/-- the token behind p is at hand -/
def kl_H (M N : mm_M) (n p : Nat) : Prop := kl_I M N n (kt_e (M 2) n p) ∧ p ≤ n ∧ N 1 5 = kt_k (M 2) n p ∧ N 1 6 = (kt_s (M 2) n p : Int) ∧ (kt_k (M 2) n p = 2 → N 1 4 = kt_v (M 2) n p)
/-- how a piece of it ends -/
def kl_P (M N M' : mm_M) (n : Nat) (e : kp_E) (r : mm_V) : Prop := match e with
  | .ok (p', D') => r = (0, 1) ∧ kl_I M M' n p' ∧ M' 20 = D' ∧ M' 1 2 = N 1 2 ∧ M' 1 3 = N 1 3
  | .error (k, s) => r = (0, 0) ∧ mm_Rf M' ∧ (∀ a, a ≠ 1 → a ≠ 20 → M' a = M a) ∧ (∀ b, b < 2 → M' 1 b = M 1 b) ∧ M' 1 2 = k ∧ M' 1 3 = (s : Int)
theorem kl_I.put {M N : mm_M} {n p a : Nat} {v : Int} (h : kl_I M N n p) : kl_I M (mm_up N 20 a v) n p := by
  obtain ⟨i1, i2, i3, i4, i5, i6⟩ := h
  refine ⟨i1.up rfl, ?_, ?_, ⟨?_, i4.2.1, ?_⟩, i5, ?_⟩
  · intro c c1 c2; rw [mm_up_row c2]; exact i2 c c1 c2
  · intro b hb; rw [mm_up_row (by decide)]; exact i3 b hb
  · rw [mm_up_row (by decide)]; exact i4.1
  · rw [mm_up_row (by decide)]; exact i4.2.2
  · rw [mm_up_row (by decide)]; exact i6
theorem kl_H.put {M N : mm_M} {n p a : Nat} {v : Int} (h : kl_H M N n p) : kl_H M (mm_up N 20 a v) n p := by
  obtain ⟨h1, h2, h3, h4, h5⟩ := h
  refine ⟨h1.put, h2, ?_, ?_, ?_⟩
  · rw [mm_up_row (by decide)]; exact h3
  · rw [mm_up_row (by decide)]; exact h4
  · rw [mm_up_row (by decide)]; exact h5
theorem kl_up {N : mm_M} {a : Nat} {v : Int} : (mm_up N 20 a v) 20 = kl_set (N 20) a v := by
  funext i
  unfold kl_set
  by_cases q : i = a
  · rw [if_pos q, q, mm_up_s]
  · rw [if_neg q, mm_up_i q]
section
variable {X : mm_X} {M N : mm_M} {n p a b c j k0 s : Nat} {k : Int}
theorem kl_adv (hI : kl_I M N n p) : mm_C X Y_X10_advance 243 243 [(2, 2)] N (fun r M' => r = (3, 0) ∧ mm_Rf M' ∧ kl_H M M' n p ∧ M' 20 = N 20 ∧ M' 1 2 = N 1 2 ∧ M' 1 3 = N 1 3) := by
  obtain ⟨i1, i2, i3, i4, i5, i6⟩ := hI
  have e2 : N 2 = M 2 := i2 2 (by decide) (by decide)
  refine mm_Cmono (c_X10_advance i1 i4 i5 i6) ?_
  rintro r M' ⟨h1, h2, h3⟩
  obtain ⟨q1, q2, q3, q4, q5, q6⟩ := id h3
  rw [e2] at q3 q4 q5 q6
  refine ⟨h1, h2, ⟨⟨h2, ?_, ?_, h3.ct i4, (kt_eb i5).2, q5⟩, i5, q3, q4, q6⟩, q1 20 (by decide), q2 2 (by decide), q2 3 (by decide)⟩
  · intro a a1 a2; rw [q1 a a1]; exact i2 a a1 a2
  · intro b hb; rw [q2 b (by omega)]; exact i3 b hb
theorem kl_word (hk : k0 < 37) (hH : kl_H M N n p) : mm_Fn X Y_X10_wordAmong 243 [(2, 2), (2, -((k0 + 100 : Nat) : Int))] N (0, kp_nm (M 2) n p k0) N := by
  obtain ⟨⟨i1, i2, i3, i4, i5, i6⟩, h2, h3, h4, h5⟩ := hH
  have hkb := kt_kb (B := M 2) (n := n) (p := p)
  have heb := kt_eb (B := M 2) h2
  have e2 : N 2 = M 2 := i2 2 (by decide) (by decide)
  have c := c_X10_wordAmong (X := X) (M := N) (k0 := k0) i1 i4 hk (by omega) h4 i6 heb
  rw [show (if N 1 5 = 1 then kt_f (fun j => N 2 (kt_s (M 2) n p + j)) (kt_e (M 2) n p - kt_s (M 2) n p) (mm_sc.getD k0 mm_sd).2.2.2 0 0 true else -1) = kp_nm (M 2) n p k0 by rw [e2, h3]; rfl] at c
  exact c
theorem kl_bad {M' : mm_M} (hH : kl_H M N n p) (hM : M' = mm_up (mm_up N 1 2 k) 1 3 (N 1 6)) (Q : mm_M) : kl_P M Q M' n (.error (k, kt_s (M 2) n p)) (0, 0) := by
  obtain ⟨⟨i1, i2, i3, i4, i5, i6⟩, h2, h3, h4, h5⟩ := hH
  refine ⟨rfl, by rw [hM]; exact (i1.up rfl).up rfl, ?_, ?_, ?_, ?_⟩
  · intro a a1 a2; rw [hM, mm_up_row a1, mm_up_row a1]; exact i2 a a1 a2
  · intro b hb; rw [hM, mm_up_i (by omega), mm_up_i (by omega)]; exact i3 b hb
  · rw [hM, mm_up_i (by decide), mm_up_s]
  · rw [hM, mm_up_s]; exact h4
theorem c_X9_takeCond (hI : kl_I M N n p) (ha : a + 3 ≤ 88) :
    mm_C X Y_X9_takeCond 243 243 [(2, 19), (2, 2), (0, (a : Int))] N (fun r M' => kl_P M N M' n (kl_cond (M 2) n a p (N 20)) r) := by
  have hRN := hI.1
  obtain ⟨E, hE⟩ : ∃ E, E = kl_cond (M 2) n a p (N 20) := ⟨_, rfl⟩
  have hL := hE.symm
  rw [← hE]
  unfold kl_cond at hL
  have hb1 := kl_nmb (B := M 2) (n := n) (p := p)
  have hb1' := (kp_nmk (B := M 2) (n := n) (p := p) (k0 := 2)).1
  have hb2 := kl_nmb (B := M 2) (n := n) (p := kt_e (M 2) n p)
  have hb2' := (kp_nmk (B := M 2) (n := n) (p := kt_e (M 2) n p) (k0 := 3)).1
  have hkb := kt_kb (B := M 2) (n := n) (p := kt_e (M 2) n (kt_e (M 2) n p))
  have hvb := kt_vb (B := M 2) (n := n) (p := kt_e (M 2) n (kt_e (M 2) n p))
  refine mm_start (ls := [(2, 19), (2, 2), (0, (a : Int)), (9, 0)]) rfl ?_
  refine mm_aload_n dX9_takeCond_0 rfl rfl ?_
  refine mm_V0g (M1 := N) dX9_takeCond_1 rfl lk_X9_31 (c := 1) rfl (by decide) rfl  rfl rfl rfl (kl_adv hI) ?_
  rintro _ N1 ⟨rfl, p1⟩
  change mm_J _ _ _ _ _ _ _ _ _ _
  have hR1 : mm_Rf N1 := p1.1
  obtain ⟨-, hH1, e1, f1, g1⟩ := p1
  refine mm_aload_n dX9_takeCond_4 rfl rfl ?_
  refine mm_getr dX9_takeCond_5 rfl fl_X9_15 (c := 18) rfl (by decide) rfl rfl (hR1.at (c := 18) (i := 3) (v := 21) rfl (by decide)) ?_
  refine mm_iload_n dX9_takeCond_8 rfl rfl ?_
  refine mm_aload_n dX9_takeCond_9 rfl rfl ?_
  refine mm_lds (k0 := 2) dX9_takeCond_10 rfl (by decide) rfl rfl ?_
  refine mm_V1i dX9_takeCond_12 rfl lk_X9_50 (c := 1) rfl (by decide) rfl (by simp) rfl rfl rfl (kl_word (by decide) hH1) ?_
  refine mm_istk (k0 := a) dX9_takeCond_15 rfl (c := 20) rfl (by decide) rfl (by omega) (by omega) (fun M15 hM15 => ?_)
  have hR15 : mm_Rf M15 := by rw [hM15]; exact hR1.up (mm_rt_ar (t := 0) rfl (by decide))
  have hH2 : kl_H M M15 n p := by rw [hM15]; exact hH1.put
  have d2 : M15 20 a = kp_nm (M 2) n p 2 := by rw [hM15, mm_up_s]
  refine mm_aload_n dX9_takeCond_16 rfl rfl ?_
  refine mm_getr dX9_takeCond_17 rfl fl_X9_15 (c := 18) rfl (by decide) rfl rfl (hR15.at (c := 18) (i := 3) (v := 21) rfl (by decide)) ?_
  refine mm_iload_n dX9_takeCond_20 rfl rfl ?_
  refine mm_ialk (k0 := a) dX9_takeCond_21 rfl (c := 20) rfl (by decide) rfl (by omega) (by omega) ?_
  rw [d2]
  refine mm_ifge dX9_takeCond_22 (by omega) (fun h22 => ?_) (fun h22 => ?_)
  · rw [if_neg (by omega)] at hL
    refine mm_aload_n dX9_takeCond_31 rfl rfl ?_
    refine mm_V0g (M1 := M15) dX9_takeCond_32 rfl lk_X9_31 (c := 1) rfl (by decide) rfl  rfl rfl rfl (kl_adv hH2.1) ?_
    rintro _ N32 ⟨rfl, p32⟩
    change mm_J _ _ _ _ _ _ _ _ _ _
    have hR32 : mm_Rf N32 := p32.1
    obtain ⟨-, hH3, e3, f3, g3⟩ := p32
    refine mm_aload_n dX9_takeCond_35 rfl rfl ?_
    refine mm_getr dX9_takeCond_36 rfl fl_X9_15 (c := 18) rfl (by decide) rfl rfl (hR32.at (c := 18) (i := 3) (v := 21) rfl (by decide)) ?_
    refine mm_iload_n dX9_takeCond_39 rfl rfl ?_
    refine mm_iconst dX9_takeCond_40 rfl ?_
    refine mm_iadd dX9_takeCond_41 rfl ?_
    refine mm_aload_n dX9_takeCond_42 rfl rfl ?_
    refine mm_lds (k0 := 3) dX9_takeCond_43 rfl (by decide) rfl rfl ?_
    refine mm_V1i dX9_takeCond_45 rfl lk_X9_50 (c := 1) rfl (by decide) rfl (by simp) rfl rfl rfl (kl_word (by decide) hH3) ?_
    refine mm_istk (k0 := (a + 1)) dX9_takeCond_48 rfl (c := 20) rfl (by decide) rfl (by omega) (by omega) (fun M48 hM48 => ?_)
    have hR48 : mm_Rf M48 := by rw [hM48]; exact hR32.up (mm_rt_ar (t := 0) rfl (by decide))
    have hH4 : kl_H M M48 n (kt_e (M 2) n p) := by rw [hM48]; exact hH3.put
    have d4 : M48 20 (a + 1) = kp_nm (M 2) n (kt_e (M 2) n p) 3 := by rw [hM48, mm_up_s]
    refine mm_aload_n dX9_takeCond_49 rfl rfl ?_
    refine mm_getr dX9_takeCond_50 rfl fl_X9_15 (c := 18) rfl (by decide) rfl rfl (hR48.at (c := 18) (i := 3) (v := 21) rfl (by decide)) ?_
    refine mm_iload_n dX9_takeCond_53 rfl rfl ?_
    refine mm_iconst dX9_takeCond_54 rfl ?_
    refine mm_iadd dX9_takeCond_55 rfl ?_
    refine mm_ialk (k0 := (a + 1)) dX9_takeCond_56 rfl (c := 20) rfl (by decide) rfl (by omega) (by omega) ?_
    rw [d4]
    refine mm_ifge dX9_takeCond_57 (by omega) (fun h57 => ?_) (fun h57 => ?_)
    · rw [if_neg (by omega)] at hL
      refine mm_aload_n dX9_takeCond_66 rfl rfl ?_
      refine mm_V0g (M1 := M48) dX9_takeCond_67 rfl lk_X9_31 (c := 1) rfl (by decide) rfl  rfl rfl rfl (kl_adv hH4.1) ?_
      rintro _ N67 ⟨rfl, p67⟩
      change mm_J _ _ _ _ _ _ _ _ _ _
      have hR67 : mm_Rf N67 := p67.1
      obtain ⟨-, hH5, e5, f5, g5⟩ := p67
      obtain ⟨-, -, ek, es, ev⟩ := id hH5
      refine mm_aload_n dX9_takeCond_70 rfl rfl ?_
      refine mm_iconst dX9_takeCond_71 rfl ?_
      refine mm_ldc dX9_takeCond_72 rfl kc_X9_73 ?_
      refine mm_V2g (M1 := N67) dX9_takeCond_74 rfl lk_X9_74 (c := 1) rfl (by decide) rfl (by simp) (by simp) rfl rfl rfl (c_X10_num hR67 (by omega) (by intro z; rw [ek] at z; rw [ev z]; omega) (by omega) (by omega)) ?_
      rintro _ N74 ⟨x74, rfl, p74⟩
      change mm_J _ _ _ _ _ _ _ _ _ _
      have hR74 : mm_Rf N74 := p74.1
      obtain ⟨-, hz⟩ := p74
      have hz01 : x74 = 0 ∨ x74 = 1 := by rcases hz with ⟨z, -⟩ | ⟨z, -⟩ <;> omega
      refine mm_istore_n dX9_takeCond_77 rfl (Nat.le_of_ble_eq_true rfl) rfl ?_
      refine mm_aload_n dX9_takeCond_78 rfl rfl ?_
      refine mm_getr dX9_takeCond_79 rfl fl_X9_15 (c := 18) rfl (by decide) rfl rfl (hR74.at (c := 18) (i := 3) (v := 21) rfl (by decide)) ?_
      refine mm_iload_n dX9_takeCond_82 rfl rfl ?_
      refine mm_iconst dX9_takeCond_83 rfl ?_
      refine mm_iadd dX9_takeCond_84 rfl ?_
      refine mm_aload_n dX9_takeCond_85 rfl rfl ?_
      refine mm_get (kd := 0) dX9_takeCond_86 rfl fl_X9_78 (c := 1) rfl (by decide) rfl rfl ?_
      refine mm_istk (k0 := (a + 2)) dX9_takeCond_89 rfl (c := 20) rfl (by decide) rfl (by omega) (by omega) (fun M89 hM89 => ?_)
      have hR89 : mm_Rf M89 := by rw [hM89]; exact hR74.up (mm_rt_ar (t := 0) rfl (by decide))
      refine mm_iload_n dX9_takeCond_90 rfl rfl ?_
      refine mm_zret dX9_takeCond_91 rfl rfl hz01 ?_
      rcases hz with ⟨z1, z2, z3, z4⟩ | ⟨z1, z2, z3⟩
      · rw [ek] at z3
        rw [if_neg (fun q => q z3)] at hL
        rw [← hL, z1]
        have v2 : N74 1 4 = kt_v (M 2) n (kt_e (M 2) n (kt_e (M 2) n p)) := by rw [z2]; exact ev z3
        refine ⟨rfl, ?_, ?_, ?_, ?_⟩
        · rw [hM89, z2]; exact hH5.1.put
        · rw [hM89, kl_up, v2, z2, e5, hM48, kl_up, e3, hM15, kl_up, e1]
        · rw [hM89, mm_up_row (by decide), z2, f5, hM48, mm_up_row (by decide), f3, hM15, mm_up_row (by decide), f1]
        · rw [hM89, mm_up_row (by decide), z2, g5, hM48, mm_up_row (by decide), g3, hM15, mm_up_row (by decide), g1]
      · rw [ek] at z2 z3
        by_cases q : kt_k (M 2) n (kt_e (M 2) n (kt_e (M 2) n p)) = 2
        · exact absurd ⟨q, by rw [ev q]; omega⟩ z2
        · rw [if_neg q] at z3
          rw [if_pos q] at hL
          rw [← hL, z1]
          obtain ⟨r1, r2, r3, r4, r6, r7⟩ := kl_bad hH5 z3 N
          refine ⟨rfl, hR89, ?_, ?_, ?_, ?_⟩
          · intro c c1 c2; rw [hM89, mm_up_row c2]; exact r3 c c1 c2
          · intro b hb; rw [hM89, mm_up_row (by decide)]; exact r4 b hb
          · rw [hM89, mm_up_row (by decide)]; exact r6
          · rw [hM89, mm_up_row (by decide)]; exact r7
    · refine mm_aload_n dX9_takeCond_60 rfl rfl ?_
      refine mm_iconst dX9_takeCond_61 rfl ?_
      refine mm_V1i dX9_takeCond_62 rfl lk_X9_54 (c := 1) rfl (by decide) rfl (by simp) rfl rfl rfl (c_X10_fails hR48) ?_
      refine mm_zret dX9_takeCond_65 rfl rfl (Or.inl rfl) ?_
      rw [if_pos (by omega)] at hL
      rw [← hL]
      exact kl_bad hH4 rfl N
  · refine mm_aload_n dX9_takeCond_25 rfl rfl ?_
    refine mm_iconst dX9_takeCond_26 rfl ?_
    refine mm_V1i dX9_takeCond_27 rfl lk_X9_54 (c := 1) rfl (by decide) rfl (by simp) rfl rfl rfl (c_X10_fails hR15) ?_
    refine mm_zret dX9_takeCond_30 rfl rfl (Or.inl rfl) ?_
    rw [if_pos (by omega)] at hL
    rw [← hL]
    exact kl_bad hH2 rfl N
theorem c_X9_takeAct {sl : Int} (hI : kl_I M N n p) (hsl : M 4 10 = sl ∧ 1 ≤ sl ∧ sl ≤ 3) (hb : b + 11 ≤ 88) :
    mm_C X Y_X9_takeAct 243 243 [(2, 19), (2, 2), (0, (b : Int))] N (fun r M' => kl_P M N M' n (kl_act (M 2) n sl b p (N 20)) r) := by
  have hRN := hI.1
  obtain ⟨E, hE⟩ : ∃ E, E = kl_act (M 2) n sl b p (N 20) := ⟨_, rfl⟩
  have hL := hE.symm
  rw [← hE]
  unfold kl_act at hL
  have hkb := kt_kb (B := M 2) (n := n) (p := p)
  have hvb := kt_vb (B := M 2) (n := n) (p := p)
  have hb1 := kl_nmb (B := M 2) (n := n) (p := kt_e (M 2) n p)
  have hb1' := (kp_nmk (B := M 2) (n := n) (p := kt_e (M 2) n p) (k0 := 5)).1
  have hb2 := kl_nmb (B := M 2) (n := n) (p := kt_e (M 2) n (kt_e (M 2) n p))
  have hb2' := (kp_nmk (B := M 2) (n := n) (p := kt_e (M 2) n (kt_e (M 2) n p)) (k0 := 6)).1
  have hkb3 := kt_kb (B := M 2) (n := n) (p := kt_e (M 2) n (kt_e (M 2) n (kt_e (M 2) n p)))
  refine mm_start (ls := [(2, 19), (2, 2), (0, (b : Int)), (9, 0), (9, 0), (9, 0)]) rfl ?_
  refine mm_aload_n dX9_takeAct_0 rfl rfl ?_
  refine mm_V0g (M1 := N) dX9_takeAct_1 rfl lk_X9_31 (c := 1) rfl (by decide) rfl  rfl rfl rfl (kl_adv hI) ?_
  rintro _ N1 ⟨rfl, p1⟩
  change mm_J _ _ _ _ _ _ _ _ _ _
  have hR1 : mm_Rf N1 := p1.1
  obtain ⟨-, hH1, e1, f1, g1⟩ := p1
  obtain ⟨-, -, ek, es, ev⟩ := id hH1
  have s10 : N1 4 10 = sl := by rw [hH1.1.2.1 4 (by decide) (by decide)]; exact hsl.1
  refine mm_aload_n dX9_takeAct_4 rfl rfl ?_
  refine mm_iconst dX9_takeAct_5 rfl ?_
  refine mm_aload_n dX9_takeAct_6 rfl rfl ?_
  refine mm_getr dX9_takeAct_7 rfl fl_X9_18 (c := 18) rfl (by decide) rfl rfl (hR1.at (c := 18) (i := 0) (v := 4) rfl (by decide)) ?_
  refine mm_V0i dX9_takeAct_10 rfl lk_X9_81 (c := 3) rfl (by decide) rfl  rfl rfl rfl ((s10 ▸ c_X4_slants hR1)) ?_
  refine mm_iconst dX9_takeAct_13 rfl ?_
  refine mm_isub dX9_takeAct_14 rfl ?_
  refine mm_V2g (M1 := N1) dX9_takeAct_15 rfl lk_X9_74 (c := 1) rfl (by decide) rfl (by simp) (by simp) rfl rfl rfl (c_X10_num hR1 (by omega) (by intro z; rw [ek] at z; rw [ev z]; omega) (by omega) (by omega)) ?_
  rintro _ N15 ⟨x15, rfl, p15⟩
  change mm_J _ _ _ _ _ _ _ _ _ _
  have hR15 : mm_Rf N15 := p15.1
  obtain ⟨-, hz⟩ := p15
  have hz01 : x15 = 0 ∨ x15 = 1 := by rcases hz with ⟨z, -⟩ | ⟨z, -⟩ <;> omega
  refine mm_ifne dX9_takeAct_18 (by omega) (fun h18 => ?_) (fun h18 => ?_)
  · obtain ⟨eN, z2, z3⟩ : N15 = N1 ∧ N1 1 5 = 2 ∧ 0 ≤ N1 1 4 ∧ N1 1 4 ≤ sl - 1 := by
      rcases hz with ⟨z1, z2, z3, z4⟩ | ⟨z, -⟩
      · exact ⟨z2, z3, z4⟩
      · omega
    have hk2 : kt_k (M 2) n p = 2 := by rw [← ek]; exact z2
    have ev2 := ev hk2
    rw [ev2] at z3
    rw [if_neg (fun z => z hk2), if_neg (by omega)] at hL
    have ev3 : N15 1 4 = kt_v (M 2) n p := by rw [eN]; exact ev2
    have hH2 : kl_H M N15 n p := by rw [eN]; exact hH1
    refine mm_aload_n dX9_takeAct_23 rfl rfl ?_
    refine mm_get (kd := 0) dX9_takeAct_24 rfl fl_X9_78 (c := 1) rfl (by decide) rfl rfl ?_
    obtain ⟨v24, hv24⟩ : ∃ v, v = N15 1 4 := ⟨_, rfl⟩
    rw [← hv24]
    rw [ev3] at hv24
    subst hv24
    refine mm_istore_n dX9_takeAct_27 rfl (Nat.le_of_ble_eq_true rfl) rfl ?_
    refine mm_aload_n dX9_takeAct_28 rfl rfl ?_
    refine mm_V0g (M1 := N15) dX9_takeAct_29 rfl lk_X9_31 (c := 1) rfl (by decide) rfl  rfl rfl rfl (kl_adv hH2.1) ?_
    rintro _ N29 ⟨rfl, p29⟩
    change mm_J _ _ _ _ _ _ _ _ _ _
    have hR29 : mm_Rf N29 := p29.1
    obtain ⟨-, hH3, e3, f3, g3⟩ := p29
    refine mm_aload_n dX9_takeAct_32 rfl rfl ?_
    refine mm_lds (k0 := 5) dX9_takeAct_33 rfl (by decide) rfl rfl ?_
    refine mm_V1i dX9_takeAct_35 rfl lk_X9_50 (c := 1) rfl (by decide) rfl (by simp) rfl rfl rfl (kl_word (by decide) hH3) ?_
    refine mm_istore dX9_takeAct_38 rfl (Nat.le_of_ble_eq_true rfl) rfl ?_
    refine mm_iload dX9_takeAct_40 rfl rfl ?_
    refine mm_ifge dX9_takeAct_42 (by omega) (fun h42 => ?_) (fun h42 => ?_)
    · rw [if_neg (by omega)] at hL
      refine mm_aload_n dX9_takeAct_51 rfl rfl ?_
      refine mm_V0g (M1 := N29) dX9_takeAct_52 rfl lk_X9_31 (c := 1) rfl (by decide) rfl  rfl rfl rfl (kl_adv hH3.1) ?_
      rintro _ N52 ⟨rfl, p52⟩
      change mm_J _ _ _ _ _ _ _ _ _ _
      have hR52 : mm_Rf N52 := p52.1
      obtain ⟨-, hH4, e4, f4, g4⟩ := p52
      refine mm_aload_n dX9_takeAct_55 rfl rfl ?_
      refine mm_lds (k0 := 6) dX9_takeAct_56 rfl (by decide) rfl rfl ?_
      refine mm_V1i dX9_takeAct_58 rfl lk_X9_50 (c := 1) rfl (by decide) rfl (by simp) rfl rfl rfl (kl_word (by decide) hH4) ?_
      refine mm_istore dX9_takeAct_61 rfl (Nat.le_of_ble_eq_true rfl) rfl ?_
      refine mm_iload dX9_takeAct_63 rfl rfl ?_
      refine mm_ifge dX9_takeAct_65 (by omega) (fun h65 => ?_) (fun h65 => ?_)
      · rw [if_neg (by omega)] at hL
        refine mm_aload_n dX9_takeAct_74 rfl rfl ?_
        refine mm_getr dX9_takeAct_75 rfl fl_X9_15 (c := 18) rfl (by decide) rfl rfl (hR52.at (c := 18) (i := 3) (v := 21) rfl (by decide)) ?_
        refine mm_iload_n dX9_takeAct_78 rfl rfl ?_
        refine mm_bipush dX9_takeAct_79 rfl (by decide) ?_
        refine mm_iadd dX9_takeAct_81 rfl ?_
        refine mm_bipush dX9_takeAct_82 rfl (by decide) ?_
        refine mm_iload_n dX9_takeAct_84 rfl rfl ?_
        refine mm_imul dX9_takeAct_85 rfl ?_
        refine mm_iconst dX9_takeAct_86 rfl ?_
        refine mm_iload dX9_takeAct_87 rfl rfl ?_
        refine mm_imul dX9_takeAct_89 rfl ?_
        refine mm_iadd dX9_takeAct_90 rfl ?_
        refine mm_iload dX9_takeAct_91 rfl rfl ?_
        refine mm_iadd dX9_takeAct_93 rfl ?_
        refine mm_istk (k0 := (b + 10)) dX9_takeAct_94 rfl (c := 20) rfl (by decide) rfl (by omega) (by omega) (fun M94 hM94 => ?_)
        have hR94 : mm_Rf M94 := by rw [hM94]; exact hR52.up (mm_rt_ar (t := 0) rfl (by decide))
        have hH5 : kl_H M M94 n (kt_e (M 2) n (kt_e (M 2) n p)) := by rw [hM94]; exact hH4.put
        refine mm_aload_n dX9_takeAct_95 rfl rfl ?_
        refine mm_V0g (M1 := M94) dX9_takeAct_96 rfl lk_X9_31 (c := 1) rfl (by decide) rfl  rfl rfl rfl (kl_adv hH5.1) ?_
        rintro _ N96 ⟨rfl, p96⟩
        change mm_J _ _ _ _ _ _ _ _ _ _
        have hR96 : mm_Rf N96 := p96.1
        obtain ⟨-, hH6, e6, f6, g6⟩ := p96
        obtain ⟨-, -, ek6, es6, ev6⟩ := id hH6
        refine mm_aload_n dX9_takeAct_99 rfl rfl ?_
        refine mm_V0i dX9_takeAct_100 rfl lk_X9_91 (c := 1) rfl (by decide) rfl  rfl rfl rfl (c_X10_isSemicolon hR96 (by omega)) ?_
        refine mm_ifneb dX9_takeAct_103 (fun h103 => ?_) (fun h103 => ?_)
        · refine mm_iconst dX9_takeAct_114 rfl ?_
          refine mm_goto dX9_takeAct_115 ?_
          refine mm_zret dX9_takeAct_119 rfl rfl (Or.inr rfl) ?_
          rw [ek6] at h103
          first
          | (rw [if_neg (fun y => y h103)] at hL
             rw [← hL]
             refine ⟨rfl, hH6.1, ?_, ?_, ?_⟩
             · rw [e6, hM94, kl_up, e4, e3, eN, e1]
             · rw [f6, hM94, mm_up_row (by decide), f4, f3, eN, f1]
             · rw [g6, hM94, mm_up_row (by decide), g4, g3, eN, g1])
          | (rw [if_pos h103] at hL
             rw [← hL]
             exact kl_bad hH6 rfl N)
        · refine mm_aload_n dX9_takeAct_106 rfl rfl ?_
          refine mm_iconst dX9_takeAct_107 rfl ?_
          refine mm_V1i dX9_takeAct_108 rfl lk_X9_54 (c := 1) rfl (by decide) rfl (by simp) rfl rfl rfl (c_X10_fails hR96) ?_
          refine mm_ifeq dX9_takeAct_111 (by omega) (fun _ => ?_) (fun h => absurd (by decide) h)
          refine mm_iconst dX9_takeAct_118 rfl ?_
          refine mm_zret dX9_takeAct_119 rfl rfl (Or.inl rfl) ?_
          rw [ek6] at h103
          first
          | (rw [if_neg (fun y => y h103)] at hL
             rw [← hL]
             refine ⟨rfl, hH6.1, ?_, ?_, ?_⟩
             · rw [e6, hM94, kl_up, e4, e3, eN, e1]
             · rw [f6, hM94, mm_up_row (by decide), f4, f3, eN, f1]
             · rw [g6, hM94, mm_up_row (by decide), g4, g3, eN, g1])
          | (rw [if_pos h103] at hL
             rw [← hL]
             exact kl_bad hH6 rfl N)
      · refine mm_aload_n dX9_takeAct_68 rfl rfl ?_
        refine mm_iconst dX9_takeAct_69 rfl ?_
        refine mm_V1i dX9_takeAct_70 rfl lk_X9_54 (c := 1) rfl (by decide) rfl (by simp) rfl rfl rfl (c_X10_fails hR52) ?_
        refine mm_zret dX9_takeAct_73 rfl rfl (Or.inl rfl) ?_
        rw [if_pos (by omega)] at hL
        rw [← hL]
        exact kl_bad hH4 rfl N
    · refine mm_aload_n dX9_takeAct_45 rfl rfl ?_
      refine mm_iconst dX9_takeAct_46 rfl ?_
      refine mm_V1i dX9_takeAct_47 rfl lk_X9_54 (c := 1) rfl (by decide) rfl (by simp) rfl rfl rfl (c_X10_fails hR29) ?_
      refine mm_zret dX9_takeAct_50 rfl rfl (Or.inl rfl) ?_
      rw [if_pos (by omega)] at hL
      rw [← hL]
      exact kl_bad hH3 rfl N
  · refine mm_iconst dX9_takeAct_21 rfl ?_
    refine mm_zret dX9_takeAct_22 rfl rfl (Or.inl rfl) ?_
    rcases hz with ⟨z1, -⟩ | ⟨z1, z2, z3⟩
    · omega
    · rw [ek] at z2 z3
      by_cases q : kt_k (M 2) n p = 2
      · rw [if_pos q] at z3
        rw [if_neg (fun y => y q), if_pos (by have := ev q; omega)] at hL
        rw [← hL]
        exact kl_bad hH1 z3 N
      · rw [if_neg q] at z3
        rw [if_pos q] at hL
        rw [← hL]
        exact kl_bad hH1 z3 N
end

