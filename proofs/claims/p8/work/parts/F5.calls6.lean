/-! ===== calls side by side: flights ===== -/
theorem kj_is_u {P Q : Nat → Prop} {n c d : Nat} (h1 : kj_is P n c) (h2 : kj_is Q n d) (hpq : ∀ j, j < n → (P j ↔ Q j)) : d = c := by
  rcases Nat.lt_trichotomy c d with q | q | q
  · exact absurd ((hpq c (by have := h2.1; omega)).mpr (h2.2.1 c q)) (h1.2.2 (by have := h2.1; omega))
  · exact q.symm
  · exact absurd ((hpq d (by have := h1.1; omega)).mp (h1.2.1 d q)) (h2.2.2 (by have := h1.1; omega))
theorem kr_h_cg {f g : Nat → Bool} : ∀ {n : Nat}, (∀ c, c < n → f c = g c) → kr_h f n = kr_h g n
  | 0, _ => rfl
  | n + 1, h => by unfold kr_h; rw [kr_h_cg (fun c hc => h c (by omega)), h n (by omega)]
theorem kr_act_cg {P Q : Nat → Bool} {D E : Nat → Int} : ∀ {k l : Nat}, (∀ j, j < l + k → P j = Q j ∧ D j = E j) → kr_act P D l k = kr_act Q E l k
  | 0, l, _ => rfl
  | k + 1, l, h => by
    unfold kr_act
    rw [(h l (by omega)).1, (h l (by omega)).2, kr_act_cg (k := k) (l := l + 1) (fun j hj => h j (by omega))]
theorem nk_val {K : Nat → Int} {s w q : Int} (hK : mm_KV K) : kr_val (nK K) s w q = kr_val K s w q := by
  have h0 : ks_ac K 0 := by
    obtain ⟨-, -, -, -, -, -, -, -, -, -, h10, -⟩ := id hK
    exact ⟨Int.le_refl 0, by omega⟩
  show (if q = 0 then ks_p (nK K) s 0 w else if q = 1 then ks_h K s else if q = 2 then ks_rope K s else if q = 3 then ks_col K s else ks_row K s) = _
  rw [nk_p hK h0]
  rfl
theorem nk_flS {K : Nat → Int} {T : Int → Int → Int} {W : Int → Nat → Int} {s : Int} : ∀ i, kfl_S (nK K) T W s i = kfl_S K T W s i
  | 0 => rfl
  | i + 1 => by unfold kfl_S; rw [nk_flS i]; rfl
theorem nk_fla {K : Nat → Int} {T : Int → Int → Int} {W : Int → Nat → Int} {s : Int} (i : Nat) : kfl_a (nK K) T W s i = kfl_a K T W s i := by
  unfold kfl_a; rw [nk_flS i]; rfl
section
variable {M : mm_M}
theorem kR4.T (h3 : kR3 M) (h4 : kR4 M) (s w : Int) : kq_T M s w = kc_T M s w := by
  obtain ⟨g1, g2, g3, g4⟩ := h4
  unfold kq_T kc_T kr_tell
  rw [g3]
  refine kr_act_cg ?_
  intro j hj
  have hj' : (j : Int) < M 18 1 := by omega
  obtain ⟨a1, a2, a3⟩ := g4 j hj'
  refine ⟨?_, a3⟩
  unfold kr_ln
  rw [a1]
  refine kr_h_cg ?_
  intro c hc
  obtain ⟨b1, b2, b3⟩ := a2 c (by omega)
  rw [b1, b2, b3]
  unfold kr_ok1
  rw [h3.w (fun K => kr_val K s w (kc_Q M j c)) (fun K hK => nk_val hK)]
theorem kR4.Tf (h3 : kR3 M) (h4 : kR4 M) : kq_T M = kc_T M := funext fun s => funext fun w => h4.T h3 s w
theorem kR3.fW (h3 : kR3 M) (L : Nat → Int) (h e : Int) : kfl_W L (mm_rk M) h e = kfl_W L (M 4) h e := h3.w (fun K => kfl_W L K h e) (fun _ _ => rfl)
theorem kR3.fS (h3 : kR3 M) (T : Int → Int → Int) (W : Int → Nat → Int) (s : Int) (i : Nat) : kfl_S (mm_rk M) T W s i = kfl_S (M 4) T W s i := h3.w (fun K => kfl_S K T W s i) (fun _ _ => nk_flS i)
theorem kR3.fa (h3 : kR3 M) (T : Int → Int → Int) (W : Int → Nat → Int) (s : Int) (i : Nat) : kfl_a (mm_rk M) T W s i = kfl_a (M 4) T W s i := h3.w (fun K => kfl_a K T W s i) (fun _ _ => nk_fla i)
theorem kR3.fp (h3 : kR3 M) {T : Int → Int → Int} (hT : ∀ s w, ks_ac (M 4) (T s w)) (W : Int → Nat → Int) (s : Int) (i : Nat) : kfl_p (mm_rk M) T W s i = kfl_p (M 4) T W s i := by
  unfold kfl_p
  rw [h3.fS, h3.fa]
  exact h3.p (ks_in_ac (hT _ _)) _ _
theorem kR3.fate (h3 : kR3 M) (p : Int) : ks_fate (mm_rk M) p = ks_fate (M 4) p := h3.w (fun K => ks_fate K p) (fun _ _ => rfl)
theorem kR3.fg (h3 : kR3 M) {T : Int → Int → Int} (hT : ∀ s w, ks_ac (M 4) (T s w)) (W : Int → Nat → Int) (s : Int) (i : Nat) : kfl_g (mm_rk M) T W s i = kfl_g (M 4) T W s i := by
  unfold kfl_g
  rw [h3.fa, h3.fp hT]
  exact h3.w (fun K => ks_w K (ks_dr (kfl_a (M 4) T W s i)) (kfl_p (M 4) T W s i)) (fun _ _ => rfl)
theorem kR3.fok (h3 : kR3 M) {T : Int → Int → Int} (hT : ∀ s w, ks_ac (M 4) (T s w)) (W : Int → Nat → Int) (s : Int) (i : Nat) : kfl_ok (mm_rk M) T W s i ↔ kfl_ok (M 4) T W s i := by
  unfold kfl_ok
  rw [h3.fp hT, h3.fate]
end
section
variable {X : mm_X}
theorem kf_fly : kFb X Y_X11_fly Y_X13_fly := by
  intro M hR s h n w z hs hh hn hw
  obtain ⟨hRf, h1, h2, h3, h4, h5, h6, h7, h8, h9, h10, h11, h12, h13, h14, h15, h16⟩ := id hR
  by_cases q : ks_st (M 4) s ∧ ks_hr h ∧ (1 ≤ n ∧ n ≤ 500) ∧ (1 ≤ w ∧ w ≤ 60)
  · obtain ⟨qs, qh, qn, qw⟩ := id q
    refine mm_C.mono (c_X11_fly1 (P := z ≠ 0) (X := X) hRf h3.1 h5.2.2.2.1 h4.1 qs qh qn qw) ?_
    rintro r M1 ⟨c, rfl, hRf1, -, p1, p2, p3, p4, p5, p6, p7, p8⟩
    refine ⟨_, rfl, ?_⟩
    have e1 : ∀ a b, ¬ (a = 139 ∨ a = 140) → M1 a b = M a b := fun a b y => by rw [p2 a (by omega) (by omega)]
    have k3 : kR3 M1 := h3.fr (fun a b y => e1 a b (by omega))
    have k4 : kR4 M1 := h4.fr (fun a b y => e1 a b (by omega))
    have k5 : kR5 M1 := h5.fr (fun a b y => e1 a b (by omega))
    have r4 : M1 4 = M 4 := p2 4 (by decide) (by decide)
    have tc : kc_T M1 = kc_T M := by
      unfold kc_T kc_C kc_Q kc_H kc_B kc_D
      rw [r4, p2 18 (by decide) (by decide), p2 19 (by decide) (by decide)]
    refine mm_C.mono (c_X13_fly1 (P := z ≠ 0) (X := X) (M := M1) hRf1 k3.2.1 k5.ra k4.2.1 ((k3.st s).mpr (by rw [r4]; exact qs)) qh qn qw) ?_
    rintro r2 M2 ⟨c', rfl, hRf2, -, t1, t2, t3, t4, t5, t6, t7, t8, t9⟩
    have hT : ∀ s w, ks_ac (M1 4) (kc_T M1 s w) := fun s w => kc_T_ac k3.1.1 k4.1
    obtain ⟨L, hL⟩ : ∃ L, L = (if z ≠ 0 then M 17 else M 16) := ⟨_, rfl⟩
    have hL' : (if z ≠ 0 then M1 204 else M1 203) = L := by rw [k5.2.2.1.1, k5.2.2.1.2, p2 16 (by decide) (by decide), p2 17 (by decide) (by decide), hL]
    rw [← hL] at p1 p5 p6 p7 p8
    rw [hL', k4.Tf k3, k3.fW] at t1 t6 t7 t8 t9
    rw [← tc, ← r4] at p1 p5 p6 p7 p8
    have cc : c' = c := kj_is_u p1 t1 (fun j _ => (k3.fok hT _ s j).symm)
    subst cc
    refine ⟨rfl, ?_⟩
    have e2 : ∀ a b, ¬ ((a = 183 ∧ 69 ≤ b ∧ b ≤ 78) ∨ a = 220 ∨ a = 221) → M2 a b = M1 a b := by
      intro a b y
      by_cases y1 : a = 183
      · subst y1; exact t3 b (by omega) (by omega)
      · rw [t2 a y1 (by omega) (by omega)]
    have e : ∀ a b, ¬ (a = 139 ∨ a = 140 ∨ (a = 183 ∧ 69 ≤ b ∧ b ≤ 78) ∨ a = 220 ∨ a = 221) → M2 a b = M a b := by
      intro a b y; rw [e2 a b (by omega), e1 a b (by omega)]
    have k10 : kR10 M2 := by
      have row : ∀ a, a = 139 ∨ a = 140 → M2 a = M1 a := fun a y => funext fun b => e2 a b (by omega)
      have hc := p1.1
      unfold kR10
      rw [row 139 (Or.inl rfl), row 140 (Or.inr rfl), p3, p4, p5, p6, p7, t4, t5, t6, t7, t8]
      refine ⟨Or.inr rfl, by omega, rfl, by omega, fun _ => ⟨?_, ?_, ?_, rfl, ?_⟩⟩
      · unfold kfl_end
        rw [k3.fp hT, k3.fate]
      · exact ka_sum_congr (fun j _ => k3.fg hT _ s j)
      · exact k3.fS _ _ s _
      · intro i hi
        rw [t9 i (by omega), p8 i (by omega)]
        exact k3.fa _ _ s i
    exact ⟨hRf2, h1.fr (fun a b q => e a b (by omega)), h2.fr (fun a b q => e a b (by omega)), h3.fr (fun a b q => e a b (by omega)), h4.fr (fun a b q => e a b (by omega)), h5.fr (fun a b q => e a b (by omega)), h6.fr (fun a b q => e a b (by omega)), h7.fr (fun a b q => e a b (by omega)), h8.fr (fun a b q => e a b (by omega)), h9.fr (fun a b q => e a b (by omega)), k10, h11.fr (fun a b q => e a b (by omega)), h12.fr (fun a b q => e a b (by omega)), h13.fr (fun a b q => e a b (by omega)), h14.fr (fun a b q => e a b (by omega)), h15.fr (fun a b q => e a b (by omega)), h16.fr (fun a b q => e a b (by omega))⟩
  · have c1 := c_X11_fly0 (X := X) (z := mm_b (z ≠ 0)) hRf h3.1 hs hh hn hw q
    have c2 := c_X13_fly0 (X := X) (z := mm_b (z ≠ 0)) hRf h3.2.1 hs hh hn hw (by rw [h3.st]; exact q)
    exact kk_no c1 c2 rfl hR
theorem kf_held : kF1 X Y_X11_held Y_X13_held := by
  intro M hR h hh
  obtain ⟨hRf, h1, h2, h3, h4, h5, h6, h7, h8, h9, h10, h11, h12, h13, h14, h15, h16⟩ := id hR
  by_cases q : ks_hr h
  · refine mm_C.mono (c_X11_held1 (X := X) hRf h3.1 h5.2.2.2.1 h4.1 q) ?_
    rintro r M1 ⟨rfl, hRf1, -, p2⟩
    refine ⟨_, rfl, ?_⟩
    have e1 : ∀ a b, ¬ (141 ≤ a ∧ a ≤ 143) → M1 a b = M a b := fun a b y => by rw [p2 a (by omega) (by omega) (by omega)]
    have k3 : kR3 M1 := h3.fr (fun a b y => e1 a b (by omega))
    have k4 : kR4 M1 := h4.fr (fun a b y => e1 a b (by omega))
    have k5 : kR5 M1 := h5.fr (fun a b y => e1 a b (by omega))
    have row : ∀ a, ¬ (141 ≤ a ∧ a ≤ 143) → M1 a = M a := fun a y => funext fun b => e1 a b y
    have tc : kc_T M1 = kc_T M := by
      unfold kc_T kc_C kc_Q kc_H kc_B kc_D
      rw [row 4 (by omega), row 18 (by omega), row 19 (by omega)]
    have hT : ∀ s w, ks_ac (M1 4) (kc_T M1 s w) := fun s w => kc_T_ac k3.1.1 k4.1
    refine mm_C.mono (c_X13_held1 (X := X) (M := M1) hRf1 k3.2.1 k5.ra k4.2.1 q) ?_
    rintro r2 M2 ⟨rfl, hRf2, -, t2, t3⟩
    refine ⟨?_, ?_⟩
    · have okc : ∀ (L : Nat → Int) (s : Int), kh_ok (mm_rk M1) (kq_T M1) L h s ↔ kh_ok (M1 4) (kc_T M1) L h s := by
        intro L s
        unfold kh_ok
        rw [k4.Tf k3, k3.fW]
        exact ⟨fun y i hi => (k3.fok hT _ s i).mp (y i hi), fun y i hi => (k3.fok hT _ s i).mpr (y i hi)⟩
      have ep : (fun s : Nat => kh_ok (mm_rk M1) (kq_T M1) (M1 203) h s ∧ kh_ok (mm_rk M1) (kq_T M1) (M1 204) h s) = (fun s : Nat => kh_ok (M 4) (kc_T M) (M 16) h s ∧ kh_ok (M 4) (kc_T M) (M 17) h s) := by
        funext s
        rw [okc, okc, k5.2.2.1.1, k5.2.2.1.2, tc, row 4 (by omega), row 16 (by omega), row 17 (by omega)]
      rw [ep, k3.n, row 4 (by omega)]
    · have e : ∀ a b, ¬ ((141 ≤ a ∧ a ≤ 143) ∨ (a = 183 ∧ 76 ≤ b ∧ b ≤ 78) ∨ a = 221) → M2 a b = M a b := by
        intro a b y
        rw [← e1 a b (by omega)]
        by_cases y1 : a = 183
        · subst y1; exact t3 b (by omega)
        · rw [t2 a y1 (by omega)]
      exact ⟨hRf2, h1.fr (fun a b q => e a b (by omega)), h2.fr (fun a b q => e a b (by omega)), h3.fr (fun a b q => e a b (by omega)), h4.fr (fun a b q => e a b (by omega)), h5.fr (fun a b q => e a b (by omega)), h6.fr (fun a b q => e a b (by omega)), h7.fr (fun a b q => e a b (by omega)), h8.fr (fun a b q => e a b (by omega)), h9.fr (fun a b q => e a b (by omega)), h10.fr (fun a b q => e a b (by omega)), h11.fr (fun a b q => e a b (by omega)), h12.fr (fun a b q => e a b (by omega)), h13.fr (fun a b q => e a b (by omega)), h14.fr (fun a b q => e a b (by omega)), h15.fr (fun a b q => e a b (by omega)), h16.fr (fun a b q => e a b (by omega))⟩
  · exact kk_no (c_X11_held0 (X := X) hRf hh q) (c_X13_held0 (X := X) hRf hh q) rfl hR
end

