/-! ===== calls side by side: the field ===== -/
theorem kd_v_cg {f g : Nat → Nat → Prop} {v w : Nat → Int} {n set : Nat} (h1 : ∀ i j, i < j → j < n → (f i j ↔ g i j)) (h2 : ∀ i, i < n → v i = w i) : kd_v f v n set = kd_v g w n set := by
  have hg : kd_good f n set ↔ kd_good g n set := by
    unfold kd_good
    constructor
    · intro h i j a b c d e; exact h i j a b c d ((h1 i j a b).mpr e)
    · intro h i j a b c d e; exact h i j a b c d ((h1 i j a b).mp e)
  by_cases q : kd_good f n set
  · rw [kd_v1 q, kd_v1 (hg.mp q)]
    unfold kd_sum
    exact ka_sum_congr (fun i hi => by rw [h2 i hi])
  · rw [kd_v0 q, kd_v0 (fun z => q (hg.mpr z))]
theorem kd_b_cg {v w : Nat → Int} : ∀ {k : Nat}, (∀ i, v i = w i) → kd_b v k = kd_b w k
  | 0, _ => rfl
  | k + 1, h => by unfold kd_b; rw [kd_b_cg h, h (k + 1)]
theorem kR13.meet {M : mm_M} (h3 : kR3 M) (h13 : kR13 M) {i j : Nat} (hi : (i : Int) < M 144 1) (hj : (j : Int) < M 144 1) : kd_mC M i j ↔ kd_mR M i j := by
  obtain ⟨g1, g2, g3, g4, g5, g6⟩ := h13
  obtain ⟨a1, a2, a3, a4⟩ := g6 i hi
  obtain ⟨b1, b2, b3, b4⟩ := g6 j hj
  have c1 := g2 i hi
  have c2 := g2 j hj
  unfold kd_mC kd_mR
  rw [a1, a2, b1, b2, kz_same (S := M (148 + 3 * i + 2)) (T := M (148 + 3 * j + 2)) h3 (by omega) (by omega) (fun t ht => (a4 t (by omega)).symm) (fun t ht => (b4 t (by omega)).symm) (by omega) (by omega)]
section
variable {X : mm_X}
theorem kf_field : kF0 X Y_X11_field Y_X13_field := by
  intro M hR
  obtain ⟨hRf, h1, h2, h3, h4, h5, h6, h7, h8, h9, h10, h11, h12, h13, h14, h15, h16⟩ := id hR
  have hc := h13.1.1
  obtain ⟨n, hn⟩ : ∃ n, n = (M 144 1).toNat := ⟨_, rfl⟩
  have hni : M 144 1 = (n : Int) := by omega
  refine mm_C.mono (c_X11_field (X := X) hRf h13.1 hni) ?_
  rintro r M1 ⟨rfl, hRf1, hM1⟩
  refine ⟨_, rfl, ?_⟩
  obtain ⟨S, hS⟩ : ∃ S, S = (kd_b (kd_v (kd_mC M) (fun i => M (148 + 3 * i) 3) n) (2 ^ n - 1)).2 := ⟨_, rfl⟩
  rw [← hS] at hM1
  have e1 : ∀ a b, ¬ (a = 144 ∧ b = 2) → M1 a b = M a b := fun a b y => by rw [hM1, mm_up_n y]
  have row : ∀ a, a ≠ 144 → M1 a = M a := fun a y => funext fun b => e1 a b (by omega)
  have rk1 : mm_rk M1 = mm_rk M := mm_rk.fr (fun a b y => e1 a b (by omega))
  have mR : kd_mR M1 = kd_mR M := kd_mR_congr (row 216 (by decide)) (row 217 (by decide)) (row 219 (by decide)) (row 228 (by decide)) rk1
  have hF1 : mm_RF M1 (kd_mR M) := by
    have := h13.2.2.1
    unfold mm_RF kl_ok kl_S at this ⊢
    rw [rk1, row 216 (by decide), row 217 (by decide), row 218 (by decide), row 219 (by decide), row 228 (by decide), row 229 (by decide), row 183 (by decide)]
    exact this
  have hn1 : M1 183 88 = (n : Int) := by rw [row 183 (by decide), h13.2.2.2.1]; exact hni
  refine mm_C.mono (c_X13_field (X := X) (M := M1) hRf1 hF1 hn1) ?_
  rintro r2 M2 ⟨rfl, hRf2, hM2⟩
  have ev : ∀ set, kd_v (kd_mR M) (fun i => M1 218 (6 + i)) n set = kd_v (kd_mC M) (fun i => M (148 + 3 * i) 3) n set := by
    intro set
    refine kd_v_cg ?_ ?_
    · intro i j hij hj
      exact (h13.meet h3 (by omega) (by omega)).symm
    · intro i hi
      show M1 218 (6 + i) = M (148 + 3 * i) 3
      rw [row 218 (by decide)]
      exact (h13.2.2.2.2.2 i (by omega)).2.2.1
  rw [kd_b_cg ev] at hM2 ⊢
  rw [← hS] at hM2
  refine ⟨rfl, ?_⟩
  have e : ∀ a b, ¬ ((a = 144 ∧ b = 2) ∨ (a = 183 ∧ b = 89)) → M2 a b = M a b := by
    intro a b y; rw [hM2, mm_up_n (by omega), e1 a b (by omega)]
  have k13 : kR13 M2 := by
    obtain ⟨g1, g2, g3, g4, g5, g6⟩ := id h13
    have r2 : ∀ a, a ≠ 144 → a ≠ 183 → M2 a = M a := fun a y y2 => funext fun b => e a b (by omega)
    have rk2 : mm_rk M2 = mm_rk M := mm_rk.fr (fun a b y => e a b (by omega))
    have mC2 : kd_mC M2 = kd_mC M ∨ True := Or.inr trivial
    have mR2 : kd_mR M2 = kd_mR M := kd_mR_congr (r2 216 (by decide) (by decide)) (r2 217 (by decide) (by decide)) (r2 219 (by decide) (by decide)) (r2 228 (by decide) (by decide)) rk2
    refine ⟨mm_CF_cg g1 (fun a b y => e a b (by omega)) ?_, ?_, ?_, ?_, ?_, ?_⟩
    · intro i j hi hj
      unfold kd_mC
      rw [r2 4 (by decide) (by decide), r2 146 (by decide) (by decide), r2 (148 + 3 * i) (by omega) (by omega), r2 (148 + 3 * i + 2) (by omega) (by omega), r2 (148 + 3 * j) (by omega) (by omega), r2 (148 + 3 * j + 2) (by omega) (by omega)]
    · intro i hi
      rw [e 144 1 (by omega)] at hi
      have := g2 i hi
      rw [r2 4 (by decide) (by decide), r2 146 (by decide) (by decide), r2 (148 + 3 * i) (by omega) (by omega), r2 (148 + 3 * i + 2) (by omega) (by omega)]
      exact this
    · rw [mR2]
      unfold mm_RF kl_ok kl_S at g3 ⊢
      rw [rk2, r2 216 (by decide) (by decide), r2 217 (by decide) (by decide), r2 218 (by decide) (by decide), r2 219 (by decide) (by decide), r2 228 (by decide) (by decide), r2 229 (by decide) (by decide), e 183 88 (by omega)]
      exact g3
    · rw [e 183 88 (by omega), e 144 1 (by omega)]; exact g4
    · rw [hM2, mm_up_s, mm_up_row (by decide), hM1, mm_up_s]
    · intro i hi
      rw [e 144 1 (by omega)] at hi
      have := g6 i hi
      unfold kl_S at this ⊢
      rw [rk2, r2 228 (by decide) (by decide), r2 146 (by decide) (by decide), r2 216 (by decide) (by decide), r2 217 (by decide) (by decide), r2 218 (by decide) (by decide), r2 219 (by decide) (by decide), r2 (148 + 3 * i) (by omega) (by omega), r2 (148 + 3 * i + 2) (by omega) (by omega)]
      exact this
  exact ⟨hRf2, h1.fr (fun a b q => e a b (by omega)), h2.fr (fun a b q => e a b (by omega)), h3.fr (fun a b q => e a b (by omega)), h4.fr (fun a b q => e a b (by omega)), h5.fr (fun a b q => e a b (by omega)), h6.fr (fun a b q => e a b (by omega)), h7.fr (fun a b q => e a b (by omega)), h8.fr (fun a b q => e a b (by omega)), h9.fr (fun a b q => e a b (by omega)), h10.fr (fun a b q => e a b (by omega)), h11.fr (fun a b q => e a b (by omega)), h12.fr (fun a b q => e a b (by omega)), k13, h14.fr (fun a b q => e a b (by omega)), h15.fr (fun a b q => e a b (by omega)), h16.fr (fun a b q => e a b (by omega))⟩
theorem kf_stand : kF2 X Y_X11_stand Y_X13_stand := by
  intro M hR x y hx hy
  obtain ⟨hRf, h1, h2, h3, h4, h5, h6, h7, h8, h9, h10, h11, h12, h13, h14, h15, h16⟩ := id hR
  have hc := h13.1.1
  obtain ⟨n, hn⟩ : ∃ n, n = (M 144 1).toNat := ⟨_, rfl⟩
  have hni : M 144 1 = (n : Int) := by omega
  by_cases q : ((0 ≤ x ∧ x ≤ 40) ∧ 0 ≤ y ∧ y ≤ 5) ∧ 0 < M (121 + 3 * y.toNat) 2 ∧ M 144 1 < 8
  · obtain ⟨⟨qx, qy⟩, qp, q8⟩ := id q
    have hk : y.toNat < 6 := by omega
    obtain ⟨k, hkk⟩ : ∃ k, k = y.toNat := ⟨_, rfl⟩
    rw [← hkk] at qp hk
    obtain ⟨a1, a2, a3, a4, a5⟩ := h9 k hk
    obtain ⟨w1, w2, w3⟩ := a4 qp
    have c1 := c_X11_stand1 (X := X) (n := n) hRf h3.1 h13.1 h13.2.1 hni (by omega) qx qy (by rw [← hkk]; omega) (by rw [← hkk]; exact w2) (by rw [← hkk]; exact fun i hi => (a5 i hi).2.2.2)
    rw [← hkk] at c1
    refine mm_C.mono c1 ?_
    rintro r M1 ⟨rfl, hRf1, -, p1, p2, p3, p4, p5, p6, p7, p8, p9, p10, p11⟩
    refine ⟨_, rfl, ?_⟩
    have e1 : ∀ a b, ¬ ((a = 144 ∧ 1 ≤ b ∧ b ≤ 2) ∨ (a = 146 ∧ b = n) ∨ a = 147 ∨ (148 + 3 * n ≤ a ∧ a ≤ 148 + 3 * n + 2)) → M1 a b = M a b := by
      intro a b z
      by_cases y1 : a = 144
      · subst y1; exact p2 b (by omega) (by omega)
      · by_cases y2 : a = 146
        · subst y2; exact p5 b (by omega)
        · rw [p1 a y1 y2 (by omega) (by omega) (by omega) (by omega)]
    have row : ∀ a, ¬ (144 ≤ a ∧ a ≤ 171) → M1 a = M a := fun a z => funext fun b => e1 a b (by omega)
    have rk1 : mm_rk M1 = mm_rk M := mm_rk.fr (fun a b z => e1 a b (by omega))
    have k3 : kR3 M1 := h3.fr (fun a b z => e1 a b (by omega))
    have mR1 : kd_mR M1 = kd_mR M := kd_mR_congr (row 216 (by omega)) (row 217 (by omega)) (row 219 (by omega)) (row 228 (by omega)) rk1
    have hF1 : mm_RF M1 (kd_mR M1) := by
      have := h13.2.2.1
      rw [mR1]
      unfold mm_RF kl_ok kl_S at this ⊢
      rw [rk1, row 216 (by omega), row 217 (by omega), row 218 (by omega), row 219 (by omega), row 228 (by omega), row 229 (by omega), row 183 (by omega)]
      exact this
    have ok1 : kl_ok M1 k := kl_ok_congr (row 216 (by omega)) (row 217 (by omega)) (row 219 (by omega)) rk1 (h9.ok h3 hk)
    have c2 := c_X13_stand1 (X := X) (M := M1) (n := n) (x := x) (y := y) hRf1 k3.2.1 hF1 (by rw [row 183 (by omega), h13.2.2.2.1]; exact hni) (by omega) qx qy (by rw [← hkk]; exact ok1) (by rw [← hkk, row 216 (by omega), a2]; exact qp) (by rw [← hkk, row 218 (by omega), w1]; exact w2)
    rw [← hkk] at c2
    refine mm_C.mono c2 ?_
    rintro r2 M2 ⟨rfl, hRf2, -, t1, t2, t3, t4, t5, t6, t7, t8, t9, t10, t11, t12, t13⟩
    refine ⟨rfl, ?_⟩
    have e2 : ∀ a b, ¬ ((a = 183 ∧ 88 ≤ b ∧ b ≤ 89) ∨ (216 ≤ a ∧ a ≤ 218 ∧ b = 6 + n) ∨ (a = 219 ∧ 100 * (6 + n) ≤ b ∧ b < 100 * (6 + n) + 100) ∨ (226 ≤ a ∧ a ≤ 227) ∨ (a = 228 ∧ b = n) ∨ a = 229) → M2 a b = M1 a b := by
      intro a b z
      by_cases y1 : a = 183
      · subst y1; exact t2 b (by omega) (by omega)
      by_cases y2 : a = 216
      · subst y2; exact (t5 b (by omega)).1
      by_cases y3 : a = 217
      · subst y3; exact (t5 b (by omega)).2.1
      by_cases y4 : a = 218
      · subst y4; exact (t5 b (by omega)).2.2
      by_cases y5 : a = 219
      · subst y5; exact t9 b (by omega)
      by_cases y6 : a = 228
      · subst y6; exact t11 b (by omega)
      rw [t1 a y1 y2 y3 y4 y5 (by omega) (by omega) y6 (by omega)]
    have e : ∀ a b, ¬ ((a = 144 ∧ 1 ≤ b ∧ b ≤ 2) ∨ a = 146 ∨ a = 147 ∨ (148 ≤ a ∧ a ≤ 171) ∨ (a = 183 ∧ 88 ≤ b ∧ b ≤ 89) ∨ (216 ≤ a ∧ a ≤ 218 ∧ 6 ≤ b) ∨ (a = 219 ∧ 600 ≤ b) ∨ (226 ≤ a ∧ a ≤ 229)) → M2 a b = M a b := by
      intro a b z; rw [e2 a b (by omega), e1 a b (by omega)]
    have lo : ∀ a, a < 183 → M2 a = M1 a := fun a ha => funext fun b => e2 a b (by omega)
    have rk2 : mm_rk M2 = mm_rk M := mm_rk.fr (fun a b z => e a b (by omega))
    have m4 : M2 4 = M 4 := funext fun b => e 4 b (by omega)
    have c144 : M2 144 1 = (n : Int) + 1 := by rw [lo 144 (by decide)]; exact p3
    have runS : ∀ i, kf_run (M 4) (M 217 k) (fun i => M 219 (100 * k + i)) i = kf_run (M 4) (M2 217 (6 + n)) (fun i => M2 219 (100 * (6 + n) + i)) i ∨ 100 < i := by
      intro i
      by_cases hi : 100 < i
      · exact Or.inr hi
      · left
        rw [t7, row 217 (by omega)]
        refine kf_run_cg ?_
        intro j hj
        rw [t10 j (by omega), row 219 (by omega)]
    have k13 : kR13 M2 := by
      obtain ⟨g1, g2, g3, g4, g5, g6⟩ := id h13
      refine ⟨mm_CF_cg p11 (fun a b z => by rw [lo a (by omega)]) ?_, ?_, t13, by rw [t3, c144], by rw [t4, lo 144 (by decide), p4], ?_⟩
      · intro i j hi hj
        rw [p3] at hi hj
        unfold kd_mC
        rw [lo 4 (by decide), lo 146 (by decide), lo (148 + 3 * i) (by omega), lo (148 + 3 * i + 2) (by omega), lo (148 + 3 * j) (by omega), lo (148 + 3 * j + 2) (by omega)]
      · intro i hi
        rw [c144] at hi
        rw [m4, lo 146 (by decide), lo (148 + 3 * i) (by omega), lo (148 + 3 * i + 2) (by omega)]
        by_cases z : i = n
        · rw [z, p6, p7]
          refine ⟨by omega, qx, ?_⟩
          intro j hj
          rw [p10 j hj]
          exact (a5 j hj).2.2.2
        · have := g2 i (by omega)
          rw [p5 i z, p1 (148 + 3 * i) (by omega) (by omega) (by omega) (by omega) (by omega) (by omega), p1 (148 + 3 * i + 2) (by omega) (by omega) (by omega) (by omega) (by omega) (by omega)]
          exact this
      · intro i hi
        rw [c144] at hi
        rw [lo 146 (by decide), lo (148 + 3 * i) (by omega), lo (148 + 3 * i + 2) (by omega)]
        by_cases z : i = n
        · rw [z, t12, t6, t8, p6, p7, p8, row 216 (by omega), row 218 (by omega), a2, w1]
          refine ⟨rfl, rfl, rfl, ?_⟩
          intro j hj
          rw [p10 j hj, (a5 j hj).2.2.1]
          unfold kl_S
          rw [rk2, h3.run]
          rcases runS j with u | u
          · exact u
          · omega
        · have hi' : (i : Int) < M 144 1 := by omega
          obtain ⟨u1, u2, u3, u4⟩ := g6 i hi'
          have c3 := g2 i hi'
          rw [e2 228 i (by omega), e1 228 i (by omega), p5 i z, e2 216 (6 + i) (by omega), e1 216 _ (by omega), e2 218 (6 + i) (by omega), e1 218 _ (by omega), p1 (148 + 3 * i) (by omega) (by omega) (by omega) (by omega) (by omega) (by omega), p1 (148 + 3 * i + 2) (by omega) (by omega) (by omega) (by omega) (by omega) (by omega)]
          refine ⟨u1, u2, u3, ?_⟩
          intro j hj
          rw [u4 j hj]
          unfold kl_S
          rw [rk2, e2 217 (6 + i) (by omega), e1 217 _ (by omega)]
          exact kf_run_cg (fun j' hj' => by rw [e2 219 _ (by omega), e1 219 _ (by omega)])
    exact ⟨hRf2, h1.fr (fun a b q => e a b (by omega)), h2.fr (fun a b q => e a b (by omega)), h3.fr (fun a b q => e a b (by omega)), h4.fr (fun a b q => e a b (by omega)), h5.fr (fun a b q => e a b (by omega)), h6.fr (fun a b q => e a b (by omega)), h7.fr (fun a b q => e a b (by omega)), h8.fr (fun a b q => e a b (by omega)), h9.fr (fun a b q => e a b (by omega)), h10.fr (fun a b q => e a b (by omega)), h11.fr (fun a b q => e a b (by omega)), h12.fr (fun a b q => e a b (by omega)), k13, h14.fr (fun a b q => e a b (by omega)), h15.fr (fun a b q => e a b (by omega)), h16.fr (fun a b q => e a b (by omega))⟩
  · have c1 := c_X11_stand0 (X := X) hRf hx hy hc (fun k hk => (h9 k hk).1) q
    have q' : ¬ (((0 ≤ x ∧ x ≤ 40) ∧ 0 ≤ y ∧ y ≤ 5) ∧ 0 < M 216 y.toNat ∧ M 183 88 < 8) := by
      intro z
      rw [h13.2.2.2.1, (h9 y.toNat (by omega)).2.1] at z
      exact q z
    have c2 := c_X13_stand0 (X := X) hRf hx hy (by rw [h13.2.2.2.1]; exact hc) (fun k hk => h9.ok h3 hk) q'
    refine kk_no c1 c2 ?_ hR
    by_cases w : (0 ≤ x ∧ x ≤ 40) ∧ 0 ≤ y ∧ y ≤ 5
    · rw [if_pos w, if_pos w, (h9 y.toNat (by omega)).2.1]
    · rw [if_neg w, if_neg w]
end

