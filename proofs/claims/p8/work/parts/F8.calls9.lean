/-! ===== calls side by side: a new kite ===== -/
theorem kv_of {K K' : Nat → Int} (h : mm_KV K') (a : kA K K') (b : ∀ i, i < 3 → 0 ≤ K (20 + i) ∧ K (20 + i) ≤ 99) : mm_KV K := by
  obtain ⟨a1, a2, a3⟩ := a
  unfold mm_KV at h ⊢
  rw [a1 0 (by decide), a1 1 (by decide), a1 2 (by decide), a1 3 (by decide), a1 4 (by decide), a1 5 (by decide), a1 6 (by decide), a1 7 (by decide), a1 8 (by decide), a1 9 (by decide), a1 10 (by decide)]
  obtain ⟨k0, k1, k2, k3, k4, k5, k6, k7, k8, k9, k10, k11, k12⟩ := h
  refine ⟨k0, k1, k2, k3, k4, k5, k6, k7, k8, k9, k10, b, ?_⟩
  intro i hi; rw [a3 i hi]; exact k12 i hi
section
variable {X : mm_X}
theorem kf_kite : kF0 X Y_X11_kite Y_X13_kite := by
  intro M hR
  obtain ⟨hRf, h1, h2, h3, h4, h5, h6, h7, h8, h9, h10, h11, h12, h13, h14, h15, h16⟩ := id hR
  obtain ⟨n, hn⟩ : ∃ n, n = (M 1 1).toNat := ⟨_, rfl⟩
  have hl := h1.2.1
  have hni : M 1 1 = (n : Int) := by omega
  have h22 : 0 ≤ M 5 22 ∧ M 5 22 ≤ 99 := by
    obtain ⟨-, -, -, -, -, -, -, -, -, -, -, k11, -⟩ := h3.2.2.2.1
    exact k11 2 (by decide)
  obtain ⟨E, hE⟩ : ∃ E, E = kp_text (M 2) n 13 0 0 0 (kp_D0 (M 5)) := ⟨_, rfl⟩
  have c1 := c_X11_kite (X := X) (n := n) hRf ⟨hni, by omega, h1.2.2.2⟩ h22
  rw [← hE] at c1
  refine mm_C.mono c1 ?_
  rintro r M1 ⟨hRf1, p5, p0, p⟩
  have row : ∀ a, 183 ≤ a → M1 a = M a := by
    intro a ha
    match E, p with
    | .ok (c, D), p => exact p.2.2.2.2.2.1 a (by omega) (by omega) (by omega) (by omega) (by omega) (by omega) (by omega) (by omega)
    | .error (k, s), p => exact p.2.2.2 a (by omega) (by omega)
  have c2 := c_X13_kite (X := X) (M := M1) (n := n) hRf1 ⟨by rw [row 183 (by decide), h1.1]; exact hni, by omega⟩ (by rw [row 185 (by decide), h1.2.2.1]; exact h1.2.2.2) (M 5)
  rw [row 185 (by decide), h1.2.2.1, ← hE] at c2
  have bd1 : kq_bd M1 := h3.2.2.2.2.fr (row 189 (by decide))
  match E, p, c2 with
  | .ok (c, D), p, c2 =>
    obtain ⟨rfl, p1, p2, n1, n2, n3, n4, n5, n6, n7, n8, n9, n10, n11, n12, n13⟩ := p
    refine ⟨_, rfl, mm_C.mono c2 ?_⟩
    rintro r2 M2 ⟨hRf2, t0, rfl, t1, t2, ⟨d1, d2, d3, d4, d5⟩, d6, d7, d8, d9, d10, d11, d12, d13, d14, d15, d16, d17⟩
    refine ⟨rfl, ?_⟩
    obtain ⟨bd2, lf2⟩ := d6 bd1
    have e2 : ∀ a b, ¬ ((a = 183 ∧ ((2 ≤ b ∧ b ≤ 9) ∨ (16 ≤ b ∧ b ≤ 18) ∨ b = 20 ∨ b = 62 ∨ b = 88 ∨ b = 89 ∨ (97 ≤ b ∧ b ≤ 99))) ∨ (186 ≤ a ∧ a ≤ 192) ∨ (a = 216 ∧ b < 6)) → M2 a b = M1 a b := by
      intro a b y
      by_cases y1 : a = 183
      · subst y1; exact d8 b (by omega) (by omega) (by omega) (by omega) (by omega) (by omega) (by omega)
      · by_cases y2 : a = 216
        · subst y2; exact d11 b (by omega)
        · rw [d7 a y1 (by omega) y2]
    have e1 : ∀ a b, ¬ ((a = 0 ∧ b = 12) ∨ a = 1 ∨ (3 ≤ a ∧ a ≤ 10) ∨ a = 18 ∨ a = 23 ∨ (121 ≤ a ∧ a ≤ 138) ∨ a = 144 ∨ a = 174) → M1 a b = M a b := by
      intro a b y
      by_cases y1 : a = 0
      · subst y1; exact n7 b (by omega)
      · rw [n3 a y1 (by omega) (by omega) (by omega) (by omega) (by omega) (by omega) (by omega)]
    have e : ∀ a b, ¬ ((a = 0 ∧ b = 12) ∨ a = 1 ∨ (3 ≤ a ∧ a ≤ 10) ∨ a = 18 ∨ a = 23 ∨ (121 ≤ a ∧ a ≤ 138) ∨ a = 144 ∨ a = 174 ∨ (a = 183 ∧ ((2 ≤ b ∧ b ≤ 9) ∨ (16 ≤ b ∧ b ≤ 18) ∨ b = 20 ∨ b = 62 ∨ b = 88 ∨ b = 89 ∨ (97 ≤ b ∧ b ≤ 99))) ∨ (186 ≤ a ∧ a ≤ 192) ∨ (a = 216 ∧ b < 6)) → M2 a b = M a b := by
      intro a b y; rw [e2 a b (by omega), e1 a b (by omega)]
    have lo : ∀ a, a < 183 → M2 a = M1 a := fun a ha => funext fun b => e2 a b (by omega)
    have k1 : kR1 M2 := by
      refine ⟨by rw [t0, lo 1 (by decide), p0], by rw [lo 1 (by decide), p0]; omega, ?_, ?_⟩
      · funext b; rw [e 185 b (by omega), e 2 b (by omega), h1.2.2.1]
      · intro k hk; rw [e 2 k (by omega)]; exact h1.2.2.2 k hk
    have k2 : kR2 M2 := ⟨by rw [t1, lo 1 (by decide), p1], by rw [t2, lo 1 (by decide), p2]⟩
    have hka : kA (mm_rk M2) (M2 4) := by
      rw [lo 4 (by decide)]
      refine ⟨fun i hi => ?_, fun i hi hi2 => ?_, fun i hi => ?_⟩
      · rw [n2 i (by omega)]
        by_cases q : i < 10
        · exact d1 i q
        · have ei : i = 10 := by omega
          subst ei; exact d2
      · rw [d2] at hi2
        rw [n2 (20 + i) (by omega)]; exact d4 i hi2
      · rw [n2 (30 + i) (by omega)]; exact d5 i hi
    have ck2 : mm_CK M2 := kx_ck (fun a _ a2 => lo a (by omega)) n1
    have k3 : kR3 M2 := by
      refine ⟨ck2, kv_of ck2.1 hka ?_, hka.nk, by rw [lo 5 (by decide)]; exact p5, bd2⟩
      intro i hi; rw [mm_rk_l M2 hi]; exact lf2 i hi
    have k4 : kR4 M2 := by
      have l1 : M2 18 1 = 0 := by rw [lo 18 (by decide)]; exact n4
      refine ⟨⟨by rw [l1]; omega, fun l hl => ?_⟩, ⟨by rw [d9]; omega, fun l hl => ?_⟩, by rw [l1, d9], fun l hl => ?_⟩
      · rw [l1] at hl; omega
      · rw [d9] at hl; omega
      · rw [l1] at hl; omega
    have k7 : kR7 M2 := by
      intro k hk
      have u : M2 23 k = 0 := by rw [lo 23 (by decide)]; exact n13 k hk
      rw [u, e (42 + 3 * k) 2 (by omega)]
      exact ⟨Or.inl rfl, (h7 k hk).2.1, fun q => absurd q (by decide)⟩
    have k8 : kR8 M2 := by
      obtain ⟨g1, g2, g3, g4, g5, g6, g7, g8, g9, g10, g11, g12⟩ := id h8
      have r117 : M2 117 = M 117 := funext fun b => e 117 b (by omega)
      have u12 : M2 0 12 = 0 := by rw [lo 0 (by decide)]; exact n6
      unfold kR8
      rw [r117, u12, d17, e 183 55 (by omega), e 183 56 (by omega), e 183 57 (by omega), e 183 58 (by omega), e 183 59 (by omega), e 183 61 (by omega), e 183 68 (by omega)]
      exact ⟨g1, g2, Or.inl rfl, g4, g5, Or.inl rfl, g7, g8, g9, g10, ⟨fun q => absurd q (by decide), fun q => absurd q.1 (by decide)⟩, fun q => absurd q (by decide)⟩
    have k9 : kR9 M2 := by
      intro k hk
      have u : M2 (121 + 3 * k) 2 = 0 := by rw [lo _ (by omega)]; exact (n5 k hk).1
      rw [u, d10 k hk, e 217 k (by omega)]
      exact ⟨by omega, rfl, (h9 k hk).2.2.1, fun q => absurd q (by decide), fun i hi => absurd hi (by omega)⟩
    have k13 : kR13 M2 := by
      have g1 : M2 144 1 = 0 := by rw [lo 144 (by decide)]; exact n8
      have g2 : M2 144 2 = 0 := by rw [lo 144 (by decide)]; exact n9
      refine ⟨⟨by rw [g1]; omega, fun i hi => ?_⟩, fun i hi => ?_, ⟨by rw [d12]; omega, fun i hi => ?_, fun i j _ hj => ?_⟩, by rw [g1, d12], by rw [g2, d13], fun i hi => ?_⟩
      · rw [g1] at hi; omega
      · rw [g1] at hi; omega
      · rw [d12] at hi; omega
      · rw [d12] at hj; omega
      · rw [g1] at hi; omega
    have k16 : kR16 M2 := by
      have a1 : M2 174 2 = 0 := by rw [lo 174 (by decide)]; exact n10
      have a2 : M2 174 3 = 0 := by rw [lo 174 (by decide)]; exact n11
      have a3 : M2 174 4 = 0 := by rw [lo 174 (by decide)]; exact n12
      refine ⟨⟨by rw [a1]; omega, by rw [a2]; omega, fun k hk => ?_, fun k hk => ?_⟩, ⟨by rw [d14]; omega, by rw [d15]; omega, fun k hk => ?_, fun k hk => ?_⟩, by rw [a1, d14], by rw [a2, d15], by rw [a3, d16]; omega, fun k hk => ?_, fun k hk => ?_⟩
      · rw [a1] at hk; omega
      · rw [a2] at hk; omega
      · rw [d14] at hk; omega
      · rw [d15] at hk; omega
      · rw [a1] at hk; omega
      · rw [a2] at hk; omega
    exact ⟨hRf2, k1, k2, k3, k4, h5.fr (fun a b q => e a b (by omega)), h6.fr (fun a b q => e a b (by omega)), k7, k8, k9, h10.fr (fun a b q => e a b (by omega)), h11.fr (fun a b q => e a b (by omega)), h12.fr (fun a b q => e a b (by omega)), k13, h14.fr (fun a b q => e a b (by omega)), h15.fr (fun a b q => e a b (by omega)), k16⟩
  | .error (k, s), p, c2 =>
    obtain ⟨rfl, p1, p2, p3⟩ := p
    refine ⟨_, rfl, mm_C.mono c2 ?_⟩
    rintro r2 M2 ⟨hRf2, t0, rfl, t1, t2, t3, t4, t5⟩
    refine ⟨rfl, ?_⟩
    have e2 : ∀ a b, ¬ ((a = 183 ∧ ((2 ≤ b ∧ b ≤ 9) ∨ b = 17 ∨ b = 18)) ∨ (a = 187 ∨ a = 189 ∨ a = 191 ∨ a = 192)) → M2 a b = M1 a b := by
      intro a b y
      by_cases y1 : a = 183
      · subst y1; exact t4 b (by omega) (by unfold kq_S; omega)
      · rw [t3 a y1 (by unfold kq_A; omega)]
    have e1 : ∀ a b, ¬ (a = 1 ∨ a = 5) → M1 a b = M a b := fun a b y => by rw [p3 a (by omega) (by omega)]
    have e : ∀ a b, ¬ (a = 1 ∨ a = 5 ∨ (a = 183 ∧ ((2 ≤ b ∧ b ≤ 9) ∨ b = 17 ∨ b = 18)) ∨ (a = 187 ∨ a = 189 ∨ a = 191 ∨ a = 192)) → M2 a b = M a b := by
      intro a b y; rw [e2 a b (by omega), e1 a b (by omega)]
    have k1 : kR1 M2 := by
      refine ⟨by rw [t0, e2 1 1 (by omega), p0], by rw [e2 1 1 (by omega), p0]; omega, ?_, ?_⟩
      · funext b; rw [e 185 b (by omega), e 2 b (by omega), h1.2.2.1]
      · intro k hk; rw [e 2 k (by omega)]; exact h1.2.2.2 k hk
    have k2 : kR2 M2 := ⟨by rw [t1, e2 1 2 (by omega), p1], by rw [t2, e2 1 3 (by omega), p2]⟩
    -- the kite without the draft and the lifts that are read
    have rk : mm_rk M2 = mm_rk M := by
      funext i
      unfold mm_rk
      rw [e 183 16 (by omega)]
      split
      · exact e _ _ (by omega)
      · split
        · rfl
        · split
          · exact e _ _ (by omega)
          · exact e _ _ (by omega)
    have m4 : M2 4 = M 4 := funext fun b => e 4 b (by omega)
    have k3 : kR3 M2 := by
      obtain ⟨g1, g2, g3, g4, g5⟩ := id h3
      refine ⟨?_, by rw [rk]; exact g2, by rw [rk, m4]; exact g3, ?_, t5 bd1⟩
      · unfold mm_CK at g1 ⊢
        have r : ∀ a, a = 3 ∨ a = 4 ∨ (6 ≤ a ∧ a ≤ 10) → M2 a = M a := fun a ha => funext fun b => e a b (by omega)
        rw [r 3 (by omega), r 4 (by omega), r 6 (by omega), r 7 (by omega), r 8 (by omega), r 9 (by omega), r 10 (by omega)]
        exact g1
      · have : M2 5 = M1 5 := funext fun b => e2 5 b (by omega)
        rw [this]; exact p5
    have k4 : kR4 M2 := by
      have r : ∀ a, (a = 18 ∨ a = 19 ∨ (193 ≤ a ∧ a ≤ 197)) → M2 a = M a := fun a ha => funext fun b => e a b (by omega)
      have h4 := h4
      unfold kR4 mm_CR mm_RR kq_C kq_Q kq_H kq_B kq_D kc_C kc_Q kc_H kc_B kc_D at h4 ⊢
      rw [rk, m4, r 18 (by omega), r 19 (by omega), r 193 (by omega), r 194 (by omega), r 195 (by omega), r 196 (by omega), r 197 (by omega), e 183 20 (by omega)]
      exact h4
    have k16 : kR16 M2 := by
      have r : ∀ a, ((174 ≤ a ∧ a ≤ 182) ∨ (233 ≤ a ∧ a ≤ 242)) → M2 a = M a := fun a ha => funext fun b => e a b (by omega)
      have h16 := h16
      unfold kR16 mm_CG mm_RG at h16 ⊢
      rw [rk, m4, r 174 (by omega), r 175 (by omega), r 176 (by omega), r 177 (by omega), r 178 (by omega), r 179 (by omega), r 180 (by omega), r 181 (by omega), r 182 (by omega), r 233 (by omega), r 234 (by omega), r 235 (by omega), r 236 (by omega), r 237 (by omega), r 238 (by omega), r 239 (by omega), r 240 (by omega), r 241 (by omega), r 242 (by omega), e 183 97 (by omega), e 183 98 (by omega), e 183 99 (by omega)]
      exact h16
    have k13 : kR13 M2 := by
      obtain ⟨g1, g2, g3, g4, g5, g6⟩ := id h13
      have r : ∀ a, ((144 ≤ a ∧ a ≤ 171) ∨ (216 ≤ a ∧ a ≤ 219) ∨ a = 228 ∨ a = 229) → M2 a = M a := fun a ha => funext fun b => e a b (by omega)
      have hmC : ∀ i j : Nat, (i : Int) < M 144 1 → (j : Int) < M 144 1 → (kd_mC M i j ↔ kd_mC M2 i j) := by
        intro i j hi hj
        have := g1.1
        unfold kd_mC
        rw [m4, r 146 (by omega), r (148 + 3 * i) (by omega), r (148 + 3 * i + 2) (by omega), r (148 + 3 * j) (by omega), r (148 + 3 * j + 2) (by omega)]
      have hmR : kd_mR M2 = kd_mR M := kd_mR_congr (r 216 (by omega)) (r 217 (by omega)) (r 219 (by omega)) (r 228 (by omega)) rk
      refine ⟨mm_CF_cg g1 (fun a b y => e a b (by omega)) hmC, ?_, ?_, ?_, ?_, ?_⟩
      · intro i hi
        rw [r 144 (by omega)] at hi
        have hb := g1.1
        have := g2 i hi
        rw [m4, r 146 (by omega), r (148 + 3 * i) (by omega), r (148 + 3 * i + 2) (by omega)]
        exact this
      · rw [hmR]
        unfold mm_RF kl_ok kl_S at g3 ⊢
        rw [rk, r 216 (by omega), r 217 (by omega), r 218 (by omega), r 219 (by omega), r 228 (by omega), r 229 (by omega), e 183 88 (by omega)]
        exact g3
      · rw [e 183 88 (by omega), r 144 (by omega)]; exact g4
      · rw [e 183 89 (by omega), r 144 (by omega)]; exact g5
      · intro i hi
        rw [r 144 (by omega)] at hi
        have hb := g1.1
        have := g6 i hi
        unfold kl_S at this ⊢
        rw [rk, r 228 (by omega), r 146 (by omega), r 216 (by omega), r 217 (by omega), r 218 (by omega), r 219 (by omega), r (148 + 3 * i) (by omega), r (148 + 3 * i + 2) (by omega)]
        exact this
    exact ⟨hRf2, k1, k2, k3, k4, h5.fr (fun a b q => e a b (by omega)), h6.fr (fun a b q => e a b (by omega)), h7.fr (fun a b q => e a b (by omega)), h8.fr (fun a b q => e a b (by omega)), h9.fr (fun a b q => e a b (by omega)), h10.fr (fun a b q => e a b (by omega)), h11.fr (fun a b q => e a b (by omega)), h12.fr (fun a b q => e a b (by omega)), k13, h14.fr (fun a b q => e a b (by omega)), h15.fr (fun a b q => e a b (by omega)), k16⟩
end

