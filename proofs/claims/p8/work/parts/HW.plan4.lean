/-! ===== plan, side by side ===== -/
theorem nk_g {K Lo Hi : Nat → Int} {h each fall x : Int} (hK : mm_KV K) : kP_g (nK K) Lo Hi h each fall x ↔ kP_g K Lo Hi h each fall x := by
  constructor
  · rintro (⟨a1, a2⟩ | ⟨S, C, a1, a2, ⟨s, B, m, a3, a4⟩, a5⟩)
    · exact Or.inl ⟨fun s B m q => a1 s B m ((nk_lp hK).mpr q), a2⟩
    · have a3 := (nk_lp hK).mp a3
      refine Or.inr ⟨S, C, a1, fun s B m q => ?_, ⟨s, B, m, a3, by rw [nk_sm hK a3] at a4; exact a4⟩, a5⟩
      have := a2 s B m ((nk_lp hK).mpr q)
      rw [nk_sm hK q] at this
      exact this
  · rintro (⟨a1, a2⟩ | ⟨S, C, a1, a2, ⟨s, B, m, a3, a4⟩, a5⟩)
    · exact Or.inl ⟨fun s B m q => a1 s B m ((nk_lp hK).mp q), a2⟩
    · refine Or.inr ⟨S, C, a1, fun s B m q => ?_, ⟨s, B, m, (nk_lp hK).mpr a3, by rw [nk_sm hK a3]; exact a4⟩, a5⟩
      have q := (nk_lp hK).mp q
      rw [nk_sm hK q]
      exact a2 s B m q
theorem kR3.g {M : mm_M} (h : kR3 M) {Lo Hi : Nat → Int} {hr each fall x : Int} : kP_g (mm_rk M) Lo Hi hr each fall x ↔ kP_g (M 4) Lo Hi hr each fall x := by
  rw [← nk_g h.2.1, h.2.2.1, nk_g h.1.1]
theorem kP_LF {g g' : Nat → Int} {la ld : Int} {T F : Nat} (hg : ∀ h, F ≤ h → h ≤ T → g' h = g h) : ∀ h, F ≤ h → kP_L g' la ld T h = kP_L g la ld T h ∧ kP_F g' la ld T h = kP_F g la ld T h := by
  intro h hh
  have := kP_cg (la := la) (ld := ld) (to := T) (from' := F) hg (T + 1 - h) (by omega)
  unfold kP_L kP_F
  rw [this]
  exact ⟨rfl, rfl⟩
theorem kP_uu {g g' : Nat → Int} {la ld : Int} {T F : Nat} (hg : ∀ h, F ≤ h → h ≤ T → g' h = g h) : ∀ k, kP_u g' la ld T F k = kP_u g la ld T F k
  | 0 => rfl
  | k + 1 => by
    unfold kP_u
    rw [kP_uu hg k, (kP_LF hg (F + k + 1) (by omega)).1, (kP_LF hg (F + k) (by omega)).1, (kP_LF hg (F + k) (by omega)).2]
section
variable {X : mm_X}
theorem kf_plan_at {M : mm_M} (hR : kR M) (hX : kX_at M) (f t each la ld fall : Int) (hf : mm_R f) (ht : mm_R t) (he : mm_R each) (hla : mm_R la) (hld : mm_R ld) (hfa : mm_R fall) : kkZ X Y_X11_plan Y_X13_plan [(0, f), (0, t), (0, each), (0, la), (0, ld), (0, fall)] M := by
  obtain ⟨hRf, h1, h2, h3, h4, h5, h6, h7, h8, h9, h10, h11, h12, h13, h14, h15, h16⟩ := id hR
  obtain ⟨n, hn⟩ : ∃ n : Nat, ks_n (M 4) = (n : Int) := ⟨(ks_n (M 4)).toNat, by have := ks_nb h3.1.1; omega⟩
  have hA := h5.2.2.2.1
  refine mm_C.mono (c_X11_plan (X := X) hX hRf h3.1 hA hn h7 hf ht he hla hld hfa) ?_
  rintro r M1 ⟨x, rfl, hRf1, hc⟩
  refine ⟨x, rfl, ?_⟩
  have e1 : ∀ a b, ¬ ((28 ≤ a ∧ a ≤ 41) ∨ (a = 21 ∧ 8 ≤ b ∧ b ≤ 9) ∨ (23 ≤ a ∧ a ≤ 27) ∨ (42 ≤ a ∧ a ≤ 113)) → M1 a b = M a b := by
    intro a b z
    rcases hc with ⟨-, -, q⟩ | ⟨F, T, -, -, -, g, -, -, q1, q2, -⟩
    · rw [q]
    · by_cases c : a = 21
      · rw [c]; exact q2 b (by omega) (by omega)
      · rw [q1 a (by omega) c (by omega) (by omega)]
  have k3 : kR3 M1 := h3.fr (fun a b y => e1 a b (by omega))
  have k5 : kR5 M1 := h5.fr (fun a b y => e1 a b (by omega))
  have n1 : ks_n (mm_rk M1) = (n : Int) := by
    rw [k3.n, show M1 4 = M 4 from funext fun b => e1 4 b (by omega)]; exact hn
  refine mm_C.mono (c_X13_plan (X := X) (M := M1) (n := n) hRf1 k3.2.1 k5.ra n1 hf ht he hla hld hfa) ?_
  rintro r2 M2 ⟨y, rfl, hRf2, hy⟩
  rcases hc with ⟨c1, c2, c3⟩ | ⟨F, T, c1, c2, c3, g, c4, c5, c6, c7, c8, c9, c10, c11⟩
  · rcases hy with ⟨y1, y2, y3⟩ | ⟨F, T, -, -, y1, -⟩
    · refine ⟨⟨_, rfl, Or.inr (by rw [c2, y2])⟩, ?_⟩
      rw [y3, c3]; exact hR
    · exact absurd y1 c1
  · rcases hy with ⟨y1, -⟩ | ⟨F', T', y1, y2, y3, g', y4, y5, y6, y7, y8, y9⟩
    · exact absurd c3 y1
    · have eF : F' = F := by omega
      have eT : T' = T := by omega
      subst eF
      subst eT
      have s203 : M1 203 = M1 16 ∧ M1 204 = M1 17 := k5.2.2.1
      have r4 : M1 4 = M 4 := funext fun b => e1 4 b (by omega)
      have r16 : M1 16 = M 16 := funext fun b => e1 16 b (by omega)
      have r17 : M1 17 = M 17 := funext fun b => e1 17 b (by omega)
      have r1 : ∀ a, a < 183 → M2 a = M1 a := fun a ha => y6.2.1 a (by omega) (by omega) (by omega)
      have e : ∀ a b, ¬ ((28 ≤ a ∧ a ≤ 41) ∨ (a = 21 ∧ 8 ≤ b ∧ b ≤ 9) ∨ (23 ≤ a ∧ a ≤ 27) ∨ (42 ≤ a ∧ a ≤ 113) ∨ (a = 183 ∧ (b = 39 ∨ b = 40 ∨ b = 84 ∨ b = 85)) ∨ (205 ≤ a ∧ a ≤ 207) ∨ (222 ≤ a ∧ a ≤ 225)) → M2 a b = M a b := by
        intro a b z
        have : M2 a b = M1 a b := by
          by_cases c : a = 183
          · rw [c]; exact y6.2.2 b (by omega) (by omega) (by omega) (by omega)
          · rw [y6.2.1 a c (by omega) (by omega)]
        rw [this]
        exact e1 a b (by omega)
      have k7 : kR7 M2 := by
        intro h hh
        rw [r1 23 (by decide), r1 4 (by decide), r1 16 (by decide), r1 17 (by decide), r1 (42 + 3 * h) (by omega), r1 (42 + 3 * h + 1) (by omega), r1 (42 + 3 * h + 2) (by omega)]
        exact c8 h hh
      have eg : ¬ kZ → ∀ h, F' ≤ h → h ≤ T' → g' h = g h := by
        intro z h h1 h2
        have a := y4 h h1 h2
        rw [s203.1, s203.2] at a
        have a := k3.g.mp a
        rw [r4, r16, r17] at a
        exact a.one ((c4 h h1 h2).resolve_left z)
      have k12 : kR12 M2 := by
        obtain ⟨q1, q2, q3, -⟩ := c3
        unfold kR12
        rw [r1 21 (by decide), r1 27 (by decide), c9, c10, y7, y8]
        refine ⟨by omega, by omega, ⟨by omega, by omega⟩, ?_⟩
        by_cases z : kZ
        · exact Or.inl z
        · refine Or.inr (Or.inr ⟨rfl, rfl, fun x x1 x2 => ?_⟩)
          obtain ⟨k, hk⟩ : ∃ k : Nat, x.toNat = F' + k := ⟨x.toNat - F', by omega⟩
          rw [hk, c11 k (by omega), y9 k (by omega)]
          exact kP_uu (eg z) (k + 1)
      refine ⟨⟨_, rfl, ?_⟩, ⟨hRf2, h1.fr (fun a b q => e a b (by omega)), h2.fr (fun a b q => e a b (by omega)), h3.fr (fun a b q => e a b (by omega)), h4.fr (fun a b q => e a b (by omega)), h5.fr (fun a b q => e a b (by omega)), h6.fr (fun a b q => e a b (by omega)), k7, h8.fr (fun a b q => e a b (by omega)), h9.fr (fun a b q => e a b (by omega)), h10.fr (fun a b q => e a b (by omega)), h11.fr (fun a b q => e a b (by omega)), k12, h13.fr (fun a b q => e a b (by omega)), h14.fr (fun a b q => e a b (by omega)), h15.fr (fun a b q => e a b (by omega)), h16.fr (fun a b q => e a b (by omega))⟩⟩
      by_cases z : kZ
      · exact Or.inl z
      · exact Or.inr (by rw [y5, c5, (kP_LF (eg z) F' (Nat.le_refl _)).1])
theorem kf_plan (hN : kX_never) : kF6Z X Y_X11_plan Y_X13_plan := fun M hR f t each la ld fall hf ht he hla hld hfa => kf_plan_at hR (hN.at hR) f t each la ld fall hf ht he hla hld hfa
end

