/-! ===== calls side by side: fits, rules, kites ===== -/
def kl_r3 (D : Nat → Int) (x : Nat) : Prop := mm_R (D x) ∧ mm_R (D (x + 1)) ∧ mm_R (D (x + 2))
def kl_good (D : Nat → Int) (sl : Int) (l : Nat) : Prop := (1 ≤ D (11 * l) ∧ D (11 * l) ≤ 3) ∧ (∀ c : Nat, (c : Int) < D (11 * l) → kl_r3 D (11 * l + 1 + 3 * c)) ∧ 0 ≤ D (11 * l + 10) ∧ D (11 * l + 10) < 15 * sl
section
variable {B : Nat → Int} {n : Nat} {sl : Int}
theorem kl_cond_ok {a p p' : Nat} {D D' : Nat → Int} (h : kl_cond B n a p D = .ok (p', D')) : kl_r3 D' a ∧ ∀ x, ¬ (a ≤ x ∧ x < a + 3) → D' x = D x := by
  unfold kl_cond at h
  split at h
  · cases h
  · rename_i h1
    split at h
    · cases h
    · rename_i h2
      split at h
      · cases h
      · cases h
        have b2 := (kl_nmb (B := B) (n := n) (p := p)).2.1
        have b3 := (kl_nmb (B := B) (n := n) (p := kt_e B n p)).2.2.1
        have bv := kt_vb (B := B) (n := n) (p := kt_e B n (kt_e B n p))
        refine ⟨⟨?_, ?_, ?_⟩, ?_⟩
        · unfold kl_set
          rw [if_neg (by omega), if_neg (by omega), if_pos rfl]
          unfold mm_R; omega
        · unfold kl_set
          rw [if_neg (by omega), if_pos rfl]
          unfold mm_R; omega
        · unfold kl_set
          rw [if_pos rfl]
          unfold mm_R; omega
        · intro x hx
          unfold kl_set
          rw [if_neg (by omega), if_neg (by omega), if_neg (by omega)]
theorem kl_conds_ok {b : Nat} : ∀ {k j p p' : Nat} {D D' : Nat → Int}, kl_conds B n b k j p D = .ok (p', D') → ∃ m : Nat, D' b = (m : Int) ∧ j < m ∧ m ≤ j + k ∧ (∀ i, j ≤ i → i < m → kl_r3 D' (b + 1 + 3 * i)) ∧ ∀ x, ¬ (x = b ∨ (b + 1 + 3 * j ≤ x ∧ x < b + 1 + 3 * (j + k))) → D' x = D x
  | 0, j, p, p', D, D', h => by unfold kl_conds at h; cases h
  | k + 1, j, p, p', D, D', h => by
    unfold kl_conds at h
    split at h
    · cases h
    · rename_i p1 D1 h1
      obtain ⟨g1, g2⟩ := kl_cond_ok h1
      split at h
      · cases h
      · split at h
        · cases h
          refine ⟨j + 1, ?_, by omega, by omega, ?_, ?_⟩
          · unfold kl_set; rw [if_pos rfl]; omega
          · intro i i1 i2
            have ei : i = j := by omega
            subst ei
            unfold kl_r3 kl_set at *
            rw [if_neg (by omega), if_neg (by omega), if_neg (by omega)]
            exact g1
          · intro x hx
            unfold kl_set
            rw [if_neg (by omega)]
            exact g2 x (by omega)
        · split at h
          · cases h
          · obtain ⟨m, m1, m2, m3, m4, m5⟩ := kl_conds_ok h
            refine ⟨m, m1, by omega, by omega, ?_, ?_⟩
            · intro i i1 i2
              by_cases ei : i = j
              · subst ei
                unfold kl_r3 at *
                rw [m5 _ (by omega), m5 _ (by omega), m5 _ (by omega)]
                unfold kl_set
                rw [if_neg (by omega), if_neg (by omega), if_neg (by omega)]
                exact g1
              · exact m4 i (by omega) i2
            · intro x hx
              rw [m5 x (by omega)]
              unfold kl_set
              rw [if_neg (by omega)]
              exact g2 x (by omega)
theorem kl_act_ok {b p p' : Nat} {D D' : Nat → Int} (h : kl_act B n sl b p D = .ok (p', D')) : (0 ≤ D' (b + 10) ∧ D' (b + 10) < 15 * sl) ∧ ∀ x, x ≠ b + 10 → D' x = D x := by
  unfold kl_act at h
  split at h
  · cases h
  · split at h
    · cases h
    · rename_i h2
      split at h
      · cases h
      · rename_i h3
        split at h
        · cases h
        · rename_i h4
          split at h
          · cases h
          · cases h
            have bv := kt_vb (B := B) (n := n) (p := p)
            have b5 := (kl_nmb (B := B) (n := n) (p := kt_e B n p)).2.2.2.2.1
            have b6 := (kl_nmb (B := B) (n := n) (p := kt_e B n (kt_e B n p))).2.2.2.2.2
            refine ⟨?_, ?_⟩
            · unfold kl_set; rw [if_pos rfl]; omega
            · intro x hx; unfold kl_set; rw [if_neg hx]
theorem kl_line_ok {c p p' : Nat} {D D' : Nat → Int} (h : kl_line B n sl c p D = .ok (p', D')) : kl_good D' sl c ∧ ∀ x, ¬ (11 * c ≤ x ∧ x < 11 * c + 11) → D' x = D x := by
  unfold kl_line at h
  split at h
  · cases h
  · split at h
    · cases h
    · split at h
      · cases h
      · rename_i p1 D1 h1
        obtain ⟨m, m1, m2, m3, m4, m5⟩ := kl_conds_ok h1
        obtain ⟨a1, a2⟩ := kl_act_ok h
        refine ⟨⟨?_, ?_, a1⟩, ?_⟩
        · rw [a2 _ (by omega), m1]; omega
        · intro c' hc'
          rw [a2 _ (by omega), m1] at hc'
          have := m4 c' (by omega) (by omega)
          unfold kl_r3 at this ⊢
          rw [a2 _ (by omega), a2 _ (by omega), a2 _ (by omega)]
          exact this
        · intro x hx
          rw [a2 x (by omega), m5 x (by omega)]
theorem kl_good.fr {D D' : Nat → Int} {l : Nat} (h : kl_good D sl l) (e : ∀ x, 11 * l ≤ x → x < 11 * l + 11 → D' x = D x) : kl_good D' sl l := by
  obtain ⟨h1, h2, h3⟩ := h
  refine ⟨by rw [e _ (by omega) (by omega)]; exact h1, ?_, by rw [e _ (by omega) (by omega)]; exact h3⟩
  intro c hc
  rw [e _ (by omega) (by omega)] at hc
  have := h2 c hc
  unfold kl_r3 at this ⊢
  rw [e _ (by omega) (by omega), e _ (by omega) (by omega), e _ (by omega) (by omega)]
  exact this
theorem kl_text_ok : ∀ {k c p c' : Nat} {D D' : Nat → Int}, kl_text B n sl k c p D = .ok (c', D') → (∀ l, l < c → kl_good D sl l) → ∀ l, l < c' → kl_good D' sl l
  | 0, c, p, c', D, D', h, _ => by unfold kl_text at h; cases h
  | k + 1, c, p, c', D, D', h, hg => by
    unfold kl_text at h
    split at h
    · cases h; exact hg
    · split at h
      · cases h
      · rename_i p1 D1 h1
        obtain ⟨g1, g2⟩ := kl_line_ok h1
        refine kl_text_ok h ?_
        intro l hl
        by_cases e : l = c
        · rw [e]; exact g1
        · exact (hg l (by omega)).fr (fun x x1 x2 => g2 x (by omega))
end
section
variable {M : mm_M}
theorem kg_set_uq {P Q : Nat → Prop} {F G : Nat} (h1 : kg_set P F) (h2 : kg_set Q G) (hpq : ∀ q, q < 21 → (P q ↔ Q q)) : G = F := by
  apply Nat.eq_of_testBit_eq
  intro i
  by_cases hi : i < 21
  · have a := h1.2 i hi
    have b := h2.2 i hi
    have c := hpq i hi
    cases hF : F.testBit i <;> cases hG : G.testBit i
    · rfl
    · rw [hF] at a; rw [hG] at b
      exact absurd (a.mpr (c.mpr (b.mp rfl))) (by decide)
    · rw [hF] at a; rw [hG] at b
      exact absurd (b.mpr (c.mp (a.mp rfl))) (by decide)
    · rfl
  · have hp : 2 ^ 21 ≤ 2 ^ i := Nat.pow_le_pow_right (by decide) (by omega)
    rw [Nat.testBit_lt_two_pow (Nat.lt_of_lt_of_le h2.1 hp), Nat.testBit_lt_two_pow (Nat.lt_of_lt_of_le h1.1 hp)]
theorem kg_last_cg {α : Type} {P Q : Nat → Bool} {v w : Nat → α} {d e : α} (hd : d = e) : ∀ {n : Nat}, (∀ i, i < n → P i = Q i ∧ v i = w i) → kg_last P v d n = kg_last Q w e n
  | 0, _ => hd
  | n + 1, h => by
    unfold kg_last
    rw [(h n (by omega)).1, (h n (by omega)).2, kg_last_cg hd (fun i hi => h i (by omega))]
theorem kg_nx_cg {P Q : Nat → Bool} {v w : Nat → Int} {l : Int} : ∀ {n : Nat}, (∀ i, i < n → P i = Q i ∧ v i = w i) → kg_nx P v l n = kg_nx Q w l n
  | 0, _ => rfl
  | n + 1, h => by
    unfold kg_nx
    rw [(h n (by omega)).1, (h n (by omega)).2, kg_nx_cg (fun i hi => h i (by omega))]
theorem kR16.f (h3 : kR3 M) (h5 : kR5 M) (h16 : kR16 M) (t : Int) (q : Nat) : kg_fC M t q ↔ kg_fR M t q := by
  obtain ⟨⟨v1, v2, v3, v4⟩, ⟨w1, w2, w3, w4⟩, g1, g2, g3, g4, g5⟩ := h16
  have key : ∀ k : Nat, (k : Int) < M 174 2 → kg_pR M k q = kg_pC M k q ∧ kg_loR M k t (M 183 98).toNat = M 179 (kg_ix M k t) ∧ kg_hiR M k t (M 183 98).toNat = M 180 (kg_ix M k t) := by
    intro k hk
    obtain ⟨a1, a2, a3, a4, a5, a6⟩ := g4 k hk
    refine ⟨?_, ?_, ?_⟩
    · unfold kg_pR kg_pC
      rw [a1, a2, a3, h5.2.2.1.1, h3.wi]
      exact h3.p (v3 k hk).1.2.1 _ _
    · unfold kg_loR kg_ix
      rw [kg_last_map (fun i => M 179 i), g2]
      refine kg_last_cg a4 ?_
      intro i hi
      obtain ⟨b1, b2, b3, b4⟩ := g5 i (by omega)
      refine ⟨?_, b2⟩
      unfold kg_ok
      rw [b1, b4]
    · unfold kg_hiR kg_ix
      rw [kg_last_map (fun i => M 180 i), g2]
      refine kg_last_cg a5 ?_
      intro i hi
      obtain ⟨b1, b2, b3, b4⟩ := g5 i (by omega)
      refine ⟨?_, b3⟩
      unfold kg_ok
      rw [b1, b4]
  unfold kg_fC kg_fR kg_soR
  rw [g1]
  constructor
  · intro z k hk hs
    rw [(g4 k hk).2.2.2.2.2] at hs
    rw [(key k hk).1, (key k hk).2.1, (key k hk).2.2]
    exact z k hk hs
  · intro z k hk hs
    have := z k hk (by rw [(g4 k hk).2.2.2.2.2]; exact hs)
    rw [(key k hk).1, (key k hk).2.1, (key k hk).2.2] at this
    exact this
end
section
variable {X : mm_X}
theorem kf_fit : kF1 X Y_X11_fit Y_X13_fit := by
  intro M hR t ht
  obtain ⟨hRf, h1, h2, h3, h4, h5, h6, h7, h8, h9, h10, h11, h12, h13, h14, h15, h16⟩ := id hR
  by_cases q : 0 ≤ t ∧ t ≤ 999
  · refine mm_C.mono (c_X11_fit1 (X := X) hRf h3.1 h5.2.2.2.1 h16.1 q) ?_
    rintro r M1 ⟨F, rfl, -, rfl, hF⟩
    refine ⟨_, rfl, mm_C.mono (c_X13_fit1 (X := X) hRf h3.2.1 h5.ra h16.2.1 q) ?_⟩
    rintro r2 M2 ⟨G, rfl, -, rfl, hG⟩
    rw [kg_set_uq hF hG (fun i _ => h16.f h3 h5 t i)]
    exact ⟨rfl, hR⟩
  · exact kk_no (c_X11_fit0 (X := X) hRf ht q) (c_X13_fit0 (X := X) hRf ht q) rfl hR
theorem kf_next : kF2 X Y_X11_next Y_X13_next := by
  intro M hR s h hs hh
  obtain ⟨hRf, h1, h2, h3, h4, h5, h6, h7, h8, h9, h10, h11, h12, h13, h14, h15, h16⟩ := id hR
  by_cases q : ks_st (M 4) s ∧ ks_hr h
  · refine mm_C.mono (c_X11_next1 (X := X) hRf h3.1 h5.2.2.2.1 h16.1 q.1 q.2) ?_
    rintro r M1 ⟨F, rfl, -, rfl, hF⟩
    refine ⟨_, rfl, mm_C.mono (c_X13_next1 (X := X) hRf h3.2.1 h5.ra h16.2.1 ((h3.st s).mpr q.1) q.2) ?_⟩
    rintro r2 M2 ⟨G, rfl, -, rfl, hG⟩
    rw [kg_set_uq hF hG (fun i _ => h16.f h3 h5 999 i)]
    refine ⟨?_, hR⟩
    unfold kg_next
    rw [show (15 * mm_rk M2 10).toNat = (15 * M2 4 10).toNat from by rw [h3.k (i := 10) (by decide)], h5.2.2.1.1]
    congr 2
    refine kg_nx_cg ?_
    intro a ha
    have hac : ks_ac (M2 4) (a : Int) := ⟨by omega, by omega⟩
    refine ⟨?_, ?_⟩
    · have e : ks_can (mm_rk M2) s (a : Int) = ks_can (M2 4) s (a : Int) := h3.w (fun K => ks_can K s (a : Int)) (fun _ _ => rfl)
      by_cases y : ks_can (M2 4) s (a : Int)
      · rw [decide_eq_true y, decide_eq_true (e.mpr y)]
      · rw [decide_eq_false y, decide_eq_false (fun z => y (e.mp z))]
    · congr 1
      funext i
      unfold kg_p
      rw [h3.wi]
      exact h3.p hac _ _
  · exact kk_no (c_X11_next0 (X := X) hRf h3.1 hs hh q) (c_X13_next0 (X := X) hRf h3.2.1 hs hh (by rw [h3.st]; exact q)) rfl hR
theorem kf_rules : kF0 X Y_X11_rules Y_X13_rules := by
  intro M hR
  obtain ⟨hRf, h1, h2, h3, h4, h5, h6, h7, h8, h9, h10, h11, h12, h13, h14, h15, h16⟩ := id hR
  obtain ⟨n, hn⟩ : ∃ n, n = (M 1 1).toNat := ⟨_, rfl⟩
  have hl := h1.2.1
  have hni : M 1 1 = (n : Int) := by omega
  have b10 := h3.b10
  obtain ⟨E, hE⟩ : ∃ E, E = kl_text (M 2) n (M 4 10) 9 0 0 (M 20) := ⟨_, rfl⟩
  have c1 := c_X11_rules (X := X) (n := n) (sl := M 4 10) hRf ⟨hni, by omega, h1.2.2.2⟩ ⟨rfl, b10⟩
  rw [← hE] at c1
  refine mm_C.mono c1 ?_
  rintro r M1 ⟨hRf1, p0, p⟩
  have row : ∀ a, a ≠ 1 → a ≠ 18 → a ≠ 19 → a ≠ 20 → M1 a = M a := by
    intro a a1 a2 a3 a4
    match E, p with
    | .ok (c, D), p => exact p.2.1 a a1 a2 a3 a4
    | .error (k, s), p => exact p.2.1 a a1 a4
  have row1 : ∀ a b, ¬ (a = 1 ∨ a = 18 ∨ a = 19 ∨ a = 20) → M1 a b = M a b := fun a b y => by rw [row a (by omega) (by omega) (by omega) (by omega)]
  have rk1 : mm_rk M1 = mm_rk M := mm_rk.fr (fun a b y => row1 a b (by omega))
  have e16 : M 183 16 = M 4 10 := by rw [← h3.k (by decide), mm_rk_n]
  have c2 := c_X13_rules (X := X) (M := M1) (n := n) (sl := M 4 10) hRf1 ⟨by rw [row 183 (by decide) (by decide) (by decide) (by decide), h1.1]; exact hni, by omega⟩ (by rw [row 185 (by decide) (by decide) (by decide) (by decide), h1.2.2.1]; exact h1.2.2.2) ⟨by rw [row 183 (by decide) (by decide) (by decide) (by decide)]; exact e16, b10⟩ (M 20)
  rw [row 185 (by decide) (by decide) (by decide) (by decide), h1.2.2.1, ← hE] at c2
  match hEE : E, p, c2 with
  | .ok (c, D), p, c2 =>
    obtain ⟨rfl, p1, p2, p3, p4, p5⟩ := p
    refine ⟨_, rfl, mm_C.mono c2 ?_⟩
    rintro r2 M2 ⟨hRf2, t0, t1, t2, rfl, t3, t4, t5, t6, t7⟩
    refine ⟨rfl, ?_⟩
    have e2 : ∀ a b, ¬ ((a = 183 ∧ 2 ≤ b ∧ b ≤ 9) ∨ (a = 183 ∧ 20 ≤ b ∧ b ≤ 21) ∨ (193 ≤ a ∧ a ≤ 197)) → M2 a b = M1 a b := by
      intro a b y
      by_cases y1 : a = 183
      · subst y1; exact t2 b (by omega) (by omega) (by omega)
      · rw [t1 a y1 (by unfold kr_A; omega)]
    have e : ∀ a b, ¬ (a = 1 ∨ a = 18 ∨ a = 19 ∨ a = 20 ∨ (a = 183 ∧ 2 ≤ b ∧ b ≤ 9) ∨ (a = 183 ∧ 20 ≤ b ∧ b ≤ 21) ∨ (193 ≤ a ∧ a ≤ 197)) → M2 a b = M a b := by
      intro a b y; rw [e2 a b (by omega), row1 a b (by omega)]
    have g := kl_text_ok (hE.symm) (fun l hl => absurd hl (Nat.not_lt_zero l))
    have k1 : kR1 M2 := by
      refine ⟨by rw [t0, e2 1 1 (by omega), p0], by rw [e2 1 1 (by omega), p0]; omega, ?_, ?_⟩
      · funext b; rw [e 185 b (by omega), e 2 b (by omega), h1.2.2.1]
      · intro k hk; rw [e 2 k (by omega)]; exact h1.2.2.2 k hk
    have k2 : kR2 M2 := ⟨by rw [t3, e2 1 2 (by omega), p2], by rw [t4, e2 1 3 (by omega), p3]⟩
    have k3 : kR3 M2 := h3.fr (fun a b q => e a b (by omega))
    have m4 : M2 4 = M 4 := funext fun b => e 4 b (by omega)
    have k4 : kR4 M2 := by
      have l18 : M2 18 1 = (c : Int) := by rw [e2 18 1 (by omega)]; exact p4
      have r19 : ∀ b, b < 88 → M2 19 b = D b := by intro b hb; rw [e2 19 b (by omega)]; exact p5 b hb
      refine ⟨⟨by rw [l18]; omega, ?_⟩, ⟨by rw [t5]; omega, ?_⟩, by rw [t5, l18], ?_⟩
      · intro l hl
        rw [l18] at hl
        obtain ⟨g1, g2, g3⟩ := g l (by omega)
        unfold kc_C kc_Q kc_H kc_B kc_D
        rw [r19 _ (by omega), r19 _ (by omega)]
        refine ⟨by omega, ?_, ?_⟩
        · intro c' hc'
          have q := g2 c' hc'
          rw [r19 _ (by omega), r19 _ (by omega), r19 _ (by omega)]
          exact q
        · rw [m4]; exact g3
      · intro l hl
        rw [t5] at hl
        obtain ⟨u1, u2, u3, u4⟩ := t7 l (by omega)
        obtain ⟨g1, g2, g3⟩ := g l (by omega)
        unfold kq_C kq_Q kq_H kq_B kq_D
        rw [u1, u4]
        refine ⟨by omega, ?_, ?_⟩
        · intro c' hc'
          have q := g2 c' hc'
          obtain ⟨y1, y2, y3⟩ := u3 c' hc'
          rw [y1, y2, y3]
          exact q
        · rw [k3.ac, m4]; exact g3
      · intro l hl
        rw [l18] at hl
        obtain ⟨u1, u2, u3, u4⟩ := t7 l (by omega)
        unfold kc_C kc_Q kc_H kc_B kc_D kq_C kq_Q kq_H kq_B kq_D
        rw [u1, u4, r19 _ (by omega), r19 _ (by omega)]
        refine ⟨rfl, ?_, rfl⟩
        intro c' hc'
        obtain ⟨y1, y2, y3⟩ := u3 c' hc'
        rw [y1, y2, y3, r19 _ (by omega), r19 _ (by omega), r19 _ (by omega)]
        exact ⟨rfl, rfl, rfl⟩
    exact ⟨hRf2, k1, k2, k3, k4, h5.fr (fun a b q => e a b (by omega)), h6.fr (fun a b q => e a b (by omega)), h7.fr (fun a b q => e a b (by omega)), h8.fr (fun a b q => e a b (by omega)), h9.fr (fun a b q => e a b (by omega)), h10.fr (fun a b q => e a b (by omega)), h11.fr (fun a b q => e a b (by omega)), h12.fr (fun a b q => e a b (by omega)), h13.fr (fun a b q => e a b (by omega)), h14.fr (fun a b q => e a b (by omega)), h15.fr (fun a b q => e a b (by omega)), h16.fr (fun a b q => e a b (by omega))⟩
  | .error (k, s), p, c2 =>
    obtain ⟨rfl, p1, p2, p3⟩ := p
    refine ⟨_, rfl, mm_C.mono c2 ?_⟩
    rintro r2 M2 ⟨hRf2, t0, t1, t2, rfl, t3, t4, t5, t6⟩
    refine ⟨rfl, ?_⟩
    have e2 : ∀ a b, ¬ ((a = 183 ∧ 2 ≤ b ∧ b ≤ 9) ∨ (a = 183 ∧ 20 ≤ b ∧ b ≤ 21) ∨ (193 ≤ a ∧ a ≤ 197)) → M2 a b = M1 a b := by
      intro a b y
      by_cases y1 : a = 183
      · subst y1; exact t2 b (by omega) (by omega) (by omega)
      · rw [t1 a y1 (by unfold kr_A; omega)]
    have row2 : ∀ a b, ¬ (a = 1 ∨ a = 20) → M1 a b = M a b := fun a b y => by rw [p1 a (by omega) (by omega)]
    have e : ∀ a b, ¬ (a = 1 ∨ a = 20 ∨ (a = 183 ∧ 2 ≤ b ∧ b ≤ 9) ∨ (a = 183 ∧ 20 ≤ b ∧ b ≤ 21) ∨ (193 ≤ a ∧ a ≤ 197)) → M2 a b = M a b := by
      intro a b y; rw [e2 a b (by omega), row2 a b (by omega)]
    have k1 : kR1 M2 := by
      refine ⟨by rw [t0, e2 1 1 (by omega), p0], by rw [e2 1 1 (by omega), p0]; omega, ?_, ?_⟩
      · funext b; rw [e 185 b (by omega), e 2 b (by omega), h1.2.2.1]
      · intro k hk; rw [e 2 k (by omega)]; exact h1.2.2.2 k hk
    have k2 : kR2 M2 := ⟨by rw [t3, e2 1 2 (by omega), p2], by rw [t4, e2 1 3 (by omega), p3]⟩
    have k3 : kR3 M2 := h3.fr (fun a b q => e a b (by omega))
    have k4 : kR4 M2 := by
      obtain ⟨g1, g2, g3, g4⟩ := h4
      obtain ⟨t6a, t6b⟩ := t6
      have m4 : M2 4 = M 4 := funext fun b => e 4 b (by omega)
      have rk : mm_rk M2 = mm_rk M := mm_rk.fr (fun a b y => e a b (by omega))
      have l18 : M2 18 1 = M 18 1 := e 18 1 (by omega)
      have l20 : M2 183 20 = M 183 20 := by rw [t5, row 183 (by decide) (by decide) (by decide) (by decide)]
      have r19 : M2 19 = M 19 := funext fun b => e 19 b (by omega)
      have r3 : ∀ b, b < 24 → M2 193 b = M 193 b ∧ M2 194 b = M 194 b ∧ M2 195 b = M 195 b := by
        intro b hb
        have := t6a b (by omega)
        rw [row 193 (by decide) (by decide) (by decide) (by decide), row 194 (by decide) (by decide) (by decide) (by decide), row 195 (by decide) (by decide) (by decide) (by decide)] at this
        exact this
      have r6 : ∀ b, b < 8 → M2 196 b = M 196 b ∧ M2 197 b = M 197 b := by
        intro b hb
        have := t6b b (by omega)
        rw [row 196 (by decide) (by decide) (by decide) (by decide), row 197 (by decide) (by decide) (by decide) (by decide)] at this
        exact this
      have b18 := g1.1
      refine ⟨?_, ⟨by rw [l20]; exact g2.1, ?_⟩, by rw [l20, l18]; exact g3, ?_⟩
      · unfold mm_CR kc_C kc_Q kc_H kc_B kc_D at g1 ⊢
        rw [l18, r19, m4]; exact g1
      · intro l hl
        rw [l20, g3] at hl
        have q := g2.2 l (by rw [g3]; exact hl)
        unfold kq_C kq_Q kq_H kq_B kq_D at q ⊢
        rw [(r6 l (by omega)).1, (r6 l (by omega)).2, rk]
        refine ⟨q.1, ?_, q.2.2⟩
        intro c' hc'
        have y := r3 (3 * l + c') (by omega)
        rw [y.1, y.2.1, y.2.2]
        exact q.2.1 c' hc'
      · intro l hl
        rw [l18] at hl
        have q := g4 l hl
        have q3 := (g1.2 l hl).1
        unfold kc_C kc_Q kc_H kc_B kc_D kq_C kq_Q kq_H kq_B kq_D at q ⊢
        unfold kc_C at q3
        rw [(r6 l (by omega)).1, (r6 l (by omega)).2, r19]
        refine ⟨q.1, ?_, q.2.2⟩
        intro c' hc'
        have y := r3 (3 * l + c') (by omega)
        rw [y.1, y.2.1, y.2.2]
        exact q.2.1 c' hc'
    exact ⟨hRf2, k1, k2, k3, k4, h5.fr (fun a b q => e a b (by omega)), h6.fr (fun a b q => e a b (by omega)), h7.fr (fun a b q => e a b (by omega)), h8.fr (fun a b q => e a b (by omega)), h9.fr (fun a b q => e a b (by omega)), h10.fr (fun a b q => e a b (by omega)), h11.fr (fun a b q => e a b (by omega)), h12.fr (fun a b q => e a b (by omega)), h13.fr (fun a b q => e a b (by omega)), h14.fr (fun a b q => e a b (by omega)), h15.fr (fun a b q => e a b (by omega)), h16.fr (fun a b q => e a b (by omega))⟩
end

