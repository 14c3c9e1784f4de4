/-! ===== calls side by side: kept loops ===== -/
section
variable {M : mm_M}
theorem kR3.p (h : kR3 M) {a : Int} (ha : ks_ac (M 4) a) (s w : Int) : ks_p (mm_rk M) s a w = ks_p (M 4) s a w := by
  rw [← nk_p h.2.1 ((h.ac a).mpr ha), h.2.2.1, nk_p h.1.1 ha]
theorem kR3.wi (h : kR3 M) (L : Nat → Int) (s t : Int) : ks_wi L (mm_rk M) s t = ks_wi L (M 4) s t := h.w (fun K => ks_wi L K s t) (fun _ _ => rfl)
theorem kR3.h (h : kR3 M) (s : Int) : ks_h (mm_rk M) s = ks_h (M 4) s := h.w (fun K => ks_h K s) (fun _ _ => rfl)
theorem kR3.b10 (h : kR3 M) : 1 ≤ M 4 10 ∧ M 4 10 ≤ 3 := by
  obtain ⟨-, -, -, -, -, -, -, -, -, -, h10, -⟩ := h.1.1
  exact h10
theorem kR9.S (h9 : kR9 M) (h3 : kR3 M) {k i : Nat} (hk : k < 6) (hi : (i : Int) < M (121 + 3 * k) 2) : kl_S M k i = M (121 + 3 * k + 2) i := by
  unfold kl_S
  rw [h3.run]
  exact ((h9 k hk).2.2.2.2 i hi).2.2.1.symm
theorem kR9.ok (h9 : kR9 M) (h3 : kR3 M) {k : Nat} (hk : k < 6) : kl_ok M k := by
  obtain ⟨a1, a2, a3, a4, a5⟩ := h9 k hk
  have b := h3.b10
  refine ⟨by rw [a2]; exact a1, a3, ?_, ?_⟩
  · intro i hi
    rw [a2] at hi
    obtain ⟨q1, q2, -⟩ := a5 i hi
    rw [q1]
    omega
  · intro i hi
    rw [a2] at hi
    rw [h9.S h3 hk hi, h3.st]
    exact (a5 i hi).2.2.2
theorem kt_sum_cg (h3 : kR3 M) {W S A S' A' : Nat → Int} {h : Int} : ∀ {n : Nat}, (∀ i, i < n → S' i = S i ∧ A' i = A i ∧ ks_ac (M 4) (A i)) → kt_sum (mm_rk M) W S' A' h n = kt_sum (M 4) W S A h n
  | 0, _ => rfl
  | n + 1, q => by
    unfold kt_sum
    obtain ⟨q1, q2, q3⟩ := q n (by omega)
    rw [kt_sum_cg h3 (fun i hi => q i (by omega)), q1, q2, h3.wi, h3.p q3, h3.k (by decide)]
theorem kf_from_cg {P Q : Nat → Prop} {_ : ∀ i, Decidable (P i)} {_ : ∀ i, Decidable (Q i)} (h : ∀ i, P i ↔ Q i) : ∀ (k t : Nat), kf_from P t k = kf_from Q t k
  | 0, t => by unfold kf_from; rfl
  | k + 1, t => by
    unfold kf_from
    by_cases q : P t
    · rw [if_pos q, if_pos ((h t).mp q)]
    · rw [if_neg q, if_neg (fun z => q ((h t).mpr z)), kf_from_cg h k (t + 1)]
end
section
variable {X : mm_X}
theorem kf_rounds : kF3 X Y_X11_rounds Y_X13_rounds := by
  intro M hR x h b hx hh hb
  obtain ⟨hRf, h1, h2, h3, h4, h5, h6, h7, h8, h9, h10, h11, h12, h13, h14, h15, h16⟩ := id hR
  have c1 := c_X11_rounds (X := X) hRf h3.1 h5.2.2.2.1 hx hh hb h11.2 (fun k hk => (h9 k hk).1) (fun k hk i hi => ⟨((h9 k hk).2.2.2.2 i hi).2.2.2, ((h9 k hk).2.2.2.2 i hi).2.1⟩)
  have c2 := c_X13_rounds (X := X) hRf h3.2.1 h5.ra hx hh hb (by rw [h11.1]; exact h11.2) (fun k hk => by rw [(h9 k hk).2.1]; exact (h9 k hk).1) (fun k hk i hi => by
    rw [(h9 k hk).2.1] at hi
    have q := (h9 k hk).2.2.2.2 i hi
    rw [h9.S h3 hk hi, h3.st, h3.ac, q.1]
    exact ⟨q.2.2.2, q.2.1⟩)
  refine kk_no c1 c2 ?_ hR
  by_cases q : (0 ≤ x ∧ x ≤ 5) ∧ ks_hr h ∧ 0 ≤ b ∧ b ≤ 1000000
  · have hk : x.toNat < 6 := by omega
    obtain ⟨a1, a2, a3, a4, a5⟩ := h9 x.toNat hk
    rw [if_pos q, if_pos q, a2]
    by_cases z : 0 < M (121 + 3 * x.toNat) 2
    · rw [if_pos z, if_pos z, h11.1, h5.2.2.1.2]
      congr 1
      refine kt_sum_cg h3 ?_
      intro i hi
      have hi' : (i : Int) < M (121 + 3 * x.toNat) 2 := by omega
      exact ⟨h9.S h3 hk hi', (a5 i hi').1, (a5 i hi').2.1⟩
    · rw [if_neg z, if_neg z]
  · rw [if_neg q, if_neg q]
theorem kf_breach : kF4 X Y_X11_breach Y_X13_breach := by
  intro M hR x h w n hx hh he hn
  obtain ⟨hRf, h1, h2, h3, h4, h5, h6, h7, h8, h9, h10, h11, h12, h13, h14, h15, h16⟩ := id hR
  have c1 := c_X11_breach (X := X) hRf h3.1 hx hh he hn h14.2.1 (fun k hk => (h9 k hk).1) (fun k hk i hi => ((h9 k hk).2.2.2.2 i hi).2.2.2)
  have c2 := c_X13_breach (X := X) (roof := M 173) hRf h3.2.1 hx hh he hn (by rw [h14.1.1]; exact h14.1.2) h14.2.2.1 h14.2.2.2 (fun k hk => (h9.ok h3 hk).1) (fun k hk => (h9.ok h3 hk).2.1) (fun k hk => (h9.ok h3 hk).2.2.1) (fun k hk => (h9.ok h3 hk).2.2.2)
  obtain ⟨M2, hM2⟩ : ∃ N, N = (if ((0 ≤ x ∧ x ≤ 5) ∧ ks_hr h ∧ (1 ≤ w ∧ w ≤ 60) ∧ 1 ≤ n ∧ n ≤ 5000) ∧ 0 < M 216 x.toNat then kf_mem M 226 (kl_S M x.toNat) (M 216 x.toNat).toNat else M) := ⟨_, rfl⟩
  rw [← hM2] at c2
  have fr : ∀ a, a ≠ 226 → M2 a = M a := by
    intro a ha
    rw [hM2]
    split
    · exact kf_mem_n ha
    · rfl
  have hRf2 : mm_Rf M2 := by
    rw [hM2]
    split
    · exact hRf.fm (len := 100) rfl
    · exact hRf
  have e : ∀ a b, ¬ a = 226 → M2 a b = M a b := fun a b z => by rw [fr a z]
  refine kk_fn c1 c2 ?_ ⟨hRf2, h1.fr (fun a b q => e a b (by omega)), h2.fr (fun a b q => e a b (by omega)), h3.fr (fun a b q => e a b (by omega)), h4.fr (fun a b q => e a b (by omega)), h5.fr (fun a b q => e a b (by omega)), h6.fr (fun a b q => e a b (by omega)), h7.fr (fun a b q => e a b (by omega)), h8.fr (fun a b q => e a b (by omega)), h9.fr (fun a b q => e a b (by omega)), h10.fr (fun a b q => e a b (by omega)), h11.fr (fun a b q => e a b (by omega)), h12.fr (fun a b q => e a b (by omega)), h13.fr (fun a b q => e a b (by omega)), h14.fr (fun a b q => e a b (by omega)), h15.fr (fun a b q => e a b (by omega)), h16.fr (fun a b q => e a b (by omega))⟩
  by_cases q : (0 ≤ x ∧ x ≤ 5) ∧ ks_hr h ∧ (1 ≤ w ∧ w ≤ 60) ∧ 1 ≤ n ∧ n ≤ 5000
  · have hk : x.toNat < 6 := by omega
    obtain ⟨a1, a2, a3, a4, a5⟩ := h9 x.toNat hk
    rw [if_pos q, if_pos q, a2]
    by_cases z : 0 < M (121 + 3 * x.toNat) 2
    · rw [if_pos z, if_pos z]
      refine kf_from_cg ?_ _ _
      intro t
      unfold kb_at
      have hlt : t % (M (121 + 3 * x.toNat) 2).toNat < (M (121 + 3 * x.toNat) 2).toNat := Nat.mod_lt _ (by omega)
      rw [h3.h, h9.S h3 hk (by omega)]
    · rw [if_neg z, if_neg z]
  · rw [if_neg q, if_neg q]
theorem kf_keep' : kF1 X Y_X11_keep Y_X13_keep := by
  intro M hR x hx
  obtain ⟨hRf, h1, h2, h3, h4, h5, h6, h7, h8, h9, h10, h11, h12, h13, h14, h15, h16⟩ := id hR
  obtain ⟨g1, g2, g3, g4, g5, g6, g7, g8, g9, g10, g11, g12⟩ := id h8
  have c1 := c_X11_keep (X := X) hRf hx g3 g2 g1
  by_cases q : (0 ≤ x ∧ x ≤ 5) ∧ M 183 62 = 1
  · obtain ⟨p1, p2, p3, p4, p5, p6⟩ := g12 q.2
    have q12 := g11.mp q.2
    rw [if_pos (And.intro q.1 q12), if_pos q.1, if_pos q12] at c1
    obtain ⟨k, hk⟩ : ∃ k, k = x.toNat := ⟨_, rfl⟩
    have hk6 : k < 6 := by omega
    rw [← hk] at c1
    obtain ⟨M1, hM1⟩ : ∃ N, N = mm_cf M (121 + 3 * k) 117 100 := ⟨_, rfl⟩
    rw [← hM1] at c1
    have mn : min (M 117 2) ((100 : Nat) : Int) = M 117 2 := by omega
    have at1 : ∀ a b, M1 a b = if a = 121 + 3 * k ∧ b = 2 then M 117 2 else if a = 121 + 3 * k ∧ b = 3 then M 117 3 else if a = 121 + 3 * k + 1 ∧ (b : Int) < M 117 2 then M 118 b else if a = 121 + 3 * k + 2 ∧ (b : Int) < M 117 2 then M 119 b else M a b := by
      intro a b; rw [hM1]; unfold mm_cf; rw [mn]
    have o1 : ∀ a b, ¬ (121 + 3 * k ≤ a ∧ a ≤ 121 + 3 * k + 2) → M1 a b = M a b := by
      intro a b z; rw [at1, if_neg (by omega), if_neg (by omega), if_neg (by omega), if_neg (by omega)]
    have wr := (mm_rw_kept k hk6).1
    have hRf1 : mm_Rf M1 := by
      intro a b hab
      rw [at1]
      by_cases z1 : a = 121 + 3 * k ∧ b = 2
      · exact absurd (by rw [z1.1, z1.2]; exact mm_rt_row wr (by decide)) hab
      by_cases z2 : a = 121 + 3 * k ∧ b = 3
      · exact absurd (by rw [z2.1, z2.2]; exact mm_rt_row wr (by decide)) hab
      by_cases z3 : a = 121 + 3 * k + 1 ∧ (b : Int) < M 117 2
      · exact absurd (by rw [z3.1]; exact mm_rt_arr wr.2.1 b) hab
      by_cases z4 : a = 121 + 3 * k + 2 ∧ (b : Int) < M 117 2
      · exact absurd (by rw [z4.1]; exact mm_rt_arr wr.2.2.1 b) hab
      rw [if_neg z1, if_neg z2, if_neg z3, if_neg z4]
      exact hRf a b hab
    have s183 : ∀ b, M1 183 b = M 183 b := fun b => o1 183 b (by omega)
    have c2 := c_X13_keep (X := X) (M := M1) hRf1 hx (by rw [s183]; exact g6) (by rw [s183]; exact g7) (by rw [s183, s183]; exact g8)
    rw [s183, s183, if_pos q.1, if_pos q.2, if_pos q, ← hk] at c2
    obtain ⟨M2, hM2⟩ : ∃ N, N = kf_keep M1 k := ⟨_, rfl⟩
    rw [← hM2] at c2
    obtain ⟨n, hn⟩ : ∃ n, n = (M 117 2).toNat := ⟨_, rfl⟩
    have hni : M 117 2 = (n : Int) := by omega
    have at2 : ∀ a b, M2 a b = if a = 219 ∧ 100 * k ≤ b ∧ b < 100 * k + n then M1 215 (b - 100 * k) else if a = 218 ∧ b = k then M 117 3 else if a = 217 ∧ b = k then M 183 60 else if a = 216 ∧ b = k then M 117 2 else M1 a b := by
      intro a b
      rw [hM2]
      unfold kf_keep kf_off mm_up
      rw [s183, s183, s183, s183, p2, hni, Int.toNat_natCast, ← hni, p3]
    have o2 : ∀ a b, ¬ ((216 ≤ a ∧ a ≤ 218 ∧ b = k) ∨ (a = 219 ∧ 100 * k ≤ b ∧ b < 100 * k + n)) → M2 a b = M1 a b := by
      intro a b z; rw [at2, if_neg (by omega), if_neg (by omega), if_neg (by omega), if_neg (by omega)]
    have hRf2 : mm_Rf M2 := by
      intro a b hab
      by_cases z : (216 ≤ a ∧ a ≤ 218 ∧ b = k) ∨ (a = 219 ∧ 100 * k ≤ b ∧ b < 100 * k + n)
      · exfalso
        apply hab
        rcases (show a = 216 ∨ a = 217 ∨ a = 218 ∨ a = 219 by omega) with z | z | z | z
        all_goals (rw [z]; exact mm_rt_ar (t := 0) rfl (by decide))
      · rw [o2 a b z]; exact hRf1 a b hab
    have e : ∀ a b, ¬ ((121 + 3 * k ≤ a ∧ a ≤ 121 + 3 * k + 2) ∨ (216 ≤ a ∧ a ≤ 218 ∧ b = k) ∨ (a = 219 ∧ 100 * k ≤ b ∧ b < 100 * k + n)) → M2 a b = M a b := by
      intro a b z; rw [o2 a b (by omega), o1 a b (by omega)]
    refine kk_fn c1 c2 p2 ⟨hRf2, h1.fr (fun a b q => e a b (by omega)), h2.fr (fun a b q => e a b (by omega)), h3.fr (fun a b q => e a b (by omega)), h4.fr (fun a b q => e a b (by omega)), h5.fr (fun a b q => e a b (by omega)), h6.fr (fun a b q => e a b (by omega)), h7.fr (fun a b q => e a b (by omega)), h8.fr (fun a b q => e a b (by omega)), ?_, h10.fr (fun a b q => e a b (by omega)), h11.fr (fun a b q => e a b (by omega)), h12.fr (fun a b q => e a b (by omega)), h13.fr (fun a b q => e a b (by omega)), h14.fr (fun a b q => e a b (by omega)), h15.fr (fun a b q => e a b (by omega)), h16.fr (fun a b q => e a b (by omega))⟩
    intro j hj
    have m4 : M2 4 = M 4 := funext fun y => e 4 y (by omega)
    by_cases jk : j = k
    · subst jk
      have r2 : M2 (121 + 3 * j) 2 = M 117 2 := by rw [o2 _ _ (by omega), at1, if_pos ⟨rfl, rfl⟩]
      have r3 : M2 (121 + 3 * j) 3 = M 117 3 := by rw [o2 _ _ (by omega), at1, if_neg (by omega), if_pos ⟨rfl, rfl⟩]
      have r216 : M2 216 j = M 117 2 := by rw [at2, if_neg (by omega), if_neg (by omega), if_neg (by omega), if_pos ⟨rfl, rfl⟩]
      have r217 : M2 217 j = M 183 60 := by rw [at2, if_neg (by omega), if_neg (by omega), if_pos ⟨rfl, rfl⟩]
      have r218 : M2 218 j = M 117 3 := by rw [at2, if_neg (by omega), if_pos ⟨rfl, rfl⟩]
      have rA : ∀ i : Nat, (i : Int) < M 117 2 → M2 (121 + 3 * j + 1) i = M 118 i := by
        intro i hi; rw [o2 _ _ (by omega), at1, if_neg (by omega), if_neg (by omega), if_pos ⟨rfl, hi⟩]
      have rS : ∀ i : Nat, (i : Int) < M 117 2 → M2 (121 + 3 * j + 2) i = M 119 i := by
        intro i hi; rw [o2 _ _ (by omega), at1, if_neg (by omega), if_neg (by omega), if_neg (by omega), if_pos ⟨rfl, hi⟩]
      have r219 : ∀ i : Nat, (i : Int) < M 117 2 → M2 219 (100 * j + i) = M 118 i := by
        intro i hi
        rw [at2, if_pos ⟨rfl, by omega, by omega⟩, show 100 * j + i - 100 * j = i by omega, o1 215 i (by omega)]
        exact (p6 i hi).1
      have st60 : mm_R (M 183 60) := by
        have := ks_nb h3.1.1
        have := p5.2
        have := p5.1
        unfold mm_R
        omega
      rw [m4, r2, r3, r216, r217, r218]
      refine ⟨g1, rfl, st60, fun _ => ⟨rfl, p4, p5⟩, ?_⟩
      intro i hi
      obtain ⟨y1, y2, y3, y4⟩ := p6 i hi
      rw [rA i hi, rS i hi, r219 i hi]
      refine ⟨rfl, y2, ?_, y4⟩
      rw [y3]
      exact kf_run_cg (fun i' hi' => (r219 i' (by omega)).symm)
    · have row : ∀ a, 121 + 3 * j ≤ a → a ≤ 121 + 3 * j + 2 → M2 a = M a := fun a a1 a2 => funext fun y => e a y (by omega)
      obtain ⟨a1, a2, a3, a4, a5⟩ := h9 j hj
      rw [m4, row (121 + 3 * j) (by omega) (by omega), row (121 + 3 * j + 1) (by omega) (by omega), row (121 + 3 * j + 2) (by omega) (by omega), e 216 j (by omega), e 217 j (by omega), e 218 j (by omega)]
      refine ⟨a1, a2, a3, a4, ?_⟩
      intro i hi
      obtain ⟨y1, y2, y3, y4⟩ := a5 i hi
      have e219 : ∀ i' : Nat, i' < 100 → M2 219 (100 * j + i') = M 219 (100 * j + i') := fun i' hi' => e 219 _ (by omega)
      rw [e219 i (by omega)]
      refine ⟨y1, y2, ?_, y4⟩
      rw [y3]
      exact kf_run_cg (fun i' hi' => (e219 i' (by omega)).symm)
  · have q' : ¬ ((0 ≤ x ∧ x ≤ 5) ∧ M 0 12 = 1 ∧ M 117 9 = 1) := fun z => q ⟨z.1, g11.mpr z.2⟩
    rw [if_neg q'] at c1
    have c2 := c_X13_keep (X := X) hRf hx g6 g7 g8
    rw [if_neg q] at c2
    refine kk_no c1 c2 ?_ hR
    by_cases z : 0 ≤ x ∧ x ≤ 5
    · rw [if_pos z, if_pos z, if_neg (fun y => q ⟨z, y⟩), if_neg (fun y => q' ⟨z, y⟩)]
    · rw [if_neg z, if_neg z]
end

