/-! ===== calls side by side: those that only tell, and small ones ===== -/
theorem kw_last_cg {P Q : Nat → Prop} {_ : ∀ i, Decidable (P i)} {_ : ∀ i, Decidable (Q i)} {v w : Nat → Int} : ∀ {n : Nat}, (∀ i, i < n → (P i ↔ Q i) ∧ v i = w i) → kw_last P v n = kw_last Q w n
  | 0, _ => rfl
  | n + 1, h => by
    unfold kw_last
    have hn := h n (by omega)
    rw [kw_last_cg (fun i hi => h i (by omega))]
    by_cases q : P n
    · rw [if_pos q, if_pos (hn.1.mp q), hn.2]
    · rw [if_neg q, if_neg (fun z => q (hn.1.mpr z))]
section
variable {X : mm_X}
theorem kf_fault : kF1 X Y_X11_fault Y_X13_fault := by
  intro M hR x hx
  obtain ⟨hRf, h1, h2, h3, h4, h5, h6, h7, h8, h9, h10, h11, h12, h13, h14, h15, h16⟩ := id hR
  exact kk_no (c_X11_fault hRf hx) (c_X13_fault hRf hx) (by rw [h2.1, h2.2]) hR
theorem kf_told : kF1 X Y_X11_told Y_X13_told := by
  intro M hR x hx
  obtain ⟨hRf, h1, h2, h3, h4, h5, h6, h7, h8, h9, h10, h11, h12, h13, h14, h15, h16⟩ := id hR
  exact kk_no (c_X11_told hRf h3.1 hx) (c_X13_told hRf h3.2.1 hx) (by rw [h4.2.2.1, h3.w (fun K => ks_told K x) (fun K hK => nk_told hK)]) hR
theorem kf_state : kF2 X Y_X11_state Y_X13_state := by
  intro M hR s x hs hx
  obtain ⟨hRf, h1, h2, h3, h4, h5, h6, h7, h8, h9, h10, h11, h12, h13, h14, h15, h16⟩ := id hR
  exact kk_no (c_X11_state hRf h3.1 hs hx) (c_X13_state hRf h3.2.1 hs hx) (h3.w (fun K => kv_state K s x) (fun _ _ => rfl)) hR
theorem kf_leads : kF2 X Y_X11_leads Y_X13_leads := by
  intro M hR s a hs ha
  obtain ⟨hRf, h1, h2, h3, h4, h5, h6, h7, h8, h9, h10, h11, h12, h13, h14, h15, h16⟩ := id hR
  exact kk_no (c_X11_leads hRf h3.1 hs ha) (c_X13_leads hRf h3.2.1 hs ha) (h3.w (fun K => kv_leads K s a) (fun _ _ => rfl)) hR
theorem kf_pull : kF3 X Y_X11_pull Y_X13_pull := by
  intro M hR s a w hs ha hw
  obtain ⟨hRf, h1, h2, h3, h4, h5, h6, h7, h8, h9, h10, h11, h12, h13, h14, h15, h16⟩ := id hR
  exact kk_no (c_X11_pull hRf h3.1 hs ha hw) (c_X13_pull hRf h3.2.1 hs ha hw) (h3.w (fun K => kv_pull K s a w) (fun _ hK => nk_pull hK)) hR
theorem kf_safe : kF3 X Y_X11_safe Y_X13_safe := by
  intro M hR s a h hs ha hh
  obtain ⟨hRf, h1, h2, h3, h4, h5, h6, h7, h8, h9, h10, h11, h12, h13, h14, h15, h16⟩ := id hR
  refine kk_no (c_X11_safe hRf h3.1 h5.2.2.2.1 hs ha hh) (c_X13_safe hRf h3.2.1 h5.ra hs ha hh) ?_ hR
  rw [h5.2.2.1.1, h5.2.2.1.2]
  exact h3.w (fun K => kv_safe K (M 16) (M 17) s a h) (fun _ hK => nk_kvsafe hK)
theorem kf_gives : kF3 X Y_X11_gives Y_X13_gives := by
  intro M hR s a h hs ha hh
  obtain ⟨hRf, h1, h2, h3, h4, h5, h6, h7, h8, h9, h10, h11, h12, h13, h14, h15, h16⟩ := id hR
  refine kk_no (c_X11_gives hRf h3.1 h5.2.2.2.1 hs ha hh) (c_X13_gives hRf h3.2.1 h5.ra hs ha hh) ?_ hR
  rw [h5.2.2.1.1, h5.2.2.1.2]
  exact h3.w (fun K => kv_gives K (M 16) (M 17) s a h) (fun _ hK => nk_gives hK)
theorem kf_pulls : kF3 X Y_X11_pulls Y_X13_pulls := by
  intro M hR s a h hs ha hh
  obtain ⟨hRf, h1, h2, h3, h4, h5, h6, h7, h8, h9, h10, h11, h12, h13, h14, h15, h16⟩ := id hR
  refine kk_no (c_X11_pulls hRf h3.1 h5.2.2.2.1 h15.2 hs ha hh) (c_X13_pulls hRf h3.2.1 h5.ra (by rw [h15.1]; exact h15.2) hs ha hh) ?_ hR
  rw [h5.2.2.1.1, h15.1]
  exact h3.w (fun K => kv_pulls K (M 16) (M 0 14) s a h) (fun _ hK => nk_pulls hK)
theorem kf_winds : kF3 X Y_X11_winds Y_X13_winds := by
  intro M hR h b k hh hb hk
  obtain ⟨hRf, h1, h2, h3, h4, h5, h6, h7, h8, h9, h10, h11, h12, h13, h14, h15, h16⟩ := id hR
  refine kk_no (c_X11_winds hRf hh hb hk h5.1.2 h5.2.2.2.2.1) (c_X13_winds hRf hh hb hk (by rw [h5.1.1]; exact h5.1.2) h5.2.2.2.2.2.1) ?_ hR
  by_cases q : ks_hr h ∧ (0 ≤ b ∧ b ≤ 4) ∧ (0 ≤ k ∧ k ≤ 999)
  · rw [if_pos q, if_pos q, h5.1.1]
    refine kw_last_cg ?_
    intro i hi
    obtain ⟨g1, g2, g3, g4, g5⟩ := h5.2.2.2.2.2.2 i (by omega)
    rw [g3, g4, g5, g1]
    exact ⟨⟨fun z => ⟨by omega, z.2.2⟩, fun z => ⟨by omega, by omega, z.2⟩⟩, rfl⟩
  · rw [if_neg q, if_neg q]
theorem kf_looped : kF1Z X Y_X11_looped Y_X13_looped := by
  intro M hR x hx
  obtain ⟨hRf, h1, h2, h3, h4, h5, h6, h7, h8, h9, h10, h11, h12, h13, h14, h15, h16⟩ := id hR
  obtain ⟨g1, g2, hz, g3⟩ := id h6
  refine kkZ_no (c_X11_looped hRf hx g1) (c_X13_looped hRf hx hz g2) ?_ hR
  unfold kv_looped
  rcases g3 with z | ⟨a1, a2⟩ | ⟨a1, a2, a3, a4, a5, a6⟩
  · exact Or.inl z
  · exact Or.inr (by rw [if_pos a1, if_pos a2])
  · right
    rw [if_neg (show ¬ M 183 54 = 0 by omega), if_neg (show ¬ M 114 2 = 0 by omega), a3, a4, a5]
    by_cases q : 10 ≤ x ∧ x - 10 < M 114 2
    · rw [if_pos q, if_pos q, a6 (x - 10).toNat (by omega)]
    · rw [if_neg q, if_neg q]
theorem kf_judged : kF1 X Y_X11_judged Y_X13_judged := by
  intro M hR x hx
  obtain ⟨hRf, h1, h2, h3, h4, h5, h6, h7, h8, h9, h10, h11, h12, h13, h14, h15, h16⟩ := id hR
  obtain ⟨g1, g2, g3, g4, g5, g6, g7, g8, g9, g10, g11, g12⟩ := id h8
  refine kk_no (c_X11_judged hRf hx (by unfold mm_R; omega) g2) (c_X13_judged hRf hx g4 g5) ?_ hR
  unfold kv_judged
  by_cases q : M 117 2 = 0
  · rw [if_pos q, if_pos (g9.mp q)]
  · obtain ⟨e1, e2, e3, e4, e5⟩ := g10 q
    rw [if_neg q, if_neg (fun z => q (g9.mpr z)), e1, e2, e3, e4, e5]
theorem kf_flown : kF1 X Y_X11_flown Y_X13_flown := by
  intro M hR x hx
  obtain ⟨hRf, h1, h2, h3, h4, h5, h6, h7, h8, h9, h10, h11, h12, h13, h14, h15, h16⟩ := id hR
  obtain ⟨g1, g2, g3, g4, g5⟩ := id h10
  refine kk_no (c_X11_flown hRf hx g1 g2) (c_X13_flown hRf hx (by rw [g3]; exact g1) g4) ?_ hR
  unfold kv_flown
  rw [g3]
  rcases g1 with g | g
  · rw [if_pos g, if_pos g]
  · obtain ⟨e1, e2, e3, e4, e5⟩ := g5 g
    rw [if_neg (show ¬ M 139 3 = 0 by omega), if_neg (show ¬ M 139 3 = 0 by omega), e1, e2, e3, e4]
    by_cases q : 10 ≤ x ∧ x - 10 < M 139 4
    · rw [if_pos q, if_pos q, e5 (x - 10).toNat (by omega)]
    · rw [if_neg q, if_neg q]
theorem kf_planned : kF1Z X Y_X11_planned Y_X13_planned := by
  intro M hR x hx
  obtain ⟨hRf, h1, h2, h3, h4, h5, h6, h7, h8, h9, h10, h11, h12, h13, h14, h15, h16⟩ := id hR
  obtain ⟨g1, g2, g0, g3⟩ := id h12
  refine kkZ_no (c_X11_planned hRf hx g1 g2) (c_X13_planned hRf hx (by omega) (by unfold mm_R; omega)) ?_ hR
  rcases g3 with z | ⟨a1, a2, a3⟩ | ⟨a1, a2, a3⟩
  · exact Or.inl z
  · exact Or.inr (by rw [if_neg (by omega), if_neg (by omega)])
  · right
    rw [a1, a2]
    by_cases q : M 21 8 ≤ x ∧ x ≤ M 21 9
    · rw [if_pos q, if_pos ⟨by omega, q⟩, a3 x q.1 q.2]
    · rw [if_neg q, if_neg (fun z => q z.2)]
theorem kf_fielded : kF0 X Y_X11_fielded Y_X13_fielded := by
  intro M hR
  obtain ⟨hRf, h1, h2, h3, h4, h5, h6, h7, h8, h9, h10, h11, h12, h13, h14, h15, h16⟩ := id hR
  exact kk_no (c_X11_fielded hRf) (c_X13_fielded hRf) (by rw [h13.2.2.2.2.1]) hR
theorem kf_count : kF1 X Y_X11_count Y_X13_count := by
  intro M hR x hx
  obtain ⟨hRf, h1, h2, h3, h4, h5, h6, h7, h8, h9, h10, h11, h12, h13, h14, h15, h16⟩ := id hR
  refine kk_no (c_X11_count hRf hx) (c_X13_count hRf hx) ?_ hR
  have e0 : M 3 2 = ks_n (M 4) := h3.1.2.1
  unfold kv_count
  rw [h3.n, e0, h5.1.1, h13.2.2.2.1, h14.1.1, h16.2.2.1, h16.2.2.2.1, h11.1, h1.1]
  by_cases q : 10 ≤ x ∧ x ≤ 15
  · have e9 : (fun i : Int => M 216 i.toNat) (x - 10) = (fun i : Int => M (121 + 3 * i.toNat) 2) (x - 10) := (h9 (x - 10).toNat (by omega)).2.1
    rw [if_pos q, if_pos q, e9]
  · rw [if_neg q, if_neg q]
theorem kf_tired : kF1 X Y_X11_tired Y_X13_tired := by
  intro M hR x hx
  obtain ⟨hRf, h1, h2, h3, h4, h5, h6, h7, h8, h9, h10, h11, h12, h13, h14, h15, h16⟩ := id hR
  by_cases q : 0 ≤ x ∧ x ≤ 1000000
  · have c1 := c_X11_tired (X := X) hRf hx
    rw [if_pos q, if_pos q] at c1
    have hRf1 : mm_Rf (mm_up M 0 13 x) := hRf.up rfl
    have c2 := c_X13_tired (X := X) hRf1 hx
    rw [if_pos q, if_pos q] at c2
    have hRf2 : mm_Rf (mm_up (mm_up M 0 13 x) 183 79 x) := hRf1.up rfl
    have e : ∀ a b, ¬ ((a = 0 ∧ b = 13) ∨ (a = 183 ∧ b = 79)) → mm_up (mm_up M 0 13 x) 183 79 x a b = M a b := by
      intro a b z
      rw [mm_up_n (by omega), mm_up_n (by omega)]
    refine kk_fn c1 c2 ?_ ⟨hRf2, h1.fr (fun a b q => e a b (by omega)), h2.fr (fun a b q => e a b (by omega)), h3.fr (fun a b q => e a b (by omega)), h4.fr (fun a b q => e a b (by omega)), h5.fr (fun a b q => e a b (by omega)), h6.fr (fun a b q => e a b (by omega)), h7.fr (fun a b q => e a b (by omega)), h8.fr (fun a b q => e a b (by omega)), h9.fr (fun a b q => e a b (by omega)), h10.fr (fun a b q => e a b (by omega)), ?_, h12.fr (fun a b q => e a b (by omega)), h13.fr (fun a b q => e a b (by omega)), h14.fr (fun a b q => e a b (by omega)), h15.fr (fun a b q => e a b (by omega)), h16.fr (fun a b q => e a b (by omega))⟩
    · rw [mm_up_row (by decide)]; exact h11.1
    · refine ⟨?_, ?_⟩
      · rw [mm_up_s, mm_up_row (by decide), mm_up_s]
      · rw [mm_up_row (by decide), mm_up_s]; exact q
  · have c1 := c_X11_tired (X := X) hRf hx
    rw [if_neg q, if_neg q] at c1
    have c2 := c_X13_tired (X := X) hRf hx
    rw [if_neg q, if_neg q] at c2
    exact kk_no c1 c2 rfl hR
theorem kf_hidden : kF1 X Y_X11_hidden Y_X13_hidden := by
  intro M hR x hx
  obtain ⟨hRf, h1, h2, h3, h4, h5, h6, h7, h8, h9, h10, h11, h12, h13, h14, h15, h16⟩ := id hR
  by_cases q : 0 ≤ x ∧ x ≤ 20
  · have c1 := c_X11_hidden (X := X) hRf hx
    rw [if_pos q, if_pos q] at c1
    have hRf1 : mm_Rf (mm_up M 0 14 x) := hRf.up rfl
    have c2 := c_X13_hidden (X := X) hRf1 hx
    rw [if_pos q, if_pos q] at c2
    have hRf2 : mm_Rf (mm_up (mm_up M 0 14 x) 183 96 x) := hRf1.up rfl
    have e : ∀ a b, ¬ ((a = 0 ∧ b = 14) ∨ (a = 183 ∧ b = 96)) → mm_up (mm_up M 0 14 x) 183 96 x a b = M a b := by
      intro a b z
      rw [mm_up_n (by omega), mm_up_n (by omega)]
    refine kk_fn c1 c2 ?_ ⟨hRf2, h1.fr (fun a b q => e a b (by omega)), h2.fr (fun a b q => e a b (by omega)), h3.fr (fun a b q => e a b (by omega)), h4.fr (fun a b q => e a b (by omega)), h5.fr (fun a b q => e a b (by omega)), h6.fr (fun a b q => e a b (by omega)), h7.fr (fun a b q => e a b (by omega)), h8.fr (fun a b q => e a b (by omega)), h9.fr (fun a b q => e a b (by omega)), h10.fr (fun a b q => e a b (by omega)), h11.fr (fun a b q => e a b (by omega)), h12.fr (fun a b q => e a b (by omega)), h13.fr (fun a b q => e a b (by omega)), h14.fr (fun a b q => e a b (by omega)), ?_, h16.fr (fun a b q => e a b (by omega))⟩
    · rw [mm_up_row (by decide)]; exact h15.1
    · refine ⟨?_, ?_⟩
      · rw [mm_up_s, mm_up_row (by decide), mm_up_s]
      · rw [mm_up_row (by decide), mm_up_s]; exact q
  · have c1 := c_X11_hidden (X := X) hRf hx
    rw [if_neg q, if_neg q] at c1
    have c2 := c_X13_hidden (X := X) hRf hx
    rw [if_neg q, if_neg q] at c2
    exact kk_no c1 c2 rfl hR
end

