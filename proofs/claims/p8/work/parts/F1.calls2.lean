/-! ===== calls side by side: the tape, laws ===== -/
def kb_row (r : Nat → Int) (L v : Int) (j : Nat) : Nat → Int := fun b => if L.toNat ≤ b ∧ b < L.toNat + j then kb v (24 - 8 * ((b : Int) - L)) else r b
theorem kb_add_r {bc lc li j : Nat} {M : mm_M} {v : Int} (h : bc ≠ lc) : kb_add bc lc li M v j bc = kb_row (M bc) (M lc li) v j := by
  funext b
  unfold kb_add kb_row
  rw [if_neg (fun q => h q.1)]
  by_cases q : (M lc li).toNat ≤ b ∧ b < (M lc li).toNat + j
  · rw [if_pos ⟨rfl, q⟩, if_pos q]
  · rw [if_neg (fun z => q z.2), if_neg q]
theorem kb_add_o {bc lc li j a b : Nat} {M : mm_M} {v : Int} (h1 : ¬ (a = lc ∧ b = li)) (h2 : a ≠ bc) : kb_add bc lc li M v j a b = M a b := by
  unfold kb_add
  rw [if_neg h1, if_neg (fun q => h2 q.1)]
def kb_row5 (r : Nat → Int) (L a b c d e : Int) : Nat → Int := kb_row (kb_row (kb_row (kb_row (kb_row r L a 4) (L + 4) b 4) (L + 4 + 4) c 4) (L + 4 + 4 + 4) d 4) (L + 4 + 4 + 4 + 4) e 4
theorem kb_feed_r {bc lc li : Nat} {M : mm_M} {a b c d e : Int} (h : bc ≠ lc) : kb_feed bc lc li M a b c d e bc = kb_row5 (M bc) (M lc li) a b c d e ∧ kb_feed bc lc li M a b c d e lc li = M lc li + 4 + 4 + 4 + 4 + 4 := by
  have l1 : kb_add bc lc li M a 4 lc li = M lc li + 4 := kb_add_l
  have l2 : kb_add bc lc li (kb_add bc lc li M a 4) b 4 lc li = M lc li + 4 + 4 := by rw [kb_add_l, l1]; rfl
  have l3 : kb_add bc lc li (kb_add bc lc li (kb_add bc lc li M a 4) b 4) c 4 lc li = M lc li + 4 + 4 + 4 := by rw [kb_add_l, l2]; rfl
  have l4 : kb_add bc lc li (kb_add bc lc li (kb_add bc lc li (kb_add bc lc li M a 4) b 4) c 4) d 4 lc li = M lc li + 4 + 4 + 4 + 4 := by rw [kb_add_l, l3]; rfl
  unfold kb_feed kb_row5
  refine ⟨?_, by rw [kb_add_l, l4]; rfl⟩
  rw [kb_add_r h, kb_add_r h, kb_add_r h, kb_add_r h, kb_add_r h, l1, l2, l3, l4]
theorem kb_feed_o {bc lc li x y : Nat} {M : mm_M} {a b c d e : Int} (h1 : ¬ (x = lc ∧ y = li)) (h2 : x ≠ bc) : kb_feed bc lc li M a b c d e x y = M x y := by
  unfold kb_feed
  rw [kb_add_o h1 h2, kb_add_o h1 h2, kb_add_o h1 h2, kb_add_o h1 h2, kb_add_o h1 h2]
theorem kb_row_b {r : Nat → Int} {L v : Int} {j : Nat} (h : ∀ k : Nat, k < 800 → -128 ≤ r k ∧ r k ≤ 127) : ∀ k : Nat, k < 800 → -128 ≤ kb_row r L v j k ∧ kb_row r L v j k ≤ 127 := by
  intro k hk
  unfold kb_row
  split
  · exact kb_b _ _
  · exact h k hk
theorem mm_Rf.kbf {M : mm_M} (h : mm_Rf M) {bc lc li len : Nat} {a b c d e : Int} (hb : mm_sh bc = (2, len)) (hl : mm_rt lc li = 0) : mm_Rf (kb_feed bc lc li M a b c d e) := by
  unfold kb_feed
  exact ((((h.kb hb hl).kb hb hl).kb hb hl).kb hb hl).kb hb hl
section
variable {X : mm_X}
theorem kf_feed : kF5 X Y_X11_feed Y_X13_feed := by
  intro M hR a b c d e _ _ _ _ _
  obtain ⟨hRf, h1, h2, h3, h4, h5, h6, h7, h8, h9, h10, h11, h12, h13, h14, h15, h16⟩ := id hR
  by_cases q : M 1 1 + 20 ≤ 800
  · have c1 := c_X11_feed (X := X) (a := a) (b := b) (c := c) (d := d) (e := e) hRf h1.2.1
    rw [if_pos q, if_pos q] at c1
    obtain ⟨M1, hM1⟩ : ∃ N, N = kb_feed 2 1 1 M a b c d e := ⟨_, rfl⟩
    rw [← hM1] at c1
    have hRf1 : mm_Rf M1 := by rw [hM1]; exact hRf.kbf (len := 800) rfl rfl
    have o1 : ∀ x y, ¬ (x = 1 ∧ y = 1) → x ≠ 2 → M1 x y = M x y := by intro x y z1 z2; rw [hM1]; exact kb_feed_o z1 z2
    have r1 := kb_feed_r (bc := 2) (lc := 1) (li := 1) (M := M) (a := a) (b := b) (c := c) (d := d) (e := e) (by decide)
    rw [← hM1] at r1
    have l1 : M1 183 2 = M 1 1 := by rw [o1 183 2 (by omega) (by omega)]; exact h1.1
    have c2 := c_X13_feed (X := X) (M := M1) (a := a) (b := b) (c := c) (d := d) (e := e) hRf1 (by rw [l1]; exact h1.2.1)
    rw [l1, if_pos q, if_pos q] at c2
    obtain ⟨M2, hM2⟩ : ∃ N, N = kb_feed 185 183 2 M1 a b c d e := ⟨_, rfl⟩
    rw [← hM2] at c2
    have hRf2 : mm_Rf M2 := by rw [hM2]; exact hRf1.kbf (len := 800) rfl rfl
    have o2 : ∀ x y, ¬ (x = 183 ∧ y = 2) → x ≠ 185 → M2 x y = M1 x y := by intro x y z1 z2; rw [hM2]; exact kb_feed_o z1 z2
    have r2 := kb_feed_r (bc := 185) (lc := 183) (li := 2) (M := M1) (a := a) (b := b) (c := c) (d := d) (e := e) (by decide)
    rw [← hM2] at r2
    have e : ∀ x y, ¬ ((x = 1 ∧ y = 1) ∨ x = 2 ∨ (x = 183 ∧ y = 2) ∨ x = 185) → M2 x y = M x y := by
      intro x y z
      rw [o2 x y (by omega) (by omega), o1 x y (by omega) (by omega)]
    have e185 : M1 185 = M 185 := funext fun y => o1 185 y (by omega) (by omega)
    have e2 : M2 2 = M1 2 := funext fun y => o2 2 y (by omega) (by omega)
    have e11 : M2 1 1 = M1 1 1 := o2 1 1 (by omega) (by omega)
    refine kk_fn c1 c2 rfl ⟨hRf2, ?_, h2.fr (fun a b q => e a b (by omega)), h3.fr (fun a b q => e a b (by omega)), h4.fr (fun a b q => e a b (by omega)), h5.fr (fun a b q => e a b (by omega)), h6.fr (fun a b q => e a b (by omega)), h7.fr (fun a b q => e a b (by omega)), h8.fr (fun a b q => e a b (by omega)), h9.fr (fun a b q => e a b (by omega)), h10.fr (fun a b q => e a b (by omega)), h11.fr (fun a b q => e a b (by omega)), h12.fr (fun a b q => e a b (by omega)), h13.fr (fun a b q => e a b (by omega)), h14.fr (fun a b q => e a b (by omega)), h15.fr (fun a b q => e a b (by omega)), h16.fr (fun a b q => e a b (by omega))⟩
    refine ⟨?_, ?_, ?_, ?_⟩
    · rw [r2.2, e11, r1.2, l1]
    · rw [e11, r1.2]; have := h1.2.1; omega
    · rw [r2.1, e2, r1.1, e185, l1, h1.2.2.1]
    · rw [e2, r1.1]
      unfold kb_row5
      exact kb_row_b (kb_row_b (kb_row_b (kb_row_b (kb_row_b h1.2.2.2))))
  · have c1 := c_X11_feed (X := X) (a := a) (b := b) (c := c) (d := d) (e := e) hRf h1.2.1
    rw [if_neg q, if_neg q] at c1
    have c2 := c_X13_feed (X := X) (a := a) (b := b) (c := c) (d := d) (e := e) hRf (by rw [h1.1]; exact h1.2.1)
    rw [h1.1, if_neg q, if_neg q] at c2
    exact kk_no c1 c2 rfl hR
theorem kf_end : kF1 X Y_X11_end Y_X13_end := by
  intro M hR x hx
  obtain ⟨hRf, h1, h2, h3, h4, h5, h6, h7, h8, h9, h10, h11, h12, h13, h14, h15, h16⟩ := id hR
  by_cases q : 0 ≤ x ∧ x ≤ M 1 1
  · have c1 := c_X11_end (X := X) hRf hx h1.2.1
    rw [if_pos q, if_pos q] at c1
    have hRf1 : mm_Rf (mm_up M 1 1 x) := hRf.up rfl
    have l1 : mm_up M 1 1 x 183 2 = M 1 1 := by rw [mm_up_row (by decide)]; exact h1.1
    have c2 := c_X13_end (X := X) hRf1 hx (by rw [l1]; exact h1.2.1)
    rw [l1, if_pos q, if_pos q] at c2
    have hRf2 : mm_Rf (mm_up (mm_up M 1 1 x) 183 2 x) := hRf1.up rfl
    have e : ∀ a b, ¬ ((a = 1 ∧ b = 1) ∨ (a = 183 ∧ b = 2)) → mm_up (mm_up M 1 1 x) 183 2 x a b = M a b := by
      intro a b z
      rw [mm_up_n (by omega), mm_up_n (by omega)]
    refine kk_fn c1 c2 rfl ⟨hRf2, ?_, h2.fr (fun a b q => e a b (by omega)), h3.fr (fun a b q => e a b (by omega)), h4.fr (fun a b q => e a b (by omega)), h5.fr (fun a b q => e a b (by omega)), h6.fr (fun a b q => e a b (by omega)), h7.fr (fun a b q => e a b (by omega)), h8.fr (fun a b q => e a b (by omega)), h9.fr (fun a b q => e a b (by omega)), h10.fr (fun a b q => e a b (by omega)), h11.fr (fun a b q => e a b (by omega)), h12.fr (fun a b q => e a b (by omega)), h13.fr (fun a b q => e a b (by omega)), h14.fr (fun a b q => e a b (by omega)), h15.fr (fun a b q => e a b (by omega)), h16.fr (fun a b q => e a b (by omega))⟩
    refine ⟨?_, ?_, ?_, ?_⟩
    · rw [mm_up_s, mm_up_row (by decide), mm_up_s]
    · rw [mm_up_row (by decide), mm_up_s]; have := h1.2.1; omega
    · rw [mm_up_row (by decide), mm_up_row (by decide), mm_up_row (by decide), mm_up_row (by decide)]; exact h1.2.2.1
    · rw [mm_up_row (by decide), mm_up_row (by decide)]; exact h1.2.2.2
  · have c1 := c_X11_end (X := X) hRf hx h1.2.1
    rw [if_neg q, if_neg q] at c1
    have c2 := c_X13_end (X := X) hRf hx (by rw [h1.1]; exact h1.2.1)
    rw [h1.1, if_neg q, if_neg q] at c2
    exact kk_no c1 c2 rfl hR
theorem kf_law : kF3 X Y_X11_law Y_X13_law := by
  intro M hR fr to x hf ht hx
  obtain ⟨hRf, h1, h2, h3, h4, h5, h6, h7, h8, h9, h10, h11, h12, h13, h14, h15, h16⟩ := id hR
  obtain ⟨g1, g2, g3, g4⟩ := id h14
  have c1 := c_X11_law (X := X) hRf hf ht hx g2 g1.2
  by_cases q : ((0 ≤ fr ∧ fr ≤ to ∧ to ≤ 23) ∧ 0 ≤ x ∧ x ≤ 9999) ∧ M 172 0 < 10
  · rw [if_pos q, if_pos q.1, if_pos q.2] at c1
    obtain ⟨M1, hM1⟩ : ∃ N, N = mm_up (fun a b => if a = 173 then kw_roofs (M 173) fr to x b else M a b) 172 0 (M 172 0 + 1) := ⟨_, rfl⟩
    rw [← hM1] at c1
    have o1 : ∀ a b, ¬ (a = 172 ∧ b = 0) → a ≠ 173 → M1 a b = M a b := by intro a b z1 z2; rw [hM1, mm_up_n z1, if_neg z2]
    have e173 : M1 173 = kw_roofs (M 173) fr to x := by rw [hM1, mm_up_row (by decide)]; funext b; rw [if_pos rfl]
    have e172 : M1 172 0 = M 172 0 + 1 := by rw [hM1, mm_up_s]
    have hRf1 : mm_Rf M1 := by
      intro a b hab
      by_cases z1 : a = 172 ∧ b = 0
      · exact absurd (by rw [z1.1, z1.2]; rfl) hab
      · by_cases z2 : a = 173
        · exact absurd (by rw [z2]; exact mm_rt_ar (t := 0) rfl (by decide)) hab
        · rw [o1 a b z1 z2]; exact hRf a b hab
    have l1 : M1 183 92 = M 172 0 := by rw [o1 183 92 (by omega) (by decide)]; exact g1.1
    have c2 := c_X13_law (X := X) hRf1 hf ht hx (by rw [l1]; exact g1.2)
    rw [l1, if_pos q, if_pos q.1, if_pos q.2] at c2
    obtain ⟨n, hn⟩ : ∃ n, n = (M 172 0).toNat := ⟨_, rfl⟩
    have hni : M 172 0 = (n : Int) := by omega
    rw [hni, Int.toNat_natCast] at c2
    obtain ⟨M2, hM2⟩ : ∃ N, N = mm_up (mm_up (mm_up (mm_up M1 230 n fr) 231 n to) 232 n x) 183 92 ((n : Int) + 1) := ⟨_, rfl⟩
    rw [← hM2] at c2
    have hRf2 : mm_Rf M2 := by rw [hM2]; exact (((hRf1.up (mm_rt_ar (t := 0) rfl (by decide))).up (mm_rt_ar (t := 0) rfl (by decide))).up (mm_rt_ar (t := 0) rfl (by decide))).up rfl
    have o2 : ∀ a b, ¬ ((a = 183 ∧ b = 92) ∨ (230 ≤ a ∧ a ≤ 232 ∧ b = n)) → M2 a b = M1 a b := by
      intro a b z; rw [hM2, mm_up_n (by omega), mm_up_n (by omega), mm_up_n (by omega), mm_up_n (by omega)]
    have v230 : M2 230 n = fr := by rw [hM2, mm_up_row (by decide), mm_up_row (by decide), mm_up_row (by decide), mm_up_s]
    have v231 : M2 231 n = to := by rw [hM2, mm_up_row (by decide), mm_up_row (by decide), mm_up_s]
    have v232 : M2 232 n = x := by rw [hM2, mm_up_row (by decide), mm_up_s]
    have v92 : M2 183 92 = (n : Int) + 1 := by rw [hM2, mm_up_s]
    have e : ∀ a b, ¬ ((a = 172 ∧ b = 0) ∨ a = 173 ∨ (a = 183 ∧ b = 92) ∨ (230 ≤ a ∧ a ≤ 232)) → M2 a b = M a b := by
      intro a b z; rw [o2 a b (by omega), o1 a b (by omega) (by omega)]
    have f173 : M2 173 = kw_roofs (M 173) fr to x := by rw [← e173]; funext b; exact o2 173 b (by omega)
    have f172 : M2 172 0 = M 172 0 + 1 := by rw [o2 172 0 (by omega)]; exact e172
    have old : ∀ a i, 230 ≤ a → a ≤ 232 → i ≠ n → M2 a i = M a i := by intro a i a1 a2 hi; rw [o2 a i (by omega), o1 a i (by omega) (by omega)]
    refine kk_fn c1 c2 (by rw [hni]) ⟨hRf2, h1.fr (fun a b q => e a b (by omega)), h2.fr (fun a b q => e a b (by omega)), h3.fr (fun a b q => e a b (by omega)), h4.fr (fun a b q => e a b (by omega)), h5.fr (fun a b q => e a b (by omega)), h6.fr (fun a b q => e a b (by omega)), h7.fr (fun a b q => e a b (by omega)), h8.fr (fun a b q => e a b (by omega)), h9.fr (fun a b q => e a b (by omega)), h10.fr (fun a b q => e a b (by omega)), h11.fr (fun a b q => e a b (by omega)), h12.fr (fun a b q => e a b (by omega)), h13.fr (fun a b q => e a b (by omega)), ?_, h15.fr (fun a b q => e a b (by omega)), h16.fr (fun a b q => e a b (by omega))⟩
    refine ⟨⟨by rw [v92, f172, hni], by rw [f172]; omega⟩, ?_, ?_, ?_⟩
    · intro i hi
      rw [f173]
      have := g2 i hi
      unfold kw_roofs mm_R at *
      split <;> omega
    · intro hr htt p1 p2 p3
      have old' := g3 hr htt p1 p2 p3
      rw [f173, v92]
      unfold kl_one at old' ⊢
      rw [g1.1, hni] at old'
      unfold kw_roofs
      constructor
      · rintro ⟨j, hj, z⟩
        by_cases jn : j = n
        · subst jn
          rw [v230, v231, v232] at z
          rw [if_pos (by omega)]; omega
        · rw [old 230 j (by decide) (by decide) jn, old 231 j (by decide) (by decide) jn, old 232 j (by decide) (by decide) jn] at z
          have := old'.mp ⟨j, by omega, z⟩
          split <;> omega
      · intro z
        by_cases w : fr ≤ (hr : Int) ∧ (hr : Int) ≤ to
        · rw [if_pos w] at z
          by_cases w2 : M 173 hr < htt
          · obtain ⟨j, hj, zz⟩ := old'.mpr w2
            refine ⟨j, by omega, ?_⟩
            rw [old 230 j (by decide) (by decide) (by omega), old 231 j (by decide) (by decide) (by omega), old 232 j (by decide) (by decide) (by omega)]
            exact zz
          · refine ⟨n, by omega, ?_⟩
            rw [v230, v231, v232]
            omega
        · rw [if_neg w] at z
          obtain ⟨j, hj, zz⟩ := old'.mpr z
          refine ⟨j, by omega, ?_⟩
          rw [old 230 j (by decide) (by decide) (by omega), old 231 j (by decide) (by decide) (by omega), old 232 j (by decide) (by decide) (by omega)]
          exact zz
    · intro i hi
      by_cases jn : i = n
      · subst jn
        rw [v230, v231, v232]; exact ⟨hf, ht, hx⟩
      · rw [old 230 i (by decide) (by decide) jn, old 231 i (by decide) (by decide) jn, old 232 i (by decide) (by decide) jn]; exact g4 i hi
  · have c2 := c_X13_law (X := X) hRf hf ht hx (by rw [g1.1]; exact g1.2)
    rw [g1.1, if_neg q] at c2
    rw [if_neg q] at c1
    exact kk_no c1 c2 rfl hR
end

