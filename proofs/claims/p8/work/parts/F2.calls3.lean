/-! ===== calls side by side: winds ===== -/
section
variable {K Lo Hi Lo' Hi' : Nat → Int} {h s : Int} {A : Nat → Int} {n : Nat}
theorem kb_lp.st (hK : mm_KV K) (hl : kb_lp K Lo Hi h s A n) : ∀ j, j ≤ n → ks_st K (kf_run K s A j)
  | 0, _ => hl.2.1
  | j + 1, hj => ks_to_st hK (kb_lp.st hK hl j (by omega)) (hl.2.2.1 j (by omega)).2.1
theorem kb_lp.cg (hK : mm_KV K) (hw : ∀ s, ks_st K s → ks_wi Lo' K s h = ks_wi Lo K s h ∧ ks_wi Hi' K s h = ks_wi Hi K s h) (hl : kb_lp K Lo Hi h s A n) : kb_lp K Lo' Hi' h s A n ∧ kb_sm K Lo' Hi' h s A n = kb_sm K Lo Hi h s A n := by
  refine ⟨⟨hl.1, hl.2.1, fun j hj => ⟨(hl.2.2.1 j hj).1, (hl.2.2.1 j hj).2.1, ?_⟩, hl.2.2.2⟩, ?_⟩
  · have e := hw _ (hl.st hK j (by omega))
    have q := (hl.2.2.1 j hj).2.2
    rw [e.1, e.2]
    exact q
  · unfold kb_sm
    refine ka_sum_congr ?_
    intro j hj
    have e := hw _ (hl.st hK j (by omega))
    unfold kj_g ks_sure
    rw [e.1, e.2]
theorem kb_is.cg {len worth : Int} {S : Nat → Int} (hK : mm_KV K) (hw : ∀ s, ks_st K s → ks_wi Lo' K s h = ks_wi Lo K s h ∧ ks_wi Hi' K s h = ks_wi Hi K s h) (hl : kb_is K Lo Hi h len worth A S) : kb_is K Lo' Hi' h len worth A S := by
  have hw' : ∀ s, ks_st K s → ks_wi Lo K s h = ks_wi Lo' K s h ∧ ks_wi Hi K s h = ks_wi Hi' K s h := fun s hs => ⟨(hw s hs).1.symm, (hw s hs).2.symm⟩
  rcases hl with ⟨h1, h2⟩ | ⟨n, h1, h2, h3, h4, h5, h6⟩
  · exact Or.inl ⟨h1, fun s B n q => h2 s B n (q.cg hK hw').1⟩
  · refine Or.inr ⟨n, h1, h2, (h3.cg hK hw).1, ?_, h5, ?_⟩
    · rw [(h3.cg hK hw).2]; exact h4
    · intro s B m q
      have := q.cg hK hw'
      rw [← this.2]
      exact h6 s B m this.1
end
section
variable {X : mm_X}
theorem kf_wind : kF5 X Y_X11_wind Y_X13_wind := by
  intro M hR t h b lo hi ht hh hb hlo hhi
  obtain ⟨hRf, h1, h2, h3, h4, h5, h6, h7, h8, h9, h10, h11, h12, h13, h14, h15, h16⟩ := id hR
  obtain ⟨g1, g2, g3, g4, g5, g6, g7⟩ := id h5
  have c1 := c_X11_wind (X := X) hRf ht hh hb hlo hhi g2.2 g1.2
  by_cases q : kw_ok (M 11 2) t h b lo hi ∧ M 11 1 < 200
  · rw [if_pos q, if_pos q.1, if_neg (by omega)] at c1
    obtain ⟨⟨qt, qh, qb, ql⟩, qn⟩ := id q
    obtain ⟨n, hn⟩ : ∃ n, n = (M 11 1).toNat := ⟨_, rfl⟩
    have hni : M 11 1 = (n : Int) := by omega
    obtain ⟨w, hw⟩ : ∃ w, w = (h * 5 + b).toNat := ⟨_, rfl⟩
    obtain ⟨M1, hM1⟩ : ∃ N, N = mm_up (mw_take M t h b lo hi) 23 h.toNat 0 := ⟨_, rfl⟩
    rw [← hM1] at c1
    unfold mw_take at hM1
    rw [hni, Int.toNat_natCast, ← hw] at hM1
    have o1 : ∀ x y, ¬ ((x = 11 ∧ 1 ≤ y ∧ y ≤ 2) ∨ (12 ≤ x ∧ x ≤ 15 ∧ y = n) ∨ (16 ≤ x ∧ x ≤ 17 ∧ y = w) ∨ (x = 23 ∧ y = h.toNat)) → M1 x y = M x y := by
      intro x y z
      rw [hM1, mm_up_n (by omega), mm_up_n (by omega), mm_up_n (by omega), mm_up_n (by omega), mm_up_n (by omega), mm_up_n (by omega), mm_up_n (by omega), mm_up_n (by omega), mm_up_n (by omega)]
    have hRf1 : mm_Rf M1 := by
      intro x y hxy
      by_cases z : (x = 11 ∧ 1 ≤ y ∧ y ≤ 2) ∨ (12 ≤ x ∧ x ≤ 15 ∧ y = n) ∨ (16 ≤ x ∧ x ≤ 17 ∧ y = w) ∨ (x = 23 ∧ y = h.toNat)
      · exfalso
        apply hxy
        rcases (show (x = 11 ∧ y = 1) ∨ (x = 11 ∧ y = 2) ∨ x = 12 ∨ x = 13 ∨ x = 14 ∨ x = 15 ∨ x = 16 ∨ x = 17 ∨ x = 23 by omega) with ⟨z, z'⟩ | ⟨z, z'⟩ | z | z | z | z | z | z | z
        · rw [z, z']; rfl
        · rw [z, z']; rfl
        · rw [z]; exact mm_rt_ar (t := 0) rfl (by decide)
        · rw [z]; exact mm_rt_ar (t := 0) rfl (by decide)
        · rw [z]; exact mm_rt_ar (t := 0) rfl (by decide)
        · rw [z]; exact mm_rt_ar (t := 0) rfl (by decide)
        · rw [z]; exact mm_rt_ar (t := 0) rfl (by decide)
        · rw [z]; exact mm_rt_ar (t := 0) rfl (by decide)
        · rw [z]; exact mm_rt_ar (t := 2) rfl (by decide)
      · rw [o1 x y z]; exact hRf x y hxy
    have l1 : M1 183 27 = (n : Int) := by rw [o1 183 27 (by omega), g1.1]; exact hni
    have l2 : M1 183 28 = M 11 2 := by rw [o1 183 28 (by omega)]; exact g2.1
    have c2 := c_X13_wind (X := X) hRf1 ht hh hb hlo hhi (by rw [l2]; exact g2.2) (by rw [l1]; omega)
    rw [l2, l1, if_pos q.1, if_neg (by omega), if_pos (And.intro q.1 (by omega))] at c2
    obtain ⟨M2, hM2⟩ : ∃ N, N = mw_takeR M1 t h b lo hi := ⟨_, rfl⟩
    rw [← hM2] at c2
    unfold mw_takeR at hM2
    rw [l1, Int.toNat_natCast, show (5 * h + b).toNat = w by rw [hw]; congr 1; omega] at hM2
    have o2 : ∀ x y, ¬ ((x = 183 ∧ 27 ≤ y ∧ y ≤ 28) ∨ (198 ≤ x ∧ x ≤ 202 ∧ y = n) ∨ (203 ≤ x ∧ x ≤ 204 ∧ y = w)) → M2 x y = M1 x y := by
      intro x y z
      rw [hM2, mm_up_n (by omega), mm_up_n (by omega), mm_up_n (by omega), mm_up_n (by omega), mm_up_n (by omega), mm_up_n (by omega), mm_up_n (by omega), mm_up_n (by omega), mm_up_n (by omega)]
    have hRf2 : mm_Rf M2 := by
      intro x y hxy
      by_cases z : (x = 183 ∧ 27 ≤ y ∧ y ≤ 28) ∨ (198 ≤ x ∧ x ≤ 202 ∧ y = n) ∨ (203 ≤ x ∧ x ≤ 204 ∧ y = w)
      · exfalso
        apply hxy
        rcases (show (x = 183 ∧ y = 27) ∨ (x = 183 ∧ y = 28) ∨ x = 198 ∨ x = 199 ∨ x = 200 ∨ x = 201 ∨ x = 202 ∨ x = 203 ∨ x = 204 by omega) with ⟨z, z'⟩ | ⟨z, z'⟩ | z | z | z | z | z | z | z
        · rw [z, z']; rfl
        · rw [z, z']; rfl
        · rw [z]; exact mm_rt_ar (t := 0) rfl (by decide)
        · rw [z]; exact mm_rt_ar (t := 0) rfl (by decide)
        · rw [z]; exact mm_rt_ar (t := 0) rfl (by decide)
        · rw [z]; exact mm_rt_ar (t := 0) rfl (by decide)
        · rw [z]; exact mm_rt_ar (t := 0) rfl (by decide)
        · rw [z]; exact mm_rt_ar (t := 0) rfl (by decide)
        · rw [z]; exact mm_rt_ar (t := 0) rfl (by decide)
      · rw [o2 x y z]; exact hRf1 x y hxy
    have e : ∀ x y, ¬ ((x = 11 ∧ 1 ≤ y ∧ y ≤ 2) ∨ (12 ≤ x ∧ x ≤ 17) ∨ x = 23 ∨ (x = 183 ∧ 27 ≤ y ∧ y ≤ 28) ∨ (198 ≤ x ∧ x ≤ 204)) → M2 x y = M x y := by
      intro x y z; rw [o2 x y (by omega), o1 x y (by omega)]
    have a11 : M2 11 1 = (n : Int) + 1 := by
      rw [o2 11 1 (by omega), hM1, mm_up_row (by decide), mm_up_s]
    have a12 : M2 11 2 = t := by
      rw [o2 11 2 (by omega), hM1, mm_up_row (by decide), mm_up_i (by decide), mm_up_s]
    have b27 : M2 183 27 = (n : Int) + 1 := by
      rw [hM2, mm_up_row (by decide), mm_up_row (by decide), mm_up_s]
    have b28 : M2 183 28 = t := by
      rw [hM2, mm_up_row (by decide), mm_up_row (by decide), mm_up_i (by decide), mm_up_row (by decide), mm_up_row (by decide), mm_up_row (by decide), mm_up_row (by decide), mm_up_row (by decide), mm_up_s]
    have cl : ∀ p, M2 16 p = (if p = w then lo else M 16 p) ∧ M2 17 p = (if p = w then hi else M 17 p) ∧ M2 203 p = (if p = w then lo else M 203 p) ∧ M2 204 p = (if p = w then hi else M 204 p) := by
      intro p
      by_cases pw : p = w
      · rw [pw, if_pos rfl, if_pos rfl, if_pos rfl, if_pos rfl]
        refine ⟨?_, ?_, ?_, ?_⟩
        · rw [o2 16 w (by omega), hM1, mm_up_row (by decide), mm_up_row (by decide), mm_up_row (by decide), mm_up_row (by decide), mm_up_row (by decide), mm_up_row (by decide), mm_up_row (by decide), mm_up_row (by decide), mm_up_s]
        · rw [o2 17 w (by omega), hM1, mm_up_row (by decide), mm_up_row (by decide), mm_up_row (by decide), mm_up_row (by decide), mm_up_row (by decide), mm_up_row (by decide), mm_up_row (by decide), mm_up_s]
        · rw [hM2, mm_up_row (by decide), mm_up_s]
        · rw [hM2, mm_up_s]
      · rw [if_neg pw, if_neg pw, if_neg pw, if_neg pw]
        exact ⟨by rw [o2 16 p (by omega), o1 16 p (by omega)], by rw [o2 17 p (by omega), o1 17 p (by omega)], by rw [o2 203 p (by omega), o1 203 p (by omega)], by rw [o2 204 p (by omega), o1 204 p (by omega)]⟩
    have hr12 : M2 12 n = t ∧ M2 13 n = h * 5 + b ∧ M2 14 n = lo ∧ M2 15 n = hi := by
      refine ⟨?_, ?_, ?_, ?_⟩
      · rw [o2 12 n (by omega), hM1, mm_up_row (by decide), mm_up_row (by decide), mm_up_row (by decide), mm_up_row (by decide), mm_up_row (by decide), mm_up_row (by decide), mm_up_s]
      · rw [o2 13 n (by omega), hM1, mm_up_row (by decide), mm_up_row (by decide), mm_up_row (by decide), mm_up_row (by decide), mm_up_row (by decide), mm_up_s]
      · rw [o2 14 n (by omega), hM1, mm_up_row (by decide), mm_up_row (by decide), mm_up_row (by decide), mm_up_row (by decide), mm_up_s]
      · rw [o2 15 n (by omega), hM1, mm_up_row (by decide), mm_up_row (by decide), mm_up_row (by decide), mm_up_s]
    have hr198 : M2 198 n = h ∧ M2 199 n = b ∧ M2 200 n = lo ∧ M2 201 n = hi ∧ M2 202 n = t := by
      refine ⟨?_, ?_, ?_, ?_, ?_⟩
      · rw [hM2, mm_up_row (by decide), mm_up_row (by decide), mm_up_row (by decide), mm_up_row (by decide), mm_up_row (by decide), mm_up_row (by decide), mm_up_row (by decide), mm_up_s]
      · rw [hM2, mm_up_row (by decide), mm_up_row (by decide), mm_up_row (by decide), mm_up_row (by decide), mm_up_row (by decide), mm_up_row (by decide), mm_up_s]
      · rw [hM2, mm_up_row (by decide), mm_up_row (by decide), mm_up_row (by decide), mm_up_row (by decide), mm_up_row (by decide), mm_up_s]
      · rw [hM2, mm_up_row (by decide), mm_up_row (by decide), mm_up_row (by decide), mm_up_row (by decide), mm_up_s]
      · rw [hM2, mm_up_row (by decide), mm_up_row (by decide), mm_up_row (by decide), mm_up_s]
    have old : ∀ x i, (12 ≤ x ∧ x ≤ 15) ∨ (198 ≤ x ∧ x ≤ 202) → i ≠ n → M2 x i = M x i := by
      intro x i z1 z2; rw [o2 x i (by omega), o1 x i (by omega)]
    have RR : ∀ z : Int, -1000 ≤ z → z ≤ 1000 → mm_R z := by intro z z1 z2; unfold mm_R; omega
    refine kk_fn c1 c2 (by rw [hni]) ⟨hRf2, h1.fr (fun a b q => e a b (by omega)), h2.fr (fun a b q => e a b (by omega)), h3.fr (fun a b q => e a b (by omega)), h4.fr (fun a b q => e a b (by omega)), ?_, h6.fr (fun a b q => e a b (by omega)), ?_, h8.fr (fun a b q => e a b (by omega)), h9.fr (fun a b q => e a b (by omega)), h10.fr (fun a b q => e a b (by omega)), h11.fr (fun a b q => e a b (by omega)), h12.fr (fun a b q => e a b (by omega)), h13.fr (fun a b q => e a b (by omega)), h14.fr (fun a b q => e a b (by omega)), h15.fr (fun a b q => e a b (by omega)), h16.fr (fun a b q => e a b (by omega))⟩
    · refine ⟨⟨by rw [a11, b27], by rw [a11]; omega⟩, ⟨by rw [a12, b28], by rw [a12]; omega⟩, ⟨?_, ?_⟩, ?_, ?_, ?_, ?_⟩
      · funext p; rw [(cl p).2.2.1, (cl p).1, g3.1]
      · funext p; rw [(cl p).2.2.2, (cl p).2.1, g3.2]
      · intro p hp
        have := g4 p hp
        rw [(cl p).1, (cl p).2.1]
        split <;> omega
      · intro i hi'
        by_cases z : i = n
        · rw [z, hr12.1, hr12.2.1]; exact ⟨RR _ (by omega) (by omega), RR _ (by omega) (by omega)⟩
        · rw [old 13 i (by omega) z, old 12 i (by omega) z]; exact g5 i hi'
      · intro i hi'
        by_cases z : i = n
        · rw [z, hr198.1, hr198.2.1, hr198.2.2.2.2]; exact ⟨RR _ (by omega) (by omega), RR _ (by omega) (by omega), RR _ (by omega) (by omega)⟩
        · rw [old 198 i (by omega) z, old 199 i (by omega) z, old 202 i (by omega) z]; exact g6 i hi'
      · intro i hi'
        by_cases z : i = n
        · obtain ⟨y1, y2, y3, y4⟩ := hr12
          obtain ⟨x1, x2, x3, x4, x5⟩ := hr198
          rw [z, y1, y2, y3, y4, x1, x2, x3, x4, x5]
          exact ⟨rfl, qb, rfl, rfl, rfl⟩
        · rw [a11] at hi'
          rw [old 13 i (by omega) z, old 12 i (by omega) z, old 14 i (by omega) z, old 15 i (by omega) z, old 198 i (by omega) z, old 199 i (by omega) z, old 200 i (by omega) z, old 201 i (by omega) z, old 202 i (by omega) z]
          exact g7 i (by omega)
    · intro k hk
      have u4 : M2 4 = M 4 := funext fun y => e 4 y (by omega)
      have ur : ∀ x, 42 ≤ x → x ≤ 113 → M2 x = M x := fun x x1 x2 => funext fun y => e x y (by omega)
      obtain ⟨k1, k2, k3⟩ := h7 k hk
      rw [ur (42 + 3 * k) (by omega) (by omega), ur (42 + 3 * k + 1) (by omega) (by omega), ur (42 + 3 * k + 2) (by omega) (by omega), u4]
      by_cases z : k = h.toNat
      · have u23 : M2 23 k = 0 := by rw [z, o2 23 h.toNat (by omega), hM1, mm_up_s]
        rw [u23]
        exact ⟨Or.inl rfl, k2, fun y => absurd y (by decide)⟩
      · have u23 : M2 23 k = M 23 k := by rw [o2 23 k (by omega), o1 23 k (by omega)]
        rw [u23]
        refine ⟨k1, k2, fun y => ⟨(k3 y).1, (k3 y).2.imp id (fun q => q.cg h3.1.1 ?_)⟩⟩
        intro s hs
        have bd := ks_bandb h3.1.1 hs
        unfold ks_wi ks_pl
        rw [(cl _).1, (cl _).2.1, if_neg (by omega), if_neg (by omega)]
        exact ⟨rfl, rfl⟩
  · rw [if_neg q] at c1
    have c2 := c_X13_wind (X := X) hRf ht hh hb hlo hhi (by rw [g2.1]; exact g2.2) (by rw [g1.1]; exact g1.2)
    rw [g2.1, g1.1, if_neg q] at c2
    exact kk_no c1 c2 rfl hR
end

