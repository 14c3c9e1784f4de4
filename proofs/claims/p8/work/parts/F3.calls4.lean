/-! ===== calls side by side: readings ===== -/
theorem kc_n_cg {f g : Nat → Int} {v : Int} : ∀ {n : Nat}, (∀ i, i < n → f i = g i) → kc_n f v n = kc_n g v n
  | 0, _ => rfl
  | n + 1, h => by unfold kc_n; rw [kc_n_cg (fun i hi => h i (by omega)), h n (by omega)]
section
variable {X : mm_X}
theorem kf_read : kF6 X Y_X11_read Y_X13_read := by
  intro M hR t s a h lo hi ht hs ha hh hlo hhi
  obtain ⟨hRf, h1, h2, h3, h4, h5, h6, h7, h8, h9, h10, h11, h12, h13, h14, h15, h16⟩ := id hR
  obtain ⟨⟨v1, v2, v3, v4⟩, ⟨w1, w2, w3, w4⟩, g1, g2, g3, g4, g5⟩ := id h16
  have c1 := c_X11_read (X := X) hRf h3.1 ht hs ha hh hlo hhi g3.2 v1
  have kk3 : ∀ L, kr_ok (mm_rk M) L t s a h lo hi ↔ kr_ok (M 4) L t s a h lo hi := by
    intro L
    unfold kr_ok
    rw [h3.st s, h3.ac a]
  by_cases q : kr_ok (M 4) (M 174 4) t s a h lo hi ∧ M 174 2 < 30
  · rw [if_pos q, if_pos q.1, if_pos q.2] at c1
    obtain ⟨⟨⟨qs, qa, qh⟩, ql, qt⟩, qn⟩ := id q
    obtain ⟨n, hn⟩ : ∃ n, n = (M 174 2).toNat := ⟨_, rfl⟩
    have hni : M 174 2 = (n : Int) := by omega
    obtain ⟨M1, hM1⟩ : ∃ N, N = mr_add M t s a h lo hi := ⟨_, rfl⟩
    rw [← hM1] at c1
    unfold mr_add at hM1
    rw [hni, Int.toNat_natCast] at hM1
    have o1 : ∀ x y, ¬ ((x = 174 ∧ (y = 2 ∨ y = 4)) ∨ (175 ≤ x ∧ x ≤ 180 ∧ y = n)) → M1 x y = M x y := by
      intro x y z
      rw [hM1, mm_up_n (by omega), mm_up_n (by omega), mm_up_n (by omega), mm_up_n (by omega), mm_up_n (by omega), mm_up_n (by omega), mm_up_n (by omega), mm_up_n (by omega)]
    have hRf1 : mm_Rf M1 := by
      intro x y hxy
      by_cases z : (x = 174 ∧ (y = 2 ∨ y = 4)) ∨ (175 ≤ x ∧ x ≤ 180 ∧ y = n)
      · exfalso
        apply hxy
        rcases (show (x = 174 ∧ y = 2) ∨ (x = 174 ∧ y = 4) ∨ x = 175 ∨ x = 176 ∨ x = 177 ∨ x = 178 ∨ x = 179 ∨ x = 180 by omega) with ⟨z, z'⟩ | ⟨z, z'⟩ | z | z | z | z | z | z
        · rw [z, z']; rfl
        · rw [z, z']; rfl
        all_goals (rw [z]; exact mm_rt_ar (t := 0) rfl (by decide))
      · rw [o1 x y z]; exact hRf x y hxy
    have rk1 : mm_rk M1 = mm_rk M := mm_rk.fr (fun x y z => o1 x y (by omega))
    have l1 : M1 183 97 = (n : Int) := by rw [o1 183 97 (by omega), g1]; exact hni
    have l2 : M1 183 99 = M 174 4 := by rw [o1 183 99 (by omega)]; exact g3.1
    have c2 := c_X13_read (X := X) (M := M1) hRf1 (by rw [rk1]; exact h3.2.1) ht hs ha hh hlo hhi (by rw [l2]; exact g3.2) (by rw [l1]; omega)
    rw [rk1, l2, l1, if_pos ((kk3 _).mpr q.1), if_pos (show (n : Int) < 30 by omega), if_pos (And.intro ((kk3 _).mpr q.1) (show (n : Int) < 30 by omega))] at c2
    obtain ⟨M2, hM2⟩ : ∃ N, N = mr_addR M1 t s a h lo hi := ⟨_, rfl⟩
    rw [← hM2] at c2
    unfold mr_addR at hM2
    rw [l1, Int.toNat_natCast] at hM2
    have o2 : ∀ x y, ¬ ((x = 183 ∧ (y = 97 ∨ y = 99)) ∨ (233 ≤ x ∧ x ≤ 238 ∧ y = n)) → M2 x y = M1 x y := by
      intro x y z
      rw [hM2, mm_up_n (by omega), mm_up_n (by omega), mm_up_n (by omega), mm_up_n (by omega), mm_up_n (by omega), mm_up_n (by omega), mm_up_n (by omega), mm_up_n (by omega)]
    have hRf2 : mm_Rf M2 := by
      intro x y hxy
      by_cases z : (x = 183 ∧ (y = 97 ∨ y = 99)) ∨ (233 ≤ x ∧ x ≤ 238 ∧ y = n)
      · exfalso
        apply hxy
        rcases (show (x = 183 ∧ y = 97) ∨ (x = 183 ∧ y = 99) ∨ x = 233 ∨ x = 234 ∨ x = 235 ∨ x = 236 ∨ x = 237 ∨ x = 238 by omega) with ⟨z, z'⟩ | ⟨z, z'⟩ | z | z | z | z | z | z
        · rw [z, z']; rfl
        · rw [z, z']; rfl
        all_goals (rw [z]; exact mm_rt_ar (t := 0) rfl (by decide))
      · rw [o2 x y z]; exact hRf1 x y hxy
    have e : ∀ x y, ¬ ((x = 174 ∧ 2 ≤ y ∧ y ≤ 4) ∨ (175 ≤ x ∧ x ≤ 182) ∨ (x = 183 ∧ 97 ≤ y ∧ y ≤ 99) ∨ (233 ≤ x ∧ x ≤ 242)) → M2 x y = M x y := by
      intro x y z; rw [o2 x y (by omega), o1 x y (by omega)]
    have rk2 : mm_rk M2 = mm_rk M := mm_rk.fr (fun x y z => e x y (by omega))
    have m4 : M2 4 = M 4 := funext fun y => e 4 y (by omega)
    have a2 : M2 174 2 = (n : Int) + 1 := by rw [o2 174 2 (by omega), hM1, mm_up_s]
    have a3 : M2 174 3 = M 174 3 := by rw [o2 174 3 (by omega), o1 174 3 (by omega)]
    have a4 : M2 174 4 = t := by rw [o2 174 4 (by omega), hM1, mm_up_i (by decide), mm_up_s]
    have b97 : M2 183 97 = (n : Int) + 1 := by rw [hM2, mm_up_s]
    have b98 : M2 183 98 = M 183 98 := by rw [o2 183 98 (by omega), o1 183 98 (by omega)]
    have b99 : M2 183 99 = t := by rw [hM2, mm_up_i (by decide), mm_up_row (by decide), mm_up_row (by decide), mm_up_row (by decide), mm_up_row (by decide), mm_up_row (by decide), mm_up_row (by decide), mm_up_s]
    have cn : M2 175 n = t ∧ M2 176 n = s ∧ M2 177 n = a ∧ M2 178 n = h ∧ M2 179 n = lo ∧ M2 180 n = hi := by
      refine ⟨?_, ?_, ?_, ?_, ?_, ?_⟩
      · rw [o2 175 n (by omega), hM1, mm_up_row (by decide), mm_up_row (by decide), mm_up_row (by decide), mm_up_row (by decide), mm_up_row (by decide), mm_up_row (by decide), mm_up_row (by decide), mm_up_s]
      · rw [o2 176 n (by omega), hM1, mm_up_row (by decide), mm_up_row (by decide), mm_up_row (by decide), mm_up_row (by decide), mm_up_row (by decide), mm_up_row (by decide), mm_up_s]
      · rw [o2 177 n (by omega), hM1, mm_up_row (by decide), mm_up_row (by decide), mm_up_row (by decide), mm_up_row (by decide), mm_up_row (by decide), mm_up_s]
      · rw [o2 178 n (by omega), hM1, mm_up_row (by decide), mm_up_row (by decide), mm_up_row (by decide), mm_up_row (by decide), mm_up_s]
      · rw [o2 179 n (by omega), hM1, mm_up_row (by decide), mm_up_row (by decide), mm_up_row (by decide), mm_up_s]
      · rw [o2 180 n (by omega), hM1, mm_up_row (by decide), mm_up_row (by decide), mm_up_s]
    have dn : M2 233 n = s ∧ M2 234 n = a ∧ M2 235 n = h ∧ M2 236 n = lo ∧ M2 237 n = hi ∧ M2 238 n = t := by
      refine ⟨?_, ?_, ?_, ?_, ?_, ?_⟩
      · rw [hM2, mm_up_row (by decide), mm_up_row (by decide), mm_up_row (by decide), mm_up_row (by decide), mm_up_row (by decide), mm_up_row (by decide), mm_up_s]
      · rw [hM2, mm_up_row (by decide), mm_up_row (by decide), mm_up_row (by decide), mm_up_row (by decide), mm_up_row (by decide), mm_up_s]
      · rw [hM2, mm_up_row (by decide), mm_up_row (by decide), mm_up_row (by decide), mm_up_row (by decide), mm_up_s]
      · rw [hM2, mm_up_row (by decide), mm_up_row (by decide), mm_up_row (by decide), mm_up_s]
      · rw [hM2, mm_up_row (by decide), mm_up_row (by decide), mm_up_s]
      · rw [hM2, mm_up_row (by decide), mm_up_s]
    have old : ∀ x i, (175 ≤ x ∧ x ≤ 182) ∨ (233 ≤ x ∧ x ≤ 242) → i ≠ n → M2 x i = M x i := by
      intro x i z1 z2; rw [o2 x i (by omega), o1 x i (by omega)]
    have row : ∀ x, x = 181 ∨ x = 182 ∨ (239 ≤ x ∧ x ≤ 242) → ∀ i, M2 x i = M x i := by
      intro x z i; rw [o2 x i (by omega), o1 x i (by omega)]
    refine kk_fn c1 c2 (by rw [hni]) ⟨hRf2, h1.fr (fun a b q => e a b (by omega)), h2.fr (fun a b q => e a b (by omega)), h3.fr (fun a b q => e a b (by omega)), h4.fr (fun a b q => e a b (by omega)), h5.fr (fun a b q => e a b (by omega)), h6.fr (fun a b q => e a b (by omega)), h7.fr (fun a b q => e a b (by omega)), h8.fr (fun a b q => e a b (by omega)), h9.fr (fun a b q => e a b (by omega)), h10.fr (fun a b q => e a b (by omega)), h11.fr (fun a b q => e a b (by omega)), h12.fr (fun a b q => e a b (by omega)), h13.fr (fun a b q => e a b (by omega)), h14.fr (fun a b q => e a b (by omega)), h15.fr (fun a b q => e a b (by omega)), ?_⟩
    refine ⟨⟨by rw [a2]; omega, by rw [a3]; exact v2, ?_, ?_⟩, ⟨by rw [b97]; omega, by rw [b98]; exact w2, ?_, ?_⟩, by rw [a2, b97], by rw [a3, b98]; exact g2, by rw [a4, b99]; exact ⟨rfl, by omega, by omega⟩, ?_, ?_⟩
    · intro k hk
      rw [m4]
      by_cases z : k = n
      · obtain ⟨y1, y2, y3, y4, y5, y6⟩ := cn
        rw [z, y1, y2, y3, y4, y5, y6]; exact ⟨⟨qs, qa, qh⟩, ht, hlo, hhi⟩
      · rw [a2] at hk
        rw [old 175 k (by omega) z, old 176 k (by omega) z, old 177 k (by omega) z, old 178 k (by omega) z, old 179 k (by omega) z, old 180 k (by omega) z]; exact v3 k (by omega)
    · intro i hi'
      rw [a3] at hi'
      rw [row 181 (by omega), row 182 (by omega), old 179 (30 + i) (by omega) (by omega), old 180 (30 + i) (by omega) (by omega)]; exact v4 i hi'
    · intro k hk
      rw [rk2]
      by_cases z : k = n
      · obtain ⟨y1, y2, y3, y4, y5, y6⟩ := dn
        rw [z, y1, y2, y3, y4, y5, y6]; exact ⟨⟨(h3.st s).mpr qs, (h3.ac a).mpr qa, qh⟩, ht, hlo, hhi⟩
      · rw [b97] at hk
        rw [old 233 k (by omega) z, old 234 k (by omega) z, old 235 k (by omega) z, old 236 k (by omega) z, old 237 k (by omega) z, old 238 k (by omega) z]; exact w3 k (by omega)
    · intro i hi'
      rw [b98] at hi'
      rw [row 239 (by omega), row 240 (by omega), row 241 (by omega), row 242 (by omega)]; exact w4 i hi'
    · intro k hk
      by_cases z : k = n
      · obtain ⟨y1, y2, y3, y4, y5, y6⟩ := cn
        obtain ⟨x1, x2, x3, x4, x5, x6⟩ := dn
        rw [z, y1, y2, y3, y4, y5, y6, x1, x2, x3, x4, x5, x6]
        exact ⟨rfl, rfl, rfl, rfl, rfl, rfl⟩
      · rw [a2] at hk
        rw [old 175 k (by omega) z, old 176 k (by omega) z, old 177 k (by omega) z, old 178 k (by omega) z, old 179 k (by omega) z, old 180 k (by omega) z, old 233 k (by omega) z, old 234 k (by omega) z, old 235 k (by omega) z, old 236 k (by omega) z, old 237 k (by omega) z, old 238 k (by omega) z]; exact g4 k (by omega)
    · intro i hi'
      rw [a3] at hi'
      rw [row 181 (by omega), row 182 (by omega), row 239 (by omega), row 240 (by omega), row 241 (by omega), row 242 (by omega), old 179 (30 + i) (by omega) (by omega), old 180 (30 + i) (by omega) (by omega)]; exact g5 i hi'
  · have c2 := c_X13_read (X := X) hRf h3.2.1 ht hs ha hh hlo hhi (by rw [g3.1]; exact g3.2) (by rw [g1]; exact v1)
    rw [if_neg q] at c1
    rw [g1, g3.1, if_neg (show ¬ (kr_ok (mm_rk M) (M 174 4) t s a h lo hi ∧ M 174 2 < 30) from fun z => q ⟨(kk3 _).mp z.1, z.2⟩)] at c2
    refine kk_no c1 c2 ?_ hR
    by_cases z : kr_ok (M 4) (M 174 4) t s a h lo hi
    · rw [if_pos z, if_pos ((kk3 _).mpr z)]
    · rw [if_neg z, if_neg (fun y => z ((kk3 _).mp y))]
theorem kf_right : kF4 X Y_X11_right Y_X13_right := by
  intro M hR t k lo hi ht hk hlo hhi
  obtain ⟨hRf, h1, h2, h3, h4, h5, h6, h7, h8, h9, h10, h11, h12, h13, h14, h15, h16⟩ := id hR
  obtain ⟨⟨v1, v2, v3, v4⟩, ⟨w1, w2, w3, w4⟩, g1, g2, g3, g4, g5⟩ := id h16
  have c1 := c_X11_right (X := X) hRf ht hk hlo hhi g3.2 v1 v2 (fun i hi' => (v4 i hi').1)
  by_cases q : ((0 ≤ k ∧ k ≤ M 174 2 - 1) ∧ (0 ≤ lo ∧ lo ≤ hi ∧ hi ≤ 99999999) ∧ M 174 4 ≤ t ∧ t ≤ 999) ∧ M 174 3 < 20
  · rw [if_pos q, if_pos q.1, if_pos q.2] at c1
    obtain ⟨⟨qk, ql, qt⟩, qn⟩ := id q
    obtain ⟨n, hn⟩ : ∃ n, n = (M 174 3).toNat := ⟨_, rfl⟩
    have hni : M 174 3 = (n : Int) := by omega
    rw [hni, Int.toNat_natCast] at c1
    obtain ⟨M1, hM1⟩ : ∃ N, N = mr_put M t k lo hi := ⟨_, rfl⟩
    rw [← hM1] at c1
    unfold mr_put at hM1
    rw [hni, Int.toNat_natCast] at hM1
    have o1 : ∀ x y, ¬ ((x = 174 ∧ (y = 3 ∨ y = 4)) ∨ (181 ≤ x ∧ x ≤ 182 ∧ y = n) ∨ (179 ≤ x ∧ x ≤ 180 ∧ y = 30 + n)) → M1 x y = M x y := by
      intro x y z
      rw [hM1, mm_up_n (by omega), mm_up_n (by omega), mm_up_n (by omega), mm_up_n (by omega), mm_up_n (by omega), mm_up_n (by omega)]
    have hRf1 : mm_Rf M1 := by
      intro x y hxy
      by_cases z : (x = 174 ∧ (y = 3 ∨ y = 4)) ∨ (181 ≤ x ∧ x ≤ 182 ∧ y = n) ∨ (179 ≤ x ∧ x ≤ 180 ∧ y = 30 + n)
      · exfalso
        apply hxy
        rcases (show (x = 174 ∧ y = 3) ∨ (x = 174 ∧ y = 4) ∨ x = 179 ∨ x = 180 ∨ x = 181 ∨ x = 182 by omega) with ⟨z, z'⟩ | ⟨z, z'⟩ | z | z | z | z
        · rw [z, z']; rfl
        · rw [z, z']; rfl
        all_goals (rw [z]; exact mm_rt_ar (t := 0) rfl (by decide))
      · rw [o1 x y z]; exact hRf x y hxy
    have l1 : M1 183 97 = M 174 2 := by rw [o1 183 97 (by omega)]; exact g1
    have l2 : M1 183 99 = M 174 4 := by rw [o1 183 99 (by omega)]; exact g3.1
    have l3 : M1 183 98 = (n : Int) := by rw [o1 183 98 (by omega), g2]; exact hni
    have c2 := c_X13_right (X := X) (M := M1) hRf1 ht hk hlo hhi (by rw [l2]; exact g3.2) (by rw [l1]; exact v1) (by rw [l3]; omega) (fun i hi' => by rw [l3] at hi'; rw [o1 239 i (by omega)]; exact (w4 i (by omega)).1)
    rw [l1, l2, l3, if_pos q.1, if_pos (show (n : Int) < 20 by omega), if_pos (And.intro q.1 (show (n : Int) < 20 by omega)), Int.toNat_natCast] at c2
    obtain ⟨M2, hM2⟩ : ∃ N, N = mr_putR M1 t k lo hi := ⟨_, rfl⟩
    rw [← hM2] at c2
    unfold mr_putR at hM2
    rw [l3, Int.toNat_natCast] at hM2
    have o2 : ∀ x y, ¬ ((x = 183 ∧ (y = 98 ∨ y = 99)) ∨ (239 ≤ x ∧ x ≤ 242 ∧ y = n)) → M2 x y = M1 x y := by
      intro x y z
      rw [hM2, mm_up_n (by omega), mm_up_n (by omega), mm_up_n (by omega), mm_up_n (by omega), mm_up_n (by omega), mm_up_n (by omega)]
    have hRf2 : mm_Rf M2 := by
      intro x y hxy
      by_cases z : (x = 183 ∧ (y = 98 ∨ y = 99)) ∨ (239 ≤ x ∧ x ≤ 242 ∧ y = n)
      · exfalso
        apply hxy
        rcases (show (x = 183 ∧ y = 98) ∨ (x = 183 ∧ y = 99) ∨ x = 239 ∨ x = 240 ∨ x = 241 ∨ x = 242 by omega) with ⟨z, z'⟩ | ⟨z, z'⟩ | z | z | z | z
        · rw [z, z']; rfl
        · rw [z, z']; rfl
        all_goals (rw [z]; exact mm_rt_ar (t := 0) rfl (by decide))
      · rw [o2 x y z]; exact hRf1 x y hxy
    have e : ∀ x y, ¬ ((x = 174 ∧ 2 ≤ y ∧ y ≤ 4) ∨ (175 ≤ x ∧ x ≤ 182) ∨ (x = 183 ∧ 97 ≤ y ∧ y ≤ 99) ∨ (233 ≤ x ∧ x ≤ 242)) → M2 x y = M x y := by
      intro x y z; rw [o2 x y (by omega), o1 x y (by omega)]
    have rk2 : mm_rk M2 = mm_rk M := mm_rk.fr (fun x y z => e x y (by omega))
    have m4 : M2 4 = M 4 := funext fun y => e 4 y (by omega)
    have a2 : M2 174 2 = M 174 2 := by rw [o2 174 2 (by omega), o1 174 2 (by omega)]
    have a3 : M2 174 3 = (n : Int) + 1 := by rw [o2 174 3 (by omega), hM1, mm_up_s]
    have a4 : M2 174 4 = t := by rw [o2 174 4 (by omega), hM1, mm_up_i (by decide), mm_up_s]
    have b97 : M2 183 97 = M 183 97 := by rw [o2 183 97 (by omega), o1 183 97 (by omega)]
    have b98 : M2 183 98 = (n : Int) + 1 := by rw [hM2, mm_up_s]
    have b99 : M2 183 99 = t := by rw [hM2, mm_up_i (by decide), mm_up_row (by decide), mm_up_row (by decide), mm_up_row (by decide), mm_up_row (by decide), mm_up_s]
    have f182 : M1 182 n = k := by rw [hM1, mm_up_row (by decide), mm_up_row (by decide), mm_up_row (by decide), mm_up_row (by decide), mm_up_s]
    have cn : M2 181 n = t ∧ M2 182 n = k ∧ M2 179 (30 + n) = lo ∧ M2 180 (30 + n) = hi := by
      refine ⟨?_, ?_, ?_, ?_⟩
      · rw [o2 181 n (by omega), hM1, mm_up_row (by decide), mm_up_row (by decide), mm_up_row (by decide), mm_up_row (by decide), mm_up_row (by decide), mm_up_s]
      · rw [o2 182 n (by omega)]; exact f182
      · rw [o2 179 (30 + n) (by omega), hM1, mm_up_row (by decide), mm_up_row (by decide), mm_up_row (by decide), mm_up_s]
      · rw [o2 180 (30 + n) (by omega), hM1, mm_up_row (by decide), mm_up_row (by decide), mm_up_s]
    have dn : M2 239 n = k ∧ M2 240 n = lo ∧ M2 241 n = hi ∧ M2 242 n = t := by
      refine ⟨?_, ?_, ?_, ?_⟩
      · rw [hM2, mm_up_row (by decide), mm_up_row (by decide), mm_up_row (by decide), mm_up_row (by decide), mm_up_s]
      · rw [hM2, mm_up_row (by decide), mm_up_row (by decide), mm_up_row (by decide), mm_up_s]
      · rw [hM2, mm_up_row (by decide), mm_up_row (by decide), mm_up_s]
      · rw [hM2, mm_up_row (by decide), mm_up_s]
    have oldC : ∀ x i, (175 ≤ x ∧ x ≤ 178) ∨ (233 ≤ x ∧ x ≤ 238) → M2 x i = M x i := by
      intro x i z1; rw [o2 x i (by omega), o1 x i (by omega)]
    have oldL : ∀ x i, 179 ≤ x ∧ x ≤ 180 → i ≠ 30 + n → M2 x i = M x i := by
      intro x i z1 z2; rw [o2 x i (by omega), o1 x i (by omega)]
    have oldR : ∀ x i, (181 ≤ x ∧ x ≤ 182) ∨ (239 ≤ x ∧ x ≤ 242) → i ≠ n → M2 x i = M x i := by
      intro x i z1 z2; rw [o2 x i (by omega), o1 x i (by omega)]
    refine kk_fn c1 c2 ?_ ⟨hRf2, h1.fr (fun a b q => e a b (by omega)), h2.fr (fun a b q => e a b (by omega)), h3.fr (fun a b q => e a b (by omega)), h4.fr (fun a b q => e a b (by omega)), h5.fr (fun a b q => e a b (by omega)), h6.fr (fun a b q => e a b (by omega)), h7.fr (fun a b q => e a b (by omega)), h8.fr (fun a b q => e a b (by omega)), h9.fr (fun a b q => e a b (by omega)), h10.fr (fun a b q => e a b (by omega)), h11.fr (fun a b q => e a b (by omega)), h12.fr (fun a b q => e a b (by omega)), h13.fr (fun a b q => e a b (by omega)), h14.fr (fun a b q => e a b (by omega)), h15.fr (fun a b q => e a b (by omega)), ?_⟩
    · refine kc_n_cg ?_
      intro i hi'
      by_cases z : i = n
      · rw [z, dn.1, f182]
      · rw [oldR 239 i (by omega) z, o1 182 i (by omega)]
        exact (g5 i (by omega)).1
    refine ⟨⟨by rw [a2]; exact v1, by rw [a3]; omega, ?_, ?_⟩, ⟨by rw [b97]; exact w1, by rw [b98]; omega, ?_, ?_⟩, by rw [a2, b97]; exact g1, by rw [a3, b98], by rw [a4, b99]; exact ⟨rfl, by omega, by omega⟩, ?_, ?_⟩
    · intro j hj
      rw [a2] at hj
      rw [m4, oldC 175 j (by omega), oldC 176 j (by omega), oldC 177 j (by omega), oldC 178 j (by omega), oldL 179 j (by omega) (by omega), oldL 180 j (by omega) (by omega)]
      exact v3 j hj
    · intro i hi'
      rw [a3] at hi'
      by_cases z : i = n
      · obtain ⟨y1, y2, y3, y4⟩ := cn
        rw [z, y1, y2, y3, y4]; exact ⟨hk, ht, hlo, hhi⟩
      · rw [oldR 181 i (by omega) z, oldR 182 i (by omega) z, oldL 179 (30 + i) (by omega) (by omega), oldL 180 (30 + i) (by omega) (by omega)]; exact v4 i (by omega)
    · intro j hj
      rw [b97] at hj
      rw [rk2, oldC 233 j (by omega), oldC 234 j (by omega), oldC 235 j (by omega), oldC 236 j (by omega), oldC 237 j (by omega), oldC 238 j (by omega)]
      exact w3 j hj
    · intro i hi'
      rw [b98] at hi'
      by_cases z : i = n
      · obtain ⟨y1, y2, y3, y4⟩ := dn
        rw [z, y1, y2, y3, y4]; exact ⟨hk, ht, hlo, hhi⟩
      · rw [oldR 239 i (by omega) z, oldR 240 i (by omega) z, oldR 241 i (by omega) z, oldR 242 i (by omega) z]; exact w4 i (by omega)
    · intro j hj
      rw [a2] at hj
      rw [oldC 175 j (by omega), oldC 176 j (by omega), oldC 177 j (by omega), oldC 178 j (by omega), oldL 179 j (by omega) (by omega), oldL 180 j (by omega) (by omega), oldC 233 j (by omega), oldC 234 j (by omega), oldC 235 j (by omega), oldC 236 j (by omega), oldC 237 j (by omega), oldC 238 j (by omega)]
      exact g4 j hj
    · intro i hi'
      rw [a3] at hi'
      by_cases z : i = n
      · obtain ⟨y1, y2, y3, y4⟩ := cn
        obtain ⟨x1, x2, x3, x4⟩ := dn
        rw [z, y1, y2, y3, y4, x1, x2, x3, x4]
        exact ⟨rfl, rfl, rfl, rfl⟩
      · rw [oldR 181 i (by omega) z, oldR 182 i (by omega) z, oldL 179 (30 + i) (by omega) (by omega), oldL 180 (30 + i) (by omega) (by omega), oldR 239 i (by omega) z, oldR 240 i (by omega) z, oldR 241 i (by omega) z, oldR 242 i (by omega) z]; exact g5 i (by omega)
  · have c2 := c_X13_right (X := X) hRf ht hk hlo hhi (by rw [g3.1]; exact g3.2) (by rw [g1]; exact v1) (by rw [g2]; exact v2) (fun i hi' => (w4 i hi').1)
    rw [if_neg q] at c1
    rw [g1, g2, g3.1, if_neg q] at c2
    refine kk_no c1 c2 ?_ hR
    by_cases z : (0 ≤ k ∧ k ≤ M 174 2 - 1) ∧ (0 ≤ lo ∧ lo ≤ hi ∧ hi ≤ 99999999) ∧ M 174 4 ≤ t ∧ t ≤ 999
    · rw [if_pos z, if_pos z, if_neg (fun y => q ⟨z, y⟩), if_neg (fun y => q ⟨z, y⟩)]
    · rw [if_neg z, if_neg z]
end

