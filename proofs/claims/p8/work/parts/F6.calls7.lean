/-! ===== calls side by side: rows judged; fits ===== -/
theorem ka_max_congr {f g : Nat → Int} : ∀ {n : Nat}, (∀ i, i < n → f i = g i) → ka_max f n = ka_max g n
  | 0, _ => rfl
  | n + 1, h => by unfold ka_max; rw [ka_max_congr (fun i hi => h i (by omega)), h n (by omega)]
section
variable {M : mm_M} {Lo Hi A A' : Nat → Int} {s h : Int} {n : Nat}
theorem kR3.safe (h3 : kR3 M) {a : Int} (ha : ks_ac (M 4) a) (t : Int) : ks_safe (mm_rk M) Lo Hi t a h ↔ ks_safe (M 4) Lo Hi t a h := by
  rw [← nk_safe h3.2.1 ((h3.ac a).mpr ha), h3.2.2.1, nk_safe h3.1.1 ha]
theorem kR3.sure (h3 : kR3 M) {a : Int} (ha : ks_ac (M 4) a) (t : Int) : ks_sure (mm_rk M) Lo Hi t a h = ks_sure (M 4) Lo Hi t a h := by
  rw [← nk_sure h3.2.1 ((h3.ac a).mpr ha), h3.2.2.1, nk_sure h3.1.1 ha]
theorem kj_run_cg (h3 : kR3 M) (hA : ∀ j, j < n → A' j = A j ∧ ks_ac (M 4) (A j)) {j : Nat} (hj : j ≤ n) : kf_run (mm_rk M) s A' j = kf_run (M 4) s A j := by
  rw [h3.run]
  exact kf_run_cg (fun i hi => (hA i (by omega)).1)
theorem kj_P_cg (h3 : kR3 M) (hA : ∀ j, j < n → A' j = A j ∧ ks_ac (M 4) (A j)) {j : Nat} (hj : j < n) : kj_P (mm_rk M) Lo Hi s h A' j ↔ kj_P (M 4) Lo Hi s h A j := by
  unfold kj_P
  rw [kj_run_cg h3 hA (by omega), (hA j hj).1]
  exact h3.safe (hA j hj).2 _
theorem kj_g_cg (h3 : kR3 M) (hA : ∀ j, j < n → A' j = A j ∧ ks_ac (M 4) (A j)) {j : Nat} (hj : j < n) : kj_g (mm_rk M) Lo Hi s h A' j = kj_g (M 4) Lo Hi s h A j := by
  unfold kj_g
  rw [kj_run_cg h3 hA (by omega), (hA j hj).1]
  exact h3.sure (hA j hj).2 _
theorem kj_won_cg (h3 : kR3 M) (hA : ∀ j, j < n → A' j = A j ∧ ks_ac (M 4) (A j)) {c : Nat} (hc : c ≤ n) : kj_won (mm_rk M) Lo Hi s h A' c = kj_won (M 4) Lo Hi s h A c := by
  unfold kj_won
  refine ka_sum_congr ?_
  intro j hj
  rw [kj_g_cg h3 hA (by omega), (hA j (by omega)).1]
theorem kj_spent_cg (h3 : kR3 M) (hA : ∀ j, j < n → A' j = A j ∧ ks_ac (M 4) (A j)) {c : Nat} (hc : c ≤ n) : kj_spent (mm_rk M) Lo Hi s h A' c = kj_spent (M 4) Lo Hi s h A c := by
  unfold kj_spent
  refine ka_sum_congr ?_
  intro j hj
  rw [kj_g_cg h3 hA (by omega), (hA j (by omega)).1]
theorem kj_great_cg (h3 : kR3 M) (hA : ∀ j, j < n → A' j = A j ∧ ks_ac (M 4) (A j)) {c : Nat} (hc : c ≤ n) : kj_great (mm_rk M) Hi s h A' c = kj_great (M 4) Hi s h A c := by
  unfold kj_great
  refine ka_max_congr ?_
  intro j hj
  rw [kj_run_cg h3 hA (by omega), (hA j (by omega)).1, h3.wi, h3.p (hA j (by omega)).2]
/-- what a safe act gives -/
theorem ks_sure_b {K : Nat → Int} (hK : mm_KV K) {t a : Int} (ha : ks_ac K a) (hs : ks_safe K Lo Hi t a h) (hw : 0 ≤ ks_wi Lo K t h ∧ ks_wi Lo K t h ≤ ks_wi Hi K t h ∧ ks_wi Hi K t h ≤ 60) : (ks_dr a = 1 → -9999 ≤ ks_sure K Lo Hi t a h ∧ ks_sure K Lo Hi t a h ≤ 99999) ∧ (ks_dr a = 2 → -409995 ≤ ks_sure K Lo Hi t a h ∧ ks_sure K Lo Hi t a h ≤ 0) := by
  have m := ks_p_mono (s := t) hK ha hw.1 hw.2.1
  have p0 := ks_pw (s := t) hK ha ⟨hw.1, by omega⟩
  have b := hs.2
  obtain ⟨b1, b2⟩ := b
  obtain ⟨-, -, -, -, k4, k5, k6, k7, -⟩ := id hK
  refine ⟨fun d => ?_, fun d => ?_⟩
  · unfold ks_sure ks_w
    rw [d, if_pos rfl, if_neg (by decide)]
    omega
  · unfold ks_sure ks_w
    rw [d, if_neg (by decide), if_pos rfl, if_pos rfl]
    have q := mm_mulb (a := ks_p K t a (ks_wi Hi K t h)) (b := K 7) (A := 99999) (B := 400) (by omega) (by omega) k7.1 k7.2
    omega
theorem kj_worth_b {K : Nat → Int} (hK : mm_KV K) (hw : ∀ t, ks_st K t → 0 ≤ ks_wi Lo K t h ∧ ks_wi Lo K t h ≤ ks_wi Hi K t h ∧ ks_wi Hi K t h ≤ 60) (hs : ks_st K s) {c : Nat} (hP : ∀ j, j < c → kj_P K Lo Hi s h A j ∧ ks_ac K (A j)) :
    (-(100000 * (c : Int)) ≤ kj_won K Lo Hi s h A c ∧ kj_won K Lo Hi s h A c ≤ 100000 * (c : Int)) ∧ -(410000 * (c : Int)) ≤ kj_spent K Lo Hi s h A c ∧ kj_spent K Lo Hi s h A c ≤ 410000 * (c : Int) := by
  have st : ∀ j, j ≤ c → ks_st K (kf_run K s A j) := by
    intro j
    induction j with
    | zero => intro _; exact hs
    | succ j ih => intro hj; exact ks_to_st hK (ih (by omega)) (hP j (by omega)).1.can
  have g : ∀ j, j < c → (ks_dr (A j) = 1 → -9999 ≤ kj_g K Lo Hi s h A j ∧ kj_g K Lo Hi s h A j ≤ 99999) ∧ (ks_dr (A j) = 2 → -409995 ≤ kj_g K Lo Hi s h A j ∧ kj_g K Lo Hi s h A j ≤ 0) := fun j hj => ks_sure_b hK (hP j hj).2 (hP j hj).1 (hw _ (st j (by omega)))
  refine ⟨ka_sumb ?_, ka_sumb ?_⟩
  · intro j hj
    have := (g j hj).1
    split
    · rename_i q; have := this q; omega
    · omega
  · intro j hj
    have := (g j hj).2
    split
    · rename_i q; have := this q; omega
    · omega
end
theorem kR5.wb {M : mm_M} (h5 : kR5 M) (h3 : kR3 M) {h : Int} (hh : ks_hr h) : ∀ t, ks_st (M 4) t → 0 ≤ ks_wi (M 16) (M 4) t h ∧ ks_wi (M 16) (M 4) t h ≤ ks_wi (M 17) (M 4) t h ∧ ks_wi (M 17) (M 4) t h ≤ 60 := by
  intro t ht
  unfold ks_wi
  exact h5.2.2.2.1 _ (ks_plb hh (ks_bandb h3.1.1 ht))
section
variable {X : mm_X}
theorem kf_judge : kF2 X Y_X11_judge Y_X13_judge := by
  intro M hR s h hs hh
  obtain ⟨hRf, h1, h2, h3, h4, h5, h6, h7, h8, h9, h10, h11, h12, h13, h14, h15, h16⟩ := id hR
  have hl := h1.2.1
  have av : ∀ i, kj_actR M i = kj_act M i := by intro i; unfold kj_actR kj_act; rw [h1.2.2.1]
  have okq : kj_okR M ↔ kj_ok M := by
    unfold kj_okR kj_ok
    rw [h1.1]
    constructor
    · rintro ⟨a, b⟩; exact ⟨a, fun i hi => by have := b i hi; rw [h3.ac, av] at this; exact this⟩
    · rintro ⟨a, b⟩; exact ⟨a, fun i hi => by rw [h3.ac, av]; exact b i hi⟩
  by_cases q : (ks_st (M 4) s ∧ ks_hr h) ∧ kj_ok M
  · obtain ⟨⟨qs, qh⟩, qo⟩ := id q
    refine mm_C.mono (c_X11_judge1 (X := X) hRf h3.1 h5.2.2.2.1 qs qh h1.2.2.2 qo) ?_
    rintro r M1 ⟨rfl, hRf1, p1, p2, p3, p4, p5, p6, p7, c, u1, u2, u3, u4, u5, u6, u7, u8, u9⟩
    refine ⟨_, rfl, ?_⟩
    have e1 : ∀ a b, ¬ ((a = 0 ∧ b = 12) ∨ (a = 1 ∧ b = 1) ∨ (117 ≤ a ∧ a ≤ 119)) → M1 a b = M a b := by
      intro a b y
      by_cases y0 : a = 0
      · subst y0; exact p2 b (by omega)
      · by_cases y1 : a = 1
        · subst y1; exact p3 b (by omega)
        · rw [p1 a y0 y1 (by omega) (by omega) (by omega)]
    have row : ∀ a, ¬ (a = 0 ∨ a = 1 ∨ (117 ≤ a ∧ a ≤ 119)) → M1 a = M a := fun a y => funext fun b => e1 a b (by omega)
    have k3 : kR3 M1 := h3.fr (fun a b y => e1 a b (by omega))
    have k5 : kR5 M1 := h5.fr (fun a b y => e1 a b (by omega))
    have s183 : ∀ b, M1 183 b = M 183 b := fun b => e1 183 b (by omega)
    have avR : kj_actR M1 = kj_actR M := by funext i; unfold kj_actR; rw [row 185 (by omega)]
    have okR : kj_okR M1 := by
      have := okq.mpr qo
      unfold kj_okR at this ⊢
      rw [s183, avR, mm_rk.fr (N := M1) (M := M) (fun a b y => e1 a b (by omega))]
      exact this
    refine mm_C.mono (c_X13_judge1 (X := X) (M := M1) hRf1 k3.2.1 k5.ra ((k3.st s).mpr (by rw [row 4 (by omega)]; exact qs)) qh (by rw [row 185 (by omega), h1.2.2.1]; exact h1.2.2.2) okR) ?_
    rintro r2 M2 ⟨c', rfl, hRf2, -, v0, v1, v2, v3, v4, v5, v6, v7, v8, v9, v10, v11, v12, v13⟩
    rw [s183, h1.1, avR] at *
    obtain ⟨n, hn⟩ : ∃ n, n = (M 1 1).toNat := ⟨_, rfl⟩
    have hni : M 1 1 = (n : Int) := by omega
    have m4 : M1 4 = M 4 := row 4 (by omega)
    have hA : ∀ j, j < n → kj_actR M j = M1 118 j ∧ ks_ac (M1 4) (M1 118 j) := by
      intro j hj
      rw [av, p6 j (by omega), m4]
      exact ⟨rfl, qo.2 j (by omega)⟩
    rw [← m4, ← row 16 (by omega), ← row 17 (by omega)] at u1 u4 u5 u8
    rw [← m4] at u3 u7 u9
    rw [← m4, ← row 17 (by omega)] at u6
    rw [k5.2.2.1.1, k5.2.2.1.2] at v0 v5 v6
    rw [k5.2.2.1.2] at v7
    rw [hni, Int.toNat_natCast] at u1 v0
    have cc : c' = c := kj_is_u u1 v0 (fun j hj => (kj_P_cg k3 hA hj).symm)
    subst cc
    have hcn := u1.1
    have o100 := qo.1
    rw [kj_run_cg k3 hA hcn] at v4 v11 v12
    rw [kj_won_cg k3 hA hcn] at v5
    rw [kj_spent_cg k3 hA hcn] at v6
    rw [kj_great_cg k3 hA hcn] at v7
    refine ⟨by rw [u2], ?_⟩
    have e2 : ∀ a b, ¬ ((a = 183 ∧ (b = 2 ∨ (55 ≤ b ∧ b ≤ 62) ∨ b = 68)) ∨ a = 215) → M2 a b = M1 a b := by
      intro a b y
      by_cases y1 : a = 183
      · subst y1; exact v2 b (by omega) (by omega) (by omega)
      · rw [v1 a y1 (by omega)]
    have e : ∀ a b, ¬ ((a = 0 ∧ b = 12) ∨ (a = 1 ∧ b = 1) ∨ (117 ≤ a ∧ a ≤ 119) ∨ (a = 183 ∧ (b = 2 ∨ (55 ≤ b ∧ b ≤ 62) ∨ b = 68)) ∨ a = 215) → M2 a b = M a b := by
      intro a b y; rw [e2 a b (by omega), e1 a b (by omega)]
    have wb := kj_worth_b (s := s) (A := M1 118) (c := c') k3.1.1 (k5.wb k3 qh) (by rw [m4]; exact qs) (fun j hj => ⟨u1.2.1 j hj, (hA j (by omega)).2⟩)
    have k1 : kR1 M2 := by
      refine ⟨?_, ?_, ?_, ?_⟩
      · rw [v3, e2 1 1 (by omega), p4]
      · rw [e2 1 1 (by omega), p4]; omega
      · funext b; rw [e 185 b (by omega), e 2 b (by omega), h1.2.2.1]
      · intro k hk; rw [e 2 k (by omega)]; exact h1.2.2.2 k hk
    have k8 : kR8 M2 := by
      have r117 : M2 117 = M1 117 := funext fun b => e2 117 b (by omega)
      have r118 : M2 118 = M1 118 := funext fun b => e2 118 b (by omega)
      have r119 : M2 119 = M1 119 := funext fun b => e2 119 b (by omega)
      have r4 : M2 4 = M1 4 := funext fun b => e2 4 b (by omega)
      unfold kR8
      rw [r117, r118, r119, r4, e2 0 12 (by omega), p5, p7, v4, v5, v6, v7, v8, v9, v10, v11, v12, u3, u4, u5, u6, u8, u9]
      have b01 := mm_b_01 ((c' : Int) = M 1 1 ∧ kf_run (M1 4) s (M1 118) c' = s)
      refine ⟨by omega, b01, Or.inr rfl, Or.inr rfl, b01, b01, by omega, by unfold mm_R; omega, ⟨fun y => absurd y (by omega), fun y => absurd y (by decide)⟩, fun _ => ⟨rfl, rfl, rfl, rfl, rfl⟩, ⟨fun y => ⟨rfl, y⟩, fun y => y.2⟩, ?_⟩
      intro y
      have yy : (c' : Int) = M 1 1 ∧ kf_run (M1 4) s (M1 118) c' = s := by
        by_cases w : (c' : Int) = M 1 1 ∧ kf_run (M1 4) s (M1 118) c' = s
        · exact w
        · rw [mm_b_f w] at y; exact absurd y (by decide)
      refine ⟨by omega, rfl, rfl, by omega, by rw [m4]; exact qs, ?_⟩
      intro j hj
      have hj' : j < c' := by omega
      refine ⟨?_, (hA j (by omega)).2, u7 j hj', ?_⟩
      · rw [v13 j hj', (hA j (by omega)).1]
      · rw [u7 j hj']
        have st : ∀ i, i ≤ c' → ks_st (M1 4) (kf_run (M1 4) s (M1 118) i) := by
          intro i
          induction i with
          | zero => intro _; rw [m4]; exact qs
          | succ i ih => intro hi; exact ks_to_st k3.1.1 (ih (by omega)) (u1.2.1 i (by omega)).can
        exact st j (by omega)
    exact ⟨hRf2, k1, h2.fr (fun a b q => e a b (by omega)), h3.fr (fun a b q => e a b (by omega)), h4.fr (fun a b q => e a b (by omega)), h5.fr (fun a b q => e a b (by omega)), h6.fr (fun a b q => e a b (by omega)), h7.fr (fun a b q => e a b (by omega)), k8, h9.fr (fun a b q => e a b (by omega)), h10.fr (fun a b q => e a b (by omega)), h11.fr (fun a b q => e a b (by omega)), h12.fr (fun a b q => e a b (by omega)), h13.fr (fun a b q => e a b (by omega)), h14.fr (fun a b q => e a b (by omega)), h15.fr (fun a b q => e a b (by omega)), h16.fr (fun a b q => e a b (by omega))⟩
  · have c1 := c_X11_judge0 (X := X) hRf h3.1 hs hh hl h1.2.2.2 q
    have hRf1 : mm_Rf (mm_up M 1 1 0) := hRf.up rfl
    obtain ⟨M1, hM1⟩ : ∃ N, N = mm_up M 1 1 0 := ⟨_, rfl⟩
    rw [← hM1] at c1 hRf1
    have e1 : ∀ a b, ¬ (a = 1 ∧ b = 1) → M1 a b = M a b := fun a b y => by rw [hM1, mm_up_n y]
    have k3 : kR3 M1 := h3.fr (fun a b y => e1 a b (by omega))
    have row : ∀ a, a ≠ 1 → M1 a = M a := fun a y => funext fun b => e1 a b (by omega)
    have rk : mm_rk M1 = mm_rk M := mm_rk.fr (fun a b y => e1 a b (by omega))
    have avR : kj_actR M1 = kj_actR M := by funext i; unfold kj_actR; rw [row 185 (by omega)]
    have okR : kj_okR M1 ↔ kj_okR M := by
      unfold kj_okR
      rw [row 183 (by decide), avR, rk]
    have c2 := c_X13_judge0 (X := X) (M := M1) hRf1 k3.2.1 hs hh (by rw [row 183 (by decide), h1.1]; exact hl) (by rw [row 185 (by decide), h1.2.2.1]; exact h1.2.2.2) (by rw [rk, h3.st, okR, okq]; exact q)
    rw [rk] at c2
    have hRf2 : mm_Rf (mm_up M1 183 2 0) := hRf1.up rfl
    have e : ∀ a b, ¬ ((a = 1 ∧ b = 1) ∨ (a = 183 ∧ b = 2)) → mm_up M1 183 2 0 a b = M a b := by
      intro a b y; rw [mm_up_n (by omega), e1 a b (by omega)]
    refine kk_fn c1 c2 ?_ ⟨hRf2, ?_, h2.fr (fun a b q => e a b (by omega)), h3.fr (fun a b q => e a b (by omega)), h4.fr (fun a b q => e a b (by omega)), h5.fr (fun a b q => e a b (by omega)), h6.fr (fun a b q => e a b (by omega)), h7.fr (fun a b q => e a b (by omega)), h8.fr (fun a b q => e a b (by omega)), h9.fr (fun a b q => e a b (by omega)), h10.fr (fun a b q => e a b (by omega)), h11.fr (fun a b q => e a b (by omega)), h12.fr (fun a b q => e a b (by omega)), h13.fr (fun a b q => e a b (by omega)), h14.fr (fun a b q => e a b (by omega)), h15.fr (fun a b q => e a b (by omega)), h16.fr (fun a b q => e a b (by omega))⟩
    · by_cases w : ks_st (M 4) s ∧ ks_hr h
      · rw [if_pos w, if_pos ⟨(h3.st s).mpr w.1, w.2⟩]
      · rw [if_neg w, if_neg (fun y => w ⟨(h3.st s).mp y.1, y.2⟩)]
    · have z11 : mm_up M1 183 2 0 1 1 = 0 := by rw [mm_up_row (by decide), hM1, mm_up_s]
      refine ⟨by rw [mm_up_s, z11], by rw [z11]; omega, ?_, ?_⟩
      · funext b; rw [e 185 b (by omega), e 2 b (by omega), h1.2.2.1]
      · intro k hk; rw [e 2 k (by omega)]; exact h1.2.2.2 k hk
end

