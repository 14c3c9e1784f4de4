/-! F6.calls7 -/
section
/-! ===== calls side by side: rows judged; fits ===== -/
theorem ka_max_congr {f g : Nat → Int} : ∀ {n : Nat}, (∀ i, i < n → f i = g i) → ka_max f n = ka_max g n
  | 0, _ => rfl
  | n + 1, h => by unfold ka_max; rw [ka_max_congr (fun i hi => h i (by omega)), h n (by omega)]
section
variable {M : mm_M} {Lo Hi A A' : Nat → Int} {s h : Int} {n : Nat}
theorem kR3.safe (h3 : kR3 M) {a : Int} (ha : ks_ac (M 4) a) (t : Int) : ks_safe (mm_rk M) Lo Hi t a h ↔ ks_safe (M 4) Lo Hi t a h := by
  rw [← nk_safe h3.2.1 ((h3.ac a).mpr ha), h3.2.2.1, nk_safe h3.1.1 ha]
theorem kR3.sure (h3 : kR3 M) {a : Int} (ha : ks_ac (M 4) a) (t : Int) : ks_sure (mm_rk M) Lo Hi t a h = ks_sure (M 4) Lo Hi t a h := by
  rw [← nk_sure h3.2.1 ((h3.ac a).mpr ha), h3.2.2.1, nk_sure h3.1.1 ha]
theorem kj_run_cg (h3 : kR3 M) (hA : ∀ j, j < n → A' j = A j ∧ ks_ac (M 4) (A j)) {j : Nat} (hj : j ≤ n) : kf_run (mm_rk M) s A' j = kf_run (M 4) s A j := by
  rw [h3.run]
  exact kf_run_cg (fun i hi => (hA i (by omega)).1)
theorem kj_P_cg (h3 : kR3 M) (hA : ∀ j, j < n → A' j = A j ∧ ks_ac (M 4) (A j)) {j : Nat} (hj : j < n) : kj_P (mm_rk M) Lo Hi s h A' j ↔ kj_P (M 4) Lo Hi s h A j := by
  unfold kj_P
  rw [kj_run_cg h3 hA (by omega), (hA j hj).1]
  exact h3.safe (hA j hj).2 _
theorem kj_g_cg (h3 : kR3 M) (hA : ∀ j, j < n → A' j = A j ∧ ks_ac (M 4) (A j)) {j : Nat} (hj : j < n) : kj_g (mm_rk M) Lo Hi s h A' j = kj_g (M 4) Lo Hi s h A j := by
  unfold kj_g
  rw [kj_run_cg h3 hA (by omega), (hA j hj).1]
  exact h3.sure (hA j hj).2 _
theorem kj_won_cg (h3 : kR3 M) (hA : ∀ j, j < n → A' j = A j ∧ ks_ac (M 4) (A j)) {c : Nat} (hc : c ≤ n) : kj_won (mm_rk M) Lo Hi s h A' c = kj_won (M 4) Lo Hi s h A c := by
  unfold kj_won
  refine ka_sum_congr ?_
  intro j hj
  rw [kj_g_cg h3 hA (by omega), (hA j (by omega)).1]
theorem kj_spent_cg (h3 : kR3 M) (hA : ∀ j, j < n → A' j = A j ∧ ks_ac (M 4) (A j)) {c : Nat} (hc : c ≤ n) : kj_spent (mm_rk M) Lo Hi s h A' c = kj_spent (M 4) Lo Hi s h A c := by
  unfold kj_spent
  refine ka_sum_congr ?_
  intro j hj
  rw [kj_g_cg h3 hA (by omega), (hA j (by omega)).1]
theorem kj_great_cg (h3 : kR3 M) (hA : ∀ j, j < n → A' j = A j ∧ ks_ac (M 4) (A j)) {c : Nat} (hc : c ≤ n) : kj_great (mm_rk M) Hi s h A' c = kj_great (M 4) Hi s h A c := by
  unfold kj_great
  refine ka_max_congr ?_
  intro j hj
  rw [kj_run_cg h3 hA (by omega), (hA j (by omega)).1, h3.wi, h3.p (hA j (by omega)).2]
/-- what a safe act gives -/
theorem ks_sure_b {K : Nat → Int} (hK : mm_KV K) {t a : Int} (ha : ks_ac K a) (hs : ks_safe K Lo Hi t a h) (hw : 0 ≤ ks_wi Lo K t h ∧ ks_wi Lo K t h ≤ ks_wi Hi K t h ∧ ks_wi Hi K t h ≤ 60) : (ks_dr a = 1 → -9999 ≤ ks_sure K Lo Hi t a h ∧ ks_sure K Lo Hi t a h ≤ 99999) ∧ (ks_dr a = 2 → -409995 ≤ ks_sure K Lo Hi t a h ∧ ks_sure K Lo Hi t a h ≤ 0) := by
  have m := ks_p_mono (s := t) hK ha hw.1 hw.2.1
  have p0 := ks_pw (s := t) hK ha ⟨hw.1, by omega⟩
  have b := hs.2
  obtain ⟨b1, b2⟩ := b
  obtain ⟨-, -, -, -, k4, k5, k6, k7, -⟩ := id hK
  refine ⟨fun d => ?_, fun d => ?_⟩
  · unfold ks_sure ks_w
    rw [d, if_pos rfl, if_neg (by decide)]
    omega
  · unfold ks_sure ks_w
    rw [d, if_neg (by decide), if_pos rfl, if_pos rfl]
    have q := mm_mulb (a := ks_p K t a (ks_wi Hi K t h)) (b := K 7) (A := 99999) (B := 400) (by omega) (by omega) k7.1 k7.2
    omega
theorem kj_worth_b {K : Nat → Int} (hK : mm_KV K) (hw : ∀ t, ks_st K t → 0 ≤ ks_wi Lo K t h ∧ ks_wi Lo K t h ≤ ks_wi Hi K t h ∧ ks_wi Hi K t h ≤ 60) (hs : ks_st K s) {c : Nat} (hP : ∀ j, j < c → kj_P K Lo Hi s h A j ∧ ks_ac K (A j)) :
    (-(100000 * (c : Int)) ≤ kj_won K Lo Hi s h A c ∧ kj_won K Lo Hi s h A c ≤ 100000 * (c : Int)) ∧ -(410000 * (c : Int)) ≤ kj_spent K Lo Hi s h A c ∧ kj_spent K Lo Hi s h A c ≤ 410000 * (c : Int) := by
  have st : ∀ j, j ≤ c → ks_st K (kf_run K s A j) := by
    intro j
    induction j with
    | zero => intro _; exact hs
    | succ j ih => intro hj; exact ks_to_st hK (ih (by omega)) (hP j (by omega)).1.can
  have g : ∀ j, j < c → (ks_dr (A j) = 1 → -9999 ≤ kj_g K Lo Hi s h A j ∧ kj_g K Lo Hi s h A j ≤ 99999) ∧ (ks_dr (A j) = 2 → -409995 ≤ kj_g K Lo Hi s h A j ∧ kj_g K Lo Hi s h A j ≤ 0) := fun j hj => ks_sure_b hK (hP j hj).2 (hP j hj).1 (hw _ (st j (by omega)))
  refine ⟨ka_sumb ?_, ka_sumb ?_⟩
  · intro j hj
    have := (g j hj).1
    split
    · rename_i q; have := this q; omega
    · omega
  · intro j hj
    have := (g j hj).2
    split
    · rename_i q; have := this q; omega
    · omega
end
theorem kR5.wb {M : mm_M} (h5 : kR5 M) (h3 : kR3 M) {h : Int} (hh : ks_hr h) : ∀ t, ks_st (M 4) t → 0 ≤ ks_wi (M 16) (M 4) t h ∧ ks_wi (M 16) (M 4) t h ≤ ks_wi (M 17) (M 4) t h ∧ ks_wi (M 17) (M 4) t h ≤ 60 := by
  intro t ht
  unfold ks_wi
  exact h5.2.2.2.1 _ (ks_plb hh (ks_bandb h3.1.1 ht))
section
variable {X : mm_X}
theorem kf_judge : kF2 X Y_X11_judge Y_X13_judge := by
  intro M hR s h hs hh
  obtain ⟨hRf, h1, h2, h3, h4, h5, h6, h7, h8, h9, h10, h11, h12, h13, h14, h15, h16⟩ := id hR
  have hl := h1.2.1
  have av : ∀ i, kj_actR M i = kj_act M i := by intro i; unfold kj_actR kj_act; rw [h1.2.2.1]
  have okq : kj_okR M ↔ kj_ok M := by
    unfold kj_okR kj_ok
    rw [h1.1]
    constructor
    · rintro ⟨a, b⟩; exact ⟨a, fun i hi => by have := b i hi; rw [h3.ac, av] at this; exact this⟩
    · rintro ⟨a, b⟩; exact ⟨a, fun i hi => by rw [h3.ac, av]; exact b i hi⟩
  by_cases q : (ks_st (M 4) s ∧ ks_hr h) ∧ kj_ok M
  · obtain ⟨⟨qs, qh⟩, qo⟩ := id q
    refine mm_C.mono (c_X11_judge1 (X := X) hRf h3.1 h5.2.2.2.1 qs qh h1.2.2.2 qo) ?_
    rintro r M1 ⟨rfl, hRf1, p1, p2, p3, p4, p5, p6, p7, c, u1, u2, u3, u4, u5, u6, u7, u8, u9⟩
    refine ⟨_, rfl, ?_⟩
    have e1 : ∀ a b, ¬ ((a = 0 ∧ b = 12) ∨ (a = 1 ∧ b = 1) ∨ (117 ≤ a ∧ a ≤ 119)) → M1 a b = M a b := by
      intro a b y
      by_cases y0 : a = 0
      · subst y0; exact p2 b (by omega)
      · by_cases y1 : a = 1
        · subst y1; exact p3 b (by omega)
        · rw [p1 a y0 y1 (by omega) (by omega) (by omega)]
    have row : ∀ a, ¬ (a = 0 ∨ a = 1 ∨ (117 ≤ a ∧ a ≤ 119)) → M1 a = M a := fun a y => funext fun b => e1 a b (by omega)
    have k3 : kR3 M1 := h3.fr (fun a b y => e1 a b (by omega))
    have k5 : kR5 M1 := h5.fr (fun a b y => e1 a b (by omega))
    have s183 : ∀ b, M1 183 b = M 183 b := fun b => e1 183 b (by omega)
    have avR : kj_actR M1 = kj_actR M := by funext i; unfold kj_actR; rw [row 185 (by omega)]
    have okR : kj_okR M1 := by
      have := okq.mpr qo
      unfold kj_okR at this ⊢
      rw [s183, avR, mm_rk.fr (N := M1) (M := M) (fun a b y => e1 a b (by omega))]
      exact this
    refine mm_C.mono (c_X13_judge1 (X := X) (M := M1) hRf1 k3.2.1 k5.ra ((k3.st s).mpr (by rw [row 4 (by omega)]; exact qs)) qh (by rw [row 185 (by omega), h1.2.2.1]; exact h1.2.2.2) okR) ?_
    rintro r2 M2 ⟨c', rfl, hRf2, -, v0, v1, v2, v3, v4, v5, v6, v7, v8, v9, v10, v11, v12, v13⟩
    rw [s183, h1.1, avR] at *
    obtain ⟨n, hn⟩ : ∃ n, n = (M 1 1).toNat := ⟨_, rfl⟩
    have hni : M 1 1 = (n : Int) := by omega
    have m4 : M1 4 = M 4 := row 4 (by omega)
    have hA : ∀ j, j < n → kj_actR M j = M1 118 j ∧ ks_ac (M1 4) (M1 118 j) := by
      intro j hj
      rw [av, p6 j (by omega), m4]
      exact ⟨rfl, qo.2 j (by omega)⟩
    rw [← m4, ← row 16 (by omega), ← row 17 (by omega)] at u1 u4 u5 u8
    rw [← m4] at u3 u7 u9
    rw [← m4, ← row 17 (by omega)] at u6
    rw [k5.2.2.1.1, k5.2.2.1.2] at v0 v5 v6
    rw [k5.2.2.1.2] at v7
    rw [hni, Int.toNat_natCast] at u1 v0
    have cc : c' = c := kj_is_u u1 v0 (fun j hj => (kj_P_cg k3 hA hj).symm)
    subst cc
    have hcn := u1.1
    have o100 := qo.1
    rw [kj_run_cg k3 hA hcn] at v4 v11 v12
    rw [kj_won_cg k3 hA hcn] at v5
    rw [kj_spent_cg k3 hA hcn] at v6
    rw [kj_great_cg k3 hA hcn] at v7
    refine ⟨by rw [u2], ?_⟩
    have e2 : ∀ a b, ¬ ((a = 183 ∧ (b = 2 ∨ (55 ≤ b ∧ b ≤ 62) ∨ b = 68)) ∨ a = 215) → M2 a b = M1 a b := by
      intro a b y
      by_cases y1 : a = 183
      · subst y1; exact v2 b (by omega) (by omega) (by omega)
      · rw [v1 a y1 (by omega)]
    have e : ∀ a b, ¬ ((a = 0 ∧ b = 12) ∨ (a = 1 ∧ b = 1) ∨ (117 ≤ a ∧ a ≤ 119) ∨ (a = 183 ∧ (b = 2 ∨ (55 ≤ b ∧ b ≤ 62) ∨ b = 68)) ∨ a = 215) → M2 a b = M a b := by
      intro a b y; rw [e2 a b (by omega), e1 a b (by omega)]
    have wb := kj_worth_b (s := s) (A := M1 118) (c := c') k3.1.1 (k5.wb k3 qh) (by rw [m4]; exact qs) (fun j hj => ⟨u1.2.1 j hj, (hA j (by omega)).2⟩)
    have k1 : kR1 M2 := by
      refine ⟨?_, ?_, ?_, ?_⟩
      · rw [v3, e2 1 1 (by omega), p4]
      · rw [e2 1 1 (by omega), p4]; omega
      · funext b; rw [e 185 b (by omega), e 2 b (by omega), h1.2.2.1]
      · intro k hk; rw [e 2 k (by omega)]; exact h1.2.2.2 k hk
    have k8 : kR8 M2 := by
      have r117 : M2 117 = M1 117 := funext fun b => e2 117 b (by omega)
      have r118 : M2 118 = M1 118 := funext fun b => e2 118 b (by omega)
      have r119 : M2 119 = M1 119 := funext fun b => e2 119 b (by omega)
      have r4 : M2 4 = M1 4 := funext fun b => e2 4 b (by omega)
      unfold kR8
      rw [r117, r118, r119, r4, e2 0 12 (by omega), p5, p7, v4, v5, v6, v7, v8, v9, v10, v11, v12, u3, u4, u5, u6, u8, u9]
      have b01 := mm_b_01 ((c' : Int) = M 1 1 ∧ kf_run (M1 4) s (M1 118) c' = s)
      refine ⟨by omega, b01, Or.inr rfl, Or.inr rfl, b01, b01, by omega, by unfold mm_R; omega, ⟨fun y => absurd y (by omega), fun y => absurd y (by decide)⟩, fun _ => ⟨rfl, rfl, rfl, rfl, rfl⟩, ⟨fun y => ⟨rfl, y⟩, fun y => y.2⟩, ?_⟩
      intro y
      have yy : (c' : Int) = M 1 1 ∧ kf_run (M1 4) s (M1 118) c' = s := by
        by_cases w : (c' : Int) = M 1 1 ∧ kf_run (M1 4) s (M1 118) c' = s
        · exact w
        · rw [mm_b_f w] at y; exact absurd y (by decide)
      refine ⟨by omega, rfl, rfl, by omega, by rw [m4]; exact qs, ?_⟩
      intro j hj
      have hj' : j < c' := by omega
      refine ⟨?_, (hA j (by omega)).2, u7 j hj', ?_⟩
      · rw [v13 j hj', (hA j (by omega)).1]
      · rw [u7 j hj']
        have st : ∀ i, i ≤ c' → ks_st (M1 4) (kf_run (M1 4) s (M1 118) i) := by
          intro i
          induction i with
          | zero => intro _; rw [m4]; exact qs
          | succ i ih => intro hi; exact ks_to_st k3.1.1 (ih (by omega)) (u1.2.1 i (by omega)).can
        exact st j (by omega)
    exact ⟨hRf2, k1, h2.fr (fun a b q => e a b (by omega)), h3.fr (fun a b q => e a b (by omega)), h4.fr (fun a b q => e a b (by omega)), h5.fr (fun a b q => e a b (by omega)), h6.fr (fun a b q => e a b (by omega)), h7.fr (fun a b q => e a b (by omega)), k8, h9.fr (fun a b q => e a b (by omega)), h10.fr (fun a b q => e a b (by omega)), h11.fr (fun a b q => e a b (by omega)), h12.fr (fun a b q => e a b (by omega)), h13.fr (fun a b q => e a b (by omega)), h14.fr (fun a b q => e a b (by omega)), h15.fr (fun a b q => e a b (by omega)), h16.fr (fun a b q => e a b (by omega))⟩
  · have c1 := c_X11_judge0 (X := X) hRf h3.1 hs hh hl h1.2.2.2 q
    have hRf1 : mm_Rf (mm_up M 1 1 0) := hRf.up rfl
    obtain ⟨M1, hM1⟩ : ∃ N, N = mm_up M 1 1 0 := ⟨_, rfl⟩
    rw [← hM1] at c1 hRf1
    have e1 : ∀ a b, ¬ (a = 1 ∧ b = 1) → M1 a b = M a b := fun a b y => by rw [hM1, mm_up_n y]
    have k3 : kR3 M1 := h3.fr (fun a b y => e1 a b (by omega))
    have row : ∀ a, a ≠ 1 → M1 a = M a := fun a y => funext fun b => e1 a b (by omega)
    have rk : mm_rk M1 = mm_rk M := mm_rk.fr (fun a b y => e1 a b (by omega))
    have avR : kj_actR M1 = kj_actR M := by funext i; unfold kj_actR; rw [row 185 (by omega)]
    have okR : kj_okR M1 ↔ kj_okR M := by
      unfold kj_okR
      rw [row 183 (by decide), avR, rk]
    have c2 := c_X13_judge0 (X := X) (M := M1) hRf1 k3.2.1 hs hh (by rw [row 183 (by decide), h1.1]; exact hl) (by rw [row 185 (by decide), h1.2.2.1]; exact h1.2.2.2) (by rw [rk, h3.st, okR, okq]; exact q)
    rw [rk] at c2
    have hRf2 : mm_Rf (mm_up M1 183 2 0) := hRf1.up rfl
    have e : ∀ a b, ¬ ((a = 1 ∧ b = 1) ∨ (a = 183 ∧ b = 2)) → mm_up M1 183 2 0 a b = M a b := by
      intro a b y; rw [mm_up_n (by omega), e1 a b (by omega)]
    refine kk_fn c1 c2 ?_ ⟨hRf2, ?_, h2.fr (fun a b q => e a b (by omega)), h3.fr (fun a b q => e a b (by omega)), h4.fr (fun a b q => e a b (by omega)), h5.fr (fun a b q => e a b (by omega)), h6.fr (fun a b q => e a b (by omega)), h7.fr (fun a b q => e a b (by omega)), h8.fr (fun a b q => e a b (by omega)), h9.fr (fun a b q => e a b (by omega)), h10.fr (fun a b q => e a b (by omega)), h11.fr (fun a b q => e a b (by omega)), h12.fr (fun a b q => e a b (by omega)), h13.fr (fun a b q => e a b (by omega)), h14.fr (fun a b q => e a b (by omega)), h15.fr (fun a b q => e a b (by omega)), h16.fr (fun a b q => e a b (by omega))⟩
    · by_cases w : ks_st (M 4) s ∧ ks_hr h
      · rw [if_pos w, if_pos ⟨(h3.st s).mpr w.1, w.2⟩]
      · rw [if_neg w, if_neg (fun y => w ⟨(h3.st s).mp y.1, y.2⟩)]
    · have z11 : mm_up M1 183 2 0 1 1 = 0 := by rw [mm_up_row (by decide), hM1, mm_up_s]
      refine ⟨by rw [mm_up_s, z11], by rw [z11]; omega, ?_, ?_⟩
      · funext b; rw [e 185 b (by omega), e 2 b (by omega), h1.2.2.1]
      · intro k hk; rw [e 2 k (by omega)]; exact h1.2.2.2 k hk
end
end
/-! F7.calls8 -/
section
/-! ===== calls side by side: fits, rules, kites ===== -/
def kl_r3 (D : Nat → Int) (x : Nat) : Prop := mm_R (D x) ∧ mm_R (D (x + 1)) ∧ mm_R (D (x + 2))
def kl_good (D : Nat → Int) (sl : Int) (l : Nat) : Prop := (1 ≤ D (11 * l) ∧ D (11 * l) ≤ 3) ∧ (∀ c : Nat, (c : Int) < D (11 * l) → kl_r3 D (11 * l + 1 + 3 * c)) ∧ 0 ≤ D (11 * l + 10) ∧ D (11 * l + 10) < 15 * sl
section
variable {B : Nat → Int} {n : Nat} {sl : Int}
theorem kl_cond_ok {a p p' : Nat} {D D' : Nat → Int} (h : kl_cond B n a p D = .ok (p', D')) : kl_r3 D' a ∧ ∀ x, ¬ (a ≤ x ∧ x < a + 3) → D' x = D x := by
  unfold kl_cond at h
  split at h
  · cases h
  · rename_i h1
    split at h
    · cases h
    · rename_i h2
      split at h
      · cases h
      · cases h
        have b2 := (kl_nmb (B := B) (n := n) (p := p)).2.1
        have b3 := (kl_nmb (B := B) (n := n) (p := kt_e B n p)).2.2.1
        have bv := kt_vb (B := B) (n := n) (p := kt_e B n (kt_e B n p))
        refine ⟨⟨?_, ?_, ?_⟩, ?_⟩
        · unfold kl_set
          rw [if_neg (by omega), if_neg (by omega), if_pos rfl]
          unfold mm_R; omega
        · unfold kl_set
          rw [if_neg (by omega), if_pos rfl]
          unfold mm_R; omega
        · unfold kl_set
          rw [if_pos rfl]
          unfold mm_R; omega
        · intro x hx
          unfold kl_set
          rw [if_neg (by omega), if_neg (by omega), if_neg (by omega)]
theorem kl_conds_ok {b : Nat} : ∀ {k j p p' : Nat} {D D' : Nat → Int}, kl_conds B n b k j p D = .ok (p', D') → ∃ m : Nat, D' b = (m : Int) ∧ j < m ∧ m ≤ j + k ∧ (∀ i, j ≤ i → i < m → kl_r3 D' (b + 1 + 3 * i)) ∧ ∀ x, ¬ (x = b ∨ (b + 1 + 3 * j ≤ x ∧ x < b + 1 + 3 * (j + k))) → D' x = D x
  | 0, j, p, p', D, D', h => by unfold kl_conds at h; cases h
  | k + 1, j, p, p', D, D', h => by
    unfold kl_conds at h
    split at h
    · cases h
    · rename_i p1 D1 h1
      obtain ⟨g1, g2⟩ := kl_cond_ok h1
      split at h
      · cases h
      · split at h
        · cases h
          refine ⟨j + 1, ?_, by omega, by omega, ?_, ?_⟩
          · unfold kl_set; rw [if_pos rfl]; omega
          · intro i i1 i2
            have ei : i = j := by omega
            subst ei
            unfold kl_r3 kl_set at *
            rw [if_neg (by omega), if_neg (by omega), if_neg (by omega)]
            exact g1
          · intro x hx
            unfold kl_set
            rw [if_neg (by omega)]
            exact g2 x (by omega)
        · split at h
          · cases h
          · obtain ⟨m, m1, m2, m3, m4, m5⟩ := kl_conds_ok h
            refine ⟨m, m1, by omega, by omega, ?_, ?_⟩
            · intro i i1 i2
              by_cases ei : i = j
              · subst ei
                unfold kl_r3 at *
                rw [m5 _ (by omega), m5 _ (by omega), m5 _ (by omega)]
                unfold kl_set
                rw [if_neg (by omega), if_neg (by omega), if_neg (by omega)]
                exact g1
              · exact m4 i (by omega) i2
            · intro x hx
              rw [m5 x (by omega)]
              unfold kl_set
              rw [if_neg (by omega)]
              exact g2 x (by omega)
theorem kl_act_ok {b p p' : Nat} {D D' : Nat → Int} (h : kl_act B n sl b p D = .ok (p', D')) : (0 ≤ D' (b + 10) ∧ D' (b + 10) < 15 * sl) ∧ ∀ x, x ≠ b + 10 → D' x = D x := by
  unfold kl_act at h
  split at h
  · cases h
  · split at h
    · cases h
    · rename_i h2
      split at h
      · cases h
      · rename_i h3
        split at h
        · cases h
        · rename_i h4
          split at h
          · cases h
          · cases h
            have bv := kt_vb (B := B) (n := n) (p := p)
            have b5 := (kl_nmb (B := B) (n := n) (p := kt_e B n p)).2.2.2.2.1
            have b6 := (kl_nmb (B := B) (n := n) (p := kt_e B n (kt_e B n p))).2.2.2.2.2
            refine ⟨?_, ?_⟩
            · unfold kl_set; rw [if_pos rfl]; omega
            · intro x hx; unfold kl_set; rw [if_neg hx]
theorem kl_line_ok {c p p' : Nat} {D D' : Nat → Int} (h : kl_line B n sl c p D = .ok (p', D')) : kl_good D' sl c ∧ ∀ x, ¬ (11 * c ≤ x ∧ x < 11 * c + 11) → D' x = D x := by
  unfold kl_line at h
  split at h
  · cases h
  · split at h
    · cases h
    · split at h
      · cases h
      · rename_i p1 D1 h1
        obtain ⟨m, m1, m2, m3, m4, m5⟩ := kl_conds_ok h1
        obtain ⟨a1, a2⟩ := kl_act_ok h
        refine ⟨⟨?_, ?_, a1⟩, ?_⟩
        · rw [a2 _ (by omega), m1]; omega
        · intro c' hc'
          rw [a2 _ (by omega), m1] at hc'
          have := m4 c' (by omega) (by omega)
          unfold kl_r3 at this ⊢
          rw [a2 _ (by omega), a2 _ (by omega), a2 _ (by omega)]
          exact this
        · intro x hx
          rw [a2 x (by omega), m5 x (by omega)]
theorem kl_good.fr {D D' : Nat → Int} {l : Nat} (h : kl_good D sl l) (e : ∀ x, 11 * l ≤ x → x < 11 * l + 11 → D' x = D x) : kl_good D' sl l := by
  obtain ⟨h1, h2, h3⟩ := h
  refine ⟨by rw [e _ (by omega) (by omega)]; exact h1, ?_, by rw [e _ (by omega) (by omega)]; exact h3⟩
  intro c hc
  rw [e _ (by omega) (by omega)] at hc
  have := h2 c hc
  unfold kl_r3 at this ⊢
  rw [e _ (by omega) (by omega), e _ (by omega) (by omega), e _ (by omega) (by omega)]
  exact this
theorem kl_text_ok : ∀ {k c p c' : Nat} {D D' : Nat → Int}, kl_text B n sl k c p D = .ok (c', D') → (∀ l, l < c → kl_good D sl l) → ∀ l, l < c' → kl_good D' sl l
  | 0, c, p, c', D, D', h, _ => by unfold kl_text at h; cases h
  | k + 1, c, p, c', D, D', h, hg => by
    unfold kl_text at h
    split at h
    · cases h; exact hg
    · split at h
      · cases h
      · rename_i p1 D1 h1
        obtain ⟨g1, g2⟩ := kl_line_ok h1
        refine kl_text_ok h ?_
        intro l hl
        by_cases e : l = c
        · rw [e]; exact g1
        · exact (hg l (by omega)).fr (fun x x1 x2 => g2 x (by omega))
end
section
variable {M : mm_M}
theorem kg_set_uq {P Q : Nat → Prop} {F G : Nat} (h1 : kg_set P F) (h2 : kg_set Q G) (hpq : ∀ q, q < 21 → (P q ↔ Q q)) : G = F := by
  apply Nat.eq_of_testBit_eq
  intro i
  by_cases hi : i < 21
  · have a := h1.2 i hi
    have b := h2.2 i hi
    have c := hpq i hi
    cases hF : F.testBit i <;> cases hG : G.testBit i
    · rfl
    · rw [hF] at a; rw [hG] at b
      exact absurd (a.mpr (c.mpr (b.mp rfl))) (by decide)
    · rw [hF] at a; rw [hG] at b
      exact absurd (b.mpr (c.mp (a.mp rfl))) (by decide)
    · rfl
  · have hp : 2 ^ 21 ≤ 2 ^ i := Nat.pow_le_pow_right (by decide) (by omega)
    rw [Nat.testBit_lt_two_pow (Nat.lt_of_lt_of_le h2.1 hp), Nat.testBit_lt_two_pow (Nat.lt_of_lt_of_le h1.1 hp)]
theorem kg_last_cg {α : Type} {P Q : Nat → Bool} {v w : Nat → α} {d e : α} (hd : d = e) : ∀ {n : Nat}, (∀ i, i < n → P i = Q i ∧ v i = w i) → kg_last P v d n = kg_last Q w e n
  | 0, _ => hd
  | n + 1, h => by
    unfold kg_last
    rw [(h n (by omega)).1, (h n (by omega)).2, kg_last_cg hd (fun i hi => h i (by omega))]
theorem kg_nx_cg {P Q : Nat → Bool} {v w : Nat → Int} {l : Int} : ∀ {n : Nat}, (∀ i, i < n → P i = Q i ∧ v i = w i) → kg_nx P v l n = kg_nx Q w l n
  | 0, _ => rfl
  | n + 1, h => by
    unfold kg_nx
    rw [(h n (by omega)).1, (h n (by omega)).2, kg_nx_cg (fun i hi => h i (by omega))]
theorem kR16.f (h3 : kR3 M) (h5 : kR5 M) (h16 : kR16 M) (t : Int) (q : Nat) : kg_fC M t q ↔ kg_fR M t q := by
  obtain ⟨⟨v1, v2, v3, v4⟩, ⟨w1, w2, w3, w4⟩, g1, g2, g3, g4, g5⟩ := h16
  have key : ∀ k : Nat, (k : Int) < M 174 2 → kg_pR M k q = kg_pC M k q ∧ kg_loR M k t (M 183 98).toNat = M 179 (kg_ix M k t) ∧ kg_hiR M k t (M 183 98).toNat = M 180 (kg_ix M k t) := by
    intro k hk
    obtain ⟨a1, a2, a3, a4, a5, a6⟩ := g4 k hk
    refine ⟨?_, ?_, ?_⟩
    · unfold kg_pR kg_pC
      rw [a1, a2, a3, h5.2.2.1.1, h3.wi]
      exact h3.p (v3 k hk).1.2.1 _ _
    · unfold kg_loR kg_ix
      rw [kg_last_map (fun i => M 179 i), g2]
      refine kg_last_cg a4 ?_
      intro i hi
      obtain ⟨b1, b2, b3, b4⟩ := g5 i (by omega)
      refine ⟨?_, b2⟩
      unfold kg_ok
      rw [b1, b4]
    · unfold kg_hiR kg_ix
      rw [kg_last_map (fun i => M 180 i), g2]
      refine kg_last_cg a5 ?_
      intro i hi
      obtain ⟨b1, b2, b3, b4⟩ := g5 i (by omega)
      refine ⟨?_, b3⟩
      unfold kg_ok
      rw [b1, b4]
  unfold kg_fC kg_fR kg_soR
  rw [g1]
  constructor
  · intro z k hk hs
    rw [(g4 k hk).2.2.2.2.2] at hs
    rw [(key k hk).1, (key k hk).2.1, (key k hk).2.2]
    exact z k hk hs
  · intro z k hk hs
    have := z k hk (by rw [(g4 k hk).2.2.2.2.2]; exact hs)
    rw [(key k hk).1, (key k hk).2.1, (key k hk).2.2] at this
    exact this
end
section
variable {X : mm_X}
theorem kf_fit : kF1 X Y_X11_fit Y_X13_fit := by
  intro M hR t ht
  obtain ⟨hRf, h1, h2, h3, h4, h5, h6, h7, h8, h9, h10, h11, h12, h13, h14, h15, h16⟩ := id hR
  by_cases q : 0 ≤ t ∧ t ≤ 999
  · refine mm_C.mono (c_X11_fit1 (X := X) hRf h3.1 h5.2.2.2.1 h16.1 q) ?_
    rintro r M1 ⟨F, rfl, -, rfl, hF⟩
    refine ⟨_, rfl, mm_C.mono (c_X13_fit1 (X := X) hRf h3.2.1 h5.ra h16.2.1 q) ?_⟩
    rintro r2 M2 ⟨G, rfl, -, rfl, hG⟩
    rw [kg_set_uq hF hG (fun i _ => h16.f h3 h5 t i)]
    exact ⟨rfl, hR⟩
  · exact kk_no (c_X11_fit0 (X := X) hRf ht q) (c_X13_fit0 (X := X) hRf ht q) rfl hR
theorem kf_next : kF2 X Y_X11_next Y_X13_next := by
  intro M hR s h hs hh
  obtain ⟨hRf, h1, h2, h3, h4, h5, h6, h7, h8, h9, h10, h11, h12, h13, h14, h15, h16⟩ := id hR
  by_cases q : ks_st (M 4) s ∧ ks_hr h
  · refine mm_C.mono (c_X11_next1 (X := X) hRf h3.1 h5.2.2.2.1 h16.1 q.1 q.2) ?_
    rintro r M1 ⟨F, rfl, -, rfl, hF⟩
    refine ⟨_, rfl, mm_C.mono (c_X13_next1 (X := X) hRf h3.2.1 h5.ra h16.2.1 ((h3.st s).mpr q.1) q.2) ?_⟩
    rintro r2 M2 ⟨G, rfl, -, rfl, hG⟩
    rw [kg_set_uq hF hG (fun i _ => h16.f h3 h5 999 i)]
    refine ⟨?_, hR⟩
    unfold kg_next
    rw [show (15 * mm_rk M2 10).toNat = (15 * M2 4 10).toNat from by rw [h3.k (i := 10) (by decide)], h5.2.2.1.1]
    congr 2
    refine kg_nx_cg ?_
    intro a ha
    have hac : ks_ac (M2 4) (a : Int) := ⟨by omega, by omega⟩
    refine ⟨?_, ?_⟩
    · have e : ks_can (mm_rk M2) s (a : Int) = ks_can (M2 4) s (a : Int) := h3.w (fun K => ks_can K s (a : Int)) (fun _ _ => rfl)
      by_cases y : ks_can (M2 4) s (a : Int)
      · rw [decide_eq_true y, decide_eq_true (e.mpr y)]
      · rw [decide_eq_false y, decide_eq_false (fun z => y (e.mp z))]
    · congr 1
      funext i
      unfold kg_p
      rw [h3.wi]
      exact h3.p hac _ _
  · exact kk_no (c_X11_next0 (X := X) hRf h3.1 hs hh q) (c_X13_next0 (X := X) hRf h3.2.1 hs hh (by rw [h3.st]; exact q)) rfl hR
theorem kf_rules : kF0 X Y_X11_rules Y_X13_rules := by
  intro M hR
  obtain ⟨hRf, h1, h2, h3, h4, h5, h6, h7, h8, h9, h10, h11, h12, h13, h14, h15, h16⟩ := id hR
  obtain ⟨n, hn⟩ : ∃ n, n = (M 1 1).toNat := ⟨_, rfl⟩
  have hl := h1.2.1
  have hni : M 1 1 = (n : Int) := by omega
  have b10 := h3.b10
  obtain ⟨E, hE⟩ : ∃ E, E = kl_text (M 2) n (M 4 10) 9 0 0 (M 20) := ⟨_, rfl⟩
  have c1 := c_X11_rules (X := X) (n := n) (sl := M 4 10) hRf ⟨hni, by omega, h1.2.2.2⟩ ⟨rfl, b10⟩
  rw [← hE] at c1
  refine mm_C.mono c1 ?_
  rintro r M1 ⟨hRf1, p0, p⟩
  have row : ∀ a, a ≠ 1 → a ≠ 18 → a ≠ 19 → a ≠ 20 → M1 a = M a := by
    intro a a1 a2 a3 a4
    match E, p with
    | .ok (c, D), p => exact p.2.1 a a1 a2 a3 a4
    | .error (k, s), p => exact p.2.1 a a1 a4
  have row1 : ∀ a b, ¬ (a = 1 ∨ a = 18 ∨ a = 19 ∨ a = 20) → M1 a b = M a b := fun a b y => by rw [row a (by omega) (by omega) (by omega) (by omega)]
  have rk1 : mm_rk M1 = mm_rk M := mm_rk.fr (fun a b y => row1 a b (by omega))
  have e16 : M 183 16 = M 4 10 := by rw [← h3.k (by decide), mm_rk_n]
  have c2 := c_X13_rules (X := X) (M := M1) (n := n) (sl := M 4 10) hRf1 ⟨by rw [row 183 (by decide) (by decide) (by decide) (by decide), h1.1]; exact hni, by omega⟩ (by rw [row 185 (by decide) (by decide) (by decide) (by decide), h1.2.2.1]; exact h1.2.2.2) ⟨by rw [row 183 (by decide) (by decide) (by decide) (by decide)]; exact e16, b10⟩ (M 20)
  rw [row 185 (by decide) (by decide) (by decide) (by decide), h1.2.2.1, ← hE] at c2
  match hEE : E, p, c2 with
  | .ok (c, D), p, c2 =>
    obtain ⟨rfl, p1, p2, p3, p4, p5⟩ := p
    refine ⟨_, rfl, mm_C.mono c2 ?_⟩
    rintro r2 M2 ⟨hRf2, t0, t1, t2, rfl, t3, t4, t5, t6, t7⟩
    refine ⟨rfl, ?_⟩
    have e2 : ∀ a b, ¬ ((a = 183 ∧ 2 ≤ b ∧ b ≤ 9) ∨ (a = 183 ∧ 20 ≤ b ∧ b ≤ 21) ∨ (193 ≤ a ∧ a ≤ 197)) → M2 a b = M1 a b := by
      intro a b y
      by_cases y1 : a = 183
      · subst y1; exact t2 b (by omega) (by omega) (by omega)
      · rw [t1 a y1 (by unfold kr_A; omega)]
    have e : ∀ a b, ¬ (a = 1 ∨ a = 18 ∨ a = 19 ∨ a = 20 ∨ (a = 183 ∧ 2 ≤ b ∧ b ≤ 9) ∨ (a = 183 ∧ 20 ≤ b ∧ b ≤ 21) ∨ (193 ≤ a ∧ a ≤ 197)) → M2 a b = M a b := by
      intro a b y; rw [e2 a b (by omega), row1 a b (by omega)]
    have g := kl_text_ok (hE.symm) (fun l hl => absurd hl (Nat.not_lt_zero l))
    have k1 : kR1 M2 := by
      refine ⟨by rw [t0, e2 1 1 (by omega), p0], by rw [e2 1 1 (by omega), p0]; omega, ?_, ?_⟩
      · funext b; rw [e 185 b (by omega), e 2 b (by omega), h1.2.2.1]
      · intro k hk; rw [e 2 k (by omega)]; exact h1.2.2.2 k hk
    have k2 : kR2 M2 := ⟨by rw [t3, e2 1 2 (by omega), p2], by rw [t4, e2 1 3 (by omega), p3]⟩
    have k3 : kR3 M2 := h3.fr (fun a b q => e a b (by omega))
    have m4 : M2 4 = M 4 := funext fun b => e 4 b (by omega)
    have k4 : kR4 M2 := by
      have l18 : M2 18 1 = (c : Int) := by rw [e2 18 1 (by omega)]; exact p4
      have r19 : ∀ b, b < 88 → M2 19 b = D b := by intro b hb; rw [e2 19 b (by omega)]; exact p5 b hb
      refine ⟨⟨by rw [l18]; omega, ?_⟩, ⟨by rw [t5]; omega, ?_⟩, by rw [t5, l18], ?_⟩
      · intro l hl
        rw [l18] at hl
        obtain ⟨g1, g2, g3⟩ := g l (by omega)
        unfold kc_C kc_Q kc_H kc_B kc_D
        rw [r19 _ (by omega), r19 _ (by omega)]
        refine ⟨by omega, ?_, ?_⟩
        · intro c' hc'
          have q := g2 c' hc'
          rw [r19 _ (by omega), r19 _ (by omega), r19 _ (by omega)]
          exact q
        · rw [m4]; exact g3
      · intro l hl
        rw [t5] at hl
        obtain ⟨u1, u2, u3, u4⟩ := t7 l (by omega)
        obtain ⟨g1, g2, g3⟩ := g l (by omega)
        unfold kq_C kq_Q kq_H kq_B kq_D
        rw [u1, u4]
        refine ⟨by omega, ?_, ?_⟩
        · intro c' hc'
          have q := g2 c' hc'
          obtain ⟨y1, y2, y3⟩ := u3 c' hc'
          rw [y1, y2, y3]
          exact q
        · rw [k3.ac, m4]; exact g3
      · intro l hl
        rw [l18] at hl
        obtain ⟨u1, u2, u3, u4⟩ := t7 l (by omega)
        unfold kc_C kc_Q kc_H kc_B kc_D kq_C kq_Q kq_H kq_B kq_D
        rw [u1, u4, r19 _ (by omega), r19 _ (by omega)]
        refine ⟨rfl, ?_, rfl⟩
        intro c' hc'
        obtain ⟨y1, y2, y3⟩ := u3 c' hc'
        rw [y1, y2, y3, r19 _ (by omega), r19 _ (by omega), r19 _ (by omega)]
        exact ⟨rfl, rfl, rfl⟩
    exact ⟨hRf2, k1, k2, k3, k4, h5.fr (fun a b q => e a b (by omega)), h6.fr (fun a b q => e a b (by omega)), h7.fr (fun a b q => e a b (by omega)), h8.fr (fun a b q => e a b (by omega)), h9.fr (fun a b q => e a b (by omega)), h10.fr (fun a b q => e a b (by omega)), h11.fr (fun a b q => e a b (by omega)), h12.fr (fun a b q => e a b (by omega)), h13.fr (fun a b q => e a b (by omega)), h14.fr (fun a b q => e a b (by omega)), h15.fr (fun a b q => e a b (by omega)), h16.fr (fun a b q => e a b (by omega))⟩
  | .error (k, s), p, c2 =>
    obtain ⟨rfl, p1, p2, p3⟩ := p
    refine ⟨_, rfl, mm_C.mono c2 ?_⟩
    rintro r2 M2 ⟨hRf2, t0, t1, t2, rfl, t3, t4, t5, t6⟩
    refine ⟨rfl, ?_⟩
    have e2 : ∀ a b, ¬ ((a = 183 ∧ 2 ≤ b ∧ b ≤ 9) ∨ (a = 183 ∧ 20 ≤ b ∧ b ≤ 21) ∨ (193 ≤ a ∧ a ≤ 197)) → M2 a b = M1 a b := by
      intro a b y
      by_cases y1 : a = 183
      · subst y1; exact t2 b (by omega) (by omega) (by omega)
      · rw [t1 a y1 (by unfold kr_A; omega)]
    have row2 : ∀ a b, ¬ (a = 1 ∨ a = 20) → M1 a b = M a b := fun a b y => by rw [p1 a (by omega) (by omega)]
    have e : ∀ a b, ¬ (a = 1 ∨ a = 20 ∨ (a = 183 ∧ 2 ≤ b ∧ b ≤ 9) ∨ (a = 183 ∧ 20 ≤ b ∧ b ≤ 21) ∨ (193 ≤ a ∧ a ≤ 197)) → M2 a b = M a b := by
      intro a b y; rw [e2 a b (by omega), row2 a b (by omega)]
    have k1 : kR1 M2 := by
      refine ⟨by rw [t0, e2 1 1 (by omega), p0], by rw [e2 1 1 (by omega), p0]; omega, ?_, ?_⟩
      · funext b; rw [e 185 b (by omega), e 2 b (by omega), h1.2.2.1]
      · intro k hk; rw [e 2 k (by omega)]; exact h1.2.2.2 k hk
    have k2 : kR2 M2 := ⟨by rw [t3, e2 1 2 (by omega), p2], by rw [t4, e2 1 3 (by omega), p3]⟩
    have k3 : kR3 M2 := h3.fr (fun a b q => e a b (by omega))
    have k4 : kR4 M2 := by
      obtain ⟨g1, g2, g3, g4⟩ := h4
      obtain ⟨t6a, t6b⟩ := t6
      have m4 : M2 4 = M 4 := funext fun b => e 4 b (by omega)
      have rk : mm_rk M2 = mm_rk M := mm_rk.fr (fun a b y => e a b (by omega))
      have l18 : M2 18 1 = M 18 1 := e 18 1 (by omega)
      have l20 : M2 183 20 = M 183 20 := by rw [t5, row 183 (by decide) (by decide) (by decide) (by decide)]
      have r19 : M2 19 = M 19 := funext fun b => e 19 b (by omega)
      have r3 : ∀ b, b < 24 → M2 193 b = M 193 b ∧ M2 194 b = M 194 b ∧ M2 195 b = M 195 b := by
        intro b hb
        have := t6a b (by omega)
        rw [row 193 (by decide) (by decide) (by decide) (by decide), row 194 (by decide) (by decide) (by decide) (by decide), row 195 (by decide) (by decide) (by decide) (by decide)] at this
        exact this
      have r6 : ∀ b, b < 8 → M2 196 b = M 196 b ∧ M2 197 b = M 197 b := by
        intro b hb
        have := t6b b (by omega)
        rw [row 196 (by decide) (by decide) (by decide) (by decide), row 197 (by decide) (by decide) (by decide) (by decide)] at this
        exact this
      have b18 := g1.1
      refine ⟨?_, ⟨by rw [l20]; exact g2.1, ?_⟩, by rw [l20, l18]; exact g3, ?_⟩
      · unfold mm_CR kc_C kc_Q kc_H kc_B kc_D at g1 ⊢
        rw [l18, r19, m4]; exact g1
      · intro l hl
        rw [l20, g3] at hl
        have q := g2.2 l (by rw [g3]; exact hl)
        unfold kq_C kq_Q kq_H kq_B kq_D at q ⊢
        rw [(r6 l (by omega)).1, (r6 l (by omega)).2, rk]
        refine ⟨q.1, ?_, q.2.2⟩
        intro c' hc'
        have y := r3 (3 * l + c') (by omega)
        rw [y.1, y.2.1, y.2.2]
        exact q.2.1 c' hc'
      · intro l hl
        rw [l18] at hl
        have q := g4 l hl
        have q3 := (g1.2 l hl).1
        unfold kc_C kc_Q kc_H kc_B kc_D kq_C kq_Q kq_H kq_B kq_D at q ⊢
        unfold kc_C at q3
        rw [(r6 l (by omega)).1, (r6 l (by omega)).2, r19]
        refine ⟨q.1, ?_, q.2.2⟩
        intro c' hc'
        have y := r3 (3 * l + c') (by omega)
        rw [y.1, y.2.1, y.2.2]
        exact q.2.1 c' hc'
    exact ⟨hRf2, k1, k2, k3, k4, h5.fr (fun a b q => e a b (by omega)), h6.fr (fun a b q => e a b (by omega)), h7.fr (fun a b q => e a b (by omega)), h8.fr (fun a b q => e a b (by omega)), h9.fr (fun a b q => e a b (by omega)), h10.fr (fun a b q => e a b (by omega)), h11.fr (fun a b q => e a b (by omega)), h12.fr (fun a b q => e a b (by omega)), h13.fr (fun a b q => e a b (by omega)), h14.fr (fun a b q => e a b (by omega)), h15.fr (fun a b q => e a b (by omega)), h16.fr (fun a b q => e a b (by omega))⟩
end
end
/-! F8.calls9 -/
section
/-! ===== calls side by side: a new kite ===== -/
theorem kv_of {K K' : Nat → Int} (h : mm_KV K') (a : kA K K') (b : ∀ i, i < 3 → 0 ≤ K (20 + i) ∧ K (20 + i) ≤ 99) : mm_KV K := by
  obtain ⟨a1, a2, a3⟩ := a
  unfold mm_KV at h ⊢
  rw [a1 0 (by decide), a1 1 (by decide), a1 2 (by decide), a1 3 (by decide), a1 4 (by decide), a1 5 (by decide), a1 6 (by decide), a1 7 (by decide), a1 8 (by decide), a1 9 (by decide), a1 10 (by decide)]
  obtain ⟨k0, k1, k2, k3, k4, k5, k6, k7, k8, k9, k10, k11, k12⟩ := h
  refine ⟨k0, k1, k2, k3, k4, k5, k6, k7, k8, k9, k10, b, ?_⟩
  intro i hi; rw [a3 i hi]; exact k12 i hi
section
variable {X : mm_X}
theorem kf_kite : kF0 X Y_X11_kite Y_X13_kite := by
  intro M hR
  obtain ⟨hRf, h1, h2, h3, h4, h5, h6, h7, h8, h9, h10, h11, h12, h13, h14, h15, h16⟩ := id hR
  obtain ⟨n, hn⟩ : ∃ n, n = (M 1 1).toNat := ⟨_, rfl⟩
  have hl := h1.2.1
  have hni : M 1 1 = (n : Int) := by omega
  have h22 : 0 ≤ M 5 22 ∧ M 5 22 ≤ 99 := by
    obtain ⟨-, -, -, -, -, -, -, -, -, -, -, k11, -⟩ := h3.2.2.2.1
    exact k11 2 (by decide)
  obtain ⟨E, hE⟩ : ∃ E, E = kp_text (M 2) n 13 0 0 0 (kp_D0 (M 5)) := ⟨_, rfl⟩
  have c1 := c_X11_kite (X := X) (n := n) hRf ⟨hni, by omega, h1.2.2.2⟩ h22
  rw [← hE] at c1
  refine mm_C.mono c1 ?_
  rintro r M1 ⟨hRf1, p5, p0, p⟩
  have row : ∀ a, 183 ≤ a → M1 a = M a := by
    intro a ha
    match E, p with
    | .ok (c, D), p => exact p.2.2.2.2.2.1 a (by omega) (by omega) (by omega) (by omega) (by omega) (by omega) (by omega) (by omega)
    | .error (k, s), p => exact p.2.2.2 a (by omega) (by omega)
  have c2 := c_X13_kite (X := X) (M := M1) (n := n) hRf1 ⟨by rw [row 183 (by decide), h1.1]; exact hni, by omega⟩ (by rw [row 185 (by decide), h1.2.2.1]; exact h1.2.2.2) (M 5)
  rw [row 185 (by decide), h1.2.2.1, ← hE] at c2
  have bd1 : kq_bd M1 := h3.2.2.2.2.fr (row 189 (by decide))
  match E, p, c2 with
  | .ok (c, D), p, c2 =>
    obtain ⟨rfl, p1, p2, n1, n2, n3, n4, n5, n6, n7, n8, n9, n10, n11, n12, n13⟩ := p
    refine ⟨_, rfl, mm_C.mono c2 ?_⟩
    rintro r2 M2 ⟨hRf2, t0, rfl, t1, t2, ⟨d1, d2, d3, d4, d5⟩, d6, d7, d8, d9, d10, d11, d12, d13, d14, d15, d16, d17⟩
    refine ⟨rfl, ?_⟩
    obtain ⟨bd2, lf2⟩ := d6 bd1
    have e2 : ∀ a b, ¬ ((a = 183 ∧ ((2 ≤ b ∧ b ≤ 9) ∨ (16 ≤ b ∧ b ≤ 18) ∨ b = 20 ∨ b = 62 ∨ b = 88 ∨ b = 89 ∨ (97 ≤ b ∧ b ≤ 99))) ∨ (186 ≤ a ∧ a ≤ 192) ∨ (a = 216 ∧ b < 6)) → M2 a b = M1 a b := by
      intro a b y
      by_cases y1 : a = 183
      · subst y1; exact d8 b (by omega) (by omega) (by omega) (by omega) (by omega) (by omega) (by omega)
      · by_cases y2 : a = 216
        · subst y2; exact d11 b (by omega)
        · rw [d7 a y1 (by omega) y2]
    have e1 : ∀ a b, ¬ ((a = 0 ∧ b = 12) ∨ a = 1 ∨ (3 ≤ a ∧ a ≤ 10) ∨ a = 18 ∨ a = 23 ∨ (121 ≤ a ∧ a ≤ 138) ∨ a = 144 ∨ a = 174) → M1 a b = M a b := by
      intro a b y
      by_cases y1 : a = 0
      · subst y1; exact n7 b (by omega)
      · rw [n3 a y1 (by omega) (by omega) (by omega) (by omega) (by omega) (by omega) (by omega)]
    have e : ∀ a b, ¬ ((a = 0 ∧ b = 12) ∨ a = 1 ∨ (3 ≤ a ∧ a ≤ 10) ∨ a = 18 ∨ a = 23 ∨ (121 ≤ a ∧ a ≤ 138) ∨ a = 144 ∨ a = 174 ∨ (a = 183 ∧ ((2 ≤ b ∧ b ≤ 9) ∨ (16 ≤ b ∧ b ≤ 18) ∨ b = 20 ∨ b = 62 ∨ b = 88 ∨ b = 89 ∨ (97 ≤ b ∧ b ≤ 99))) ∨ (186 ≤ a ∧ a ≤ 192) ∨ (a = 216 ∧ b < 6)) → M2 a b = M a b := by
      intro a b y; rw [e2 a b (by omega), e1 a b (by omega)]
    have lo : ∀ a, a < 183 → M2 a = M1 a := fun a ha => funext fun b => e2 a b (by omega)
    have k1 : kR1 M2 := by
      refine ⟨by rw [t0, lo 1 (by decide), p0], by rw [lo 1 (by decide), p0]; omega, ?_, ?_⟩
      · funext b; rw [e 185 b (by omega), e 2 b (by omega), h1.2.2.1]
      · intro k hk; rw [e 2 k (by omega)]; exact h1.2.2.2 k hk
    have k2 : kR2 M2 := ⟨by rw [t1, lo 1 (by decide), p1], by rw [t2, lo 1 (by decide), p2]⟩
    have hka : kA (mm_rk M2) (M2 4) := by
      rw [lo 4 (by decide)]
      refine ⟨fun i hi => ?_, fun i hi hi2 => ?_, fun i hi => ?_⟩
      · rw [n2 i (by omega)]
        by_cases q : i < 10
        · exact d1 i q
        · have ei : i = 10 := by omega
          subst ei; exact d2
      · rw [d2] at hi2
        rw [n2 (20 + i) (by omega)]; exact d4 i hi2
      · rw [n2 (30 + i) (by omega)]; exact d5 i hi
    have ck2 : mm_CK M2 := kx_ck (fun a _ a2 => lo a (by omega)) n1
    have k3 : kR3 M2 := by
      refine ⟨ck2, kv_of ck2.1 hka ?_, hka.nk, by rw [lo 5 (by decide)]; exact p5, bd2⟩
      intro i hi; rw [mm_rk_l M2 hi]; exact lf2 i hi
    have k4 : kR4 M2 := by
      have l1 : M2 18 1 = 0 := by rw [lo 18 (by decide)]; exact n4
      refine ⟨⟨by rw [l1]; omega, fun l hl => ?_⟩, ⟨by rw [d9]; omega, fun l hl => ?_⟩, by rw [l1, d9], fun l hl => ?_⟩
      · rw [l1] at hl; omega
      · rw [d9] at hl; omega
      · rw [l1] at hl; omega
    have k7 : kR7 M2 := by
      intro k hk
      have u : M2 23 k = 0 := by rw [lo 23 (by decide)]; exact n13 k hk
      rw [u, e (42 + 3 * k) 2 (by omega)]
      exact ⟨Or.inl rfl, (h7 k hk).2.1, fun q => absurd q (by decide)⟩
    have k8 : kR8 M2 := by
      obtain ⟨g1, g2, g3, g4, g5, g6, g7, g8, g9, g10, g11, g12⟩ := id h8
      have r117 : M2 117 = M 117 := funext fun b => e 117 b (by omega)
      have u12 : M2 0 12 = 0 := by rw [lo 0 (by decide)]; exact n6
      unfold kR8
      rw [r117, u12, d17, e 183 55 (by omega), e 183 56 (by omega), e 183 57 (by omega), e 183 58 (by omega), e 183 59 (by omega), e 183 61 (by omega), e 183 68 (by omega)]
      exact ⟨g1, g2, Or.inl rfl, g4, g5, Or.inl rfl, g7, g8, g9, g10, ⟨fun q => absurd q (by decide), fun q => absurd q.1 (by decide)⟩, fun q => absurd q (by decide)⟩
    have k9 : kR9 M2 := by
      intro k hk
      have u : M2 (121 + 3 * k) 2 = 0 := by rw [lo _ (by omega)]; exact (n5 k hk).1
      rw [u, d10 k hk, e 217 k (by omega)]
      exact ⟨by omega, rfl, (h9 k hk).2.2.1, fun q => absurd q (by decide), fun i hi => absurd hi (by omega)⟩
    have k13 : kR13 M2 := by
      have g1 : M2 144 1 = 0 := by rw [lo 144 (by decide)]; exact n8
      have g2 : M2 144 2 = 0 := by rw [lo 144 (by decide)]; exact n9
      refine ⟨⟨by rw [g1]; omega, fun i hi => ?_⟩, fun i hi => ?_, ⟨by rw [d12]; omega, fun i hi => ?_, fun i j _ hj => ?_⟩, by rw [g1, d12], by rw [g2, d13], fun i hi => ?_⟩
      · rw [g1] at hi; omega
      · rw [g1] at hi; omega
      · rw [d12] at hi; omega
      · rw [d12] at hj; omega
      · rw [g1] at hi; omega
    have k16 : kR16 M2 := by
      have a1 : M2 174 2 = 0 := by rw [lo 174 (by decide)]; exact n10
      have a2 : M2 174 3 = 0 := by rw [lo 174 (by decide)]; exact n11
      have a3 : M2 174 4 = 0 := by rw [lo 174 (by decide)]; exact n12
      refine ⟨⟨by rw [a1]; omega, by rw [a2]; omega, fun k hk => ?_, fun k hk => ?_⟩, ⟨by rw [d14]; omega, by rw [d15]; omega, fun k hk => ?_, fun k hk => ?_⟩, by rw [a1, d14], by rw [a2, d15], by rw [a3, d16]; omega, fun k hk => ?_, fun k hk => ?_⟩
      · rw [a1] at hk; omega
      · rw [a2] at hk; omega
      · rw [d14] at hk; omega
      · rw [d15] at hk; omega
      · rw [a1] at hk; omega
      · rw [a2] at hk; omega
    exact ⟨hRf2, k1, k2, k3, k4, h5.fr (fun a b q => e a b (by omega)), h6.fr (fun a b q => e a b (by omega)), k7, k8, k9, h10.fr (fun a b q => e a b (by omega)), h11.fr (fun a b q => e a b (by omega)), h12.fr (fun a b q => e a b (by omega)), k13, h14.fr (fun a b q => e a b (by omega)), h15.fr (fun a b q => e a b (by omega)), k16⟩
  | .error (k, s), p, c2 =>
    obtain ⟨rfl, p1, p2, p3⟩ := p
    refine ⟨_, rfl, mm_C.mono c2 ?_⟩
    rintro r2 M2 ⟨hRf2, t0, rfl, t1, t2, t3, t4, t5⟩
    refine ⟨rfl, ?_⟩
    have e2 : ∀ a b, ¬ ((a = 183 ∧ ((2 ≤ b ∧ b ≤ 9) ∨ b = 17 ∨ b = 18)) ∨ (a = 187 ∨ a = 189 ∨ a = 191 ∨ a = 192)) → M2 a b = M1 a b := by
      intro a b y
      by_cases y1 : a = 183
      · subst y1; exact t4 b (by omega) (by unfold kq_S; omega)
      · rw [t3 a y1 (by unfold kq_A; omega)]
    have e1 : ∀ a b, ¬ (a = 1 ∨ a = 5) → M1 a b = M a b := fun a b y => by rw [p3 a (by omega) (by omega)]
    have e : ∀ a b, ¬ (a = 1 ∨ a = 5 ∨ (a = 183 ∧ ((2 ≤ b ∧ b ≤ 9) ∨ b = 17 ∨ b = 18)) ∨ (a = 187 ∨ a = 189 ∨ a = 191 ∨ a = 192)) → M2 a b = M a b := by
      intro a b y; rw [e2 a b (by omega), e1 a b (by omega)]
    have k1 : kR1 M2 := by
      refine ⟨by rw [t0, e2 1 1 (by omega), p0], by rw [e2 1 1 (by omega), p0]; omega, ?_, ?_⟩
      · funext b; rw [e 185 b (by omega), e 2 b (by omega), h1.2.2.1]
      · intro k hk; rw [e 2 k (by omega)]; exact h1.2.2.2 k hk
    have k2 : kR2 M2 := ⟨by rw [t1, e2 1 2 (by omega), p1], by rw [t2, e2 1 3 (by omega), p2]⟩
    -- the kite without the draft and the lifts that are read
    have rk : mm_rk M2 = mm_rk M := by
      funext i
      unfold mm_rk
      rw [e 183 16 (by omega)]
      split
      · exact e _ _ (by omega)
      · split
        · rfl
        · split
          · exact e _ _ (by omega)
          · exact e _ _ (by omega)
    have m4 : M2 4 = M 4 := funext fun b => e 4 b (by omega)
    have k3 : kR3 M2 := by
      obtain ⟨g1, g2, g3, g4, g5⟩ := id h3
      refine ⟨?_, by rw [rk]; exact g2, by rw [rk, m4]; exact g3, ?_, t5 bd1⟩
      · unfold mm_CK at g1 ⊢
        have r : ∀ a, a = 3 ∨ a = 4 ∨ (6 ≤ a ∧ a ≤ 10) → M2 a = M a := fun a ha => funext fun b => e a b (by omega)
        rw [r 3 (by omega), r 4 (by omega), r 6 (by omega), r 7 (by omega), r 8 (by omega), r 9 (by omega), r 10 (by omega)]
        exact g1
      · have : M2 5 = M1 5 := funext fun b => e2 5 b (by omega)
        rw [this]; exact p5
    have k4 : kR4 M2 := by
      have r : ∀ a, (a = 18 ∨ a = 19 ∨ (193 ≤ a ∧ a ≤ 197)) → M2 a = M a := fun a ha => funext fun b => e a b (by omega)
      have h4 := h4
      unfold kR4 mm_CR mm_RR kq_C kq_Q kq_H kq_B kq_D kc_C kc_Q kc_H kc_B kc_D at h4 ⊢
      rw [rk, m4, r 18 (by omega), r 19 (by omega), r 193 (by omega), r 194 (by omega), r 195 (by omega), r 196 (by omega), r 197 (by omega), e 183 20 (by omega)]
      exact h4
    have k16 : kR16 M2 := by
      have r : ∀ a, ((174 ≤ a ∧ a ≤ 182) ∨ (233 ≤ a ∧ a ≤ 242)) → M2 a = M a := fun a ha => funext fun b => e a b (by omega)
      have h16 := h16
      unfold kR16 mm_CG mm_RG at h16 ⊢
      rw [rk, m4, r 174 (by omega), r 175 (by omega), r 176 (by omega), r 177 (by omega), r 178 (by omega), r 179 (by omega), r 180 (by omega), r 181 (by omega), r 182 (by omega), r 233 (by omega), r 234 (by omega), r 235 (by omega), r 236 (by omega), r 237 (by omega), r 238 (by omega), r 239 (by omega), r 240 (by omega), r 241 (by omega), r 242 (by omega), e 183 97 (by omega), e 183 98 (by omega), e 183 99 (by omega)]
      exact h16
    have k13 : kR13 M2 := by
      obtain ⟨g1, g2, g3, g4, g5, g6⟩ := id h13
      have r : ∀ a, ((144 ≤ a ∧ a ≤ 171) ∨ (216 ≤ a ∧ a ≤ 219) ∨ a = 228 ∨ a = 229) → M2 a = M a := fun a ha => funext fun b => e a b (by omega)
      have hmC : ∀ i j : Nat, (i : Int) < M 144 1 → (j : Int) < M 144 1 → (kd_mC M i j ↔ kd_mC M2 i j) := by
        intro i j hi hj
        have := g1.1
        unfold kd_mC
        rw [m4, r 146 (by omega), r (148 + 3 * i) (by omega), r (148 + 3 * i + 2) (by omega), r (148 + 3 * j) (by omega), r (148 + 3 * j + 2) (by omega)]
      have hmR : kd_mR M2 = kd_mR M := kd_mR_congr (r 216 (by omega)) (r 217 (by omega)) (r 219 (by omega)) (r 228 (by omega)) rk
      refine ⟨mm_CF_cg g1 (fun a b y => e a b (by omega)) hmC, ?_, ?_, ?_, ?_, ?_⟩
      · intro i hi
        rw [r 144 (by omega)] at hi
        have hb := g1.1
        have := g2 i hi
        rw [m4, r 146 (by omega), r (148 + 3 * i) (by omega), r (148 + 3 * i + 2) (by omega)]
        exact this
      · rw [hmR]
        unfold mm_RF kl_ok kl_S at g3 ⊢
        rw [rk, r 216 (by omega), r 217 (by omega), r 218 (by omega), r 219 (by omega), r 228 (by omega), r 229 (by omega), e 183 88 (by omega)]
        exact g3
      · rw [e 183 88 (by omega), r 144 (by omega)]; exact g4
      · rw [e 183 89 (by omega), r 144 (by omega)]; exact g5
      · intro i hi
        rw [r 144 (by omega)] at hi
        have hb := g1.1
        have := g6 i hi
        unfold kl_S at this ⊢
        rw [rk, r 228 (by omega), r 146 (by omega), r 216 (by omega), r 217 (by omega), r 218 (by omega), r 219 (by omega), r (148 + 3 * i) (by omega), r (148 + 3 * i + 2) (by omega)]
        exact this
    exact ⟨hRf2, k1, k2, k3, k4, h5.fr (fun a b q => e a b (by omega)), h6.fr (fun a b q => e a b (by omega)), h7.fr (fun a b q => e a b (by omega)), h8.fr (fun a b q => e a b (by omega)), h9.fr (fun a b q => e a b (by omega)), h10.fr (fun a b q => e a b (by omega)), h11.fr (fun a b q => e a b (by omega)), h12.fr (fun a b q => e a b (by omega)), k13, h14.fr (fun a b q => e a b (by omega)), h15.fr (fun a b q => e a b (by omega)), k16⟩
end
end
/-! F9.calls10 -/
section
/-! ===== calls side by side: kites that must not meet ===== -/
section
variable {d d' : Nat → Int} {N N' : Nat}
theorem kn_le : ∀ {N t : Nat}, t < N → kn d N ≤ d t
  | 0, t, h => absurd h (Nat.not_lt_zero t)
  | N + 1, t, h => by
    unfold kn
    by_cases q : t = N
    · rw [q]; omega
    · have := kn_le (N := N) (t := t) (by omega)
      omega
theorem kn_ge {v : Int} (hv : v ≤ 1000) : ∀ {N : Nat}, (∀ t, t < N → v ≤ d t) → v ≤ kn d N
  | 0, _ => by unfold kn; exact hv
  | N + 1, h => by
    unfold kn
    have a := kn_ge hv (N := N) (fun t ht => h t (by omega))
    have b := h N (by omega)
    omega
theorem kn_1000 : ∀ {N : Nat}, kn d N ≤ 1000
  | 0 => by unfold kn; omega
  | N + 1 => by unfold kn; have := kn_1000 (N := N); omega
theorem kn_sub (h : ∀ t, t < N → ∃ t', t' < N' ∧ d' t' = d t) : kn d' N' ≤ kn d N := by
  refine kn_ge kn_1000 ?_
  intro t ht
  obtain ⟨t', h1, h2⟩ := h t ht
  rw [← h2]
  exact kn_le h1
theorem kn_eq (hd : ∀ t, d t ≤ 1000) : ∀ {N : Nat}, 1 ≤ N → kn_a 1000000 d N = kn d N
  | 0, h => absurd h (by omega)
  | 1, _ => by
    show min 1000000 (d 0) = min 1000 (d 0)
    have := hd 0
    omega
  | N + 2, _ => by
    have := kn_eq hd (N := N + 1) (by omega)
    show min (kn_a 1000000 d (N + 1)) (d (N + 1)) = min (kn d (N + 1)) (d (N + 1))
    rw [this]
end
theorem kz_bez : ∀ l m : Nat, ∃ x y : Int, (l : Int) * x + (m : Int) * y = (Nat.gcd l m : Int) := by
  intro l m
  induction l, m using Nat.gcd.induction with
  | H0 n => exact ⟨0, 1, by rw [Nat.gcd_zero_left]; omega⟩
  | H1 m n hm ih =>
    obtain ⟨x, y, h⟩ := ih
    refine ⟨y - (n / m : Nat) * x, x, ?_⟩
    rw [Nat.gcd_rec m n, ← h]
    have e : (n : Int) = (m : Int) * ((n / m : Nat) : Int) + ((n % m : Nat) : Int) := by
      have := Nat.div_add_mod n m
      exact_mod_cast this.symm
    rw [Int.mul_sub]
    have e2 : (n : Int) * x = (m : Int) * (((n / m : Nat) : Int) * x) + ((n % m : Nat) : Int) * x := by
      conv => lhs; rw [e]
      rw [Int.add_mul, Int.mul_assoc]
    omega
theorem kz_step {l m : Nat} (hm : 0 < m) : ∃ x : Nat, (l * x) % m = Nat.gcd l m % m := by
  obtain ⟨x, y, h⟩ := kz_bez l m
  refine ⟨(x % (m : Int)).toNat, ?_⟩
  have hm' : (m : Int) ≠ 0 := by omega
  have hx : ((x % (m : Int)).toNat : Int) = x % (m : Int) := Int.toNat_of_nonneg (Int.emod_nonneg _ hm')
  have : ((l * (x % (m : Int)).toNat % m : Nat) : Int) = ((Nat.gcd l m % m : Nat) : Int) := by
    rw [Int.natCast_emod, Int.natCast_mul, hx, Int.natCast_emod, ← h, Int.mul_emod, Int.emod_emod_of_dvd x (Int.dvd_refl _), ← Int.mul_emod, Int.add_mul_emod_self_left]
  exact_mod_cast this
/-- what depends on the places in two loops alone -/
def kz_f (D : Nat → Nat → Int) (l m k t : Nat) : Int := D (t % l) ((k + t) % m)
section
variable {D : Nat → Nat → Int} {l m k : Nat}
theorem kz_mod {L t : Nat} (h1 : l ∣ L) (h2 : m ∣ L) : kz_f D l m k (t % L) = kz_f D l m k t := by
  unfold kz_f
  rw [Nat.mod_mod_of_dvd t h1]
  congr 1
  rw [Nat.add_mod, Nat.mod_mod_of_dvd t h2, ← Nat.add_mod]
theorem kz_lcm (hl : 0 < l) (hm : 0 < m) : l ∣ l * m / Nat.gcd l m ∧ m ∣ l * m / Nat.gcd l m ∧ 0 < l * m / Nat.gcd l m ∧ l * m / Nat.gcd l m ≤ l * m := by
  have e : l * m / Nat.gcd l m = Nat.lcm l m := rfl
  rw [e]
  exact ⟨Nat.dvd_lcm_left l m, Nat.dvd_lcm_right l m, Nat.lcm_pos hl hm, Nat.le_of_dvd (Nat.mul_pos hl hm) (Nat.lcm_dvd_mul l m)⟩
theorem kz_per (hl : 0 < l) (hm : 0 < m) : kn (kz_f D l m k) (l * m) = kn (kz_f D l m k) (l * m / Nat.gcd l m) := by
  obtain ⟨d1, d2, d3, d4⟩ := kz_lcm hl hm
  apply Int.le_antisymm
  · exact kn_sub (fun t ht => ⟨t, by omega, rfl⟩)
  · exact kn_sub (fun t _ => ⟨t % (l * m / Nat.gcd l m), Nat.mod_lt _ d3, kz_mod d1 d2⟩)
theorem kz_shift (hl : 0 < l) (hm : 0 < m) : kn (kz_f D l m (k + Nat.gcd l m)) (l * m / Nat.gcd l m) = kn (kz_f D l m k) (l * m / Nat.gcd l m) := by
  obtain ⟨d1, d2, d3, d4⟩ := kz_lcm hl hm
  obtain ⟨x, hx⟩ := kz_step (l := l) hm
  have hg : Nat.gcd l m ∣ m := Nat.gcd_dvd_right l m
  -- a place of k + g is a place of k, and the other way round
  have f1 : ∀ t, kz_f D l m k (t + l * x) = kz_f D l m (k + Nat.gcd l m) t := by
    intro t
    unfold kz_f
    rw [Nat.add_mul_mod_self_left]
    congr 1
    rw [← Nat.add_assoc, Nat.add_mod (k + t) (l * x), hx, ← Nat.add_mod]
    congr 1
    omega
  have f2 : ∀ t, kz_f D l m (k + Nat.gcd l m) (t + l * (x * (m - 1))) = kz_f D l m k t := by
    intro t
    unfold kz_f
    rw [Nat.add_mul_mod_self_left]
    congr 1
    have e1 : (l * (x * (m - 1))) % m = (Nat.gcd l m * (m - 1)) % m := by
      rw [← Nat.mul_assoc, Nat.mul_mod (l * x), hx, ← Nat.mul_mod]
    rw [show k + Nat.gcd l m + (t + l * (x * (m - 1))) = (k + t + Nat.gcd l m) + l * (x * (m - 1)) by omega, Nat.add_mod, e1, ← Nat.add_mod]
    have e2 : k + t + Nat.gcd l m + Nat.gcd l m * (m - 1) = k + t + m * Nat.gcd l m := by
      have : Nat.gcd l m * (m - 1) + Nat.gcd l m = m * Nat.gcd l m := by
        rw [← Nat.mul_succ, show (m - 1).succ = m by omega, Nat.mul_comm]
      omega
    rw [e2, Nat.add_mul_mod_self_left]
  apply Int.le_antisymm
  · refine kn_sub (fun t _ => ⟨(t + l * (x * (m - 1))) % (l * m / Nat.gcd l m), Nat.mod_lt _ d3, ?_⟩)
    rw [kz_mod d1 d2, f2]
  · refine kn_sub (fun t _ => ⟨(t + l * x) % (l * m / Nat.gcd l m), Nat.mod_lt _ d3, ?_⟩)
    rw [kz_mod d1 d2, f1]
theorem kz_res (hl : 0 < l) (hm : 0 < m) : ∀ j r : Nat, kn (kz_f D l m (r + j * Nat.gcd l m)) (l * m / Nat.gcd l m) = kn (kz_f D l m r) (l * m / Nat.gcd l m)
  | 0, r => by rw [Nat.zero_mul, Nat.add_zero]
  | j + 1, r => by rw [Nat.succ_mul, ← Nat.add_assoc, kz_shift hl hm, kz_res hl hm j r]
end
theorem kb_best_ge {f : Nat → Int} : ∀ {n i : Nat}, i < n → f i ≤ (kb_best f n).2
  | 0, i, h => absurd h (Nat.not_lt_zero i)
  | n + 1, i, h => by
    unfold kb_best
    by_cases q : i = n
    · subst q
      split
      · exact Int.le_refl _
      · omega
    · have := kb_best_ge (f := f) (n := n) (i := i) (by omega)
      split
      · show f i ≤ f n
        omega
      · exact this
theorem kb_best_per {f : Nat → Int} {g : Nat} (hg : 0 < g) (hf : ∀ k, f k = f (k % g)) : ∀ j, kb_best f (g + j) = kb_best f g
  | 0 => rfl
  | j + 1 => by
    have ih := kb_best_per hg hf j
    show (if (kb_best f (g + j)).2 < f (g + j) then (((g + j : Nat) : Int), f (g + j)) else kb_best f (g + j)) = _
    rw [ih, hf (g + j), if_neg]
    have := kb_best_ge (f := f) (n := g) (Nat.mod_lt (g + j) hg)
    omega
theorem kb_best_0 {f : Nat → Int} (hf : ∀ k, 0 ≤ f k) : ∀ {n : Nat}, 0 < n → 0 ≤ (kb_best f n).1
  | 0, h => absurd h (by omega)
  | 1, _ => by
    show 0 ≤ (if (-1 : Int) < f 0 then (((0 : Nat) : Int), f 0) else ((-1 : Int), (-1 : Int))).1
    rw [if_pos (by have := hf 0; omega)]
    exact Int.le_refl 0
  | n + 2, _ => by
    have ih := kb_best_0 hf (n := n + 1) (by omega)
    show 0 ≤ (if (kb_best f (n + 1)).2 < f (n + 1) then (((n + 1 : Nat) : Int), f (n + 1)) else kb_best f (n + 1)).1
    split
    · show (0 : Int) ≤ ((n + 1 : Nat) : Int)
      omega
    · exact ih
section
variable {M : mm_M}
/-- how far two places are apart -/
def kz_D (K S T : Nat → Int) (w : Int) (i j : Nat) : Int := ((w + ks_col K (T j) - ks_col K (S i)).natAbs : Int) + ((ks_row K (T j) - ks_row K (S i)).natAbs : Int)
theorem kz_Db {K S T : Nat → Int} (hK : mm_KV K) {w : Int} (hw : -40 ≤ w ∧ w ≤ 40) (i j : Nat) : 0 ≤ kz_D K S T w i j ∧ kz_D K S T w i j ≤ 1000 := by
  have a := ks_colb hK (T j)
  have b := ks_colb hK (S i)
  have c := ks_rowb hK (T j)
  have d := ks_rowb hK (S i)
  obtain ⟨k0, k1, -⟩ := id hK
  unfold kz_D
  omega
theorem kz_C (K S T : Nat → Int) (l m k : Nat) (w : Int) : kn_d K S T l m k w = kz_f (kz_D K S T w) l m k := rfl
theorem kn_cg {d d' : Nat → Int} : ∀ {N : Nat}, (∀ t, t < N → d t = d' t) → kn d N = kn d' N
  | 0, _ => rfl
  | N + 1, h => by unfold kn; rw [kn_cg (fun t ht => h t (by omega)), h N (by omega)]
theorem kn_a_cg {a : Int} {d d' : Nat → Int} : ∀ {N : Nat}, (∀ t, t < N → d t = d' t) → kn_a a d N = kn_a a d' N
  | 0, _ => rfl
  | N + 1, h => by unfold kn_a; rw [kn_a_cg (fun t ht => h t (by omega)), h N (by omega)]
/-- the least that the reference finds is the class's -/
theorem kz_same (h3 : kR3 M) {S T S' T' : Nat → Int} {l m k : Nat} {y v : Int} (hl : 0 < l) (hm : 0 < m) (hS : ∀ i, i < l → S' i = S i) (hT : ∀ i, i < m → T' i = T i) (hy : 0 ≤ y ∧ y ≤ 40) (hv : 0 ≤ v ∧ v ≤ 40) :
    kn_a 1000000 (kn_e (mm_rk M) S' T' l m k y v) (l * m) = kn (kn_d (M 4) S T l m k (v - y)) (l * m / Nat.gcd l m) := by
  have e : ∀ t, kn_e (mm_rk M) S' T' l m k y v t = kz_f (kz_D (M 4) S T (v - y)) l m k t := by
    intro t
    unfold kn_e kz_f kz_D
    have c : ∀ s, ks_col (mm_rk M) s = ks_col (M 4) s := fun s => h3.w (fun K => ks_col K s) (fun _ _ => rfl)
    have r : ∀ s, ks_row (mm_rk M) s = ks_row (M 4) s := fun s => h3.w (fun K => ks_row K s) (fun _ _ => rfl)
    rw [hS _ (Nat.mod_lt t hl), hT _ (Nat.mod_lt (t + k) hm), c, c, r, r, Nat.add_comm t k]
    omega
  rw [kn_a_cg (fun t _ => e t), kz_C, ← kz_per hl hm]
  exact kn_eq (fun t => (kz_Db h3.1.1 (by omega) _ _).2) (Nat.mul_pos hl hm)
end
section
variable {X : mm_X}
theorem kf_apart : kF5 X Y_X11_apart Y_X13_apart := by
  intro M hR x y u v k hx hy hu hv hk
  obtain ⟨hRf, h1, h2, h3, h4, h5, h6, h7, h8, h9, h10, h11, h12, h13, h14, h15, h16⟩ := id hR
  have c1 := c_X11_apart (X := X) hRf h3.1 hx hy hu hv hk (fun k hk => (h9 k hk).1) (fun k hk i hi => ((h9 k hk).2.2.2.2 i hi).2.2.2)
  by_cases q : (((0 ≤ x ∧ x ≤ 5) ∧ (0 ≤ y ∧ y ≤ 40) ∧ (0 ≤ u ∧ u ≤ 5) ∧ (0 ≤ v ∧ v ≤ 40)) ∧ 0 ≤ k ∧ k ≤ 99) ∧ 0 < M 216 x.toNat ∧ 0 < M 216 u.toNat
  · have hxn : x.toNat < 6 := by omega
    have hun : u.toNat < 6 := by omega
    obtain ⟨a1, a2, a3, a4, a5⟩ := h9 x.toNat hxn
    obtain ⟨b1, b2, b3, b4, b5⟩ := h9 u.toNat hun
    have q2 := q.2
    rw [a2, b2] at q2
    rw [if_pos q.1, if_pos q2] at c1
    refine mm_C.mono c1 ?_
    rintro r M1 ⟨rfl, rfl⟩
    refine ⟨_, rfl, mm_C.mono (c_X13_apart1 (X := X) hRf h3.2.1 q.1 (fun k hk => h9.ok h3 hk) q.2) ?_⟩
    rintro r2 M2 ⟨rfl, hRf2, -, t⟩
    refine ⟨?_, ?_⟩
    · rw [a2, b2]
      congr 1
      exact kz_same h3 (by omega) (by omega) (fun i hi => h9.S h3 hxn (by omega)) (fun i hi => h9.S h3 hun (by omega)) (by omega) (by omega)
    · have e : ∀ a b, ¬ (a = 226 ∨ a = 227) → M2 a b = M1 a b := fun a b z => by rw [t a (by omega) (by omega)]
      exact ⟨hRf2, h1.fr (fun a b q => e a b (by omega)), h2.fr (fun a b q => e a b (by omega)), h3.fr (fun a b q => e a b (by omega)), h4.fr (fun a b q => e a b (by omega)), h5.fr (fun a b q => e a b (by omega)), h6.fr (fun a b q => e a b (by omega)), h7.fr (fun a b q => e a b (by omega)), h8.fr (fun a b q => e a b (by omega)), h9.fr (fun a b q => e a b (by omega)), h10.fr (fun a b q => e a b (by omega)), h11.fr (fun a b q => e a b (by omega)), h12.fr (fun a b q => e a b (by omega)), h13.fr (fun a b q => e a b (by omega)), h14.fr (fun a b q => e a b (by omega)), h15.fr (fun a b q => e a b (by omega)), h16.fr (fun a b q => e a b (by omega))⟩
  · have c2 := c_X13_apart0 (X := X) hRf hx hy hu hv hk (fun k hk => h9.ok h3 hk) q
    refine kk_no c1 c2 ?_ hR
    by_cases w : ((0 ≤ x ∧ x ≤ 5) ∧ (0 ≤ y ∧ y ≤ 40) ∧ (0 ≤ u ∧ u ≤ 5) ∧ (0 ≤ v ∧ v ≤ 40)) ∧ 0 ≤ k ∧ k ≤ 99
    · rw [if_pos w, if_pos w, if_neg]
      intro z
      exact q ⟨w, by rw [(h9 x.toNat (by omega)).2.1, (h9 u.toNat (by omega)).2.1]; exact z⟩
    · rw [if_neg w, if_neg w]
theorem kf_shift : kF4 X Y_X11_shift Y_X13_shift := by
  intro M hR x y u v hx hy hu hv
  obtain ⟨hRf, h1, h2, h3, h4, h5, h6, h7, h8, h9, h10, h11, h12, h13, h14, h15, h16⟩ := id hR
  have c1 := c_X11_shift (X := X) hRf h3.1 hx hy hu hv (fun k hk => (h9 k hk).1) (fun k hk i hi => ((h9 k hk).2.2.2.2 i hi).2.2.2)
  by_cases q : ((0 ≤ x ∧ x ≤ 5) ∧ (0 ≤ y ∧ y ≤ 40) ∧ (0 ≤ u ∧ u ≤ 5) ∧ (0 ≤ v ∧ v ≤ 40)) ∧ 0 < M 216 x.toNat ∧ 0 < M 216 u.toNat
  · have hxn : x.toNat < 6 := by omega
    have hun : u.toNat < 6 := by omega
    obtain ⟨a1, a2, a3, a4, a5⟩ := h9 x.toNat hxn
    obtain ⟨b1, b2, b3, b4, b5⟩ := h9 u.toNat hun
    have q2 := q.2
    rw [a2, b2] at q2
    rw [if_pos q.1, if_pos q2] at c1
    refine mm_C.mono c1 ?_
    rintro r M1 ⟨rfl, rfl⟩
    refine ⟨_, rfl, mm_C.mono (c_X13_shift1 (X := X) hRf h3.2.1 q.1 (fun k hk => h9.ok h3 hk) q.2) ?_⟩
    rintro r2 M2 ⟨rfl, hRf2, -, t⟩
    refine ⟨?_, ?_⟩
    · rw [a2, b2]
      obtain ⟨l, hl⟩ : ∃ l, l = (M1 (121 + 3 * x.toNat) 2).toNat := ⟨_, rfl⟩
      obtain ⟨m, hm⟩ : ∃ m, m = (M1 (121 + 3 * u.toNat) 2).toNat := ⟨_, rfl⟩
      rw [← hl, ← hm]
      have ef : (fun k => kn_a 1000000 (kn_e (mm_rk M1) (kl_S M1 x.toNat) (kl_S M1 u.toNat) l m k y v) (l * m)) = (fun k => kn (kn_d (M1 4) (M1 (121 + 3 * x.toNat + 2)) (M1 (121 + 3 * u.toNat + 2)) l m k (v - y)) (l * m / Nat.gcd l m)) := by
        funext k
        exact kz_same h3 (by omega) (by omega) (fun i hi => h9.S h3 hxn (by omega)) (fun i hi => h9.S h3 hun (by omega)) (by omega) (by omega)
      rw [ef]
      obtain ⟨f, hf⟩ : ∃ f : Nat → Int, f = (fun k => kn (kn_d (M1 4) (M1 (121 + 3 * x.toNat + 2)) (M1 (121 + 3 * u.toNat + 2)) l m k (v - y)) (l * m / Nat.gcd l m)) := ⟨_, rfl⟩
      rw [← hf]
      have hg : 0 < Nat.gcd l m := Nat.gcd_pos_of_pos_left m (by omega)
      have f0 : ∀ k, 0 ≤ f k := by
        intro k
        rw [hf]
        exact kn_ge (by omega) (fun t _ => (kz_Db h3.1.1 (by omega) _ _).1)
      have fp : ∀ k, f k = f (k % Nat.gcd l m) := by
        intro k
        rw [hf]
        have := kz_res (D := kz_D (M1 4) (M1 (121 + 3 * x.toNat + 2)) (M1 (121 + 3 * u.toNat + 2)) (v - y)) (l := l) (m := m) (by omega) (by omega) (k / Nat.gcd l m) (k % Nat.gcd l m)
        rw [Nat.mul_comm (k / Nat.gcd l m), Nat.mod_add_div] at this
        exact this
      have hle : Nat.gcd l m ≤ m := Nat.le_of_dvd (by omega) (Nat.gcd_dvd_right l m)
      have e1 := kb_best_per hg fp (m - Nat.gcd l m)
      rw [show Nat.gcd l m + (m - Nat.gcd l m) = m by omega] at e1
      rw [e1]
      congr 1
      have := kb_best_0 f0 hg
      omega
    · have e : ∀ a b, ¬ (a = 226 ∨ a = 227) → M2 a b = M1 a b := fun a b z => by rw [t a (by omega) (by omega)]
      exact ⟨hRf2, h1.fr (fun a b q => e a b (by omega)), h2.fr (fun a b q => e a b (by omega)), h3.fr (fun a b q => e a b (by omega)), h4.fr (fun a b q => e a b (by omega)), h5.fr (fun a b q => e a b (by omega)), h6.fr (fun a b q => e a b (by omega)), h7.fr (fun a b q => e a b (by omega)), h8.fr (fun a b q => e a b (by omega)), h9.fr (fun a b q => e a b (by omega)), h10.fr (fun a b q => e a b (by omega)), h11.fr (fun a b q => e a b (by omega)), h12.fr (fun a b q => e a b (by omega)), h13.fr (fun a b q => e a b (by omega)), h14.fr (fun a b q => e a b (by omega)), h15.fr (fun a b q => e a b (by omega)), h16.fr (fun a b q => e a b (by omega))⟩
  · have c2 := c_X13_shift0 (X := X) hRf hx hy hu hv (fun k hk => h9.ok h3 hk) q
    refine kk_no c1 c2 ?_ hR
    by_cases w : (0 ≤ x ∧ x ≤ 5) ∧ (0 ≤ y ∧ y ≤ 40) ∧ (0 ≤ u ∧ u ≤ 5) ∧ (0 ≤ v ∧ v ≤ 40)
    · rw [if_pos w, if_pos w, if_neg]
      intro z
      exact q ⟨w, by rw [(h9 x.toNat (by omega)).2.1, (h9 u.toNat (by omega)).2.1]; exact z⟩
    · rw [if_neg w, if_neg w]
end
end
/-! FA.calls11 -/
section
/-! ===== calls side by side: the field ===== -/
theorem kd_v_cg {f g : Nat → Nat → Prop} {v w : Nat → Int} {n set : Nat} (h1 : ∀ i j, i < j → j < n → (f i j ↔ g i j)) (h2 : ∀ i, i < n → v i = w i) : kd_v f v n set = kd_v g w n set := by
  have hg : kd_good f n set ↔ kd_good g n set := by
    unfold kd_good
    constructor
    · intro h i j a b c d e; exact h i j a b c d ((h1 i j a b).mpr e)
    · intro h i j a b c d e; exact h i j a b c d ((h1 i j a b).mp e)
  by_cases q : kd_good f n set
  · rw [kd_v1 q, kd_v1 (hg.mp q)]
    unfold kd_sum
    exact ka_sum_congr (fun i hi => by rw [h2 i hi])
  · rw [kd_v0 q, kd_v0 (fun z => q (hg.mpr z))]
theorem kd_b_cg {v w : Nat → Int} : ∀ {k : Nat}, (∀ i, v i = w i) → kd_b v k = kd_b w k
  | 0, _ => rfl
  | k + 1, h => by unfold kd_b; rw [kd_b_cg h, h (k + 1)]
theorem kR13.meet {M : mm_M} (h3 : kR3 M) (h13 : kR13 M) {i j : Nat} (hi : (i : Int) < M 144 1) (hj : (j : Int) < M 144 1) : kd_mC M i j ↔ kd_mR M i j := by
  obtain ⟨g1, g2, g3, g4, g5, g6⟩ := h13
  obtain ⟨a1, a2, a3, a4⟩ := g6 i hi
  obtain ⟨b1, b2, b3, b4⟩ := g6 j hj
  have c1 := g2 i hi
  have c2 := g2 j hj
  unfold kd_mC kd_mR
  rw [a1, a2, b1, b2, kz_same (S := M (148 + 3 * i + 2)) (T := M (148 + 3 * j + 2)) h3 (by omega) (by omega) (fun t ht => (a4 t (by omega)).symm) (fun t ht => (b4 t (by omega)).symm) (by omega) (by omega)]
section
variable {X : mm_X}
theorem kf_field : kF0 X Y_X11_field Y_X13_field := by
  intro M hR
  obtain ⟨hRf, h1, h2, h3, h4, h5, h6, h7, h8, h9, h10, h11, h12, h13, h14, h15, h16⟩ := id hR
  have hc := h13.1.1
  obtain ⟨n, hn⟩ : ∃ n, n = (M 144 1).toNat := ⟨_, rfl⟩
  have hni : M 144 1 = (n : Int) := by omega
  refine mm_C.mono (c_X11_field (X := X) hRf h13.1 hni) ?_
  rintro r M1 ⟨rfl, hRf1, hM1⟩
  refine ⟨_, rfl, ?_⟩
  obtain ⟨S, hS⟩ : ∃ S, S = (kd_b (kd_v (kd_mC M) (fun i => M (148 + 3 * i) 3) n) (2 ^ n - 1)).2 := ⟨_, rfl⟩
  rw [← hS] at hM1
  have e1 : ∀ a b, ¬ (a = 144 ∧ b = 2) → M1 a b = M a b := fun a b y => by rw [hM1, mm_up_n y]
  have row : ∀ a, a ≠ 144 → M1 a = M a := fun a y => funext fun b => e1 a b (by omega)
  have rk1 : mm_rk M1 = mm_rk M := mm_rk.fr (fun a b y => e1 a b (by omega))
  have mR : kd_mR M1 = kd_mR M := kd_mR_congr (row 216 (by decide)) (row 217 (by decide)) (row 219 (by decide)) (row 228 (by decide)) rk1
  have hF1 : mm_RF M1 (kd_mR M) := by
    have := h13.2.2.1
    unfold mm_RF kl_ok kl_S at this ⊢
    rw [rk1, row 216 (by decide), row 217 (by decide), row 218 (by decide), row 219 (by decide), row 228 (by decide), row 229 (by decide), row 183 (by decide)]
    exact this
  have hn1 : M1 183 88 = (n : Int) := by rw [row 183 (by decide), h13.2.2.2.1]; exact hni
  refine mm_C.mono (c_X13_field (X := X) (M := M1) hRf1 hF1 hn1) ?_
  rintro r2 M2 ⟨rfl, hRf2, hM2⟩
  have ev : ∀ set, kd_v (kd_mR M) (fun i => M1 218 (6 + i)) n set = kd_v (kd_mC M) (fun i => M (148 + 3 * i) 3) n set := by
    intro set
    refine kd_v_cg ?_ ?_
    · intro i j hij hj
      exact (h13.meet h3 (by omega) (by omega)).symm
    · intro i hi
      show M1 218 (6 + i) = M (148 + 3 * i) 3
      rw [row 218 (by decide)]
      exact (h13.2.2.2.2.2 i (by omega)).2.2.1
  rw [kd_b_cg ev] at hM2 ⊢
  rw [← hS] at hM2
  refine ⟨rfl, ?_⟩
  have e : ∀ a b, ¬ ((a = 144 ∧ b = 2) ∨ (a = 183 ∧ b = 89)) → M2 a b = M a b := by
    intro a b y; rw [hM2, mm_up_n (by omega), e1 a b (by omega)]
  have k13 : kR13 M2 := by
    obtain ⟨g1, g2, g3, g4, g5, g6⟩ := id h13
    have r2 : ∀ a, a ≠ 144 → a ≠ 183 → M2 a = M a := fun a y y2 => funext fun b => e a b (by omega)
    have rk2 : mm_rk M2 = mm_rk M := mm_rk.fr (fun a b y => e a b (by omega))
    have mC2 : kd_mC M2 = kd_mC M ∨ True := Or.inr trivial
    have mR2 : kd_mR M2 = kd_mR M := kd_mR_congr (r2 216 (by decide) (by decide)) (r2 217 (by decide) (by decide)) (r2 219 (by decide) (by decide)) (r2 228 (by decide) (by decide)) rk2
    refine ⟨mm_CF_cg g1 (fun a b y => e a b (by omega)) ?_, ?_, ?_, ?_, ?_, ?_⟩
    · intro i j hi hj
      unfold kd_mC
      rw [r2 4 (by decide) (by decide), r2 146 (by decide) (by decide), r2 (148 + 3 * i) (by omega) (by omega), r2 (148 + 3 * i + 2) (by omega) (by omega), r2 (148 + 3 * j) (by omega) (by omega), r2 (148 + 3 * j + 2) (by omega) (by omega)]
    · intro i hi
      rw [e 144 1 (by omega)] at hi
      have := g2 i hi
      rw [r2 4 (by decide) (by decide), r2 146 (by decide) (by decide), r2 (148 + 3 * i) (by omega) (by omega), r2 (148 + 3 * i + 2) (by omega) (by omega)]
      exact this
    · rw [mR2]
      unfold mm_RF kl_ok kl_S at g3 ⊢
      rw [rk2, r2 216 (by decide) (by decide), r2 217 (by decide) (by decide), r2 218 (by decide) (by decide), r2 219 (by decide) (by decide), r2 228 (by decide) (by decide), r2 229 (by decide) (by decide), e 183 88 (by omega)]
      exact g3
    · rw [e 183 88 (by omega), e 144 1 (by omega)]; exact g4
    · rw [hM2, mm_up_s, mm_up_row (by decide), hM1, mm_up_s]
    · intro i hi
      rw [e 144 1 (by omega)] at hi
      have := g6 i hi
      unfold kl_S at this ⊢
      rw [rk2, r2 228 (by decide) (by decide), r2 146 (by decide) (by decide), r2 216 (by decide) (by decide), r2 217 (by decide) (by decide), r2 218 (by decide) (by decide), r2 219 (by decide) (by decide), r2 (148 + 3 * i) (by omega) (by omega), r2 (148 + 3 * i + 2) (by omega) (by omega)]
      exact this
  exact ⟨hRf2, h1.fr (fun a b q => e a b (by omega)), h2.fr (fun a b q => e a b (by omega)), h3.fr (fun a b q => e a b (by omega)), h4.fr (fun a b q => e a b (by omega)), h5.fr (fun a b q => e a b (by omega)), h6.fr (fun a b q => e a b (by omega)), h7.fr (fun a b q => e a b (by omega)), h8.fr (fun a b q => e a b (by omega)), h9.fr (fun a b q => e a b (by omega)), h10.fr (fun a b q => e a b (by omega)), h11.fr (fun a b q => e a b (by omega)), h12.fr (fun a b q => e a b (by omega)), k13, h14.fr (fun a b q => e a b (by omega)), h15.fr (fun a b q => e a b (by omega)), h16.fr (fun a b q => e a b (by omega))⟩
theorem kf_stand : kF2 X Y_X11_stand Y_X13_stand := by
  intro M hR x y hx hy
  obtain ⟨hRf, h1, h2, h3, h4, h5, h6, h7, h8, h9, h10, h11, h12, h13, h14, h15, h16⟩ := id hR
  have hc := h13.1.1
  obtain ⟨n, hn⟩ : ∃ n, n = (M 144 1).toNat := ⟨_, rfl⟩
  have hni : M 144 1 = (n : Int) := by omega
  by_cases q : ((0 ≤ x ∧ x ≤ 40) ∧ 0 ≤ y ∧ y ≤ 5) ∧ 0 < M (121 + 3 * y.toNat) 2 ∧ M 144 1 < 8
  · obtain ⟨⟨qx, qy⟩, qp, q8⟩ := id q
    have hk : y.toNat < 6 := by omega
    obtain ⟨k, hkk⟩ : ∃ k, k = y.toNat := ⟨_, rfl⟩
    rw [← hkk] at qp hk
    obtain ⟨a1, a2, a3, a4, a5⟩ := h9 k hk
    obtain ⟨w1, w2, w3⟩ := a4 qp
    have c1 := c_X11_stand1 (X := X) (n := n) hRf h3.1 h13.1 h13.2.1 hni (by omega) qx qy (by rw [← hkk]; omega) (by rw [← hkk]; exact w2) (by rw [← hkk]; exact fun i hi => (a5 i hi).2.2.2)
    rw [← hkk] at c1
    refine mm_C.mono c1 ?_
    rintro r M1 ⟨rfl, hRf1, -, p1, p2, p3, p4, p5, p6, p7, p8, p9, p10, p11⟩
    refine ⟨_, rfl, ?_⟩
    have e1 : ∀ a b, ¬ ((a = 144 ∧ 1 ≤ b ∧ b ≤ 2) ∨ (a = 146 ∧ b = n) ∨ a = 147 ∨ (148 + 3 * n ≤ a ∧ a ≤ 148 + 3 * n + 2)) → M1 a b = M a b := by
      intro a b z
      by_cases y1 : a = 144
      · subst y1; exact p2 b (by omega) (by omega)
      · by_cases y2 : a = 146
        · subst y2; exact p5 b (by omega)
        · rw [p1 a y1 y2 (by omega) (by omega) (by omega) (by omega)]
    have row : ∀ a, ¬ (144 ≤ a ∧ a ≤ 171) → M1 a = M a := fun a z => funext fun b => e1 a b (by omega)
    have rk1 : mm_rk M1 = mm_rk M := mm_rk.fr (fun a b z => e1 a b (by omega))
    have k3 : kR3 M1 := h3.fr (fun a b z => e1 a b (by omega))
    have mR1 : kd_mR M1 = kd_mR M := kd_mR_congr (row 216 (by omega)) (row 217 (by omega)) (row 219 (by omega)) (row 228 (by omega)) rk1
    have hF1 : mm_RF M1 (kd_mR M1) := by
      have := h13.2.2.1
      rw [mR1]
      unfold mm_RF kl_ok kl_S at this ⊢
      rw [rk1, row 216 (by omega), row 217 (by omega), row 218 (by omega), row 219 (by omega), row 228 (by omega), row 229 (by omega), row 183 (by omega)]
      exact this
    have ok1 : kl_ok M1 k := kl_ok_congr (row 216 (by omega)) (row 217 (by omega)) (row 219 (by omega)) rk1 (h9.ok h3 hk)
    have c2 := c_X13_stand1 (X := X) (M := M1) (n := n) (x := x) (y := y) hRf1 k3.2.1 hF1 (by rw [row 183 (by omega), h13.2.2.2.1]; exact hni) (by omega) qx qy (by rw [← hkk]; exact ok1) (by rw [← hkk, row 216 (by omega), a2]; exact qp) (by rw [← hkk, row 218 (by omega), w1]; exact w2)
    rw [← hkk] at c2
    refine mm_C.mono c2 ?_
    rintro r2 M2 ⟨rfl, hRf2, -, t1, t2, t3, t4, t5, t6, t7, t8, t9, t10, t11, t12, t13⟩
    refine ⟨rfl, ?_⟩
    have e2 : ∀ a b, ¬ ((a = 183 ∧ 88 ≤ b ∧ b ≤ 89) ∨ (216 ≤ a ∧ a ≤ 218 ∧ b = 6 + n) ∨ (a = 219 ∧ 100 * (6 + n) ≤ b ∧ b < 100 * (6 + n) + 100) ∨ (226 ≤ a ∧ a ≤ 227) ∨ (a = 228 ∧ b = n) ∨ a = 229) → M2 a b = M1 a b := by
      intro a b z
      by_cases y1 : a = 183
      · subst y1; exact t2 b (by omega) (by omega)
      by_cases y2 : a = 216
      · subst y2; exact (t5 b (by omega)).1
      by_cases y3 : a = 217
      · subst y3; exact (t5 b (by omega)).2.1
      by_cases y4 : a = 218
      · subst y4; exact (t5 b (by omega)).2.2
      by_cases y5 : a = 219
      · subst y5; exact t9 b (by omega)
      by_cases y6 : a = 228
      · subst y6; exact t11 b (by omega)
      rw [t1 a y1 y2 y3 y4 y5 (by omega) (by omega) y6 (by omega)]
    have e : ∀ a b, ¬ ((a = 144 ∧ 1 ≤ b ∧ b ≤ 2) ∨ a = 146 ∨ a = 147 ∨ (148 ≤ a ∧ a ≤ 171) ∨ (a = 183 ∧ 88 ≤ b ∧ b ≤ 89) ∨ (216 ≤ a ∧ a ≤ 218 ∧ 6 ≤ b) ∨ (a = 219 ∧ 600 ≤ b) ∨ (226 ≤ a ∧ a ≤ 229)) → M2 a b = M a b := by
      intro a b z; rw [e2 a b (by omega), e1 a b (by omega)]
    have lo : ∀ a, a < 183 → M2 a = M1 a := fun a ha => funext fun b => e2 a b (by omega)
    have rk2 : mm_rk M2 = mm_rk M := mm_rk.fr (fun a b z => e a b (by omega))
    have m4 : M2 4 = M 4 := funext fun b => e 4 b (by omega)
    have c144 : M2 144 1 = (n : Int) + 1 := by rw [lo 144 (by decide)]; exact p3
    have runS : ∀ i, kf_run (M 4) (M 217 k) (fun i => M 219 (100 * k + i)) i = kf_run (M 4) (M2 217 (6 + n)) (fun i => M2 219 (100 * (6 + n) + i)) i ∨ 100 < i := by
      intro i
      by_cases hi : 100 < i
      · exact Or.inr hi
      · left
        rw [t7, row 217 (by omega)]
        refine kf_run_cg ?_
        intro j hj
        rw [t10 j (by omega), row 219 (by omega)]
    have k13 : kR13 M2 := by
      obtain ⟨g1, g2, g3, g4, g5, g6⟩ := id h13
      refine ⟨mm_CF_cg p11 (fun a b z => by rw [lo a (by omega)]) ?_, ?_, t13, by rw [t3, c144], by rw [t4, lo 144 (by decide), p4], ?_⟩
      · intro i j hi hj
        rw [p3] at hi hj
        unfold kd_mC
        rw [lo 4 (by decide), lo 146 (by decide), lo (148 + 3 * i) (by omega), lo (148 + 3 * i + 2) (by omega), lo (148 + 3 * j) (by omega), lo (148 + 3 * j + 2) (by omega)]
      · intro i hi
        rw [c144] at hi
        rw [m4, lo 146 (by decide), lo (148 + 3 * i) (by omega), lo (148 + 3 * i + 2) (by omega)]
        by_cases z : i = n
        · rw [z, p6, p7]
          refine ⟨by omega, qx, ?_⟩
          intro j hj
          rw [p10 j hj]
          exact (a5 j hj).2.2.2
        · have := g2 i (by omega)
          rw [p5 i z, p1 (148 + 3 * i) (by omega) (by omega) (by omega) (by omega) (by omega) (by omega), p1 (148 + 3 * i + 2) (by omega) (by omega) (by omega) (by omega) (by omega) (by omega)]
          exact this
      · intro i hi
        rw [c144] at hi
        rw [lo 146 (by decide), lo (148 + 3 * i) (by omega), lo (148 + 3 * i + 2) (by omega)]
        by_cases z : i = n
        · rw [z, t12, t6, t8, p6, p7, p8, row 216 (by omega), row 218 (by omega), a2, w1]
          refine ⟨rfl, rfl, rfl, ?_⟩
          intro j hj
          rw [p10 j hj, (a5 j hj).2.2.1]
          unfold kl_S
          rw [rk2, h3.run]
          rcases runS j with u | u
          · exact u
          · omega
        · have hi' : (i : Int) < M 144 1 := by omega
          obtain ⟨u1, u2, u3, u4⟩ := g6 i hi'
          have c3 := g2 i hi'
          rw [e2 228 i (by omega), e1 228 i (by omega), p5 i z, e2 216 (6 + i) (by omega), e1 216 _ (by omega), e2 218 (6 + i) (by omega), e1 218 _ (by omega), p1 (148 + 3 * i) (by omega) (by omega) (by omega) (by omega) (by omega) (by omega), p1 (148 + 3 * i + 2) (by omega) (by omega) (by omega) (by omega) (by omega) (by omega)]
          refine ⟨u1, u2, u3, ?_⟩
          intro j hj
          rw [u4 j hj]
          unfold kl_S
          rw [rk2, e2 217 (6 + i) (by omega), e1 217 _ (by omega)]
          exact kf_run_cg (fun j' hj' => by rw [e2 219 _ (by omega), e1 219 _ (by omega)])
    exact ⟨hRf2, h1.fr (fun a b q => e a b (by omega)), h2.fr (fun a b q => e a b (by omega)), h3.fr (fun a b q => e a b (by omega)), h4.fr (fun a b q => e a b (by omega)), h5.fr (fun a b q => e a b (by omega)), h6.fr (fun a b q => e a b (by omega)), h7.fr (fun a b q => e a b (by omega)), h8.fr (fun a b q => e a b (by omega)), h9.fr (fun a b q => e a b (by omega)), h10.fr (fun a b q => e a b (by omega)), h11.fr (fun a b q => e a b (by omega)), h12.fr (fun a b q => e a b (by omega)), k13, h14.fr (fun a b q => e a b (by omega)), h15.fr (fun a b q => e a b (by omega)), h16.fr (fun a b q => e a b (by omega))⟩
  · have c1 := c_X11_stand0 (X := X) hRf hx hy hc (fun k hk => (h9 k hk).1) q
    have q' : ¬ (((0 ≤ x ∧ x ≤ 40) ∧ 0 ≤ y ∧ y ≤ 5) ∧ 0 < M 216 y.toNat ∧ M 183 88 < 8) := by
      intro z
      rw [h13.2.2.2.1, (h9 y.toNat (by omega)).2.1] at z
      exact q z
    have c2 := c_X13_stand0 (X := X) hRf hx hy (by rw [h13.2.2.2.1]; exact hc) (fun k hk => h9.ok h3 hk) q'
    refine kk_no c1 c2 ?_ hR
    by_cases w : (0 ≤ x ∧ x ≤ 40) ∧ 0 ≤ y ∧ y ≤ 5
    · rw [if_pos w, if_pos w, (h9 y.toNat (by omega)).2.1]
    · rw [if_neg w, if_neg w]
end
end
/-! G0.karp -/
section
/-! ===== walks and loops of a graph: the greatest mean ===== -/
theorem gz_pig : ∀ (N : Nat) (f : Nat → Nat), (∀ i, i ≤ N → f i < N) → ∃ i j, i < j ∧ j ≤ N ∧ f i = f j
  | 0, f, h => absurd (h 0 (Nat.le_refl 0)) (Nat.not_lt_zero _)
  | N + 1, f, h => by
    by_cases q : ∃ i, i < N + 1 ∧ f i = f (N + 1)
    · obtain ⟨i, hi, e⟩ := q
      exact ⟨i, N + 1, hi, Nat.le_refl _, e⟩
    · have hne : ∀ i, i < N + 1 → f i ≠ f (N + 1) := fun i hi e => q ⟨i, hi, e⟩
      have hl := h (N + 1) (Nat.le_refl _)
      obtain ⟨i, j, hij, hj, e⟩ := gz_pig N (fun i => if f i < f (N + 1) then f i else f i - 1) (by
        intro i hi
        have h1 := hne i (by omega)
        have h2 := h i (by omega)
        show (if f i < f (N + 1) then f i else f i - 1) < N
        split <;> omega)
      refine ⟨i, j, hij, by omega, ?_⟩
      have h1 := hne i (by omega)
      have h2 := hne j (by omega)
      have e' : (if f i < f (N + 1) then f i else f i - 1) = (if f j < f (N + 1) then f j else f j - 1) := e
      split at e' <;> split at e' <;> omega
theorem gz_max {P : Int → Prop} {B : Int} (hb : ∀ x, P x → x ≤ B) : ∀ (k : Nat) (x : Int), P x → B - x ≤ k → ∃ y, P y ∧ ∀ z, P z → z ≤ y
  | 0, x, hx, hk => ⟨x, hx, fun z hz => by have := hb z hz; omega⟩
  | k + 1, x, hx, hk => by
    by_cases q : ∃ y, P y ∧ x < y
    · obtain ⟨y, hy, hxy⟩ := q
      exact gz_max hb k y hy (by omega)
    · exact ⟨x, hx, fun z hz => by
        by_cases w : z ≤ x
        · exact w
        · exact absurd ⟨z, hz, by omega⟩ q⟩
theorem gz_max' {P : Int → Prop} {B : Int} (hb : ∀ x, P x → x ≤ B) (h : ∃ x, P x) : ∃ y, P y ∧ ∀ z, P z → z ≤ y := by
  obtain ⟨x, hx⟩ := h
  exact gz_max hb (B - x).toNat x hx (by omega)
/-- a walk of n edges: places p, what each gives g -/
def gW (e : Nat → Nat → Int → Prop) (p : Nat → Nat) (g : Nat → Int) (n : Nat) : Prop := ∀ j, j < n → e (p j) (p (j + 1)) (g j)
/-- a loop -/
def gL (e : Nat → Nat → Int → Prop) (p : Nat → Nat) (g : Nat → Int) (n : Nat) : Prop := gW e p g n ∧ 1 ≤ n ∧ p n = p 0
section
variable {e : Nat → Nat → Int → Prop} {N : Nat} {p q : Nat → Nat} {f g : Nat → Int} {m n : Nat}
theorem ka_sum_add (f : Nat → Int) (a : Nat) : ∀ b, ka_sum f (a + b) = ka_sum f a + ka_sum (fun t => f (a + t)) b
  | 0 => by show ka_sum f a = ka_sum f a + 0; omega
  | b + 1 => by
    show ka_sum f (a + b) + f (a + b) = ka_sum f a + (ka_sum (fun t => f (a + t)) b + f (a + b))
    rw [ka_sum_add f a b]; omega
theorem ka_sum_lin (s c : Int) (g : Nat → Int) : ∀ n, ka_sum (fun t => c * g t - s) n = c * ka_sum g n - s * n
  | 0 => by show (0 : Int) = c * 0 - s * 0; omega
  | n + 1 => by
    show ka_sum (fun t => c * g t - s) n + (c * g n - s) = c * (ka_sum g n + g n) - s * ((n + 1 : Nat) : Int)
    rw [ka_sum_lin s c g n, Int.mul_add, show ((n + 1 : Nat) : Int) = (n : Int) + 1 by omega, Int.mul_add]; omega
/-- the part of a walk from i on -/
theorem gW.from (h : gW e p g n) {i k : Nat} (hk : i + k ≤ n) : gW e (fun t => p (i + t)) (fun t => g (i + t)) k := by
  intro j hj
  have := h (i + j) (by omega)
  show e (p (i + j)) (p (i + (j + 1))) (g (i + j))
  exact this
theorem gW.to (h : gW e p g n) {k : Nat} (hk : k ≤ n) : gW e p g k := fun j hj => h j (by omega)
/-- one walk behind another -/
def gJp (p q : Nat → Nat) (n : Nat) : Nat → Nat := fun t => if t ≤ n then p t else q (t - n)
def gJg (f g : Nat → Int) (n : Nat) : Nat → Int := fun t => if t < n then f t else g (t - n)
theorem gW.app (h1 : gW e p f n) (h2 : gW e q g m) (hj : p n = q 0) : gW e (gJp p q n) (gJg f g n) (n + m) := by
  intro j hj'
  unfold gJp gJg
  by_cases c : j < n
  · rw [if_pos (by omega), if_pos (by omega), if_pos c]
    exact h1 j c
  · rw [if_neg (show ¬ j + 1 ≤ n by omega), if_neg c]
    have := h2 (j - n) (by omega)
    by_cases c2 : j ≤ n
    · have ej : j = n := by omega
      subst ej
      rw [if_pos c2, hj]
      rw [Nat.sub_self] at this ⊢
      rw [show j + 1 - j = 0 + 1 by omega]
      exact this
    · rw [if_neg c2, show j + 1 - n = j - n + 1 by omega]
      exact this
theorem gJg_sum (f g : Nat → Int) (n m : Nat) : ka_sum (gJg f g n) (n + m) = ka_sum f n + ka_sum g m := by
  rw [ka_sum_add]
  congr 1
  · exact ka_sum_congr (fun i hi => by unfold gJg; rw [if_pos hi])
  · exact ka_sum_congr (fun i _ => by unfold gJg; rw [if_neg (by omega), Nat.add_sub_cancel_left])
theorem gJp_end (p q : Nat → Nat) (n m : Nat) (hj : p n = q 0) : gJp p q n (n + m) = q m := by
  unfold gJp
  by_cases c : m = 0
  · subst c; rw [if_pos (by omega), Nat.add_zero, hj]
  · rw [if_neg (by omega), Nat.add_sub_cancel_left]
theorem gJp_0 (p q : Nat → Nat) (n : Nat) : gJp p q n 0 = p 0 := by unfold gJp; rw [if_pos (by omega)]
/-- a walk that comes twice to a place: a loop, and a shorter walk -/
theorem gW.cut (h : gW e p g n) {i j : Nat} (hij : i < j) (hj : j ≤ n) (hp : p i = p j) :
    gL e (fun t => p (i + t)) (fun t => g (i + t)) (j - i) ∧ ∃ q f, gW e q f (n - (j - i)) ∧ q 0 = p 0 ∧ q (n - (j - i)) = p n ∧ ka_sum g n = ka_sum f (n - (j - i)) + ka_sum (fun t => g (i + t)) (j - i) := by
  refine ⟨⟨h.from (by omega), by omega, ?_⟩, gJp p (fun t => p (j + t)) i, gJg g (fun t => g (j + t)) i, ?_, ?_, ?_, ?_⟩
  · show p (i + (j - i)) = p (i + 0)
    rw [show i + (j - i) = j by omega, Nat.add_zero, hp]
  · have := (h.to (k := i) (by omega)).app (h.from (i := j) (k := n - j) (by omega)) (show p i = p (j + 0) by rw [Nat.add_zero]; exact hp)
    rw [show i + (n - j) = n - (j - i) by omega] at this
    exact this
  · exact gJp_0 _ _ _
  · rw [show n - (j - i) = i + (n - j) by omega, gJp_end _ _ _ _ (show p i = p (j + 0) by rw [Nat.add_zero]; exact hp), show j + (n - j) = n by omega]
  · rw [show n - (j - i) = i + (n - j) by omega, gJg_sum]
    have e1 := ka_sum_add g i (j - i)
    have e2 := ka_sum_add g j (n - j)
    rw [show i + (j - i) = j by omega] at e1
    rw [show j + (n - j) = n by omega] at e2
    omega
/-- no loop gives more than s / c in the mean -/
def gB (e : Nat → Nat → Int → Prop) (s c : Int) : Prop := ∀ p g n, gL e p g n → c * ka_sum g n ≤ s * n
theorem gB_of (hN : ∀ u v w, e u v w → u < N ∧ v < N) {s c : Int} (h : ∀ p g n, n ≤ N → gL e p g n → c * ka_sum g n ≤ s * n) : gB e s c := by
  have key : ∀ k p g n, n ≤ k → gL e p g n → c * ka_sum g n ≤ s * n := by
    intro k
    induction k with
    | zero => intro p g n hn hL; exact absurd hL.2.1 (by omega)
    | succ k ih =>
      intro p g n hn hL
      by_cases c1 : n ≤ N
      · exact h p g n c1 hL
      · obtain ⟨i, j, hij, hj, hp⟩ := gz_pig N p (fun i hi => by
          have := hL.1 i (by omega)
          exact (hN _ _ _ this).1)
        obtain ⟨l1, q, f, w1, w2, w3, w4⟩ := hL.1.cut hij (by omega) hp
        have a := ih _ _ (j - i) (by omega) l1
        have b := ih q f (n - (j - i)) (by omega) ⟨w1, by omega, by rw [w3, w2]; exact hL.2.2⟩
        rw [w4, Int.mul_add]
        have e1 : s * (n : Int) = s * ((n - (j - i) : Nat) : Int) + s * ((j - i : Nat) : Int) := by
          rw [← Int.mul_add]; congr 1; omega
        omega
  exact fun p g n hL => key n p g n (Nat.le_refl n) hL
/-- if there is a loop, there is one with the greatest mean, of at most N edges -/
theorem gB_ex (hN : ∀ u v w, e u v w → u < N ∧ v < N) {B : Int} (hB : ∀ u v w, e u v w → -B ≤ w ∧ w ≤ B) (hx : ∃ p g n, gL e p g n) : ∃ p g n, gL e p g n ∧ n ≤ N ∧ gB e (ka_sum g n) n := by
  have hb : ∀ p g n, gW e p g n → ka_sum g n ≤ B * n := fun p g n h => (ka_sumb (f := g) (B := B) (fun i hi => hB _ _ _ (h i hi))).2
  -- the best of at most k edges
  have key : ∀ k, (∃ p g n, n ≤ k ∧ gL e p g n) → ∃ p g n, gL e p g n ∧ n ≤ k ∧ ∀ p' g' n', n' ≤ k → gL e p' g' n' → (n : Int) * ka_sum g' n' ≤ ka_sum g n * n' := by
    intro k
    induction k with
    | zero =>
      rintro ⟨p, g, n, hn, hL⟩
      exact absurd hL.2.1 (by omega)
    | succ k ih =>
      rintro ⟨p0, g0, n0, hn0, hL0⟩
      by_cases c1 : ∃ p g, gL e p g (k + 1)
      · obtain ⟨x, ⟨p1, g1, hx, hL1⟩, hmax⟩ := gz_max' (P := fun x => ∃ p g, ka_sum g (k + 1) = x ∧ gL e p g (k + 1)) (B := B * ((k + 1 : Nat) : Int)) (by
          rintro x ⟨p, g, rfl, hL⟩
          exact hb p g (k + 1) hL.1) (by
          obtain ⟨p, g, hL⟩ := c1
          exact ⟨_, p, g, rfl, hL⟩)
        by_cases c2 : ∃ p g n, n ≤ k ∧ gL e p g n
        · obtain ⟨p2, g2, n2, hL2, hn2, hm2⟩ := ih c2
          by_cases c3 : (n2 : Int) * x ≤ ka_sum g2 n2 * ((k + 1 : Nat) : Int)
          · refine ⟨p2, g2, n2, hL2, by omega, ?_⟩
            intro p' g' n' hn' hL'
            by_cases c4 : n' ≤ k
            · exact hm2 p' g' n' c4 hL'
            · have e' : n' = k + 1 := by omega
              subst e'
              have := hmax _ ⟨p', g', rfl, hL'⟩
              exact Int.le_trans (Int.mul_le_mul_of_nonneg_left this (by omega)) c3
          · refine ⟨p1, g1, k + 1, hL1, Nat.le_refl _, ?_⟩
            intro p' g' n' hn' hL'
            rw [hx]
            by_cases c4 : n' ≤ k
            · have a := hm2 p' g' n' c4 hL'
              have hpos : (0 : Int) < n2 := by have := hL2.2.1; omega
              -- (k+1) s' <= x n', out of n2 s' <= s2 n' and s2 (k+1) < n2 x
              have c3' : ka_sum g2 n2 * ((k + 1 : Nat) : Int) ≤ (n2 : Int) * x := by omega
              have t1 : (n2 : Int) * (((k + 1 : Nat) : Int) * ka_sum g' n') ≤ (n2 : Int) * (x * n') := by
                have u1 := Int.mul_le_mul_of_nonneg_left a (show (0 : Int) ≤ ((k + 1 : Nat) : Int) by omega)
                have u2 := Int.mul_le_mul_of_nonneg_right c3' (show (0 : Int) ≤ (n' : Int) by omega)
                have r1 : ((k + 1 : Nat) : Int) * ((n2 : Int) * ka_sum g' n') = (n2 : Int) * (((k + 1 : Nat) : Int) * ka_sum g' n') := by rw [← Int.mul_assoc, ← Int.mul_assoc, Int.mul_comm ((k + 1 : Nat) : Int) (n2 : Int)]
                have r2 : ((k + 1 : Nat) : Int) * (ka_sum g2 n2 * n') = ka_sum g2 n2 * ((k + 1 : Nat) : Int) * n' := by rw [← Int.mul_assoc, Int.mul_comm ((k + 1 : Nat) : Int)]
                have r3 : (n2 : Int) * x * n' = (n2 : Int) * (x * n') := Int.mul_assoc _ _ _
                omega
              exact Int.le_of_mul_le_mul_left t1 hpos
            · have e' : n' = k + 1 := by omega
              subst e'
              have := hmax _ ⟨p', g', rfl, hL'⟩
              rw [Int.mul_comm x]
              exact Int.mul_le_mul_of_nonneg_left this (by omega)
        · refine ⟨p1, g1, k + 1, hL1, Nat.le_refl _, ?_⟩
          intro p' g' n' hn' hL'
          rw [hx]
          by_cases c4 : n' ≤ k
          · exact absurd ⟨p', g', n', c4, hL'⟩ c2
          · have e' : n' = k + 1 := by omega
            subst e'
            have := hmax _ ⟨p', g', rfl, hL'⟩
            rw [Int.mul_comm x]
            exact Int.mul_le_mul_of_nonneg_left this (by omega)
      · have c2 : ∃ p g n, n ≤ k ∧ gL e p g n := by
          by_cases c4 : n0 ≤ k
          · exact ⟨p0, g0, n0, c4, hL0⟩
          · have e' : n0 = k + 1 := by omega
            subst e'
            exact absurd ⟨p0, g0, hL0⟩ c1
        obtain ⟨p2, g2, n2, hL2, hn2, hm2⟩ := ih c2
        refine ⟨p2, g2, n2, hL2, by omega, ?_⟩
        intro p' g' n' hn' hL'
        by_cases c4 : n' ≤ k
        · exact hm2 p' g' n' c4 hL'
        · have e' : n' = k + 1 := by omega
          subst e'
          exact absurd ⟨p', g', hL'⟩ c1
  -- some loop has at most N edges
  have small : ∃ p g n, n ≤ N ∧ gL e p g n := by
    obtain ⟨p, g, n, hL⟩ := hx
    by_cases c1 : n ≤ N
    · exact ⟨p, g, n, c1, hL⟩
    · obtain ⟨i, j, hij, hj, hp⟩ := gz_pig N p (fun i hi => (hN _ _ _ (hL.1 i (by omega))).1)
      exact ⟨_, _, j - i, by omega, (hL.1.cut hij (by omega) hp).1⟩
  obtain ⟨p, g, n, hL, hn, hm⟩ := key N small
  exact ⟨p, g, n, hL, hn, gB_of hN (fun p' g' n' hn' hL' => hm p' g' n' hn' hL')⟩
end
end
/-! G1.karp2 -/
section
/-! ===== Karp's theorem ===== -/
section
variable {e : Nat → Nat → Int → Prop} {N : Nat} {p q : Nat → Nat} {f g : Nat → Int} {m n : Nat}
/-- what a walk gives above s / c -/
def gS (s c : Int) (g : Nat → Int) (n : Nat) : Int := c * ka_sum g n - s * n
theorem gS_add (s c : Int) (g : Nat → Int) (a b : Nat) : gS s c g (a + b) = gS s c g a + gS s c (fun t => g (a + t)) b := by
  unfold gS
  rw [ka_sum_add, Int.mul_add, show ((a + b : Nat) : Int) = (a : Int) + b by omega, Int.mul_add]
  omega
theorem gS_app (s c : Int) (f g : Nat → Int) (n m : Nat) : gS s c (gJg f g n) (n + m) = gS s c f n + gS s c g m := by
  unfold gS
  rw [gJg_sum, Int.mul_add, show ((n + m : Nat) : Int) = (n : Int) + m by omega, Int.mul_add]
  omega
/-- a walk of less than N edges that gives no less -/
theorem gB.short (hN : ∀ u v w, e u v w → u < N ∧ v < N) {s c : Int} (hb : gB e s c) : ∀ (k : Nat) (p : Nat → Nat) (g : Nat → Int) (n : Nat), n ≤ k → gW e p g n → p n < N → ∃ q f m, gW e q f m ∧ q m = p n ∧ m < N ∧ gS s c g n ≤ gS s c f m := by
  intro k
  induction k with
  | zero =>
    intro p g n hn hW hp
    exact ⟨p, g, n, hW, rfl, by omega, Int.le_refl _⟩
  | succ k ih =>
    intro p g n hn hW hp
    by_cases c1 : n < N
    · exact ⟨p, g, n, hW, rfl, c1, Int.le_refl _⟩
    · obtain ⟨i, j, hij, hj, hpp⟩ := gz_pig N p (fun i hi => by
        by_cases c2 : i < n
        · exact (hN _ _ _ (hW i c2)).1
        · have : i = n := by omega
          rw [this]; exact hp)
      obtain ⟨l1, q, f, w1, w2, w3, w4⟩ := hW.cut hij (by omega) hpp
      obtain ⟨q', f', m', v1, v2, v3, v4⟩ := ih q f (n - (j - i)) (by omega) w1 (by rw [w3]; exact hp)
      refine ⟨q', f', m', v1, by rw [v2, w3], v3, ?_⟩
      have a := hb _ _ _ l1
      refine Int.le_trans ?_ v4
      unfold gS
      rw [w4, Int.mul_add]
      have e1 : s * (n : Int) = s * ((n - (j - i) : Nat) : Int) + s * ((j - i : Nat) : Int) := by
        rw [← Int.mul_add]; congr 1; omega
      omega
/-- a walk of N edges gives no more above s / c than a shorter one to the same place -/
theorem karp_up (hN : ∀ u v w, e u v w → u < N ∧ v < N) {s c : Int} (hb : gB e s c) (hW : gW e p g N) (hp : p N < N) : ∃ q f k, gW e q f k ∧ q k = p N ∧ k < N ∧ c * (ka_sum g N - ka_sum f k) ≤ s * ((N : Int) - k) := by
  obtain ⟨q, f, k, w1, w2, w3, w4⟩ := hb.short hN N p g N (Nat.le_refl N) hW hp
  refine ⟨q, f, k, w1, w2, w3, ?_⟩
  unfold gS at w4
  rw [Int.mul_sub, Int.mul_sub]
  omega
theorem gl_walk (hL : gL e p g n) : ∀ k, gW e (fun t => p (t % n)) (fun t => g (t % n)) k := by
  intro k j _
  have hn := hL.2.1
  have hlt := Nat.mod_lt j (show 0 < n by omega)
  have := hL.1 (j % n) hlt
  show e (p (j % n)) (p ((j + 1) % n)) (g (j % n))
  by_cases c1 : j % n + 1 < n
  · have h1 : (j + 1) % n = j % n + 1 := by
      have := Nat.div_add_mod j n
      rw [show j + 1 = n * (j / n) + (j % n + 1) by omega, Nat.mul_add_mod, Nat.mod_eq_of_lt c1]
    rw [h1]
    exact this
  · have h0 : (j + 1) % n = 0 := by
      have e1 : j % n + 1 = n := by omega
      have := Nat.div_add_mod j n
      rw [show j + 1 = n * (j / n + 1) by rw [Nat.mul_add]; omega]
      exact Nat.mul_mod_right _ _
    rw [h0, ← hL.2.2]
    rw [show j % n + 1 = n by omega] at this
    exact this
theorem gl_zero {s c : Int} (hn : 1 ≤ n) (h0 : gS s c g n = 0) : ∀ z, gS s c (fun t => g (t % n)) (n * z) = 0
  | 0 => by unfold gS; show c * 0 - s * 0 = 0; omega
  | z + 1 => by
    rw [show n * (z + 1) = n * z + n by rw [Nat.mul_add]; omega, gS_add, gl_zero hn h0 z]
    have : gS s c (fun t => g ((n * z + t) % n)) n = gS s c g n := by
      unfold gS
      rw [ka_sum_congr (f := fun t => g ((n * z + t) % n)) (g := g) (fun i hi => by rw [Nat.mul_add_mod, Nat.mod_eq_of_lt hi])]
    rw [this, h0]
    rfl
/-- if a loop just gives s / c, some place is reached by a walk of N edges that gives no less above it than any walk there -/
theorem karp_down (hN : ∀ u v w, e u v w → u < N ∧ v < N) {B : Int} (hB : ∀ u v w, e u v w → -B ≤ w ∧ w ≤ B) {s c : Int} (hc : 0 < c) (hb : gB e s c) (hL : gL e p g n) (h0 : c * ka_sum g n = s * n) :
    ∃ q f, gW e q f N ∧ q N < N ∧ ∀ q' f' k, gW e q' f' k → q' k = q N → s * ((N : Int) - k) ≤ c * (ka_sum f N - ka_sum f' k) := by
  have hn := hL.2.1
  have hw : p 0 < N := (hN _ _ _ (hL.1 0 (by omega))).1
  have hz : gS s c g n = 0 := by unfold gS; omega
  -- the best walk to p 0
  obtain ⟨x, ⟨P, F, k0, a1, a2, a3, a4⟩, hmax⟩ := gz_max' (P := fun x => ∃ P F k, gW e P F k ∧ P k = p 0 ∧ k < N ∧ gS s c F k = x) (B := c * ((B.natAbs : Int) * N) + (s.natAbs : Int) * N) (by
    rintro x ⟨P, F, k, b1, b2, b3, rfl⟩
    have u := (ka_sumb (f := F) (B := (B.natAbs : Int)) (n := k) (fun i hi => by have := hB _ _ _ (b1 i hi); omega)).2
    have u2 : (B.natAbs : Int) * k ≤ (B.natAbs : Int) * N := Int.mul_le_mul_of_nonneg_left (by omega) (by omega)
    have u3 := Int.mul_le_mul_of_nonneg_left (Int.le_trans u u2) (show 0 ≤ c by omega)
    have u4 : -s * (k : Int) ≤ (s.natAbs : Int) * k := Int.mul_le_mul_of_nonneg_right (by omega) (by omega)
    have u5 : (s.natAbs : Int) * k ≤ (s.natAbs : Int) * N := Int.mul_le_mul_of_nonneg_left (by omega) (by omega)
    rw [Int.neg_mul] at u4
    unfold gS
    omega) ⟨_, fun _ => p 0, fun _ => 0, 0, (fun j hj => absurd hj (by omega)), rfl, by omega, rfl⟩
  have best : ∀ q' f' k', gW e q' f' k' → q' k' = p 0 → gS s c f' k' ≤ x := by
    intro q' f' k' b1 b2
    obtain ⟨Q, G, j, d1, d2, d3, d4⟩ := hb.short hN k' q' f' k' (Nat.le_refl _) b1 (by rw [b2]; exact hw)
    exact Int.le_trans d4 (hmax _ ⟨Q, G, j, d1, by rw [d2, b2], d3, rfl⟩)
  -- along the loop
  have cw := gl_walk hL
  obtain ⟨t, ht⟩ : ∃ t, t = N - k0 := ⟨_, rfl⟩
  have hj : P k0 = (fun t => p (t % n)) 0 := by show P k0 = p (0 % n); rw [Nat.zero_mod]; exact a2
  have wQ := a1.app (cw t) hj
  rw [show k0 + t = N by omega] at wQ
  have eQ : gJp P (fun t => p (t % n)) k0 N = p (t % n) := by
    have := gJp_end P (fun t => p (t % n)) k0 t hj
    rw [show k0 + t = N by omega] at this
    exact this
  have sQ : gS s c (gJg F (fun t => g (t % n)) k0) N = x + gS s c (fun t => g (t % n)) t := by
    have := gS_app s c F (fun t => g (t % n)) k0 t
    rw [show k0 + t = N by omega, a4] at this
    exact this
  refine ⟨_, _, wQ, ?_, ?_⟩
  · rw [eQ]
    exact (hN _ _ _ (hL.1 (t % n) (Nat.mod_lt t (by omega)))).1
  · intro q' f' k b1 b2
    rw [eQ] at b2
    -- on from there to the loop's beginning
    obtain ⟨r, hr⟩ : ∃ r, t + r = n * (t / n + 1) := ⟨n * (t / n + 1) - t, by
      have := Nat.div_add_mod t n
      have := Nat.mod_lt t (show 0 < n by omega)
      rw [Nat.mul_add]
      omega⟩
    have cw2 := (cw (t + r)).from (i := t) (k := r) (Nat.le_refl _)
    have w2 := b1.app cw2 (by show q' k = p ((t + 0) % n); rw [Nat.add_zero]; exact b2)
    have e2 : gJp q' (fun j => p ((t + j) % n)) k (k + r) = p 0 := by
      rw [gJp_end q' (fun j => p ((t + j) % n)) k r (by show q' k = p ((t + 0) % n); rw [Nat.add_zero]; exact b2)]
      show p ((t + r) % n) = p 0
      rw [hr, Nat.mul_mod_right]
    have s2 := best _ _ _ w2 e2
    rw [gS_app] at s2
    have s3 := gS_add s c (fun t => g (t % n)) t r
    rw [hr, gl_zero hn hz] at s3
    have fin : gS s c f' k ≤ gS s c (gJg F (fun t => g (t % n)) k0) N := by
      rw [sQ]
      have s4 : gS s c (fun j => g ((t + j) % n)) r = gS s c (fun t_1 => (fun t => g (t % n)) (t + t_1)) r := rfl
      omega
    unfold gS at fin
    rw [Int.mul_sub, Int.mul_sub]
    omega
end
end
/-! G2.steps -/
section
/-! ===== the reference: steps ===== -/
/-- fewer locals are known -/
def mm_dr : List mm_V → List mm_V → Prop
  | [], [] => True
  | a :: as, b :: bs => (b = a ∨ b.1 = 9) ∧ mm_dr as bs
  | _, _ => False
theorem mm_dr.at : ∀ {as bs : List mm_V}, mm_dr as bs → ∀ (i : Nat) (v : mm_V), bs[i]? = some v → v.1 ≠ 9 → as[i]? = some v
  | [], [], _, i, v, h, _ => by simp at h
  | a :: as, b :: bs, hd, i, v, h, hv => by
    match i with
    | 0 =>
      simp at h
      subst h
      rcases hd.1 with e | e
      · rw [e]; rfl
      · exact absurd e hv
    | i + 1 =>
      simp at h ⊢
      exact mm_dr.at hd.2 i v h hv
  | [], b :: bs, hd, _, _, _, _ => absurd hd (by unfold mm_dr; exact id)
  | a :: as, [], hd, _, _, _, _ => absurd hd (by unfold mm_dr; exact id)
theorem mm_drop {X : mm_X} {Y : mm_Y} {n0 n1 n pc : Nat} {ls ls' st : List mm_V} {M : mm_M} {Φ : mm_V → mm_M → Prop} (h : mm_dr ls ls') (k : mm_J X Y n0 n1 n pc ls' st M Φ) : mm_J X Y n0 n1 n pc ls st M Φ := by
  intro p l e R s m args below meth c D cA bs ro H locs lsr C hP hS hL
  exact k p l e R s m args below meth c D cA bs ro H locs lsr C hP hS ⟨hL.1, hL.2.1, fun i v hi hv => hL.2.2 i v (h.at i v hi hv) hv⟩
/-- what the first l slants tell of a step: whether one of them is safe, and what it gives at most -/
def ke_P (K Lo Hi : Nat → Int) (h s : Int) (t l : Nat) (f v : Int) : Prop :=
  (f = 0 ∧ ∀ i, i < l → ¬ ks_safe K Lo Hi s (15 * (i : Int) + t) h) ∨ (f = 1 ∧ (∃ i, i < l ∧ ks_safe K Lo Hi s (15 * (i : Int) + t) h ∧ ks_sure K Lo Hi s (15 * (i : Int) + t) h = v) ∧ ∀ i, i < l → ks_safe K Lo Hi s (15 * (i : Int) + t) h → ks_sure K Lo Hi s (15 * (i : Int) + t) h ≤ v)
theorem ke_P.no {K Lo Hi : Nat → Int} {h s f v : Int} {t l : Nat} (q : ke_P K Lo Hi h s t l f v) (hn : ¬ ks_safe K Lo Hi s (15 * (l : Int) + t) h) : ke_P K Lo Hi h s t (l + 1) f v := by
  rcases q with ⟨q1, q2⟩ | ⟨q1, ⟨i, i1, i2, i3⟩, q3⟩
  · refine Or.inl ⟨q1, fun i hi => ?_⟩
    by_cases e : i = l
    · rw [e]; exact hn
    · exact q2 i (by omega)
  · refine Or.inr ⟨q1, ⟨i, by omega, i2, i3⟩, fun i hi => ?_⟩
    by_cases e : i = l
    · rw [e]; exact fun z => absurd z hn
    · exact q3 i (by omega)
theorem ke_P.yes {K Lo Hi : Nat → Int} {h s f v : Int} {t l : Nat} (q : ke_P K Lo Hi h s t l f v) (hn : ks_safe K Lo Hi s (15 * (l : Int) + t) h) : ke_P K Lo Hi h s t (l + 1) 1 (if f = 0 then ks_sure K Lo Hi s (15 * (l : Int) + t) h else max v (ks_sure K Lo Hi s (15 * (l : Int) + t) h)) := by
  rcases q with ⟨q1, q2⟩ | ⟨q1, ⟨i, i1, i2, i3⟩, q3⟩
  · rw [if_pos q1]
    refine Or.inr ⟨rfl, ⟨l, by omega, hn, rfl⟩, fun i hi z => ?_⟩
    by_cases e : i = l
    · rw [e]; exact Int.le_refl _
    · exact absurd z (q2 i (by omega))
  · rw [if_neg (by omega)]
    refine Or.inr ⟨rfl, ?_, fun i hi z => ?_⟩
    · by_cases c : v ≤ ks_sure K Lo Hi s (15 * (l : Int) + t) h
      · exact ⟨l, by omega, hn, by omega⟩
      · exact ⟨i, by omega, i2, by omega⟩
    · by_cases e : i = l
      · rw [e]; omega
      · have := q3 i (by omega) z
        omega
section
variable {X : mm_X} {M : mm_M} {h : Int}
/-- so many steps are found -/
def ke_D (M N : mm_M) (h : Int) (m : Nat) : Prop := mm_Rf N ∧ (∀ a, a ≠ 205 → a ≠ 206 → N a = M a) ∧ ∀ x, x < m → ke_P (mm_rk M) (M 203) (M 204) h ((x / 15 : Nat) : Int) (x % 15) (mm_rk M 10).toNat (N 205 x) (N 206 x)
theorem ke_fr {M N : mm_M} (f : ∀ a, a ≠ 205 → a ≠ 206 → N a = M a) : mm_rk N = mm_rk M ∧ N 203 = M 203 ∧ N 204 = M 204 ∧ (mm_RA M → mm_RA N) := by
  refine ⟨mm_rk.fr (fun a b q => by rw [f a (by omega) (by omega)]), f 203 (by decide) (by decide), f 204 (by decide) (by decide), fun q => ?_⟩
  unfold mm_RA at q ⊢
  rw [f 203 (by decide) (by decide), f 204 (by decide) (by decide)]
  exact q
theorem c_X13_findSteps (hR : mm_Rf M) (hK : mm_KV (mm_rk M)) (hA : mm_RA M) (hh : ks_hr h) : mm_C X Y_X13_findSteps 243 243 [(2, 184), (0, h)] M (fun r M' => r = (3, 0) ∧ ke_D M M' h (15 * (ks_n (mm_rk M)).toNat)) := by
  obtain ⟨Φ, hΦ⟩ : ∃ Φ : mm_V → mm_M → Prop, Φ = (fun r M' => r = (3, 0) ∧ ke_D M M' h (15 * (ks_n (mm_rk M)).toNat)) := ⟨_, rfl⟩
  rw [← hΦ]
  have hnb := ks_nb hK
  obtain ⟨n, hn⟩ : ∃ n, n = (ks_n (mm_rk M)).toNat := ⟨_, rfl⟩
  have hni : ks_n (mm_rk M) = (n : Int) := by omega
  have h10 : 1 ≤ mm_rk M 10 ∧ mm_rk M 10 ≤ 3 := by
    obtain ⟨-, -, -, -, -, -, -, -, -, -, q, -⟩ := hK
    exact q
  obtain ⟨L, hL⟩ : ∃ L, L = (mm_rk M 10).toNat := ⟨_, rfl⟩
  have hLi : mm_rk M 10 = (L : Int) := by omega
  have e16 : ∀ N : mm_M, mm_rk N 10 = N 183 16 := fun N => mm_rk_n N
  -- the slants of a step
  have inner : ∀ s : Nat, s < n → ∀ t : Nat, t < 15 → (∀ N, ke_D M N h (15 * s + t + 1) → mm_J X Y_X13_findSteps 243 243 243 127 [(2, 184), (0, h), (0, (s : Int)), (0, (t : Int)), (9, 0), (9, 0), (9, 0), (9, 0)] [] N Φ) →
      ∀ l : Nat, l ≤ L → ∀ N : mm_M, ke_D M N h (15 * s + t) → ke_P (mm_rk M) (M 203) (M 204) h (s : Int) t l (N 205 (15 * s + t)) (N 206 (15 * s + t)) →
      mm_J X Y_X13_findSteps 243 243 243 37 [(2, 184), (0, h), (0, (s : Int)), (0, (t : Int)), (0, ((15 * s + t : Nat) : Int)), (0, (l : Int)), (9, 0), (9, 0)] [] N Φ := by
    intro s hs t ht out
    refine mm_lp ?_
    intro l hl ih N hD hP
    obtain ⟨hRN, f1, f2⟩ := id hD
    obtain ⟨rk, r3, r4, ra⟩ := ke_fr f1
    have el : N 183 16 = (L : Int) := (e16 N).symm.trans (by rw [rk]; exact hLi)
    by_cases hlt : l < L
    · have hst : ks_st (mm_rk N) (s : Int) := ⟨by omega, by rw [rk, hni]; omega⟩
      have hac : ks_ac (mm_rk N) (15 * (l : Int) + t) := ⟨by omega, by rw [rk, hLi]; omega⟩
      have cs := c_X13_isSafe (X := X) hRN (by rw [rk]; exact hK) (ra hA) hst hac hh
      have cg := c_X13_surely (X := X) hRN (by rw [rk]; exact hK) (ra hA) hst hac hh
      rw [rk, r3, r4] at cs cg
      have gb := ks_sureb (Lo := M 203) (Hi := M 204) (s := (s : Int)) (hr := h) hK (by rw [← rk]; exact hac) (hA.wi hK (by rw [← rk]; exact hst) hh).1 (hA.wi hK (by rw [← rk]; exact hst) hh).2
      by_cases hsf : ks_safe (mm_rk M) (M 203) (M 204) (s : Int) (15 * (l : Int) + t) h
      · rw [mm_b_t hsf] at cs
        have fin : ∀ P : mm_M, P = mm_up (mm_up N 206 (15 * s + t) (if N 205 (15 * s + t) = 0 then ks_sure (mm_rk M) (M 203) (M 204) (s : Int) (15 * (l : Int) + t) h else max (N 206 (15 * s + t)) (ks_sure (mm_rk M) (M 203) (M 204) (s : Int) (15 * (l : Int) + t) h))) 205 (15 * s + t) 1 →
            mm_J X Y_X13_findSteps 243 243 243 37 [(2, 184), (0, h), (0, (s : Int)), (0, (t : Int)), (0, ((15 * s + t : Nat) : Int)), (0, (l : Int) + 1), (9, 0), (9, 0)] [] P Φ := by
          intro P hPe
          have := ih hlt P ⟨?_, ?_, ?_⟩ ?_
          · rw [show ((l + 1 : Nat) : Int) = (l : Int) + 1 by omega] at this; exact this
          · rw [hPe]; exact (hRN.up (mm_rt_ar (t := 0) rfl (by decide))).up (mm_rt_ar (t := 2) rfl (by decide))
          · intro a a1 a2; rw [hPe, mm_up_row a1, mm_up_row a2]; exact f1 a a1 a2
          · intro x hx; rw [hPe, mm_up_i (by omega), mm_up_row (by decide), mm_up_row (by decide), mm_up_i (by omega)]; exact f2 x hx
          · rw [hPe, mm_up_s, mm_up_row (by decide), mm_up_s]; exact hP.yes hsf
        have hvb : N 205 (15 * s + t) ≠ 0 → -5800000 ≤ N 206 (15 * s + t) ∧ N 206 (15 * s + t) ≤ 5800000 := by
          intro q
          rcases hP with q1 | ⟨-, ⟨i, i1, -, i3⟩, -⟩
          · exact absurd q1.1 q
          · rw [← i3]
            exact ks_sureb hK ⟨by omega, by rw [hLi]; omega⟩ (hA.wi hK (by rw [← rk]; exact hst) hh).1 (hA.wi hK (by rw [← rk]; exact hst) hh).2
        have h01 : N 205 (15 * s + t) = 0 ∨ N 205 (15 * s + t) = 1 := by rcases hP with q | q; exact Or.inl q.1; exact Or.inr q.1
        refine mm_iload dX13_findSteps_37 rfl rfl ?_
        refine mm_aload_n dX13_findSteps_39 rfl rfl ?_
        refine mm_get (kd := 0) dX13_findSteps_40 rfl fl_X13_154 (c := 183) rfl (by decide) rfl rfl ?_
        rw [el]
        refine mm_icge dX13_findSteps_43 (by omega) (by omega) (fun h43 => ?_) (fun h43 => ?_)
        · exfalso; omega
        · refine mm_bipush dX13_findSteps_46 rfl (by decide) ?_
          refine mm_iload dX13_findSteps_48 rfl rfl ?_
          refine mm_imul dX13_findSteps_50 rfl ?_
          refine mm_iload_n dX13_findSteps_51 rfl rfl ?_
          refine mm_iadd dX13_findSteps_52 rfl ?_
          refine mm_istore dX13_findSteps_53 rfl (Nat.le_of_ble_eq_true rfl) rfl ?_
          refine mm_aload_n dX13_findSteps_55 rfl rfl ?_
          refine mm_iload_n dX13_findSteps_56 rfl rfl ?_
          refine mm_iload dX13_findSteps_57 rfl rfl ?_
          refine mm_iload_n dX13_findSteps_59 rfl rfl ?_
          refine mm_V3i dX13_findSteps_60 rfl lk_X13_510 (c := 183) rfl (by decide) rfl (by simp) (by simp) (by simp) rfl rfl rfl (cs) ?_
          refine mm_ifne dX13_findSteps_63 (by omega) (fun _ => ?_) (fun h => absurd h (by decide))
          refine mm_aload_n dX13_findSteps_69 rfl rfl ?_
          refine mm_iload_n dX13_findSteps_70 rfl rfl ?_
          refine mm_iload dX13_findSteps_71 rfl rfl ?_
          refine mm_iload_n dX13_findSteps_73 rfl rfl ?_
          refine mm_V3i dX13_findSteps_74 rfl lk_X13_514 (c := 183) rfl (by decide) rfl (by simp) (by simp) (by simp) rfl rfl rfl (cg) ?_
          refine mm_istore dX13_findSteps_77 rfl (Nat.le_of_ble_eq_true rfl) rfl ?_
          refine mm_aload_n dX13_findSteps_79 rfl rfl ?_
          refine mm_getr dX13_findSteps_80 rfl fl_X13_264 (c := 183) rfl (by decide) rfl rfl (hRN.at (c := 183) (i := 37) (v := 207) rfl (by decide)) ?_
          refine mm_iload dX13_findSteps_83 rfl rfl ?_
          refine mm_aload_n dX13_findSteps_85 rfl rfl ?_
          refine mm_getr dX13_findSteps_86 rfl fl_X13_261 (c := 183) rfl (by decide) rfl rfl (hRN.at (c := 183) (i := 36) (v := 206) rfl (by decide)) ?_
          refine mm_iload dX13_findSteps_89 rfl rfl ?_
          refine mm_zalk (k0 := 15 * s + t) dX13_findSteps_91 rfl (c := 205) rfl (by decide) rfl (by omega) (by omega) ?_
          refine mm_ifeq dX13_findSteps_92 (by omega) (fun h92 => ?_) (fun h92 => ?_)
          · refine mm_iload dX13_findSteps_110 rfl rfl ?_
            refine mm_istk (k0 := 15 * s + t) dX13_findSteps_112 rfl (c := 206) rfl (by decide) rfl (by omega) (by omega) (fun M112 hM112 => ?_)
            have hR112 : mm_Rf M112 := by rw [hM112]; exact hRN.up (mm_rt_ar (t := 0) rfl (by decide))
            refine mm_aload_n dX13_findSteps_113 rfl rfl ?_
            refine mm_getr dX13_findSteps_114 rfl fl_X13_261 (c := 183) rfl (by decide) rfl rfl (hR112.at (c := 183) (i := 36) (v := 206) rfl (by decide)) ?_
            refine mm_iload dX13_findSteps_117 rfl rfl ?_
            refine mm_iconst dX13_findSteps_119 rfl ?_
            refine mm_zstk (k0 := 15 * s + t) dX13_findSteps_120 rfl (c := 205) rfl (by decide) rfl (by omega) (by omega) (Or.inr rfl) (fun M120 hM120 => ?_)
            have hR120 : mm_Rf M120 := by rw [hM120]; exact hR112.up (mm_rt_ar (t := 2) rfl (by decide))
            refine mm_iinc dX13_findSteps_121 rfl rfl (Nat.le_of_ble_eq_true rfl) rfl ?_
            refine mm_goto dX13_findSteps_124 ?_
            refine mm_drop (ls' := [(2, 184), (0, h), (0, (s : Int)), (0, (t : Int)), (0, ((15 * s + t : Nat) : Int)), (0, (l : Int) + 1), (9, 0), (9, 0)]) (by simp [mm_dr]) (fin _ ?_)
            first
              | (rw [hM120, hM112, if_pos h92]; done)
              | (rw [hM120, hM112, if_neg h92]; done)
          · refine mm_aload_n dX13_findSteps_95 rfl rfl ?_
            refine mm_getr dX13_findSteps_96 rfl fl_X13_264 (c := 183) rfl (by decide) rfl rfl (hRN.at (c := 183) (i := 37) (v := 207) rfl (by decide)) ?_
            refine mm_iload dX13_findSteps_99 rfl rfl ?_
            refine mm_ialk (k0 := 15 * s + t) dX13_findSteps_101 rfl (c := 206) rfl (by decide) rfl (by omega) (by omega) ?_
            refine mm_iload dX13_findSteps_102 rfl rfl ?_
            refine mm_max dX13_findSteps_104 rfl lm_X13_518 rfl rfl (by simp) (by omega) (by omega) ?_
            refine mm_goto dX13_findSteps_107 ?_
            refine mm_istk (k0 := 15 * s + t) dX13_findSteps_112 rfl (c := 206) rfl (by decide) rfl (by omega) (by omega) (fun M112 hM112 => ?_)
            have hR112 : mm_Rf M112 := by rw [hM112]; exact hRN.up (mm_rt_ar (t := 0) rfl (by decide))
            refine mm_aload_n dX13_findSteps_113 rfl rfl ?_
            refine mm_getr dX13_findSteps_114 rfl fl_X13_261 (c := 183) rfl (by decide) rfl rfl (hR112.at (c := 183) (i := 36) (v := 206) rfl (by decide)) ?_
            refine mm_iload dX13_findSteps_117 rfl rfl ?_
            refine mm_iconst dX13_findSteps_119 rfl ?_
            refine mm_zstk (k0 := 15 * s + t) dX13_findSteps_120 rfl (c := 205) rfl (by decide) rfl (by omega) (by omega) (Or.inr rfl) (fun M120 hM120 => ?_)
            have hR120 : mm_Rf M120 := by rw [hM120]; exact hR112.up (mm_rt_ar (t := 2) rfl (by decide))
            refine mm_iinc dX13_findSteps_121 rfl rfl (Nat.le_of_ble_eq_true rfl) rfl ?_
            refine mm_goto dX13_findSteps_124 ?_
            refine mm_drop (ls' := [(2, 184), (0, h), (0, (s : Int)), (0, (t : Int)), (0, ((15 * s + t : Nat) : Int)), (0, (l : Int) + 1), (9, 0), (9, 0)]) (by simp [mm_dr]) (fin _ ?_)
            first
              | (rw [hM120, hM112, if_pos h92]; done)
              | (rw [hM120, hM112, if_neg h92]; done)
      · rw [mm_b_f hsf] at cs
        refine mm_iload dX13_findSteps_37 rfl rfl ?_
        refine mm_aload_n dX13_findSteps_39 rfl rfl ?_
        refine mm_get (kd := 0) dX13_findSteps_40 rfl fl_X13_154 (c := 183) rfl (by decide) rfl rfl ?_
        rw [el]
        refine mm_icge dX13_findSteps_43 (by omega) (by omega) (fun h43 => ?_) (fun h43 => ?_)
        · exfalso; omega
        · refine mm_bipush dX13_findSteps_46 rfl (by decide) ?_
          refine mm_iload dX13_findSteps_48 rfl rfl ?_
          refine mm_imul dX13_findSteps_50 rfl ?_
          refine mm_iload_n dX13_findSteps_51 rfl rfl ?_
          refine mm_iadd dX13_findSteps_52 rfl ?_
          refine mm_istore dX13_findSteps_53 rfl (Nat.le_of_ble_eq_true rfl) rfl ?_
          refine mm_aload_n dX13_findSteps_55 rfl rfl ?_
          refine mm_iload_n dX13_findSteps_56 rfl rfl ?_
          refine mm_iload dX13_findSteps_57 rfl rfl ?_
          refine mm_iload_n dX13_findSteps_59 rfl rfl ?_
          refine mm_V3i dX13_findSteps_60 rfl lk_X13_510 (c := 183) rfl (by decide) rfl (by simp) (by simp) (by simp) rfl rfl rfl (cs) ?_
          refine mm_ifne dX13_findSteps_63 (by omega) (fun h => absurd h (by decide)) (fun _ => ?_)
          refine mm_goto dX13_findSteps_66 ?_
          refine mm_iinc dX13_findSteps_121 rfl rfl (Nat.le_of_ble_eq_true rfl) rfl ?_
          refine mm_goto dX13_findSteps_124 ?_
          have go := ih hlt N hD (hP.no hsf)
          rw [show ((l + 1 : Nat) : Int) = (l : Int) + 1 by omega] at go
          exact mm_drop (ls' := [(2, 184), (0, h), (0, (s : Int)), (0, (t : Int)), (0, ((15 * s + t : Nat) : Int)), (0, (l : Int) + 1), (9, 0), (9, 0)]) (by simp [mm_dr]) go
    · have elL : l = L := by omega
      subst elL
      refine mm_iload dX13_findSteps_37 rfl rfl ?_
      refine mm_aload_n dX13_findSteps_39 rfl rfl ?_
      refine mm_get (kd := 0) dX13_findSteps_40 rfl fl_X13_154 (c := 183) rfl (by decide) rfl rfl ?_
      rw [el]
      refine mm_icge dX13_findSteps_43 (by omega) (by omega) (fun h43 => ?_) (fun h43 => ?_)
      · refine mm_drop (ls' := [(2, 184), (0, h), (0, (s : Int)), (0, (t : Int)), (9, 0), (9, 0), (9, 0), (9, 0)]) (by simp [mm_dr]) (out N ⟨hRN, f1, ?_⟩)
        intro x hx
        by_cases e : x < 15 * s + t
        · exact f2 x e
        · have ex : x = 15 * s + t := by omega
          rw [ex, show (15 * s + t) / 15 = s by omega, show (15 * s + t) % 15 = t by omega, ← hL]
          exact hP
      · exfalso; omega
  -- the steps of a state
  have middle : ∀ s : Nat, s < n → (∀ N, ke_D M N h (15 * (s + 1)) → mm_J X Y_X13_findSteps 243 243 243 133 [(2, 184), (0, h), (0, (s : Int)), (9, 0), (9, 0), (9, 0), (9, 0), (9, 0)] [] N Φ) →
      ∀ t : Nat, t ≤ 15 → ∀ N : mm_M, ke_D M N h (15 * s + t) → mm_J X Y_X13_findSteps 243 243 243 12 [(2, 184), (0, h), (0, (s : Int)), (0, (t : Int)), (9, 0), (9, 0), (9, 0), (9, 0)] [] N Φ := by
    intro s hs out
    refine mm_lp ?_
    intro t ht ih N hD
    obtain ⟨hRN, f1, f2⟩ := id hD
    by_cases hlt : t < 15
    · have back : ∀ N, ke_D M N h (15 * s + t + 1) → mm_J X Y_X13_findSteps 243 243 243 127 [(2, 184), (0, h), (0, (s : Int)), (0, (t : Int)), (9, 0), (9, 0), (9, 0), (9, 0)] [] N Φ := by
        intro P hP
        have go := ih hlt P hP
        have hRP := hP.1
        refine mm_iinc dX13_findSteps_127 rfl rfl (Nat.le_of_ble_eq_true rfl) rfl ?_
        refine mm_goto dX13_findSteps_130 ?_
        rw [show ((t + 1 : Nat) : Int) = (t : Int) + 1 by omega] at go
        exact go
      refine mm_iload_n dX13_findSteps_12 rfl rfl ?_
      refine mm_bipush dX13_findSteps_13 rfl (by decide) ?_
      refine mm_icge dX13_findSteps_15 (by omega) (by omega) (fun h15 => ?_) (fun h15 => ?_)
      · exfalso; omega
      · refine mm_bipush dX13_findSteps_18 rfl (by decide) ?_
        refine mm_iload_n dX13_findSteps_20 rfl rfl ?_
        refine mm_imul dX13_findSteps_21 rfl ?_
        refine mm_iload_n dX13_findSteps_22 rfl rfl ?_
        refine mm_iadd dX13_findSteps_23 rfl ?_
        refine mm_istore dX13_findSteps_24 rfl (Nat.le_of_ble_eq_true rfl) rfl ?_
        refine mm_aload_n dX13_findSteps_26 rfl rfl ?_
        refine mm_getr dX13_findSteps_27 rfl fl_X13_261 (c := 183) rfl (by decide) rfl rfl (hRN.at (c := 183) (i := 36) (v := 206) rfl (by decide)) ?_
        refine mm_iload dX13_findSteps_30 rfl rfl ?_
        refine mm_iconst dX13_findSteps_32 rfl ?_
        refine mm_zstk (k0 := 15 * s + t) dX13_findSteps_33 rfl (c := 205) rfl (by decide) rfl (by omega) (by omega) (Or.inl rfl) (fun M33 hM33 => ?_)
        have hR33 : mm_Rf M33 := by rw [hM33]; exact hRN.up (mm_rt_ar (t := 2) rfl (by decide))
        refine mm_iconst dX13_findSteps_34 rfl ?_
        refine mm_istore dX13_findSteps_35 rfl (Nat.le_of_ble_eq_true rfl) rfl ?_
        refine mm_drop (ls' := [(2, 184), (0, h), (0, (s : Int)), (0, (t : Int)), (0, ((15 * s + t : Nat) : Int)), (0, ((0 : Nat) : Int)), (9, 0), (9, 0)]) (by simp [mm_dr]) (inner s hs t hlt back 0 (Nat.zero_le _) _ ⟨hR33, ?_, ?_⟩ ?_)
        · intro a a1 a2; rw [hM33, mm_up_row a1]; exact f1 a a1 a2
        · intro x hx; rw [hM33, mm_up_i (by omega), mm_up_row (by decide)]; exact f2 x hx
        · exact Or.inl ⟨by rw [hM33, mm_up_s], fun i hi => absurd hi (by omega)⟩
    · have et : t = 15 := by omega
      subst et
      refine mm_iload_n dX13_findSteps_12 rfl rfl ?_
      refine mm_bipush dX13_findSteps_13 rfl (by decide) ?_
      refine mm_icge dX13_findSteps_15 (by omega) (by omega) (fun h15 => ?_) (fun h15 => ?_)
      · exact mm_drop (ls' := [(2, 184), (0, h), (0, (s : Int)), (9, 0), (9, 0), (9, 0), (9, 0), (9, 0)]) (by simp [mm_dr]) (out N (by rw [show 15 * (s + 1) = 15 * s + 15 by omega]; exact hD))
      · exfalso; omega
  have outer : ∀ s : Nat, s ≤ n → ∀ N : mm_M, ke_D M N h (15 * s) → mm_J X Y_X13_findSteps 243 243 243 2 [(2, 184), (0, h), (0, (s : Int)), (9, 0), (9, 0), (9, 0), (9, 0), (9, 0)] [] N Φ := by
    refine mm_lp ?_
    intro s hs ih N hD
    obtain ⟨hRN, f1, f2⟩ := id hD
    obtain ⟨rk, -, -, -⟩ := ke_fr f1
    have cn := c_X13_states (X := X) hRN
    rw [rk, hni] at cn
    by_cases hlt : s < n
    · have back : ∀ N, ke_D M N h (15 * (s + 1)) → mm_J X Y_X13_findSteps 243 243 243 133 [(2, 184), (0, h), (0, (s : Int)), (9, 0), (9, 0), (9, 0), (9, 0), (9, 0)] [] N Φ := by
        intro P hP
        have go := ih hlt P hP
        have hRP := hP.1
        refine mm_iinc dX13_findSteps_133 rfl rfl (Nat.le_of_ble_eq_true rfl) rfl ?_
        refine mm_goto dX13_findSteps_136 ?_
        rw [show ((s + 1 : Nat) : Int) = (s : Int) + 1 by omega] at go
        exact go
      refine mm_iload_n dX13_findSteps_2 rfl rfl ?_
      refine mm_aload_n dX13_findSteps_3 rfl rfl ?_
      refine mm_V0i dX13_findSteps_4 rfl lk_X13_458 (c := 183) rfl (by decide) rfl  rfl rfl rfl (cn) ?_
      refine mm_icge dX13_findSteps_7 (by omega) (by omega) (fun h7 => ?_) (fun h7 => ?_)
      · exfalso; omega
      · refine mm_iconst dX13_findSteps_10 rfl ?_
        refine mm_istore_n dX13_findSteps_11 rfl (Nat.le_of_ble_eq_true rfl) rfl ?_
        exact middle s hlt back 0 (Nat.zero_le _) N hD
    · have es : s = n := by omega
      subst es
      refine mm_iload_n dX13_findSteps_2 rfl rfl ?_
      refine mm_aload_n dX13_findSteps_3 rfl rfl ?_
      refine mm_V0i dX13_findSteps_4 rfl lk_X13_458 (c := 183) rfl (by decide) rfl  rfl rfl rfl (cn) ?_
      refine mm_icge dX13_findSteps_7 (by omega) (by omega) (fun h7 => ?_) (fun h7 => ?_)
      · refine mm_vret dX13_findSteps_139 rfl rfl ?_
        rw [hΦ]; exact ⟨rfl, by rw [← hn]; exact hD⟩
      · exfalso; omega
  refine mm_start (ls := [(2, 184), (0, h), (9, 0), (9, 0), (9, 0), (9, 0), (9, 0), (9, 0)]) rfl ?_
  refine mm_iconst dX13_findSteps_0 rfl ?_
  refine mm_istore_n dX13_findSteps_1 rfl (Nat.le_of_ble_eq_true rfl) rfl ?_
  exact outer 0 (Nat.zero_le _) M ⟨hR, fun _ _ _ => rfl, fun x hx => absurd hx (by omega)⟩
end
end
