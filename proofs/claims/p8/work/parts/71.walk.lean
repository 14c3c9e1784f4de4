/-! ===== loops by steps; sums, maxima, how many from the first on ===== -/
theorem mm_lp {P : Nat → Prop} {n : Nat} (h : ∀ i, i ≤ n → (i < n → P (i + 1)) → P i) : ∀ i, i ≤ n → P i := by
  intro i hi
  obtain ⟨k, hk⟩ : ∃ k, k = n - i := ⟨_, rfl⟩
  induction k generalizing i with
  | zero => exact h i hi (fun q => by omega)
  | succ k ih => exact h i hi (fun q => ih (i + 1) (by omega) (by omega))
def ka_sum (f : Nat → Int) : Nat → Int
  | 0 => 0
  | n + 1 => ka_sum f n + f n
def ka_max (f : Nat → Int) : Nat → Int
  | 0 => 0
  | n + 1 => max (ka_max f n) (f n)
theorem ka_sumb {f : Nat → Int} {B : Int} : ∀ {n : Nat}, (∀ i, i < n → -B ≤ f i ∧ f i ≤ B) → -(B * n) ≤ ka_sum f n ∧ ka_sum f n ≤ B * n
  | 0, _ => by simp [ka_sum]
  | n + 1, h => by
    have h1 := ka_sumb (f := f) (B := B) (n := n) (fun i q => h i (by omega))
    have h2 := h n (by omega)
    have e : B * ((n + 1 : Nat) : Int) = B * n + B := by rw [Int.natCast_add, Int.mul_add]; simp
    rw [e]
    unfold ka_sum
    omega
theorem ka_maxb {f : Nat → Int} {B : Int} (hB : 0 ≤ B) : ∀ {n : Nat}, (∀ i, i < n → 0 ≤ f i ∧ f i ≤ B) → 0 ≤ ka_max f n ∧ ka_max f n ≤ B
  | 0, _ => by simp [ka_max, hB]
  | n + 1, h => by
    have h1 := ka_maxb (f := f) (B := B) hB (n := n) (fun i q => h i (by omega))
    have h2 := h n (by omega)
    unfold ka_max
    omega
/-- how many of the first n are good, from the first on -/
def kj_c (P : Nat → Prop) [∀ i, Decidable (P i)] : Nat → Nat
  | 0 => 0
  | n + 1 => if kj_c P n = n ∧ P n then n + 1 else kj_c P n
abbrev kj_is (P : Nat → Prop) (n c : Nat) : Prop := c ≤ n ∧ (∀ j, j < c → P j) ∧ (c < n → ¬ P c)
theorem kj_c_is (P : Nat → Prop) [∀ i, Decidable (P i)] : ∀ n, kj_is P n (kj_c P n)
  | 0 => ⟨Nat.le_refl _, fun j h => absurd h (Nat.not_lt_zero j), fun h => absurd h (Nat.lt_irrefl _)⟩
  | n + 1 => by
    have h := kj_c_is P n
    unfold kj_c
    by_cases q : kj_c P n = n ∧ P n
    · rw [if_pos q]
      refine ⟨Nat.le_refl _, fun j hj => ?_, fun h => absurd h (Nat.lt_irrefl _)⟩
      by_cases hj2 : j = n
      · rw [hj2]; exact q.2
      · exact h.2.1 j (by rw [q.1]; omega)
    · rw [if_neg q]
      refine ⟨by have := h.1; omega, h.2.1, fun _ => ?_⟩
      by_cases hc : kj_c P n = n
      · exact fun hp => q ⟨hc, hc ▸ hp⟩
      · exact h.2.2 (by have := h.1; omega)
theorem kj_c_eq {P : Nat → Prop} [∀ i, Decidable (P i)] {n c : Nat} (h : kj_is P n c) : kj_c P n = c := by
  have k := kj_c_is P n
  rcases Nat.lt_trichotomy (kj_c P n) c with q | q | q
  · exact absurd (h.2.1 _ q) (k.2.2 (by have := h.1; omega))
  · exact q
  · exact absurd (k.2.1 _ q) (h.2.2 (by have := k.1; omega))
/-! ===== a row judged ===== -/
def kj_P (K Lo Hi : Nat → Int) (s h : Int) (A : Nat → Int) (j : Nat) : Prop := ks_safe K Lo Hi (kf_run K s A j) (A j) h
theorem kj_P.can {K Lo Hi : Nat → Int} {s h : Int} {A : Nat → Int} {j : Nat} (q : kj_P K Lo Hi s h A j) : ks_can K (kf_run K s A j) (A j) := And.left q
def kj_g (K Lo Hi : Nat → Int) (s h : Int) (A : Nat → Int) (j : Nat) : Int := ks_sure K Lo Hi (kf_run K s A j) (A j) h
def kj_won (K Lo Hi : Nat → Int) (s h : Int) (A : Nat → Int) : Nat → Int := ka_sum (fun j => if ks_dr (A j) = 1 then kj_g K Lo Hi s h A j else 0)
def kj_spent (K Lo Hi : Nat → Int) (s h : Int) (A : Nat → Int) : Nat → Int := ka_sum (fun j => if ks_dr (A j) = 2 then -kj_g K Lo Hi s h A j else 0)
def kj_great (K Hi : Nat → Int) (s h : Int) (A : Nat → Int) : Nat → Int := ka_max (fun j => ks_p K (kf_run K s A j) (A j) (ks_wi Hi K (kf_run K s A j) h))
theorem ks_sureb {K Lo Hi : Nat → Int} (h : mm_KV K) {s a hr : Int} (ha : ks_ac K a) (h1 : 0 ≤ ks_wi Lo K s hr ∧ ks_wi Lo K s hr ≤ 60) (h2 : 0 ≤ ks_wi Hi K s hr ∧ ks_wi Hi K s hr ≤ 60) : -5800000 ≤ ks_sure K Lo Hi s a hr ∧ ks_sure K Lo Hi s a hr ≤ 5800000 := by
  unfold ks_sure
  obtain ⟨w, hw⟩ : ∃ w, w = (if ks_dr a = 2 then ks_wi Hi K s hr else ks_wi Lo K s hr) := ⟨_, rfl⟩
  have hwb : 0 ≤ w ∧ w ≤ 60 := by rw [hw]; split <;> omega
  rw [← hw]
  have p := ks_pw h (s := s) ha hwb
  have q := ks_wb h p
  obtain ⟨-, -, -, -, -, -, h6, -⟩ := id h
  unfold ks_w
  split
  · omega
  · split <;> omega
/-- the states along a row while its acts are safe -/
theorem kj_st {K Lo Hi : Nat → Int} (h : mm_KV K) {s hr : Int} {A : Nat → Int} (hs : ks_st K s) : ∀ {i : Nat}, (∀ j, j < i → kj_P K Lo Hi s hr A j) → ks_st K (kf_run K s A i)
  | 0, _ => hs
  | i + 1, q => ks_to_st h (kj_st h hs (fun j hj => q j (by omega))) (q i (by omega)).can
/-- what walk leaves of the judged row -/
def kj_W (M M' : mm_M) (s h : Int) : Prop :=
  ∃ c : Nat, kj_is (kj_P (M 4) (M 16) (M 17) s h (M 118)) (M 117 2).toNat c ∧ (∀ a, a ≠ 117 → a ≠ 119 → M' a = M a) ∧ M' 117 2 = M 117 2 ∧
    M' 117 4 = c ∧ M' 117 5 = kf_run (M 4) s (M 118) c ∧ M' 117 6 = kj_won (M 4) (M 16) (M 17) s h (M 118) c ∧ M' 117 7 = kj_spent (M 4) (M 16) (M 17) s h (M 118) c ∧
    M' 117 8 = kj_great (M 4) (M 17) s h (M 118) c ∧ (∀ j, j < c → M' 119 j = kf_run (M 4) s (M 118) j) ∧
    M' 117 3 = kj_won (M 4) (M 16) (M 17) s h (M 118) c - kj_spent (M 4) (M 16) (M 17) s h (M 118) c ∧
    M' 117 9 = mm_b ((c : Int) = M 117 2 ∧ kf_run (M 4) s (M 118) c = s)
section
variable {X : mm_X} {M : mm_M} {s h : Int}
theorem c_X8_walk (hR : mm_Rf M) (hK : mm_CK M) (hA : mm_CA M) (hs : ks_st (M 4) s) (hh : ks_hr h) (hn : 0 ≤ M 117 2 ∧ M 117 2 ≤ 100) (ha : ∀ i : Nat, (i : Int) < M 117 2 → ks_ac (M 4) (M 118 i)) :
    mm_C X Y_X8_walk 243 243 [(2, 118), (2, 12), (2, 4), (0, s), (0, h)] M (fun r M' => r = (3, 0) ∧ mm_Rf M' ∧ kj_W M M' s h) := by
  refine mm_start (ls := [(2, 118), (2, 12), (2, 4), (0, s), (0, h), (9, 0), (9, 0)]) rfl ?_
  have hnb := ks_nb hK.1
  have loop : ∀ i : Nat, i ≤ (M 117 2).toNat → ∀ (N : mm_M) (l5 l6 : mm_V), mm_Rf N → (∀ j, j < i → kj_P (M 4) (M 16) (M 17) s h (M 118) j) → (∀ a, a ≠ 117 → a ≠ 119 → N a = M a) → N 117 2 = M 117 2 →
      N 117 4 = i → N 117 5 = kf_run (M 4) s (M 118) i → N 117 6 = kj_won (M 4) (M 16) (M 17) s h (M 118) i → N 117 7 = kj_spent (M 4) (M 16) (M 17) s h (M 118) i →
      N 117 8 = kj_great (M 4) (M 17) s h (M 118) i → (∀ j, j < i → N 119 j = kf_run (M 4) s (M 118) j) →
      mm_J X Y_X8_walk 243 243 243 25 [(2, 118), (2, 12), (2, 4), (0, s), (0, h), l5, l6] [] N (fun r M' => r = (3, 0) ∧ mm_Rf M' ∧ kj_W M M' s h) := by
    refine mm_lp ?_
    intro i hi ih N l5 l6 hRN hsf hfr hlen e4 e5 e6 e7 e8 hst
    have hS := kj_st hK.1 hs hsf
    have f4 : N 4 = M 4 := hfr 4 (by decide) (by decide)
    have f16 : N 16 = M 16 := hfr 16 (by decide) (by decide)
    have f17 : N 17 = M 17 := hfr 17 (by decide) (by decide)
    have f118 : N 118 = M 118 := hfr 118 (by decide) (by decide)
    have hG : mm_ag M N := fun a h1 h2 => hfr a (by omega) (by omega)
    have hsb : ∀ j, j < i → -5800000 ≤ kj_g (M 4) (M 16) (M 17) s h (M 118) j ∧ kj_g (M 4) (M 16) (M 17) s h (M 118) j ≤ 5800000 := by
      intro j hj
      have hw := hA.wi hK.1 (kj_st hK.1 hs (fun k hk => hsf k (Nat.lt_trans hk hj))) hh
      exact ks_sureb hK.1 (ha j (by omega)) hw.1 hw.2
    have b6 := ka_sumb (B := 5800000) (n := i) (f := fun j => if ks_dr (M 118 j) = 1 then kj_g (M 4) (M 16) (M 17) s h (M 118) j else 0) (fun j hj => by have := hsb j hj; split <;> omega)
    have b7 := ka_sumb (B := 5800000) (n := i) (f := fun j => if ks_dr (M 118 j) = 2 then -kj_g (M 4) (M 16) (M 17) s h (M 118) j else 0) (fun j hj => by have := hsb j hj; split <;> omega)
    have b8 := ka_maxb (B := 1425600) (by decide) (n := i) (f := fun j => ks_p (M 4) (kf_run (M 4) s (M 118) j) (M 118 j) (ks_wi (M 17) (M 4) (kf_run (M 4) s (M 118) j) h)) (fun j hj => ks_pw hK.1 (ha j (by omega)) (hA.wi hK.1 (kj_st hK.1 hs (fun k hk => hsf k (Nat.lt_trans hk hj))) hh).2)
    change -(5800000 * (i : Int)) ≤ kj_won _ _ _ _ _ _ i ∧ kj_won _ _ _ _ _ _ i ≤ _ at b6
    change -(5800000 * (i : Int)) ≤ kj_spent _ _ _ _ _ _ i ∧ kj_spent _ _ _ _ _ _ i ≤ _ at b7
    change 0 ≤ kj_great _ _ _ _ _ i ∧ kj_great _ _ _ _ _ i ≤ _ at b8
    have fin : (i < (M 117 2).toNat → ¬ kj_P (M 4) (M 16) (M 17) s h (M 118) i) → mm_J X Y_X8_walk 243 243 243 195 [(2, 118), (2, 12), (2, 4), (0, s), (0, h), l5, l6] [] N (fun r M' => r = (3, 0) ∧ mm_Rf M' ∧ kj_W M M' s h) := by
      intro hno
      have hS1 := hS.1
      have hS2 := hS.2
      have hs1 := hs.1
      have hs2 := hs.2
      refine mm_aload_n dX8_walk_195 rfl rfl ?_
      refine mm_aload_n dX8_walk_196 rfl rfl ?_
      refine mm_get (kd := 0) dX8_walk_197 rfl fl_X8_57 (c := 117) rfl (by decide) rfl rfl ?_
      obtain ⟨v197, hv197⟩ : ∃ v, v = N 117 6 := ⟨_, rfl⟩
      rw [← hv197]
      rw [e6] at hv197
      subst hv197
      refine mm_aload_n dX8_walk_200 rfl rfl ?_
      refine mm_get (kd := 0) dX8_walk_201 rfl fl_X8_60 (c := 117) rfl (by decide) rfl rfl ?_
      obtain ⟨v201, hv201⟩ : ∃ v, v = N 117 7 := ⟨_, rfl⟩
      rw [← hv201]
      rw [e7] at hv201
      subst hv201
      refine mm_isub dX8_walk_204 rfl ?_
      refine mm_puti dX8_walk_205 rfl fl_X8_35 (c := 117) rfl (by decide) rfl rfl (fun M205 hM205 => ?_)
      have hR205 : mm_Rf M205 := by rw [hM205]; exact hRN.up rfl
      have hG205 : mm_ag M M205 := by rw [hM205]; exact hG.up (by decide)
      refine mm_aload_n dX8_walk_208 rfl rfl ?_
      refine mm_aload_n dX8_walk_209 rfl rfl ?_
      refine mm_get (kd := 0) dX8_walk_210 rfl fl_X8_51 (c := 117) rfl (by decide) rfl rfl ?_
      obtain ⟨v210, hv210⟩ : ∃ v, v = M205 117 4 := ⟨_, rfl⟩
      rw [← hv210]
      rw [hM205, mm_up_i (by decide), e4] at hv210
      subst hv210
      refine mm_aload_n dX8_walk_213 rfl rfl ?_
      refine mm_get (kd := 0) dX8_walk_214 rfl fl_X8_22 (c := 117) rfl (by decide) rfl rfl ?_
      obtain ⟨v214, hv214⟩ : ∃ v, v = M205 117 2 := ⟨_, rfl⟩
      rw [← hv214]
      rw [hM205, mm_up_i (by decide), hlen] at hv214
      subst hv214
      refine mm_icne dX8_walk_217 (by omega) (by omega) (fun h217 => ?_) (fun h217 => ?_)
      · refine mm_iconst dX8_walk_232 rfl ?_
        refine mm_putz dX8_walk_233 rfl fl_X8_86 (c := 117) rfl (by decide) rfl rfl (Or.inl rfl) (fun M233 hM233 => ?_)
        have hR233 : mm_Rf M233 := by rw [hM233]; exact hR205.up rfl
        have hG233 : mm_ag M M233 := by rw [hM233]; exact hG205.up (by decide)
        refine mm_vret dX8_walk_236 rfl rfl ?_
        refine ⟨rfl, hR233, i, ⟨hi, hsf, hno⟩, fun a h1 h2 => ?_, ?_, ?_, ?_, ?_, ?_, ?_, ?_, ?_, ?_⟩
        · rw [hM233, mm_up_row h1, hM205, mm_up_row h1]; exact hfr a h1 h2
        · simp [hM233, hM205, mm_up, hlen]
        · simp [hM233, hM205, mm_up, e4]
        · simp [hM233, hM205, mm_up, e5]
        · simp [hM233, hM205, mm_up, e6]
        · simp [hM233, hM205, mm_up, e7]
        · simp [hM233, hM205, mm_up, e8]
        · intro j hj; simp [hM233, hM205, mm_up]; exact hst j hj
        · simp [hM233, hM205, mm_up]
        · rw [hM233, mm_up_s]
          first
          | exact mm_b1 ⟨by omega, h225⟩
          | exact mm_b0 (fun q => h225 q.2)
          | exact mm_b0 (fun q => h217 q.1)
      · refine mm_aload_n dX8_walk_220 rfl rfl ?_
        refine mm_get (kd := 0) dX8_walk_221 rfl fl_X8_54 (c := 117) rfl (by decide) rfl rfl ?_
        obtain ⟨v221, hv221⟩ : ∃ v, v = M205 117 5 := ⟨_, rfl⟩
        rw [← hv221]
        rw [hM205, mm_up_i (by decide), e5] at hv221
        subst hv221
        refine mm_iload_n dX8_walk_224 rfl rfl ?_
        refine mm_icne dX8_walk_225 (by omega) (by omega) (fun h225 => ?_) (fun h225 => ?_)
        · refine mm_iconst dX8_walk_232 rfl ?_
          refine mm_putz dX8_walk_233 rfl fl_X8_86 (c := 117) rfl (by decide) rfl rfl (Or.inl rfl) (fun M233 hM233 => ?_)
          have hR233 : mm_Rf M233 := by rw [hM233]; exact hR205.up rfl
          have hG233 : mm_ag M M233 := by rw [hM233]; exact hG205.up (by decide)
          refine mm_vret dX8_walk_236 rfl rfl ?_
          refine ⟨rfl, hR233, i, ⟨hi, hsf, hno⟩, fun a h1 h2 => ?_, ?_, ?_, ?_, ?_, ?_, ?_, ?_, ?_, ?_⟩
          · rw [hM233, mm_up_row h1, hM205, mm_up_row h1]; exact hfr a h1 h2
          · simp [hM233, hM205, mm_up, hlen]
          · simp [hM233, hM205, mm_up, e4]
          · simp [hM233, hM205, mm_up, e5]
          · simp [hM233, hM205, mm_up, e6]
          · simp [hM233, hM205, mm_up, e7]
          · simp [hM233, hM205, mm_up, e8]
          · intro j hj; simp [hM233, hM205, mm_up]; exact hst j hj
          · simp [hM233, hM205, mm_up]
          · rw [hM233, mm_up_s]
            first
            | exact mm_b1 ⟨by omega, h225⟩
            | exact mm_b0 (fun q => h225 q.2)
            | exact mm_b0 (fun q => h217 q.1)
        · refine mm_iconst dX8_walk_228 rfl ?_
          refine mm_goto dX8_walk_229 ?_
          refine mm_putz dX8_walk_233 rfl fl_X8_86 (c := 117) rfl (by decide) rfl rfl (Or.inr rfl) (fun M233 hM233 => ?_)
          have hR233 : mm_Rf M233 := by rw [hM233]; exact hR205.up rfl
          have hG233 : mm_ag M M233 := by rw [hM233]; exact hG205.up (by decide)
          refine mm_vret dX8_walk_236 rfl rfl ?_
          refine ⟨rfl, hR233, i, ⟨hi, hsf, hno⟩, fun a h1 h2 => ?_, ?_, ?_, ?_, ?_, ?_, ?_, ?_, ?_, ?_⟩
          · rw [hM233, mm_up_row h1, hM205, mm_up_row h1]; exact hfr a h1 h2
          · simp [hM233, hM205, mm_up, hlen]
          · simp [hM233, hM205, mm_up, e4]
          · simp [hM233, hM205, mm_up, e5]
          · simp [hM233, hM205, mm_up, e6]
          · simp [hM233, hM205, mm_up, e7]
          · simp [hM233, hM205, mm_up, e8]
          · intro j hj; simp [hM233, hM205, mm_up]; exact hst j hj
          · simp [hM233, hM205, mm_up]
          · rw [hM233, mm_up_s]
            first
            | exact mm_b1 ⟨by omega, h225⟩
            | exact mm_b0 (fun q => h225 q.2)
            | exact mm_b0 (fun q => h217 q.1)
    by_cases hlt : i < (M 117 2).toNat
    · have hai := ha i (by omega)
      have hw := hA.wi hK.1 hS hh
      have hp := ks_pw hK.1 (s := kf_run (M 4) s (M 118) i) hai hw.2
      have hg := ks_sureb hK.1 hai hw.1 hw.2
      have hslb := ks_slb hK.1 hai
      have ha1 := hai.1
      have ha2 := hai.2
      have hdb := ks_drb ha1
      by_cases hsafe : kj_P (M 4) (M 16) (M 17) s h (M 118) i
      · have hgoal : ks_st (M 4) (ks_to (M 4) (kf_run (M 4) s (M 118) i) (M 118 i)) := ks_to_st hK.1 hS hsafe.can
        refine mm_aload_n dX8_walk_25 rfl rfl ?_
        refine mm_get (kd := 0) dX8_walk_26 rfl fl_X8_51 (c := 117) rfl (by decide) rfl rfl ?_
        obtain ⟨v26, hv26⟩ : ∃ v, v = N 117 4 := ⟨_, rfl⟩
        rw [← hv26]
        rw [e4] at hv26
        subst hv26
        refine mm_aload_n dX8_walk_29 rfl rfl ?_
        refine mm_get (kd := 0) dX8_walk_30 rfl fl_X8_22 (c := 117) rfl (by decide) rfl rfl ?_
        obtain ⟨v30, hv30⟩ : ∃ v, v = N 117 2 := ⟨_, rfl⟩
        rw [← hv30]
        rw [hlen] at hv30
        subst hv30
        refine mm_icge dX8_walk_33 (by omega) (by omega) (fun h33 => ?_) (fun h33 => ?_)
        · exfalso; omega
        · refine mm_aload_n dX8_walk_36 rfl rfl ?_
          refine mm_aload_n dX8_walk_37 rfl rfl ?_
          refine mm_get (kd := 0) dX8_walk_38 rfl fl_X8_54 (c := 117) rfl (by decide) rfl rfl ?_
          obtain ⟨v38, hv38⟩ : ∃ v, v = N 117 5 := ⟨_, rfl⟩
          rw [← hv38]
          rw [e5] at hv38
          subst hv38
          refine mm_aload_n dX8_walk_41 rfl rfl ?_
          refine mm_getr dX8_walk_42 rfl fl_X8_13 (c := 117) rfl (by decide) rfl rfl (hRN.at (c := 117) (i := 0) (v := 119) rfl (by decide)) ?_
          refine mm_aload_n dX8_walk_45 rfl rfl ?_
          refine mm_get (kd := 0) dX8_walk_46 rfl fl_X8_51 (c := 117) rfl (by decide) rfl rfl ?_
          obtain ⟨v46, hv46⟩ : ∃ v, v = N 117 4 := ⟨_, rfl⟩
          rw [← hv46]
          rw [e4] at hv46
          subst hv46
          refine mm_ialk (k0 := i) dX8_walk_49 rfl (c := 118) rfl (by decide) rfl (by omega) (by omega) ?_
          rw [f118]
          refine mm_iload dX8_walk_50 rfl rfl ?_
          refine mm_V3i dX8_walk_52 rfl lk_X8_66 (c := 11) rfl (by decide) rfl (by simp) (by simp) (by simp) rfl rfl rfl (g_X0_isSafe hRN hG hK hA hS hai hh) ?_
          refine mm_ifeqb dX8_walk_55 (fun h55 => ?_) (fun h55 => ?_)
          · exact absurd hsafe h55
          · clear h55
            refine mm_aload_n dX8_walk_58 rfl rfl ?_
            refine mm_getr dX8_walk_59 rfl fl_X8_13 (c := 117) rfl (by decide) rfl rfl (hRN.at (c := 117) (i := 0) (v := 119) rfl (by decide)) ?_
            refine mm_aload_n dX8_walk_62 rfl rfl ?_
            refine mm_get (kd := 0) dX8_walk_63 rfl fl_X8_51 (c := 117) rfl (by decide) rfl rfl ?_
            obtain ⟨v63, hv63⟩ : ∃ v, v = N 117 4 := ⟨_, rfl⟩
            rw [← hv63]
            rw [e4] at hv63
            subst hv63
            refine mm_ialk (k0 := i) dX8_walk_66 rfl (c := 118) rfl (by decide) rfl (by omega) (by omega) ?_
            rw [f118]
            refine mm_istore dX8_walk_67 rfl (Nat.le_of_ble_eq_true rfl) rfl ?_
            refine mm_aload_n dX8_walk_69 rfl rfl ?_
            refine mm_aload_n dX8_walk_70 rfl rfl ?_
            refine mm_get (kd := 0) dX8_walk_71 rfl fl_X8_54 (c := 117) rfl (by decide) rfl rfl ?_
            obtain ⟨v71, hv71⟩ : ∃ v, v = N 117 5 := ⟨_, rfl⟩
            rw [← hv71]
            rw [e5] at hv71
            subst hv71
            refine mm_iload dX8_walk_74 rfl rfl ?_
            refine mm_iload dX8_walk_76 rfl rfl ?_
            refine mm_V3i dX8_walk_78 rfl lk_X8_72 (c := 11) rfl (by decide) rfl (by simp) (by simp) (by simp) rfl rfl rfl (g_X0_sureWork hRN hG hK hA hS hai hh) ?_
            refine mm_istore dX8_walk_81 rfl (Nat.le_of_ble_eq_true rfl) rfl ?_
            refine mm_aload_n dX8_walk_83 rfl rfl ?_
            refine mm_dup dX8_walk_84 rfl (by simp) ?_
            refine mm_get (kd := 0) dX8_walk_85 rfl fl_X8_57 (c := 117) rfl (by decide) rfl rfl ?_
            obtain ⟨v85, hv85⟩ : ∃ v, v = N 117 6 := ⟨_, rfl⟩
            rw [← hv85]
            rw [e6] at hv85
            subst hv85
            refine mm_iload dX8_walk_88 rfl rfl ?_
            refine mm_S1i dX8_walk_90 rfl lk_X8_76 (by simp) rfl rfl rfl (c_X4_drumOf (by omega)) ?_
            refine mm_iconst dX8_walk_93 rfl ?_
            refine mm_icne_d (q2 := 103) dX8_walk_94 (by omega) (by omega) (fun k => mm_iconst dX8_walk_102 rfl k) (fun k => mm_iload dX8_walk_97 rfl rfl (mm_goto dX8_walk_99 k)) ?_
            refine mm_iadd dX8_walk_103 rfl ?_
            refine mm_puti dX8_walk_104 rfl fl_X8_57 (c := 117) rfl (by decide) rfl rfl (fun M104 hM104 => ?_)
            have hR104 : mm_Rf M104 := by rw [hM104]; exact hRN.up rfl
            have hG104 : mm_ag M M104 := by rw [hM104]; exact hG.up (by decide)
            refine mm_aload_n dX8_walk_107 rfl rfl ?_
            refine mm_dup dX8_walk_108 rfl (by simp) ?_
            refine mm_get (kd := 0) dX8_walk_109 rfl fl_X8_60 (c := 117) rfl (by decide) rfl rfl ?_
            obtain ⟨v109, hv109⟩ : ∃ v, v = M104 117 7 := ⟨_, rfl⟩
            rw [← hv109]
            rw [hM104, mm_up_i (by decide), e7] at hv109
            subst hv109
            refine mm_iload dX8_walk_112 rfl rfl ?_
            refine mm_S1i dX8_walk_114 rfl lk_X8_76 (by simp) rfl rfl rfl (c_X4_drumOf (by omega)) ?_
            refine mm_iconst dX8_walk_117 rfl ?_
            refine mm_icne_d (q2 := 127) dX8_walk_118 (by omega) (by omega) (fun k => mm_iconst dX8_walk_126 rfl k) (fun k => mm_iload dX8_walk_121 rfl rfl (mm_goto dX8_walk_123 k)) ?_
            refine mm_isub dX8_walk_127 rfl ?_
            refine mm_puti dX8_walk_128 rfl fl_X8_60 (c := 117) rfl (by decide) rfl rfl (fun M128 hM128 => ?_)
            have hR128 : mm_Rf M128 := by rw [hM128]; exact hR104.up rfl
            have hG128 : mm_ag M M128 := by rw [hM128]; exact hG104.up (by decide)
            refine mm_aload_n dX8_walk_131 rfl rfl ?_
            refine mm_aload_n dX8_walk_132 rfl rfl ?_
            refine mm_get (kd := 0) dX8_walk_133 rfl fl_X8_63 (c := 117) rfl (by decide) rfl rfl ?_
            obtain ⟨v133, hv133⟩ : ∃ v, v = M128 117 8 := ⟨_, rfl⟩
            rw [← hv133]
            rw [hM128, mm_up_i (by decide), hM104, mm_up_i (by decide), e8] at hv133
            subst hv133
            refine mm_aload_n dX8_walk_136 rfl rfl ?_
            refine mm_aload_n dX8_walk_137 rfl rfl ?_
            refine mm_get (kd := 0) dX8_walk_138 rfl fl_X8_54 (c := 117) rfl (by decide) rfl rfl ?_
            obtain ⟨v138, hv138⟩ : ∃ v, v = M128 117 5 := ⟨_, rfl⟩
            rw [← hv138]
            rw [hM128, mm_up_i (by decide), hM104, mm_up_i (by decide), e5] at hv138
            subst hv138
            refine mm_iload dX8_walk_141 rfl rfl ?_
            refine mm_iload dX8_walk_143 rfl rfl ?_
            refine mm_iconst dX8_walk_145 rfl ?_
            refine mm_V4i dX8_walk_146 rfl lk_X8_79 (c := 11) rfl (by decide) rfl (by simp) (by simp) (by simp) (by simp) rfl rfl rfl (g_X0_pullBy1 hR128 hG128 hK hA hS hai hh) ?_
            refine mm_max dX8_walk_149 rfl lm_X8_7 rfl rfl (by simp) (by omega) (by omega) ?_
            refine mm_puti dX8_walk_152 rfl fl_X8_63 (c := 117) rfl (by decide) rfl rfl (fun M152 hM152 => ?_)
            have hR152 : mm_Rf M152 := by rw [hM152]; exact hR128.up rfl
            have hG152 : mm_ag M M152 := by rw [hM152]; exact hG128.up (by decide)
            refine mm_aload_n dX8_walk_155 rfl rfl ?_
            refine mm_getr dX8_walk_156 rfl fl_X8_19 (c := 117) rfl (by decide) rfl rfl (hR152.at (c := 117) (i := 1) (v := 120) rfl (by decide)) ?_
            refine mm_aload_n dX8_walk_159 rfl rfl ?_
            refine mm_get (kd := 0) dX8_walk_160 rfl fl_X8_51 (c := 117) rfl (by decide) rfl rfl ?_
            obtain ⟨v160, hv160⟩ : ∃ v, v = M152 117 4 := ⟨_, rfl⟩
            rw [← hv160]
            rw [hM152, mm_up_i (by decide), hM128, mm_up_i (by decide), hM104, mm_up_i (by decide), e4] at hv160
            subst hv160
            refine mm_aload_n dX8_walk_163 rfl rfl ?_
            refine mm_get (kd := 0) dX8_walk_164 rfl fl_X8_54 (c := 117) rfl (by decide) rfl rfl ?_
            obtain ⟨v164, hv164⟩ : ∃ v, v = M152 117 5 := ⟨_, rfl⟩
            rw [← hv164]
            rw [hM152, mm_up_i (by decide), hM128, mm_up_i (by decide), hM104, mm_up_i (by decide), e5] at hv164
            subst hv164
            refine mm_istk (k0 := i) dX8_walk_167 rfl (c := 119) rfl (by decide) rfl (by omega) (by omega) (fun M167 hM167 => ?_)
            have hR167 : mm_Rf M167 := by rw [hM167]; exact hR152.up (mm_rt_ar (t := 0) rfl (by decide))
            have hG167 : mm_ag M M167 := by rw [hM167]; exact hG152.up (by decide)
            refine mm_aload_n dX8_walk_168 rfl rfl ?_
            refine mm_aload_n dX8_walk_169 rfl rfl ?_
            refine mm_aload_n dX8_walk_170 rfl rfl ?_
            refine mm_get (kd := 0) dX8_walk_171 rfl fl_X8_54 (c := 117) rfl (by decide) rfl rfl ?_
            obtain ⟨v171, hv171⟩ : ∃ v, v = M167 117 5 := ⟨_, rfl⟩
            rw [← hv171]
            rw [hM167, mm_up_c (by decide), hM152, mm_up_i (by decide), hM128, mm_up_i (by decide), hM104, mm_up_i (by decide), e5] at hv171
            subst hv171
            refine mm_iload dX8_walk_174 rfl rfl ?_
            refine mm_V2i dX8_walk_176 rfl lk_X8_83 (c := 3) rfl (by decide) rfl (by simp) (by simp) rfl rfl rfl (g_X4_goal hR167 hG167 hK hS hai) ?_
            rw [if_pos hsafe.can]
            refine mm_puti dX8_walk_179 rfl fl_X8_54 (c := 117) rfl (by decide) rfl rfl (fun M179 hM179 => ?_)
            have hR179 : mm_Rf M179 := by rw [hM179]; exact hR167.up rfl
            have hG179 : mm_ag M M179 := by rw [hM179]; exact hG167.up (by decide)
            refine mm_aload_n dX8_walk_182 rfl rfl ?_
            refine mm_dup dX8_walk_183 rfl (by simp) ?_
            refine mm_get (kd := 0) dX8_walk_184 rfl fl_X8_51 (c := 117) rfl (by decide) rfl rfl ?_
            obtain ⟨v184, hv184⟩ : ∃ v, v = M179 117 4 := ⟨_, rfl⟩
            rw [← hv184]
            rw [hM179, mm_up_i (by decide), hM167, mm_up_c (by decide), hM152, mm_up_i (by decide), hM128, mm_up_i (by decide), hM104, mm_up_i (by decide), e4] at hv184
            subst hv184
            refine mm_iconst dX8_walk_187 rfl ?_
            refine mm_iadd dX8_walk_188 rfl ?_
            refine mm_puti dX8_walk_189 rfl fl_X8_51 (c := 117) rfl (by decide) rfl rfl (fun M189 hM189 => ?_)
            have hR189 : mm_Rf M189 := by rw [hM189]; exact hR179.up rfl
            have hG189 : mm_ag M M189 := by rw [hM189]; exact hG179.up (by decide)
            refine mm_goto dX8_walk_192 ?_
            refine ih hlt _ _ _ hR189 ?_ ?_ ?_ ?_ ?_ ?_ ?_ ?_ ?_
            · intro j hj
              by_cases q : j = i
              · rw [q]; exact hsafe
              · exact hsf j (by omega)
            · intro a h1 h2; funext b; simp [hM189, hM179, hM167, hM152, hM128, hM104, mm_up, h1, h2]; rw [hfr a h1 h2]
            · simp [hM189, hM179, hM167, hM152, hM128, hM104, mm_up, hlen]
            · simp [hM189, hM179, hM167, hM152, hM128, hM104, mm_up, e4]
            · simp [hM189, hM179, hM167, hM152, hM128, hM104, mm_up]; rfl
            · simp [hM189, hM179, hM167, hM152, hM128, hM104, mm_up]
              unfold kj_won
              rw [ka_sum]
              rfl
            · simp [hM189, hM179, hM167, hM152, hM128, hM104, mm_up]
              unfold kj_spent
              rw [ka_sum]
              split <;> simp [kj_g, Int.sub_eq_add_neg]
            · simp [hM189, hM179, hM167, hM152, hM128, hM104, mm_up]; rfl
            · intro j hj
              by_cases q : j = i
              · simp [hM189, hM179, hM167, hM152, hM128, hM104, mm_up, q]
              · simp [hM189, hM179, hM167, hM152, hM128, hM104, mm_up, q]; exact hst j (by omega)
      · refine mm_aload_n dX8_walk_25 rfl rfl ?_
        refine mm_get (kd := 0) dX8_walk_26 rfl fl_X8_51 (c := 117) rfl (by decide) rfl rfl ?_
        obtain ⟨v26, hv26⟩ : ∃ v, v = N 117 4 := ⟨_, rfl⟩
        rw [← hv26]
        rw [e4] at hv26
        subst hv26
        refine mm_aload_n dX8_walk_29 rfl rfl ?_
        refine mm_get (kd := 0) dX8_walk_30 rfl fl_X8_22 (c := 117) rfl (by decide) rfl rfl ?_
        obtain ⟨v30, hv30⟩ : ∃ v, v = N 117 2 := ⟨_, rfl⟩
        rw [← hv30]
        rw [hlen] at hv30
        subst hv30
        refine mm_icge dX8_walk_33 (by omega) (by omega) (fun h33 => ?_) (fun h33 => ?_)
        · exfalso; omega
        · refine mm_aload_n dX8_walk_36 rfl rfl ?_
          refine mm_aload_n dX8_walk_37 rfl rfl ?_
          refine mm_get (kd := 0) dX8_walk_38 rfl fl_X8_54 (c := 117) rfl (by decide) rfl rfl ?_
          obtain ⟨v38, hv38⟩ : ∃ v, v = N 117 5 := ⟨_, rfl⟩
          rw [← hv38]
          rw [e5] at hv38
          subst hv38
          refine mm_aload_n dX8_walk_41 rfl rfl ?_
          refine mm_getr dX8_walk_42 rfl fl_X8_13 (c := 117) rfl (by decide) rfl rfl (hRN.at (c := 117) (i := 0) (v := 119) rfl (by decide)) ?_
          refine mm_aload_n dX8_walk_45 rfl rfl ?_
          refine mm_get (kd := 0) dX8_walk_46 rfl fl_X8_51 (c := 117) rfl (by decide) rfl rfl ?_
          obtain ⟨v46, hv46⟩ : ∃ v, v = N 117 4 := ⟨_, rfl⟩
          rw [← hv46]
          rw [e4] at hv46
          subst hv46
          refine mm_ialk (k0 := i) dX8_walk_49 rfl (c := 118) rfl (by decide) rfl (by omega) (by omega) ?_
          rw [f118]
          refine mm_iload dX8_walk_50 rfl rfl ?_
          refine mm_V3i dX8_walk_52 rfl lk_X8_66 (c := 11) rfl (by decide) rfl (by simp) (by simp) (by simp) rfl rfl rfl (g_X0_isSafe hRN hG hK hA hS hai hh) ?_
          refine mm_ifeqb dX8_walk_55 (fun h55 => ?_) (fun h55 => ?_)
          · exact fin (fun _ => hsafe)
          · exact absurd h55 hsafe
    · refine mm_aload_n dX8_walk_25 rfl rfl ?_
      refine mm_get (kd := 0) dX8_walk_26 rfl fl_X8_51 (c := 117) rfl (by decide) rfl rfl ?_
      obtain ⟨v26, hv26⟩ : ∃ v, v = N 117 4 := ⟨_, rfl⟩
      rw [← hv26]
      rw [e4] at hv26
      subst hv26
      refine mm_aload_n dX8_walk_29 rfl rfl ?_
      refine mm_get (kd := 0) dX8_walk_30 rfl fl_X8_22 (c := 117) rfl (by decide) rfl rfl ?_
      obtain ⟨v30, hv30⟩ : ∃ v, v = N 117 2 := ⟨_, rfl⟩
      rw [← hv30]
      rw [hlen] at hv30
      subst hv30
      refine mm_icge dX8_walk_33 (by omega) (by omega) (fun h33 => ?_) (fun h33 => ?_)
      · exact fin (fun q => absurd q hlt)
      · exfalso; omega
  refine mm_aload_n dX8_walk_0 rfl rfl ?_
  refine mm_iconst dX8_walk_1 rfl ?_
  refine mm_puti dX8_walk_2 rfl fl_X8_51 (c := 117) rfl (by decide) rfl rfl (fun M2 hM2 => ?_)
  have hR2 : mm_Rf M2 := by rw [hM2]; exact hR.up rfl
  refine mm_aload_n dX8_walk_5 rfl rfl ?_
  refine mm_iload_n dX8_walk_6 rfl rfl ?_
  refine mm_puti dX8_walk_7 rfl fl_X8_54 (c := 117) rfl (by decide) rfl rfl (fun M7 hM7 => ?_)
  have hR7 : mm_Rf M7 := by rw [hM7]; exact hR2.up rfl
  refine mm_aload_n dX8_walk_10 rfl rfl ?_
  refine mm_iconst dX8_walk_11 rfl ?_
  refine mm_puti dX8_walk_12 rfl fl_X8_57 (c := 117) rfl (by decide) rfl rfl (fun M12 hM12 => ?_)
  have hR12 : mm_Rf M12 := by rw [hM12]; exact hR7.up rfl
  refine mm_aload_n dX8_walk_15 rfl rfl ?_
  refine mm_iconst dX8_walk_16 rfl ?_
  refine mm_puti dX8_walk_17 rfl fl_X8_60 (c := 117) rfl (by decide) rfl rfl (fun M17 hM17 => ?_)
  have hR17 : mm_Rf M17 := by rw [hM17]; exact hR12.up rfl
  refine mm_aload_n dX8_walk_20 rfl rfl ?_
  refine mm_iconst dX8_walk_21 rfl ?_
  refine mm_puti dX8_walk_22 rfl fl_X8_63 (c := 117) rfl (by decide) rfl rfl (fun M22 hM22 => ?_)
  have hR22 : mm_Rf M22 := by rw [hM22]; exact hR17.up rfl
  refine loop 0 (Nat.zero_le _) _ _ _ hR22 (fun j q => absurd q (Nat.not_lt_zero j)) ?_ ?_ ?_ ?_ ?_ ?_ ?_ (fun j q => absurd q (Nat.not_lt_zero j))
  · intro a h1 h2; funext b; simp [hM22, hM17, hM12, hM7, hM2, mm_up, h1]
  all_goals (simp [hM22, hM17, hM12, hM7, hM2, mm_up]; try rfl)
end

