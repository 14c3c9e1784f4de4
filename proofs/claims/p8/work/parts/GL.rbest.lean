/-! ===== the reference: best ===== -/
section
variable {X : mm_X} {M : mm_M} {h : Int} {n : Nat}
/-- a loop of acts is a loop of steps -/
theorem ke_of_lp {K Lo Hi F G : Nat → Int} (hK : mm_KV K) (hn : ks_n K = (n : Int)) (hP : ∀ x, x < 15 * n → ke_P K Lo Hi h ((x / 15 : Nat) : Int) (x % 15) (K 10).toNat (F x) (G x)) (hS : ke_S K n F G)
    {s : Int} {B : Nat → Int} {m : Nat} (hl : kb_lp K Lo Hi h s B m) : ∃ p g m, gL (ke_E K n F G) p g m := by
  have st := hl.st hK
  refine ⟨fun j => (kf_run K s B j).toNat, fun j => G (15 * (kf_run K s B j).toNat + (B j % 15).toNat), m, fun j hj => ?_, hl.1, ?_⟩
  · have q := st j (by omega)
    have q2 := st (j + 1) (by omega)
    obtain ⟨a1, a2⟩ := hl.2.2.1 j hj
    obtain ⟨u, hu⟩ : ∃ u : Nat, kf_run K s B j = (u : Int) := ⟨(kf_run K s B j).toNat, by have := q.1; omega⟩
    obtain ⟨x, hx⟩ : ∃ x : Nat, B j % 15 = (x : Int) := ⟨(B j % 15).toNat, by omega⟩
    have hun : u < n := by have := q.2; omega
    have e1 : (15 * u + x) / 15 = u := by omega
    have e2 : (15 * u + x) % 15 = x := by omega
    have p := hP (15 * u + x) (by omega)
    rw [e1, e2] at p
    rw [hu] at a2
    obtain ⟨f1, -⟩ := (ke_P_act hK rfl (by omega) p).1 (B j) a1 hx a2
    have stt := (hS.t (i := 15 * u + x) (by omega) f1).1
    rw [e1, e2, ← ks_to_m a1 hx] at stt
    have er : kf_run K s B (j + 1) = ks_to K (u : Int) (B j) := by show ks_to K (kf_run K s B j) (B j) = _; rw [hu]
    refine ⟨15 * u + x, by omega, f1, ?_, ?_, ?_⟩
    · show (kf_run K s B j).toNat = _
      rw [hu, e1]; omega
    · show (kf_run K s B (j + 1)).toNat = _
      rw [er, ← stt]; omega
    · show G (15 * (kf_run K s B j).toNat + (B j % 15).toNat) = _
      rw [hu, hx, show ((u : Int)).toNat = u by omega, show ((x : Int)).toNat = x by omega]
  · show (kf_run K s B m).toNat = (kf_run K s B 0).toNat
    rw [hl.2.2.2]; rfl
theorem kb_lp.acts {K Lo Hi : Nat → Int} {h s : Int} {A A' : Nat → Int} {n : Nat} (hA : ∀ j, j < n → A' j = A j) (hl : kb_lp K Lo Hi h s A n) : kb_lp K Lo Hi h s A' n ∧ kb_sm K Lo Hi h s A' n = kb_sm K Lo Hi h s A n := by
  have er : ∀ j, j ≤ n → kf_run K s A' j = kf_run K s A j := fun j hj => kf_run_congr rfl (fun i hi => hA i (by omega))
  refine ⟨⟨hl.1, hl.2.1, fun j hj => by rw [er j (by omega), hA j hj]; exact hl.2.2.1 j hj, by rw [er n (Nat.le_refl n)]; exact hl.2.2.2⟩, ?_⟩
  unfold kb_sm
  exact ka_sum_congr (fun j hj => by unfold kj_g; rw [er j (by omega), hA j hj])
theorem kb_is.acts {K Lo Hi : Nat → Int} {h w : Int} {N : Nat} {A A' T T' : Nat → Int} (q : kb_is K Lo Hi h (N : Int) w A T) (hA : ∀ j, j < N → A' j = A j) (hT : ∀ j, j < N → T' j = T j) : kb_is K Lo Hi h (N : Int) w A' T' := by
  rcases q with q | ⟨n, e, n2, l, w1, s1, m1⟩
  · exact Or.inl q
  · have en : N = n := by omega
    subst en
    have T0 : T' 0 = T 0 := hT 0 (by have := l.1; omega)
    obtain ⟨l2, w2⟩ := l.acts hA
    refine Or.inr ⟨N, rfl, n2, by rw [T0]; exact l2, by rw [T0, w2]; exact w1, fun j hj => ?_, fun s B m hB => ?_⟩
    · rw [T0, hT j hj, s1 j hj]
      exact (kf_run_congr rfl (fun i hi => hA i (by omega))).symm
    · have := m1 s B m hB
      unfold kb_le at this ⊢
      rw [T0]
      rcases this with z | ⟨z1, z2 | ⟨z2, z3 | ⟨z3, z4⟩⟩⟩
      · exact Or.inl z
      · exact Or.inr ⟨z1, Or.inl z2⟩
      · exact Or.inr ⟨z1, Or.inr ⟨z2, Or.inl z3⟩⟩
      · refine Or.inr ⟨z1, Or.inr ⟨z2, Or.inr ⟨z3, ?_⟩⟩⟩
        rcases z4 with y | ⟨j, y1, y2, y3⟩
        · exact Or.inl (fun j hj => by rw [hA j hj]; exact y j hj)
        · exact Or.inr ⟨j, y1, fun i hi => by rw [hA i (by omega)]; exact y2 i hi, by rw [hA j y1]; exact y3⟩
/-- what best leaves: only the cells of the search and of the best loop change -/
def kz_V (M N : mm_M) : Prop := mm_Rf N ∧ (∀ a, a ≠ 183 → ¬ (205 ≤ a ∧ a ≤ 214) → N a = M a) ∧ ∀ b, b ≠ 39 → b ≠ 40 → ¬ (46 ≤ b ∧ b ≤ 54) → N 183 b = M 183 b
theorem c_X13_best (hR : mm_Rf M) (hK : mm_KV (mm_rk M)) (hA : mm_RA M) (hr : mm_R h) (hn : ks_n (mm_rk M) = (n : Int)) :
    mm_C X Y_X13_best 243 243 [(2, 184), (0, h)] M (fun r M' => ∃ x, r = (0, x) ∧ mm_Rf M' ∧ kz_V M M' ∧
      ((¬ ks_hr h ∧ x = -2 ∧ (∀ b, 50 ≤ b → M' 183 b = M 183 b) ∧ M' 214 = M 214) ∨ (ks_hr h ∧ x = -1 ∧ (∀ b, 50 ≤ b → M' 183 b = M 183 b) ∧ M' 214 = M 214 ∧ ∀ s B m, ¬ kb_lp (mm_rk M) (M 203) (M 204) h s B m) ∨
       (ks_hr h ∧ x = M' 183 50 ∧ 1 ≤ x ∧ M' 183 54 = 1 ∧ kb_is (mm_rk M) (M 203) (M 204) h (M' 183 50) (M' 183 51) (M' 214) (fun j => kf_run (mm_rk M) (M' 183 52) (M' 214) j)))) := by
  obtain ⟨Ψ, hΨ⟩ : ∃ Ψ : Int → mm_M → Prop, Ψ = (fun x M' => kz_V M M' ∧
      ((¬ ks_hr h ∧ x = -2 ∧ (∀ b, 50 ≤ b → M' 183 b = M 183 b) ∧ M' 214 = M 214) ∨ (ks_hr h ∧ x = -1 ∧ (∀ b, 50 ≤ b → M' 183 b = M 183 b) ∧ M' 214 = M 214 ∧ ∀ s B m, ¬ kb_lp (mm_rk M) (M 203) (M 204) h s B m) ∨
       (ks_hr h ∧ x = M' 183 50 ∧ 1 ≤ x ∧ M' 183 54 = 1 ∧ kb_is (mm_rk M) (M 203) (M 204) h (M' 183 50) (M' 183 51) (M' 214) (fun j => kf_run (mm_rk M) (M' 183 52) (M' 214) j)))) := ⟨_, rfl⟩
  obtain ⟨Φ, hΦ⟩ : ∃ Φ : mm_V → mm_M → Prop, Φ = (fun r M' => ∃ x, r = (0, x) ∧ mm_Rf M' ∧ Ψ x M') := ⟨_, rfl⟩
  have hgoal : (fun r M' => ∃ x, r = (0, x) ∧ mm_Rf M' ∧ kz_V M M' ∧
      ((¬ ks_hr h ∧ x = -2 ∧ (∀ b, 50 ≤ b → M' 183 b = M 183 b) ∧ M' 214 = M 214) ∨ (ks_hr h ∧ x = -1 ∧ (∀ b, 50 ≤ b → M' 183 b = M 183 b) ∧ M' 214 = M 214 ∧ ∀ s B m, ¬ kb_lp (mm_rk M) (M 203) (M 204) h s B m) ∨
       (ks_hr h ∧ x = M' 183 50 ∧ 1 ≤ x ∧ M' 183 54 = 1 ∧ kb_is (mm_rk M) (M 203) (M 204) h (M' 183 50) (M' 183 51) (M' 214) (fun j => kf_run (mm_rk M) (M' 183 52) (M' 214) j)))) = Φ := by rw [hΦ, hΨ]
  rw [hgoal]
  have hnb := ks_nb hK
  have hn2 : n ≤ 288 := by omega
  -- the acts are told again
  have copy : ∀ Q, kz_V M Q → 1 ≤ Q 183 50 → Q 183 50 ≤ 288 → Q 183 48 = Q 183 50 → kb_is (mm_rk M) (M 203) (M 204) h (Q 183 50) (Q 183 51) (Q 213) (fun j => kf_run (mm_rk M) (Q 183 52) (Q 213) j) → ks_hr h →
      ∀ k : Nat, (k : Int) ≤ Q 183 50 → ∀ P, mm_Rf P → (∀ a, a ≠ 214 → P a = Q a) → (∀ j, j < k → P 214 j = Q 213 j) → mm_J X Y_X13_best 243 243 243 51 [(2, 184), (0, h), (0, (k : Int))] [] P Φ := by
    intro Q hQ q1 q2 q3 q4 hh
    obtain ⟨N, hN⟩ : ∃ N : Nat, Q 183 50 = (N : Int) := ⟨(Q 183 50).toNat, by omega⟩
    have main : ∀ k : Nat, k ≤ N → ∀ P, mm_Rf P → (∀ a, a ≠ 214 → P a = Q a) → (∀ j, j < k → P 214 j = Q 213 j) → mm_J X Y_X13_best 243 243 243 51 [(2, 184), (0, h), (0, (k : Int))] [] P Φ := by
      refine mm_lp ?_
      intro k hk ih P hRP f1 f2
      have e48 : P 183 48 = (N : Int) := by rw [f1 183 (by decide), q3, hN]
      have e50 : P 183 50 = (N : Int) := by rw [f1 183 (by decide), hN]
      by_cases hlt : k < N
      · refine mm_iload_n dX13_best_51 rfl rfl ?_
        refine mm_aload_n dX13_best_52 rfl rfl ?_
        refine mm_get (kd := 0) dX13_best_53 rfl fl_X13_576 (c := 183) rfl (by decide) rfl rfl ?_
        rw [e48]
        refine mm_icge dX13_best_56 (by omega) (by omega) (fun h56 => ?_) (fun h56 => ?_)
        · exfalso; omega
        · refine mm_aload_n dX13_best_59 rfl rfl ?_
          refine mm_getr dX13_best_60 rfl fl_X13_289 (c := 183) rfl (by decide) rfl rfl (hRP.at (c := 183) (i := 53) (v := 215) rfl (by decide)) ?_
          refine mm_iload_n dX13_best_63 rfl rfl ?_
          refine mm_aload_n dX13_best_64 rfl rfl ?_
          refine mm_getr dX13_best_65 rfl fl_X13_286 (c := 183) rfl (by decide) rfl rfl (hRP.at (c := 183) (i := 49) (v := 214) rfl (by decide)) ?_
          refine mm_iload_n dX13_best_68 rfl rfl ?_
          refine mm_ialk (k0 := k) dX13_best_69 rfl (c := 213) rfl (by decide) rfl (by omega) (by omega) ?_
          refine mm_istk (k0 := k) dX13_best_70 rfl (c := 214) rfl (by decide) rfl (by omega) (by omega) (fun M70 hM70 => ?_)
          have hR70 : mm_Rf M70 := by rw [hM70]; exact hRP.up (mm_rt_ar (t := 0) rfl (by decide))
          refine mm_iinc dX13_best_71 rfl rfl (Nat.le_of_ble_eq_true rfl) rfl ?_
          refine mm_goto dX13_best_74 ?_
          have go := ih hlt _ hR70 (fun a a1 => by rw [hM70, mm_up_row a1]; exact f1 a a1) (fun j hj => by
            by_cases c : j = k
            · rw [c, hM70, mm_up_s, f1 213 (by decide)]
            · rw [hM70, mm_up_i c]; exact f2 j (by omega))
          rw [show ((k + 1 : Nat) : Int) = (k : Int) + 1 by omega] at go
          exact go
      · have ek : k = N := by omega
        subst ek
        refine mm_iload_n dX13_best_51 rfl rfl ?_
        refine mm_aload_n dX13_best_52 rfl rfl ?_
        refine mm_get (kd := 0) dX13_best_53 rfl fl_X13_576 (c := 183) rfl (by decide) rfl rfl ?_
        rw [e48]
        refine mm_icge dX13_best_56 (by omega) (by omega) (fun h56 => ?_) (fun h56 => ?_)
        · refine mm_aload_n dX13_best_77 rfl rfl ?_
          refine mm_iconst dX13_best_78 rfl ?_
          refine mm_putz dX13_best_79 rfl fl_X13_598 (c := 183) rfl (by decide) rfl rfl (Or.inr rfl) (fun M79 hM79 => ?_)
          have hR79 : mm_Rf M79 := by rw [hM79]; exact hRP.up rfl
          refine mm_aload_n dX13_best_82 rfl rfl ?_
          refine mm_get (kd := 0) dX13_best_83 rfl fl_X13_589 (c := 183) rfl (by decide) rfl rfl ?_
          refine mm_iret dX13_best_86 rfl rfl ?_
          rw [hΦ]; refine ⟨_, rfl, hR79, ?_⟩
          rw [hΨ]
          have g1 : ∀ a, a ≠ 183 → a ≠ 214 → M79 a = Q a := fun a a1 a2 => by rw [hM79, mm_up_row a1]; exact f1 a a2
          have g2 : ∀ b, b ≠ 54 → M79 183 b = Q 183 b := fun b b1 => by rw [hM79, mm_up_i b1, f1 183 (by decide)]
          have g3 : M79 214 = P 214 := by rw [hM79, mm_up_row (by decide)]
          refine ⟨⟨hR79, fun a a1 a2 => by rw [g1 a a1 (by omega)]; exact hQ.2.1 a a1 a2, fun b b1 b2 b3 => by rw [g2 b (by omega)]; exact hQ.2.2 b b1 b2 b3⟩, Or.inr (Or.inr ⟨hh, rfl, by rw [g2 50 (by decide), hN]; omega, by rw [hM79, mm_up_s], ?_⟩)⟩
          rw [g2 50 (by decide), g2 51 (by decide), g2 52 (by decide), g3, hN]
          rw [hN] at q4
          refine kb_is.acts q4 (fun j hj => f2 j (by omega)) (fun j hj => kf_run_congr rfl (fun i hi => f2 i (by omega)))
        · exfalso; omega
    intro k hk
    exact main k (by omega)
  refine mm_start (ls := [(2, 184), (0, h), (9, 0)]) rfl ?_
  by_cases hh : ks_hr h
  · have ch := c_X13_isHour (X := X) (M := M) (x := h) hr
    rw [mm_b_t hh] at ch
    have cl := c_X13_findLoop (X := X) hR hK hA hh hn
    have zl : mm_C X Y_X13_findLoop 243 243 [(2, 184), (0, h)] M (fun r M' => ∃ x, r = (0, x) ∧ mm_Rf M' ∧ kw_L M M' h n ∧ ((x = 0 ∧ M' 183 40 = 0 ∧ ¬ ∃ p g m, gL (ke_E (mm_rk M) n (M' 205) (M' 206)) p g m) ∨ (x = 1 ∧ kw_mean (ke_E (mm_rk M) n (M' 205) (M' 206)) (M' 183 39) (M' 183 40)))) := by
      refine mm_C.mono cl ?_
      rintro r N ⟨q1, ⟨q2, q3⟩ | ⟨q2, q3⟩⟩
      · exact ⟨0, q2, q1.1, q1, Or.inl ⟨rfl, q3⟩⟩
      · exact ⟨1, q2, q1.1, q1, Or.inr ⟨rfl, q3⟩⟩
    have two : ∀ N, kw_L M N h n → kw_mean (ke_E (mm_rk M) n (N 205) (N 206)) (N 183 39) (N 183 40) → mm_C X Y_X13_findActs 243 243 [(2, 184), (0, h)] N (fun r M' => r = (3, 0) ∧ mm_Rf M' ∧ kz_A N M' h) := by
      rintro N ⟨l1, l2, l3, l4, l5, l6⟩ hm
      have rk : mm_rk N = mm_rk M := mm_rk.fr (fun a b q => by
        by_cases c : a = 183
        · rw [c]; exact l3 b (by omega) (by omega)
        · rw [l2 a c (by omega) (by omega) (by omega)])
      have e3 : N 203 = M 203 := l2 203 (by decide) (by decide) (by decide) (by decide)
      have e4 : N 204 = M 204 := l2 204 (by decide) (by decide) (by decide) (by decide)
      exact c_X13_findActs l1 (by rw [rk]; exact hK) (by unfold mm_RA at hA ⊢; rw [e3, e4]; exact hA) hh (by rw [rk]; exact hn) (by rw [rk, e3, e4]; exact l4) (by rw [rk]; exact l5) l6 (by rw [rk]; exact hm)
    refine mm_iload_n dX13_best_0 rfl rfl ?_
    refine mm_S1i dX13_best_1 rfl lk_X13_486 (by simp) rfl rfl rfl (ch) ?_
    refine mm_ifne dX13_best_4 (by omega) (fun _ => ?_) (fun h => absurd h (by decide))
    refine mm_aload_n dX13_best_10 rfl rfl ?_
    refine mm_iload_n dX13_best_11 rfl rfl ?_
    refine mm_V1g (M1 := M) dX13_best_12 rfl lk_X13_583 (c := 183) rfl (by decide) rfl (by simp) rfl rfl rfl (zl) ?_
    rintro _ N12 ⟨x12, rfl, p12⟩
    change mm_J _ _ _ _ _ _ _ _ _ _
    have hR12 : mm_Rf N12 := p12.1
    have hx12 : x12 = 0 ∨ x12 = 1 := by rcases p12.2.2 with ⟨z, -⟩ | ⟨z, -⟩ <;> omega
    refine mm_ifne dX13_best_15 (by omega) (fun h15 => ?_) (fun h15 => ?_)
    · refine mm_aload_n dX13_best_20 rfl rfl ?_
      refine mm_iload_n dX13_best_21 rfl rfl ?_
      refine mm_V1g (M1 := N12) dX13_best_22 rfl lk_X13_586 (c := 183) rfl (by decide) rfl (by simp) rfl rfl rfl (two N12 p12.2.1 (by rcases p12.2.2 with ⟨z, -⟩ | ⟨-, z⟩ <;> first | exact absurd z h15 | exact z)) ?_
      rintro _ N22 ⟨rfl, p22⟩
      change mm_J _ _ _ _ _ _ _ _ _ _
      have hR22 : mm_Rf N22 := p22.1
      refine mm_aload_n dX13_best_25 rfl rfl ?_
      refine mm_aload_n dX13_best_26 rfl rfl ?_
      refine mm_get (kd := 0) dX13_best_27 rfl fl_X13_576 (c := 183) rfl (by decide) rfl rfl ?_
      refine mm_puti dX13_best_30 rfl fl_X13_589 (c := 183) rfl (by decide) rfl rfl (fun M30 hM30 => ?_)
      have hR30 : mm_Rf M30 := by rw [hM30]; exact hR22.up rfl
      refine mm_aload_n dX13_best_33 rfl rfl ?_
      refine mm_aload_n dX13_best_34 rfl rfl ?_
      refine mm_get (kd := 0) dX13_best_35 rfl fl_X13_570 (c := 183) rfl (by decide) rfl rfl ?_
      refine mm_puti dX13_best_38 rfl fl_X13_592 (c := 183) rfl (by decide) rfl rfl (fun M38 hM38 => ?_)
      have hR38 : mm_Rf M38 := by rw [hM38]; exact hR30.up rfl
      refine mm_aload_n dX13_best_41 rfl rfl ?_
      refine mm_aload_n dX13_best_42 rfl rfl ?_
      refine mm_get (kd := 0) dX13_best_43 rfl fl_X13_573 (c := 183) rfl (by decide) rfl rfl ?_
      refine mm_puti dX13_best_46 rfl fl_X13_595 (c := 183) rfl (by decide) rfl rfl (fun M46 hM46 => ?_)
      have hR46 : mm_Rf M46 := by rw [hM46]; exact hR38.up rfl
      refine mm_iconst dX13_best_49 rfl ?_
      refine mm_istore_n dX13_best_50 rfl (Nat.le_of_ble_eq_true rfl) rfl ?_
      obtain ⟨l1, l2, l3, l4, l5, l6⟩ := p12.2.1
      obtain ⟨a1, a2, a3, a4, a5⟩ := p22.2
      have rk : mm_rk N12 = mm_rk M := mm_rk.fr (fun a b q => by
        by_cases c : a = 183
        · rw [c]; exact l3 b (by omega) (by omega)
        · rw [l2 a c (by omega) (by omega) (by omega)])
      rw [rk, l2 203 (by decide) (by decide) (by decide) (by decide), l2 204 (by decide) (by decide) (by decide) (by decide)] at a5
      have e50 : M46 183 50 = N22 183 48 := by rw [hM46, mm_up_i (by decide), hM38, mm_up_i (by decide), hM30, mm_up_s]
      have e51 : M46 183 51 = N22 183 46 := by rw [hM46, mm_up_i (by decide), hM38, mm_up_s, hM30, mm_up_i (by decide)]
      have e52 : M46 183 52 = N22 183 47 := by rw [hM46, mm_up_s, hM38, mm_up_i (by decide), hM30, mm_up_i (by decide)]
      have e48 : M46 183 48 = N22 183 48 := by rw [hM46, mm_up_i (by decide), hM38, mm_up_i (by decide), hM30, mm_up_i (by decide)]
      have eA : M46 213 = N22 213 := by rw [hM46, mm_up_row (by decide), hM38, mm_up_row (by decide), hM30, mm_up_row (by decide)]
      have len : N22 183 48 ≤ 288 := by
        rcases a5 with ⟨z, -⟩ | ⟨z, z1, z2, -⟩ <;> omega
      exact copy M46 ⟨hR46, fun a b1 b2 => by rw [hM46, mm_up_row b1, hM38, mm_up_row b1, hM30, mm_up_row b1, a2 a b1 (by omega) (by omega) (by omega) (by omega) (by omega) (by omega)]; exact l2 a b1 (by omega) (by omega) (by omega), fun b b1 b2 b3 => by rw [hM46, mm_up_i (by omega), hM38, mm_up_i (by omega), hM30, mm_up_i (by omega), a3 b (by omega) (by omega) (by omega)]; exact l3 b b1 b2⟩ (by rw [e50]; exact a4) (by rw [e50]; exact len) (by rw [e50, e48]) (by rw [e50, e51, e52, eA]; exact a5) hh 0 (by rw [e50]; omega) M46 hR46 (fun _ _ => rfl) (fun j hj => absurd hj (by omega))
    · refine mm_iconst dX13_best_18 rfl ?_
      refine mm_iret dX13_best_19 rfl rfl ?_
      have hno : ¬ ∃ p g m, gL (ke_E (mm_rk M) n (N12 205) (N12 206)) p g m := by
        rcases p12.2.2 with ⟨-, -, z⟩ | ⟨z, -⟩
        · exact z
        · exfalso; omega
      rw [hΦ]; refine ⟨_, rfl, hR12, ?_⟩
      rw [hΨ]
      obtain ⟨l1, l2, l3, l4, l5, l6⟩ := p12.2.1
      refine ⟨⟨l1, fun a a1 a2 => l2 a a1 (by omega) (by omega) (by omega), fun b b1 b2 _ => l3 b b1 b2⟩, Or.inr (Or.inl ⟨hh, rfl, fun b hb => l3 b (by omega) (by omega), l2 214 (by decide) (by decide) (by decide) (by decide), fun s B m q => hno (ke_of_lp hK hn l4 l5 q)⟩)⟩
  · have ch := c_X13_isHour (X := X) (M := M) (x := h) hr
    rw [mm_b_f hh] at ch
    refine mm_iload_n dX13_best_0 rfl rfl ?_
    refine mm_S1i dX13_best_1 rfl lk_X13_486 (by simp) rfl rfl rfl (ch) ?_
    refine mm_ifne dX13_best_4 (by omega) (fun h => absurd h (by decide)) (fun _ => ?_)
    refine mm_bipush dX13_best_7 rfl (by decide) ?_
    refine mm_iret dX13_best_9 rfl rfl ?_
    rw [hΦ]; refine ⟨_, rfl, hR, ?_⟩
    rw [hΨ]
    exact ⟨⟨hR, fun _ _ _ => rfl, fun _ _ _ _ => rfl⟩, Or.inl ⟨hh, rfl, fun _ _ => rfl, rfl⟩⟩
end

