/-! ===== KitePower$Hours: weigh, choose; KitePower: plan ===== -/
/-- what an hour is given to weigh -/
def kP_gz (K Lo Hi : Nat → Int) (h each fall x : Int) : Prop := (kZ ∨ kP_g K Lo Hi h each fall x) ∧ -60000000 ≤ x ∧ x ≤ 85536000
theorem kP_wb {each fall len w : Int} (he : 1 ≤ each ∧ each ≤ 60) (hf : 0 ≤ fall ∧ fall ≤ 1000000) (hl : 0 ≤ len) (hw : -1000000 * len ≤ w ∧ w ≤ 1425600 * len ∨ len = 0) : -60000000 ≤ (if 0 < len then (each * w).tdiv len else -fall) ∧ (if 0 < len then (each * w).tdiv len else -fall) ≤ 85536000 := by
  by_cases c : 0 < len
  · rw [if_pos c]
    have hw := hw.resolve_right (by omega)
    have l := Int.mul_le_mul_of_nonneg_left hw.1 (by omega : 0 ≤ each)
    have u := Int.mul_le_mul_of_nonneg_left hw.2 (by omega : 0 ≤ each)
    have b1 : each * (1000000 * len) ≤ 60 * (1000000 * len) := Int.mul_le_mul_of_nonneg_right he.2 (by omega)
    have b2 : each * (1425600 * len) ≤ 60 * (1425600 * len) := Int.mul_le_mul_of_nonneg_right he.2 (by omega)
    have e3 : each * (-1000000 * len) = -(each * (1000000 * len)) := by rw [show -1000000 * len = -(1000000 * len) by omega, Int.mul_neg]
    exact tdivb (by omega) (by omega) (by omega) (by omega) (by omega)
  · rw [if_neg c]
    omega
def kz_PW (M N : mm_M) : Prop := mm_Rf N ∧ (∀ a, ¬ (28 ≤ a ∧ a ≤ 41) → a ≠ 21 → a ≠ 23 → a ≠ 24 → ¬ (42 ≤ a ∧ a ≤ 113) → N a = M a) ∧ ∀ b, b ≠ 8 → b ≠ 9 → N 21 b = M 21 b
section
variable {X : mm_X} {M : mm_M}
theorem c_X3_weigh {f t n : Nat} {each fall : Int} (hX : kX_at M) (hR : mm_Rf M) (hK : mm_CK M) (hA : mm_CA M) (hn : ks_n (M 4) = (n : Int)) (h7 : kR7 M) (hft : f ≤ t) (ht : t < 24) (he : 1 ≤ each ∧ each ≤ 60) (hf : 0 ≤ fall ∧ fall ≤ 1000000) :
    mm_C X Y_X3_weigh 243 243 [(2, 22), (0, (f : Int)), (0, (t : Int)), (0, each), (0, fall)] M (fun r M' => r = (3, 0) ∧ mm_Rf M' ∧ kz_PW M M' ∧ kR7 M' ∧ M' 21 8 = (f : Int) ∧ M' 21 9 = (t : Int) ∧ ∀ h : Nat, f ≤ h → h ≤ t → kP_gz (M 4) (M 16) (M 17) h each fall (M' 24 h)) := by
  obtain ⟨Φ, hΦ⟩ : ∃ Φ : mm_V → mm_M → Prop, Φ = (fun r M' => r = (3, 0) ∧ mm_Rf M' ∧ kz_PW M M' ∧ kR7 M' ∧ M' 21 8 = (f : Int) ∧ M' 21 9 = (t : Int) ∧ ∀ h : Nat, f ≤ h → h ≤ t → kP_gz (M 4) (M 16) (M 17) h each fall (M' 24 h)) := ⟨_, rfl⟩
  rw [← hΦ]
  have hV := hK.1
  have loop : ∀ h : Nat, h ≤ t + 1 → ∀ N, f ≤ h → kz_PW M N → kR7 N → N 21 8 = (f : Int) → N 21 9 = (t : Int) → (∀ g : Nat, f ≤ g → g < h → kP_gz (M 4) (M 16) (M 17) g each fall (N 24 g)) →
      mm_J X Y_X3_weigh 243 243 243 13 [(2, 22), (0, (f : Int)), (0, (t : Int)), (0, each), (0, fall), (0, (h : Int)), (9, 0)] [] N Φ := by
    refine mm_lp ?_
    intro h hh ih N hfh hW h7N k8 k9 hg
    have hRN := hW.1
    by_cases hlt : h < t + 1
    · have h24 : h < 24 := by omega
      have eN : ∀ a, ¬ (28 ≤ a ∧ a ≤ 41) → a ≠ 21 → a ≠ 23 → a ≠ 24 → ¬ (42 ≤ a ∧ a ≤ 113) → N a = M a := hW.2.1
      have r4 : N 4 = M 4 := eN 4 (by decide) (by decide) (by decide) (by decide) (by decide)
      have r16 : N 16 = M 16 := eN 16 (by decide) (by decide) (by decide) (by decide) (by decide)
      have r17 : N 17 = M 17 := eN 17 (by decide) (by decide) (by decide) (by decide) (by decide)
      have ckN : mm_CK N := kx_ck (fun a a1 a2 => eN a (by omega) (by omega) (by omega) (by omega) (by omega)) hK
      have caN : mm_CA N := by unfold mm_CA at hA ⊢; rw [r16, r17]; exact hA
      have nN : ks_n (N 4) = (n : Int) := by rw [r4]; exact hn
      have cl := c_X3_loopAt (X := X) (M := N) (h := h) (n := n) hRN ckN caN nN h24 h7N (by rw [r4, r16, r17]; exact hX n hn _ ⟨by omega, by omega⟩)
      have hrw := (mm_rw_loops h h24).1
      -- behind loopAt
      have back : ∀ U, mm_Rf U → kz_H N U → kR7 U → U 23 h = 1 → mm_J X Y_X3_weigh 243 243 243 27 [(2, 22), (0, (f : Int)), (0, (t : Int)), (0, each), (0, fall), (0, (h : Int)), (2, ((42 + 3 * h : Nat) : Int) + 1)] [] U Φ := by
        intro U hRU hHU h7U h1
        obtain ⟨-, lb, isb⟩ := h7U h h24
        have isU := isb h1
        have fU : ∀ a, ¬ (28 ≤ a ∧ a ≤ 41) → a ≠ 23 → ¬ (42 ≤ a ∧ a ≤ 113) → U a = N a := hHU.2
        rw [fU 4 (by decide) (by decide) (by decide), r4, fU 16 (by decide) (by decide) (by decide), r16, fU 17 (by decide) (by decide) (by decide), r17] at isU
        have gx : kP_gz (M 4) (M 16) (M 17) h each fall (if 0 < U (42 + 3 * h) 2 then (each * U (42 + 3 * h) 3).tdiv (U (42 + 3 * h) 2) else -fall) := ⟨isU.2.imp id (kP_g.is hV), kP_wb he hf lb.1 isU.1⟩
        have gb := gx.2
        -- the gain is written
        have fin : ∀ P x, mm_Rf P → P = mm_up U 24 h x → x = (if 0 < U (42 + 3 * h) 2 then (each * U (42 + 3 * h) 3).tdiv (U (42 + 3 * h) 2) else -fall) → mm_J X Y_X3_weigh 243 243 243 13 [(2, 22), (0, (f : Int)), (0, (t : Int)), (0, each), (0, fall), (0, (h : Int) + 1), (9, 0)] [] P Φ := by
          intro P x hRP hP hx
          rw [← hx] at gx
          have rP : ∀ a, a ≠ 24 → P a = U a := fun a ha => by rw [hP, mm_up_row ha]
          have go := ih hlt P (by omega) ⟨hRP, fun a a1 a2 a3 a4 a5 => by rw [rP a a4, fU a a1 a3 a5]; exact eN a a1 a2 a3 a4 a5, fun b b1 b2 => by rw [rP 21 (by decide), fU 21 (by decide) (by decide) (by decide)]; exact hW.2.2 b b1 b2⟩ (by
            intro g hg
            rw [rP 23 (by decide), rP 4 (by decide), rP 16 (by decide), rP 17 (by decide), rP (42 + 3 * g) (by omega), rP (42 + 3 * g + 1) (by omega), rP (42 + 3 * g + 2) (by omega)]
            exact h7U g hg) (by rw [rP 21 (by decide), fU 21 (by decide) (by decide) (by decide)]; exact k8) (by rw [rP 21 (by decide), fU 21 (by decide) (by decide) (by decide)]; exact k9) (fun g g1 g2 => by
            by_cases c : g = h
            · rw [c, hP, mm_up_s]; exact gx
            · rw [hP, mm_up_i c, fU 24 (by decide) (by decide) (by decide)]
              exact hg g g1 (by omega))
          rw [show ((h + 1 : Nat) : Int) = (h : Int) + 1 by omega] at go
          exact go
        by_cases l0 : 0 < U (42 + 3 * h) 2
        · have wb : -410572800 ≤ U (42 + 3 * h) 3 ∧ U (42 + 3 * h) 3 ≤ 410572800 := by
            rcases isU.1 with q | q <;> omega
          have mb := mm_mulB (a := U (42 + 3 * h) 3) (b := each) (A := 410572800) (B := 60) wb.1 wb.2 (by omega) he.2
          rw [Int.mul_comm (U (42 + 3 * h) 3)] at mb
          refine mm_aload_n dX3_weigh_27 rfl rfl ?_
          refine mm_getr dX3_weigh_28 rfl fl_X3_23 (c := 21) rfl (by decide) rfl rfl (hRU.at (c := 21) (i := 4) (v := 25) rfl (by decide)) ?_
          refine mm_iload dX3_weigh_31 rfl rfl ?_
          refine mm_aload dX3_weigh_33 rfl rfl ?_
          refine mm_get (kd := 0) dX3_weigh_35 rfl fl_X3_81 (c := 42+3*h) rfl hrw.c0 hrw.1 rfl ?_
          refine mm_ifle dX3_weigh_38 (by omega) (fun h38 => ?_) (fun h38 => ?_)
          · exfalso; omega
          · refine mm_iload_n dX3_weigh_41 rfl rfl ?_
            refine mm_i2l dX3_weigh_42 rfl (by omega) ?_
            refine mm_aload dX3_weigh_43 rfl rfl ?_
            refine mm_get (kd := 0) dX3_weigh_45 rfl fl_X3_84 (c := 42+3*h) rfl hrw.c0 hrw.1 rfl ?_
            refine mm_i2l dX3_weigh_48 rfl (by omega) ?_
            refine mm_lmul dX3_weigh_49 rfl ?_
            refine mm_aload dX3_weigh_50 rfl rfl ?_
            refine mm_get (kd := 0) dX3_weigh_52 rfl fl_X3_81 (c := 42+3*h) rfl hrw.c0 hrw.1 rfl ?_
            refine mm_i2l dX3_weigh_55 rfl (by omega) ?_
            refine mm_ldiv dX3_weigh_56 rfl (by first | omega | (unfold mm_RL; omega)) (by first | omega | (unfold mm_RL; omega)) (by first | omega | (unfold mm_RL; omega)) ?_
            refine mm_l2i dX3_weigh_57 rfl ?_
            refine mm_goto dX3_weigh_58 ?_
            refine mm_istk (k0 := h) dX3_weigh_64 rfl (c := 24) rfl (by decide) rfl (by omega) (by omega) (fun M64 hM64 => ?_)
            have hR64 : mm_Rf M64 := by rw [hM64]; exact hRU.up (mm_rt_ar (t := 0) rfl (by decide))
            refine mm_iinc dX3_weigh_65 rfl rfl (Nat.le_of_ble_eq_true rfl) rfl ?_
            refine mm_goto dX3_weigh_68 ?_
            exact mm_drop (by repeat (first | exact trivial | refine And.intro (Or.inl rfl) ?_ | refine And.intro (Or.inr rfl) ?_)) (fin _ _ hR64 hM64 (by rw [if_pos l0]))
        · refine mm_aload_n dX3_weigh_27 rfl rfl ?_
          refine mm_getr dX3_weigh_28 rfl fl_X3_23 (c := 21) rfl (by decide) rfl rfl (hRU.at (c := 21) (i := 4) (v := 25) rfl (by decide)) ?_
          refine mm_iload dX3_weigh_31 rfl rfl ?_
          refine mm_aload dX3_weigh_33 rfl rfl ?_
          refine mm_get (kd := 0) dX3_weigh_35 rfl fl_X3_81 (c := 42+3*h) rfl hrw.c0 hrw.1 rfl ?_
          refine mm_ifle dX3_weigh_38 (by omega) (fun h38 => ?_) (fun h38 => ?_)
          · refine mm_iload dX3_weigh_61 rfl rfl ?_
            refine mm_ineg dX3_weigh_63 rfl ?_
            refine mm_istk (k0 := h) dX3_weigh_64 rfl (c := 24) rfl (by decide) rfl (by omega) (by omega) (fun M64 hM64 => ?_)
            have hR64 : mm_Rf M64 := by rw [hM64]; exact hRU.up (mm_rt_ar (t := 0) rfl (by decide))
            refine mm_iinc dX3_weigh_65 rfl rfl (Nat.le_of_ble_eq_true rfl) rfl ?_
            refine mm_goto dX3_weigh_68 ?_
            exact mm_drop (by repeat (first | exact trivial | refine And.intro (Or.inl rfl) ?_ | refine And.intro (Or.inr rfl) ?_)) (fin _ _ hR64 hM64 (by rw [if_neg l0]))
          · exfalso; omega
      refine mm_iload dX3_weigh_13 rfl rfl ?_
      refine mm_iload_n dX3_weigh_15 rfl rfl ?_
      refine mm_icgt dX3_weigh_16 (by omega) (by omega) (fun h16 => ?_) (fun h16 => ?_)
      · exfalso; omega
      · refine mm_aload_n dX3_weigh_19 rfl rfl ?_
        refine mm_iload dX3_weigh_20 rfl rfl ?_
        refine mm_V1g (M1 := N) dX3_weigh_22 rfl lk_X3_77 (c := 21) rfl (by decide) rfl (by simp) rfl rfl rfl (cl) ?_
        rintro _ N22 ⟨rfl, p22⟩
        change mm_J _ _ _ _ _ _ _ _ _ _
        have hR22 : mm_Rf N22 := p22.1
        refine mm_astore dX3_weigh_25 rfl (Nat.le_of_ble_eq_true rfl) rfl ?_
        exact back N22 hR22 p22.2.1 p22.2.2.1 p22.2.2.2
    · have eh : h = t + 1 := by omega
      subst eh
      refine mm_iload dX3_weigh_13 rfl rfl ?_
      refine mm_iload_n dX3_weigh_15 rfl rfl ?_
      refine mm_icgt dX3_weigh_16 (by omega) (by omega) (fun h16 => ?_) (fun h16 => ?_)
      · refine mm_vret dX3_weigh_71 rfl rfl ?_
        rw [hΦ]; exact ⟨rfl, hRN, hW, h7N, k8, k9, fun g g1 g2 => hg g g1 (by omega)⟩
      · exfalso; omega
  refine mm_start (ls := [(2, 22), (0, (f : Int)), (0, (t : Int)), (0, each), (0, fall), (9, 0), (9, 0)]) rfl ?_
  refine mm_aload_n dX3_weigh_0 rfl rfl ?_
  refine mm_iload_n dX3_weigh_1 rfl rfl ?_
  refine mm_puti dX3_weigh_2 rfl fl_X3_36 (c := 21) rfl (by decide) rfl rfl (fun M2 hM2 => ?_)
  have hR2 : mm_Rf M2 := by rw [hM2]; exact hR.up rfl
  refine mm_aload_n dX3_weigh_5 rfl rfl ?_
  refine mm_iload_n dX3_weigh_6 rfl rfl ?_
  refine mm_puti dX3_weigh_7 rfl fl_X3_40 (c := 21) rfl (by decide) rfl rfl (fun M7 hM7 => ?_)
  have hR7 : mm_Rf M7 := by rw [hM7]; exact hR2.up rfl
  refine mm_iload_n dX3_weigh_10 rfl rfl ?_
  refine mm_istore dX3_weigh_11 rfl (Nat.le_of_ble_eq_true rfl) rfl ?_
  have r7 : ∀ a, a ≠ 21 → M7 a = M a := fun a ha => by rw [hM7, mm_up_row ha, hM2, mm_up_row ha]
  exact loop f (by omega) M7 (Nat.le_refl _) ⟨hR7, fun a _ a2 _ _ _ => r7 a a2, fun b b1 b2 => by rw [hM7, mm_up_i b2, hM2, mm_up_i b1]⟩ (h7.fr (fun a b q => by rw [r7 a (by omega)])) (by rw [hM7, mm_up_i (by decide), hM2, mm_up_s]) (by rw [hM7, mm_up_s]) (fun g g1 g2 => absurd g2 (by omega))
theorem c_X3_choose {f t : Nat} {la ld : Int} {g : Nat → Int} (hR : mm_Rf M) (hft : f ≤ t) (ht : t < 24) (h8 : M 21 8 = (f : Int)) (h9 : M 21 9 = (t : Int)) (hg : g = M 24) (hgb : ∀ h : Nat, f ≤ h → h ≤ t → -60000000 ≤ g h ∧ g h ≤ 85536000) (hla : 0 ≤ la ∧ la ≤ 1000000) (hld : 0 ≤ ld ∧ ld ≤ 1000000) :
    mm_C X Y_X3_choose 243 243 [(2, 22), (0, la), (0, ld)] M (fun r M' => r = (0, kP_L g la ld t f) ∧ mm_Rf M' ∧ (∀ a, a ≠ 25 → a ≠ 26 → a ≠ 27 → M' a = M a) ∧ ∀ k : Nat, k ≤ t - f → M' 27 (f + k) = kP_u g la ld t f (k + 1)) := by
  obtain ⟨Φ, hΦ⟩ : ∃ Φ : mm_V → mm_M → Prop, Φ = (fun r M' => r = (0, kP_L g la ld t f) ∧ mm_Rf M' ∧ (∀ a, a ≠ 25 → a ≠ 26 → a ≠ 27 → M' a = M a) ∧ ∀ k : Nat, k ≤ t - f → M' 27 (f + k) = kP_u g la ld t f (k + 1)) := ⟨_, rfl⟩
  rw [← hΦ]
  -- bounds, at every hour
  obtain ⟨g', hg'⟩ : ∃ g' : Nat → Int, g' = fun h => if f ≤ h ∧ h ≤ t then g h else 0 := ⟨_, rfl⟩
  have g'b : ∀ h, -60000000 ≤ g' h ∧ g' h ≤ 85536000 := by
    intro h
    rw [hg']
    show -60000000 ≤ (if f ≤ h ∧ h ≤ t then g h else 0) ∧ (if f ≤ h ∧ h ≤ t then g h else 0) ≤ 85536000
    by_cases c : f ≤ h ∧ h ≤ t
    · rw [if_pos c]; exact hgb h c.1 c.2
    · rw [if_neg c]; omega
  have db : ∀ h, f ≤ h → h ≤ t + 1 → (0 ≤ kP_L g la ld t h ∧ kP_L g la ld t h ≤ 2052864000) ∧ -1000000 ≤ kP_F g la ld t h ∧ kP_F g la ld t h ≤ 2052864000 := by
    intro h h1 h2
    have e := kP_cg (g := g) (g' := g') (la := la) (ld := ld) (to := t) (from' := f) (fun h a b => by rw [hg']; exact if_pos ⟨a, b⟩) (t + 1 - h) (by omega)
    have := kP_d.b (g := g') (to := t) g'b hla hld (t + 1 - h)
    rw [e] at this
    unfold kP_L kP_F
    omega
  -- forth
  have forth : ∀ N0, mm_Rf N0 → (∀ a, a ≠ 25 → a ≠ 26 → a ≠ 27 → N0 a = M a) → (∀ h, f ≤ h → h ≤ t + 1 → N0 25 h = kP_L g la ld t h ∧ N0 26 h = kP_F g la ld t h) →
      ∀ k : Nat, k ≤ t + 1 - f → ∀ N, mm_Rf N → (∀ a, a ≠ 27 → N a = N0 a) → (∀ j, j < k → N 27 (f + j) = kP_u g la ld t f (j + 1)) →
      mm_J X Y_X3_choose 243 243 243 109 [(2, 22), (0, la), (0, ld), (0, kP_u g la ld t f k), (0, ((f + k : Nat) : Int)), (9, 0)] [] N Φ := by
    intro N0 hR0 f0 v0
    refine mm_lp ?_
    intro k hk ih N hRN fN vN
    have k9 : N 21 9 = (t : Int) := by rw [fN 21 (by decide), f0 21 (by decide) (by decide) (by decide)]; exact h9
    have k8 : N 21 8 = (f : Int) := by rw [fN 21 (by decide), f0 21 (by decide) (by decide) (by decide)]; exact h8
    have e25 : N 25 = N0 25 := fN 25 (by decide)
    have e26 : N 26 = N0 26 := fN 26 (by decide)
    by_cases hlt : k < t + 1 - f
    · have b0 := db (f + k) (by omega) (by omega)
      have b1 := db (f + k + 1) (by omega) (by omega)
      have l0 : N 25 (f + k) = kP_L g la ld t (f + k) := by rw [e25]; exact (v0 _ (by omega) (by omega)).1
      have l1 : N 25 (f + k + 1) = kP_L g la ld t (f + k + 1) := by rw [e25]; exact (v0 _ (by omega) (by omega)).1
      have fl : N 26 (f + k) = kP_F g la ld t (f + k) := by rw [e26]; exact (v0 _ (by omega) (by omega)).2
      obtain ⟨u, hu⟩ : ∃ u, u = kP_u g la ld t f k := ⟨_, rfl⟩
      have ub := kP_u.b (g := g) (la := la) (ld := ld) (to := t) (from' := f) k
      rw [← hu] at ub
      have un : kP_u g la ld t f (k + 1) = if kP_L g la ld t (f + k + 1) - (if u = 1 then ld else 0) < (if u = 1 then kP_F g la ld t (f + k) else kP_L g la ld t (f + k)) then 1 else 0 := by rw [hu]; rfl
      have nx : ∀ w P, w = kP_u g la ld t f (k + 1) → mm_Rf P → P = mm_up N 27 (f + k) w → mm_J X Y_X3_choose 243 243 243 109 [(2, 22), (0, la), (0, ld), (0, w), (0, ((f + k : Nat) : Int) + 1), (9, 0)] [] P Φ := by
        intro w P hw hRP hP
        have go := ih (by omega) P hRP (fun a ha => by rw [hP, mm_up_row ha]; exact fN a ha) (fun j hj => by
          by_cases c : j = k
          · rw [c, hP, mm_up_s, hw]
          · rw [hP, mm_up_i (by omega)]; exact vN j (by omega))
        rw [← hw, show ((f + (k + 1) : Nat) : Int) = ((f + k : Nat) : Int) + 1 by omega] at go
        exact go
      rw [← hu]
      rcases ub with u0 | u1
      · rw [u0, if_neg (show ¬ (0 : Int) = 1 by decide), if_neg (show ¬ (0 : Int) = 1 by decide)] at un
        rw [u0]
        by_cases c : kP_L g la ld t (f + k + 1) - 0 < kP_L g la ld t (f + k)
        · rw [if_pos c] at un
          refine mm_iload dX3_choose_109 rfl rfl ?_
          refine mm_aload_n dX3_choose_111 rfl rfl ?_
          refine mm_get (kd := 0) dX3_choose_112 rfl fl_X3_40 (c := 21) rfl (by decide) rfl rfl ?_
          rw [k9]
          refine mm_icgt dX3_choose_115 (by omega) (by omega) (fun h115 => ?_) (fun h115 => ?_)
          · exfalso; omega
          · refine mm_aload_n dX3_choose_118 rfl rfl ?_
            refine mm_getr dX3_choose_119 rfl fl_X3_27 (c := 21) rfl (by decide) rfl rfl (hRN.at (c := 21) (i := 5) (v := 26) rfl (by decide)) ?_
            refine mm_iload dX3_choose_122 rfl rfl ?_
            refine mm_iconst dX3_choose_124 rfl ?_
            refine mm_iadd dX3_choose_125 rfl ?_
            refine mm_ialk (k0 := f + k + 1) dX3_choose_126 rfl (c := 25) rfl (by decide) rfl (by omega) (by omega) ?_
            rw [l1]
            refine mm_iload_n dX3_choose_127 rfl rfl ?_
            refine mm_ifeq dX3_choose_128 (by omega) (fun _ => ?_) (fun h => absurd (by decide) h)
            refine mm_iconst dX3_choose_135 rfl ?_
            refine mm_isub dX3_choose_136 rfl ?_
            refine mm_istore dX3_choose_137 rfl (Nat.le_of_ble_eq_true rfl) rfl ?_
            refine mm_iload dX3_choose_139 rfl rfl ?_
            refine mm_iload_n dX3_choose_141 rfl rfl ?_
            refine mm_ifeq dX3_choose_142 (by omega) (fun _ => ?_) (fun h => absurd (by decide) h)
            refine mm_aload_n dX3_choose_155 rfl rfl ?_
            refine mm_getr dX3_choose_156 rfl fl_X3_27 (c := 21) rfl (by decide) rfl rfl (hRN.at (c := 21) (i := 5) (v := 26) rfl (by decide)) ?_
            refine mm_iload dX3_choose_159 rfl rfl ?_
            refine mm_ialk (k0 := f + k) dX3_choose_161 rfl (c := 25) rfl (by decide) rfl (by omega) (by omega) ?_
            rw [l0]
            refine mm_icge dX3_choose_162 (by omega) (by omega) (fun h162 => ?_) (fun h162 => ?_)
            · exfalso; omega
            · refine mm_iconst dX3_choose_165 rfl ?_
              refine mm_goto dX3_choose_166 ?_
              refine mm_istore_n dX3_choose_170 rfl (Nat.le_of_ble_eq_true rfl) rfl ?_
              refine mm_aload_n dX3_choose_171 rfl rfl ?_
              refine mm_getr dX3_choose_172 rfl fl_X3_33 (c := 21) rfl (by decide) rfl rfl (hRN.at (c := 21) (i := 7) (v := 28) rfl (by decide)) ?_
              refine mm_iload dX3_choose_175 rfl rfl ?_
              refine mm_iload_n dX3_choose_177 rfl rfl ?_
              refine mm_ifeq dX3_choose_178 (by omega) (fun h => absurd h (by decide)) (fun _ => ?_)
              refine mm_iconst dX3_choose_181 rfl ?_
              refine mm_goto dX3_choose_182 ?_
              refine mm_istk (k0 := f + k) dX3_choose_186 rfl (c := 27) rfl (by decide) rfl (by omega) (by omega) (fun M186 hM186 => ?_)
              have hR186 : mm_Rf M186 := by rw [hM186]; exact hRN.up (mm_rt_ar (t := 0) rfl (by decide))
              refine mm_iinc dX3_choose_187 rfl rfl (Nat.le_of_ble_eq_true rfl) rfl ?_
              refine mm_goto dX3_choose_190 ?_
              exact mm_drop (by repeat (first | exact trivial | refine And.intro (Or.inl rfl) ?_ | refine And.intro (Or.inr rfl) ?_)) (nx 1 _ un.symm hR186 hM186)
        · rw [if_neg c] at un
          refine mm_iload dX3_choose_109 rfl rfl ?_
          refine mm_aload_n dX3_choose_111 rfl rfl ?_
          refine mm_get (kd := 0) dX3_choose_112 rfl fl_X3_40 (c := 21) rfl (by decide) rfl rfl ?_
          rw [k9]
          refine mm_icgt dX3_choose_115 (by omega) (by omega) (fun h115 => ?_) (fun h115 => ?_)
          · exfalso; omega
          · refine mm_aload_n dX3_choose_118 rfl rfl ?_
            refine mm_getr dX3_choose_119 rfl fl_X3_27 (c := 21) rfl (by decide) rfl rfl (hRN.at (c := 21) (i := 5) (v := 26) rfl (by decide)) ?_
            refine mm_iload dX3_choose_122 rfl rfl ?_
            refine mm_iconst dX3_choose_124 rfl ?_
            refine mm_iadd dX3_choose_125 rfl ?_
            refine mm_ialk (k0 := f + k + 1) dX3_choose_126 rfl (c := 25) rfl (by decide) rfl (by omega) (by omega) ?_
            rw [l1]
            refine mm_iload_n dX3_choose_127 rfl rfl ?_
            refine mm_ifeq dX3_choose_128 (by omega) (fun _ => ?_) (fun h => absurd (by decide) h)
            refine mm_iconst dX3_choose_135 rfl ?_
            refine mm_isub dX3_choose_136 rfl ?_
            refine mm_istore dX3_choose_137 rfl (Nat.le_of_ble_eq_true rfl) rfl ?_
            refine mm_iload dX3_choose_139 rfl rfl ?_
            refine mm_iload_n dX3_choose_141 rfl rfl ?_
            refine mm_ifeq dX3_choose_142 (by omega) (fun _ => ?_) (fun h => absurd (by decide) h)
            refine mm_aload_n dX3_choose_155 rfl rfl ?_
            refine mm_getr dX3_choose_156 rfl fl_X3_27 (c := 21) rfl (by decide) rfl rfl (hRN.at (c := 21) (i := 5) (v := 26) rfl (by decide)) ?_
            refine mm_iload dX3_choose_159 rfl rfl ?_
            refine mm_ialk (k0 := f + k) dX3_choose_161 rfl (c := 25) rfl (by decide) rfl (by omega) (by omega) ?_
            rw [l0]
            refine mm_icge dX3_choose_162 (by omega) (by omega) (fun h162 => ?_) (fun h162 => ?_)
            · refine mm_iconst dX3_choose_169 rfl ?_
              refine mm_istore_n dX3_choose_170 rfl (Nat.le_of_ble_eq_true rfl) rfl ?_
              refine mm_aload_n dX3_choose_171 rfl rfl ?_
              refine mm_getr dX3_choose_172 rfl fl_X3_33 (c := 21) rfl (by decide) rfl rfl (hRN.at (c := 21) (i := 7) (v := 28) rfl (by decide)) ?_
              refine mm_iload dX3_choose_175 rfl rfl ?_
              refine mm_iload_n dX3_choose_177 rfl rfl ?_
              refine mm_ifeq dX3_choose_178 (by omega) (fun _ => ?_) (fun h => absurd (by decide) h)
              refine mm_iconst dX3_choose_185 rfl ?_
              refine mm_istk (k0 := f + k) dX3_choose_186 rfl (c := 27) rfl (by decide) rfl (by omega) (by omega) (fun M186 hM186 => ?_)
              have hR186 : mm_Rf M186 := by rw [hM186]; exact hRN.up (mm_rt_ar (t := 0) rfl (by decide))
              refine mm_iinc dX3_choose_187 rfl rfl (Nat.le_of_ble_eq_true rfl) rfl ?_
              refine mm_goto dX3_choose_190 ?_
              exact mm_drop (by repeat (first | exact trivial | refine And.intro (Or.inl rfl) ?_ | refine And.intro (Or.inr rfl) ?_)) (nx 0 _ un.symm hR186 hM186)
            · exfalso; omega
      · rw [u1, if_pos (show (1 : Int) = 1 from rfl), if_pos (show (1 : Int) = 1 from rfl)] at un
        rw [u1]
        by_cases c : kP_L g la ld t (f + k + 1) - ld < kP_F g la ld t (f + k)
        · rw [if_pos c] at un
          refine mm_iload dX3_choose_109 rfl rfl ?_
          refine mm_aload_n dX3_choose_111 rfl rfl ?_
          refine mm_get (kd := 0) dX3_choose_112 rfl fl_X3_40 (c := 21) rfl (by decide) rfl rfl ?_
          rw [k9]
          refine mm_icgt dX3_choose_115 (by omega) (by omega) (fun h115 => ?_) (fun h115 => ?_)
          · exfalso; omega
          · refine mm_aload_n dX3_choose_118 rfl rfl ?_
            refine mm_getr dX3_choose_119 rfl fl_X3_27 (c := 21) rfl (by decide) rfl rfl (hRN.at (c := 21) (i := 5) (v := 26) rfl (by decide)) ?_
            refine mm_iload dX3_choose_122 rfl rfl ?_
            refine mm_iconst dX3_choose_124 rfl ?_
            refine mm_iadd dX3_choose_125 rfl ?_
            refine mm_ialk (k0 := f + k + 1) dX3_choose_126 rfl (c := 25) rfl (by decide) rfl (by omega) (by omega) ?_
            rw [l1]
            refine mm_iload_n dX3_choose_127 rfl rfl ?_
            refine mm_ifeq dX3_choose_128 (by omega) (fun h => absurd h (by decide)) (fun _ => ?_)
            refine mm_iload_n dX3_choose_131 rfl rfl ?_
            refine mm_goto dX3_choose_132 ?_
            refine mm_isub dX3_choose_136 rfl ?_
            refine mm_istore dX3_choose_137 rfl (Nat.le_of_ble_eq_true rfl) rfl ?_
            refine mm_iload dX3_choose_139 rfl rfl ?_
            refine mm_iload_n dX3_choose_141 rfl rfl ?_
            refine mm_ifeq dX3_choose_142 (by omega) (fun h => absurd h (by decide)) (fun _ => ?_)
            refine mm_aload_n dX3_choose_145 rfl rfl ?_
            refine mm_getr dX3_choose_146 rfl fl_X3_30 (c := 21) rfl (by decide) rfl rfl (hRN.at (c := 21) (i := 6) (v := 27) rfl (by decide)) ?_
            refine mm_iload dX3_choose_149 rfl rfl ?_
            refine mm_ialk (k0 := f + k) dX3_choose_151 rfl (c := 26) rfl (by decide) rfl (by omega) (by omega) ?_
            rw [fl]
            refine mm_goto dX3_choose_152 ?_
            refine mm_icge dX3_choose_162 (by omega) (by omega) (fun h162 => ?_) (fun h162 => ?_)
            · exfalso; omega
            · refine mm_iconst dX3_choose_165 rfl ?_
              refine mm_goto dX3_choose_166 ?_
              refine mm_istore_n dX3_choose_170 rfl (Nat.le_of_ble_eq_true rfl) rfl ?_
              refine mm_aload_n dX3_choose_171 rfl rfl ?_
              refine mm_getr dX3_choose_172 rfl fl_X3_33 (c := 21) rfl (by decide) rfl rfl (hRN.at (c := 21) (i := 7) (v := 28) rfl (by decide)) ?_
              refine mm_iload dX3_choose_175 rfl rfl ?_
              refine mm_iload_n dX3_choose_177 rfl rfl ?_
              refine mm_ifeq dX3_choose_178 (by omega) (fun h => absurd h (by decide)) (fun _ => ?_)
              refine mm_iconst dX3_choose_181 rfl ?_
              refine mm_goto dX3_choose_182 ?_
              refine mm_istk (k0 := f + k) dX3_choose_186 rfl (c := 27) rfl (by decide) rfl (by omega) (by omega) (fun M186 hM186 => ?_)
              have hR186 : mm_Rf M186 := by rw [hM186]; exact hRN.up (mm_rt_ar (t := 0) rfl (by decide))
              refine mm_iinc dX3_choose_187 rfl rfl (Nat.le_of_ble_eq_true rfl) rfl ?_
              refine mm_goto dX3_choose_190 ?_
              exact mm_drop (by repeat (first | exact trivial | refine And.intro (Or.inl rfl) ?_ | refine And.intro (Or.inr rfl) ?_)) (nx 1 _ un.symm hR186 hM186)
        · rw [if_neg c] at un
          refine mm_iload dX3_choose_109 rfl rfl ?_
          refine mm_aload_n dX3_choose_111 rfl rfl ?_
          refine mm_get (kd := 0) dX3_choose_112 rfl fl_X3_40 (c := 21) rfl (by decide) rfl rfl ?_
          rw [k9]
          refine mm_icgt dX3_choose_115 (by omega) (by omega) (fun h115 => ?_) (fun h115 => ?_)
          · exfalso; omega
          · refine mm_aload_n dX3_choose_118 rfl rfl ?_
            refine mm_getr dX3_choose_119 rfl fl_X3_27 (c := 21) rfl (by decide) rfl rfl (hRN.at (c := 21) (i := 5) (v := 26) rfl (by decide)) ?_
            refine mm_iload dX3_choose_122 rfl rfl ?_
            refine mm_iconst dX3_choose_124 rfl ?_
            refine mm_iadd dX3_choose_125 rfl ?_
            refine mm_ialk (k0 := f + k + 1) dX3_choose_126 rfl (c := 25) rfl (by decide) rfl (by omega) (by omega) ?_
            rw [l1]
            refine mm_iload_n dX3_choose_127 rfl rfl ?_
            refine mm_ifeq dX3_choose_128 (by omega) (fun h => absurd h (by decide)) (fun _ => ?_)
            refine mm_iload_n dX3_choose_131 rfl rfl ?_
            refine mm_goto dX3_choose_132 ?_
            refine mm_isub dX3_choose_136 rfl ?_
            refine mm_istore dX3_choose_137 rfl (Nat.le_of_ble_eq_true rfl) rfl ?_
            refine mm_iload dX3_choose_139 rfl rfl ?_
            refine mm_iload_n dX3_choose_141 rfl rfl ?_
            refine mm_ifeq dX3_choose_142 (by omega) (fun h => absurd h (by decide)) (fun _ => ?_)
            refine mm_aload_n dX3_choose_145 rfl rfl ?_
            refine mm_getr dX3_choose_146 rfl fl_X3_30 (c := 21) rfl (by decide) rfl rfl (hRN.at (c := 21) (i := 6) (v := 27) rfl (by decide)) ?_
            refine mm_iload dX3_choose_149 rfl rfl ?_
            refine mm_ialk (k0 := f + k) dX3_choose_151 rfl (c := 26) rfl (by decide) rfl (by omega) (by omega) ?_
            rw [fl]
            refine mm_goto dX3_choose_152 ?_
            refine mm_icge dX3_choose_162 (by omega) (by omega) (fun h162 => ?_) (fun h162 => ?_)
            · refine mm_iconst dX3_choose_169 rfl ?_
              refine mm_istore_n dX3_choose_170 rfl (Nat.le_of_ble_eq_true rfl) rfl ?_
              refine mm_aload_n dX3_choose_171 rfl rfl ?_
              refine mm_getr dX3_choose_172 rfl fl_X3_33 (c := 21) rfl (by decide) rfl rfl (hRN.at (c := 21) (i := 7) (v := 28) rfl (by decide)) ?_
              refine mm_iload dX3_choose_175 rfl rfl ?_
              refine mm_iload_n dX3_choose_177 rfl rfl ?_
              refine mm_ifeq dX3_choose_178 (by omega) (fun _ => ?_) (fun h => absurd (by decide) h)
              refine mm_iconst dX3_choose_185 rfl ?_
              refine mm_istk (k0 := f + k) dX3_choose_186 rfl (c := 27) rfl (by decide) rfl (by omega) (by omega) (fun M186 hM186 => ?_)
              have hR186 : mm_Rf M186 := by rw [hM186]; exact hRN.up (mm_rt_ar (t := 0) rfl (by decide))
              refine mm_iinc dX3_choose_187 rfl rfl (Nat.le_of_ble_eq_true rfl) rfl ?_
              refine mm_goto dX3_choose_190 ?_
              exact mm_drop (by repeat (first | exact trivial | refine And.intro (Or.inl rfl) ?_ | refine And.intro (Or.inr rfl) ?_)) (nx 0 _ un.symm hR186 hM186)
            · exfalso; omega
    · have ek : k = t + 1 - f := by omega
      have lf : N 25 f = kP_L g la ld t f := by rw [e25]; exact (v0 f (Nat.le_refl _) (by omega)).1
      refine mm_iload dX3_choose_109 rfl rfl ?_
      refine mm_aload_n dX3_choose_111 rfl rfl ?_
      refine mm_get (kd := 0) dX3_choose_112 rfl fl_X3_40 (c := 21) rfl (by decide) rfl rfl ?_
      rw [k9]
      refine mm_icgt dX3_choose_115 (by omega) (by omega) (fun h115 => ?_) (fun h115 => ?_)
      · refine mm_aload_n dX3_choose_193 rfl rfl ?_
        refine mm_getr dX3_choose_194 rfl fl_X3_27 (c := 21) rfl (by decide) rfl rfl (hRN.at (c := 21) (i := 5) (v := 26) rfl (by decide)) ?_
        refine mm_aload_n dX3_choose_197 rfl rfl ?_
        refine mm_get (kd := 0) dX3_choose_198 rfl fl_X3_36 (c := 21) rfl (by decide) rfl rfl ?_
        rw [k8]
        refine mm_ialk (k0 := f) dX3_choose_201 rfl (c := 25) rfl (by decide) rfl (by omega) (by omega) ?_
        rw [lf]
        refine mm_iret dX3_choose_202 rfl rfl ?_
        rw [hΦ]; exact ⟨rfl, hRN, fun a a1 a2 a3 => by rw [fN a a3]; exact f0 a a1 a2 a3, fun j hj => vN j (by omega)⟩
      · exfalso; omega
  -- back
  have back : ∀ k : Nat, k ≤ t + 1 - f → ∀ N, mm_Rf N → (∀ a, a ≠ 25 → a ≠ 26 → N a = M a) → (∀ h, t + 1 - k ≤ h → h ≤ t + 1 → N 25 h = kP_L g la ld t h ∧ N 26 h = kP_F g la ld t h) →
      mm_J X Y_X3_choose 243 243 243 30 [(2, 22), (0, la), (0, ld), (0, (t : Int) - (k : Int)), (9, 0), (9, 0)] [] N Φ := by
    refine mm_lp ?_
    intro k hk ih N hRN fN vN
    have k8 : N 21 8 = (f : Int) := by rw [fN 21 (by decide) (by decide)]; exact h8
    by_cases hlt : k < t + 1 - f
    · obtain ⟨h, hh⟩ : ∃ h, h = t - k := ⟨_, rfl⟩
      have hi : (t : Int) - (k : Int) = (h : Int) := by omega
      have b1 := db (h + 1) (by omega) (by omega)
      have gh := hgb h (by omega) (by omega)
      have l1 : N 25 (h + 1) = kP_L g la ld t (h + 1) := (vN (h + 1) (by omega) (by omega)).1
      have f1 : N 26 (h + 1) = kP_F g la ld t (h + 1) := (vN (h + 1) (by omega) (by omega)).2
      have eg : N 24 h = g h := by rw [fN 24 (by decide) (by decide), hg]
      obtain ⟨s1, s2⟩ := kP_step (g := g) (la := la) (ld := ld) (to := t) (h := h) (by omega)
      have nx : ∀ P, mm_Rf P → P = mm_up (mm_up N 25 h (kP_L g la ld t h)) 26 h (kP_F g la ld t h) → mm_J X Y_X3_choose 243 243 243 30 [(2, 22), (0, la), (0, ld), (0, (h : Int) + -1), (9, 0), (9, 0)] [] P Φ := by
        intro P hRP hP
        have go := ih hlt P hRP (fun a a1 a2 => by rw [hP, mm_up_row a2, mm_up_row a1]; exact fN a a1 a2) (fun x x1 x2 => by
          by_cases c : x = h
          · rw [c, hP, mm_up_c (by decide), mm_up_s, mm_up_s]; exact ⟨rfl, rfl⟩
          · rw [hP, mm_up_i c, mm_up_i c, mm_up_i c, mm_up_i c]; exact vN x (by omega) x2)
        rw [show (t : Int) - ((k + 1 : Nat) : Int) = (h : Int) + -1 by omega] at go
        exact go
      rw [hi]
      refine mm_iload_n dX3_choose_30 rfl rfl ?_
      refine mm_aload_n dX3_choose_31 rfl rfl ?_
      refine mm_get (kd := 0) dX3_choose_32 rfl fl_X3_36 (c := 21) rfl (by decide) rfl rfl ?_
      rw [k8]
      refine mm_iclt dX3_choose_35 (by omega) (by omega) (fun h35 => ?_) (fun h35 => ?_)
      · exfalso; omega
      · refine mm_aload_n dX3_choose_38 rfl rfl ?_
        refine mm_getr dX3_choose_39 rfl fl_X3_27 (c := 21) rfl (by decide) rfl rfl (hRN.at (c := 21) (i := 5) (v := 26) rfl (by decide)) ?_
        refine mm_iload_n dX3_choose_42 rfl rfl ?_
        refine mm_iconst dX3_choose_43 rfl ?_
        refine mm_iadd dX3_choose_44 rfl ?_
        refine mm_ialk (k0 := h + 1) dX3_choose_45 rfl (c := 25) rfl (by decide) rfl (by omega) (by omega) ?_
        rw [l1]
        refine mm_istore dX3_choose_46 rfl (Nat.le_of_ble_eq_true rfl) rfl ?_
        refine mm_aload_n dX3_choose_48 rfl rfl ?_
        refine mm_getr dX3_choose_49 rfl fl_X3_23 (c := 21) rfl (by decide) rfl rfl (hRN.at (c := 21) (i := 4) (v := 25) rfl (by decide)) ?_
        refine mm_iload_n dX3_choose_52 rfl rfl ?_
        refine mm_ialk (k0 := h) dX3_choose_53 rfl (c := 24) rfl (by decide) rfl (by omega) (by omega) ?_
        rw [eg]
        refine mm_aload_n dX3_choose_54 rfl rfl ?_
        refine mm_getr dX3_choose_55 rfl fl_X3_30 (c := 21) rfl (by decide) rfl rfl (hRN.at (c := 21) (i := 6) (v := 27) rfl (by decide)) ?_
        refine mm_iload_n dX3_choose_58 rfl rfl ?_
        refine mm_iconst dX3_choose_59 rfl ?_
        refine mm_iadd dX3_choose_60 rfl ?_
        refine mm_ialk (k0 := h + 1) dX3_choose_61 rfl (c := 26) rfl (by decide) rfl (by omega) (by omega) ?_
        rw [f1]
        refine mm_iadd dX3_choose_62 rfl ?_
        refine mm_istore dX3_choose_63 rfl (Nat.le_of_ble_eq_true rfl) rfl ?_
        refine mm_aload_n dX3_choose_65 rfl rfl ?_
        refine mm_getr dX3_choose_66 rfl fl_X3_27 (c := 21) rfl (by decide) rfl rfl (hRN.at (c := 21) (i := 5) (v := 26) rfl (by decide)) ?_
        refine mm_iload_n dX3_choose_69 rfl rfl ?_
        refine mm_iload dX3_choose_70 rfl rfl ?_
        refine mm_iload dX3_choose_72 rfl rfl ?_
        refine mm_iload_n dX3_choose_74 rfl rfl ?_
        refine mm_isub dX3_choose_75 rfl ?_
        refine mm_max dX3_choose_76 rfl lm_X3_87 rfl rfl (by simp) (by omega) (by omega) ?_
        refine mm_istk (k0 := h) dX3_choose_79 rfl (c := 25) rfl (by decide) rfl (by omega) (by omega) (fun M79 hM79 => ?_)
        have hR79 : mm_Rf M79 := by rw [hM79]; exact hRN.up (mm_rt_ar (t := 0) rfl (by decide))
        refine mm_aload_n dX3_choose_80 rfl rfl ?_
        refine mm_getr dX3_choose_81 rfl fl_X3_30 (c := 21) rfl (by decide) rfl rfl (hR79.at (c := 21) (i := 6) (v := 27) rfl (by decide)) ?_
        refine mm_iload_n dX3_choose_84 rfl rfl ?_
        refine mm_iload dX3_choose_85 rfl rfl ?_
        refine mm_iload_n dX3_choose_87 rfl rfl ?_
        refine mm_isub dX3_choose_88 rfl ?_
        refine mm_iload dX3_choose_89 rfl rfl ?_
        refine mm_max dX3_choose_91 rfl lm_X3_87 rfl rfl (by simp) (by omega) (by omega) ?_
        refine mm_istk (k0 := h) dX3_choose_94 rfl (c := 26) rfl (by decide) rfl (by omega) (by omega) (fun M94 hM94 => ?_)
        have hR94 : mm_Rf M94 := by rw [hM94]; exact hR79.up (mm_rt_ar (t := 0) rfl (by decide))
        refine mm_iinc dX3_choose_95 rfl rfl (Nat.le_of_ble_eq_true rfl) rfl ?_
        refine mm_goto dX3_choose_98 ?_
        exact mm_drop (by repeat (first | exact trivial | refine And.intro (Or.inl rfl) ?_ | refine And.intro (Or.inr rfl) ?_)) (nx _ hR94 (by rw [hM94, hM79, s1, s2, show g h + kP_F g la ld t (h + 1) - la = g h - la + kP_F g la ld t (h + 1) by omega]))
    · have ek : k = t + 1 - f := by omega
      have go := forth N hRN (fun a a1 a2 _ => fN a a1 a2) (fun h h1 h2 => vN h (by omega) h2) 0 (Nat.zero_le _) N hRN (fun _ _ => rfl) (fun j hj => absurd hj (by omega))
      refine mm_iload_n dX3_choose_30 rfl rfl ?_
      refine mm_aload_n dX3_choose_31 rfl rfl ?_
      refine mm_get (kd := 0) dX3_choose_32 rfl fl_X3_36 (c := 21) rfl (by decide) rfl rfl ?_
      rw [k8]
      refine mm_iclt dX3_choose_35 (by omega) (by omega) (fun h35 => ?_) (fun h35 => ?_)
      · refine mm_iconst dX3_choose_101 rfl ?_
        refine mm_istore_n dX3_choose_102 rfl (Nat.le_of_ble_eq_true rfl) rfl ?_
        refine mm_aload_n dX3_choose_103 rfl rfl ?_
        refine mm_get (kd := 0) dX3_choose_104 rfl fl_X3_36 (c := 21) rfl (by decide) rfl rfl ?_
        rw [k8]
        refine mm_istore dX3_choose_107 rfl (Nat.le_of_ble_eq_true rfl) rfl ?_
        exact go
      · exfalso; omega
  refine mm_start (ls := [(2, 22), (0, la), (0, ld), (9, 0), (9, 0), (9, 0)]) rfl ?_
  obtain ⟨z1, z2⟩ := kP_end (g := g) (la := la) (ld := ld) (to := t)
  refine mm_aload_n dX3_choose_0 rfl rfl ?_
  refine mm_getr dX3_choose_1 rfl fl_X3_27 (c := 21) rfl (by decide) rfl rfl (hR.at (c := 21) (i := 5) (v := 26) rfl (by decide)) ?_
  refine mm_aload_n dX3_choose_4 rfl rfl ?_
  refine mm_get (kd := 0) dX3_choose_5 rfl fl_X3_40 (c := 21) rfl (by decide) rfl rfl ?_
  rw [h9]
  refine mm_iconst dX3_choose_8 rfl ?_
  refine mm_iadd dX3_choose_9 rfl ?_
  refine mm_iconst dX3_choose_10 rfl ?_
  refine mm_istk (k0 := t + 1) dX3_choose_11 rfl (c := 25) rfl (by decide) rfl (by omega) (by omega) (fun M11 hM11 => ?_)
  have hR11 : mm_Rf M11 := by rw [hM11]; exact hR.up (mm_rt_ar (t := 0) rfl (by decide))
  refine mm_aload_n dX3_choose_12 rfl rfl ?_
  refine mm_getr dX3_choose_13 rfl fl_X3_30 (c := 21) rfl (by decide) rfl rfl (hR11.at (c := 21) (i := 6) (v := 27) rfl (by decide)) ?_
  refine mm_aload_n dX3_choose_16 rfl rfl ?_
  refine mm_get (kd := 0) dX3_choose_17 rfl fl_X3_40 (c := 21) rfl (by decide) rfl rfl ?_
  rw [show M11 21 9 = (t : Int) by rw [hM11, mm_up_c (by decide), h9]]
  refine mm_iconst dX3_choose_20 rfl ?_
  refine mm_iadd dX3_choose_21 rfl ?_
  refine mm_iload_n dX3_choose_22 rfl rfl ?_
  refine mm_ineg dX3_choose_23 rfl ?_
  refine mm_istk (k0 := t + 1) dX3_choose_24 rfl (c := 26) rfl (by decide) rfl (by omega) (by omega) (fun M24 hM24 => ?_)
  have hR24 : mm_Rf M24 := by rw [hM24]; exact hR11.up (mm_rt_ar (t := 0) rfl (by decide))
  refine mm_aload_n dX3_choose_25 rfl rfl ?_
  refine mm_get (kd := 0) dX3_choose_26 rfl fl_X3_40 (c := 21) rfl (by decide) rfl rfl ?_
  rw [show M24 21 9 = (t : Int) by rw [hM24, mm_up_c (by decide), hM11, mm_up_c (by decide), h9]]
  refine mm_istore_n dX3_choose_29 rfl (Nat.le_of_ble_eq_true rfl) rfl ?_
  have go := back 0 (Nat.zero_le _) M24 hR24 (fun a a1 a2 => by rw [hM24, mm_up_row a2, hM11, mm_up_row a1]) (fun h x1 x2 => by
    have eh : h = t + 1 := by omega
    rw [eh, hM24, mm_up_c (by decide), hM11, mm_up_s, mm_up_s, z1, z2]
    exact ⟨rfl, rfl⟩)
  rw [show (t : Int) - ((0 : Nat) : Int) = (t : Int) by omega] at go
  exact go
end

