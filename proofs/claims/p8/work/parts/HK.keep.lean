/-! ===== KitePower$LoopFinder: keepTightPaths ===== -/
/-- a path that just reaches the level of its head -/
def kt_g (M : mm_M) (n : Nat) (S C : Int) (p u v : Nat) : Prop := kv_p M n p u v ∧ M 36 u + kv_w M S C p = M 36 v
/-- the kept paths from u, of those below p -/
def kt_o (M N : mm_M) (n : Nat) (S C : Int) (u c0 c1 p : Nat) : Prop := c0 ≤ c1 ∧ (∀ x, c0 ≤ x → x < c1 → ∃ p' v, p' < p ∧ kt_g M n S C p' u v ∧ N 33 x = (v : Int) ∧ N 34 x = M 34 p' ∧ N 35 x = M 35 p') ∧ ∀ p' v, p' < p → kt_g M n S C p' u v → ∃ x, c0 ≤ x ∧ x < c1 ∧ N 33 x = (v : Int) ∧ N 34 x = M 34 p' ∧ N 35 x = M 35 p'
theorem kt_o.fr {M N U : mm_M} {n u c0 c1 p : Nat} {S C : Int} (h : kt_o M N n S C u c0 c1 p) (f : ∀ x, x < c1 → U 33 x = N 33 x ∧ U 34 x = N 34 x ∧ U 35 x = N 35 x) : kt_o M U n S C u c0 c1 p := by
  refine ⟨h.1, fun x x1 x2 => ?_, fun p' v h1 h2 => ?_⟩
  · obtain ⟨f1, f2, f3⟩ := f x x2
    rw [f1, f2, f3]
    exact h.2.1 x x1 x2
  · obtain ⟨x, x1, x2, x3⟩ := h.2.2 p' v h1 h2
    obtain ⟨f1, f2, f3⟩ := f x x2
    exact ⟨x, x1, x2, by rw [f1, f2, f3]; exact x3⟩
theorem kt_o.no {M N : mm_M} {n u c0 c1 p : Nat} {S C : Int} (h : kt_o M N n S C u c0 c1 p) (hn : ∀ v, ¬ kt_g M n S C p u v) : kt_o M N n S C u c0 c1 (p + 1) := by
  refine ⟨h.1, fun x x1 x2 => ?_, fun p' v h1 h2 => ?_⟩
  · obtain ⟨p', v, q1, q2⟩ := h.2.1 x x1 x2
    exact ⟨p', v, by omega, q2⟩
  · by_cases c : p' = p
    · rw [c] at h2; exact absurd h2 (hn v)
    · exact h.2.2 p' v (by omega) h2
theorem kt_o.yes {M N : mm_M} {n u c0 c1 p v : Nat} {S C : Int} (h : kt_o M N n S C u c0 c1 p) (hg : kt_g M n S C p u v) (q1 : N 33 c1 = (v : Int)) (q2 : N 34 c1 = M 34 p) (q3 : N 35 c1 = M 35 p) : kt_o M N n S C u c0 (c1 + 1) (p + 1) := by
  have h0 := h.1
  refine ⟨by omega, fun x x1 x2 => ?_, fun p' w h1 h2 => ?_⟩
  · by_cases c : x = c1
    · rw [c]; exact ⟨p, v, by omega, hg, q1, q2, q3⟩
    · obtain ⟨p', v, y1, y2⟩ := h.2.1 x x1 (by omega)
      exact ⟨p', v, by omega, y2⟩
  · by_cases c : p' = p
    · rw [c] at h2 ⊢
      have e : w = v := by
        have a := h2.1.2.2.2.2.2.2
        have b := hg.1.2.2.2.2.2.2
        omega
      exact ⟨c1, h0, by omega, by rw [e]; exact q1, q2, q3⟩
    · obtain ⟨x, x1, x2, x3⟩ := h.2.2 p' w (by omega) h2
      exact ⟨x, x1, by omega, x3⟩
def kt_U (M N : mm_M) : Prop := mm_Rf N ∧ ∀ a, a ≠ 31 → a ≠ 33 → a ≠ 34 → a ≠ 35 → N a = M a
/-- what is kept -/
def kt_K (M N : mm_M) (n : Nat) (S C : Int) : Prop := ∀ u, u < n → ∃ c0 c1 : Nat, N 31 u = (c0 : Int) ∧ N 31 (u + 1) = (c1 : Int) ∧ c1 ≤ 4320 ∧ kt_o M N n S C u c0 c1 4320
section
variable {X : mm_X} {M : mm_M} {n : Nat}
theorem c_X6_keepTightPaths {S C : Int} (hR : mm_Rf M) (hG : kv_G M n) (hn : M 3 2 = (n : Int)) (hn2 : n ≤ 288) (hn1 : 1 ≤ n) (hS : M 28 16 = S) (hC : M 28 17 = C) (hSb : -2000000000 ≤ S ∧ S ≤ 2000000000) (hCb : 1 ≤ C ∧ C ≤ 288) (hL : ∀ v, v < n → 0 ≤ M 36 v ∧ M 36 v ≤ 400000000000000) :
    mm_C X Y_X6_keepTightPaths 243 243 [(2, 29)] M (fun r M' => r = (3, 0) ∧ mm_Rf M' ∧ kt_U M M' ∧ kt_K M M' n S C) := by
  obtain ⟨Φ, hΦ⟩ : ∃ Φ : mm_V → mm_M → Prop, Φ = (fun r M' => r = (3, 0) ∧ mm_Rf M' ∧ kt_U M M' ∧ kt_K M M' n S C) := ⟨_, rfl⟩
  rw [← hΦ]
  -- the paths of a state
  have inner : ∀ s : Nat, s < n → ∀ c0 e0 e1 : Nat, M 31 s = (e0 : Int) → M 31 (s + 1) = (e1 : Int) → e1 ≤ 4320 →
      (∀ N (c : Nat), kt_U M N → c ≤ e1 → (∀ u, s < u → u ≤ n → N 31 u = M 31 u) → (∀ x, c ≤ x → N 33 x = M 33 x ∧ N 34 x = M 34 x ∧ N 35 x = M 35 x) → (∀ u, u < s + 1 → ∃ d0 d1 : Nat, N 31 u = (d0 : Int) ∧ (u + 1 = s + 1 → d1 = c) ∧ (u + 1 < s + 1 → N 31 (u + 1) = (d1 : Int)) ∧ d1 ≤ c ∧ kt_o M N n S C u d0 d1 4320) → mm_J X Y_X6_keepTightPaths 243 243 243 129 [(2, 29), (0, (c : Int)), (0, (s : Int)), (9, 0), (9, 0), (9, 0)] [] N Φ) →
      ∀ p : Nat, p ≤ e1 → ∀ N (c : Nat), kt_U M N → e0 ≤ p → c0 ≤ c → c ≤ p → N 31 s = (c0 : Int) → (∀ u, s < u → u ≤ n → N 31 u = M 31 u) → (∀ x, c ≤ x → N 33 x = M 33 x ∧ N 34 x = M 34 x ∧ N 35 x = M 35 x) → (∀ u, u < s → ∃ d0 d1 : Nat, N 31 u = (d0 : Int) ∧ N 31 (u + 1) = (d1 : Int) ∧ d1 ≤ c0 ∧ kt_o M N n S C u d0 d1 4320) → kt_o M N n S C s c0 c p →
      mm_J X Y_X6_keepTightPaths 243 243 243 29 [(2, 29), (0, (c : Int)), (0, (s : Int)), (0, (p : Int)), (9, 0), (9, 0)] [] N Φ := by
    intro s hs c0 e0 e1 he0 he1 he4 out
    refine mm_lp ?_
    intro p hp ih N c hU g0 g1 g2 g3 g4 g5 g6 g7
    have hRN := hU.1
    have k1 : N 31 (s + 1) = (e1 : Int) := by rw [g4 (s + 1) (by omega) (by omega)]; exact he1
    by_cases hlt : p < e1
    · obtain ⟨a0, a1, b1, b2, b3, b4, b5⟩ := hG s hs
      obtain ⟨q1, ⟨v, v1, v2⟩, q3, q4⟩ := b5 p (by omega) (by omega)
      have hpv : kv_p M n p s v := ⟨by omega, hs, v1, by omega, by omega, q1, v2⟩
      obtain ⟨f33, f34, f35⟩ := g5 p g2
      have k33 : N 33 p = (v : Int) := by rw [f33]; exact v2
      have k34 : -5800000 ≤ N 34 p ∧ N 34 p ≤ 5800000 := by rw [f34]; exact ⟨q3, q4⟩
      have e36 : N 36 = M 36 := hU.2 36 (by decide) (by decide) (by decide) (by decide)
      have e28 : N 28 = M 28 := hU.2 28 (by decide) (by decide) (by decide) (by decide)
      have k16 : N 28 16 = S := by rw [e28]; exact hS
      have k17 : N 28 17 = C := by rw [e28]; exact hC
      have mb := mm_mulB (a := N 34 p) (b := C) (A := 5800000) (B := 288) k34.1 k34.2 (by omega) hCb.2
      obtain ⟨w, hw⟩ : ∃ w, w = N 34 p * C := ⟨_, rfl⟩
      have hww : kv_w M S C p = w - S := by unfold kv_w; rw [hw, f34]
      rw [← hw] at mb
      have ls := hL s hs
      have lw := hL v v1
      have tgv : ∀ v', kt_g M n S C p s v' → M 36 s - S + w = M 36 v := by
        intro v' hv'
        have e : v' = v := by have := hv'.1.2.2.2.2.2.2; omega
        have := hv'.2
        rw [e, hww] at this
        omega
      by_cases ht : M 36 s - S + w = M 36 v
      · have hg : kt_g M n S C p s v := ⟨hpv, by rw [hww]; omega⟩
        have go : ∀ P, mm_Rf P → P = mm_up (mm_up (mm_up N 33 c (v : Int)) 34 c (N 34 p)) 35 c (N 35 p) → mm_J X Y_X6_keepTightPaths 243 243 243 29 [(2, 29), (0, (c : Int) + 1), (0, (s : Int)), (0, (p : Int) + 1), (9, 0), (9, 0)] [] P Φ := by
          intro P hRP hP
          have f : ∀ x, x ≠ c → P 33 x = N 33 x ∧ P 34 x = N 34 x ∧ P 35 x = N 35 x := by
            intro x hx
            rw [hP]
            refine ⟨?_, ?_, ?_⟩ <;> repeat (first | rw [mm_up_i hx] | rw [mm_up_c (by decide)])
          have r31 : P 31 = N 31 := by rw [hP, mm_up_row (by decide), mm_up_row (by decide), mm_up_row (by decide)]
          have u1 : P 33 c = (v : Int) := by rw [hP, mm_up_c (by decide), mm_up_c (by decide), mm_up_s]
          have u2 : P 34 c = M 34 p := by rw [hP, mm_up_c (by decide), mm_up_s, f34]
          have u3 : P 35 c = M 35 p := by rw [hP, mm_up_s, f35]
          have go := ih hlt P (c + 1) ⟨hRP, fun a a1 a2 a3 a4 => by rw [hP, mm_up_row a4, mm_up_row a3, mm_up_row a2]; exact hU.2 a a1 a2 a3 a4⟩ (by omega) (by omega) (by omega) (by rw [r31]; exact g3) (by rw [r31]; exact g4) (fun x hx => by
            obtain ⟨z1, z2, z3⟩ := f x (by omega)
            rw [z1, z2, z3]
            exact g5 x (by omega)) (fun u hu => by
            obtain ⟨d0, d1, z1, z2, z3, z4⟩ := g6 u hu
            rw [r31]
            exact ⟨d0, d1, z1, z2, z3, z4.fr (fun x hx => f x (by omega))⟩) ((g7.fr (fun x hx => f x (by omega))).yes hg u1 u2 u3)
          rw [show ((p + 1 : Nat) : Int) = (p : Int) + 1 by omega, show ((c + 1 : Nat) : Int) = (c : Int) + 1 by omega] at go
          exact go
        have r33 : ∀ P : mm_M, P = mm_up N 33 c (v : Int) → P 34 p = N 34 p := fun P hP => by rw [hP, mm_up_c (by decide)]
        refine mm_iload_n dX6_keepTightPaths_29 rfl rfl ?_
        refine mm_aload_n dX6_keepTightPaths_30 rfl rfl ?_
        refine mm_getr dX6_keepTightPaths_31 rfl fl_X6_20 (c := 28) rfl (by decide) rfl rfl (hRN.at (c := 28) (i := 4) (v := 32) rfl (by decide)) ?_
        refine mm_iload_n dX6_keepTightPaths_34 rfl rfl ?_
        refine mm_iconst dX6_keepTightPaths_35 rfl ?_
        refine mm_iadd dX6_keepTightPaths_36 rfl ?_
        refine mm_ialk (k0 := s + 1) dX6_keepTightPaths_37 rfl (c := 31) rfl (by decide) rfl (by omega) (by omega) ?_
        rw [k1]
        refine mm_icge dX6_keepTightPaths_38 (by omega) (by omega) (fun h38 => ?_) (fun h38 => ?_)
        · exfalso; omega
        · refine mm_aload_n dX6_keepTightPaths_41 rfl rfl ?_
          refine mm_getr dX6_keepTightPaths_42 rfl fl_X6_35 (c := 28) rfl (by decide) rfl rfl (hRN.at (c := 28) (i := 9) (v := 37) rfl (by decide)) ?_
          refine mm_iload_n dX6_keepTightPaths_45 rfl rfl ?_
          refine mm_lalk (k0 := s) dX6_keepTightPaths_46 rfl (c := 36) rfl (by decide) rfl (by omega) (by omega) ?_
          rw [e36]
          refine mm_aload_n dX6_keepTightPaths_47 rfl rfl ?_
          refine mm_get (kd := 1) dX6_keepTightPaths_48 rfl fl_X6_78 (c := 28) rfl (by decide) rfl rfl ?_
          rw [k16]
          refine mm_lsub dX6_keepTightPaths_51 rfl ?_
          refine mm_aload_n dX6_keepTightPaths_52 rfl rfl ?_
          refine mm_getr dX6_keepTightPaths_53 rfl fl_X6_29 (c := 28) rfl (by decide) rfl rfl (hRN.at (c := 28) (i := 7) (v := 35) rfl (by decide)) ?_
          refine mm_iload_n dX6_keepTightPaths_56 rfl rfl ?_
          refine mm_ialk (k0 := p) dX6_keepTightPaths_57 rfl (c := 34) rfl (by decide) rfl (by omega) (by omega) ?_
          refine mm_i2l dX6_keepTightPaths_58 rfl (by omega) ?_
          refine mm_aload_n dX6_keepTightPaths_59 rfl rfl ?_
          refine mm_get (kd := 1) dX6_keepTightPaths_60 rfl fl_X6_82 (c := 28) rfl (by decide) rfl rfl ?_
          refine mm_lmul dX6_keepTightPaths_63 rfl ?_
          rw [k17, ← hw]
          refine mm_ladd dX6_keepTightPaths_64 rfl ?_
          refine mm_lstore dX6_keepTightPaths_65 rfl (Nat.le_of_ble_eq_true rfl) rfl ?_
          refine mm_lload dX6_keepTightPaths_67 rfl rfl ?_
          refine mm_aload_n dX6_keepTightPaths_69 rfl rfl ?_
          refine mm_getr dX6_keepTightPaths_70 rfl fl_X6_35 (c := 28) rfl (by decide) rfl rfl (hRN.at (c := 28) (i := 9) (v := 37) rfl (by decide)) ?_
          refine mm_aload_n dX6_keepTightPaths_73 rfl rfl ?_
          refine mm_getr dX6_keepTightPaths_74 rfl fl_X6_26 (c := 28) rfl (by decide) rfl rfl (hRN.at (c := 28) (i := 6) (v := 34) rfl (by decide)) ?_
          refine mm_iload_n dX6_keepTightPaths_77 rfl rfl ?_
          refine mm_ialk (k0 := p) dX6_keepTightPaths_78 rfl (c := 33) rfl (by decide) rfl (by omega) (by omega) ?_
          rw [k33]
          refine mm_lalk (k0 := v) dX6_keepTightPaths_79 rfl (c := 36) rfl (by decide) rfl (by omega) (by omega) ?_
          rw [e36]
          refine mm_lcmp dX6_keepTightPaths_80 rfl (by omega) (by omega) ?_
          refine mm_ifnec dX6_keepTightPaths_81 (fun h81 => ?_) (fun h81 => ?_)
          · exfalso; omega
          · refine mm_aload_n dX6_keepTightPaths_84 rfl rfl ?_
            refine mm_getr dX6_keepTightPaths_85 rfl fl_X6_26 (c := 28) rfl (by decide) rfl rfl (hRN.at (c := 28) (i := 6) (v := 34) rfl (by decide)) ?_
            refine mm_iload_n dX6_keepTightPaths_88 rfl rfl ?_
            refine mm_aload_n dX6_keepTightPaths_89 rfl rfl ?_
            refine mm_getr dX6_keepTightPaths_90 rfl fl_X6_26 (c := 28) rfl (by decide) rfl rfl (hRN.at (c := 28) (i := 6) (v := 34) rfl (by decide)) ?_
            refine mm_iload_n dX6_keepTightPaths_93 rfl rfl ?_
            refine mm_ialk (k0 := p) dX6_keepTightPaths_94 rfl (c := 33) rfl (by decide) rfl (by omega) (by omega) ?_
            rw [k33]
            refine mm_istk (k0 := c) dX6_keepTightPaths_95 rfl (c := 33) rfl (by decide) rfl (by omega) (by omega) (fun M95 hM95 => ?_)
            have hR95 : mm_Rf M95 := by rw [hM95]; exact hRN.up (mm_rt_ar (t := 0) rfl (by decide))
            refine mm_aload_n dX6_keepTightPaths_96 rfl rfl ?_
            refine mm_getr dX6_keepTightPaths_97 rfl fl_X6_29 (c := 28) rfl (by decide) rfl rfl (hR95.at (c := 28) (i := 7) (v := 35) rfl (by decide)) ?_
            refine mm_iload_n dX6_keepTightPaths_100 rfl rfl ?_
            refine mm_aload_n dX6_keepTightPaths_101 rfl rfl ?_
            refine mm_getr dX6_keepTightPaths_102 rfl fl_X6_29 (c := 28) rfl (by decide) rfl rfl (hR95.at (c := 28) (i := 7) (v := 35) rfl (by decide)) ?_
            refine mm_iload_n dX6_keepTightPaths_105 rfl rfl ?_
            refine mm_ialk (k0 := p) dX6_keepTightPaths_106 rfl (c := 34) rfl (by decide) rfl (by omega) (by omega) ?_
            rw [r33 _ hM95]
            refine mm_istk (k0 := c) dX6_keepTightPaths_107 rfl (c := 34) rfl (by decide) rfl (by omega) (by omega) (fun M107 hM107 => ?_)
            have hR107 : mm_Rf M107 := by rw [hM107]; exact hR95.up (mm_rt_ar (t := 0) rfl (by decide))
            refine mm_aload_n dX6_keepTightPaths_108 rfl rfl ?_
            refine mm_getr dX6_keepTightPaths_109 rfl fl_X6_32 (c := 28) rfl (by decide) rfl rfl (hR107.at (c := 28) (i := 8) (v := 36) rfl (by decide)) ?_
            refine mm_iload_n dX6_keepTightPaths_112 rfl rfl ?_
            refine mm_aload_n dX6_keepTightPaths_113 rfl rfl ?_
            refine mm_getr dX6_keepTightPaths_114 rfl fl_X6_32 (c := 28) rfl (by decide) rfl rfl (hR107.at (c := 28) (i := 8) (v := 36) rfl (by decide)) ?_
            refine mm_iload_n dX6_keepTightPaths_117 rfl rfl ?_
            refine mm_ialk (k0 := p) dX6_keepTightPaths_118 rfl (c := 35) rfl (by decide) rfl (by omega) (by omega) ?_
            rw [show M107 35 p = N 35 p by rw [hM107, mm_up_c (by decide), hM95, mm_up_c (by decide)]]
            refine mm_istk (k0 := c) dX6_keepTightPaths_119 rfl (c := 35) rfl (by decide) rfl (by omega) (by omega) (fun M119 hM119 => ?_)
            have hR119 : mm_Rf M119 := by rw [hM119]; exact hR107.up (mm_rt_ar (t := 0) rfl (by decide))
            refine mm_iinc dX6_keepTightPaths_120 rfl rfl (Nat.le_of_ble_eq_true rfl) rfl ?_
            refine mm_iinc dX6_keepTightPaths_123 rfl rfl (Nat.le_of_ble_eq_true rfl) rfl ?_
            refine mm_goto dX6_keepTightPaths_126 ?_
            exact mm_drop (by repeat (first | exact trivial | refine And.intro (Or.inl rfl) ?_ | refine And.intro (Or.inr rfl) ?_)) (go _ hR119 (by rw [hM119, hM107, hM95]))
      · have go := ih hlt N c hU (by omega) g1 (by omega) g3 g4 g5 g6 (g7.no (fun v' z => ht (tgv v' z)))
        rw [show ((p + 1 : Nat) : Int) = (p : Int) + 1 by omega] at go
        refine mm_iload_n dX6_keepTightPaths_29 rfl rfl ?_
        refine mm_aload_n dX6_keepTightPaths_30 rfl rfl ?_
        refine mm_getr dX6_keepTightPaths_31 rfl fl_X6_20 (c := 28) rfl (by decide) rfl rfl (hRN.at (c := 28) (i := 4) (v := 32) rfl (by decide)) ?_
        refine mm_iload_n dX6_keepTightPaths_34 rfl rfl ?_
        refine mm_iconst dX6_keepTightPaths_35 rfl ?_
        refine mm_iadd dX6_keepTightPaths_36 rfl ?_
        refine mm_ialk (k0 := s + 1) dX6_keepTightPaths_37 rfl (c := 31) rfl (by decide) rfl (by omega) (by omega) ?_
        rw [k1]
        refine mm_icge dX6_keepTightPaths_38 (by omega) (by omega) (fun h38 => ?_) (fun h38 => ?_)
        · exfalso; omega
        · refine mm_aload_n dX6_keepTightPaths_41 rfl rfl ?_
          refine mm_getr dX6_keepTightPaths_42 rfl fl_X6_35 (c := 28) rfl (by decide) rfl rfl (hRN.at (c := 28) (i := 9) (v := 37) rfl (by decide)) ?_
          refine mm_iload_n dX6_keepTightPaths_45 rfl rfl ?_
          refine mm_lalk (k0 := s) dX6_keepTightPaths_46 rfl (c := 36) rfl (by decide) rfl (by omega) (by omega) ?_
          rw [e36]
          refine mm_aload_n dX6_keepTightPaths_47 rfl rfl ?_
          refine mm_get (kd := 1) dX6_keepTightPaths_48 rfl fl_X6_78 (c := 28) rfl (by decide) rfl rfl ?_
          rw [k16]
          refine mm_lsub dX6_keepTightPaths_51 rfl ?_
          refine mm_aload_n dX6_keepTightPaths_52 rfl rfl ?_
          refine mm_getr dX6_keepTightPaths_53 rfl fl_X6_29 (c := 28) rfl (by decide) rfl rfl (hRN.at (c := 28) (i := 7) (v := 35) rfl (by decide)) ?_
          refine mm_iload_n dX6_keepTightPaths_56 rfl rfl ?_
          refine mm_ialk (k0 := p) dX6_keepTightPaths_57 rfl (c := 34) rfl (by decide) rfl (by omega) (by omega) ?_
          refine mm_i2l dX6_keepTightPaths_58 rfl (by omega) ?_
          refine mm_aload_n dX6_keepTightPaths_59 rfl rfl ?_
          refine mm_get (kd := 1) dX6_keepTightPaths_60 rfl fl_X6_82 (c := 28) rfl (by decide) rfl rfl ?_
          refine mm_lmul dX6_keepTightPaths_63 rfl ?_
          rw [k17, ← hw]
          refine mm_ladd dX6_keepTightPaths_64 rfl ?_
          refine mm_lstore dX6_keepTightPaths_65 rfl (Nat.le_of_ble_eq_true rfl) rfl ?_
          refine mm_lload dX6_keepTightPaths_67 rfl rfl ?_
          refine mm_aload_n dX6_keepTightPaths_69 rfl rfl ?_
          refine mm_getr dX6_keepTightPaths_70 rfl fl_X6_35 (c := 28) rfl (by decide) rfl rfl (hRN.at (c := 28) (i := 9) (v := 37) rfl (by decide)) ?_
          refine mm_aload_n dX6_keepTightPaths_73 rfl rfl ?_
          refine mm_getr dX6_keepTightPaths_74 rfl fl_X6_26 (c := 28) rfl (by decide) rfl rfl (hRN.at (c := 28) (i := 6) (v := 34) rfl (by decide)) ?_
          refine mm_iload_n dX6_keepTightPaths_77 rfl rfl ?_
          refine mm_ialk (k0 := p) dX6_keepTightPaths_78 rfl (c := 33) rfl (by decide) rfl (by omega) (by omega) ?_
          rw [k33]
          refine mm_lalk (k0 := v) dX6_keepTightPaths_79 rfl (c := 36) rfl (by decide) rfl (by omega) (by omega) ?_
          rw [e36]
          refine mm_lcmp dX6_keepTightPaths_80 rfl (by omega) (by omega) ?_
          refine mm_ifnec dX6_keepTightPaths_81 (fun h81 => ?_) (fun h81 => ?_)
          · refine mm_iinc dX6_keepTightPaths_123 rfl rfl (Nat.le_of_ble_eq_true rfl) rfl ?_
            refine mm_goto dX6_keepTightPaths_126 ?_
            exact mm_drop (by repeat (first | exact trivial | refine And.intro (Or.inl rfl) ?_ | refine And.intro (Or.inr rfl) ?_)) go
          · exfalso; omega
    · have ep : p = e1 := by omega
      subst ep
      have full : kt_o M N n S C s c0 c 4320 := by
        refine ⟨g7.1, fun x x1 x2 => ?_, fun p' v _ h2 => ?_⟩
        · obtain ⟨p', v, z1, z2⟩ := g7.2.1 x x1 x2
          exact ⟨p', v, by omega, z2⟩
        · exact g7.2.2 p' v (by have := h2.1.2.2.2.2.1; omega) h2
      have go := out N c hU (by omega) g4 g5 (fun u hu => by
        by_cases cu : u = s
        · rw [cu]
          exact ⟨c0, c, g3, fun _ => rfl, fun z => absurd z (by omega), Nat.le_refl _, full⟩
        · obtain ⟨d0, d1, z1, z2, z3, z4⟩ := g6 u (by omega)
          exact ⟨d0, d1, z1, fun z => absurd z (by omega), fun _ => z2, by omega, z4⟩)
      refine mm_iload_n dX6_keepTightPaths_29 rfl rfl ?_
      refine mm_aload_n dX6_keepTightPaths_30 rfl rfl ?_
      refine mm_getr dX6_keepTightPaths_31 rfl fl_X6_20 (c := 28) rfl (by decide) rfl rfl (hRN.at (c := 28) (i := 4) (v := 32) rfl (by decide)) ?_
      refine mm_iload_n dX6_keepTightPaths_34 rfl rfl ?_
      refine mm_iconst dX6_keepTightPaths_35 rfl ?_
      refine mm_iadd dX6_keepTightPaths_36 rfl ?_
      refine mm_ialk (k0 := s + 1) dX6_keepTightPaths_37 rfl (c := 31) rfl (by decide) rfl (by omega) (by omega) ?_
      rw [k1]
      refine mm_icge dX6_keepTightPaths_38 (by omega) (by omega) (fun h38 => ?_) (fun h38 => ?_)
      · exact mm_drop (by repeat (first | exact trivial | refine And.intro (Or.inl rfl) ?_ | refine And.intro (Or.inr rfl) ?_)) go
      · exfalso; omega
  have loop : ∀ s : Nat, s ≤ n → ∀ N (c : Nat), kt_U M N → (c : Int) ≤ M 31 s → (∀ u, s ≤ u → u ≤ n → N 31 u = M 31 u) → (∀ x, c ≤ x → N 33 x = M 33 x ∧ N 34 x = M 34 x ∧ N 35 x = M 35 x) → (∀ u, u < s → ∃ d0 d1 : Nat, N 31 u = (d0 : Int) ∧ (u + 1 = s → d1 = c) ∧ (u + 1 < s → N 31 (u + 1) = (d1 : Int)) ∧ d1 ≤ c ∧ kt_o M N n S C u d0 d1 4320) →
      mm_J X Y_X6_keepTightPaths 243 243 243 4 [(2, 29), (0, (c : Int)), (0, (s : Int)), (9, 0), (9, 0), (9, 0)] [] N Φ := by
    refine mm_lp ?_
    intro s hs ih N c hU g1 g2 g3 g4
    have hRN := hU.1
    have est : N 3 2 = (n : Int) := by rw [hU.2 3 (by decide) (by decide) (by decide) (by decide)]; exact hn
    by_cases hlt : s < n
    · obtain ⟨e0, e1, b1, b2, b3, b4, b5⟩ := hG s hlt
      have k0 : N 31 s = (e0 : Int) := by rw [g2 s (Nat.le_refl s) (by omega)]; exact b1
      have back : ∀ P (c : Nat), kt_U M P → c ≤ e1 → (∀ u, s < u → u ≤ n → P 31 u = M 31 u) → (∀ x, c ≤ x → P 33 x = M 33 x ∧ P 34 x = M 34 x ∧ P 35 x = M 35 x) → (∀ u, u < s + 1 → ∃ d0 d1 : Nat, P 31 u = (d0 : Int) ∧ (u + 1 = s + 1 → d1 = c) ∧ (u + 1 < s + 1 → P 31 (u + 1) = (d1 : Int)) ∧ d1 ≤ c ∧ kt_o M P n S C u d0 d1 4320) → mm_J X Y_X6_keepTightPaths 243 243 243 129 [(2, 29), (0, (c : Int)), (0, (s : Int)), (9, 0), (9, 0), (9, 0)] [] P Φ := by
        intro P c hP z1 z2 z3 z4
        have hRP := hP.1
        have go := ih hlt P c hP (by omega) (fun u u1 u2 => z2 u (by omega) u2) z3 z4
        rw [show ((s + 1 : Nat) : Int) = (s : Int) + 1 by omega] at go
        refine mm_iinc dX6_keepTightPaths_129 rfl rfl (Nat.le_of_ble_eq_true rfl) rfl ?_
        refine mm_goto dX6_keepTightPaths_132 ?_
        exact go
      have go : ∀ P, mm_Rf P → P = mm_up N 31 s (c : Int) → mm_J X Y_X6_keepTightPaths 243 243 243 29 [(2, 29), (0, (c : Int)), (0, (s : Int)), (0, (e0 : Int)), (9, 0), (9, 0)] [] P Φ := by
        intro P hRP hP
        have r : ∀ a, a ≠ 31 → P a = N a := fun a ha => by rw [hP, mm_up_row ha]
        refine inner s hlt c e0 e1 b1 b2 b4 back e0 b3 P c ⟨hRP, fun a a1 a2 a3 a4 => by rw [r a a1]; exact hU.2 a a1 a2 a3 a4⟩ (Nat.le_refl _) (Nat.le_refl _) (by omega) (by rw [hP, mm_up_s]) (fun u u1 u2 => by rw [hP, mm_up_i (by omega)]; exact g2 u (by omega) u2) (fun x hx => by rw [r 33 (by decide), r 34 (by decide), r 35 (by decide)]; exact g3 x hx) (fun u hu => ?_) ⟨Nat.le_refl _, fun x x1 x2 => absurd x2 (by omega), fun p' v h1 h2 => absurd h1 (by have := h2.1.2.2.2.1; omega)⟩
        obtain ⟨d0, d1, z1, z2, z3, z4, z5⟩ := g4 u hu
        have z6 : kt_o M P n S C u d0 d1 4320 := z5.fr (fun x _ => by rw [r 33 (by decide), r 34 (by decide), r 35 (by decide)]; exact ⟨rfl, rfl, rfl⟩)
        by_cases cu : u + 1 = s
        · exact ⟨d0, d1, by rw [hP, mm_up_i (by omega)]; exact z1, by rw [cu, hP, mm_up_s, z2 cu], z4, z6⟩
        · exact ⟨d0, d1, by rw [hP, mm_up_i (by omega)]; exact z1, by rw [hP, mm_up_i cu]; exact z3 (by omega), z4, z6⟩
      refine mm_iload_n dX6_keepTightPaths_4 rfl rfl ?_
      refine mm_aload_n dX6_keepTightPaths_5 rfl rfl ?_
      refine mm_getr dX6_keepTightPaths_6 rfl fl_X6_55 (c := 28) rfl (by decide) rfl rfl (hRN.at (c := 28) (i := 0) (v := 4) rfl (by decide)) ?_
      refine mm_get (kd := 0) dX6_keepTightPaths_9 rfl fl_X6_102 (c := 3) rfl (by decide) rfl rfl ?_
      rw [est]
      refine mm_icge dX6_keepTightPaths_12 (by omega) (by omega) (fun h12 => ?_) (fun h12 => ?_)
      · exfalso; omega
      · refine mm_aload_n dX6_keepTightPaths_15 rfl rfl ?_
        refine mm_getr dX6_keepTightPaths_16 rfl fl_X6_20 (c := 28) rfl (by decide) rfl rfl (hRN.at (c := 28) (i := 4) (v := 32) rfl (by decide)) ?_
        refine mm_iload_n dX6_keepTightPaths_19 rfl rfl ?_
        refine mm_ialk (k0 := s) dX6_keepTightPaths_20 rfl (c := 31) rfl (by decide) rfl (by omega) (by omega) ?_
        rw [k0]
        refine mm_istore_n dX6_keepTightPaths_21 rfl (Nat.le_of_ble_eq_true rfl) rfl ?_
        refine mm_aload_n dX6_keepTightPaths_22 rfl rfl ?_
        refine mm_getr dX6_keepTightPaths_23 rfl fl_X6_20 (c := 28) rfl (by decide) rfl rfl (hRN.at (c := 28) (i := 4) (v := 32) rfl (by decide)) ?_
        refine mm_iload_n dX6_keepTightPaths_26 rfl rfl ?_
        refine mm_iload_n dX6_keepTightPaths_27 rfl rfl ?_
        refine mm_istk (k0 := s) dX6_keepTightPaths_28 rfl (c := 31) rfl (by decide) rfl (by omega) (by omega) (fun M28 hM28 => ?_)
        have hR28 : mm_Rf M28 := by rw [hM28]; exact hRN.up (mm_rt_ar (t := 0) rfl (by decide))
        exact go _ hR28 hM28
    · have es : s = n := by omega
      subst es
      have cb : c ≤ 4320 := by
        obtain ⟨e0, e1, b1, b2, b3, b4, -⟩ := hG (s - 1) (by omega)
        rw [show s - 1 + 1 = s by omega] at b2
        omega
      refine mm_iload_n dX6_keepTightPaths_4 rfl rfl ?_
      refine mm_aload_n dX6_keepTightPaths_5 rfl rfl ?_
      refine mm_getr dX6_keepTightPaths_6 rfl fl_X6_55 (c := 28) rfl (by decide) rfl rfl (hRN.at (c := 28) (i := 0) (v := 4) rfl (by decide)) ?_
      refine mm_get (kd := 0) dX6_keepTightPaths_9 rfl fl_X6_102 (c := 3) rfl (by decide) rfl rfl ?_
      rw [est]
      refine mm_icge dX6_keepTightPaths_12 (by omega) (by omega) (fun h12 => ?_) (fun h12 => ?_)
      · refine mm_aload_n dX6_keepTightPaths_135 rfl rfl ?_
        refine mm_getr dX6_keepTightPaths_136 rfl fl_X6_20 (c := 28) rfl (by decide) rfl rfl (hRN.at (c := 28) (i := 4) (v := 32) rfl (by decide)) ?_
        refine mm_aload_n dX6_keepTightPaths_139 rfl rfl ?_
        refine mm_getr dX6_keepTightPaths_140 rfl fl_X6_55 (c := 28) rfl (by decide) rfl rfl (hRN.at (c := 28) (i := 0) (v := 4) rfl (by decide)) ?_
        refine mm_get (kd := 0) dX6_keepTightPaths_143 rfl fl_X6_102 (c := 3) rfl (by decide) rfl rfl ?_
        rw [est]
        refine mm_iload_n dX6_keepTightPaths_146 rfl rfl ?_
        refine mm_istk (k0 := s) dX6_keepTightPaths_147 rfl (c := 31) rfl (by decide) rfl (by omega) (by omega) (fun M147 hM147 => ?_)
        have hR147 : mm_Rf M147 := by rw [hM147]; exact hRN.up (mm_rt_ar (t := 0) rfl (by decide))
        refine mm_vret dX6_keepTightPaths_148 rfl rfl ?_
        rw [hΦ]; refine ⟨rfl, hR147, ⟨hR147, fun a a1 a2 a3 a4 => by rw [hM147, mm_up_row a1]; exact hU.2 a a1 a2 a3 a4⟩, fun u hu => ?_⟩
        obtain ⟨d0, d1, z1, z2, z3, z4, z5⟩ := g4 u hu
        have z6 : kt_o M M147 s S C u d0 d1 4320 := z5.fr (fun x _ => by rw [hM147, mm_up_row (by decide), mm_up_row (by decide), mm_up_row (by decide)]; exact ⟨rfl, rfl, rfl⟩)
        by_cases cu : u + 1 = s
        · exact ⟨d0, d1, by rw [hM147, mm_up_i (by omega)]; exact z1, by rw [cu, hM147, mm_up_s, z2 cu], by omega, z6⟩
        · exact ⟨d0, d1, by rw [hM147, mm_up_i (by omega)]; exact z1, by rw [hM147, mm_up_i cu]; exact z3 (by omega), by omega, z6⟩
      · exfalso; omega
  refine mm_start (ls := [(2, 29), (9, 0), (9, 0), (9, 0), (9, 0), (9, 0)]) rfl ?_
  refine mm_iconst dX6_keepTightPaths_0 rfl ?_
  refine mm_istore_n dX6_keepTightPaths_1 rfl (Nat.le_of_ble_eq_true rfl) rfl ?_
  refine mm_iconst dX6_keepTightPaths_2 rfl ?_
  refine mm_istore_n dX6_keepTightPaths_3 rfl (Nat.le_of_ble_eq_true rfl) rfl ?_
  exact loop 0 (Nat.zero_le _) M 0 ⟨hR, fun _ _ _ _ _ => rfl⟩ (by obtain ⟨c0, c1, q, -⟩ := hG 0 (by omega); omega) (fun _ _ _ => rfl) (fun _ _ => ⟨rfl, rfl, rfl⟩) (fun u hu => absurd hu (by omega))
end

