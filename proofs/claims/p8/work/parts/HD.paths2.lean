/-! ===== KitePower$LoopFinder: all paths ===== -/
/-- the paths of the states below s, up to path c -/
def kx_Q (K Lo Hi : Nat → Int) (N : mm_M) (h : Int) (s c : Nat) : Prop := ∀ u, u < s → ∃ c0 c1 : Nat, N 31 u = (c0 : Int) ∧ (u + 1 = s → c1 = c) ∧ (u + 1 < s → N 31 (u + 1) = (c1 : Int)) ∧ c1 ≤ c ∧ kx_D K Lo Hi N h u c0 c1 15
/-- all paths: from state s those from N 31 s on -/
def kx_P (K Lo Hi : Nat → Int) (N : mm_M) (h : Int) (n : Nat) : Prop := ∀ u, u < n → ∃ c0 c1 : Nat, N 31 u = (c0 : Int) ∧ N 31 (u + 1) = (c1 : Int) ∧ c1 ≤ 4320 ∧ kx_D K Lo Hi N h u c0 c1 15
def kx_U (M N : mm_M) : Prop := mm_Rf N ∧ ∀ a, a ≠ 31 → a ≠ 32 → a ≠ 33 → a ≠ 34 → a ≠ 35 → N a = M a
section
variable {X : mm_X} {M : mm_M} {h : Int} {n : Nat}
theorem c_X6_drawPaths (hR : mm_Rf M) (hK : mm_CK M) (hA : mm_CA M) (hh : ks_hr h) (hn : ks_n (M 4) = (n : Int)) (hW : ∀ b c sw : Nat, b < 5 → (c : Int) < M 4 0 → sw < 2 → kx_W M M h b c sw) :
    mm_C X Y_X6_drawPaths 243 243 [(2, 29)] M (fun r M' => r = (3, 0) ∧ mm_Rf M' ∧ kx_U M M' ∧ kx_P (M 4) (M 16) (M 17) M' h n) := by
  obtain ⟨Φ, hΦ⟩ : ∃ Φ : mm_V → mm_M → Prop, Φ = (fun r M' => r = (3, 0) ∧ mm_Rf M' ∧ kx_U M M' ∧ kx_P (M 4) (M 16) (M 17) M' h n) := ⟨_, rfl⟩
  rw [← hΦ]
  have hV := hK.1
  have hnb := ks_nb hV
  have h0 : 2 ≤ M 4 0 ∧ M 4 0 ≤ 6 := hV.1
  have e4 : ∀ N, kx_U M N → N 4 = M 4 := fun N h => h.2 4 (by decide) (by decide) (by decide) (by decide) (by decide)
  have ck : ∀ N, kx_U M N → mm_CK N := fun N h => kx_ck (fun a a1 a2 => h.2 a (by omega) (by omega) (by omega) (by omega) (by omega)) hK
  have est : ∀ N, kx_U M N → N 3 2 = (n : Int) := fun N h => by rw [h.2 3 (by decide) (by decide) (by decide) (by decide) (by decide), ← hn]; exact hK.2.1
  have wb : ∀ b : Nat, b < 5 → (0 ≤ M 16 (ks_pl h b) ∧ M 16 (ks_pl h b) ≤ 60) ∧ (0 ≤ M 17 (ks_pl h b) ∧ M 17 (ks_pl h b) ≤ 60) := by
    intro b hb
    have := hA (ks_pl h b) (ks_plb hh ⟨by omega, by omega⟩)
    omega
  -- the moves of a state
  have moves : ∀ s : Nat, s < n → ∀ b c c0 : Nat, ks_band (M 4) s = (b : Int) → ks_col (M 4) s = (c : Int) → b < 5 → (c : Int) < M 4 0 → c0 ≤ 15 * s →
      (∀ N (c1 : Nat), kx_U M N → c1 ≤ 15 * s + 15 → kx_Q (M 4) (M 16) (M 17) N h (s + 1) c1 → mm_J X Y_X6_drawPaths 243 243 243 91 [(2, 29), (0, (c1 : Int)), (0, (s : Int)), (9, 0), (9, 0), (9, 0)] [] N Φ) →
      ∀ mv : Nat, mv ≤ 5 → ∀ N (c1 : Nat), kx_U M N → c1 ≤ 15 * s + 3 * mv → c0 ≤ c1 → N 31 s = (c0 : Int) → (∀ u, u < s → ∃ d0 d1 : Nat, N 31 u = (d0 : Int) ∧ N 31 (u + 1) = (d1 : Int) ∧ d1 ≤ c0 ∧ kx_D (M 4) (M 16) (M 17) N h u d0 d1 15) → kx_D (M 4) (M 16) (M 17) N h s c0 c1 (3 * mv) →
      mm_J X Y_X6_drawPaths 243 243 243 35 [(2, 29), (0, (c1 : Int)), (0, (s : Int)), (0, (b : Int)), (0, (mv : Int)), (9, 0)] [] N Φ := by
    intro s hs b c c0 hb hc hb5 hcA hc0 out
    have hst : ks_st (M 4) (s : Int) := ⟨by omega, by omega⟩
    refine mm_lp ?_
    intro mv hmv ih N c1 hU g1 g2 g3 g4 g5
    have hRN := hU.1
    by_cases hlt : mv < 5
    · have cm := c_X4_canMove (X := X) (M := N) (s := (s : Int)) (m := (mv : Int)) hRN (ck N hU) (by rw [e4 N hU]; exact hst) ⟨by omega, by omega⟩
      rw [e4 N hU] at cm
      by_cases hcm : ks_cm (M 4) s mv
      · rw [mm_b_t hcm] at cm
        obtain ⟨sw, hsw⟩ : ∃ sw : Nat, sw = (if ks_side (mv : Int) then 1 else 0) := ⟨_, rfl⟩
        have hsw2 : sw < 2 := by rw [hsw]; split <;> omega
        have hswi : sw = 1 ↔ ks_side (mv : Int) := by
          rw [hsw]
          constructor
          · intro z
            by_cases q : ks_side (mv : Int)
            · exact q
            · rw [if_neg q] at z; omega
          · intro q; rw [if_pos q]
        have cs := c_X4_isSideways (X := X) (M := N) (m := (mv : Int)) (by unfold mm_R; omega)
        have co := c_X6_optionOf (X := X) (M := N) (b := b) (c := c) (P := ks_side (mv : Int)) hb5 (by omega)
        rw [← hsw] at co
        have tab := (ck N hU).tab (by rw [e4 N hU]; exact hst)
        rw [e4 N hU, show ((s : Int)).toNat = s by omega] at tab
        have w := hW b c sw hb5 hcA hsw2
        have e16 : N 16 = M 16 := hU.2 16 (by decide) (by decide) (by decide) (by decide) (by decide)
        have e17 : N 17 = M 17 := hU.2 17 (by decide) (by decide) (by decide) (by decide) (by decide)
        have e29 : N 29 = M 29 := hU.2 29 (by decide) (by decide) (by decide) (by decide) (by decide)
        have e30 : N 30 = M 30 := hU.2 30 (by decide) (by decide) (by decide) (by decide) (by decide)
        have wN : kx_W N N h b c sw := by unfold kx_W at w ⊢; rw [e4 N hU, e16, e17, e29, e30]; exact w
        have gN : ∀ d, d < 3 → N 29 (((b * 6 + c) * 2 + sw) * 3 + d) ≠ -1 → -5800000 ≤ N 30 (((b * 6 + c) * 2 + sw) * 3 + d) ∧ N 30 (((b * 6 + c) * 2 + sw) * 3 + d) ≤ 5800000 := by
          intro d hd hne
          rw [e29] at hne
          rw [e30]
          rcases w d hd with ⟨q, -⟩ | ⟨j, j1, j2, j3, j4, -⟩
          · exact absurd q hne
          · rw [j4]
            have h10 : 1 ≤ M 4 10 ∧ M 4 10 ≤ 3 := by
              obtain ⟨-, -, -, -, -, -, -, -, -, -, q, -⟩ := hV
              exact q
            exact kx_gb hV (by omega) (by omega) (wb b hb5).1 (wb b hb5).2
        have cd := c_X6_drawMove (X := X) (M := N) (n := n) (h := h) (s := s) (mv := mv) (b := b) (c := c) (sw := sw) (c0 := c0) (c1 := c1) hRN (ck N hU) (by rw [e4 N hU]; exact hn) hs hlt (by rw [e4 N hU]; exact hb) (by rw [e4 N hU]; exact hc) hb5 (by omega) hsw2 hswi wN (by rw [e4 N hU]; exact hcm) g1 (by rw [e4 N hU, e16, e17]; exact g5) gN
        rw [e4 N hU, e16, e17] at cd
        refine mm_iload dX6_drawPaths_35 rfl rfl ?_
        refine mm_iconst dX6_drawPaths_37 rfl ?_
        refine mm_icge dX6_drawPaths_38 (by omega) (by omega) (fun h38 => ?_) (fun h38 => ?_)
        · exfalso; omega
        · refine mm_aload_n dX6_drawPaths_41 rfl rfl ?_
          refine mm_getr dX6_drawPaths_42 rfl fl_X6_55 (c := 28) rfl (by decide) rfl rfl (hRN.at (c := 28) (i := 0) (v := 4) rfl (by decide)) ?_
          refine mm_iload_n dX6_drawPaths_45 rfl rfl ?_
          refine mm_iload dX6_drawPaths_46 rfl rfl ?_
          refine mm_V2i dX6_drawPaths_48 rfl lk_X6_153 (c := 3) rfl (by decide) rfl (by simp) (by simp) rfl rfl rfl (cm) ?_
          refine mm_ifeq dX6_drawPaths_51 (by omega) (fun h => absurd h (by decide)) (fun _ => ?_)
          refine mm_iload_n dX6_drawPaths_54 rfl rfl ?_
          refine mm_aload_n dX6_drawPaths_55 rfl rfl ?_
          refine mm_getr dX6_drawPaths_56 rfl fl_X6_55 (c := 28) rfl (by decide) rfl rfl (hRN.at (c := 28) (i := 0) (v := 4) rfl (by decide)) ?_
          refine mm_getr dX6_drawPaths_59 rfl fl_X6_156 (c := 3) rfl (by decide) rfl rfl (hRN.at (c := 3) (i := 3) (v := 7) rfl (by decide)) ?_
          refine mm_iload_n dX6_drawPaths_62 rfl rfl ?_
          refine mm_ialk (k0 := s) dX6_drawPaths_63 rfl (c := 6) rfl (by decide) rfl (by omega) (by omega) ?_
          rw [tab.1, hc]
          refine mm_iload dX6_drawPaths_64 rfl rfl ?_
          refine mm_S1i dX6_drawPaths_66 rfl lk_X6_159 (by simp) rfl rfl rfl (cs) ?_
          refine mm_S3i dX6_drawPaths_69 rfl lk_X6_129 (by simp) (by simp) (by simp) rfl rfl rfl (co) ?_
          refine mm_istore dX6_drawPaths_72 rfl (Nat.le_of_ble_eq_true rfl) rfl ?_
          refine mm_aload_n dX6_drawPaths_74 rfl rfl ?_
          refine mm_iload_n dX6_drawPaths_75 rfl rfl ?_
          refine mm_iload dX6_drawPaths_76 rfl rfl ?_
          refine mm_iload dX6_drawPaths_78 rfl rfl ?_
          refine mm_iload_n dX6_drawPaths_80 rfl rfl ?_
          refine mm_V4g (M1 := N) dX6_drawPaths_81 rfl lk_X6_163 (c := 28) rfl (by decide) rfl (by simp) (by simp) (by simp) (by simp) rfl rfl rfl (cd) ?_
          rintro _ N81 ⟨x81, rfl, p81⟩
          change mm_J _ _ _ _ _ _ _ _ _ _
          have hR81 : mm_Rf N81 := p81.1
          refine mm_istore_n dX6_drawPaths_84 rfl (Nat.le_of_ble_eq_true rfl) rfl ?_
          refine mm_iinc dX6_drawPaths_85 rfl rfl (Nat.le_of_ble_eq_true rfl) rfl ?_
          refine mm_goto dX6_drawPaths_88 ?_
          obtain ⟨c2, k1, k2, k3, k4⟩ := p81.2.2
          have fF := p81.2.1
          have go := ih hlt N81 c2 ⟨hR81, fun a a1 a2 a3 a4 a5 => by rw [fF.2.1 a a2 a3 a4 a5]; exact hU.2 a a1 a2 a3 a4 a5⟩ (by omega) (by omega) (by rw [fF.2.1 31 (by decide) (by decide) (by decide) (by decide)]; exact g3) (fun u hu => by
            obtain ⟨d0, d1, q1, q2, q3, q4⟩ := g4 u hu
            rw [fF.2.1 31 (by decide) (by decide) (by decide) (by decide)]
            exact ⟨d0, d1, q1, q2, q3, q4.fr (fun p hp => fF.2.2 p (by omega))⟩) k4
          rw [show ((mv + 1 : Nat) : Int) = (mv : Int) + 1 by omega, ← k1] at go
          exact mm_drop (by repeat (first | exact trivial | refine And.intro (Or.inl rfl) ?_ | refine And.intro (Or.inr rfl) ?_)) go
      · rw [mm_b_f hcm] at cm
        have go := ih hlt N c1 hU (by omega) g2 g3 g4 (by
          refine ⟨g5.1, g5.2.1, fun a a1 a2 a3 => ?_⟩
          by_cases ca : a % 15 < ((3 * mv : Nat) : Int)
          · exact g5.2.2 a a1 a2 ca
          · exfalso
            have := a2.1.1
            rw [show ks_mv a = (mv : Int) by unfold ks_mv; omega] at this
            exact hcm this)
        rw [show ((mv + 1 : Nat) : Int) = (mv : Int) + 1 by omega] at go
        refine mm_iload dX6_drawPaths_35 rfl rfl ?_
        refine mm_iconst dX6_drawPaths_37 rfl ?_
        refine mm_icge dX6_drawPaths_38 (by omega) (by omega) (fun h38 => ?_) (fun h38 => ?_)
        · exfalso; omega
        · refine mm_aload_n dX6_drawPaths_41 rfl rfl ?_
          refine mm_getr dX6_drawPaths_42 rfl fl_X6_55 (c := 28) rfl (by decide) rfl rfl (hRN.at (c := 28) (i := 0) (v := 4) rfl (by decide)) ?_
          refine mm_iload_n dX6_drawPaths_45 rfl rfl ?_
          refine mm_iload dX6_drawPaths_46 rfl rfl ?_
          refine mm_V2i dX6_drawPaths_48 rfl lk_X6_153 (c := 3) rfl (by decide) rfl (by simp) (by simp) rfl rfl rfl (cm) ?_
          refine mm_ifeq dX6_drawPaths_51 (by omega) (fun _ => ?_) (fun h => absurd (by decide) h)
          refine mm_iinc dX6_drawPaths_85 rfl rfl (Nat.le_of_ble_eq_true rfl) rfl ?_
          refine mm_goto dX6_drawPaths_88 ?_
          exact go
    · have em : mv = 5 := by omega
      subst em
      have go := out N c1 hU (by omega) (fun u hu => by
        by_cases cu : u = s
        · rw [cu]
          exact ⟨c0, c1, g3, fun _ => rfl, fun z => absurd z (by omega), Nat.le_refl _, g5⟩
        · obtain ⟨d0, d1, q1, q2, q3, q4⟩ := g4 u (by omega)
          exact ⟨d0, d1, q1, fun z => absurd z (by omega), fun _ => q2, by omega, q4⟩)
      refine mm_iload dX6_drawPaths_35 rfl rfl ?_
      refine mm_iconst dX6_drawPaths_37 rfl ?_
      refine mm_icge dX6_drawPaths_38 (by omega) (by omega) (fun h38 => ?_) (fun h38 => ?_)
      · exact mm_drop (by repeat (first | exact trivial | refine And.intro (Or.inl rfl) ?_ | refine And.intro (Or.inr rfl) ?_)) go
      · exfalso; omega
  have loop : ∀ s : Nat, s ≤ n → ∀ N (c : Nat), kx_U M N → c ≤ 15 * s → kx_Q (M 4) (M 16) (M 17) N h s c → mm_J X Y_X6_drawPaths 243 243 243 4 [(2, 29), (0, (c : Int)), (0, (s : Int)), (9, 0), (9, 0), (9, 0)] [] N Φ := by
    refine mm_lp ?_
    intro s hs ih N c hU hc hQ
    have hRN := hU.1
    by_cases hlt : s < n
    · have hst : ks_st (M 4) (s : Int) := ⟨by omega, by omega⟩
      have tab := (ck N hU).tab (by rw [e4 N hU]; exact hst)
      rw [e4 N hU, show ((s : Int)).toNat = s by omega] at tab
      have bb := ks_bandb hV hst
      have cb : 0 ≤ ks_col (M 4) s ∧ ks_col (M 4) s < M 4 0 := by
        unfold ks_col
        exact ⟨Int.emod_nonneg _ (by omega), Int.emod_lt_of_pos _ (by omega)⟩
      obtain ⟨b, hb⟩ : ∃ b : Nat, ks_band (M 4) s = (b : Int) := ⟨(ks_band (M 4) s).toNat, by omega⟩
      obtain ⟨cc, hcc⟩ : ∃ cc : Nat, ks_col (M 4) s = (cc : Int) := ⟨(ks_col (M 4) s).toNat, by omega⟩
      have b91 : ∀ P (c1 : Nat), kx_U M P → c1 ≤ 15 * s + 15 → kx_Q (M 4) (M 16) (M 17) P h (s + 1) c1 → mm_J X Y_X6_drawPaths 243 243 243 91 [(2, 29), (0, (c1 : Int)), (0, (s : Int)), (9, 0), (9, 0), (9, 0)] [] P Φ := by
        intro P c1 hP q1 q2
        have hRP := hP.1
        have go := ih hlt P c1 hP (by omega) q2
        rw [show ((s + 1 : Nat) : Int) = (s : Int) + 1 by omega] at go
        refine mm_iinc dX6_drawPaths_91 rfl rfl (Nat.le_of_ble_eq_true rfl) rfl ?_
        refine mm_goto dX6_drawPaths_94 ?_
        exact go
      refine mm_iload_n dX6_drawPaths_4 rfl rfl ?_
      refine mm_aload_n dX6_drawPaths_5 rfl rfl ?_
      refine mm_getr dX6_drawPaths_6 rfl fl_X6_55 (c := 28) rfl (by decide) rfl rfl (hRN.at (c := 28) (i := 0) (v := 4) rfl (by decide)) ?_
      refine mm_get (kd := 0) dX6_drawPaths_9 rfl fl_X6_102 (c := 3) rfl (by decide) rfl rfl ?_
      rw [est N hU]
      refine mm_icge dX6_drawPaths_12 (by omega) (by omega) (fun h12 => ?_) (fun h12 => ?_)
      · exfalso; omega
      · refine mm_aload_n dX6_drawPaths_15 rfl rfl ?_
        refine mm_getr dX6_drawPaths_16 rfl fl_X6_20 (c := 28) rfl (by decide) rfl rfl (hRN.at (c := 28) (i := 4) (v := 32) rfl (by decide)) ?_
        refine mm_iload_n dX6_drawPaths_19 rfl rfl ?_
        refine mm_iload_n dX6_drawPaths_20 rfl rfl ?_
        refine mm_istk (k0 := s) dX6_drawPaths_21 rfl (c := 31) rfl (by decide) rfl (by omega) (by omega) (fun M21 hM21 => ?_)
        have hR21 : mm_Rf M21 := by rw [hM21]; exact hRN.up (mm_rt_ar (t := 0) rfl (by decide))
        refine mm_aload_n dX6_drawPaths_22 rfl rfl ?_
        refine mm_getr dX6_drawPaths_23 rfl fl_X6_55 (c := 28) rfl (by decide) rfl rfl (hR21.at (c := 28) (i := 0) (v := 4) rfl (by decide)) ?_
        refine mm_getr dX6_drawPaths_26 rfl fl_X6_150 (c := 3) rfl (by decide) rfl rfl (hR21.at (c := 3) (i := 7) (v := 11) rfl (by decide)) ?_
        refine mm_iload_n dX6_drawPaths_29 rfl rfl ?_
        refine mm_ialk (k0 := s) dX6_drawPaths_30 rfl (c := 10) rfl (by decide) rfl (by omega) (by omega) ?_
        rw [show M21 10 s = (b : Int) by rw [hM21, mm_up_row (by decide), tab.2.2.2.2, hb]]
        refine mm_istore_n dX6_drawPaths_31 rfl (Nat.le_of_ble_eq_true rfl) rfl ?_
        refine mm_iconst dX6_drawPaths_32 rfl ?_
        refine mm_istore dX6_drawPaths_33 rfl (Nat.le_of_ble_eq_true rfl) rfl ?_
        refine moves s hlt b cc c hb hcc (by omega) (by omega) hc b91 0 (Nat.zero_le _) _ c ⟨hR21, fun a a1 a2 a3 a4 a5 => by rw [hM21, mm_up_row a1]; exact hU.2 a a1 a2 a3 a4 a5⟩ (by omega) (Nat.le_refl _) (by rw [hM21, mm_up_s]) ?_ ?_
        · intro u hu
          obtain ⟨d0, d1, q1, q2, q3, q4, q5⟩ := hQ u hu
          have f5 : kx_D (M 4) (M 16) (M 17) M21 h u d0 d1 15 := q5.fr (fun p _ => by rw [hM21, mm_up_row (by decide), mm_up_row (by decide), mm_up_row (by decide), mm_up_row (by decide)]; exact ⟨rfl, rfl, rfl, rfl⟩)
          by_cases cu : u + 1 = s
          · exact ⟨d0, d1, by rw [hM21, mm_up_i (by omega)]; exact q1, by rw [cu, hM21, mm_up_s, q2 cu], q4, f5⟩
          · exact ⟨d0, d1, by rw [hM21, mm_up_i (by omega)]; exact q1, by rw [hM21, mm_up_i cu]; exact q3 (by omega), q4, f5⟩
        · exact ⟨Nat.le_refl _, fun p p1 p2 => absurd p2 (by omega), fun a a1 _ a3 => absurd a3 (by omega)⟩
    · have es : s = n := by omega
      subst es
      refine mm_iload_n dX6_drawPaths_4 rfl rfl ?_
      refine mm_aload_n dX6_drawPaths_5 rfl rfl ?_
      refine mm_getr dX6_drawPaths_6 rfl fl_X6_55 (c := 28) rfl (by decide) rfl rfl (hRN.at (c := 28) (i := 0) (v := 4) rfl (by decide)) ?_
      refine mm_get (kd := 0) dX6_drawPaths_9 rfl fl_X6_102 (c := 3) rfl (by decide) rfl rfl ?_
      rw [est N hU]
      refine mm_icge dX6_drawPaths_12 (by omega) (by omega) (fun h12 => ?_) (fun h12 => ?_)
      · refine mm_aload_n dX6_drawPaths_97 rfl rfl ?_
        refine mm_getr dX6_drawPaths_98 rfl fl_X6_20 (c := 28) rfl (by decide) rfl rfl (hRN.at (c := 28) (i := 4) (v := 32) rfl (by decide)) ?_
        refine mm_aload_n dX6_drawPaths_101 rfl rfl ?_
        refine mm_getr dX6_drawPaths_102 rfl fl_X6_55 (c := 28) rfl (by decide) rfl rfl (hRN.at (c := 28) (i := 0) (v := 4) rfl (by decide)) ?_
        refine mm_get (kd := 0) dX6_drawPaths_105 rfl fl_X6_102 (c := 3) rfl (by decide) rfl rfl ?_
        rw [est N hU]
        refine mm_iload_n dX6_drawPaths_108 rfl rfl ?_
        refine mm_istk (k0 := s) dX6_drawPaths_109 rfl (c := 31) rfl (by decide) rfl (by omega) (by omega) (fun M109 hM109 => ?_)
        have hR109 : mm_Rf M109 := by rw [hM109]; exact hRN.up (mm_rt_ar (t := 0) rfl (by decide))
        refine mm_vret dX6_drawPaths_110 rfl rfl ?_
        rw [hΦ]; refine ⟨rfl, hR109, ⟨hR109, fun a a1 a2 a3 a4 a5 => by rw [hM109, mm_up_row a1]; exact hU.2 a a1 a2 a3 a4 a5⟩, fun u hu => ?_⟩
        obtain ⟨d0, d1, q1, q2, q3, q4, q5⟩ := hQ u hu
        have f5 : kx_D (M 4) (M 16) (M 17) M109 h u d0 d1 15 := q5.fr (fun p _ => by rw [hM109, mm_up_row (by decide), mm_up_row (by decide), mm_up_row (by decide), mm_up_row (by decide)]; exact ⟨rfl, rfl, rfl, rfl⟩)
        by_cases cu : u + 1 = s
        · exact ⟨d0, d1, by rw [hM109, mm_up_i (by omega)]; exact q1, by rw [cu, hM109, mm_up_s, q2 cu], by omega, f5⟩
        · exact ⟨d0, d1, by rw [hM109, mm_up_i (by omega)]; exact q1, by rw [hM109, mm_up_i cu]; exact q3 (by omega), by omega, f5⟩
      · exfalso; omega
  refine mm_start (ls := [(2, 29), (9, 0), (9, 0), (9, 0), (9, 0), (9, 0)]) rfl ?_
  refine mm_iconst dX6_drawPaths_0 rfl ?_
  refine mm_istore_n dX6_drawPaths_1 rfl (Nat.le_of_ble_eq_true rfl) rfl ?_
  refine mm_iconst dX6_drawPaths_2 rfl ?_
  refine mm_istore_n dX6_drawPaths_3 rfl (Nat.le_of_ble_eq_true rfl) rfl ?_
  exact loop 0 (Nat.zero_le _) M 0 ⟨hR, fun _ _ _ _ _ _ => rfl⟩ (by omega) (fun u hu => absurd hu (by omega))
end

