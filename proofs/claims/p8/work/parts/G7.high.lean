/-! ===== the reference: findHigh ===== -/
theorem ka_sum_ple {f g : Nat → Int} : ∀ n : Nat, (∀ i, i < n → f i ≤ g i) → ka_sum f n ≤ ka_sum g n
  | 0, _ => Int.le_refl 0
  | n + 1, h => by
    have a := ka_sum_ple n (fun i hi => h i (by omega))
    have b := h n (by omega)
    show ka_sum f n + f n ≤ ka_sum g n + g n
    omega
theorem ka_sum_plt {f g : Nat → Int} : ∀ n : Nat, (∀ i, i < n → f i ≤ g i) → (∃ v, v < n ∧ f v < g v) → ka_sum f n < ka_sum g n
  | 0, _, ⟨v, hv, _⟩ => absurd hv (by omega)
  | n + 1, h, ⟨v, hv, hlt⟩ => by
    have b := h n (by omega)
    show ka_sum f n + f n < ka_sum g n + g n
    by_cases c : v = n
    · have a := ka_sum_ple n (fun i hi => h i (by omega))
      rw [c] at hlt
      omega
    · have a := ka_sum_plt n (fun i hi => h i (by omega)) ⟨v, by omega, hlt⟩
      omega
/-- a walk gives so much above the mean at most -/
theorem kz_bd {e : Nat → Nat → Int → Prop} {n : Nat} {S C : Int} (hN : ∀ u v w, e u v w → u < n ∧ v < n) (hB : ∀ u v w, e u v w → -5800000 ≤ w ∧ w ≤ 5800000) (hn2 : n ≤ 288) (hbd : kw_bd n S C) (hm : kw_mean e S C) {p : Nat → Nat} {g : Nat → Int} {m : Nat} (hW : gW e p g m) (hp : p m < n) : gS S C g m ≤ 1443225600000 := by
  obtain ⟨q, f, k, w1, w2, w3, w4⟩ := hm.2.1.short hN m p g m (Nat.le_refl m) hW hp
  refine Int.le_trans w4 ?_
  obtain ⟨b1, b2, b3⟩ := hbd
  have hS := b3 (by have := hm.1; omega)
  have s := ka_sumb (B := 5800000) (n := k) (f := f) (fun i hi => by have := hB _ _ _ (w1 i hi); omega)
  have t1 := mm_mulB (a := ka_sum f k) (b := C) (A := 1670400000) (B := 288) (by omega) (by omega) b1 (by omega)
  have t2 := mm_mulB (a := S) (b := (k : Int)) (A := 3340800000) (B := 288) hS.1 hS.2 (by omega) (by omega)
  unfold gS
  rw [Int.mul_comm C]
  omega
section
variable {X : mm_X} {M : mm_M} {n : Nat}
theorem c_X13_lessMean {g : Int} (hR : mm_Rf M) (hg : mm_R g) : mm_Fn X Y_X13_lessMean 243 [(2, 184), (0, g)] M (1, M 183 40 * g - M 183 39) M := by
  refine mm_startF (ls := [(2, 184), (0, g)]) rfl ?_
  refine mm_aload_n dX13_lessMean_0 rfl rfl ?_
  refine mm_get (kd := 1) dX13_lessMean_1 rfl fl_X13_526 (c := 183) rfl (by decide) rfl rfl ?_
  refine mm_iload_n dX13_lessMean_4 rfl rfl ?_
  refine mm_i2l dX13_lessMean_5 rfl (by omega) ?_
  refine mm_lmul dX13_lessMean_6 rfl ?_
  refine mm_aload_n dX13_lessMean_7 rfl rfl ?_
  refine mm_get (kd := 1) dX13_lessMean_8 rfl fl_X13_530 (c := 183) rfl (by decide) rfl rfl ?_
  refine mm_lsub dX13_lessMean_11 rfl ?_
  refine mm_lret dX13_lessMean_12 rfl rfl ?_
  exact mm_fin rfl rfl
/-- levels, each of some walk -/
def kz_I (M N : mm_M) (n : Nat) : Prop := mm_Rf N ∧ (∀ a, a ≠ 208 → N a = M a) ∧ ∀ v, v < n → 0 ≤ N 208 v ∧ ∃ p g m, gW (ke_E (mm_rk M) n (M 205) (M 206)) p g m ∧ p m = v ∧ gS (M 183 39) (M 183 40) g m = N 208 v
/-- the first m steps lead no higher -/
def kz_K (M N : mm_M) (m : Nat) : Prop := ∀ i, i < m → M 205 i = 1 → N 208 (i / 15) + (M 183 40 * M 206 i - M 183 39) ≤ N 208 (ke_T (mm_rk M) i)
def kz_W (M N : mm_M) (n m : Nat) (z b : Int) : Prop := kz_I M N n ∧ ((b = 0 ∧ z ≤ ka_sum (N 208) n ∧ kz_K M N m) ∨ (b = 1 ∧ z < ka_sum (N 208) n))
theorem c_X13_findHigh (hR : mm_Rf M) (hn : ks_n (mm_rk M) = (n : Int)) (hn1 : 1 ≤ n) (hn2 : n ≤ 288) (hS : ke_S (mm_rk M) n (M 205) (M 206)) (hbd : kw_bd n (M 183 39) (M 183 40)) (hm : kw_mean (ke_E (mm_rk M) n (M 205) (M 206)) (M 183 39) (M 183 40)) :
    mm_C X Y_X13_findHigh 243 243 [(2, 184)] M (fun r M' => r = (3, 0) ∧ mm_Rf M' ∧ kz_I M M' n ∧ kz_K M M' (15 * n)) := by
  obtain ⟨Φ, hΦ⟩ : ∃ Φ : mm_V → mm_M → Prop, Φ = (fun r M' => r = (3, 0) ∧ mm_Rf M' ∧ kz_I M M' n ∧ kz_K M M' (15 * n)) := ⟨_, rfl⟩
  rw [← hΦ]
  obtain ⟨b1, b2, b3⟩ := id hbd
  have hSb := b3 (by have := hm.1; omega)
  have lv : ∀ N, kz_I M N n → ∀ v, v < n → 0 ≤ N 208 v ∧ N 208 v ≤ 1443225600000 := by
    intro N hI v hv
    obtain ⟨q1, p, g, m, q2, q3, q4⟩ := hI.2.2 v hv
    exact ⟨q1, by rw [← q4]; exact kz_bd hS.n hS.b hn2 hbd hm q2 (by rw [q3]; exact hv)⟩
  have top : ∀ N, kz_I M N n → ka_sum (N 208) n ≤ 1443225600000 * (n : Int) := fun N hI => (ka_sumb (B := 1443225600000) (fun i hi => by have := lv N hI i hi; omega)).2
  -- the steps of a state
  have l3 : ∀ z : Int, ∀ s : Nat, s < n →
      (∀ N b, kz_W M N n (15 * (s + 1)) z b → mm_J X Y_X13_findHigh 243 243 243 135 [(2, 184), (0, (n : Int)), (0, b), (0, (s : Int)), (9, 0), (9, 0), (9, 0), (9, 0)] [] N Φ) →
      ∀ t : Nat, t ≤ 15 → ∀ N b, kz_W M N n (15 * s + t) z b →
      mm_J X Y_X13_findHigh 243 243 243 43 [(2, 184), (0, (n : Int)), (0, b), (0, (s : Int)), (0, (t : Int)), (9, 0), (9, 0), (9, 0)] [] N Φ := by
    intro z s hs out
    refine mm_lp ?_
    intro t ht ih N b hW
    obtain ⟨hI, hb⟩ := id hW
    obtain ⟨hRN, f1, f2⟩ := id hI
    have rk : mm_rk N = mm_rk M := mm_rk.fr (fun a b q => by rw [f1 a (by omega)])
    have e205 : N 205 = M 205 := f1 205 (by decide)
    have e206 : N 206 = M 206 := f1 206 (by decide)
    have e183 : N 183 = M 183 := f1 183 (by decide)
    by_cases hlt : t < 15
    · have hix : (15 * s + t) / 15 = s := by omega
      have hix2 : (15 * s + t) % 15 = t := by omega
      by_cases hF : M 205 (15 * s + t) = 1
      · have hT := hS.t (i := 15 * s + t) (by omega) hF
        have hG := ((hS (15 * s + t) (by omega)).2 hF).2
        rw [hix, hix2] at hT
        have ca := c_X13_after (X := X) (s := (s : Int)) (a := (t : Int)) hRN (by omega)
        rw [rk, ← hT.1] at ca
        obtain ⟨T, hTe⟩ : ∃ T, T = ke_T (mm_rk M) (15 * s + t) := ⟨_, rfl⟩
        rw [← hTe] at ca hT
        have hTn := hT.2
        have cl := c_X13_lessMean (X := X) (g := M 206 (15 * s + t)) hRN (by unfold mm_R; omega)
        rw [e183] at cl
        have ls := lv N hI s hs
        have lT := lv N hI T hTn
        have mb := mm_mulB (a := M 206 (15 * s + t)) (b := M 183 40) (A := 5800000) (B := 288) (by omega) (by omega) b1 (by omega)
        rw [Int.mul_comm (M 206 (15 * s + t))] at mb
        obtain ⟨d, hd⟩ : ∃ d, d = M 183 40 * M 206 (15 * s + t) - M 183 39 := ⟨_, rfl⟩
        rw [← hd] at cl
        have up : N 208 T < N 208 s + d → ∀ P : mm_M, P = mm_up N 208 T (N 208 s + d) → mm_Rf P → mm_J X Y_X13_findHigh 243 243 243 43 [(2, 184), (0, (n : Int)), (0, 1), (0, (s : Int)), (0, (t : Int) + 1), (9, 0), (9, 0), (9, 0)] [] P Φ := by
          intro q P hP hRP
          have go := ih hlt P 1 ⟨⟨hRP, fun a ha => by rw [hP, mm_up_row ha]; exact f1 a ha, ?_⟩, Or.inr ⟨rfl, ?_⟩⟩
          · rw [show ((t + 1 : Nat) : Int) = (t : Int) + 1 by omega] at go; exact go
          · intro v hv
            by_cases c : v = T
            · rw [c, hP, mm_up_s]
              refine ⟨by omega, ?_⟩
              obtain ⟨-, p, g, m, q2, q3, q4⟩ := f2 s hs
              have w1 : gW (ke_E (mm_rk M) n (M 205) (M 206)) (fun t => if t = 0 then s else T) (fun _ => M 206 (15 * s + t)) 1 := by
                intro j hj
                have e0 : j = 0 := by omega
                subst e0
                exact ⟨15 * s + t, by omega, hF, hix.symm, hTe, rfl⟩
              refine ⟨_, _, _, q2.app w1 q3, ?_, ?_⟩
              · rw [gJp_end _ _ _ _ q3]; rfl
              · rw [gS_app, q4]
                unfold gS
                show N 208 s + (M 183 40 * (0 + M 206 (15 * s + t)) - M 183 39 * 1) = N 208 s + d
                rw [Int.zero_add, Int.mul_one, hd]
            · rw [hP, mm_up_i c]; exact f2 v hv
          · have a := ka_sum_plt (f := N 208) (g := P 208) n (fun i hi => by
              by_cases c : i = T
              · rw [c, hP, mm_up_s]; omega
              · rw [hP, mm_up_i c]; exact Int.le_refl _) ⟨T, hTn, by rw [hP, mm_up_s]; omega⟩
            rcases hb with q | q <;> omega
        have keep : N 208 s + d ≤ N 208 T → mm_J X Y_X13_findHigh 243 243 243 43 [(2, 184), (0, (n : Int)), (0, b), (0, (s : Int)), (0, (t : Int) + 1), (9, 0), (9, 0), (9, 0)] [] N Φ := by
          intro q
          have go := ih hlt N b ⟨hI, ?_⟩
          · rw [show ((t + 1 : Nat) : Int) = (t : Int) + 1 by omega] at go; exact go
          · rcases hb with ⟨q1, q2, q3⟩ | q1
            · refine Or.inl ⟨q1, q2, fun i hi hFi => ?_⟩
              by_cases c : i = 15 * s + t
              · rw [c, hix, ← hTe, ← hd]; exact q
              · exact q3 i (by omega) hFi
            · exact Or.inr q1
        refine mm_iload dX13_findHigh_43 rfl rfl ?_
        refine mm_bipush dX13_findHigh_45 rfl (by decide) ?_
        refine mm_icge dX13_findHigh_47 (by omega) (by omega) (fun h47 => ?_) (fun h47 => ?_)
        · exfalso; omega
        · refine mm_aload_n dX13_findHigh_50 rfl rfl ?_
          refine mm_getr dX13_findHigh_51 rfl fl_X13_261 (c := 183) rfl (by decide) rfl rfl (hRN.at (c := 183) (i := 36) (v := 206) rfl (by decide)) ?_
          refine mm_bipush dX13_findHigh_54 rfl (by decide) ?_
          refine mm_iload_n dX13_findHigh_56 rfl rfl ?_
          refine mm_imul dX13_findHigh_57 rfl ?_
          refine mm_iload dX13_findHigh_58 rfl rfl ?_
          refine mm_iadd dX13_findHigh_60 rfl ?_
          refine mm_zalk (k0 := 15 * s + t) dX13_findHigh_61 rfl (c := 205) rfl (by decide) rfl (by omega) (by omega) ?_
          rw [e205, hF]
          refine mm_ifne dX13_findHigh_62 (by omega) (fun h62 => ?_) (fun h62 => ?_)
          · refine mm_aload_n dX13_findHigh_68 rfl rfl ?_
            refine mm_iload_n dX13_findHigh_69 rfl rfl ?_
            refine mm_iload dX13_findHigh_70 rfl rfl ?_
            refine mm_V2i dX13_findHigh_72 rfl lk_X13_476 (c := 183) rfl (by decide) rfl (by simp) (by simp) rfl rfl rfl (ca) ?_
            refine mm_istore dX13_findHigh_75 rfl (Nat.le_of_ble_eq_true rfl) rfl ?_
            refine mm_aload_n dX13_findHigh_77 rfl rfl ?_
            refine mm_getr dX13_findHigh_78 rfl fl_X13_272 (c := 183) rfl (by decide) rfl rfl (hRN.at (c := 183) (i := 41) (v := 209) rfl (by decide)) ?_
            refine mm_iload_n dX13_findHigh_81 rfl rfl ?_
            refine mm_lalk (k0 := s) dX13_findHigh_82 rfl (c := 208) rfl (by decide) rfl (by omega) (by omega) ?_
            refine mm_aload_n dX13_findHigh_83 rfl rfl ?_
            refine mm_aload_n dX13_findHigh_84 rfl rfl ?_
            refine mm_getr dX13_findHigh_85 rfl fl_X13_264 (c := 183) rfl (by decide) rfl rfl (hRN.at (c := 183) (i := 37) (v := 207) rfl (by decide)) ?_
            refine mm_bipush dX13_findHigh_88 rfl (by decide) ?_
            refine mm_iload_n dX13_findHigh_90 rfl rfl ?_
            refine mm_imul dX13_findHigh_91 rfl ?_
            refine mm_iload dX13_findHigh_92 rfl rfl ?_
            refine mm_iadd dX13_findHigh_94 rfl ?_
            refine mm_ialk (k0 := 15 * s + t) dX13_findHigh_95 rfl (c := 206) rfl (by decide) rfl (by omega) (by omega) ?_
            rw [e206]
            refine mm_V1l dX13_findHigh_96 rfl lk_X13_533 (c := 183) rfl (by decide) rfl (by simp) rfl rfl rfl (cl) ?_
            refine mm_ladd dX13_findHigh_99 rfl ?_
            refine mm_lstore dX13_findHigh_100 rfl (Nat.le_of_ble_eq_true rfl) rfl ?_
            refine mm_lload dX13_findHigh_102 rfl rfl ?_
            refine mm_aload_n dX13_findHigh_104 rfl rfl ?_
            refine mm_getr dX13_findHigh_105 rfl fl_X13_272 (c := 183) rfl (by decide) rfl rfl (hRN.at (c := 183) (i := 41) (v := 209) rfl (by decide)) ?_
            refine mm_iload dX13_findHigh_108 rfl rfl ?_
            refine mm_lalk (k0 := T) dX13_findHigh_110 rfl (c := 208) rfl (by decide) rfl (by omega) (by omega) ?_
            refine mm_lcmp dX13_findHigh_111 rfl (by omega) (by omega) ?_
            refine mm_ifgtc dX13_findHigh_112 (fun h112 => ?_) (fun h112 => ?_)
            · refine mm_aload_n dX13_findHigh_118 rfl rfl ?_
              refine mm_getr dX13_findHigh_119 rfl fl_X13_272 (c := 183) rfl (by decide) rfl rfl (hRN.at (c := 183) (i := 41) (v := 209) rfl (by decide)) ?_
              refine mm_iload dX13_findHigh_122 rfl rfl ?_
              refine mm_lload dX13_findHigh_124 rfl rfl ?_
              refine mm_lstk (k0 := T) dX13_findHigh_126 rfl (c := 208) rfl (by decide) rfl (by omega) (by omega) (fun M126 hM126 => ?_)
              have hR126 : mm_Rf M126 := by rw [hM126]; exact hRN.up (mm_rt_ar (t := 3) rfl (by decide))
              refine mm_iconst dX13_findHigh_127 rfl ?_
              refine mm_istore_n dX13_findHigh_128 rfl (Nat.le_of_ble_eq_true rfl) rfl ?_
              refine mm_iinc dX13_findHigh_129 rfl rfl (Nat.le_of_ble_eq_true rfl) rfl ?_
              refine mm_goto dX13_findHigh_132 ?_
              first
              | exact mm_drop (ls' := [(2, 184), (0, (n : Int)), (0, 1), (0, (s : Int)), (0, (t : Int) + 1), (9, 0), (9, 0), (9, 0)]) (by repeat (first | exact trivial | refine And.intro (Or.inl rfl) ?_ | refine And.intro (Or.inr rfl) ?_)) (up (by omega) _ hM126 hR126)
              | exact mm_drop (ls' := [(2, 184), (0, (n : Int)), (0, b), (0, (s : Int)), (0, (t : Int) + 1), (9, 0), (9, 0), (9, 0)]) (by repeat (first | exact trivial | refine And.intro (Or.inl rfl) ?_ | refine And.intro (Or.inr rfl) ?_)) (keep (by omega))
            · refine mm_goto dX13_findHigh_115 ?_
              refine mm_iinc dX13_findHigh_129 rfl rfl (Nat.le_of_ble_eq_true rfl) rfl ?_
              refine mm_goto dX13_findHigh_132 ?_
              first
              | exact mm_drop (ls' := [(2, 184), (0, (n : Int)), (0, 1), (0, (s : Int)), (0, (t : Int) + 1), (9, 0), (9, 0), (9, 0)]) (by repeat (first | exact trivial | refine And.intro (Or.inl rfl) ?_ | refine And.intro (Or.inr rfl) ?_)) (up (by omega) _ hM126 hR126)
              | exact mm_drop (ls' := [(2, 184), (0, (n : Int)), (0, b), (0, (s : Int)), (0, (t : Int) + 1), (9, 0), (9, 0), (9, 0)]) (by repeat (first | exact trivial | refine And.intro (Or.inl rfl) ?_ | refine And.intro (Or.inr rfl) ?_)) (keep (by omega))
          · exfalso; omega
      · have hF0 : M 205 (15 * s + t) = 0 := by
          rcases (hS (15 * s + t) (by omega)).1 with q | q
          · exact q
          · exact absurd q hF
        have go := ih hlt N b ⟨hI, by
          rcases hb with ⟨q1, q2, q3⟩ | q1
          · refine Or.inl ⟨q1, q2, fun i hi hFi => ?_⟩
            by_cases c : i = 15 * s + t
            · rw [c] at hFi; exact absurd hFi hF
            · exact q3 i (by omega) hFi
          · exact Or.inr q1⟩
        rw [show ((t + 1 : Nat) : Int) = (t : Int) + 1 by omega] at go
        refine mm_iload dX13_findHigh_43 rfl rfl ?_
        refine mm_bipush dX13_findHigh_45 rfl (by decide) ?_
        refine mm_icge dX13_findHigh_47 (by omega) (by omega) (fun h47 => ?_) (fun h47 => ?_)
        · exfalso; omega
        · refine mm_aload_n dX13_findHigh_50 rfl rfl ?_
          refine mm_getr dX13_findHigh_51 rfl fl_X13_261 (c := 183) rfl (by decide) rfl rfl (hRN.at (c := 183) (i := 36) (v := 206) rfl (by decide)) ?_
          refine mm_bipush dX13_findHigh_54 rfl (by decide) ?_
          refine mm_iload_n dX13_findHigh_56 rfl rfl ?_
          refine mm_imul dX13_findHigh_57 rfl ?_
          refine mm_iload dX13_findHigh_58 rfl rfl ?_
          refine mm_iadd dX13_findHigh_60 rfl ?_
          refine mm_zalk (k0 := 15 * s + t) dX13_findHigh_61 rfl (c := 205) rfl (by decide) rfl (by omega) (by omega) ?_
          rw [e205, hF0]
          refine mm_ifne dX13_findHigh_62 (by omega) (fun h62 => ?_) (fun h62 => ?_)
          · exfalso; omega
          · refine mm_goto dX13_findHigh_65 ?_
            refine mm_iinc dX13_findHigh_129 rfl rfl (Nat.le_of_ble_eq_true rfl) rfl ?_
            refine mm_goto dX13_findHigh_132 ?_
            exact go
    · have et : t = 15 := by omega
      subst et
      have go := out N b (by rw [show 15 * (s + 1) = 15 * s + 15 by omega]; exact hW)
      refine mm_iload dX13_findHigh_43 rfl rfl ?_
      refine mm_bipush dX13_findHigh_45 rfl (by decide) ?_
      refine mm_icge dX13_findHigh_47 (by omega) (by omega) (fun h47 => ?_) (fun h47 => ?_)
      · exact mm_drop (ls' := [(2, 184), (0, (n : Int)), (0, b), (0, (s : Int)), (9, 0), (9, 0), (9, 0), (9, 0)]) (by repeat (first | exact trivial | refine And.intro (Or.inl rfl) ?_ | refine And.intro (Or.inr rfl) ?_)) go
      · exfalso; omega
  -- the states
  have l2 : ∀ z : Int, (∀ N b, kz_W M N n (15 * n) z b → mm_J X Y_X13_findHigh 243 243 243 27 [(2, 184), (0, (n : Int)), (0, b), (9, 0), (9, 0), (9, 0), (9, 0), (9, 0)] [] N Φ) →
      ∀ s : Nat, s ≤ n → ∀ N b, kz_W M N n (15 * s) z b → mm_J X Y_X13_findHigh 243 243 243 35 [(2, 184), (0, (n : Int)), (0, b), (0, (s : Int)), (9, 0), (9, 0), (9, 0), (9, 0)] [] N Φ := by
    intro z out
    refine mm_lp ?_
    intro s hs ih N b hW
    have hRN := hW.1.1
    by_cases hlt : s < n
    · have back : ∀ N b, kz_W M N n (15 * (s + 1)) z b → mm_J X Y_X13_findHigh 243 243 243 135 [(2, 184), (0, (n : Int)), (0, b), (0, (s : Int)), (9, 0), (9, 0), (9, 0), (9, 0)] [] N Φ := by
        intro P b hP
        have go := ih hlt P b hP
        have hRP := hP.1.1
        rw [show ((s + 1 : Nat) : Int) = (s : Int) + 1 by omega] at go
        refine mm_iinc dX13_findHigh_135 rfl rfl (Nat.le_of_ble_eq_true rfl) rfl ?_
        refine mm_goto dX13_findHigh_138 ?_
        exact go
      have go := l3 z s hlt back 0 (Nat.zero_le _) N b hW
      refine mm_iload_n dX13_findHigh_35 rfl rfl ?_
      refine mm_iload_n dX13_findHigh_36 rfl rfl ?_
      refine mm_icge dX13_findHigh_37 (by omega) (by omega) (fun h37 => ?_) (fun h37 => ?_)
      · exfalso; omega
      · refine mm_iconst dX13_findHigh_40 rfl ?_
        refine mm_istore dX13_findHigh_41 rfl (Nat.le_of_ble_eq_true rfl) rfl ?_
        exact go
    · have es : s = n := by omega
      subst es
      have go := out N b hW
      refine mm_iload_n dX13_findHigh_35 rfl rfl ?_
      refine mm_iload_n dX13_findHigh_36 rfl rfl ?_
      refine mm_icge dX13_findHigh_37 (by omega) (by omega) (fun h37 => ?_) (fun h37 => ?_)
      · refine mm_goto dX13_findHigh_141 ?_
        exact mm_drop (ls' := [(2, 184), (0, (s : Int)), (0, b), (9, 0), (9, 0), (9, 0), (9, 0), (9, 0)]) (by repeat (first | exact trivial | refine And.intro (Or.inl rfl) ?_ | refine And.intro (Or.inr rfl) ?_)) go
      · exfalso; omega
  -- sweeps
  have l1 : ∀ k : Nat, ∀ N b, kz_I M N n → ((b = 0 ∧ kz_K M N (15 * n)) ∨ (b = 1 ∧ 1443225600000 * (n : Int) - ka_sum (N 208) n ≤ k)) → mm_J X Y_X13_findHigh 243 243 243 27 [(2, 184), (0, (n : Int)), (0, b), (9, 0), (9, 0), (9, 0), (9, 0), (9, 0)] [] N Φ := by
    intro k
    induction k with
    | zero =>
      intro N b hI hb
      have hRN := hI.1
      rcases hb with ⟨rfl, hk⟩ | ⟨rfl, hk⟩
      · refine mm_iload_n dX13_findHigh_27 rfl rfl ?_
        refine mm_ifeq dX13_findHigh_28 (by omega) (fun h28 => ?_) (fun h28 => ?_)
        · refine mm_vret dX13_findHigh_144 rfl rfl ?_
          rw [hΦ]; exact ⟨rfl, hRN, hI, hk⟩
        · exfalso; omega
      · have go := l2 (ka_sum (N 208) n) (fun P c hP => by
          rcases hP.2 with ⟨rfl, q1, q2⟩ | ⟨-, q1⟩
          · have hRP := hP.1.1
            refine mm_iload_n dX13_findHigh_27 rfl rfl ?_
            refine mm_ifeq dX13_findHigh_28 (by omega) (fun h28 => ?_) (fun h28 => ?_)
            · refine mm_vret dX13_findHigh_144 rfl rfl ?_
              rw [hΦ]; exact ⟨rfl, hRP, hP.1, q2⟩
            · exfalso; omega
          · have := top P hP.1
            exfalso; omega) 0 (Nat.zero_le _) N 0 ⟨hI, Or.inl ⟨rfl, Int.le_refl _, fun i hi => absurd hi (by omega)⟩⟩
        refine mm_iload_n dX13_findHigh_27 rfl rfl ?_
        refine mm_ifeq dX13_findHigh_28 (by omega) (fun h28 => ?_) (fun h28 => ?_)
        · exfalso; omega
        · refine mm_iconst dX13_findHigh_31 rfl ?_
          refine mm_istore_n dX13_findHigh_32 rfl (Nat.le_of_ble_eq_true rfl) rfl ?_
          refine mm_iconst dX13_findHigh_33 rfl ?_
          refine mm_istore_n dX13_findHigh_34 rfl (Nat.le_of_ble_eq_true rfl) rfl ?_
          exact go
    | succ k ihk =>
      intro N b hI hb
      have hRN := hI.1
      rcases hb with ⟨rfl, hk⟩ | ⟨rfl, hk⟩
      · refine mm_iload_n dX13_findHigh_27 rfl rfl ?_
        refine mm_ifeq dX13_findHigh_28 (by omega) (fun h28 => ?_) (fun h28 => ?_)
        · refine mm_vret dX13_findHigh_144 rfl rfl ?_
          rw [hΦ]; exact ⟨rfl, hRN, hI, hk⟩
        · exfalso; omega
      · have go := l2 (ka_sum (N 208) n) (fun P c hP => ihk P c hP.1 (by
          rcases hP.2 with ⟨q0, q1, q2⟩ | ⟨q0, q1⟩
          · exact Or.inl ⟨q0, q2⟩
          · exact Or.inr ⟨q0, by omega⟩)) 0 (Nat.zero_le _) N 0 ⟨hI, Or.inl ⟨rfl, Int.le_refl _, fun i hi => absurd hi (by omega)⟩⟩
        refine mm_iload_n dX13_findHigh_27 rfl rfl ?_
        refine mm_ifeq dX13_findHigh_28 (by omega) (fun h28 => ?_) (fun h28 => ?_)
        · exfalso; omega
        · refine mm_iconst dX13_findHigh_31 rfl ?_
          refine mm_istore_n dX13_findHigh_32 rfl (Nat.le_of_ble_eq_true rfl) rfl ?_
          refine mm_iconst dX13_findHigh_33 rfl ?_
          refine mm_istore_n dX13_findHigh_34 rfl (Nat.le_of_ble_eq_true rfl) rfl ?_
          exact go
  -- the levels are cleared
  have l0 : ∀ s : Nat, s ≤ n → ∀ N, mm_Rf N → (∀ a, a ≠ 208 → N a = M a) → (∀ v, v < s → N 208 v = 0) → mm_J X Y_X13_findHigh 243 243 243 7 [(2, 184), (0, (n : Int)), (0, (s : Int)), (9, 0), (9, 0), (9, 0), (9, 0), (9, 0)] [] N Φ := by
    refine mm_lp ?_
    intro s hs ih N hRN f1 hH
    by_cases hlt : s < n
    · refine mm_iload_n dX13_findHigh_7 rfl rfl ?_
      refine mm_iload_n dX13_findHigh_8 rfl rfl ?_
      refine mm_icge dX13_findHigh_9 (by omega) (by omega) (fun h9 => ?_) (fun h9 => ?_)
      · exfalso; omega
      · refine mm_aload_n dX13_findHigh_12 rfl rfl ?_
        refine mm_getr dX13_findHigh_13 rfl fl_X13_272 (c := 183) rfl (by decide) rfl rfl (hRN.at (c := 183) (i := 41) (v := 209) rfl (by decide)) ?_
        refine mm_iload_n dX13_findHigh_16 rfl rfl ?_
        refine mm_lconst0 dX13_findHigh_17 rfl ?_
        refine mm_lstk (k0 := s) dX13_findHigh_18 rfl (c := 208) rfl (by decide) rfl (by omega) (by omega) (fun M18 hM18 => ?_)
        have hR18 : mm_Rf M18 := by rw [hM18]; exact hRN.up (mm_rt_ar (t := 3) rfl (by decide))
        refine mm_iinc dX13_findHigh_19 rfl rfl (Nat.le_of_ble_eq_true rfl) rfl ?_
        refine mm_goto dX13_findHigh_22 ?_
        have go := ih hlt _ hR18 ?_ ?_
        · rw [show ((s + 1 : Nat) : Int) = (s : Int) + 1 by omega] at go
          exact go
        · intro a a1; rw [hM18, mm_up_row a1]; exact f1 a a1
        · intro v hv
          by_cases c : v = s
          · rw [c, hM18, mm_up_s]
          · rw [hM18, mm_up_i (by omega)]; exact hH v (by omega)
    · have es : s = n := by omega
      subst es
      have go := l1 (1443225600000 * (s : Int) - ka_sum (N 208) s).toNat N 1 ⟨hRN, f1, fun v hv => ⟨by rw [hH v hv]; omega, fun _ => v, fun _ => 0, 0, fun j hj => absurd hj (by omega), rfl, by rw [hH v hv]; unfold gS; show M 183 40 * 0 - M 183 39 * 0 = 0; omega⟩⟩ (Or.inr ⟨rfl, by omega⟩)
      refine mm_iload_n dX13_findHigh_7 rfl rfl ?_
      refine mm_iload_n dX13_findHigh_8 rfl rfl ?_
      refine mm_icge dX13_findHigh_9 (by omega) (by omega) (fun h9 => ?_) (fun h9 => ?_)
      · refine mm_iconst dX13_findHigh_25 rfl ?_
        refine mm_istore_n dX13_findHigh_26 rfl (Nat.le_of_ble_eq_true rfl) rfl ?_
        exact go
      · exfalso; omega
  have cn := c_X13_states (X := X) hR
  rw [hn] at cn
  refine mm_start (ls := [(2, 184), (9, 0), (9, 0), (9, 0), (9, 0), (9, 0), (9, 0), (9, 0)]) rfl ?_
  refine mm_aload_n dX13_findHigh_0 rfl rfl ?_
  refine mm_V0i dX13_findHigh_1 rfl lk_X13_458 (c := 183) rfl (by decide) rfl  rfl rfl rfl (cn) ?_
  refine mm_istore_n dX13_findHigh_4 rfl (Nat.le_of_ble_eq_true rfl) rfl ?_
  refine mm_iconst dX13_findHigh_5 rfl ?_
  refine mm_istore_n dX13_findHigh_6 rfl (Nat.le_of_ble_eq_true rfl) rfl ?_
  exact l0 0 (Nat.zero_le _) M hR (fun _ _ => rfl) (fun v hv => absurd hv (by omega))
end

