/-! ===== judge, of the reference ===== -/
def kj_actR (M : mm_M) (i : Nat) : Int := M 185 i % 256 - 48
def kj_okR (M : mm_M) : Prop := (1 ≤ M 183 2 ∧ M 183 2 ≤ 100) ∧ ∀ i : Nat, (i : Int) < M 183 2 → ks_ac (mm_rk M) (kj_actR M i)
/-- what judge leaves -/
def kj_postR (M M' : mm_M) (s h : Int) (c : Nat) : Prop :=
  kj_is (kj_P (mm_rk M) (M 203) (M 204) s h (kj_actR M)) (M 183 2).toNat c ∧ (∀ a, a ≠ 183 → a ≠ 215 → M' a = M a) ∧ (∀ b, b ≠ 2 → ¬ (55 ≤ b ∧ b ≤ 62) → b ≠ 68 → M' 183 b = M 183 b) ∧ M' 183 2 = 0 ∧
  M' 183 55 = kf_run (mm_rk M) s (kj_actR M) c ∧ M' 183 56 = kj_won (mm_rk M) (M 203) (M 204) s h (kj_actR M) c ∧ M' 183 57 = kj_spent (mm_rk M) (M 203) (M 204) s h (kj_actR M) c ∧ M' 183 58 = kj_great (mm_rk M) (M 204) s h (kj_actR M) c ∧
  M' 183 59 = M 183 2 ∧ M' 183 60 = s ∧ M' 183 61 = 1 ∧ M' 183 62 = mm_b ((c : Int) = M 183 2 ∧ kf_run (mm_rk M) s (kj_actR M) c = s) ∧ M' 183 68 = mm_b ((c : Int) = M 183 2 ∧ kf_run (mm_rk M) s (kj_actR M) c = s) ∧ (∀ j, j < c → M' 215 j = kj_actR M j)
section
variable {X : mm_X} {M : mm_M} {s h : Int}
theorem c_X13_judge1 (hR : mm_Rf M) (hK : mm_KV (mm_rk M)) (hA : mm_RA M) (hs : ks_st (mm_rk M) s) (hh : ks_hr h) (hv : ∀ k : Nat, k < 800 → -128 ≤ M 185 k ∧ M 185 k ≤ 127) (hok : kj_okR M) :
    mm_C X Y_X13_judge 243 243 [(2, 184), (0, s), (0, h)] M (fun r M' => ∃ c : Nat, r = (0, (c : Int)) ∧ mm_Rf M' ∧ mm_rg M M' ∧ kj_postR M M' s h c) := by
  have hnb := ks_nb hK
  have hs1 := hs.1
  have hs2 := hs.2
  have hn := hok.1
  have hG0 := mm_rg.rf M
  obtain ⟨n, hnn⟩ : ∃ n, n = (M 183 2).toNat := ⟨_, rfl⟩
  refine mm_start (ls := [(2, 184), (0, s), (0, h), (9, 0), (9, 0), (9, 0), (9, 0), (9, 0)]) rfl ?_
  have loop : ∀ i : Nat, i ≤ n → ∀ (N : mm_M) (l6 l7 : mm_V), mm_Rf N → mm_rg M N → (∀ j, j < i → kj_P (mm_rk M) (M 203) (M 204) s h (kj_actR M) j) → (∀ a, a ≠ 183 → a ≠ 215 → N a = M a) → (∀ b, b ≠ 2 → ¬ (55 ≤ b ∧ b ≤ 62) → b ≠ 68 → N 183 b = M 183 b) →
      N 183 2 = 0 → N 183 56 = kj_won (mm_rk M) (M 203) (M 204) s h (kj_actR M) i → N 183 57 = kj_spent (mm_rk M) (M 203) (M 204) s h (kj_actR M) i → N 183 58 = kj_great (mm_rk M) (M 204) s h (kj_actR M) i → N 183 60 = s → (∀ j, j < i → N 215 j = kj_actR M j) →
      mm_J X Y_X13_judge 243 243 243 106 [(2, 184), (0, s), (0, h), (0, M 183 2), (0, kf_run (mm_rk M) s (kj_actR M) i), (0, (i : Int)), l6, l7] [] N (fun r M' => ∃ c : Nat, r = (0, (c : Int)) ∧ mm_Rf M' ∧ mm_rg M M' ∧ kj_postR M M' s h c) := by
    refine mm_lp ?_
    intro i hi ih N l6 l7 hRN hG hsf hfr hfb e2 e56 e57 e58 e60 hst
    have hS := kj_st hK hs hsf
    have hS1 := hS.1
    have hS2 := hS.2
    have f185 : N 185 = M 185 := hfr 185 (by decide) (by decide)
    have hsb : ∀ j, j < i → -5800000 ≤ kj_g (mm_rk M) (M 203) (M 204) s h (kj_actR M) j ∧ kj_g (mm_rk M) (M 203) (M 204) s h (kj_actR M) j ≤ 5800000 := by
      intro j hj
      have hw := hA.wi hK (kj_st hK hs (fun k hk => hsf k (Nat.lt_trans hk hj))) hh
      exact ks_sureb hK (hok.2 j (by omega)) hw.1 hw.2
    have b6 := ka_sumb (B := 5800000) (n := i) (f := fun j => if ks_dr (kj_actR M j) = 1 then kj_g (mm_rk M) (M 203) (M 204) s h (kj_actR M) j else 0) (fun j hj => by have := hsb j hj; split <;> omega)
    have b7 := ka_sumb (B := 5800000) (n := i) (f := fun j => if ks_dr (kj_actR M j) = 2 then -kj_g (mm_rk M) (M 203) (M 204) s h (kj_actR M) j else 0) (fun j hj => by have := hsb j hj; split <;> omega)
    have b8 := ka_maxb (B := 1425600) (by decide) (n := i) (f := fun j => ks_p (mm_rk M) (kf_run (mm_rk M) s (kj_actR M) j) (kj_actR M j) (ks_wi (M 204) (mm_rk M) (kf_run (mm_rk M) s (kj_actR M) j) h)) (fun j hj => ks_pw hK (hok.2 j (by omega)) (hA.wi hK (kj_st hK hs (fun k hk => hsf k (Nat.lt_trans hk hj))) hh).2)
    change -(5800000 * (i : Int)) ≤ kj_won _ _ _ _ _ _ i ∧ kj_won _ _ _ _ _ _ i ≤ _ at b6
    change -(5800000 * (i : Int)) ≤ kj_spent _ _ _ _ _ _ i ∧ kj_spent _ _ _ _ _ _ i ≤ _ at b7
    change 0 ≤ kj_great _ _ _ _ _ i ∧ kj_great _ _ _ _ _ i ≤ _ at b8
    have fin : (i < n → ¬ kj_P (mm_rk M) (M 203) (M 204) s h (kj_actR M) i) → mm_J X Y_X13_judge 243 243 243 254 [(2, 184), (0, s), (0, h), (0, M 183 2), (0, kf_run (mm_rk M) s (kj_actR M) i), (0, (i : Int)), l6, l7] [] N (fun r M' => ∃ c : Nat, r = (0, (c : Int)) ∧ mm_Rf M' ∧ mm_rg M M' ∧ kj_postR M M' s h c) := by
      intro hno
      refine mm_aload_n dX13_judge_254 rfl rfl ?_
      refine mm_iload dX13_judge_255 rfl rfl ?_
      refine mm_puti dX13_judge_257 rfl fl_X13_615 (c := 183) rfl (by decide) rfl rfl (fun M257 hM257 => ?_)
      have hR257 : mm_Rf M257 := by rw [hM257]; exact hRN.up rfl
      have hG257 : mm_rg M M257 := by rw [hM257]; exact hG.up (by decide)
      refine mm_aload_n dX13_judge_260 rfl rfl ?_
      refine mm_iload_n dX13_judge_261 rfl rfl ?_
      refine mm_puti dX13_judge_262 rfl fl_X13_618 (c := 183) rfl (by decide) rfl rfl (fun M262 hM262 => ?_)
      have hR262 : mm_Rf M262 := by rw [hM262]; exact hR257.up rfl
      have hG262 : mm_rg M M262 := by rw [hM262]; exact hG257.up (by decide)
      refine mm_aload_n dX13_judge_265 rfl rfl ?_
      refine mm_iconst dX13_judge_266 rfl ?_
      refine mm_putz dX13_judge_267 rfl fl_X13_621 (c := 183) rfl (by decide) rfl rfl (Or.inr rfl) (fun M267 hM267 => ?_)
      have hR267 : mm_Rf M267 := by rw [hM267]; exact hR262.up rfl
      have hG267 : mm_rg M M267 := by rw [hM267]; exact hG262.up (by decide)
      refine mm_aload_n dX13_judge_270 rfl rfl ?_
      refine mm_iload dX13_judge_271 rfl rfl ?_
      refine mm_iload_n dX13_judge_273 rfl rfl ?_
      refine mm_icne dX13_judge_274 (by omega) (by omega) (fun h274 => ?_) (fun h274 => ?_)
      · refine mm_iconst dX13_judge_287 rfl ?_
        obtain ⟨v, hv⟩ : ∃ v : Int, v = mm_b ((i : Int) = M 183 2 ∧ kf_run (mm_rk M) s (kj_actR M) i = s) := ⟨_, rfl⟩
        first
        | rw [show (1 : Int) = mm_b ((i : Int) = M 183 2 ∧ kf_run (mm_rk M) s (kj_actR M) i = s) from mm_b1 ⟨h274, h280⟩]
        | rw [show (0 : Int) = mm_b ((i : Int) = M 183 2 ∧ kf_run (mm_rk M) s (kj_actR M) i = s) from mm_b0 (fun q => h280 q.2)]
        | rw [show (0 : Int) = mm_b ((i : Int) = M 183 2 ∧ kf_run (mm_rk M) s (kj_actR M) i = s) from mm_b0 (fun q => h274 q.1)]
        refine mm_putz dX13_judge_288 rfl fl_X13_412 (c := 183) rfl (by decide) rfl rfl (mm_b_01 _) (fun M288 hM288 => ?_)
        have hR288 : mm_Rf M288 := by rw [hM288]; exact hR267.up rfl
        have hG288 : mm_rg M M288 := by rw [hM288]; exact hG267.up (by decide)
        refine mm_aload_n dX13_judge_291 rfl rfl ?_
        refine mm_aload_n dX13_judge_292 rfl rfl ?_
        refine mm_get (kd := 0) dX13_judge_293 rfl fl_X13_412 (c := 183) rfl (by decide) rfl rfl ?_
        obtain ⟨v293, hv293⟩ : ∃ v, v = M288 183 62 := ⟨_, rfl⟩
        rw [← hv293]
        rw [hM288, mm_up_s] at hv293
        subst hv293
        refine mm_putz dX13_judge_296 rfl fl_X13_624 (c := 183) rfl (by decide) rfl rfl (mm_b_01 _) (fun M296 hM296 => ?_)
        have hR296 : mm_Rf M296 := by rw [hM296]; exact hR288.up rfl
        have hG296 : mm_rg M M296 := by rw [hM296]; exact hG288.up (by decide)
        refine mm_iload dX13_judge_299 rfl rfl ?_
        refine mm_iret dX13_judge_301 rfl rfl ?_
        refine ⟨i, rfl, hR296, hG296, ⟨by omega, hsf, fun q => hno (by omega)⟩, ?_, ?_, ?_, ?_, ?_, ?_, ?_, ?_, ?_, ?_, ?_, ?_, ?_⟩
        · intro a h1 h2; funext b; simp [hM296, hM288, hM267, hM262, hM257, mm_up, h1]; rw [hfr a h1 h2]
        · intro b h1 h2 h3
          have n1 : b ≠ 55 := by omega
          have n2 : b ≠ 59 := by omega
          have n3 : b ≠ 61 := by omega
          have n4 : b ≠ 62 := by omega
          simp [hM296, hM288, hM267, hM262, hM257, mm_up, n1, n2, n3, n4, h3]; exact hfb b h1 h2 h3
        · simp [hM296, hM288, hM267, hM262, hM257, mm_up, e2]
        · simp [hM296, hM288, hM267, hM262, hM257, mm_up]
        · simp [hM296, hM288, hM267, hM262, hM257, mm_up, e56]
        · simp [hM296, hM288, hM267, hM262, hM257, mm_up, e57]
        · simp [hM296, hM288, hM267, hM262, hM257, mm_up, e58]
        · simp [hM296, hM288, hM267, hM262, hM257, mm_up]
        · simp [hM296, hM288, hM267, hM262, hM257, mm_up, e60]
        · simp [hM296, hM288, hM267, hM262, hM257, mm_up]
        · simp [hM296, hM288, hM267, hM262, hM257, mm_up]
        · simp [hM296, hM288, hM267, hM262, hM257, mm_up]
        · intro j hj; simp [hM296, hM288, hM267, hM262, hM257, mm_up]; exact hst j hj
      · refine mm_iload dX13_judge_277 rfl rfl ?_
        refine mm_iload_n dX13_judge_279 rfl rfl ?_
        refine mm_icne dX13_judge_280 (by omega) (by omega) (fun h280 => ?_) (fun h280 => ?_)
        · refine mm_iconst dX13_judge_287 rfl ?_
          obtain ⟨v, hv⟩ : ∃ v : Int, v = mm_b ((i : Int) = M 183 2 ∧ kf_run (mm_rk M) s (kj_actR M) i = s) := ⟨_, rfl⟩
          first
          | rw [show (1 : Int) = mm_b ((i : Int) = M 183 2 ∧ kf_run (mm_rk M) s (kj_actR M) i = s) from mm_b1 ⟨h274, h280⟩]
          | rw [show (0 : Int) = mm_b ((i : Int) = M 183 2 ∧ kf_run (mm_rk M) s (kj_actR M) i = s) from mm_b0 (fun q => h280 q.2)]
          | rw [show (0 : Int) = mm_b ((i : Int) = M 183 2 ∧ kf_run (mm_rk M) s (kj_actR M) i = s) from mm_b0 (fun q => h274 q.1)]
          refine mm_putz dX13_judge_288 rfl fl_X13_412 (c := 183) rfl (by decide) rfl rfl (mm_b_01 _) (fun M288 hM288 => ?_)
          have hR288 : mm_Rf M288 := by rw [hM288]; exact hR267.up rfl
          have hG288 : mm_rg M M288 := by rw [hM288]; exact hG267.up (by decide)
          refine mm_aload_n dX13_judge_291 rfl rfl ?_
          refine mm_aload_n dX13_judge_292 rfl rfl ?_
          refine mm_get (kd := 0) dX13_judge_293 rfl fl_X13_412 (c := 183) rfl (by decide) rfl rfl ?_
          obtain ⟨v293, hv293⟩ : ∃ v, v = M288 183 62 := ⟨_, rfl⟩
          rw [← hv293]
          rw [hM288, mm_up_s] at hv293
          subst hv293
          refine mm_putz dX13_judge_296 rfl fl_X13_624 (c := 183) rfl (by decide) rfl rfl (mm_b_01 _) (fun M296 hM296 => ?_)
          have hR296 : mm_Rf M296 := by rw [hM296]; exact hR288.up rfl
          have hG296 : mm_rg M M296 := by rw [hM296]; exact hG288.up (by decide)
          refine mm_iload dX13_judge_299 rfl rfl ?_
          refine mm_iret dX13_judge_301 rfl rfl ?_
          refine ⟨i, rfl, hR296, hG296, ⟨by omega, hsf, fun q => hno (by omega)⟩, ?_, ?_, ?_, ?_, ?_, ?_, ?_, ?_, ?_, ?_, ?_, ?_, ?_⟩
          · intro a h1 h2; funext b; simp [hM296, hM288, hM267, hM262, hM257, mm_up, h1]; rw [hfr a h1 h2]
          · intro b h1 h2 h3
            have n1 : b ≠ 55 := by omega
            have n2 : b ≠ 59 := by omega
            have n3 : b ≠ 61 := by omega
            have n4 : b ≠ 62 := by omega
            simp [hM296, hM288, hM267, hM262, hM257, mm_up, n1, n2, n3, n4, h3]; exact hfb b h1 h2 h3
          · simp [hM296, hM288, hM267, hM262, hM257, mm_up, e2]
          · simp [hM296, hM288, hM267, hM262, hM257, mm_up]
          · simp [hM296, hM288, hM267, hM262, hM257, mm_up, e56]
          · simp [hM296, hM288, hM267, hM262, hM257, mm_up, e57]
          · simp [hM296, hM288, hM267, hM262, hM257, mm_up, e58]
          · simp [hM296, hM288, hM267, hM262, hM257, mm_up]
          · simp [hM296, hM288, hM267, hM262, hM257, mm_up, e60]
          · simp [hM296, hM288, hM267, hM262, hM257, mm_up]
          · simp [hM296, hM288, hM267, hM262, hM257, mm_up]
          · simp [hM296, hM288, hM267, hM262, hM257, mm_up]
          · intro j hj; simp [hM296, hM288, hM267, hM262, hM257, mm_up]; exact hst j hj
        · refine mm_iconst dX13_judge_283 rfl ?_
          refine mm_goto dX13_judge_284 ?_
          obtain ⟨v, hv⟩ : ∃ v : Int, v = mm_b ((i : Int) = M 183 2 ∧ kf_run (mm_rk M) s (kj_actR M) i = s) := ⟨_, rfl⟩
          first
          | rw [show (1 : Int) = mm_b ((i : Int) = M 183 2 ∧ kf_run (mm_rk M) s (kj_actR M) i = s) from mm_b1 ⟨h274, h280⟩]
          | rw [show (0 : Int) = mm_b ((i : Int) = M 183 2 ∧ kf_run (mm_rk M) s (kj_actR M) i = s) from mm_b0 (fun q => h280 q.2)]
          | rw [show (0 : Int) = mm_b ((i : Int) = M 183 2 ∧ kf_run (mm_rk M) s (kj_actR M) i = s) from mm_b0 (fun q => h274 q.1)]
          refine mm_putz dX13_judge_288 rfl fl_X13_412 (c := 183) rfl (by decide) rfl rfl (mm_b_01 _) (fun M288 hM288 => ?_)
          have hR288 : mm_Rf M288 := by rw [hM288]; exact hR267.up rfl
          have hG288 : mm_rg M M288 := by rw [hM288]; exact hG267.up (by decide)
          refine mm_aload_n dX13_judge_291 rfl rfl ?_
          refine mm_aload_n dX13_judge_292 rfl rfl ?_
          refine mm_get (kd := 0) dX13_judge_293 rfl fl_X13_412 (c := 183) rfl (by decide) rfl rfl ?_
          obtain ⟨v293, hv293⟩ : ∃ v, v = M288 183 62 := ⟨_, rfl⟩
          rw [← hv293]
          rw [hM288, mm_up_s] at hv293
          subst hv293
          refine mm_putz dX13_judge_296 rfl fl_X13_624 (c := 183) rfl (by decide) rfl rfl (mm_b_01 _) (fun M296 hM296 => ?_)
          have hR296 : mm_Rf M296 := by rw [hM296]; exact hR288.up rfl
          have hG296 : mm_rg M M296 := by rw [hM296]; exact hG288.up (by decide)
          refine mm_iload dX13_judge_299 rfl rfl ?_
          refine mm_iret dX13_judge_301 rfl rfl ?_
          refine ⟨i, rfl, hR296, hG296, ⟨by omega, hsf, fun q => hno (by omega)⟩, ?_, ?_, ?_, ?_, ?_, ?_, ?_, ?_, ?_, ?_, ?_, ?_, ?_⟩
          · intro a h1 h2; funext b; simp [hM296, hM288, hM267, hM262, hM257, mm_up, h1]; rw [hfr a h1 h2]
          · intro b h1 h2 h3
            have n1 : b ≠ 55 := by omega
            have n2 : b ≠ 59 := by omega
            have n3 : b ≠ 61 := by omega
            have n4 : b ≠ 62 := by omega
            simp [hM296, hM288, hM267, hM262, hM257, mm_up, n1, n2, n3, n4, h3]; exact hfb b h1 h2 h3
          · simp [hM296, hM288, hM267, hM262, hM257, mm_up, e2]
          · simp [hM296, hM288, hM267, hM262, hM257, mm_up]
          · simp [hM296, hM288, hM267, hM262, hM257, mm_up, e56]
          · simp [hM296, hM288, hM267, hM262, hM257, mm_up, e57]
          · simp [hM296, hM288, hM267, hM262, hM257, mm_up, e58]
          · simp [hM296, hM288, hM267, hM262, hM257, mm_up]
          · simp [hM296, hM288, hM267, hM262, hM257, mm_up, e60]
          · simp [hM296, hM288, hM267, hM262, hM257, mm_up]
          · simp [hM296, hM288, hM267, hM262, hM257, mm_up]
          · simp [hM296, hM288, hM267, hM262, hM257, mm_up]
          · intro j hj; simp [hM296, hM288, hM267, hM262, hM257, mm_up]; exact hst j hj
    by_cases hlt : i < n
    · have hai := hok.2 i (by omega)
      have hw := hA.wi hK hS hh
      have hp := ks_pw hK (s := kf_run (mm_rk M) s (kj_actR M) i) hai hw.2
      have hg := ks_sureb hK hai hw.1 hw.2
      have hslb := ks_slb hK hai
      have ha1 := hai.1
      have ha2 := hai.2
      have hdb := ks_drb ha1
      have hb := hv i (by omega)
      have ea : (mm_i (M 185 i) &&& mm_i 255).toInt - 48 = kj_actR M i := by rw [kb_and hb]; rfl
      by_cases hsafe : kj_P (mm_rk M) (M 203) (M 204) s h (kj_actR M) i
      · refine mm_iload dX13_judge_106 rfl rfl ?_
        refine mm_iload_n dX13_judge_108 rfl rfl ?_
        refine mm_icge dX13_judge_109 (by omega) (by omega) (fun h109 => ?_) (fun h109 => ?_)
        · exfalso; omega
        · refine mm_aload_n dX13_judge_112 rfl rfl ?_
          refine mm_iload dX13_judge_113 rfl rfl ?_
          refine mm_aload_n dX13_judge_115 rfl rfl ?_
          refine mm_getr dX13_judge_116 rfl fl_X13_26 (c := 183) rfl (by decide) rfl rfl (hRN.at (c := 183) (i := 1) (v := 186) rfl (by decide)) ?_
          refine mm_iload dX13_judge_119 rfl rfl ?_
          refine mm_balk (k0 := i) dX13_judge_121 rfl (c := 185) rfl (by decide) rfl (by omega) (by omega) ?_
          rw [f185]
          refine mm_sipush dX13_judge_122 rfl (by decide) ?_
          refine mm_iand dX13_judge_125 rfl ?_
          refine mm_bipush dX13_judge_126 rfl (by decide) ?_
          refine mm_isub dX13_judge_128 rfl ?_
          rw [ea]
          refine mm_iload_n dX13_judge_129 rfl rfl ?_
          refine mm_V3i dX13_judge_130 rfl lk_X13_510 (c := 183) rfl (by decide) rfl (by simp) (by simp) (by simp) rfl rfl rfl (g_X13_isSafe hRN hG hK hA hS hai hh) ?_
          refine mm_ifeqb dX13_judge_133 (fun h133 => ?_) (fun h133 => ?_)
          · exact absurd hsafe h133
          · clear h133
            refine mm_aload_n dX13_judge_136 rfl rfl ?_
            refine mm_getr dX13_judge_137 rfl fl_X13_26 (c := 183) rfl (by decide) rfl rfl (hRN.at (c := 183) (i := 1) (v := 186) rfl (by decide)) ?_
            refine mm_iload dX13_judge_140 rfl rfl ?_
            refine mm_balk (k0 := i) dX13_judge_142 rfl (c := 185) rfl (by decide) rfl (by omega) (by omega) ?_
            rw [f185]
            refine mm_sipush dX13_judge_143 rfl (by decide) ?_
            refine mm_iand dX13_judge_146 rfl ?_
            refine mm_bipush dX13_judge_147 rfl (by decide) ?_
            refine mm_isub dX13_judge_149 rfl ?_
            rw [ea]
            refine mm_istore dX13_judge_150 rfl (Nat.le_of_ble_eq_true rfl) rfl ?_
            refine mm_aload_n dX13_judge_152 rfl rfl ?_
            refine mm_iload dX13_judge_153 rfl rfl ?_
            refine mm_iload dX13_judge_155 rfl rfl ?_
            refine mm_iload_n dX13_judge_157 rfl rfl ?_
            refine mm_V3i dX13_judge_158 rfl lk_X13_514 (c := 183) rfl (by decide) rfl (by simp) (by simp) (by simp) rfl rfl rfl (g_X13_surely hRN hG hK hA hS hai hh) ?_
            refine mm_istore dX13_judge_161 rfl (Nat.le_of_ble_eq_true rfl) rfl ?_
            refine mm_iload dX13_judge_163 rfl rfl ?_
            refine mm_S1i dX13_judge_165 rfl lk_X13_448 (by simp) rfl rfl rfl (c_X13_drumOf (by omega)) ?_
            refine mm_iconst dX13_judge_168 rfl ?_
            refine mm_icne dX13_judge_169 (by omega) (by omega) (fun h169 => ?_) (fun h169 => ?_)
            · refine mm_iload dX13_judge_183 rfl rfl ?_
              refine mm_S1i dX13_judge_185 rfl lk_X13_448 (by simp) rfl rfl rfl (c_X13_drumOf (by omega)) ?_
              refine mm_iconst dX13_judge_188 rfl ?_
              refine mm_icne dX13_judge_189 (by omega) (by omega) (fun h189 => ?_) (fun h189 => ?_)
              · refine mm_aload_n dX13_judge_203 rfl rfl ?_
                refine mm_aload_n dX13_judge_204 rfl rfl ?_
                refine mm_get (kd := 0) dX13_judge_205 rfl fl_X13_609 (c := 183) rfl (by decide) rfl rfl ?_
                obtain ⟨v205, hv205⟩ : ∃ v, v = N 183 58 := ⟨_, rfl⟩
                rw [← hv205]
                rw [e58] at hv205
                subst hv205
                refine mm_aload_n dX13_judge_208 rfl rfl ?_
                refine mm_iload dX13_judge_209 rfl rfl ?_
                refine mm_iload dX13_judge_211 rfl rfl ?_
                refine mm_aload_n dX13_judge_213 rfl rfl ?_
                refine mm_iload dX13_judge_214 rfl rfl ?_
                refine mm_iload_n dX13_judge_216 rfl rfl ?_
                refine mm_V2i dX13_judge_217 rfl lk_X13_501 (c := 183) rfl (by decide) rfl (by simp) (by simp) rfl rfl rfl (g_X13_highAt hRN hG hK hS hh) ?_
                refine mm_V3i dX13_judge_220 rfl lk_X13_497 (c := 183) rfl (by decide) rfl (by simp) (by simp) (by simp) rfl rfl rfl (g_X13_pullOf hRN hG hK hS hai (by omega)) ?_
                refine mm_max dX13_judge_223 rfl lm_X13_518 rfl rfl (by simp) (by omega) (by omega) ?_
                refine mm_puti dX13_judge_226 rfl fl_X13_609 (c := 183) rfl (by decide) rfl rfl (fun M226 hM226 => ?_)
                have hR226 : mm_Rf M226 := by rw [hM226]; exact hRN.up rfl
                have hG226 : mm_rg M M226 := by rw [hM226]; exact hG.up (by decide)
                refine mm_aload_n dX13_judge_229 rfl rfl ?_
                refine mm_getr dX13_judge_230 rfl fl_X13_292 (c := 183) rfl (by decide) rfl rfl (hR226.at (c := 183) (i := 63) (v := 216) rfl (by decide)) ?_
                refine mm_iload dX13_judge_233 rfl rfl ?_
                refine mm_iload dX13_judge_235 rfl rfl ?_
                refine mm_istk (k0 := i) dX13_judge_237 rfl (c := 215) rfl (by decide) rfl (by omega) (by omega) (fun M237 hM237 => ?_)
                have hR237 : mm_Rf M237 := by rw [hM237]; exact hR226.up (mm_rt_ar (t := 0) rfl (by decide))
                have hG237 : mm_rg M M237 := by rw [hM237]; exact hG226.upa (by decide)
                refine mm_aload_n dX13_judge_238 rfl rfl ?_
                refine mm_iload dX13_judge_239 rfl rfl ?_
                refine mm_iload dX13_judge_241 rfl rfl ?_
                refine mm_V2i dX13_judge_243 rfl lk_X13_476 (c := 183) rfl (by decide) rfl (by simp) (by simp) rfl rfl rfl (g_X13_after hR237 hG237 (by omega)) ?_
                refine mm_istore dX13_judge_246 rfl (Nat.le_of_ble_eq_true rfl) rfl ?_
                refine mm_iinc dX13_judge_248 rfl rfl (Nat.le_of_ble_eq_true rfl) rfl ?_
                refine mm_goto dX13_judge_251 ?_
                refine ih hlt _ _ _ hR237 hG237 ?_ ?_ ?_ ?_ ?_ ?_ ?_ ?_ ?_
                · intro j hj
                  by_cases q : j = i
                  · rw [q]; exact hsafe
                  · exact hsf j (by omega)
                · intro a h1 h2; funext b; simp [hM237, hM226, mm_up, h1, h2]; rw [hfr a h1 h2]
                · intro b h1 h2 h3
                  have n1 : b ≠ 56 := by omega
                  have n2 : b ≠ 57 := by omega
                  have n3 : b ≠ 58 := by omega
                  simp [hM237, hM226, mm_up, n1, n2, n3]; exact hfb b h1 h2 h3
                · simp [hM237, hM226, mm_up, e2]
                · simp [hM237, hM226, mm_up, e56]
                  unfold kj_won
                  rw [ka_sum]
                  first | (rw [if_pos h169]; rfl) | (rw [if_neg h169]; simp)
                · simp [hM237, hM226, mm_up, e57]
                  unfold kj_spent
                  rw [ka_sum]
                  first | (rw [if_pos h189]; simp [kj_g, Int.sub_eq_add_neg]) | (rw [if_neg h189]; simp)
                · simp [hM237, hM226, mm_up]; rfl
                · simp [hM237, hM226, mm_up, e60]
                · intro j hj
                  by_cases q : j = i
                  · simp [hM237, hM226, mm_up, q]
                  · simp [hM237, hM226, mm_up, q]; exact hst j (by omega)
              · refine mm_aload_n dX13_judge_192 rfl rfl ?_
                refine mm_dup dX13_judge_193 rfl (by simp) ?_
                refine mm_get (kd := 0) dX13_judge_194 rfl fl_X13_606 (c := 183) rfl (by decide) rfl rfl ?_
                obtain ⟨v194, hv194⟩ : ∃ v, v = N 183 57 := ⟨_, rfl⟩
                rw [← hv194]
                rw [e57] at hv194
                subst hv194
                refine mm_iload dX13_judge_197 rfl rfl ?_
                refine mm_isub dX13_judge_199 rfl ?_
                refine mm_puti dX13_judge_200 rfl fl_X13_606 (c := 183) rfl (by decide) rfl rfl (fun M200 hM200 => ?_)
                have hR200 : mm_Rf M200 := by rw [hM200]; exact hRN.up rfl
                have hG200 : mm_rg M M200 := by rw [hM200]; exact hG.up (by decide)
                refine mm_aload_n dX13_judge_203 rfl rfl ?_
                refine mm_aload_n dX13_judge_204 rfl rfl ?_
                refine mm_get (kd := 0) dX13_judge_205 rfl fl_X13_609 (c := 183) rfl (by decide) rfl rfl ?_
                obtain ⟨v205, hv205⟩ : ∃ v, v = M200 183 58 := ⟨_, rfl⟩
                rw [← hv205]
                rw [hM200, mm_up_i (by decide), e58] at hv205
                subst hv205
                refine mm_aload_n dX13_judge_208 rfl rfl ?_
                refine mm_iload dX13_judge_209 rfl rfl ?_
                refine mm_iload dX13_judge_211 rfl rfl ?_
                refine mm_aload_n dX13_judge_213 rfl rfl ?_
                refine mm_iload dX13_judge_214 rfl rfl ?_
                refine mm_iload_n dX13_judge_216 rfl rfl ?_
                refine mm_V2i dX13_judge_217 rfl lk_X13_501 (c := 183) rfl (by decide) rfl (by simp) (by simp) rfl rfl rfl (g_X13_highAt hR200 hG200 hK hS hh) ?_
                refine mm_V3i dX13_judge_220 rfl lk_X13_497 (c := 183) rfl (by decide) rfl (by simp) (by simp) (by simp) rfl rfl rfl (g_X13_pullOf hR200 hG200 hK hS hai (by omega)) ?_
                refine mm_max dX13_judge_223 rfl lm_X13_518 rfl rfl (by simp) (by omega) (by omega) ?_
                refine mm_puti dX13_judge_226 rfl fl_X13_609 (c := 183) rfl (by decide) rfl rfl (fun M226 hM226 => ?_)
                have hR226 : mm_Rf M226 := by rw [hM226]; exact hR200.up rfl
                have hG226 : mm_rg M M226 := by rw [hM226]; exact hG200.up (by decide)
                refine mm_aload_n dX13_judge_229 rfl rfl ?_
                refine mm_getr dX13_judge_230 rfl fl_X13_292 (c := 183) rfl (by decide) rfl rfl (hR226.at (c := 183) (i := 63) (v := 216) rfl (by decide)) ?_
                refine mm_iload dX13_judge_233 rfl rfl ?_
                refine mm_iload dX13_judge_235 rfl rfl ?_
                refine mm_istk (k0 := i) dX13_judge_237 rfl (c := 215) rfl (by decide) rfl (by omega) (by omega) (fun M237 hM237 => ?_)
                have hR237 : mm_Rf M237 := by rw [hM237]; exact hR226.up (mm_rt_ar (t := 0) rfl (by decide))
                have hG237 : mm_rg M M237 := by rw [hM237]; exact hG226.upa (by decide)
                refine mm_aload_n dX13_judge_238 rfl rfl ?_
                refine mm_iload dX13_judge_239 rfl rfl ?_
                refine mm_iload dX13_judge_241 rfl rfl ?_
                refine mm_V2i dX13_judge_243 rfl lk_X13_476 (c := 183) rfl (by decide) rfl (by simp) (by simp) rfl rfl rfl (g_X13_after hR237 hG237 (by omega)) ?_
                refine mm_istore dX13_judge_246 rfl (Nat.le_of_ble_eq_true rfl) rfl ?_
                refine mm_iinc dX13_judge_248 rfl rfl (Nat.le_of_ble_eq_true rfl) rfl ?_
                refine mm_goto dX13_judge_251 ?_
                refine ih hlt _ _ _ hR237 hG237 ?_ ?_ ?_ ?_ ?_ ?_ ?_ ?_ ?_
                · intro j hj
                  by_cases q : j = i
                  · rw [q]; exact hsafe
                  · exact hsf j (by omega)
                · intro a h1 h2; funext b; simp [hM237, hM226, hM200, mm_up, h1, h2]; rw [hfr a h1 h2]
                · intro b h1 h2 h3
                  have n1 : b ≠ 56 := by omega
                  have n2 : b ≠ 57 := by omega
                  have n3 : b ≠ 58 := by omega
                  simp [hM237, hM226, hM200, mm_up, n1, n2, n3]; exact hfb b h1 h2 h3
                · simp [hM237, hM226, hM200, mm_up, e2]
                · simp [hM237, hM226, hM200, mm_up, e56]
                  unfold kj_won
                  rw [ka_sum]
                  first | (rw [if_pos h169]; rfl) | (rw [if_neg h169]; simp)
                · simp [hM237, hM226, hM200, mm_up, e57]
                  unfold kj_spent
                  rw [ka_sum]
                  first | (rw [if_pos h189]; simp [kj_g, Int.sub_eq_add_neg]) | (rw [if_neg h189]; simp)
                · simp [hM237, hM226, hM200, mm_up]; rfl
                · simp [hM237, hM226, hM200, mm_up, e60]
                · intro j hj
                  by_cases q : j = i
                  · simp [hM237, hM226, hM200, mm_up, q]
                  · simp [hM237, hM226, hM200, mm_up, q]; exact hst j (by omega)
            · refine mm_aload_n dX13_judge_172 rfl rfl ?_
              refine mm_dup dX13_judge_173 rfl (by simp) ?_
              refine mm_get (kd := 0) dX13_judge_174 rfl fl_X13_603 (c := 183) rfl (by decide) rfl rfl ?_
              obtain ⟨v174, hv174⟩ : ∃ v, v = N 183 56 := ⟨_, rfl⟩
              rw [← hv174]
              rw [e56] at hv174
              subst hv174
              refine mm_iload dX13_judge_177 rfl rfl ?_
              refine mm_iadd dX13_judge_179 rfl ?_
              refine mm_puti dX13_judge_180 rfl fl_X13_603 (c := 183) rfl (by decide) rfl rfl (fun M180 hM180 => ?_)
              have hR180 : mm_Rf M180 := by rw [hM180]; exact hRN.up rfl
              have hG180 : mm_rg M M180 := by rw [hM180]; exact hG.up (by decide)
              refine mm_iload dX13_judge_183 rfl rfl ?_
              refine mm_S1i dX13_judge_185 rfl lk_X13_448 (by simp) rfl rfl rfl (c_X13_drumOf (by omega)) ?_
              refine mm_iconst dX13_judge_188 rfl ?_
              refine mm_icne dX13_judge_189 (by omega) (by omega) (fun h189 => ?_) (fun h189 => ?_)
              · refine mm_aload_n dX13_judge_203 rfl rfl ?_
                refine mm_aload_n dX13_judge_204 rfl rfl ?_
                refine mm_get (kd := 0) dX13_judge_205 rfl fl_X13_609 (c := 183) rfl (by decide) rfl rfl ?_
                obtain ⟨v205, hv205⟩ : ∃ v, v = M180 183 58 := ⟨_, rfl⟩
                rw [← hv205]
                rw [hM180, mm_up_i (by decide), e58] at hv205
                subst hv205
                refine mm_aload_n dX13_judge_208 rfl rfl ?_
                refine mm_iload dX13_judge_209 rfl rfl ?_
                refine mm_iload dX13_judge_211 rfl rfl ?_
                refine mm_aload_n dX13_judge_213 rfl rfl ?_
                refine mm_iload dX13_judge_214 rfl rfl ?_
                refine mm_iload_n dX13_judge_216 rfl rfl ?_
                refine mm_V2i dX13_judge_217 rfl lk_X13_501 (c := 183) rfl (by decide) rfl (by simp) (by simp) rfl rfl rfl (g_X13_highAt hR180 hG180 hK hS hh) ?_
                refine mm_V3i dX13_judge_220 rfl lk_X13_497 (c := 183) rfl (by decide) rfl (by simp) (by simp) (by simp) rfl rfl rfl (g_X13_pullOf hR180 hG180 hK hS hai (by omega)) ?_
                refine mm_max dX13_judge_223 rfl lm_X13_518 rfl rfl (by simp) (by omega) (by omega) ?_
                refine mm_puti dX13_judge_226 rfl fl_X13_609 (c := 183) rfl (by decide) rfl rfl (fun M226 hM226 => ?_)
                have hR226 : mm_Rf M226 := by rw [hM226]; exact hR180.up rfl
                have hG226 : mm_rg M M226 := by rw [hM226]; exact hG180.up (by decide)
                refine mm_aload_n dX13_judge_229 rfl rfl ?_
                refine mm_getr dX13_judge_230 rfl fl_X13_292 (c := 183) rfl (by decide) rfl rfl (hR226.at (c := 183) (i := 63) (v := 216) rfl (by decide)) ?_
                refine mm_iload dX13_judge_233 rfl rfl ?_
                refine mm_iload dX13_judge_235 rfl rfl ?_
                refine mm_istk (k0 := i) dX13_judge_237 rfl (c := 215) rfl (by decide) rfl (by omega) (by omega) (fun M237 hM237 => ?_)
                have hR237 : mm_Rf M237 := by rw [hM237]; exact hR226.up (mm_rt_ar (t := 0) rfl (by decide))
                have hG237 : mm_rg M M237 := by rw [hM237]; exact hG226.upa (by decide)
                refine mm_aload_n dX13_judge_238 rfl rfl ?_
                refine mm_iload dX13_judge_239 rfl rfl ?_
                refine mm_iload dX13_judge_241 rfl rfl ?_
                refine mm_V2i dX13_judge_243 rfl lk_X13_476 (c := 183) rfl (by decide) rfl (by simp) (by simp) rfl rfl rfl (g_X13_after hR237 hG237 (by omega)) ?_
                refine mm_istore dX13_judge_246 rfl (Nat.le_of_ble_eq_true rfl) rfl ?_
                refine mm_iinc dX13_judge_248 rfl rfl (Nat.le_of_ble_eq_true rfl) rfl ?_
                refine mm_goto dX13_judge_251 ?_
                refine ih hlt _ _ _ hR237 hG237 ?_ ?_ ?_ ?_ ?_ ?_ ?_ ?_ ?_
                · intro j hj
                  by_cases q : j = i
                  · rw [q]; exact hsafe
                  · exact hsf j (by omega)
                · intro a h1 h2; funext b; simp [hM237, hM226, hM180, mm_up, h1, h2]; rw [hfr a h1 h2]
                · intro b h1 h2 h3
                  have n1 : b ≠ 56 := by omega
                  have n2 : b ≠ 57 := by omega
                  have n3 : b ≠ 58 := by omega
                  simp [hM237, hM226, hM180, mm_up, n1, n2, n3]; exact hfb b h1 h2 h3
                · simp [hM237, hM226, hM180, mm_up, e2]
                · simp [hM237, hM226, hM180, mm_up, e56]
                  unfold kj_won
                  rw [ka_sum]
                  first | (rw [if_pos h169]; rfl) | (rw [if_neg h169]; simp)
                · simp [hM237, hM226, hM180, mm_up, e57]
                  unfold kj_spent
                  rw [ka_sum]
                  first | (rw [if_pos h189]; simp [kj_g, Int.sub_eq_add_neg]) | (rw [if_neg h189]; simp)
                · simp [hM237, hM226, hM180, mm_up]; rfl
                · simp [hM237, hM226, hM180, mm_up, e60]
                · intro j hj
                  by_cases q : j = i
                  · simp [hM237, hM226, hM180, mm_up, q]
                  · simp [hM237, hM226, hM180, mm_up, q]; exact hst j (by omega)
              · refine mm_aload_n dX13_judge_192 rfl rfl ?_
                refine mm_dup dX13_judge_193 rfl (by simp) ?_
                refine mm_get (kd := 0) dX13_judge_194 rfl fl_X13_606 (c := 183) rfl (by decide) rfl rfl ?_
                obtain ⟨v194, hv194⟩ : ∃ v, v = M180 183 57 := ⟨_, rfl⟩
                rw [← hv194]
                rw [hM180, mm_up_i (by decide), e57] at hv194
                subst hv194
                refine mm_iload dX13_judge_197 rfl rfl ?_
                refine mm_isub dX13_judge_199 rfl ?_
                refine mm_puti dX13_judge_200 rfl fl_X13_606 (c := 183) rfl (by decide) rfl rfl (fun M200 hM200 => ?_)
                have hR200 : mm_Rf M200 := by rw [hM200]; exact hR180.up rfl
                have hG200 : mm_rg M M200 := by rw [hM200]; exact hG180.up (by decide)
                refine mm_aload_n dX13_judge_203 rfl rfl ?_
                refine mm_aload_n dX13_judge_204 rfl rfl ?_
                refine mm_get (kd := 0) dX13_judge_205 rfl fl_X13_609 (c := 183) rfl (by decide) rfl rfl ?_
                obtain ⟨v205, hv205⟩ : ∃ v, v = M200 183 58 := ⟨_, rfl⟩
                rw [← hv205]
                rw [hM200, mm_up_i (by decide), hM180, mm_up_i (by decide), e58] at hv205
                subst hv205
                refine mm_aload_n dX13_judge_208 rfl rfl ?_
                refine mm_iload dX13_judge_209 rfl rfl ?_
                refine mm_iload dX13_judge_211 rfl rfl ?_
                refine mm_aload_n dX13_judge_213 rfl rfl ?_
                refine mm_iload dX13_judge_214 rfl rfl ?_
                refine mm_iload_n dX13_judge_216 rfl rfl ?_
                refine mm_V2i dX13_judge_217 rfl lk_X13_501 (c := 183) rfl (by decide) rfl (by simp) (by simp) rfl rfl rfl (g_X13_highAt hR200 hG200 hK hS hh) ?_
                refine mm_V3i dX13_judge_220 rfl lk_X13_497 (c := 183) rfl (by decide) rfl (by simp) (by simp) (by simp) rfl rfl rfl (g_X13_pullOf hR200 hG200 hK hS hai (by omega)) ?_
                refine mm_max dX13_judge_223 rfl lm_X13_518 rfl rfl (by simp) (by omega) (by omega) ?_
                refine mm_puti dX13_judge_226 rfl fl_X13_609 (c := 183) rfl (by decide) rfl rfl (fun M226 hM226 => ?_)
                have hR226 : mm_Rf M226 := by rw [hM226]; exact hR200.up rfl
                have hG226 : mm_rg M M226 := by rw [hM226]; exact hG200.up (by decide)
                refine mm_aload_n dX13_judge_229 rfl rfl ?_
                refine mm_getr dX13_judge_230 rfl fl_X13_292 (c := 183) rfl (by decide) rfl rfl (hR226.at (c := 183) (i := 63) (v := 216) rfl (by decide)) ?_
                refine mm_iload dX13_judge_233 rfl rfl ?_
                refine mm_iload dX13_judge_235 rfl rfl ?_
                refine mm_istk (k0 := i) dX13_judge_237 rfl (c := 215) rfl (by decide) rfl (by omega) (by omega) (fun M237 hM237 => ?_)
                have hR237 : mm_Rf M237 := by rw [hM237]; exact hR226.up (mm_rt_ar (t := 0) rfl (by decide))
                have hG237 : mm_rg M M237 := by rw [hM237]; exact hG226.upa (by decide)
                refine mm_aload_n dX13_judge_238 rfl rfl ?_
                refine mm_iload dX13_judge_239 rfl rfl ?_
                refine mm_iload dX13_judge_241 rfl rfl ?_
                refine mm_V2i dX13_judge_243 rfl lk_X13_476 (c := 183) rfl (by decide) rfl (by simp) (by simp) rfl rfl rfl (g_X13_after hR237 hG237 (by omega)) ?_
                refine mm_istore dX13_judge_246 rfl (Nat.le_of_ble_eq_true rfl) rfl ?_
                refine mm_iinc dX13_judge_248 rfl rfl (Nat.le_of_ble_eq_true rfl) rfl ?_
                refine mm_goto dX13_judge_251 ?_
                refine ih hlt _ _ _ hR237 hG237 ?_ ?_ ?_ ?_ ?_ ?_ ?_ ?_ ?_
                · intro j hj
                  by_cases q : j = i
                  · rw [q]; exact hsafe
                  · exact hsf j (by omega)
                · intro a h1 h2; funext b; simp [hM237, hM226, hM200, hM180, mm_up, h1, h2]; rw [hfr a h1 h2]
                · intro b h1 h2 h3
                  have n1 : b ≠ 56 := by omega
                  have n2 : b ≠ 57 := by omega
                  have n3 : b ≠ 58 := by omega
                  simp [hM237, hM226, hM200, hM180, mm_up, n1, n2, n3]; exact hfb b h1 h2 h3
                · simp [hM237, hM226, hM200, hM180, mm_up, e2]
                · simp [hM237, hM226, hM200, hM180, mm_up, e56]
                  unfold kj_won
                  rw [ka_sum]
                  first | (rw [if_pos h169]; rfl) | (rw [if_neg h169]; simp)
                · simp [hM237, hM226, hM200, hM180, mm_up, e57]
                  unfold kj_spent
                  rw [ka_sum]
                  first | (rw [if_pos h189]; simp [kj_g, Int.sub_eq_add_neg]) | (rw [if_neg h189]; simp)
                · simp [hM237, hM226, hM200, hM180, mm_up]; rfl
                · simp [hM237, hM226, hM200, hM180, mm_up, e60]
                · intro j hj
                  by_cases q : j = i
                  · simp [hM237, hM226, hM200, hM180, mm_up, q]
                  · simp [hM237, hM226, hM200, hM180, mm_up, q]; exact hst j (by omega)
      · refine mm_iload dX13_judge_106 rfl rfl ?_
        refine mm_iload_n dX13_judge_108 rfl rfl ?_
        refine mm_icge dX13_judge_109 (by omega) (by omega) (fun h109 => ?_) (fun h109 => ?_)
        · exfalso; omega
        · refine mm_aload_n dX13_judge_112 rfl rfl ?_
          refine mm_iload dX13_judge_113 rfl rfl ?_
          refine mm_aload_n dX13_judge_115 rfl rfl ?_
          refine mm_getr dX13_judge_116 rfl fl_X13_26 (c := 183) rfl (by decide) rfl rfl (hRN.at (c := 183) (i := 1) (v := 186) rfl (by decide)) ?_
          refine mm_iload dX13_judge_119 rfl rfl ?_
          refine mm_balk (k0 := i) dX13_judge_121 rfl (c := 185) rfl (by decide) rfl (by omega) (by omega) ?_
          rw [f185]
          refine mm_sipush dX13_judge_122 rfl (by decide) ?_
          refine mm_iand dX13_judge_125 rfl ?_
          refine mm_bipush dX13_judge_126 rfl (by decide) ?_
          refine mm_isub dX13_judge_128 rfl ?_
          rw [ea]
          refine mm_iload_n dX13_judge_129 rfl rfl ?_
          refine mm_V3i dX13_judge_130 rfl lk_X13_510 (c := 183) rfl (by decide) rfl (by simp) (by simp) (by simp) rfl rfl rfl (g_X13_isSafe hRN hG hK hA hS hai hh) ?_
          refine mm_ifeqb dX13_judge_133 (fun h133 => ?_) (fun h133 => ?_)
          · exact fin (fun _ => hsafe)
          · exact absurd h133 hsafe
    · refine mm_iload dX13_judge_106 rfl rfl ?_
      refine mm_iload_n dX13_judge_108 rfl rfl ?_
      refine mm_icge dX13_judge_109 (by omega) (by omega) (fun h109 => ?_) (fun h109 => ?_)
      · exact fin (fun q => absurd q hlt)
      · exfalso; omega
  have loop1 : ∀ i : Nat, i ≤ n → ∀ (N : mm_M), mm_Rf N → mm_rg M N → (∀ a, a ≠ 183 → N a = M a) → (∀ b, b ≠ 2 → N 183 b = M 183 b) → N 183 2 = 0 →
      mm_J X Y_X13_judge 243 243 243 45 [(2, 184), (0, s), (0, h), (0, M 183 2), (0, (i : Int)), (9, 0), (9, 0), (9, 0)] [] N (fun r M' => ∃ c : Nat, r = (0, (c : Int)) ∧ mm_Rf M' ∧ mm_rg M M' ∧ kj_postR M M' s h c) := by
    refine mm_lp ?_
    intro i hi ih N hRN hG hfr hfb e2
    have f185 : N 185 = M 185 := hfr 185 (by decide)
    by_cases hlt : i < n
    · have hai := hok.2 i (by omega)
      have hb := hv i (by omega)
      have ha1 := hai.1
      have ha2 := hai.2
      have hdb := ks_drb ha1
      have hslb := ks_slb hK hai
      have ea : (mm_i (M 185 i) &&& mm_i 255).toInt - 48 = kj_actR M i := by rw [kb_and hb]; rfl
      refine mm_iload dX13_judge_45 rfl rfl ?_
      refine mm_iload_n dX13_judge_47 rfl rfl ?_
      refine mm_icge dX13_judge_48 (by omega) (by omega) (fun h48 => ?_) (fun h48 => ?_)
      · exfalso; omega
      · refine mm_aload_n dX13_judge_51 rfl rfl ?_
        refine mm_aload_n dX13_judge_52 rfl rfl ?_
        refine mm_getr dX13_judge_53 rfl fl_X13_26 (c := 183) rfl (by decide) rfl rfl (hRN.at (c := 183) (i := 1) (v := 186) rfl (by decide)) ?_
        refine mm_iload dX13_judge_56 rfl rfl ?_
        refine mm_balk (k0 := i) dX13_judge_58 rfl (c := 185) rfl (by decide) rfl (by omega) (by omega) ?_
        rw [f185]
        refine mm_sipush dX13_judge_59 rfl (by decide) ?_
        refine mm_iand dX13_judge_62 rfl ?_
        refine mm_bipush dX13_judge_63 rfl (by decide) ?_
        refine mm_isub dX13_judge_65 rfl ?_
        rw [ea]
        refine mm_V1i dX13_judge_66 rfl lk_X13_470 (c := 183) rfl (by decide) rfl (by simp) rfl rfl rfl (g_X13_isAct hRN hG hK (by omega)) ?_
        refine mm_ifneb dX13_judge_69 (fun h69 => ?_) (fun h69 => ?_)
        · refine mm_iinc dX13_judge_74 rfl rfl (Nat.le_of_ble_eq_true rfl) rfl ?_
          refine mm_goto dX13_judge_77 ?_
          exact ih hlt N hRN hG hfr hfb e2
        · exact absurd hai h69
    · refine mm_iload dX13_judge_45 rfl rfl ?_
      refine mm_iload_n dX13_judge_47 rfl rfl ?_
      refine mm_icge dX13_judge_48 (by omega) (by omega) (fun h48 => ?_) (fun h48 => ?_)
      · refine mm_aload_n dX13_judge_80 rfl rfl ?_
        refine mm_iconst dX13_judge_81 rfl ?_
        refine mm_puti dX13_judge_82 rfl fl_X13_603 (c := 183) rfl (by decide) rfl rfl (fun M82 hM82 => ?_)
        have hR82 : mm_Rf M82 := by rw [hM82]; exact hRN.up rfl
        have hG82 : mm_rg M M82 := by rw [hM82]; exact hG.up (by decide)
        refine mm_aload_n dX13_judge_85 rfl rfl ?_
        refine mm_iconst dX13_judge_86 rfl ?_
        refine mm_puti dX13_judge_87 rfl fl_X13_606 (c := 183) rfl (by decide) rfl rfl (fun M87 hM87 => ?_)
        have hR87 : mm_Rf M87 := by rw [hM87]; exact hR82.up rfl
        have hG87 : mm_rg M M87 := by rw [hM87]; exact hG82.up (by decide)
        refine mm_aload_n dX13_judge_90 rfl rfl ?_
        refine mm_iconst dX13_judge_91 rfl ?_
        refine mm_puti dX13_judge_92 rfl fl_X13_609 (c := 183) rfl (by decide) rfl rfl (fun M92 hM92 => ?_)
        have hR92 : mm_Rf M92 := by rw [hM92]; exact hR87.up rfl
        have hG92 : mm_rg M M92 := by rw [hM92]; exact hG87.up (by decide)
        refine mm_aload_n dX13_judge_95 rfl rfl ?_
        refine mm_iload_n dX13_judge_96 rfl rfl ?_
        refine mm_puti dX13_judge_97 rfl fl_X13_612 (c := 183) rfl (by decide) rfl rfl (fun M97 hM97 => ?_)
        have hR97 : mm_Rf M97 := by rw [hM97]; exact hR92.up rfl
        have hG97 : mm_rg M M97 := by rw [hM97]; exact hG92.up (by decide)
        refine mm_iload_n dX13_judge_100 rfl rfl ?_
        refine mm_istore dX13_judge_101 rfl (Nat.le_of_ble_eq_true rfl) rfl ?_
        refine mm_iconst dX13_judge_103 rfl ?_
        refine mm_istore dX13_judge_104 rfl (Nat.le_of_ble_eq_true rfl) rfl ?_
        refine loop 0 (Nat.zero_le _) _ _ _ hR97 hG97 (fun j q => absurd q (Nat.not_lt_zero j)) ?_ ?_ ?_ ?_ ?_ ?_ ?_ (fun j q => absurd q (Nat.not_lt_zero j))
        · intro a h1 h2; funext b; simp [hM97, hM92, hM87, hM82, mm_up, h1]; rw [hfr a h1]
        · intro b h1 h2 h3
          have n1 : b ≠ 56 := by omega
          have n2 : b ≠ 57 := by omega
          have n3 : b ≠ 58 := by omega
          have n4 : b ≠ 60 := by omega
          simp [hM97, hM92, hM87, hM82, mm_up, n1, n2, n3, n4]; exact hfb b h1
        · simp [hM97, hM92, hM87, hM82, mm_up, e2]
        all_goals (simp [hM97, hM92, hM87, hM82, mm_up]; try rfl)
      · exfalso; omega
  refine mm_aload_n dX13_judge_0 rfl rfl ?_
  refine mm_get (kd := 0) dX13_judge_1 rfl fl_X13_75 (c := 183) rfl (by decide) rfl rfl ?_
  refine mm_istore_n dX13_judge_4 rfl (Nat.le_of_ble_eq_true rfl) rfl ?_
  refine mm_aload_n dX13_judge_5 rfl rfl ?_
  refine mm_iconst dX13_judge_6 rfl ?_
  refine mm_puti dX13_judge_7 rfl fl_X13_75 (c := 183) rfl (by decide) rfl rfl (fun M7 hM7 => ?_)
  have hR7 : mm_Rf M7 := by rw [hM7]; exact hR.up rfl
  have hG7 : mm_rg M M7 := by rw [hM7]; exact hG0.up (by decide)
  refine mm_aload_n dX13_judge_10 rfl rfl ?_
  refine mm_iload_n dX13_judge_11 rfl rfl ?_
  refine mm_V1i dX13_judge_12 rfl lk_X13_464 (c := 183) rfl (by decide) rfl (by simp) rfl rfl rfl (g_X13_isState hR7 hG7 hK (by omega)) ?_
  refine mm_ifeqb dX13_judge_15 (fun h15 => ?_) (fun h15 => ?_)
  · exact absurd hs h15
  · refine mm_iload_n dX13_judge_18 rfl rfl ?_
    refine mm_S1i dX13_judge_19 rfl lk_X13_486 (by simp) rfl rfl rfl (c_X13_isHour (by omega)) ?_
    refine mm_ifneb dX13_judge_22 (fun h22 => ?_) (fun h22 => ?_)
    · refine mm_iload_n dX13_judge_28 rfl rfl ?_
      refine mm_i2l dX13_judge_29 rfl (by omega) ?_
      refine mm_lconst1 dX13_judge_30 rfl ?_
      refine mm_ldc2 dX13_judge_31 rfl kc_X13_456 ?_
      refine mm_S3i dX13_judge_34 rfl lk_X13_5 (by simp) (by simp) (by simp) rfl rfl rfl (c_X13_in (by omega) (by omega) (by omega)) ?_
      refine mm_ifneb dX13_judge_37 (fun h37 => ?_) (fun h37 => ?_)
      · refine mm_iconst dX13_judge_42 rfl ?_
        refine mm_istore dX13_judge_43 rfl (Nat.le_of_ble_eq_true rfl) rfl ?_
        refine loop1 0 (Nat.zero_le _) _ hR7 hG7 ?_ ?_ ?_
        · intro a ha; rw [hM7, mm_up_row ha]
        · intro b hb; rw [hM7, mm_up_i hb]
        · rw [hM7, mm_up_s]
      · exfalso; omega
    · exact absurd hh h22
theorem c_X13_judge0 (hR : mm_Rf M) (hK : mm_KV (mm_rk M)) (hs : mm_R s) (hh : mm_R h) (hl : 0 ≤ M 183 2 ∧ M 183 2 ≤ 800) (hv : ∀ k : Nat, k < 800 → -128 ≤ M 185 k ∧ M 185 k ≤ 127) (hno : ¬ ((ks_st (mm_rk M) s ∧ ks_hr h) ∧ kj_okR M)) :
    mm_Fn X Y_X13_judge 243 [(2, 184), (0, s), (0, h)] M (0, if ks_st (mm_rk M) s ∧ ks_hr h then -1 else -2) (mm_up M 183 2 0) := by
  have hG0 := mm_rg.rf M
  obtain ⟨n, hnn⟩ : ∃ n, n = (M 183 2).toNat := ⟨_, rfl⟩
  obtain ⟨N, hN⟩ : ∃ N, N = mm_up M 183 2 0 := ⟨_, rfl⟩
  have hRN : mm_Rf N := by rw [hN]; exact hR.up rfl
  have hG : mm_rg M N := by rw [hN]; exact hG0.up (by decide)
  have f185 : N 185 = M 185 := by rw [hN, mm_up_row (by decide)]
  rw [← hN]
  refine mm_startF (ls := [(2, 184), (0, s), (0, h), (9, 0), (9, 0), (9, 0), (9, 0), (9, 0)]) rfl ?_
  have loop1 : ks_st (mm_rk M) s ∧ ks_hr h → (1 ≤ M 183 2 ∧ M 183 2 ≤ 100) → ∀ i : Nat, i ≤ n → (∀ j, j < i → ks_ac (mm_rk M) (kj_actR M j)) →
      mm_J X Y_X13_judge 243 243 243 45 [(2, 184), (0, s), (0, h), (0, M 183 2), (0, (i : Int)), (9, 0), (9, 0), (9, 0)] [] N (fun r' M'' => r' = (0, -1) ∧ M'' = N) := by
    intro hsh hn
    refine mm_lp ?_
    intro i hi ih hj
    by_cases hlt : i < n
    · have hb := hv i (by omega)
      have ea : (mm_i (M 185 i) &&& mm_i 255).toInt - 48 = kj_actR M i := by rw [kb_and hb]; rfl
      have hab : -48 ≤ kj_actR M i ∧ kj_actR M i ≤ 255 := by unfold kj_actR; omega
      refine mm_iload dX13_judge_45 rfl rfl ?_
      refine mm_iload_n dX13_judge_47 rfl rfl ?_
      refine mm_icge dX13_judge_48 (by omega) (by omega) (fun h48 => ?_) (fun h48 => ?_)
      · exfalso; omega
      · refine mm_aload_n dX13_judge_51 rfl rfl ?_
        refine mm_aload_n dX13_judge_52 rfl rfl ?_
        refine mm_getr dX13_judge_53 rfl fl_X13_26 (c := 183) rfl (by decide) rfl rfl (hRN.at (c := 183) (i := 1) (v := 186) rfl (by decide)) ?_
        refine mm_iload dX13_judge_56 rfl rfl ?_
        refine mm_balk (k0 := i) dX13_judge_58 rfl (c := 185) rfl (by decide) rfl (by omega) (by omega) ?_
        rw [f185]
        refine mm_sipush dX13_judge_59 rfl (by decide) ?_
        refine mm_iand dX13_judge_62 rfl ?_
        refine mm_bipush dX13_judge_63 rfl (by decide) ?_
        refine mm_isub dX13_judge_65 rfl ?_
        rw [ea]
        refine mm_V1i dX13_judge_66 rfl lk_X13_470 (c := 183) rfl (by decide) rfl (by simp) rfl rfl rfl (g_X13_isAct hRN hG hK (by omega)) ?_
        refine mm_ifneb dX13_judge_69 (fun h69 => ?_) (fun h69 => ?_)
        · refine mm_iinc dX13_judge_74 rfl rfl (Nat.le_of_ble_eq_true rfl) rfl ?_
          refine mm_goto dX13_judge_77 ?_
          refine ih hlt ?_
          intro j hj2
          by_cases q : j = i
          · rw [q]; exact h69
          · exact hj j (by omega)
        · refine mm_iconst dX13_judge_72 rfl ?_
          refine mm_iret dX13_judge_73 rfl rfl ?_
          exact mm_fin rfl rfl
    · exact absurd ⟨hsh, hn, fun j q => hj j (by omega)⟩ hno
  refine mm_aload_n dX13_judge_0 rfl rfl ?_
  refine mm_get (kd := 0) dX13_judge_1 rfl fl_X13_75 (c := 183) rfl (by decide) rfl rfl ?_
  refine mm_istore_n dX13_judge_4 rfl (Nat.le_of_ble_eq_true rfl) rfl ?_
  refine mm_aload_n dX13_judge_5 rfl rfl ?_
  refine mm_iconst dX13_judge_6 rfl ?_
  refine mm_puti dX13_judge_7 rfl fl_X13_75 (c := 183) rfl (by decide) rfl rfl (fun M7 hM7 => ?_)
  have hR7 : mm_Rf M7 := by rw [hM7]; exact hR.up rfl
  have hG7 : mm_rg M M7 := by rw [hM7]; exact hG0.up (by decide)
  refine mm_aload_n dX13_judge_10 rfl rfl ?_
  refine mm_iload_n dX13_judge_11 rfl rfl ?_
  refine mm_V1i dX13_judge_12 rfl lk_X13_464 (c := 183) rfl (by decide) rfl (by simp) rfl rfl rfl (g_X13_isState hR7 hG7 hK hs) ?_
  rw [← hN] at hM7
  subst hM7
  refine mm_ifeqb dX13_judge_15 (fun h15 => ?_) (fun h15 => ?_)
  · refine mm_bipush dX13_judge_25 rfl (by decide) ?_
    refine mm_iret dX13_judge_27 rfl rfl ?_
    first
    | exact mm_fin (by rw [if_neg (fun q => h15 q.1)]) rfl
    | exact mm_fin (by rw [if_neg (fun q => h22 q.2)]) rfl
  · refine mm_iload_n dX13_judge_18 rfl rfl ?_
    refine mm_S1i dX13_judge_19 rfl lk_X13_486 (by simp) rfl rfl rfl (c_X13_isHour hh) ?_
    refine mm_ifneb dX13_judge_22 (fun h22 => ?_) (fun h22 => ?_)
    · refine mm_iload_n dX13_judge_28 rfl rfl ?_
      refine mm_i2l dX13_judge_29 rfl (by omega) ?_
      refine mm_lconst1 dX13_judge_30 rfl ?_
      refine mm_ldc2 dX13_judge_31 rfl kc_X13_456 ?_
      refine mm_S3i dX13_judge_34 rfl lk_X13_5 (by simp) (by simp) (by simp) rfl rfl rfl (c_X13_in (by omega) (by omega) (by omega)) ?_
      refine mm_ifneb dX13_judge_37 (fun h37 => ?_) (fun h37 => ?_)
      · refine mm_iconst dX13_judge_42 rfl ?_
        refine mm_istore dX13_judge_43 rfl (Nat.le_of_ble_eq_true rfl) rfl ?_
        rw [if_pos (And.intro h15 h22)]
        exact loop1 (And.intro h15 h22) h37 0 (Nat.zero_le _) (fun j q => absurd q (Nat.not_lt_zero j))
      · refine mm_iconst dX13_judge_40 rfl ?_
        refine mm_iret dX13_judge_41 rfl rfl ?_
        exact mm_fin (by rw [if_pos (And.intro h15 h22)]) rfl
    · refine mm_bipush dX13_judge_25 rfl (by decide) ?_
      refine mm_iret dX13_judge_27 rfl rfl ?_
      first
      | exact mm_fin (by rw [if_neg (fun q => h15 q.1)]) rfl
      | exact mm_fin (by rw [if_neg (fun q => h22 q.2)]) rfl
end

