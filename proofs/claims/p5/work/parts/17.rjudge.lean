/-! 73.rjudge -/
section
/-! ===== judge, of the reference ===== -/
def kj_actR (M : mm_M) (i : Nat) : Int := M 185 i % 256 - 48
def kj_okR (M : mm_M) : Prop := (1 ≤ M 183 2 ∧ M 183 2 ≤ 100) ∧ ∀ i : Nat, (i : Int) < M 183 2 → ks_ac (mm_rk M) (kj_actR M i)
/-- what judge leaves -/
def kj_postR (M M' : mm_M) (s h : Int) (c : Nat) : Prop :=
  kj_is (kj_P (mm_rk M) (M 203) (M 204) s h (kj_actR M)) (M 183 2).toNat c ∧ (∀ a, a ≠ 183 → a ≠ 215 → M' a = M a) ∧ (∀ b, b ≠ 2 → ¬ (55 ≤ b ∧ b ≤ 62) → b ≠ 68 → M' 183 b = M 183 b) ∧ M' 183 2 = 0 ∧
  M' 183 55 = kf_run (mm_rk M) s (kj_actR M) c ∧ M' 183 56 = kj_won (mm_rk M) (M 203) (M 204) s h (kj_actR M) c ∧ M' 183 57 = kj_spent (mm_rk M) (M 203) (M 204) s h (kj_actR M) c ∧ M' 183 58 = kj_great (mm_rk M) (M 204) s h (kj_actR M) c ∧
  M' 183 59 = M 183 2 ∧ M' 183 60 = s ∧ M' 183 61 = 1 ∧ M' 183 62 = mm_b ((c : Int) = M 183 2 ∧ kf_run (mm_rk M) s (kj_actR M) c = s) ∧ M' 183 68 = mm_b ((c : Int) = M 183 2 ∧ kf_run (mm_rk M) s (kj_actR M) c = s) ∧ (∀ j, j < c → M' 215 j = kj_actR M j)
section
variable {X : mm_X} {M : mm_M} {s h : Int}
theorem c_X13_judge1 (hR : mm_Rf M) (hK : mm_KV (mm_rk M)) (hA : mm_RA M) (hs : ks_st (mm_rk M) s) (hh : ks_hr h) (hv : ∀ k : Nat, k < 800 → -128 ≤ M 185 k ∧ M 185 k ≤ 127) (hok : kj_okR M) :
    mm_C X Y_X13_judge 243 243 [(2, 184), (0, s), (0, h)] M (fun r M' => ∃ c : Nat, r = (0, (c : Int)) ∧ mm_Rf M' ∧ mm_rg M M' ∧ kj_postR M M' s h c) := by
  have hnb := ks_nb hK
  have hs1 := hs.1
  have hs2 := hs.2
  have hn := hok.1
  have hG0 := mm_rg.rf M
  obtain ⟨n, hnn⟩ : ∃ n, n = (M 183 2).toNat := ⟨_, rfl⟩
  refine mm_start (ls := [(2, 184), (0, s), (0, h), (9, 0), (9, 0), (9, 0), (9, 0), (9, 0)]) rfl ?_
  have loop : ∀ i : Nat, i ≤ n → ∀ (N : mm_M) (l6 l7 : mm_V), mm_Rf N → mm_rg M N → (∀ j, j < i → kj_P (mm_rk M) (M 203) (M 204) s h (kj_actR M) j) → (∀ a, a ≠ 183 → a ≠ 215 → N a = M a) → (∀ b, b ≠ 2 → ¬ (55 ≤ b ∧ b ≤ 62) → b ≠ 68 → N 183 b = M 183 b) →
      N 183 2 = 0 → N 183 56 = kj_won (mm_rk M) (M 203) (M 204) s h (kj_actR M) i → N 183 57 = kj_spent (mm_rk M) (M 203) (M 204) s h (kj_actR M) i → N 183 58 = kj_great (mm_rk M) (M 204) s h (kj_actR M) i → N 183 60 = s → (∀ j, j < i → N 215 j = kj_actR M j) →
      mm_J X Y_X13_judge 243 243 243 106 [(2, 184), (0, s), (0, h), (0, M 183 2), (0, kf_run (mm_rk M) s (kj_actR M) i), (0, (i : Int)), l6, l7] [] N (fun r M' => ∃ c : Nat, r = (0, (c : Int)) ∧ mm_Rf M' ∧ mm_rg M M' ∧ kj_postR M M' s h c) := by
    refine mm_lp ?_
    intro i hi ih N l6 l7 hRN hG hsf hfr hfb e2 e56 e57 e58 e60 hst
    have hS := kj_st hK hs hsf
    have hS1 := hS.1
    have hS2 := hS.2
    have f185 : N 185 = M 185 := hfr 185 (by decide) (by decide)
    have hsb : ∀ j, j < i → -5800000 ≤ kj_g (mm_rk M) (M 203) (M 204) s h (kj_actR M) j ∧ kj_g (mm_rk M) (M 203) (M 204) s h (kj_actR M) j ≤ 5800000 := by
      intro j hj
      have hw := hA.wi hK (kj_st hK hs (fun k hk => hsf k (Nat.lt_trans hk hj))) hh
      exact ks_sureb hK (hok.2 j (by omega)) hw.1 hw.2
    have b6 := ka_sumb (B := 5800000) (n := i) (f := fun j => if ks_dr (kj_actR M j) = 1 then kj_g (mm_rk M) (M 203) (M 204) s h (kj_actR M) j else 0) (fun j hj => by have := hsb j hj; split <;> omega)
    have b7 := ka_sumb (B := 5800000) (n := i) (f := fun j => if ks_dr (kj_actR M j) = 2 then -kj_g (mm_rk M) (M 203) (M 204) s h (kj_actR M) j else 0) (fun j hj => by have := hsb j hj; split <;> omega)
    have b8 := ka_maxb (B := 1425600) (by decide) (n := i) (f := fun j => ks_p (mm_rk M) (kf_run (mm_rk M) s (kj_actR M) j) (kj_actR M j) (ks_wi (M 204) (mm_rk M) (kf_run (mm_rk M) s (kj_actR M) j) h)) (fun j hj => ks_pw hK (hok.2 j (by omega)) (hA.wi hK (kj_st hK hs (fun k hk => hsf k (Nat.lt_trans hk hj))) hh).2)
    change -(5800000 * (i : Int)) ≤ kj_won _ _ _ _ _ _ i ∧ kj_won _ _ _ _ _ _ i ≤ _ at b6
    change -(5800000 * (i : Int)) ≤ kj_spent _ _ _ _ _ _ i ∧ kj_spent _ _ _ _ _ _ i ≤ _ at b7
    change 0 ≤ kj_great _ _ _ _ _ i ∧ kj_great _ _ _ _ _ i ≤ _ at b8
    have fin : (i < n → ¬ kj_P (mm_rk M) (M 203) (M 204) s h (kj_actR M) i) → mm_J X Y_X13_judge 243 243 243 254 [(2, 184), (0, s), (0, h), (0, M 183 2), (0, kf_run (mm_rk M) s (kj_actR M) i), (0, (i : Int)), l6, l7] [] N (fun r M' => ∃ c : Nat, r = (0, (c : Int)) ∧ mm_Rf M' ∧ mm_rg M M' ∧ kj_postR M M' s h c) := by
      intro hno
      refine mm_aload_n dX13_judge_254 rfl rfl ?_
      refine mm_iload dX13_judge_255 rfl rfl ?_
      refine mm_puti dX13_judge_257 rfl fl_X13_615 (c := 183) rfl (by decide) rfl rfl (fun M257 hM257 => ?_)
      have hR257 : mm_Rf M257 := by rw [hM257]; exact hRN.up rfl
      have hG257 : mm_rg M M257 := by rw [hM257]; exact hG.up (by decide)
      refine mm_aload_n dX13_judge_260 rfl rfl ?_
      refine mm_iload_n dX13_judge_261 rfl rfl ?_
      refine mm_puti dX13_judge_262 rfl fl_X13_618 (c := 183) rfl (by decide) rfl rfl (fun M262 hM262 => ?_)
      have hR262 : mm_Rf M262 := by rw [hM262]; exact hR257.up rfl
      have hG262 : mm_rg M M262 := by rw [hM262]; exact hG257.up (by decide)
      refine mm_aload_n dX13_judge_265 rfl rfl ?_
      refine mm_iconst dX13_judge_266 rfl ?_
      refine mm_putz dX13_judge_267 rfl fl_X13_621 (c := 183) rfl (by decide) rfl rfl (Or.inr rfl) (fun M267 hM267 => ?_)
      have hR267 : mm_Rf M267 := by rw [hM267]; exact hR262.up rfl
      have hG267 : mm_rg M M267 := by rw [hM267]; exact hG262.up (by decide)
      refine mm_aload_n dX13_judge_270 rfl rfl ?_
      refine mm_iload dX13_judge_271 rfl rfl ?_
      refine mm_iload_n dX13_judge_273 rfl rfl ?_
      refine mm_icne dX13_judge_274 (by omega) (by omega) (fun h274 => ?_) (fun h274 => ?_)
      · refine mm_iconst dX13_judge_287 rfl ?_
        obtain ⟨v, hv⟩ : ∃ v : Int, v = mm_b ((i : Int) = M 183 2 ∧ kf_run (mm_rk M) s (kj_actR M) i = s) := ⟨_, rfl⟩
        first
        | rw [show (1 : Int) = mm_b ((i : Int) = M 183 2 ∧ kf_run (mm_rk M) s (kj_actR M) i = s) from mm_b1 ⟨h274, h280⟩]
        | rw [show (0 : Int) = mm_b ((i : Int) = M 183 2 ∧ kf_run (mm_rk M) s (kj_actR M) i = s) from mm_b0 (fun q => h280 q.2)]
        | rw [show (0 : Int) = mm_b ((i : Int) = M 183 2 ∧ kf_run (mm_rk M) s (kj_actR M) i = s) from mm_b0 (fun q => h274 q.1)]
        refine mm_putz dX13_judge_288 rfl fl_X13_412 (c := 183) rfl (by decide) rfl rfl (mm_b_01 _) (fun M288 hM288 => ?_)
        have hR288 : mm_Rf M288 := by rw [hM288]; exact hR267.up rfl
        have hG288 : mm_rg M M288 := by rw [hM288]; exact hG267.up (by decide)
        refine mm_aload_n dX13_judge_291 rfl rfl ?_
        refine mm_aload_n dX13_judge_292 rfl rfl ?_
        refine mm_get (kd := 0) dX13_judge_293 rfl fl_X13_412 (c := 183) rfl (by decide) rfl rfl ?_
        obtain ⟨v293, hv293⟩ : ∃ v, v = M288 183 62 := ⟨_, rfl⟩
        rw [← hv293]
        rw [hM288, mm_up_s] at hv293
        subst hv293
        refine mm_putz dX13_judge_296 rfl fl_X13_624 (c := 183) rfl (by decide) rfl rfl (mm_b_01 _) (fun M296 hM296 => ?_)
        have hR296 : mm_Rf M296 := by rw [hM296]; exact hR288.up rfl
        have hG296 : mm_rg M M296 := by rw [hM296]; exact hG288.up (by decide)
        refine mm_iload dX13_judge_299 rfl rfl ?_
        refine mm_iret dX13_judge_301 rfl rfl ?_
        refine ⟨i, rfl, hR296, hG296, ⟨by omega, hsf, fun q => hno (by omega)⟩, ?_, ?_, ?_, ?_, ?_, ?_, ?_, ?_, ?_, ?_, ?_, ?_, ?_⟩
        · intro a h1 h2; funext b; simp [hM296, hM288, hM267, hM262, hM257, mm_up, h1]; rw [hfr a h1 h2]
        · intro b h1 h2 h3
          have n1 : b ≠ 55 := by omega
          have n2 : b ≠ 59 := by omega
          have n3 : b ≠ 61 := by omega
          have n4 : b ≠ 62 := by omega
          simp [hM296, hM288, hM267, hM262, hM257, mm_up, n1, n2, n3, n4, h3]; exact hfb b h1 h2 h3
        · simp [hM296, hM288, hM267, hM262, hM257, mm_up, e2]
        · simp [hM296, hM288, hM267, hM262, hM257, mm_up]
        · simp [hM296, hM288, hM267, hM262, hM257, mm_up, e56]
        · simp [hM296, hM288, hM267, hM262, hM257, mm_up, e57]
        · simp [hM296, hM288, hM267, hM262, hM257, mm_up, e58]
        · simp [hM296, hM288, hM267, hM262, hM257, mm_up]
        · simp [hM296, hM288, hM267, hM262, hM257, mm_up, e60]
        · simp [hM296, hM288, hM267, hM262, hM257, mm_up]
        · simp [hM296, hM288, hM267, hM262, hM257, mm_up]
        · simp [hM296, hM288, hM267, hM262, hM257, mm_up]
        · intro j hj; simp [hM296, hM288, hM267, hM262, hM257, mm_up]; exact hst j hj
      · refine mm_iload dX13_judge_277 rfl rfl ?_
        refine mm_iload_n dX13_judge_279 rfl rfl ?_
        refine mm_icne dX13_judge_280 (by omega) (by omega) (fun h280 => ?_) (fun h280 => ?_)
        · refine mm_iconst dX13_judge_287 rfl ?_
          obtain ⟨v, hv⟩ : ∃ v : Int, v = mm_b ((i : Int) = M 183 2 ∧ kf_run (mm_rk M) s (kj_actR M) i = s) := ⟨_, rfl⟩
          first
          | rw [show (1 : Int) = mm_b ((i : Int) = M 183 2 ∧ kf_run (mm_rk M) s (kj_actR M) i = s) from mm_b1 ⟨h274, h280⟩]
          | rw [show (0 : Int) = mm_b ((i : Int) = M 183 2 ∧ kf_run (mm_rk M) s (kj_actR M) i = s) from mm_b0 (fun q => h280 q.2)]
          | rw [show (0 : Int) = mm_b ((i : Int) = M 183 2 ∧ kf_run (mm_rk M) s (kj_actR M) i = s) from mm_b0 (fun q => h274 q.1)]
          refine mm_putz dX13_judge_288 rfl fl_X13_412 (c := 183) rfl (by decide) rfl rfl (mm_b_01 _) (fun M288 hM288 => ?_)
          have hR288 : mm_Rf M288 := by rw [hM288]; exact hR267.up rfl
          have hG288 : mm_rg M M288 := by rw [hM288]; exact hG267.up (by decide)
          refine mm_aload_n dX13_judge_291 rfl rfl ?_
          refine mm_aload_n dX13_judge_292 rfl rfl ?_
          refine mm_get (kd := 0) dX13_judge_293 rfl fl_X13_412 (c := 183) rfl (by decide) rfl rfl ?_
          obtain ⟨v293, hv293⟩ : ∃ v, v = M288 183 62 := ⟨_, rfl⟩
          rw [← hv293]
          rw [hM288, mm_up_s] at hv293
          subst hv293
          refine mm_putz dX13_judge_296 rfl fl_X13_624 (c := 183) rfl (by decide) rfl rfl (mm_b_01 _) (fun M296 hM296 => ?_)
          have hR296 : mm_Rf M296 := by rw [hM296]; exact hR288.up rfl
          have hG296 : mm_rg M M296 := by rw [hM296]; exact hG288.up (by decide)
          refine mm_iload dX13_judge_299 rfl rfl ?_
          refine mm_iret dX13_judge_301 rfl rfl ?_
          refine ⟨i, rfl, hR296, hG296, ⟨by omega, hsf, fun q => hno (by omega)⟩, ?_, ?_, ?_, ?_, ?_, ?_, ?_, ?_, ?_, ?_, ?_, ?_, ?_⟩
          · intro a h1 h2; funext b; simp [hM296, hM288, hM267, hM262, hM257, mm_up, h1]; rw [hfr a h1 h2]
          · intro b h1 h2 h3
            have n1 : b ≠ 55 := by omega
            have n2 : b ≠ 59 := by omega
            have n3 : b ≠ 61 := by omega
            have n4 : b ≠ 62 := by omega
            simp [hM296, hM288, hM267, hM262, hM257, mm_up, n1, n2, n3, n4, h3]; exact hfb b h1 h2 h3
          · simp [hM296, hM288, hM267, hM262, hM257, mm_up, e2]
          · simp [hM296, hM288, hM267, hM262, hM257, mm_up]
          · simp [hM296, hM288, hM267, hM262, hM257, mm_up, e56]
          · simp [hM296, hM288, hM267, hM262, hM257, mm_up, e57]
          · simp [hM296, hM288, hM267, hM262, hM257, mm_up, e58]
          · simp [hM296, hM288, hM267, hM262, hM257, mm_up]
          · simp [hM296, hM288, hM267, hM262, hM257, mm_up, e60]
          · simp [hM296, hM288, hM267, hM262, hM257, mm_up]
          · simp [hM296, hM288, hM267, hM262, hM257, mm_up]
          · simp [hM296, hM288, hM267, hM262, hM257, mm_up]
          · intro j hj; simp [hM296, hM288, hM267, hM262, hM257, mm_up]; exact hst j hj
        · refine mm_iconst dX13_judge_283 rfl ?_
          refine mm_goto dX13_judge_284 ?_
          obtain ⟨v, hv⟩ : ∃ v : Int, v = mm_b ((i : Int) = M 183 2 ∧ kf_run (mm_rk M) s (kj_actR M) i = s) := ⟨_, rfl⟩
          first
          | rw [show (1 : Int) = mm_b ((i : Int) = M 183 2 ∧ kf_run (mm_rk M) s (kj_actR M) i = s) from mm_b1 ⟨h274, h280⟩]
          | rw [show (0 : Int) = mm_b ((i : Int) = M 183 2 ∧ kf_run (mm_rk M) s (kj_actR M) i = s) from mm_b0 (fun q => h280 q.2)]
          | rw [show (0 : Int) = mm_b ((i : Int) = M 183 2 ∧ kf_run (mm_rk M) s (kj_actR M) i = s) from mm_b0 (fun q => h274 q.1)]
          refine mm_putz dX13_judge_288 rfl fl_X13_412 (c := 183) rfl (by decide) rfl rfl (mm_b_01 _) (fun M288 hM288 => ?_)
          have hR288 : mm_Rf M288 := by rw [hM288]; exact hR267.up rfl
          have hG288 : mm_rg M M288 := by rw [hM288]; exact hG267.up (by decide)
          refine mm_aload_n dX13_judge_291 rfl rfl ?_
          refine mm_aload_n dX13_judge_292 rfl rfl ?_
          refine mm_get (kd := 0) dX13_judge_293 rfl fl_X13_412 (c := 183) rfl (by decide) rfl rfl ?_
          obtain ⟨v293, hv293⟩ : ∃ v, v = M288 183 62 := ⟨_, rfl⟩
          rw [← hv293]
          rw [hM288, mm_up_s] at hv293
          subst hv293
          refine mm_putz dX13_judge_296 rfl fl_X13_624 (c := 183) rfl (by decide) rfl rfl (mm_b_01 _) (fun M296 hM296 => ?_)
          have hR296 : mm_Rf M296 := by rw [hM296]; exact hR288.up rfl
          have hG296 : mm_rg M M296 := by rw [hM296]; exact hG288.up (by decide)
          refine mm_iload dX13_judge_299 rfl rfl ?_
          refine mm_iret dX13_judge_301 rfl rfl ?_
          refine ⟨i, rfl, hR296, hG296, ⟨by omega, hsf, fun q => hno (by omega)⟩, ?_, ?_, ?_, ?_, ?_, ?_, ?_, ?_, ?_, ?_, ?_, ?_, ?_⟩
          · intro a h1 h2; funext b; simp [hM296, hM288, hM267, hM262, hM257, mm_up, h1]; rw [hfr a h1 h2]
          · intro b h1 h2 h3
            have n1 : b ≠ 55 := by omega
            have n2 : b ≠ 59 := by omega
            have n3 : b ≠ 61 := by omega
            have n4 : b ≠ 62 := by omega
            simp [hM296, hM288, hM267, hM262, hM257, mm_up, n1, n2, n3, n4, h3]; exact hfb b h1 h2 h3
          · simp [hM296, hM288, hM267, hM262, hM257, mm_up, e2]
          · simp [hM296, hM288, hM267, hM262, hM257, mm_up]
          · simp [hM296, hM288, hM267, hM262, hM257, mm_up, e56]
          · simp [hM296, hM288, hM267, hM262, hM257, mm_up, e57]
          · simp [hM296, hM288, hM267, hM262, hM257, mm_up, e58]
          · simp [hM296, hM288, hM267, hM262, hM257, mm_up]
          · simp [hM296, hM288, hM267, hM262, hM257, mm_up, e60]
          · simp [hM296, hM288, hM267, hM262, hM257, mm_up]
          · simp [hM296, hM288, hM267, hM262, hM257, mm_up]
          · simp [hM296, hM288, hM267, hM262, hM257, mm_up]
          · intro j hj; simp [hM296, hM288, hM267, hM262, hM257, mm_up]; exact hst j hj
    by_cases hlt : i < n
    · have hai := hok.2 i (by omega)
      have hw := hA.wi hK hS hh
      have hp := ks_pw hK (s := kf_run (mm_rk M) s (kj_actR M) i) hai hw.2
      have hg := ks_sureb hK hai hw.1 hw.2
      have hslb := ks_slb hK hai
      have ha1 := hai.1
      have ha2 := hai.2
      have hdb := ks_drb ha1
      have hb := hv i (by omega)
      have ea : (mm_i (M 185 i) &&& mm_i 255).toInt - 48 = kj_actR M i := by rw [kb_and hb]; rfl
      by_cases hsafe : kj_P (mm_rk M) (M 203) (M 204) s h (kj_actR M) i
      · refine mm_iload dX13_judge_106 rfl rfl ?_
        refine mm_iload_n dX13_judge_108 rfl rfl ?_
        refine mm_icge dX13_judge_109 (by omega) (by omega) (fun h109 => ?_) (fun h109 => ?_)
        · exfalso; omega
        · refine mm_aload_n dX13_judge_112 rfl rfl ?_
          refine mm_iload dX13_judge_113 rfl rfl ?_
          refine mm_aload_n dX13_judge_115 rfl rfl ?_
          refine mm_getr dX13_judge_116 rfl fl_X13_26 (c := 183) rfl (by decide) rfl rfl (hRN.at (c := 183) (i := 1) (v := 186) rfl (by decide)) ?_
          refine mm_iload dX13_judge_119 rfl rfl ?_
          refine mm_balk (k0 := i) dX13_judge_121 rfl (c := 185) rfl (by decide) rfl (by omega) (by omega) ?_
          rw [f185]
          refine mm_sipush dX13_judge_122 rfl (by decide) ?_
          refine mm_iand dX13_judge_125 rfl ?_
          refine mm_bipush dX13_judge_126 rfl (by decide) ?_
          refine mm_isub dX13_judge_128 rfl ?_
          rw [ea]
          refine mm_iload_n dX13_judge_129 rfl rfl ?_
          refine mm_V3i dX13_judge_130 rfl lk_X13_510 (c := 183) rfl (by decide) rfl (by simp) (by simp) (by simp) rfl rfl rfl (g_X13_isSafe hRN hG hK hA hS hai hh) ?_
          refine mm_ifeqb dX13_judge_133 (fun h133 => ?_) (fun h133 => ?_)
          · exact absurd hsafe h133
          · clear h133
            refine mm_aload_n dX13_judge_136 rfl rfl ?_
            refine mm_getr dX13_judge_137 rfl fl_X13_26 (c := 183) rfl (by decide) rfl rfl (hRN.at (c := 183) (i := 1) (v := 186) rfl (by decide)) ?_
            refine mm_iload dX13_judge_140 rfl rfl ?_
            refine mm_balk (k0 := i) dX13_judge_142 rfl (c := 185) rfl (by decide) rfl (by omega) (by omega) ?_
            rw [f185]
            refine mm_sipush dX13_judge_143 rfl (by decide) ?_
            refine mm_iand dX13_judge_146 rfl ?_
            refine mm_bipush dX13_judge_147 rfl (by decide) ?_
            refine mm_isub dX13_judge_149 rfl ?_
            rw [ea]
            refine mm_istore dX13_judge_150 rfl (Nat.le_of_ble_eq_true rfl) rfl ?_
            refine mm_aload_n dX13_judge_152 rfl rfl ?_
            refine mm_iload dX13_judge_153 rfl rfl ?_
            refine mm_iload dX13_judge_155 rfl rfl ?_
            refine mm_iload_n dX13_judge_157 rfl rfl ?_
            refine mm_V3i dX13_judge_158 rfl lk_X13_514 (c := 183) rfl (by decide) rfl (by simp) (by simp) (by simp) rfl rfl rfl (g_X13_surely hRN hG hK hA hS hai hh) ?_
            refine mm_istore dX13_judge_161 rfl (Nat.le_of_ble_eq_true rfl) rfl ?_
            refine mm_iload dX13_judge_163 rfl rfl ?_
            refine mm_S1i dX13_judge_165 rfl lk_X13_448 (by simp) rfl rfl rfl (c_X13_drumOf (by omega)) ?_
            refine mm_iconst dX13_judge_168 rfl ?_
            refine mm_icne dX13_judge_169 (by omega) (by omega) (fun h169 => ?_) (fun h169 => ?_)
            · refine mm_iload dX13_judge_183 rfl rfl ?_
              refine mm_S1i dX13_judge_185 rfl lk_X13_448 (by simp) rfl rfl rfl (c_X13_drumOf (by omega)) ?_
              refine mm_iconst dX13_judge_188 rfl ?_
              refine mm_icne dX13_judge_189 (by omega) (by omega) (fun h189 => ?_) (fun h189 => ?_)
              · refine mm_aload_n dX13_judge_203 rfl rfl ?_
                refine mm_aload_n dX13_judge_204 rfl rfl ?_
                refine mm_get (kd := 0) dX13_judge_205 rfl fl_X13_609 (c := 183) rfl (by decide) rfl rfl ?_
                obtain ⟨v205, hv205⟩ : ∃ v, v = N 183 58 := ⟨_, rfl⟩
                rw [← hv205]
                rw [e58] at hv205
                subst hv205
                refine mm_aload_n dX13_judge_208 rfl rfl ?_
                refine mm_iload dX13_judge_209 rfl rfl ?_
                refine mm_iload dX13_judge_211 rfl rfl ?_
                refine mm_aload_n dX13_judge_213 rfl rfl ?_
                refine mm_iload dX13_judge_214 rfl rfl ?_
                refine mm_iload_n dX13_judge_216 rfl rfl ?_
                refine mm_V2i dX13_judge_217 rfl lk_X13_501 (c := 183) rfl (by decide) rfl (by simp) (by simp) rfl rfl rfl (g_X13_highAt hRN hG hK hS hh) ?_
                refine mm_V3i dX13_judge_220 rfl lk_X13_497 (c := 183) rfl (by decide) rfl (by simp) (by simp) (by simp) rfl rfl rfl (g_X13_pullOf hRN hG hK hS hai (by omega)) ?_
                refine mm_max dX13_judge_223 rfl lm_X13_518 rfl rfl (by simp) (by omega) (by omega) ?_
                refine mm_puti dX13_judge_226 rfl fl_X13_609 (c := 183) rfl (by decide) rfl rfl (fun M226 hM226 => ?_)
                have hR226 : mm_Rf M226 := by rw [hM226]; exact hRN.up rfl
                have hG226 : mm_rg M M226 := by rw [hM226]; exact hG.up (by decide)
                refine mm_aload_n dX13_judge_229 rfl rfl ?_
                refine mm_getr dX13_judge_230 rfl fl_X13_292 (c := 183) rfl (by decide) rfl rfl (hR226.at (c := 183) (i := 63) (v := 216) rfl (by decide)) ?_
                refine mm_iload dX13_judge_233 rfl rfl ?_
                refine mm_iload dX13_judge_235 rfl rfl ?_
                refine mm_istk (k0 := i) dX13_judge_237 rfl (c := 215) rfl (by decide) rfl (by omega) (by omega) (fun M237 hM237 => ?_)
                have hR237 : mm_Rf M237 := by rw [hM237]; exact hR226.up (mm_rt_ar (t := 0) rfl (by decide))
                have hG237 : mm_rg M M237 := by rw [hM237]; exact hG226.upa (by decide)
                refine mm_aload_n dX13_judge_238 rfl rfl ?_
                refine mm_iload dX13_judge_239 rfl rfl ?_
                refine mm_iload dX13_judge_241 rfl rfl ?_
                refine mm_V2i dX13_judge_243 rfl lk_X13_476 (c := 183) rfl (by decide) rfl (by simp) (by simp) rfl rfl rfl (g_X13_after hR237 hG237 (by omega)) ?_
                refine mm_istore dX13_judge_246 rfl (Nat.le_of_ble_eq_true rfl) rfl ?_
                refine mm_iinc dX13_judge_248 rfl rfl (Nat.le_of_ble_eq_true rfl) rfl ?_
                refine mm_goto dX13_judge_251 ?_
                refine ih hlt _ _ _ hR237 hG237 ?_ ?_ ?_ ?_ ?_ ?_ ?_ ?_ ?_
                · intro j hj
                  by_cases q : j = i
                  · rw [q]; exact hsafe
                  · exact hsf j (by omega)
                · intro a h1 h2; funext b; simp [hM237, hM226, mm_up, h1, h2]; rw [hfr a h1 h2]
                · intro b h1 h2 h3
                  have n1 : b ≠ 56 := by omega
                  have n2 : b ≠ 57 := by omega
                  have n3 : b ≠ 58 := by omega
                  simp [hM237, hM226, mm_up, n1, n2, n3]; exact hfb b h1 h2 h3
                · simp [hM237, hM226, mm_up, e2]
                · simp [hM237, hM226, mm_up, e56]
                  unfold kj_won
                  rw [ka_sum]
                  first | (rw [if_pos h169]; rfl) | (rw [if_neg h169]; simp)
                · simp [hM237, hM226, mm_up, e57]
                  unfold kj_spent
                  rw [ka_sum]
                  first | (rw [if_pos h189]; simp [kj_g, Int.sub_eq_add_neg]) | (rw [if_neg h189]; simp)
                · simp [hM237, hM226, mm_up]; rfl
                · simp [hM237, hM226, mm_up, e60]
                · intro j hj
                  by_cases q : j = i
                  · simp [hM237, hM226, mm_up, q]
                  · simp [hM237, hM226, mm_up, q]; exact hst j (by omega)
              · refine mm_aload_n dX13_judge_192 rfl rfl ?_
                refine mm_dup dX13_judge_193 rfl (by simp) ?_
                refine mm_get (kd := 0) dX13_judge_194 rfl fl_X13_606 (c := 183) rfl (by decide) rfl rfl ?_
                obtain ⟨v194, hv194⟩ : ∃ v, v = N 183 57 := ⟨_, rfl⟩
                rw [← hv194]
                rw [e57] at hv194
                subst hv194
                refine mm_iload dX13_judge_197 rfl rfl ?_
                refine mm_isub dX13_judge_199 rfl ?_
                refine mm_puti dX13_judge_200 rfl fl_X13_606 (c := 183) rfl (by decide) rfl rfl (fun M200 hM200 => ?_)
                have hR200 : mm_Rf M200 := by rw [hM200]; exact hRN.up rfl
                have hG200 : mm_rg M M200 := by rw [hM200]; exact hG.up (by decide)
                refine mm_aload_n dX13_judge_203 rfl rfl ?_
                refine mm_aload_n dX13_judge_204 rfl rfl ?_
                refine mm_get (kd := 0) dX13_judge_205 rfl fl_X13_609 (c := 183) rfl (by decide) rfl rfl ?_
                obtain ⟨v205, hv205⟩ : ∃ v, v = M200 183 58 := ⟨_, rfl⟩
                rw [← hv205]
                rw [hM200, mm_up_i (by decide), e58] at hv205
                subst hv205
                refine mm_aload_n dX13_judge_208 rfl rfl ?_
                refine mm_iload dX13_judge_209 rfl rfl ?_
                refine mm_iload dX13_judge_211 rfl rfl ?_
                refine mm_aload_n dX13_judge_213 rfl rfl ?_
                refine mm_iload dX13_judge_214 rfl rfl ?_
                refine mm_iload_n dX13_judge_216 rfl rfl ?_
                refine mm_V2i dX13_judge_217 rfl lk_X13_501 (c := 183) rfl (by decide) rfl (by simp) (by simp) rfl rfl rfl (g_X13_highAt hR200 hG200 hK hS hh) ?_
                refine mm_V3i dX13_judge_220 rfl lk_X13_497 (c := 183) rfl (by decide) rfl (by simp) (by simp) (by simp) rfl rfl rfl (g_X13_pullOf hR200 hG200 hK hS hai (by omega)) ?_
                refine mm_max dX13_judge_223 rfl lm_X13_518 rfl rfl (by simp) (by omega) (by omega) ?_
                refine mm_puti dX13_judge_226 rfl fl_X13_609 (c := 183) rfl (by decide) rfl rfl (fun M226 hM226 => ?_)
                have hR226 : mm_Rf M226 := by rw [hM226]; exact hR200.up rfl
                have hG226 : mm_rg M M226 := by rw [hM226]; exact hG200.up (by decide)
                refine mm_aload_n dX13_judge_229 rfl rfl ?_
                refine mm_getr dX13_judge_230 rfl fl_X13_292 (c := 183) rfl (by decide) rfl rfl (hR226.at (c := 183) (i := 63) (v := 216) rfl (by decide)) ?_
                refine mm_iload dX13_judge_233 rfl rfl ?_
                refine mm_iload dX13_judge_235 rfl rfl ?_
                refine mm_istk (k0 := i) dX13_judge_237 rfl (c := 215) rfl (by decide) rfl (by omega) (by omega) (fun M237 hM237 => ?_)
                have hR237 : mm_Rf M237 := by rw [hM237]; exact hR226.up (mm_rt_ar (t := 0) rfl (by decide))
                have hG237 : mm_rg M M237 := by rw [hM237]; exact hG226.upa (by decide)
                refine mm_aload_n dX13_judge_238 rfl rfl ?_
                refine mm_iload dX13_judge_239 rfl rfl ?_
                refine mm_iload dX13_judge_241 rfl rfl ?_
                refine mm_V2i dX13_judge_243 rfl lk_X13_476 (c := 183) rfl (by decide) rfl (by simp) (by simp) rfl rfl rfl (g_X13_after hR237 hG237 (by omega)) ?_
                refine mm_istore dX13_judge_246 rfl (Nat.le_of_ble_eq_true rfl) rfl ?_
                refine mm_iinc dX13_judge_248 rfl rfl (Nat.le_of_ble_eq_true rfl) rfl ?_
                refine mm_goto dX13_judge_251 ?_
                refine ih hlt _ _ _ hR237 hG237 ?_ ?_ ?_ ?_ ?_ ?_ ?_ ?_ ?_
                · intro j hj
                  by_cases q : j = i
                  · rw [q]; exact hsafe
                  · exact hsf j (by omega)
                · intro a h1 h2; funext b; simp [hM237, hM226, hM200, mm_up, h1, h2]; rw [hfr a h1 h2]
                · intro b h1 h2 h3
                  have n1 : b ≠ 56 := by omega
                  have n2 : b ≠ 57 := by omega
                  have n3 : b ≠ 58 := by omega
                  simp [hM237, hM226, hM200, mm_up, n1, n2, n3]; exact hfb b h1 h2 h3
                · simp [hM237, hM226, hM200, mm_up, e2]
                · simp [hM237, hM226, hM200, mm_up, e56]
                  unfold kj_won
                  rw [ka_sum]
                  first | (rw [if_pos h169]; rfl) | (rw [if_neg h169]; simp)
                · simp [hM237, hM226, hM200, mm_up, e57]
                  unfold kj_spent
                  rw [ka_sum]
                  first | (rw [if_pos h189]; simp [kj_g, Int.sub_eq_add_neg]) | (rw [if_neg h189]; simp)
                · simp [hM237, hM226, hM200, mm_up]; rfl
                · simp [hM237, hM226, hM200, mm_up, e60]
                · intro j hj
                  by_cases q : j = i
                  · simp [hM237, hM226, hM200, mm_up, q]
                  · simp [hM237, hM226, hM200, mm_up, q]; exact hst j (by omega)
            · refine mm_aload_n dX13_judge_172 rfl rfl ?_
              refine mm_dup dX13_judge_173 rfl (by simp) ?_
              refine mm_get (kd := 0) dX13_judge_174 rfl fl_X13_603 (c := 183) rfl (by decide) rfl rfl ?_
              obtain ⟨v174, hv174⟩ : ∃ v, v = N 183 56 := ⟨_, rfl⟩
              rw [← hv174]
              rw [e56] at hv174
              subst hv174
              refine mm_iload dX13_judge_177 rfl rfl ?_
              refine mm_iadd dX13_judge_179 rfl ?_
              refine mm_puti dX13_judge_180 rfl fl_X13_603 (c := 183) rfl (by decide) rfl rfl (fun M180 hM180 => ?_)
              have hR180 : mm_Rf M180 := by rw [hM180]; exact hRN.up rfl
              have hG180 : mm_rg M M180 := by rw [hM180]; exact hG.up (by decide)
              refine mm_iload dX13_judge_183 rfl rfl ?_
              refine mm_S1i dX13_judge_185 rfl lk_X13_448 (by simp) rfl rfl rfl (c_X13_drumOf (by omega)) ?_
              refine mm_iconst dX13_judge_188 rfl ?_
              refine mm_icne dX13_judge_189 (by omega) (by omega) (fun h189 => ?_) (fun h189 => ?_)
              · refine mm_aload_n dX13_judge_203 rfl rfl ?_
                refine mm_aload_n dX13_judge_204 rfl rfl ?_
                refine mm_get (kd := 0) dX13_judge_205 rfl fl_X13_609 (c := 183) rfl (by decide) rfl rfl ?_
                obtain ⟨v205, hv205⟩ : ∃ v, v = M180 183 58 := ⟨_, rfl⟩
                rw [← hv205]
                rw [hM180, mm_up_i (by decide), e58] at hv205
                subst hv205
                refine mm_aload_n dX13_judge_208 rfl rfl ?_
                refine mm_iload dX13_judge_209 rfl rfl ?_
                refine mm_iload dX13_judge_211 rfl rfl ?_
                refine mm_aload_n dX13_judge_213 rfl rfl ?_
                refine mm_iload dX13_judge_214 rfl rfl ?_
                refine mm_iload_n dX13_judge_216 rfl rfl ?_
                refine mm_V2i dX13_judge_217 rfl lk_X13_501 (c := 183) rfl (by decide) rfl (by simp) (by simp) rfl rfl rfl (g_X13_highAt hR180 hG180 hK hS hh) ?_
                refine mm_V3i dX13_judge_220 rfl lk_X13_497 (c := 183) rfl (by decide) rfl (by simp) (by simp) (by simp) rfl rfl rfl (g_X13_pullOf hR180 hG180 hK hS hai (by omega)) ?_
                refine mm_max dX13_judge_223 rfl lm_X13_518 rfl rfl (by simp) (by omega) (by omega) ?_
                refine mm_puti dX13_judge_226 rfl fl_X13_609 (c := 183) rfl (by decide) rfl rfl (fun M226 hM226 => ?_)
                have hR226 : mm_Rf M226 := by rw [hM226]; exact hR180.up rfl
                have hG226 : mm_rg M M226 := by rw [hM226]; exact hG180.up (by decide)
                refine mm_aload_n dX13_judge_229 rfl rfl ?_
                refine mm_getr dX13_judge_230 rfl fl_X13_292 (c := 183) rfl (by decide) rfl rfl (hR226.at (c := 183) (i := 63) (v := 216) rfl (by decide)) ?_
                refine mm_iload dX13_judge_233 rfl rfl ?_
                refine mm_iload dX13_judge_235 rfl rfl ?_
                refine mm_istk (k0 := i) dX13_judge_237 rfl (c := 215) rfl (by decide) rfl (by omega) (by omega) (fun M237 hM237 => ?_)
                have hR237 : mm_Rf M237 := by rw [hM237]; exact hR226.up (mm_rt_ar (t := 0) rfl (by decide))
                have hG237 : mm_rg M M237 := by rw [hM237]; exact hG226.upa (by decide)
                refine mm_aload_n dX13_judge_238 rfl rfl ?_
                refine mm_iload dX13_judge_239 rfl rfl ?_
                refine mm_iload dX13_judge_241 rfl rfl ?_
                refine mm_V2i dX13_judge_243 rfl lk_X13_476 (c := 183) rfl (by decide) rfl (by simp) (by simp) rfl rfl rfl (g_X13_after hR237 hG237 (by omega)) ?_
                refine mm_istore dX13_judge_246 rfl (Nat.le_of_ble_eq_true rfl) rfl ?_
                refine mm_iinc dX13_judge_248 rfl rfl (Nat.le_of_ble_eq_true rfl) rfl ?_
                refine mm_goto dX13_judge_251 ?_
                refine ih hlt _ _ _ hR237 hG237 ?_ ?_ ?_ ?_ ?_ ?_ ?_ ?_ ?_
                · intro j hj
                  by_cases q : j = i
                  · rw [q]; exact hsafe
                  · exact hsf j (by omega)
                · intro a h1 h2; funext b; simp [hM237, hM226, hM180, mm_up, h1, h2]; rw [hfr a h1 h2]
                · intro b h1 h2 h3
                  have n1 : b ≠ 56 := by omega
                  have n2 : b ≠ 57 := by omega
                  have n3 : b ≠ 58 := by omega
                  simp [hM237, hM226, hM180, mm_up, n1, n2, n3]; exact hfb b h1 h2 h3
                · simp [hM237, hM226, hM180, mm_up, e2]
                · simp [hM237, hM226, hM180, mm_up, e56]
                  unfold kj_won
                  rw [ka_sum]
                  first | (rw [if_pos h169]; rfl) | (rw [if_neg h169]; simp)
                · simp [hM237, hM226, hM180, mm_up, e57]
                  unfold kj_spent
                  rw [ka_sum]
                  first | (rw [if_pos h189]; simp [kj_g, Int.sub_eq_add_neg]) | (rw [if_neg h189]; simp)
                · simp [hM237, hM226, hM180, mm_up]; rfl
                · simp [hM237, hM226, hM180, mm_up, e60]
                · intro j hj
                  by_cases q : j = i
                  · simp [hM237, hM226, hM180, mm_up, q]
                  · simp [hM237, hM226, hM180, mm_up, q]; exact hst j (by omega)
              · refine mm_aload_n dX13_judge_192 rfl rfl ?_
                refine mm_dup dX13_judge_193 rfl (by simp) ?_
                refine mm_get (kd := 0) dX13_judge_194 rfl fl_X13_606 (c := 183) rfl (by decide) rfl rfl ?_
                obtain ⟨v194, hv194⟩ : ∃ v, v = M180 183 57 := ⟨_, rfl⟩
                rw [← hv194]
                rw [hM180, mm_up_i (by decide), e57] at hv194
                subst hv194
                refine mm_iload dX13_judge_197 rfl rfl ?_
                refine mm_isub dX13_judge_199 rfl ?_
                refine mm_puti dX13_judge_200 rfl fl_X13_606 (c := 183) rfl (by decide) rfl rfl (fun M200 hM200 => ?_)
                have hR200 : mm_Rf M200 := by rw [hM200]; exact hR180.up rfl
                have hG200 : mm_rg M M200 := by rw [hM200]; exact hG180.up (by decide)
                refine mm_aload_n dX13_judge_203 rfl rfl ?_
                refine mm_aload_n dX13_judge_204 rfl rfl ?_
                refine mm_get (kd := 0) dX13_judge_205 rfl fl_X13_609 (c := 183) rfl (by decide) rfl rfl ?_
                obtain ⟨v205, hv205⟩ : ∃ v, v = M200 183 58 := ⟨_, rfl⟩
                rw [← hv205]
                rw [hM200, mm_up_i (by decide), hM180, mm_up_i (by decide), e58] at hv205
                subst hv205
                refine mm_aload_n dX13_judge_208 rfl rfl ?_
                refine mm_iload dX13_judge_209 rfl rfl ?_
                refine mm_iload dX13_judge_211 rfl rfl ?_
                refine mm_aload_n dX13_judge_213 rfl rfl ?_
                refine mm_iload dX13_judge_214 rfl rfl ?_
                refine mm_iload_n dX13_judge_216 rfl rfl ?_
                refine mm_V2i dX13_judge_217 rfl lk_X13_501 (c := 183) rfl (by decide) rfl (by simp) (by simp) rfl rfl rfl (g_X13_highAt hR200 hG200 hK hS hh) ?_
                refine mm_V3i dX13_judge_220 rfl lk_X13_497 (c := 183) rfl (by decide) rfl (by simp) (by simp) (by simp) rfl rfl rfl (g_X13_pullOf hR200 hG200 hK hS hai (by omega)) ?_
                refine mm_max dX13_judge_223 rfl lm_X13_518 rfl rfl (by simp) (by omega) (by omega) ?_
                refine mm_puti dX13_judge_226 rfl fl_X13_609 (c := 183) rfl (by decide) rfl rfl (fun M226 hM226 => ?_)
                have hR226 : mm_Rf M226 := by rw [hM226]; exact hR200.up rfl
                have hG226 : mm_rg M M226 := by rw [hM226]; exact hG200.up (by decide)
                refine mm_aload_n dX13_judge_229 rfl rfl ?_
                refine mm_getr dX13_judge_230 rfl fl_X13_292 (c := 183) rfl (by decide) rfl rfl (hR226.at (c := 183) (i := 63) (v := 216) rfl (by decide)) ?_
                refine mm_iload dX13_judge_233 rfl rfl ?_
                refine mm_iload dX13_judge_235 rfl rfl ?_
                refine mm_istk (k0 := i) dX13_judge_237 rfl (c := 215) rfl (by decide) rfl (by omega) (by omega) (fun M237 hM237 => ?_)
                have hR237 : mm_Rf M237 := by rw [hM237]; exact hR226.up (mm_rt_ar (t := 0) rfl (by decide))
                have hG237 : mm_rg M M237 := by rw [hM237]; exact hG226.upa (by decide)
                refine mm_aload_n dX13_judge_238 rfl rfl ?_
                refine mm_iload dX13_judge_239 rfl rfl ?_
                refine mm_iload dX13_judge_241 rfl rfl ?_
                refine mm_V2i dX13_judge_243 rfl lk_X13_476 (c := 183) rfl (by decide) rfl (by simp) (by simp) rfl rfl rfl (g_X13_after hR237 hG237 (by omega)) ?_
                refine mm_istore dX13_judge_246 rfl (Nat.le_of_ble_eq_true rfl) rfl ?_
                refine mm_iinc dX13_judge_248 rfl rfl (Nat.le_of_ble_eq_true rfl) rfl ?_
                refine mm_goto dX13_judge_251 ?_
                refine ih hlt _ _ _ hR237 hG237 ?_ ?_ ?_ ?_ ?_ ?_ ?_ ?_ ?_
                · intro j hj
                  by_cases q : j = i
                  · rw [q]; exact hsafe
                  · exact hsf j (by omega)
                · intro a h1 h2; funext b; simp [hM237, hM226, hM200, hM180, mm_up, h1, h2]; rw [hfr a h1 h2]
                · intro b h1 h2 h3
                  have n1 : b ≠ 56 := by omega
                  have n2 : b ≠ 57 := by omega
                  have n3 : b ≠ 58 := by omega
                  simp [hM237, hM226, hM200, hM180, mm_up, n1, n2, n3]; exact hfb b h1 h2 h3
                · simp [hM237, hM226, hM200, hM180, mm_up, e2]
                · simp [hM237, hM226, hM200, hM180, mm_up, e56]
                  unfold kj_won
                  rw [ka_sum]
                  first | (rw [if_pos h169]; rfl) | (rw [if_neg h169]; simp)
                · simp [hM237, hM226, hM200, hM180, mm_up, e57]
                  unfold kj_spent
                  rw [ka_sum]
                  first | (rw [if_pos h189]; simp [kj_g, Int.sub_eq_add_neg]) | (rw [if_neg h189]; simp)
                · simp [hM237, hM226, hM200, hM180, mm_up]; rfl
                · simp [hM237, hM226, hM200, hM180, mm_up, e60]
                · intro j hj
                  by_cases q : j = i
                  · simp [hM237, hM226, hM200, hM180, mm_up, q]
                  · simp [hM237, hM226, hM200, hM180, mm_up, q]; exact hst j (by omega)
      · refine mm_iload dX13_judge_106 rfl rfl ?_
        refine mm_iload_n dX13_judge_108 rfl rfl ?_
        refine mm_icge dX13_judge_109 (by omega) (by omega) (fun h109 => ?_) (fun h109 => ?_)
        · exfalso; omega
        · refine mm_aload_n dX13_judge_112 rfl rfl ?_
          refine mm_iload dX13_judge_113 rfl rfl ?_
          refine mm_aload_n dX13_judge_115 rfl rfl ?_
          refine mm_getr dX13_judge_116 rfl fl_X13_26 (c := 183) rfl (by decide) rfl rfl (hRN.at (c := 183) (i := 1) (v := 186) rfl (by decide)) ?_
          refine mm_iload dX13_judge_119 rfl rfl ?_
          refine mm_balk (k0 := i) dX13_judge_121 rfl (c := 185) rfl (by decide) rfl (by omega) (by omega) ?_
          rw [f185]
          refine mm_sipush dX13_judge_122 rfl (by decide) ?_
          refine mm_iand dX13_judge_125 rfl ?_
          refine mm_bipush dX13_judge_126 rfl (by decide) ?_
          refine mm_isub dX13_judge_128 rfl ?_
          rw [ea]
          refine mm_iload_n dX13_judge_129 rfl rfl ?_
          refine mm_V3i dX13_judge_130 rfl lk_X13_510 (c := 183) rfl (by decide) rfl (by simp) (by simp) (by simp) rfl rfl rfl (g_X13_isSafe hRN hG hK hA hS hai hh) ?_
          refine mm_ifeqb dX13_judge_133 (fun h133 => ?_) (fun h133 => ?_)
          · exact fin (fun _ => hsafe)
          · exact absurd h133 hsafe
    · refine mm_iload dX13_judge_106 rfl rfl ?_
      refine mm_iload_n dX13_judge_108 rfl rfl ?_
      refine mm_icge dX13_judge_109 (by omega) (by omega) (fun h109 => ?_) (fun h109 => ?_)
      · exact fin (fun q => absurd q hlt)
      · exfalso; omega
  have loop1 : ∀ i : Nat, i ≤ n → ∀ (N : mm_M), mm_Rf N → mm_rg M N → (∀ a, a ≠ 183 → N a = M a) → (∀ b, b ≠ 2 → N 183 b = M 183 b) → N 183 2 = 0 →
      mm_J X Y_X13_judge 243 243 243 45 [(2, 184), (0, s), (0, h), (0, M 183 2), (0, (i : Int)), (9, 0), (9, 0), (9, 0)] [] N (fun r M' => ∃ c : Nat, r = (0, (c : Int)) ∧ mm_Rf M' ∧ mm_rg M M' ∧ kj_postR M M' s h c) := by
    refine mm_lp ?_
    intro i hi ih N hRN hG hfr hfb e2
    have f185 : N 185 = M 185 := hfr 185 (by decide)
    by_cases hlt : i < n
    · have hai := hok.2 i (by omega)
      have hb := hv i (by omega)
      have ha1 := hai.1
      have ha2 := hai.2
      have hdb := ks_drb ha1
      have hslb := ks_slb hK hai
      have ea : (mm_i (M 185 i) &&& mm_i 255).toInt - 48 = kj_actR M i := by rw [kb_and hb]; rfl
      refine mm_iload dX13_judge_45 rfl rfl ?_
      refine mm_iload_n dX13_judge_47 rfl rfl ?_
      refine mm_icge dX13_judge_48 (by omega) (by omega) (fun h48 => ?_) (fun h48 => ?_)
      · exfalso; omega
      · refine mm_aload_n dX13_judge_51 rfl rfl ?_
        refine mm_aload_n dX13_judge_52 rfl rfl ?_
        refine mm_getr dX13_judge_53 rfl fl_X13_26 (c := 183) rfl (by decide) rfl rfl (hRN.at (c := 183) (i := 1) (v := 186) rfl (by decide)) ?_
        refine mm_iload dX13_judge_56 rfl rfl ?_
        refine mm_balk (k0 := i) dX13_judge_58 rfl (c := 185) rfl (by decide) rfl (by omega) (by omega) ?_
        rw [f185]
        refine mm_sipush dX13_judge_59 rfl (by decide) ?_
        refine mm_iand dX13_judge_62 rfl ?_
        refine mm_bipush dX13_judge_63 rfl (by decide) ?_
        refine mm_isub dX13_judge_65 rfl ?_
        rw [ea]
        refine mm_V1i dX13_judge_66 rfl lk_X13_470 (c := 183) rfl (by decide) rfl (by simp) rfl rfl rfl (g_X13_isAct hRN hG hK (by omega)) ?_
        refine mm_ifneb dX13_judge_69 (fun h69 => ?_) (fun h69 => ?_)
        · refine mm_iinc dX13_judge_74 rfl rfl (Nat.le_of_ble_eq_true rfl) rfl ?_
          refine mm_goto dX13_judge_77 ?_
          exact ih hlt N hRN hG hfr hfb e2
        · exact absurd hai h69
    · refine mm_iload dX13_judge_45 rfl rfl ?_
      refine mm_iload_n dX13_judge_47 rfl rfl ?_
      refine mm_icge dX13_judge_48 (by omega) (by omega) (fun h48 => ?_) (fun h48 => ?_)
      · refine mm_aload_n dX13_judge_80 rfl rfl ?_
        refine mm_iconst dX13_judge_81 rfl ?_
        refine mm_puti dX13_judge_82 rfl fl_X13_603 (c := 183) rfl (by decide) rfl rfl (fun M82 hM82 => ?_)
        have hR82 : mm_Rf M82 := by rw [hM82]; exact hRN.up rfl
        have hG82 : mm_rg M M82 := by rw [hM82]; exact hG.up (by decide)
        refine mm_aload_n dX13_judge_85 rfl rfl ?_
        refine mm_iconst dX13_judge_86 rfl ?_
        refine mm_puti dX13_judge_87 rfl fl_X13_606 (c := 183) rfl (by decide) rfl rfl (fun M87 hM87 => ?_)
        have hR87 : mm_Rf M87 := by rw [hM87]; exact hR82.up rfl
        have hG87 : mm_rg M M87 := by rw [hM87]; exact hG82.up (by decide)
        refine mm_aload_n dX13_judge_90 rfl rfl ?_
        refine mm_iconst dX13_judge_91 rfl ?_
        refine mm_puti dX13_judge_92 rfl fl_X13_609 (c := 183) rfl (by decide) rfl rfl (fun M92 hM92 => ?_)
        have hR92 : mm_Rf M92 := by rw [hM92]; exact hR87.up rfl
        have hG92 : mm_rg M M92 := by rw [hM92]; exact hG87.up (by decide)
        refine mm_aload_n dX13_judge_95 rfl rfl ?_
        refine mm_iload_n dX13_judge_96 rfl rfl ?_
        refine mm_puti dX13_judge_97 rfl fl_X13_612 (c := 183) rfl (by decide) rfl rfl (fun M97 hM97 => ?_)
        have hR97 : mm_Rf M97 := by rw [hM97]; exact hR92.up rfl
        have hG97 : mm_rg M M97 := by rw [hM97]; exact hG92.up (by decide)
        refine mm_iload_n dX13_judge_100 rfl rfl ?_
        refine mm_istore dX13_judge_101 rfl (Nat.le_of_ble_eq_true rfl) rfl ?_
        refine mm_iconst dX13_judge_103 rfl ?_
        refine mm_istore dX13_judge_104 rfl (Nat.le_of_ble_eq_true rfl) rfl ?_
        refine loop 0 (Nat.zero_le _) _ _ _ hR97 hG97 (fun j q => absurd q (Nat.not_lt_zero j)) ?_ ?_ ?_ ?_ ?_ ?_ ?_ (fun j q => absurd q (Nat.not_lt_zero j))
        · intro a h1 h2; funext b; simp [hM97, hM92, hM87, hM82, mm_up, h1]; rw [hfr a h1]
        · intro b h1 h2 h3
          have n1 : b ≠ 56 := by omega
          have n2 : b ≠ 57 := by omega
          have n3 : b ≠ 58 := by omega
          have n4 : b ≠ 60 := by omega
          simp [hM97, hM92, hM87, hM82, mm_up, n1, n2, n3, n4]; exact hfb b h1
        · simp [hM97, hM92, hM87, hM82, mm_up, e2]
        all_goals (simp [hM97, hM92, hM87, hM82, mm_up]; try rfl)
      · exfalso; omega
  refine mm_aload_n dX13_judge_0 rfl rfl ?_
  refine mm_get (kd := 0) dX13_judge_1 rfl fl_X13_75 (c := 183) rfl (by decide) rfl rfl ?_
  refine mm_istore_n dX13_judge_4 rfl (Nat.le_of_ble_eq_true rfl) rfl ?_
  refine mm_aload_n dX13_judge_5 rfl rfl ?_
  refine mm_iconst dX13_judge_6 rfl ?_
  refine mm_puti dX13_judge_7 rfl fl_X13_75 (c := 183) rfl (by decide) rfl rfl (fun M7 hM7 => ?_)
  have hR7 : mm_Rf M7 := by rw [hM7]; exact hR.up rfl
  have hG7 : mm_rg M M7 := by rw [hM7]; exact hG0.up (by decide)
  refine mm_aload_n dX13_judge_10 rfl rfl ?_
  refine mm_iload_n dX13_judge_11 rfl rfl ?_
  refine mm_V1i dX13_judge_12 rfl lk_X13_464 (c := 183) rfl (by decide) rfl (by simp) rfl rfl rfl (g_X13_isState hR7 hG7 hK (by omega)) ?_
  refine mm_ifeqb dX13_judge_15 (fun h15 => ?_) (fun h15 => ?_)
  · exact absurd hs h15
  · refine mm_iload_n dX13_judge_18 rfl rfl ?_
    refine mm_S1i dX13_judge_19 rfl lk_X13_486 (by simp) rfl rfl rfl (c_X13_isHour (by omega)) ?_
    refine mm_ifneb dX13_judge_22 (fun h22 => ?_) (fun h22 => ?_)
    · refine mm_iload_n dX13_judge_28 rfl rfl ?_
      refine mm_i2l dX13_judge_29 rfl (by omega) ?_
      refine mm_lconst1 dX13_judge_30 rfl ?_
      refine mm_ldc2 dX13_judge_31 rfl kc_X13_456 ?_
      refine mm_S3i dX13_judge_34 rfl lk_X13_5 (by simp) (by simp) (by simp) rfl rfl rfl (c_X13_in (by omega) (by omega) (by omega)) ?_
      refine mm_ifneb dX13_judge_37 (fun h37 => ?_) (fun h37 => ?_)
      · refine mm_iconst dX13_judge_42 rfl ?_
        refine mm_istore dX13_judge_43 rfl (Nat.le_of_ble_eq_true rfl) rfl ?_
        refine loop1 0 (Nat.zero_le _) _ hR7 hG7 ?_ ?_ ?_
        · intro a ha; rw [hM7, mm_up_row ha]
        · intro b hb; rw [hM7, mm_up_i hb]
        · rw [hM7, mm_up_s]
      · exfalso; omega
    · exact absurd hh h22
theorem c_X13_judge0 (hR : mm_Rf M) (hK : mm_KV (mm_rk M)) (hs : mm_R s) (hh : mm_R h) (hl : 0 ≤ M 183 2 ∧ M 183 2 ≤ 800) (hv : ∀ k : Nat, k < 800 → -128 ≤ M 185 k ∧ M 185 k ≤ 127) (hno : ¬ ((ks_st (mm_rk M) s ∧ ks_hr h) ∧ kj_okR M)) :
    mm_Fn X Y_X13_judge 243 [(2, 184), (0, s), (0, h)] M (0, if ks_st (mm_rk M) s ∧ ks_hr h then -1 else -2) (mm_up M 183 2 0) := by
  have hG0 := mm_rg.rf M
  obtain ⟨n, hnn⟩ : ∃ n, n = (M 183 2).toNat := ⟨_, rfl⟩
  obtain ⟨N, hN⟩ : ∃ N, N = mm_up M 183 2 0 := ⟨_, rfl⟩
  have hRN : mm_Rf N := by rw [hN]; exact hR.up rfl
  have hG : mm_rg M N := by rw [hN]; exact hG0.up (by decide)
  have f185 : N 185 = M 185 := by rw [hN, mm_up_row (by decide)]
  rw [← hN]
  refine mm_startF (ls := [(2, 184), (0, s), (0, h), (9, 0), (9, 0), (9, 0), (9, 0), (9, 0)]) rfl ?_
  have loop1 : ks_st (mm_rk M) s ∧ ks_hr h → (1 ≤ M 183 2 ∧ M 183 2 ≤ 100) → ∀ i : Nat, i ≤ n → (∀ j, j < i → ks_ac (mm_rk M) (kj_actR M j)) →
      mm_J X Y_X13_judge 243 243 243 45 [(2, 184), (0, s), (0, h), (0, M 183 2), (0, (i : Int)), (9, 0), (9, 0), (9, 0)] [] N (fun r' M'' => r' = (0, -1) ∧ M'' = N) := by
    intro hsh hn
    refine mm_lp ?_
    intro i hi ih hj
    by_cases hlt : i < n
    · have hb := hv i (by omega)
      have ea : (mm_i (M 185 i) &&& mm_i 255).toInt - 48 = kj_actR M i := by rw [kb_and hb]; rfl
      have hab : -48 ≤ kj_actR M i ∧ kj_actR M i ≤ 255 := by unfold kj_actR; omega
      refine mm_iload dX13_judge_45 rfl rfl ?_
      refine mm_iload_n dX13_judge_47 rfl rfl ?_
      refine mm_icge dX13_judge_48 (by omega) (by omega) (fun h48 => ?_) (fun h48 => ?_)
      · exfalso; omega
      · refine mm_aload_n dX13_judge_51 rfl rfl ?_
        refine mm_aload_n dX13_judge_52 rfl rfl ?_
        refine mm_getr dX13_judge_53 rfl fl_X13_26 (c := 183) rfl (by decide) rfl rfl (hRN.at (c := 183) (i := 1) (v := 186) rfl (by decide)) ?_
        refine mm_iload dX13_judge_56 rfl rfl ?_
        refine mm_balk (k0 := i) dX13_judge_58 rfl (c := 185) rfl (by decide) rfl (by omega) (by omega) ?_
        rw [f185]
        refine mm_sipush dX13_judge_59 rfl (by decide) ?_
        refine mm_iand dX13_judge_62 rfl ?_
        refine mm_bipush dX13_judge_63 rfl (by decide) ?_
        refine mm_isub dX13_judge_65 rfl ?_
        rw [ea]
        refine mm_V1i dX13_judge_66 rfl lk_X13_470 (c := 183) rfl (by decide) rfl (by simp) rfl rfl rfl (g_X13_isAct hRN hG hK (by omega)) ?_
        refine mm_ifneb dX13_judge_69 (fun h69 => ?_) (fun h69 => ?_)
        · refine mm_iinc dX13_judge_74 rfl rfl (Nat.le_of_ble_eq_true rfl) rfl ?_
          refine mm_goto dX13_judge_77 ?_
          refine ih hlt ?_
          intro j hj2
          by_cases q : j = i
          · rw [q]; exact h69
          · exact hj j (by omega)
        · refine mm_iconst dX13_judge_72 rfl ?_
          refine mm_iret dX13_judge_73 rfl rfl ?_
          exact mm_fin rfl rfl
    · exact absurd ⟨hsh, hn, fun j q => hj j (by omega)⟩ hno
  refine mm_aload_n dX13_judge_0 rfl rfl ?_
  refine mm_get (kd := 0) dX13_judge_1 rfl fl_X13_75 (c := 183) rfl (by decide) rfl rfl ?_
  refine mm_istore_n dX13_judge_4 rfl (Nat.le_of_ble_eq_true rfl) rfl ?_
  refine mm_aload_n dX13_judge_5 rfl rfl ?_
  refine mm_iconst dX13_judge_6 rfl ?_
  refine mm_puti dX13_judge_7 rfl fl_X13_75 (c := 183) rfl (by decide) rfl rfl (fun M7 hM7 => ?_)
  have hR7 : mm_Rf M7 := by rw [hM7]; exact hR.up rfl
  have hG7 : mm_rg M M7 := by rw [hM7]; exact hG0.up (by decide)
  refine mm_aload_n dX13_judge_10 rfl rfl ?_
  refine mm_iload_n dX13_judge_11 rfl rfl ?_
  refine mm_V1i dX13_judge_12 rfl lk_X13_464 (c := 183) rfl (by decide) rfl (by simp) rfl rfl rfl (g_X13_isState hR7 hG7 hK hs) ?_
  rw [← hN] at hM7
  subst hM7
  refine mm_ifeqb dX13_judge_15 (fun h15 => ?_) (fun h15 => ?_)
  · refine mm_bipush dX13_judge_25 rfl (by decide) ?_
    refine mm_iret dX13_judge_27 rfl rfl ?_
    first
    | exact mm_fin (by rw [if_neg (fun q => h15 q.1)]) rfl
    | exact mm_fin (by rw [if_neg (fun q => h22 q.2)]) rfl
  · refine mm_iload_n dX13_judge_18 rfl rfl ?_
    refine mm_S1i dX13_judge_19 rfl lk_X13_486 (by simp) rfl rfl rfl (c_X13_isHour hh) ?_
    refine mm_ifneb dX13_judge_22 (fun h22 => ?_) (fun h22 => ?_)
    · refine mm_iload_n dX13_judge_28 rfl rfl ?_
      refine mm_i2l dX13_judge_29 rfl (by omega) ?_
      refine mm_lconst1 dX13_judge_30 rfl ?_
      refine mm_ldc2 dX13_judge_31 rfl kc_X13_456 ?_
      refine mm_S3i dX13_judge_34 rfl lk_X13_5 (by simp) (by simp) (by simp) rfl rfl rfl (c_X13_in (by omega) (by omega) (by omega)) ?_
      refine mm_ifneb dX13_judge_37 (fun h37 => ?_) (fun h37 => ?_)
      · refine mm_iconst dX13_judge_42 rfl ?_
        refine mm_istore dX13_judge_43 rfl (Nat.le_of_ble_eq_true rfl) rfl ?_
        rw [if_pos (And.intro h15 h22)]
        exact loop1 (And.intro h15 h22) h37 0 (Nat.zero_le _) (fun j q => absurd q (Nat.not_lt_zero j))
      · refine mm_iconst dX13_judge_40 rfl ?_
        refine mm_iret dX13_judge_41 rfl rfl ?_
        exact mm_fin (by rw [if_pos (And.intro h15 h22)]) rfl
    · refine mm_bipush dX13_judge_25 rfl (by decide) ?_
      refine mm_iret dX13_judge_27 rfl rfl ?_
      first
      | exact mm_fin (by rw [if_neg (fun q => h15 q.1)]) rfl
      | exact mm_fin (by rw [if_neg (fun q => h22 q.2)]) rfl
end
end
/-! 74.rules -/
section
/-! ===== rules of flying: which act they tell ===== -/
def kr_val (K : Nat → Int) (s w q : Int) : Int := if q = 0 then ks_p K s 0 w else if q = 1 then ks_h K s else if q = 2 then ks_rope K s else if q = 3 then ks_col K s else ks_row K s
def kr_ok1 (K : Nat → Int) (s w q hw b : Int) : Bool := if hw = 0 then decide (b < kr_val K s w q) else if hw = 1 then decide (kr_val K s w q < b) else decide (kr_val K s w q = b)
def kr_h (f : Nat → Bool) : Nat → Bool
  | 0 => true
  | n + 1 => kr_h f n && f n
theorem kr_h_f {f : Nat → Bool} {i : Nat} (hi : f i = false) : ∀ {n : Nat}, i < n → kr_h f n = false
  | 0, h => absurd h (Nat.not_lt_zero i)
  | n + 1, h => by
    unfold kr_h
    by_cases q : i = n
    · rw [← q, hi, Bool.and_false]
    · rw [kr_h_f hi (show i < n by omega), Bool.false_and]
theorem kr_h_s {f : Nat → Bool} {n : Nat} (h : kr_h f n = true) (hn : f n = true) : kr_h f (n + 1) = true := by unfold kr_h; rw [h, hn]; rfl
/-- the act of the first line that holds, from line l on -/
def kr_act (P : Nat → Bool) (D : Nat → Int) (l : Nat) : Nat → Int
  | 0 => 0
  | k + 1 => if P l = true then D l else kr_act P D (l + 1) k
/-- a line: its conds (what, how, bound) hold -/
def kr_ln (K : Nat → Int) (s w : Int) (C : Nat → Int) (Q H B : Nat → Nat → Int) (l : Nat) : Bool := kr_h (fun c => kr_ok1 K s w (Q l c) (H l c) (B l c)) (C l).toNat
/-- what rules tell -/
def kr_tell (K : Nat → Int) (s w : Int) (n : Int) (C : Nat → Int) (Q H B : Nat → Nat → Int) (D : Nat → Int) : Int := kr_act (kr_ln K s w C Q H B) D 0 n.toNat
theorem kr_act_ac {P : Nat → Bool} {D : Nat → Int} {K : Nat → Int} (hK : mm_KV K) : ∀ {k l : Nat}, (∀ j, j < l + k → ks_ac K (D j)) → ks_ac K (kr_act P D l k)
  | 0, l, _ => by
    obtain ⟨-, -, -, -, -, -, -, -, -, -, h10, -⟩ := hK
    exact ⟨Int.le_refl 0, by show (0 : Int) < 15 * K 10; omega⟩
  | k + 1, l, h => by
    unfold kr_act
    split
    · exact h l (by omega)
    · exact kr_act_ac hK (fun j hj => h j (by omega))
def kc_C (M : mm_M) (l : Nat) : Int := M 19 (11 * l)
def kc_Q (M : mm_M) (l c : Nat) : Int := M 19 (11 * l + 1 + 3 * c)
def kc_H (M : mm_M) (l c : Nat) : Int := M 19 (11 * l + 1 + 3 * c + 1)
def kc_B (M : mm_M) (l c : Nat) : Int := M 19 (11 * l + 1 + 3 * c + 2)
def kc_D (M : mm_M) (l : Nat) : Int := M 19 (11 * l + 10)
/-- the class's rules -/
def mm_CR (M : mm_M) : Prop := (0 ≤ M 18 1 ∧ M 18 1 ≤ 8) ∧ ∀ l : Nat, (l : Int) < M 18 1 → (0 ≤ kc_C M l ∧ kc_C M l ≤ 3) ∧ (∀ c : Nat, (c : Int) < kc_C M l → mm_R (kc_Q M l c) ∧ mm_R (kc_H M l c) ∧ mm_R (kc_B M l c)) ∧ ks_ac (M 4) (kc_D M l)
def kq_C (M : mm_M) (l : Nat) : Int := M 196 l
def kq_Q (M : mm_M) (l c : Nat) : Int := M 193 (3 * l + c)
def kq_H (M : mm_M) (l c : Nat) : Int := M 194 (3 * l + c)
def kq_B (M : mm_M) (l c : Nat) : Int := M 195 (3 * l + c)
def kq_D (M : mm_M) (l : Nat) : Int := M 197 l
/-- the reference's rules -/
def mm_RR (M : mm_M) : Prop := (0 ≤ M 183 20 ∧ M 183 20 ≤ 8) ∧ ∀ l : Nat, (l : Int) < M 183 20 → (0 ≤ kq_C M l ∧ kq_C M l ≤ 3) ∧ (∀ c : Nat, (c : Int) < kq_C M l → mm_R (kq_Q M l c) ∧ mm_R (kq_H M l c) ∧ mm_R (kq_B M l c)) ∧ ks_ac (mm_rk M) (kq_D M l)
theorem kr_valb {K : Nat → Int} (h : mm_KV K) {s w q : Int} (hs : ks_st K s) (hw : 0 ≤ w ∧ w ≤ 60) : 0 ≤ kr_val K s w q ∧ kr_val K s w q ≤ 1425600 := by
  have h0 : ks_ac K 0 := by
    obtain ⟨-, -, -, -, -, -, -, -, -, -, h10, -⟩ := id h
    exact ⟨Int.le_refl 0, by omega⟩
  have a := ks_pw h (s := s) h0 hw
  have b := ks_hb h hs
  have c := ks_ropeb h hs
  have d := ks_colb h s
  have e := ks_rowb h s
  obtain ⟨k0, k1, k2, -⟩ := id h
  unfold kr_val
  split
  · omega
  · split
    · omega
    · split
      · omega
      · split <;> omega
section
variable {X : mm_X} {M : mm_M} {s w q : Int} {l : Nat}
theorem c_X9_valueOf (hR : mm_Rf M) (hK : mm_CK M) (hs : ks_st (M 4) s) (hw : 0 ≤ w ∧ w ≤ 60) (hq : mm_R q) : mm_Fn X Y_X9_valueOf 243 [(2, 19), (0, q), (0, s), (0, w)] M (0, kr_val (M 4) s w q) M := by
  have hnb := ks_nb hK.1
  have ht := hK.tab hs
  have hs1 := hs.1
  have hs2 := hs.2
  have h0 : ks_ac (M 4) 0 := by
    obtain ⟨-, -, -, -, -, -, -, -, -, -, h10, -⟩ := hK.1
    exact ⟨Int.le_refl 0, by omega⟩
  refine mm_startF (ls := [(2, 19), (0, q), (0, s), (0, w)]) rfl ?_
  refine mm_iload_n dX9_valueOf_0 rfl rfl ?_
  have hsw : (q < 0 ∨ 3 < q) ∨ q = 0 ∨ q = 1 ∨ q = 2 ∨ q = 3 := by omega
  rcases hsw with h1 | h1 | h1 | h1 | h1
  · refine mm_tsd (t := 73) dX9_valueOf_1.1 (by omega) h1 (by decide) ?_
    refine mm_aload_n dX9_valueOf_73 rfl rfl ?_
    refine mm_getr dX9_valueOf_74 rfl fl_X9_18 (c := 18) rfl (by decide) rfl rfl (hR.at (c := 18) (i := 0) (v := 4) rfl (by decide)) ?_
    refine mm_getr dX9_valueOf_77 rfl fl_X9_114 (c := 3) rfl (by decide) rfl rfl (hR.at (c := 3) (i := 4) (v := 8) rfl (by decide)) ?_
    refine mm_iload_n dX9_valueOf_80 rfl rfl ?_
    refine mm_iald dX9_valueOf_81 rfl (c := 7) rfl (by decide) rfl (by omega) (by omega) ?_
    refine mm_iret dX9_valueOf_82 rfl rfl ?_
    refine mm_fin ?_ rfl
    unfold kr_val
    first
    | (rw [if_pos h1]; done)
    | (rw [if_neg (by omega), if_pos h1, ht.2.2.2.1]; done)
    | (rw [if_neg (by omega), if_neg (by omega), if_pos h1, ht.2.2.1]; done)
    | (rw [if_neg (by omega), if_neg (by omega), if_neg (by omega), if_pos h1, ht.1]; done)
    | (rw [if_neg (by omega), if_neg (by omega), if_neg (by omega), if_neg (by omega), ht.2.1]; done)
  · refine mm_tsw (t := 32) (k := 0) dX9_valueOf_1.1 (by omega) (by omega) (by omega) (by omega) rfl (by decide) ?_
    refine mm_aload_n dX9_valueOf_32 rfl rfl ?_
    refine mm_getr dX9_valueOf_33 rfl fl_X9_18 (c := 18) rfl (by decide) rfl rfl (hR.at (c := 18) (i := 0) (v := 4) rfl (by decide)) ?_
    refine mm_iload_n dX9_valueOf_36 rfl rfl ?_
    refine mm_iconst dX9_valueOf_37 rfl ?_
    refine mm_iload_n dX9_valueOf_38 rfl rfl ?_
    refine mm_V3i dX9_valueOf_39 rfl lk_X9_102 (c := 3) rfl (by decide) rfl (by simp) (by simp) (by simp) rfl rfl rfl (c_X4_pullOf hR hK hs h0 (by omega)) ?_
    refine mm_iret dX9_valueOf_42 rfl rfl ?_
    refine mm_fin ?_ rfl
    unfold kr_val
    first
    | (rw [if_pos h1]; done)
    | (rw [if_neg (by omega), if_pos h1, ht.2.2.2.1]; done)
    | (rw [if_neg (by omega), if_neg (by omega), if_pos h1, ht.2.2.1]; done)
    | (rw [if_neg (by omega), if_neg (by omega), if_neg (by omega), if_pos h1, ht.1]; done)
    | (rw [if_neg (by omega), if_neg (by omega), if_neg (by omega), if_neg (by omega), ht.2.1]; done)
  · refine mm_tsw (t := 43) (k := 1) dX9_valueOf_1.1 (by omega) (by omega) (by omega) (by omega) rfl (by decide) ?_
    refine mm_aload_n dX9_valueOf_43 rfl rfl ?_
    refine mm_getr dX9_valueOf_44 rfl fl_X9_18 (c := 18) rfl (by decide) rfl rfl (hR.at (c := 18) (i := 0) (v := 4) rfl (by decide)) ?_
    refine mm_getr dX9_valueOf_47 rfl fl_X9_105 (c := 3) rfl (by decide) rfl rfl (hR.at (c := 3) (i := 6) (v := 10) rfl (by decide)) ?_
    refine mm_iload_n dX9_valueOf_50 rfl rfl ?_
    refine mm_iald dX9_valueOf_51 rfl (c := 9) rfl (by decide) rfl (by omega) (by omega) ?_
    refine mm_iret dX9_valueOf_52 rfl rfl ?_
    refine mm_fin ?_ rfl
    unfold kr_val
    first
    | (rw [if_pos h1]; done)
    | (rw [if_neg (by omega), if_pos h1, ht.2.2.2.1]; done)
    | (rw [if_neg (by omega), if_neg (by omega), if_pos h1, ht.2.2.1]; done)
    | (rw [if_neg (by omega), if_neg (by omega), if_neg (by omega), if_pos h1, ht.1]; done)
    | (rw [if_neg (by omega), if_neg (by omega), if_neg (by omega), if_neg (by omega), ht.2.1]; done)
  · refine mm_tsw (t := 53) (k := 2) dX9_valueOf_1.1 (by omega) (by omega) (by omega) (by omega) rfl (by decide) ?_
    refine mm_aload_n dX9_valueOf_53 rfl rfl ?_
    refine mm_getr dX9_valueOf_54 rfl fl_X9_18 (c := 18) rfl (by decide) rfl rfl (hR.at (c := 18) (i := 0) (v := 4) rfl (by decide)) ?_
    refine mm_getr dX9_valueOf_57 rfl fl_X9_108 (c := 3) rfl (by decide) rfl rfl (hR.at (c := 3) (i := 5) (v := 9) rfl (by decide)) ?_
    refine mm_iload_n dX9_valueOf_60 rfl rfl ?_
    refine mm_iald dX9_valueOf_61 rfl (c := 8) rfl (by decide) rfl (by omega) (by omega) ?_
    refine mm_iret dX9_valueOf_62 rfl rfl ?_
    refine mm_fin ?_ rfl
    unfold kr_val
    first
    | (rw [if_pos h1]; done)
    | (rw [if_neg (by omega), if_pos h1, ht.2.2.2.1]; done)
    | (rw [if_neg (by omega), if_neg (by omega), if_pos h1, ht.2.2.1]; done)
    | (rw [if_neg (by omega), if_neg (by omega), if_neg (by omega), if_pos h1, ht.1]; done)
    | (rw [if_neg (by omega), if_neg (by omega), if_neg (by omega), if_neg (by omega), ht.2.1]; done)
  · refine mm_tsw (t := 63) (k := 3) dX9_valueOf_1.1 (by omega) (by omega) (by omega) (by omega) rfl (by decide) ?_
    refine mm_aload_n dX9_valueOf_63 rfl rfl ?_
    refine mm_getr dX9_valueOf_64 rfl fl_X9_18 (c := 18) rfl (by decide) rfl rfl (hR.at (c := 18) (i := 0) (v := 4) rfl (by decide)) ?_
    refine mm_getr dX9_valueOf_67 rfl fl_X9_111 (c := 3) rfl (by decide) rfl rfl (hR.at (c := 3) (i := 3) (v := 7) rfl (by decide)) ?_
    refine mm_iload_n dX9_valueOf_70 rfl rfl ?_
    refine mm_iald dX9_valueOf_71 rfl (c := 6) rfl (by decide) rfl (by omega) (by omega) ?_
    refine mm_iret dX9_valueOf_72 rfl rfl ?_
    refine mm_fin ?_ rfl
    unfold kr_val
    first
    | (rw [if_pos h1]; done)
    | (rw [if_neg (by omega), if_pos h1, ht.2.2.2.1]; done)
    | (rw [if_neg (by omega), if_neg (by omega), if_pos h1, ht.2.2.1]; done)
    | (rw [if_neg (by omega), if_neg (by omega), if_neg (by omega), if_pos h1, ht.1]; done)
    | (rw [if_neg (by omega), if_neg (by omega), if_neg (by omega), if_neg (by omega), ht.2.1]; done)
theorem c_X9_holds (hR : mm_Rf M) (hK : mm_CK M) (hs : ks_st (M 4) s) (hw : 0 ≤ w ∧ w ≤ 60) (hl : l < 8) (hC : 0 ≤ kc_C M l ∧ kc_C M l ≤ 3) (hv : ∀ c : Nat, (c : Int) < kc_C M l → mm_R (kc_Q M l c) ∧ mm_R (kc_H M l c) ∧ mm_R (kc_B M l c)) :
    mm_Fn X Y_X9_holds 243 [(2, 19), (0, (l : Int) * 11), (0, s), (0, w)] M (0, mm_b (kr_ln (M 4) s w (kc_C M) (kc_Q M) (kc_H M) (kc_B M) l = true)) M := by
  refine mm_startF (ls := [(2, 19), (0, (l : Int) * 11), (0, s), (0, w), (9, 0), (9, 0), (9, 0), (9, 0), (9, 0)]) rfl ?_
  have loop : ∀ i : Nat, i ≤ (kc_C M l).toNat → ∀ l5 l6 l7 l8 : mm_V, kr_h (fun c => kr_ok1 (M 4) s w (kc_Q M l c) (kc_H M l c) (kc_B M l c)) i = true →
      mm_J X Y_X9_holds 243 243 243 3 [(2, 19), (0, (l : Int) * 11), (0, s), (0, w), (0, (i : Int)), l5, l6, l7, l8] [] M (fun r' M'' => r' = (0, mm_b (kr_ln (M 4) s w (kc_C M) (kc_Q M) (kc_H M) (kc_B M) l = true)) ∧ M'' = M) := by
    refine mm_lp ?_
    intro i hi ih l5 l6 l7 l8 hh
    have eC : M 19 (11 * l) = kc_C M l := rfl
    by_cases hlt : i < (kc_C M l).toNat
    · have hvi := hv i (by omega)
      have hv1 := hvi.1
      have hv2 := hvi.2.1
      have hv3 := hvi.2.2
      have hvb := kr_valb hK.1 hs hw (q := kc_Q M l i)
      have eQ : M 19 (11 * l + 1 + 3 * i) = kc_Q M l i := rfl
      have eH : M 19 (11 * l + 1 + 3 * i + 1) = kc_H M l i := rfl
      have eB : M 19 (11 * l + 1 + 3 * i + 2) = kc_B M l i := rfl
      have nxt : ∀ (z : Int) (l8 : mm_V), z = mm_b (kr_ok1 (M 4) s w (kc_Q M l i) (kc_H M l i) (kc_B M l i) = true) → mm_J X Y_X9_holds 243 243 243 117 [(2, 19), (0, (l : Int) * 11), (0, s), (0, w), (0, (i : Int)), (0, (l : Int) * 11 + 1 + (i : Int) * 3), (0, kr_val (M 4) s w (kc_Q M l i)), (0, kc_B M l i), l8] [(0, z)] M (fun r' M'' => r' = (0, mm_b (kr_ln (M 4) s w (kc_C M) (kc_Q M) (kc_H M) (kc_B M) l = true)) ∧ M'' = M) := by
        intro z l8 hz
        subst hz
        refine mm_istore dX9_holds_117 rfl (Nat.le_of_ble_eq_true rfl) rfl ?_
        refine mm_iload dX9_holds_119 rfl rfl ?_
        refine mm_ifneb dX9_holds_121 (fun h121 => ?_) (fun h121 => ?_)
        · refine mm_iinc dX9_holds_126 rfl rfl (Nat.le_of_ble_eq_true rfl) rfl ?_
          refine mm_goto dX9_holds_129 ?_
          exact ih hlt _ _ _ _ (kr_h_s hh h121)
        · refine mm_iconst dX9_holds_124 rfl ?_
          refine mm_zret dX9_holds_125 rfl rfl (Or.inl rfl) ?_
          refine mm_fin (mm_b0 ?_) rfl
          unfold kr_ln
          rw [kr_h_f (i := i) (by simpa using h121) hlt]
          decide
      refine mm_iload dX9_holds_3 rfl rfl ?_
      refine mm_aload_n dX9_holds_5 rfl rfl ?_
      refine mm_getr dX9_holds_6 rfl fl_X9_11 (c := 18) rfl (by decide) rfl rfl (hR.at (c := 18) (i := 2) (v := 20) rfl (by decide)) ?_
      refine mm_iload_n dX9_holds_9 rfl rfl ?_
      refine mm_ialk (k0 := (11 * l)) dX9_holds_10 rfl (c := 19) rfl (by decide) rfl (by omega) (by omega) ?_
      rw [eC]
      refine mm_icge dX9_holds_11 (by omega) (by omega) (fun h11 => ?_) (fun h11 => ?_)
      · exfalso; omega
      · refine mm_iload_n dX9_holds_14 rfl rfl ?_
        refine mm_iconst dX9_holds_15 rfl ?_
        refine mm_iadd dX9_holds_16 rfl ?_
        refine mm_iload dX9_holds_17 rfl rfl ?_
        refine mm_iconst dX9_holds_19 rfl ?_
        refine mm_imul dX9_holds_20 rfl ?_
        refine mm_iadd dX9_holds_21 rfl ?_
        refine mm_istore dX9_holds_22 rfl (Nat.le_of_ble_eq_true rfl) rfl ?_
        refine mm_aload_n dX9_holds_24 rfl rfl ?_
        refine mm_aload_n dX9_holds_25 rfl rfl ?_
        refine mm_getr dX9_holds_26 rfl fl_X9_11 (c := 18) rfl (by decide) rfl rfl (hR.at (c := 18) (i := 2) (v := 20) rfl (by decide)) ?_
        refine mm_iload dX9_holds_29 rfl rfl ?_
        refine mm_ialk (k0 := (11 * l + 1 + 3 * i)) dX9_holds_31 rfl (c := 19) rfl (by decide) rfl (by omega) (by omega) ?_
        rw [eQ]
        refine mm_iload_n dX9_holds_32 rfl rfl ?_
        refine mm_iload_n dX9_holds_33 rfl rfl ?_
        refine mm_V3i dX9_holds_34 rfl lk_X9_98 (c := 18) rfl (by decide) rfl (by simp) (by simp) (by simp) rfl rfl rfl (c_X9_valueOf hR hK hs hw hv1) ?_
        refine mm_istore dX9_holds_37 rfl (Nat.le_of_ble_eq_true rfl) rfl ?_
        refine mm_aload_n dX9_holds_39 rfl rfl ?_
        refine mm_getr dX9_holds_40 rfl fl_X9_11 (c := 18) rfl (by decide) rfl rfl (hR.at (c := 18) (i := 2) (v := 20) rfl (by decide)) ?_
        refine mm_iload dX9_holds_43 rfl rfl ?_
        refine mm_iconst dX9_holds_45 rfl ?_
        refine mm_iadd dX9_holds_46 rfl ?_
        refine mm_ialk (k0 := (11 * l + 1 + 3 * i + 2)) dX9_holds_47 rfl (c := 19) rfl (by decide) rfl (by omega) (by omega) ?_
        rw [eB]
        refine mm_istore dX9_holds_48 rfl (Nat.le_of_ble_eq_true rfl) rfl ?_
        refine mm_aload_n dX9_holds_50 rfl rfl ?_
        refine mm_getr dX9_holds_51 rfl fl_X9_11 (c := 18) rfl (by decide) rfl rfl (hR.at (c := 18) (i := 2) (v := 20) rfl (by decide)) ?_
        refine mm_iload dX9_holds_54 rfl rfl ?_
        refine mm_iconst dX9_holds_56 rfl ?_
        refine mm_iadd dX9_holds_57 rfl ?_
        refine mm_ialk (k0 := (11 * l + 1 + 3 * i + 1)) dX9_holds_58 rfl (c := 19) rfl (by decide) rfl (by omega) (by omega) ?_
        rw [eH]
        refine mm_ifne dX9_holds_59 (by omega) (fun h59 => ?_) (fun h59 => ?_)
        · refine mm_aload_n dX9_holds_77 rfl rfl ?_
          refine mm_getr dX9_holds_78 rfl fl_X9_11 (c := 18) rfl (by decide) rfl rfl (hR.at (c := 18) (i := 2) (v := 20) rfl (by decide)) ?_
          refine mm_iload dX9_holds_81 rfl rfl ?_
          refine mm_iconst dX9_holds_83 rfl ?_
          refine mm_iadd dX9_holds_84 rfl ?_
          refine mm_ialk (k0 := (11 * l + 1 + 3 * i + 1)) dX9_holds_85 rfl (c := 19) rfl (by decide) rfl (by omega) (by omega) ?_
          rw [eH]
          refine mm_iconst dX9_holds_86 rfl ?_
          refine mm_icne dX9_holds_87 (by omega) (by omega) (fun h87 => ?_) (fun h87 => ?_)
          · refine mm_iload dX9_holds_105 rfl rfl ?_
            refine mm_iload dX9_holds_107 rfl rfl ?_
            refine mm_icne_z (q2 := 117) dX9_holds_109 (by omega) (by omega) (fun k => mm_iconst dX9_holds_116 rfl k) (fun k => mm_iconst dX9_holds_112 rfl (mm_goto dX9_holds_113 k)) ?_
            refine nxt _ _ ?_
            unfold kr_ok1
            first
            | (rw [if_pos h59]; first | exact mm_b1 (decide_eq_true (by omega)) | exact mm_b0 (fun hq => absurd (of_decide_eq_true hq) (by omega)))
            | (rw [if_neg h59, if_pos h87]; first | exact mm_b1 (decide_eq_true (by omega)) | exact mm_b0 (fun hq => absurd (of_decide_eq_true hq) (by omega)))
            | (rw [if_neg h59, if_neg h87]; first | exact mm_b_congr decide_eq_true_iff.symm | exact mm_b1 (decide_eq_true (by omega)) | exact mm_b0 (fun hq => absurd (of_decide_eq_true hq) (by omega)))
          · refine mm_iload dX9_holds_90 rfl rfl ?_
            refine mm_iload dX9_holds_92 rfl rfl ?_
            refine mm_icge dX9_holds_94 (by omega) (by omega) (fun h94 => ?_) (fun h94 => ?_)
            · refine mm_iconst dX9_holds_101 rfl ?_
              refine mm_goto dX9_holds_102 ?_
              refine nxt _ _ ?_
              unfold kr_ok1
              first
              | (rw [if_pos h59]; first | exact mm_b1 (decide_eq_true (by omega)) | exact mm_b0 (fun hq => absurd (of_decide_eq_true hq) (by omega)))
              | (rw [if_neg h59, if_pos h87]; first | exact mm_b1 (decide_eq_true (by omega)) | exact mm_b0 (fun hq => absurd (of_decide_eq_true hq) (by omega)))
              | (rw [if_neg h59, if_neg h87]; first | exact mm_b_congr decide_eq_true_iff.symm | exact mm_b1 (decide_eq_true (by omega)) | exact mm_b0 (fun hq => absurd (of_decide_eq_true hq) (by omega)))
            · refine mm_iconst dX9_holds_97 rfl ?_
              refine mm_goto dX9_holds_98 ?_
              refine nxt _ _ ?_
              unfold kr_ok1
              first
              | (rw [if_pos h59]; first | exact mm_b1 (decide_eq_true (by omega)) | exact mm_b0 (fun hq => absurd (of_decide_eq_true hq) (by omega)))
              | (rw [if_neg h59, if_pos h87]; first | exact mm_b1 (decide_eq_true (by omega)) | exact mm_b0 (fun hq => absurd (of_decide_eq_true hq) (by omega)))
              | (rw [if_neg h59, if_neg h87]; first | exact mm_b_congr decide_eq_true_iff.symm | exact mm_b1 (decide_eq_true (by omega)) | exact mm_b0 (fun hq => absurd (of_decide_eq_true hq) (by omega)))
        · refine mm_iload dX9_holds_62 rfl rfl ?_
          refine mm_iload dX9_holds_64 rfl rfl ?_
          refine mm_icle dX9_holds_66 (by omega) (by omega) (fun h66 => ?_) (fun h66 => ?_)
          · refine mm_iconst dX9_holds_73 rfl ?_
            refine mm_goto dX9_holds_74 ?_
            refine nxt _ _ ?_
            unfold kr_ok1
            first
            | (rw [if_pos h59]; first | exact mm_b1 (decide_eq_true (by omega)) | exact mm_b0 (fun hq => absurd (of_decide_eq_true hq) (by omega)))
            | (rw [if_neg h59, if_pos h87]; first | exact mm_b1 (decide_eq_true (by omega)) | exact mm_b0 (fun hq => absurd (of_decide_eq_true hq) (by omega)))
            | (rw [if_neg h59, if_neg h87]; first | exact mm_b_congr decide_eq_true_iff.symm | exact mm_b1 (decide_eq_true (by omega)) | exact mm_b0 (fun hq => absurd (of_decide_eq_true hq) (by omega)))
          · refine mm_iconst dX9_holds_69 rfl ?_
            refine mm_goto dX9_holds_70 ?_
            refine nxt _ _ ?_
            unfold kr_ok1
            first
            | (rw [if_pos h59]; first | exact mm_b1 (decide_eq_true (by omega)) | exact mm_b0 (fun hq => absurd (of_decide_eq_true hq) (by omega)))
            | (rw [if_neg h59, if_pos h87]; first | exact mm_b1 (decide_eq_true (by omega)) | exact mm_b0 (fun hq => absurd (of_decide_eq_true hq) (by omega)))
            | (rw [if_neg h59, if_neg h87]; first | exact mm_b_congr decide_eq_true_iff.symm | exact mm_b1 (decide_eq_true (by omega)) | exact mm_b0 (fun hq => absurd (of_decide_eq_true hq) (by omega)))
    · have ei : i = (kc_C M l).toNat := by omega
      refine mm_iload dX9_holds_3 rfl rfl ?_
      refine mm_aload_n dX9_holds_5 rfl rfl ?_
      refine mm_getr dX9_holds_6 rfl fl_X9_11 (c := 18) rfl (by decide) rfl rfl (hR.at (c := 18) (i := 2) (v := 20) rfl (by decide)) ?_
      refine mm_iload_n dX9_holds_9 rfl rfl ?_
      refine mm_ialk (k0 := (11 * l)) dX9_holds_10 rfl (c := 19) rfl (by decide) rfl (by omega) (by omega) ?_
      rw [eC]
      refine mm_icge dX9_holds_11 (by omega) (by omega) (fun h11 => ?_) (fun h11 => ?_)
      · refine mm_iconst dX9_holds_132 rfl ?_
        refine mm_zret dX9_holds_133 rfl rfl (Or.inr rfl) ?_
        exact mm_fin (mm_b1 (by unfold kr_ln; rw [← ei]; exact hh)) rfl
      · exfalso; omega
  refine mm_iconst dX9_holds_0 rfl ?_
  refine mm_istore dX9_holds_1 rfl (Nat.le_of_ble_eq_true rfl) rfl ?_
  exact loop 0 (Nat.zero_le _) _ _ _ _ rfl
theorem c_X9_actFor (hR : mm_Rf M) (hK : mm_CK M) (hC : mm_CR M) (hs : ks_st (M 4) s) (hw : 0 ≤ w ∧ w ≤ 60) :
    mm_Fn X Y_X9_actFor 243 [(2, 19), (0, s), (0, w)] M (0, kr_tell (M 4) s w (M 18 1) (kc_C M) (kc_Q M) (kc_H M) (kc_B M) (kc_D M)) M := by
  have hL := hC.1
  refine mm_startF (ls := [(2, 19), (0, s), (0, w), (9, 0)]) rfl ?_
  have loop : ∀ i : Nat, i ≤ (M 18 1).toNat → kr_act (kr_ln (M 4) s w (kc_C M) (kc_Q M) (kc_H M) (kc_B M)) (kc_D M) i ((M 18 1).toNat - i) = kr_tell (M 4) s w (M 18 1) (kc_C M) (kc_Q M) (kc_H M) (kc_B M) (kc_D M) →
      mm_J X Y_X9_actFor 243 243 243 2 [(2, 19), (0, s), (0, w), (0, (i : Int))] [] M (fun r' M'' => r' = (0, kr_tell (M 4) s w (M 18 1) (kc_C M) (kc_Q M) (kc_H M) (kc_B M) (kc_D M)) ∧ M'' = M) := by
    refine mm_lp ?_
    intro i hi ih he
    by_cases hlt : i < (M 18 1).toNat
    · have hq := hC.2 i (by omega)
      have eD : M 19 (11 * i + 10) = kc_D M i := rfl
      have en : (M 18 1).toNat - i = ((M 18 1).toNat - (i + 1)) + 1 := by omega
      rw [en, kr_act] at he
      refine mm_iload_n dX9_actFor_2 rfl rfl ?_
      refine mm_aload_n dX9_actFor_3 rfl rfl ?_
      refine mm_get (kd := 0) dX9_actFor_4 rfl fl_X9_22 (c := 18) rfl (by decide) rfl rfl ?_
      refine mm_icge dX9_actFor_7 (by omega) (by omega) (fun h7 => ?_) (fun h7 => ?_)
      · exfalso; omega
      · refine mm_aload_n dX9_actFor_10 rfl rfl ?_
        refine mm_iload_n dX9_actFor_11 rfl rfl ?_
        refine mm_bipush dX9_actFor_12 rfl (by decide) ?_
        refine mm_imul dX9_actFor_14 rfl ?_
        refine mm_iload_n dX9_actFor_15 rfl rfl ?_
        refine mm_iload_n dX9_actFor_16 rfl rfl ?_
        refine mm_V3i dX9_actFor_17 rfl lk_X9_94 (c := 18) rfl (by decide) rfl (by simp) (by simp) (by simp) rfl rfl rfl (c_X9_holds hR hK hs hw (by omega) hq.1 hq.2.1) ?_
        refine mm_ifeqb dX9_actFor_20 (fun h20 => ?_) (fun h20 => ?_)
        · refine mm_iinc dX9_actFor_36 rfl rfl (Nat.le_of_ble_eq_true rfl) rfl ?_
          refine mm_goto dX9_actFor_39 ?_
          exact ih hlt (by rw [← he, if_neg h20])
        · refine mm_aload_n dX9_actFor_23 rfl rfl ?_
          refine mm_getr dX9_actFor_24 rfl fl_X9_11 (c := 18) rfl (by decide) rfl rfl (hR.at (c := 18) (i := 2) (v := 20) rfl (by decide)) ?_
          refine mm_iload_n dX9_actFor_27 rfl rfl ?_
          refine mm_bipush dX9_actFor_28 rfl (by decide) ?_
          refine mm_imul dX9_actFor_30 rfl ?_
          refine mm_bipush dX9_actFor_31 rfl (by decide) ?_
          refine mm_iadd dX9_actFor_33 rfl ?_
          refine mm_ialk (k0 := (11 * i + 10)) dX9_actFor_34 rfl (c := 19) rfl (by decide) rfl (by omega) (by omega) ?_
          rw [eD]
          refine mm_iret dX9_actFor_35 rfl rfl ?_
          exact mm_fin (by rw [← he, if_pos h20]) rfl
    · rw [show (M 18 1).toNat - i = 0 by omega, kr_act] at he
      refine mm_iload_n dX9_actFor_2 rfl rfl ?_
      refine mm_aload_n dX9_actFor_3 rfl rfl ?_
      refine mm_get (kd := 0) dX9_actFor_4 rfl fl_X9_22 (c := 18) rfl (by decide) rfl rfl ?_
      refine mm_icge dX9_actFor_7 (by omega) (by omega) (fun h7 => ?_) (fun h7 => ?_)
      · refine mm_iconst dX9_actFor_42 rfl ?_
        refine mm_iret dX9_actFor_43 rfl rfl ?_
        exact mm_fin he rfl
      · exfalso; omega
  refine mm_iconst dX9_actFor_0 rfl ?_
  refine mm_istore_n dX9_actFor_1 rfl (Nat.le_of_ble_eq_true rfl) rfl ?_
  exact loop 0 (Nat.zero_le _) rfl
theorem c_X13_holds (hR : mm_Rf M) (hK : mm_KV (mm_rk M)) (hs : ks_st (mm_rk M) s) (hw : 0 ≤ w ∧ w ≤ 60) (hl : l < 8) (hC : 0 ≤ kq_C M l ∧ kq_C M l ≤ 3) (hv : ∀ c : Nat, (c : Int) < kq_C M l → mm_R (kq_Q M l c) ∧ mm_R (kq_H M l c) ∧ mm_R (kq_B M l c)) :
    mm_Fn X Y_X13_holds 243 [(2, 184), (0, (l : Int)), (0, s), (0, w)] M (0, mm_b (kr_ln (mm_rk M) s w (kq_C M) (kq_Q M) (kq_H M) (kq_B M) l = true)) M := by
  refine mm_startF (ls := [(2, 184), (0, (l : Int)), (0, s), (0, w), (9, 0), (9, 0)]) rfl ?_
  have h0 : ks_ac (mm_rk M) 0 := by
    obtain ⟨-, -, -, -, -, -, -, -, -, -, h10, -⟩ := id hK
    exact ⟨Int.le_refl 0, by omega⟩
  have loop : ∀ i : Nat, i ≤ (kq_C M l).toNat → ∀ l5 : mm_V, kr_h (fun c => kr_ok1 (mm_rk M) s w (kq_Q M l c) (kq_H M l c) (kq_B M l c)) i = true →
      mm_J X Y_X13_holds 243 243 243 5 [(2, 184), (0, (l : Int)), (0, s), (0, w), (0, ((3 * l + i : Nat) : Int)), l5] [] M (fun r' M'' => r' = (0, mm_b (kr_ln (mm_rk M) s w (kq_C M) (kq_Q M) (kq_H M) (kq_B M) l = true)) ∧ M'' = M) := by
    refine mm_lp ?_
    intro i hi ih l5 hh
    have eC : M 196 l = kq_C M l := rfl
    by_cases hlt : i < (kq_C M l).toNat
    · have hvi := hv i (by omega)
      have hv1 := hvi.1
      have hv2 := hvi.2.1
      have hv3 := hvi.2.2
      have hvb := kr_valb hK hs hw (q := kq_Q M l i)
      have eQ : M 193 (3 * l + i) = kq_Q M l i := rfl
      have eH : M 194 (3 * l + i) = kq_H M l i := rfl
      have eB : M 195 (3 * l + i) = kq_B M l i := rfl
      have fal : kr_ok1 (mm_rk M) s w (kq_Q M l i) (kq_H M l i) (kq_B M l i) = false → ∀ l5 : mm_V, mm_J X Y_X13_holds 243 243 243 167 [(2, 184), (0, (l : Int)), (0, s), (0, w), (0, ((3 * l + i : Nat) : Int)), l5] [] M (fun r' M'' => r' = (0, mm_b (kr_ln (mm_rk M) s w (kq_C M) (kq_Q M) (kq_H M) (kq_B M) l = true)) ∧ M'' = M) := by
        intro hf l5
        refine mm_iconst dX13_holds_167 rfl ?_
        refine mm_zret dX13_holds_168 rfl rfl (Or.inl rfl) ?_
        refine mm_fin (mm_b0 ?_) rfl
        unfold kr_ln
        rw [kr_h_f (i := i) hf hlt]
        decide
      have tru : kr_ok1 (mm_rk M) s w (kq_Q M l i) (kq_H M l i) (kq_B M l i) = true → ∀ l5 : mm_V, mm_J X Y_X13_holds 243 243 243 169 [(2, 184), (0, (l : Int)), (0, s), (0, w), (0, ((3 * l + i : Nat) : Int)), l5] [] M (fun r' M'' => r' = (0, mm_b (kr_ln (mm_rk M) s w (kq_C M) (kq_Q M) (kq_H M) (kq_B M) l = true)) ∧ M'' = M) := by
        intro hf l5
        refine mm_iinc dX13_holds_169 rfl rfl (Nat.le_of_ble_eq_true rfl) rfl ?_
        refine mm_goto dX13_holds_172 ?_
        have := ih hlt l5 (kr_h_s hh hf)
        rw [show (((3 * l + (i + 1)) : Nat) : Int) = ((3 * l + i : Nat) : Int) + 1 by omega] at this
        exact this
      have nxt : ∀ (z : Int) (l5 : mm_V), z = kr_val (mm_rk M) s w (kq_Q M l i) → mm_J X Y_X13_holds 243 243 243 102 [(2, 184), (0, (l : Int)), (0, s), (0, w), (0, ((3 * l + i : Nat) : Int)), l5] [(0, z)] M (fun r' M'' => r' = (0, mm_b (kr_ln (mm_rk M) s w (kq_C M) (kq_Q M) (kq_H M) (kq_B M) l = true)) ∧ M'' = M) := by
        intro z l5 hz
        subst hz
        refine mm_istore dX13_holds_102 rfl (Nat.le_of_ble_eq_true rfl) rfl ?_
        refine mm_aload_n dX13_holds_104 rfl rfl ?_
        refine mm_getr dX13_holds_105 rfl fl_X13_188 (c := 183) rfl (by decide) rfl rfl (hR.at (c := 183) (i := 23) (v := 195) rfl (by decide)) ?_
        refine mm_iload dX13_holds_108 rfl rfl ?_
        refine mm_ialk (k0 := (3 * l + i)) dX13_holds_110 rfl (c := 194) rfl (by decide) rfl (by omega) (by omega) ?_
        rw [eH]
        refine mm_ifne dX13_holds_111 (by omega) (fun h111 => ?_) (fun h111 => ?_)
        · refine mm_aload_n dX13_holds_129 rfl rfl ?_
          refine mm_getr dX13_holds_130 rfl fl_X13_188 (c := 183) rfl (by decide) rfl rfl (hR.at (c := 183) (i := 23) (v := 195) rfl (by decide)) ?_
          refine mm_iload dX13_holds_133 rfl rfl ?_
          refine mm_ialk (k0 := (3 * l + i)) dX13_holds_135 rfl (c := 194) rfl (by decide) rfl (by omega) (by omega) ?_
          rw [eH]
          refine mm_iconst dX13_holds_136 rfl ?_
          refine mm_icne dX13_holds_137 (by omega) (by omega) (fun h137 => ?_) (fun h137 => ?_)
          · refine mm_iload dX13_holds_155 rfl rfl ?_
            refine mm_aload_n dX13_holds_157 rfl rfl ?_
            refine mm_getr dX13_holds_158 rfl fl_X13_191 (c := 183) rfl (by decide) rfl rfl (hR.at (c := 183) (i := 24) (v := 196) rfl (by decide)) ?_
            refine mm_iload dX13_holds_161 rfl rfl ?_
            refine mm_ialk (k0 := (3 * l + i)) dX13_holds_163 rfl (c := 195) rfl (by decide) rfl (by omega) (by omega) ?_
            rw [eB]
            refine mm_iceq dX13_holds_164 (by omega) (by omega) (fun h164 => ?_) (fun h164 => ?_)
            · refine tru ?_ _
              unfold kr_ok1
              first
              | (rw [if_pos h111]; exact decide_eq_true (by omega))
              | (rw [if_neg h111, if_pos h137]; exact decide_eq_true (by omega))
              | (rw [if_neg h111, if_neg h137]; exact decide_eq_true (by omega))
            · refine fal ?_ _
              unfold kr_ok1
              first
              | (rw [if_pos h111]; exact decide_eq_false (by omega))
              | (rw [if_neg h111, if_pos h137]; exact decide_eq_false (by omega))
              | (rw [if_neg h111, if_neg h137]; exact decide_eq_false (by omega))
          · refine mm_iload dX13_holds_140 rfl rfl ?_
            refine mm_aload_n dX13_holds_142 rfl rfl ?_
            refine mm_getr dX13_holds_143 rfl fl_X13_191 (c := 183) rfl (by decide) rfl rfl (hR.at (c := 183) (i := 24) (v := 196) rfl (by decide)) ?_
            refine mm_iload dX13_holds_146 rfl rfl ?_
            refine mm_ialk (k0 := (3 * l + i)) dX13_holds_148 rfl (c := 195) rfl (by decide) rfl (by omega) (by omega) ?_
            rw [eB]
            refine mm_iclt dX13_holds_149 (by omega) (by omega) (fun h149 => ?_) (fun h149 => ?_)
            · refine tru ?_ _
              unfold kr_ok1
              first
              | (rw [if_pos h111]; exact decide_eq_true (by omega))
              | (rw [if_neg h111, if_pos h137]; exact decide_eq_true (by omega))
              | (rw [if_neg h111, if_neg h137]; exact decide_eq_true (by omega))
            · refine mm_goto dX13_holds_152 ?_
              refine fal ?_ _
              unfold kr_ok1
              first
              | (rw [if_pos h111]; exact decide_eq_false (by omega))
              | (rw [if_neg h111, if_pos h137]; exact decide_eq_false (by omega))
              | (rw [if_neg h111, if_neg h137]; exact decide_eq_false (by omega))
        · refine mm_iload dX13_holds_114 rfl rfl ?_
          refine mm_aload_n dX13_holds_116 rfl rfl ?_
          refine mm_getr dX13_holds_117 rfl fl_X13_191 (c := 183) rfl (by decide) rfl rfl (hR.at (c := 183) (i := 24) (v := 196) rfl (by decide)) ?_
          refine mm_iload dX13_holds_120 rfl rfl ?_
          refine mm_ialk (k0 := (3 * l + i)) dX13_holds_122 rfl (c := 195) rfl (by decide) rfl (by omega) (by omega) ?_
          rw [eB]
          refine mm_icgt dX13_holds_123 (by omega) (by omega) (fun h123 => ?_) (fun h123 => ?_)
          · refine tru ?_ _
            unfold kr_ok1
            first
            | (rw [if_pos h111]; exact decide_eq_true (by omega))
            | (rw [if_neg h111, if_pos h137]; exact decide_eq_true (by omega))
            | (rw [if_neg h111, if_neg h137]; exact decide_eq_true (by omega))
          · refine mm_goto dX13_holds_126 ?_
            refine fal ?_ _
            unfold kr_ok1
            first
            | (rw [if_pos h111]; exact decide_eq_false (by omega))
            | (rw [if_neg h111, if_pos h137]; exact decide_eq_false (by omega))
            | (rw [if_neg h111, if_neg h137]; exact decide_eq_false (by omega))
      refine mm_iload dX13_holds_5 rfl rfl ?_
      refine mm_iconst dX13_holds_7 rfl ?_
      refine mm_iload_n dX13_holds_8 rfl rfl ?_
      refine mm_imul dX13_holds_9 rfl ?_
      refine mm_aload_n dX13_holds_10 rfl rfl ?_
      refine mm_getr dX13_holds_11 rfl fl_X13_182 (c := 183) rfl (by decide) rfl rfl (hR.at (c := 183) (i := 25) (v := 197) rfl (by decide)) ?_
      refine mm_iload_n dX13_holds_14 rfl rfl ?_
      refine mm_ialk (k0 := l) dX13_holds_15 rfl (c := 196) rfl (by decide) rfl (by omega) (by omega) ?_
      rw [eC]
      refine mm_iadd dX13_holds_16 rfl ?_
      refine mm_icge dX13_holds_17 (by omega) (by omega) (fun h17 => ?_) (fun h17 => ?_)
      · exfalso; omega
      · refine mm_aload_n dX13_holds_20 rfl rfl ?_
        refine mm_getr dX13_holds_21 rfl fl_X13_185 (c := 183) rfl (by decide) rfl rfl (hR.at (c := 183) (i := 22) (v := 194) rfl (by decide)) ?_
        refine mm_iload dX13_holds_24 rfl rfl ?_
        refine mm_ialk (k0 := (3 * l + i)) dX13_holds_26 rfl (c := 193) rfl (by decide) rfl (by omega) (by omega) ?_
        rw [eQ]
        refine mm_ifne dX13_holds_27 (by omega) (fun h27 => ?_) (fun h27 => ?_)
        · refine mm_aload_n dX13_holds_40 rfl rfl ?_
          refine mm_getr dX13_holds_41 rfl fl_X13_185 (c := 183) rfl (by decide) rfl rfl (hR.at (c := 183) (i := 22) (v := 194) rfl (by decide)) ?_
          refine mm_iload dX13_holds_44 rfl rfl ?_
          refine mm_ialk (k0 := (3 * l + i)) dX13_holds_46 rfl (c := 193) rfl (by decide) rfl (by omega) (by omega) ?_
          rw [eQ]
          refine mm_iconst dX13_holds_47 rfl ?_
          refine mm_icne dX13_holds_48 (by omega) (by omega) (fun h48 => ?_) (fun h48 => ?_)
          · refine mm_aload_n dX13_holds_59 rfl rfl ?_
            refine mm_getr dX13_holds_60 rfl fl_X13_185 (c := 183) rfl (by decide) rfl rfl (hR.at (c := 183) (i := 22) (v := 194) rfl (by decide)) ?_
            refine mm_iload dX13_holds_63 rfl rfl ?_
            refine mm_ialk (k0 := (3 * l + i)) dX13_holds_65 rfl (c := 193) rfl (by decide) rfl (by omega) (by omega) ?_
            rw [eQ]
            refine mm_iconst dX13_holds_66 rfl ?_
            refine mm_icne dX13_holds_67 (by omega) (by omega) (fun h67 => ?_) (fun h67 => ?_)
            · refine mm_aload_n dX13_holds_78 rfl rfl ?_
              refine mm_getr dX13_holds_79 rfl fl_X13_185 (c := 183) rfl (by decide) rfl rfl (hR.at (c := 183) (i := 22) (v := 194) rfl (by decide)) ?_
              refine mm_iload dX13_holds_82 rfl rfl ?_
              refine mm_ialk (k0 := (3 * l + i)) dX13_holds_84 rfl (c := 193) rfl (by decide) rfl (by omega) (by omega) ?_
              rw [eQ]
              refine mm_iconst dX13_holds_85 rfl ?_
              refine mm_icne dX13_holds_86 (by omega) (by omega) (fun h86 => ?_) (fun h86 => ?_)
              · refine mm_aload_n dX13_holds_97 rfl rfl ?_
                refine mm_iload_n dX13_holds_98 rfl rfl ?_
                refine mm_V1i dX13_holds_99 rfl lk_X13_432 (c := 183) rfl (by decide) rfl (by simp) rfl rfl rfl (c_X13_rowOf hR hK hs) ?_
                refine nxt _ _ ?_
                unfold kr_val
                first
                | (rw [if_pos h27]; done)
                | (rw [if_neg h27, if_pos h48]; done)
                | (rw [if_neg h27, if_neg h48, if_pos h67]; done)
                | (rw [if_neg h27, if_neg h48, if_neg h67, if_pos h86]; done)
                | (rw [if_neg h27, if_neg h48, if_neg h67, if_neg h86]; done)
              · refine mm_aload_n dX13_holds_89 rfl rfl ?_
                refine mm_iload_n dX13_holds_90 rfl rfl ?_
                refine mm_V1i dX13_holds_91 rfl lk_X13_438 (c := 183) rfl (by decide) rfl (by simp) rfl rfl rfl (c_X13_columnOf hR hK hs) ?_
                refine mm_goto dX13_holds_94 ?_
                refine nxt _ _ ?_
                unfold kr_val
                first
                | (rw [if_pos h27]; done)
                | (rw [if_neg h27, if_pos h48]; done)
                | (rw [if_neg h27, if_neg h48, if_pos h67]; done)
                | (rw [if_neg h27, if_neg h48, if_neg h67, if_pos h86]; done)
                | (rw [if_neg h27, if_neg h48, if_neg h67, if_neg h86]; done)
            · refine mm_aload_n dX13_holds_70 rfl rfl ?_
              refine mm_iload_n dX13_holds_71 rfl rfl ?_
              refine mm_V1i dX13_holds_72 rfl lk_X13_429 (c := 183) rfl (by decide) rfl (by simp) rfl rfl rfl (c_X13_ropeOf hR hK hs) ?_
              refine mm_goto dX13_holds_75 ?_
              refine nxt _ _ ?_
              unfold kr_val
              first
              | (rw [if_pos h27]; done)
              | (rw [if_neg h27, if_pos h48]; done)
              | (rw [if_neg h27, if_neg h48, if_pos h67]; done)
              | (rw [if_neg h27, if_neg h48, if_neg h67, if_pos h86]; done)
              | (rw [if_neg h27, if_neg h48, if_neg h67, if_neg h86]; done)
          · refine mm_aload_n dX13_holds_51 rfl rfl ?_
            refine mm_iload_n dX13_holds_52 rfl rfl ?_
            refine mm_V1i dX13_holds_53 rfl lk_X13_435 (c := 183) rfl (by decide) rfl (by simp) rfl rfl rfl (c_X13_heightOf hR hK hs) ?_
            refine mm_goto dX13_holds_56 ?_
            refine nxt _ _ ?_
            unfold kr_val
            first
            | (rw [if_pos h27]; done)
            | (rw [if_neg h27, if_pos h48]; done)
            | (rw [if_neg h27, if_neg h48, if_pos h67]; done)
            | (rw [if_neg h27, if_neg h48, if_neg h67, if_pos h86]; done)
            | (rw [if_neg h27, if_neg h48, if_neg h67, if_neg h86]; done)
        · refine mm_aload_n dX13_holds_30 rfl rfl ?_
          refine mm_iload_n dX13_holds_31 rfl rfl ?_
          refine mm_iconst dX13_holds_32 rfl ?_
          refine mm_iload_n dX13_holds_33 rfl rfl ?_
          refine mm_V3i dX13_holds_34 rfl lk_X13_497 (c := 183) rfl (by decide) rfl (by simp) (by simp) (by simp) rfl rfl rfl (c_X13_pullOf hR hK hs h0 (by omega)) ?_
          refine mm_goto dX13_holds_37 ?_
          refine nxt _ _ ?_
          unfold kr_val
          first
          | (rw [if_pos h27]; done)
          | (rw [if_neg h27, if_pos h48]; done)
          | (rw [if_neg h27, if_neg h48, if_pos h67]; done)
          | (rw [if_neg h27, if_neg h48, if_neg h67, if_pos h86]; done)
          | (rw [if_neg h27, if_neg h48, if_neg h67, if_neg h86]; done)
    · have ei : i = (kq_C M l).toNat := by omega
      refine mm_iload dX13_holds_5 rfl rfl ?_
      refine mm_iconst dX13_holds_7 rfl ?_
      refine mm_iload_n dX13_holds_8 rfl rfl ?_
      refine mm_imul dX13_holds_9 rfl ?_
      refine mm_aload_n dX13_holds_10 rfl rfl ?_
      refine mm_getr dX13_holds_11 rfl fl_X13_182 (c := 183) rfl (by decide) rfl rfl (hR.at (c := 183) (i := 25) (v := 197) rfl (by decide)) ?_
      refine mm_iload_n dX13_holds_14 rfl rfl ?_
      refine mm_ialk (k0 := l) dX13_holds_15 rfl (c := 196) rfl (by decide) rfl (by omega) (by omega) ?_
      rw [eC]
      refine mm_iadd dX13_holds_16 rfl ?_
      refine mm_icge dX13_holds_17 (by omega) (by omega) (fun h17 => ?_) (fun h17 => ?_)
      · refine mm_iconst dX13_holds_175 rfl ?_
        refine mm_zret dX13_holds_176 rfl rfl (Or.inr rfl) ?_
        exact mm_fin (mm_b1 (by unfold kr_ln; rw [← ei]; exact hh)) rfl
      · exfalso; omega
  refine mm_iconst dX13_holds_0 rfl ?_
  refine mm_iload_n dX13_holds_1 rfl rfl ?_
  refine mm_imul dX13_holds_2 rfl ?_
  refine mm_istore dX13_holds_3 rfl (Nat.le_of_ble_eq_true rfl) rfl ?_
  have := loop 0 (Nat.zero_le _) (9, 0) rfl
  rw [show (((3 * l + 0) : Nat) : Int) = 3 * (l : Int) by omega] at this
  exact this
end
end
/-! 75.fly -/
section
/-! ===== flights ===== -/
theorem ks_in_eq {K : Nat → Int} {s a : Int} (ha : 0 ≤ a) : ks_in K s a = 15 * (a / 15) + 3 * (if ks_cm K s (ks_mv a) then ks_mv a else 0) + (if ks_cr K s (ks_dr a) then ks_dr a else 0) := by
  unfold ks_in
  obtain ⟨m, hm⟩ : ∃ m, m = ks_mv a := ⟨_, rfl⟩
  obtain ⟨d, hd⟩ : ∃ d, d = ks_dr a := ⟨_, rfl⟩
  have e : a = 15 * (a / 15) + 3 * m + d := by rw [hm, hd]; unfold ks_mv ks_dr; omega
  rw [← hm, ← hd]
  by_cases c : ks_cm K s m <;> by_cases c2 : ks_cr K s d
  · rw [if_pos c, if_pos c2, if_pos c, if_pos c2]; omega
  · rw [if_pos c, if_neg c2, if_pos c, if_neg c2]; omega
  · rw [if_neg c, if_pos c2, if_neg c, if_pos c2]; omega
  · rw [if_neg c, if_neg c2, if_neg c, if_neg c2]; omega
theorem ks_in_parts {K : Nat → Int} {s a : Int} (ha : 0 ≤ a) : ks_mv (ks_in K s a) = (if ks_cm K s (ks_mv a) then ks_mv a else 0) ∧ ks_dr (ks_in K s a) = (if ks_cr K s (ks_dr a) then ks_dr a else 0) ∧ ks_in K s a / 15 = a / 15 ∧ 0 ≤ ks_in K s a := by
  rw [ks_in_eq ha]
  have hm := ks_mvb ha
  have hd := ks_drb ha
  obtain ⟨m, hm'⟩ : ∃ m, m = (if ks_cm K s (ks_mv a) then ks_mv a else 0) := ⟨_, rfl⟩
  obtain ⟨d, hd'⟩ : ∃ d, d = (if ks_cr K s (ks_dr a) then ks_dr a else 0) := ⟨_, rfl⟩
  have bm : 0 ≤ m ∧ m ≤ 4 := by rw [hm']; split <;> omega
  have bd : 0 ≤ d ∧ d ≤ 2 := by rw [hd']; split <;> omega
  rw [← hm', ← hd']
  clear hm' hd' hm hd
  unfold ks_mv ks_dr
  omega
theorem ks_in_can {K : Nat → Int} {s a : Int} (ha : 0 ≤ a) : ks_can K s (ks_in K s a) := by
  have h := ks_in_parts (K := K) (s := s) ha
  unfold ks_can
  rw [h.1, h.2.1]
  refine ⟨?_, ?_⟩
  · split
    · assumption
    · exact ⟨fun q => absurd q (by decide), fun q => absurd q (by decide), fun q => absurd q (by decide), fun q => absurd q (by decide)⟩
  · split
    · assumption
    · exact ⟨fun q => absurd q (by decide), fun q => absurd q (by decide)⟩
theorem ks_in_ac {K : Nat → Int} {s a : Int} (ha : ks_ac K a) : ks_ac K (ks_in K s a) := by
  have h := ks_in_parts (K := K) (s := s) ha.1
  have h1 := ha.1
  have h2 := ha.2
  have h3 := h.2.2.1
  have h4 := h.2.2.2
  exact ⟨h4, by omega⟩
/-- the class's rules, the reference's rules -/
def kc_T (M : mm_M) (s w : Int) : Int := kr_tell (M 4) s w (M 18 1) (kc_C M) (kc_Q M) (kc_H M) (kc_B M) (kc_D M)
def kq_T (M : mm_M) (s w : Int) : Int := kr_tell (mm_rk M) s w (M 183 20) (kq_C M) (kq_Q M) (kq_H M) (kq_B M) (kq_D M)
theorem kc_T_ac {M : mm_M} (hK : mm_KV (M 4)) (hC : mm_CR M) {s w : Int} : ks_ac (M 4) (kc_T M s w) := kr_act_ac hK (fun j hj => (hC.2 j (by have := hC.1.1; omega)).2.2)
theorem kq_T_ac {M : mm_M} (hK : mm_KV (mm_rk M)) (hC : mm_RR M) {s w : Int} : ks_ac (mm_rk M) (kq_T M s w) := kr_act_ac hK (fun j hj => (hC.2 j (by have := hC.1.1; omega)).2.2)
theorem mm_ag.cr {M N : mm_M} (h : mm_ag M N) (hC : mm_CR M) : mm_CR N := by
  unfold mm_CR kc_C kc_Q kc_H kc_B kc_D at hC ⊢
  rw [h 18 (by decide) (by decide), h 19 (by decide) (by decide), h 4 (by decide) (by decide)]
  exact hC
theorem mm_ag.ct {M N : mm_M} (h : mm_ag M N) : kc_T N = kc_T M := by
  funext s w
  unfold kc_T kc_C kc_Q kc_H kc_B kc_D
  rw [h 18 (by decide) (by decide), h 19 (by decide) (by decide), h 4 (by decide) (by decide)]
/-- a flight: the state ahead of tick i, the act and the pull of tick i -/
def kfl_S (K : Nat → Int) (T : Int → Int → Int) (W : Int → Nat → Int) (s : Int) : Nat → Int
  | 0 => s
  | i + 1 => ks_to K (kfl_S K T W s i) (ks_in K (kfl_S K T W s i) (T (kfl_S K T W s i) (W (kfl_S K T W s i) i)))
def kfl_a (K : Nat → Int) (T : Int → Int → Int) (W : Int → Nat → Int) (s : Int) (i : Nat) : Int := ks_in K (kfl_S K T W s i) (T (kfl_S K T W s i) (W (kfl_S K T W s i) i))
def kfl_p (K : Nat → Int) (T : Int → Int → Int) (W : Int → Nat → Int) (s : Int) (i : Nat) : Int := ks_p K (kfl_S K T W s i) (kfl_a K T W s i) (W (kfl_S K T W s i) i)
def kfl_g (K : Nat → Int) (T : Int → Int → Int) (W : Int → Nat → Int) (s : Int) (i : Nat) : Int := ks_w K (ks_dr (kfl_a K T W s i)) (kfl_p K T W s i)
def kfl_ok (K : Nat → Int) (T : Int → Int → Int) (W : Int → Nat → Int) (s : Int) (i : Nat) : Prop := ks_fate K (kfl_p K T W s i) = 0
/-- the wind in a state at a tick of a flight from an hour on -/
def kfl_W (L : Nat → Int) (K : Nat → Int) (h e : Int) (s : Int) (i : Nat) : Int := ks_wi L K s (if e = 0 then h else (h + (i : Int) / e) % 24)
theorem kfl_st {K : Nat → Int} (hK : mm_KV K) {T : Int → Int → Int} {W : Int → Nat → Int} (hT : ∀ s w, ks_ac K (T s w)) {s : Int} (hs : ks_st K s) : ∀ i, ks_st K (kfl_S K T W s i)
  | 0 => hs
  | i + 1 => ks_to_st hK (kfl_st hK hT hs i) (ks_in_can (hT _ _).1)
/-- a bound of work -/
theorem ks_wab {K : Nat → Int} (h : mm_KV K) {d p : Int} (hp : 0 ≤ p ∧ p ≤ 1425600) : -5800000 ≤ ks_w K d p ∧ ks_w K d p ≤ 5800000 := by
  have q := ks_wb h hp
  obtain ⟨-, -, -, -, -, -, h6, -⟩ := id h
  unfold ks_w
  split
  · omega
  · split <;> omega
section
variable {X : mm_X} {M N : mm_M} {s w h e n : Int}
theorem g_X9_actFor (hR : mm_Rf N) (hG : mm_ag M N) (hK : mm_CK M) (hC : mm_CR M) (hs : ks_st (M 4) s) (hw : 0 ≤ w ∧ w ≤ 60) : mm_Fn X Y_X9_actFor 243 [(2, 19), (0, s), (0, w)] N (0, kc_T M s w) N := by
  have e4 : N 4 = M 4 := hG 4 (by decide) (by decide)
  rw [← hG.ct]
  rw [← e4] at hs
  exact c_X9_actFor hR (hG.ck hK) (hG.cr hC) hs hw
theorem c_X2_flyTick (hR : mm_Rf M) (hK : mm_CK M) (hC : mm_CR M) (hs : ks_st (M 4) (M 139 7)) (hw : 0 ≤ w ∧ w ≤ 60) (hd : 0 ≤ M 139 4 ∧ M 139 4 < 500) :
    mm_C X Y_X2_flyTick 243 243 [(2, 140), (0, w)] M (fun r M' => r = (3, 0) ∧ mm_Rf M' ∧ mm_ag M M' ∧ (∀ a, a ≠ 139 → a ≠ 140 → M' a = M a) ∧ M' 139 3 = M 139 3 ∧
      M' 139 5 = ks_fate (M 4) (ks_p (M 4) (M 139 7) (ks_in (M 4) (M 139 7) (kc_T M (M 139 7) w)) w) ∧
      (M' 139 5 = 0 → M' 139 6 = M 139 6 + ks_w (M 4) (ks_dr (ks_in (M 4) (M 139 7) (kc_T M (M 139 7) w))) (ks_p (M 4) (M 139 7) (ks_in (M 4) (M 139 7) (kc_T M (M 139 7) w)) w) ∧
        M' 139 7 = ks_to (M 4) (M 139 7) (ks_in (M 4) (M 139 7) (kc_T M (M 139 7) w)) ∧ M' 139 4 = M 139 4 + 1 ∧ M' 140 = mm_up M 140 (M 139 4).toNat (ks_in (M 4) (M 139 7) (kc_T M (M 139 7) w)) 140) ∧
      (M' 139 5 ≠ 0 → M' 139 6 = M 139 6 ∧ M' 139 7 = M 139 7 ∧ M' 139 4 = M 139 4 ∧ M' 140 = M 140)) := by
  have hG := mm_ag.rf M
  have hT := kc_T_ac hK.1 hC (s := M 139 7) (w := w)
  have hI := ks_in_ac (s := M 139 7) hT
  have hI2 := ks_in_can (K := M 4) (s := M 139 7) hT.1
  obtain ⟨a, ha⟩ : ∃ a, a = ks_in (M 4) (M 139 7) (kc_T M (M 139 7) w) := ⟨_, rfl⟩
  rw [← ha] at hI hI2 ⊢
  have hslb := ks_slb hK.1 hI
  have hI1 := hI.1
  have hp := ks_pw hK.1 (s := M 139 7) hI hw
  obtain ⟨p, hp'⟩ : ∃ p, p = ks_p (M 4) (M 139 7) a w := ⟨_, rfl⟩
  rw [← hp'] at hp ⊢
  have hfb : 0 ≤ ks_fate (M 4) p ∧ ks_fate (M 4) p ≤ 2 := by unfold ks_fate; split <;> (try split) <;> omega
  refine mm_start (ls := [(2, 140), (0, w), (9, 0), (9, 0)]) rfl ?_
  clear hI2 hT
  have hcan : ks_can (M 4) (M 139 7) a ↔ True := ⟨fun _ => trivial, fun _ => by rw [ha]; exact ks_in_can (kc_T_ac hK.1 hC).1⟩
  refine mm_aload_n dX2_flyTick_0 rfl rfl ?_
  refine mm_getr dX2_flyTick_1 rfl fl_X2_27 (c := 139) rfl (by decide) rfl rfl (hR.at (c := 139) (i := 0) (v := 4) rfl (by decide)) ?_
  refine mm_aload_n dX2_flyTick_4 rfl rfl ?_
  refine mm_get (kd := 0) dX2_flyTick_5 rfl fl_X2_53 (c := 139) rfl (by decide) rfl rfl ?_
  refine mm_aload_n dX2_flyTick_8 rfl rfl ?_
  refine mm_getr dX2_flyTick_9 rfl fl_X2_35 (c := 139) rfl (by decide) rfl rfl (hR.at (c := 139) (i := 2) (v := 19) rfl (by decide)) ?_
  refine mm_aload_n dX2_flyTick_12 rfl rfl ?_
  refine mm_get (kd := 0) dX2_flyTick_13 rfl fl_X2_53 (c := 139) rfl (by decide) rfl rfl ?_
  refine mm_iload_n dX2_flyTick_16 rfl rfl ?_
  refine mm_V2i dX2_flyTick_17 rfl lk_X2_70 (c := 18) rfl (by decide) rfl (by simp) (by simp) rfl rfl rfl (g_X9_actFor hR hG hK hC hs hw) ?_
  refine mm_V2i dX2_flyTick_20 rfl lk_X2_76 (c := 3) rfl (by decide) rfl (by simp) (by simp) rfl rfl rfl ((ha ▸ g_X4_withinStates hR hG hK hs (kc_T_ac hK.1 hC))) ?_
  refine mm_istore_n dX2_flyTick_23 rfl (Nat.le_of_ble_eq_true rfl) rfl ?_
  refine mm_aload_n dX2_flyTick_24 rfl rfl ?_
  refine mm_getr dX2_flyTick_25 rfl fl_X2_27 (c := 139) rfl (by decide) rfl rfl (hR.at (c := 139) (i := 0) (v := 4) rfl (by decide)) ?_
  refine mm_aload_n dX2_flyTick_28 rfl rfl ?_
  refine mm_get (kd := 0) dX2_flyTick_29 rfl fl_X2_53 (c := 139) rfl (by decide) rfl rfl ?_
  refine mm_iload_n dX2_flyTick_32 rfl rfl ?_
  refine mm_iload_n dX2_flyTick_33 rfl rfl ?_
  refine mm_V3i dX2_flyTick_34 rfl lk_X2_79 (c := 3) rfl (by decide) rfl (by simp) (by simp) (by simp) rfl rfl rfl ((hp' ▸ g_X4_pullOf hR hG hK hs hI (by omega))) ?_
  refine mm_istore_n dX2_flyTick_37 rfl (Nat.le_of_ble_eq_true rfl) rfl ?_
  refine mm_aload_n dX2_flyTick_38 rfl rfl ?_
  refine mm_aload_n dX2_flyTick_39 rfl rfl ?_
  refine mm_getr dX2_flyTick_40 rfl fl_X2_27 (c := 139) rfl (by decide) rfl rfl (hR.at (c := 139) (i := 0) (v := 4) rfl (by decide)) ?_
  refine mm_iload_n dX2_flyTick_43 rfl rfl ?_
  refine mm_V1i dX2_flyTick_44 rfl lk_X2_82 (c := 3) rfl (by decide) rfl (by simp) rfl rfl rfl (g_X4_fateOf hR hG hK (by omega)) ?_
  refine mm_puti dX2_flyTick_47 rfl fl_X2_47 (c := 139) rfl (by decide) rfl rfl (fun M47 hM47 => ?_)
  have hR47 : mm_Rf M47 := by rw [hM47]; exact hR.up rfl
  have hG47 : mm_ag M M47 := by rw [hM47]; exact hG.up (by decide)
  refine mm_aload_n dX2_flyTick_50 rfl rfl ?_
  refine mm_get (kd := 0) dX2_flyTick_51 rfl fl_X2_47 (c := 139) rfl (by decide) rfl rfl ?_
  obtain ⟨v51, hv51⟩ : ∃ v, v = M47 139 5 := ⟨_, rfl⟩
  rw [← hv51]
  rw [hM47, mm_up_s] at hv51
  subst hv51
  refine mm_ifne dX2_flyTick_54 (by omega) (fun h54 => ?_) (fun h54 => ?_)
  · refine mm_vret dX2_flyTick_114 rfl rfl ?_
    refine ⟨rfl, hR47, hG47, ?_, ?_, ?_, ?_, ?_⟩
    · intro x h1 h2; funext b; simp [hM47, mm_up, h1, h2]
    · simp [hM47, mm_up]
    · simp [hM47, mm_up]
    · intro hz
      first
      | (refine ⟨?_, ?_, ?_, ?_⟩
         · simp [hM47, mm_up]
         · simp [hM47, mm_up]
         · simp [hM47, mm_up]
         · funext b; simp [hM47, mm_up])
      | (exfalso; simp [hM47, mm_up] at hz; omega)
    · intro hz
      first
      | (refine ⟨?_, ?_, ?_, ?_⟩
         · simp [hM47, mm_up]; done
         · simp [hM47, mm_up]; done
         · simp [hM47, mm_up]; done
         · funext b; simp [hM47, mm_up]; done)
      | (exfalso; simp [hM47, mm_up] at hz; omega)
  · refine mm_aload_n dX2_flyTick_57 rfl rfl ?_
    refine mm_dup dX2_flyTick_58 rfl (by simp) ?_
    refine mm_get (kd := 0) dX2_flyTick_59 rfl fl_X2_50 (c := 139) rfl (by decide) rfl rfl ?_
    obtain ⟨v59, hv59⟩ : ∃ v, v = M47 139 6 := ⟨_, rfl⟩
    rw [← hv59]
    rw [hM47, mm_up_i (by decide)] at hv59
    subst hv59
    refine mm_aload_n dX2_flyTick_62 rfl rfl ?_
    refine mm_getr dX2_flyTick_63 rfl fl_X2_27 (c := 139) rfl (by decide) rfl rfl (hR47.at (c := 139) (i := 0) (v := 4) rfl (by decide)) ?_
    refine mm_iload_n dX2_flyTick_66 rfl rfl ?_
    refine mm_S1i dX2_flyTick_67 rfl lk_X2_86 (by simp) rfl rfl rfl (c_X4_drumOf (by omega)) ?_
    refine mm_iload_n dX2_flyTick_70 rfl rfl ?_
    refine mm_V2i dX2_flyTick_71 rfl lk_X2_89 (c := 3) rfl (by decide) rfl (by simp) (by simp) rfl rfl rfl (g_X4_workOf hR47 hG47 hK (ks_drb hI1) hp) ?_
    refine mm_iadd dX2_flyTick_74 rfl ?_
    refine mm_puti dX2_flyTick_75 rfl fl_X2_50 (c := 139) rfl (by decide) rfl rfl (fun M75 hM75 => ?_)
    have hR75 : mm_Rf M75 := by rw [hM75]; exact hR47.up rfl
    have hG75 : mm_ag M M75 := by rw [hM75]; exact hG47.up (by decide)
    refine mm_aload_n dX2_flyTick_78 rfl rfl ?_
    refine mm_getr dX2_flyTick_79 rfl fl_X2_11 (c := 139) rfl (by decide) rfl rfl (hR75.at (c := 139) (i := 8) (v := 141) rfl (by decide)) ?_
    refine mm_aload_n dX2_flyTick_82 rfl rfl ?_
    refine mm_get (kd := 0) dX2_flyTick_83 rfl fl_X2_43 (c := 139) rfl (by decide) rfl rfl ?_
    obtain ⟨v83, hv83⟩ : ∃ v, v = M75 139 4 := ⟨_, rfl⟩
    rw [← hv83]
    rw [hM75, mm_up_i (by decide), hM47, mm_up_i (by decide)] at hv83
    subst hv83
    refine mm_iload_n dX2_flyTick_86 rfl rfl ?_
    refine mm_isto dX2_flyTick_87 rfl (c := 140) rfl (by decide) rfl (by omega) (by omega) (fun M87 hM87 => ?_)
    have hR87 : mm_Rf M87 := by rw [hM87]; exact hR75.up (mm_rt_ar (t := 0) rfl (by decide))
    have hG87 : mm_ag M M87 := by rw [hM87]; exact hG75.up (by decide)
    refine mm_aload_n dX2_flyTick_88 rfl rfl ?_
    refine mm_aload_n dX2_flyTick_89 rfl rfl ?_
    refine mm_getr dX2_flyTick_90 rfl fl_X2_27 (c := 139) rfl (by decide) rfl rfl (hR87.at (c := 139) (i := 0) (v := 4) rfl (by decide)) ?_
    refine mm_aload_n dX2_flyTick_93 rfl rfl ?_
    refine mm_get (kd := 0) dX2_flyTick_94 rfl fl_X2_53 (c := 139) rfl (by decide) rfl rfl ?_
    obtain ⟨v94, hv94⟩ : ∃ v, v = M87 139 7 := ⟨_, rfl⟩
    rw [← hv94]
    rw [hM87, mm_up_c (by decide), hM75, mm_up_i (by decide), hM47, mm_up_i (by decide)] at hv94
    subst hv94
    refine mm_iload_n dX2_flyTick_97 rfl rfl ?_
    refine mm_V2i dX2_flyTick_98 rfl lk_X2_92 (c := 3) rfl (by decide) rfl (by simp) (by simp) rfl rfl rfl (g_X4_goal hR87 hG87 hK hs hI) ?_
    rw [if_pos (hcan.mpr trivial)]
    refine mm_puti dX2_flyTick_101 rfl fl_X2_53 (c := 139) rfl (by decide) rfl rfl (fun M101 hM101 => ?_)
    have hR101 : mm_Rf M101 := by rw [hM101]; exact hR87.up rfl
    have hG101 : mm_ag M M101 := by rw [hM101]; exact hG87.up (by decide)
    refine mm_aload_n dX2_flyTick_104 rfl rfl ?_
    refine mm_dup dX2_flyTick_105 rfl (by simp) ?_
    refine mm_get (kd := 0) dX2_flyTick_106 rfl fl_X2_43 (c := 139) rfl (by decide) rfl rfl ?_
    obtain ⟨v106, hv106⟩ : ∃ v, v = M101 139 4 := ⟨_, rfl⟩
    rw [← hv106]
    rw [hM101, mm_up_i (by decide), hM87, mm_up_c (by decide), hM75, mm_up_i (by decide), hM47, mm_up_i (by decide)] at hv106
    subst hv106
    refine mm_iconst dX2_flyTick_109 rfl ?_
    refine mm_iadd dX2_flyTick_110 rfl ?_
    refine mm_puti dX2_flyTick_111 rfl fl_X2_43 (c := 139) rfl (by decide) rfl rfl (fun M111 hM111 => ?_)
    have hR111 : mm_Rf M111 := by rw [hM111]; exact hR101.up rfl
    have hG111 : mm_ag M M111 := by rw [hM111]; exact hG101.up (by decide)
    refine mm_vret dX2_flyTick_114 rfl rfl ?_
    refine ⟨rfl, hR111, hG111, ?_, ?_, ?_, ?_, ?_⟩
    · intro x h1 h2; funext b; simp [hM111, hM101, hM87, hM75, hM47, mm_up, h1, h2]
    · simp [hM111, hM101, hM87, hM75, hM47, mm_up]
    · simp [hM111, hM101, hM87, hM75, hM47, mm_up]
    · intro hz
      first
      | (refine ⟨?_, ?_, ?_, ?_⟩
         · simp [hM111, hM101, hM87, hM75, hM47, mm_up]
         · simp [hM111, hM101, hM87, hM75, hM47, mm_up]
         · simp [hM111, hM101, hM87, hM75, hM47, mm_up]
         · funext b; simp [hM111, hM101, hM87, hM75, hM47, mm_up])
      | (exfalso; simp [hM111, hM101, hM87, hM75, hM47, mm_up] at hz; omega)
    · intro hz
      first
      | (refine ⟨?_, ?_, ?_, ?_⟩
         · simp [hM111, hM101, hM87, hM75, hM47, mm_up]; done
         · simp [hM111, hM101, hM87, hM75, hM47, mm_up]; done
         · simp [hM111, hM101, hM87, hM75, hM47, mm_up]; done
         · funext b; simp [hM111, hM101, hM87, hM75, hM47, mm_up]; done)
      | (exfalso; simp [hM111, hM101, hM87, hM75, hM47, mm_up] at hz; omega)
end
end
