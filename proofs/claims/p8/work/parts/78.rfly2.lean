/-! ===== fly and held of the reference ===== -/
noncomputable def kh_f (P : Nat → Prop) (j : Nat) : Int := @ite Int (P j) (Classical.propDecidable (P j)) 1 0
theorem kh_f1 {P : Nat → Prop} {j : Nat} (h : P j) : kh_f P j = 1 := by unfold kh_f; rw [if_pos h]
theorem kh_f0 {P : Nat → Prop} {j : Nat} (h : ¬ P j) : kh_f P j = 0 := by unfold kh_f; rw [if_neg h]
theorem kh_fb (P : Nat → Prop) (j : Nat) : 0 ≤ kh_f P j ∧ kh_f P j ≤ 1 := by
  by_cases h : P j
  · rw [kh_f1 h]; omega
  · rw [kh_f0 h]; omega
theorem ka_sum_congr {f g : Nat → Int} : ∀ {n : Nat}, (∀ i, i < n → f i = g i) → ka_sum f n = ka_sum g n
  | 0, _ => rfl
  | n + 1, h => by unfold ka_sum; rw [ka_sum_congr (fun i hi => h i (by omega)), h n (by omega)]
/-- held in 200 ticks at one hour by the winds L -/
def kh_ok (K : Nat → Int) (T : Int → Int → Int) (L : Nat → Int) (h s : Int) : Prop := ∀ i, i < 200 → kfl_ok K T (kfl_W L K h 0) s i
theorem kh_is {K : Nat → Int} {T : Int → Int → Int} {L : Nat → Int} {h s : Int} {c : Nat} (q : kj_is (kfl_ok K T (kfl_W L K h 0) s) 200 c) : (c : Int) = 200 ↔ kh_ok K T L h s := by
  constructor
  · intro e i hi
    exact q.2.1 i (by omega)
  · intro hk
    rcases Nat.lt_or_ge c 200 with z | z
    · exact absurd (hk c z) (q.2.2 z)
    · have := q.1
      omega
section
variable {X : mm_X} {M : mm_M} {s w h e n : Int}
def kfl_postR (M M' : mm_M) (L : Nat → Int) (s h e : Int) (n c : Nat) : Prop :=
  kj_is (kfl_ok (mm_rk M) (kq_T M) (kfl_W L (mm_rk M) h e) s) n c ∧ (∀ a, a ≠ 183 → a ≠ 220 → a ≠ 221 → M' a = M a) ∧ (∀ b, ¬ (69 ≤ b ∧ b ≤ 72) → ¬ (75 ≤ b ∧ b ≤ 78) → M' 183 b = M 183 b) ∧ M' 183 75 = 1 ∧ M' 183 72 = c ∧ M' 183 69 = kfl_end (mm_rk M) (kq_T M) (kfl_W L (mm_rk M) h e) s n c ∧
  M' 183 70 = ka_sum (kfl_g (mm_rk M) (kq_T M) (kfl_W L (mm_rk M) h e) s) c ∧ M' 183 71 = kfl_S (mm_rk M) (kq_T M) (kfl_W L (mm_rk M) h e) s c ∧ (∀ i, i < c → M' 220 i = kfl_a (mm_rk M) (kq_T M) (kfl_W L (mm_rk M) h e) s i)
theorem c_X13_fly1 {P : Prop} [Decidable P] (hR : mm_Rf M) (hK : mm_KV (mm_rk M)) (hA : mm_RA M) (hC : mm_RR M) (hs : ks_st (mm_rk M) s) (hh : ks_hr h) (hn : 1 ≤ n ∧ n ≤ 500) (he : 1 ≤ e ∧ e ≤ 60) :
    mm_C X Y_X13_fly 243 243 [(2, 184), (0, s), (0, h), (0, n), (0, e), (0, mm_b P)] M (fun r M' => ∃ c : Nat, r = (0, (c : Int)) ∧ mm_Rf M' ∧ mm_rg M M' ∧ kfl_postR M M' (if P then M 204 else M 203) s h e n.toNat c) := by
  have hnb := ks_nb hK
  have hs1 := hs.1
  have hs2 := hs.2
  have hG0 := mm_rg.rf M
  obtain ⟨L, hL⟩ : ∃ L, L = (if P then M 204 else M 203) := ⟨_, rfl⟩
  have cf := c_X13_flyOn (X := X) (P := P) hR hK hA hC hs hh hn (by omega : 0 ≤ e ∧ e ≤ 60)
  rw [← hL] at cf ⊢
  refine mm_start (ls := [(2, 184), (0, s), (0, h), (0, n), (0, e), (0, mm_b P), (9, 0)]) rfl ?_
  have loop : ∀ (c : Nat), c ≤ 500 → kj_is (kfl_ok (mm_rk M) (kq_T M) (kfl_W L (mm_rk M) h e) s) n.toNat c → ∀ i : Nat, i ≤ c → ∀ N : mm_M, mm_Rf N → mm_rg M N → (∀ a, a ≠ 183 → a ≠ 220 → a ≠ 221 → N a = M a) → (∀ b, ¬ (69 ≤ b ∧ b ≤ 72) → ¬ (75 ≤ b ∧ b ≤ 78) → N 183 b = M 183 b) →
      N 183 72 = c → N 183 69 = kfl_end (mm_rk M) (kq_T M) (kfl_W L (mm_rk M) h e) s n.toNat c → N 183 70 = ka_sum (kfl_g (mm_rk M) (kq_T M) (kfl_W L (mm_rk M) h e) s) c → N 183 71 = kfl_S (mm_rk M) (kq_T M) (kfl_W L (mm_rk M) h e) s c →
      (∀ j, j < c → N 221 j = kfl_a (mm_rk M) (kq_T M) (kfl_W L (mm_rk M) h e) s j) → (∀ j, j < i → N 220 j = kfl_a (mm_rk M) (kq_T M) (kfl_W L (mm_rk M) h e) s j) →
      mm_J X Y_X13_fly 243 243 243 85 [(2, 184), (0, s), (0, h), (0, n), (0, e), (0, mm_b P), (0, (i : Int))] [] N (fun r M' => ∃ c : Nat, r = (0, (c : Int)) ∧ mm_Rf M' ∧ mm_rg M M' ∧ kfl_postR M M' L s h e n.toNat c) := by
    intro c hc hcs
    refine mm_lp ?_
    intro i hi ih N hRN hG hfa hfb e72 e69 e70 e71 hta hfl
    by_cases hlt : i < c
    · have etr := hta i hlt
      refine mm_iload dX13_fly_85 rfl rfl ?_
      refine mm_aload_n dX13_fly_87 rfl rfl ?_
      refine mm_get (kd := 0) dX13_fly_88 rfl fl_X13_653 (c := 183) rfl (by decide) rfl rfl ?_
      obtain ⟨v88, hv88⟩ : ∃ v, v = N 183 72 := ⟨_, rfl⟩
      rw [← hv88]
      rw [e72] at hv88
      subst hv88
      refine mm_icge dX13_fly_91 (by omega) (by omega) (fun h91 => ?_) (fun h91 => ?_)
      · exfalso; omega
      · refine mm_aload_n dX13_fly_94 rfl rfl ?_
        refine mm_getr dX13_fly_95 rfl fl_X13_307 (c := 183) rfl (by decide) rfl rfl (hRN.at (c := 183) (i := 73) (v := 221) rfl (by decide)) ?_
        refine mm_iload dX13_fly_98 rfl rfl ?_
        refine mm_aload_n dX13_fly_100 rfl rfl ?_
        refine mm_getr dX13_fly_101 rfl fl_X13_310 (c := 183) rfl (by decide) rfl rfl (hRN.at (c := 183) (i := 74) (v := 222) rfl (by decide)) ?_
        refine mm_iload dX13_fly_104 rfl rfl ?_
        refine mm_ialk (k0 := i) dX13_fly_106 rfl (c := 221) rfl (by decide) rfl (by omega) (by omega) ?_
        rw [etr]
        refine mm_istk (k0 := i) dX13_fly_107 rfl (c := 220) rfl (by decide) rfl (by omega) (by omega) (fun M107 hM107 => ?_)
        have hR107 : mm_Rf M107 := by rw [hM107]; exact hRN.up (mm_rt_ar (t := 0) rfl (by decide))
        have hG107 : mm_rg M M107 := by rw [hM107]; exact hG.upa (by decide)
        refine mm_iinc dX13_fly_108 rfl rfl (Nat.le_of_ble_eq_true rfl) rfl ?_
        refine mm_goto dX13_fly_111 ?_
        refine ih hlt _ hR107 hG107 ?_ ?_ ?_ ?_ ?_ ?_ ?_ ?_
        · intro x h1 h2 h3; funext b; simp [hM107, mm_up, h2]; rw [hfa x h1 h2 h3]
        · intro b hb hb2; simp [hM107, mm_up]; exact hfb b hb hb2
        · simp [hM107, mm_up, e72]
        · simp [hM107, mm_up, e69]
        · simp [hM107, mm_up, e70]
        · simp [hM107, mm_up, e71]
        · intro j hj; simp [hM107, mm_up]; exact hta j hj
        · intro j hj
          by_cases q : j = i
          · simp [hM107, mm_up, q]
          · simp [hM107, mm_up, q]; exact hfl j (by omega)
    · have ei : i = c := by omega
      refine mm_iload dX13_fly_85 rfl rfl ?_
      refine mm_aload_n dX13_fly_87 rfl rfl ?_
      refine mm_get (kd := 0) dX13_fly_88 rfl fl_X13_653 (c := 183) rfl (by decide) rfl rfl ?_
      obtain ⟨v88, hv88⟩ : ∃ v, v = N 183 72 := ⟨_, rfl⟩
      rw [← hv88]
      rw [e72] at hv88
      subst hv88
      refine mm_icge dX13_fly_91 (by omega) (by omega) (fun h91 => ?_) (fun h91 => ?_)
      · refine mm_aload_n dX13_fly_114 rfl rfl ?_
        refine mm_iconst dX13_fly_115 rfl ?_
        refine mm_putz dX13_fly_116 rfl fl_X13_665 (c := 183) rfl (by decide) rfl rfl (Or.inr rfl) (fun M116 hM116 => ?_)
        have hR116 : mm_Rf M116 := by rw [hM116]; exact hRN.up rfl
        have hG116 : mm_rg M M116 := by rw [hM116]; exact hG.up (by decide)
        refine mm_aload_n dX13_fly_119 rfl rfl ?_
        refine mm_get (kd := 0) dX13_fly_120 rfl fl_X13_653 (c := 183) rfl (by decide) rfl rfl ?_
        obtain ⟨v120, hv120⟩ : ∃ v, v = M116 183 72 := ⟨_, rfl⟩
        rw [← hv120]
        rw [hM116, mm_up_i (by decide), e72] at hv120
        subst hv120
        refine mm_iret dX13_fly_123 rfl rfl ?_
        refine ⟨c, rfl, hR116, hG116, hcs, ?_, ?_, ?_, ?_, ?_, ?_, ?_, ?_⟩
        · intro x h1 h2 h3; funext b; simp [hM116, mm_up, h1]; rw [hfa x h1 h2 h3]
        · intro b hb hb2
          have n1 : b ≠ 75 := by omega
          simp [hM116, mm_up, n1]; exact hfb b hb hb2
        · simp [hM116, mm_up]
        · simp [hM116, mm_up, e72]
        · simp [hM116, mm_up, e69]
        · simp [hM116, mm_up, e70]
        · simp [hM116, mm_up, e71]
        · intro j hj; simp [hM116, mm_up]; exact hfl j (by omega)
      · exfalso; omega
  refine mm_aload_n dX13_fly_0 rfl rfl ?_
  refine mm_iload_n dX13_fly_1 rfl rfl ?_
  refine mm_V1i dX13_fly_2 rfl lk_X13_464 (c := 183) rfl (by decide) rfl (by simp) rfl rfl rfl (g_X13_isState hR hG0 hK (by omega)) ?_
  refine mm_ifeqb dX13_fly_5 (fun h5 => ?_) (fun h5 => ?_)
  · exact absurd hs h5
  · refine mm_iload_n dX13_fly_8 rfl rfl ?_
    refine mm_S1i dX13_fly_9 rfl lk_X13_486 (by simp) rfl rfl rfl (c_X13_isHour (by omega)) ?_
    refine mm_ifeqb dX13_fly_12 (fun h12 => ?_) (fun h12 => ?_)
    · exact absurd hh h12
    · refine mm_iload_n dX13_fly_15 rfl rfl ?_
      refine mm_i2l dX13_fly_16 rfl (by omega) ?_
      refine mm_lconst1 dX13_fly_17 rfl ?_
      refine mm_ldc2 dX13_fly_18 rfl kc_X13_647 ?_
      refine mm_S3i dX13_fly_21 rfl lk_X13_5 (by simp) (by simp) (by simp) rfl rfl rfl (c_X13_in (by omega) (by omega) (by omega)) ?_
      refine mm_ifeqb dX13_fly_24 (fun h24 => ?_) (fun h24 => ?_)
      · exfalso; omega
      · refine mm_iload dX13_fly_27 rfl rfl ?_
        refine mm_i2l dX13_fly_29 rfl (by omega) ?_
        refine mm_lconst1 dX13_fly_30 rfl ?_
        refine mm_ldc2 dX13_fly_31 rfl kc_X13_492 ?_
        refine mm_S3i dX13_fly_34 rfl lk_X13_5 (by simp) (by simp) (by simp) rfl rfl rfl (c_X13_in (by omega) (by omega) (by omega)) ?_
        refine mm_ifneb dX13_fly_37 (fun h37 => ?_) (fun h37 => ?_)
        · refine mm_aload_n dX13_fly_43 rfl rfl ?_
          refine mm_aload_n dX13_fly_44 rfl rfl ?_
          refine mm_iload_n dX13_fly_45 rfl rfl ?_
          refine mm_iload_n dX13_fly_46 rfl rfl ?_
          refine mm_iload_n dX13_fly_47 rfl rfl ?_
          refine mm_iload dX13_fly_48 rfl rfl ?_
          refine mm_iload dX13_fly_50 rfl rfl ?_
          refine mm_V5g (M1 := M) dX13_fly_52 rfl lk_X13_649 (c := 183) rfl (by decide) rfl (by simp) (by simp) (by simp) (by simp) (by simp) rfl rfl rfl (cf) ?_
          rintro _ N52 ⟨x52, rfl, p52⟩
          change mm_J _ _ _ _ _ _ _ _ _ _
          have hR52 : mm_Rf N52 := p52.1
          have hG52 : mm_rg M N52 := hG0.tr p52.2.1
          obtain ⟨-, -, q1, q2, q3, q4, q5, q6, q7⟩ := p52
          refine mm_puti dX13_fly_55 rfl fl_X13_653 (c := 183) rfl (by decide) rfl rfl (fun M55 hM55 => ?_)
          have hR55 : mm_Rf M55 := by rw [hM55]; exact hR52.up rfl
          have hG55 : mm_rg M M55 := by rw [hM55]; exact hG52.up (by decide)
          refine mm_aload_n dX13_fly_58 rfl rfl ?_
          refine mm_aload_n dX13_fly_59 rfl rfl ?_
          refine mm_get (kd := 0) dX13_fly_60 rfl fl_X13_635 (c := 183) rfl (by decide) rfl rfl ?_
          obtain ⟨v60, hv60⟩ : ∃ v, v = M55 183 76 := ⟨_, rfl⟩
          rw [← hv60]
          rw [hM55, mm_up_i (by decide)] at hv60
          subst hv60
          refine mm_puti dX13_fly_63 rfl fl_X13_656 (c := 183) rfl (by decide) rfl rfl (fun M63 hM63 => ?_)
          have hR63 : mm_Rf M63 := by rw [hM63]; exact hR55.up rfl
          have hG63 : mm_rg M M63 := by rw [hM63]; exact hG55.up (by decide)
          refine mm_aload_n dX13_fly_66 rfl rfl ?_
          refine mm_aload_n dX13_fly_67 rfl rfl ?_
          refine mm_get (kd := 0) dX13_fly_68 rfl fl_X13_638 (c := 183) rfl (by decide) rfl rfl ?_
          obtain ⟨v68, hv68⟩ : ∃ v, v = M63 183 77 := ⟨_, rfl⟩
          rw [← hv68]
          rw [hM63, mm_up_i (by decide), hM55, mm_up_i (by decide)] at hv68
          subst hv68
          refine mm_puti dX13_fly_71 rfl fl_X13_659 (c := 183) rfl (by decide) rfl rfl (fun M71 hM71 => ?_)
          have hR71 : mm_Rf M71 := by rw [hM71]; exact hR63.up rfl
          have hG71 : mm_rg M M71 := by rw [hM71]; exact hG63.up (by decide)
          refine mm_aload_n dX13_fly_74 rfl rfl ?_
          refine mm_aload_n dX13_fly_75 rfl rfl ?_
          refine mm_get (kd := 0) dX13_fly_76 rfl fl_X13_644 (c := 183) rfl (by decide) rfl rfl ?_
          obtain ⟨v76, hv76⟩ : ∃ v, v = M71 183 78 := ⟨_, rfl⟩
          rw [← hv76]
          rw [hM71, mm_up_i (by decide), hM63, mm_up_i (by decide), hM55, mm_up_i (by decide)] at hv76
          subst hv76
          refine mm_puti dX13_fly_79 rfl fl_X13_662 (c := 183) rfl (by decide) rfl rfl (fun M79 hM79 => ?_)
          have hR79 : mm_Rf M79 := by rw [hM79]; exact hR71.up rfl
          have hG79 : mm_rg M M79 := by rw [hM79]; exact hG71.up (by decide)
          refine mm_iconst dX13_fly_82 rfl ?_
          refine mm_istore dX13_fly_83 rfl (Nat.le_of_ble_eq_true rfl) rfl ?_
          have q0 := q1.1
          refine loop x52 (by omega) q1 0 (Nat.zero_le _) _ hR79 hG79 ?_ ?_ ?_ ?_ ?_ ?_ ?_ (fun j q => absurd q (Nat.not_lt_zero j))
          · intro x h1 h2 h3; funext b; simp [hM79, hM71, hM63, hM55, mm_up, h1]; rw [q2 x h1 h3]
          · intro b hb hb2
            have n1 : b ≠ 69 := by omega
            have n2 : b ≠ 70 := by omega
            have n3 : b ≠ 71 := by omega
            have n4 : b ≠ 72 := by omega
            simp [hM79, hM71, hM63, hM55, mm_up, n1, n2, n3, n4]; exact q3 b (by omega)
          · simp [hM79, hM71, hM63, hM55, mm_up]
          · simp [hM79, hM71, hM63, hM55, mm_up, q4]
          · simp [hM79, hM71, hM63, hM55, mm_up, q5]
          · simp [hM79, hM71, hM63, hM55, mm_up, q6]
          · intro j hj; simp [hM79, hM71, hM63, hM55, mm_up]; exact q7 j hj
        · exfalso; omega
theorem c_X13_fly0 {z : Int} (hR : mm_Rf M) (hK : mm_KV (mm_rk M)) (hs : mm_R s) (hh : mm_R h) (hn : mm_R n) (he : mm_R e) (hno : ¬ (ks_st (mm_rk M) s ∧ ks_hr h ∧ (1 ≤ n ∧ n ≤ 500) ∧ (1 ≤ e ∧ e ≤ 60))) :
    mm_Fn X Y_X13_fly 243 [(2, 184), (0, s), (0, h), (0, n), (0, e), (0, z)] M (0, -2) M := by
  refine mm_startF (ls := [(2, 184), (0, s), (0, h), (0, n), (0, e), (0, z), (9, 0)]) rfl ?_
  refine mm_aload_n dX13_fly_0 rfl rfl ?_
  refine mm_iload_n dX13_fly_1 rfl rfl ?_
  refine mm_V1i dX13_fly_2 rfl lk_X13_464 (c := 183) rfl (by decide) rfl (by simp) rfl rfl rfl (c_X13_isState hR hK (by omega)) ?_
  refine mm_ifeqb dX13_fly_5 (fun h5 => ?_) (fun h5 => ?_)
  · refine mm_bipush dX13_fly_40 rfl (by decide) ?_
    refine mm_iret dX13_fly_42 rfl rfl ?_
    exact mm_fin rfl rfl
  · refine mm_iload_n dX13_fly_8 rfl rfl ?_
    refine mm_S1i dX13_fly_9 rfl lk_X13_486 (by simp) rfl rfl rfl (c_X13_isHour (by omega)) ?_
    refine mm_ifeqb dX13_fly_12 (fun h12 => ?_) (fun h12 => ?_)
    · refine mm_bipush dX13_fly_40 rfl (by decide) ?_
      refine mm_iret dX13_fly_42 rfl rfl ?_
      exact mm_fin rfl rfl
    · refine mm_iload_n dX13_fly_15 rfl rfl ?_
      refine mm_i2l dX13_fly_16 rfl (by omega) ?_
      refine mm_lconst1 dX13_fly_17 rfl ?_
      refine mm_ldc2 dX13_fly_18 rfl kc_X13_647 ?_
      refine mm_S3i dX13_fly_21 rfl lk_X13_5 (by simp) (by simp) (by simp) rfl rfl rfl (c_X13_in (by omega) (by omega) (by omega)) ?_
      refine mm_ifeqb dX13_fly_24 (fun h24 => ?_) (fun h24 => ?_)
      · refine mm_bipush dX13_fly_40 rfl (by decide) ?_
        refine mm_iret dX13_fly_42 rfl rfl ?_
        exact mm_fin rfl rfl
      · refine mm_iload dX13_fly_27 rfl rfl ?_
        refine mm_i2l dX13_fly_29 rfl (by omega) ?_
        refine mm_lconst1 dX13_fly_30 rfl ?_
        refine mm_ldc2 dX13_fly_31 rfl kc_X13_492 ?_
        refine mm_S3i dX13_fly_34 rfl lk_X13_5 (by simp) (by simp) (by simp) rfl rfl rfl (c_X13_in (by omega) (by omega) (by omega)) ?_
        refine mm_ifneb dX13_fly_37 (fun h37 => ?_) (fun h37 => ?_)
        · exact absurd ⟨h5, h12, h24, h37⟩ hno
        · refine mm_bipush dX13_fly_40 rfl (by decide) ?_
          refine mm_iret dX13_fly_42 rfl rfl ?_
          exact mm_fin rfl rfl
theorem c_X13_held1 (hR : mm_Rf M) (hK : mm_KV (mm_rk M)) (hA : mm_RA M) (hC : mm_RR M) (hh : ks_hr h) :
    mm_C X Y_X13_held 243 243 [(2, 184), (0, h)] M (fun r M' => r = (0, ka_sum (kh_f (fun s => kh_ok (mm_rk M) (kq_T M) (M 203) h s ∧ kh_ok (mm_rk M) (kq_T M) (M 204) h s)) (ks_n (mm_rk M)).toNat) ∧ mm_Rf M' ∧ mm_rg M M' ∧ (∀ a, a ≠ 183 → a ≠ 221 → M' a = M a) ∧ (∀ b, ¬ (76 ≤ b ∧ b ≤ 78) → M' 183 b = M 183 b)) := by
  have hnb := ks_nb hK
  have hG0 := mm_rg.rf M
  obtain ⟨F, hF⟩ : ∃ F, F = kh_f (fun s => kh_ok (mm_rk M) (kq_T M) (M 203) h s ∧ kh_ok (mm_rk M) (kq_T M) (M 204) h s) := ⟨_, rfl⟩
  rw [← hF]
  refine mm_start (ls := [(2, 184), (0, h), (9, 0), (9, 0), (9, 0)]) rfl ?_
  have loop : ∀ i : Nat, i ≤ (ks_n (mm_rk M)).toNat → ∀ (N : mm_M) (l4 : mm_V), mm_Rf N → mm_rg M N → (∀ a, a ≠ 183 → a ≠ 221 → N a = M a) → (∀ b, ¬ (76 ≤ b ∧ b ≤ 78) → N 183 b = M 183 b) →
      mm_J X Y_X13_held 243 243 243 14 [(2, 184), (0, h), (0, ka_sum F i), (0, (i : Int)), l4] [] N (fun r M' => r = (0, ka_sum F (ks_n (mm_rk M)).toNat) ∧ mm_Rf M' ∧ mm_rg M M' ∧ (∀ a, a ≠ 183 → a ≠ 221 → M' a = M a) ∧ (∀ b, ¬ (76 ≤ b ∧ b ≤ 78) → M' 183 b = M 183 b)) := by
    refine mm_lp ?_
    intro i hi ih N l4 hRN hG hfa hfb
    have hsum := ka_sumb (B := 1) (n := i) (f := F) (fun j hj => by rw [hF]; have := kh_fb (fun s => kh_ok (mm_rk M) (kq_T M) (M 203) h s ∧ kh_ok (mm_rk M) (kq_T M) (M 204) h s) j; omega)
    by_cases hlt : i < (ks_n (mm_rk M)).toNat
    · have hst : ks_st (mm_rk M) (i : Int) := ⟨by omega, by omega⟩
      have spec : ∀ (Q : mm_M), mm_rg M Q → (∀ a, a ≠ 183 → a ≠ 221 → Q a = M a) → (∀ b, ¬ (76 ≤ b ∧ b ≤ 78) → Q 183 b = M 183 b) → mm_RR Q ∧ kq_T Q = kq_T M := by
        intro Q hGQ h1 h2
        exact ⟨hGQ.rr (h2 20 (by omega)) (h1 193 (by decide) (by decide)) (h1 194 (by decide) (by decide)) (h1 195 (by decide) (by decide)) (h1 196 (by decide) (by decide)) (h1 197 (by decide) (by decide)) hC, hGQ.qt (h2 20 (by omega)) (h1 193 (by decide) (by decide)) (h1 194 (by decide) (by decide)) (h1 195 (by decide) (by decide)) (h1 196 (by decide) (by decide)) (h1 197 (by decide) (by decide))⟩
      -- behind both flights
      have fin : ∀ (z : Int) (N : mm_M), z = F i → mm_Rf N → mm_rg M N → (∀ a, a ≠ 183 → a ≠ 221 → N a = M a) → (∀ b, ¬ (76 ≤ b ∧ b ≤ 78) → N 183 b = M 183 b) → ∀ l4 : mm_V, mm_J X Y_X13_held 243 243 243 73 [(2, 184), (0, h), (0, ka_sum F i), (0, (i : Int)), l4] [(0, z)] N (fun r M' => r = (0, ka_sum F (ks_n (mm_rk M)).toNat) ∧ mm_Rf M' ∧ mm_rg M M' ∧ (∀ a, a ≠ 183 → a ≠ 221 → M' a = M a) ∧ (∀ b, ¬ (76 ≤ b ∧ b ≤ 78) → M' 183 b = M 183 b)) := by
        intro z N hz hRN hG hfa hfb l4
        have hFb := kh_fb (fun s => kh_ok (mm_rk M) (kq_T M) (M 203) h s ∧ kh_ok (mm_rk M) (kq_T M) (M 204) h s) i
        rw [← hF] at hFb
        refine mm_istore dX13_held_73 rfl (Nat.le_of_ble_eq_true rfl) rfl ?_
        refine mm_iload_n dX13_held_75 rfl rfl ?_
        refine mm_iload dX13_held_76 rfl rfl ?_
        refine mm_ifeq_z (q2 := 86) dX13_held_78 (by omega) (fun k => mm_iconst dX13_held_85 rfl k) (fun k => mm_iconst dX13_held_81 rfl (mm_goto dX13_held_82 k)) ?_
        refine mm_iadd dX13_held_86 rfl ?_
        refine mm_istore_n dX13_held_87 rfl (Nat.le_of_ble_eq_true rfl) rfl ?_
        refine mm_iinc dX13_held_88 rfl rfl (Nat.le_of_ble_eq_true rfl) rfl ?_
        refine mm_goto dX13_held_91 ?_
        have := ih hlt N (0, z) hRN hG hfa hfb
        rw [ka_sum, show F i = mm_b (z ≠ 0) by unfold mm_b; split <;> omega] at this
        exact this
      refine mm_iload_n dX13_held_14 rfl rfl ?_
      refine mm_aload_n dX13_held_15 rfl rfl ?_
      refine mm_V0i dX13_held_16 rfl lk_X13_458 (c := 183) rfl (by decide) rfl  rfl rfl rfl (g_X13_states hRN hG) ?_
      refine mm_icge dX13_held_19 (by omega) (by omega) (fun h19 => ?_) (fun h19 => ?_)
      · exfalso; omega
      · refine mm_aload_n dX13_held_22 rfl rfl ?_
        refine mm_iload_n dX13_held_23 rfl rfl ?_
        refine mm_iload_n dX13_held_24 rfl rfl ?_
        refine mm_sipush dX13_held_25 rfl (by decide) ?_
        refine mm_iconst dX13_held_28 rfl ?_
        refine mm_iconst dX13_held_29 rfl ?_
        refine mm_V5g (M1 := N) dX13_held_30 rfl lk_X13_649 (c := 183) rfl (by decide) rfl (by simp) (by simp) (by simp) (by simp) (by simp) rfl rfl rfl ((by have := c_X13_flyOn (X := X) (P := False) (M := N) (s := (i : Int)) (h := h) (n := 200) (e := 0) hRN (by rw [hG.k]; exact hK) (hG.ra hA) (spec N hG hfa hfb).1 (by rw [hG.k]; exact hst) hh (by decide) (by decide); exact this)) ?_
        rintro _ N30 ⟨x30, rfl, p30⟩
        change mm_J _ _ _ _ _ _ _ _ _ _
        have hR30 : mm_Rf N30 := p30.1
        have hG30 : mm_rg M N30 := hG.tr p30.2.1
        obtain ⟨-, -, q1, q2, q3, -, -, -, -⟩ := p30
        rw [hG.k, (spec N hG hfa hfb).2, if_neg (fun q => q), hG.2.2.2.2.1] at q1
        have k1 := kh_is q1
        have hx1 := q1.1
        have hfa2 : ∀ a, a ≠ 183 → a ≠ 221 → N30 a = M a := fun a h1 h2 => (q2 a h1 h2).trans (hfa a h1 h2)
        have hfb2 : ∀ b, ¬ (76 ≤ b ∧ b ≤ 78) → N30 183 b = M 183 b := fun b h1 => (q3 b h1).trans (hfb b h1)
        refine mm_sipush dX13_held_33 rfl (by decide) ?_
        refine mm_icne_z (q2 := 44) dX13_held_36 (by omega) (by omega) (fun k => mm_iconst dX13_held_43 rfl k) (fun k => mm_iconst dX13_held_39 rfl (mm_goto dX13_held_40 k)) ?_
        refine mm_istore dX13_held_44 rfl (Nat.le_of_ble_eq_true rfl) rfl ?_
        refine mm_iload dX13_held_46 rfl rfl ?_
        refine mm_ifeqb dX13_held_48 (fun h48 => ?_) (fun h48 => ?_)
        · refine mm_iconst dX13_held_72 rfl ?_
          exact fin 0 N30 (by rw [hF]; exact (kh_f0 (fun q => h48 (k1.mpr q.1))).symm) hR30 hG30 hfa2 hfb2 _
        · refine mm_aload_n dX13_held_51 rfl rfl ?_
          refine mm_iload_n dX13_held_52 rfl rfl ?_
          refine mm_iload_n dX13_held_53 rfl rfl ?_
          refine mm_sipush dX13_held_54 rfl (by decide) ?_
          refine mm_iconst dX13_held_57 rfl ?_
          refine mm_iconst dX13_held_58 rfl ?_
          refine mm_V5g (M1 := N30) dX13_held_59 rfl lk_X13_649 (c := 183) rfl (by decide) rfl (by simp) (by simp) (by simp) (by simp) (by simp) rfl rfl rfl ((by have := c_X13_flyOn (X := X) (P := True) (M := N30) (s := (i : Int)) (h := h) (n := 200) (e := 0) hR30 (by rw [hG30.k]; exact hK) (hG30.ra hA) (spec N30 hG30 hfa2 hfb2).1 (by rw [hG30.k]; exact hst) hh (by decide) (by decide); exact this)) ?_
          rintro _ N59 ⟨x59, rfl, p59⟩
          change mm_J _ _ _ _ _ _ _ _ _ _
          have hR59 : mm_Rf N59 := p59.1
          have hG59 : mm_rg M N59 := hG30.tr p59.2.1
          obtain ⟨-, -, q4, q5, q6, -, -, -, -⟩ := p59
          rw [hG30.k, (spec N30 hG30 hfa2 hfb2).2, if_pos trivial, hG30.2.2.2.2.2] at q4
          have k2 := kh_is q4
          have hx2 := q4.1
          have hfa3 : ∀ a, a ≠ 183 → a ≠ 221 → N59 a = M a := fun a h1 h2 => (q5 a h1 h2).trans (hfa2 a h1 h2)
          have hfb3 : ∀ b, ¬ (76 ≤ b ∧ b ≤ 78) → N59 183 b = M 183 b := fun b h1 => (q6 b h1).trans (hfb2 b h1)
          refine mm_sipush dX13_held_62 rfl (by decide) ?_
          refine mm_icne dX13_held_65 (by omega) (by omega) (fun h65 => ?_) (fun h65 => ?_)
          · refine mm_iconst dX13_held_72 rfl ?_
            first
            | exact fin 1 N59 (by rw [hF]; exact (kh_f1 ⟨k1.mp h48, k2.mp h65⟩).symm) hR59 hG59 hfa3 hfb3 _
            | exact fin 0 N59 (by rw [hF]; exact (kh_f0 (fun q => h65 (k2.mpr q.2))).symm) hR59 hG59 hfa3 hfb3 _
          · refine mm_iconst dX13_held_68 rfl ?_
            refine mm_goto dX13_held_69 ?_
            first
            | exact fin 1 N59 (by rw [hF]; exact (kh_f1 ⟨k1.mp h48, k2.mp h65⟩).symm) hR59 hG59 hfa3 hfb3 _
            | exact fin 0 N59 (by rw [hF]; exact (kh_f0 (fun q => h65 (k2.mpr q.2))).symm) hR59 hG59 hfa3 hfb3 _
    · have ei : i = (ks_n (mm_rk M)).toNat := by omega
      refine mm_iload_n dX13_held_14 rfl rfl ?_
      refine mm_aload_n dX13_held_15 rfl rfl ?_
      refine mm_V0i dX13_held_16 rfl lk_X13_458 (c := 183) rfl (by decide) rfl  rfl rfl rfl (g_X13_states hRN hG) ?_
      refine mm_icge dX13_held_19 (by omega) (by omega) (fun h19 => ?_) (fun h19 => ?_)
      · refine mm_iload_n dX13_held_94 rfl rfl ?_
        refine mm_iret dX13_held_95 rfl rfl ?_
        exact ⟨by rw [ei], hRN, hG, hfa, hfb⟩
      · exfalso; omega
  refine mm_iload_n dX13_held_0 rfl rfl ?_
  refine mm_S1i dX13_held_1 rfl lk_X13_486 (by simp) rfl rfl rfl (c_X13_isHour (by omega)) ?_
  refine mm_ifneb dX13_held_4 (fun h4 => ?_) (fun h4 => ?_)
  · refine mm_iconst dX13_held_10 rfl ?_
    refine mm_istore_n dX13_held_11 rfl (Nat.le_of_ble_eq_true rfl) rfl ?_
    refine mm_iconst dX13_held_12 rfl ?_
    refine mm_istore_n dX13_held_13 rfl (Nat.le_of_ble_eq_true rfl) rfl ?_
    exact loop 0 (Nat.zero_le _) M (9, 0) hR hG0 (fun _ _ _ => rfl) (fun _ _ => rfl)
  · exact absurd hh h4
theorem c_X13_held0 (hR : mm_Rf M) (hh : mm_R h) (hno : ¬ ks_hr h) : mm_Fn X Y_X13_held 243 [(2, 184), (0, h)] M (0, -2) M := by
  refine mm_startF (ls := [(2, 184), (0, h), (9, 0), (9, 0), (9, 0)]) rfl ?_
  refine mm_iload_n dX13_held_0 rfl rfl ?_
  refine mm_S1i dX13_held_1 rfl lk_X13_486 (by simp) rfl rfl rfl (c_X13_isHour (by omega)) ?_
  refine mm_ifneb dX13_held_4 (fun h4 => ?_) (fun h4 => ?_)
  · exact absurd h4 hno
  · refine mm_bipush dX13_held_7 rfl (by decide) ?_
    refine mm_iret dX13_held_9 rfl rfl ?_
    exact mm_fin rfl rfl
end

