/-! 76.fly2 -/
section
/-! ===== flights: run, fly, of both sides ===== -/
/-- the fate with which a flight of n ticks ends behind c of them -/
def kfl_end (K : Nat → Int) (T : Int → Int → Int) (W : Int → Nat → Int) (s : Int) (n c : Nat) : Int := if c < n then ks_fate K (kfl_p K T W s c) else 0
theorem kfl_Wb {L K : Nat → Int} (hK : mm_KV K) (hL : ∀ p, p < 120 → 0 ≤ L p ∧ L p ≤ 60) {h e s : Int} (hs : ks_st K s) (hh : ks_hr h) (he : 0 ≤ e) {i : Nat} : 0 ≤ kfl_W L K h e s i ∧ kfl_W L K h e s i ≤ 60 := by
  unfold kfl_W ks_wi
  refine hL _ (ks_plb ?_ (ks_bandb hK hs))
  split
  · exact hh
  · have : 0 ≤ (i : Int) / e := Int.ediv_nonneg (by omega) he
    unfold ks_hr
    omega
theorem ks_fateb {K : Nat → Int} {p : Int} : 0 ≤ ks_fate K p ∧ ks_fate K p ≤ 2 := by unfold ks_fate; split <;> (try split) <;> omega
section
variable {X : mm_X} {M : mm_M} {s h e n : Int}
/-- what a flight leaves: wind L -/
def kfl_post (M M' : mm_M) (L : Nat → Int) (s h e : Int) (n c : Nat) : Prop :=
  kj_is (kfl_ok (M 4) (kc_T M) (kfl_W L (M 4) h e) s) n c ∧ (∀ a, a ≠ 139 → a ≠ 140 → M' a = M a) ∧ M' 139 3 = 1 ∧ M' 139 4 = c ∧ M' 139 5 = kfl_end (M 4) (kc_T M) (kfl_W L (M 4) h e) s n c ∧
  M' 139 6 = ka_sum (kfl_g (M 4) (kc_T M) (kfl_W L (M 4) h e) s) c ∧ M' 139 7 = kfl_S (M 4) (kc_T M) (kfl_W L (M 4) h e) s c ∧ (∀ i, i < c → M' 140 i = kfl_a (M 4) (kc_T M) (kfl_W L (M 4) h e) s i)
theorem c_X2_run {P : Prop} [Decidable P] (hR : mm_Rf M) (hK : mm_CK M) (hA : mm_CA M) (hC : mm_CR M) (hs : ks_st (M 4) s) (hh : ks_hr h) (hn : 1 ≤ n ∧ n ≤ 500) (he : 1 ≤ e ∧ e ≤ 60) :
    mm_C X Y_X2_run 243 243 [(2, 140), (0, s), (0, h), (0, n), (0, e), (0, mm_b P)] M (fun r M' => ∃ c : Nat, r = (0, (c : Int)) ∧ mm_Rf M' ∧ mm_ag M M' ∧ kfl_post M M' (if P then M 17 else M 16) s h e n.toNat c) := by
  obtain ⟨L, hL⟩ : ∃ L, L = (if P then M 17 else M 16) := ⟨_, rfl⟩
  rw [← hL]
  have hLb : ∀ p, p < 120 → 0 ≤ L p ∧ L p ≤ 60 := by
    intro p hp
    have := hA p hp
    rw [hL]
    split <;> omega
  have hG0 := mm_ag.rf M
  have hnb := ks_nb hK.1
  obtain ⟨S, hS⟩ : ∃ S, S = kfl_S (M 4) (kc_T M) (kfl_W L (M 4) h e) s := ⟨_, rfl⟩
  have hSs : ∀ i, ks_st (M 4) (S i) := by rw [hS]; exact kfl_st hK.1 (fun s w => kc_T_ac hK.1 hC) hs
  have hWb : ∀ i, 0 ≤ kfl_W L (M 4) h e (S i) i ∧ kfl_W L (M 4) h e (S i) i ≤ 60 := fun i => kfl_Wb hK.1 hLb (hSs i) hh (by omega)
  have hab : ∀ i, ks_ac (M 4) (kfl_a (M 4) (kc_T M) (kfl_W L (M 4) h e) s i) := fun i => ks_in_ac (kc_T_ac hK.1 hC)
  have hpb : ∀ i, 0 ≤ kfl_p (M 4) (kc_T M) (kfl_W L (M 4) h e) s i ∧ kfl_p (M 4) (kc_T M) (kfl_W L (M 4) h e) s i ≤ 1425600 := fun i => ks_pw hK.1 (hab i) (by have := hWb i; rw [hS] at this; exact this)
  refine mm_start (ls := [(2, 140), (0, s), (0, h), (0, n), (0, e), (0, mm_b P), (9, 0)]) rfl ?_
  have fin : ∀ (i : Nat) (N : mm_M) (t : Int), 0 ≤ t → t ≤ 1000 → i < n.toNat → mm_Rf N → mm_ag M N → (∀ a, a ≠ 139 → a ≠ 140 → N a = M a) → (∀ j, j < i → kfl_ok (M 4) (kc_T M) (kfl_W L (M 4) h e) s j) → ¬ kfl_ok (M 4) (kc_T M) (kfl_W L (M 4) h e) s i → N 139 3 = 1 → N 139 4 = i → N 139 5 = ks_fate (M 4) (kfl_p (M 4) (kc_T M) (kfl_W L (M 4) h e) s i) → N 139 6 = ka_sum (kfl_g (M 4) (kc_T M) (kfl_W L (M 4) h e) s) i → N 139 7 = S i →
      (∀ j, j < i → N 140 j = kfl_a (M 4) (kc_T M) (kfl_W L (M 4) h e) s j) →
      mm_J X Y_X2_run 243 243 243 28 [(2, 140), (0, s), (0, h), (0, n), (0, e), (0, mm_b P), (0, t)] [] N (fun r M' => ∃ c : Nat, r = (0, (c : Int)) ∧ mm_Rf M' ∧ mm_ag M M' ∧ kfl_post M M' L s h e n.toNat c) := by
    intro i N t ht0 ht1 hlt hRN hG hfr hok hno e3 e4 e5 e6 e7 hac
    have hno2 : ks_fate (M 4) (kfl_p (M 4) (kc_T M) (kfl_W L (M 4) h e) s i) ≠ 0 := hno
    have hfb := ks_fateb (K := M 4) (p := kfl_p (M 4) (kc_T M) (kfl_W L (M 4) h e) s i)
    refine mm_iload dX2_run_28 rfl rfl ?_
    refine mm_iload_n dX2_run_30 rfl rfl ?_
    refine mm_icge dX2_run_31 (by omega) (by omega) (fun h31 => ?_) (fun h31 => ?_)
    · refine mm_aload_n dX2_run_72 rfl rfl ?_
      refine mm_get (kd := 0) dX2_run_73 rfl fl_X2_43 (c := 139) rfl (by decide) rfl rfl ?_
      obtain ⟨v73, hv73⟩ : ∃ v, v = N 139 4 := ⟨_, rfl⟩
      rw [← hv73]
      rw [e4] at hv73
      subst hv73
      refine mm_iret dX2_run_76 rfl rfl ?_
      refine ⟨i, rfl, hRN, hG, ⟨by omega, hok, fun _ => hno⟩, hfr, e3, e4, ?_, e6, by rw [e7, hS], hac⟩
      rw [e5]; unfold kfl_end; rw [if_pos hlt]
    · refine mm_aload_n dX2_run_34 rfl rfl ?_
      refine mm_get (kd := 0) dX2_run_35 rfl fl_X2_47 (c := 139) rfl (by decide) rfl rfl ?_
      obtain ⟨v35, hv35⟩ : ∃ v, v = N 139 5 := ⟨_, rfl⟩
      rw [← hv35]
      rw [e5] at hv35
      subst hv35
      refine mm_ifne dX2_run_38 (by omega) (fun h38 => ?_) (fun h38 => ?_)
      · refine mm_aload_n dX2_run_72 rfl rfl ?_
        refine mm_get (kd := 0) dX2_run_73 rfl fl_X2_43 (c := 139) rfl (by decide) rfl rfl ?_
        obtain ⟨v73, hv73⟩ : ∃ v, v = N 139 4 := ⟨_, rfl⟩
        rw [← hv73]
        rw [e4] at hv73
        subst hv73
        refine mm_iret dX2_run_76 rfl rfl ?_
        refine ⟨i, rfl, hRN, hG, ⟨by omega, hok, fun _ => hno⟩, hfr, e3, e4, ?_, e6, by rw [e7, hS], hac⟩
        rw [e5]; unfold kfl_end; rw [if_pos hlt]
      · exact absurd h38 hno2
  have loop : ∀ i : Nat, i ≤ n.toNat → ∀ N : mm_M, mm_Rf N → mm_ag M N → (∀ a, a ≠ 139 → a ≠ 140 → N a = M a) → (∀ j, j < i → kfl_ok (M 4) (kc_T M) (kfl_W L (M 4) h e) s j) → N 139 3 = 1 → N 139 4 = i → N 139 5 = 0 → N 139 6 = ka_sum (kfl_g (M 4) (kc_T M) (kfl_W L (M 4) h e) s) i → N 139 7 = S i →
      (∀ j, j < i → N 140 j = kfl_a (M 4) (kc_T M) (kfl_W L (M 4) h e) s j) →
      mm_J X Y_X2_run 243 243 243 28 [(2, 140), (0, s), (0, h), (0, n), (0, e), (0, mm_b P), (0, (i : Int))] [] N (fun r M' => ∃ c : Nat, r = (0, (c : Int)) ∧ mm_Rf M' ∧ mm_ag M M' ∧ kfl_post M M' L s h e n.toNat c) := by
    refine mm_lp ?_
    intro i hi ih N hRN hG hfr hok e3 e4 e5 e6 e7 hac
    by_cases hlt : i < n.toNat
    · have hSi := hSs i
      have hWi := hWb i
      have hdv := mm_divb (a := (i : Int)) (b := e) (A := 500) (by omega) (by omega) (by omega)
      have hhr : ks_hr ((h + (i : Int) / e) % 24) := by unfold ks_hr; omega
      have eW : (if P then ks_wi (M 17) (M 4) (S i) ((h + (i : Int) / e) % 24) else ks_wi (M 16) (M 4) (S i) ((h + (i : Int) / e) % 24)) = kfl_W L (M 4) h e (S i) i := by
        unfold kfl_W
        rw [if_neg (show ¬ e = 0 by omega), hL]
        split <;> rfl
      have e44 : N 4 = M 4 := hG 4 (by decide) (by decide)
      have ea : ks_in (M 4) (S i) (kc_T M (S i) (kfl_W L (M 4) h e (S i) i)) = kfl_a (M 4) (kc_T M) (kfl_W L (M 4) h e) s i := by rw [hS]; rfl
      have ep : ks_p (M 4) (S i) (kfl_a (M 4) (kc_T M) (kfl_W L (M 4) h e) s i) (kfl_W L (M 4) h e (S i) i) = kfl_p (M 4) (kc_T M) (kfl_W L (M 4) h e) s i := by rw [hS]; rfl
      have eS : ks_to (M 4) (S i) (kfl_a (M 4) (kc_T M) (kfl_W L (M 4) h e) s i) = S (i + 1) := by rw [hS]; rfl
      refine mm_iload dX2_run_28 rfl rfl ?_
      refine mm_iload_n dX2_run_30 rfl rfl ?_
      refine mm_icge dX2_run_31 (by omega) (by omega) (fun h31 => ?_) (fun h31 => ?_)
      · exfalso; omega
      · refine mm_aload_n dX2_run_34 rfl rfl ?_
        refine mm_get (kd := 0) dX2_run_35 rfl fl_X2_47 (c := 139) rfl (by decide) rfl rfl ?_
        obtain ⟨v35, hv35⟩ : ∃ v, v = N 139 5 := ⟨_, rfl⟩
        rw [← hv35]
        rw [e5] at hv35
        subst hv35
        refine mm_ifne dX2_run_38 (by omega) (fun h38 => ?_) (fun h38 => ?_)
        · exfalso; omega
        · refine mm_aload_n dX2_run_41 rfl rfl ?_
          refine mm_aload_n dX2_run_42 rfl rfl ?_
          refine mm_getr dX2_run_43 rfl fl_X2_31 (c := 139) rfl (by decide) rfl rfl (hRN.at (c := 139) (i := 1) (v := 12) rfl (by decide)) ?_
          refine mm_aload_n dX2_run_46 rfl rfl ?_
          refine mm_get (kd := 0) dX2_run_47 rfl fl_X2_53 (c := 139) rfl (by decide) rfl rfl ?_
          obtain ⟨v47, hv47⟩ : ∃ v, v = N 139 7 := ⟨_, rfl⟩
          rw [← hv47]
          rw [e7] at hv47
          subst hv47
          refine mm_iload_n dX2_run_50 rfl rfl ?_
          refine mm_iload dX2_run_51 rfl rfl ?_
          refine mm_iload dX2_run_53 rfl rfl ?_
          refine mm_S3i dX2_run_55 rfl lk_X2_56 (by simp) (by simp) (by simp) rfl rfl rfl (c_X0_hourOf hh (by omega) he) ?_
          refine mm_iload dX2_run_58 rfl rfl ?_
          refine mm_V3i dX2_run_60 rfl lk_X2_62 (c := 11) rfl (by decide) rfl (by simp) (by simp) (by simp) rfl rfl rfl ((eW ▸ g_X0_windIn (P := P) hRN hG hK hSi hhr)) ?_
          refine mm_V1g (M1 := N) dX2_run_63 rfl lk_X2_66 (c := 139) rfl (by decide) rfl (by simp) rfl rfl rfl (c_X2_flyTick hRN (hG.ck hK) (hG.cr hC) (by rw [e44, e7]; exact hSi) hWi (by omega)) ?_
          rintro _ N63 ⟨rfl, p63⟩
          change mm_J _ _ _ _ _ _ _ _ _ _
          have hR63 : mm_Rf N63 := p63.1
          have hG63 : mm_ag M N63 := hG.tr p63.2.1
          obtain ⟨-, -, q1, q2, q3, q4, q5⟩ := p63
          rw [e44, e7, hG.ct, ea, ep, eS, e6, e4] at *
          have hfx : ∀ a, a ≠ 139 → a ≠ 140 → N63 a = M a := fun a h1 h2 => (q1 a h1 h2).trans (hfr a h1 h2)
          refine mm_iinc dX2_run_66 rfl rfl (Nat.le_of_ble_eq_true rfl) rfl ?_
          refine mm_goto dX2_run_69 ?_
          by_cases hz : N63 139 5 = 0
          · obtain ⟨r1, r2, r3, r4⟩ := q4 hz
            rw [q3] at hz
            refine ih hlt N63 hR63 hG63 hfx ?_ (by rw [q2, e3]) (by rw [r3]; omega) (by rw [q3]; exact hz) ?_ (by rw [r2]) ?_
            · intro j hj
              by_cases q : j = i
              · rw [q]; exact hz
              · exact hok j (by omega)
            · rw [r1]; rfl
            · intro j hj
              rw [r4]
              by_cases q : j = i
              · rw [q]; simp [mm_up]
              · simp [mm_up, q]; exact hac j (by omega)
          · obtain ⟨r1, r2, r3, r4⟩ := q5 hz
            refine fin i N63 _ (by omega) (by omega) hlt hR63 hG63 hfx hok (by rw [q3] at hz; exact hz) (by rw [q2, e3]) (by rw [r3]) q3 (by rw [r1]) (by rw [r2]) (by rw [r4]; exact hac)
    · refine mm_iload dX2_run_28 rfl rfl ?_
      refine mm_iload_n dX2_run_30 rfl rfl ?_
      refine mm_icge dX2_run_31 (by omega) (by omega) (fun h31 => ?_) (fun h31 => ?_)
      · refine mm_aload_n dX2_run_72 rfl rfl ?_
        refine mm_get (kd := 0) dX2_run_73 rfl fl_X2_43 (c := 139) rfl (by decide) rfl rfl ?_
        obtain ⟨v73, hv73⟩ : ∃ v, v = N 139 4 := ⟨_, rfl⟩
        rw [← hv73]
        rw [e4] at hv73
        subst hv73
        refine mm_iret dX2_run_76 rfl rfl ?_
        refine ⟨i, rfl, hRN, hG, ⟨hi, hok, fun q => absurd q hlt⟩, hfr, e3, e4, ?_, e6, by rw [e7, hS], hac⟩
        rw [e5]; unfold kfl_end; rw [if_neg hlt]
      · exfalso; omega
  refine mm_aload_n dX2_run_0 rfl rfl ?_
  refine mm_iconst dX2_run_1 rfl ?_
  refine mm_putz dX2_run_2 rfl fl_X2_39 (c := 139) rfl (by decide) rfl rfl (Or.inr rfl) (fun M2 hM2 => ?_)
  have hR2 : mm_Rf M2 := by rw [hM2]; exact hR.up rfl
  have hG2 : mm_ag M M2 := by rw [hM2]; exact hG0.up (by decide)
  refine mm_aload_n dX2_run_5 rfl rfl ?_
  refine mm_iconst dX2_run_6 rfl ?_
  refine mm_puti dX2_run_7 rfl fl_X2_43 (c := 139) rfl (by decide) rfl rfl (fun M7 hM7 => ?_)
  have hR7 : mm_Rf M7 := by rw [hM7]; exact hR2.up rfl
  have hG7 : mm_ag M M7 := by rw [hM7]; exact hG2.up (by decide)
  refine mm_aload_n dX2_run_10 rfl rfl ?_
  refine mm_iconst dX2_run_11 rfl ?_
  refine mm_puti dX2_run_12 rfl fl_X2_47 (c := 139) rfl (by decide) rfl rfl (fun M12 hM12 => ?_)
  have hR12 : mm_Rf M12 := by rw [hM12]; exact hR7.up rfl
  have hG12 : mm_ag M M12 := by rw [hM12]; exact hG7.up (by decide)
  refine mm_aload_n dX2_run_15 rfl rfl ?_
  refine mm_iconst dX2_run_16 rfl ?_
  refine mm_puti dX2_run_17 rfl fl_X2_50 (c := 139) rfl (by decide) rfl rfl (fun M17 hM17 => ?_)
  have hR17 : mm_Rf M17 := by rw [hM17]; exact hR12.up rfl
  have hG17 : mm_ag M M17 := by rw [hM17]; exact hG12.up (by decide)
  refine mm_aload_n dX2_run_20 rfl rfl ?_
  refine mm_iload_n dX2_run_21 rfl rfl ?_
  refine mm_puti dX2_run_22 rfl fl_X2_53 (c := 139) rfl (by decide) rfl rfl (fun M22 hM22 => ?_)
  have hR22 : mm_Rf M22 := by rw [hM22]; exact hR17.up rfl
  have hG22 : mm_ag M M22 := by rw [hM22]; exact hG17.up (by decide)
  refine mm_iconst dX2_run_25 rfl ?_
  refine mm_istore dX2_run_26 rfl (Nat.le_of_ble_eq_true rfl) rfl ?_
  refine loop 0 (Nat.zero_le _) _ hR22 hG22 ?_ (fun j q => absurd q (Nat.not_lt_zero j)) ?_ ?_ ?_ ?_ ?_ (fun j q => absurd q (Nat.not_lt_zero j))
  · intro x h1 h2; funext b; simp [hM22, hM17, hM12, hM7, hM2, mm_up, h1]
  · simp [hM22, hM17, hM12, hM7, hM2, mm_up]
  · simp [hM22, hM17, hM12, hM7, hM2, mm_up]
  · simp [hM22, hM17, hM12, hM7, hM2, mm_up]
  · simp [hM22, hM17, hM12, hM7, hM2, mm_up]; rfl
  · simp [hM22, hM17, hM12, hM7, hM2, mm_up, hS]; rfl
theorem c_X11_fly1 {P : Prop} [Decidable P] (hR : mm_Rf M) (hK : mm_CK M) (hA : mm_CA M) (hC : mm_CR M) (hs : ks_st (M 4) s) (hh : ks_hr h) (hn : 1 ≤ n ∧ n ≤ 500) (he : 1 ≤ e ∧ e ≤ 60) :
    mm_C X Y_X11_fly 243 243 [(2, 1), (0, s), (0, h), (0, n), (0, e), (0, mm_b P)] M (fun r M' => ∃ c : Nat, r = (0, (c : Int)) ∧ mm_Rf M' ∧ mm_ag M M' ∧ kfl_post M M' (if P then M 17 else M 16) s h e n.toNat c) := by
  have hnb := ks_nb hK.1
  have hs1 := hs.1
  have hs2 := hs.2
  refine mm_start (ls := [(2, 1), (0, s), (0, h), (0, n), (0, e), (0, mm_b P), (9, 0)]) rfl ?_
  refine mm_aload_n dX11_fly_0 rfl rfl ?_
  refine mm_getr dX11_fly_1 rfl fl_X11_19 (c := 0) rfl (by decide) rfl rfl (hR.at (c := 0) (i := 1) (v := 4) rfl (by decide)) ?_
  refine mm_iload_n dX11_fly_4 rfl rfl ?_
  refine mm_V1i dX11_fly_5 rfl lk_X11_139 (c := 3) rfl (by decide) rfl (by simp) rfl rfl rfl (c_X4_hasState hR hK (by omega)) ?_
  refine mm_ifeqb dX11_fly_8 (fun h8 => ?_) (fun h8 => ?_)
  · exact absurd hs h8
  · refine mm_iload_n dX11_fly_11 rfl rfl ?_
    refine mm_S1i dX11_fly_12 rfl lk_X11_165 (by simp) rfl rfl rfl (c_X11_isHour (by omega)) ?_
    refine mm_ifeqb dX11_fly_15 (fun h15 => ?_) (fun h15 => ?_)
    · exact absurd hh h15
    · refine mm_iload_n dX11_fly_18 rfl rfl ?_
      refine mm_iconst dX11_fly_19 rfl ?_
      refine mm_sipush dX11_fly_20 rfl (by decide) ?_
      refine mm_S3i dX11_fly_23 rfl lk_X11_171 (by simp) (by simp) (by simp) rfl rfl rfl (c_X11_isWithin (by omega) (by omega) (by omega)) ?_
      refine mm_ifeqb dX11_fly_26 (fun h26 => ?_) (fun h26 => ?_)
      · exact absurd hn h26
      · refine mm_iconst dX11_fly_29 rfl ?_
        refine mm_goto dX11_fly_30 ?_
        refine mm_istore dX11_fly_34 rfl (Nat.le_of_ble_eq_true rfl) rfl ?_
        refine mm_iload dX11_fly_36 rfl rfl ?_
        refine mm_ifeq dX11_fly_38 (by omega) (fun h => absurd h (by decide)) (fun _ => ?_)
        refine mm_iload dX11_fly_41 rfl rfl ?_
        refine mm_S1i dX11_fly_43 rfl lk_X11_257 (by simp) rfl rfl rfl (c_X11_isEach (by omega)) ?_
        refine mm_ifeqb dX11_fly_46 (fun h46 => ?_) (fun h46 => ?_)
        · exact absurd he h46
        · refine mm_aload_n dX11_fly_49 rfl rfl ?_
          refine mm_getr dX11_fly_50 rfl fl_X11_69 (c := 0) rfl (by decide) rfl rfl (hR.at (c := 0) (i := 8) (v := 140) rfl (by decide)) ?_
          refine mm_iload_n dX11_fly_53 rfl rfl ?_
          refine mm_iload_n dX11_fly_54 rfl rfl ?_
          refine mm_iload_n dX11_fly_55 rfl rfl ?_
          refine mm_iload dX11_fly_56 rfl rfl ?_
          refine mm_iload dX11_fly_58 rfl rfl ?_
          refine mm_V5g (M1 := M) dX11_fly_60 rfl lk_X11_260 (c := 139) rfl (by decide) rfl (by simp) (by simp) (by simp) (by simp) (by simp) rfl rfl rfl ((by have := c_X2_run (X := X) (P := P) hR hK hA hC hs hh hn he; exact this)) ?_
          rintro _ N60 ⟨x60, rfl, p60⟩
          change mm_J _ _ _ _ _ _ _ _ _ _
          have hR60 : mm_Rf N60 := p60.1
          refine mm_goto dX11_fly_63 ?_
          refine mm_iret dX11_fly_68 rfl rfl ?_
          exact ⟨x60, rfl, p60⟩
theorem c_X11_fly0 {z : Int} (hR : mm_Rf M) (hK : mm_CK M) (hs : mm_R s) (hh : mm_R h) (hn : mm_R n) (he : mm_R e) (hno : ¬ (ks_st (M 4) s ∧ ks_hr h ∧ (1 ≤ n ∧ n ≤ 500) ∧ (1 ≤ e ∧ e ≤ 60))) :
    mm_Fn X Y_X11_fly 243 [(2, 1), (0, s), (0, h), (0, n), (0, e), (0, z)] M (0, -2) M := by
  refine mm_startF (ls := [(2, 1), (0, s), (0, h), (0, n), (0, e), (0, z), (9, 0)]) rfl ?_
  refine mm_aload_n dX11_fly_0 rfl rfl ?_
  refine mm_getr dX11_fly_1 rfl fl_X11_19 (c := 0) rfl (by decide) rfl rfl (hR.at (c := 0) (i := 1) (v := 4) rfl (by decide)) ?_
  refine mm_iload_n dX11_fly_4 rfl rfl ?_
  refine mm_V1i dX11_fly_5 rfl lk_X11_139 (c := 3) rfl (by decide) rfl (by simp) rfl rfl rfl (c_X4_hasState hR hK (by omega)) ?_
  refine mm_ifeqb dX11_fly_8 (fun h8 => ?_) (fun h8 => ?_)
  · refine mm_iconst dX11_fly_33 rfl ?_
    refine mm_istore dX11_fly_34 rfl (Nat.le_of_ble_eq_true rfl) rfl ?_
    refine mm_iload dX11_fly_36 rfl rfl ?_
    refine mm_ifeq dX11_fly_38 (by omega) (fun _ => ?_) (fun h => absurd (by decide) h)
    refine mm_bipush dX11_fly_66 rfl (by decide) ?_
    refine mm_iret dX11_fly_68 rfl rfl ?_
    exact mm_fin rfl rfl
  · refine mm_iload_n dX11_fly_11 rfl rfl ?_
    refine mm_S1i dX11_fly_12 rfl lk_X11_165 (by simp) rfl rfl rfl (c_X11_isHour (by omega)) ?_
    refine mm_ifeqb dX11_fly_15 (fun h15 => ?_) (fun h15 => ?_)
    · refine mm_iconst dX11_fly_33 rfl ?_
      refine mm_istore dX11_fly_34 rfl (Nat.le_of_ble_eq_true rfl) rfl ?_
      refine mm_iload dX11_fly_36 rfl rfl ?_
      refine mm_ifeq dX11_fly_38 (by omega) (fun _ => ?_) (fun h => absurd (by decide) h)
      refine mm_bipush dX11_fly_66 rfl (by decide) ?_
      refine mm_iret dX11_fly_68 rfl rfl ?_
      exact mm_fin rfl rfl
    · refine mm_iload_n dX11_fly_18 rfl rfl ?_
      refine mm_iconst dX11_fly_19 rfl ?_
      refine mm_sipush dX11_fly_20 rfl (by decide) ?_
      refine mm_S3i dX11_fly_23 rfl lk_X11_171 (by simp) (by simp) (by simp) rfl rfl rfl (c_X11_isWithin (by omega) (by omega) (by omega)) ?_
      refine mm_ifeqb dX11_fly_26 (fun h26 => ?_) (fun h26 => ?_)
      · refine mm_iconst dX11_fly_33 rfl ?_
        refine mm_istore dX11_fly_34 rfl (Nat.le_of_ble_eq_true rfl) rfl ?_
        refine mm_iload dX11_fly_36 rfl rfl ?_
        refine mm_ifeq dX11_fly_38 (by omega) (fun _ => ?_) (fun h => absurd (by decide) h)
        refine mm_bipush dX11_fly_66 rfl (by decide) ?_
        refine mm_iret dX11_fly_68 rfl rfl ?_
        exact mm_fin rfl rfl
      · refine mm_iconst dX11_fly_29 rfl ?_
        refine mm_goto dX11_fly_30 ?_
        refine mm_istore dX11_fly_34 rfl (Nat.le_of_ble_eq_true rfl) rfl ?_
        refine mm_iload dX11_fly_36 rfl rfl ?_
        refine mm_ifeq dX11_fly_38 (by omega) (fun h => absurd h (by decide)) (fun _ => ?_)
        refine mm_iload dX11_fly_41 rfl rfl ?_
        refine mm_S1i dX11_fly_43 rfl lk_X11_257 (by simp) rfl rfl rfl (c_X11_isEach (by omega)) ?_
        refine mm_ifeqb dX11_fly_46 (fun h46 => ?_) (fun h46 => ?_)
        · refine mm_bipush dX11_fly_66 rfl (by decide) ?_
          refine mm_iret dX11_fly_68 rfl rfl ?_
          exact mm_fin rfl rfl
        · exact absurd ⟨h8, h15, h26, h46⟩ hno
end
end
/-! 77.rfly -/
section
/-! ===== flights of the reference ===== -/
theorem mm_rg.rr {M N : mm_M} (h : mm_rg M N) (h20 : N 183 20 = M 183 20) (h3 : N 193 = M 193) (h4 : N 194 = M 194) (h5 : N 195 = M 195) (h6 : N 196 = M 196) (h7 : N 197 = M 197) (hC : mm_RR M) : mm_RR N := by
  unfold mm_RR kq_C kq_Q kq_H kq_B kq_D at hC ⊢
  rw [h20, h3, h4, h5, h6, h7, h.k]
  exact hC
theorem mm_rg.qt {M N : mm_M} (h : mm_rg M N) (h20 : N 183 20 = M 183 20) (h3 : N 193 = M 193) (h4 : N 194 = M 194) (h5 : N 195 = M 195) (h6 : N 196 = M 196) (h7 : N 197 = M 197) : kq_T N = kq_T M := by
  funext s w
  unfold kq_T kq_C kq_Q kq_H kq_B kq_D
  rw [h20, h3, h4, h5, h6, h7, h.k]
section
variable {X : mm_X} {M : mm_M} {s w h e n : Int}
theorem c_X13_actBy (hR : mm_Rf M) (hK : mm_KV (mm_rk M)) (hC : mm_RR M) (hs : ks_st (mm_rk M) s) (hw : 0 ≤ w ∧ w ≤ 60) :
    mm_Fn X Y_X13_actBy 243 [(2, 184), (0, s), (0, w)] M (0, ks_in (mm_rk M) s (kq_T M s w)) M := by
  have hL := hC.1
  have hT := kq_T_ac hK hC (s := s) (w := w)
  have hslb := ks_slb hK hT
  have hT1 := hT.1
  have hmb := ks_mvb hT1
  have hdb := ks_drb hT1
  refine mm_startF (ls := [(2, 184), (0, s), (0, w), (9, 0), (9, 0), (9, 0)]) rfl ?_
  have fin : ∀ l4 : mm_V, mm_J X Y_X13_actBy 243 243 243 40 [(2, 184), (0, s), (0, w), (0, kq_T M s w), l4, (9, 0)] [] M (fun r' M'' => r' = (0, ks_in (mm_rk M) s (kq_T M s w)) ∧ M'' = M) := by
    intro l4
    refine mm_aload_n dX13_actBy_40 rfl rfl ?_
    refine mm_iload_n dX13_actBy_41 rfl rfl ?_
    refine mm_iload_n dX13_actBy_42 rfl rfl ?_
    refine mm_S1i dX13_actBy_43 rfl lk_X13_441 (by simp) rfl rfl rfl (c_X13_moveOf (by omega)) ?_
    refine mm_V2i dX13_actBy_46 rfl lk_X13_444 (c := 183) rfl (by decide) rfl (by simp) (by simp) rfl rfl rfl (c_X13_canMove hR hK hs hmb) ?_
    refine mm_ifeqb dX13_actBy_49 (fun h49 => ?_) (fun h49 => ?_)
    · refine mm_iconst dX13_actBy_59 rfl ?_
      refine mm_istore dX13_actBy_60 rfl (Nat.le_of_ble_eq_true rfl) rfl ?_
      refine mm_aload_n dX13_actBy_62 rfl rfl ?_
      refine mm_iload_n dX13_actBy_63 rfl rfl ?_
      refine mm_iload_n dX13_actBy_64 rfl rfl ?_
      refine mm_S1i dX13_actBy_65 rfl lk_X13_448 (by simp) rfl rfl rfl (c_X13_drumOf (by omega)) ?_
      refine mm_V2i dX13_actBy_68 rfl lk_X13_451 (c := 183) rfl (by decide) rfl (by simp) (by simp) rfl rfl rfl (c_X13_canReel hR hK hs hdb) ?_
      refine mm_ifeqb dX13_actBy_71 (fun h71 => ?_) (fun h71 => ?_)
      · refine mm_iconst dX13_actBy_81 rfl ?_
        refine mm_istore dX13_actBy_82 rfl (Nat.le_of_ble_eq_true rfl) rfl ?_
        refine mm_bipush dX13_actBy_84 rfl (by decide) ?_
        refine mm_iload_n dX13_actBy_86 rfl rfl ?_
        refine mm_bipush dX13_actBy_87 rfl (by decide) ?_
        refine mm_idiv dX13_actBy_89 rfl (by omega) (by omega) (by omega) ?_
        rw [mm_tdiv hT1]
        refine mm_imul dX13_actBy_90 rfl ?_
        refine mm_iconst dX13_actBy_91 rfl ?_
        refine mm_iload dX13_actBy_92 rfl rfl ?_
        refine mm_imul dX13_actBy_94 rfl ?_
        refine mm_iadd dX13_actBy_95 rfl ?_
        refine mm_iload dX13_actBy_96 rfl rfl ?_
        refine mm_iadd dX13_actBy_98 rfl ?_
        refine mm_iret dX13_actBy_99 rfl rfl ?_
        refine mm_fin ?_ rfl
        rw [ks_in_eq hT1]
        first
        | (rw [if_pos h49, if_pos h71]; done)
        | (rw [if_pos h49, if_neg h71]; done)
        | (rw [if_neg h49, if_pos h71]; done)
        | (rw [if_neg h49, if_neg h71]; done)
      · refine mm_iload_n dX13_actBy_74 rfl rfl ?_
        refine mm_S1i dX13_actBy_75 rfl lk_X13_448 (by simp) rfl rfl rfl (c_X13_drumOf (by omega)) ?_
        refine mm_goto dX13_actBy_78 ?_
        refine mm_istore dX13_actBy_82 rfl (Nat.le_of_ble_eq_true rfl) rfl ?_
        refine mm_bipush dX13_actBy_84 rfl (by decide) ?_
        refine mm_iload_n dX13_actBy_86 rfl rfl ?_
        refine mm_bipush dX13_actBy_87 rfl (by decide) ?_
        refine mm_idiv dX13_actBy_89 rfl (by omega) (by omega) (by omega) ?_
        rw [mm_tdiv hT1]
        refine mm_imul dX13_actBy_90 rfl ?_
        refine mm_iconst dX13_actBy_91 rfl ?_
        refine mm_iload dX13_actBy_92 rfl rfl ?_
        refine mm_imul dX13_actBy_94 rfl ?_
        refine mm_iadd dX13_actBy_95 rfl ?_
        refine mm_iload dX13_actBy_96 rfl rfl ?_
        refine mm_iadd dX13_actBy_98 rfl ?_
        refine mm_iret dX13_actBy_99 rfl rfl ?_
        refine mm_fin ?_ rfl
        rw [ks_in_eq hT1]
        first
        | (rw [if_pos h49, if_pos h71]; done)
        | (rw [if_pos h49, if_neg h71]; done)
        | (rw [if_neg h49, if_pos h71]; done)
        | (rw [if_neg h49, if_neg h71]; done)
    · refine mm_iload_n dX13_actBy_52 rfl rfl ?_
      refine mm_S1i dX13_actBy_53 rfl lk_X13_441 (by simp) rfl rfl rfl (c_X13_moveOf (by omega)) ?_
      refine mm_goto dX13_actBy_56 ?_
      refine mm_istore dX13_actBy_60 rfl (Nat.le_of_ble_eq_true rfl) rfl ?_
      refine mm_aload_n dX13_actBy_62 rfl rfl ?_
      refine mm_iload_n dX13_actBy_63 rfl rfl ?_
      refine mm_iload_n dX13_actBy_64 rfl rfl ?_
      refine mm_S1i dX13_actBy_65 rfl lk_X13_448 (by simp) rfl rfl rfl (c_X13_drumOf (by omega)) ?_
      refine mm_V2i dX13_actBy_68 rfl lk_X13_451 (c := 183) rfl (by decide) rfl (by simp) (by simp) rfl rfl rfl (c_X13_canReel hR hK hs hdb) ?_
      refine mm_ifeqb dX13_actBy_71 (fun h71 => ?_) (fun h71 => ?_)
      · refine mm_iconst dX13_actBy_81 rfl ?_
        refine mm_istore dX13_actBy_82 rfl (Nat.le_of_ble_eq_true rfl) rfl ?_
        refine mm_bipush dX13_actBy_84 rfl (by decide) ?_
        refine mm_iload_n dX13_actBy_86 rfl rfl ?_
        refine mm_bipush dX13_actBy_87 rfl (by decide) ?_
        refine mm_idiv dX13_actBy_89 rfl (by omega) (by omega) (by omega) ?_
        rw [mm_tdiv hT1]
        refine mm_imul dX13_actBy_90 rfl ?_
        refine mm_iconst dX13_actBy_91 rfl ?_
        refine mm_iload dX13_actBy_92 rfl rfl ?_
        refine mm_imul dX13_actBy_94 rfl ?_
        refine mm_iadd dX13_actBy_95 rfl ?_
        refine mm_iload dX13_actBy_96 rfl rfl ?_
        refine mm_iadd dX13_actBy_98 rfl ?_
        refine mm_iret dX13_actBy_99 rfl rfl ?_
        refine mm_fin ?_ rfl
        rw [ks_in_eq hT1]
        first
        | (rw [if_pos h49, if_pos h71]; done)
        | (rw [if_pos h49, if_neg h71]; done)
        | (rw [if_neg h49, if_pos h71]; done)
        | (rw [if_neg h49, if_neg h71]; done)
      · refine mm_iload_n dX13_actBy_74 rfl rfl ?_
        refine mm_S1i dX13_actBy_75 rfl lk_X13_448 (by simp) rfl rfl rfl (c_X13_drumOf (by omega)) ?_
        refine mm_goto dX13_actBy_78 ?_
        refine mm_istore dX13_actBy_82 rfl (Nat.le_of_ble_eq_true rfl) rfl ?_
        refine mm_bipush dX13_actBy_84 rfl (by decide) ?_
        refine mm_iload_n dX13_actBy_86 rfl rfl ?_
        refine mm_bipush dX13_actBy_87 rfl (by decide) ?_
        refine mm_idiv dX13_actBy_89 rfl (by omega) (by omega) (by omega) ?_
        rw [mm_tdiv hT1]
        refine mm_imul dX13_actBy_90 rfl ?_
        refine mm_iconst dX13_actBy_91 rfl ?_
        refine mm_iload dX13_actBy_92 rfl rfl ?_
        refine mm_imul dX13_actBy_94 rfl ?_
        refine mm_iadd dX13_actBy_95 rfl ?_
        refine mm_iload dX13_actBy_96 rfl rfl ?_
        refine mm_iadd dX13_actBy_98 rfl ?_
        refine mm_iret dX13_actBy_99 rfl rfl ?_
        refine mm_fin ?_ rfl
        rw [ks_in_eq hT1]
        first
        | (rw [if_pos h49, if_pos h71]; done)
        | (rw [if_pos h49, if_neg h71]; done)
        | (rw [if_neg h49, if_pos h71]; done)
        | (rw [if_neg h49, if_neg h71]; done)
  have loop : ∀ i : Nat, i ≤ (M 183 20).toNat → mm_J X Y_X13_actBy 243 243 243 10 [(2, 184), (0, s), (0, w), (0, kr_act (kr_ln (mm_rk M) s w (kq_C M) (kq_Q M) (kq_H M) (kq_B M)) (kq_D M) i ((M 183 20).toNat - i)), (0, (i : Int) - 1), (9, 0)] [] M (fun r' M'' => r' = (0, ks_in (mm_rk M) s (kq_T M s w)) ∧ M'' = M) := by
    intro i
    induction i with
    | zero =>
      intro hi
      refine mm_iload dX13_actBy_10 rfl rfl ?_
      refine mm_iflt dX13_actBy_12 (by omega) (fun h12 => ?_) (fun h12 => ?_)
      · exact fin _
      · exfalso; omega
    | succ i ih =>
      intro hi
      have hq := hC.2 i (by omega)
      have eD : M 197 i = kq_D M i := rfl
      have ih := ih (by omega)
      rw [show (M 183 20).toNat - i = ((M 183 20).toNat - (i + 1)) + 1 by omega, kr_act] at ih
      rw [show ((i + 1 : Nat) : Int) - 1 = (i : Int) by omega]
      refine mm_iload dX13_actBy_10 rfl rfl ?_
      refine mm_iflt dX13_actBy_12 (by omega) (fun h12 => ?_) (fun h12 => ?_)
      · exfalso; omega
      · refine mm_aload_n dX13_actBy_15 rfl rfl ?_
        refine mm_iload dX13_actBy_16 rfl rfl ?_
        refine mm_iload_n dX13_actBy_18 rfl rfl ?_
        refine mm_iload_n dX13_actBy_19 rfl rfl ?_
        refine mm_V3i dX13_actBy_20 rfl lk_X13_632 (c := 183) rfl (by decide) rfl (by simp) (by simp) (by simp) rfl rfl rfl (c_X13_holds hR hK hs hw (by omega) hq.1 hq.2.1) ?_
        refine mm_ifeqb dX13_actBy_23 (fun h23 => ?_) (fun h23 => ?_)
        · refine mm_iinc dX13_actBy_34 rfl rfl (Nat.le_of_ble_eq_true rfl) rfl ?_
          refine mm_goto dX13_actBy_37 ?_
          first
          | (rw [if_pos h23] at ih; exact ih)
          | (rw [if_neg h23] at ih; exact ih)
        · refine mm_aload_n dX13_actBy_26 rfl rfl ?_
          refine mm_getr dX13_actBy_27 rfl fl_X13_229 (c := 183) rfl (by decide) rfl rfl (hR.at (c := 183) (i := 26) (v := 198) rfl (by decide)) ?_
          refine mm_iload dX13_actBy_30 rfl rfl ?_
          refine mm_ialk (k0 := i) dX13_actBy_32 rfl (c := 197) rfl (by decide) rfl (by omega) (by omega) ?_
          rw [eD]
          refine mm_istore_n dX13_actBy_33 rfl (Nat.le_of_ble_eq_true rfl) rfl ?_
          refine mm_iinc dX13_actBy_34 rfl rfl (Nat.le_of_ble_eq_true rfl) rfl ?_
          refine mm_goto dX13_actBy_37 ?_
          first
          | (rw [if_pos h23] at ih; exact ih)
          | (rw [if_neg h23] at ih; exact ih)
  refine mm_iconst dX13_actBy_0 rfl ?_
  refine mm_istore_n dX13_actBy_1 rfl (Nat.le_of_ble_eq_true rfl) rfl ?_
  refine mm_aload_n dX13_actBy_2 rfl rfl ?_
  refine mm_get (kd := 0) dX13_actBy_3 rfl fl_X13_394 (c := 183) rfl (by decide) rfl rfl ?_
  refine mm_iconst dX13_actBy_6 rfl ?_
  refine mm_isub dX13_actBy_7 rfl ?_
  refine mm_istore dX13_actBy_8 rfl (Nat.le_of_ble_eq_true rfl) rfl ?_
  have := loop (M 183 20).toNat (Nat.le_refl _)
  rw [Nat.sub_self, kr_act, Int.toNat_of_nonneg hL.1] at this
  exact this
/-- what flyOn leaves -/
def kfl_postT (M M' : mm_M) (L : Nat → Int) (s h e : Int) (n c : Nat) : Prop :=
  kj_is (kfl_ok (mm_rk M) (kq_T M) (kfl_W L (mm_rk M) h e) s) n c ∧ (∀ a, a ≠ 183 → a ≠ 221 → M' a = M a) ∧ (∀ b, ¬ (76 ≤ b ∧ b ≤ 78) → M' 183 b = M 183 b) ∧ M' 183 76 = kfl_end (mm_rk M) (kq_T M) (kfl_W L (mm_rk M) h e) s n c ∧
  M' 183 77 = ka_sum (kfl_g (mm_rk M) (kq_T M) (kfl_W L (mm_rk M) h e) s) c ∧ M' 183 78 = kfl_S (mm_rk M) (kq_T M) (kfl_W L (mm_rk M) h e) s c ∧ (∀ i, i < c → M' 221 i = kfl_a (mm_rk M) (kq_T M) (kfl_W L (mm_rk M) h e) s i)
theorem c_X13_flyOn {P : Prop} [Decidable P] (hR : mm_Rf M) (hK : mm_KV (mm_rk M)) (hA : mm_RA M) (hC : mm_RR M) (hs : ks_st (mm_rk M) s) (hh : ks_hr h) (hn : 1 ≤ n ∧ n ≤ 500) (he : 0 ≤ e ∧ e ≤ 60) :
    mm_C X Y_X13_flyOn 243 243 [(2, 184), (0, s), (0, h), (0, n), (0, e), (0, mm_b P)] M (fun r M' => ∃ c : Nat, r = (0, (c : Int)) ∧ mm_Rf M' ∧ mm_rg M M' ∧ kfl_postT M M' (if P then M 204 else M 203) s h e n.toNat c) := by
  obtain ⟨L, hL⟩ : ∃ L, L = (if P then M 204 else M 203) := ⟨_, rfl⟩
  rw [← hL]
  have hLb : ∀ p, p < 120 → 0 ≤ L p ∧ L p ≤ 60 := by
    intro p hp
    have := hA p hp
    rw [hL]
    split <;> omega
  have hG0 := mm_rg.rf M
  have hnb := ks_nb hK
  obtain ⟨S, hS⟩ : ∃ S, S = kfl_S (mm_rk M) (kq_T M) (kfl_W L (mm_rk M) h e) s := ⟨_, rfl⟩
  have hSs : ∀ i, ks_st (mm_rk M) (S i) := by rw [hS]; exact kfl_st hK (fun s w => kq_T_ac hK hC) hs
  have hWb : ∀ i, 0 ≤ kfl_W L (mm_rk M) h e (S i) i ∧ kfl_W L (mm_rk M) h e (S i) i ≤ 60 := fun i => kfl_Wb hK hLb (hSs i) hh (by omega)
  have hab : ∀ i, ks_ac (mm_rk M) (kfl_a (mm_rk M) (kq_T M) (kfl_W L (mm_rk M) h e) s i) := fun i => ks_in_ac (kq_T_ac hK hC)
  have hpb : ∀ i, 0 ≤ kfl_p (mm_rk M) (kq_T M) (kfl_W L (mm_rk M) h e) s i ∧ kfl_p (mm_rk M) (kq_T M) (kfl_W L (mm_rk M) h e) s i ≤ 1425600 := fun i => ks_pw hK (hab i) (by have := hWb i; rw [hS] at this; exact this)
  refine mm_start (ls := [(2, 184), (0, s), (0, h), (0, n), (0, e), (0, mm_b P), (9, 0), (9, 0), (9, 0), (9, 0), (9, 0), (9, 0)]) rfl ?_
  obtain ⟨hf, hff⟩ : ∃ f : Nat → Int, ∀ i : Nat, f i = (if e = 0 then h else (h + (i : Int) / e) % 24) := ⟨_, fun _ => rfl⟩
  have hfr : ∀ i, ks_hr (hf i) := by
    intro i
    rw [hff]
    split
    · exact hh
    · have : 0 ≤ (i : Int) / e := Int.ediv_nonneg (by omega) (by omega)
      unfold ks_hr
      omega
  -- the end
  have fin : ∀ (i : Nat) (N : mm_M) (l8 l9 l10 l11 : mm_V), i ≤ n.toNat → mm_Rf N → mm_rg M N → (∀ a, a ≠ 183 → a ≠ 221 → N a = M a) → (∀ b, ¬ (76 ≤ b ∧ b ≤ 78) → N 183 b = M 183 b) → (∀ j, j < i → kfl_ok (mm_rk M) (kq_T M) (kfl_W L (mm_rk M) h e) s j) → (i < n.toNat → ¬ kfl_ok (mm_rk M) (kq_T M) (kfl_W L (mm_rk M) h e) s i) →
      N 183 76 = kfl_end (mm_rk M) (kq_T M) (kfl_W L (mm_rk M) h e) s n.toNat i → N 183 77 = ka_sum (kfl_g (mm_rk M) (kq_T M) (kfl_W L (mm_rk M) h e) s) i → (∀ j, j < i → N 221 j = kfl_a (mm_rk M) (kq_T M) (kfl_W L (mm_rk M) h e) s j) →
      mm_J X Y_X13_flyOn 243 243 243 185 [(2, 184), (0, s), (0, h), (0, n), (0, e), (0, mm_b P), (0, S i), (0, (i : Int)), l8, l9, l10, l11] [] N (fun r M' => ∃ c : Nat, r = (0, (c : Int)) ∧ mm_Rf M' ∧ mm_rg M M' ∧ kfl_postT M M' L s h e n.toNat c) := by
    intro i N l8 l9 l10 l11 hi hRN hG hfa hfb hok hno e76 e77 hac
    refine mm_aload_n dX13_flyOn_185 rfl rfl ?_
    refine mm_iload dX13_flyOn_186 rfl rfl ?_
    refine mm_puti dX13_flyOn_188 rfl fl_X13_644 (c := 183) rfl (by decide) rfl rfl (fun M188 hM188 => ?_)
    have hR188 : mm_Rf M188 := by rw [hM188]; exact hRN.up rfl
    have hG188 : mm_rg M M188 := by rw [hM188]; exact hG.up (by decide)
    refine mm_iload dX13_flyOn_191 rfl rfl ?_
    refine mm_iret dX13_flyOn_193 rfl rfl ?_
    refine ⟨i, rfl, hR188, hG188, ⟨hi, hok, hno⟩, ?_, ?_, ?_, ?_, ?_, ?_⟩
    · intro x h1 h2; funext b; simp [hM188, mm_up, h1]; rw [hfa x h1 h2]
    · intro b hb
      have n1 : b ≠ 78 := by omega
      simp [hM188, mm_up, n1]; exact hfb b hb
    · simp [hM188, mm_up, e76]
    · simp [hM188, mm_up, e77]
    · simp [hM188, mm_up, hS]
    · intro j hj; simp [hM188, mm_up]; exact hac j hj
  have loop : ∀ i : Nat, i ≤ n.toNat → ∀ (N : mm_M) (l8 l9 l10 l11 : mm_V), mm_Rf N → mm_rg M N → (∀ a, a ≠ 183 → a ≠ 221 → N a = M a) → (∀ b, ¬ (76 ≤ b ∧ b ≤ 78) → N 183 b = M 183 b) → (∀ j, j < i → kfl_ok (mm_rk M) (kq_T M) (kfl_W L (mm_rk M) h e) s j) →
      N 183 76 = 0 → N 183 77 = ka_sum (kfl_g (mm_rk M) (kq_T M) (kfl_W L (mm_rk M) h e) s) i → (∀ j, j < i → N 221 j = kfl_a (mm_rk M) (kq_T M) (kfl_W L (mm_rk M) h e) s j) →
      mm_J X Y_X13_flyOn 243 243 243 16 [(2, 184), (0, s), (0, h), (0, n), (0, e), (0, mm_b P), (0, S i), (0, (i : Int)), l8, l9, l10, l11] [] N (fun r M' => ∃ c : Nat, r = (0, (c : Int)) ∧ mm_Rf M' ∧ mm_rg M M' ∧ kfl_postT M M' L s h e n.toNat c) := by
    refine mm_lp ?_
    intro i hi ih N l8 l9 l10 l11 hRN hG hfa hfb hok e76 e77 hac
    by_cases hlt : i < n.toNat
    · have hSi := hSs i
      have hWi := hWb i
      have hfi := hfr i
      have hai := hab i
      have hpi := hpb i
      have hslb := ks_slb hK hai
      have ha1 := hai.1
      have hwab := ks_wab hK (d := ks_dr (kfl_a (mm_rk M) (kq_T M) (kfl_W L (mm_rk M) h e) s i)) hpi
      have hsum := ka_sumb (B := 5800000) (n := i) (f := kfl_g (mm_rk M) (kq_T M) (kfl_W L (mm_rk M) h e) s) (fun j hj => ks_wab hK (hpb j))
      have eW : (if P then ks_wi (M 204) (mm_rk M) (S i) (hf i) else ks_wi (M 203) (mm_rk M) (S i) (hf i)) = kfl_W L (mm_rk M) h e (S i) i := by
        unfold kfl_W
        rw [← hff, hL]
        split <;> rfl
      have ea : ks_in (mm_rk M) (S i) (kq_T M (S i) (kfl_W L (mm_rk M) h e (S i) i)) = kfl_a (mm_rk M) (kq_T M) (kfl_W L (mm_rk M) h e) s i := by rw [hS]; rfl
      have ep : ks_p (mm_rk M) (S i) (kfl_a (mm_rk M) (kq_T M) (kfl_W L (mm_rk M) h e) s i) (kfl_W L (mm_rk M) h e (S i) i) = kfl_p (mm_rk M) (kq_T M) (kfl_W L (mm_rk M) h e) s i := by rw [hS]; rfl
      have eS : ks_to (mm_rk M) (S i) (kfl_a (mm_rk M) (kq_T M) (kfl_W L (mm_rk M) h e) s i) = S (i + 1) := by rw [hS]; rfl
      have f186 : N 186 = M 186 := hG.1
      have e4 : mm_rk M 4 = M 186 4 := rfl
      have e5 : mm_rk M 5 = M 186 5 := rfl
      have b4 : 0 ≤ M 186 4 ∧ M 186 4 ≤ 9999 := hK.2.2.2.2.1
      have b5 : 1 ≤ M 186 5 ∧ M 186 5 ≤ 99999 := hK.2.2.2.2.2.1
      have hRR : mm_RR N := hG.rr (hfb 20 (by omega)) (hfa 193 (by decide) (by decide)) (hfa 194 (by decide) (by decide)) (hfa 195 (by decide) (by decide)) (hfa 196 (by decide) (by decide)) (hfa 197 (by decide) (by decide)) hC
      have hqt : kq_T N = kq_T M := hG.qt (hfb 20 (by omega)) (hfa 193 (by decide) (by decide)) (hfa 194 (by decide) (by decide)) (hfa 195 (by decide) (by decide)) (hfa 196 (by decide) (by decide)) (hfa 197 (by decide) (by decide))
      have cA := c_X13_actBy (X := X) (M := N) (s := S i) (w := kfl_W L (mm_rk M) h e (S i) i) hRN (by rw [hG.k]; exact hK) hRR (by rw [hG.k]; exact hSi) hWi
      rw [hqt, hG.k, ea] at cA
      -- behind the fate
      have nx2 : ∀ (z : Int), z = ks_fate (mm_rk M) (kfl_p (mm_rk M) (kq_T M) (kfl_W L (mm_rk M) h e) s i) → mm_J X Y_X13_flyOn 243 243 243 130 [(2, 184), (0, s), (0, h), (0, n), (0, e), (0, mm_b P), (0, S i), (0, (i : Int)), (0, hf i), (0, kfl_W L (mm_rk M) h e (S i) i), (0, kfl_a (mm_rk M) (kq_T M) (kfl_W L (mm_rk M) h e) s i), (0, kfl_p (mm_rk M) (kq_T M) (kfl_W L (mm_rk M) h e) s i)] [(0, z), (2, 184)] N (fun r M' => ∃ c : Nat, r = (0, (c : Int)) ∧ mm_Rf M' ∧ mm_rg M M' ∧ kfl_postT M M' L s h e n.toNat c) := by
        intro z hz
        have hfb2 := ks_fateb (K := mm_rk M) (p := kfl_p (mm_rk M) (kq_T M) (kfl_W L (mm_rk M) h e) s i)
        by_cases hf0 : z = 0
        · refine mm_puti dX13_flyOn_130 rfl fl_X13_635 (c := 183) rfl (by decide) rfl rfl (fun M130 hM130 => ?_)
          have hR130 : mm_Rf M130 := by rw [hM130]; exact hRN.up rfl
          have hG130 : mm_rg M M130 := by rw [hM130]; exact hG.up (by decide)
          refine mm_aload_n dX13_flyOn_133 rfl rfl ?_
          refine mm_get (kd := 0) dX13_flyOn_134 rfl fl_X13_635 (c := 183) rfl (by decide) rfl rfl ?_
          obtain ⟨v134, hv134⟩ : ∃ v, v = M130 183 76 := ⟨_, rfl⟩
          rw [← hv134]
          rw [hM130, mm_up_s] at hv134
          subst hv134
          refine mm_ifle dX13_flyOn_137 (by omega) (fun h137 => ?_) (fun h137 => ?_)
          · refine mm_aload_n dX13_flyOn_143 rfl rfl ?_
            refine mm_dup dX13_flyOn_144 rfl (by simp) ?_
            refine mm_get (kd := 0) dX13_flyOn_145 rfl fl_X13_638 (c := 183) rfl (by decide) rfl rfl ?_
            obtain ⟨v145, hv145⟩ : ∃ v, v = M130 183 77 := ⟨_, rfl⟩
            rw [← hv145]
            rw [hM130, mm_up_i (by decide), e77] at hv145
            subst hv145
            refine mm_aload_n dX13_flyOn_148 rfl rfl ?_
            refine mm_iload dX13_flyOn_149 rfl rfl ?_
            refine mm_iload dX13_flyOn_151 rfl rfl ?_
            refine mm_V2i dX13_flyOn_153 rfl lk_X13_507 (c := 183) rfl (by decide) rfl (by simp) (by simp) rfl rfl rfl (g_X13_workOf hR130 hG130 hK (by omega) hpi) ?_
            refine mm_iadd dX13_flyOn_156 rfl ?_
            refine mm_puti dX13_flyOn_157 rfl fl_X13_638 (c := 183) rfl (by decide) rfl rfl (fun M157 hM157 => ?_)
            have hR157 : mm_Rf M157 := by rw [hM157]; exact hR130.up rfl
            have hG157 : mm_rg M M157 := by rw [hM157]; exact hG130.up (by decide)
            refine mm_aload_n dX13_flyOn_160 rfl rfl ?_
            refine mm_getr dX13_flyOn_161 rfl fl_X13_310 (c := 183) rfl (by decide) rfl rfl (hR157.at (c := 183) (i := 74) (v := 222) rfl (by decide)) ?_
            refine mm_iload dX13_flyOn_164 rfl rfl ?_
            refine mm_iload dX13_flyOn_166 rfl rfl ?_
            refine mm_istk (k0 := i) dX13_flyOn_168 rfl (c := 221) rfl (by decide) rfl (by omega) (by omega) (fun M168 hM168 => ?_)
            have hR168 : mm_Rf M168 := by rw [hM168]; exact hR157.up (mm_rt_ar (t := 0) rfl (by decide))
            have hG168 : mm_rg M M168 := by rw [hM168]; exact hG157.upa (by decide)
            refine mm_aload_n dX13_flyOn_169 rfl rfl ?_
            refine mm_iload dX13_flyOn_170 rfl rfl ?_
            refine mm_iload dX13_flyOn_172 rfl rfl ?_
            refine mm_V2i dX13_flyOn_174 rfl lk_X13_476 (c := 183) rfl (by decide) rfl (by simp) (by simp) rfl rfl rfl (g_X13_after hR168 hG168 (by omega)) ?_
            rw [eS]
            refine mm_istore dX13_flyOn_177 rfl (Nat.le_of_ble_eq_true rfl) rfl ?_
            refine mm_iinc dX13_flyOn_179 rfl rfl (Nat.le_of_ble_eq_true rfl) rfl ?_
            refine mm_goto dX13_flyOn_182 ?_
            refine ih hlt _ _ _ _ _ hR168 hG168 ?_ ?_ ?_ ?_ ?_ ?_
            · intro x h1 h2; funext b; simp [hM168, hM157, hM130, mm_up, h1, h2]; rw [hfa x h1 h2]
            · intro b hb
              have n1 : b ≠ 76 := by omega
              have n2 : b ≠ 77 := by omega
              simp [hM168, hM157, hM130, mm_up, n1, n2]; exact hfb b hb
            · intro j hj
              by_cases q : j = i
              · rw [q]; exact hz.symm.trans hf0
              · exact hok j (by omega)
            · simp [hM168, hM157, hM130, mm_up, hf0]
            · simp [hM168, hM157, hM130, mm_up]; rfl
            · intro j hj
              by_cases q : j = i
              · simp [hM168, hM157, hM130, mm_up, q]
              · simp [hM168, hM157, hM130, mm_up, q]; exact hac j (by omega)
          · exfalso; omega
        · refine mm_puti dX13_flyOn_130 rfl fl_X13_635 (c := 183) rfl (by decide) rfl rfl (fun M130 hM130 => ?_)
          have hR130 : mm_Rf M130 := by rw [hM130]; exact hRN.up rfl
          have hG130 : mm_rg M M130 := by rw [hM130]; exact hG.up (by decide)
          refine mm_aload_n dX13_flyOn_133 rfl rfl ?_
          refine mm_get (kd := 0) dX13_flyOn_134 rfl fl_X13_635 (c := 183) rfl (by decide) rfl rfl ?_
          obtain ⟨v134, hv134⟩ : ∃ v, v = M130 183 76 := ⟨_, rfl⟩
          rw [← hv134]
          rw [hM130, mm_up_s] at hv134
          subst hv134
          refine mm_ifle dX13_flyOn_137 (by omega) (fun h137 => ?_) (fun h137 => ?_)
          · exfalso; omega
          · refine mm_goto dX13_flyOn_140 ?_
            refine mm_iload dX13_flyOn_16 rfl rfl ?_
            refine mm_iload_n dX13_flyOn_18 rfl rfl ?_
            refine mm_icge dX13_flyOn_19 (by omega) (by omega) (fun h19 => ?_) (fun h19 => ?_)
            · exfalso; omega
            · refine mm_aload_n dX13_flyOn_22 rfl rfl ?_
              refine mm_get (kd := 0) dX13_flyOn_23 rfl fl_X13_635 (c := 183) rfl (by decide) rfl rfl ?_
              obtain ⟨v23, hv23⟩ : ∃ v, v = M130 183 76 := ⟨_, rfl⟩
              rw [← hv23]
              rw [hM130, mm_up_s] at hv23
              subst hv23
              refine mm_ifne dX13_flyOn_26 (by omega) (fun h26 => ?_) (fun h26 => ?_)
              · refine fin i _ _ _ _ _ hi hR130 hG130 ?_ ?_ hok (fun _ q => hf0 (hz.trans q)) ?_ ?_ ?_
                · intro x h1 h2; funext b; simp [hM130, mm_up, h1]; rw [hfa x h1 h2]
                · intro b hb
                  have n1 : b ≠ 76 := by omega
                  simp [hM130, mm_up, n1]; exact hfb b hb
                · simp [hM130, mm_up]; unfold kfl_end; rw [if_pos hlt]; exact hz
                · simp [hM130, mm_up, e77]
                · intro j hj; simp [hM130, mm_up]; exact hac j hj
              · exfalso; omega
      -- behind the hour and the wind
      have nx1 : ∀ (z : Int) (l9 l10 l11 : mm_V), z = kfl_W L (mm_rk M) h e (S i) i → mm_J X Y_X13_flyOn 243 243 243 74 [(2, 184), (0, s), (0, h), (0, n), (0, e), (0, mm_b P), (0, S i), (0, (i : Int)), (0, hf i), l9, l10, l11] [(0, z)] N (fun r M' => ∃ c : Nat, r = (0, (c : Int)) ∧ mm_Rf M' ∧ mm_rg M M' ∧ kfl_postT M M' L s h e n.toNat c) := by
        intro z l9 l10 l11 hz
        subst hz
        refine mm_istore dX13_flyOn_74 rfl (Nat.le_of_ble_eq_true rfl) rfl ?_
        refine mm_aload_n dX13_flyOn_76 rfl rfl ?_
        refine mm_iload dX13_flyOn_77 rfl rfl ?_
        refine mm_iload dX13_flyOn_79 rfl rfl ?_
        refine mm_V2i dX13_flyOn_81 rfl lk_X13_641 (c := 183) rfl (by decide) rfl (by simp) (by simp) rfl rfl rfl (cA) ?_
        refine mm_istore dX13_flyOn_84 rfl (Nat.le_of_ble_eq_true rfl) rfl ?_
        refine mm_aload_n dX13_flyOn_86 rfl rfl ?_
        refine mm_iload dX13_flyOn_87 rfl rfl ?_
        refine mm_iload dX13_flyOn_89 rfl rfl ?_
        refine mm_iload dX13_flyOn_91 rfl rfl ?_
        refine mm_V3i dX13_flyOn_93 rfl lk_X13_497 (c := 183) rfl (by decide) rfl (by simp) (by simp) (by simp) rfl rfl rfl ((ep ▸ g_X13_pullOf hRN hG hK hSi hai (by omega))) ?_
        refine mm_istore dX13_flyOn_96 rfl (Nat.le_of_ble_eq_true rfl) rfl ?_
        refine mm_aload_n dX13_flyOn_98 rfl rfl ?_
        refine mm_iload dX13_flyOn_99 rfl rfl ?_
        refine mm_aload_n dX13_flyOn_101 rfl rfl ?_
        refine mm_getr dX13_flyOn_102 rfl fl_X13_151 (c := 183) rfl (by decide) rfl rfl (hRN.at (c := 183) (i := 10) (v := 187) rfl (by decide)) ?_
        refine mm_iconst dX13_flyOn_105 rfl ?_
        refine mm_ialk (k0 := 4) dX13_flyOn_106 rfl (c := 186) rfl (by decide) rfl rfl (by decide) ?_
        rw [f186]
        refine mm_icge dX13_flyOn_107 (by omega) (by omega) (fun h107 => ?_) (fun h107 => ?_)
        · refine mm_iload dX13_flyOn_114 rfl rfl ?_
          refine mm_aload_n dX13_flyOn_116 rfl rfl ?_
          refine mm_getr dX13_flyOn_117 rfl fl_X13_151 (c := 183) rfl (by decide) rfl rfl (hRN.at (c := 183) (i := 10) (v := 187) rfl (by decide)) ?_
          refine mm_iconst dX13_flyOn_120 rfl ?_
          refine mm_ialk (k0 := 5) dX13_flyOn_121 rfl (c := 186) rfl (by decide) rfl rfl (by decide) ?_
          rw [f186]
          refine mm_icle_d (q2 := 130) dX13_flyOn_122 (by omega) (by omega) (fun k => mm_iconst dX13_flyOn_129 rfl k) (fun k => mm_iconst dX13_flyOn_125 rfl (mm_goto dX13_flyOn_126 k)) ?_
          refine nx2 _ ?_
          unfold ks_fate
          rw [e4, e5]
          split <;> (try split) <;> (try split) <;> omega
        · refine mm_iconst dX13_flyOn_110 rfl ?_
          refine mm_goto dX13_flyOn_111 ?_
          refine nx2 _ ?_
          unfold ks_fate
          rw [e4, e5]
          split <;> (try split) <;> (try split) <;> omega
      have nx0 : ∀ (z : Int) (l8 l9 l10 l11 : mm_V), z = hf i → mm_J X Y_X13_flyOn 243 243 243 48 [(2, 184), (0, s), (0, h), (0, n), (0, e), (0, mm_b P), (0, S i), (0, (i : Int)), l8, l9, l10, l11] [(0, z)] N (fun r M' => ∃ c : Nat, r = (0, (c : Int)) ∧ mm_Rf M' ∧ mm_rg M M' ∧ kfl_postT M M' L s h e n.toNat c) := by
        intro z l8 l9 l10 l11 hz
        subst hz
        refine mm_istore dX13_flyOn_48 rfl (Nat.le_of_ble_eq_true rfl) rfl ?_
        refine mm_iload dX13_flyOn_50 rfl rfl ?_
        refine mm_ifeqb dX13_flyOn_52 (fun h52 => ?_) (fun h52 => ?_)
        · refine mm_aload_n dX13_flyOn_66 rfl rfl ?_
          refine mm_iload dX13_flyOn_67 rfl rfl ?_
          refine mm_iload dX13_flyOn_69 rfl rfl ?_
          refine mm_V2i dX13_flyOn_71 rfl lk_X13_504 (c := 183) rfl (by decide) rfl (by simp) (by simp) rfl rfl rfl (g_X13_lowAt hRN hG hK hSi hfi) ?_
          refine nx1 _ _ _ _ ?_
          rw [← eW]
          first
          | (rw [if_pos h52]; done)
          | (rw [if_neg h52]; done)
        · refine mm_aload_n dX13_flyOn_55 rfl rfl ?_
          refine mm_iload dX13_flyOn_56 rfl rfl ?_
          refine mm_iload dX13_flyOn_58 rfl rfl ?_
          refine mm_V2i dX13_flyOn_60 rfl lk_X13_501 (c := 183) rfl (by decide) rfl (by simp) (by simp) rfl rfl rfl (g_X13_highAt hRN hG hK hSi hfi) ?_
          refine mm_goto dX13_flyOn_63 ?_
          refine nx1 _ _ _ _ ?_
          rw [← eW]
          first
          | (rw [if_pos h52]; done)
          | (rw [if_neg h52]; done)
      refine mm_iload dX13_flyOn_16 rfl rfl ?_
      refine mm_iload_n dX13_flyOn_18 rfl rfl ?_
      refine mm_icge dX13_flyOn_19 (by omega) (by omega) (fun h19 => ?_) (fun h19 => ?_)
      · exfalso; omega
      · refine mm_aload_n dX13_flyOn_22 rfl rfl ?_
        refine mm_get (kd := 0) dX13_flyOn_23 rfl fl_X13_635 (c := 183) rfl (by decide) rfl rfl ?_
        obtain ⟨v23, hv23⟩ : ∃ v, v = N 183 76 := ⟨_, rfl⟩
        rw [← hv23]
        rw [e76] at hv23
        subst hv23
        refine mm_ifne dX13_flyOn_26 (by omega) (fun h26 => ?_) (fun h26 => ?_)
        · exfalso; omega
        · refine mm_iload dX13_flyOn_29 rfl rfl ?_
          refine mm_ifne dX13_flyOn_31 (by omega) (fun h31 => ?_) (fun h31 => ?_)
          · refine mm_iload_n dX13_flyOn_38 rfl rfl ?_
            refine mm_iload dX13_flyOn_39 rfl rfl ?_
            refine mm_iload dX13_flyOn_41 rfl rfl ?_
            refine mm_idiv dX13_flyOn_43 rfl (by omega) (by omega) (by omega) ?_
            rw [mm_tdiv (by omega)]
            refine mm_iadd dX13_flyOn_44 rfl ?_
            refine mm_bipush dX13_flyOn_45 rfl (by decide) ?_
            refine mm_irem dX13_flyOn_47 rfl (by (have : 0 ≤ (i : Int) / e := Int.ediv_nonneg (by omega) (by omega)); have := Int.ediv_le_self e (show 0 ≤ (i : Int) by omega); omega) (by omega) (by omega) ?_
            refine nx0 _ _ _ _ _ ?_
            rw [hff]
            first
            | (rw [if_pos h31]; done)
            | (rw [if_neg h31, mm_tmod (by have : 0 ≤ (i : Int) / e := Int.ediv_nonneg (by omega) (by omega); omega)]; done)
          · refine mm_iload_n dX13_flyOn_34 rfl rfl ?_
            refine mm_goto dX13_flyOn_35 ?_
            refine nx0 _ _ _ _ _ ?_
            rw [hff]
            first
            | (rw [if_pos h31]; done)
            | (rw [if_neg h31, mm_tmod (by have : 0 ≤ (i : Int) / e := Int.ediv_nonneg (by omega) (by omega); omega)]; done)
    · refine mm_iload dX13_flyOn_16 rfl rfl ?_
      refine mm_iload_n dX13_flyOn_18 rfl rfl ?_
      refine mm_icge dX13_flyOn_19 (by omega) (by omega) (fun h19 => ?_) (fun h19 => ?_)
      · exact fin i _ _ _ _ _ hi hRN hG hfa hfb hok (fun q => absurd q hlt) (by rw [e76]; unfold kfl_end; rw [if_neg hlt]) e77 hac
      · exfalso; omega
  refine mm_iload_n dX13_flyOn_0 rfl rfl ?_
  refine mm_istore dX13_flyOn_1 rfl (Nat.le_of_ble_eq_true rfl) rfl ?_
  refine mm_aload_n dX13_flyOn_3 rfl rfl ?_
  refine mm_iconst dX13_flyOn_4 rfl ?_
  refine mm_puti dX13_flyOn_5 rfl fl_X13_635 (c := 183) rfl (by decide) rfl rfl (fun M5 hM5 => ?_)
  have hR5 : mm_Rf M5 := by rw [hM5]; exact hR.up rfl
  have hG5 : mm_rg M M5 := by rw [hM5]; exact hG0.up (by decide)
  refine mm_aload_n dX13_flyOn_8 rfl rfl ?_
  refine mm_iconst dX13_flyOn_9 rfl ?_
  refine mm_puti dX13_flyOn_10 rfl fl_X13_638 (c := 183) rfl (by decide) rfl rfl (fun M10 hM10 => ?_)
  have hR10 : mm_Rf M10 := by rw [hM10]; exact hR5.up rfl
  have hG10 : mm_rg M M10 := by rw [hM10]; exact hG5.up (by decide)
  refine mm_iconst dX13_flyOn_13 rfl ?_
  refine mm_istore dX13_flyOn_14 rfl (Nat.le_of_ble_eq_true rfl) rfl ?_
  have h0 := loop 0 (Nat.zero_le _) M10 (9, 0) (9, 0) (9, 0) (9, 0) hR10 hG10 ?_ ?_ (fun j q => absurd q (Nat.not_lt_zero j)) ?_ ?_ (fun j q => absurd q (Nat.not_lt_zero j))
  · rw [show S 0 = s by rw [hS]; rfl] at h0
    exact h0
  · intro x h1 h2; funext b; simp [hM10, hM5, mm_up, h1]
  · intro b hb
    have n1 : b ≠ 76 := by omega
    have n2 : b ≠ 77 := by omega
    simp [hM10, hM5, mm_up, n1, n2]
  · simp [hM10, hM5, mm_up]
  · simp [hM10, hM5, mm_up]; rfl
end
end
/-! 78.rfly2 -/
section
/-! ===== fly and held of the reference ===== -/
noncomputable def kh_f (P : Nat → Prop) (j : Nat) : Int := @ite Int (P j) (Classical.propDecidable (P j)) 1 0
theorem kh_f1 {P : Nat → Prop} {j : Nat} (h : P j) : kh_f P j = 1 := by unfold kh_f; rw [if_pos h]
theorem kh_f0 {P : Nat → Prop} {j : Nat} (h : ¬ P j) : kh_f P j = 0 := by unfold kh_f; rw [if_neg h]
theorem kh_fb (P : Nat → Prop) (j : Nat) : 0 ≤ kh_f P j ∧ kh_f P j ≤ 1 := by
  by_cases h : P j
  · rw [kh_f1 h]; omega
  · rw [kh_f0 h]; omega
theorem ka_sum_congr {f g : Nat → Int} : ∀ {n : Nat}, (∀ i, i < n → f i = g i) → ka_sum f n = ka_sum g n
  | 0, _ => rfl
  | n + 1, h => by unfold ka_sum; rw [ka_sum_congr (fun i hi => h i (by omega)), h n (by omega)]
/-- held in 200 ticks at one hour by the winds L -/
def kh_ok (K : Nat → Int) (T : Int → Int → Int) (L : Nat → Int) (h s : Int) : Prop := ∀ i, i < 200 → kfl_ok K T (kfl_W L K h 0) s i
theorem kh_is {K : Nat → Int} {T : Int → Int → Int} {L : Nat → Int} {h s : Int} {c : Nat} (q : kj_is (kfl_ok K T (kfl_W L K h 0) s) 200 c) : (c : Int) = 200 ↔ kh_ok K T L h s := by
  constructor
  · intro e i hi
    exact q.2.1 i (by omega)
  · intro hk
    rcases Nat.lt_or_ge c 200 with z | z
    · exact absurd (hk c z) (q.2.2 z)
    · have := q.1
      omega
section
variable {X : mm_X} {M : mm_M} {s w h e n : Int}
def kfl_postR (M M' : mm_M) (L : Nat → Int) (s h e : Int) (n c : Nat) : Prop :=
  kj_is (kfl_ok (mm_rk M) (kq_T M) (kfl_W L (mm_rk M) h e) s) n c ∧ (∀ a, a ≠ 183 → a ≠ 220 → a ≠ 221 → M' a = M a) ∧ (∀ b, ¬ (69 ≤ b ∧ b ≤ 72) → ¬ (75 ≤ b ∧ b ≤ 78) → M' 183 b = M 183 b) ∧ M' 183 75 = 1 ∧ M' 183 72 = c ∧ M' 183 69 = kfl_end (mm_rk M) (kq_T M) (kfl_W L (mm_rk M) h e) s n c ∧
  M' 183 70 = ka_sum (kfl_g (mm_rk M) (kq_T M) (kfl_W L (mm_rk M) h e) s) c ∧ M' 183 71 = kfl_S (mm_rk M) (kq_T M) (kfl_W L (mm_rk M) h e) s c ∧ (∀ i, i < c → M' 220 i = kfl_a (mm_rk M) (kq_T M) (kfl_W L (mm_rk M) h e) s i)
theorem c_X13_fly1 {P : Prop} [Decidable P] (hR : mm_Rf M) (hK : mm_KV (mm_rk M)) (hA : mm_RA M) (hC : mm_RR M) (hs : ks_st (mm_rk M) s) (hh : ks_hr h) (hn : 1 ≤ n ∧ n ≤ 500) (he : 1 ≤ e ∧ e ≤ 60) :
    mm_C X Y_X13_fly 243 243 [(2, 184), (0, s), (0, h), (0, n), (0, e), (0, mm_b P)] M (fun r M' => ∃ c : Nat, r = (0, (c : Int)) ∧ mm_Rf M' ∧ mm_rg M M' ∧ kfl_postR M M' (if P then M 204 else M 203) s h e n.toNat c) := by
  have hnb := ks_nb hK
  have hs1 := hs.1
  have hs2 := hs.2
  have hG0 := mm_rg.rf M
  obtain ⟨L, hL⟩ : ∃ L, L = (if P then M 204 else M 203) := ⟨_, rfl⟩
  have cf := c_X13_flyOn (X := X) (P := P) hR hK hA hC hs hh hn (by omega : 0 ≤ e ∧ e ≤ 60)
  rw [← hL] at cf ⊢
  refine mm_start (ls := [(2, 184), (0, s), (0, h), (0, n), (0, e), (0, mm_b P), (9, 0)]) rfl ?_
  have loop : ∀ (c : Nat), c ≤ 500 → kj_is (kfl_ok (mm_rk M) (kq_T M) (kfl_W L (mm_rk M) h e) s) n.toNat c → ∀ i : Nat, i ≤ c → ∀ N : mm_M, mm_Rf N → mm_rg M N → (∀ a, a ≠ 183 → a ≠ 220 → a ≠ 221 → N a = M a) → (∀ b, ¬ (69 ≤ b ∧ b ≤ 72) → ¬ (75 ≤ b ∧ b ≤ 78) → N 183 b = M 183 b) →
      N 183 72 = c → N 183 69 = kfl_end (mm_rk M) (kq_T M) (kfl_W L (mm_rk M) h e) s n.toNat c → N 183 70 = ka_sum (kfl_g (mm_rk M) (kq_T M) (kfl_W L (mm_rk M) h e) s) c → N 183 71 = kfl_S (mm_rk M) (kq_T M) (kfl_W L (mm_rk M) h e) s c →
      (∀ j, j < c → N 221 j = kfl_a (mm_rk M) (kq_T M) (kfl_W L (mm_rk M) h e) s j) → (∀ j, j < i → N 220 j = kfl_a (mm_rk M) (kq_T M) (kfl_W L (mm_rk M) h e) s j) →
      mm_J X Y_X13_fly 243 243 243 85 [(2, 184), (0, s), (0, h), (0, n), (0, e), (0, mm_b P), (0, (i : Int))] [] N (fun r M' => ∃ c : Nat, r = (0, (c : Int)) ∧ mm_Rf M' ∧ mm_rg M M' ∧ kfl_postR M M' L s h e n.toNat c) := by
    intro c hc hcs
    refine mm_lp ?_
    intro i hi ih N hRN hG hfa hfb e72 e69 e70 e71 hta hfl
    by_cases hlt : i < c
    · have etr := hta i hlt
      refine mm_iload dX13_fly_85 rfl rfl ?_
      refine mm_aload_n dX13_fly_87 rfl rfl ?_
      refine mm_get (kd := 0) dX13_fly_88 rfl fl_X13_653 (c := 183) rfl (by decide) rfl rfl ?_
      obtain ⟨v88, hv88⟩ : ∃ v, v = N 183 72 := ⟨_, rfl⟩
      rw [← hv88]
      rw [e72] at hv88
      subst hv88
      refine mm_icge dX13_fly_91 (by omega) (by omega) (fun h91 => ?_) (fun h91 => ?_)
      · exfalso; omega
      · refine mm_aload_n dX13_fly_94 rfl rfl ?_
        refine mm_getr dX13_fly_95 rfl fl_X13_307 (c := 183) rfl (by decide) rfl rfl (hRN.at (c := 183) (i := 73) (v := 221) rfl (by decide)) ?_
        refine mm_iload dX13_fly_98 rfl rfl ?_
        refine mm_aload_n dX13_fly_100 rfl rfl ?_
        refine mm_getr dX13_fly_101 rfl fl_X13_310 (c := 183) rfl (by decide) rfl rfl (hRN.at (c := 183) (i := 74) (v := 222) rfl (by decide)) ?_
        refine mm_iload dX13_fly_104 rfl rfl ?_
        refine mm_ialk (k0 := i) dX13_fly_106 rfl (c := 221) rfl (by decide) rfl (by omega) (by omega) ?_
        rw [etr]
        refine mm_istk (k0 := i) dX13_fly_107 rfl (c := 220) rfl (by decide) rfl (by omega) (by omega) (fun M107 hM107 => ?_)
        have hR107 : mm_Rf M107 := by rw [hM107]; exact hRN.up (mm_rt_ar (t := 0) rfl (by decide))
        have hG107 : mm_rg M M107 := by rw [hM107]; exact hG.upa (by decide)
        refine mm_iinc dX13_fly_108 rfl rfl (Nat.le_of_ble_eq_true rfl) rfl ?_
        refine mm_goto dX13_fly_111 ?_
        refine ih hlt _ hR107 hG107 ?_ ?_ ?_ ?_ ?_ ?_ ?_ ?_
        · intro x h1 h2 h3; funext b; simp [hM107, mm_up, h2]; rw [hfa x h1 h2 h3]
        · intro b hb hb2; simp [hM107, mm_up]; exact hfb b hb hb2
        · simp [hM107, mm_up, e72]
        · simp [hM107, mm_up, e69]
        · simp [hM107, mm_up, e70]
        · simp [hM107, mm_up, e71]
        · intro j hj; simp [hM107, mm_up]; exact hta j hj
        · intro j hj
          by_cases q : j = i
          · simp [hM107, mm_up, q]
          · simp [hM107, mm_up, q]; exact hfl j (by omega)
    · have ei : i = c := by omega
      refine mm_iload dX13_fly_85 rfl rfl ?_
      refine mm_aload_n dX13_fly_87 rfl rfl ?_
      refine mm_get (kd := 0) dX13_fly_88 rfl fl_X13_653 (c := 183) rfl (by decide) rfl rfl ?_
      obtain ⟨v88, hv88⟩ : ∃ v, v = N 183 72 := ⟨_, rfl⟩
      rw [← hv88]
      rw [e72] at hv88
      subst hv88
      refine mm_icge dX13_fly_91 (by omega) (by omega) (fun h91 => ?_) (fun h91 => ?_)
      · refine mm_aload_n dX13_fly_114 rfl rfl ?_
        refine mm_iconst dX13_fly_115 rfl ?_
        refine mm_putz dX13_fly_116 rfl fl_X13_665 (c := 183) rfl (by decide) rfl rfl (Or.inr rfl) (fun M116 hM116 => ?_)
        have hR116 : mm_Rf M116 := by rw [hM116]; exact hRN.up rfl
        have hG116 : mm_rg M M116 := by rw [hM116]; exact hG.up (by decide)
        refine mm_aload_n dX13_fly_119 rfl rfl ?_
        refine mm_get (kd := 0) dX13_fly_120 rfl fl_X13_653 (c := 183) rfl (by decide) rfl rfl ?_
        obtain ⟨v120, hv120⟩ : ∃ v, v = M116 183 72 := ⟨_, rfl⟩
        rw [← hv120]
        rw [hM116, mm_up_i (by decide), e72] at hv120
        subst hv120
        refine mm_iret dX13_fly_123 rfl rfl ?_
        refine ⟨c, rfl, hR116, hG116, hcs, ?_, ?_, ?_, ?_, ?_, ?_, ?_, ?_⟩
        · intro x h1 h2 h3; funext b; simp [hM116, mm_up, h1]; rw [hfa x h1 h2 h3]
        · intro b hb hb2
          have n1 : b ≠ 75 := by omega
          simp [hM116, mm_up, n1]; exact hfb b hb hb2
        · simp [hM116, mm_up]
        · simp [hM116, mm_up, e72]
        · simp [hM116, mm_up, e69]
        · simp [hM116, mm_up, e70]
        · simp [hM116, mm_up, e71]
        · intro j hj; simp [hM116, mm_up]; exact hfl j (by omega)
      · exfalso; omega
  refine mm_aload_n dX13_fly_0 rfl rfl ?_
  refine mm_iload_n dX13_fly_1 rfl rfl ?_
  refine mm_V1i dX13_fly_2 rfl lk_X13_464 (c := 183) rfl (by decide) rfl (by simp) rfl rfl rfl (g_X13_isState hR hG0 hK (by omega)) ?_
  refine mm_ifeqb dX13_fly_5 (fun h5 => ?_) (fun h5 => ?_)
  · exact absurd hs h5
  · refine mm_iload_n dX13_fly_8 rfl rfl ?_
    refine mm_S1i dX13_fly_9 rfl lk_X13_486 (by simp) rfl rfl rfl (c_X13_isHour (by omega)) ?_
    refine mm_ifeqb dX13_fly_12 (fun h12 => ?_) (fun h12 => ?_)
    · exact absurd hh h12
    · refine mm_iload_n dX13_fly_15 rfl rfl ?_
      refine mm_i2l dX13_fly_16 rfl (by omega) ?_
      refine mm_lconst1 dX13_fly_17 rfl ?_
      refine mm_ldc2 dX13_fly_18 rfl kc_X13_647 ?_
      refine mm_S3i dX13_fly_21 rfl lk_X13_5 (by simp) (by simp) (by simp) rfl rfl rfl (c_X13_in (by omega) (by omega) (by omega)) ?_
      refine mm_ifeqb dX13_fly_24 (fun h24 => ?_) (fun h24 => ?_)
      · exfalso; omega
      · refine mm_iload dX13_fly_27 rfl rfl ?_
        refine mm_i2l dX13_fly_29 rfl (by omega) ?_
        refine mm_lconst1 dX13_fly_30 rfl ?_
        refine mm_ldc2 dX13_fly_31 rfl kc_X13_492 ?_
        refine mm_S3i dX13_fly_34 rfl lk_X13_5 (by simp) (by simp) (by simp) rfl rfl rfl (c_X13_in (by omega) (by omega) (by omega)) ?_
        refine mm_ifneb dX13_fly_37 (fun h37 => ?_) (fun h37 => ?_)
        · refine mm_aload_n dX13_fly_43 rfl rfl ?_
          refine mm_aload_n dX13_fly_44 rfl rfl ?_
          refine mm_iload_n dX13_fly_45 rfl rfl ?_
          refine mm_iload_n dX13_fly_46 rfl rfl ?_
          refine mm_iload_n dX13_fly_47 rfl rfl ?_
          refine mm_iload dX13_fly_48 rfl rfl ?_
          refine mm_iload dX13_fly_50 rfl rfl ?_
          refine mm_V5g (M1 := M) dX13_fly_52 rfl lk_X13_649 (c := 183) rfl (by decide) rfl (by simp) (by simp) (by simp) (by simp) (by simp) rfl rfl rfl (cf) ?_
          rintro _ N52 ⟨x52, rfl, p52⟩
          change mm_J _ _ _ _ _ _ _ _ _ _
          have hR52 : mm_Rf N52 := p52.1
          have hG52 : mm_rg M N52 := hG0.tr p52.2.1
          obtain ⟨-, -, q1, q2, q3, q4, q5, q6, q7⟩ := p52
          refine mm_puti dX13_fly_55 rfl fl_X13_653 (c := 183) rfl (by decide) rfl rfl (fun M55 hM55 => ?_)
          have hR55 : mm_Rf M55 := by rw [hM55]; exact hR52.up rfl
          have hG55 : mm_rg M M55 := by rw [hM55]; exact hG52.up (by decide)
          refine mm_aload_n dX13_fly_58 rfl rfl ?_
          refine mm_aload_n dX13_fly_59 rfl rfl ?_
          refine mm_get (kd := 0) dX13_fly_60 rfl fl_X13_635 (c := 183) rfl (by decide) rfl rfl ?_
          obtain ⟨v60, hv60⟩ : ∃ v, v = M55 183 76 := ⟨_, rfl⟩
          rw [← hv60]
          rw [hM55, mm_up_i (by decide)] at hv60
          subst hv60
          refine mm_puti dX13_fly_63 rfl fl_X13_656 (c := 183) rfl (by decide) rfl rfl (fun M63 hM63 => ?_)
          have hR63 : mm_Rf M63 := by rw [hM63]; exact hR55.up rfl
          have hG63 : mm_rg M M63 := by rw [hM63]; exact hG55.up (by decide)
          refine mm_aload_n dX13_fly_66 rfl rfl ?_
          refine mm_aload_n dX13_fly_67 rfl rfl ?_
          refine mm_get (kd := 0) dX13_fly_68 rfl fl_X13_638 (c := 183) rfl (by decide) rfl rfl ?_
          obtain ⟨v68, hv68⟩ : ∃ v, v = M63 183 77 := ⟨_, rfl⟩
          rw [← hv68]
          rw [hM63, mm_up_i (by decide), hM55, mm_up_i (by decide)] at hv68
          subst hv68
          refine mm_puti dX13_fly_71 rfl fl_X13_659 (c := 183) rfl (by decide) rfl rfl (fun M71 hM71 => ?_)
          have hR71 : mm_Rf M71 := by rw [hM71]; exact hR63.up rfl
          have hG71 : mm_rg M M71 := by rw [hM71]; exact hG63.up (by decide)
          refine mm_aload_n dX13_fly_74 rfl rfl ?_
          refine mm_aload_n dX13_fly_75 rfl rfl ?_
          refine mm_get (kd := 0) dX13_fly_76 rfl fl_X13_644 (c := 183) rfl (by decide) rfl rfl ?_
          obtain ⟨v76, hv76⟩ : ∃ v, v = M71 183 78 := ⟨_, rfl⟩
          rw [← hv76]
          rw [hM71, mm_up_i (by decide), hM63, mm_up_i (by decide), hM55, mm_up_i (by decide)] at hv76
          subst hv76
          refine mm_puti dX13_fly_79 rfl fl_X13_662 (c := 183) rfl (by decide) rfl rfl (fun M79 hM79 => ?_)
          have hR79 : mm_Rf M79 := by rw [hM79]; exact hR71.up rfl
          have hG79 : mm_rg M M79 := by rw [hM79]; exact hG71.up (by decide)
          refine mm_iconst dX13_fly_82 rfl ?_
          refine mm_istore dX13_fly_83 rfl (Nat.le_of_ble_eq_true rfl) rfl ?_
          have q0 := q1.1
          refine loop x52 (by omega) q1 0 (Nat.zero_le _) _ hR79 hG79 ?_ ?_ ?_ ?_ ?_ ?_ ?_ (fun j q => absurd q (Nat.not_lt_zero j))
          · intro x h1 h2 h3; funext b; simp [hM79, hM71, hM63, hM55, mm_up, h1]; rw [q2 x h1 h3]
          · intro b hb hb2
            have n1 : b ≠ 69 := by omega
            have n2 : b ≠ 70 := by omega
            have n3 : b ≠ 71 := by omega
            have n4 : b ≠ 72 := by omega
            simp [hM79, hM71, hM63, hM55, mm_up, n1, n2, n3, n4]; exact q3 b (by omega)
          · simp [hM79, hM71, hM63, hM55, mm_up]
          · simp [hM79, hM71, hM63, hM55, mm_up, q4]
          · simp [hM79, hM71, hM63, hM55, mm_up, q5]
          · simp [hM79, hM71, hM63, hM55, mm_up, q6]
          · intro j hj; simp [hM79, hM71, hM63, hM55, mm_up]; exact q7 j hj
        · exfalso; omega
theorem c_X13_fly0 {z : Int} (hR : mm_Rf M) (hK : mm_KV (mm_rk M)) (hs : mm_R s) (hh : mm_R h) (hn : mm_R n) (he : mm_R e) (hno : ¬ (ks_st (mm_rk M) s ∧ ks_hr h ∧ (1 ≤ n ∧ n ≤ 500) ∧ (1 ≤ e ∧ e ≤ 60))) :
    mm_Fn X Y_X13_fly 243 [(2, 184), (0, s), (0, h), (0, n), (0, e), (0, z)] M (0, -2) M := by
  refine mm_startF (ls := [(2, 184), (0, s), (0, h), (0, n), (0, e), (0, z), (9, 0)]) rfl ?_
  refine mm_aload_n dX13_fly_0 rfl rfl ?_
  refine mm_iload_n dX13_fly_1 rfl rfl ?_
  refine mm_V1i dX13_fly_2 rfl lk_X13_464 (c := 183) rfl (by decide) rfl (by simp) rfl rfl rfl (c_X13_isState hR hK (by omega)) ?_
  refine mm_ifeqb dX13_fly_5 (fun h5 => ?_) (fun h5 => ?_)
  · refine mm_bipush dX13_fly_40 rfl (by decide) ?_
    refine mm_iret dX13_fly_42 rfl rfl ?_
    exact mm_fin rfl rfl
  · refine mm_iload_n dX13_fly_8 rfl rfl ?_
    refine mm_S1i dX13_fly_9 rfl lk_X13_486 (by simp) rfl rfl rfl (c_X13_isHour (by omega)) ?_
    refine mm_ifeqb dX13_fly_12 (fun h12 => ?_) (fun h12 => ?_)
    · refine mm_bipush dX13_fly_40 rfl (by decide) ?_
      refine mm_iret dX13_fly_42 rfl rfl ?_
      exact mm_fin rfl rfl
    · refine mm_iload_n dX13_fly_15 rfl rfl ?_
      refine mm_i2l dX13_fly_16 rfl (by omega) ?_
      refine mm_lconst1 dX13_fly_17 rfl ?_
      refine mm_ldc2 dX13_fly_18 rfl kc_X13_647 ?_
      refine mm_S3i dX13_fly_21 rfl lk_X13_5 (by simp) (by simp) (by simp) rfl rfl rfl (c_X13_in (by omega) (by omega) (by omega)) ?_
      refine mm_ifeqb dX13_fly_24 (fun h24 => ?_) (fun h24 => ?_)
      · refine mm_bipush dX13_fly_40 rfl (by decide) ?_
        refine mm_iret dX13_fly_42 rfl rfl ?_
        exact mm_fin rfl rfl
      · refine mm_iload dX13_fly_27 rfl rfl ?_
        refine mm_i2l dX13_fly_29 rfl (by omega) ?_
        refine mm_lconst1 dX13_fly_30 rfl ?_
        refine mm_ldc2 dX13_fly_31 rfl kc_X13_492 ?_
        refine mm_S3i dX13_fly_34 rfl lk_X13_5 (by simp) (by simp) (by simp) rfl rfl rfl (c_X13_in (by omega) (by omega) (by omega)) ?_
        refine mm_ifneb dX13_fly_37 (fun h37 => ?_) (fun h37 => ?_)
        · exact absurd ⟨h5, h12, h24, h37⟩ hno
        · refine mm_bipush dX13_fly_40 rfl (by decide) ?_
          refine mm_iret dX13_fly_42 rfl rfl ?_
          exact mm_fin rfl rfl
theorem c_X13_held1 (hR : mm_Rf M) (hK : mm_KV (mm_rk M)) (hA : mm_RA M) (hC : mm_RR M) (hh : ks_hr h) :
    mm_C X Y_X13_held 243 243 [(2, 184), (0, h)] M (fun r M' => r = (0, ka_sum (kh_f (fun s => kh_ok (mm_rk M) (kq_T M) (M 203) h s ∧ kh_ok (mm_rk M) (kq_T M) (M 204) h s)) (ks_n (mm_rk M)).toNat) ∧ mm_Rf M' ∧ mm_rg M M' ∧ (∀ a, a ≠ 183 → a ≠ 221 → M' a = M a) ∧ (∀ b, ¬ (76 ≤ b ∧ b ≤ 78) → M' 183 b = M 183 b)) := by
  have hnb := ks_nb hK
  have hG0 := mm_rg.rf M
  obtain ⟨F, hF⟩ : ∃ F, F = kh_f (fun s => kh_ok (mm_rk M) (kq_T M) (M 203) h s ∧ kh_ok (mm_rk M) (kq_T M) (M 204) h s) := ⟨_, rfl⟩
  rw [← hF]
  refine mm_start (ls := [(2, 184), (0, h), (9, 0), (9, 0), (9, 0)]) rfl ?_
  have loop : ∀ i : Nat, i ≤ (ks_n (mm_rk M)).toNat → ∀ (N : mm_M) (l4 : mm_V), mm_Rf N → mm_rg M N → (∀ a, a ≠ 183 → a ≠ 221 → N a = M a) → (∀ b, ¬ (76 ≤ b ∧ b ≤ 78) → N 183 b = M 183 b) →
      mm_J X Y_X13_held 243 243 243 14 [(2, 184), (0, h), (0, ka_sum F i), (0, (i : Int)), l4] [] N (fun r M' => r = (0, ka_sum F (ks_n (mm_rk M)).toNat) ∧ mm_Rf M' ∧ mm_rg M M' ∧ (∀ a, a ≠ 183 → a ≠ 221 → M' a = M a) ∧ (∀ b, ¬ (76 ≤ b ∧ b ≤ 78) → M' 183 b = M 183 b)) := by
    refine mm_lp ?_
    intro i hi ih N l4 hRN hG hfa hfb
    have hsum := ka_sumb (B := 1) (n := i) (f := F) (fun j hj => by rw [hF]; have := kh_fb (fun s => kh_ok (mm_rk M) (kq_T M) (M 203) h s ∧ kh_ok (mm_rk M) (kq_T M) (M 204) h s) j; omega)
    by_cases hlt : i < (ks_n (mm_rk M)).toNat
    · have hst : ks_st (mm_rk M) (i : Int) := ⟨by omega, by omega⟩
      have spec : ∀ (Q : mm_M), mm_rg M Q → (∀ a, a ≠ 183 → a ≠ 221 → Q a = M a) → (∀ b, ¬ (76 ≤ b ∧ b ≤ 78) → Q 183 b = M 183 b) → mm_RR Q ∧ kq_T Q = kq_T M := by
        intro Q hGQ h1 h2
        exact ⟨hGQ.rr (h2 20 (by omega)) (h1 193 (by decide) (by decide)) (h1 194 (by decide) (by decide)) (h1 195 (by decide) (by decide)) (h1 196 (by decide) (by decide)) (h1 197 (by decide) (by decide)) hC, hGQ.qt (h2 20 (by omega)) (h1 193 (by decide) (by decide)) (h1 194 (by decide) (by decide)) (h1 195 (by decide) (by decide)) (h1 196 (by decide) (by decide)) (h1 197 (by decide) (by decide))⟩
      -- behind both flights
      have fin : ∀ (z : Int) (N : mm_M), z = F i → mm_Rf N → mm_rg M N → (∀ a, a ≠ 183 → a ≠ 221 → N a = M a) → (∀ b, ¬ (76 ≤ b ∧ b ≤ 78) → N 183 b = M 183 b) → ∀ l4 : mm_V, mm_J X Y_X13_held 243 243 243 73 [(2, 184), (0, h), (0, ka_sum F i), (0, (i : Int)), l4] [(0, z)] N (fun r M' => r = (0, ka_sum F (ks_n (mm_rk M)).toNat) ∧ mm_Rf M' ∧ mm_rg M M' ∧ (∀ a, a ≠ 183 → a ≠ 221 → M' a = M a) ∧ (∀ b, ¬ (76 ≤ b ∧ b ≤ 78) → M' 183 b = M 183 b)) := by
        intro z N hz hRN hG hfa hfb l4
        have hFb := kh_fb (fun s => kh_ok (mm_rk M) (kq_T M) (M 203) h s ∧ kh_ok (mm_rk M) (kq_T M) (M 204) h s) i
        rw [← hF] at hFb
        refine mm_istore dX13_held_73 rfl (Nat.le_of_ble_eq_true rfl) rfl ?_
        refine mm_iload_n dX13_held_75 rfl rfl ?_
        refine mm_iload dX13_held_76 rfl rfl ?_
        refine mm_ifeq_z (q2 := 86) dX13_held_78 (by omega) (fun k => mm_iconst dX13_held_85 rfl k) (fun k => mm_iconst dX13_held_81 rfl (mm_goto dX13_held_82 k)) ?_
        refine mm_iadd dX13_held_86 rfl ?_
        refine mm_istore_n dX13_held_87 rfl (Nat.le_of_ble_eq_true rfl) rfl ?_
        refine mm_iinc dX13_held_88 rfl rfl (Nat.le_of_ble_eq_true rfl) rfl ?_
        refine mm_goto dX13_held_91 ?_
        have := ih hlt N (0, z) hRN hG hfa hfb
        rw [ka_sum, show F i = mm_b (z ≠ 0) by unfold mm_b; split <;> omega] at this
        exact this
      refine mm_iload_n dX13_held_14 rfl rfl ?_
      refine mm_aload_n dX13_held_15 rfl rfl ?_
      refine mm_V0i dX13_held_16 rfl lk_X13_458 (c := 183) rfl (by decide) rfl  rfl rfl rfl (g_X13_states hRN hG) ?_
      refine mm_icge dX13_held_19 (by omega) (by omega) (fun h19 => ?_) (fun h19 => ?_)
      · exfalso; omega
      · refine mm_aload_n dX13_held_22 rfl rfl ?_
        refine mm_iload_n dX13_held_23 rfl rfl ?_
        refine mm_iload_n dX13_held_24 rfl rfl ?_
        refine mm_sipush dX13_held_25 rfl (by decide) ?_
        refine mm_iconst dX13_held_28 rfl ?_
        refine mm_iconst dX13_held_29 rfl ?_
        refine mm_V5g (M1 := N) dX13_held_30 rfl lk_X13_649 (c := 183) rfl (by decide) rfl (by simp) (by simp) (by simp) (by simp) (by simp) rfl rfl rfl ((by have := c_X13_flyOn (X := X) (P := False) (M := N) (s := (i : Int)) (h := h) (n := 200) (e := 0) hRN (by rw [hG.k]; exact hK) (hG.ra hA) (spec N hG hfa hfb).1 (by rw [hG.k]; exact hst) hh (by decide) (by decide); exact this)) ?_
        rintro _ N30 ⟨x30, rfl, p30⟩
        change mm_J _ _ _ _ _ _ _ _ _ _
        have hR30 : mm_Rf N30 := p30.1
        have hG30 : mm_rg M N30 := hG.tr p30.2.1
        obtain ⟨-, -, q1, q2, q3, -, -, -, -⟩ := p30
        rw [hG.k, (spec N hG hfa hfb).2, if_neg (fun q => q), hG.2.2.2.2.1] at q1
        have k1 := kh_is q1
        have hx1 := q1.1
        have hfa2 : ∀ a, a ≠ 183 → a ≠ 221 → N30 a = M a := fun a h1 h2 => (q2 a h1 h2).trans (hfa a h1 h2)
        have hfb2 : ∀ b, ¬ (76 ≤ b ∧ b ≤ 78) → N30 183 b = M 183 b := fun b h1 => (q3 b h1).trans (hfb b h1)
        refine mm_sipush dX13_held_33 rfl (by decide) ?_
        refine mm_icne_z (q2 := 44) dX13_held_36 (by omega) (by omega) (fun k => mm_iconst dX13_held_43 rfl k) (fun k => mm_iconst dX13_held_39 rfl (mm_goto dX13_held_40 k)) ?_
        refine mm_istore dX13_held_44 rfl (Nat.le_of_ble_eq_true rfl) rfl ?_
        refine mm_iload dX13_held_46 rfl rfl ?_
        refine mm_ifeqb dX13_held_48 (fun h48 => ?_) (fun h48 => ?_)
        · refine mm_iconst dX13_held_72 rfl ?_
          exact fin 0 N30 (by rw [hF]; exact (kh_f0 (fun q => h48 (k1.mpr q.1))).symm) hR30 hG30 hfa2 hfb2 _
        · refine mm_aload_n dX13_held_51 rfl rfl ?_
          refine mm_iload_n dX13_held_52 rfl rfl ?_
          refine mm_iload_n dX13_held_53 rfl rfl ?_
          refine mm_sipush dX13_held_54 rfl (by decide) ?_
          refine mm_iconst dX13_held_57 rfl ?_
          refine mm_iconst dX13_held_58 rfl ?_
          refine mm_V5g (M1 := N30) dX13_held_59 rfl lk_X13_649 (c := 183) rfl (by decide) rfl (by simp) (by simp) (by simp) (by simp) (by simp) rfl rfl rfl ((by have := c_X13_flyOn (X := X) (P := True) (M := N30) (s := (i : Int)) (h := h) (n := 200) (e := 0) hR30 (by rw [hG30.k]; exact hK) (hG30.ra hA) (spec N30 hG30 hfa2 hfb2).1 (by rw [hG30.k]; exact hst) hh (by decide) (by decide); exact this)) ?_
          rintro _ N59 ⟨x59, rfl, p59⟩
          change mm_J _ _ _ _ _ _ _ _ _ _
          have hR59 : mm_Rf N59 := p59.1
          have hG59 : mm_rg M N59 := hG30.tr p59.2.1
          obtain ⟨-, -, q4, q5, q6, -, -, -, -⟩ := p59
          rw [hG30.k, (spec N30 hG30 hfa2 hfb2).2, if_pos trivial, hG30.2.2.2.2.2] at q4
          have k2 := kh_is q4
          have hx2 := q4.1
          have hfa3 : ∀ a, a ≠ 183 → a ≠ 221 → N59 a = M a := fun a h1 h2 => (q5 a h1 h2).trans (hfa2 a h1 h2)
          have hfb3 : ∀ b, ¬ (76 ≤ b ∧ b ≤ 78) → N59 183 b = M 183 b := fun b h1 => (q6 b h1).trans (hfb2 b h1)
          refine mm_sipush dX13_held_62 rfl (by decide) ?_
          refine mm_icne dX13_held_65 (by omega) (by omega) (fun h65 => ?_) (fun h65 => ?_)
          · refine mm_iconst dX13_held_72 rfl ?_
            first
            | exact fin 1 N59 (by rw [hF]; exact (kh_f1 ⟨k1.mp h48, k2.mp h65⟩).symm) hR59 hG59 hfa3 hfb3 _
            | exact fin 0 N59 (by rw [hF]; exact (kh_f0 (fun q => h65 (k2.mpr q.2))).symm) hR59 hG59 hfa3 hfb3 _
          · refine mm_iconst dX13_held_68 rfl ?_
            refine mm_goto dX13_held_69 ?_
            first
            | exact fin 1 N59 (by rw [hF]; exact (kh_f1 ⟨k1.mp h48, k2.mp h65⟩).symm) hR59 hG59 hfa3 hfb3 _
            | exact fin 0 N59 (by rw [hF]; exact (kh_f0 (fun q => h65 (k2.mpr q.2))).symm) hR59 hG59 hfa3 hfb3 _
    · have ei : i = (ks_n (mm_rk M)).toNat := by omega
      refine mm_iload_n dX13_held_14 rfl rfl ?_
      refine mm_aload_n dX13_held_15 rfl rfl ?_
      refine mm_V0i dX13_held_16 rfl lk_X13_458 (c := 183) rfl (by decide) rfl  rfl rfl rfl (g_X13_states hRN hG) ?_
      refine mm_icge dX13_held_19 (by omega) (by omega) (fun h19 => ?_) (fun h19 => ?_)
      · refine mm_iload_n dX13_held_94 rfl rfl ?_
        refine mm_iret dX13_held_95 rfl rfl ?_
        exact ⟨by rw [ei], hRN, hG, hfa, hfb⟩
      · exfalso; omega
  refine mm_iload_n dX13_held_0 rfl rfl ?_
  refine mm_S1i dX13_held_1 rfl lk_X13_486 (by simp) rfl rfl rfl (c_X13_isHour (by omega)) ?_
  refine mm_ifneb dX13_held_4 (fun h4 => ?_) (fun h4 => ?_)
  · refine mm_iconst dX13_held_10 rfl ?_
    refine mm_istore_n dX13_held_11 rfl (Nat.le_of_ble_eq_true rfl) rfl ?_
    refine mm_iconst dX13_held_12 rfl ?_
    refine mm_istore_n dX13_held_13 rfl (Nat.le_of_ble_eq_true rfl) rfl ?_
    exact loop 0 (Nat.zero_le _) M (9, 0) hR hG0 (fun _ _ _ => rfl) (fun _ _ => rfl)
  · exact absurd hh h4
theorem c_X13_held0 (hR : mm_Rf M) (hh : mm_R h) (hno : ¬ ks_hr h) : mm_Fn X Y_X13_held 243 [(2, 184), (0, h)] M (0, -2) M := by
  refine mm_startF (ls := [(2, 184), (0, h), (9, 0), (9, 0), (9, 0)]) rfl ?_
  refine mm_iload_n dX13_held_0 rfl rfl ?_
  refine mm_S1i dX13_held_1 rfl lk_X13_486 (by simp) rfl rfl rfl (c_X13_isHour (by omega)) ?_
  refine mm_ifneb dX13_held_4 (fun h4 => ?_) (fun h4 => ?_)
  · exact absurd h4 hno
  · refine mm_bipush dX13_held_7 rfl (by decide) ?_
    refine mm_iret dX13_held_9 rfl rfl ?_
    exact mm_fin rfl rfl
end
end
/-! 79.held -/
section
/-! ===== held, of the class: back from the ends ===== -/
def kh_fate (K : Nat → Int) (T : Int → Int → Int) (L : Nat → Int) (h s : Int) : Int := ks_fate K (ks_p K s (ks_in K s (T s (ks_wi L K s h))) (ks_wi L K s h))
def kh_nx (K : Nat → Int) (T : Int → Int → Int) (L : Nat → Int) (h s : Int) : Int := ks_to K s (ks_in K s (T s (ks_wi L K s h)))
theorem kh_W {L K : Nat → Int} {h s : Int} {i : Nat} : kfl_W L K h 0 s i = ks_wi L K s h := by unfold kfl_W; rw [if_pos rfl]
theorem kh_S {K : Nat → Int} {T : Int → Int → Int} {L : Nat → Int} {h s : Int} : ∀ i, kfl_S K T (kfl_W L K h 0) s (i + 1) = kfl_S K T (kfl_W L K h 0) (kh_nx K T L h s) i
  | 0 => by
    show ks_to K s (ks_in K s (T s (kfl_W L K h 0 s 0))) = kh_nx K T L h s
    rw [kh_W]
    rfl
  | i + 1 => by
    have e := kh_S (K := K) (T := T) (L := L) (h := h) (s := s) i
    rw [kfl_S, e, kh_W]
    conv => rhs; rw [kfl_S, kh_W]
theorem kh_ok0 {K : Nat → Int} {T : Int → Int → Int} {L : Nat → Int} {h s : Int} : kfl_ok K T (kfl_W L K h 0) s 0 ↔ kh_fate K T L h s = 0 := by
  unfold kfl_ok kfl_p kfl_a kh_fate
  rw [kfl_S, kh_W]
theorem kh_oks {K : Nat → Int} {T : Int → Int → Int} {L : Nat → Int} {h s : Int} {i : Nat} : kfl_ok K T (kfl_W L K h 0) s (i + 1) ↔ kfl_ok K T (kfl_W L K h 0) (kh_nx K T L h s) i := by
  unfold kfl_ok kfl_p kfl_a
  rw [kh_S, kh_W, kh_W]
/-- a flight from s ends just at tick i -/
def kh_E (K : Nat → Int) (T : Int → Int → Int) (L : Nat → Int) (h s : Int) (i : Nat) : Prop := (∀ j, j < i → kfl_ok K T (kfl_W L K h 0) s j) ∧ ¬ kfl_ok K T (kfl_W L K h 0) s i
theorem kh_E0 {K : Nat → Int} {T : Int → Int → Int} {L : Nat → Int} {h s : Int} : kh_E K T L h s 0 ↔ kh_fate K T L h s ≠ 0 := by
  unfold kh_E
  rw [kh_ok0]
  exact ⟨fun q => q.2, fun q => ⟨fun j hj => absurd hj (Nat.not_lt_zero j), q⟩⟩
theorem kh_Es {K : Nat → Int} {T : Int → Int → Int} {L : Nat → Int} {h s : Int} {i : Nat} : kh_E K T L h s (i + 1) ↔ kh_fate K T L h s = 0 ∧ kh_E K T L h (kh_nx K T L h s) i := by
  unfold kh_E
  rw [kh_oks]
  constructor
  · intro q
    exact ⟨kh_ok0.mp (q.1 0 (by omega)), fun j hj => kh_oks.mp (q.1 (j + 1) (by omega)), q.2⟩
  · intro q
    refine ⟨fun j hj => ?_, q.2.2⟩
    cases j with
    | zero => exact kh_ok0.mpr q.1
    | succ j => exact kh_oks.mpr (q.2.1 j (by omega))
theorem kh_E_u {K : Nat → Int} {T : Int → Int → Int} {L : Nat → Int} {h s : Int} {i j : Nat} (a : kh_E K T L h s i) (b : kh_E K T L h s j) : i = j := by
  rcases Nat.lt_trichotomy i j with q | q | q
  · exact absurd (b.1 i q) a.2
  · exact q
  · exact absurd (a.1 j q) b.2
theorem kh_nok {K : Nat → Int} {T : Int → Int → Int} {L : Nat → Int} {h s : Int} : ¬ kh_ok K T L h s ↔ ∃ j, j < 200 ∧ kh_E K T L h s j := by
  constructor
  · intro q
    have key : ∀ n, n ≤ 200 → (∃ j, j < n ∧ kh_E K T L h s j) ∨ (∀ j, j < n → kfl_ok K T (kfl_W L K h 0) s j) := by
      intro n
      induction n with
      | zero => intro _; exact Or.inr (fun j hj => absurd hj (Nat.not_lt_zero j))
      | succ n ih =>
        intro hn
        rcases ih (by omega) with ⟨j, hj, e⟩ | a
        · exact Or.inl ⟨j, by omega, e⟩
        · by_cases c : kfl_ok K T (kfl_W L K h 0) s n
          · refine Or.inr (fun j hj => ?_)
            by_cases z : j = n
            · rw [z]; exact c
            · exact a j (by omega)
          · exact Or.inl ⟨n, by omega, a, c⟩
    rcases key 200 (Nat.le_refl _) with z | z
    · exact z
    · exact absurd z q
  · rintro ⟨j, hj, e⟩ q
    exact e.2 (q j hj)
/-- if no state ends at tick i, none ends later -/
theorem kh_none {K : Nat → Int} (hK : mm_KV K) {T : Int → Int → Int} (hT : ∀ s w, ks_ac K (T s w)) {L : Nat → Int} {h : Int} {i : Nat} (q : ∀ s, ks_st K s → ¬ kh_E K T L h s i) : ∀ k s, ks_st K s → ¬ kh_E K T L h s (i + k)
  | 0, s, hs => q s hs
  | k + 1, s, hs => fun e => by
    have := (kh_Es (i := i + k)).mp e
    exact kh_none hK hT q k _ (ks_to_st hK hs (ks_in_can (hT _ _).1)) this.2
/-- what ticksLeft holds of s once the ends before tick t are found -/
def kh_tk (K : Nat → Int) (T : Int → Int → Int) (L : Nat → Int) (h s : Int) (t : Nat) (v : Int) : Prop := (∃ j, j < t ∧ kh_E K T L h s j ∧ v = (j : Int)) ∨ ((∀ j, j < t → ¬ kh_E K T L h s j) ∧ v = -1)
theorem kh_tkb {K : Nat → Int} {T : Int → Int → Int} {L : Nat → Int} {h s : Int} {t : Nat} {v : Int} (q : kh_tk K T L h s t v) : -1 ≤ v ∧ v < t := by
  rcases q with ⟨j, hj, -, rfl⟩ | ⟨-, rfl⟩ <;> omega
theorem kh_tk_at {K : Nat → Int} {T : Int → Int → Int} {L : Nat → Int} {h s : Int} {t : Nat} {v : Int} (q : kh_tk K T L h s t v) {j : Nat} (hj : j < t) : v = (j : Int) ↔ kh_E K T L h s j := by
  rcases q with ⟨i, hi, e, rfl⟩ | ⟨e, rfl⟩
  · constructor
    · intro z
      have : i = j := by omega
      rw [← this]; exact e
    · intro z
      rw [kh_E_u e z]
  · constructor
    · intro z; omega
    · intro z; exact absurd z (e j hj)
theorem kh_tk_none {K : Nat → Int} {T : Int → Int → Int} {L : Nat → Int} {h s : Int} {t : Nat} {v : Int} (q : kh_tk K T L h s t v) : v = -1 ↔ ∀ j, j < t → ¬ kh_E K T L h s j := by
  rcases q with ⟨i, hi, e, rfl⟩ | ⟨e, rfl⟩
  · constructor
    · intro z; omega
    · intro z; exact absurd e (z i hi)
  · exact ⟨fun _ => e, fun _ => rfl⟩
theorem kh_tk_up {K : Nat → Int} {T : Int → Int → Int} {L : Nat → Int} {h s : Int} {t : Nat} {v : Int} (q : kh_tk K T L h s t v) (n : ¬ kh_E K T L h s t) : kh_tk K T L h s (t + 1) v := by
  rcases q with ⟨i, hi, e, rfl⟩ | ⟨e, rfl⟩
  · exact Or.inl ⟨i, by omega, e, rfl⟩
  · refine Or.inr ⟨fun j hj => ?_, rfl⟩
    by_cases z : j = t
    · rw [z]; exact n
    · exact e j (by omega)
section
variable {X : mm_X} {M : mm_M} {h : Int}
theorem c_X2_markLost {P : Prop} [Decidable P] (hR : mm_Rf M) (hK : mm_CK M) (hA : mm_CA M) (hC : mm_CR M) (hh : ks_hr h) (hz : ∀ j : Nat, j < 288 → M 143 j = 0 ∨ M 143 j = 1) :
    mm_C X Y_X2_markLost 243 243 [(2, 140), (0, h), (0, mm_b P)] M (fun r M' => r = (3, 0) ∧ mm_Rf M' ∧ mm_ag M M' ∧ (∀ a, a ≠ 141 → a ≠ 142 → a ≠ 143 → M' a = M a) ∧ (∀ j : Nat, j < 288 → M' 143 j = 0 ∨ M' 143 j = 1) ∧
      ∀ s : Nat, (s : Int) < ks_n (M 4) → (M' 143 s = 1 ↔ M 143 s = 1 ∨ ¬ kh_ok (M 4) (kc_T M) (if P then M 17 else M 16) h s)) := by
  obtain ⟨L, hL⟩ : ∃ L, L = (if P then M 17 else M 16) := ⟨_, rfl⟩
  rw [← hL]
  have hLb : ∀ p, p < 120 → 0 ≤ L p ∧ L p ≤ 60 := by
    intro p hp
    have := hA p hp
    rw [hL]
    split <;> omega
  have hG0 := mm_ag.rf M
  have hnb := ks_nb hK.1
  have hst : ∀ s : Nat, (s : Int) < ks_n (M 4) → ks_st (M 4) s := fun s q => ⟨by omega, q⟩
  have hTac : ∀ s w, ks_ac (M 4) (kc_T M s w) := fun s w => kc_T_ac hK.1 hC
  have hwb : ∀ s : Int, ks_st (M 4) s → 0 ≤ ks_wi L (M 4) s h ∧ ks_wi L (M 4) s h ≤ 60 := fun s q => by unfold ks_wi; exact hLb _ (ks_plb hh (ks_bandb hK.1 q))
  have hnxs : ∀ s : Int, ks_st (M 4) s → ks_st (M 4) (kh_nx (M 4) (kc_T M) L h s) := fun s q => ks_to_st hK.1 q (ks_in_can (hTac _ _).1)
  have est := hK.2.1
  obtain ⟨Φ, hΦ⟩ : ∃ Φ : mm_V → mm_M → Prop, Φ = (fun r M' => r = (3, 0) ∧ mm_Rf M' ∧ mm_ag M M' ∧ (∀ a, a ≠ 141 → a ≠ 142 → a ≠ 143 → M' a = M a) ∧ (∀ j : Nat, j < 288 → M' 143 j = 0 ∨ M' 143 j = 1) ∧ ∀ s : Nat, (s : Int) < ks_n (M 4) → (M' 143 s = 1 ↔ M 143 s = 1 ∨ ¬ kh_ok (M 4) (kc_T M) L h s)) := ⟨_, rfl⟩
  rw [← hΦ]
  refine mm_start (ls := [(2, 140), (0, h), (0, mm_b P), (9, 0), (9, 0), (9, 0), (9, 0)]) rfl ?_
  -- the end
  have fin : ∀ (N : mm_M) (t : Nat) (l3 l4 l5 l6 : mm_V), t ≤ 200 → mm_Rf N → mm_ag M N → (∀ a, a ≠ 141 → a ≠ 142 → a ≠ 143 → N a = M a) → (∀ j : Nat, j < 288 → N 143 j = 0 ∨ N 143 j = 1) →
      (∀ s : Nat, (s : Int) < ks_n (M 4) → (N 143 s = 1 ↔ M 143 s = 1 ∨ ∃ j, j < t ∧ kh_E (M 4) (kc_T M) L h s j)) → (t = 200 ∨ ∀ s, ks_st (M 4) s → ¬ kh_E (M 4) (kc_T M) L h s (t - 1)) → 1 ≤ t →
      mm_J X Y_X2_markLost 243 243 243 252 [(2, 140), (0, h), (0, mm_b P), l3, l4, l5, l6] [] N Φ := by
    intro N t l3 l4 l5 l6 ht hRN hG hfr hzz hlost hend ht1
    rw [hΦ]
    refine mm_vret dX2_markLost_252 rfl rfl ?_
    refine ⟨rfl, hRN, hG, hfr, hzz, fun s hs => ?_⟩
    rw [hlost s hs, kh_nok]
    constructor
    · rintro (q | ⟨j, hj, e⟩)
      · exact Or.inl q
      · exact Or.inr ⟨j, by omega, e⟩
    · rintro (q | ⟨j, hj, e⟩)
      · exact Or.inl q
      · refine Or.inr ⟨j, ?_, e⟩
        rcases hend with z | z
        · omega
        · rcases Nat.lt_or_ge j (t - 1) with y | y
          · omega
          · have := kh_none hK.1 hTac z (j - (t - 1)) s (hst s hs)
            rw [show t - 1 + (j - (t - 1)) = j by omega] at this
            exact absurd e this
  -- the levels
  have levels : ∀ t : Nat, t ≤ 200 → 1 ≤ t → ∀ (N : mm_M) (l5 l6 : mm_V) (f : Int), f = 0 ∨ f = 1 → (f = 0 → 2 ≤ t ∧ ∀ s, ks_st (M 4) s → ¬ kh_E (M 4) (kc_T M) L h s (t - 1)) → mm_Rf N → mm_ag M N → (∀ a, a ≠ 141 → a ≠ 142 → a ≠ 143 → N a = M a) → (∀ j : Nat, j < 288 → N 143 j = 0 ∨ N 143 j = 1) →
      (∀ s : Nat, (s : Int) < ks_n (M 4) → (N 143 s = 1 ↔ M 143 s = 1 ∨ ∃ j, j < t ∧ kh_E (M 4) (kc_T M) L h s j)) →
      (∀ s : Nat, (s : Int) < ks_n (M 4) → kh_tk (M 4) (kc_T M) L h s t (N 142 s)) →
      (∀ s : Nat, (s : Int) < ks_n (M 4) → N 141 s = if kh_fate (M 4) (kc_T M) L h s = 0 then kh_nx (M 4) (kc_T M) L h s else -1) →
      mm_J X Y_X2_markLost 243 243 243 151 [(2, 140), (0, h), (0, mm_b P), (0, f), (0, (t : Int)), l5, l6] [] N Φ := by
    refine mm_lp ?_
    intro t ht ih ht1 N l5 l6 f hf hf0 hRN hG hfr hzz hlost htk hgo
    by_cases hlt : t < 200 ∧ f = 1
    · -- one level
      have sweep : ∀ i : Nat, i ≤ (ks_n (M 4)).toNat → ∀ (N : mm_M) (l6 : mm_V) (g : Int), g = 0 ∨ g = 1 → (g = 0 → ∀ s : Nat, s < i → ¬ kh_E (M 4) (kc_T M) L h s t) → mm_Rf N → mm_ag M N → (∀ a, a ≠ 141 → a ≠ 142 → a ≠ 143 → N a = M a) → (∀ j : Nat, j < 288 → N 143 j = 0 ∨ N 143 j = 1) →
          (∀ s : Nat, (s : Int) < ks_n (M 4) → (N 143 s = 1 ↔ M 143 s = 1 ∨ ∃ j, j < (if s < i then t + 1 else t) ∧ kh_E (M 4) (kc_T M) L h s j)) →
          (∀ s : Nat, (s : Int) < ks_n (M 4) → kh_tk (M 4) (kc_T M) L h s (if s < i then t + 1 else t) (N 142 s)) →
          (∀ s : Nat, (s : Int) < ks_n (M 4) → N 141 s = if kh_fate (M 4) (kc_T M) L h s = 0 then kh_nx (M 4) (kc_T M) L h s else -1) →
          mm_J X Y_X2_markLost 243 243 243 168 [(2, 140), (0, h), (0, mm_b P), (0, g), (0, (t : Int)), (0, (i : Int)), l6] [] N Φ := by
        refine mm_lp ?_
        intro i hi ih2 N l6 g hg hg0 hRN hG hfr hzz hlost htk hgo
        have f3 : N 3 2 = ks_n (M 4) := by rw [hG 3 (by decide) (by decide)]; exact est
        by_cases hil : i < (ks_n (M 4)).toNat
        · have hin : (i : Int) < ks_n (M 4) := by omega
          have hgi := hgo i hin
          have hti := htk i hin
          rw [if_neg (Nat.lt_irrefl i)] at hti
          have htb := kh_tkb hti
          have hnx := hnxs i (hst i hin)
          have hnx1 := hnx.1
          have hnx2 := hnx.2
          obtain ⟨gn, hgn⟩ : ∃ gn : Nat, gn = (kh_nx (M 4) (kc_T M) L h (i : Int)).toNat := ⟨_, rfl⟩
          have hgn2 : (gn : Int) = kh_nx (M 4) (kc_T M) L h (i : Int) := by omega
          have htg := htk gn (by omega)
          have htgb := kh_tkb htg
          have htgb2 : -1 ≤ N 142 gn ∧ N 142 gn ≤ 201 := by
            refine ⟨htgb.1, ?_⟩
            have := htgb.2
            split at this <;> omega
          have htg2 : N 142 gn = ((t - 1 : Nat) : Int) ↔ kh_E (M 4) (kc_T M) L h gn (t - 1) := kh_tk_at htg (by split <;> omega)
          have hEs : kh_E (M 4) (kc_T M) L h (i : Int) t ↔ kh_fate (M 4) (kc_T M) L h (i : Int) = 0 ∧ kh_E (M 4) (kc_T M) L h gn (t - 1) := by
            have := kh_Es (K := M 4) (T := kc_T M) (L := L) (h := h) (s := (i : Int)) (i := t - 1)
            rw [show t - 1 + 1 = t by omega, ← hgn2] at this
            exact this
          -- nothing new at i
          have skip : ¬ kh_E (M 4) (kc_T M) L h (i : Int) t → mm_J X Y_X2_markLost 243 243 243 240 [(2, 140), (0, h), (0, mm_b P), (0, g), (0, (t : Int)), (0, (i : Int)), l6] [] N Φ := by
            intro hne
            refine mm_iinc dX2_markLost_240 rfl rfl (Nat.le_of_ble_eq_true rfl) rfl ?_
            refine mm_goto dX2_markLost_243 ?_
            refine ih2 hil N _ g hg ?_ hRN hG hfr hzz ?_ ?_ hgo
            · intro g0 s hs
              by_cases q : s = i
              · rw [q]; exact hne
              · exact hg0 g0 s (by omega)
            · intro s hs
              rw [hlost s hs]
              by_cases q : s = i
              · rw [q, if_neg (Nat.lt_irrefl i), if_pos (Nat.lt_succ_self i)]
                constructor
                · rintro (z | ⟨j, hj, e⟩)
                  · exact Or.inl z
                  · exact Or.inr ⟨j, by omega, e⟩
                · rintro (z | ⟨j, hj, e⟩)
                  · exact Or.inl z
                  · refine Or.inr ⟨j, ?_, e⟩
                    by_cases y : j = t
                    · rw [y] at e; exact absurd e hne
                    · omega
              · by_cases q2 : s < i
                · rw [if_pos q2, if_pos (by omega)]
                · rw [if_neg q2, if_neg (by omega)]
            · intro s hs
              have := htk s hs
              by_cases q : s = i
              · rw [q] at this ⊢
                rw [if_neg (Nat.lt_irrefl i)] at this
                rw [if_pos (Nat.lt_succ_self i)]
                exact kh_tk_up this hne
              · by_cases q2 : s < i
                · rw [if_pos q2] at this; rw [if_pos (by omega)]; exact this
                · rw [if_neg q2] at this; rw [if_neg (by omega)]; exact this
          have hgr : -1 ≤ (if kh_fate (M 4) (kc_T M) L h (i : Int) = 0 then kh_nx (M 4) (kc_T M) L h (i : Int) else -1) ∧ (if kh_fate (M 4) (kc_T M) L h (i : Int) = 0 then kh_nx (M 4) (kc_T M) L h (i : Int) else -1) < 288 := by split <;> omega
          refine mm_iload dX2_markLost_168 rfl rfl ?_
          refine mm_aload_n dX2_markLost_170 rfl rfl ?_
          refine mm_getr dX2_markLost_171 rfl fl_X2_27 (c := 139) rfl (by decide) rfl rfl (hRN.at (c := 139) (i := 0) (v := 4) rfl (by decide)) ?_
          refine mm_get (kd := 0) dX2_markLost_174 rfl fl_X2_99 (c := 3) rfl (by decide) rfl rfl ?_
          obtain ⟨v174, hv174⟩ : ∃ v, v = N 3 2 := ⟨_, rfl⟩
          rw [← hv174]
          rw [f3] at hv174
          subst hv174
          refine mm_icge dX2_markLost_177 (by omega) (by omega) (fun h177 => ?_) (fun h177 => ?_)
          · exfalso; omega
          · refine mm_aload_n dX2_markLost_180 rfl rfl ?_
            refine mm_getr dX2_markLost_181 rfl fl_X2_17 (c := 139) rfl (by decide) rfl rfl (hRN.at (c := 139) (i := 9) (v := 142) rfl (by decide)) ?_
            refine mm_iload dX2_markLost_184 rfl rfl ?_
            refine mm_ialk (k0 := i) dX2_markLost_186 rfl (c := 141) rfl (by decide) rfl (by omega) (by omega) ?_
            rw [hgi]
            refine mm_iconst dX2_markLost_187 rfl ?_
            refine mm_iceq dX2_markLost_188 (by omega) (by omega) (fun h188 => ?_) (fun h188 => ?_)
            · refine skip ?_
              rw [hEs]
              rintro ⟨z, -⟩
              rw [if_pos z] at h188
              omega
            · refine mm_aload_n dX2_markLost_191 rfl rfl ?_
              refine mm_getr dX2_markLost_192 rfl fl_X2_20 (c := 139) rfl (by decide) rfl rfl (hRN.at (c := 139) (i := 10) (v := 143) rfl (by decide)) ?_
              refine mm_iload dX2_markLost_195 rfl rfl ?_
              refine mm_ialk (k0 := i) dX2_markLost_197 rfl (c := 142) rfl (by decide) rfl (by omega) (by omega) ?_
              refine mm_iconst dX2_markLost_198 rfl ?_
              refine mm_icne dX2_markLost_199 (by omega) (by omega) (fun h199 => ?_) (fun h199 => ?_)
              · refine skip ?_
                intro z
                exact h199 ((kh_tk_none hti).mpr (fun j hj e => by have := kh_E_u e z; omega))
              · refine mm_aload_n dX2_markLost_202 rfl rfl ?_
                refine mm_getr dX2_markLost_203 rfl fl_X2_20 (c := 139) rfl (by decide) rfl rfl (hRN.at (c := 139) (i := 10) (v := 143) rfl (by decide)) ?_
                refine mm_aload_n dX2_markLost_206 rfl rfl ?_
                refine mm_getr dX2_markLost_207 rfl fl_X2_17 (c := 139) rfl (by decide) rfl rfl (hRN.at (c := 139) (i := 9) (v := 142) rfl (by decide)) ?_
                refine mm_iload dX2_markLost_210 rfl rfl ?_
                refine mm_ialk (k0 := i) dX2_markLost_212 rfl (c := 141) rfl (by decide) rfl (by omega) (by omega) ?_
                have hf9 : kh_fate (M 4) (kc_T M) L h (i : Int) = 0 := by
                  by_cases z : kh_fate (M 4) (kc_T M) L h (i : Int) = 0
                  · exact z
                  · rw [if_neg z] at h188; exact absurd rfl h188
                rw [hgi, if_pos hf9]
                refine mm_ialk (k0 := gn) dX2_markLost_213 rfl (c := 142) rfl (by decide) rfl (by omega) (by omega) ?_
                refine mm_iload dX2_markLost_214 rfl rfl ?_
                refine mm_iconst dX2_markLost_216 rfl ?_
                refine mm_isub dX2_markLost_217 rfl ?_
                refine mm_icne dX2_markLost_218 (by omega) (by omega) (fun h218 => ?_) (fun h218 => ?_)
                · refine skip ?_
                  rw [hEs]
                  rintro ⟨-, z⟩
                  exact h218 (by rw [htg2.mpr z]; omega)
                · refine mm_aload_n dX2_markLost_221 rfl rfl ?_
                  refine mm_getr dX2_markLost_222 rfl fl_X2_20 (c := 139) rfl (by decide) rfl rfl (hRN.at (c := 139) (i := 10) (v := 143) rfl (by decide)) ?_
                  refine mm_iload dX2_markLost_225 rfl rfl ?_
                  refine mm_iload dX2_markLost_227 rfl rfl ?_
                  refine mm_istk (k0 := i) dX2_markLost_229 rfl (c := 142) rfl (by decide) rfl (by omega) (by omega) (fun M229 hM229 => ?_)
                  have hR229 : mm_Rf M229 := by rw [hM229]; exact hRN.up (mm_rt_ar (t := 0) rfl (by decide))
                  have hG229 : mm_ag M M229 := by rw [hM229]; exact hG.up (by decide)
                  refine mm_aload_n dX2_markLost_230 rfl rfl ?_
                  refine mm_getr dX2_markLost_231 rfl fl_X2_23 (c := 139) rfl (by decide) rfl rfl (hR229.at (c := 139) (i := 11) (v := 144) rfl (by decide)) ?_
                  refine mm_iload dX2_markLost_234 rfl rfl ?_
                  refine mm_iconst dX2_markLost_236 rfl ?_
                  refine mm_zstk (k0 := i) dX2_markLost_237 rfl (c := 143) rfl (by decide) rfl (by omega) (by omega) (Or.inr rfl) (fun M237 hM237 => ?_)
                  have hR237 : mm_Rf M237 := by rw [hM237]; exact hR229.up (mm_rt_ar (t := 2) rfl (by decide))
                  have hG237 : mm_ag M M237 := by rw [hM237]; exact hG229.up (by decide)
                  refine mm_iconst dX2_markLost_238 rfl ?_
                  refine mm_istore_n dX2_markLost_239 rfl (Nat.le_of_ble_eq_true rfl) rfl ?_
                  refine mm_iinc dX2_markLost_240 rfl rfl (Nat.le_of_ble_eq_true rfl) rfl ?_
                  refine mm_goto dX2_markLost_243 ?_
                  have hE : kh_E (M 4) (kc_T M) L h (i : Int) t := hEs.mpr ⟨hf9, htg2.mp (by omega)⟩
                  refine ih2 hil _ _ 1 (Or.inr rfl) (fun z => absurd z (by decide)) hR237 hG237 ?_ ?_ ?_ ?_ ?_
                  · intro a h1 h2 h3; funext b; simp [hM237, hM229, mm_up, h2, h3]; rw [hfr a h1 h2 h3]
                  · intro j hj
                    by_cases q : j = i
                    · simp [hM237, hM229, mm_up, q]
                    · simp [hM237, hM229, mm_up, q]; exact hzz j hj
                  · intro s hs
                    by_cases q : s = i
                    · rw [q, if_pos (Nat.lt_succ_self i)]
                      simp [hM237, hM229, mm_up]
                      exact Or.inr ⟨t, by omega, hE⟩
                    · simp [hM237, hM229, mm_up, q]
                      rw [hlost s hs]
                      by_cases q2 : s < i
                      · rw [if_pos q2, if_pos (by omega)]
                      · rw [if_neg q2, if_neg (by omega)]
                  · intro s hs
                    by_cases q : s = i
                    · rw [q, if_pos (Nat.lt_succ_self i)]
                      simp [hM237, hM229, mm_up]
                      exact Or.inl ⟨t, by omega, hE, rfl⟩
                    · simp [hM237, hM229, mm_up, q]
                      have := htk s hs
                      by_cases q2 : s < i
                      · rw [if_pos q2] at this; rw [if_pos (by omega)]; exact this
                      · rw [if_neg q2] at this; rw [if_neg (by omega)]; exact this
                  · intro s hs; simp [hM237, hM229, mm_up]; exact hgo s hs
        · refine mm_iload dX2_markLost_168 rfl rfl ?_
          refine mm_aload_n dX2_markLost_170 rfl rfl ?_
          refine mm_getr dX2_markLost_171 rfl fl_X2_27 (c := 139) rfl (by decide) rfl rfl (hRN.at (c := 139) (i := 0) (v := 4) rfl (by decide)) ?_
          refine mm_get (kd := 0) dX2_markLost_174 rfl fl_X2_99 (c := 3) rfl (by decide) rfl rfl ?_
          obtain ⟨v174, hv174⟩ : ∃ v, v = N 3 2 := ⟨_, rfl⟩
          rw [← hv174]
          rw [f3] at hv174
          subst hv174
          refine mm_icge dX2_markLost_177 (by omega) (by omega) (fun h177 => ?_) (fun h177 => ?_)
          · refine mm_iinc dX2_markLost_246 rfl rfl (Nat.le_of_ble_eq_true rfl) rfl ?_
            refine mm_goto dX2_markLost_249 ?_
            refine ih hlt.1 (by omega) N _ _ g hg ?_ hRN hG hfr hzz ?_ ?_ hgo
            · intro g0
              refine ⟨by omega, fun s hs => ?_⟩
              have := hg0 g0 s.toNat (by have := hs.1; have := hs.2; omega)
              rw [Int.toNat_of_nonneg hs.1] at this
              exact this
            · intro s hs
              have := hlost s hs
              rw [if_pos (by omega)] at this
              exact this
            · intro s hs
              have := htk s hs
              rw [if_pos (by omega)] at this
              exact this
          · exfalso; omega
      have hlt2 := hlt.2
      refine mm_iload dX2_markLost_151 rfl rfl ?_
      refine mm_sipush dX2_markLost_153 rfl (by decide) ?_
      refine mm_icge dX2_markLost_156 (by omega) (by omega) (fun h156 => ?_) (fun h156 => ?_)
      · exfalso; omega
      · refine mm_iload_n dX2_markLost_159 rfl rfl ?_
        refine mm_ifeq dX2_markLost_160 (by omega) (fun h160 => ?_) (fun h160 => ?_)
        · exfalso; omega
        · refine mm_iconst dX2_markLost_163 rfl ?_
          refine mm_istore_n dX2_markLost_164 rfl (Nat.le_of_ble_eq_true rfl) rfl ?_
          refine mm_iconst dX2_markLost_165 rfl ?_
          refine mm_istore dX2_markLost_166 rfl (Nat.le_of_ble_eq_true rfl) rfl ?_
          refine sweep 0 (Nat.zero_le _) N _ 0 (Or.inl rfl) (fun _ s hs => absurd hs (Nat.not_lt_zero s)) hRN hG hfr hzz ?_ ?_ hgo
          · intro s hs; rw [if_neg (Nat.not_lt_zero s)]; exact hlost s hs
          · intro s hs; rw [if_neg (Nat.not_lt_zero s)]; exact htk s hs
    · refine mm_iload dX2_markLost_151 rfl rfl ?_
      refine mm_sipush dX2_markLost_153 rfl (by decide) ?_
      refine mm_icge dX2_markLost_156 (by omega) (by omega) (fun h156 => ?_) (fun h156 => ?_)
      · first
        | exact fin N t _ _ _ _ ht hRN hG hfr hzz hlost (Or.inl (by omega)) ht1
        | exact fin N t _ _ _ _ ht hRN hG hfr hzz hlost (Or.inr (hf0 (by omega)).2) ht1
      · refine mm_iload_n dX2_markLost_159 rfl rfl ?_
        refine mm_ifeq dX2_markLost_160 (by omega) (fun h160 => ?_) (fun h160 => ?_)
        · first
          | exact fin N t _ _ _ _ ht hRN hG hfr hzz hlost (Or.inl (by omega)) ht1
          | exact fin N t _ _ _ _ ht hRN hG hfr hzz hlost (Or.inr (hf0 (by omega)).2) ht1
        · exfalso; omega
  have first : ∀ i : Nat, i ≤ (ks_n (M 4)).toNat → ∀ (N : mm_M) (l4 l5 l6 : mm_V), mm_Rf N → mm_ag M N → (∀ a, a ≠ 141 → a ≠ 142 → a ≠ 143 → N a = M a) → (∀ j : Nat, i ≤ j → N 143 j = M 143 j) → (∀ j : Nat, j < 288 → N 143 j = 0 ∨ N 143 j = 1) →
      (∀ s : Nat, s < i → (N 143 s = 1 ↔ M 143 s = 1 ∨ kh_fate (M 4) (kc_T M) L h s ≠ 0)) →
      (∀ s : Nat, s < i → N 142 s = if kh_fate (M 4) (kc_T M) L h s = 0 then -1 else 0) →
      (∀ s : Nat, s < i → N 141 s = if kh_fate (M 4) (kc_T M) L h s = 0 then kh_nx (M 4) (kc_T M) L h s else -1) →
      mm_J X Y_X2_markLost 243 243 243 2 [(2, 140), (0, h), (0, mm_b P), (0, (i : Int)), l4, l5, l6] [] N Φ := by
    refine mm_lp ?_
    intro i hi ih N l4 l5 l6 hRN hG hfr hsame hzz hlost htk hgo
    have f3 : N 3 2 = ks_n (M 4) := by rw [hG 3 (by decide) (by decide)]; exact est
    by_cases hil : i < (ks_n (M 4)).toNat
    · have hin : (i : Int) < ks_n (M 4) := by omega
      have hsi := hst i hin
      have hwi := hwb i hsi
      have hai := ks_in_ac (s := (i : Int)) (hTac (i : Int) (ks_wi L (M 4) (i : Int) h))
      have hcan := ks_in_can (K := M 4) (s := (i : Int)) (hTac (i : Int) (ks_wi L (M 4) (i : Int) h)).1
      have hpi := ks_pw hK.1 (s := (i : Int)) hai hwi
      have hfb := ks_fateb (K := M 4) (p := ks_p (M 4) (i : Int) (ks_in (M 4) (i : Int) (kc_T M (i : Int) (ks_wi L (M 4) (i : Int) h))) (ks_wi L (M 4) (i : Int) h))
      have efa : ks_fate (M 4) (ks_p (M 4) (i : Int) (ks_in (M 4) (i : Int) (kc_T M (i : Int) (ks_wi L (M 4) (i : Int) h))) (ks_wi L (M 4) (i : Int) h)) = kh_fate (M 4) (kc_T M) L h (i : Int) := rfl
      have enx : ks_to (M 4) (i : Int) (ks_in (M 4) (i : Int) (kc_T M (i : Int) (ks_wi L (M 4) (i : Int) h))) = kh_nx (M 4) (kc_T M) L h (i : Int) := rfl
      have eW : (if P then ks_wi (M 17) (M 4) (i : Int) h else ks_wi (M 16) (M 4) (i : Int) h) = ks_wi L (M 4) (i : Int) h := by
        rw [hL]
        split <;> rfl
      have hzi := hzz i (by omega)
      have hmi : N 143 i = M 143 i := hsame i (Nat.le_refl _)
      have cG := g_X4_goal (X := X) hRN hG hK hsi hai
      rw [if_pos hcan, enx] at cG
      clear hcan
      have nx : ∀ (N1 : mm_M) (l4 l5 : mm_V), mm_Rf N1 → mm_ag M N1 → (∀ a, a ≠ 141 → N1 a = N a) → (∀ s : Nat, s ≠ i → N1 141 s = N 141 s) → (N1 141 i = if kh_fate (M 4) (kc_T M) L h (i : Int) = 0 then kh_nx (M 4) (kc_T M) L h (i : Int) else -1) →
          mm_J X Y_X2_markLost 243 243 243 99 [(2, 140), (0, h), (0, mm_b P), (0, (i : Int)), l4, l5, (0, mm_b (kh_fate (M 4) (kc_T M) L h (i : Int) ≠ 0))] [] N1 Φ := by
        intro N1 l4 l5 hR1 hG1 h1 h2 h3
        have f143 : N1 143 = N 143 := h1 143 (by decide)
        have nx2 : ∀ (N2 : mm_M) (z : Int), mm_Rf N2 → mm_ag M N2 → (∀ a, a ≠ 142 → N2 a = N1 a) → (∀ s : Nat, s ≠ i → N2 142 s = N1 142 s) → (N2 142 i = if kh_fate (M 4) (kc_T M) L h (i : Int) = 0 then -1 else 0) → (z = 0 ∨ z = 1) → (z = 1 ↔ M 143 i = 1 ∨ kh_fate (M 4) (kc_T M) L h (i : Int) ≠ 0) →
            mm_J X Y_X2_markLost 243 243 243 139 [(2, 140), (0, h), (0, mm_b P), (0, (i : Int)), l4, l5, (0, mm_b (kh_fate (M 4) (kc_T M) L h (i : Int) ≠ 0))] [(0, z), (0, (i : Int)), (2, 144)] N2 Φ := by
          intro N2 z hR2 hG2 k1 k2 k3 hz1 hz2
          refine mm_zstk (k0 := i) dX2_markLost_139 rfl (c := 143) rfl (by decide) rfl (by omega) (by omega) hz1 (fun M139 hM139 => ?_)
          have hR139 : mm_Rf M139 := by rw [hM139]; exact hR2.up (mm_rt_ar (t := 2) rfl (by decide))
          have hG139 : mm_ag M M139 := by rw [hM139]; exact hG2.up (by decide)
          refine mm_iinc dX2_markLost_140 rfl rfl (Nat.le_of_ble_eq_true rfl) rfl ?_
          refine mm_goto dX2_markLost_143 ?_
          have q143 : ∀ j, j ≠ i → M139 143 j = N 143 j := by intro j hj; simp [hM139, mm_up, hj]; rw [k1 143 (by decide), f143]
          refine ih hil _ _ _ _ hR139 hG139 ?_ ?_ ?_ ?_ ?_ ?_
          · intro a a1 a2 a3; rw [hM139, mm_up_row a3, k1 a a2, h1 a a1]; exact hfr a a1 a2 a3
          · intro j hj; rw [q143 j (by omega)]; exact hsame j (by omega)
          · intro j hj
            by_cases q : j = i
            · rw [hM139, q, mm_up_s]; exact hz1
            · rw [q143 j q]; exact hzz j hj
          · intro s hs
            by_cases q : s = i
            · rw [hM139, q, mm_up_s]; exact hz2
            · rw [q143 s q]; exact hlost s (by omega)
          · intro s hs
            rw [hM139, mm_up_row (by decide)]
            by_cases q : s = i
            · rw [q]; exact k3
            · rw [k2 s q, h1 142 (by decide)]; exact htk s (by omega)
          · intro s hs
            rw [hM139, mm_up_row (by decide), k1 141 (by decide)]
            by_cases q : s = i
            · rw [q]; exact h3
            · rw [h2 s q]; exact hgo s (by omega)
        refine mm_aload_n dX2_markLost_99 rfl rfl ?_
        refine mm_getr dX2_markLost_100 rfl fl_X2_20 (c := 139) rfl (by decide) rfl rfl (hR1.at (c := 139) (i := 10) (v := 143) rfl (by decide)) ?_
        refine mm_iload_n dX2_markLost_103 rfl rfl ?_
        refine mm_iload dX2_markLost_104 rfl rfl ?_
        refine mm_ifeqb_d (q2 := 114) dX2_markLost_106 (fun k => mm_iconst dX2_markLost_113 rfl k) (fun k => mm_iconst dX2_markLost_109 rfl (mm_goto dX2_markLost_110 k)) ?_
        refine mm_istk (k0 := i) dX2_markLost_114 rfl (c := 142) rfl (by decide) rfl (by omega) (by omega) (fun M114 hM114 => ?_)
        have hR114 : mm_Rf M114 := by rw [hM114]; exact hR1.up (mm_rt_ar (t := 0) rfl (by decide))
        have hG114 : mm_ag M M114 := by rw [hM114]; exact hG1.up (by decide)
        refine mm_aload_n dX2_markLost_115 rfl rfl ?_
        refine mm_getr dX2_markLost_116 rfl fl_X2_23 (c := 139) rfl (by decide) rfl rfl (hR114.at (c := 139) (i := 11) (v := 144) rfl (by decide)) ?_
        refine mm_iload_n dX2_markLost_119 rfl rfl ?_
        refine mm_aload_n dX2_markLost_120 rfl rfl ?_
        refine mm_getr dX2_markLost_121 rfl fl_X2_23 (c := 139) rfl (by decide) rfl rfl (hR114.at (c := 139) (i := 11) (v := 144) rfl (by decide)) ?_
        refine mm_iload_n dX2_markLost_124 rfl rfl ?_
        refine mm_zalk (k0 := i) dX2_markLost_125 rfl (c := 143) rfl (by decide) rfl (by omega) (by omega) ?_
        rw [show M114 143 = N1 143 from by rw [hM114, mm_up_row (by decide)]]
        rw [f143]
        rw [hmi]
        refine mm_ifne dX2_markLost_126 (by omega) (fun h126 => ?_) (fun h126 => ?_)
        · refine mm_iconst dX2_markLost_134 rfl ?_
          refine mm_goto dX2_markLost_135 ?_
          refine nx2 _ _ hR114 hG114 ?_ ?_ ?_ (by decide) ?_
          · intro a ha; rw [hM114, mm_up_row ha]
          · intro s hs; rw [hM114, mm_up_i hs]
          · rw [hM114, mm_up_s]; split <;> (try split) <;> (first | rfl | (exfalso; omega))
          · first
            | exact ⟨fun _ => Or.inl (by omega), fun _ => rfl⟩
            | exact ⟨fun _ => Or.inr h131, fun _ => rfl⟩
            | exact ⟨fun q => absurd q (by decide), fun q => by omega⟩
        · refine mm_iload dX2_markLost_129 rfl rfl ?_
          refine mm_ifeqb dX2_markLost_131 (fun h131 => ?_) (fun h131 => ?_)
          · refine mm_iconst dX2_markLost_138 rfl ?_
            refine nx2 _ _ hR114 hG114 ?_ ?_ ?_ (by decide) ?_
            · intro a ha; rw [hM114, mm_up_row ha]
            · intro s hs; rw [hM114, mm_up_i hs]
            · rw [hM114, mm_up_s]; split <;> (try split) <;> (first | rfl | (exfalso; omega))
            · first
              | exact ⟨fun _ => Or.inl (by omega), fun _ => rfl⟩
              | exact ⟨fun _ => Or.inr h131, fun _ => rfl⟩
              | exact ⟨fun q => absurd q (by decide), fun q => by omega⟩
          · refine mm_iconst dX2_markLost_134 rfl ?_
            refine mm_goto dX2_markLost_135 ?_
            refine nx2 _ _ hR114 hG114 ?_ ?_ ?_ (by decide) ?_
            · intro a ha; rw [hM114, mm_up_row ha]
            · intro s hs; rw [hM114, mm_up_i hs]
            · rw [hM114, mm_up_s]; split <;> (try split) <;> (first | rfl | (exfalso; omega))
            · first
              | exact ⟨fun _ => Or.inl (by omega), fun _ => rfl⟩
              | exact ⟨fun _ => Or.inr h131, fun _ => rfl⟩
              | exact ⟨fun q => absurd q (by decide), fun q => by omega⟩
      refine mm_iload_n dX2_markLost_2 rfl rfl ?_
      refine mm_aload_n dX2_markLost_3 rfl rfl ?_
      refine mm_getr dX2_markLost_4 rfl fl_X2_27 (c := 139) rfl (by decide) rfl rfl (hRN.at (c := 139) (i := 0) (v := 4) rfl (by decide)) ?_
      refine mm_get (kd := 0) dX2_markLost_7 rfl fl_X2_99 (c := 3) rfl (by decide) rfl rfl ?_
      obtain ⟨v7, hv7⟩ : ∃ v, v = N 3 2 := ⟨_, rfl⟩
      rw [← hv7]
      rw [f3] at hv7
      subst hv7
      refine mm_icge dX2_markLost_10 (by omega) (by omega) (fun h10 => ?_) (fun h10 => ?_)
      · exfalso; omega
      · refine mm_aload_n dX2_markLost_13 rfl rfl ?_
        refine mm_getr dX2_markLost_14 rfl fl_X2_31 (c := 139) rfl (by decide) rfl rfl (hRN.at (c := 139) (i := 1) (v := 12) rfl (by decide)) ?_
        refine mm_iload_n dX2_markLost_17 rfl rfl ?_
        refine mm_iload_n dX2_markLost_18 rfl rfl ?_
        refine mm_iload_n dX2_markLost_19 rfl rfl ?_
        refine mm_V3i dX2_markLost_20 rfl lk_X2_62 (c := 11) rfl (by decide) rfl (by simp) (by simp) (by simp) rfl rfl rfl ((eW ▸ g_X0_windIn (P := P) hRN hG hK hsi hh)) ?_
        refine mm_istore dX2_markLost_23 rfl (Nat.le_of_ble_eq_true rfl) rfl ?_
        refine mm_aload_n dX2_markLost_25 rfl rfl ?_
        refine mm_getr dX2_markLost_26 rfl fl_X2_27 (c := 139) rfl (by decide) rfl rfl (hRN.at (c := 139) (i := 0) (v := 4) rfl (by decide)) ?_
        refine mm_iload_n dX2_markLost_29 rfl rfl ?_
        refine mm_aload_n dX2_markLost_30 rfl rfl ?_
        refine mm_getr dX2_markLost_31 rfl fl_X2_35 (c := 139) rfl (by decide) rfl rfl (hRN.at (c := 139) (i := 2) (v := 19) rfl (by decide)) ?_
        refine mm_iload_n dX2_markLost_34 rfl rfl ?_
        refine mm_iload dX2_markLost_35 rfl rfl ?_
        refine mm_V2i dX2_markLost_37 rfl lk_X2_70 (c := 18) rfl (by decide) rfl (by simp) (by simp) rfl rfl rfl (g_X9_actFor hRN hG hK hC hsi hwi) ?_
        refine mm_V2i dX2_markLost_40 rfl lk_X2_76 (c := 3) rfl (by decide) rfl (by simp) (by simp) rfl rfl rfl (g_X4_withinStates hRN hG hK hsi (hTac _ _)) ?_
        refine mm_istore dX2_markLost_43 rfl (Nat.le_of_ble_eq_true rfl) rfl ?_
        refine mm_aload_n dX2_markLost_45 rfl rfl ?_
        refine mm_getr dX2_markLost_46 rfl fl_X2_27 (c := 139) rfl (by decide) rfl rfl (hRN.at (c := 139) (i := 0) (v := 4) rfl (by decide)) ?_
        refine mm_aload_n dX2_markLost_49 rfl rfl ?_
        refine mm_getr dX2_markLost_50 rfl fl_X2_27 (c := 139) rfl (by decide) rfl rfl (hRN.at (c := 139) (i := 0) (v := 4) rfl (by decide)) ?_
        refine mm_iload_n dX2_markLost_53 rfl rfl ?_
        refine mm_iload dX2_markLost_54 rfl rfl ?_
        refine mm_iload dX2_markLost_56 rfl rfl ?_
        refine mm_V3i dX2_markLost_58 rfl lk_X2_79 (c := 3) rfl (by decide) rfl (by simp) (by simp) (by simp) rfl rfl rfl (g_X4_pullOf hRN hG hK hsi hai (by omega)) ?_
        refine mm_V1i dX2_markLost_61 rfl lk_X2_82 (c := 3) rfl (by decide) rfl (by simp) rfl rfl rfl (g_X4_fateOf hRN hG hK (by omega)) ?_
        rw [efa] at hfb ⊢
        refine mm_ifeq_z (q2 := 72) dX2_markLost_64 (by omega) (fun k => mm_iconst dX2_markLost_71 rfl k) (fun k => mm_iconst dX2_markLost_67 rfl (mm_goto dX2_markLost_68 k)) ?_
        refine mm_istore dX2_markLost_72 rfl (Nat.le_of_ble_eq_true rfl) rfl ?_
        refine mm_aload_n dX2_markLost_74 rfl rfl ?_
        refine mm_getr dX2_markLost_75 rfl fl_X2_17 (c := 139) rfl (by decide) rfl rfl (hRN.at (c := 139) (i := 9) (v := 142) rfl (by decide)) ?_
        refine mm_iload_n dX2_markLost_78 rfl rfl ?_
        refine mm_iload dX2_markLost_79 rfl rfl ?_
        refine mm_ifeqb dX2_markLost_81 (fun h81 => ?_) (fun h81 => ?_)
        · refine mm_aload_n dX2_markLost_88 rfl rfl ?_
          refine mm_getr dX2_markLost_89 rfl fl_X2_27 (c := 139) rfl (by decide) rfl rfl (hRN.at (c := 139) (i := 0) (v := 4) rfl (by decide)) ?_
          refine mm_iload_n dX2_markLost_92 rfl rfl ?_
          refine mm_iload dX2_markLost_93 rfl rfl ?_
          refine mm_V2i dX2_markLost_95 rfl lk_X2_92 (c := 3) rfl (by decide) rfl (by simp) (by simp) rfl rfl rfl (cG) ?_
          refine mm_istk (k0 := i) dX2_markLost_98 rfl (c := 141) rfl (by decide) rfl (by omega) (by omega) (fun M98 hM98 => ?_)
          have hR98 : mm_Rf M98 := by rw [hM98]; exact hRN.up (mm_rt_ar (t := 0) rfl (by decide))
          have hG98 : mm_ag M M98 := by rw [hM98]; exact hG.up (by decide)
          refine nx _ _ _ hR98 hG98 ?_ ?_ ?_
          · intro a ha; rw [hM98, mm_up_row ha]
          · intro s hs; rw [hM98, mm_up_i hs]
          · rw [hM98, mm_up_s]
            first
            | (rw [if_neg h81]; done)
            | (rw [if_pos (by omega)]; done)
        · refine mm_iconst dX2_markLost_84 rfl ?_
          refine mm_goto dX2_markLost_85 ?_
          refine mm_istk (k0 := i) dX2_markLost_98 rfl (c := 141) rfl (by decide) rfl (by omega) (by omega) (fun M98 hM98 => ?_)
          have hR98 : mm_Rf M98 := by rw [hM98]; exact hRN.up (mm_rt_ar (t := 0) rfl (by decide))
          have hG98 : mm_ag M M98 := by rw [hM98]; exact hG.up (by decide)
          refine nx _ _ _ hR98 hG98 ?_ ?_ ?_
          · intro a ha; rw [hM98, mm_up_row ha]
          · intro s hs; rw [hM98, mm_up_i hs]
          · rw [hM98, mm_up_s]
            first
            | (rw [if_neg h81]; done)
            | (rw [if_pos (by omega)]; done)
    · refine mm_iload_n dX2_markLost_2 rfl rfl ?_
      refine mm_aload_n dX2_markLost_3 rfl rfl ?_
      refine mm_getr dX2_markLost_4 rfl fl_X2_27 (c := 139) rfl (by decide) rfl rfl (hRN.at (c := 139) (i := 0) (v := 4) rfl (by decide)) ?_
      refine mm_get (kd := 0) dX2_markLost_7 rfl fl_X2_99 (c := 3) rfl (by decide) rfl rfl ?_
      obtain ⟨v7, hv7⟩ : ∃ v, v = N 3 2 := ⟨_, rfl⟩
      rw [← hv7]
      rw [f3] at hv7
      subst hv7
      refine mm_icge dX2_markLost_10 (by omega) (by omega) (fun h10 => ?_) (fun h10 => ?_)
      · refine mm_iconst dX2_markLost_146 rfl ?_
        refine mm_istore_n dX2_markLost_147 rfl (Nat.le_of_ble_eq_true rfl) rfl ?_
        refine mm_iconst dX2_markLost_148 rfl ?_
        refine mm_istore dX2_markLost_149 rfl (Nat.le_of_ble_eq_true rfl) rfl ?_
        refine levels 1 (by decide) (Nat.le_refl _) N _ _ 1 (Or.inr rfl) (fun z => absurd z (by decide)) hRN hG hfr hzz ?_ ?_ ?_
        · intro s hs
          rw [hlost s (by omega), ← kh_E0]
          constructor
          · rintro (z | z)
            · exact Or.inl z
            · exact Or.inr ⟨0, by decide, z⟩
          · rintro (z | ⟨j, hj, z⟩)
            · exact Or.inl z
            · rw [show j = 0 by omega] at z; exact Or.inr z
        · intro s hs
          rw [htk s (by omega)]
          by_cases z : kh_fate (M 4) (kc_T M) L h s = 0
          · rw [if_pos z]
            refine Or.inr ⟨fun j hj => ?_, rfl⟩
            rw [show j = 0 by omega, kh_E0]
            exact fun y => y z
          · rw [if_neg z]
            exact Or.inl ⟨0, by decide, kh_E0.mpr z, rfl⟩
        · intro s hs; exact hgo s (by omega)
      · exfalso; omega
  refine mm_iconst dX2_markLost_0 rfl ?_
  refine mm_istore_n dX2_markLost_1 rfl (Nat.le_of_ble_eq_true rfl) rfl ?_
  exact first 0 (Nat.zero_le _) M _ _ _ hR hG0 (fun _ _ _ _ => rfl) (fun _ _ => rfl) hz (fun s hs => absurd hs (Nat.not_lt_zero s)) (fun s hs => absurd hs (Nat.not_lt_zero s)) (fun s hs => absurd hs (Nat.not_lt_zero s))
end
end
