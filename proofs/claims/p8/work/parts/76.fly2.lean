/-! ===== flights: run, fly, of both sides ===== -/
/-- the fate with which a flight of n ticks ends behind c of them -/
def kfl_end (K : Nat → Int) (T : Int → Int → Int) (W : Int → Nat → Int) (s : Int) (n c : Nat) : Int := if c < n then ks_fate K (kfl_p K T W s c) else 0
theorem kfl_Wb {L K : Nat → Int} (hK : mm_KV K) (hL : ∀ p, p < 120 → 0 ≤ L p ∧ L p ≤ 60) {h e s : Int} (hs : ks_st K s) (hh : ks_hr h) (he : 0 ≤ e) {i : Nat} : 0 ≤ kfl_W L K h e s i ∧ kfl_W L K h e s i ≤ 60 := by
  unfold kfl_W ks_wi
  refine hL _ (ks_plb ?_ (ks_bandb hK hs))
  split
  · exact hh
  · have : 0 ≤ (i : Int) / e := Int.ediv_nonneg (by omega) he
    unfold ks_hr
    omega
theorem ks_fateb {K : Nat → Int} {p : Int} : 0 ≤ ks_fate K p ∧ ks_fate K p ≤ 2 := by unfold ks_fate; split <;> (try split) <;> omega
section
variable {X : mm_X} {M : mm_M} {s h e n : Int}
/-- what a flight leaves: wind L -/
def kfl_post (M M' : mm_M) (L : Nat → Int) (s h e : Int) (n c : Nat) : Prop :=
  kj_is (kfl_ok (M 4) (kc_T M) (kfl_W L (M 4) h e) s) n c ∧ (∀ a, a ≠ 139 → a ≠ 140 → M' a = M a) ∧ M' 139 3 = 1 ∧ M' 139 4 = c ∧ M' 139 5 = kfl_end (M 4) (kc_T M) (kfl_W L (M 4) h e) s n c ∧
  M' 139 6 = ka_sum (kfl_g (M 4) (kc_T M) (kfl_W L (M 4) h e) s) c ∧ M' 139 7 = kfl_S (M 4) (kc_T M) (kfl_W L (M 4) h e) s c ∧ (∀ i, i < c → M' 140 i = kfl_a (M 4) (kc_T M) (kfl_W L (M 4) h e) s i)
theorem c_X2_run {P : Prop} [Decidable P] (hR : mm_Rf M) (hK : mm_CK M) (hA : mm_CA M) (hC : mm_CR M) (hs : ks_st (M 4) s) (hh : ks_hr h) (hn : 1 ≤ n ∧ n ≤ 500) (he : 1 ≤ e ∧ e ≤ 60) :
    mm_C X Y_X2_run 243 243 [(2, 140), (0, s), (0, h), (0, n), (0, e), (0, mm_b P)] M (fun r M' => ∃ c : Nat, r = (0, (c : Int)) ∧ mm_Rf M' ∧ mm_ag M M' ∧ kfl_post M M' (if P then M 17 else M 16) s h e n.toNat c) := by
  obtain ⟨L, hL⟩ : ∃ L, L = (if P then M 17 else M 16) := ⟨_, rfl⟩
  rw [← hL]
  have hLb : ∀ p, p < 120 → 0 ≤ L p ∧ L p ≤ 60 := by
    intro p hp
    have := hA p hp
    rw [hL]
    split <;> omega
  have hG0 := mm_ag.rf M
  have hnb := ks_nb hK.1
  obtain ⟨S, hS⟩ : ∃ S, S = kfl_S (M 4) (kc_T M) (kfl_W L (M 4) h e) s := ⟨_, rfl⟩
  have hSs : ∀ i, ks_st (M 4) (S i) := by rw [hS]; exact kfl_st hK.1 (fun s w => kc_T_ac hK.1 hC) hs
  have hWb : ∀ i, 0 ≤ kfl_W L (M 4) h e (S i) i ∧ kfl_W L (M 4) h e (S i) i ≤ 60 := fun i => kfl_Wb hK.1 hLb (hSs i) hh (by omega)
  have hab : ∀ i, ks_ac (M 4) (kfl_a (M 4) (kc_T M) (kfl_W L (M 4) h e) s i) := fun i => ks_in_ac (kc_T_ac hK.1 hC)
  have hpb : ∀ i, 0 ≤ kfl_p (M 4) (kc_T M) (kfl_W L (M 4) h e) s i ∧ kfl_p (M 4) (kc_T M) (kfl_W L (M 4) h e) s i ≤ 1425600 := fun i => ks_pw hK.1 (hab i) (by have := hWb i; rw [hS] at this; exact this)
  refine mm_start (ls := [(2, 140), (0, s), (0, h), (0, n), (0, e), (0, mm_b P), (9, 0)]) rfl ?_
  have fin : ∀ (i : Nat) (N : mm_M) (t : Int), 0 ≤ t → t ≤ 1000 → i < n.toNat → mm_Rf N → mm_ag M N → (∀ a, a ≠ 139 → a ≠ 140 → N a = M a) → (∀ j, j < i → kfl_ok (M 4) (kc_T M) (kfl_W L (M 4) h e) s j) → ¬ kfl_ok (M 4) (kc_T M) (kfl_W L (M 4) h e) s i → N 139 3 = 1 → N 139 4 = i → N 139 5 = ks_fate (M 4) (kfl_p (M 4) (kc_T M) (kfl_W L (M 4) h e) s i) → N 139 6 = ka_sum (kfl_g (M 4) (kc_T M) (kfl_W L (M 4) h e) s) i → N 139 7 = S i →
      (∀ j, j < i → N 140 j = kfl_a (M 4) (kc_T M) (kfl_W L (M 4) h e) s j) →
      mm_J X Y_X2_run 243 243 243 28 [(2, 140), (0, s), (0, h), (0, n), (0, e), (0, mm_b P), (0, t)] [] N (fun r M' => ∃ c : Nat, r = (0, (c : Int)) ∧ mm_Rf M' ∧ mm_ag M M' ∧ kfl_post M M' L s h e n.toNat c) := by
    intro i N t ht0 ht1 hlt hRN hG hfr hok hno e3 e4 e5 e6 e7 hac
    have hno2 : ks_fate (M 4) (kfl_p (M 4) (kc_T M) (kfl_W L (M 4) h e) s i) ≠ 0 := hno
    have hfb := ks_fateb (K := M 4) (p := kfl_p (M 4) (kc_T M) (kfl_W L (M 4) h e) s i)
    refine mm_iload dX2_run_28 rfl rfl ?_
    refine mm_iload_n dX2_run_30 rfl rfl ?_
    refine mm_icge dX2_run_31 (by omega) (by omega) (fun h31 => ?_) (fun h31 => ?_)
    · refine mm_aload_n dX2_run_72 rfl rfl ?_
      refine mm_get (kd := 0) dX2_run_73 rfl fl_X2_43 (c := 139) rfl (by decide) rfl rfl ?_
      obtain ⟨v73, hv73⟩ : ∃ v, v = N 139 4 := ⟨_, rfl⟩
      rw [← hv73]
      rw [e4] at hv73
      subst hv73
      refine mm_iret dX2_run_76 rfl rfl ?_
      refine ⟨i, rfl, hRN, hG, ⟨by omega, hok, fun _ => hno⟩, hfr, e3, e4, ?_, e6, by rw [e7, hS], hac⟩
      rw [e5]; unfold kfl_end; rw [if_pos hlt]
    · refine mm_aload_n dX2_run_34 rfl rfl ?_
      refine mm_get (kd := 0) dX2_run_35 rfl fl_X2_47 (c := 139) rfl (by decide) rfl rfl ?_
      obtain ⟨v35, hv35⟩ : ∃ v, v = N 139 5 := ⟨_, rfl⟩
      rw [← hv35]
      rw [e5] at hv35
      subst hv35
      refine mm_ifne dX2_run_38 (by omega) (fun h38 => ?_) (fun h38 => ?_)
      · refine mm_aload_n dX2_run_72 rfl rfl ?_
        refine mm_get (kd := 0) dX2_run_73 rfl fl_X2_43 (c := 139) rfl (by decide) rfl rfl ?_
        obtain ⟨v73, hv73⟩ : ∃ v, v = N 139 4 := ⟨_, rfl⟩
        rw [← hv73]
        rw [e4] at hv73
        subst hv73
        refine mm_iret dX2_run_76 rfl rfl ?_
        refine ⟨i, rfl, hRN, hG, ⟨by omega, hok, fun _ => hno⟩, hfr, e3, e4, ?_, e6, by rw [e7, hS], hac⟩
        rw [e5]; unfold kfl_end; rw [if_pos hlt]
      · exact absurd h38 hno2
  have loop : ∀ i : Nat, i ≤ n.toNat → ∀ N : mm_M, mm_Rf N → mm_ag M N → (∀ a, a ≠ 139 → a ≠ 140 → N a = M a) → (∀ j, j < i → kfl_ok (M 4) (kc_T M) (kfl_W L (M 4) h e) s j) → N 139 3 = 1 → N 139 4 = i → N 139 5 = 0 → N 139 6 = ka_sum (kfl_g (M 4) (kc_T M) (kfl_W L (M 4) h e) s) i → N 139 7 = S i →
      (∀ j, j < i → N 140 j = kfl_a (M 4) (kc_T M) (kfl_W L (M 4) h e) s j) →
      mm_J X Y_X2_run 243 243 243 28 [(2, 140), (0, s), (0, h), (0, n), (0, e), (0, mm_b P), (0, (i : Int))] [] N (fun r M' => ∃ c : Nat, r = (0, (c : Int)) ∧ mm_Rf M' ∧ mm_ag M M' ∧ kfl_post M M' L s h e n.toNat c) := by
    refine mm_lp ?_
    intro i hi ih N hRN hG hfr hok e3 e4 e5 e6 e7 hac
    by_cases hlt : i < n.toNat
    · have hSi := hSs i
      have hWi := hWb i
      have hdv := mm_divb (a := (i : Int)) (b := e) (A := 500) (by omega) (by omega) (by omega)
      have hhr : ks_hr ((h + (i : Int) / e) % 24) := by unfold ks_hr; omega
      have eW : (if P then ks_wi (M 17) (M 4) (S i) ((h + (i : Int) / e) % 24) else ks_wi (M 16) (M 4) (S i) ((h + (i : Int) / e) % 24)) = kfl_W L (M 4) h e (S i) i := by
        unfold kfl_W
        rw [if_neg (show ¬ e = 0 by omega), hL]
        split <;> rfl
      have e44 : N 4 = M 4 := hG 4 (by decide) (by decide)
      have ea : ks_in (M 4) (S i) (kc_T M (S i) (kfl_W L (M 4) h e (S i) i)) = kfl_a (M 4) (kc_T M) (kfl_W L (M 4) h e) s i := by rw [hS]; rfl
      have ep : ks_p (M 4) (S i) (kfl_a (M 4) (kc_T M) (kfl_W L (M 4) h e) s i) (kfl_W L (M 4) h e (S i) i) = kfl_p (M 4) (kc_T M) (kfl_W L (M 4) h e) s i := by rw [hS]; rfl
      have eS : ks_to (M 4) (S i) (kfl_a (M 4) (kc_T M) (kfl_W L (M 4) h e) s i) = S (i + 1) := by rw [hS]; rfl
      refine mm_iload dX2_run_28 rfl rfl ?_
      refine mm_iload_n dX2_run_30 rfl rfl ?_
      refine mm_icge dX2_run_31 (by omega) (by omega) (fun h31 => ?_) (fun h31 => ?_)
      · exfalso; omega
      · refine mm_aload_n dX2_run_34 rfl rfl ?_
        refine mm_get (kd := 0) dX2_run_35 rfl fl_X2_47 (c := 139) rfl (by decide) rfl rfl ?_
        obtain ⟨v35, hv35⟩ : ∃ v, v = N 139 5 := ⟨_, rfl⟩
        rw [← hv35]
        rw [e5] at hv35
        subst hv35
        refine mm_ifne dX2_run_38 (by omega) (fun h38 => ?_) (fun h38 => ?_)
        · exfalso; omega
        · refine mm_aload_n dX2_run_41 rfl rfl ?_
          refine mm_aload_n dX2_run_42 rfl rfl ?_
          refine mm_getr dX2_run_43 rfl fl_X2_31 (c := 139) rfl (by decide) rfl rfl (hRN.at (c := 139) (i := 1) (v := 12) rfl (by decide)) ?_
          refine mm_aload_n dX2_run_46 rfl rfl ?_
          refine mm_get (kd := 0) dX2_run_47 rfl fl_X2_53 (c := 139) rfl (by decide) rfl rfl ?_
          obtain ⟨v47, hv47⟩ : ∃ v, v = N 139 7 := ⟨_, rfl⟩
          rw [← hv47]
          rw [e7] at hv47
          subst hv47
          refine mm_iload_n dX2_run_50 rfl rfl ?_
          refine mm_iload dX2_run_51 rfl rfl ?_
          refine mm_iload dX2_run_53 rfl rfl ?_
          refine mm_S3i dX2_run_55 rfl lk_X2_56 (by simp) (by simp) (by simp) rfl rfl rfl (c_X0_hourOf hh (by omega) he) ?_
          refine mm_iload dX2_run_58 rfl rfl ?_
          refine mm_V3i dX2_run_60 rfl lk_X2_62 (c := 11) rfl (by decide) rfl (by simp) (by simp) (by simp) rfl rfl rfl ((eW ▸ g_X0_windIn (P := P) hRN hG hK hSi hhr)) ?_
          refine mm_V1g (M1 := N) dX2_run_63 rfl lk_X2_66 (c := 139) rfl (by decide) rfl (by simp) rfl rfl rfl (c_X2_flyTick hRN (hG.ck hK) (hG.cr hC) (by rw [e44, e7]; exact hSi) hWi (by omega)) ?_
          rintro _ N63 ⟨rfl, p63⟩
          change mm_J _ _ _ _ _ _ _ _ _ _
          have hR63 : mm_Rf N63 := p63.1
          have hG63 : mm_ag M N63 := hG.tr p63.2.1
          obtain ⟨-, -, q1, q2, q3, q4, q5⟩ := p63
          rw [e44, e7, hG.ct, ea, ep, eS, e6, e4] at *
          have hfx : ∀ a, a ≠ 139 → a ≠ 140 → N63 a = M a := fun a h1 h2 => (q1 a h1 h2).trans (hfr a h1 h2)
          refine mm_iinc dX2_run_66 rfl rfl (Nat.le_of_ble_eq_true rfl) rfl ?_
          refine mm_goto dX2_run_69 ?_
          by_cases hz : N63 139 5 = 0
          · obtain ⟨r1, r2, r3, r4⟩ := q4 hz
            rw [q3] at hz
            refine ih hlt N63 hR63 hG63 hfx ?_ (by rw [q2, e3]) (by rw [r3]; omega) (by rw [q3]; exact hz) ?_ (by rw [r2]) ?_
            · intro j hj
              by_cases q : j = i
              · rw [q]; exact hz
              · exact hok j (by omega)
            · rw [r1]; rfl
            · intro j hj
              rw [r4]
              by_cases q : j = i
              · rw [q]; simp [mm_up]
              · simp [mm_up, q]; exact hac j (by omega)
          · obtain ⟨r1, r2, r3, r4⟩ := q5 hz
            refine fin i N63 _ (by omega) (by omega) hlt hR63 hG63 hfx hok (by rw [q3] at hz; exact hz) (by rw [q2, e3]) (by rw [r3]) q3 (by rw [r1]) (by rw [r2]) (by rw [r4]; exact hac)
    · refine mm_iload dX2_run_28 rfl rfl ?_
      refine mm_iload_n dX2_run_30 rfl rfl ?_
      refine mm_icge dX2_run_31 (by omega) (by omega) (fun h31 => ?_) (fun h31 => ?_)
      · refine mm_aload_n dX2_run_72 rfl rfl ?_
        refine mm_get (kd := 0) dX2_run_73 rfl fl_X2_43 (c := 139) rfl (by decide) rfl rfl ?_
        obtain ⟨v73, hv73⟩ : ∃ v, v = N 139 4 := ⟨_, rfl⟩
        rw [← hv73]
        rw [e4] at hv73
        subst hv73
        refine mm_iret dX2_run_76 rfl rfl ?_
        refine ⟨i, rfl, hRN, hG, ⟨hi, hok, fun q => absurd q hlt⟩, hfr, e3, e4, ?_, e6, by rw [e7, hS], hac⟩
        rw [e5]; unfold kfl_end; rw [if_neg hlt]
      · exfalso; omega
  refine mm_aload_n dX2_run_0 rfl rfl ?_
  refine mm_iconst dX2_run_1 rfl ?_
  refine mm_putz dX2_run_2 rfl fl_X2_39 (c := 139) rfl (by decide) rfl rfl (Or.inr rfl) (fun M2 hM2 => ?_)
  have hR2 : mm_Rf M2 := by rw [hM2]; exact hR.up rfl
  have hG2 : mm_ag M M2 := by rw [hM2]; exact hG0.up (by decide)
  refine mm_aload_n dX2_run_5 rfl rfl ?_
  refine mm_iconst dX2_run_6 rfl ?_
  refine mm_puti dX2_run_7 rfl fl_X2_43 (c := 139) rfl (by decide) rfl rfl (fun M7 hM7 => ?_)
  have hR7 : mm_Rf M7 := by rw [hM7]; exact hR2.up rfl
  have hG7 : mm_ag M M7 := by rw [hM7]; exact hG2.up (by decide)
  refine mm_aload_n dX2_run_10 rfl rfl ?_
  refine mm_iconst dX2_run_11 rfl ?_
  refine mm_puti dX2_run_12 rfl fl_X2_47 (c := 139) rfl (by decide) rfl rfl (fun M12 hM12 => ?_)
  have hR12 : mm_Rf M12 := by rw [hM12]; exact hR7.up rfl
  have hG12 : mm_ag M M12 := by rw [hM12]; exact hG7.up (by decide)
  refine mm_aload_n dX2_run_15 rfl rfl ?_
  refine mm_iconst dX2_run_16 rfl ?_
  refine mm_puti dX2_run_17 rfl fl_X2_50 (c := 139) rfl (by decide) rfl rfl (fun M17 hM17 => ?_)
  have hR17 : mm_Rf M17 := by rw [hM17]; exact hR12.up rfl
  have hG17 : mm_ag M M17 := by rw [hM17]; exact hG12.up (by decide)
  refine mm_aload_n dX2_run_20 rfl rfl ?_
  refine mm_iload_n dX2_run_21 rfl rfl ?_
  refine mm_puti dX2_run_22 rfl fl_X2_53 (c := 139) rfl (by decide) rfl rfl (fun M22 hM22 => ?_)
  have hR22 : mm_Rf M22 := by rw [hM22]; exact hR17.up rfl
  have hG22 : mm_ag M M22 := by rw [hM22]; exact hG17.up (by decide)
  refine mm_iconst dX2_run_25 rfl ?_
  refine mm_istore dX2_run_26 rfl (Nat.le_of_ble_eq_true rfl) rfl ?_
  refine loop 0 (Nat.zero_le _) _ hR22 hG22 ?_ (fun j q => absurd q (Nat.not_lt_zero j)) ?_ ?_ ?_ ?_ ?_ (fun j q => absurd q (Nat.not_lt_zero j))
  · intro x h1 h2; funext b; simp [hM22, hM17, hM12, hM7, hM2, mm_up, h1]
  · simp [hM22, hM17, hM12, hM7, hM2, mm_up]
  · simp [hM22, hM17, hM12, hM7, hM2, mm_up]
  · simp [hM22, hM17, hM12, hM7, hM2, mm_up]
  · simp [hM22, hM17, hM12, hM7, hM2, mm_up]; rfl
  · simp [hM22, hM17, hM12, hM7, hM2, mm_up, hS]; rfl
theorem c_X11_fly1 {P : Prop} [Decidable P] (hR : mm_Rf M) (hK : mm_CK M) (hA : mm_CA M) (hC : mm_CR M) (hs : ks_st (M 4) s) (hh : ks_hr h) (hn : 1 ≤ n ∧ n ≤ 500) (he : 1 ≤ e ∧ e ≤ 60) :
    mm_C X Y_X11_fly 243 243 [(2, 1), (0, s), (0, h), (0, n), (0, e), (0, mm_b P)] M (fun r M' => ∃ c : Nat, r = (0, (c : Int)) ∧ mm_Rf M' ∧ mm_ag M M' ∧ kfl_post M M' (if P then M 17 else M 16) s h e n.toNat c) := by
  have hnb := ks_nb hK.1
  have hs1 := hs.1
  have hs2 := hs.2
  refine mm_start (ls := [(2, 1), (0, s), (0, h), (0, n), (0, e), (0, mm_b P), (9, 0)]) rfl ?_
  refine mm_aload_n dX11_fly_0 rfl rfl ?_
  refine mm_getr dX11_fly_1 rfl fl_X11_19 (c := 0) rfl (by decide) rfl rfl (hR.at (c := 0) (i := 1) (v := 4) rfl (by decide)) ?_
  refine mm_iload_n dX11_fly_4 rfl rfl ?_
  refine mm_V1i dX11_fly_5 rfl lk_X11_139 (c := 3) rfl (by decide) rfl (by simp) rfl rfl rfl (c_X4_hasState hR hK (by omega)) ?_
  refine mm_ifeqb dX11_fly_8 (fun h8 => ?_) (fun h8 => ?_)
  · exact absurd hs h8
  · refine mm_iload_n dX11_fly_11 rfl rfl ?_
    refine mm_S1i dX11_fly_12 rfl lk_X11_165 (by simp) rfl rfl rfl (c_X11_isHour (by omega)) ?_
    refine mm_ifeqb dX11_fly_15 (fun h15 => ?_) (fun h15 => ?_)
    · exact absurd hh h15
    · refine mm_iload_n dX11_fly_18 rfl rfl ?_
      refine mm_iconst dX11_fly_19 rfl ?_
      refine mm_sipush dX11_fly_20 rfl (by decide) ?_
      refine mm_S3i dX11_fly_23 rfl lk_X11_171 (by simp) (by simp) (by simp) rfl rfl rfl (c_X11_isWithin (by omega) (by omega) (by omega)) ?_
      refine mm_ifeqb dX11_fly_26 (fun h26 => ?_) (fun h26 => ?_)
      · exact absurd hn h26
      · refine mm_iconst dX11_fly_29 rfl ?_
        refine mm_goto dX11_fly_30 ?_
        refine mm_istore dX11_fly_34 rfl (Nat.le_of_ble_eq_true rfl) rfl ?_
        refine mm_iload dX11_fly_36 rfl rfl ?_
        refine mm_ifeq dX11_fly_38 (by omega) (fun h => absurd h (by decide)) (fun _ => ?_)
        refine mm_iload dX11_fly_41 rfl rfl ?_
        refine mm_S1i dX11_fly_43 rfl lk_X11_257 (by simp) rfl rfl rfl (c_X11_isEach (by omega)) ?_
        refine mm_ifeqb dX11_fly_46 (fun h46 => ?_) (fun h46 => ?_)
        · exact absurd he h46
        · refine mm_aload_n dX11_fly_49 rfl rfl ?_
          refine mm_getr dX11_fly_50 rfl fl_X11_69 (c := 0) rfl (by decide) rfl rfl (hR.at (c := 0) (i := 8) (v := 140) rfl (by decide)) ?_
          refine mm_iload_n dX11_fly_53 rfl rfl ?_
          refine mm_iload_n dX11_fly_54 rfl rfl ?_
          refine mm_iload_n dX11_fly_55 rfl rfl ?_
          refine mm_iload dX11_fly_56 rfl rfl ?_
          refine mm_iload dX11_fly_58 rfl rfl ?_
          refine mm_V5g (M1 := M) dX11_fly_60 rfl lk_X11_260 (c := 139) rfl (by decide) rfl (by simp) (by simp) (by simp) (by simp) (by simp) rfl rfl rfl ((by have := c_X2_run (X := X) (P := P) hR hK hA hC hs hh hn he; exact this)) ?_
          rintro _ N60 ⟨x60, rfl, p60⟩
          change mm_J _ _ _ _ _ _ _ _ _ _
          have hR60 : mm_Rf N60 := p60.1
          refine mm_goto dX11_fly_63 ?_
          refine mm_iret dX11_fly_68 rfl rfl ?_
          exact ⟨x60, rfl, p60⟩
theorem c_X11_fly0 {z : Int} (hR : mm_Rf M) (hK : mm_CK M) (hs : mm_R s) (hh : mm_R h) (hn : mm_R n) (he : mm_R e) (hno : ¬ (ks_st (M 4) s ∧ ks_hr h ∧ (1 ≤ n ∧ n ≤ 500) ∧ (1 ≤ e ∧ e ≤ 60))) :
    mm_Fn X Y_X11_fly 243 [(2, 1), (0, s), (0, h), (0, n), (0, e), (0, z)] M (0, -2) M := by
  refine mm_startF (ls := [(2, 1), (0, s), (0, h), (0, n), (0, e), (0, z), (9, 0)]) rfl ?_
  refine mm_aload_n dX11_fly_0 rfl rfl ?_
  refine mm_getr dX11_fly_1 rfl fl_X11_19 (c := 0) rfl (by decide) rfl rfl (hR.at (c := 0) (i := 1) (v := 4) rfl (by decide)) ?_
  refine mm_iload_n dX11_fly_4 rfl rfl ?_
  refine mm_V1i dX11_fly_5 rfl lk_X11_139 (c := 3) rfl (by decide) rfl (by simp) rfl rfl rfl (c_X4_hasState hR hK (by omega)) ?_
  refine mm_ifeqb dX11_fly_8 (fun h8 => ?_) (fun h8 => ?_)
  · refine mm_iconst dX11_fly_33 rfl ?_
    refine mm_istore dX11_fly_34 rfl (Nat.le_of_ble_eq_true rfl) rfl ?_
    refine mm_iload dX11_fly_36 rfl rfl ?_
    refine mm_ifeq dX11_fly_38 (by omega) (fun _ => ?_) (fun h => absurd (by decide) h)
    refine mm_bipush dX11_fly_66 rfl (by decide) ?_
    refine mm_iret dX11_fly_68 rfl rfl ?_
    exact mm_fin rfl rfl
  · refine mm_iload_n dX11_fly_11 rfl rfl ?_
    refine mm_S1i dX11_fly_12 rfl lk_X11_165 (by simp) rfl rfl rfl (c_X11_isHour (by omega)) ?_
    refine mm_ifeqb dX11_fly_15 (fun h15 => ?_) (fun h15 => ?_)
    · refine mm_iconst dX11_fly_33 rfl ?_
      refine mm_istore dX11_fly_34 rfl (Nat.le_of_ble_eq_true rfl) rfl ?_
      refine mm_iload dX11_fly_36 rfl rfl ?_
      refine mm_ifeq dX11_fly_38 (by omega) (fun _ => ?_) (fun h => absurd (by decide) h)
      refine mm_bipush dX11_fly_66 rfl (by decide) ?_
      refine mm_iret dX11_fly_68 rfl rfl ?_
      exact mm_fin rfl rfl
    · refine mm_iload_n dX11_fly_18 rfl rfl ?_
      refine mm_iconst dX11_fly_19 rfl ?_
      refine mm_sipush dX11_fly_20 rfl (by decide) ?_
      refine mm_S3i dX11_fly_23 rfl lk_X11_171 (by simp) (by simp) (by simp) rfl rfl rfl (c_X11_isWithin (by omega) (by omega) (by omega)) ?_
      refine mm_ifeqb dX11_fly_26 (fun h26 => ?_) (fun h26 => ?_)
      · refine mm_iconst dX11_fly_33 rfl ?_
        refine mm_istore dX11_fly_34 rfl (Nat.le_of_ble_eq_true rfl) rfl ?_
        refine mm_iload dX11_fly_36 rfl rfl ?_
        refine mm_ifeq dX11_fly_38 (by omega) (fun _ => ?_) (fun h => absurd (by decide) h)
        refine mm_bipush dX11_fly_66 rfl (by decide) ?_
        refine mm_iret dX11_fly_68 rfl rfl ?_
        exact mm_fin rfl rfl
      · refine mm_iconst dX11_fly_29 rfl ?_
        refine mm_goto dX11_fly_30 ?_
        refine mm_istore dX11_fly_34 rfl (Nat.le_of_ble_eq_true rfl) rfl ?_
        refine mm_iload dX11_fly_36 rfl rfl ?_
        refine mm_ifeq dX11_fly_38 (by omega) (fun h => absurd h (by decide)) (fun _ => ?_)
        refine mm_iload dX11_fly_41 rfl rfl ?_
        refine mm_S1i dX11_fly_43 rfl lk_X11_257 (by simp) rfl rfl rfl (c_X11_isEach (by omega)) ?_
        refine mm_ifeqb dX11_fly_46 (fun h46 => ?_) (fun h46 => ?_)
        · refine mm_bipush dX11_fly_66 rfl (by decide) ?_
          refine mm_iret dX11_fly_68 rfl rfl ?_
          exact mm_fin rfl rfl
        · exact absurd ⟨h8, h15, h26, h46⟩ hno
end

