/-! ===== judge, of the class ===== -/
/-- what judge leaves: the row that was judged, or nothing new -/
def kj_post (M M' : mm_M) (s h : Int) : Prop :=
  M' 117 2 = M 1 1 ∧ (∀ i : Nat, (i : Int) < M 1 1 → M' 118 i = kj_act M i) ∧ M' 0 12 = 1 ∧
  ∃ c : Nat, kj_is (kj_P (M 4) (M 16) (M 17) s h (M' 118)) (M 1 1).toNat c ∧
    M' 117 4 = c ∧ M' 117 5 = kf_run (M 4) s (M' 118) c ∧ M' 117 6 = kj_won (M 4) (M 16) (M 17) s h (M' 118) c ∧ M' 117 7 = kj_spent (M 4) (M 16) (M 17) s h (M' 118) c ∧
    M' 117 8 = kj_great (M 4) (M 17) s h (M' 118) c ∧ (∀ j, j < c → M' 119 j = kf_run (M 4) s (M' 118) j) ∧
    M' 117 3 = kj_won (M 4) (M 16) (M 17) s h (M' 118) c - kj_spent (M 4) (M 16) (M 17) s h (M' 118) c ∧
    M' 117 9 = mm_b ((c : Int) = M 1 1 ∧ kf_run (M 4) s (M' 118) c = s)
section
variable {X : mm_X} {M : mm_M} {s h : Int}
theorem c_X11_judgeTape1 (hR : mm_Rf M) (hK : mm_CK M) (hA : mm_CA M) (hs : ks_st (M 4) s) (hh : ks_hr h) (hv : ∀ k : Nat, k < 800 → -128 ≤ M 2 k ∧ M 2 k ≤ 127) (hok : kj_ok M) :
    mm_C X Y_X11_judgeTape 243 243 [(2, 1), (0, s), (0, h)] M (fun r M' => r = (0, M' 117 4) ∧ mm_Rf M' ∧ (∀ a, a ≠ 0 → a ≠ 117 → a ≠ 118 → a ≠ 119 → M' a = M a) ∧ (∀ b, b ≠ 12 → M' 0 b = M 0 b) ∧ kj_post M M' s h) := by
  have hnb := ks_nb hK.1
  have hs1 := hs.1
  have hs2 := hs.2
  have ct := c_X8_takeActs1 (X := X) hR hK hv hok
  obtain ⟨N, hN⟩ : ∃ N, N = kf_mem (mm_up M 117 2 (M 1 1)) 118 (kj_act M) (M 1 1).toNat := ⟨_, rfl⟩
  rw [← hN] at ct
  have hRN : mm_Rf N := by rw [hN]; exact (hR.up rfl).fm (len := 100) rfl
  have hfr : ∀ a, a ≠ 117 → a ≠ 118 → N a = M a := by intro a h1 h2; rw [hN, kf_mem_n h2, mm_up_row h1]
  have hG : mm_ag M N := fun a h1 h2 => hfr a (by omega) (by omega)
  have e2 : N 117 2 = M 1 1 := by rw [hN, kf_mem_n (by decide), mm_up_s]
  have ea : ∀ i : Nat, (i : Int) < M 1 1 → N 118 i = kj_act M i := by intro i hi; rw [hN]; exact kf_mem_lt (by omega)
  have f4 : N 4 = M 4 := hG 4 (by decide) (by decide)
  have f16 : N 16 = M 16 := hG 16 (by decide) (by decide)
  have f17 : N 17 = M 17 := hG 17 (by decide) (by decide)
  refine mm_start (ls := [(2, 1), (0, s), (0, h)]) rfl ?_
  refine mm_aload_n dX11_judgeTape_0 rfl rfl ?_
  refine mm_getr dX11_judgeTape_1 rfl fl_X11_19 (c := 0) rfl (by decide) rfl rfl (hR.at (c := 0) (i := 1) (v := 4) rfl (by decide)) ?_
  refine mm_iload_n dX11_judgeTape_4 rfl rfl ?_
  refine mm_V1i dX11_judgeTape_5 rfl lk_X11_139 (c := 3) rfl (by decide) rfl (by simp) rfl rfl rfl (c_X4_hasState hR hK (by omega)) ?_
  refine mm_ifeqb dX11_judgeTape_8 (fun h8 => ?_) (fun h8 => ?_)
  · exact absurd hs h8
  · refine mm_iload_n dX11_judgeTape_11 rfl rfl ?_
    refine mm_S1i dX11_judgeTape_12 rfl lk_X11_165 (by simp) rfl rfl rfl (c_X11_isHour (by omega)) ?_
    refine mm_ifneb dX11_judgeTape_15 (fun h15 => ?_) (fun h15 => ?_)
    · refine mm_aload_n dX11_judgeTape_21 rfl rfl ?_
      refine mm_getr dX11_judgeTape_22 rfl fl_X11_57 (c := 0) rfl (by decide) rfl rfl (hR.at (c := 0) (i := 6) (v := 118) rfl (by decide)) ?_
      refine mm_aload_n dX11_judgeTape_25 rfl rfl ?_
      refine mm_getr dX11_judgeTape_26 rfl fl_X11_10 (c := 0) rfl (by decide) rfl rfl (hR.at (c := 0) (i := 0) (v := 2) rfl (by decide)) ?_
      refine mm_aload_n dX11_judgeTape_29 rfl rfl ?_
      refine mm_getr dX11_judgeTape_30 rfl fl_X11_19 (c := 0) rfl (by decide) rfl rfl (hR.at (c := 0) (i := 1) (v := 4) rfl (by decide)) ?_
      refine mm_V2i dX11_judgeTape_33 rfl lk_X11_228 (c := 117) rfl (by decide) rfl (by simp) (by simp) rfl rfl rfl (ct) ?_
      refine mm_ifne dX11_judgeTape_36 (by omega) (fun _ => ?_) (fun h => absurd h (by decide))
      refine mm_aload_n dX11_judgeTape_41 rfl rfl ?_
      refine mm_getr dX11_judgeTape_42 rfl fl_X11_57 (c := 0) rfl (by decide) rfl rfl (hRN.at (c := 0) (i := 6) (v := 118) rfl (by decide)) ?_
      refine mm_aload_n dX11_judgeTape_45 rfl rfl ?_
      refine mm_getr dX11_judgeTape_46 rfl fl_X11_28 (c := 0) rfl (by decide) rfl rfl (hRN.at (c := 0) (i := 2) (v := 12) rfl (by decide)) ?_
      refine mm_aload_n dX11_judgeTape_49 rfl rfl ?_
      refine mm_getr dX11_judgeTape_50 rfl fl_X11_19 (c := 0) rfl (by decide) rfl rfl (hRN.at (c := 0) (i := 1) (v := 4) rfl (by decide)) ?_
      refine mm_iload_n dX11_judgeTape_53 rfl rfl ?_
      refine mm_iload_n dX11_judgeTape_54 rfl rfl ?_
      refine mm_V4g (M1 := N) dX11_judgeTape_55 rfl lk_X11_232 (c := 117) rfl (by decide) rfl (by simp) (by simp) (by simp) (by simp) rfl rfl rfl (c_X8_walk hRN (hG.ck hK) (hG.ca hA) (f4 ▸ hs) hh (by have := hok.1; omega) (fun i hi => by rw [f4, ea i (by omega)]; exact hok.2 i (by omega))) ?_
      rintro _ N55 ⟨rfl, p55⟩
      change mm_J _ _ _ _ _ _ _ _ _ _
      have hR55 : mm_Rf N55 := p55.1
      refine mm_aload_n dX11_judgeTape_58 rfl rfl ?_
      refine mm_iconst dX11_judgeTape_59 rfl ?_
      refine mm_putz dX11_judgeTape_60 rfl fl_X11_116 (c := 0) rfl (by decide) rfl rfl (Or.inr rfl) (fun M60 hM60 => ?_)
      have hR60 : mm_Rf M60 := by rw [hM60]; exact hR55.up rfl
      refine mm_aload_n dX11_judgeTape_63 rfl rfl ?_
      refine mm_getr dX11_judgeTape_64 rfl fl_X11_57 (c := 0) rfl (by decide) rfl rfl (hR60.at (c := 0) (i := 6) (v := 118) rfl (by decide)) ?_
      refine mm_get (kd := 0) dX11_judgeTape_67 rfl fl_X11_236 (c := 117) rfl (by decide) rfl rfl ?_
      obtain ⟨v67, hv67⟩ : ∃ v, v = M60 117 4 := ⟨_, rfl⟩
      rw [← hv67]
      rw [hM60, mm_up_c (by decide)] at hv67
      subst hv67
      refine mm_iret dX11_judgeTape_70 rfl rfl ?_
      obtain ⟨c, q1, q2, q3, q4, q5, q6, q7, q8, q9, q10, q11⟩ := p55.2
      rw [f4, f16, f17, e2] at *
      have e118 : M60 118 = N 118 := by rw [hM60, mm_up_row (by decide), q2 118 (by decide) (by decide)]
      refine ⟨?_, hR60, ?_, ?_, ?_, ?_, ?_, c, ?_⟩
      · simp [hM60, mm_up]
      · intro a h1 h2 h3 h4; rw [hM60, mm_up_row h1, q2 a h2 h4]; exact hfr a h2 h3
      · intro b hb; rw [hM60, mm_up_i hb, q2 0 (by decide) (by decide)]; rw [hfr 0 (by decide) (by decide)]
      · simp [hM60, mm_up, q3]
      · intro i hi; rw [e118]; exact ea i hi
      · simp [hM60, mm_up]
      · rw [e118]
        refine ⟨q1, ?_, ?_, ?_, ?_, ?_, ?_, ?_, ?_⟩
        · simp [hM60, mm_up, q4]
        · simp [hM60, mm_up, q5]
        · simp [hM60, mm_up, q6]
        · simp [hM60, mm_up, q7]
        · simp [hM60, mm_up, q8]
        · intro j hj; simp [hM60, mm_up]; exact q9 j hj
        · simp [hM60, mm_up, q10]
        · simp [hM60, mm_up, q11]
    · exact absurd hh h15
theorem c_X11_judgeTape0 (hR : mm_Rf M) (hK : mm_CK M) (hs : mm_R s) (hh : mm_R h) (hl : 0 ≤ M 1 1 ∧ M 1 1 ≤ 800) (hv : ∀ k : Nat, k < 800 → -128 ≤ M 2 k ∧ M 2 k ≤ 127) (hno : ¬ ((ks_st (M 4) s ∧ ks_hr h) ∧ kj_ok M)) :
    mm_Fn X Y_X11_judgeTape 243 [(2, 1), (0, s), (0, h)] M (0, if ks_st (M 4) s ∧ ks_hr h then -1 else -2) M := by
  refine mm_startF (ls := [(2, 1), (0, s), (0, h)]) rfl ?_
  refine mm_aload_n dX11_judgeTape_0 rfl rfl ?_
  refine mm_getr dX11_judgeTape_1 rfl fl_X11_19 (c := 0) rfl (by decide) rfl rfl (hR.at (c := 0) (i := 1) (v := 4) rfl (by decide)) ?_
  refine mm_iload_n dX11_judgeTape_4 rfl rfl ?_
  refine mm_V1i dX11_judgeTape_5 rfl lk_X11_139 (c := 3) rfl (by decide) rfl (by simp) rfl rfl rfl (c_X4_hasState hR hK hs) ?_
  refine mm_ifeqb dX11_judgeTape_8 (fun h8 => ?_) (fun h8 => ?_)
  · refine mm_bipush dX11_judgeTape_18 rfl (by decide) ?_
    refine mm_iret dX11_judgeTape_20 rfl rfl ?_
    first
    | exact mm_fin (by rw [if_neg (fun q => h8 q.1)]) rfl
    | exact mm_fin (by rw [if_neg (fun q => h15 q.2)]) rfl
  · refine mm_iload_n dX11_judgeTape_11 rfl rfl ?_
    refine mm_S1i dX11_judgeTape_12 rfl lk_X11_165 (by simp) rfl rfl rfl (c_X11_isHour hh) ?_
    refine mm_ifneb dX11_judgeTape_15 (fun h15 => ?_) (fun h15 => ?_)
    · refine mm_aload_n dX11_judgeTape_21 rfl rfl ?_
      refine mm_getr dX11_judgeTape_22 rfl fl_X11_57 (c := 0) rfl (by decide) rfl rfl (hR.at (c := 0) (i := 6) (v := 118) rfl (by decide)) ?_
      refine mm_aload_n dX11_judgeTape_25 rfl rfl ?_
      refine mm_getr dX11_judgeTape_26 rfl fl_X11_10 (c := 0) rfl (by decide) rfl rfl (hR.at (c := 0) (i := 0) (v := 2) rfl (by decide)) ?_
      refine mm_aload_n dX11_judgeTape_29 rfl rfl ?_
      refine mm_getr dX11_judgeTape_30 rfl fl_X11_19 (c := 0) rfl (by decide) rfl rfl (hR.at (c := 0) (i := 1) (v := 4) rfl (by decide)) ?_
      refine mm_V2i dX11_judgeTape_33 rfl lk_X11_228 (c := 117) rfl (by decide) rfl (by simp) (by simp) rfl rfl rfl (c_X8_takeActs0 hR hK hl hv (fun q => hno ⟨And.intro h8 h15, q⟩)) ?_
      refine mm_ifne dX11_judgeTape_36 (by omega) (fun h => absurd h (by decide)) (fun _ => ?_)
      refine mm_iconst dX11_judgeTape_39 rfl ?_
      refine mm_iret dX11_judgeTape_40 rfl rfl ?_
      exact mm_fin (by rw [if_pos (And.intro h8 h15)]) rfl
    · refine mm_bipush dX11_judgeTape_18 rfl (by decide) ?_
      refine mm_iret dX11_judgeTape_20 rfl rfl ?_
      first
      | exact mm_fin (by rw [if_neg (fun q => h8 q.1)]) rfl
      | exact mm_fin (by rw [if_neg (fun q => h15 q.2)]) rfl
theorem c_X11_judge1 (hR : mm_Rf M) (hK : mm_CK M) (hA : mm_CA M) (hs : ks_st (M 4) s) (hh : ks_hr h) (hv : ∀ k : Nat, k < 800 → -128 ≤ M 2 k ∧ M 2 k ≤ 127) (hok : kj_ok M) :
    mm_C X Y_X11_judge 243 243 [(2, 1), (0, s), (0, h)] M (fun r M' => r = (0, M' 117 4) ∧ mm_Rf M' ∧ (∀ a, a ≠ 0 → a ≠ 1 → a ≠ 117 → a ≠ 118 → a ≠ 119 → M' a = M a) ∧ (∀ b, b ≠ 12 → M' 0 b = M 0 b) ∧ (∀ b, b ≠ 1 → M' 1 b = M 1 b) ∧ M' 1 1 = 0 ∧ kj_post M M' s h) := by
  refine mm_start (ls := [(2, 1), (0, s), (0, h), (9, 0)]) rfl ?_
  refine mm_aload_n dX11_judge_0 rfl rfl ?_
  refine mm_iload_n dX11_judge_1 rfl rfl ?_
  refine mm_iload_n dX11_judge_2 rfl rfl ?_
  refine mm_V2g (M1 := M) dX11_judge_3 rfl lk_X11_225 (c := 0) rfl (by decide) rfl (by simp) (by simp) rfl rfl rfl (c_X11_judgeTape1 hR hK hA hs hh hv hok) ?_
  rintro _ N3 ⟨rfl, p3⟩
  change mm_J _ _ _ _ _ _ _ _ _ _
  have hR3 : mm_Rf N3 := p3.1
  refine mm_istore_n dX11_judge_6 rfl (Nat.le_of_ble_eq_true rfl) rfl ?_
  refine mm_aload_n dX11_judge_7 rfl rfl ?_
  refine mm_getr dX11_judge_8 rfl fl_X11_10 (c := 0) rfl (by decide) rfl rfl (hR3.at (c := 0) (i := 0) (v := 2) rfl (by decide)) ?_
  refine mm_iconst dX11_judge_11 rfl ?_
  refine mm_puti dX11_judge_12 rfl fl_X11_105 (c := 1) rfl (by decide) rfl rfl (fun M12 hM12 => ?_)
  have hR12 : mm_Rf M12 := by rw [hM12]; exact hR3.up rfl
  refine mm_iload_n dX11_judge_15 rfl rfl ?_
  refine mm_iret dX11_judge_16 rfl rfl ?_
  obtain ⟨-, q1, q2, q3⟩ := p3
  have e : ∀ a, a ≠ 1 → M12 a = N3 a := by intro a ha; rw [hM12, mm_up_row ha]
  refine ⟨?_, hR12, ?_, ?_, ?_, ?_, ?_⟩
  · rw [e 117 (by decide)]
  · intro a h1 h2 h3 h4 h5; rw [e a h2]; exact q1 a h1 h3 h4 h5
  · intro b hb; rw [e 0 (by decide)]; exact q2 b hb
  · intro b hb; rw [hM12, mm_up_i hb, q1 1 (by decide) (by decide) (by decide) (by decide)]
  · rw [hM12, mm_up_s]
  · unfold kj_post at q3 ⊢
    rw [e 117 (by decide), e 118 (by decide), e 119 (by decide), e 0 (by decide)]
    exact q3
theorem c_X11_judge0 (hR : mm_Rf M) (hK : mm_CK M) (hs : mm_R s) (hh : mm_R h) (hl : 0 ≤ M 1 1 ∧ M 1 1 ≤ 800) (hv : ∀ k : Nat, k < 800 → -128 ≤ M 2 k ∧ M 2 k ≤ 127) (hno : ¬ ((ks_st (M 4) s ∧ ks_hr h) ∧ kj_ok M)) :
    mm_Fn X Y_X11_judge 243 [(2, 1), (0, s), (0, h)] M (0, if ks_st (M 4) s ∧ ks_hr h then -1 else -2) (mm_up M 1 1 0) := by
  refine mm_startF (ls := [(2, 1), (0, s), (0, h), (9, 0)]) rfl ?_
  refine mm_aload_n dX11_judge_0 rfl rfl ?_
  refine mm_iload_n dX11_judge_1 rfl rfl ?_
  refine mm_iload_n dX11_judge_2 rfl rfl ?_
  refine mm_V2i dX11_judge_3 rfl lk_X11_225 (c := 0) rfl (by decide) rfl (by simp) (by simp) rfl rfl rfl (c_X11_judgeTape0 hR hK hs hh hl hv hno) ?_
  refine mm_istore_n dX11_judge_6 rfl (Nat.le_of_ble_eq_true rfl) rfl ?_
  refine mm_aload_n dX11_judge_7 rfl rfl ?_
  refine mm_getr dX11_judge_8 rfl fl_X11_10 (c := 0) rfl (by decide) rfl rfl (hR.at (c := 0) (i := 0) (v := 2) rfl (by decide)) ?_
  refine mm_iconst dX11_judge_11 rfl ?_
  refine mm_puti dX11_judge_12 rfl fl_X11_105 (c := 1) rfl (by decide) rfl rfl (fun M12 hM12 => ?_)
  have hR12 : mm_Rf M12 := by rw [hM12]; exact hR.up rfl
  refine mm_iload_n dX11_judge_15 rfl rfl ?_
  refine mm_iret dX11_judge_16 rfl rfl ?_
  exact mm_fin rfl hM12
end

