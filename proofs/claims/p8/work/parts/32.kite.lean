/-! ===== KitePower$Kite: what it answers of states and acts ===== -/
/-- the class's kite: its facts are a kite's, its tables are the states' -/
def mm_CK (M : mm_M) : Prop := mm_KV (M 4) ∧ M 3 2 = ks_n (M 4) ∧ ∀ s : Nat, ks_st (M 4) (s : Int) → M 6 s = ks_col (M 4) s ∧ M 7 s = ks_row (M 4) s ∧ M 8 s = ks_rope (M 4) s ∧ M 9 s = ks_h (M 4) s ∧ M 10 s = ks_band (M 4) s
theorem mm_CK.tab {M : mm_M} (h : mm_CK M) {s : Int} (hs : ks_st (M 4) s) : M 6 s.toNat = ks_col (M 4) s ∧ M 7 s.toNat = ks_row (M 4) s ∧ M 8 s.toNat = ks_rope (M 4) s ∧ M 9 s.toNat = ks_h (M 4) s ∧ M 10 s.toNat = ks_band (M 4) s := by
  have := h.2.2 s.toNat (by rw [Int.toNat_of_nonneg hs.1]; exact hs)
  rw [Int.toNat_of_nonneg hs.1] at this
  exact this
section
variable {X : mm_X} {M : mm_M} {s a m w d p : Int}
theorem c_X4_slants (hR : mm_Rf M) : mm_Fn X Y_X4_slants 243 [(2, 4)] M (0, M 4 10) M := by
  refine mm_startF (ls := [(2, 4)]) rfl ?_
  refine mm_aload_n dX4_slants_0 rfl rfl ?_
  refine mm_getr dX4_slants_1 rfl fl_X4_11 (c := 3) rfl (by decide) rfl rfl (hR.at (c := 3) (i := 0) (v := 5) rfl (by decide)) ?_
  refine mm_bipush dX4_slants_4 rfl (by decide) ?_
  refine mm_ialk (k0 := 10) dX4_slants_6 rfl (c := 4) rfl (by decide) rfl rfl (by decide) ?_
  refine mm_iret dX4_slants_7 rfl rfl ?_
  exact mm_fin rfl rfl
theorem c_X4_across (hR : mm_Rf M) : mm_Fn X Y_X4_across 243 [(2, 4)] M (0, M 4 0) M := by
  refine mm_startF (ls := [(2, 4)]) rfl ?_
  refine mm_aload_n dX4_across_0 rfl rfl ?_
  refine mm_getr dX4_across_1 rfl fl_X4_11 (c := 3) rfl (by decide) rfl rfl (hR.at (c := 3) (i := 0) (v := 5) rfl (by decide)) ?_
  refine mm_iconst dX4_across_4 rfl ?_
  refine mm_ialk (k0 := 0) dX4_across_5 rfl (c := 4) rfl (by decide) rfl rfl (by decide) ?_
  refine mm_iret dX4_across_6 rfl rfl ?_
  exact mm_fin rfl rfl
theorem c_X4_hasState (hR : mm_Rf M) (hK : mm_CK M) (hs : mm_R s) : mm_Fn X Y_X4_hasState 243 [(2, 4), (0, s)] M (0, mm_b (ks_st (M 4) s)) M := by
  have hn := ks_nb hK.1
  have e := hK.2.1
  refine mm_startF (ls := [(2, 4), (0, s)]) rfl ?_
  refine mm_iload_n dX4_hasState_0 rfl rfl ?_
  refine mm_iflt dX4_hasState_1 (by omega) (fun h1 => ?_) (fun h1 => ?_)
  · refine mm_iconst dX4_hasState_16 rfl ?_
    refine mm_zret dX4_hasState_17 rfl rfl (Or.inl rfl) ?_
    exact mm_fin (by unfold mm_b ks_st; split <;> omega) rfl
  · refine mm_iload_n dX4_hasState_4 rfl rfl ?_
    refine mm_aload_n dX4_hasState_5 rfl rfl ?_
    refine mm_get (kd := 0) dX4_hasState_6 rfl fl_X4_107 (c := 3) rfl (by decide) rfl rfl ?_
    refine mm_icge dX4_hasState_9 (by omega) (by omega) (fun h9 => ?_) (fun h9 => ?_)
    · refine mm_iconst dX4_hasState_16 rfl ?_
      refine mm_zret dX4_hasState_17 rfl rfl (Or.inl rfl) ?_
      exact mm_fin (by unfold mm_b ks_st; split <;> omega) rfl
    · refine mm_iconst dX4_hasState_12 rfl ?_
      refine mm_goto dX4_hasState_13 ?_
      refine mm_zret dX4_hasState_17 rfl rfl (Or.inr rfl) ?_
      exact mm_fin (by unfold mm_b ks_st; split <;> omega) rfl
theorem c_X4_actCount (hR : mm_Rf M) : mm_Fn X Y_X4_actCount 243 [(2, 4)] M (0, 15 * M 4 10) M := by
  refine mm_startF (ls := [(2, 4)]) rfl ?_
  refine mm_bipush dX4_actCount_0 rfl (by decide) ?_
  refine mm_aload_n dX4_actCount_2 rfl rfl ?_
  refine mm_getr dX4_actCount_3 rfl fl_X4_11 (c := 3) rfl (by decide) rfl rfl (hR.at (c := 3) (i := 0) (v := 5) rfl (by decide)) ?_
  refine mm_bipush dX4_actCount_6 rfl (by decide) ?_
  refine mm_ialk (k0 := 10) dX4_actCount_8 rfl (c := 4) rfl (by decide) rfl rfl (by decide) ?_
  refine mm_imul dX4_actCount_9 rfl ?_
  refine mm_iret dX4_actCount_10 rfl rfl ?_
  exact mm_fin rfl rfl
theorem c_X4_hasAct (hR : mm_Rf M) (hK : mm_CK M) (ha : mm_R a) : mm_Fn X Y_X4_hasAct 243 [(2, 4), (0, a)] M (0, mm_b (ks_ac (M 4) a)) M := by
  obtain ⟨-, -, -, -, -, -, -, -, -, -, h10, -⟩ := hK.1
  refine mm_startF (ls := [(2, 4), (0, a)]) rfl ?_
  refine mm_iload_n dX4_hasAct_0 rfl rfl ?_
  refine mm_iflt dX4_hasAct_1 (by omega) (fun h1 => ?_) (fun h1 => ?_)
  · refine mm_iconst dX4_hasAct_16 rfl ?_
    refine mm_zret dX4_hasAct_17 rfl rfl (Or.inl rfl) ?_
    exact mm_fin (by unfold mm_b ks_ac; split <;> omega) rfl
  · refine mm_iload_n dX4_hasAct_4 rfl rfl ?_
    refine mm_aload_n dX4_hasAct_5 rfl rfl ?_
    refine mm_V0i dX4_hasAct_6 rfl lk_X4_117 (c := 3) rfl (by decide) rfl  rfl rfl rfl (c_X4_actCount hR) ?_
    refine mm_icge dX4_hasAct_9 (by omega) (by omega) (fun h9 => ?_) (fun h9 => ?_)
    · refine mm_iconst dX4_hasAct_16 rfl ?_
      refine mm_zret dX4_hasAct_17 rfl rfl (Or.inl rfl) ?_
      exact mm_fin (by unfold mm_b ks_ac; split <;> omega) rfl
    · refine mm_iconst dX4_hasAct_12 rfl ?_
      refine mm_goto dX4_hasAct_13 ?_
      refine mm_zret dX4_hasAct_17 rfl rfl (Or.inr rfl) ?_
      exact mm_fin (by unfold mm_b ks_ac; split <;> omega) rfl
theorem c_X4_moveOf (ha : 0 ≤ a ∧ a < 1000) : mm_Fn X Y_X4_moveOf 243 [(0, a)] M (0, ks_mv a) M := by
  refine mm_startF (ls := [(0, a)]) rfl ?_
  refine mm_iload_n dX4_moveOf_0 rfl rfl ?_
  refine mm_bipush dX4_moveOf_1 rfl (by decide) ?_
  refine mm_irem dX4_moveOf_3 rfl (by omega) (by omega) (by omega) ?_
  refine mm_iconst dX4_moveOf_4 rfl ?_
  refine mm_idiv dX4_moveOf_5 rfl (by rw [mm_tmod ha.1]; omega) (by omega) (by omega) ?_
  refine mm_iret dX4_moveOf_6 rfl rfl ?_
  exact mm_fin (by rw [mm_tmod ha.1, mm_tdiv (by omega)]; unfold ks_mv; omega) rfl
theorem c_X4_drumOf (ha : 0 ≤ a ∧ a < 1000) : mm_Fn X Y_X4_drumOf 243 [(0, a)] M (0, ks_dr a) M := by
  refine mm_startF (ls := [(0, a)]) rfl ?_
  refine mm_iload_n dX4_drumOf_0 rfl rfl ?_
  refine mm_iconst dX4_drumOf_1 rfl ?_
  refine mm_irem dX4_drumOf_2 rfl (by omega) (by omega) (by omega) ?_
  refine mm_iret dX4_drumOf_3 rfl rfl ?_
  exact mm_fin (by rw [mm_tmod ha.1]; rfl) rfl
theorem c_X4_isSideways (hm : mm_R m) : mm_Fn X Y_X4_isSideways 243 [(0, m)] M (0, mm_b (ks_side m)) M := by
  refine mm_startF (ls := [(0, m)]) rfl ?_
  refine mm_iload_n dX4_isSideways_0 rfl rfl ?_
  refine mm_iconst dX4_isSideways_1 rfl ?_
  refine mm_iceq dX4_isSideways_2 (by omega) (by omega) (fun h2 => ?_) (fun h2 => ?_)
  · refine mm_iconst dX4_isSideways_10 rfl ?_
    refine mm_goto dX4_isSideways_11 ?_
    refine mm_zret dX4_isSideways_15 rfl rfl (Or.inr rfl) ?_
    exact mm_fin (by unfold mm_b ks_side; split <;> omega) rfl
  · refine mm_iload_n dX4_isSideways_5 rfl rfl ?_
    refine mm_iconst dX4_isSideways_6 rfl ?_
    refine mm_icne dX4_isSideways_7 (by omega) (by omega) (fun h7 => ?_) (fun h7 => ?_)
    · refine mm_iconst dX4_isSideways_14 rfl ?_
      refine mm_zret dX4_isSideways_15 rfl rfl (Or.inl rfl) ?_
      exact mm_fin (by unfold mm_b ks_side; split <;> omega) rfl
    · refine mm_iconst dX4_isSideways_10 rfl ?_
      refine mm_goto dX4_isSideways_11 ?_
      refine mm_zret dX4_isSideways_15 rfl rfl (Or.inr rfl) ?_
      exact mm_fin (by unfold mm_b ks_side; split <;> omega) rfl
theorem c_X4_canMove (hR : mm_Rf M) (hK : mm_CK M) (hs : ks_st (M 4) s) (hm : 0 ≤ m ∧ m ≤ 4) : mm_Fn X Y_X4_canMove 243 [(2, 4), (0, s), (0, m)] M (0, mm_b (ks_cm (M 4) s m)) M := by
  have hn := ks_nb hK.1
  have ht := hK.tab hs
  have hc := ks_colb hK.1 s
  have hr := ks_rowb hK.1 s
  obtain ⟨h0, h1, -⟩ := hK.1
  have := hs.1
  have := hs.2
  refine mm_startF (ls := [(2, 4), (0, s), (0, m)]) rfl ?_
  refine mm_iload_n dX4_canMove_0 rfl rfl ?_
  have hsw : (m < 1 ∨ 4 < m) ∨ m = 1 ∨ m = 2 ∨ m = 3 ∨ m = 4 := by omega
  rcases hsw with h1 | h1 | h1 | h1 | h1
  · refine mm_tsd (t := 108) dX4_canMove_1.1 (by omega) h1 (by decide) ?_
    refine mm_iconst dX4_canMove_108 rfl ?_
    refine mm_zret dX4_canMove_109 rfl rfl (Or.inr rfl) ?_
    exact mm_fin (by unfold mm_b ks_cm; split <;> omega) rfl
  · refine mm_tsw (t := 32) (k := 0) dX4_canMove_1.1 (by omega) (by omega) (by omega) (by omega) rfl (by decide) ?_
    refine mm_aload_n dX4_canMove_32 rfl rfl ?_
    refine mm_getr dX4_canMove_33 rfl fl_X4_18 (c := 3) rfl (by decide) rfl rfl (hR.at (c := 3) (i := 3) (v := 7) rfl (by decide)) ?_
    refine mm_iload_n dX4_canMove_36 rfl rfl ?_
    refine mm_iald dX4_canMove_37 rfl (c := 6) rfl (by decide) rfl (by omega) (by omega) ?_
    refine mm_ifle dX4_canMove_38 (by omega) (fun h38 => ?_) (fun h38 => ?_)
    · refine mm_iconst dX4_canMove_45 rfl ?_
      refine mm_zret dX4_canMove_46 rfl rfl (Or.inl rfl) ?_
      exact mm_fin (by unfold mm_b ks_cm; split <;> omega) rfl
    · refine mm_iconst dX4_canMove_41 rfl ?_
      refine mm_goto dX4_canMove_42 ?_
      refine mm_zret dX4_canMove_46 rfl rfl (Or.inr rfl) ?_
      exact mm_fin (by unfold mm_b ks_cm; split <;> omega) rfl
  · refine mm_tsw (t := 47) (k := 1) dX4_canMove_1.1 (by omega) (by omega) (by omega) (by omega) rfl (by decide) ?_
    refine mm_aload_n dX4_canMove_47 rfl rfl ?_
    refine mm_getr dX4_canMove_48 rfl fl_X4_18 (c := 3) rfl (by decide) rfl rfl (hR.at (c := 3) (i := 3) (v := 7) rfl (by decide)) ?_
    refine mm_iload_n dX4_canMove_51 rfl rfl ?_
    refine mm_iald dX4_canMove_52 rfl (c := 6) rfl (by decide) rfl (by omega) (by omega) ?_
    refine mm_aload_n dX4_canMove_53 rfl rfl ?_
    refine mm_getr dX4_canMove_54 rfl fl_X4_11 (c := 3) rfl (by decide) rfl rfl (hR.at (c := 3) (i := 0) (v := 5) rfl (by decide)) ?_
    refine mm_iconst dX4_canMove_57 rfl ?_
    refine mm_ialk (k0 := 0) dX4_canMove_58 rfl (c := 4) rfl (by decide) rfl rfl (by decide) ?_
    refine mm_iconst dX4_canMove_59 rfl ?_
    refine mm_isub dX4_canMove_60 rfl ?_
    refine mm_icge dX4_canMove_61 (by omega) (by omega) (fun h61 => ?_) (fun h61 => ?_)
    · refine mm_iconst dX4_canMove_68 rfl ?_
      refine mm_zret dX4_canMove_69 rfl rfl (Or.inl rfl) ?_
      exact mm_fin (by unfold mm_b ks_cm; split <;> omega) rfl
    · refine mm_iconst dX4_canMove_64 rfl ?_
      refine mm_goto dX4_canMove_65 ?_
      refine mm_zret dX4_canMove_69 rfl rfl (Or.inr rfl) ?_
      exact mm_fin (by unfold mm_b ks_cm; split <;> omega) rfl
  · refine mm_tsw (t := 70) (k := 2) dX4_canMove_1.1 (by omega) (by omega) (by omega) (by omega) rfl (by decide) ?_
    refine mm_aload_n dX4_canMove_70 rfl rfl ?_
    refine mm_getr dX4_canMove_71 rfl fl_X4_21 (c := 3) rfl (by decide) rfl rfl (hR.at (c := 3) (i := 4) (v := 8) rfl (by decide)) ?_
    refine mm_iload_n dX4_canMove_74 rfl rfl ?_
    refine mm_iald dX4_canMove_75 rfl (c := 7) rfl (by decide) rfl (by omega) (by omega) ?_
    refine mm_aload_n dX4_canMove_76 rfl rfl ?_
    refine mm_getr dX4_canMove_77 rfl fl_X4_11 (c := 3) rfl (by decide) rfl rfl (hR.at (c := 3) (i := 0) (v := 5) rfl (by decide)) ?_
    refine mm_iconst dX4_canMove_80 rfl ?_
    refine mm_ialk (k0 := 1) dX4_canMove_81 rfl (c := 4) rfl (by decide) rfl rfl (by decide) ?_
    refine mm_iconst dX4_canMove_82 rfl ?_
    refine mm_isub dX4_canMove_83 rfl ?_
    refine mm_icge dX4_canMove_84 (by omega) (by omega) (fun h84 => ?_) (fun h84 => ?_)
    · refine mm_iconst dX4_canMove_91 rfl ?_
      refine mm_zret dX4_canMove_92 rfl rfl (Or.inl rfl) ?_
      exact mm_fin (by unfold mm_b ks_cm; split <;> omega) rfl
    · refine mm_iconst dX4_canMove_87 rfl ?_
      refine mm_goto dX4_canMove_88 ?_
      refine mm_zret dX4_canMove_92 rfl rfl (Or.inr rfl) ?_
      exact mm_fin (by unfold mm_b ks_cm; split <;> omega) rfl
  · refine mm_tsw (t := 93) (k := 3) dX4_canMove_1.1 (by omega) (by omega) (by omega) (by omega) rfl (by decide) ?_
    refine mm_aload_n dX4_canMove_93 rfl rfl ?_
    refine mm_getr dX4_canMove_94 rfl fl_X4_21 (c := 3) rfl (by decide) rfl rfl (hR.at (c := 3) (i := 4) (v := 8) rfl (by decide)) ?_
    refine mm_iload_n dX4_canMove_97 rfl rfl ?_
    refine mm_iald dX4_canMove_98 rfl (c := 7) rfl (by decide) rfl (by omega) (by omega) ?_
    refine mm_ifle dX4_canMove_99 (by omega) (fun h99 => ?_) (fun h99 => ?_)
    · refine mm_iconst dX4_canMove_106 rfl ?_
      refine mm_zret dX4_canMove_107 rfl rfl (Or.inl rfl) ?_
      exact mm_fin (by unfold mm_b ks_cm; split <;> omega) rfl
    · refine mm_iconst dX4_canMove_102 rfl ?_
      refine mm_goto dX4_canMove_103 ?_
      refine mm_zret dX4_canMove_107 rfl rfl (Or.inr rfl) ?_
      exact mm_fin (by unfold mm_b ks_cm; split <;> omega) rfl
theorem c_X4_canReel (hR : mm_Rf M) (hK : mm_CK M) (hs : ks_st (M 4) s) (hd : 0 ≤ d ∧ d ≤ 2) : mm_Fn X Y_X4_canReel 243 [(2, 4), (0, s), (0, d)] M (0, mm_b (ks_cr (M 4) s d)) M := by
  have hn := ks_nb hK.1
  have ht := hK.tab hs
  have hc := ks_ropeb hK.1 hs
  obtain ⟨h0, h1, h2, -⟩ := hK.1
  have := hs.1
  have := hs.2
  refine mm_startF (ls := [(2, 4), (0, s), (0, d)]) rfl ?_
  refine mm_iload_n dX4_canReel_0 rfl rfl ?_
  refine mm_iconst dX4_canReel_1 rfl ?_
  refine mm_icne dX4_canReel_2 (by omega) (by omega) (fun h2 => ?_) (fun h2 => ?_)
  · refine mm_iload_n dX4_canReel_28 rfl rfl ?_
    refine mm_iconst dX4_canReel_29 rfl ?_
    refine mm_icne dX4_canReel_30 (by omega) (by omega) (fun h30 => ?_) (fun h30 => ?_)
    · refine mm_iconst dX4_canReel_42 rfl ?_
      refine mm_goto dX4_canReel_43 ?_
      refine mm_zret dX4_canReel_47 rfl rfl (Or.inr rfl) ?_
      exact mm_fin (by unfold mm_b ks_cr; split <;> omega) rfl
    · refine mm_aload_n dX4_canReel_33 rfl rfl ?_
      refine mm_getr dX4_canReel_34 rfl fl_X4_24 (c := 3) rfl (by decide) rfl rfl (hR.at (c := 3) (i := 5) (v := 9) rfl (by decide)) ?_
      refine mm_iload_n dX4_canReel_37 rfl rfl ?_
      refine mm_iald dX4_canReel_38 rfl (c := 8) rfl (by decide) rfl (by omega) (by omega) ?_
      refine mm_ifle dX4_canReel_39 (by omega) (fun h39 => ?_) (fun h39 => ?_)
      · refine mm_iconst dX4_canReel_46 rfl ?_
        refine mm_zret dX4_canReel_47 rfl rfl (Or.inl rfl) ?_
        exact mm_fin (by unfold mm_b ks_cr; split <;> omega) rfl
      · refine mm_iconst dX4_canReel_42 rfl ?_
        refine mm_goto dX4_canReel_43 ?_
        refine mm_zret dX4_canReel_47 rfl rfl (Or.inr rfl) ?_
        exact mm_fin (by unfold mm_b ks_cr; split <;> omega) rfl
  · refine mm_aload_n dX4_canReel_5 rfl rfl ?_
    refine mm_getr dX4_canReel_6 rfl fl_X4_24 (c := 3) rfl (by decide) rfl rfl (hR.at (c := 3) (i := 5) (v := 9) rfl (by decide)) ?_
    refine mm_iload_n dX4_canReel_9 rfl rfl ?_
    refine mm_iald dX4_canReel_10 rfl (c := 8) rfl (by decide) rfl (by omega) (by omega) ?_
    refine mm_aload_n dX4_canReel_11 rfl rfl ?_
    refine mm_getr dX4_canReel_12 rfl fl_X4_11 (c := 3) rfl (by decide) rfl rfl (hR.at (c := 3) (i := 0) (v := 5) rfl (by decide)) ?_
    refine mm_iconst dX4_canReel_15 rfl ?_
    refine mm_ialk (k0 := 2) dX4_canReel_16 rfl (c := 4) rfl (by decide) rfl rfl (by decide) ?_
    refine mm_iconst dX4_canReel_17 rfl ?_
    refine mm_isub dX4_canReel_18 rfl ?_
    refine mm_icge dX4_canReel_19 (by omega) (by omega) (fun h19 => ?_) (fun h19 => ?_)
    · refine mm_iconst dX4_canReel_26 rfl ?_
      refine mm_zret dX4_canReel_27 rfl rfl (Or.inl rfl) ?_
      exact mm_fin (by unfold mm_b ks_cr; split <;> omega) rfl
    · refine mm_iconst dX4_canReel_22 rfl ?_
      refine mm_goto dX4_canReel_23 ?_
      refine mm_zret dX4_canReel_27 rfl rfl (Or.inr rfl) ?_
      exact mm_fin (by unfold mm_b ks_cr; split <;> omega) rfl
theorem c_X4_moveStep (hR : mm_Rf M) (hm : 0 ≤ m ∧ m ≤ 4) : mm_Fn X Y_X4_moveStep 243 [(2, 4), (0, m)] M (0, ks_ms (M 4) m) M := by
  refine mm_startF (ls := [(2, 4), (0, m)]) rfl ?_
  refine mm_iload_n dX4_moveStep_0 rfl rfl ?_
  have hsw : (m < 1 ∨ 4 < m) ∨ m = 1 ∨ m = 2 ∨ m = 3 ∨ m = 4 := by omega
  rcases hsw with h1 | h1 | h1 | h1 | h1
  · refine mm_tsd (t := 51) dX4_moveStep_1.1 (by omega) h1 (by decide) ?_
    refine mm_iconst dX4_moveStep_51 rfl ?_
    refine mm_iret dX4_moveStep_52 rfl rfl ?_
    exact mm_fin (by unfold ks_ms; first | omega | (subst_vars; rfl) | (simp [*]; done) | (rw [if_neg (by omega), if_neg (by omega), if_neg (by omega), if_neg (by omega)])) rfl
  · refine mm_tsw (t := 32) (k := 0) dX4_moveStep_1.1 (by omega) (by omega) (by omega) (by omega) rfl (by decide) ?_
    refine mm_iconst dX4_moveStep_32 rfl ?_
    refine mm_iret dX4_moveStep_33 rfl rfl ?_
    exact mm_fin (by unfold ks_ms; first | omega | (subst_vars; rfl) | (simp [*]; done) | (rw [if_neg (by omega), if_neg (by omega), if_neg (by omega), if_neg (by omega)])) rfl
  · refine mm_tsw (t := 34) (k := 1) dX4_moveStep_1.1 (by omega) (by omega) (by omega) (by omega) rfl (by decide) ?_
    refine mm_iconst dX4_moveStep_34 rfl ?_
    refine mm_iret dX4_moveStep_35 rfl rfl ?_
    exact mm_fin (by unfold ks_ms; first | omega | (subst_vars; rfl) | (simp [*]; done) | (rw [if_neg (by omega), if_neg (by omega), if_neg (by omega), if_neg (by omega)])) rfl
  · refine mm_tsw (t := 36) (k := 2) dX4_moveStep_1.1 (by omega) (by omega) (by omega) (by omega) rfl (by decide) ?_
    refine mm_aload_n dX4_moveStep_36 rfl rfl ?_
    refine mm_getr dX4_moveStep_37 rfl fl_X4_11 (c := 3) rfl (by decide) rfl rfl (hR.at (c := 3) (i := 0) (v := 5) rfl (by decide)) ?_
    refine mm_iconst dX4_moveStep_40 rfl ?_
    refine mm_ialk (k0 := 0) dX4_moveStep_41 rfl (c := 4) rfl (by decide) rfl rfl (by decide) ?_
    refine mm_iret dX4_moveStep_42 rfl rfl ?_
    exact mm_fin (by unfold ks_ms; first | omega | (subst_vars; rfl) | (simp [*]; done) | (rw [if_neg (by omega), if_neg (by omega), if_neg (by omega), if_neg (by omega)])) rfl
  · refine mm_tsw (t := 43) (k := 3) dX4_moveStep_1.1 (by omega) (by omega) (by omega) (by omega) rfl (by decide) ?_
    refine mm_aload_n dX4_moveStep_43 rfl rfl ?_
    refine mm_getr dX4_moveStep_44 rfl fl_X4_11 (c := 3) rfl (by decide) rfl rfl (hR.at (c := 3) (i := 0) (v := 5) rfl (by decide)) ?_
    refine mm_iconst dX4_moveStep_47 rfl ?_
    refine mm_ialk (k0 := 0) dX4_moveStep_48 rfl (c := 4) rfl (by decide) rfl rfl (by decide) ?_
    refine mm_ineg dX4_moveStep_49 rfl ?_
    refine mm_iret dX4_moveStep_50 rfl rfl ?_
    exact mm_fin (by unfold ks_ms; first | omega | (subst_vars; rfl) | (simp [*]; done) | (rw [if_neg (by omega), if_neg (by omega), if_neg (by omega), if_neg (by omega)])) rfl
theorem c_X4_drumStep (hR : mm_Rf M) (hK : mm_CK M) (hd : 0 ≤ d ∧ d ≤ 2) : mm_Fn X Y_X4_drumStep 243 [(2, 4), (0, d)] M (0, ks_ds (M 4) d) M := by
  obtain ⟨h0, h1, h2, -⟩ := hK.1
  refine mm_startF (ls := [(2, 4), (0, d), (9, 0)]) rfl ?_
  refine mm_aload_n dX4_drumStep_0 rfl rfl ?_
  refine mm_getr dX4_drumStep_1 rfl fl_X4_11 (c := 3) rfl (by decide) rfl rfl (hR.at (c := 3) (i := 0) (v := 5) rfl (by decide)) ?_
  refine mm_iconst dX4_drumStep_4 rfl ?_
  refine mm_ialk (k0 := 0) dX4_drumStep_5 rfl (c := 4) rfl (by decide) rfl rfl (by decide) ?_
  refine mm_aload_n dX4_drumStep_6 rfl rfl ?_
  refine mm_getr dX4_drumStep_7 rfl fl_X4_11 (c := 3) rfl (by decide) rfl rfl (hR.at (c := 3) (i := 0) (v := 5) rfl (by decide)) ?_
  refine mm_iconst dX4_drumStep_10 rfl ?_
  refine mm_ialk (k0 := 1) dX4_drumStep_11 rfl (c := 4) rfl (by decide) rfl rfl (by decide) ?_
  refine mm_imul dX4_drumStep_12 rfl ?_
  refine mm_istore_n dX4_drumStep_13 rfl (Nat.le_of_ble_eq_true rfl) rfl ?_
  refine mm_iload_n dX4_drumStep_14 rfl rfl ?_
  refine mm_iconst dX4_drumStep_15 rfl ?_
  refine mm_icne dX4_drumStep_16 (by omega) (by omega) (fun h16 => ?_) (fun h16 => ?_)
  · refine mm_iload_n dX4_drumStep_21 rfl rfl ?_
    refine mm_iconst dX4_drumStep_22 rfl ?_
    refine mm_icne dX4_drumStep_23 (by omega) (by omega) (fun h23 => ?_) (fun h23 => ?_)
    · refine mm_iconst dX4_drumStep_31 rfl ?_
      refine mm_iret dX4_drumStep_32 rfl rfl ?_
      exact mm_fin (by unfold ks_ds; first | (subst_vars; rfl) | (simp [*]; done)) rfl
    · refine mm_iload_n dX4_drumStep_26 rfl rfl ?_
      refine mm_ineg dX4_drumStep_27 rfl ?_
      refine mm_goto dX4_drumStep_28 ?_
      refine mm_iret dX4_drumStep_32 rfl rfl ?_
      exact mm_fin (by unfold ks_ds; first | (subst_vars; rfl) | (simp [*]; done)) rfl
  · refine mm_iload_n dX4_drumStep_19 rfl rfl ?_
    refine mm_iret dX4_drumStep_20 rfl rfl ?_
    exact mm_fin (by unfold ks_ds; first | (subst_vars; rfl) | (simp [*]; done)) rfl
end

