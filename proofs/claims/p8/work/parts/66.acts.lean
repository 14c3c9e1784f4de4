/-! ===== the acts of a row, off the tape ===== -/
def kj_act (M : mm_M) (i : Nat) : Int := M 2 i % 256 - 48
/-- a row is told: its length and its acts are good -/
def kj_ok (M : mm_M) : Prop := (1 ≤ M 1 1 ∧ M 1 1 ≤ 100) ∧ ∀ i : Nat, (i : Int) < M 1 1 → ks_ac (M 4) (kj_act M i)
section
variable {X : mm_X} {M : mm_M}
theorem c_X8_takeActs0 (hR : mm_Rf M) (hK : mm_CK M) (hl : 0 ≤ M 1 1 ∧ M 1 1 ≤ 800) (hv : ∀ k : Nat, k < 800 → -128 ≤ M 2 k ∧ M 2 k ≤ 127) (hno : ¬ kj_ok M) :
    mm_Fn X Y_X8_takeActs 243 [(2, 118), (2, 2), (2, 4)] M (0, 0) M := by
  refine mm_startF (ls := [(2, 118), (2, 2), (2, 4), (9, 0)]) rfl ?_
  have loop : ∀ (k i : Nat), i + k = (M 1 1).toNat → (1 ≤ M 1 1 ∧ M 1 1 ≤ 100) → (∀ j : Nat, j < i → ks_ac (M 4) (kj_act M j)) → mm_J X Y_X8_takeActs 243 243 243 24 [(2, 118), (2, 2), (2, 4), (0, (i : Int))] [] M (fun r' M'' => r' = (0, 0) ∧ M'' = M) := by
    intro k
    induction k with
    | zero =>
      intro i hi hlen hj
      exact absurd ⟨hlen, fun j q => hj j (by omega)⟩ hno
    | succ k ih =>
      intro i hi hlen hj
      have hb := hv i (by omega)
      have e1 : (if 0 ≤ (i : Int) ∧ (i : Int) < M 1 1 then M 2 (i : Int).toNat % 256 else -1) = M 2 i % 256 := by rw [if_pos (by omega), Int.toNat_natCast]
      refine mm_iload_n dX8_takeActs_24 rfl rfl ?_
      refine mm_aload_n dX8_takeActs_25 rfl rfl ?_
      refine mm_get (kd := 0) dX8_takeActs_26 rfl fl_X8_38 (c := 1) rfl (by decide) rfl rfl ?_
      refine mm_icge dX8_takeActs_29 (by omega) (by omega) (fun h29 => ?_) (fun h29 => ?_)
      · exfalso; omega
      · refine mm_aload_n dX8_takeActs_32 rfl rfl ?_
        refine mm_aload_n dX8_takeActs_33 rfl rfl ?_
        refine mm_iload_n dX8_takeActs_34 rfl rfl ?_
        refine mm_V1i dX8_takeActs_35 rfl lk_X8_41 (c := 1) rfl (by decide) rfl (by simp) rfl rfl rfl ((e1 ▸ c_X10_byteAt hR (by omega) hl hv)) ?_
        refine mm_bipush dX8_takeActs_38 rfl (by decide) ?_
        refine mm_isub dX8_takeActs_40 rfl ?_
        refine mm_V1i dX8_takeActs_41 rfl lk_X8_45 (c := 3) rfl (by decide) rfl (by simp) rfl rfl rfl (c_X4_hasAct hR hK (by omega)) ?_
        refine mm_ifneb dX8_takeActs_44 (fun h44 => ?_) (fun h44 => ?_)
        · refine mm_iinc dX8_takeActs_49 rfl rfl (Nat.le_of_ble_eq_true rfl) rfl ?_
          refine mm_goto dX8_takeActs_52 ?_
          refine ih (i + 1) (by omega) hlen ?_
          intro j hj2
          by_cases hij : j = i
          · rw [hij]; exact h44
          · exact hj j (by omega)
        · refine mm_iconst dX8_takeActs_47 rfl ?_
          refine mm_zret dX8_takeActs_48 rfl rfl (Or.inl rfl) ?_
          exact mm_fin rfl rfl
  refine mm_aload_n dX8_takeActs_0 rfl rfl ?_
  refine mm_get (kd := 0) dX8_takeActs_1 rfl fl_X8_38 (c := 1) rfl (by decide) rfl rfl ?_
  refine mm_iconst dX8_takeActs_4 rfl ?_
  refine mm_iclt dX8_takeActs_5 (by omega) (by omega) (fun h5 => ?_) (fun h5 => ?_)
  · refine mm_iconst dX8_takeActs_20 rfl ?_
    refine mm_zret dX8_takeActs_21 rfl rfl (Or.inl rfl) ?_
    exact mm_fin rfl rfl
  · refine mm_aload_n dX8_takeActs_8 rfl rfl ?_
    refine mm_get (kd := 0) dX8_takeActs_9 rfl fl_X8_38 (c := 1) rfl (by decide) rfl rfl ?_
    refine mm_aload_n dX8_takeActs_12 rfl rfl ?_
    refine mm_getr dX8_takeActs_13 rfl fl_X8_13 (c := 117) rfl (by decide) rfl rfl (hR.at (c := 117) (i := 0) (v := 119) rfl (by decide)) ?_
    refine mm_aln dX8_takeActs_16 rfl (c := 118) rfl (by decide) rfl ?_
    refine mm_icle dX8_takeActs_17 (by omega) (by omega) (fun h17 => ?_) (fun h17 => ?_)
    · refine mm_iconst dX8_takeActs_22 rfl ?_
      refine mm_istore_n dX8_takeActs_23 rfl (Nat.le_of_ble_eq_true rfl) rfl ?_
      exact loop (M 1 1).toNat 0 (by omega) (by omega) (fun j q => absurd q (Nat.not_lt_zero j))
    · refine mm_iconst dX8_takeActs_20 rfl ?_
      refine mm_zret dX8_takeActs_21 rfl rfl (Or.inl rfl) ?_
      exact mm_fin rfl rfl
theorem c_X8_takeActs1 (hR : mm_Rf M) (hK : mm_CK M) (hv : ∀ k : Nat, k < 800 → -128 ≤ M 2 k ∧ M 2 k ≤ 127) (hok : kj_ok M) :
    mm_Fn X Y_X8_takeActs 243 [(2, 118), (2, 2), (2, 4)] M (0, 1) (kf_mem (mm_up M 117 2 (M 1 1)) 118 (kj_act M) (M 1 1).toNat) := by
  refine mm_startF (ls := [(2, 118), (2, 2), (2, 4), (9, 0)]) rfl ?_
  obtain ⟨hlen, hall⟩ := hok
  obtain ⟨N, hN⟩ : ∃ N, N = mm_up M 117 2 (M 1 1) := ⟨_, rfl⟩
  have hRN : mm_Rf N := by rw [hN]; exact hR.up rfl
  rw [← hN]
  have loop2 : ∀ (k i : Nat), i + k = (M 1 1).toNat → mm_J X Y_X8_takeActs 243 243 243 65 [(2, 118), (2, 2), (2, 4), (0, (i : Int))] [] (kf_mem N 118 (kj_act M) i) (fun r' M'' => r' = (0, 1) ∧ M'' = kf_mem N 118 (kj_act M) (M 1 1).toNat) := by
    intro k
    induction k with
    | zero =>
      intro i hi
      obtain ⟨N', hN'⟩ : ∃ N', N' = kf_mem N 118 (kj_act M) i := ⟨_, rfl⟩
      have hRN' : mm_Rf N' := by rw [hN']; exact hRN.fm (len := 100) rfl
      have el : N' 117 2 = M 1 1 := by rw [hN', kf_mem_n (by omega), hN, mm_up_s]
      have ei : i = (M 1 1).toNat := by omega
      rw [← hN']
      refine mm_iload_n dX8_takeActs_65 rfl rfl ?_
      refine mm_aload_n dX8_takeActs_66 rfl rfl ?_
      refine mm_get (kd := 0) dX8_takeActs_67 rfl fl_X8_22 (c := 117) rfl (by decide) rfl rfl ?_
      refine mm_icge dX8_takeActs_70 (by omega) (by omega) (fun h70 => ?_) (fun h70 => ?_)
      · refine mm_iconst dX8_takeActs_93 rfl ?_
        refine mm_zret dX8_takeActs_94 rfl rfl (Or.inr rfl) ?_
        exact mm_fin rfl (by rw [hN', ei])
      · exfalso; omega
    | succ k ih =>
      intro i hi
      obtain ⟨N', hN'⟩ : ∃ N', N' = kf_mem N 118 (kj_act M) i := ⟨_, rfl⟩
      have hRN' : mm_Rf N' := by rw [hN']; exact hRN.fm (len := 100) rfl
      have el : N' 117 2 = M 1 1 := by rw [hN', kf_mem_n (by omega), hN, mm_up_s]
      have et : N' 1 1 = M 1 1 := by rw [hN', kf_mem_n (by omega), hN]; rfl
      have eb : N' 2 = M 2 := by rw [hN', kf_mem_n (by omega), hN]; rfl
      have hb := hv i (by omega)
      have e1 : (if 0 ≤ (i : Int) ∧ (i : Int) < N' 1 1 then N' 2 (i : Int).toNat % 256 else -1) = M 2 i % 256 := by rw [if_pos (by omega), Int.toNat_natCast, eb]
      rw [← hN']
      refine mm_iload_n dX8_takeActs_65 rfl rfl ?_
      refine mm_aload_n dX8_takeActs_66 rfl rfl ?_
      refine mm_get (kd := 0) dX8_takeActs_67 rfl fl_X8_22 (c := 117) rfl (by decide) rfl rfl ?_
      refine mm_icge dX8_takeActs_70 (by omega) (by omega) (fun h70 => ?_) (fun h70 => ?_)
      · exfalso; omega
      · refine mm_aload_n dX8_takeActs_73 rfl rfl ?_
        refine mm_getr dX8_takeActs_74 rfl fl_X8_13 (c := 117) rfl (by decide) rfl rfl (hRN'.at (c := 117) (i := 0) (v := 119) rfl (by decide)) ?_
        refine mm_iload_n dX8_takeActs_77 rfl rfl ?_
        refine mm_aload_n dX8_takeActs_78 rfl rfl ?_
        refine mm_iload_n dX8_takeActs_79 rfl rfl ?_
        refine mm_V1i dX8_takeActs_80 rfl lk_X8_41 (c := 1) rfl (by decide) rfl (by simp) rfl rfl rfl ((e1 ▸ c_X10_byteAt hRN' (by omega) (by omega) (by rw [eb]; exact hv))) ?_
        refine mm_bipush dX8_takeActs_83 rfl (by decide) ?_
        refine mm_isub dX8_takeActs_85 rfl ?_
        refine mm_istk (k0 := i) dX8_takeActs_86 rfl (c := 118) rfl (by decide) rfl (by omega) (by omega) (fun M86 hM86 => ?_)
        have hR86 : mm_Rf M86 := by rw [hM86]; exact hRN'.up (mm_rt_ar (t := 0) rfl (by decide))
        refine mm_iinc dX8_takeActs_87 rfl rfl (Nat.le_of_ble_eq_true rfl) rfl ?_
        refine mm_goto dX8_takeActs_90 ?_
        have e86 : M86 = kf_mem N 118 (kj_act M) (i + 1) := by rw [hM86, hN', ← kf_mem_s]; rfl
        rw [e86]
        exact ih (i + 1) (by omega)
  have loop : ∀ (k i : Nat), i + k = (M 1 1).toNat → mm_J X Y_X8_takeActs 243 243 243 24 [(2, 118), (2, 2), (2, 4), (0, (i : Int))] [] M (fun r' M'' => r' = (0, 1) ∧ M'' = kf_mem N 118 (kj_act M) (M 1 1).toNat) := by
    intro k
    induction k with
    | zero =>
      intro i hi
      refine mm_iload_n dX8_takeActs_24 rfl rfl ?_
      refine mm_aload_n dX8_takeActs_25 rfl rfl ?_
      refine mm_get (kd := 0) dX8_takeActs_26 rfl fl_X8_38 (c := 1) rfl (by decide) rfl rfl ?_
      refine mm_icge dX8_takeActs_29 (by omega) (by omega) (fun h29 => ?_) (fun h29 => ?_)
      · refine mm_aload_n dX8_takeActs_55 rfl rfl ?_
        refine mm_aload_n dX8_takeActs_56 rfl rfl ?_
        refine mm_get (kd := 0) dX8_takeActs_57 rfl fl_X8_38 (c := 1) rfl (by decide) rfl rfl ?_
        refine mm_puti dX8_takeActs_60 rfl fl_X8_22 (c := 117) rfl (by decide) rfl rfl (fun M60 hM60 => ?_)
        have hR60 : mm_Rf M60 := by rw [hM60]; exact hR.up rfl
        refine mm_iconst dX8_takeActs_63 rfl ?_
        refine mm_istore_n dX8_takeActs_64 rfl (Nat.le_of_ble_eq_true rfl) rfl ?_
        have e60 : M60 = kf_mem N 118 (kj_act M) 0 := by rw [kf_mem_0, hM60, hN]
        rw [e60]
        exact loop2 (M 1 1).toNat 0 (by omega)
      · exfalso; omega
    | succ k ih =>
      intro i hi
      have hb := hv i (by omega)
      have hai := hall i (by omega)
      have e1 : (if 0 ≤ (i : Int) ∧ (i : Int) < M 1 1 then M 2 (i : Int).toNat % 256 else -1) = M 2 i % 256 := by rw [if_pos (by omega), Int.toNat_natCast]
      refine mm_iload_n dX8_takeActs_24 rfl rfl ?_
      refine mm_aload_n dX8_takeActs_25 rfl rfl ?_
      refine mm_get (kd := 0) dX8_takeActs_26 rfl fl_X8_38 (c := 1) rfl (by decide) rfl rfl ?_
      refine mm_icge dX8_takeActs_29 (by omega) (by omega) (fun h29 => ?_) (fun h29 => ?_)
      · exfalso; omega
      · refine mm_aload_n dX8_takeActs_32 rfl rfl ?_
        refine mm_aload_n dX8_takeActs_33 rfl rfl ?_
        refine mm_iload_n dX8_takeActs_34 rfl rfl ?_
        refine mm_V1i dX8_takeActs_35 rfl lk_X8_41 (c := 1) rfl (by decide) rfl (by simp) rfl rfl rfl ((e1 ▸ c_X10_byteAt hR (by omega) (by omega) hv)) ?_
        refine mm_bipush dX8_takeActs_38 rfl (by decide) ?_
        refine mm_isub dX8_takeActs_40 rfl ?_
        refine mm_V1i dX8_takeActs_41 rfl lk_X8_45 (c := 3) rfl (by decide) rfl (by simp) rfl rfl rfl (c_X4_hasAct hR hK (by omega)) ?_
        refine mm_ifneb dX8_takeActs_44 (fun h44 => ?_) (fun h44 => ?_)
        · refine mm_iinc dX8_takeActs_49 rfl rfl (Nat.le_of_ble_eq_true rfl) rfl ?_
          refine mm_goto dX8_takeActs_52 ?_
          exact ih (i + 1) (by omega)
        · refine mm_iconst dX8_takeActs_47 rfl ?_
          refine mm_zret dX8_takeActs_48 rfl rfl (Or.inl rfl) ?_
          exact absurd hai h44
  refine mm_aload_n dX8_takeActs_0 rfl rfl ?_
  refine mm_get (kd := 0) dX8_takeActs_1 rfl fl_X8_38 (c := 1) rfl (by decide) rfl rfl ?_
  refine mm_iconst dX8_takeActs_4 rfl ?_
  refine mm_iclt dX8_takeActs_5 (by omega) (by omega) (fun h5 => ?_) (fun h5 => ?_)
  · refine mm_iconst dX8_takeActs_20 rfl ?_
    refine mm_zret dX8_takeActs_21 rfl rfl (Or.inl rfl) ?_
    exfalso; omega
  · refine mm_aload_n dX8_takeActs_8 rfl rfl ?_
    refine mm_get (kd := 0) dX8_takeActs_9 rfl fl_X8_38 (c := 1) rfl (by decide) rfl rfl ?_
    refine mm_aload_n dX8_takeActs_12 rfl rfl ?_
    refine mm_getr dX8_takeActs_13 rfl fl_X8_13 (c := 117) rfl (by decide) rfl rfl (hR.at (c := 117) (i := 0) (v := 119) rfl (by decide)) ?_
    refine mm_aln dX8_takeActs_16 rfl (c := 118) rfl (by decide) rfl ?_
    refine mm_icle dX8_takeActs_17 (by omega) (by omega) (fun h17 => ?_) (fun h17 => ?_)
    · refine mm_iconst dX8_takeActs_22 rfl ?_
      refine mm_istore_n dX8_takeActs_23 rfl (Nat.le_of_ble_eq_true rfl) rfl ?_
      exact loop (M 1 1).toNat 0 (by omega)
    · refine mm_iconst dX8_takeActs_20 rfl ?_
      refine mm_zret dX8_takeActs_21 rfl rfl (Or.inl rfl) ?_
      exfalso; omega
end

