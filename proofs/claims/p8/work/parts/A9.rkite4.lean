/-! ===== the reference uses a kite that is read ===== -/
section
variable {X : mm_X} {M N : mm_M} {n p : Nat}
theorem c_X13_takeKite (hR : mm_Rf M) (h18 : 1 ≤ M 183 18 ∧ M 183 18 ≤ 6) : mm_C X Y_X13_takeKite 243 243 [(2, 184)] M (fun r M' => r = (3, 0) ∧ mm_Rf M' ∧ (∀ a, a ≠ 183 → a ≠ 186 → a ≠ 188 → a ≠ 190 → M' a = M a) ∧ (∀ b, b ≠ 16 → M' 183 b = M 183 b) ∧ M' 183 16 = M 183 17 ∧ (∀ i, i < 10 → M' 186 i = M 187 i) ∧ (∀ i, i < 3 → M' 188 i = M 189 i) ∧ (∀ i : Nat, i < 6 → M' 190 i = M 191 (min (i : Int) (M 183 18 - 1)).toNat)) := by
  obtain ⟨Φ, hΦ⟩ : ∃ Φ : mm_V → mm_M → Prop, Φ = (fun r M' => r = (3, 0) ∧ mm_Rf M' ∧ (∀ a, a ≠ 183 → a ≠ 186 → a ≠ 188 → a ≠ 190 → M' a = M a) ∧ (∀ b, b ≠ 16 → M' 183 b = M 183 b) ∧ M' 183 16 = M 183 17 ∧ (∀ i, i < 10 → M' 186 i = M 187 i) ∧ (∀ i, i < 3 → M' 188 i = M 189 i) ∧ (∀ i : Nat, i < 6 → M' 190 i = M 191 (min (i : Int) (M 183 18 - 1)).toNat)) := ⟨_, rfl⟩
  rw [← hΦ]
  refine mm_start (ls := [(2, 184), (9, 0)]) rfl ?_
  have l3 : ∀ i : Nat, i ≤ 6 → ∀ N : mm_M, mm_Rf N → (∀ a, a ≠ 183 → a ≠ 186 → a ≠ 188 → a ≠ 190 → N a = M a) → (∀ b, b ≠ 16 → N 183 b = M 183 b) → N 183 16 = M 183 17 → (∀ k, k < 10 → N 186 k = M 187 k) → (∀ k, k < 3 → N 188 k = M 189 k) → (∀ k : Nat, k < i → N 190 k = M 191 (min (k : Int) (M 183 18 - 1)).toNat) →
      mm_J X Y_X13_takeKite 243 243 243 61 [(2, 184), (0, (i : Int))] [] N Φ := by
    refine mm_lp ?_
    intro i hi ih N hRN f1 f2 f3 f4 f5 f6
    have e18 : N 183 18 = M 183 18 := f2 18 (by decide)
    have r191 : N 191 = M 191 := f1 191 (by decide) (by decide) (by decide) (by decide)
    by_cases hlt : i < 6
    · refine mm_iload_n dX13_takeKite_61 rfl rfl ?_
      refine mm_bipush dX13_takeKite_62 rfl (by decide) ?_
      refine mm_icge dX13_takeKite_64 (by omega) (by omega) (fun h64 => ?_) (fun h64 => ?_)
      · exfalso; omega
      · refine mm_aload_n dX13_takeKite_67 rfl rfl ?_
        refine mm_getr dX13_takeKite_68 rfl fl_X13_159 (c := 183) rfl (by decide) rfl rfl (hRN.at (c := 183) (i := 14) (v := 191) rfl (by decide)) ?_
        refine mm_iload_n dX13_takeKite_71 rfl rfl ?_
        refine mm_aload_n dX13_takeKite_72 rfl rfl ?_
        refine mm_getr dX13_takeKite_73 rfl fl_X13_91 (c := 183) rfl (by decide) rfl rfl (hRN.at (c := 183) (i := 15) (v := 192) rfl (by decide)) ?_
        refine mm_iload_n dX13_takeKite_76 rfl rfl ?_
        refine mm_aload_n dX13_takeKite_77 rfl rfl ?_
        refine mm_get (kd := 0) dX13_takeKite_78 rfl fl_X13_94 (c := 183) rfl (by decide) rfl rfl ?_
        obtain ⟨v78, hv78⟩ : ∃ v, v = N 183 18 := ⟨_, rfl⟩
        rw [← hv78]
        rw [e18] at hv78
        subst hv78
        refine mm_iconst dX13_takeKite_81 rfl ?_
        refine mm_isub dX13_takeKite_82 rfl ?_
        refine mm_min dX13_takeKite_83 rfl lm_X13_161 rfl rfl (by simp) (by omega) (by omega) ?_
        refine mm_ialk (k0 := (min (i : Int) (M 183 18 - 1)).toNat) dX13_takeKite_86 rfl (c := 191) rfl (by decide) rfl (by omega) (by omega) ?_
        rw [r191]
        refine mm_istk (k0 := i) dX13_takeKite_87 rfl (c := 190) rfl (by decide) rfl (by omega) (by omega) (fun M87 hM87 => ?_)
        have hR87 : mm_Rf M87 := by rw [hM87]; exact hRN.up (mm_rt_ar (t := 0) rfl (by decide))
        refine mm_iinc dX13_takeKite_88 rfl rfl (Nat.le_of_ble_eq_true rfl) rfl ?_
        refine mm_goto dX13_takeKite_91 ?_
        refine ih hlt _ hR87 ?_ ?_ ?_ ?_ ?_ ?_
        · intro a a1 a2 a3 a4; rw [hM87, mm_up_row a4]; exact f1 a a1 a2 a3 a4
        · intro b hb; rw [hM87, mm_up_row (by decide)]; exact f2 b hb
        · rw [hM87, mm_up_row (by decide)]; exact f3
        · intro k hk; rw [hM87, mm_up_row (by decide)]; exact f4 k hk
        · intro k hk; rw [hM87, mm_up_row (by decide)]; exact f5 k hk
        · intro k hk
          by_cases q : k = i
          · rw [hM87, q, mm_up_s]
          · rw [hM87, mm_up_i q]; exact f6 k (by omega)
    · rw [hΦ]
      refine mm_iload_n dX13_takeKite_61 rfl rfl ?_
      refine mm_bipush dX13_takeKite_62 rfl (by decide) ?_
      refine mm_icge dX13_takeKite_64 (by omega) (by omega) (fun h64 => ?_) (fun h64 => ?_)
      · refine mm_vret dX13_takeKite_94 rfl rfl ?_
        exact ⟨rfl, hRN, f1, f2, f3, f4, f5, fun k hk => f6 k (by omega)⟩
      · exfalso; omega
  have l2 : ∀ i : Nat, i ≤ 3 → ∀ N : mm_M, mm_Rf N → (∀ a, a ≠ 183 → a ≠ 186 → a ≠ 188 → N a = M a) → (∀ b, b ≠ 16 → N 183 b = M 183 b) → N 183 16 = M 183 17 → (∀ k, k < 10 → N 186 k = M 187 k) → (∀ k, k < i → N 188 k = M 189 k) →
      mm_J X Y_X13_takeKite 243 243 243 36 [(2, 184), (0, (i : Int))] [] N Φ := by
    refine mm_lp ?_
    intro i hi ih N hRN f1 f2 f3 f4 f5
    have r189 : N 189 = M 189 := f1 189 (by decide) (by decide) (by decide)
    by_cases hlt : i < 3
    · refine mm_iload_n dX13_takeKite_36 rfl rfl ?_
      refine mm_iconst dX13_takeKite_37 rfl ?_
      refine mm_icge dX13_takeKite_38 (by omega) (by omega) (fun h38 => ?_) (fun h38 => ?_)
      · exfalso; omega
      · refine mm_aload_n dX13_takeKite_41 rfl rfl ?_
        refine mm_getr dX13_takeKite_42 rfl fl_X13_157 (c := 183) rfl (by decide) rfl rfl (hRN.at (c := 183) (i := 12) (v := 189) rfl (by decide)) ?_
        refine mm_iload_n dX13_takeKite_45 rfl rfl ?_
        refine mm_aload_n dX13_takeKite_46 rfl rfl ?_
        refine mm_getr dX13_takeKite_47 rfl fl_X13_85 (c := 183) rfl (by decide) rfl rfl (hRN.at (c := 183) (i := 13) (v := 190) rfl (by decide)) ?_
        refine mm_iload_n dX13_takeKite_50 rfl rfl ?_
        refine mm_ialk (k0 := i) dX13_takeKite_51 rfl (c := 189) rfl (by decide) rfl (by omega) (by omega) ?_
        rw [r189]
        refine mm_istk (k0 := i) dX13_takeKite_52 rfl (c := 188) rfl (by decide) rfl (by omega) (by omega) (fun M52 hM52 => ?_)
        have hR52 : mm_Rf M52 := by rw [hM52]; exact hRN.up (mm_rt_ar (t := 0) rfl (by decide))
        refine mm_iinc dX13_takeKite_53 rfl rfl (Nat.le_of_ble_eq_true rfl) rfl ?_
        refine mm_goto dX13_takeKite_56 ?_
        refine ih hlt _ hR52 ?_ ?_ ?_ ?_ ?_
        · intro a a1 a2 a3; rw [hM52, mm_up_row a3]; exact f1 a a1 a2 a3
        · intro b hb; rw [hM52, mm_up_row (by decide)]; exact f2 b hb
        · rw [hM52, mm_up_row (by decide)]; exact f3
        · intro k hk; rw [hM52, mm_up_row (by decide)]; exact f4 k hk
        · intro k hk
          by_cases q : k = i
          · rw [hM52, q, mm_up_s]
          · rw [hM52, mm_up_i q]; exact f5 k (by omega)
    · refine mm_iload_n dX13_takeKite_36 rfl rfl ?_
      refine mm_iconst dX13_takeKite_37 rfl ?_
      refine mm_icge dX13_takeKite_38 (by omega) (by omega) (fun h38 => ?_) (fun h38 => ?_)
      · refine mm_iconst dX13_takeKite_59 rfl ?_
        refine mm_istore_n dX13_takeKite_60 rfl (Nat.le_of_ble_eq_true rfl) rfl ?_
        exact l3 0 (Nat.zero_le _) N hRN (fun a a1 a2 a3 _ => f1 a a1 a2 a3) f2 f3 f4 (fun k hk => f5 k (by omega)) (fun k hk => absurd hk (Nat.not_lt_zero k))
      · exfalso; omega
  have l1 : ∀ i : Nat, i ≤ 10 → ∀ N : mm_M, mm_Rf N → (∀ a, a ≠ 186 → N a = M a) → (∀ k, k < i → N 186 k = M 187 k) →
      mm_J X Y_X13_takeKite 243 243 243 2 [(2, 184), (0, (i : Int))] [] N Φ := by
    refine mm_lp ?_
    intro i hi ih N hRN f1 f4
    have r187 : N 187 = M 187 := f1 187 (by decide)
    by_cases hlt : i < 10
    · refine mm_iload_n dX13_takeKite_2 rfl rfl ?_
      refine mm_bipush dX13_takeKite_3 rfl (by decide) ?_
      refine mm_icge dX13_takeKite_5 (by omega) (by omega) (fun h5 => ?_) (fun h5 => ?_)
      · exfalso; omega
      · refine mm_aload_n dX13_takeKite_8 rfl rfl ?_
        refine mm_getr dX13_takeKite_9 rfl fl_X13_151 (c := 183) rfl (by decide) rfl rfl (hRN.at (c := 183) (i := 10) (v := 187) rfl (by decide)) ?_
        refine mm_iload_n dX13_takeKite_12 rfl rfl ?_
        refine mm_aload_n dX13_takeKite_13 rfl rfl ?_
        refine mm_getr dX13_takeKite_14 rfl fl_X13_78 (c := 183) rfl (by decide) rfl rfl (hRN.at (c := 183) (i := 11) (v := 188) rfl (by decide)) ?_
        refine mm_iload_n dX13_takeKite_17 rfl rfl ?_
        refine mm_ialk (k0 := i) dX13_takeKite_18 rfl (c := 187) rfl (by decide) rfl (by omega) (by omega) ?_
        rw [r187]
        refine mm_istk (k0 := i) dX13_takeKite_19 rfl (c := 186) rfl (by decide) rfl (by omega) (by omega) (fun M19 hM19 => ?_)
        have hR19 : mm_Rf M19 := by rw [hM19]; exact hRN.up (mm_rt_ar (t := 0) rfl (by decide))
        refine mm_iinc dX13_takeKite_20 rfl rfl (Nat.le_of_ble_eq_true rfl) rfl ?_
        refine mm_goto dX13_takeKite_23 ?_
        refine ih hlt _ hR19 ?_ ?_
        · intro a a1; rw [hM19, mm_up_row a1]; exact f1 a a1
        · intro k hk
          by_cases q : k = i
          · rw [hM19, q, mm_up_s]
          · rw [hM19, mm_up_i q]; exact f4 k (by omega)
    · refine mm_iload_n dX13_takeKite_2 rfl rfl ?_
      refine mm_bipush dX13_takeKite_3 rfl (by decide) ?_
      refine mm_icge dX13_takeKite_5 (by omega) (by omega) (fun h5 => ?_) (fun h5 => ?_)
      · refine mm_aload_n dX13_takeKite_26 rfl rfl ?_
        refine mm_aload_n dX13_takeKite_27 rfl rfl ?_
        refine mm_get (kd := 0) dX13_takeKite_28 rfl fl_X13_88 (c := 183) rfl (by decide) rfl rfl ?_
        refine mm_puti dX13_takeKite_31 rfl fl_X13_154 (c := 183) rfl (by decide) rfl rfl (fun M31 hM31 => ?_)
        have hR31 : mm_Rf M31 := by rw [hM31]; exact hRN.up rfl
        refine mm_iconst dX13_takeKite_34 rfl ?_
        refine mm_istore_n dX13_takeKite_35 rfl (Nat.le_of_ble_eq_true rfl) rfl ?_
        refine l2 0 (Nat.zero_le _) _ hR31 ?_ ?_ ?_ ?_ (fun k hk => absurd hk (Nat.not_lt_zero k))
        · intro a a1 a2 a3; rw [hM31, mm_up_row a1]; exact f1 a a2
        · intro b hb; rw [hM31, mm_up_i hb, f1 183 (by decide)]
        · rw [hM31, mm_up_s, f1 183 (by decide)]
        · intro k hk; rw [hM31, mm_up_row (by decide)]; exact f4 k (by omega)
      · exfalso; omega
  refine mm_iconst dX13_takeKite_0 rfl ?_
  refine mm_istore_n dX13_takeKite_1 rfl (Nat.le_of_ble_eq_true rfl) rfl ?_
  exact l1 0 (Nat.zero_le _) M hR (fun _ _ => rfl) (fun k hk => absurd hk (Nat.not_lt_zero k))
end

