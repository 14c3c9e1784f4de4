/-! ===== the shared step of two loops ===== -/
section
variable {X : mm_X} {M : mm_M} {a b : Nat}
theorem c_X1_sharedStep (hR : mm_Rf M) (ha : 1 ≤ a ∧ a ≤ 100) (hb : 1 ≤ b ∧ b ≤ 100) : mm_Fn X Y_X1_sharedStep 243 [(0, (a : Int)), (0, (b : Int))] M (0, ((Nat.gcd a b : Nat) : Int)) M := by
  refine mm_startF (ls := [(0, (a : Int)), (0, (b : Int)), (9, 0), (9, 0), (9, 0), (9, 0)]) rfl ?_
  have hg : 1 ≤ Nat.gcd a b := Nat.gcd_pos_of_pos_left b (by omega)
  have loop : ∀ (m u v i : Nat) (l5 : Nat × Int), v ≤ m → v + i ≤ 100 → u ≤ 100 → Nat.gcd u v = Nat.gcd a b → mm_J X Y_X1_sharedStep 243 243 243 7 [(0, (a : Int)), (0, (b : Int)), (0, (u : Int)), (0, (v : Int)), (0, (i : Int)), l5] [] M (fun r' M'' => r' = (0, ((Nat.gcd a b : Nat) : Int)) ∧ M'' = M) := by
    intro m
    induction m with
    | zero =>
      intro u v i l5 hv hi hu hgc
      have hv0 : v = 0 := by omega
      subst hv0
      rw [Nat.gcd_zero_right] at hgc
      refine mm_iload dX1_sharedStep_7 rfl rfl ?_
      refine mm_bipush dX1_sharedStep_9 rfl (by decide) ?_
      refine mm_icge dX1_sharedStep_11 (by omega) (by omega) (fun h11 => ?_) (fun h11 => ?_)
      · refine mm_iload_n dX1_sharedStep_34 rfl rfl ?_
        refine mm_iconst dX1_sharedStep_35 rfl ?_
        refine mm_max dX1_sharedStep_36 rfl lm_X1_56 rfl rfl (by simp) (by omega) (by omega) ?_
        refine mm_iret dX1_sharedStep_39 rfl rfl ?_
        exact mm_fin (by rw [hgc]; omega) rfl
      · refine mm_iload_n dX1_sharedStep_14 rfl rfl ?_
        refine mm_ifle dX1_sharedStep_15 (by omega) (fun h15 => ?_) (fun h15 => ?_)
        · refine mm_iload_n dX1_sharedStep_34 rfl rfl ?_
          refine mm_iconst dX1_sharedStep_35 rfl ?_
          refine mm_max dX1_sharedStep_36 rfl lm_X1_56 rfl rfl (by simp) (by omega) (by omega) ?_
          refine mm_iret dX1_sharedStep_39 rfl rfl ?_
          exact mm_fin (by rw [hgc]; omega) rfl
        · exfalso; omega
    | succ m ih =>
      intro u v i l5 hv hi hu hgc
      by_cases hv0 : v = 0
      · exact ih u v i l5 (by omega) hi hu hgc
      · have hlt := Nat.mod_lt u (show 0 < v by omega)
        have hgc2 : Nat.gcd v (u % v) = Nat.gcd a b := by rw [← hgc, Nat.gcd_comm v (u % v), ← Nat.gcd_rec, Nat.gcd_comm]
        have ec : (u : Int) % (v : Int) = ((u % v : Nat) : Int) := (Int.natCast_emod u v).symm
        refine mm_iload dX1_sharedStep_7 rfl rfl ?_
        refine mm_bipush dX1_sharedStep_9 rfl (by decide) ?_
        refine mm_icge dX1_sharedStep_11 (by omega) (by omega) (fun h11 => ?_) (fun h11 => ?_)
        · exfalso; omega
        · refine mm_iload_n dX1_sharedStep_14 rfl rfl ?_
          refine mm_ifle dX1_sharedStep_15 (by omega) (fun h15 => ?_) (fun h15 => ?_)
          · exfalso; omega
          · refine mm_iload_n dX1_sharedStep_18 rfl rfl ?_
            refine mm_iload_n dX1_sharedStep_19 rfl rfl ?_
            refine mm_irem dX1_sharedStep_20 rfl (by omega) (by omega) (by omega) ?_
            rw [mm_tmod (by omega), ec]
            refine mm_istore dX1_sharedStep_21 rfl (Nat.le_of_ble_eq_true rfl) rfl ?_
            refine mm_iload_n dX1_sharedStep_23 rfl rfl ?_
            refine mm_istore_n dX1_sharedStep_24 rfl (Nat.le_of_ble_eq_true rfl) rfl ?_
            refine mm_iload dX1_sharedStep_25 rfl rfl ?_
            refine mm_istore_n dX1_sharedStep_27 rfl (Nat.le_of_ble_eq_true rfl) rfl ?_
            refine mm_iinc dX1_sharedStep_28 rfl rfl (Nat.le_of_ble_eq_true rfl) rfl ?_
            refine mm_goto dX1_sharedStep_31 ?_
            exact ih v (u % v) (i + 1) _ (by omega) (by omega) (by omega) hgc2
  refine mm_iload_n dX1_sharedStep_0 rfl rfl ?_
  refine mm_istore_n dX1_sharedStep_1 rfl (Nat.le_of_ble_eq_true rfl) rfl ?_
  refine mm_iload_n dX1_sharedStep_2 rfl rfl ?_
  refine mm_istore_n dX1_sharedStep_3 rfl (Nat.le_of_ble_eq_true rfl) rfl ?_
  refine mm_iconst dX1_sharedStep_4 rfl ?_
  refine mm_istore dX1_sharedStep_5 rfl (Nat.le_of_ble_eq_true rfl) rfl ?_
  exact loop 100 a b 0 _ (by omega) (by omega) (by omega) rfl
end

