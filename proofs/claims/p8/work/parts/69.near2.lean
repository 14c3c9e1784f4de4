/-! ===== how near two loops come ===== -/
section
variable {X : mm_X} {M : mm_M} {w : Int} {rc rd l m k : Nat}
theorem c_X1_nearest (hR : mm_Rf M) (hK : mm_CK M) (hrc : mm_rw rc 100) (hrd : mm_rw rd 100) (hl : M rc 2 = (l : Int) ∧ 1 ≤ l ∧ l ≤ 100) (hm : M rd 2 = (m : Int) ∧ 1 ≤ m ∧ m ≤ 100) (hw : -1000 ≤ w ∧ w ≤ 1000) (hk : k ≤ 100)
    (hs : ∀ i : Nat, i < l → ks_st (M 4) (M (rc + 2) i)) (ht : ∀ i : Nat, i < m → ks_st (M 4) (M (rd + 2) i)) :
    mm_Fn X Y_X1_nearest 243 [(2, 145), (2, (rc : Int) + 1), (2, (rd : Int) + 1), (0, w), (0, (k : Int))] M (0, kn (kn_d (M 4) (M (rc + 2)) (M (rd + 2)) l m k w) (l * m / Nat.gcd l m)) M := by
  refine mm_startF (ls := [(2, 145), (2, (rc : Int) + 1), (2, (rd : Int) + 1), (0, w), (0, (k : Int)), (9, 0), (9, 0), (9, 0), (9, 0), (9, 0), (9, 0), (9, 0), (9, 0)]) rfl ?_
  have hg : 1 ≤ Nat.gcd l m := Nat.gcd_pos_of_pos_left m (by omega)
  have hg2 : Nat.gcd l m ≤ l := Nat.gcd_le_left m (by omega)
  have hlm := mm_mulb (a := (l : Int)) (b := (m : Int)) (A := 100) (B := 100) (by omega) (by omega) (by omega) (by omega)
  have hlm2 : l * m ≤ 10000 := Nat.mul_le_mul (show l ≤ 100 by omega) (show m ≤ 100 by omega)
  have hq : l * m / Nat.gcd l m ≤ 10000 := Nat.le_trans (Nat.div_le_self _ _) hlm2
  have e1 : (k : Int) % (m : Int) = ((k % m : Nat) : Int) := (Int.natCast_emod k m).symm
  have e2 : (l : Int) * (m : Int) / ((Nat.gcd l m : Nat) : Int) = ((l * m / Nat.gcd l m : Nat) : Int) := by rw [Int.natCast_ediv, Int.natCast_mul]
  have hl1 := hl.1
  have hm1 := hm.1
  refine mm_sipush dX1_nearest_0 rfl (by decide) ?_
  refine mm_istore dX1_nearest_3 rfl (Nat.le_of_ble_eq_true rfl) rfl ?_
  refine mm_iconst dX1_nearest_5 rfl ?_
  refine mm_istore dX1_nearest_6 rfl (Nat.le_of_ble_eq_true rfl) rfl ?_
  refine mm_iload dX1_nearest_8 rfl rfl ?_
  refine mm_aload_n dX1_nearest_10 rfl rfl ?_
  refine mm_get (kd := 0) dX1_nearest_11 rfl fl_X1_53 (c := rd) rfl hrd.c0 hrd.1 rfl ?_
  rw [hm1]
  refine mm_iconst dX1_nearest_14 rfl ?_
  refine mm_max dX1_nearest_15 rfl lm_X1_56 rfl rfl (by simp) (by omega) (by omega) ?_
  rw [show max (m : Int) 1 = (m : Int) by omega]
  refine mm_irem dX1_nearest_18 rfl (by omega) (by omega) (by omega) ?_
  rw [mm_tmod (by omega), e1]
  refine mm_istore dX1_nearest_19 rfl (Nat.le_of_ble_eq_true rfl) rfl ?_
  refine mm_aload_n dX1_nearest_21 rfl rfl ?_
  refine mm_get (kd := 0) dX1_nearest_22 rfl fl_X1_53 (c := rc) rfl hrc.c0 hrc.1 rfl ?_
  refine mm_aload_n dX1_nearest_25 rfl rfl ?_
  refine mm_get (kd := 0) dX1_nearest_26 rfl fl_X1_53 (c := rd) rfl hrd.c0 hrd.1 rfl ?_
  rw [hl1, hm1]
  refine mm_imul dX1_nearest_29 rfl ?_
  refine mm_aload_n dX1_nearest_30 rfl rfl ?_
  refine mm_get (kd := 0) dX1_nearest_31 rfl fl_X1_53 (c := rc) rfl hrc.c0 hrc.1 rfl ?_
  refine mm_aload_n dX1_nearest_34 rfl rfl ?_
  refine mm_get (kd := 0) dX1_nearest_35 rfl fl_X1_53 (c := rd) rfl hrd.c0 hrd.1 rfl ?_
  rw [hl1, hm1]
  refine mm_S2i dX1_nearest_38 rfl lk_X1_62 (by simp) (by simp) rfl rfl rfl (c_X1_sharedStep hR hl.2 hm.2) ?_
  refine mm_idiv dX1_nearest_41 rfl (by omega) (by omega) (by omega) ?_
  rw [mm_tdiv (by omega), e2]
  refine mm_istore dX1_nearest_42 rfl (Nat.le_of_ble_eq_true rfl) rfl ?_
  refine mm_iconst dX1_nearest_44 rfl ?_
  refine mm_istore dX1_nearest_45 rfl (Nat.le_of_ble_eq_true rfl) rfl ?_
  have := l_X1_nearest (X := X) (k := k) (z4 := (k : Int)) hR hK hrc hrd hl hm hw hq hs ht (l * m / Nat.gcd l m) 0 (9, 0) (9, 0) (9, 0) (by omega)
  rw [Nat.zero_mod, Nat.add_zero] at this
  exact this
end

