/-! 36.air2 -/
section
section
variable {X : mm_X} {M : mm_M} {s a h g b p t e sh lo hi : Int}
theorem c_X0_pullBy0 (hR : mm_Rf M) (hK : mm_CK M) (hA : mm_CA M) (hs : ks_st (M 4) s) (ha : ks_ac (M 4) a) (hh : ks_hr h) : mm_Fn X Y_X0_pullBy 243 [(2, 12), (0, s), (0, a), (0, h), (0, 0)] M (0, ks_p (M 4) s a (ks_wi (M 16) (M 4) s h)) M := c_X0_pullBy (P := False) hR hK hA hs ha hh
theorem c_X0_pullBy1 (hR : mm_Rf M) (hK : mm_CK M) (hA : mm_CA M) (hs : ks_st (M 4) s) (ha : ks_ac (M 4) a) (hh : ks_hr h) : mm_Fn X Y_X0_pullBy 243 [(2, 12), (0, s), (0, a), (0, h), (0, 1)] M (0, ks_p (M 4) s a (ks_wi (M 17) (M 4) s h)) M := c_X0_pullBy (P := True) hR hK hA hs ha hh
theorem c_X0_windIn0 (hR : mm_Rf M) (hK : mm_CK M) (hs : ks_st (M 4) s) (hh : ks_hr h) : mm_Fn X Y_X0_windIn 243 [(2, 12), (0, s), (0, h), (0, 0)] M (0, ks_wi (M 16) (M 4) s h) M := c_X0_windIn (P := False) hR hK hs hh
theorem ks_pw {K : Nat → Int} (h : mm_KV K) {s a w : Int} (ha : ks_ac K a) (hw : 0 ≤ w ∧ w ≤ 60) : 0 ≤ ks_p K s a w ∧ ks_p K s a w ≤ 1425600 := by
  have hc := ks_colb h s
  have hsl := ks_slb h ha
  have h0 := h.1
  have hb := ks_pab h (sl := a / 15) (c := ks_col K s) (w := w) ⟨hsl.1, hsl.2.2⟩ (by omega) (by omega)
  obtain ⟨-, -, -, -, -, -, -, -, h8, -⟩ := h
  unfold ks_p ks_pa
  generalize K (20 + (a / 15).toNat) = u at hb ⊢
  generalize K (30 + (ks_col K s).toNat) = v at hb ⊢
  have c1 := mm_mulb (a := u) (b := w) (A := 99) (B := 60) hb.1.1 hb.1.2 hw.1 hw.2
  have c2 := mm_mulb (a := u * w) (b := w) (A := 99 * 60) (B := 60) c1.1 c1.2 hw.1 hw.2
  have c3 := mm_mulb (a := u * w * w) (b := v) (A := 99 * 60 * 60) (B := 100) c2.1 c2.2 hb.2.1.1 hb.2.1.2
  have c4 : 0 ≤ u * w * w * v / 100 ∧ u * w * w * v / 100 ≤ 356400 := by omega
  have c5 := mm_mulb (a := u * w * w * v / 100) (b := K 8) (A := 356400) (B := 400) c4.1 c4.2 (by omega) h8.2
  split <;> omega
theorem c_X0_isSafe (hR : mm_Rf M) (hK : mm_CK M) (hA : mm_CA M) (hs : ks_st (M 4) s) (ha : ks_ac (M 4) a) (hh : ks_hr h) : mm_Fn X Y_X0_isSafe 243 [(2, 12), (0, s), (0, a), (0, h)] M (0, mm_b (ks_safe (M 4) (M 16) (M 17) s a h)) M := by
  have hw := hA.wi hK.1 hs hh
  have p1 := ks_pw hK.1 (s := s) ha hw.1
  have p2 := ks_pw hK.1 (s := s) ha hw.2
  have hg : ks_can (M 4) s a → 0 ≤ ks_to (M 4) s a ∧ ks_to (M 4) s a < 288 := fun q => by
    have := ks_to_st hK.1 hs q
    have := ks_nb hK.1
    unfold ks_st at *
    omega
  refine mm_startF (ls := [(2, 12), (0, s), (0, a), (0, h)]) rfl ?_
  by_cases hcan : ks_can (M 4) s a
  · have hg := hg hcan
    refine mm_aload_n dX0_isSafe_0 rfl rfl ?_
    refine mm_getr dX0_isSafe_1 rfl fl_X0_32 (c := 11) rfl (by decide) rfl rfl (hR.at (c := 11) (i := 0) (v := 4) rfl (by decide)) ?_
    refine mm_iload_n dX0_isSafe_4 rfl rfl ?_
    refine mm_iload_n dX0_isSafe_5 rfl rfl ?_
    refine mm_V2i dX0_isSafe_6 rfl lk_X0_75 (c := 3) rfl (by decide) rfl (by simp) (by simp) rfl rfl rfl (c_X4_goal hR hK hs ha) ?_
    rw [if_pos hcan]
    refine mm_iconst dX0_isSafe_9 rfl ?_
    refine mm_iceq dX0_isSafe_10 (by omega) (by omega) (fun h10 => ?_) (fun h10 => ?_)
    · exfalso; omega
    · refine mm_aload_n dX0_isSafe_13 rfl rfl ?_
      refine mm_getr dX0_isSafe_14 rfl fl_X0_32 (c := 11) rfl (by decide) rfl rfl (hR.at (c := 11) (i := 0) (v := 4) rfl (by decide)) ?_
      refine mm_aload_n dX0_isSafe_17 rfl rfl ?_
      refine mm_iload_n dX0_isSafe_18 rfl rfl ?_
      refine mm_iload_n dX0_isSafe_19 rfl rfl ?_
      refine mm_iload_n dX0_isSafe_20 rfl rfl ?_
      refine mm_iconst dX0_isSafe_21 rfl ?_
      refine mm_V4i dX0_isSafe_22 rfl lk_X0_78 (c := 11) rfl (by decide) rfl (by simp) (by simp) (by simp) (by simp) rfl rfl rfl (c_X0_pullBy0 hR hK hA hs ha hh) ?_
      refine mm_aload_n dX0_isSafe_25 rfl rfl ?_
      refine mm_iload_n dX0_isSafe_26 rfl rfl ?_
      refine mm_iload_n dX0_isSafe_27 rfl rfl ?_
      refine mm_iload_n dX0_isSafe_28 rfl rfl ?_
      refine mm_iconst dX0_isSafe_29 rfl ?_
      refine mm_V4i dX0_isSafe_30 rfl lk_X0_78 (c := 11) rfl (by decide) rfl (by simp) (by simp) (by simp) (by simp) rfl rfl rfl (c_X0_pullBy1 hR hK hA hs ha hh) ?_
      refine mm_V2i dX0_isSafe_33 rfl lk_X0_82 (c := 3) rfl (by decide) rfl (by simp) (by simp) rfl rfl rfl (c_X4_bears hR hK (by omega) (by omega)) ?_
      refine mm_ifeqb dX0_isSafe_36 (fun h36 => ?_) (fun h36 => ?_)
      · refine mm_iconst dX0_isSafe_43 rfl ?_
        refine mm_zret dX0_isSafe_44 rfl rfl (Or.inl rfl) ?_
        exact mm_fin (by unfold mm_b; first | (rw [if_pos ⟨hcan, h36⟩]; done) | (rw [if_neg (fun q => h36 q.2)])) rfl
      · refine mm_iconst dX0_isSafe_39 rfl ?_
        refine mm_goto dX0_isSafe_40 ?_
        refine mm_zret dX0_isSafe_44 rfl rfl (Or.inr rfl) ?_
        exact mm_fin (by unfold mm_b; first | (rw [if_pos ⟨hcan, h36⟩]; done) | (rw [if_neg (fun q => h36 q.2)])) rfl
  · refine mm_aload_n dX0_isSafe_0 rfl rfl ?_
    refine mm_getr dX0_isSafe_1 rfl fl_X0_32 (c := 11) rfl (by decide) rfl rfl (hR.at (c := 11) (i := 0) (v := 4) rfl (by decide)) ?_
    refine mm_iload_n dX0_isSafe_4 rfl rfl ?_
    refine mm_iload_n dX0_isSafe_5 rfl rfl ?_
    refine mm_V2i dX0_isSafe_6 rfl lk_X0_75 (c := 3) rfl (by decide) rfl (by simp) (by simp) rfl rfl rfl (c_X4_goal hR hK hs ha) ?_
    rw [if_neg hcan]
    refine mm_iconst dX0_isSafe_9 rfl ?_
    refine mm_iceq dX0_isSafe_10 (by omega) (by omega) (fun h10 => ?_) (fun h10 => ?_)
    · refine mm_iconst dX0_isSafe_43 rfl ?_
      refine mm_zret dX0_isSafe_44 rfl rfl (Or.inl rfl) ?_
      exact mm_fin (by unfold mm_b; rw [if_neg (fun q => hcan q.1)]) rfl
    · exact absurd rfl h10
theorem c_X0_sureWork (hR : mm_Rf M) (hK : mm_CK M) (hA : mm_CA M) (hs : ks_st (M 4) s) (ha : ks_ac (M 4) a) (hh : ks_hr h) : mm_Fn X Y_X0_sureWork 243 [(2, 12), (0, s), (0, a), (0, h)] M (0, ks_sure (M 4) (M 16) (M 17) s a h) M := by
  have hw := hA.wi hK.1 hs hh
  have p1 := ks_pw hK.1 (s := s) ha hw.1
  have p2 := ks_pw hK.1 (s := s) ha hw.2
  have hd := ks_drb ha.1
  have hsl := ks_slb hK.1 ha
  refine mm_startF (ls := [(2, 12), (0, s), (0, a), (0, h), (9, 0)]) rfl ?_
  refine mm_iload_n dX0_sureWork_0 rfl rfl ?_
  refine mm_S1i dX0_sureWork_1 rfl lk_X0_86 (by simp) rfl rfl rfl (c_X4_drumOf (by omega)) ?_
  refine mm_istore dX0_sureWork_4 rfl (Nat.le_of_ble_eq_true rfl) rfl ?_
  refine mm_aload_n dX0_sureWork_6 rfl rfl ?_
  refine mm_getr dX0_sureWork_7 rfl fl_X0_32 (c := 11) rfl (by decide) rfl rfl (hR.at (c := 11) (i := 0) (v := 4) rfl (by decide)) ?_
  refine mm_iload dX0_sureWork_10 rfl rfl ?_
  refine mm_aload_n dX0_sureWork_12 rfl rfl ?_
  refine mm_iload_n dX0_sureWork_13 rfl rfl ?_
  refine mm_iload_n dX0_sureWork_14 rfl rfl ?_
  refine mm_iload_n dX0_sureWork_15 rfl rfl ?_
  refine mm_iload dX0_sureWork_16 rfl rfl ?_
  refine mm_iconst dX0_sureWork_18 rfl ?_
  refine mm_icne dX0_sureWork_19 (by omega) (by omega) (fun h19 => ?_) (fun h19 => ?_)
  · refine mm_iconst dX0_sureWork_26 rfl ?_
    refine mm_V4i dX0_sureWork_27 rfl lk_X0_78 (c := 11) rfl (by decide) rfl (by simp) (by simp) (by simp) (by simp) rfl rfl rfl (c_X0_pullBy0 hR hK hA hs ha hh) ?_
    refine mm_V2i dX0_sureWork_30 rfl lk_X0_90 (c := 3) rfl (by decide) rfl (by simp) (by simp) rfl rfl rfl (c_X4_workOf hR hK hd p1) ?_
    refine mm_iret dX0_sureWork_33 rfl rfl ?_
    exact mm_fin (by unfold ks_sure; rw [if_neg h19]) rfl
  · refine mm_iconst dX0_sureWork_22 rfl ?_
    refine mm_goto dX0_sureWork_23 ?_
    refine mm_V4i dX0_sureWork_27 rfl lk_X0_78 (c := 11) rfl (by decide) rfl (by simp) (by simp) (by simp) (by simp) rfl rfl rfl (c_X0_pullBy1 hR hK hA hs ha hh) ?_
    refine mm_V2i dX0_sureWork_30 rfl lk_X0_90 (c := 3) rfl (by decide) rfl (by simp) (by simp) rfl rfl rfl (c_X4_workOf hR hK hd p2) ?_
    refine mm_iret dX0_sureWork_33 rfl rfl ?_
    exact mm_fin (by unfold ks_sure; rw [if_pos h19]) rfl
theorem c_X0_sharedPull (hR : mm_Rf M) (hK : mm_CK M) (hA : mm_CA M) (hs : ks_st (M 4) s) (ha : ks_ac (M 4) a) (hh : ks_hr h) (hsh : 0 ≤ sh ∧ sh ≤ 20) : mm_Fn X Y_X0_sharedPull 243 [(2, 12), (0, s), (0, a), (0, h), (0, sh)] M (0, ks_p (M 4) s a (ks_wi (M 16) (M 4) s h * sh / 10)) M := by
  have hw := hA.wi hK.1 hs hh
  have hm := mm_mulb (a := ks_wi (M 16) (M 4) s h) (b := sh) (A := 60) (B := 20) hw.1.1 hw.1.2 hsh.1 hsh.2
  refine mm_startF (ls := [(2, 12), (0, s), (0, a), (0, h), (0, sh)]) rfl ?_
  refine mm_aload_n dX0_sharedPull_0 rfl rfl ?_
  refine mm_getr dX0_sharedPull_1 rfl fl_X0_32 (c := 11) rfl (by decide) rfl rfl (hR.at (c := 11) (i := 0) (v := 4) rfl (by decide)) ?_
  refine mm_iload_n dX0_sharedPull_4 rfl rfl ?_
  refine mm_iload_n dX0_sharedPull_5 rfl rfl ?_
  refine mm_aload_n dX0_sharedPull_6 rfl rfl ?_
  refine mm_iload_n dX0_sharedPull_7 rfl rfl ?_
  refine mm_iload_n dX0_sharedPull_8 rfl rfl ?_
  refine mm_iconst dX0_sharedPull_9 rfl ?_
  refine mm_V3i dX0_sharedPull_10 rfl lk_X0_67 (c := 11) rfl (by decide) rfl (by simp) (by simp) (by simp) rfl rfl rfl (c_X0_windIn0 hR hK hs hh) ?_
  refine mm_iload dX0_sharedPull_13 rfl rfl ?_
  refine mm_imul dX0_sharedPull_15 rfl ?_
  refine mm_bipush dX0_sharedPull_16 rfl (by decide) ?_
  refine mm_idiv dX0_sharedPull_18 rfl (by omega) (by omega) (by omega) ?_
  rw [mm_tdiv hm.1]
  refine mm_V3i dX0_sharedPull_19 rfl lk_X0_71 (c := 3) rfl (by decide) rfl (by simp) (by simp) (by simp) rfl rfl rfl (c_X4_pullOf hR hK hs ha (by omega)) ?_
  refine mm_iret dX0_sharedPull_22 rfl rfl ?_
  exact mm_fin rfl rfl
theorem c_X0_isAlike (hR : mm_Rf M) (hA : mm_CA M) (hh : ks_hr h) (hg : ks_hr g) : mm_Fn X Y_X0_isAlike 243 [(2, 12), (0, h), (0, g)] M (0, mm_b (∀ b : Nat, b < 5 → M 16 (ks_pl h b) = M 16 (ks_pl g b) ∧ M 17 (ks_pl h b) = M 17 (ks_pl g b))) M := by
  refine mm_startF (ls := [(2, 12), (0, h), (0, g), (9, 0), (9, 0), (9, 0)]) rfl ?_
  have loop : ∀ (k : Nat) (b : Nat) (u v : mm_V), b + k = 5 → (∀ j : Nat, j < b → M 16 (ks_pl h j) = M 16 (ks_pl g j) ∧ M 17 (ks_pl h j) = M 17 (ks_pl g j)) →
      mm_J X Y_X0_isAlike 243 243 243 2 [(2, 12), (0, h), (0, g), (0, (b : Int)), u, v] [] M (fun r' M'' => r' = (0, mm_b (∀ b : Nat, b < 5 → M 16 (ks_pl h b) = M 16 (ks_pl g b) ∧ M 17 (ks_pl h b) = M 17 (ks_pl g b))) ∧ M'' = M) := by
    intro k
    induction k with
    | zero =>
      intro b u v hb hj
      refine mm_iload_n dX0_isAlike_2 rfl rfl ?_
      refine mm_iconst dX0_isAlike_3 rfl ?_
      refine mm_icge dX0_isAlike_4 (by omega) (by omega) (fun h4 => ?_) (fun h4 => ?_)
      · refine mm_iconst dX0_isAlike_63 rfl ?_
        refine mm_zret dX0_isAlike_64 rfl rfl (Or.inr rfl) ?_
        exact mm_fin (by rw [mm_b_t (fun j hj' => hj j (by omega))]) rfl
      · exfalso; omega
    | succ k ih =>
      intro b u v hb hj
      have q1 := hA _ (ks_plb hh (b := (b : Int)) (by omega))
      have q2 := hA _ (ks_plb hg (b := (b : Int)) (by omega))
      refine mm_iload_n dX0_isAlike_2 rfl rfl ?_
      refine mm_iconst dX0_isAlike_3 rfl ?_
      refine mm_icge dX0_isAlike_4 (by (first | omega | (unfold ks_pl; omega))) (by (first | omega | (unfold ks_pl; omega))) (fun h4 => ?_) (fun h4 => ?_)
      · exfalso; omega
      · refine mm_iload_n dX0_isAlike_7 rfl rfl ?_
        refine mm_iload_n dX0_isAlike_8 rfl rfl ?_
        refine mm_S2i dX0_isAlike_9 rfl lk_X0_48 (by simp) (by simp) rfl rfl rfl (c_X0_placeOf) ?_
        refine mm_istore dX0_isAlike_12 rfl (Nat.le_of_ble_eq_true rfl) rfl ?_
        refine mm_iload_n dX0_isAlike_14 rfl rfl ?_
        refine mm_iload_n dX0_isAlike_15 rfl rfl ?_
        refine mm_S2i dX0_isAlike_16 rfl lk_X0_48 (by simp) (by simp) rfl rfl rfl (c_X0_placeOf) ?_
        refine mm_istore dX0_isAlike_19 rfl (Nat.le_of_ble_eq_true rfl) rfl ?_
        refine mm_aload_n dX0_isAlike_21 rfl rfl ?_
        refine mm_getr dX0_isAlike_22 rfl fl_X0_26 (c := 11) rfl (by decide) rfl rfl (hR.at (c := 11) (i := 7) (v := 17) rfl (by decide)) ?_
        refine mm_iload dX0_isAlike_25 rfl rfl ?_
        refine mm_ialk (k0 := ks_pl h b) dX0_isAlike_27 rfl (c := 16) rfl (by decide) rfl (by (first | omega | (unfold ks_pl; omega))) (by (first | omega | (unfold ks_pl; omega))) ?_
        refine mm_aload_n dX0_isAlike_28 rfl rfl ?_
        refine mm_getr dX0_isAlike_29 rfl fl_X0_26 (c := 11) rfl (by decide) rfl rfl (hR.at (c := 11) (i := 7) (v := 17) rfl (by decide)) ?_
        refine mm_iload dX0_isAlike_32 rfl rfl ?_
        refine mm_ialk (k0 := ks_pl g b) dX0_isAlike_34 rfl (c := 16) rfl (by decide) rfl (by (first | omega | (unfold ks_pl; omega))) (by (first | omega | (unfold ks_pl; omega))) ?_
        refine mm_icne dX0_isAlike_35 (by (first | omega | (unfold ks_pl; omega))) (by (first | omega | (unfold ks_pl; omega))) (fun h35 => ?_) (fun h35 => ?_)
        · refine mm_iconst dX0_isAlike_55 rfl ?_
          refine mm_zret dX0_isAlike_56 rfl rfl (Or.inl rfl) ?_
          exact mm_fin (by rw [mm_b_f]; intro q; have := q b (by omega); omega) rfl
        · refine mm_aload_n dX0_isAlike_38 rfl rfl ?_
          refine mm_getr dX0_isAlike_39 rfl fl_X0_29 (c := 11) rfl (by decide) rfl rfl (hR.at (c := 11) (i := 8) (v := 18) rfl (by decide)) ?_
          refine mm_iload dX0_isAlike_42 rfl rfl ?_
          refine mm_ialk (k0 := ks_pl h b) dX0_isAlike_44 rfl (c := 17) rfl (by decide) rfl (by (first | omega | (unfold ks_pl; omega))) (by (first | omega | (unfold ks_pl; omega))) ?_
          refine mm_aload_n dX0_isAlike_45 rfl rfl ?_
          refine mm_getr dX0_isAlike_46 rfl fl_X0_29 (c := 11) rfl (by decide) rfl rfl (hR.at (c := 11) (i := 8) (v := 18) rfl (by decide)) ?_
          refine mm_iload dX0_isAlike_49 rfl rfl ?_
          refine mm_ialk (k0 := ks_pl g b) dX0_isAlike_51 rfl (c := 17) rfl (by decide) rfl (by (first | omega | (unfold ks_pl; omega))) (by (first | omega | (unfold ks_pl; omega))) ?_
          refine mm_iceq dX0_isAlike_52 (by (first | omega | (unfold ks_pl; omega))) (by (first | omega | (unfold ks_pl; omega))) (fun h52 => ?_) (fun h52 => ?_)
          · refine mm_iinc dX0_isAlike_57 rfl rfl (Nat.le_of_ble_eq_true rfl) rfl ?_
            refine mm_goto dX0_isAlike_60 ?_
            exact ih (b + 1) _ _ (by omega) (fun j hj' => by
            rcases Nat.lt_or_ge j b with z | z
            · exact hj j z
            · have : j = b := by omega
              subst this
              exact ⟨h35, h52⟩)
          · refine mm_iconst dX0_isAlike_55 rfl ?_
            refine mm_zret dX0_isAlike_56 rfl rfl (Or.inl rfl) ?_
            exact mm_fin (by rw [mm_b_f]; intro q; have := q b (by omega); omega) rfl
  refine mm_iconst dX0_isAlike_0 rfl ?_
  refine mm_istore_n dX0_isAlike_1 rfl (Nat.le_of_ble_eq_true rfl) rfl ?_
  exact loop 5 0 _ _ rfl (fun j hj => absurd hj (Nat.not_lt_zero j))
end
end
/-! 40.ref -/
section
/-! ===== KitePowerModel: states and acts ===== -/
/-- the reference's kite as numbers -/
def mm_rk (M : mm_M) : Nat → Int := fun i => if i < 10 then M 186 i else if i < 20 then M 183 16 else if i < 30 then M 188 (i - 20) else M 190 (i - 30)
theorem mm_rk_r (M : mm_M) {i : Nat} (h : i < 10) : mm_rk M i = M 186 i := if_pos h
theorem mm_rk_n (M : mm_M) : mm_rk M 10 = M 183 16 := rfl
theorem mm_rk_l (M : mm_M) {i : Nat} (h : i < 3) : mm_rk M (20 + i) = M 188 i := by
  unfold mm_rk
  rw [if_neg (by omega), if_neg (by omega), if_pos (by omega)]
  congr 1
  omega
theorem mm_rk_w (M : mm_M) {i : Nat} : mm_rk M (30 + i) = M 190 i := by
  unfold mm_rk
  rw [if_neg (by omega), if_neg (by omega), if_neg (by omega)]
  congr 1
  omega
def mm_RA (M : mm_M) : Prop := ∀ p, p < 120 → 0 ≤ M 203 p ∧ M 203 p ≤ M 204 p ∧ M 204 p ≤ 60
section
variable {X : mm_X} {M : mm_M} {s a m w d p h sh x y z : Int}
theorem c_X13_in (hx : mm_RL x) (hy : mm_RL y) (hz : mm_RL z) : mm_Fn X Y_X13_in 243 [(1, x), (1, y), (1, z)] M (0, mm_b (y ≤ x ∧ x ≤ z)) M := by
  refine mm_startF (ls := [(1, x), (9, 0), (1, y), (9, 0), (1, z), (9, 0)]) rfl ?_
  refine mm_lload_n dX13_in_0 rfl rfl ?_
  refine mm_lload_n dX13_in_1 rfl rfl ?_
  refine mm_lcmp dX13_in_2 rfl (by omega) (by omega) ?_
  refine mm_ifltc dX13_in_3 (fun h3 => ?_) (fun h3 => ?_)
  · refine mm_iconst dX13_in_17 rfl ?_
    refine mm_zret dX13_in_18 rfl rfl (Or.inl rfl) ?_
    exact mm_fin (by unfold mm_b; split <;> omega) rfl
  · refine mm_lload_n dX13_in_6 rfl rfl ?_
    refine mm_lload dX13_in_7 rfl rfl ?_
    refine mm_lcmp dX13_in_9 rfl (by omega) (by omega) ?_
    refine mm_ifgtc dX13_in_10 (fun h10 => ?_) (fun h10 => ?_)
    · refine mm_iconst dX13_in_17 rfl ?_
      refine mm_zret dX13_in_18 rfl rfl (Or.inl rfl) ?_
      exact mm_fin (by unfold mm_b; split <;> omega) rfl
    · refine mm_iconst dX13_in_13 rfl ?_
      refine mm_goto dX13_in_14 ?_
      refine mm_zret dX13_in_18 rfl rfl (Or.inr rfl) ?_
      exact mm_fin (by unfold mm_b; split <;> omega) rfl
theorem c_X13_isHour (hx : mm_R x) : mm_Fn X Y_X13_isHour 243 [(0, x)] M (0, mm_b (ks_hr x)) M := by
  refine mm_startF (ls := [(0, x)]) rfl ?_
  refine mm_iload_n dX13_isHour_0 rfl rfl ?_
  refine mm_i2l dX13_isHour_1 rfl (by omega) ?_
  refine mm_lconst0 dX13_isHour_2 rfl ?_
  refine mm_ldc2 dX13_isHour_3 rfl kc_X13_3 ?_
  refine mm_S3i dX13_isHour_6 rfl lk_X13_5 (by simp) (by simp) (by simp) rfl rfl rfl (c_X13_in (by omega) (by decide) (by omega)) ?_
  refine mm_zret dX13_isHour_9 rfl rfl (mm_b_01 _) ?_
  exact mm_fin rfl rfl
theorem c_X13_states (hR : mm_Rf M) : mm_Fn X Y_X13_states 243 [(2, 184)] M (0, ks_n (mm_rk M)) M := by
  refine mm_startF (ls := [(2, 184)]) rfl ?_
  refine mm_aload_n dX13_states_0 rfl rfl ?_
  refine mm_getr dX13_states_1 rfl fl_X13_151 (c := 183) rfl (by decide) rfl rfl (hR.at (c := 183) (i := 10) (v := 187) rfl (by decide)) ?_
  refine mm_iconst dX13_states_4 rfl ?_
  refine mm_ialk (k0 := 0) dX13_states_5 rfl (c := 186) rfl (by decide) rfl rfl (by decide) ?_
  refine mm_aload_n dX13_states_6 rfl rfl ?_
  refine mm_getr dX13_states_7 rfl fl_X13_151 (c := 183) rfl (by decide) rfl rfl (hR.at (c := 183) (i := 10) (v := 187) rfl (by decide)) ?_
  refine mm_iconst dX13_states_10 rfl ?_
  refine mm_ialk (k0 := 1) dX13_states_11 rfl (c := 186) rfl (by decide) rfl rfl (by decide) ?_
  refine mm_imul dX13_states_12 rfl ?_
  refine mm_aload_n dX13_states_13 rfl rfl ?_
  refine mm_getr dX13_states_14 rfl fl_X13_151 (c := 183) rfl (by decide) rfl rfl (hR.at (c := 183) (i := 10) (v := 187) rfl (by decide)) ?_
  refine mm_iconst dX13_states_17 rfl ?_
  refine mm_ialk (k0 := 2) dX13_states_18 rfl (c := 186) rfl (by decide) rfl rfl (by decide) ?_
  refine mm_imul dX13_states_19 rfl ?_
  refine mm_iret dX13_states_20 rfl rfl ?_
  exact mm_fin rfl rfl
theorem c_X13_columnOf (hR : mm_Rf M) (hK : mm_KV (mm_rk M)) (hs : ks_st (mm_rk M) s) : mm_Fn X Y_X13_columnOf 243 [(2, 184), (0, s)] M (0, ks_col (mm_rk M) s) M := by
  have h0 : 2 ≤ M 186 0 ∧ M 186 0 ≤ 6 := hK.1
  have hn := ks_nb hK
  have := hs.1
  have := hs.2
  refine mm_startF (ls := [(2, 184), (0, s)]) rfl ?_
  refine mm_iload_n dX13_columnOf_0 rfl rfl ?_
  refine mm_aload_n dX13_columnOf_1 rfl rfl ?_
  refine mm_getr dX13_columnOf_2 rfl fl_X13_151 (c := 183) rfl (by decide) rfl rfl (hR.at (c := 183) (i := 10) (v := 187) rfl (by decide)) ?_
  refine mm_iconst dX13_columnOf_5 rfl ?_
  refine mm_ialk (k0 := 0) dX13_columnOf_6 rfl (c := 186) rfl (by decide) rfl rfl (by decide) ?_
  refine mm_irem dX13_columnOf_7 rfl (by omega) (by omega) (by omega) ?_
  refine mm_iret dX13_columnOf_8 rfl rfl ?_
  exact mm_fin (by rw [mm_tmod hs.1]; rfl) rfl
theorem c_X13_rowOf (hR : mm_Rf M) (hK : mm_KV (mm_rk M)) (hs : ks_st (mm_rk M) s) : mm_Fn X Y_X13_rowOf 243 [(2, 184), (0, s)] M (0, ks_row (mm_rk M) s) M := by
  have h0 : 2 ≤ M 186 0 ∧ M 186 0 ≤ 6 := hK.1
  have h1 : 2 ≤ M 186 1 ∧ M 186 1 ≤ 6 := hK.2.1
  have hn := ks_nb hK
  have := hs.1
  have := hs.2
  have hd := mm_divb (a := s) (b := M 186 0) (A := 288) (by omega) (by omega) (by omega)
  refine mm_startF (ls := [(2, 184), (0, s)]) rfl ?_
  refine mm_iload_n dX13_rowOf_0 rfl rfl ?_
  refine mm_aload_n dX13_rowOf_1 rfl rfl ?_
  refine mm_getr dX13_rowOf_2 rfl fl_X13_151 (c := 183) rfl (by decide) rfl rfl (hR.at (c := 183) (i := 10) (v := 187) rfl (by decide)) ?_
  refine mm_iconst dX13_rowOf_5 rfl ?_
  refine mm_ialk (k0 := 0) dX13_rowOf_6 rfl (c := 186) rfl (by decide) rfl rfl (by decide) ?_
  refine mm_idiv dX13_rowOf_7 rfl (by omega) (by omega) (by omega) ?_
  rw [mm_tdiv hs.1]
  refine mm_aload_n dX13_rowOf_8 rfl rfl ?_
  refine mm_getr dX13_rowOf_9 rfl fl_X13_151 (c := 183) rfl (by decide) rfl rfl (hR.at (c := 183) (i := 10) (v := 187) rfl (by decide)) ?_
  refine mm_iconst dX13_rowOf_12 rfl ?_
  refine mm_ialk (k0 := 1) dX13_rowOf_13 rfl (c := 186) rfl (by decide) rfl rfl (by decide) ?_
  refine mm_irem dX13_rowOf_14 rfl (by omega) (by omega) (by omega) ?_
  refine mm_iret dX13_rowOf_15 rfl rfl ?_
  exact mm_fin (by rw [mm_tmod hd.1]; rfl) rfl
theorem c_X13_ropeOf (hR : mm_Rf M) (hK : mm_KV (mm_rk M)) (hs : ks_st (mm_rk M) s) : mm_Fn X Y_X13_ropeOf 243 [(2, 184), (0, s)] M (0, ks_rope (mm_rk M) s) M := by
  have h0 : 2 ≤ M 186 0 ∧ M 186 0 ≤ 6 := hK.1
  have h1 : 2 ≤ M 186 1 ∧ M 186 1 ≤ 6 := hK.2.1
  have hn := ks_nb hK
  have := hs.1
  have := hs.2
  have hd := mm_divb (a := s) (b := M 186 0) (A := 288) (by omega) (by omega) (by omega)
  refine mm_startF (ls := [(2, 184), (0, s)]) rfl ?_
  refine mm_iload_n dX13_ropeOf_0 rfl rfl ?_
  refine mm_aload_n dX13_ropeOf_1 rfl rfl ?_
  refine mm_getr dX13_ropeOf_2 rfl fl_X13_151 (c := 183) rfl (by decide) rfl rfl (hR.at (c := 183) (i := 10) (v := 187) rfl (by decide)) ?_
  refine mm_iconst dX13_ropeOf_5 rfl ?_
  refine mm_ialk (k0 := 0) dX13_ropeOf_6 rfl (c := 186) rfl (by decide) rfl rfl (by decide) ?_
  refine mm_idiv dX13_ropeOf_7 rfl (by omega) (by omega) (by omega) ?_
  rw [mm_tdiv hs.1]
  refine mm_aload_n dX13_ropeOf_8 rfl rfl ?_
  refine mm_getr dX13_ropeOf_9 rfl fl_X13_151 (c := 183) rfl (by decide) rfl rfl (hR.at (c := 183) (i := 10) (v := 187) rfl (by decide)) ?_
  refine mm_iconst dX13_ropeOf_12 rfl ?_
  refine mm_ialk (k0 := 1) dX13_ropeOf_13 rfl (c := 186) rfl (by decide) rfl rfl (by decide) ?_
  refine mm_idiv dX13_ropeOf_14 rfl (by omega) (by omega) (by omega) ?_
  refine mm_iret dX13_ropeOf_15 rfl rfl ?_
  exact mm_fin (by rw [mm_tdiv hd.1]; rfl) rfl
theorem c_X13_heightOf (hR : mm_Rf M) (hK : mm_KV (mm_rk M)) (hs : ks_st (mm_rk M) s) : mm_Fn X Y_X13_heightOf 243 [(2, 184), (0, s)] M (0, ks_h (mm_rk M) s) M := by
  have h1 : 2 ≤ M 186 1 ∧ M 186 1 ≤ 6 := hK.2.1
  have e3 : M 186 3 = mm_rk M 3 := rfl
  have hh := ks_hb hK hs
  refine mm_startF (ls := [(2, 184), (0, s)]) rfl ?_
  refine mm_aload_n dX13_heightOf_0 rfl rfl ?_
  refine mm_getr dX13_heightOf_1 rfl fl_X13_151 (c := 183) rfl (by decide) rfl rfl (hR.at (c := 183) (i := 10) (v := 187) rfl (by decide)) ?_
  refine mm_iconst dX13_heightOf_4 rfl ?_
  refine mm_ialk (k0 := 3) dX13_heightOf_5 rfl (c := 186) rfl (by decide) rfl rfl (by decide) ?_
  refine mm_aload_n dX13_heightOf_6 rfl rfl ?_
  refine mm_iload_n dX13_heightOf_7 rfl rfl ?_
  refine mm_V1i dX13_heightOf_8 rfl lk_X13_429 (c := 183) rfl (by decide) rfl (by simp) rfl rfl rfl (c_X13_ropeOf hR hK hs) ?_
  refine mm_iconst dX13_heightOf_11 rfl ?_
  refine mm_iadd dX13_heightOf_12 rfl ?_
  refine mm_imul dX13_heightOf_13 rfl ?_
  refine mm_aload_n dX13_heightOf_14 rfl rfl ?_
  refine mm_iload_n dX13_heightOf_15 rfl rfl ?_
  refine mm_V1i dX13_heightOf_16 rfl lk_X13_432 (c := 183) rfl (by decide) rfl (by simp) rfl rfl rfl (c_X13_rowOf hR hK hs) ?_
  refine mm_iconst dX13_heightOf_19 rfl ?_
  refine mm_iadd dX13_heightOf_20 rfl ?_
  refine mm_imul dX13_heightOf_21 rfl ?_
  rw [e3]
  refine mm_aload_n dX13_heightOf_22 rfl rfl ?_
  refine mm_getr dX13_heightOf_23 rfl fl_X13_151 (c := 183) rfl (by decide) rfl rfl (hR.at (c := 183) (i := 10) (v := 187) rfl (by decide)) ?_
  refine mm_iconst dX13_heightOf_26 rfl ?_
  refine mm_ialk (k0 := 1) dX13_heightOf_27 rfl (c := 186) rfl (by decide) rfl rfl (by decide) ?_
  refine mm_idiv dX13_heightOf_28 rfl (by omega) (by omega) (by omega) ?_
  refine mm_iret dX13_heightOf_29 rfl rfl ?_
  exact mm_fin (by rw [mm_tdiv hh.2.2.2.2.1]; rfl) rfl
theorem c_X13_bandOf (hR : mm_Rf M) (hK : mm_KV (mm_rk M)) (hs : ks_st (mm_rk M) s) : mm_Fn X Y_X13_bandOf 243 [(2, 184), (0, s)] M (0, ks_band (mm_rk M) s) M := by
  have hh := ks_hb hK hs
  refine mm_startF (ls := [(2, 184), (0, s)]) rfl ?_
  refine mm_iconst dX13_bandOf_0 rfl ?_
  refine mm_aload_n dX13_bandOf_1 rfl rfl ?_
  refine mm_iload_n dX13_bandOf_2 rfl rfl ?_
  refine mm_V1i dX13_bandOf_3 rfl lk_X13_435 (c := 183) rfl (by decide) rfl (by simp) rfl rfl rfl (c_X13_heightOf hR hK hs) ?_
  refine mm_bipush dX13_bandOf_6 rfl (by decide) ?_
  refine mm_idiv dX13_bandOf_8 rfl (by omega) (by omega) (by omega) ?_
  rw [mm_tdiv hh.1]
  refine mm_min dX13_bandOf_9 rfl lm_X13_161 rfl rfl (by simp) (by omega) (by omega) ?_
  refine mm_iret dX13_bandOf_12 rfl rfl ?_
  exact mm_fin rfl rfl
theorem c_X13_acts (hR : mm_Rf M) : mm_Fn X Y_X13_acts 243 [(2, 184)] M (0, 15 * mm_rk M 10) M := by
  refine mm_startF (ls := [(2, 184)]) rfl ?_
  refine mm_bipush dX13_acts_0 rfl (by decide) ?_
  refine mm_aload_n dX13_acts_2 rfl rfl ?_
  refine mm_get (kd := 0) dX13_acts_3 rfl fl_X13_154 (c := 183) rfl (by decide) rfl rfl ?_
  refine mm_imul dX13_acts_6 rfl ?_
  refine mm_iret dX13_acts_7 rfl rfl ?_
  exact mm_fin rfl rfl
theorem c_X13_moveOf (ha : 0 ≤ a ∧ a < 1000) : mm_Fn X Y_X13_moveOf 243 [(0, a)] M (0, ks_mv a) M := by
  refine mm_startF (ls := [(0, a)]) rfl ?_
  refine mm_iload_n dX13_moveOf_0 rfl rfl ?_
  refine mm_iconst dX13_moveOf_1 rfl ?_
  refine mm_idiv dX13_moveOf_2 rfl (by omega) (by omega) (by omega) ?_
  refine mm_iconst dX13_moveOf_3 rfl ?_
  refine mm_irem dX13_moveOf_4 rfl (by rw [mm_tdiv ha.1]; omega) (by omega) (by omega) ?_
  refine mm_iret dX13_moveOf_5 rfl rfl ?_
  exact mm_fin (by rw [mm_tdiv ha.1, mm_tmod (by omega)]; rfl) rfl
theorem c_X13_drumOf (ha : 0 ≤ a ∧ a < 1000) : mm_Fn X Y_X13_drumOf 243 [(0, a)] M (0, ks_dr a) M := by
  refine mm_startF (ls := [(0, a)]) rfl ?_
  refine mm_iload_n dX13_drumOf_0 rfl rfl ?_
  refine mm_iconst dX13_drumOf_1 rfl ?_
  refine mm_irem dX13_drumOf_2 rfl (by omega) (by omega) (by omega) ?_
  refine mm_iret dX13_drumOf_3 rfl rfl ?_
  exact mm_fin (by rw [mm_tmod ha.1]; rfl) rfl
theorem c_X13_canMove (hR : mm_Rf M) (hK : mm_KV (mm_rk M)) (hs : ks_st (mm_rk M) s) (hm : 0 ≤ m ∧ m ≤ 4) : mm_Fn X Y_X13_canMove 243 [(2, 184), (0, s), (0, m)] M (0, mm_b (ks_cm (mm_rk M) s m)) M := by
  have h0 : 2 ≤ M 186 0 ∧ M 186 0 ≤ 6 := hK.1
  have h1 : 2 ≤ M 186 1 ∧ M 186 1 ≤ 6 := hK.2.1
  have e0 : mm_rk M 0 = M 186 0 := rfl
  have e1 : mm_rk M 1 = M 186 1 := rfl
  have hc := ks_colb hK s
  have hr := ks_rowb hK s
  refine mm_startF (ls := [(2, 184), (0, s), (0, m), (9, 0), (9, 0)]) rfl ?_
  refine mm_aload_n dX13_canMove_0 rfl rfl ?_
  refine mm_iload_n dX13_canMove_1 rfl rfl ?_
  refine mm_V1i dX13_canMove_2 rfl lk_X13_438 (c := 183) rfl (by decide) rfl (by simp) rfl rfl rfl (c_X13_columnOf hR hK hs) ?_
  refine mm_istore_n dX13_canMove_5 rfl (Nat.le_of_ble_eq_true rfl) rfl ?_
  refine mm_aload_n dX13_canMove_6 rfl rfl ?_
  refine mm_iload_n dX13_canMove_7 rfl rfl ?_
  refine mm_V1i dX13_canMove_8 rfl lk_X13_432 (c := 183) rfl (by decide) rfl (by simp) rfl rfl rfl (c_X13_rowOf hR hK hs) ?_
  refine mm_istore dX13_canMove_11 rfl (Nat.le_of_ble_eq_true rfl) rfl ?_
  refine mm_iload_n dX13_canMove_13 rfl rfl ?_
  refine mm_ifeq dX13_canMove_14 (by omega) (fun h14 => ?_) (fun h14 => ?_)
  · refine mm_iconst dX13_canMove_75 rfl ?_
    refine mm_goto dX13_canMove_76 ?_
    refine mm_zret dX13_canMove_80 rfl rfl (Or.inr rfl) ?_
    exact mm_fin (by unfold mm_b ks_cm; split <;> omega) rfl
  · refine mm_iload_n dX13_canMove_17 rfl rfl ?_
    refine mm_iconst dX13_canMove_18 rfl ?_
    refine mm_icne dX13_canMove_19 (by omega) (by omega) (fun h19 => ?_) (fun h19 => ?_)
    · refine mm_iload_n dX13_canMove_29 rfl rfl ?_
      refine mm_iconst dX13_canMove_30 rfl ?_
      refine mm_icne dX13_canMove_31 (by omega) (by omega) (fun h31 => ?_) (fun h31 => ?_)
      · refine mm_iload_n dX13_canMove_49 rfl rfl ?_
        refine mm_iconst dX13_canMove_50 rfl ?_
        refine mm_icne dX13_canMove_51 (by omega) (by omega) (fun h51 => ?_) (fun h51 => ?_)
        · refine mm_iload dX13_canMove_70 rfl rfl ?_
          refine mm_ifle dX13_canMove_72 (by omega) (fun h72 => ?_) (fun h72 => ?_)
          · refine mm_iconst dX13_canMove_79 rfl ?_
            refine mm_zret dX13_canMove_80 rfl rfl (Or.inl rfl) ?_
            exact mm_fin (by unfold mm_b ks_cm; split <;> omega) rfl
          · refine mm_iconst dX13_canMove_75 rfl ?_
            refine mm_goto dX13_canMove_76 ?_
            refine mm_zret dX13_canMove_80 rfl rfl (Or.inr rfl) ?_
            exact mm_fin (by unfold mm_b ks_cm; split <;> omega) rfl
        · refine mm_iload dX13_canMove_54 rfl rfl ?_
          refine mm_iconst dX13_canMove_56 rfl ?_
          refine mm_iadd dX13_canMove_57 rfl ?_
          refine mm_aload_n dX13_canMove_58 rfl rfl ?_
          refine mm_getr dX13_canMove_59 rfl fl_X13_151 (c := 183) rfl (by decide) rfl rfl (hR.at (c := 183) (i := 10) (v := 187) rfl (by decide)) ?_
          refine mm_iconst dX13_canMove_62 rfl ?_
          refine mm_ialk (k0 := 1) dX13_canMove_63 rfl (c := 186) rfl (by decide) rfl rfl (by decide) ?_
          refine mm_icge dX13_canMove_64 (by omega) (by omega) (fun h64 => ?_) (fun h64 => ?_)
          · refine mm_iconst dX13_canMove_79 rfl ?_
            refine mm_zret dX13_canMove_80 rfl rfl (Or.inl rfl) ?_
            exact mm_fin (by unfold mm_b ks_cm; split <;> omega) rfl
          · refine mm_goto dX13_canMove_67 ?_
            refine mm_iconst dX13_canMove_75 rfl ?_
            refine mm_goto dX13_canMove_76 ?_
            refine mm_zret dX13_canMove_80 rfl rfl (Or.inr rfl) ?_
            exact mm_fin (by unfold mm_b ks_cm; split <;> omega) rfl
      · refine mm_iload_n dX13_canMove_34 rfl rfl ?_
        refine mm_iconst dX13_canMove_35 rfl ?_
        refine mm_iadd dX13_canMove_36 rfl ?_
        refine mm_aload_n dX13_canMove_37 rfl rfl ?_
        refine mm_getr dX13_canMove_38 rfl fl_X13_151 (c := 183) rfl (by decide) rfl rfl (hR.at (c := 183) (i := 10) (v := 187) rfl (by decide)) ?_
        refine mm_iconst dX13_canMove_41 rfl ?_
        refine mm_ialk (k0 := 0) dX13_canMove_42 rfl (c := 186) rfl (by decide) rfl rfl (by decide) ?_
        refine mm_icge dX13_canMove_43 (by omega) (by omega) (fun h43 => ?_) (fun h43 => ?_)
        · refine mm_iconst dX13_canMove_79 rfl ?_
          refine mm_zret dX13_canMove_80 rfl rfl (Or.inl rfl) ?_
          exact mm_fin (by unfold mm_b ks_cm; split <;> omega) rfl
        · refine mm_goto dX13_canMove_46 ?_
          refine mm_iconst dX13_canMove_75 rfl ?_
          refine mm_goto dX13_canMove_76 ?_
          refine mm_zret dX13_canMove_80 rfl rfl (Or.inr rfl) ?_
          exact mm_fin (by unfold mm_b ks_cm; split <;> omega) rfl
    · refine mm_iload_n dX13_canMove_22 rfl rfl ?_
      refine mm_ifle dX13_canMove_23 (by omega) (fun h23 => ?_) (fun h23 => ?_)
      · refine mm_iconst dX13_canMove_79 rfl ?_
        refine mm_zret dX13_canMove_80 rfl rfl (Or.inl rfl) ?_
        exact mm_fin (by unfold mm_b ks_cm; split <;> omega) rfl
      · refine mm_goto dX13_canMove_26 ?_
        refine mm_iconst dX13_canMove_75 rfl ?_
        refine mm_goto dX13_canMove_76 ?_
        refine mm_zret dX13_canMove_80 rfl rfl (Or.inr rfl) ?_
        exact mm_fin (by unfold mm_b ks_cm; split <;> omega) rfl
theorem c_X13_canReel (hR : mm_Rf M) (hK : mm_KV (mm_rk M)) (hs : ks_st (mm_rk M) s) (hd : 0 ≤ d ∧ d ≤ 2) : mm_Fn X Y_X13_canReel 243 [(2, 184), (0, s), (0, d)] M (0, mm_b (ks_cr (mm_rk M) s d)) M := by
  have h2 : 2 ≤ M 186 2 ∧ M 186 2 ≤ 8 := hK.2.2.1
  have e2 : mm_rk M 2 = M 186 2 := rfl
  have hc := ks_ropeb hK hs
  refine mm_startF (ls := [(2, 184), (0, s), (0, d)]) rfl ?_
  refine mm_iload_n dX13_canReel_0 rfl rfl ?_
  refine mm_ifeq dX13_canReel_1 (by omega) (fun h1 => ?_) (fun h1 => ?_)
  · refine mm_iconst dX13_canReel_36 rfl ?_
    refine mm_goto dX13_canReel_37 ?_
    refine mm_zret dX13_canReel_41 rfl rfl (Or.inr rfl) ?_
    exact mm_fin (by unfold mm_b ks_cr; split <;> omega) rfl
  · refine mm_iload_n dX13_canReel_4 rfl rfl ?_
    refine mm_iconst dX13_canReel_5 rfl ?_
    refine mm_icne dX13_canReel_6 (by omega) (by omega) (fun h6 => ?_) (fun h6 => ?_)
    · refine mm_aload_n dX13_canReel_28 rfl rfl ?_
      refine mm_iload_n dX13_canReel_29 rfl rfl ?_
      refine mm_V1i dX13_canReel_30 rfl lk_X13_429 (c := 183) rfl (by decide) rfl (by simp) rfl rfl rfl (c_X13_ropeOf hR hK hs) ?_
      refine mm_ifle dX13_canReel_33 (by omega) (fun h33 => ?_) (fun h33 => ?_)
      · refine mm_iconst dX13_canReel_40 rfl ?_
        refine mm_zret dX13_canReel_41 rfl rfl (Or.inl rfl) ?_
        exact mm_fin (by unfold mm_b ks_cr; split <;> omega) rfl
      · refine mm_iconst dX13_canReel_36 rfl ?_
        refine mm_goto dX13_canReel_37 ?_
        refine mm_zret dX13_canReel_41 rfl rfl (Or.inr rfl) ?_
        exact mm_fin (by unfold mm_b ks_cr; split <;> omega) rfl
    · refine mm_aload_n dX13_canReel_9 rfl rfl ?_
      refine mm_iload_n dX13_canReel_10 rfl rfl ?_
      refine mm_V1i dX13_canReel_11 rfl lk_X13_429 (c := 183) rfl (by decide) rfl (by simp) rfl rfl rfl (c_X13_ropeOf hR hK hs) ?_
      refine mm_iconst dX13_canReel_14 rfl ?_
      refine mm_iadd dX13_canReel_15 rfl ?_
      refine mm_aload_n dX13_canReel_16 rfl rfl ?_
      refine mm_getr dX13_canReel_17 rfl fl_X13_151 (c := 183) rfl (by decide) rfl rfl (hR.at (c := 183) (i := 10) (v := 187) rfl (by decide)) ?_
      refine mm_iconst dX13_canReel_20 rfl ?_
      refine mm_ialk (k0 := 2) dX13_canReel_21 rfl (c := 186) rfl (by decide) rfl rfl (by decide) ?_
      refine mm_icge dX13_canReel_22 (by omega) (by omega) (fun h22 => ?_) (fun h22 => ?_)
      · refine mm_iconst dX13_canReel_40 rfl ?_
        refine mm_zret dX13_canReel_41 rfl rfl (Or.inl rfl) ?_
        exact mm_fin (by unfold mm_b ks_cr; split <;> omega) rfl
      · refine mm_goto dX13_canReel_25 ?_
        refine mm_iconst dX13_canReel_36 rfl ?_
        refine mm_goto dX13_canReel_37 ?_
        refine mm_zret dX13_canReel_41 rfl rfl (Or.inr rfl) ?_
        exact mm_fin (by unfold mm_b ks_cr; split <;> omega) rfl
theorem c_X13_canDo (hR : mm_Rf M) (hK : mm_KV (mm_rk M)) (hs : ks_st (mm_rk M) s) (ha : 0 ≤ a ∧ a < 1000) : mm_Fn X Y_X13_canDo 243 [(2, 184), (0, s), (0, a)] M (0, mm_b (ks_can (mm_rk M) s a)) M := by
  refine mm_startF (ls := [(2, 184), (0, s), (0, a)]) rfl ?_
  refine mm_aload_n dX13_canDo_0 rfl rfl ?_
  refine mm_iload_n dX13_canDo_1 rfl rfl ?_
  refine mm_iload_n dX13_canDo_2 rfl rfl ?_
  refine mm_S1i dX13_canDo_3 rfl lk_X13_441 (by simp) rfl rfl rfl (c_X13_moveOf ha) ?_
  refine mm_V2i dX13_canDo_6 rfl lk_X13_444 (c := 183) rfl (by decide) rfl (by simp) (by simp) rfl rfl rfl (c_X13_canMove hR hK hs (ks_mvb ha.1)) ?_
  refine mm_ifeqb dX13_canDo_9 (fun h9 => ?_) (fun h9 => ?_)
  · refine mm_iconst dX13_canDo_28 rfl ?_
    refine mm_zret dX13_canDo_29 rfl rfl (Or.inl rfl) ?_
    first
    | exact mm_fin (mm_b1 ⟨h9, h21⟩) rfl
    | exact mm_fin (mm_b0 (fun q => h9 q.1)) rfl
    | exact mm_fin (mm_b0 (fun q => h21 q.2)) rfl
  · refine mm_aload_n dX13_canDo_12 rfl rfl ?_
    refine mm_iload_n dX13_canDo_13 rfl rfl ?_
    refine mm_iload_n dX13_canDo_14 rfl rfl ?_
    refine mm_S1i dX13_canDo_15 rfl lk_X13_448 (by simp) rfl rfl rfl (c_X13_drumOf ha) ?_
    refine mm_V2i dX13_canDo_18 rfl lk_X13_451 (c := 183) rfl (by decide) rfl (by simp) (by simp) rfl rfl rfl (c_X13_canReel hR hK hs (ks_drb ha.1)) ?_
    refine mm_ifeqb dX13_canDo_21 (fun h21 => ?_) (fun h21 => ?_)
    · refine mm_iconst dX13_canDo_28 rfl ?_
      refine mm_zret dX13_canDo_29 rfl rfl (Or.inl rfl) ?_
      first
      | exact mm_fin (mm_b1 ⟨h9, h21⟩) rfl
      | exact mm_fin (mm_b0 (fun q => h9 q.1)) rfl
      | exact mm_fin (mm_b0 (fun q => h21 q.2)) rfl
    · refine mm_iconst dX13_canDo_24 rfl ?_
      refine mm_goto dX13_canDo_25 ?_
      refine mm_zret dX13_canDo_29 rfl rfl (Or.inr rfl) ?_
      first
      | exact mm_fin (mm_b1 ⟨h9, h21⟩) rfl
      | exact mm_fin (mm_b0 (fun q => h9 q.1)) rfl
      | exact mm_fin (mm_b0 (fun q => h21 q.2)) rfl
theorem c_X13_after (hR : mm_Rf M) (ha : 0 ≤ a ∧ a < 1000) : mm_Fn X Y_X13_after 243 [(2, 184), (0, s), (0, a)] M (0, ks_to (mm_rk M) s a) M := by
  have hm := ks_mvb ha.1
  have hd := ks_drb ha.1
  have e0 : mm_rk M 0 = M 186 0 := rfl
  have e1 : mm_rk M 1 = M 186 1 := rfl
  refine mm_startF (ls := [(2, 184), (0, s), (0, a), (9, 0), (9, 0), (9, 0)]) rfl ?_
  refine mm_iload_n dX13_after_0 rfl rfl ?_
  refine mm_S1i dX13_after_1 rfl lk_X13_441 (by simp) rfl rfl rfl (c_X13_moveOf ha) ?_
  refine mm_istore_n dX13_after_4 rfl (Nat.le_of_ble_eq_true rfl) rfl ?_
  refine mm_iload_n dX13_after_5 rfl rfl ?_
  refine mm_S1i dX13_after_6 rfl lk_X13_448 (by simp) rfl rfl rfl (c_X13_drumOf ha) ?_
  refine mm_istore dX13_after_9 rfl (Nat.le_of_ble_eq_true rfl) rfl ?_
  refine mm_iload_n dX13_after_11 rfl rfl ?_
  refine mm_iload_n dX13_after_12 rfl rfl ?_
  refine mm_iconst dX13_after_13 rfl ?_
  refine mm_icne dX13_after_14 (by omega) (by omega) (fun h14 => ?_) (fun h14 => ?_)
  · refine mm_iload_n dX13_after_21 rfl rfl ?_
    refine mm_iconst dX13_after_22 rfl ?_
    refine mm_icne dX13_after_23 (by omega) (by omega) (fun h23 => ?_) (fun h23 => ?_)
    · refine mm_iload_n dX13_after_30 rfl rfl ?_
      refine mm_iconst dX13_after_31 rfl ?_
      refine mm_icne dX13_after_32 (by omega) (by omega) (fun h32 => ?_) (fun h32 => ?_)
      · refine mm_iload_n dX13_after_44 rfl rfl ?_
        refine mm_iconst dX13_after_45 rfl ?_
        refine mm_icne dX13_after_46 (by omega) (by omega) (fun h46 => ?_) (fun h46 => ?_)
        · refine mm_iconst dX13_after_59 rfl ?_
          refine mm_iadd dX13_after_60 rfl ?_
          refine mm_istore dX13_after_61 rfl (Nat.le_of_ble_eq_true rfl) rfl ?_
          refine mm_iload dX13_after_63 rfl rfl ?_
          refine mm_iload dX13_after_65 rfl rfl ?_
          refine mm_iconst dX13_after_67 rfl ?_
          refine mm_icne dX13_after_68 (by omega) (by omega) (fun h68 => ?_) (fun h68 => ?_)
          · refine mm_iload dX13_after_75 rfl rfl ?_
            refine mm_iconst dX13_after_77 rfl ?_
            refine mm_icne dX13_after_78 (by omega) (by omega) (fun h78 => ?_) (fun h78 => ?_)
            · refine mm_iconst dX13_after_85 rfl ?_
              refine mm_aload_n dX13_after_86 rfl rfl ?_
              refine mm_getr dX13_after_87 rfl fl_X13_151 (c := 183) rfl (by decide) rfl rfl (hR.at (c := 183) (i := 10) (v := 187) rfl (by decide)) ?_
              refine mm_iconst dX13_after_90 rfl ?_
              refine mm_ialk (k0 := 0) dX13_after_91 rfl (c := 186) rfl (by decide) rfl rfl (by decide) ?_
              refine mm_imul dX13_after_92 rfl ?_
              refine mm_aload_n dX13_after_93 rfl rfl ?_
              refine mm_getr dX13_after_94 rfl fl_X13_151 (c := 183) rfl (by decide) rfl rfl (hR.at (c := 183) (i := 10) (v := 187) rfl (by decide)) ?_
              refine mm_iconst dX13_after_97 rfl ?_
              refine mm_ialk (k0 := 1) dX13_after_98 rfl (c := 186) rfl (by decide) rfl rfl (by decide) ?_
              refine mm_imul dX13_after_99 rfl ?_
              refine mm_iadd dX13_after_100 rfl ?_
              refine mm_iret dX13_after_101 rfl rfl ?_
              exact mm_fin (by unfold ks_to ks_ms ks_ds; rw [e0, e1]; simp [*, Int.neg_mul]) rfl
            · refine mm_iconst dX13_after_81 rfl ?_
              refine mm_goto dX13_after_82 ?_
              refine mm_aload_n dX13_after_86 rfl rfl ?_
              refine mm_getr dX13_after_87 rfl fl_X13_151 (c := 183) rfl (by decide) rfl rfl (hR.at (c := 183) (i := 10) (v := 187) rfl (by decide)) ?_
              refine mm_iconst dX13_after_90 rfl ?_
              refine mm_ialk (k0 := 0) dX13_after_91 rfl (c := 186) rfl (by decide) rfl rfl (by decide) ?_
              refine mm_imul dX13_after_92 rfl ?_
              refine mm_aload_n dX13_after_93 rfl rfl ?_
              refine mm_getr dX13_after_94 rfl fl_X13_151 (c := 183) rfl (by decide) rfl rfl (hR.at (c := 183) (i := 10) (v := 187) rfl (by decide)) ?_
              refine mm_iconst dX13_after_97 rfl ?_
              refine mm_ialk (k0 := 1) dX13_after_98 rfl (c := 186) rfl (by decide) rfl rfl (by decide) ?_
              refine mm_imul dX13_after_99 rfl ?_
              refine mm_iadd dX13_after_100 rfl ?_
              refine mm_iret dX13_after_101 rfl rfl ?_
              exact mm_fin (by unfold ks_to ks_ms ks_ds; rw [e0, e1]; simp [*, Int.neg_mul]) rfl
          · refine mm_iconst dX13_after_71 rfl ?_
            refine mm_goto dX13_after_72 ?_
            refine mm_aload_n dX13_after_86 rfl rfl ?_
            refine mm_getr dX13_after_87 rfl fl_X13_151 (c := 183) rfl (by decide) rfl rfl (hR.at (c := 183) (i := 10) (v := 187) rfl (by decide)) ?_
            refine mm_iconst dX13_after_90 rfl ?_
            refine mm_ialk (k0 := 0) dX13_after_91 rfl (c := 186) rfl (by decide) rfl rfl (by decide) ?_
            refine mm_imul dX13_after_92 rfl ?_
            refine mm_aload_n dX13_after_93 rfl rfl ?_
            refine mm_getr dX13_after_94 rfl fl_X13_151 (c := 183) rfl (by decide) rfl rfl (hR.at (c := 183) (i := 10) (v := 187) rfl (by decide)) ?_
            refine mm_iconst dX13_after_97 rfl ?_
            refine mm_ialk (k0 := 1) dX13_after_98 rfl (c := 186) rfl (by decide) rfl rfl (by decide) ?_
            refine mm_imul dX13_after_99 rfl ?_
            refine mm_iadd dX13_after_100 rfl ?_
            refine mm_iret dX13_after_101 rfl rfl ?_
            exact mm_fin (by unfold ks_to ks_ms ks_ds; rw [e0, e1]; simp [*, Int.neg_mul]) rfl
        · refine mm_aload_n dX13_after_49 rfl rfl ?_
          refine mm_getr dX13_after_50 rfl fl_X13_151 (c := 183) rfl (by decide) rfl rfl (hR.at (c := 183) (i := 10) (v := 187) rfl (by decide)) ?_
          refine mm_iconst dX13_after_53 rfl ?_
          refine mm_ialk (k0 := 0) dX13_after_54 rfl (c := 186) rfl (by decide) rfl rfl (by decide) ?_
          refine mm_ineg dX13_after_55 rfl ?_
          refine mm_goto dX13_after_56 ?_
          refine mm_iadd dX13_after_60 rfl ?_
          refine mm_istore dX13_after_61 rfl (Nat.le_of_ble_eq_true rfl) rfl ?_
          refine mm_iload dX13_after_63 rfl rfl ?_
          refine mm_iload dX13_after_65 rfl rfl ?_
          refine mm_iconst dX13_after_67 rfl ?_
          refine mm_icne dX13_after_68 (by omega) (by omega) (fun h68 => ?_) (fun h68 => ?_)
          · refine mm_iload dX13_after_75 rfl rfl ?_
            refine mm_iconst dX13_after_77 rfl ?_
            refine mm_icne dX13_after_78 (by omega) (by omega) (fun h78 => ?_) (fun h78 => ?_)
            · refine mm_iconst dX13_after_85 rfl ?_
              refine mm_aload_n dX13_after_86 rfl rfl ?_
              refine mm_getr dX13_after_87 rfl fl_X13_151 (c := 183) rfl (by decide) rfl rfl (hR.at (c := 183) (i := 10) (v := 187) rfl (by decide)) ?_
              refine mm_iconst dX13_after_90 rfl ?_
              refine mm_ialk (k0 := 0) dX13_after_91 rfl (c := 186) rfl (by decide) rfl rfl (by decide) ?_
              refine mm_imul dX13_after_92 rfl ?_
              refine mm_aload_n dX13_after_93 rfl rfl ?_
              refine mm_getr dX13_after_94 rfl fl_X13_151 (c := 183) rfl (by decide) rfl rfl (hR.at (c := 183) (i := 10) (v := 187) rfl (by decide)) ?_
              refine mm_iconst dX13_after_97 rfl ?_
              refine mm_ialk (k0 := 1) dX13_after_98 rfl (c := 186) rfl (by decide) rfl rfl (by decide) ?_
              refine mm_imul dX13_after_99 rfl ?_
              refine mm_iadd dX13_after_100 rfl ?_
              refine mm_iret dX13_after_101 rfl rfl ?_
              exact mm_fin (by unfold ks_to ks_ms ks_ds; rw [e0, e1]; simp [*, Int.neg_mul]) rfl
            · refine mm_iconst dX13_after_81 rfl ?_
              refine mm_goto dX13_after_82 ?_
              refine mm_aload_n dX13_after_86 rfl rfl ?_
              refine mm_getr dX13_after_87 rfl fl_X13_151 (c := 183) rfl (by decide) rfl rfl (hR.at (c := 183) (i := 10) (v := 187) rfl (by decide)) ?_
              refine mm_iconst dX13_after_90 rfl ?_
              refine mm_ialk (k0 := 0) dX13_after_91 rfl (c := 186) rfl (by decide) rfl rfl (by decide) ?_
              refine mm_imul dX13_after_92 rfl ?_
              refine mm_aload_n dX13_after_93 rfl rfl ?_
              refine mm_getr dX13_after_94 rfl fl_X13_151 (c := 183) rfl (by decide) rfl rfl (hR.at (c := 183) (i := 10) (v := 187) rfl (by decide)) ?_
              refine mm_iconst dX13_after_97 rfl ?_
              refine mm_ialk (k0 := 1) dX13_after_98 rfl (c := 186) rfl (by decide) rfl rfl (by decide) ?_
              refine mm_imul dX13_after_99 rfl ?_
              refine mm_iadd dX13_after_100 rfl ?_
              refine mm_iret dX13_after_101 rfl rfl ?_
              exact mm_fin (by unfold ks_to ks_ms ks_ds; rw [e0, e1]; simp [*, Int.neg_mul]) rfl
          · refine mm_iconst dX13_after_71 rfl ?_
            refine mm_goto dX13_after_72 ?_
            refine mm_aload_n dX13_after_86 rfl rfl ?_
            refine mm_getr dX13_after_87 rfl fl_X13_151 (c := 183) rfl (by decide) rfl rfl (hR.at (c := 183) (i := 10) (v := 187) rfl (by decide)) ?_
            refine mm_iconst dX13_after_90 rfl ?_
            refine mm_ialk (k0 := 0) dX13_after_91 rfl (c := 186) rfl (by decide) rfl rfl (by decide) ?_
            refine mm_imul dX13_after_92 rfl ?_
            refine mm_aload_n dX13_after_93 rfl rfl ?_
            refine mm_getr dX13_after_94 rfl fl_X13_151 (c := 183) rfl (by decide) rfl rfl (hR.at (c := 183) (i := 10) (v := 187) rfl (by decide)) ?_
            refine mm_iconst dX13_after_97 rfl ?_
            refine mm_ialk (k0 := 1) dX13_after_98 rfl (c := 186) rfl (by decide) rfl rfl (by decide) ?_
            refine mm_imul dX13_after_99 rfl ?_
            refine mm_iadd dX13_after_100 rfl ?_
            refine mm_iret dX13_after_101 rfl rfl ?_
            exact mm_fin (by unfold ks_to ks_ms ks_ds; rw [e0, e1]; simp [*, Int.neg_mul]) rfl
      · refine mm_aload_n dX13_after_35 rfl rfl ?_
        refine mm_getr dX13_after_36 rfl fl_X13_151 (c := 183) rfl (by decide) rfl rfl (hR.at (c := 183) (i := 10) (v := 187) rfl (by decide)) ?_
        refine mm_iconst dX13_after_39 rfl ?_
        refine mm_ialk (k0 := 0) dX13_after_40 rfl (c := 186) rfl (by decide) rfl rfl (by decide) ?_
        refine mm_goto dX13_after_41 ?_
        refine mm_iadd dX13_after_60 rfl ?_
        refine mm_istore dX13_after_61 rfl (Nat.le_of_ble_eq_true rfl) rfl ?_
        refine mm_iload dX13_after_63 rfl rfl ?_
        refine mm_iload dX13_after_65 rfl rfl ?_
        refine mm_iconst dX13_after_67 rfl ?_
        refine mm_icne dX13_after_68 (by omega) (by omega) (fun h68 => ?_) (fun h68 => ?_)
        · refine mm_iload dX13_after_75 rfl rfl ?_
          refine mm_iconst dX13_after_77 rfl ?_
          refine mm_icne dX13_after_78 (by omega) (by omega) (fun h78 => ?_) (fun h78 => ?_)
          · refine mm_iconst dX13_after_85 rfl ?_
            refine mm_aload_n dX13_after_86 rfl rfl ?_
            refine mm_getr dX13_after_87 rfl fl_X13_151 (c := 183) rfl (by decide) rfl rfl (hR.at (c := 183) (i := 10) (v := 187) rfl (by decide)) ?_
            refine mm_iconst dX13_after_90 rfl ?_
            refine mm_ialk (k0 := 0) dX13_after_91 rfl (c := 186) rfl (by decide) rfl rfl (by decide) ?_
            refine mm_imul dX13_after_92 rfl ?_
            refine mm_aload_n dX13_after_93 rfl rfl ?_
            refine mm_getr dX13_after_94 rfl fl_X13_151 (c := 183) rfl (by decide) rfl rfl (hR.at (c := 183) (i := 10) (v := 187) rfl (by decide)) ?_
            refine mm_iconst dX13_after_97 rfl ?_
            refine mm_ialk (k0 := 1) dX13_after_98 rfl (c := 186) rfl (by decide) rfl rfl (by decide) ?_
            refine mm_imul dX13_after_99 rfl ?_
            refine mm_iadd dX13_after_100 rfl ?_
            refine mm_iret dX13_after_101 rfl rfl ?_
            exact mm_fin (by unfold ks_to ks_ms ks_ds; rw [e0, e1]; simp [*, Int.neg_mul]) rfl
          · refine mm_iconst dX13_after_81 rfl ?_
            refine mm_goto dX13_after_82 ?_
            refine mm_aload_n dX13_after_86 rfl rfl ?_
            refine mm_getr dX13_after_87 rfl fl_X13_151 (c := 183) rfl (by decide) rfl rfl (hR.at (c := 183) (i := 10) (v := 187) rfl (by decide)) ?_
            refine mm_iconst dX13_after_90 rfl ?_
            refine mm_ialk (k0 := 0) dX13_after_91 rfl (c := 186) rfl (by decide) rfl rfl (by decide) ?_
            refine mm_imul dX13_after_92 rfl ?_
            refine mm_aload_n dX13_after_93 rfl rfl ?_
            refine mm_getr dX13_after_94 rfl fl_X13_151 (c := 183) rfl (by decide) rfl rfl (hR.at (c := 183) (i := 10) (v := 187) rfl (by decide)) ?_
            refine mm_iconst dX13_after_97 rfl ?_
            refine mm_ialk (k0 := 1) dX13_after_98 rfl (c := 186) rfl (by decide) rfl rfl (by decide) ?_
            refine mm_imul dX13_after_99 rfl ?_
            refine mm_iadd dX13_after_100 rfl ?_
            refine mm_iret dX13_after_101 rfl rfl ?_
            exact mm_fin (by unfold ks_to ks_ms ks_ds; rw [e0, e1]; simp [*, Int.neg_mul]) rfl
        · refine mm_iconst dX13_after_71 rfl ?_
          refine mm_goto dX13_after_72 ?_
          refine mm_aload_n dX13_after_86 rfl rfl ?_
          refine mm_getr dX13_after_87 rfl fl_X13_151 (c := 183) rfl (by decide) rfl rfl (hR.at (c := 183) (i := 10) (v := 187) rfl (by decide)) ?_
          refine mm_iconst dX13_after_90 rfl ?_
          refine mm_ialk (k0 := 0) dX13_after_91 rfl (c := 186) rfl (by decide) rfl rfl (by decide) ?_
          refine mm_imul dX13_after_92 rfl ?_
          refine mm_aload_n dX13_after_93 rfl rfl ?_
          refine mm_getr dX13_after_94 rfl fl_X13_151 (c := 183) rfl (by decide) rfl rfl (hR.at (c := 183) (i := 10) (v := 187) rfl (by decide)) ?_
          refine mm_iconst dX13_after_97 rfl ?_
          refine mm_ialk (k0 := 1) dX13_after_98 rfl (c := 186) rfl (by decide) rfl rfl (by decide) ?_
          refine mm_imul dX13_after_99 rfl ?_
          refine mm_iadd dX13_after_100 rfl ?_
          refine mm_iret dX13_after_101 rfl rfl ?_
          exact mm_fin (by unfold ks_to ks_ms ks_ds; rw [e0, e1]; simp [*, Int.neg_mul]) rfl
    · refine mm_iconst dX13_after_26 rfl ?_
      refine mm_goto dX13_after_27 ?_
      refine mm_iadd dX13_after_60 rfl ?_
      refine mm_istore dX13_after_61 rfl (Nat.le_of_ble_eq_true rfl) rfl ?_
      refine mm_iload dX13_after_63 rfl rfl ?_
      refine mm_iload dX13_after_65 rfl rfl ?_
      refine mm_iconst dX13_after_67 rfl ?_
      refine mm_icne dX13_after_68 (by omega) (by omega) (fun h68 => ?_) (fun h68 => ?_)
      · refine mm_iload dX13_after_75 rfl rfl ?_
        refine mm_iconst dX13_after_77 rfl ?_
        refine mm_icne dX13_after_78 (by omega) (by omega) (fun h78 => ?_) (fun h78 => ?_)
        · refine mm_iconst dX13_after_85 rfl ?_
          refine mm_aload_n dX13_after_86 rfl rfl ?_
          refine mm_getr dX13_after_87 rfl fl_X13_151 (c := 183) rfl (by decide) rfl rfl (hR.at (c := 183) (i := 10) (v := 187) rfl (by decide)) ?_
          refine mm_iconst dX13_after_90 rfl ?_
          refine mm_ialk (k0 := 0) dX13_after_91 rfl (c := 186) rfl (by decide) rfl rfl (by decide) ?_
          refine mm_imul dX13_after_92 rfl ?_
          refine mm_aload_n dX13_after_93 rfl rfl ?_
          refine mm_getr dX13_after_94 rfl fl_X13_151 (c := 183) rfl (by decide) rfl rfl (hR.at (c := 183) (i := 10) (v := 187) rfl (by decide)) ?_
          refine mm_iconst dX13_after_97 rfl ?_
          refine mm_ialk (k0 := 1) dX13_after_98 rfl (c := 186) rfl (by decide) rfl rfl (by decide) ?_
          refine mm_imul dX13_after_99 rfl ?_
          refine mm_iadd dX13_after_100 rfl ?_
          refine mm_iret dX13_after_101 rfl rfl ?_
          exact mm_fin (by unfold ks_to ks_ms ks_ds; rw [e0, e1]; simp [*, Int.neg_mul]) rfl
        · refine mm_iconst dX13_after_81 rfl ?_
          refine mm_goto dX13_after_82 ?_
          refine mm_aload_n dX13_after_86 rfl rfl ?_
          refine mm_getr dX13_after_87 rfl fl_X13_151 (c := 183) rfl (by decide) rfl rfl (hR.at (c := 183) (i := 10) (v := 187) rfl (by decide)) ?_
          refine mm_iconst dX13_after_90 rfl ?_
          refine mm_ialk (k0 := 0) dX13_after_91 rfl (c := 186) rfl (by decide) rfl rfl (by decide) ?_
          refine mm_imul dX13_after_92 rfl ?_
          refine mm_aload_n dX13_after_93 rfl rfl ?_
          refine mm_getr dX13_after_94 rfl fl_X13_151 (c := 183) rfl (by decide) rfl rfl (hR.at (c := 183) (i := 10) (v := 187) rfl (by decide)) ?_
          refine mm_iconst dX13_after_97 rfl ?_
          refine mm_ialk (k0 := 1) dX13_after_98 rfl (c := 186) rfl (by decide) rfl rfl (by decide) ?_
          refine mm_imul dX13_after_99 rfl ?_
          refine mm_iadd dX13_after_100 rfl ?_
          refine mm_iret dX13_after_101 rfl rfl ?_
          exact mm_fin (by unfold ks_to ks_ms ks_ds; rw [e0, e1]; simp [*, Int.neg_mul]) rfl
      · refine mm_iconst dX13_after_71 rfl ?_
        refine mm_goto dX13_after_72 ?_
        refine mm_aload_n dX13_after_86 rfl rfl ?_
        refine mm_getr dX13_after_87 rfl fl_X13_151 (c := 183) rfl (by decide) rfl rfl (hR.at (c := 183) (i := 10) (v := 187) rfl (by decide)) ?_
        refine mm_iconst dX13_after_90 rfl ?_
        refine mm_ialk (k0 := 0) dX13_after_91 rfl (c := 186) rfl (by decide) rfl rfl (by decide) ?_
        refine mm_imul dX13_after_92 rfl ?_
        refine mm_aload_n dX13_after_93 rfl rfl ?_
        refine mm_getr dX13_after_94 rfl fl_X13_151 (c := 183) rfl (by decide) rfl rfl (hR.at (c := 183) (i := 10) (v := 187) rfl (by decide)) ?_
        refine mm_iconst dX13_after_97 rfl ?_
        refine mm_ialk (k0 := 1) dX13_after_98 rfl (c := 186) rfl (by decide) rfl rfl (by decide) ?_
        refine mm_imul dX13_after_99 rfl ?_
        refine mm_iadd dX13_after_100 rfl ?_
        refine mm_iret dX13_after_101 rfl rfl ?_
        exact mm_fin (by unfold ks_to ks_ms ks_ds; rw [e0, e1]; simp [*, Int.neg_mul]) rfl
  · refine mm_iconst dX13_after_17 rfl ?_
    refine mm_goto dX13_after_18 ?_
    refine mm_iadd dX13_after_60 rfl ?_
    refine mm_istore dX13_after_61 rfl (Nat.le_of_ble_eq_true rfl) rfl ?_
    refine mm_iload dX13_after_63 rfl rfl ?_
    refine mm_iload dX13_after_65 rfl rfl ?_
    refine mm_iconst dX13_after_67 rfl ?_
    refine mm_icne dX13_after_68 (by omega) (by omega) (fun h68 => ?_) (fun h68 => ?_)
    · refine mm_iload dX13_after_75 rfl rfl ?_
      refine mm_iconst dX13_after_77 rfl ?_
      refine mm_icne dX13_after_78 (by omega) (by omega) (fun h78 => ?_) (fun h78 => ?_)
      · refine mm_iconst dX13_after_85 rfl ?_
        refine mm_aload_n dX13_after_86 rfl rfl ?_
        refine mm_getr dX13_after_87 rfl fl_X13_151 (c := 183) rfl (by decide) rfl rfl (hR.at (c := 183) (i := 10) (v := 187) rfl (by decide)) ?_
        refine mm_iconst dX13_after_90 rfl ?_
        refine mm_ialk (k0 := 0) dX13_after_91 rfl (c := 186) rfl (by decide) rfl rfl (by decide) ?_
        refine mm_imul dX13_after_92 rfl ?_
        refine mm_aload_n dX13_after_93 rfl rfl ?_
        refine mm_getr dX13_after_94 rfl fl_X13_151 (c := 183) rfl (by decide) rfl rfl (hR.at (c := 183) (i := 10) (v := 187) rfl (by decide)) ?_
        refine mm_iconst dX13_after_97 rfl ?_
        refine mm_ialk (k0 := 1) dX13_after_98 rfl (c := 186) rfl (by decide) rfl rfl (by decide) ?_
        refine mm_imul dX13_after_99 rfl ?_
        refine mm_iadd dX13_after_100 rfl ?_
        refine mm_iret dX13_after_101 rfl rfl ?_
        exact mm_fin (by unfold ks_to ks_ms ks_ds; rw [e0, e1]; simp [*, Int.neg_mul]) rfl
      · refine mm_iconst dX13_after_81 rfl ?_
        refine mm_goto dX13_after_82 ?_
        refine mm_aload_n dX13_after_86 rfl rfl ?_
        refine mm_getr dX13_after_87 rfl fl_X13_151 (c := 183) rfl (by decide) rfl rfl (hR.at (c := 183) (i := 10) (v := 187) rfl (by decide)) ?_
        refine mm_iconst dX13_after_90 rfl ?_
        refine mm_ialk (k0 := 0) dX13_after_91 rfl (c := 186) rfl (by decide) rfl rfl (by decide) ?_
        refine mm_imul dX13_after_92 rfl ?_
        refine mm_aload_n dX13_after_93 rfl rfl ?_
        refine mm_getr dX13_after_94 rfl fl_X13_151 (c := 183) rfl (by decide) rfl rfl (hR.at (c := 183) (i := 10) (v := 187) rfl (by decide)) ?_
        refine mm_iconst dX13_after_97 rfl ?_
        refine mm_ialk (k0 := 1) dX13_after_98 rfl (c := 186) rfl (by decide) rfl rfl (by decide) ?_
        refine mm_imul dX13_after_99 rfl ?_
        refine mm_iadd dX13_after_100 rfl ?_
        refine mm_iret dX13_after_101 rfl rfl ?_
        exact mm_fin (by unfold ks_to ks_ms ks_ds; rw [e0, e1]; simp [*, Int.neg_mul]) rfl
    · refine mm_iconst dX13_after_71 rfl ?_
      refine mm_goto dX13_after_72 ?_
      refine mm_aload_n dX13_after_86 rfl rfl ?_
      refine mm_getr dX13_after_87 rfl fl_X13_151 (c := 183) rfl (by decide) rfl rfl (hR.at (c := 183) (i := 10) (v := 187) rfl (by decide)) ?_
      refine mm_iconst dX13_after_90 rfl ?_
      refine mm_ialk (k0 := 0) dX13_after_91 rfl (c := 186) rfl (by decide) rfl rfl (by decide) ?_
      refine mm_imul dX13_after_92 rfl ?_
      refine mm_aload_n dX13_after_93 rfl rfl ?_
      refine mm_getr dX13_after_94 rfl fl_X13_151 (c := 183) rfl (by decide) rfl rfl (hR.at (c := 183) (i := 10) (v := 187) rfl (by decide)) ?_
      refine mm_iconst dX13_after_97 rfl ?_
      refine mm_ialk (k0 := 1) dX13_after_98 rfl (c := 186) rfl (by decide) rfl rfl (by decide) ?_
      refine mm_imul dX13_after_99 rfl ?_
      refine mm_iadd dX13_after_100 rfl ?_
      refine mm_iret dX13_after_101 rfl rfl ?_
      exact mm_fin (by unfold ks_to ks_ms ks_ds; rw [e0, e1]; simp [*, Int.neg_mul]) rfl
end
end
/-! 41.ref2 -/
section
section
variable {X : mm_X} {M : mm_M} {s a m w d p h sh x y z : Int}
theorem c_X13_pullOf (hR : mm_Rf M) (hK : mm_KV (mm_rk M)) (hs : ks_st (mm_rk M) s) (ha : ks_ac (mm_rk M) a) (hw : 0 ≤ w ∧ w ≤ 120) : mm_Fn X Y_X13_pullOf 243 [(2, 184), (0, s), (0, a), (0, w)] M (0, ks_p (mm_rk M) s a w) M := by
  have hsl := ks_slb hK ha
  have hm := ks_mvb ha.1
  have hc := ks_colb hK s
  have h0 := hK.1
  have hb := ks_pab hK (sl := a / 15) (c := ks_col (mm_rk M) s) (w := w) ⟨hsl.1, hsl.2.2⟩ (by omega) hw
  have el : M 188 (a / 15).toNat = mm_rk M (20 + (a / 15).toNat) := (mm_rk_l M (by omega)).symm
  have ew : M 190 (ks_col (mm_rk M) s).toNat = mm_rk M (30 + (ks_col (mm_rk M) s).toNat) := (mm_rk_w M).symm
  have e8 : M 186 8 = mm_rk M 8 := rfl
  have e6 : (2 : Int) = 2 := rfl
  refine mm_startF (ls := [(2, 184), (0, s), (0, a), (0, w), (9, 0)]) rfl ?_
  refine mm_aload_n dX13_pullOf_0 rfl rfl ?_
  refine mm_getr dX13_pullOf_1 rfl fl_X13_157 (c := 183) rfl (by decide) rfl rfl (hR.at (c := 183) (i := 12) (v := 189) rfl (by decide)) ?_
  refine mm_iload_n dX13_pullOf_4 rfl rfl ?_
  refine mm_bipush dX13_pullOf_5 rfl (by decide) ?_
  refine mm_idiv dX13_pullOf_7 rfl (by omega) (by omega) (by omega) ?_
  rw [mm_tdiv ha.1]
  refine mm_iald dX13_pullOf_8 rfl (c := 188) rfl (by decide) rfl (by omega) (by omega) ?_
  rw [el]
  refine mm_iload_n dX13_pullOf_9 rfl rfl ?_
  refine mm_imul dX13_pullOf_10 rfl ?_
  refine mm_iload_n dX13_pullOf_11 rfl rfl ?_
  refine mm_imul dX13_pullOf_12 rfl ?_
  refine mm_aload_n dX13_pullOf_13 rfl rfl ?_
  refine mm_getr dX13_pullOf_14 rfl fl_X13_159 (c := 183) rfl (by decide) rfl rfl (hR.at (c := 183) (i := 14) (v := 191) rfl (by decide)) ?_
  refine mm_aload_n dX13_pullOf_17 rfl rfl ?_
  refine mm_iload_n dX13_pullOf_18 rfl rfl ?_
  refine mm_V1i dX13_pullOf_19 rfl lk_X13_438 (c := 183) rfl (by decide) rfl (by simp) rfl rfl rfl (c_X13_columnOf hR hK hs) ?_
  refine mm_iald dX13_pullOf_22 rfl (c := 190) rfl (by decide) rfl (by omega) (by omega) ?_
  rw [ew]
  refine mm_imul dX13_pullOf_23 rfl ?_
  refine mm_bipush dX13_pullOf_24 rfl (by decide) ?_
  refine mm_idiv dX13_pullOf_26 rfl (by omega) (by omega) (by omega) ?_
  rw [mm_tdiv (by omega)]
  refine mm_istore dX13_pullOf_27 rfl (Nat.le_of_ble_eq_true rfl) rfl ?_
  refine mm_iload_n dX13_pullOf_29 rfl rfl ?_
  refine mm_S1i dX13_pullOf_30 rfl lk_X13_441 (by simp) rfl rfl rfl (c_X13_moveOf (by omega)) ?_
  refine mm_i2l dX13_pullOf_33 rfl (by omega) ?_
  refine mm_lconst1 dX13_pullOf_34 rfl ?_
  refine mm_ldc2 dX13_pullOf_35 rfl kc_X13_454 ?_
  refine mm_S3i dX13_pullOf_38 rfl lk_X13_5 (by simp) (by simp) (by simp) rfl rfl rfl (c_X13_in (by omega) (by decide) (by omega)) ?_
  refine mm_ifeqb dX13_pullOf_41 (fun h41 => ?_) (fun h41 => ?_)
  · refine mm_iload dX13_pullOf_60 rfl rfl ?_
    refine mm_iret dX13_pullOf_62 rfl rfl ?_
    refine mm_fin ?_ rfl
    unfold ks_p ks_pa ks_side
    first
    | (rw [if_pos (by omega), mm_tdiv (by omega)]; done)
    | (rw [if_neg (by omega)]; done)
  · refine mm_iload dX13_pullOf_44 rfl rfl ?_
    refine mm_aload_n dX13_pullOf_46 rfl rfl ?_
    refine mm_getr dX13_pullOf_47 rfl fl_X13_151 (c := 183) rfl (by decide) rfl rfl (hR.at (c := 183) (i := 10) (v := 187) rfl (by decide)) ?_
    refine mm_bipush dX13_pullOf_50 rfl (by decide) ?_
    refine mm_ialk (k0 := 8) dX13_pullOf_52 rfl (c := 186) rfl (by decide) rfl rfl (by decide) ?_
    rw [e8]
    refine mm_imul dX13_pullOf_53 rfl ?_
    refine mm_bipush dX13_pullOf_54 rfl (by decide) ?_
    refine mm_idiv dX13_pullOf_56 rfl (by omega) (by omega) (by omega) ?_
    refine mm_goto dX13_pullOf_57 ?_
    refine mm_iret dX13_pullOf_62 rfl rfl ?_
    refine mm_fin ?_ rfl
    unfold ks_p ks_pa ks_side
    first
    | (rw [if_pos (by omega), mm_tdiv (by omega)]; done)
    | (rw [if_neg (by omega)]; done)
theorem c_X13_workOf (hR : mm_Rf M) (hK : mm_KV (mm_rk M)) (ha : 0 ≤ a ∧ a < 1000) (hp : 0 ≤ p ∧ p ≤ 1425600) : mm_Fn X Y_X13_workOf 243 [(2, 184), (0, a), (0, p)] M (0, ks_w (mm_rk M) (ks_dr a) p) M := by
  have hb := ks_wb hK hp
  have hd := ks_drb ha.1
  obtain ⟨-, -, -, -, -, -, h6, h7, -⟩ := id hK
  have e6 : M 186 6 = mm_rk M 6 := rfl
  have e7 : M 186 7 = mm_rk M 7 := rfl
  refine mm_startF (ls := [(2, 184), (0, a), (0, p), (9, 0)]) rfl ?_
  refine mm_iload_n dX13_workOf_0 rfl rfl ?_
  refine mm_S1i dX13_workOf_1 rfl lk_X13_448 (by simp) rfl rfl rfl (c_X13_drumOf ha) ?_
  refine mm_istore_n dX13_workOf_4 rfl (Nat.le_of_ble_eq_true rfl) rfl ?_
  refine mm_iload_n dX13_workOf_5 rfl rfl ?_
  refine mm_iconst dX13_workOf_6 rfl ?_
  refine mm_icne dX13_workOf_7 (by omega) (by omega) (fun h7 => ?_) (fun h7 => ?_)
  · refine mm_iload_n dX13_workOf_22 rfl rfl ?_
    refine mm_iconst dX13_workOf_23 rfl ?_
    refine mm_icne dX13_workOf_24 (by omega) (by omega) (fun h24 => ?_) (fun h24 => ?_)
    · refine mm_iconst dX13_workOf_55 rfl ?_
      refine mm_iret dX13_workOf_56 rfl rfl ?_
      refine mm_fin ?_ rfl
      unfold ks_w
      first
      | (rw [if_pos (by omega)]; done)
      | (rw [if_neg (by omega), if_pos (by omega)]; done)
      | (rw [if_neg (by omega), if_neg (by omega)]; done)
    · refine mm_iload_n dX13_workOf_27 rfl rfl ?_
      refine mm_i2l dX13_workOf_28 rfl (by omega) ?_
      refine mm_aload_n dX13_workOf_29 rfl rfl ?_
      refine mm_getr dX13_workOf_30 rfl fl_X13_151 (c := 183) rfl (by decide) rfl rfl (hR.at (c := 183) (i := 10) (v := 187) rfl (by decide)) ?_
      refine mm_bipush dX13_workOf_33 rfl (by decide) ?_
      refine mm_ialk (k0 := 7) dX13_workOf_35 rfl (c := 186) rfl (by decide) rfl rfl (by decide) ?_
      rw [e7]
      refine mm_i2l dX13_workOf_36 rfl (by omega) ?_
      refine mm_lmul dX13_workOf_37 rfl ?_
      refine mm_ldc2 dX13_workOf_38 rfl kc_X13_456 ?_
      refine mm_ldiv dX13_workOf_41 rfl (by omega) (by omega) (by omega) ?_
      rw [mm_tdiv hb.1]
      refine mm_l2i dX13_workOf_42 rfl ?_
      refine mm_ineg dX13_workOf_43 rfl ?_
      refine mm_aload_n dX13_workOf_44 rfl rfl ?_
      refine mm_getr dX13_workOf_45 rfl fl_X13_151 (c := 183) rfl (by decide) rfl rfl (hR.at (c := 183) (i := 10) (v := 187) rfl (by decide)) ?_
      refine mm_bipush dX13_workOf_48 rfl (by decide) ?_
      refine mm_ialk (k0 := 6) dX13_workOf_50 rfl (c := 186) rfl (by decide) rfl rfl (by decide) ?_
      rw [e6]
      refine mm_isub dX13_workOf_51 rfl ?_
      refine mm_goto dX13_workOf_52 ?_
      refine mm_iret dX13_workOf_56 rfl rfl ?_
      refine mm_fin ?_ rfl
      unfold ks_w
      first
      | (rw [if_pos (by omega)]; done)
      | (rw [if_neg (by omega), if_pos (by omega)]; done)
      | (rw [if_neg (by omega), if_neg (by omega)]; done)
  · refine mm_iload_n dX13_workOf_10 rfl rfl ?_
    refine mm_aload_n dX13_workOf_11 rfl rfl ?_
    refine mm_getr dX13_workOf_12 rfl fl_X13_151 (c := 183) rfl (by decide) rfl rfl (hR.at (c := 183) (i := 10) (v := 187) rfl (by decide)) ?_
    refine mm_bipush dX13_workOf_15 rfl (by decide) ?_
    refine mm_ialk (k0 := 6) dX13_workOf_17 rfl (c := 186) rfl (by decide) rfl rfl (by decide) ?_
    rw [e6]
    refine mm_isub dX13_workOf_18 rfl ?_
    refine mm_goto dX13_workOf_19 ?_
    refine mm_iret dX13_workOf_56 rfl rfl ?_
    refine mm_fin ?_ rfl
    unfold ks_w
    first
    | (rw [if_pos (by omega)]; done)
    | (rw [if_neg (by omega), if_pos (by omega)]; done)
    | (rw [if_neg (by omega), if_neg (by omega)]; done)
theorem c_X13_isState (hR : mm_Rf M) (hK : mm_KV (mm_rk M)) (hx : mm_R x) : mm_Fn X Y_X13_isState 243 [(2, 184), (0, x)] M (0, mm_b (ks_st (mm_rk M) x)) M := by
  have hn := ks_nb hK
  refine mm_startF (ls := [(2, 184), (0, x)]) rfl ?_
  refine mm_iload_n dX13_isState_0 rfl rfl ?_
  refine mm_i2l dX13_isState_1 rfl (by omega) ?_
  refine mm_lconst0 dX13_isState_2 rfl ?_
  refine mm_aload_n dX13_isState_3 rfl rfl ?_
  refine mm_V0i dX13_isState_4 rfl lk_X13_458 (c := 183) rfl (by decide) rfl  rfl rfl rfl (c_X13_states hR) ?_
  refine mm_i2l dX13_isState_7 rfl (by omega) ?_
  refine mm_lconst1 dX13_isState_8 rfl ?_
  refine mm_lsub dX13_isState_9 rfl ?_
  refine mm_S3i dX13_isState_10 rfl lk_X13_5 (by simp) (by simp) (by simp) rfl rfl rfl (c_X13_in (by omega) (by decide) (by omega)) ?_
  refine mm_zret dX13_isState_13 rfl rfl (mm_b_01 _) ?_
  exact mm_fin (mm_b_congr (by unfold ks_st; omega)) rfl
theorem c_X13_isAct (hR : mm_Rf M) (hK : mm_KV (mm_rk M)) (hx : mm_R x) : mm_Fn X Y_X13_isAct 243 [(2, 184), (0, x)] M (0, mm_b (ks_ac (mm_rk M) x)) M := by
  obtain ⟨-, -, -, -, -, -, -, -, -, -, h10, -⟩ := id hK
  refine mm_startF (ls := [(2, 184), (0, x)]) rfl ?_
  refine mm_iload_n dX13_isAct_0 rfl rfl ?_
  refine mm_i2l dX13_isAct_1 rfl (by omega) ?_
  refine mm_lconst0 dX13_isAct_2 rfl ?_
  refine mm_aload_n dX13_isAct_3 rfl rfl ?_
  refine mm_V0i dX13_isAct_4 rfl lk_X13_461 (c := 183) rfl (by decide) rfl  rfl rfl rfl (c_X13_acts hR) ?_
  refine mm_i2l dX13_isAct_7 rfl (by omega) ?_
  refine mm_lconst1 dX13_isAct_8 rfl ?_
  refine mm_lsub dX13_isAct_9 rfl ?_
  refine mm_S3i dX13_isAct_10 rfl lk_X13_5 (by simp) (by simp) (by simp) rfl rfl rfl (c_X13_in (by omega) (by decide) (by omega)) ?_
  refine mm_zret dX13_isAct_13 rfl rfl (mm_b_01 _) ?_
  exact mm_fin (mm_b_congr (by unfold ks_ac; omega)) rfl
theorem c_X13_lowAt (hR : mm_Rf M) (hK : mm_KV (mm_rk M)) (hs : ks_st (mm_rk M) s) (hh : ks_hr h) : mm_Fn X Y_X13_lowAt 243 [(2, 184), (0, s), (0, h)] M (0, ks_wi (M 203) (mm_rk M) s h) M := by
  have hb := ks_bandb hK hs
  refine mm_startF (ls := [(2, 184), (0, s), (0, h)]) rfl ?_
  refine mm_aload_n dX13_lowAt_0 rfl rfl ?_
  refine mm_getr dX13_lowAt_1 rfl fl_X13_255 (c := 183) rfl (by decide) rfl rfl (hR.at (c := 183) (i := 34) (v := 204) rfl (by decide)) ?_
  refine mm_iconst dX13_lowAt_4 rfl ?_
  refine mm_iload_n dX13_lowAt_5 rfl rfl ?_
  refine mm_imul dX13_lowAt_6 rfl ?_
  refine mm_aload_n dX13_lowAt_7 rfl rfl ?_
  refine mm_iload_n dX13_lowAt_8 rfl rfl ?_
  refine mm_V1i dX13_lowAt_9 rfl lk_X13_467 (c := 183) rfl (by decide) rfl (by simp) rfl rfl rfl (c_X13_bandOf hR hK hs) ?_
  refine mm_iadd dX13_lowAt_12 rfl ?_
  refine mm_ialk (k0 := ks_pl h (ks_band (mm_rk M) s)) dX13_lowAt_13 rfl (c := 203) rfl (by decide) rfl (by unfold ks_pl; omega) (by unfold ks_pl; omega) ?_
  refine mm_iret dX13_lowAt_14 rfl rfl ?_
  exact mm_fin rfl rfl
theorem c_X13_highAt (hR : mm_Rf M) (hK : mm_KV (mm_rk M)) (hs : ks_st (mm_rk M) s) (hh : ks_hr h) : mm_Fn X Y_X13_highAt 243 [(2, 184), (0, s), (0, h)] M (0, ks_wi (M 204) (mm_rk M) s h) M := by
  have hb := ks_bandb hK hs
  refine mm_startF (ls := [(2, 184), (0, s), (0, h)]) rfl ?_
  refine mm_aload_n dX13_highAt_0 rfl rfl ?_
  refine mm_getr dX13_highAt_1 rfl fl_X13_258 (c := 183) rfl (by decide) rfl rfl (hR.at (c := 183) (i := 35) (v := 205) rfl (by decide)) ?_
  refine mm_iconst dX13_highAt_4 rfl ?_
  refine mm_iload_n dX13_highAt_5 rfl rfl ?_
  refine mm_imul dX13_highAt_6 rfl ?_
  refine mm_aload_n dX13_highAt_7 rfl rfl ?_
  refine mm_iload_n dX13_highAt_8 rfl rfl ?_
  refine mm_V1i dX13_highAt_9 rfl lk_X13_467 (c := 183) rfl (by decide) rfl (by simp) rfl rfl rfl (c_X13_bandOf hR hK hs) ?_
  refine mm_iadd dX13_highAt_12 rfl ?_
  refine mm_ialk (k0 := ks_pl h (ks_band (mm_rk M) s)) dX13_highAt_13 rfl (c := 204) rfl (by decide) rfl (by unfold ks_pl; omega) (by unfold ks_pl; omega) ?_
  refine mm_iret dX13_highAt_14 rfl rfl ?_
  exact mm_fin rfl rfl
theorem mm_RA.wi {M : mm_M} (h : mm_RA M) (hK : mm_KV (mm_rk M)) {s hr : Int} (hs : ks_st (mm_rk M) s) (hh : ks_hr hr) : (0 ≤ ks_wi (M 203) (mm_rk M) s hr ∧ ks_wi (M 203) (mm_rk M) s hr ≤ 60) ∧ (0 ≤ ks_wi (M 204) (mm_rk M) s hr ∧ ks_wi (M 204) (mm_rk M) s hr ≤ 60) := by
  have := h _ (ks_plb hh (ks_bandb hK hs))
  unfold ks_wi
  omega
theorem c_X13_isSafe (hR : mm_Rf M) (hK : mm_KV (mm_rk M)) (hA : mm_RA M) (hs : ks_st (mm_rk M) s) (ha : ks_ac (mm_rk M) a) (hh : ks_hr h) : mm_Fn X Y_X13_isSafe 243 [(2, 184), (0, s), (0, a), (0, h)] M (0, mm_b (ks_safe (mm_rk M) (M 203) (M 204) s a h)) M := by
  have hw := hA.wi hK hs hh
  have p1 := ks_pw hK (s := s) ha hw.1
  have p2 := ks_pw hK (s := s) ha hw.2
  have hsl := ks_slb hK ha
  have h4 : 0 ≤ M 186 4 ∧ M 186 4 ≤ 9999 := hK.2.2.2.2.1
  have h5 : 1 ≤ M 186 5 ∧ M 186 5 ≤ 99999 := hK.2.2.2.2.2.1
  refine mm_startF (ls := [(2, 184), (0, s), (0, a), (0, h)]) rfl ?_
  refine mm_aload_n dX13_isSafe_0 rfl rfl ?_
  refine mm_iload_n dX13_isSafe_1 rfl rfl ?_
  refine mm_iload_n dX13_isSafe_2 rfl rfl ?_
  refine mm_V2i dX13_isSafe_3 rfl lk_X13_473 (c := 183) rfl (by decide) rfl (by simp) (by simp) rfl rfl rfl (c_X13_canDo hR hK hs (by omega)) ?_
  refine mm_ifeqb dX13_isSafe_6 (fun h6 => ?_) (fun h6 => ?_)
  · refine mm_iconst dX13_isSafe_55 rfl ?_
    refine mm_zret dX13_isSafe_56 rfl rfl (Or.inl rfl) ?_
    first
    | exact mm_fin (mm_b0 (fun q => h6 q.1)) rfl
    | exact mm_fin (mm_b0 (fun q => Int.not_le.mpr h27 q.2.2)) rfl
    | exact mm_fin (mm_b0 (fun q => Int.not_le.mpr h48 q.2.1)) rfl
    | exact mm_fin (mm_b1 ⟨h6, Int.not_lt.mp h48, Int.not_lt.mp h27⟩) rfl
  · refine mm_aload_n dX13_isSafe_9 rfl rfl ?_
    refine mm_iload_n dX13_isSafe_10 rfl rfl ?_
    refine mm_iload_n dX13_isSafe_11 rfl rfl ?_
    refine mm_aload_n dX13_isSafe_12 rfl rfl ?_
    refine mm_iload_n dX13_isSafe_13 rfl rfl ?_
    refine mm_iload_n dX13_isSafe_14 rfl rfl ?_
    refine mm_V2i dX13_isSafe_15 rfl lk_X13_501 (c := 183) rfl (by decide) rfl (by simp) (by simp) rfl rfl rfl (c_X13_highAt hR hK hs hh) ?_
    refine mm_V3i dX13_isSafe_18 rfl lk_X13_497 (c := 183) rfl (by decide) rfl (by simp) (by simp) (by simp) rfl rfl rfl (c_X13_pullOf hR hK hs ha (by omega)) ?_
    refine mm_aload_n dX13_isSafe_21 rfl rfl ?_
    refine mm_getr dX13_isSafe_22 rfl fl_X13_151 (c := 183) rfl (by decide) rfl rfl (hR.at (c := 183) (i := 10) (v := 187) rfl (by decide)) ?_
    refine mm_iconst dX13_isSafe_25 rfl ?_
    refine mm_ialk (k0 := 5) dX13_isSafe_26 rfl (c := 186) rfl (by decide) rfl rfl (by decide) ?_
    refine mm_icgt dX13_isSafe_27 (by omega) (by omega) (fun h27 => ?_) (fun h27 => ?_)
    · refine mm_iconst dX13_isSafe_55 rfl ?_
      refine mm_zret dX13_isSafe_56 rfl rfl (Or.inl rfl) ?_
      first
      | exact mm_fin (mm_b0 (fun q => h6 q.1)) rfl
      | exact mm_fin (mm_b0 (fun q => Int.not_le.mpr h27 q.2.2)) rfl
      | exact mm_fin (mm_b0 (fun q => Int.not_le.mpr h48 q.2.1)) rfl
      | exact mm_fin (mm_b1 ⟨h6, Int.not_lt.mp h48, Int.not_lt.mp h27⟩) rfl
    · refine mm_aload_n dX13_isSafe_30 rfl rfl ?_
      refine mm_iload_n dX13_isSafe_31 rfl rfl ?_
      refine mm_iload_n dX13_isSafe_32 rfl rfl ?_
      refine mm_aload_n dX13_isSafe_33 rfl rfl ?_
      refine mm_iload_n dX13_isSafe_34 rfl rfl ?_
      refine mm_iload_n dX13_isSafe_35 rfl rfl ?_
      refine mm_V2i dX13_isSafe_36 rfl lk_X13_504 (c := 183) rfl (by decide) rfl (by simp) (by simp) rfl rfl rfl (c_X13_lowAt hR hK hs hh) ?_
      refine mm_V3i dX13_isSafe_39 rfl lk_X13_497 (c := 183) rfl (by decide) rfl (by simp) (by simp) (by simp) rfl rfl rfl (c_X13_pullOf hR hK hs ha (by omega)) ?_
      refine mm_aload_n dX13_isSafe_42 rfl rfl ?_
      refine mm_getr dX13_isSafe_43 rfl fl_X13_151 (c := 183) rfl (by decide) rfl rfl (hR.at (c := 183) (i := 10) (v := 187) rfl (by decide)) ?_
      refine mm_iconst dX13_isSafe_46 rfl ?_
      refine mm_ialk (k0 := 4) dX13_isSafe_47 rfl (c := 186) rfl (by decide) rfl rfl (by decide) ?_
      refine mm_iclt dX13_isSafe_48 (by omega) (by omega) (fun h48 => ?_) (fun h48 => ?_)
      · refine mm_iconst dX13_isSafe_55 rfl ?_
        refine mm_zret dX13_isSafe_56 rfl rfl (Or.inl rfl) ?_
        first
        | exact mm_fin (mm_b0 (fun q => h6 q.1)) rfl
        | exact mm_fin (mm_b0 (fun q => Int.not_le.mpr h27 q.2.2)) rfl
        | exact mm_fin (mm_b0 (fun q => Int.not_le.mpr h48 q.2.1)) rfl
        | exact mm_fin (mm_b1 ⟨h6, Int.not_lt.mp h48, Int.not_lt.mp h27⟩) rfl
      · refine mm_iconst dX13_isSafe_51 rfl ?_
        refine mm_goto dX13_isSafe_52 ?_
        refine mm_zret dX13_isSafe_56 rfl rfl (Or.inr rfl) ?_
        first
        | exact mm_fin (mm_b0 (fun q => h6 q.1)) rfl
        | exact mm_fin (mm_b0 (fun q => Int.not_le.mpr h27 q.2.2)) rfl
        | exact mm_fin (mm_b0 (fun q => Int.not_le.mpr h48 q.2.1)) rfl
        | exact mm_fin (mm_b1 ⟨h6, Int.not_lt.mp h48, Int.not_lt.mp h27⟩) rfl
theorem c_X13_surely (hR : mm_Rf M) (hK : mm_KV (mm_rk M)) (hA : mm_RA M) (hs : ks_st (mm_rk M) s) (ha : ks_ac (mm_rk M) a) (hh : ks_hr h) : mm_Fn X Y_X13_surely 243 [(2, 184), (0, s), (0, a), (0, h)] M (0, ks_sure (mm_rk M) (M 203) (M 204) s a h) M := by
  have hw := hA.wi hK hs hh
  have p1 := ks_pw hK (s := s) ha hw.1
  have p2 := ks_pw hK (s := s) ha hw.2
  have hsl := ks_slb hK ha
  have hd := ks_drb ha.1
  refine mm_startF (ls := [(2, 184), (0, s), (0, a), (0, h)]) rfl ?_
  refine mm_aload_n dX13_surely_0 rfl rfl ?_
  refine mm_iload_n dX13_surely_1 rfl rfl ?_
  refine mm_aload_n dX13_surely_2 rfl rfl ?_
  refine mm_iload_n dX13_surely_3 rfl rfl ?_
  refine mm_iload_n dX13_surely_4 rfl rfl ?_
  refine mm_iload_n dX13_surely_5 rfl rfl ?_
  refine mm_S1i dX13_surely_6 rfl lk_X13_448 (by simp) rfl rfl rfl (c_X13_drumOf (by omega)) ?_
  refine mm_iconst dX13_surely_9 rfl ?_
  refine mm_icne dX13_surely_10 (by omega) (by omega) (fun h10 => ?_) (fun h10 => ?_)
  · refine mm_aload_n dX13_surely_22 rfl rfl ?_
    refine mm_iload_n dX13_surely_23 rfl rfl ?_
    refine mm_iload_n dX13_surely_24 rfl rfl ?_
    refine mm_V2i dX13_surely_25 rfl lk_X13_504 (c := 183) rfl (by decide) rfl (by simp) (by simp) rfl rfl rfl (c_X13_lowAt hR hK hs hh) ?_
    refine mm_V3i dX13_surely_28 rfl lk_X13_497 (c := 183) rfl (by decide) rfl (by simp) (by simp) (by simp) rfl rfl rfl (c_X13_pullOf hR hK hs ha (by omega)) ?_
    refine mm_V2i dX13_surely_31 rfl lk_X13_507 (c := 183) rfl (by decide) rfl (by simp) (by simp) rfl rfl rfl (c_X13_workOf hR hK (by omega) (by first | exact p1 | exact p2)) ?_
    refine mm_iret dX13_surely_34 rfl rfl ?_
    refine mm_fin ?_ rfl
    unfold ks_sure
    first
    | (rw [if_neg h10]; done)
    | (rw [if_pos h10]; done)
  · refine mm_aload_n dX13_surely_13 rfl rfl ?_
    refine mm_iload_n dX13_surely_14 rfl rfl ?_
    refine mm_iload_n dX13_surely_15 rfl rfl ?_
    refine mm_V2i dX13_surely_16 rfl lk_X13_501 (c := 183) rfl (by decide) rfl (by simp) (by simp) rfl rfl rfl (c_X13_highAt hR hK hs hh) ?_
    refine mm_goto dX13_surely_19 ?_
    refine mm_V3i dX13_surely_28 rfl lk_X13_497 (c := 183) rfl (by decide) rfl (by simp) (by simp) (by simp) rfl rfl rfl (c_X13_pullOf hR hK hs ha (by omega)) ?_
    refine mm_V2i dX13_surely_31 rfl lk_X13_507 (c := 183) rfl (by decide) rfl (by simp) (by simp) rfl rfl rfl (c_X13_workOf hR hK (by omega) (by first | exact p1 | exact p2)) ?_
    refine mm_iret dX13_surely_34 rfl rfl ?_
    refine mm_fin ?_ rfl
    unfold ks_sure
    first
    | (rw [if_neg h10]; done)
    | (rw [if_pos h10]; done)
theorem c_X13_pullBy (hR : mm_Rf M) (hK : mm_KV (mm_rk M)) (hA : mm_RA M) (hs : ks_st (mm_rk M) s) (ha : ks_ac (mm_rk M) a) (hh : ks_hr h) (hsh : 0 ≤ sh ∧ sh ≤ 20) : mm_Fn X Y_X13_pullBy 243 [(2, 184), (0, s), (0, a), (0, h), (0, sh)] M (0, ks_p (mm_rk M) s a (ks_wi (M 203) (mm_rk M) s h * sh / 10)) M := by
  have hw := hA.wi hK hs hh
  have hm := mm_mulb (a := ks_wi (M 203) (mm_rk M) s h) (b := sh) (A := 60) (B := 20) hw.1.1 hw.1.2 hsh.1 hsh.2
  refine mm_startF (ls := [(2, 184), (0, s), (0, a), (0, h), (0, sh)]) rfl ?_
  refine mm_aload_n dX13_pullBy_0 rfl rfl ?_
  refine mm_iload_n dX13_pullBy_1 rfl rfl ?_
  refine mm_iload_n dX13_pullBy_2 rfl rfl ?_
  refine mm_aload_n dX13_pullBy_3 rfl rfl ?_
  refine mm_iload_n dX13_pullBy_4 rfl rfl ?_
  refine mm_iload_n dX13_pullBy_5 rfl rfl ?_
  refine mm_V2i dX13_pullBy_6 rfl lk_X13_504 (c := 183) rfl (by decide) rfl (by simp) (by simp) rfl rfl rfl (c_X13_lowAt hR hK hs hh) ?_
  refine mm_iload dX13_pullBy_9 rfl rfl ?_
  refine mm_imul dX13_pullBy_11 rfl ?_
  refine mm_bipush dX13_pullBy_12 rfl (by decide) ?_
  refine mm_idiv dX13_pullBy_14 rfl (by omega) (by omega) (by omega) ?_
  rw [mm_tdiv hm.1]
  refine mm_V3i dX13_pullBy_15 rfl lk_X13_497 (c := 183) rfl (by decide) rfl (by simp) (by simp) (by simp) rfl rfl rfl (c_X13_pullOf hR hK hs ha (by omega)) ?_
  refine mm_iret dX13_pullBy_18 rfl rfl ?_
  exact mm_fin rfl rfl
theorem c_X13_isBand (hx : mm_R x) : mm_Fn X Y_X13_isBand 243 [(0, x)] M (0, mm_b (0 ≤ x ∧ x ≤ 4)) M := by
  refine mm_startF (ls := [(0, x)]) rfl ?_
  refine mm_iload_n dX13_isBand_0 rfl rfl ?_
  refine mm_i2l dX13_isBand_1 rfl (by omega) ?_
  refine mm_lconst0 dX13_isBand_2 rfl ?_
  refine mm_ldc2 dX13_isBand_3 rfl kc_X13_479 ?_
  refine mm_S3i dX13_isBand_6 rfl lk_X13_5 (by simp) (by simp) (by simp) rfl rfl rfl (c_X13_in (by omega) (by decide) (by omega)) ?_
  refine mm_zret dX13_isBand_9 rfl rfl (mm_b_01 _) ?_
  exact mm_fin rfl rfl
theorem c_X13_isSlot (hx : mm_R x) : mm_Fn X Y_X13_isSlot 243 [(0, x)] M (0, mm_b (0 ≤ x ∧ x ≤ 5)) M := by
  refine mm_startF (ls := [(0, x)]) rfl ?_
  refine mm_iload_n dX13_isSlot_0 rfl rfl ?_
  refine mm_i2l dX13_isSlot_1 rfl (by omega) ?_
  refine mm_lconst0 dX13_isSlot_2 rfl ?_
  refine mm_ldc2 dX13_isSlot_3 rfl kc_X13_627 ?_
  refine mm_S3i dX13_isSlot_6 rfl lk_X13_5 (by simp) (by simp) (by simp) rfl rfl rfl (c_X13_in (by omega) (by decide) (by omega)) ?_
  refine mm_zret dX13_isSlot_9 rfl rfl (mm_b_01 _) ?_
  exact mm_fin rfl rfl
theorem c_X13_isCost (hx : mm_R x) : mm_Fn X Y_X13_isCost 243 [(0, x)] M (0, mm_b (0 ≤ x ∧ x ≤ 1000000)) M := by
  refine mm_startF (ls := [(0, x)]) rfl ?_
  refine mm_iload_n dX13_isCost_0 rfl rfl ?_
  refine mm_i2l dX13_isCost_1 rfl (by omega) ?_
  refine mm_lconst0 dX13_isCost_2 rfl ?_
  refine mm_ldc2 dX13_isCost_3 rfl kc_X13_668 ?_
  refine mm_S3i dX13_isCost_6 rfl lk_X13_5 (by simp) (by simp) (by simp) rfl rfl rfl (c_X13_in (by omega) (by decide) (by omega)) ?_
  refine mm_zret dX13_isCost_9 rfl rfl (mm_b_01 _) ?_
  exact mm_fin rfl rfl
theorem c_X13_isSite (hx : mm_R x) : mm_Fn X Y_X13_isSite 243 [(0, x)] M (0, mm_b (0 ≤ x ∧ x ≤ 40)) M := by
  refine mm_startF (ls := [(0, x)]) rfl ?_
  refine mm_iload_n dX13_isSite_0 rfl rfl ?_
  refine mm_i2l dX13_isSite_1 rfl (by omega) ?_
  refine mm_lconst0 dX13_isSite_2 rfl ?_
  refine mm_ldc2 dX13_isSite_3 rfl kc_X13_691 ?_
  refine mm_S3i dX13_isSite_6 rfl lk_X13_5 (by simp) (by simp) (by simp) rfl rfl rfl (c_X13_in (by omega) (by decide) (by omega)) ?_
  refine mm_zret dX13_isSite_9 rfl rfl (mm_b_01 _) ?_
  exact mm_fin rfl rfl
theorem c_X13_arePulls (hx : mm_R x) (hy : mm_R y) : mm_Fn X Y_X13_arePulls 243 [(0, x), (0, y)] M (0, mm_b (0 ≤ x ∧ x ≤ y ∧ y ≤ 99999999)) M := by
  refine mm_startF (ls := [(0, x), (0, y)]) rfl ?_
  refine mm_iload_n dX13_arePulls_0 rfl rfl ?_
  refine mm_i2l dX13_arePulls_1 rfl (by omega) ?_
  refine mm_lconst0 dX13_arePulls_2 rfl ?_
  refine mm_ldc2 dX13_arePulls_3 rfl kc_X13_713 ?_
  refine mm_S3i dX13_arePulls_6 rfl lk_X13_5 (by simp) (by simp) (by simp) rfl rfl rfl (c_X13_in (by omega) (by first | decide | omega) (by omega)) ?_
  refine mm_ifeqb dX13_arePulls_9 (fun h9 => ?_) (fun h9 => ?_)
  · refine mm_iconst dX13_arePulls_29 rfl ?_
    refine mm_zret dX13_arePulls_30 rfl rfl (Or.inl rfl) ?_
    refine mm_fin ?_ rfl
    unfold mm_b
    split <;> omega
  · refine mm_iload_n dX13_arePulls_12 rfl rfl ?_
    refine mm_i2l dX13_arePulls_13 rfl (by omega) ?_
    refine mm_iload_n dX13_arePulls_14 rfl rfl ?_
    refine mm_i2l dX13_arePulls_15 rfl (by omega) ?_
    refine mm_ldc2 dX13_arePulls_16 rfl kc_X13_713 ?_
    refine mm_S3i dX13_arePulls_19 rfl lk_X13_5 (by simp) (by simp) (by simp) rfl rfl rfl (c_X13_in (by omega) (by first | decide | omega) (by omega)) ?_
    refine mm_ifeqb dX13_arePulls_22 (fun h22 => ?_) (fun h22 => ?_)
    · refine mm_iconst dX13_arePulls_29 rfl ?_
      refine mm_zret dX13_arePulls_30 rfl rfl (Or.inl rfl) ?_
      refine mm_fin ?_ rfl
      unfold mm_b
      split <;> omega
    · refine mm_iconst dX13_arePulls_25 rfl ?_
      refine mm_goto dX13_arePulls_26 ?_
      refine mm_zret dX13_arePulls_30 rfl rfl (Or.inr rfl) ?_
      refine mm_fin ?_ rfl
      unfold mm_b
      split <;> omega
end
end
/-! 50.pub -/
section
/-! ===== KitePower: small questions and simple calls ===== -/
section
variable {X : mm_X} {M : mm_M} {s a m w d p h sh x y z n k l u v t : Int}
theorem c_X11_isBand (hx : mm_R x) : mm_Fn X Y_X11_isBand 243 [(0, x)] M (0, mm_b (0 ≤ x ∧ x ≤ 4)) M := by
  refine mm_startF (ls := [(0, x)]) rfl ?_
  refine mm_iload_n dX11_isBand_0 rfl rfl ?_
  refine mm_iconst dX11_isBand_1 rfl ?_
  refine mm_iconst dX11_isBand_2 rfl ?_
  refine mm_S3i dX11_isBand_3 rfl lk_X11_171 (by simp) (by simp) (by simp) rfl rfl rfl (c_X11_isWithin hx (by omega) (by omega)) ?_
  refine mm_zret dX11_isBand_6 rfl rfl (mm_b_01 _) ?_
  exact mm_fin rfl rfl
theorem c_X11_isStep (hx : mm_R x) : mm_Fn X Y_X11_isStep 243 [(0, x)] M (0, mm_b (0 ≤ x ∧ x ≤ 999)) M := by
  refine mm_startF (ls := [(0, x)]) rfl ?_
  refine mm_iload_n dX11_isStep_0 rfl rfl ?_
  refine mm_iconst dX11_isStep_1 rfl ?_
  refine mm_sipush dX11_isStep_2 rfl (by decide) ?_
  refine mm_S3i dX11_isStep_5 rfl lk_X11_171 (by simp) (by simp) (by simp) rfl rfl rfl (c_X11_isWithin hx (by omega) (by omega)) ?_
  refine mm_zret dX11_isStep_8 rfl rfl (mm_b_01 _) ?_
  exact mm_fin rfl rfl
theorem c_X11_isSlot (hx : mm_R x) : mm_Fn X Y_X11_isSlot 243 [(0, x)] M (0, mm_b (0 ≤ x ∧ x ≤ 5)) M := by
  refine mm_startF (ls := [(0, x)]) rfl ?_
  refine mm_iload_n dX11_isSlot_0 rfl rfl ?_
  refine mm_iconst dX11_isSlot_1 rfl ?_
  refine mm_iconst dX11_isSlot_2 rfl ?_
  refine mm_S3i dX11_isSlot_3 rfl lk_X11_171 (by simp) (by simp) (by simp) rfl rfl rfl (c_X11_isWithin hx (by omega) (by omega)) ?_
  refine mm_zret dX11_isSlot_6 rfl rfl (mm_b_01 _) ?_
  exact mm_fin rfl rfl
theorem c_X11_isSite (hx : mm_R x) : mm_Fn X Y_X11_isSite 243 [(0, x)] M (0, mm_b (0 ≤ x ∧ x ≤ 40)) M := by
  refine mm_startF (ls := [(0, x)]) rfl ?_
  refine mm_iload_n dX11_isSite_0 rfl rfl ?_
  refine mm_iconst dX11_isSite_1 rfl ?_
  refine mm_bipush dX11_isSite_2 rfl (by decide) ?_
  refine mm_S3i dX11_isSite_4 rfl lk_X11_171 (by simp) (by simp) (by simp) rfl rfl rfl (c_X11_isWithin hx (by omega) (by omega)) ?_
  refine mm_zret dX11_isSite_7 rfl rfl (mm_b_01 _) ?_
  exact mm_fin rfl rfl
theorem c_X11_isEach (hx : mm_R x) : mm_Fn X Y_X11_isEach 243 [(0, x)] M (0, mm_b (1 ≤ x ∧ x ≤ 60)) M := by
  refine mm_startF (ls := [(0, x)]) rfl ?_
  refine mm_iload_n dX11_isEach_0 rfl rfl ?_
  refine mm_iconst dX11_isEach_1 rfl ?_
  refine mm_bipush dX11_isEach_2 rfl (by decide) ?_
  refine mm_S3i dX11_isEach_4 rfl lk_X11_171 (by simp) (by simp) (by simp) rfl rfl rfl (c_X11_isWithin hx (by omega) (by omega)) ?_
  refine mm_zret dX11_isEach_7 rfl rfl (mm_b_01 _) ?_
  exact mm_fin rfl rfl
theorem c_X11_isCost (hx : mm_R x) : mm_Fn X Y_X11_isCost 243 [(0, x)] M (0, mm_b (0 ≤ x ∧ x ≤ 1000000)) M := by
  refine mm_startF (ls := [(0, x)]) rfl ?_
  refine mm_iload_n dX11_isCost_0 rfl rfl ?_
  refine mm_iconst dX11_isCost_1 rfl ?_
  refine mm_ldcw dX11_isCost_2 rfl kc_X11_281 ?_
  refine mm_S3i dX11_isCost_5 rfl lk_X11_171 (by simp) (by simp) (by simp) rfl rfl rfl (c_X11_isWithin hx (by omega) (by omega)) ?_
  refine mm_zret dX11_isCost_8 rfl rfl (mm_b_01 _) ?_
  exact mm_fin rfl rfl
theorem c_X11_canAsk (hR : mm_Rf M) (hK : mm_CK M) (hs : mm_R s) (ha : mm_R a) (hh : mm_R h) : mm_Fn X Y_X11_canAsk 243 [(2, 1), (0, s), (0, a), (0, h)] M (0, mm_b (ks_st (M 4) s ∧ ks_ac (M 4) a ∧ ks_hr h)) M := by
  refine mm_startF (ls := [(2, 1), (0, s), (0, a), (0, h)]) rfl ?_
  refine mm_aload_n dX11_canAsk_0 rfl rfl ?_
  refine mm_getr dX11_canAsk_1 rfl fl_X11_19 (c := 0) rfl (by decide) rfl rfl (hR.at (c := 0) (i := 1) (v := 4) rfl (by decide)) ?_
  refine mm_iload_n dX11_canAsk_4 rfl rfl ?_
  refine mm_V1i dX11_canAsk_5 rfl lk_X11_139 (c := 3) rfl (by decide) rfl (by simp) rfl rfl rfl (c_X4_hasState hR hK hs) ?_
  refine mm_ifeqb dX11_canAsk_8 (fun h8 => ?_) (fun h8 => ?_)
  · refine mm_iconst dX11_canAsk_33 rfl ?_
    refine mm_zret dX11_canAsk_34 rfl rfl (Or.inl rfl) ?_
    first
    | exact mm_fin (mm_b1 ⟨h8, h19, h26⟩) rfl
    | exact mm_fin (mm_b0 (fun q => h8 q.1)) rfl
    | exact mm_fin (mm_b0 (fun q => h19 q.2.1)) rfl
    | exact mm_fin (mm_b0 (fun q => h26 q.2.2)) rfl
  · refine mm_aload_n dX11_canAsk_11 rfl rfl ?_
    refine mm_getr dX11_canAsk_12 rfl fl_X11_19 (c := 0) rfl (by decide) rfl rfl (hR.at (c := 0) (i := 1) (v := 4) rfl (by decide)) ?_
    refine mm_iload_n dX11_canAsk_15 rfl rfl ?_
    refine mm_V1i dX11_canAsk_16 rfl lk_X11_158 (c := 3) rfl (by decide) rfl (by simp) rfl rfl rfl (c_X4_hasAct hR hK ha) ?_
    refine mm_ifeqb dX11_canAsk_19 (fun h19 => ?_) (fun h19 => ?_)
    · refine mm_iconst dX11_canAsk_33 rfl ?_
      refine mm_zret dX11_canAsk_34 rfl rfl (Or.inl rfl) ?_
      first
      | exact mm_fin (mm_b1 ⟨h8, h19, h26⟩) rfl
      | exact mm_fin (mm_b0 (fun q => h8 q.1)) rfl
      | exact mm_fin (mm_b0 (fun q => h19 q.2.1)) rfl
      | exact mm_fin (mm_b0 (fun q => h26 q.2.2)) rfl
    · refine mm_iload_n dX11_canAsk_22 rfl rfl ?_
      refine mm_S1i dX11_canAsk_23 rfl lk_X11_165 (by simp) rfl rfl rfl (c_X11_isHour hh) ?_
      refine mm_ifeqb dX11_canAsk_26 (fun h26 => ?_) (fun h26 => ?_)
      · refine mm_iconst dX11_canAsk_33 rfl ?_
        refine mm_zret dX11_canAsk_34 rfl rfl (Or.inl rfl) ?_
        first
        | exact mm_fin (mm_b1 ⟨h8, h19, h26⟩) rfl
        | exact mm_fin (mm_b0 (fun q => h8 q.1)) rfl
        | exact mm_fin (mm_b0 (fun q => h19 q.2.1)) rfl
        | exact mm_fin (mm_b0 (fun q => h26 q.2.2)) rfl
      · refine mm_iconst dX11_canAsk_29 rfl ?_
        refine mm_goto dX11_canAsk_30 ?_
        refine mm_zret dX11_canAsk_34 rfl rfl (Or.inr rfl) ?_
        first
        | exact mm_fin (mm_b1 ⟨h8, h19, h26⟩) rfl
        | exact mm_fin (mm_b0 (fun q => h8 q.1)) rfl
        | exact mm_fin (mm_b0 (fun q => h19 q.2.1)) rfl
        | exact mm_fin (mm_b0 (fun q => h26 q.2.2)) rfl
theorem c_X11_canRead (hR : mm_Rf M) (hl : 0 ≤ M 174 4 ∧ M 174 4 ≤ 999) (ht : mm_R t) (hx : mm_R x) (hy : mm_R y) : mm_Fn X Y_X11_canRead 243 [(2, 1), (0, t), (0, x), (0, y)] M (0, mm_b ((0 ≤ x ∧ x ≤ y ∧ y ≤ 99999999) ∧ M 174 4 ≤ t ∧ t ≤ 999)) M := by
  refine mm_startF (ls := [(2, 1), (0, t), (0, x), (0, y), (9, 0)]) rfl ?_
  refine mm_iload_n dX11_canRead_0 rfl rfl ?_
  refine mm_iconst dX11_canRead_1 rfl ?_
  refine mm_iload_n dX11_canRead_2 rfl rfl ?_
  refine mm_S3i dX11_canRead_3 rfl lk_X11_171 (by simp) (by simp) (by simp) rfl rfl rfl (c_X11_isWithin (by omega) (by omega) (by omega)) ?_
  refine mm_ifeqb dX11_canRead_6 (fun h6 => ?_) (fun h6 => ?_)
  · refine mm_iconst dX11_canRead_20 rfl ?_
    refine mm_istore dX11_canRead_21 rfl (Nat.le_of_ble_eq_true rfl) rfl ?_
    refine mm_iload dX11_canRead_23 rfl rfl ?_
    refine mm_ifeq dX11_canRead_25 (by omega) (fun _ => ?_) (fun h => absurd (by decide) h)
    refine mm_iconst dX11_canRead_49 rfl ?_
    refine mm_zret dX11_canRead_50 rfl rfl (Or.inl rfl) ?_
    refine mm_fin ?_ rfl
    unfold mm_b
    split <;> omega
  · refine mm_iload_n dX11_canRead_9 rfl rfl ?_
    refine mm_ldcw dX11_canRead_10 rfl kc_X11_375 ?_
    refine mm_icgt dX11_canRead_13 (by omega) (by omega) (fun h13 => ?_) (fun h13 => ?_)
    · refine mm_iconst dX11_canRead_20 rfl ?_
      refine mm_istore dX11_canRead_21 rfl (Nat.le_of_ble_eq_true rfl) rfl ?_
      refine mm_iload dX11_canRead_23 rfl rfl ?_
      refine mm_ifeq dX11_canRead_25 (by omega) (fun _ => ?_) (fun h => absurd (by decide) h)
      refine mm_iconst dX11_canRead_49 rfl ?_
      refine mm_zret dX11_canRead_50 rfl rfl (Or.inl rfl) ?_
      refine mm_fin ?_ rfl
      unfold mm_b
      split <;> omega
    · refine mm_iconst dX11_canRead_16 rfl ?_
      refine mm_goto dX11_canRead_17 ?_
      refine mm_istore dX11_canRead_21 rfl (Nat.le_of_ble_eq_true rfl) rfl ?_
      refine mm_iload dX11_canRead_23 rfl rfl ?_
      refine mm_ifeq dX11_canRead_25 (by omega) (fun h => absurd h (by decide)) (fun _ => ?_)
      refine mm_iload_n dX11_canRead_28 rfl rfl ?_
      refine mm_aload_n dX11_canRead_29 rfl rfl ?_
      refine mm_getr dX11_canRead_30 rfl fl_X11_90 (c := 0) rfl (by decide) rfl rfl (hR.at (c := 0) (i := 11) (v := 175) rfl (by decide)) ?_
      refine mm_get (kd := 0) dX11_canRead_33 rfl fl_X11_376 (c := 174) rfl (by decide) rfl rfl ?_
      refine mm_sipush dX11_canRead_36 rfl (by decide) ?_
      refine mm_S3i dX11_canRead_39 rfl lk_X11_171 (by simp) (by simp) (by simp) rfl rfl rfl (c_X11_isWithin (by omega) (by omega) (by omega)) ?_
      refine mm_ifeqb dX11_canRead_42 (fun h42 => ?_) (fun h42 => ?_)
      · refine mm_iconst dX11_canRead_49 rfl ?_
        refine mm_zret dX11_canRead_50 rfl rfl (Or.inl rfl) ?_
        refine mm_fin ?_ rfl
        unfold mm_b
        split <;> omega
      · refine mm_iconst dX11_canRead_45 rfl ?_
        refine mm_goto dX11_canRead_46 ?_
        refine mm_zret dX11_canRead_50 rfl rfl (Or.inr rfl) ?_
        refine mm_fin ?_ rfl
        unfold mm_b
        split <;> omega
theorem c_X11_canPair (hx : mm_R x) (hy : mm_R y) (hu : mm_R u) (hv : mm_R v) : mm_Fn X Y_X11_canPair 243 [(2, 1), (0, x), (0, y), (0, u), (0, v)] M (0, mm_b ((0 ≤ x ∧ x ≤ 5) ∧ (0 ≤ y ∧ y ≤ 40) ∧ (0 ≤ u ∧ u ≤ 5) ∧ (0 ≤ v ∧ v ≤ 40))) M := by
  refine mm_startF (ls := [(2, 1), (0, x), (0, y), (0, u), (0, v)]) rfl ?_
  refine mm_iload_n dX11_canPair_0 rfl rfl ?_
  refine mm_S1i dX11_canPair_1 rfl lk_X11_254 (by simp) rfl rfl rfl (c_X11_isSlot (by omega)) ?_
  refine mm_ifeqb dX11_canPair_4 (fun h4 => ?_) (fun h4 => ?_)
  · refine mm_iconst dX11_canPair_33 rfl ?_
    refine mm_zret dX11_canPair_34 rfl rfl (Or.inl rfl) ?_
    refine mm_fin ?_ rfl
    unfold mm_b
    split <;> omega
  · refine mm_iload_n dX11_canPair_7 rfl rfl ?_
    refine mm_S1i dX11_canPair_8 rfl lk_X11_328 (by simp) rfl rfl rfl (c_X11_isSite (by omega)) ?_
    refine mm_ifeqb dX11_canPair_11 (fun h11 => ?_) (fun h11 => ?_)
    · refine mm_iconst dX11_canPair_33 rfl ?_
      refine mm_zret dX11_canPair_34 rfl rfl (Or.inl rfl) ?_
      refine mm_fin ?_ rfl
      unfold mm_b
      split <;> omega
    · refine mm_iload_n dX11_canPair_14 rfl rfl ?_
      refine mm_S1i dX11_canPair_15 rfl lk_X11_254 (by simp) rfl rfl rfl (c_X11_isSlot (by omega)) ?_
      refine mm_ifeqb dX11_canPair_18 (fun h18 => ?_) (fun h18 => ?_)
      · refine mm_iconst dX11_canPair_33 rfl ?_
        refine mm_zret dX11_canPair_34 rfl rfl (Or.inl rfl) ?_
        refine mm_fin ?_ rfl
        unfold mm_b
        split <;> omega
      · refine mm_iload dX11_canPair_21 rfl rfl ?_
        refine mm_S1i dX11_canPair_23 rfl lk_X11_328 (by simp) rfl rfl rfl (c_X11_isSite (by omega)) ?_
        refine mm_ifeqb dX11_canPair_26 (fun h26 => ?_) (fun h26 => ?_)
        · refine mm_iconst dX11_canPair_33 rfl ?_
          refine mm_zret dX11_canPair_34 rfl rfl (Or.inl rfl) ?_
          refine mm_fin ?_ rfl
          unfold mm_b
          split <;> omega
        · refine mm_iconst dX11_canPair_29 rfl ?_
          refine mm_goto dX11_canPair_30 ?_
          refine mm_zret dX11_canPair_34 rfl rfl (Or.inr rfl) ?_
          refine mm_fin ?_ rfl
          unfold mm_b
          split <;> omega
theorem c_X11_fault (hR : mm_Rf M) (hx : mm_R x) : mm_Fn X Y_X11_fault 243 [(2, 1), (0, x)] M (0, if x = 0 then M 1 2 else if x = 1 then M 1 3 else -1) M := by
  refine mm_startF (ls := [(2, 1), (0, x)]) rfl ?_
  refine mm_iload_n dX11_fault_0 rfl rfl ?_
  refine mm_ifne dX11_fault_1 (by omega) (fun h1 => ?_) (fun h1 => ?_)
  · refine mm_iload_n dX11_fault_12 rfl rfl ?_
    refine mm_iconst dX11_fault_13 rfl ?_
    refine mm_icne dX11_fault_14 (by omega) (by omega) (fun h14 => ?_) (fun h14 => ?_)
    · refine mm_iconst dX11_fault_27 rfl ?_
      refine mm_iret dX11_fault_28 rfl rfl ?_
      refine mm_fin ?_ rfl
      first
      | (rw [if_pos (by omega)]; done)
      | (rw [if_neg (by omega), if_pos (by omega)]; done)
      | (rw [if_neg (by omega), if_neg (by omega)]; done)
    · refine mm_aload_n dX11_fault_17 rfl rfl ?_
      refine mm_getr dX11_fault_18 rfl fl_X11_10 (c := 0) rfl (by decide) rfl rfl (hR.at (c := 0) (i := 0) (v := 2) rfl (by decide)) ?_
      refine mm_get (kd := 0) dX11_fault_21 rfl fl_X11_129 (c := 1) rfl (by decide) rfl rfl ?_
      refine mm_goto dX11_fault_24 ?_
      refine mm_iret dX11_fault_28 rfl rfl ?_
      refine mm_fin ?_ rfl
      first
      | (rw [if_pos (by omega)]; done)
      | (rw [if_neg (by omega), if_pos (by omega)]; done)
      | (rw [if_neg (by omega), if_neg (by omega)]; done)
  · refine mm_aload_n dX11_fault_4 rfl rfl ?_
    refine mm_getr dX11_fault_5 rfl fl_X11_10 (c := 0) rfl (by decide) rfl rfl (hR.at (c := 0) (i := 0) (v := 2) rfl (by decide)) ?_
    refine mm_get (kd := 0) dX11_fault_8 rfl fl_X11_126 (c := 1) rfl (by decide) rfl rfl ?_
    refine mm_iret dX11_fault_11 rfl rfl ?_
    refine mm_fin ?_ rfl
    first
    | (rw [if_pos (by omega)]; done)
    | (rw [if_neg (by omega), if_pos (by omega)]; done)
    | (rw [if_neg (by omega), if_neg (by omega)]; done)
theorem c_X11_told (hR : mm_Rf M) (hK : mm_CK M) (hx : mm_R x) : mm_Fn X Y_X11_told 243 [(2, 1), (0, x)] M (0, if x = 11 then M 18 1 else ks_told (M 4) x) M := by
  refine mm_startF (ls := [(2, 1), (0, x)]) rfl ?_
  refine mm_iload_n dX11_told_0 rfl rfl ?_
  refine mm_bipush dX11_told_1 rfl (by decide) ?_
  refine mm_icne dX11_told_3 (by omega) (by omega) (fun h3 => ?_) (fun h3 => ?_)
  · refine mm_aload_n dX11_told_16 rfl rfl ?_
    refine mm_getr dX11_told_17 rfl fl_X11_19 (c := 0) rfl (by decide) rfl rfl (hR.at (c := 0) (i := 1) (v := 4) rfl (by decide)) ?_
    refine mm_iload_n dX11_told_20 rfl rfl ?_
    refine mm_V1i dX11_told_21 rfl lk_X11_135 (c := 3) rfl (by decide) rfl (by simp) rfl rfl rfl (c_X4_fact hR hK hx) ?_
    refine mm_iret dX11_told_24 rfl rfl ?_
    refine mm_fin ?_ rfl
    first
    | (rw [if_pos (by omega)]; done)
    | (rw [if_neg (by omega)]; done)
  · refine mm_aload_n dX11_told_6 rfl rfl ?_
    refine mm_getr dX11_told_7 rfl fl_X11_35 (c := 0) rfl (by decide) rfl rfl (hR.at (c := 0) (i := 3) (v := 19) rfl (by decide)) ?_
    refine mm_get (kd := 0) dX11_told_10 rfl fl_X11_132 (c := 18) rfl (by decide) rfl rfl ?_
    refine mm_goto dX11_told_13 ?_
    refine mm_iret dX11_told_24 rfl rfl ?_
    refine mm_fin ?_ rfl
    first
    | (rw [if_pos (by omega)]; done)
    | (rw [if_neg (by omega)]; done)
def kv_state (K : Nat → Int) (s x : Int) : Int := if ks_st K s then (if x = 0 then ks_col K s else if x = 1 then ks_row K s else if x = 2 then ks_rope K s else if x = 3 then ks_h K s else if x = 4 then ks_band K s else -1) else -1
theorem c_X11_state (hR : mm_Rf M) (hK : mm_CK M) (hs : mm_R s) (hx : mm_R x) : mm_Fn X Y_X11_state 243 [(2, 1), (0, s), (0, x)] M (0, kv_state (M 4) s x) M := by
  have hn := ks_nb hK.1
  unfold kv_state
  refine mm_startF (ls := [(2, 1), (0, s), (0, x)]) rfl ?_
  by_cases hst : ks_st (M 4) s
  · have ht := hK.tab hst
    have := hst.1
    have := hst.2
    rw [if_pos hst]
    refine mm_aload_n dX11_state_0 rfl rfl ?_
    refine mm_getr dX11_state_1 rfl fl_X11_19 (c := 0) rfl (by decide) rfl rfl (hR.at (c := 0) (i := 1) (v := 4) rfl (by decide)) ?_
    refine mm_iload_n dX11_state_4 rfl rfl ?_
    refine mm_V1i dX11_state_5 rfl lk_X11_139 (c := 3) rfl (by decide) rfl (by simp) rfl rfl rfl (c_X4_hasState hR hK hs) ?_
    refine mm_ifneb dX11_state_8 (fun h8 => ?_) (fun h8 => ?_)
    · refine mm_iload_n dX11_state_13 rfl rfl ?_
      have hsw : (x < 0 ∨ 4 < x) ∨ x = 0 ∨ x = 1 ∨ x = 2 ∨ x = 3 ∨ x = 4 := by omega
      rcases hsw with h14 | h14 | h14 | h14 | h14 | h14
      · refine mm_tsd (t := 98) dX11_state_14.1 (by omega) h14 (by decide) ?_
        refine mm_iconst dX11_state_98 rfl ?_
        refine mm_iret dX11_state_99 rfl rfl ?_
        refine mm_fin ?_ rfl
        first
        | (rw [ht.1, if_pos h14]; done)
        | (rw [ht.2.1, if_neg (by omega), if_pos h14]; done)
        | (rw [ht.2.2.1, if_neg (by omega), if_neg (by omega), if_pos h14]; done)
        | (rw [ht.2.2.2.1, if_neg (by omega), if_neg (by omega), if_neg (by omega), if_pos h14]; done)
        | (rw [ht.2.2.2.2, if_neg (by omega), if_neg (by omega), if_neg (by omega), if_neg (by omega), if_pos h14]; done)
        | (rw [if_neg (by omega), if_neg (by omega), if_neg (by omega), if_neg (by omega), if_neg (by omega)]; done)
      · refine mm_tsw (t := 48) (k := 0) dX11_state_14.1 (by omega) (by omega) (by omega) (by omega) rfl (by decide) ?_
        refine mm_aload_n dX11_state_48 rfl rfl ?_
        refine mm_getr dX11_state_49 rfl fl_X11_19 (c := 0) rfl (by decide) rfl rfl (hR.at (c := 0) (i := 1) (v := 4) rfl (by decide)) ?_
        refine mm_getr dX11_state_52 rfl fl_X11_142 (c := 3) rfl (by decide) rfl rfl (hR.at (c := 3) (i := 3) (v := 7) rfl (by decide)) ?_
        refine mm_iload_n dX11_state_55 rfl rfl ?_
        refine mm_iald dX11_state_56 rfl (c := 6) rfl (by decide) rfl (by omega) (by omega) ?_
        refine mm_iret dX11_state_57 rfl rfl ?_
        refine mm_fin ?_ rfl
        first
        | (rw [ht.1, if_pos h14]; done)
        | (rw [ht.2.1, if_neg (by omega), if_pos h14]; done)
        | (rw [ht.2.2.1, if_neg (by omega), if_neg (by omega), if_pos h14]; done)
        | (rw [ht.2.2.2.1, if_neg (by omega), if_neg (by omega), if_neg (by omega), if_pos h14]; done)
        | (rw [ht.2.2.2.2, if_neg (by omega), if_neg (by omega), if_neg (by omega), if_neg (by omega), if_pos h14]; done)
        | (rw [if_neg (by omega), if_neg (by omega), if_neg (by omega), if_neg (by omega), if_neg (by omega)]; done)
      · refine mm_tsw (t := 58) (k := 1) dX11_state_14.1 (by omega) (by omega) (by omega) (by omega) rfl (by decide) ?_
        refine mm_aload_n dX11_state_58 rfl rfl ?_
        refine mm_getr dX11_state_59 rfl fl_X11_19 (c := 0) rfl (by decide) rfl rfl (hR.at (c := 0) (i := 1) (v := 4) rfl (by decide)) ?_
        refine mm_getr dX11_state_62 rfl fl_X11_146 (c := 3) rfl (by decide) rfl rfl (hR.at (c := 3) (i := 4) (v := 8) rfl (by decide)) ?_
        refine mm_iload_n dX11_state_65 rfl rfl ?_
        refine mm_iald dX11_state_66 rfl (c := 7) rfl (by decide) rfl (by omega) (by omega) ?_
        refine mm_iret dX11_state_67 rfl rfl ?_
        refine mm_fin ?_ rfl
        first
        | (rw [ht.1, if_pos h14]; done)
        | (rw [ht.2.1, if_neg (by omega), if_pos h14]; done)
        | (rw [ht.2.2.1, if_neg (by omega), if_neg (by omega), if_pos h14]; done)
        | (rw [ht.2.2.2.1, if_neg (by omega), if_neg (by omega), if_neg (by omega), if_pos h14]; done)
        | (rw [ht.2.2.2.2, if_neg (by omega), if_neg (by omega), if_neg (by omega), if_neg (by omega), if_pos h14]; done)
        | (rw [if_neg (by omega), if_neg (by omega), if_neg (by omega), if_neg (by omega), if_neg (by omega)]; done)
      · refine mm_tsw (t := 68) (k := 2) dX11_state_14.1 (by omega) (by omega) (by omega) (by omega) rfl (by decide) ?_
        refine mm_aload_n dX11_state_68 rfl rfl ?_
        refine mm_getr dX11_state_69 rfl fl_X11_19 (c := 0) rfl (by decide) rfl rfl (hR.at (c := 0) (i := 1) (v := 4) rfl (by decide)) ?_
        refine mm_getr dX11_state_72 rfl fl_X11_149 (c := 3) rfl (by decide) rfl rfl (hR.at (c := 3) (i := 5) (v := 9) rfl (by decide)) ?_
        refine mm_iload_n dX11_state_75 rfl rfl ?_
        refine mm_iald dX11_state_76 rfl (c := 8) rfl (by decide) rfl (by omega) (by omega) ?_
        refine mm_iret dX11_state_77 rfl rfl ?_
        refine mm_fin ?_ rfl
        first
        | (rw [ht.1, if_pos h14]; done)
        | (rw [ht.2.1, if_neg (by omega), if_pos h14]; done)
        | (rw [ht.2.2.1, if_neg (by omega), if_neg (by omega), if_pos h14]; done)
        | (rw [ht.2.2.2.1, if_neg (by omega), if_neg (by omega), if_neg (by omega), if_pos h14]; done)
        | (rw [ht.2.2.2.2, if_neg (by omega), if_neg (by omega), if_neg (by omega), if_neg (by omega), if_pos h14]; done)
        | (rw [if_neg (by omega), if_neg (by omega), if_neg (by omega), if_neg (by omega), if_neg (by omega)]; done)
      · refine mm_tsw (t := 78) (k := 3) dX11_state_14.1 (by omega) (by omega) (by omega) (by omega) rfl (by decide) ?_
        refine mm_aload_n dX11_state_78 rfl rfl ?_
        refine mm_getr dX11_state_79 rfl fl_X11_19 (c := 0) rfl (by decide) rfl rfl (hR.at (c := 0) (i := 1) (v := 4) rfl (by decide)) ?_
        refine mm_getr dX11_state_82 rfl fl_X11_152 (c := 3) rfl (by decide) rfl rfl (hR.at (c := 3) (i := 6) (v := 10) rfl (by decide)) ?_
        refine mm_iload_n dX11_state_85 rfl rfl ?_
        refine mm_iald dX11_state_86 rfl (c := 9) rfl (by decide) rfl (by omega) (by omega) ?_
        refine mm_iret dX11_state_87 rfl rfl ?_
        refine mm_fin ?_ rfl
        first
        | (rw [ht.1, if_pos h14]; done)
        | (rw [ht.2.1, if_neg (by omega), if_pos h14]; done)
        | (rw [ht.2.2.1, if_neg (by omega), if_neg (by omega), if_pos h14]; done)
        | (rw [ht.2.2.2.1, if_neg (by omega), if_neg (by omega), if_neg (by omega), if_pos h14]; done)
        | (rw [ht.2.2.2.2, if_neg (by omega), if_neg (by omega), if_neg (by omega), if_neg (by omega), if_pos h14]; done)
        | (rw [if_neg (by omega), if_neg (by omega), if_neg (by omega), if_neg (by omega), if_neg (by omega)]; done)
      · refine mm_tsw (t := 88) (k := 4) dX11_state_14.1 (by omega) (by omega) (by omega) (by omega) rfl (by decide) ?_
        refine mm_aload_n dX11_state_88 rfl rfl ?_
        refine mm_getr dX11_state_89 rfl fl_X11_19 (c := 0) rfl (by decide) rfl rfl (hR.at (c := 0) (i := 1) (v := 4) rfl (by decide)) ?_
        refine mm_getr dX11_state_92 rfl fl_X11_155 (c := 3) rfl (by decide) rfl rfl (hR.at (c := 3) (i := 7) (v := 11) rfl (by decide)) ?_
        refine mm_iload_n dX11_state_95 rfl rfl ?_
        refine mm_iald dX11_state_96 rfl (c := 10) rfl (by decide) rfl (by omega) (by omega) ?_
        refine mm_iret dX11_state_97 rfl rfl ?_
        refine mm_fin ?_ rfl
        first
        | (rw [ht.1, if_pos h14]; done)
        | (rw [ht.2.1, if_neg (by omega), if_pos h14]; done)
        | (rw [ht.2.2.1, if_neg (by omega), if_neg (by omega), if_pos h14]; done)
        | (rw [ht.2.2.2.1, if_neg (by omega), if_neg (by omega), if_neg (by omega), if_pos h14]; done)
        | (rw [ht.2.2.2.2, if_neg (by omega), if_neg (by omega), if_neg (by omega), if_neg (by omega), if_pos h14]; done)
        | (rw [if_neg (by omega), if_neg (by omega), if_neg (by omega), if_neg (by omega), if_neg (by omega)]; done)
    · exact absurd hst h8
  · rw [if_neg hst]
    refine mm_aload_n dX11_state_0 rfl rfl ?_
    refine mm_getr dX11_state_1 rfl fl_X11_19 (c := 0) rfl (by decide) rfl rfl (hR.at (c := 0) (i := 1) (v := 4) rfl (by decide)) ?_
    refine mm_iload_n dX11_state_4 rfl rfl ?_
    refine mm_V1i dX11_state_5 rfl lk_X11_139 (c := 3) rfl (by decide) rfl (by simp) rfl rfl rfl (c_X4_hasState hR hK hs) ?_
    refine mm_ifneb dX11_state_8 (fun h8 => ?_) (fun h8 => ?_)
    · exact absurd h8 hst
    · refine mm_iconst dX11_state_11 rfl ?_
      refine mm_iret dX11_state_12 rfl rfl ?_
      exact mm_fin rfl rfl
def kv_leads (K : Nat → Int) (s a : Int) : Int := if ks_st K s ∧ ks_ac K a then (if ks_can K s a then ks_to K s a else -1) else -2
theorem c_X11_leads (hR : mm_Rf M) (hK : mm_CK M) (hs : mm_R s) (ha : mm_R a) : mm_Fn X Y_X11_leads 243 [(2, 1), (0, s), (0, a)] M (0, kv_leads (M 4) s a) M := by
  unfold kv_leads
  refine mm_startF (ls := [(2, 1), (0, s), (0, a)]) rfl ?_
  refine mm_aload_n dX11_leads_0 rfl rfl ?_
  refine mm_getr dX11_leads_1 rfl fl_X11_19 (c := 0) rfl (by decide) rfl rfl (hR.at (c := 0) (i := 1) (v := 4) rfl (by decide)) ?_
  refine mm_iload_n dX11_leads_4 rfl rfl ?_
  refine mm_V1i dX11_leads_5 rfl lk_X11_139 (c := 3) rfl (by decide) rfl (by simp) rfl rfl rfl (c_X4_hasState hR hK hs) ?_
  refine mm_ifeqb dX11_leads_8 (fun h8 => ?_) (fun h8 => ?_)
  · refine mm_bipush dX11_leads_34 rfl (by decide) ?_
    refine mm_iret dX11_leads_36 rfl rfl ?_
    refine mm_fin ?_ rfl
    first
    | (rw [if_pos (And.intro h8 h19)]; done)
    | (rw [if_neg (fun q => h8 q.1)]; done)
    | (rw [if_neg (fun q => h19 q.2)]; done)
  · refine mm_aload_n dX11_leads_11 rfl rfl ?_
    refine mm_getr dX11_leads_12 rfl fl_X11_19 (c := 0) rfl (by decide) rfl rfl (hR.at (c := 0) (i := 1) (v := 4) rfl (by decide)) ?_
    refine mm_iload_n dX11_leads_15 rfl rfl ?_
    refine mm_V1i dX11_leads_16 rfl lk_X11_158 (c := 3) rfl (by decide) rfl (by simp) rfl rfl rfl (c_X4_hasAct hR hK ha) ?_
    refine mm_ifeqb dX11_leads_19 (fun h19 => ?_) (fun h19 => ?_)
    · refine mm_bipush dX11_leads_34 rfl (by decide) ?_
      refine mm_iret dX11_leads_36 rfl rfl ?_
      refine mm_fin ?_ rfl
      first
      | (rw [if_pos (And.intro h8 h19)]; done)
      | (rw [if_neg (fun q => h8 q.1)]; done)
      | (rw [if_neg (fun q => h19 q.2)]; done)
    · refine mm_aload_n dX11_leads_22 rfl rfl ?_
      refine mm_getr dX11_leads_23 rfl fl_X11_19 (c := 0) rfl (by decide) rfl rfl (hR.at (c := 0) (i := 1) (v := 4) rfl (by decide)) ?_
      refine mm_iload_n dX11_leads_26 rfl rfl ?_
      refine mm_iload_n dX11_leads_27 rfl rfl ?_
      refine mm_V2i dX11_leads_28 rfl lk_X11_161 (c := 3) rfl (by decide) rfl (by simp) (by simp) rfl rfl rfl (c_X4_goal hR hK h8 h19) ?_
      refine mm_goto dX11_leads_31 ?_
      refine mm_iret dX11_leads_36 rfl rfl ?_
      refine mm_fin ?_ rfl
      first
      | (rw [if_pos (And.intro h8 h19)]; done)
      | (rw [if_neg (fun q => h8 q.1)]; done)
      | (rw [if_neg (fun q => h19 q.2)]; done)
def kv_pull (K : Nat → Int) (s a w : Int) : Int := if ks_st K s ∧ ks_ac K a ∧ 0 ≤ w ∧ w ≤ 60 then ks_p K s a w else -2
theorem c_X11_pull (hR : mm_Rf M) (hK : mm_CK M) (hs : mm_R s) (ha : mm_R a) (hw : mm_R w) : mm_Fn X Y_X11_pull 243 [(2, 1), (0, s), (0, a), (0, w)] M (0, kv_pull (M 4) s a w) M := by
  unfold kv_pull
  refine mm_startF (ls := [(2, 1), (0, s), (0, a), (0, w), (9, 0)]) rfl ?_
  refine mm_aload_n dX11_pull_0 rfl rfl ?_
  refine mm_getr dX11_pull_1 rfl fl_X11_19 (c := 0) rfl (by decide) rfl rfl (hR.at (c := 0) (i := 1) (v := 4) rfl (by decide)) ?_
  refine mm_iload_n dX11_pull_4 rfl rfl ?_
  refine mm_V1i dX11_pull_5 rfl lk_X11_139 (c := 3) rfl (by decide) rfl (by simp) rfl rfl rfl (c_X4_hasState hR hK hs) ?_
  refine mm_ifeqb dX11_pull_8 (fun h8 => ?_) (fun h8 => ?_)
  · refine mm_iconst dX11_pull_36 rfl ?_
    refine mm_istore dX11_pull_37 rfl (Nat.le_of_ble_eq_true rfl) rfl ?_
    refine mm_iload dX11_pull_39 rfl rfl ?_
    refine mm_ifeq dX11_pull_41 (by omega) (fun _ => ?_) (fun h => absurd (by decide) h)
    refine mm_bipush dX11_pull_57 rfl (by decide) ?_
    refine mm_iret dX11_pull_59 rfl rfl ?_
    refine mm_fin ?_ rfl
    first
    | (rw [if_pos ⟨h8, h19, h29⟩]; done)
    | (rw [if_neg (fun q => h8 q.1)]; done)
    | (rw [if_neg (fun q => h19 q.2.1)]; done)
    | (rw [if_neg (fun q => h29 q.2.2)]; done)
  · refine mm_aload_n dX11_pull_11 rfl rfl ?_
    refine mm_getr dX11_pull_12 rfl fl_X11_19 (c := 0) rfl (by decide) rfl rfl (hR.at (c := 0) (i := 1) (v := 4) rfl (by decide)) ?_
    refine mm_iload_n dX11_pull_15 rfl rfl ?_
    refine mm_V1i dX11_pull_16 rfl lk_X11_158 (c := 3) rfl (by decide) rfl (by simp) rfl rfl rfl (c_X4_hasAct hR hK ha) ?_
    refine mm_ifeqb dX11_pull_19 (fun h19 => ?_) (fun h19 => ?_)
    · refine mm_iconst dX11_pull_36 rfl ?_
      refine mm_istore dX11_pull_37 rfl (Nat.le_of_ble_eq_true rfl) rfl ?_
      refine mm_iload dX11_pull_39 rfl rfl ?_
      refine mm_ifeq dX11_pull_41 (by omega) (fun _ => ?_) (fun h => absurd (by decide) h)
      refine mm_bipush dX11_pull_57 rfl (by decide) ?_
      refine mm_iret dX11_pull_59 rfl rfl ?_
      refine mm_fin ?_ rfl
      first
      | (rw [if_pos ⟨h8, h19, h29⟩]; done)
      | (rw [if_neg (fun q => h8 q.1)]; done)
      | (rw [if_neg (fun q => h19 q.2.1)]; done)
      | (rw [if_neg (fun q => h29 q.2.2)]; done)
    · refine mm_iload_n dX11_pull_22 rfl rfl ?_
      refine mm_iconst dX11_pull_23 rfl ?_
      refine mm_bipush dX11_pull_24 rfl (by decide) ?_
      refine mm_S3i dX11_pull_26 rfl lk_X11_171 (by simp) (by simp) (by simp) rfl rfl rfl (c_X11_isWithin hw (by omega) (by omega)) ?_
      refine mm_ifeqb dX11_pull_29 (fun h29 => ?_) (fun h29 => ?_)
      · refine mm_iconst dX11_pull_36 rfl ?_
        refine mm_istore dX11_pull_37 rfl (Nat.le_of_ble_eq_true rfl) rfl ?_
        refine mm_iload dX11_pull_39 rfl rfl ?_
        refine mm_ifeq dX11_pull_41 (by omega) (fun _ => ?_) (fun h => absurd (by decide) h)
        refine mm_bipush dX11_pull_57 rfl (by decide) ?_
        refine mm_iret dX11_pull_59 rfl rfl ?_
        refine mm_fin ?_ rfl
        first
        | (rw [if_pos ⟨h8, h19, h29⟩]; done)
        | (rw [if_neg (fun q => h8 q.1)]; done)
        | (rw [if_neg (fun q => h19 q.2.1)]; done)
        | (rw [if_neg (fun q => h29 q.2.2)]; done)
      · refine mm_iconst dX11_pull_32 rfl ?_
        refine mm_goto dX11_pull_33 ?_
        refine mm_istore dX11_pull_37 rfl (Nat.le_of_ble_eq_true rfl) rfl ?_
        refine mm_iload dX11_pull_39 rfl rfl ?_
        refine mm_ifeq dX11_pull_41 (by omega) (fun h => absurd h (by decide)) (fun _ => ?_)
        refine mm_aload_n dX11_pull_44 rfl rfl ?_
        refine mm_getr dX11_pull_45 rfl fl_X11_19 (c := 0) rfl (by decide) rfl rfl (hR.at (c := 0) (i := 1) (v := 4) rfl (by decide)) ?_
        refine mm_iload_n dX11_pull_48 rfl rfl ?_
        refine mm_iload_n dX11_pull_49 rfl rfl ?_
        refine mm_iload_n dX11_pull_50 rfl rfl ?_
        refine mm_V3i dX11_pull_51 rfl lk_X11_195 (c := 3) rfl (by decide) rfl (by simp) (by simp) (by simp) rfl rfl rfl (c_X4_pullOf hR hK h8 h19 (by omega)) ?_
        refine mm_goto dX11_pull_54 ?_
        refine mm_iret dX11_pull_59 rfl rfl ?_
        refine mm_fin ?_ rfl
        first
        | (rw [if_pos ⟨h8, h19, h29⟩]; done)
        | (rw [if_neg (fun q => h8 q.1)]; done)
        | (rw [if_neg (fun q => h19 q.2.1)]; done)
        | (rw [if_neg (fun q => h29 q.2.2)]; done)
def kv_safe (K Lo Hi : Nat → Int) (s a h : Int) : Int := if ks_st K s ∧ ks_ac K a ∧ ks_hr h then mm_b (ks_safe K Lo Hi s a h) else -2
theorem c_X11_safe (hR : mm_Rf M) (hK : mm_CK M) (hA : mm_CA M) (hs : mm_R s) (ha : mm_R a) (hh : mm_R h) : mm_Fn X Y_X11_safe 243 [(2, 1), (0, s), (0, a), (0, h)] M (0, kv_safe (M 4) (M 16) (M 17) s a h) M := by
  unfold kv_safe
  refine mm_startF (ls := [(2, 1), (0, s), (0, a), (0, h)]) rfl ?_
  refine mm_aload_n dX11_safe_0 rfl rfl ?_
  refine mm_iload_n dX11_safe_1 rfl rfl ?_
  refine mm_iload_n dX11_safe_2 rfl rfl ?_
  refine mm_iload_n dX11_safe_3 rfl rfl ?_
  refine mm_V3i dX11_safe_4 rfl lk_X11_198 (c := 0) rfl (by decide) rfl (by simp) (by simp) (by simp) rfl rfl rfl (c_X11_canAsk hR hK hs ha hh) ?_
  refine mm_ifneb dX11_safe_7 (fun h7 => ?_) (fun h7 => ?_)
  · refine mm_aload_n dX11_safe_13 rfl rfl ?_
    refine mm_getr dX11_safe_14 rfl fl_X11_28 (c := 0) rfl (by decide) rfl rfl (hR.at (c := 0) (i := 2) (v := 12) rfl (by decide)) ?_
    refine mm_iload_n dX11_safe_17 rfl rfl ?_
    refine mm_iload_n dX11_safe_18 rfl rfl ?_
    refine mm_iload_n dX11_safe_19 rfl rfl ?_
    refine mm_V3i dX11_safe_20 rfl lk_X11_201 (c := 11) rfl (by decide) rfl (by simp) (by simp) (by simp) rfl rfl rfl (c_X0_isSafe hR hK hA h7.1 h7.2.1 h7.2.2) ?_
    refine mm_ifeqb dX11_safe_23 (fun h23 => ?_) (fun h23 => ?_)
    · refine mm_iconst dX11_safe_30 rfl ?_
      refine mm_iret dX11_safe_31 rfl rfl ?_
      refine mm_fin ?_ rfl
      first
      | (rw [if_pos h7]; first | exact mm_b1 h23 | exact mm_b0 h23)
      | (rw [if_neg h7]; done)
    · refine mm_iconst dX11_safe_26 rfl ?_
      refine mm_goto dX11_safe_27 ?_
      refine mm_iret dX11_safe_31 rfl rfl ?_
      refine mm_fin ?_ rfl
      first
      | (rw [if_pos h7]; first | exact mm_b1 h23 | exact mm_b0 h23)
      | (rw [if_neg h7]; done)
  · refine mm_bipush dX11_safe_10 rfl (by decide) ?_
    refine mm_iret dX11_safe_12 rfl rfl ?_
    refine mm_fin ?_ rfl
    first
    | (rw [if_pos h7]; first | exact mm_b1 h23 | exact mm_b0 h23)
    | (rw [if_neg h7]; done)
def kv_gives (K Lo Hi : Nat → Int) (s a h : Int) : Int := if ks_st K s ∧ ks_ac K a ∧ ks_hr h then ks_sure K Lo Hi s a h else -100000000
theorem c_X11_gives (hR : mm_Rf M) (hK : mm_CK M) (hA : mm_CA M) (hs : mm_R s) (ha : mm_R a) (hh : mm_R h) : mm_Fn X Y_X11_gives 243 [(2, 1), (0, s), (0, a), (0, h)] M (0, kv_gives (M 4) (M 16) (M 17) s a h) M := by
  unfold kv_gives
  refine mm_startF (ls := [(2, 1), (0, s), (0, a), (0, h)]) rfl ?_
  refine mm_aload_n dX11_gives_0 rfl rfl ?_
  refine mm_iload_n dX11_gives_1 rfl rfl ?_
  refine mm_iload_n dX11_gives_2 rfl rfl ?_
  refine mm_iload_n dX11_gives_3 rfl rfl ?_
  refine mm_V3i dX11_gives_4 rfl lk_X11_198 (c := 0) rfl (by decide) rfl (by simp) (by simp) (by simp) rfl rfl rfl (c_X11_canAsk hR hK hs ha hh) ?_
  refine mm_ifeqb dX11_gives_7 (fun h7 => ?_) (fun h7 => ?_)
  · refine mm_ldc dX11_gives_23 rfl kc_X11_207 ?_
    refine mm_iret dX11_gives_25 rfl rfl ?_
    refine mm_fin ?_ rfl
    first
    | (rw [if_pos h7]; done)
    | (rw [if_neg h7]; done)
  · refine mm_aload_n dX11_gives_10 rfl rfl ?_
    refine mm_getr dX11_gives_11 rfl fl_X11_28 (c := 0) rfl (by decide) rfl rfl (hR.at (c := 0) (i := 2) (v := 12) rfl (by decide)) ?_
    refine mm_iload_n dX11_gives_14 rfl rfl ?_
    refine mm_iload_n dX11_gives_15 rfl rfl ?_
    refine mm_iload_n dX11_gives_16 rfl rfl ?_
    refine mm_V3i dX11_gives_17 rfl lk_X11_204 (c := 11) rfl (by decide) rfl (by simp) (by simp) (by simp) rfl rfl rfl (c_X0_sureWork hR hK hA h7.1 h7.2.1 h7.2.2) ?_
    refine mm_goto dX11_gives_20 ?_
    refine mm_iret dX11_gives_25 rfl rfl ?_
    refine mm_fin ?_ rfl
    first
    | (rw [if_pos h7]; done)
    | (rw [if_neg h7]; done)
theorem c_X11_tired (hR : mm_Rf M) (hx : mm_R x) : mm_Fn X Y_X11_tired 243 [(2, 1), (0, x)] M (0, if 0 ≤ x ∧ x ≤ 1000000 then M 0 13 else -2) (if 0 ≤ x ∧ x ≤ 1000000 then mm_up M 0 13 x else M) := by
  refine mm_startF (ls := [(2, 1), (0, x), (9, 0)]) rfl ?_
  refine mm_iload_n dX11_tired_0 rfl rfl ?_
  refine mm_iconst dX11_tired_1 rfl ?_
  refine mm_ldcw dX11_tired_2 rfl kc_X11_281 ?_
  refine mm_S3i dX11_tired_5 rfl lk_X11_171 (by simp) (by simp) (by simp) rfl rfl rfl (c_X11_isWithin (by omega) (by omega) (by omega)) ?_
  refine mm_ifneb dX11_tired_8 (fun h8 => ?_) (fun h8 => ?_)
  · refine mm_aload_n dX11_tired_14 rfl rfl ?_
    refine mm_get (kd := 0) dX11_tired_15 rfl fl_X11_282 (c := 0) rfl (by decide) rfl rfl ?_
    refine mm_istore_n dX11_tired_18 rfl (Nat.le_of_ble_eq_true rfl) rfl ?_
    refine mm_aload_n dX11_tired_19 rfl rfl ?_
    refine mm_iload_n dX11_tired_20 rfl rfl ?_
    refine mm_puti dX11_tired_21 rfl fl_X11_282 (c := 0) rfl (by decide) rfl rfl (fun M21 hM21 => ?_)
    have hR21 : mm_Rf M21 := by rw [hM21]; exact hR.up rfl
    refine mm_iload_n dX11_tired_24 rfl rfl ?_
    refine mm_iret dX11_tired_25 rfl rfl ?_
    exact mm_fin (by rw [if_pos h8]) (by rw [if_pos h8, hM21])
  · refine mm_bipush dX11_tired_11 rfl (by decide) ?_
    refine mm_iret dX11_tired_13 rfl rfl ?_
    exact mm_fin (by rw [if_neg h8]) (by rw [if_neg h8])
theorem c_X11_hidden (hR : mm_Rf M) (hx : mm_R x) : mm_Fn X Y_X11_hidden 243 [(2, 1), (0, x)] M (0, if 0 ≤ x ∧ x ≤ 20 then M 0 14 else -2) (if 0 ≤ x ∧ x ≤ 20 then mm_up M 0 14 x else M) := by
  refine mm_startF (ls := [(2, 1), (0, x), (9, 0)]) rfl ?_
  refine mm_iload_n dX11_hidden_0 rfl rfl ?_
  refine mm_iconst dX11_hidden_1 rfl ?_
  refine mm_bipush dX11_hidden_2 rfl (by decide) ?_
  refine mm_S3i dX11_hidden_4 rfl lk_X11_171 (by simp) (by simp) (by simp) rfl rfl rfl (c_X11_isWithin (by omega) (by omega) (by omega)) ?_
  refine mm_ifneb dX11_hidden_7 (fun h7 => ?_) (fun h7 => ?_)
  · refine mm_aload_n dX11_hidden_13 rfl rfl ?_
    refine mm_get (kd := 0) dX11_hidden_14 rfl fl_X11_94 (c := 0) rfl (by decide) rfl rfl ?_
    refine mm_istore_n dX11_hidden_17 rfl (Nat.le_of_ble_eq_true rfl) rfl ?_
    refine mm_aload_n dX11_hidden_18 rfl rfl ?_
    refine mm_iload_n dX11_hidden_19 rfl rfl ?_
    refine mm_puti dX11_hidden_20 rfl fl_X11_94 (c := 0) rfl (by decide) rfl rfl (fun M20 hM20 => ?_)
    have hR20 : mm_Rf M20 := by rw [hM20]; exact hR.up rfl
    refine mm_iload_n dX11_hidden_23 rfl rfl ?_
    refine mm_iret dX11_hidden_24 rfl rfl ?_
    exact mm_fin (by rw [if_pos h7]) (by rw [if_pos h7, hM20])
  · refine mm_bipush dX11_hidden_10 rfl (by decide) ?_
    refine mm_iret dX11_hidden_12 rfl rfl ?_
    exact mm_fin (by rw [if_neg h7]) (by rw [if_neg h7])
def kv_pulls (K Lo : Nat → Int) (sh s a h : Int) : Int := if ks_st K s ∧ ks_ac K a ∧ ks_hr h then ks_p K s a (ks_wi Lo K s h * sh / 10) else -2
theorem c_X11_pulls (hR : mm_Rf M) (hK : mm_CK M) (hA : mm_CA M) (hsh : 0 ≤ M 0 14 ∧ M 0 14 ≤ 20) (hs : mm_R s) (ha : mm_R a) (hh : mm_R h) : mm_Fn X Y_X11_pulls 243 [(2, 1), (0, s), (0, a), (0, h)] M (0, kv_pulls (M 4) (M 16) (M 0 14) s a h) M := by
  unfold kv_pulls
  refine mm_startF (ls := [(2, 1), (0, s), (0, a), (0, h)]) rfl ?_
  refine mm_aload_n dX11_pulls_0 rfl rfl ?_
  refine mm_iload_n dX11_pulls_1 rfl rfl ?_
  refine mm_iload_n dX11_pulls_2 rfl rfl ?_
  refine mm_iload_n dX11_pulls_3 rfl rfl ?_
  refine mm_V3i dX11_pulls_4 rfl lk_X11_198 (c := 0) rfl (by decide) rfl (by simp) (by simp) (by simp) rfl rfl rfl (c_X11_canAsk hR hK hs ha hh) ?_
  refine mm_ifeqb dX11_pulls_7 (fun h7 => ?_) (fun h7 => ?_)
  · refine mm_bipush dX11_pulls_27 rfl (by decide) ?_
    refine mm_iret dX11_pulls_29 rfl rfl ?_
    refine mm_fin ?_ rfl
    first
    | (rw [if_pos h7]; done)
    | (rw [if_neg h7]; done)
  · refine mm_aload_n dX11_pulls_10 rfl rfl ?_
    refine mm_getr dX11_pulls_11 rfl fl_X11_28 (c := 0) rfl (by decide) rfl rfl (hR.at (c := 0) (i := 2) (v := 12) rfl (by decide)) ?_
    refine mm_iload_n dX11_pulls_14 rfl rfl ?_
    refine mm_iload_n dX11_pulls_15 rfl rfl ?_
    refine mm_iload_n dX11_pulls_16 rfl rfl ?_
    refine mm_aload_n dX11_pulls_17 rfl rfl ?_
    refine mm_get (kd := 0) dX11_pulls_18 rfl fl_X11_94 (c := 0) rfl (by decide) rfl rfl ?_
    refine mm_V4i dX11_pulls_21 rfl lk_X11_350 (c := 11) rfl (by decide) rfl (by simp) (by simp) (by simp) (by simp) rfl rfl rfl (c_X0_sharedPull hR hK hA h7.1 h7.2.1 h7.2.2 hsh) ?_
    refine mm_goto dX11_pulls_24 ?_
    refine mm_iret dX11_pulls_29 rfl rfl ?_
    refine mm_fin ?_ rfl
    first
    | (rw [if_pos h7]; done)
    | (rw [if_neg h7]; done)
theorem c_X11_fielded (hR : mm_Rf M) : mm_Fn X Y_X11_fielded 243 [(2, 1)] M (0, M 144 2) M := by
  refine mm_startF (ls := [(2, 1)]) rfl ?_
  refine mm_aload_n dX11_fielded_0 rfl rfl ?_
  refine mm_getr dX11_fielded_1 rfl fl_X11_76 (c := 0) rfl (by decide) rfl rfl (hR.at (c := 0) (i := 9) (v := 145) rfl (by decide)) ?_
  refine mm_get (kd := 0) dX11_fielded_4 rfl fl_X11_340 (c := 144) rfl (by decide) rfl rfl ?_
  refine mm_iret dX11_fielded_7 rfl rfl ?_
  exact mm_fin rfl rfl
end
end
