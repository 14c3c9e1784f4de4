section
variable {X : mm_X} {M : mm_M} {s a h g b p t e sh lo hi : Int}
theorem c_X0_pullBy0 (hR : mm_Rf M) (hK : mm_CK M) (hA : mm_CA M) (hs : ks_st (M 4) s) (ha : ks_ac (M 4) a) (hh : ks_hr h) : mm_Fn X Y_X0_pullBy 243 [(2, 12), (0, s), (0, a), (0, h), (0, 0)] M (0, ks_p (M 4) s a (ks_wi (M 16) (M 4) s h)) M := c_X0_pullBy (P := False) hR hK hA hs ha hh
theorem c_X0_pullBy1 (hR : mm_Rf M) (hK : mm_CK M) (hA : mm_CA M) (hs : ks_st (M 4) s) (ha : ks_ac (M 4) a) (hh : ks_hr h) : mm_Fn X Y_X0_pullBy 243 [(2, 12), (0, s), (0, a), (0, h), (0, 1)] M (0, ks_p (M 4) s a (ks_wi (M 17) (M 4) s h)) M := c_X0_pullBy (P := True) hR hK hA hs ha hh
theorem c_X0_windIn0 (hR : mm_Rf M) (hK : mm_CK M) (hs : ks_st (M 4) s) (hh : ks_hr h) : mm_Fn X Y_X0_windIn 243 [(2, 12), (0, s), (0, h), (0, 0)] M (0, ks_wi (M 16) (M 4) s h) M := c_X0_windIn (P := False) hR hK hs hh
theorem ks_pw {K : Nat → Int} (h : mm_KV K) {s a w : Int} (ha : ks_ac K a) (hw : 0 ≤ w ∧ w ≤ 60) : 0 ≤ ks_p K s a w ∧ ks_p K s a w ≤ 1425600 := by
  have hc := ks_colb h s
  have hsl := ks_slb h ha
  have h0 := h.1
  have hb := ks_pab h (sl := a / 15) (c := ks_col K s) (w := w) ⟨hsl.1, hsl.2.2⟩ (by omega) (by omega)
  obtain ⟨-, -, -, -, -, -, -, -, h8, -⟩ := h
  unfold ks_p ks_pa
  generalize K (20 + (a / 15).toNat) = u at hb ⊢
  generalize K (30 + (ks_col K s).toNat) = v at hb ⊢
  have c1 := mm_mulb (a := u) (b := w) (A := 99) (B := 60) hb.1.1 hb.1.2 hw.1 hw.2
  have c2 := mm_mulb (a := u * w) (b := w) (A := 99 * 60) (B := 60) c1.1 c1.2 hw.1 hw.2
  have c3 := mm_mulb (a := u * w * w) (b := v) (A := 99 * 60 * 60) (B := 100) c2.1 c2.2 hb.2.1.1 hb.2.1.2
  have c4 : 0 ≤ u * w * w * v / 100 ∧ u * w * w * v / 100 ≤ 356400 := by omega
  have c5 := mm_mulb (a := u * w * w * v / 100) (b := K 8) (A := 356400) (B := 400) c4.1 c4.2 (by omega) h8.2
  split <;> omega
theorem c_X0_isSafe (hR : mm_Rf M) (hK : mm_CK M) (hA : mm_CA M) (hs : ks_st (M 4) s) (ha : ks_ac (M 4) a) (hh : ks_hr h) : mm_Fn X Y_X0_isSafe 243 [(2, 12), (0, s), (0, a), (0, h)] M (0, mm_b (ks_safe (M 4) (M 16) (M 17) s a h)) M := by
  have hw := hA.wi hK.1 hs hh
  have p1 := ks_pw hK.1 (s := s) ha hw.1
  have p2 := ks_pw hK.1 (s := s) ha hw.2
  have hg : ks_can (M 4) s a → 0 ≤ ks_to (M 4) s a ∧ ks_to (M 4) s a < 288 := fun q => by
    have := ks_to_st hK.1 hs q
    have := ks_nb hK.1
    unfold ks_st at *
    omega
  refine mm_startF (ls := [(2, 12), (0, s), (0, a), (0, h)]) rfl ?_
  by_cases hcan : ks_can (M 4) s a
  · have hg := hg hcan
    refine mm_aload_n dX0_isSafe_0 rfl rfl ?_
    refine mm_getr dX0_isSafe_1 rfl fl_X0_32 (c := 11) rfl (by decide) rfl rfl (hR.at (c := 11) (i := 0) (v := 4) rfl (by decide)) ?_
    refine mm_iload_n dX0_isSafe_4 rfl rfl ?_
    refine mm_iload_n dX0_isSafe_5 rfl rfl ?_
    refine mm_V2i dX0_isSafe_6 rfl lk_X0_75 (c := 3) rfl (by decide) rfl (by simp) (by simp) rfl rfl rfl (c_X4_goal hR hK hs ha) ?_
    rw [if_pos hcan]
    refine mm_iconst dX0_isSafe_9 rfl ?_
    refine mm_iceq dX0_isSafe_10 (by omega) (by omega) (fun h10 => ?_) (fun h10 => ?_)
    · exfalso; omega
    · refine mm_aload_n dX0_isSafe_13 rfl rfl ?_
      refine mm_getr dX0_isSafe_14 rfl fl_X0_32 (c := 11) rfl (by decide) rfl rfl (hR.at (c := 11) (i := 0) (v := 4) rfl (by decide)) ?_
      refine mm_aload_n dX0_isSafe_17 rfl rfl ?_
      refine mm_iload_n dX0_isSafe_18 rfl rfl ?_
      refine mm_iload_n dX0_isSafe_19 rfl rfl ?_
      refine mm_iload_n dX0_isSafe_20 rfl rfl ?_
      refine mm_iconst dX0_isSafe_21 rfl ?_
      refine mm_V4i dX0_isSafe_22 rfl lk_X0_78 (c := 11) rfl (by decide) rfl (by simp) (by simp) (by simp) (by simp) rfl rfl rfl (c_X0_pullBy0 hR hK hA hs ha hh) ?_
      refine mm_aload_n dX0_isSafe_25 rfl rfl ?_
      refine mm_iload_n dX0_isSafe_26 rfl rfl ?_
      refine mm_iload_n dX0_isSafe_27 rfl rfl ?_
      refine mm_iload_n dX0_isSafe_28 rfl rfl ?_
      refine mm_iconst dX0_isSafe_29 rfl ?_
      refine mm_V4i dX0_isSafe_30 rfl lk_X0_78 (c := 11) rfl (by decide) rfl (by simp) (by simp) (by simp) (by simp) rfl rfl rfl (c_X0_pullBy1 hR hK hA hs ha hh) ?_
      refine mm_V2i dX0_isSafe_33 rfl lk_X0_82 (c := 3) rfl (by decide) rfl (by simp) (by simp) rfl rfl rfl (c_X4_bears hR hK (by omega) (by omega)) ?_
      refine mm_ifeqb dX0_isSafe_36 (fun h36 => ?_) (fun h36 => ?_)
      · refine mm_iconst dX0_isSafe_43 rfl ?_
        refine mm_zret dX0_isSafe_44 rfl rfl (Or.inl rfl) ?_
        exact mm_fin (by unfold mm_b; first | (rw [if_pos ⟨hcan, h36⟩]; done) | (rw [if_neg (fun q => h36 q.2)])) rfl
      · refine mm_iconst dX0_isSafe_39 rfl ?_
        refine mm_goto dX0_isSafe_40 ?_
        refine mm_zret dX0_isSafe_44 rfl rfl (Or.inr rfl) ?_
        exact mm_fin (by unfold mm_b; first | (rw [if_pos ⟨hcan, h36⟩]; done) | (rw [if_neg (fun q => h36 q.2)])) rfl
  · refine mm_aload_n dX0_isSafe_0 rfl rfl ?_
    refine mm_getr dX0_isSafe_1 rfl fl_X0_32 (c := 11) rfl (by decide) rfl rfl (hR.at (c := 11) (i := 0) (v := 4) rfl (by decide)) ?_
    refine mm_iload_n dX0_isSafe_4 rfl rfl ?_
    refine mm_iload_n dX0_isSafe_5 rfl rfl ?_
    refine mm_V2i dX0_isSafe_6 rfl lk_X0_75 (c := 3) rfl (by decide) rfl (by simp) (by simp) rfl rfl rfl (c_X4_goal hR hK hs ha) ?_
    rw [if_neg hcan]
    refine mm_iconst dX0_isSafe_9 rfl ?_
    refine mm_iceq dX0_isSafe_10 (by omega) (by omega) (fun h10 => ?_) (fun h10 => ?_)
    · refine mm_iconst dX0_isSafe_43 rfl ?_
      refine mm_zret dX0_isSafe_44 rfl rfl (Or.inl rfl) ?_
      exact mm_fin (by unfold mm_b; rw [if_neg (fun q => hcan q.1)]) rfl
    · exact absurd rfl h10
theorem c_X0_sureWork (hR : mm_Rf M) (hK : mm_CK M) (hA : mm_CA M) (hs : ks_st (M 4) s) (ha : ks_ac (M 4) a) (hh : ks_hr h) : mm_Fn X Y_X0_sureWork 243 [(2, 12), (0, s), (0, a), (0, h)] M (0, ks_sure (M 4) (M 16) (M 17) s a h) M := by
  have hw := hA.wi hK.1 hs hh
  have p1 := ks_pw hK.1 (s := s) ha hw.1
  have p2 := ks_pw hK.1 (s := s) ha hw.2
  have hd := ks_drb ha.1
  have hsl := ks_slb hK.1 ha
  refine mm_startF (ls := [(2, 12), (0, s), (0, a), (0, h), (9, 0)]) rfl ?_
  refine mm_iload_n dX0_sureWork_0 rfl rfl ?_
  refine mm_S1i dX0_sureWork_1 rfl lk_X0_86 (by simp) rfl rfl rfl (c_X4_drumOf (by omega)) ?_
  refine mm_istore dX0_sureWork_4 rfl (Nat.le_of_ble_eq_true rfl) rfl ?_
  refine mm_aload_n dX0_sureWork_6 rfl rfl ?_
  refine mm_getr dX0_sureWork_7 rfl fl_X0_32 (c := 11) rfl (by decide) rfl rfl (hR.at (c := 11) (i := 0) (v := 4) rfl (by decide)) ?_
  refine mm_iload dX0_sureWork_10 rfl rfl ?_
  refine mm_aload_n dX0_sureWork_12 rfl rfl ?_
  refine mm_iload_n dX0_sureWork_13 rfl rfl ?_
  refine mm_iload_n dX0_sureWork_14 rfl rfl ?_
  refine mm_iload_n dX0_sureWork_15 rfl rfl ?_
  refine mm_iload dX0_sureWork_16 rfl rfl ?_
  refine mm_iconst dX0_sureWork_18 rfl ?_
  refine mm_icne dX0_sureWork_19 (by omega) (by omega) (fun h19 => ?_) (fun h19 => ?_)
  · refine mm_iconst dX0_sureWork_26 rfl ?_
    refine mm_V4i dX0_sureWork_27 rfl lk_X0_78 (c := 11) rfl (by decide) rfl (by simp) (by simp) (by simp) (by simp) rfl rfl rfl (c_X0_pullBy0 hR hK hA hs ha hh) ?_
    refine mm_V2i dX0_sureWork_30 rfl lk_X0_90 (c := 3) rfl (by decide) rfl (by simp) (by simp) rfl rfl rfl (c_X4_workOf hR hK hd p1) ?_
    refine mm_iret dX0_sureWork_33 rfl rfl ?_
    exact mm_fin (by unfold ks_sure; rw [if_neg h19]) rfl
  · refine mm_iconst dX0_sureWork_22 rfl ?_
    refine mm_goto dX0_sureWork_23 ?_
    refine mm_V4i dX0_sureWork_27 rfl lk_X0_78 (c := 11) rfl (by decide) rfl (by simp) (by simp) (by simp) (by simp) rfl rfl rfl (c_X0_pullBy1 hR hK hA hs ha hh) ?_
    refine mm_V2i dX0_sureWork_30 rfl lk_X0_90 (c := 3) rfl (by decide) rfl (by simp) (by simp) rfl rfl rfl (c_X4_workOf hR hK hd p2) ?_
    refine mm_iret dX0_sureWork_33 rfl rfl ?_
    exact mm_fin (by unfold ks_sure; rw [if_pos h19]) rfl
theorem c_X0_sharedPull (hR : mm_Rf M) (hK : mm_CK M) (hA : mm_CA M) (hs : ks_st (M 4) s) (ha : ks_ac (M 4) a) (hh : ks_hr h) (hsh : 0 ≤ sh ∧ sh ≤ 20) : mm_Fn X Y_X0_sharedPull 243 [(2, 12), (0, s), (0, a), (0, h), (0, sh)] M (0, ks_p (M 4) s a (ks_wi (M 16) (M 4) s h * sh / 10)) M := by
  have hw := hA.wi hK.1 hs hh
  have hm := mm_mulb (a := ks_wi (M 16) (M 4) s h) (b := sh) (A := 60) (B := 20) hw.1.1 hw.1.2 hsh.1 hsh.2
  refine mm_startF (ls := [(2, 12), (0, s), (0, a), (0, h), (0, sh)]) rfl ?_
  refine mm_aload_n dX0_sharedPull_0 rfl rfl ?_
  refine mm_getr dX0_sharedPull_1 rfl fl_X0_32 (c := 11) rfl (by decide) rfl rfl (hR.at (c := 11) (i := 0) (v := 4) rfl (by decide)) ?_
  refine mm_iload_n dX0_sharedPull_4 rfl rfl ?_
  refine mm_iload_n dX0_sharedPull_5 rfl rfl ?_
  refine mm_aload_n dX0_sharedPull_6 rfl rfl ?_
  refine mm_iload_n dX0_sharedPull_7 rfl rfl ?_
  refine mm_iload_n dX0_sharedPull_8 rfl rfl ?_
  refine mm_iconst dX0_sharedPull_9 rfl ?_
  refine mm_V3i dX0_sharedPull_10 rfl lk_X0_67 (c := 11) rfl (by decide) rfl (by simp) (by simp) (by simp) rfl rfl rfl (c_X0_windIn0 hR hK hs hh) ?_
  refine mm_iload dX0_sharedPull_13 rfl rfl ?_
  refine mm_imul dX0_sharedPull_15 rfl ?_
  refine mm_bipush dX0_sharedPull_16 rfl (by decide) ?_
  refine mm_idiv dX0_sharedPull_18 rfl (by omega) (by omega) (by omega) ?_
  rw [mm_tdiv hm.1]
  refine mm_V3i dX0_sharedPull_19 rfl lk_X0_71 (c := 3) rfl (by decide) rfl (by simp) (by simp) (by simp) rfl rfl rfl (c_X4_pullOf hR hK hs ha (by omega)) ?_
  refine mm_iret dX0_sharedPull_22 rfl rfl ?_
  exact mm_fin rfl rfl
theorem c_X0_isAlike (hR : mm_Rf M) (hA : mm_CA M) (hh : ks_hr h) (hg : ks_hr g) : mm_Fn X Y_X0_isAlike 243 [(2, 12), (0, h), (0, g)] M (0, mm_b (∀ b : Nat, b < 5 → M 16 (ks_pl h b) = M 16 (ks_pl g b) ∧ M 17 (ks_pl h b) = M 17 (ks_pl g b))) M := by
  refine mm_startF (ls := [(2, 12), (0, h), (0, g), (9, 0), (9, 0), (9, 0)]) rfl ?_
  have loop : ∀ (k : Nat) (b : Nat) (u v : mm_V), b + k = 5 → (∀ j : Nat, j < b → M 16 (ks_pl h j) = M 16 (ks_pl g j) ∧ M 17 (ks_pl h j) = M 17 (ks_pl g j)) →
      mm_J X Y_X0_isAlike 243 243 243 2 [(2, 12), (0, h), (0, g), (0, (b : Int)), u, v] [] M (fun r' M'' => r' = (0, mm_b (∀ b : Nat, b < 5 → M 16 (ks_pl h b) = M 16 (ks_pl g b) ∧ M 17 (ks_pl h b) = M 17 (ks_pl g b))) ∧ M'' = M) := by
    intro k
    induction k with
    | zero =>
      intro b u v hb hj
      refine mm_iload_n dX0_isAlike_2 rfl rfl ?_
      refine mm_iconst dX0_isAlike_3 rfl ?_
      refine mm_icge dX0_isAlike_4 (by omega) (by omega) (fun h4 => ?_) (fun h4 => ?_)
      · refine mm_iconst dX0_isAlike_63 rfl ?_
        refine mm_zret dX0_isAlike_64 rfl rfl (Or.inr rfl) ?_
        exact mm_fin (by rw [mm_b_t (fun j hj' => hj j (by omega))]) rfl
      · exfalso; omega
    | succ k ih =>
      intro b u v hb hj
      have q1 := hA _ (ks_plb hh (b := (b : Int)) (by omega))
      have q2 := hA _ (ks_plb hg (b := (b : Int)) (by omega))
      refine mm_iload_n dX0_isAlike_2 rfl rfl ?_
      refine mm_iconst dX0_isAlike_3 rfl ?_
      refine mm_icge dX0_isAlike_4 (by (first | omega | (unfold ks_pl; omega))) (by (first | omega | (unfold ks_pl; omega))) (fun h4 => ?_) (fun h4 => ?_)
      · exfalso; omega
      · refine mm_iload_n dX0_isAlike_7 rfl rfl ?_
        refine mm_iload_n dX0_isAlike_8 rfl rfl ?_
        refine mm_S2i dX0_isAlike_9 rfl lk_X0_48 (by simp) (by simp) rfl rfl rfl (c_X0_placeOf) ?_
        refine mm_istore dX0_isAlike_12 rfl (Nat.le_of_ble_eq_true rfl) rfl ?_
        refine mm_iload_n dX0_isAlike_14 rfl rfl ?_
        refine mm_iload_n dX0_isAlike_15 rfl rfl ?_
        refine mm_S2i dX0_isAlike_16 rfl lk_X0_48 (by simp) (by simp) rfl rfl rfl (c_X0_placeOf) ?_
        refine mm_istore dX0_isAlike_19 rfl (Nat.le_of_ble_eq_true rfl) rfl ?_
        refine mm_aload_n dX0_isAlike_21 rfl rfl ?_
        refine mm_getr dX0_isAlike_22 rfl fl_X0_26 (c := 11) rfl (by decide) rfl rfl (hR.at (c := 11) (i := 7) (v := 17) rfl (by decide)) ?_
        refine mm_iload dX0_isAlike_25 rfl rfl ?_
        refine mm_ialk (k0 := ks_pl h b) dX0_isAlike_27 rfl (c := 16) rfl (by decide) rfl (by (first | omega | (unfold ks_pl; omega))) (by (first | omega | (unfold ks_pl; omega))) ?_
        refine mm_aload_n dX0_isAlike_28 rfl rfl ?_
        refine mm_getr dX0_isAlike_29 rfl fl_X0_26 (c := 11) rfl (by decide) rfl rfl (hR.at (c := 11) (i := 7) (v := 17) rfl (by decide)) ?_
        refine mm_iload dX0_isAlike_32 rfl rfl ?_
        refine mm_ialk (k0 := ks_pl g b) dX0_isAlike_34 rfl (c := 16) rfl (by decide) rfl (by (first | omega | (unfold ks_pl; omega))) (by (first | omega | (unfold ks_pl; omega))) ?_
        refine mm_icne dX0_isAlike_35 (by (first | omega | (unfold ks_pl; omega))) (by (first | omega | (unfold ks_pl; omega))) (fun h35 => ?_) (fun h35 => ?_)
        · refine mm_iconst dX0_isAlike_55 rfl ?_
          refine mm_zret dX0_isAlike_56 rfl rfl (Or.inl rfl) ?_
          exact mm_fin (by rw [mm_b_f]; intro q; have := q b (by omega); omega) rfl
        · refine mm_aload_n dX0_isAlike_38 rfl rfl ?_
          refine mm_getr dX0_isAlike_39 rfl fl_X0_29 (c := 11) rfl (by decide) rfl rfl (hR.at (c := 11) (i := 8) (v := 18) rfl (by decide)) ?_
          refine mm_iload dX0_isAlike_42 rfl rfl ?_
          refine mm_ialk (k0 := ks_pl h b) dX0_isAlike_44 rfl (c := 17) rfl (by decide) rfl (by (first | omega | (unfold ks_pl; omega))) (by (first | omega | (unfold ks_pl; omega))) ?_
          refine mm_aload_n dX0_isAlike_45 rfl rfl ?_
          refine mm_getr dX0_isAlike_46 rfl fl_X0_29 (c := 11) rfl (by decide) rfl rfl (hR.at (c := 11) (i := 8) (v := 18) rfl (by decide)) ?_
          refine mm_iload dX0_isAlike_49 rfl rfl ?_
          refine mm_ialk (k0 := ks_pl g b) dX0_isAlike_51 rfl (c := 17) rfl (by decide) rfl (by (first | omega | (unfold ks_pl; omega))) (by (first | omega | (unfold ks_pl; omega))) ?_
          refine mm_iceq dX0_isAlike_52 (by (first | omega | (unfold ks_pl; omega))) (by (first | omega | (unfold ks_pl; omega))) (fun h52 => ?_) (fun h52 => ?_)
          · refine mm_iinc dX0_isAlike_57 rfl rfl (Nat.le_of_ble_eq_true rfl) rfl ?_
            refine mm_goto dX0_isAlike_60 ?_
            exact ih (b + 1) _ _ (by omega) (fun j hj' => by
            rcases Nat.lt_or_ge j b with z | z
            · exact hj j z
            · have : j = b := by omega
              subst this
              exact ⟨h35, h52⟩)
          · refine mm_iconst dX0_isAlike_55 rfl ?_
            refine mm_zret dX0_isAlike_56 rfl rfl (Or.inl rfl) ?_
            exact mm_fin (by rw [mm_b_f]; intro q; have := q b (by omega); omega) rfl
  refine mm_iconst dX0_isAlike_0 rfl ?_
  refine mm_istore_n dX0_isAlike_1 rfl (Nat.le_of_ble_eq_true rfl) rfl ?_
  exact loop 5 0 _ _ rfl (fun j hj => absurd hj (Nat.not_lt_zero j))
end

