/-! ===== the tape: feed ===== -/
/-- the byte of v that lies k bits up -/
def kb (v k : Int) : Int := (mm_i ((mm_i v >>> (mm_i k &&& 31)).toInt)).toInt8.toInt
theorem kb_b (v k : Int) : -128 ≤ kb v k ∧ kb v k ≤ 127 := by
  unfold kb
  have h1 := Int8.le_toInt (mm_i ((mm_i v >>> (mm_i k &&& 31)).toInt)).toInt8
  have h2 := Int8.toInt_lt (mm_i ((mm_i v >>> (mm_i k &&& 31)).toInt)).toInt8
  omega
/-- j bytes of v behind a tape of bytes bc with its length at lc li -/
def kb_add (bc lc li : Nat) (M : mm_M) (v : Int) (j : Nat) : mm_M := fun a b =>
  if a = lc ∧ b = li then M lc li + j else if a = bc ∧ (M lc li).toNat ≤ b ∧ b < (M lc li).toNat + j then kb v (24 - 8 * ((b : Int) - M lc li)) else M a b
theorem kb_add_0 {bc lc li : Nat} {M : mm_M} {v : Int} : kb_add bc lc li M v 0 = M := by
  funext a b
  unfold kb_add
  by_cases h : a = lc ∧ b = li
  · rw [if_pos h, h.1, h.2]; omega
  · rw [if_neg h, if_neg (by omega)]
theorem kb_add_l {bc lc li : Nat} {M : mm_M} {v : Int} {j : Nat} : kb_add bc lc li M v j lc li = M lc li + j := by unfold kb_add; rw [if_pos ⟨rfl, rfl⟩]
theorem kb_add_s {bc lc li : Nat} {M : mm_M} {v : Int} {j : Nat} (hne : bc ≠ lc) (h0 : 0 ≤ M lc li) : mm_up (mm_up (kb_add bc lc li M v j) bc (M lc li + j).toNat (kb v (24 - 8 * (j : Int)))) lc li (M lc li + j + 1) = kb_add bc lc li M v (j + 1) := by
  funext a b
  unfold mm_up kb_add
  by_cases h : a = lc ∧ b = li
  · rw [if_pos h, if_pos h]; omega
  · simp only [if_neg h]
    by_cases h2 : a = bc ∧ b = (M lc li + j).toNat
    · rw [if_pos h2, if_pos (by omega)]
      congr 1
      omega
    · rw [if_neg h2]
      by_cases h3 : a = bc ∧ (M lc li).toNat ≤ b ∧ b < (M lc li).toNat + j
      · rw [if_pos h3, if_pos (by omega)]
      · rw [if_neg h3, if_neg (by omega)]
theorem mm_Rf.kb {M : mm_M} (h : mm_Rf M) {bc lc li j len : Nat} {v : Int} (hb : mm_sh bc = (2, len)) (hl : mm_rt lc li = 0) : mm_Rf (kb_add bc lc li M v j) := by
  intro a b hab
  unfold kb_add
  rw [if_neg (fun q => hab (by rw [q.1, q.2]; exact hl)), if_neg (fun q => hab (by rw [q.1]; exact mm_rt_ar (t := 1) hb (by decide)))]
  exact h a b hab
section
variable {X : mm_X} {M : mm_M} {a b c d e v x : Int}
theorem c_X10_hasRoom (hR : mm_Rf M) (hl : 0 ≤ M 1 1 ∧ M 1 1 ≤ 800) (hx : 0 ≤ x ∧ x ≤ 1000) : mm_Fn X Y_X10_hasRoom 243 [(2, 2), (0, x)] M (0, mm_b (M 1 1 + x ≤ 800)) M := by
  refine mm_startF (ls := [(2, 2), (0, x)]) rfl ?_
  refine mm_aload_n dX10_hasRoom_0 rfl rfl ?_
  refine mm_get (kd := 0) dX10_hasRoom_1 rfl fl_X10_19 (c := 1) rfl (by decide) rfl rfl ?_
  refine mm_iload_n dX10_hasRoom_4 rfl rfl ?_
  refine mm_iadd dX10_hasRoom_5 rfl ?_
  refine mm_sipush dX10_hasRoom_6 rfl (by decide) ?_
  refine mm_icgt dX10_hasRoom_9 (by omega) (by omega) (fun h9 => ?_) (fun h9 => ?_)
  · refine mm_iconst dX10_hasRoom_16 rfl ?_
    refine mm_zret dX10_hasRoom_17 rfl rfl (Or.inl rfl) ?_
    refine mm_fin ?_ rfl
    unfold mm_b
    split <;> omega
  · refine mm_iconst dX10_hasRoom_12 rfl ?_
    refine mm_goto dX10_hasRoom_13 ?_
    refine mm_zret dX10_hasRoom_17 rfl rfl (Or.inr rfl) ?_
    refine mm_fin ?_ rfl
    unfold mm_b
    split <;> omega
theorem c_X10_addInt (hR : mm_Rf M) (hl : 0 ≤ M 1 1 ∧ M 1 1 + 4 ≤ 800) : mm_Fn X Y_X10_addInt 243 [(2, 2), (0, v)] M (3, 0) (kb_add 2 1 1 M v 4) := by
  refine mm_startF (ls := [(2, 2), (0, v), (9, 0)]) rfl ?_
  have loop : ∀ (k j : Nat), j + k = 4 → mm_J X Y_X10_addInt 243 243 243 3 [(2, 2), (0, v), (0, 24 - 8 * (j : Int))] [] (kb_add 2 1 1 M v j) (fun r' M'' => r' = (3, 0) ∧ M'' = kb_add 2 1 1 M v 4) := by
    intro k
    induction k with
    | zero =>
      intro j hj
      have ej : j = 4 := by omega
      subst ej
      refine mm_iload_n dX10_addInt_3 rfl rfl ?_
      refine mm_iflt dX10_addInt_4 (by omega) (fun h4 => ?_) (fun h4 => ?_)
      · refine mm_vret dX10_addInt_46 rfl rfl ?_
        exact mm_fin rfl rfl
      · exfalso; omega
    | succ k ih =>
      intro j hj
      obtain ⟨N, hN⟩ : ∃ N, N = kb_add 2 1 1 M v j := ⟨_, rfl⟩
      have hRN : mm_Rf N := by rw [hN]; exact hR.kb (bc := 2) rfl rfl
      have el : N 1 1 = M 1 1 + j := by rw [hN]; exact kb_add_l
      rw [← hN]
      refine mm_iload_n dX10_addInt_3 rfl rfl ?_
      refine mm_iflt dX10_addInt_4 (by omega) (fun h4 => ?_) (fun h4 => ?_)
      · exfalso; omega
      · refine mm_aload_n dX10_addInt_7 rfl rfl ?_
        refine mm_get (kd := 0) dX10_addInt_8 rfl fl_X10_19 (c := 1) rfl (by decide) rfl rfl ?_
        refine mm_sipush dX10_addInt_11 rfl (by decide) ?_
        refine mm_icge dX10_addInt_14 (by omega) (by omega) (fun h14 => ?_) (fun h14 => ?_)
        · exfalso; omega
        · refine mm_aload_n dX10_addInt_17 rfl rfl ?_
          refine mm_getr dX10_addInt_18 rfl fl_X10_11 (c := 1) rfl (by decide) rfl rfl (hRN.at (c := 1) (i := 0) (v := 3) rfl (by decide)) ?_
          refine mm_aload_n dX10_addInt_21 rfl rfl ?_
          refine mm_get (kd := 0) dX10_addInt_22 rfl fl_X10_19 (c := 1) rfl (by decide) rfl rfl ?_
          rw [el]
          refine mm_iload_n dX10_addInt_25 rfl rfl ?_
          refine mm_iload_n dX10_addInt_26 rfl rfl ?_
          refine mm_ishr dX10_addInt_27 rfl ?_
          refine mm_i2b dX10_addInt_28 rfl ?_
          refine mm_bsto dX10_addInt_29 rfl (c := 2) rfl (by decide) rfl (by omega) (by omega) (kb_b v _) (fun M29 hM29 => ?_)
          have hR29 : mm_Rf M29 := by rw [hM29]; exact hRN.up (mm_rt_ar (t := 1) rfl (by decide))
          refine mm_aload_n dX10_addInt_30 rfl rfl ?_
          refine mm_dup dX10_addInt_31 rfl (by simp) ?_
          refine mm_get (kd := 0) dX10_addInt_32 rfl fl_X10_19 (c := 1) rfl (by decide) rfl rfl ?_
          have e2 : M29 1 1 = M 1 1 + j := by simp [hM29, el, mm_up]
          rw [e2]
          refine mm_iconst dX10_addInt_35 rfl ?_
          refine mm_iadd dX10_addInt_36 rfl ?_
          refine mm_puti dX10_addInt_37 rfl fl_X10_19 (c := 1) rfl (by decide) rfl rfl (fun M37 hM37 => ?_)
          have hR37 : mm_Rf M37 := by rw [hM37]; exact hR29.up rfl
          refine mm_iinc dX10_addInt_40 rfl rfl (Nat.le_of_ble_eq_true rfl) rfl ?_
          refine mm_goto dX10_addInt_43 ?_
          have e3 : M37 = kb_add 2 1 1 M v (j + 1) := by
            rw [hM37, hM29, hN]
            exact kb_add_s (bc := 2) (by decide) hl.1
          rw [e3, show (24 : Int) - 8 * (j : Int) + -8 = 24 - 8 * ((j + 1 : Nat) : Int) by omega]
          exact ih (j + 1) (by omega)
  have := loop 4 0 rfl
  rw [kb_add_0] at this
  refine mm_bipush dX10_addInt_0 rfl (by decide) ?_
  refine mm_istore_n dX10_addInt_2 rfl (Nat.le_of_ble_eq_true rfl) rfl ?_
  exact this
/-- five ints, one behind the other -/
def kb_feed (bc lc li : Nat) (M : mm_M) (a b c d e : Int) : mm_M := kb_add bc lc li (kb_add bc lc li (kb_add bc lc li (kb_add bc lc li (kb_add bc lc li M a 4) b 4) c 4) d 4) e 4
theorem c_X11_feed (hR : mm_Rf M) (hl : 0 ≤ M 1 1 ∧ M 1 1 ≤ 800) : mm_Fn X Y_X11_feed 243 [(2, 1), (0, a), (0, b), (0, c), (0, d), (0, e)] M (0, if M 1 1 + 20 ≤ 800 then M 1 1 + 20 else -3) (if M 1 1 + 20 ≤ 800 then kb_feed 2 1 1 M a b c d e else M) := by
  refine mm_startF (ls := [(2, 1), (0, a), (0, b), (0, c), (0, d), (0, e)]) rfl ?_
  refine mm_aload_n dX11_feed_0 rfl rfl ?_
  refine mm_getr dX11_feed_1 rfl fl_X11_10 (c := 0) rfl (by decide) rfl rfl (hR.at (c := 0) (i := 0) (v := 2) rfl (by decide)) ?_
  refine mm_bipush dX11_feed_4 rfl (by decide) ?_
  refine mm_V1i dX11_feed_6 rfl lk_X11_98 (c := 1) rfl (by decide) rfl (by simp) rfl rfl rfl (c_X10_hasRoom hR hl (by omega)) ?_
  refine mm_ifneb dX11_feed_9 (fun h9 => ?_) (fun h9 => ?_)
  · obtain ⟨N1, hN1⟩ : ∃ N, N = kb_add 2 1 1 M a 4 := ⟨_, rfl⟩
    obtain ⟨N2, hN2⟩ : ∃ N, N = kb_add 2 1 1 N1 b 4 := ⟨_, rfl⟩
    obtain ⟨N3, hN3⟩ : ∃ N, N = kb_add 2 1 1 N2 c 4 := ⟨_, rfl⟩
    obtain ⟨N4, hN4⟩ : ∃ N, N = kb_add 2 1 1 N3 d 4 := ⟨_, rfl⟩
    obtain ⟨N5, hN5⟩ : ∃ N, N = kb_add 2 1 1 N4 e 4 := ⟨_, rfl⟩
    have r1 : mm_Rf N1 := by rw [hN1]; exact hR.kb (bc := 2) rfl rfl
    have r2 : mm_Rf N2 := by rw [hN2]; exact r1.kb (bc := 2) rfl rfl
    have r3 : mm_Rf N3 := by rw [hN3]; exact r2.kb (bc := 2) rfl rfl
    have r4 : mm_Rf N4 := by rw [hN4]; exact r3.kb (bc := 2) rfl rfl
    have r5 : mm_Rf N5 := by rw [hN5]; exact r4.kb (bc := 2) rfl rfl
    have l1 : N1 1 1 = M 1 1 + 4 := by rw [hN1]; exact kb_add_l
    have l2 : N2 1 1 = N1 1 1 + 4 := by rw [hN2]; exact kb_add_l
    have l3 : N3 1 1 = N2 1 1 + 4 := by rw [hN3]; exact kb_add_l
    have l4 : N4 1 1 = N3 1 1 + 4 := by rw [hN4]; exact kb_add_l
    have l5 : N5 1 1 = N4 1 1 + 4 := by rw [hN5]; exact kb_add_l
    have f1 := c_X10_addInt (X := X) (M := M) (v := a) hR (by omega)
    have f2 := c_X10_addInt (X := X) (M := N1) (v := b) r1 (by omega)
    have f3 := c_X10_addInt (X := X) (M := N2) (v := c) r2 (by omega)
    have f4 := c_X10_addInt (X := X) (M := N3) (v := d) r3 (by omega)
    have f5 := c_X10_addInt (X := X) (M := N4) (v := e) r4 (by omega)
    rw [← hN1] at f1
    rw [← hN2] at f2
    rw [← hN3] at f3
    rw [← hN4] at f4
    rw [← hN5] at f5
    refine mm_aload_n dX11_feed_15 rfl rfl ?_
    refine mm_getr dX11_feed_16 rfl fl_X11_10 (c := 0) rfl (by decide) rfl rfl (hR.at (c := 0) (i := 0) (v := 2) rfl (by decide)) ?_
    refine mm_iload_n dX11_feed_19 rfl rfl ?_
    refine mm_V1v dX11_feed_20 rfl lk_X11_102 (c := 1) rfl (by decide) rfl (by simp) rfl rfl rfl (f1) ?_
    refine mm_aload_n dX11_feed_23 rfl rfl ?_
    refine mm_getr dX11_feed_24 rfl fl_X11_10 (c := 0) rfl (by decide) rfl rfl (r1.at (c := 0) (i := 0) (v := 2) rfl (by decide)) ?_
    refine mm_iload_n dX11_feed_27 rfl rfl ?_
    refine mm_V1v dX11_feed_28 rfl lk_X11_102 (c := 1) rfl (by decide) rfl (by simp) rfl rfl rfl (f2) ?_
    refine mm_aload_n dX11_feed_31 rfl rfl ?_
    refine mm_getr dX11_feed_32 rfl fl_X11_10 (c := 0) rfl (by decide) rfl rfl (r2.at (c := 0) (i := 0) (v := 2) rfl (by decide)) ?_
    refine mm_iload_n dX11_feed_35 rfl rfl ?_
    refine mm_V1v dX11_feed_36 rfl lk_X11_102 (c := 1) rfl (by decide) rfl (by simp) rfl rfl rfl (f3) ?_
    refine mm_aload_n dX11_feed_39 rfl rfl ?_
    refine mm_getr dX11_feed_40 rfl fl_X11_10 (c := 0) rfl (by decide) rfl rfl (r3.at (c := 0) (i := 0) (v := 2) rfl (by decide)) ?_
    refine mm_iload dX11_feed_43 rfl rfl ?_
    refine mm_V1v dX11_feed_45 rfl lk_X11_102 (c := 1) rfl (by decide) rfl (by simp) rfl rfl rfl (f4) ?_
    refine mm_aload_n dX11_feed_48 rfl rfl ?_
    refine mm_getr dX11_feed_49 rfl fl_X11_10 (c := 0) rfl (by decide) rfl rfl (r4.at (c := 0) (i := 0) (v := 2) rfl (by decide)) ?_
    refine mm_iload dX11_feed_52 rfl rfl ?_
    refine mm_V1v dX11_feed_54 rfl lk_X11_102 (c := 1) rfl (by decide) rfl (by simp) rfl rfl rfl (f5) ?_
    refine mm_aload_n dX11_feed_57 rfl rfl ?_
    refine mm_getr dX11_feed_58 rfl fl_X11_10 (c := 0) rfl (by decide) rfl rfl (r5.at (c := 0) (i := 0) (v := 2) rfl (by decide)) ?_
    refine mm_get (kd := 0) dX11_feed_61 rfl fl_X11_105 (c := 1) rfl (by decide) rfl rfl ?_
    refine mm_iret dX11_feed_64 rfl rfl ?_
    exact mm_fin (by rw [if_pos h9]; omega) (by rw [if_pos h9, hN5, hN4, hN3, hN2, hN1]; rfl)
  · refine mm_bipush dX11_feed_12 rfl (by decide) ?_
    refine mm_iret dX11_feed_14 rfl rfl ?_
    exact mm_fin (by rw [if_neg h9]) (by rw [if_neg h9])
theorem c_X13_lay (hR : mm_Rf M) (hl : 0 ≤ M 183 2 ∧ M 183 2 + 4 ≤ 800) : mm_Fn X Y_X13_lay 243 [(2, 184), (0, v)] M (3, 0) (kb_add 185 183 2 M v 4) := by
  refine mm_startF (ls := [(2, 184), (0, v), (9, 0)]) rfl ?_
  have loop : ∀ (k j : Nat), j + k = 4 → mm_J X Y_X13_lay 243 243 243 3 [(2, 184), (0, v), (0, 24 - 8 * (j : Int))] [] (kb_add 185 183 2 M v j) (fun r' M'' => r' = (3, 0) ∧ M'' = kb_add 185 183 2 M v 4) := by
    intro k
    induction k with
    | zero =>
      intro j hj
      have ej : j = 4 := by omega
      subst ej
      refine mm_iload_n dX13_lay_3 rfl rfl ?_
      refine mm_iflt dX13_lay_4 (by omega) (fun h4 => ?_) (fun h4 => ?_)
      · refine mm_vret dX13_lay_36 rfl rfl ?_
        exact mm_fin rfl rfl
      · exfalso; omega
    | succ k ih =>
      intro j hj
      obtain ⟨N, hN⟩ : ∃ N, N = kb_add 185 183 2 M v j := ⟨_, rfl⟩
      have hRN : mm_Rf N := by rw [hN]; exact hR.kb (bc := 185) rfl rfl
      have el : N 183 2 = M 183 2 + j := by rw [hN]; exact kb_add_l
      rw [← hN]
      refine mm_iload_n dX13_lay_3 rfl rfl ?_
      refine mm_iflt dX13_lay_4 (by omega) (fun h4 => ?_) (fun h4 => ?_)
      · exfalso; omega
      · refine mm_aload_n dX13_lay_7 rfl rfl ?_
        refine mm_getr dX13_lay_8 rfl fl_X13_26 (c := 183) rfl (by decide) rfl rfl (hRN.at (c := 183) (i := 1) (v := 186) rfl (by decide)) ?_
        refine mm_aload_n dX13_lay_11 rfl rfl ?_
        refine mm_get (kd := 0) dX13_lay_12 rfl fl_X13_75 (c := 183) rfl (by decide) rfl rfl ?_
        rw [el]
        refine mm_iload_n dX13_lay_15 rfl rfl ?_
        refine mm_iload_n dX13_lay_16 rfl rfl ?_
        refine mm_ishr dX13_lay_17 rfl ?_
        refine mm_i2b dX13_lay_18 rfl ?_
        refine mm_bsto dX13_lay_19 rfl (c := 185) rfl (by decide) rfl (by omega) (by omega) (kb_b v _) (fun M19 hM19 => ?_)
        have hR19 : mm_Rf M19 := by rw [hM19]; exact hRN.up (mm_rt_ar (t := 1) rfl (by decide))
        refine mm_aload_n dX13_lay_20 rfl rfl ?_
        refine mm_dup dX13_lay_21 rfl (by simp) ?_
        refine mm_get (kd := 0) dX13_lay_22 rfl fl_X13_75 (c := 183) rfl (by decide) rfl rfl ?_
        have e2 : M19 183 2 = M 183 2 + j := by simp [hM19, el, mm_up]
        rw [e2]
        refine mm_iconst dX13_lay_25 rfl ?_
        refine mm_iadd dX13_lay_26 rfl ?_
        refine mm_puti dX13_lay_27 rfl fl_X13_75 (c := 183) rfl (by decide) rfl rfl (fun M27 hM27 => ?_)
        have hR27 : mm_Rf M27 := by rw [hM27]; exact hR19.up rfl
        refine mm_iinc dX13_lay_30 rfl rfl (Nat.le_of_ble_eq_true rfl) rfl ?_
        refine mm_goto dX13_lay_33 ?_
        have e3 : M27 = kb_add 185 183 2 M v (j + 1) := by
          rw [hM27, hM19, hN]
          exact kb_add_s (bc := 185) (by decide) hl.1
        rw [e3, show (24 : Int) - 8 * (j : Int) + -8 = 24 - 8 * ((j + 1 : Nat) : Int) by omega]
        exact ih (j + 1) (by omega)
  have := loop 4 0 rfl
  rw [kb_add_0] at this
  refine mm_bipush dX13_lay_0 rfl (by decide) ?_
  refine mm_istore_n dX13_lay_2 rfl (Nat.le_of_ble_eq_true rfl) rfl ?_
  exact this
theorem c_X13_feed (hR : mm_Rf M) (hl : 0 ≤ M 183 2 ∧ M 183 2 ≤ 800) : mm_Fn X Y_X13_feed 243 [(2, 184), (0, a), (0, b), (0, c), (0, d), (0, e)] M (0, if M 183 2 + 20 ≤ 800 then M 183 2 + 20 else -3) (if M 183 2 + 20 ≤ 800 then kb_feed 185 183 2 M a b c d e else M) := by
  refine mm_startF (ls := [(2, 184), (0, a), (0, b), (0, c), (0, d), (0, e)]) rfl ?_
  refine mm_aload_n dX13_feed_0 rfl rfl ?_
  refine mm_get (kd := 0) dX13_feed_1 rfl fl_X13_75 (c := 183) rfl (by decide) rfl rfl ?_
  refine mm_bipush dX13_feed_4 rfl (by decide) ?_
  refine mm_iadd dX13_feed_6 rfl ?_
  refine mm_sipush dX13_feed_7 rfl (by decide) ?_
  refine mm_icle dX13_feed_10 (by omega) (by omega) (fun h10 => ?_) (fun h10 => ?_)
  · obtain ⟨N1, hN1⟩ : ∃ N, N = kb_add 185 183 2 M a 4 := ⟨_, rfl⟩
    obtain ⟨N2, hN2⟩ : ∃ N, N = kb_add 185 183 2 N1 b 4 := ⟨_, rfl⟩
    obtain ⟨N3, hN3⟩ : ∃ N, N = kb_add 185 183 2 N2 c 4 := ⟨_, rfl⟩
    obtain ⟨N4, hN4⟩ : ∃ N, N = kb_add 185 183 2 N3 d 4 := ⟨_, rfl⟩
    obtain ⟨N5, hN5⟩ : ∃ N, N = kb_add 185 183 2 N4 e 4 := ⟨_, rfl⟩
    have r1 : mm_Rf N1 := by rw [hN1]; exact hR.kb (bc := 185) rfl rfl
    have r2 : mm_Rf N2 := by rw [hN2]; exact r1.kb (bc := 185) rfl rfl
    have r3 : mm_Rf N3 := by rw [hN3]; exact r2.kb (bc := 185) rfl rfl
    have r4 : mm_Rf N4 := by rw [hN4]; exact r3.kb (bc := 185) rfl rfl
    have r5 : mm_Rf N5 := by rw [hN5]; exact r4.kb (bc := 185) rfl rfl
    have l1 : N1 183 2 = M 183 2 + 4 := by rw [hN1]; exact kb_add_l
    have l2 : N2 183 2 = N1 183 2 + 4 := by rw [hN2]; exact kb_add_l
    have l3 : N3 183 2 = N2 183 2 + 4 := by rw [hN3]; exact kb_add_l
    have l4 : N4 183 2 = N3 183 2 + 4 := by rw [hN4]; exact kb_add_l
    have l5 : N5 183 2 = N4 183 2 + 4 := by rw [hN5]; exact kb_add_l
    have f1 := c_X13_lay (X := X) (M := M) (v := a) hR (by omega)
    have f2 := c_X13_lay (X := X) (M := N1) (v := b) r1 (by omega)
    have f3 := c_X13_lay (X := X) (M := N2) (v := c) r2 (by omega)
    have f4 := c_X13_lay (X := X) (M := N3) (v := d) r3 (by omega)
    have f5 := c_X13_lay (X := X) (M := N4) (v := e) r4 (by omega)
    rw [← hN1] at f1
    rw [← hN2] at f2
    rw [← hN3] at f3
    rw [← hN4] at f4
    rw [← hN5] at f5
    refine mm_aload_n dX13_feed_16 rfl rfl ?_
    refine mm_iload_n dX13_feed_17 rfl rfl ?_
    refine mm_V1v dX13_feed_18 rfl lk_X13_385 (c := 183) rfl (by decide) rfl (by simp) rfl rfl rfl (f1) ?_
    refine mm_aload_n dX13_feed_21 rfl rfl ?_
    refine mm_iload_n dX13_feed_22 rfl rfl ?_
    refine mm_V1v dX13_feed_23 rfl lk_X13_385 (c := 183) rfl (by decide) rfl (by simp) rfl rfl rfl (f2) ?_
    refine mm_aload_n dX13_feed_26 rfl rfl ?_
    refine mm_iload_n dX13_feed_27 rfl rfl ?_
    refine mm_V1v dX13_feed_28 rfl lk_X13_385 (c := 183) rfl (by decide) rfl (by simp) rfl rfl rfl (f3) ?_
    refine mm_aload_n dX13_feed_31 rfl rfl ?_
    refine mm_iload dX13_feed_32 rfl rfl ?_
    refine mm_V1v dX13_feed_34 rfl lk_X13_385 (c := 183) rfl (by decide) rfl (by simp) rfl rfl rfl (f4) ?_
    refine mm_aload_n dX13_feed_37 rfl rfl ?_
    refine mm_iload dX13_feed_38 rfl rfl ?_
    refine mm_V1v dX13_feed_40 rfl lk_X13_385 (c := 183) rfl (by decide) rfl (by simp) rfl rfl rfl (f5) ?_
    refine mm_aload_n dX13_feed_43 rfl rfl ?_
    refine mm_get (kd := 0) dX13_feed_44 rfl fl_X13_75 (c := 183) rfl (by decide) rfl rfl ?_
    refine mm_iret dX13_feed_47 rfl rfl ?_
    exact mm_fin (by rw [if_pos (by omega)]; omega) (by rw [if_pos (by omega), hN5, hN4, hN3, hN2, hN1]; rfl)
  · refine mm_bipush dX13_feed_13 rfl (by decide) ?_
    refine mm_iret dX13_feed_15 rfl rfl ?_
    exact mm_fin (by rw [if_neg (by omega)]) (by rw [if_neg (by omega)])
end

