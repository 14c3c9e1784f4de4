/-! ===== the text of a kite, of the class ===== -/
theorem kp_lo_at {nm : Nat} (h : nm < 10) : ((mm_rc (0, fun _ => 0) 2).2 nm) = kp_lo.getD nm 0 ∧ ((mm_rc (0, fun _ => 0) 3).2 nm) = kp_hi.getD nm 0 := by
  match nm, h with
  | 0, _ => exact ⟨rfl, rfl⟩
  | 1, _ => exact ⟨rfl, rfl⟩
  | 2, _ => exact ⟨rfl, rfl⟩
  | 3, _ => exact ⟨rfl, rfl⟩
  | 4, _ => exact ⟨rfl, rfl⟩
  | 5, _ => exact ⟨rfl, rfl⟩
  | 6, _ => exact ⟨rfl, rfl⟩
  | 7, _ => exact ⟨rfl, rfl⟩
  | 8, _ => exact ⟨rfl, rfl⟩
  | 9, _ => exact ⟨rfl, rfl⟩
theorem kp_lohi {nm : Nat} (h : nm < 10) : (0 ≤ kp_lo.getD nm 0 ∧ kp_lo.getD nm 0 ≤ 100) ∧ 0 ≤ kp_hi.getD nm 0 ∧ kp_hi.getD nm 0 ≤ 99999 := by
  match nm, h with
  | 0, _ => decide
  | 1, _ => decide
  | 2, _ => decide
  | 3, _ => decide
  | 4, _ => decide
  | 5, _ => decide
  | 6, _ => decide
  | 7, _ => decide
  | 8, _ => decide
  | 9, _ => decide
theorem kp_set_KV {D : Nat → Int} (h : mm_KV D) {nm : Nat} (hn : nm < 10) {v : Int} (hv : kp_lo.getD nm 0 ≤ v ∧ v ≤ kp_hi.getD nm 0) : mm_KV (fun i => if i = nm then v else D i) := by
  obtain ⟨a0, a1, a2, a3, a4, a5, a6, a7, a8, a9, a10, a11, a12⟩ := h
  refine ⟨?_, ?_, ?_, ?_, ?_, ?_, ?_, ?_, ?_, ?_, ?_, ?_, ?_⟩
  · show _ ≤ (if 0 = nm then v else D 0) ∧ (if 0 = nm then v else D 0) ≤ _
    split
    · next q => subst q; exact hv
    · exact a0
  · show _ ≤ (if 1 = nm then v else D 1) ∧ (if 1 = nm then v else D 1) ≤ _
    split
    · next q => subst q; exact hv
    · exact a1
  · show _ ≤ (if 2 = nm then v else D 2) ∧ (if 2 = nm then v else D 2) ≤ _
    split
    · next q => subst q; exact hv
    · exact a2
  · show _ ≤ (if 3 = nm then v else D 3) ∧ (if 3 = nm then v else D 3) ≤ _
    split
    · next q => subst q; exact hv
    · exact a3
  · show _ ≤ (if 4 = nm then v else D 4) ∧ (if 4 = nm then v else D 4) ≤ _
    split
    · next q => subst q; exact hv
    · exact a4
  · show _ ≤ (if 5 = nm then v else D 5) ∧ (if 5 = nm then v else D 5) ≤ _
    split
    · next q => subst q; exact hv
    · exact a5
  · show _ ≤ (if 6 = nm then v else D 6) ∧ (if 6 = nm then v else D 6) ≤ _
    split
    · next q => subst q; exact hv
    · exact a6
  · show _ ≤ (if 7 = nm then v else D 7) ∧ (if 7 = nm then v else D 7) ≤ _
    split
    · next q => subst q; exact hv
    · exact a7
  · show _ ≤ (if 8 = nm then v else D 8) ∧ (if 8 = nm then v else D 8) ≤ _
    split
    · next q => subst q; exact hv
    · exact a8
  · show _ ≤ (if 9 = nm then v else D 9) ∧ (if 9 = nm then v else D 9) ≤ _
    split
    · next q => subst q; exact hv
    · exact a9
  · show _ ≤ (if 10 = nm then v else D 10) ∧ (if 10 = nm then v else D 10) ≤ _
    rw [if_neg (by omega)]
    exact a10
  · intro i hi
    show _ ≤ (if 20 + i = nm then v else D (20 + i)) ∧ (if 20 + i = nm then v else D (20 + i)) ≤ _
    rw [if_neg (by omega)]
    exact a11 i hi
  · intro i hi
    show _ ≤ (if 30 + i = nm then v else D (30 + i)) ∧ (if 30 + i = nm then v else D (30 + i)) ≤ _
    rw [if_neg (by omega)]
    exact a12 i hi
section
variable {X : mm_X} {M N : mm_M} {n p nm : Nat}
theorem c_X4_takeClause (hnm : nm < 12) (hI : kp_I M N n p) :
    mm_C X Y_X4_takeClause 243 243 [(2, 4), (2, 2), (0, (nm : Int))] N (fun r M' => kp_P M N M' n (kp_clause (M 2) n nm p (N 5)) r) := by
  have hRN := hI.1
  obtain ⟨E, hE⟩ : ∃ E, E = kp_clause (M 2) n nm p (N 5) := ⟨_, rfl⟩
  have hL := hE.symm
  rw [← hE]
  unfold kp_clause at hL
  have hkb := kt_kb (B := M 2) (n := n) (p := p)
  have hvb := kt_vb (B := M 2) (n := n) (p := p)
  have hkb2 := kt_kb (B := M 2) (n := n) (p := kt_e (M 2) n p)
  refine mm_start (ls := [(2, 4), (2, 2), (0, (nm : Int))]) rfl ?_
  by_cases h10 : nm = 10
  · rw [if_pos h10] at hL
    have cl := c_X4_takeList (X := X) (pl := 20) (room := 3) (most := 99) (Or.inl ⟨rfl, rfl, rfl⟩) hI
    rw [hL] at cl
    refine mm_iload_n dX4_takeClause_0 rfl rfl ?_
    refine mm_bipush dX4_takeClause_1 rfl (by decide) ?_
    refine mm_icne dX4_takeClause_3 (by omega) (by omega) (fun h3 => ?_) (fun h3 => ?_)
    · exfalso; omega
    · refine mm_aload_n dX4_takeClause_6 rfl rfl ?_
      refine mm_aload_n dX4_takeClause_7 rfl rfl ?_
      refine mm_bipush dX4_takeClause_8 rfl (by decide) ?_
      refine mm_iconst dX4_takeClause_10 rfl ?_
      refine mm_bipush dX4_takeClause_11 rfl (by decide) ?_
      refine mm_V4g (M1 := N) dX4_takeClause_13 rfl lk_X4_65 (c := 3) rfl (by decide) rfl (by simp) (by simp) (by simp) (by simp) rfl rfl rfl cl ?_
      intro r M' hP
      match E, hP with
      | .ok (p', D'), hP => obtain ⟨rfl, -⟩ := id hP; exact mm_zret dX4_takeClause_16 rfl rfl (Or.inr rfl) hP
      | .error (k, s), hP => obtain ⟨rfl, -⟩ := id hP; exact mm_zret dX4_takeClause_16 rfl rfl (Or.inl rfl) hP
  · rw [if_neg h10] at hL
    by_cases h11 : 10 < nm
    · rw [if_pos h11] at hL
      have cl := c_X4_takeList (X := X) (pl := 30) (room := 6) (most := 100) (Or.inr ⟨rfl, rfl, rfl⟩) hI
      rw [hL] at cl
      refine mm_iload_n dX4_takeClause_0 rfl rfl ?_
      refine mm_bipush dX4_takeClause_1 rfl (by decide) ?_
      refine mm_icne dX4_takeClause_3 (by omega) (by omega) (fun h3 => ?_) (fun h3 => ?_)
      · refine mm_iload_n dX4_takeClause_17 rfl rfl ?_
        refine mm_bipush dX4_takeClause_18 rfl (by decide) ?_
        refine mm_icle dX4_takeClause_20 (by omega) (by omega) (fun h20 => ?_) (fun h20 => ?_)
        · exfalso; omega
        · refine mm_aload_n dX4_takeClause_23 rfl rfl ?_
          refine mm_aload_n dX4_takeClause_24 rfl rfl ?_
          refine mm_bipush dX4_takeClause_25 rfl (by decide) ?_
          refine mm_bipush dX4_takeClause_27 rfl (by decide) ?_
          refine mm_bipush dX4_takeClause_29 rfl (by decide) ?_
          refine mm_V4g (M1 := N) dX4_takeClause_31 rfl lk_X4_65 (c := 3) rfl (by decide) rfl (by simp) (by simp) (by simp) (by simp) rfl rfl rfl cl ?_
          intro r M' hP
          match E, hP with
          | .ok (p', D'), hP => obtain ⟨rfl, -⟩ := id hP; exact mm_zret dX4_takeClause_34 rfl rfl (Or.inr rfl) hP
          | .error (k, s), hP => obtain ⟨rfl, -⟩ := id hP; exact mm_zret dX4_takeClause_34 rfl rfl (Or.inl rfl) hP
      · exfalso; omega
    · rw [if_neg h11] at hL
      have hn10 : nm < 10 := by omega
      have hlh := kp_lohi hn10
      have elo : (mm_rc X 2).2 nm = kp_lo.getD nm 0 := (kp_lo_at hn10).1
      have ehi : (mm_rc X 3).2 nm = kp_hi.getD nm 0 := (kp_lo_at hn10).2
      refine mm_iload_n dX4_takeClause_0 rfl rfl ?_
      refine mm_bipush dX4_takeClause_1 rfl (by decide) ?_
      refine mm_icne dX4_takeClause_3 (by omega) (by omega) (fun h3 => ?_) (fun h3 => ?_)
      · refine mm_iload_n dX4_takeClause_17 rfl rfl ?_
        refine mm_bipush dX4_takeClause_18 rfl (by decide) ?_
        refine mm_icle dX4_takeClause_20 (by omega) (by omega) (fun h20 => ?_) (fun h20 => ?_)
        · refine mm_aload_n dX4_takeClause_35 rfl rfl ?_
          refine mm_V0g (M1 := N) dX4_takeClause_36 rfl lk_X4_44 (c := 1) rfl (by decide) rfl  rfl rfl rfl (kp_adv hI) ?_
          rintro _ N36 ⟨rfl, p36⟩
          change mm_J _ _ _ _ _ _ _ _ _ _
          have hR36 : mm_Rf N36 := p36.1
          obtain ⟨-, hA, hI2, e5, e12, e13, ek, es, ev⟩ := p36
          refine mm_aload_n dX4_takeClause_39 rfl rfl ?_
          refine mm_gets (k0 := 0) dX4_takeClause_40 rfl (by decide) sf_X4_69 ?_
          refine mm_iload_n dX4_takeClause_43 rfl rfl ?_
          refine mm_iark (k1 := 2) (k0 := nm) dX4_takeClause_44 rfl rfl (by decide) (by omega) (by (show nm < 10); omega) (Nat.le_of_ble_eq_true rfl) ?_
          refine mm_gets (k0 := 1) dX4_takeClause_45 rfl (by decide) sf_X4_72 ?_
          refine mm_iload_n dX4_takeClause_48 rfl rfl ?_
          refine mm_iark (k1 := 3) (k0 := nm) dX4_takeClause_49 rfl rfl (by decide) (by omega) (by (show nm < 10); omega) (Nat.le_of_ble_eq_true rfl) ?_
          rw [elo, ehi]
          refine mm_V2g (M1 := N36) dX4_takeClause_50 rfl lk_X4_75 (c := 1) rfl (by decide) rfl (by simp) (by simp) rfl rfl rfl (c_X10_num hR36 (by omega) (by intro z; rw [ek] at z; rw [ev z]; omega) (by omega) (by omega)) ?_
          rintro _ N50 ⟨x50, rfl, p50⟩
          change mm_J _ _ _ _ _ _ _ _ _ _
          have hR50 : mm_Rf N50 := p50.1
          obtain ⟨-, hz⟩ := p50
          have hz01 : x50 = 0 ∨ x50 = 1 := by rcases hz with ⟨z, -⟩ | ⟨z, -⟩ <;> omega
          refine mm_ifne dX4_takeClause_53 (by omega) (fun h53 => ?_) (fun h53 => ?_)
          · obtain ⟨eN, z2, z3⟩ : N50 = N36 ∧ N36 1 5 = 2 ∧ kp_lo.getD nm 0 ≤ N36 1 4 ∧ N36 1 4 ≤ kp_hi.getD nm 0 := by
              rcases hz with ⟨z1, z2, z3, z4⟩ | ⟨z, -⟩
              · exact ⟨z2, z3, z4⟩
              · omega
            have hk2 : kt_k (M 2) n p = 2 := by rw [← ek]; exact z2
            have ev2 := ev hk2
            rw [ev2] at z3
            rw [if_neg (fun z => z hk2), if_neg (fun y => y z3)] at hL
            have ev3 : N50 1 4 = kt_v (M 2) n p := by rw [eN]; exact ev2
            refine mm_aload_n dX4_takeClause_58 rfl rfl ?_
            refine mm_getr dX4_takeClause_59 rfl fl_X4_15 (c := 3) rfl (by decide) rfl rfl (hR50.at (c := 3) (i := 1) (v := 6) rfl (by decide)) ?_
            refine mm_iload_n dX4_takeClause_62 rfl rfl ?_
            refine mm_aload_n dX4_takeClause_63 rfl rfl ?_
            refine mm_get (kd := 0) dX4_takeClause_64 rfl fl_X4_79 (c := 1) rfl (by decide) rfl rfl ?_
            obtain ⟨v64, hv64⟩ : ∃ v, v = N50 1 4 := ⟨_, rfl⟩
            rw [← hv64]
            rw [ev3] at hv64
            subst hv64
            refine mm_istk (k0 := nm) dX4_takeClause_67 rfl (c := 5) rfl (by decide) rfl (by omega) (by omega) (fun M67 hM67 => ?_)
            have hR67 : mm_Rf M67 := by rw [hM67]; exact hR50.up (mm_rt_ar (t := 0) rfl (by decide))
            refine mm_aload_n dX4_takeClause_68 rfl rfl ?_
            have h67 : M67 5 = fun i => if i = nm then kt_v (M 2) n p else N 5 i := by
              funext i
              rw [hM67, eN]
              by_cases q : i = nm
              · rw [q, mm_up_s, if_pos rfl]
              · rw [mm_up_i q, if_neg q, e5]
            have hI4 : kp_I M M67 n (kt_e (M 2) n p) := by
              obtain ⟨i1, i2, i3, i4, i5, i6, i7⟩ := id hI2
              refine ⟨hR67, ?_, ?_, ⟨?_, i4.2.1, ?_⟩, i5, ?_, ?_⟩
              · intro a a1 a2; rw [hM67, mm_up_row a2, eN]; exact i2 a a1 a2
              · intro b hb; rw [hM67, mm_up_row (by decide), eN]; exact i3 b hb
              · rw [hM67, mm_up_row (by decide), eN]; exact i4.1
              · rw [hM67, mm_up_row (by decide), eN]; exact i4.2.2
              · rw [hM67, mm_up_row (by decide), eN]; exact i6
              · rw [h67]; exact kp_set_KV hI.2.2.2.2.2.2 hn10 z3
            refine mm_V0g (M1 := M67) dX4_takeClause_69 rfl lk_X4_44 (c := 1) rfl (by decide) rfl  rfl rfl rfl (kp_adv hI4) ?_
            rintro _ N69 ⟨rfl, p69⟩
            change mm_J _ _ _ _ _ _ _ _ _ _
            have hR69 : mm_Rf N69 := p69.1
            obtain ⟨-, hA3, hI5, f5, f12, f13, fk, fs, fv⟩ := p69
            have g12 : N69 1 2 = N 1 2 := by rw [f12, hM67, mm_up_row (by decide), eN]; exact e12
            have g13 : N69 1 3 = N 1 3 := by rw [f13, hM67, mm_up_row (by decide), eN]; exact e13
            refine mm_aload_n dX4_takeClause_72 rfl rfl ?_
            refine mm_V0i dX4_takeClause_73 rfl lk_X4_83 (c := 1) rfl (by decide) rfl  rfl rfl rfl (c_X10_isSemicolon hR69 (by omega)) ?_
            refine mm_ifneb dX4_takeClause_76 (fun h76 => ?_) (fun h76 => ?_)
            · refine mm_iconst dX4_takeClause_87 rfl ?_
              refine mm_goto dX4_takeClause_88 ?_
              refine mm_zret dX4_takeClause_92 rfl rfl (Or.inr rfl) ?_
              rw [fk] at h76
              first
              | (rw [if_neg (fun y => y h76)] at hL
                 rw [← hL]
                 exact ⟨rfl, hI5, f5.trans h67, g12, g13⟩)
              | (rw [if_pos h76] at hL
                 rw [← hL]
                 exact kp_bad hI5 fs rfl N)
            · refine mm_aload_n dX4_takeClause_79 rfl rfl ?_
              refine mm_iconst dX4_takeClause_80 rfl ?_
              refine mm_V1i dX4_takeClause_81 rfl lk_X4_57 (c := 1) rfl (by decide) rfl (by simp) rfl rfl rfl (c_X10_fails hR69) ?_
              refine mm_ifeq dX4_takeClause_84 (by omega) (fun _ => ?_) (fun h => absurd (by decide) h)
              refine mm_iconst dX4_takeClause_91 rfl ?_
              refine mm_zret dX4_takeClause_92 rfl rfl (Or.inl rfl) ?_
              rw [fk] at h76
              first
              | (rw [if_neg (fun y => y h76)] at hL
                 rw [← hL]
                 exact ⟨rfl, hI5, f5.trans h67, g12, g13⟩)
              | (rw [if_pos h76] at hL
                 rw [← hL]
                 exact kp_bad hI5 fs rfl N)
          · refine mm_iconst dX4_takeClause_56 rfl ?_
            refine mm_zret dX4_takeClause_57 rfl rfl (Or.inl rfl) ?_
            rcases hz with ⟨z, -⟩ | ⟨z1, z2, z3⟩
            · omega
            · rw [ek] at z2 z3
              by_cases q : kt_k (M 2) n p = 2
              · rw [if_pos q] at z3
                rw [if_neg (fun y => y q), if_pos (fun y => z2 ⟨q, by rw [ev q]; exact y.1, by rw [ev q]; exact y.2⟩)] at hL
                rw [← hL]
                exact kp_bad hI2 es z3 N
              · rw [if_neg q] at z3
                rw [if_pos q] at hL
                rw [← hL]
                exact kp_bad hI2 es z3 N
        · exfalso; omega
      · exfalso; omega
end

