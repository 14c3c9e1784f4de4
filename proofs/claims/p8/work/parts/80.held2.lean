/-! ===== held, of the class ===== -/
section
variable {X : mm_X} {M : mm_M} {h : Int}
theorem c_X2_countHeld (hR : mm_Rf M) (hK : mm_CK M) (hA : mm_CA M) (hC : mm_CR M) (hh : ks_hr h) :
    mm_C X Y_X2_countHeld 243 243 [(2, 140), (0, h)] M (fun r M' => r = (0, ka_sum (kh_f (fun s => kh_ok (M 4) (kc_T M) (M 16) h s ∧ kh_ok (M 4) (kc_T M) (M 17) h s)) (ks_n (M 4)).toNat) ∧ mm_Rf M' ∧ mm_ag M M' ∧ (∀ a, a ≠ 141 → a ≠ 142 → a ≠ 143 → M' a = M a)) := by
  have hnb := ks_nb hK.1
  have hG0 := mm_ag.rf M
  have est := hK.2.1
  obtain ⟨F, hF⟩ : ∃ F, F = kh_f (fun s => kh_ok (M 4) (kc_T M) (M 16) h s ∧ kh_ok (M 4) (kc_T M) (M 17) h s) := ⟨_, rfl⟩
  have hFb : ∀ j, 0 ≤ F j ∧ F j ≤ 1 := by rw [hF]; exact kh_fb _
  rw [← hF]
  refine mm_start (ls := [(2, 140), (0, h), (9, 0), (9, 0)]) rfl ?_
  -- the count
  have cnt : ∀ i : Nat, i ≤ (ks_n (M 4)).toNat → ∀ N : mm_M, mm_Rf N → mm_ag M N → (∀ a, a ≠ 141 → a ≠ 142 → a ≠ 143 → N a = M a) → (∀ j : Nat, j < 288 → N 143 j = 0 ∨ N 143 j = 1) → (∀ s : Nat, (s : Int) < ks_n (M 4) → (N 143 s = 1 ↔ F s = 0)) →
      mm_J X Y_X2_countHeld 243 243 243 40 [(2, 140), (0, h), (0, ka_sum F i), (0, (i : Int))] [] N (fun r M' => r = (0, ka_sum F (ks_n (M 4)).toNat) ∧ mm_Rf M' ∧ mm_ag M M' ∧ (∀ a, a ≠ 141 → a ≠ 142 → a ≠ 143 → M' a = M a)) := by
    refine mm_lp ?_
    intro i hi ih N hRN hG hfr hzz hl
    have f3 : N 3 2 = ks_n (M 4) := by rw [hG 3 (by decide) (by decide)]; exact est
    have hsum := ka_sumb (B := 1) (n := i) (f := F) (fun j hj => by have := hFb j; omega)
    by_cases hil : i < (ks_n (M 4)).toNat
    · have hzi := hzz i (by omega)
      have hli := hl i (by omega)
      have hfi := hFb i
      refine mm_iload_n dX2_countHeld_40 rfl rfl ?_
      refine mm_aload_n dX2_countHeld_41 rfl rfl ?_
      refine mm_getr dX2_countHeld_42 rfl fl_X2_27 (c := 139) rfl (by decide) rfl rfl (hRN.at (c := 139) (i := 0) (v := 4) rfl (by decide)) ?_
      refine mm_get (kd := 0) dX2_countHeld_45 rfl fl_X2_99 (c := 3) rfl (by decide) rfl rfl ?_
      obtain ⟨v45, hv45⟩ : ∃ v, v = N 3 2 := ⟨_, rfl⟩
      rw [← hv45]
      rw [f3] at hv45
      subst hv45
      refine mm_icge dX2_countHeld_48 (by omega) (by omega) (fun h48 => ?_) (fun h48 => ?_)
      · exfalso; omega
      · refine mm_iload_n dX2_countHeld_51 rfl rfl ?_
        refine mm_aload_n dX2_countHeld_52 rfl rfl ?_
        refine mm_getr dX2_countHeld_53 rfl fl_X2_23 (c := 139) rfl (by decide) rfl rfl (hRN.at (c := 139) (i := 11) (v := 144) rfl (by decide)) ?_
        refine mm_iload_n dX2_countHeld_56 rfl rfl ?_
        refine mm_zalk (k0 := i) dX2_countHeld_57 rfl (c := 143) rfl (by decide) rfl (by omega) (by omega) ?_
        refine mm_ifeq_o (q2 := 66) dX2_countHeld_58 (by omega) (fun k => mm_iconst dX2_countHeld_65 rfl k) (fun k => mm_iconst dX2_countHeld_61 rfl (mm_goto dX2_countHeld_62 k)) ?_
        refine mm_iadd dX2_countHeld_66 rfl ?_
        refine mm_istore_n dX2_countHeld_67 rfl (Nat.le_of_ble_eq_true rfl) rfl ?_
        refine mm_iinc dX2_countHeld_68 rfl rfl (Nat.le_of_ble_eq_true rfl) rfl ?_
        refine mm_goto dX2_countHeld_71 ?_
        have := ih hil N hRN hG hfr hzz hl
        rw [ka_sum, show F i = mm_b (N 143 i = 0) by unfold mm_b; split <;> omega] at this
        exact this
    · have ei : i = (ks_n (M 4)).toNat := by omega
      refine mm_iload_n dX2_countHeld_40 rfl rfl ?_
      refine mm_aload_n dX2_countHeld_41 rfl rfl ?_
      refine mm_getr dX2_countHeld_42 rfl fl_X2_27 (c := 139) rfl (by decide) rfl rfl (hRN.at (c := 139) (i := 0) (v := 4) rfl (by decide)) ?_
      refine mm_get (kd := 0) dX2_countHeld_45 rfl fl_X2_99 (c := 3) rfl (by decide) rfl rfl ?_
      obtain ⟨v45, hv45⟩ : ∃ v, v = N 3 2 := ⟨_, rfl⟩
      rw [← hv45]
      rw [f3] at hv45
      subst hv45
      refine mm_icge dX2_countHeld_48 (by omega) (by omega) (fun h48 => ?_) (fun h48 => ?_)
      · refine mm_iload_n dX2_countHeld_74 rfl rfl ?_
        refine mm_iret dX2_countHeld_75 rfl rfl ?_
        exact ⟨by rw [ei], hRN, hG, hfr⟩
      · exfalso; omega
  -- nothing lost at first
  have ini : ∀ i : Nat, i ≤ 288 → ∀ N : mm_M, mm_Rf N → mm_ag M N → (∀ a, a ≠ 143 → N a = M a) → (∀ j : Nat, j < i → N 143 j = 0) →
      mm_J X Y_X2_countHeld 243 243 243 2 [(2, 140), (0, h), (0, (i : Int)), (9, 0)] [] N (fun r M' => r = (0, ka_sum F (ks_n (M 4)).toNat) ∧ mm_Rf M' ∧ mm_ag M M' ∧ (∀ a, a ≠ 141 → a ≠ 142 → a ≠ 143 → M' a = M a)) := by
    refine mm_lp ?_
    intro i hi ih N hRN hG hfr h0
    by_cases hil : i < 288
    · refine mm_iload_n dX2_countHeld_2 rfl rfl ?_
      refine mm_aload_n dX2_countHeld_3 rfl rfl ?_
      refine mm_getr dX2_countHeld_4 rfl fl_X2_23 (c := 139) rfl (by decide) rfl rfl (hRN.at (c := 139) (i := 11) (v := 144) rfl (by decide)) ?_
      refine mm_aln dX2_countHeld_7 rfl (c := 143) rfl (by decide) rfl ?_
      refine mm_icge dX2_countHeld_8 (by omega) (by omega) (fun h8 => ?_) (fun h8 => ?_)
      · exfalso; omega
      · refine mm_aload_n dX2_countHeld_11 rfl rfl ?_
        refine mm_getr dX2_countHeld_12 rfl fl_X2_23 (c := 139) rfl (by decide) rfl rfl (hRN.at (c := 139) (i := 11) (v := 144) rfl (by decide)) ?_
        refine mm_iload_n dX2_countHeld_15 rfl rfl ?_
        refine mm_iconst dX2_countHeld_16 rfl ?_
        refine mm_zstk (k0 := i) dX2_countHeld_17 rfl (c := 143) rfl (by decide) rfl (by omega) (by omega) (Or.inl rfl) (fun M17 hM17 => ?_)
        have hR17 : mm_Rf M17 := by rw [hM17]; exact hRN.up (mm_rt_ar (t := 2) rfl (by decide))
        have hG17 : mm_ag M M17 := by rw [hM17]; exact hG.up (by decide)
        refine mm_iinc dX2_countHeld_18 rfl rfl (Nat.le_of_ble_eq_true rfl) rfl ?_
        refine mm_goto dX2_countHeld_21 ?_
        refine ih hil _ hR17 hG17 ?_ ?_
        · intro a ha; rw [hM17, mm_up_row ha]; exact hfr a ha
        · intro j hj
          by_cases q : j = i
          · rw [hM17, q, mm_up_s]
          · rw [hM17, mm_up_i q]; exact h0 j (by omega)
    · refine mm_iload_n dX2_countHeld_2 rfl rfl ?_
      refine mm_aload_n dX2_countHeld_3 rfl rfl ?_
      refine mm_getr dX2_countHeld_4 rfl fl_X2_23 (c := 139) rfl (by decide) rfl rfl (hRN.at (c := 139) (i := 11) (v := 144) rfl (by decide)) ?_
      refine mm_aln dX2_countHeld_7 rfl (c := 143) rfl (by decide) rfl ?_
      refine mm_icge dX2_countHeld_8 (by omega) (by omega) (fun h8 => ?_) (fun h8 => ?_)
      · refine mm_aload_n dX2_countHeld_24 rfl rfl ?_
        refine mm_iload_n dX2_countHeld_25 rfl rfl ?_
        refine mm_iconst dX2_countHeld_26 rfl ?_
        refine mm_V2g (M1 := N) dX2_countHeld_27 rfl lk_X2_95 (c := 139) rfl (by decide) rfl (by simp) (by simp) rfl rfl rfl ((by have := c_X2_markLost (X := X) (P := False) (M := N) (h := h) hRN (hG.ck hK) (hG.ca hA) (hG.cr hC) hh (fun j hj => Or.inl (h0 j (by omega))); exact this)) ?_
        rintro _ N27 ⟨rfl, p27⟩
        change mm_J _ _ _ _ _ _ _ _ _ _
        have hR27 : mm_Rf N27 := p27.1
        have hG27 : mm_ag M N27 := hG.tr p27.2.1
        obtain ⟨-, -, q1, q2, q3⟩ := p27
        rw [if_neg (fun q => q), hG.ct, hG 4 (by decide) (by decide), hG 16 (by decide) (by decide)] at q3
        have hfr2 : ∀ a, a ≠ 141 → a ≠ 142 → a ≠ 143 → N27 a = M a := fun a a1 a2 a3 => (q1 a a1 a2 a3).trans (hfr a a3)
        refine mm_aload_n dX2_countHeld_30 rfl rfl ?_
        refine mm_iload_n dX2_countHeld_31 rfl rfl ?_
        refine mm_iconst dX2_countHeld_32 rfl ?_
        refine mm_V2g (M1 := N27) dX2_countHeld_33 rfl lk_X2_95 (c := 139) rfl (by decide) rfl (by simp) (by simp) rfl rfl rfl ((by have := c_X2_markLost (X := X) (P := True) (M := N27) (h := h) hR27 (hG27.ck hK) (hG27.ca hA) (hG27.cr hC) hh q2; exact this)) ?_
        rintro _ N33 ⟨rfl, p33⟩
        change mm_J _ _ _ _ _ _ _ _ _ _
        have hR33 : mm_Rf N33 := p33.1
        have hG33 : mm_ag M N33 := hG27.tr p33.2.1
        obtain ⟨-, -, q4, q5, q6⟩ := p33
        rw [if_pos trivial, hG27.ct, hG27 4 (by decide) (by decide), hG27 17 (by decide) (by decide)] at q6
        refine mm_iconst dX2_countHeld_36 rfl ?_
        refine mm_istore_n dX2_countHeld_37 rfl (Nat.le_of_ble_eq_true rfl) rfl ?_
        refine mm_iconst dX2_countHeld_38 rfl ?_
        refine mm_istore_n dX2_countHeld_39 rfl (Nat.le_of_ble_eq_true rfl) rfl ?_
        refine cnt 0 (Nat.zero_le _) N33 hR33 hG33 (fun a a1 a2 a3 => (q4 a a1 a2 a3).trans (hfr2 a a1 a2 a3)) q5 ?_
        intro s hs
        rw [q6 s hs, q3 s hs, h0 s (by omega)]
        constructor
        · rintro ((z | z) | z)
          · exact absurd z (by decide)
          · rw [hF]; exact kh_f0 (fun y => z y.1)
          · rw [hF]; exact kh_f0 (fun y => z y.2)
        · intro z
          by_cases y : kh_ok (M 4) (kc_T M) (M 16) h s
          · by_cases y2 : kh_ok (M 4) (kc_T M) (M 17) h s
            · rw [hF, kh_f1 (show (fun s : Nat => kh_ok (M 4) (kc_T M) (M 16) h s ∧ kh_ok (M 4) (kc_T M) (M 17) h s) s from ⟨y, y2⟩)] at z
              exact absurd z (by decide)
            · exact Or.inr y2
          · exact Or.inl (Or.inr y)
      · exfalso; omega
  refine mm_iconst dX2_countHeld_0 rfl ?_
  refine mm_istore_n dX2_countHeld_1 rfl (Nat.le_of_ble_eq_true rfl) rfl ?_
  exact ini 0 (Nat.zero_le _) M hR hG0 (fun _ _ => rfl) (fun j hj => absurd hj (Nat.not_lt_zero j))
theorem c_X11_held1 (hR : mm_Rf M) (hK : mm_CK M) (hA : mm_CA M) (hC : mm_CR M) (hh : ks_hr h) :
    mm_C X Y_X11_held 243 243 [(2, 1), (0, h)] M (fun r M' => r = (0, ka_sum (kh_f (fun s => kh_ok (M 4) (kc_T M) (M 16) h s ∧ kh_ok (M 4) (kc_T M) (M 17) h s)) (ks_n (M 4)).toNat) ∧ mm_Rf M' ∧ mm_ag M M' ∧ (∀ a, a ≠ 141 → a ≠ 142 → a ≠ 143 → M' a = M a)) := by
  refine mm_start (ls := [(2, 1), (0, h)]) rfl ?_
  refine mm_iload_n dX11_held_0 rfl rfl ?_
  refine mm_S1i dX11_held_1 rfl lk_X11_165 (by simp) rfl rfl rfl (c_X11_isHour (by omega)) ?_
  refine mm_ifeqb dX11_held_4 (fun h4 => ?_) (fun h4 => ?_)
  · exact absurd hh h4
  · refine mm_aload_n dX11_held_7 rfl rfl ?_
    refine mm_getr dX11_held_8 rfl fl_X11_69 (c := 0) rfl (by decide) rfl rfl (hR.at (c := 0) (i := 8) (v := 140) rfl (by decide)) ?_
    refine mm_iload_n dX11_held_11 rfl rfl ?_
    refine mm_V1g (M1 := M) dX11_held_12 rfl lk_X11_278 (c := 139) rfl (by decide) rfl (by simp) rfl rfl rfl (c_X2_countHeld hR hK hA hC hh) ?_
    rintro _ N12 ⟨rfl, p12⟩
    change mm_J _ _ _ _ _ _ _ _ _ _
    have hR12 : mm_Rf N12 := p12.1
    refine mm_goto dX11_held_15 ?_
    refine mm_iret dX11_held_20 rfl rfl ?_
    exact ⟨rfl, p12⟩
theorem c_X11_held0 (hR : mm_Rf M) (hh : mm_R h) (hno : ¬ ks_hr h) : mm_Fn X Y_X11_held 243 [(2, 1), (0, h)] M (0, -2) M := by
  refine mm_startF (ls := [(2, 1), (0, h)]) rfl ?_
  refine mm_iload_n dX11_held_0 rfl rfl ?_
  refine mm_S1i dX11_held_1 rfl lk_X11_165 (by simp) rfl rfl rfl (c_X11_isHour (by omega)) ?_
  refine mm_ifeqb dX11_held_4 (fun h4 => ?_) (fun h4 => ?_)
  · refine mm_bipush dX11_held_18 rfl (by decide) ?_
    refine mm_iret dX11_held_20 rfl rfl ?_
    exact mm_fin rfl rfl
  · exact absurd h4 hno
end

