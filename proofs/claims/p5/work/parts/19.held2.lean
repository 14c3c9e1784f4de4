/-! 80.held2 -/
section
/-! ===== held, of the class ===== -/
section
variable {X : mm_X} {M : mm_M} {h : Int}
theorem c_X2_countHeld (hR : mm_Rf M) (hK : mm_CK M) (hA : mm_CA M) (hC : mm_CR M) (hh : ks_hr h) :
    mm_C X Y_X2_countHeld 243 243 [(2, 140), (0, h)] M (fun r M' => r = (0, ka_sum (kh_f (fun s => kh_ok (M 4) (kc_T M) (M 16) h s ∧ kh_ok (M 4) (kc_T M) (M 17) h s)) (ks_n (M 4)).toNat) ∧ mm_Rf M' ∧ mm_ag M M' ∧ (∀ a, a ≠ 141 → a ≠ 142 → a ≠ 143 → M' a = M a)) := by
  have hnb := ks_nb hK.1
  have hG0 := mm_ag.rf M
  have est := hK.2.1
  obtain ⟨F, hF⟩ : ∃ F, F = kh_f (fun s => kh_ok (M 4) (kc_T M) (M 16) h s ∧ kh_ok (M 4) (kc_T M) (M 17) h s) := ⟨_, rfl⟩
  have hFb : ∀ j, 0 ≤ F j ∧ F j ≤ 1 := by rw [hF]; exact kh_fb _
  rw [← hF]
  refine mm_start (ls := [(2, 140), (0, h), (9, 0), (9, 0)]) rfl ?_
  -- the count
  have cnt : ∀ i : Nat, i ≤ (ks_n (M 4)).toNat → ∀ N : mm_M, mm_Rf N → mm_ag M N → (∀ a, a ≠ 141 → a ≠ 142 → a ≠ 143 → N a = M a) → (∀ j : Nat, j < 288 → N 143 j = 0 ∨ N 143 j = 1) → (∀ s : Nat, (s : Int) < ks_n (M 4) → (N 143 s = 1 ↔ F s = 0)) →
      mm_J X Y_X2_countHeld 243 243 243 40 [(2, 140), (0, h), (0, ka_sum F i), (0, (i : Int))] [] N (fun r M' => r = (0, ka_sum F (ks_n (M 4)).toNat) ∧ mm_Rf M' ∧ mm_ag M M' ∧ (∀ a, a ≠ 141 → a ≠ 142 → a ≠ 143 → M' a = M a)) := by
    refine mm_lp ?_
    intro i hi ih N hRN hG hfr hzz hl
    have f3 : N 3 2 = ks_n (M 4) := by rw [hG 3 (by decide) (by decide)]; exact est
    have hsum := ka_sumb (B := 1) (n := i) (f := F) (fun j hj => by have := hFb j; omega)
    by_cases hil : i < (ks_n (M 4)).toNat
    · have hzi := hzz i (by omega)
      have hli := hl i (by omega)
      have hfi := hFb i
      refine mm_iload_n dX2_countHeld_40 rfl rfl ?_
      refine mm_aload_n dX2_countHeld_41 rfl rfl ?_
      refine mm_getr dX2_countHeld_42 rfl fl_X2_27 (c := 139) rfl (by decide) rfl rfl (hRN.at (c := 139) (i := 0) (v := 4) rfl (by decide)) ?_
      refine mm_get (kd := 0) dX2_countHeld_45 rfl fl_X2_99 (c := 3) rfl (by decide) rfl rfl ?_
      obtain ⟨v45, hv45⟩ : ∃ v, v = N 3 2 := ⟨_, rfl⟩
      rw [← hv45]
      rw [f3] at hv45
      subst hv45
      refine mm_icge dX2_countHeld_48 (by omega) (by omega) (fun h48 => ?_) (fun h48 => ?_)
      · exfalso; omega
      · refine mm_iload_n dX2_countHeld_51 rfl rfl ?_
        refine mm_aload_n dX2_countHeld_52 rfl rfl ?_
        refine mm_getr dX2_countHeld_53 rfl fl_X2_23 (c := 139) rfl (by decide) rfl rfl (hRN.at (c := 139) (i := 11) (v := 144) rfl (by decide)) ?_
        refine mm_iload_n dX2_countHeld_56 rfl rfl ?_
        refine mm_zalk (k0 := i) dX2_countHeld_57 rfl (c := 143) rfl (by decide) rfl (by omega) (by omega) ?_
        refine mm_ifeq_o (q2 := 66) dX2_countHeld_58 (by omega) (fun k => mm_iconst dX2_countHeld_65 rfl k) (fun k => mm_iconst dX2_countHeld_61 rfl (mm_goto dX2_countHeld_62 k)) ?_
        refine mm_iadd dX2_countHeld_66 rfl ?_
        refine mm_istore_n dX2_countHeld_67 rfl (Nat.le_of_ble_eq_true rfl) rfl ?_
        refine mm_iinc dX2_countHeld_68 rfl rfl (Nat.le_of_ble_eq_true rfl) rfl ?_
        refine mm_goto dX2_countHeld_71 ?_
        have := ih hil N hRN hG hfr hzz hl
        rw [ka_sum, show F i = mm_b (N 143 i = 0) by unfold mm_b; split <;> omega] at this
        exact this
    · have ei : i = (ks_n (M 4)).toNat := by omega
      refine mm_iload_n dX2_countHeld_40 rfl rfl ?_
      refine mm_aload_n dX2_countHeld_41 rfl rfl ?_
      refine mm_getr dX2_countHeld_42 rfl fl_X2_27 (c := 139) rfl (by decide) rfl rfl (hRN.at (c := 139) (i := 0) (v := 4) rfl (by decide)) ?_
      refine mm_get (kd := 0) dX2_countHeld_45 rfl fl_X2_99 (c := 3) rfl (by decide) rfl rfl ?_
      obtain ⟨v45, hv45⟩ : ∃ v, v = N 3 2 := ⟨_, rfl⟩
      rw [← hv45]
      rw [f3] at hv45
      subst hv45
      refine mm_icge dX2_countHeld_48 (by omega) (by omega) (fun h48 => ?_) (fun h48 => ?_)
      · refine mm_iload_n dX2_countHeld_74 rfl rfl ?_
        refine mm_iret dX2_countHeld_75 rfl rfl ?_
        exact ⟨by rw [ei], hRN, hG, hfr⟩
      · exfalso; omega
  -- nothing lost at first
  have ini : ∀ i : Nat, i ≤ 288 → ∀ N : mm_M, mm_Rf N → mm_ag M N → (∀ a, a ≠ 143 → N a = M a) → (∀ j : Nat, j < i → N 143 j = 0) →
      mm_J X Y_X2_countHeld 243 243 243 2 [(2, 140), (0, h), (0, (i : Int)), (9, 0)] [] N (fun r M' => r = (0, ka_sum F (ks_n (M 4)).toNat) ∧ mm_Rf M' ∧ mm_ag M M' ∧ (∀ a, a ≠ 141 → a ≠ 142 → a ≠ 143 → M' a = M a)) := by
    refine mm_lp ?_
    intro i hi ih N hRN hG hfr h0
    by_cases hil : i < 288
    · refine mm_iload_n dX2_countHeld_2 rfl rfl ?_
      refine mm_aload_n dX2_countHeld_3 rfl rfl ?_
      refine mm_getr dX2_countHeld_4 rfl fl_X2_23 (c := 139) rfl (by decide) rfl rfl (hRN.at (c := 139) (i := 11) (v := 144) rfl (by decide)) ?_
      refine mm_aln dX2_countHeld_7 rfl (c := 143) rfl (by decide) rfl ?_
      refine mm_icge dX2_countHeld_8 (by omega) (by omega) (fun h8 => ?_) (fun h8 => ?_)
      · exfalso; omega
      · refine mm_aload_n dX2_countHeld_11 rfl rfl ?_
        refine mm_getr dX2_countHeld_12 rfl fl_X2_23 (c := 139) rfl (by decide) rfl rfl (hRN.at (c := 139) (i := 11) (v := 144) rfl (by decide)) ?_
        refine mm_iload_n dX2_countHeld_15 rfl rfl ?_
        refine mm_iconst dX2_countHeld_16 rfl ?_
        refine mm_zstk (k0 := i) dX2_countHeld_17 rfl (c := 143) rfl (by decide) rfl (by omega) (by omega) (Or.inl rfl) (fun M17 hM17 => ?_)
        have hR17 : mm_Rf M17 := by rw [hM17]; exact hRN.up (mm_rt_ar (t := 2) rfl (by decide))
        have hG17 : mm_ag M M17 := by rw [hM17]; exact hG.up (by decide)
        refine mm_iinc dX2_countHeld_18 rfl rfl (Nat.le_of_ble_eq_true rfl) rfl ?_
        refine mm_goto dX2_countHeld_21 ?_
        refine ih hil _ hR17 hG17 ?_ ?_
        · intro a ha; rw [hM17, mm_up_row ha]; exact hfr a ha
        · intro j hj
          by_cases q : j = i
          · rw [hM17, q, mm_up_s]
          · rw [hM17, mm_up_i q]; exact h0 j (by omega)
    · refine mm_iload_n dX2_countHeld_2 rfl rfl ?_
      refine mm_aload_n dX2_countHeld_3 rfl rfl ?_
      refine mm_getr dX2_countHeld_4 rfl fl_X2_23 (c := 139) rfl (by decide) rfl rfl (hRN.at (c := 139) (i := 11) (v := 144) rfl (by decide)) ?_
      refine mm_aln dX2_countHeld_7 rfl (c := 143) rfl (by decide) rfl ?_
      refine mm_icge dX2_countHeld_8 (by omega) (by omega) (fun h8 => ?_) (fun h8 => ?_)
      · refine mm_aload_n dX2_countHeld_24 rfl rfl ?_
        refine mm_iload_n dX2_countHeld_25 rfl rfl ?_
        refine mm_iconst dX2_countHeld_26 rfl ?_
        refine mm_V2g (M1 := N) dX2_countHeld_27 rfl lk_X2_95 (c := 139) rfl (by decide) rfl (by simp) (by simp) rfl rfl rfl ((by have := c_X2_markLost (X := X) (P := False) (M := N) (h := h) hRN (hG.ck hK) (hG.ca hA) (hG.cr hC) hh (fun j hj => Or.inl (h0 j (by omega))); exact this)) ?_
        rintro _ N27 ⟨rfl, p27⟩
        change mm_J _ _ _ _ _ _ _ _ _ _
        have hR27 : mm_Rf N27 := p27.1
        have hG27 : mm_ag M N27 := hG.tr p27.2.1
        obtain ⟨-, -, q1, q2, q3⟩ := p27
        rw [if_neg (fun q => q), hG.ct, hG 4 (by decide) (by decide), hG 16 (by decide) (by decide)] at q3
        have hfr2 : ∀ a, a ≠ 141 → a ≠ 142 → a ≠ 143 → N27 a = M a := fun a a1 a2 a3 => (q1 a a1 a2 a3).trans (hfr a a3)
        refine mm_aload_n dX2_countHeld_30 rfl rfl ?_
        refine mm_iload_n dX2_countHeld_31 rfl rfl ?_
        refine mm_iconst dX2_countHeld_32 rfl ?_
        refine mm_V2g (M1 := N27) dX2_countHeld_33 rfl lk_X2_95 (c := 139) rfl (by decide) rfl (by simp) (by simp) rfl rfl rfl ((by have := c_X2_markLost (X := X) (P := True) (M := N27) (h := h) hR27 (hG27.ck hK) (hG27.ca hA) (hG27.cr hC) hh q2; exact this)) ?_
        rintro _ N33 ⟨rfl, p33⟩
        change mm_J _ _ _ _ _ _ _ _ _ _
        have hR33 : mm_Rf N33 := p33.1
        have hG33 : mm_ag M N33 := hG27.tr p33.2.1
        obtain ⟨-, -, q4, q5, q6⟩ := p33
        rw [if_pos trivial, hG27.ct, hG27 4 (by decide) (by decide), hG27 17 (by decide) (by decide)] at q6
        refine mm_iconst dX2_countHeld_36 rfl ?_
        refine mm_istore_n dX2_countHeld_37 rfl (Nat.le_of_ble_eq_true rfl) rfl ?_
        refine mm_iconst dX2_countHeld_38 rfl ?_
        refine mm_istore_n dX2_countHeld_39 rfl (Nat.le_of_ble_eq_true rfl) rfl ?_
        refine cnt 0 (Nat.zero_le _) N33 hR33 hG33 (fun a a1 a2 a3 => (q4 a a1 a2 a3).trans (hfr2 a a1 a2 a3)) q5 ?_
        intro s hs
        rw [q6 s hs, q3 s hs, h0 s (by omega)]
        constructor
        · rintro ((z | z) | z)
          · exact absurd z (by decide)
          · rw [hF]; exact kh_f0 (fun y => z y.1)
          · rw [hF]; exact kh_f0 (fun y => z y.2)
        · intro z
          by_cases y : kh_ok (M 4) (kc_T M) (M 16) h s
          · by_cases y2 : kh_ok (M 4) (kc_T M) (M 17) h s
            · rw [hF, kh_f1 (show (fun s : Nat => kh_ok (M 4) (kc_T M) (M 16) h s ∧ kh_ok (M 4) (kc_T M) (M 17) h s) s from ⟨y, y2⟩)] at z
              exact absurd z (by decide)
            · exact Or.inr y2
          · exact Or.inl (Or.inr y)
      · exfalso; omega
  refine mm_iconst dX2_countHeld_0 rfl ?_
  refine mm_istore_n dX2_countHeld_1 rfl (Nat.le_of_ble_eq_true rfl) rfl ?_
  exact ini 0 (Nat.zero_le _) M hR hG0 (fun _ _ => rfl) (fun j hj => absurd hj (Nat.not_lt_zero j))
theorem c_X11_held1 (hR : mm_Rf M) (hK : mm_CK M) (hA : mm_CA M) (hC : mm_CR M) (hh : ks_hr h) :
    mm_C X Y_X11_held 243 243 [(2, 1), (0, h)] M (fun r M' => r = (0, ka_sum (kh_f (fun s => kh_ok (M 4) (kc_T M) (M 16) h s ∧ kh_ok (M 4) (kc_T M) (M 17) h s)) (ks_n (M 4)).toNat) ∧ mm_Rf M' ∧ mm_ag M M' ∧ (∀ a, a ≠ 141 → a ≠ 142 → a ≠ 143 → M' a = M a)) := by
  refine mm_start (ls := [(2, 1), (0, h)]) rfl ?_
  refine mm_iload_n dX11_held_0 rfl rfl ?_
  refine mm_S1i dX11_held_1 rfl lk_X11_165 (by simp) rfl rfl rfl (c_X11_isHour (by omega)) ?_
  refine mm_ifeqb dX11_held_4 (fun h4 => ?_) (fun h4 => ?_)
  · exact absurd hh h4
  · refine mm_aload_n dX11_held_7 rfl rfl ?_
    refine mm_getr dX11_held_8 rfl fl_X11_69 (c := 0) rfl (by decide) rfl rfl (hR.at (c := 0) (i := 8) (v := 140) rfl (by decide)) ?_
    refine mm_iload_n dX11_held_11 rfl rfl ?_
    refine mm_V1g (M1 := M) dX11_held_12 rfl lk_X11_278 (c := 139) rfl (by decide) rfl (by simp) rfl rfl rfl (c_X2_countHeld hR hK hA hC hh) ?_
    rintro _ N12 ⟨rfl, p12⟩
    change mm_J _ _ _ _ _ _ _ _ _ _
    have hR12 : mm_Rf N12 := p12.1
    refine mm_goto dX11_held_15 ?_
    refine mm_iret dX11_held_20 rfl rfl ?_
    exact ⟨rfl, p12⟩
theorem c_X11_held0 (hR : mm_Rf M) (hh : mm_R h) (hno : ¬ ks_hr h) : mm_Fn X Y_X11_held 243 [(2, 1), (0, h)] M (0, -2) M := by
  refine mm_startF (ls := [(2, 1), (0, h)]) rfl ?_
  refine mm_iload_n dX11_held_0 rfl rfl ?_
  refine mm_S1i dX11_held_1 rfl lk_X11_165 (by simp) rfl rfl rfl (c_X11_isHour (by omega)) ?_
  refine mm_ifeqb dX11_held_4 (fun h4 => ?_) (fun h4 => ?_)
  · refine mm_bipush dX11_held_18 rfl (by decide) ?_
    refine mm_iret dX11_held_20 rfl rfl ?_
    exact mm_fin rfl rfl
  · exact absurd h4 hno
end
end
/-! 81.apart -/
section
/-! ===== apart and shift, of the class ===== -/
/-- the first of the greatest, among k below n -/
def kb_best (f : Nat → Int) : Nat → Int × Int
  | 0 => (-1, -1)
  | n + 1 => if (kb_best f n).2 < f n then ((n : Int), f n) else kb_best f n
theorem kb_bestb {f : Nat → Int} {B : Int} (hB : -1 ≤ B) : ∀ {n : Nat}, (∀ i, i < n → 0 ≤ f i ∧ f i ≤ B) → -1 ≤ (kb_best f n).2 ∧ (kb_best f n).2 ≤ B ∧ -1 ≤ (kb_best f n).1 ∧ (kb_best f n).1 < n
  | 0, _ => by simp [kb_best]; omega
  | n + 1, h => by
    have h1 := kb_bestb (f := f) hB (n := n) (fun i q => h i (by omega))
    have h2 := h n (by omega)
    unfold kb_best
    split
    · simp only; omega
    · omega
theorem kn_db {K S T : Nat → Int} (hK : mm_KV K) {l m k : Nat} {w : Int} (hw : -40 ≤ w ∧ w ≤ 40) (t : Nat) : 0 ≤ kn_d K S T l m k w t ∧ kn_d K S T l m k w t ≤ 52 := by
  have a := ks_colb hK (T ((k + t) % m))
  have b := ks_colb hK (S (t % l))
  have c := ks_rowb hK (T ((k + t) % m))
  have d := ks_rowb hK (S (t % l))
  obtain ⟨h0, h1, -⟩ := hK
  unfold kn_d
  omega
section
variable {X : mm_X} {M : mm_M} {x y u v k w : Int} {rc rd l m : Nat}
theorem c_X11_apart (hR : mm_Rf M) (hK : mm_CK M) (hx : mm_R x) (hy : mm_R y) (hu : mm_R u) (hv : mm_R v) (hk : mm_R k) (hl : ∀ k : Nat, k < 6 → 0 ≤ M (121 + 3 * k) 2 ∧ M (121 + 3 * k) 2 ≤ 100) (hst : ∀ k : Nat, k < 6 → ∀ i : Nat, (i : Int) < M (121 + 3 * k) 2 → ks_st (M 4) (M (121 + 3 * k + 2) i)) :
    mm_Fn X Y_X11_apart 243 [(2, 1), (0, x), (0, y), (0, u), (0, v), (0, k)] M (0, if ((0 ≤ x ∧ x ≤ 5) ∧ (0 ≤ y ∧ y ≤ 40) ∧ (0 ≤ u ∧ u ≤ 5) ∧ (0 ≤ v ∧ v ≤ 40)) ∧ 0 ≤ k ∧ k ≤ 99 then (if 0 < M (121 + 3 * x.toNat) 2 ∧ 0 < M (121 + 3 * u.toNat) 2 then
      kn (kn_d (M 4) (M (121 + 3 * x.toNat + 2)) (M (121 + 3 * u.toNat + 2)) (M (121 + 3 * x.toNat) 2).toNat (M (121 + 3 * u.toNat) 2).toNat k.toNat (v - y)) ((M (121 + 3 * x.toNat) 2).toNat * (M (121 + 3 * u.toNat) 2).toNat / Nat.gcd (M (121 + 3 * x.toNat) 2).toNat (M (121 + 3 * u.toNat) 2).toNat) else -4) else -2) M := by
  refine mm_startF (ls := [(2, 1), (0, x), (0, y), (0, u), (0, v), (0, k)]) rfl ?_
  by_cases hs : ((0 ≤ x ∧ x ≤ 5) ∧ (0 ≤ y ∧ y ≤ 40) ∧ (0 ≤ u ∧ u ≤ 5) ∧ (0 ≤ v ∧ v ≤ 40)) ∧ 0 ≤ k ∧ k ≤ 99
  · obtain ⟨⟨hx1, hy1, hu1, hv1⟩, hk1⟩ := id hs
    rw [if_pos hs]
    have e1 := mm_keptref hR hx1
    have e2 := mm_keptref hR hu1
    have w1 := (mm_rw_kept x.toNat (by omega)).1
    have w2 := (mm_rw_kept u.toNat (by omega)).1
    have l1 := hl x.toNat (by omega)
    have l2 := hl u.toNat (by omega)
    by_cases hb : 0 < M (121 + 3 * x.toNat) 2 ∧ 0 < M (121 + 3 * u.toNat) 2
    · rw [if_pos hb]
      obtain ⟨hb1, hb2⟩ := id hb
      have cn := c_X1_nearest (X := X) (w := v - y) (k := k.toNat) (l := (M (121 + 3 * x.toNat) 2).toNat) (m := (M (121 + 3 * u.toNat) 2).toNat) hR hK w1 w2 (by omega) (by omega) (by omega) (by omega) (fun i hi => hst x.toNat (by omega) i (by omega)) (fun i hi => hst u.toNat (by omega) i (by omega))
      rw [Int.toNat_of_nonneg hk1.1] at cn
      refine mm_aload_n dX11_apart_0 rfl rfl ?_
      refine mm_iload_n dX11_apart_1 rfl rfl ?_
      refine mm_iload_n dX11_apart_2 rfl rfl ?_
      refine mm_iload_n dX11_apart_3 rfl rfl ?_
      refine mm_iload dX11_apart_4 rfl rfl ?_
      refine mm_V4i dX11_apart_6 rfl lk_X11_312 (c := 0) rfl (by decide) rfl (by simp) (by simp) (by simp) (by simp) rfl rfl rfl (c_X11_canPair hx hy hu hv) ?_
      refine mm_ifeqb dX11_apart_9 (fun h9 => ?_) (fun h9 => ?_)
      · exact absurd hs.1 h9
      · refine mm_iload dX11_apart_12 rfl rfl ?_
        refine mm_iconst dX11_apart_14 rfl ?_
        refine mm_bipush dX11_apart_15 rfl (by decide) ?_
        refine mm_S3i dX11_apart_17 rfl lk_X11_171 (by simp) (by simp) (by simp) rfl rfl rfl (c_X11_isWithin hk (by omega) (by omega)) ?_
        refine mm_ifneb dX11_apart_20 (fun h20 => ?_) (fun h20 => ?_)
        · refine mm_aload_n dX11_apart_26 rfl rfl ?_
          refine mm_iload_n dX11_apart_27 rfl rfl ?_
          refine mm_iload_n dX11_apart_28 rfl rfl ?_
          refine mm_V2i dX11_apart_29 rfl lk_X11_316 (c := 0) rfl (by decide) rfl (by simp) (by simp) rfl rfl rfl (c_X11_areKept hR hx1 hu1 hl) ?_
          refine mm_ifeqb dX11_apart_32 (fun h32 => ?_) (fun h32 => ?_)
          · exact absurd hb h32
          · refine mm_aload_n dX11_apart_35 rfl rfl ?_
            refine mm_getr dX11_apart_36 rfl fl_X11_76 (c := 0) rfl (by decide) rfl rfl (hR.at (c := 0) (i := 9) (v := 145) rfl (by decide)) ?_
            refine mm_aload_n dX11_apart_39 rfl rfl ?_
            refine mm_getr dX11_apart_40 rfl fl_X11_60 (c := 0) rfl (by decide) rfl rfl (hR.at (c := 0) (i := 7) (v := 121) rfl (by decide)) ?_
            refine mm_iload_n dX11_apart_43 rfl rfl ?_
            refine mm_aald dX11_apart_44 rfl (c := 120) rfl (by decide) rfl (by omega) (by omega) ?_
            rw [e1]
            refine mm_aload_n dX11_apart_45 rfl rfl ?_
            refine mm_getr dX11_apart_46 rfl fl_X11_60 (c := 0) rfl (by decide) rfl rfl (hR.at (c := 0) (i := 7) (v := 121) rfl (by decide)) ?_
            refine mm_iload_n dX11_apart_49 rfl rfl ?_
            refine mm_aald dX11_apart_50 rfl (c := 120) rfl (by decide) rfl (by omega) (by omega) ?_
            rw [e2]
            refine mm_iload dX11_apart_51 rfl rfl ?_
            refine mm_iload_n dX11_apart_53 rfl rfl ?_
            refine mm_isub dX11_apart_54 rfl ?_
            refine mm_iload dX11_apart_55 rfl rfl ?_
            refine mm_V4i dX11_apart_57 rfl lk_X11_320 (c := 144) rfl (by decide) rfl (by simp) (by simp) (by simp) (by simp) rfl rfl rfl (cn) ?_
            refine mm_goto dX11_apart_60 ?_
            refine mm_iret dX11_apart_65 rfl rfl ?_
            exact mm_fin rfl rfl
        · exact absurd hs.2 h20
    · rw [if_neg hb]
      refine mm_aload_n dX11_apart_0 rfl rfl ?_
      refine mm_iload_n dX11_apart_1 rfl rfl ?_
      refine mm_iload_n dX11_apart_2 rfl rfl ?_
      refine mm_iload_n dX11_apart_3 rfl rfl ?_
      refine mm_iload dX11_apart_4 rfl rfl ?_
      refine mm_V4i dX11_apart_6 rfl lk_X11_312 (c := 0) rfl (by decide) rfl (by simp) (by simp) (by simp) (by simp) rfl rfl rfl (c_X11_canPair hx hy hu hv) ?_
      refine mm_ifeqb dX11_apart_9 (fun h9 => ?_) (fun h9 => ?_)
      · exact absurd hs.1 h9
      · refine mm_iload dX11_apart_12 rfl rfl ?_
        refine mm_iconst dX11_apart_14 rfl ?_
        refine mm_bipush dX11_apart_15 rfl (by decide) ?_
        refine mm_S3i dX11_apart_17 rfl lk_X11_171 (by simp) (by simp) (by simp) rfl rfl rfl (c_X11_isWithin hk (by omega) (by omega)) ?_
        refine mm_ifneb dX11_apart_20 (fun h20 => ?_) (fun h20 => ?_)
        · refine mm_aload_n dX11_apart_26 rfl rfl ?_
          refine mm_iload_n dX11_apart_27 rfl rfl ?_
          refine mm_iload_n dX11_apart_28 rfl rfl ?_
          refine mm_V2i dX11_apart_29 rfl lk_X11_316 (c := 0) rfl (by decide) rfl (by simp) (by simp) rfl rfl rfl (c_X11_areKept hR hx1 hu1 hl) ?_
          refine mm_ifeqb dX11_apart_32 (fun h32 => ?_) (fun h32 => ?_)
          · refine mm_bipush dX11_apart_63 rfl (by decide) ?_
            refine mm_iret dX11_apart_65 rfl rfl ?_
            exact mm_fin rfl rfl
          · exact absurd h32 hb
        · exact absurd hs.2 h20
  · rw [if_neg hs]
    refine mm_aload_n dX11_apart_0 rfl rfl ?_
    refine mm_iload_n dX11_apart_1 rfl rfl ?_
    refine mm_iload_n dX11_apart_2 rfl rfl ?_
    refine mm_iload_n dX11_apart_3 rfl rfl ?_
    refine mm_iload dX11_apart_4 rfl rfl ?_
    refine mm_V4i dX11_apart_6 rfl lk_X11_312 (c := 0) rfl (by decide) rfl (by simp) (by simp) (by simp) (by simp) rfl rfl rfl (c_X11_canPair hx hy hu hv) ?_
    refine mm_ifeqb dX11_apart_9 (fun h9 => ?_) (fun h9 => ?_)
    · refine mm_bipush dX11_apart_23 rfl (by decide) ?_
      refine mm_iret dX11_apart_25 rfl rfl ?_
      exact mm_fin rfl rfl
    · refine mm_iload dX11_apart_12 rfl rfl ?_
      refine mm_iconst dX11_apart_14 rfl ?_
      refine mm_bipush dX11_apart_15 rfl (by decide) ?_
      refine mm_S3i dX11_apart_17 rfl lk_X11_171 (by simp) (by simp) (by simp) rfl rfl rfl (c_X11_isWithin hk (by omega) (by omega)) ?_
      refine mm_ifneb dX11_apart_20 (fun h20 => ?_) (fun h20 => ?_)
      · exact absurd (And.intro h9 h20) hs
      · refine mm_bipush dX11_apart_23 rfl (by decide) ?_
        refine mm_iret dX11_apart_25 rfl rfl ?_
        exact mm_fin rfl rfl
theorem c_X1_bestShift (hR : mm_Rf M) (hK : mm_CK M) (hrc : mm_rw rc 100) (hrd : mm_rw rd 100) (hl : M rc 2 = (l : Int) ∧ 1 ≤ l ∧ l ≤ 100) (hm : M rd 2 = (m : Int) ∧ 1 ≤ m ∧ m ≤ 100) (hw : -40 ≤ w ∧ w ≤ 40)
    (hs : ∀ i : Nat, i < l → ks_st (M 4) (M (rc + 2) i)) (ht : ∀ i : Nat, i < m → ks_st (M 4) (M (rd + 2) i)) :
    mm_Fn X Y_X1_bestShift 243 [(2, 145), (2, (rc : Int) + 1), (2, (rd : Int) + 1), (0, w)] M (0, (kb_best (fun k => kn (kn_d (M 4) (M (rc + 2)) (M (rd + 2)) l m k w) (l * m / Nat.gcd l m)) (Nat.gcd l m)).1) M := by
  obtain ⟨f, hf⟩ : ∃ f : Nat → Int, f = (fun k => kn (kn_d (M 4) (M (rc + 2)) (M (rd + 2)) l m k w) (l * m / Nat.gcd l m)) := ⟨_, rfl⟩
  have hfb : ∀ i, 0 ≤ f i ∧ f i ≤ 1000 := by intro i; rw [hf]; exact kn_b (fun t => (kn_db hK.1 hw t).1) _
  have hg : 1 ≤ Nat.gcd l m := Nat.gcd_pos_of_pos_left m (by omega)
  have hg2 : Nat.gcd l m ≤ l := Nat.gcd_le_left m (by omega)
  have hl1 := hl.1
  have hm1 := hm.1
  rw [← hf]
  refine mm_startF (ls := [(2, 145), (2, (rc : Int) + 1), (2, (rd : Int) + 1), (0, w), (9, 0), (9, 0), (9, 0), (9, 0), (9, 0)]) rfl ?_
  have loop : ∀ i : Nat, i ≤ Nat.gcd l m → ∀ l8 : mm_V, mm_J X Y_X1_bestShift 243 243 243 22 [(2, 145), (2, (rc : Int) + 1), (2, (rd : Int) + 1), (0, w), (0, (kb_best f i).1), (0, (kb_best f i).2), (0, ((Nat.gcd l m : Nat) : Int)), (0, (i : Int)), l8] [] M (fun r' M'' => r' = (0, (kb_best f (Nat.gcd l m)).1) ∧ M'' = M) := by
    refine mm_lp ?_
    intro i hi ih l8
    have hbb := kb_bestb (f := f) (B := 1000) (by decide) (n := i) (fun j _ => hfb j)
    by_cases hlt : i < Nat.gcd l m
    · have hfi := hfb i
      have cn := c_X1_nearest (X := X) (w := w) (k := i) (l := l) (m := m) hR hK hrc hrd hl hm (by omega) (by omega) hs ht
      have ef : kn (kn_d (M 4) (M (rc + 2)) (M (rd + 2)) l m i w) (l * m / Nat.gcd l m) = f i := by rw [hf]
      rw [ef] at cn
      have ih := ih hlt
      rw [kb_best] at ih
      refine mm_iload dX1_bestShift_22 rfl rfl ?_
      refine mm_iload dX1_bestShift_24 rfl rfl ?_
      refine mm_icge dX1_bestShift_26 (by omega) (by omega) (fun h26 => ?_) (fun h26 => ?_)
      · exfalso; omega
      · refine mm_aload_n dX1_bestShift_29 rfl rfl ?_
        refine mm_aload_n dX1_bestShift_30 rfl rfl ?_
        refine mm_aload_n dX1_bestShift_31 rfl rfl ?_
        refine mm_iload_n dX1_bestShift_32 rfl rfl ?_
        refine mm_iload dX1_bestShift_33 rfl rfl ?_
        refine mm_V4i dX1_bestShift_35 rfl lk_X1_42 (c := 144) rfl (by decide) rfl (by simp) (by simp) (by simp) (by simp) rfl rfl rfl (cn) ?_
        refine mm_istore dX1_bestShift_38 rfl (Nat.le_of_ble_eq_true rfl) rfl ?_
        refine mm_iload dX1_bestShift_40 rfl rfl ?_
        refine mm_iload dX1_bestShift_42 rfl rfl ?_
        refine mm_icle dX1_bestShift_44 (by omega) (by omega) (fun h44 => ?_) (fun h44 => ?_)
        · refine mm_iinc dX1_bestShift_55 rfl rfl (Nat.le_of_ble_eq_true rfl) rfl ?_
          refine mm_goto dX1_bestShift_58 ?_
          first
          | (rw [if_pos (by omega)] at ih; exact ih _)
          | (rw [if_neg (by omega)] at ih; exact ih _)
        · refine mm_iload dX1_bestShift_47 rfl rfl ?_
          refine mm_istore dX1_bestShift_49 rfl (Nat.le_of_ble_eq_true rfl) rfl ?_
          refine mm_iload dX1_bestShift_51 rfl rfl ?_
          refine mm_istore dX1_bestShift_53 rfl (Nat.le_of_ble_eq_true rfl) rfl ?_
          refine mm_iinc dX1_bestShift_55 rfl rfl (Nat.le_of_ble_eq_true rfl) rfl ?_
          refine mm_goto dX1_bestShift_58 ?_
          first
          | (rw [if_pos (by omega)] at ih; exact ih _)
          | (rw [if_neg (by omega)] at ih; exact ih _)
    · have ei : i = Nat.gcd l m := by omega
      refine mm_iload dX1_bestShift_22 rfl rfl ?_
      refine mm_iload dX1_bestShift_24 rfl rfl ?_
      refine mm_icge dX1_bestShift_26 (by omega) (by omega) (fun h26 => ?_) (fun h26 => ?_)
      · refine mm_iload dX1_bestShift_61 rfl rfl ?_
        refine mm_iret dX1_bestShift_63 rfl rfl ?_
        exact mm_fin (by rw [ei]) rfl
      · exfalso; omega
  refine mm_iconst dX1_bestShift_0 rfl ?_
  refine mm_istore dX1_bestShift_1 rfl (Nat.le_of_ble_eq_true rfl) rfl ?_
  refine mm_iconst dX1_bestShift_3 rfl ?_
  refine mm_istore dX1_bestShift_4 rfl (Nat.le_of_ble_eq_true rfl) rfl ?_
  refine mm_aload_n dX1_bestShift_6 rfl rfl ?_
  refine mm_get (kd := 0) dX1_bestShift_7 rfl fl_X1_53 (c := rc) rfl hrc.c0 hrc.1 rfl ?_
  refine mm_aload_n dX1_bestShift_10 rfl rfl ?_
  refine mm_get (kd := 0) dX1_bestShift_11 rfl fl_X1_53 (c := rd) rfl hrd.c0 hrd.1 rfl ?_
  rw [hl1, hm1]
  refine mm_S2i dX1_bestShift_14 rfl lk_X1_62 (by simp) (by simp) rfl rfl rfl (c_X1_sharedStep hR hl.2 hm.2) ?_
  refine mm_istore dX1_bestShift_17 rfl (Nat.le_of_ble_eq_true rfl) rfl ?_
  refine mm_iconst dX1_bestShift_19 rfl ?_
  refine mm_istore dX1_bestShift_20 rfl (Nat.le_of_ble_eq_true rfl) rfl ?_
  exact loop 0 (Nat.zero_le _) _
theorem c_X11_shift (hR : mm_Rf M) (hK : mm_CK M) (hx : mm_R x) (hy : mm_R y) (hu : mm_R u) (hv : mm_R v) (hl : ∀ k : Nat, k < 6 → 0 ≤ M (121 + 3 * k) 2 ∧ M (121 + 3 * k) 2 ≤ 100) (hst : ∀ k : Nat, k < 6 → ∀ i : Nat, (i : Int) < M (121 + 3 * k) 2 → ks_st (M 4) (M (121 + 3 * k + 2) i)) :
    mm_Fn X Y_X11_shift 243 [(2, 1), (0, x), (0, y), (0, u), (0, v)] M (0, if (0 ≤ x ∧ x ≤ 5) ∧ (0 ≤ y ∧ y ≤ 40) ∧ (0 ≤ u ∧ u ≤ 5) ∧ (0 ≤ v ∧ v ≤ 40) then (if 0 < M (121 + 3 * x.toNat) 2 ∧ 0 < M (121 + 3 * u.toNat) 2 then
      (kb_best (fun k => kn (kn_d (M 4) (M (121 + 3 * x.toNat + 2)) (M (121 + 3 * u.toNat + 2)) (M (121 + 3 * x.toNat) 2).toNat (M (121 + 3 * u.toNat) 2).toNat k (v - y)) ((M (121 + 3 * x.toNat) 2).toNat * (M (121 + 3 * u.toNat) 2).toNat / Nat.gcd (M (121 + 3 * x.toNat) 2).toNat (M (121 + 3 * u.toNat) 2).toNat)) (Nat.gcd (M (121 + 3 * x.toNat) 2).toNat (M (121 + 3 * u.toNat) 2).toNat)).1 else -4) else -2) M := by
  refine mm_startF (ls := [(2, 1), (0, x), (0, y), (0, u), (0, v)]) rfl ?_
  by_cases hs : (0 ≤ x ∧ x ≤ 5) ∧ (0 ≤ y ∧ y ≤ 40) ∧ (0 ≤ u ∧ u ≤ 5) ∧ (0 ≤ v ∧ v ≤ 40)
  · obtain ⟨hx1, hy1, hu1, hv1⟩ := id hs
    rw [if_pos hs]
    have e1 := mm_keptref hR hx1
    have e2 := mm_keptref hR hu1
    have w1 := (mm_rw_kept x.toNat (by omega)).1
    have w2 := (mm_rw_kept u.toNat (by omega)).1
    have l1 := hl x.toNat (by omega)
    have l2 := hl u.toNat (by omega)
    by_cases hb : 0 < M (121 + 3 * x.toNat) 2 ∧ 0 < M (121 + 3 * u.toNat) 2
    · rw [if_pos hb]
      obtain ⟨hb1, hb2⟩ := id hb
      refine mm_aload_n dX11_shift_0 rfl rfl ?_
      refine mm_iload_n dX11_shift_1 rfl rfl ?_
      refine mm_iload_n dX11_shift_2 rfl rfl ?_
      refine mm_iload_n dX11_shift_3 rfl rfl ?_
      refine mm_iload dX11_shift_4 rfl rfl ?_
      refine mm_V4i dX11_shift_6 rfl lk_X11_312 (c := 0) rfl (by decide) rfl (by simp) (by simp) (by simp) (by simp) rfl rfl rfl (c_X11_canPair hx hy hu hv) ?_
      refine mm_ifneb dX11_shift_9 (fun h9 => ?_) (fun h9 => ?_)
      · refine mm_aload_n dX11_shift_15 rfl rfl ?_
        refine mm_iload_n dX11_shift_16 rfl rfl ?_
        refine mm_iload_n dX11_shift_17 rfl rfl ?_
        refine mm_V2i dX11_shift_18 rfl lk_X11_316 (c := 0) rfl (by decide) rfl (by simp) (by simp) rfl rfl rfl (c_X11_areKept hR hx1 hu1 hl) ?_
        refine mm_ifeqb dX11_shift_21 (fun h21 => ?_) (fun h21 => ?_)
        · exact absurd hb h21
        · refine mm_aload_n dX11_shift_24 rfl rfl ?_
          refine mm_getr dX11_shift_25 rfl fl_X11_76 (c := 0) rfl (by decide) rfl rfl (hR.at (c := 0) (i := 9) (v := 145) rfl (by decide)) ?_
          refine mm_aload_n dX11_shift_28 rfl rfl ?_
          refine mm_getr dX11_shift_29 rfl fl_X11_60 (c := 0) rfl (by decide) rfl rfl (hR.at (c := 0) (i := 7) (v := 121) rfl (by decide)) ?_
          refine mm_iload_n dX11_shift_32 rfl rfl ?_
          refine mm_aald dX11_shift_33 rfl (c := 120) rfl (by decide) rfl (by omega) (by omega) ?_
          rw [e1]
          refine mm_aload_n dX11_shift_34 rfl rfl ?_
          refine mm_getr dX11_shift_35 rfl fl_X11_60 (c := 0) rfl (by decide) rfl rfl (hR.at (c := 0) (i := 7) (v := 121) rfl (by decide)) ?_
          refine mm_iload_n dX11_shift_38 rfl rfl ?_
          refine mm_aald dX11_shift_39 rfl (c := 120) rfl (by decide) rfl (by omega) (by omega) ?_
          rw [e2]
          refine mm_iload dX11_shift_40 rfl rfl ?_
          refine mm_iload_n dX11_shift_42 rfl rfl ?_
          refine mm_isub dX11_shift_43 rfl ?_
          refine mm_V3i dX11_shift_44 rfl lk_X11_324 (c := 144) rfl (by decide) rfl (by simp) (by simp) (by simp) rfl rfl rfl ((c_X1_bestShift (X := X) (w := v - y) (l := (M (121 + 3 * x.toNat) 2).toNat) (m := (M (121 + 3 * u.toNat) 2).toNat) hR hK w1 w2 (by omega) (by omega) (by omega) (fun i hi => hst x.toNat (by omega) i (by omega)) (fun i hi => hst u.toNat (by omega) i (by omega)))) ?_
          refine mm_goto dX11_shift_47 ?_
          refine mm_iret dX11_shift_52 rfl rfl ?_
          exact mm_fin rfl rfl
      · exact absurd hs h9
    · rw [if_neg hb]
      refine mm_aload_n dX11_shift_0 rfl rfl ?_
      refine mm_iload_n dX11_shift_1 rfl rfl ?_
      refine mm_iload_n dX11_shift_2 rfl rfl ?_
      refine mm_iload_n dX11_shift_3 rfl rfl ?_
      refine mm_iload dX11_shift_4 rfl rfl ?_
      refine mm_V4i dX11_shift_6 rfl lk_X11_312 (c := 0) rfl (by decide) rfl (by simp) (by simp) (by simp) (by simp) rfl rfl rfl (c_X11_canPair hx hy hu hv) ?_
      refine mm_ifneb dX11_shift_9 (fun h9 => ?_) (fun h9 => ?_)
      · refine mm_aload_n dX11_shift_15 rfl rfl ?_
        refine mm_iload_n dX11_shift_16 rfl rfl ?_
        refine mm_iload_n dX11_shift_17 rfl rfl ?_
        refine mm_V2i dX11_shift_18 rfl lk_X11_316 (c := 0) rfl (by decide) rfl (by simp) (by simp) rfl rfl rfl (c_X11_areKept hR hx1 hu1 hl) ?_
        refine mm_ifeqb dX11_shift_21 (fun h21 => ?_) (fun h21 => ?_)
        · refine mm_bipush dX11_shift_50 rfl (by decide) ?_
          refine mm_iret dX11_shift_52 rfl rfl ?_
          exact mm_fin rfl rfl
        · exact absurd h21 hb
      · exact absurd hs h9
  · rw [if_neg hs]
    refine mm_aload_n dX11_shift_0 rfl rfl ?_
    refine mm_iload_n dX11_shift_1 rfl rfl ?_
    refine mm_iload_n dX11_shift_2 rfl rfl ?_
    refine mm_iload_n dX11_shift_3 rfl rfl ?_
    refine mm_iload dX11_shift_4 rfl rfl ?_
    refine mm_V4i dX11_shift_6 rfl lk_X11_312 (c := 0) rfl (by decide) rfl (by simp) (by simp) (by simp) (by simp) rfl rfl rfl (c_X11_canPair hx hy hu hv) ?_
    refine mm_ifneb dX11_shift_9 (fun h9 => ?_) (fun h9 => ?_)
    · exact absurd h9 hs
    · refine mm_bipush dX11_shift_12 rfl (by decide) ?_
      refine mm_iret dX11_shift_14 rfl rfl ?_
      exact mm_fin rfl rfl
end
end
/-! 82.rapart -/
section
/-! ===== apart and shift, of the reference ===== -/
def kn_a (a : Int) (d : Nat → Int) : Nat → Int
  | 0 => a
  | n + 1 => min (kn_a a d n) (d n)
theorem kn_ab {a : Int} {d : Nat → Int} (ha : 0 ≤ a) (hd : ∀ t, 0 ≤ d t) : ∀ n, 0 ≤ kn_a a d n ∧ kn_a a d n ≤ a
  | 0 => by simp [kn_a, ha]
  | n + 1 => by
    have h1 := kn_ab ha hd n
    have h2 := hd n
    unfold kn_a
    omega
/-- the distances as the reference has them -/
def kn_e (K S T : Nat → Int) (l m k : Nat) (x y : Int) (t : Nat) : Int := ((x + ks_col K (S (t % l)) - y - ks_col K (T ((t + k) % m))).natAbs : Int) + ((ks_row K (S (t % l)) - ks_row K (T ((t + k) % m))).natAbs : Int)
theorem kn_eb {K S T : Nat → Int} (hK : mm_KV K) {l m k : Nat} {x y : Int} (hx : 0 ≤ x ∧ x ≤ 40) (hy : 0 ≤ y ∧ y ≤ 40) (t : Nat) : 0 ≤ kn_e K S T l m k x y t ∧ kn_e K S T l m k x y t ≤ 52 := by
  have a := ks_colb hK (T ((t + k) % m))
  have b := ks_colb hK (S (t % l))
  have c := ks_rowb hK (T ((t + k) % m))
  have d := ks_rowb hK (S (t % l))
  obtain ⟨h0, h1, -⟩ := hK
  unfold kn_e
  omega
theorem kn_ed {K S T : Nat → Int} {l m k : Nat} {x y : Int} : kn_e K S T l m k x y = kn_d K S T l m k (y - x) := by
  funext t
  unfold kn_e kn_d
  rw [Nat.add_comm t k]
  generalize ks_col K (S (t % l)) = a
  generalize ks_col K (T ((k + t) % m)) = b
  generalize ks_row K (S (t % l)) = c
  generalize ks_row K (T ((k + t) % m)) = d
  omega
section
variable {X : mm_X} {M : mm_M} {x y u v k w : Int}
/-- the loop u of the reference is good -/
def kl_ok (M : mm_M) (u : Nat) : Prop := (0 ≤ M 216 u ∧ M 216 u ≤ 100) ∧ mm_R (M 217 u) ∧ (∀ i : Nat, (i : Int) < M 216 u → 0 ≤ M 219 (100 * u + i) ∧ M 219 (100 * u + i) < 1000) ∧ (∀ i : Nat, (i : Int) < M 216 u → ks_st (mm_rk M) (kl_S M u i))
theorem c_X13_leastApart (hR : mm_Rf M) (hK : mm_KV (mm_rk M)) (hx : 0 ≤ x ∧ x < 14) (hu : 0 ≤ u ∧ u < 14) (hy : 0 ≤ y ∧ y ≤ 40) (hv : 0 ≤ v ∧ v ≤ 40) (hk : 0 ≤ k ∧ k ≤ 100) (h1 : kl_ok M x.toNat) (h2 : kl_ok M u.toNat) (p1 : 0 < M 216 x.toNat) (p2 : 0 < M 216 u.toNat) :
    mm_C X Y_X13_leastApart 243 243 [(2, 184), (0, x), (0, y), (0, u), (0, v), (0, k)] M (fun r M' => r = (0, kn_a 1000000 (kn_e (mm_rk M) (kl_S M x.toNat) (kl_S M u.toNat) (M 216 x.toNat).toNat (M 216 u.toNat).toNat k.toNat y v) ((M 216 x.toNat).toNat * (M 216 u.toNat).toNat)) ∧ mm_Rf M' ∧ mm_rg M M' ∧ (∀ a, a ≠ 226 → a ≠ 227 → M' a = M a)) := by
  obtain ⟨l1, a1, b1, s1⟩ := h1
  obtain ⟨l2, a2, b2, s2⟩ := h2
  have c1 := c_X13_findStates (X := X) (M := M) (x := x) (c := 226) hR (Or.inl rfl) hx l1 a1 b1
  obtain ⟨N1, hN1⟩ : ∃ N, N = kf_mem M 226 (kl_S M x.toNat) (M 216 x.toNat).toNat := ⟨_, rfl⟩
  rw [← hN1] at c1
  have hR1 : mm_Rf N1 := by rw [hN1]; exact hR.fm (len := 100) rfl
  have f1 : ∀ a, a ≠ 226 → N1 a = M a := by intro a ha; rw [hN1]; exact kf_mem_n ha
  have k1 : mm_rk N1 = mm_rk M := mm_rk_congr (f1 186 (by decide)) (by rw [f1 183 (by decide)]) (f1 188 (by decide)) (f1 190 (by decide))
  have c2 := c_X13_findStates (X := X) (M := N1) (x := u) (c := 227) hR1 (Or.inr rfl) hu (by rw [f1 216 (by decide)]; exact l2) (by rw [f1 217 (by decide)]; exact a2) (by rw [f1 216 (by decide), f1 219 (by decide)]; exact b2)
  rw [f1 216 (by decide), f1 217 (by decide), f1 219 (by decide), k1] at c2
  obtain ⟨N, hN⟩ : ∃ N, N = kf_mem N1 227 (kl_S M u.toNat) (M 216 u.toNat).toNat := ⟨_, rfl⟩
  rw [← hN] at c2
  have hRN : mm_Rf N := by rw [hN]; exact hR1.fm (len := 100) rfl
  have fN : ∀ a, a ≠ 226 → a ≠ 227 → N a = M a := by intro a ha hb; rw [hN, kf_mem_n hb]; exact f1 a ha
  have hG : mm_rg M N := ⟨fN 186 (by decide) (by decide), by rw [fN 183 (by decide) (by decide)], fN 188 (by decide) (by decide), fN 190 (by decide) (by decide), fN 203 (by decide) (by decide), fN 204 (by decide) (by decide)⟩
  have e1 : ∀ i : Nat, i < (M 216 x.toNat).toNat → N 226 i = kl_S M x.toNat i := by intro i hi; rw [hN, kf_mem_n (by decide), hN1]; exact kf_mem_lt hi
  have e2 : ∀ i : Nat, i < (M 216 u.toNat).toNat → N 227 i = kl_S M u.toNat i := by intro i hi; rw [hN]; exact kf_mem_lt hi
  have f216 : N 216 = M 216 := fN 216 (by decide) (by decide)
  obtain ⟨l, hl⟩ : ∃ l, l = (M 216 x.toNat).toNat := ⟨_, rfl⟩
  obtain ⟨m, hm⟩ : ∃ m, m = (M 216 u.toNat).toNat := ⟨_, rfl⟩
  have hl' : M 216 x.toNat = (l : Int) := by omega
  have hm' : M 216 u.toNat = (m : Int) := by omega
  rw [← hl, ← hm]
  obtain ⟨d, hd⟩ : ∃ d, d = kn_e (mm_rk M) (kl_S M x.toNat) (kl_S M u.toNat) l m k.toNat y v := ⟨_, rfl⟩
  have hdb : ∀ t, 0 ≤ d t ∧ d t ≤ 52 := by rw [hd]; exact kn_eb hK hy hv
  have hlm : l * m ≤ 10000 := Nat.mul_le_mul (show l ≤ 100 by omega) (show m ≤ 100 by omega)
  have hlmi : (l : Int) * (m : Int) = ((l * m : Nat) : Int) := by rw [Int.natCast_mul]
  rw [← hd]
  refine mm_start (ls := [(2, 184), (0, x), (0, y), (0, u), (0, v), (0, k), (9, 0), (9, 0), (9, 0), (9, 0)]) rfl ?_
  have loop : ∀ i : Nat, i ≤ l * m → ∀ l8 l9 : mm_V, mm_J X Y_X13_leastApart 243 243 243 26 [(2, 184), (0, x), (0, y), (0, u), (0, v), (0, k), (0, kn_a 1000000 d i), (0, (i : Int)), l8, l9] [] N (fun r M' => r = (0, kn_a 1000000 d (l * m)) ∧ mm_Rf M' ∧ mm_rg M M' ∧ (∀ a, a ≠ 226 → a ≠ 227 → M' a = M a)) := by
    refine mm_lp ?_
    intro i hi ih l8 l9
    have hkb := kn_ab (a := 1000000) (d := d) (by decide) (fun t => (hdb t).1) i
    by_cases hlt : i < l * m
    · have t1 := Nat.mod_lt i (show 0 < l by omega)
      have t2 := Nat.mod_lt (i + k.toNat) (show 0 < m by omega)
      have s1' := s1 (i % l) (by omega)
      have s2' := s2 ((i + k.toNat) % m) (by omega)
      have cb1 := ks_colb hK (kl_S M x.toNat (i % l))
      have cb2 := ks_colb hK (kl_S M u.toNat ((i + k.toNat) % m))
      have rb1 := ks_rowb hK (kl_S M x.toNat (i % l))
      have rb2 := ks_rowb hK (kl_S M u.toNat ((i + k.toNat) % m))
      have hK0 := hK.1
      have hK1 := hK.2.1
      have ed : d i = ((y + ks_col (mm_rk M) (kl_S M x.toNat (i % l)) - v - ks_col (mm_rk M) (kl_S M u.toNat ((i + k.toNat) % m))).natAbs : Int) + ((ks_row (mm_rk M) (kl_S M x.toNat (i % l)) - ks_row (mm_rk M) (kl_S M u.toNat ((i + k.toNat) % m))).natAbs : Int) := by rw [hd]; rfl
      have er1 : (i : Int).tmod (l : Int) = ((i % l : Nat) : Int) := by rw [mm_tmod (by omega), Int.natCast_emod]
      have er2 : ((i : Int) + k).tmod (m : Int) = (((i + k.toNat) % m : Nat) : Int) := by rw [mm_tmod (by omega), Int.natCast_emod]; congr 1; omega
      refine mm_iload dX13_leastApart_26 rfl rfl ?_
      refine mm_aload_n dX13_leastApart_28 rfl rfl ?_
      refine mm_getr dX13_leastApart_29 rfl fl_X13_295 (c := 183) rfl (by decide) rfl rfl (hRN.at (c := 183) (i := 64) (v := 217) rfl (by decide)) ?_
      refine mm_iload_n dX13_leastApart_32 rfl rfl ?_
      refine mm_iald dX13_leastApart_33 rfl (c := 216) rfl (by decide) rfl (by omega) (by omega) ?_
      rw [f216]
      refine mm_aload_n dX13_leastApart_34 rfl rfl ?_
      refine mm_getr dX13_leastApart_35 rfl fl_X13_295 (c := 183) rfl (by decide) rfl rfl (hRN.at (c := 183) (i := 64) (v := 217) rfl (by decide)) ?_
      refine mm_iload_n dX13_leastApart_38 rfl rfl ?_
      refine mm_iald dX13_leastApart_39 rfl (c := 216) rfl (by decide) rfl (by omega) (by omega) ?_
      rw [f216]
      refine mm_imul dX13_leastApart_40 rfl ?_
      rw [hl', hm', hlmi]
      refine mm_icge dX13_leastApart_41 (by omega) (by omega) (fun h41 => ?_) (fun h41 => ?_)
      · exfalso; omega
      · refine mm_aload_n dX13_leastApart_44 rfl rfl ?_
        refine mm_getr dX13_leastApart_45 rfl fl_X13_328 (c := 183) rfl (by decide) rfl rfl (hRN.at (c := 183) (i := 86) (v := 227) rfl (by decide)) ?_
        refine mm_iload dX13_leastApart_48 rfl rfl ?_
        refine mm_aload_n dX13_leastApart_50 rfl rfl ?_
        refine mm_getr dX13_leastApart_51 rfl fl_X13_295 (c := 183) rfl (by decide) rfl rfl (hRN.at (c := 183) (i := 64) (v := 217) rfl (by decide)) ?_
        refine mm_iload_n dX13_leastApart_54 rfl rfl ?_
        refine mm_iald dX13_leastApart_55 rfl (c := 216) rfl (by decide) rfl (by omega) (by omega) ?_
        rw [f216]
        rw [hl']
        refine mm_irem dX13_leastApart_56 rfl (by omega) (by omega) (by omega) ?_
        rw [er1]
        refine mm_ialk (k0 := (i % l)) dX13_leastApart_57 rfl (c := 226) rfl (by decide) rfl (by omega) (by omega) ?_
        rw [e1 _ (by omega)]
        refine mm_istore dX13_leastApart_58 rfl (Nat.le_of_ble_eq_true rfl) rfl ?_
        refine mm_aload_n dX13_leastApart_60 rfl rfl ?_
        refine mm_getr dX13_leastApart_61 rfl fl_X13_331 (c := 183) rfl (by decide) rfl rfl (hRN.at (c := 183) (i := 87) (v := 228) rfl (by decide)) ?_
        refine mm_iload dX13_leastApart_64 rfl rfl ?_
        refine mm_iload dX13_leastApart_66 rfl rfl ?_
        refine mm_iadd dX13_leastApart_68 rfl ?_
        refine mm_aload_n dX13_leastApart_69 rfl rfl ?_
        refine mm_getr dX13_leastApart_70 rfl fl_X13_295 (c := 183) rfl (by decide) rfl rfl (hRN.at (c := 183) (i := 64) (v := 217) rfl (by decide)) ?_
        refine mm_iload_n dX13_leastApart_73 rfl rfl ?_
        refine mm_iald dX13_leastApart_74 rfl (c := 216) rfl (by decide) rfl (by omega) (by omega) ?_
        rw [f216]
        rw [hm']
        refine mm_irem dX13_leastApart_75 rfl (by omega) (by omega) (by omega) ?_
        rw [er2]
        refine mm_ialk (k0 := ((i + k.toNat) % m)) dX13_leastApart_76 rfl (c := 227) rfl (by decide) rfl (by omega) (by omega) ?_
        rw [e2 _ (by omega)]
        refine mm_istore dX13_leastApart_77 rfl (Nat.le_of_ble_eq_true rfl) rfl ?_
        refine mm_iload dX13_leastApart_79 rfl rfl ?_
        refine mm_iload_n dX13_leastApart_81 rfl rfl ?_
        refine mm_aload_n dX13_leastApart_82 rfl rfl ?_
        refine mm_iload dX13_leastApart_83 rfl rfl ?_
        refine mm_V1i dX13_leastApart_85 rfl lk_X13_438 (c := 183) rfl (by decide) rfl (by simp) rfl rfl rfl (g_X13_columnOf hRN hG hK s1') ?_
        refine mm_iadd dX13_leastApart_88 rfl ?_
        refine mm_iload dX13_leastApart_89 rfl rfl ?_
        refine mm_isub dX13_leastApart_91 rfl ?_
        refine mm_aload_n dX13_leastApart_92 rfl rfl ?_
        refine mm_iload dX13_leastApart_93 rfl rfl ?_
        refine mm_V1i dX13_leastApart_95 rfl lk_X13_438 (c := 183) rfl (by decide) rfl (by simp) rfl rfl rfl (g_X13_columnOf hRN hG hK s2') ?_
        refine mm_isub dX13_leastApart_98 rfl ?_
        refine mm_abs dX13_leastApart_99 rfl lm_X13_688 rfl rfl (by simp) (by omega) ?_
        refine mm_aload_n dX13_leastApart_102 rfl rfl ?_
        refine mm_iload dX13_leastApart_103 rfl rfl ?_
        refine mm_V1i dX13_leastApart_105 rfl lk_X13_432 (c := 183) rfl (by decide) rfl (by simp) rfl rfl rfl (g_X13_rowOf hRN hG hK s1') ?_
        refine mm_aload_n dX13_leastApart_108 rfl rfl ?_
        refine mm_iload dX13_leastApart_109 rfl rfl ?_
        refine mm_V1i dX13_leastApart_111 rfl lk_X13_432 (c := 183) rfl (by decide) rfl (by simp) rfl rfl rfl (g_X13_rowOf hRN hG hK s2') ?_
        refine mm_isub dX13_leastApart_114 rfl ?_
        refine mm_abs dX13_leastApart_115 rfl lm_X13_688 rfl rfl (by simp) (by omega) ?_
        refine mm_iadd dX13_leastApart_118 rfl ?_
        refine mm_min dX13_leastApart_119 rfl lm_X13_161 rfl rfl (by simp) (by omega) (by omega) ?_
        refine mm_istore dX13_leastApart_122 rfl (Nat.le_of_ble_eq_true rfl) rfl ?_
        refine mm_iinc dX13_leastApart_124 rfl rfl (Nat.le_of_ble_eq_true rfl) rfl ?_
        refine mm_goto dX13_leastApart_127 ?_
        have := ih hlt (0, kl_S M x.toNat (i % l)) (0, kl_S M u.toNat ((i + k.toNat) % m))
        rw [kn_a, ed] at this
        exact this
    · have ei : i = l * m := by omega
      refine mm_iload dX13_leastApart_26 rfl rfl ?_
      refine mm_aload_n dX13_leastApart_28 rfl rfl ?_
      refine mm_getr dX13_leastApart_29 rfl fl_X13_295 (c := 183) rfl (by decide) rfl rfl (hRN.at (c := 183) (i := 64) (v := 217) rfl (by decide)) ?_
      refine mm_iload_n dX13_leastApart_32 rfl rfl ?_
      refine mm_iald dX13_leastApart_33 rfl (c := 216) rfl (by decide) rfl (by omega) (by omega) ?_
      rw [f216]
      refine mm_aload_n dX13_leastApart_34 rfl rfl ?_
      refine mm_getr dX13_leastApart_35 rfl fl_X13_295 (c := 183) rfl (by decide) rfl rfl (hRN.at (c := 183) (i := 64) (v := 217) rfl (by decide)) ?_
      refine mm_iload_n dX13_leastApart_38 rfl rfl ?_
      refine mm_iald dX13_leastApart_39 rfl (c := 216) rfl (by decide) rfl (by omega) (by omega) ?_
      rw [f216]
      refine mm_imul dX13_leastApart_40 rfl ?_
      rw [hl', hm', hlmi]
      refine mm_icge dX13_leastApart_41 (by omega) (by omega) (fun h41 => ?_) (fun h41 => ?_)
      · refine mm_iload dX13_leastApart_130 rfl rfl ?_
        refine mm_iret dX13_leastApart_132 rfl rfl ?_
        exact ⟨by rw [ei], hRN, hG, fN⟩
      · exfalso; omega
  refine mm_aload_n dX13_leastApart_0 rfl rfl ?_
  refine mm_iload_n dX13_leastApart_1 rfl rfl ?_
  refine mm_aload_n dX13_leastApart_2 rfl rfl ?_
  refine mm_getr dX13_leastApart_3 rfl fl_X13_328 (c := 183) rfl (by decide) rfl rfl (hR.at (c := 183) (i := 86) (v := 227) rfl (by decide)) ?_
  refine mm_V2v dX13_leastApart_6 rfl lk_X13_684 (c := 183) rfl (by decide) rfl (by simp) (by simp) rfl rfl rfl (c1) ?_
  refine mm_aload_n dX13_leastApart_9 rfl rfl ?_
  refine mm_iload_n dX13_leastApart_10 rfl rfl ?_
  refine mm_aload_n dX13_leastApart_11 rfl rfl ?_
  refine mm_getr dX13_leastApart_12 rfl fl_X13_331 (c := 183) rfl (by decide) rfl rfl (hR1.at (c := 183) (i := 87) (v := 228) rfl (by decide)) ?_
  refine mm_V2v dX13_leastApart_15 rfl lk_X13_684 (c := 183) rfl (by decide) rfl (by simp) (by simp) rfl rfl rfl (c2) ?_
  refine mm_ldcw dX13_leastApart_18 rfl kc_X13_543 ?_
  refine mm_istore dX13_leastApart_21 rfl (Nat.le_of_ble_eq_true rfl) rfl ?_
  refine mm_iconst dX13_leastApart_23 rfl ?_
  refine mm_istore dX13_leastApart_24 rfl (Nat.le_of_ble_eq_true rfl) rfl ?_
  exact loop 0 (Nat.zero_le _) _ _
theorem c_X13_apart1 (hR : mm_Rf M) (hK : mm_KV (mm_rk M)) (hs : ((0 ≤ x ∧ x ≤ 5) ∧ (0 ≤ y ∧ y ≤ 40) ∧ (0 ≤ u ∧ u ≤ 5) ∧ (0 ≤ v ∧ v ≤ 40)) ∧ 0 ≤ k ∧ k ≤ 99) (hl : ∀ k : Nat, k < 6 → kl_ok M k) (hp : 0 < M 216 x.toNat ∧ 0 < M 216 u.toNat) :
    mm_C X Y_X13_apart 243 243 [(2, 184), (0, x), (0, y), (0, u), (0, v), (0, k)] M (fun r M' => r = (0, kn_a 1000000 (kn_e (mm_rk M) (kl_S M x.toNat) (kl_S M u.toNat) (M 216 x.toNat).toNat (M 216 u.toNat).toNat k.toNat y v) ((M 216 x.toNat).toNat * (M 216 u.toNat).toNat)) ∧ mm_Rf M' ∧ mm_rg M M' ∧ (∀ a, a ≠ 226 → a ≠ 227 → M' a = M a)) := by
  obtain ⟨⟨hx1, hy1, hu1, hv1⟩, hk1⟩ := id hs
  obtain ⟨hp1, hp2⟩ := hp
  have q1 := hl x.toNat (by omega)
  have q2 := hl u.toNat (by omega)
  have q1l := q1.1
  have q2l := q2.1
  refine mm_start (ls := [(2, 184), (0, x), (0, y), (0, u), (0, v), (0, k)]) rfl ?_
  refine mm_iload_n dX13_apart_0 rfl rfl ?_
  refine mm_S1i dX13_apart_1 rfl lk_X13_629 (by simp) rfl rfl rfl (c_X13_isSlot (by omega)) ?_
  refine mm_ifeqb dX13_apart_4 (fun h4 => ?_) (fun h4 => ?_)
  · exact absurd hx1 h4
  · refine mm_iload_n dX13_apart_7 rfl rfl ?_
    refine mm_S1i dX13_apart_8 rfl lk_X13_629 (by simp) rfl rfl rfl (c_X13_isSlot (by omega)) ?_
    refine mm_ifeqb dX13_apart_11 (fun h11 => ?_) (fun h11 => ?_)
    · exact absurd hu1 h11
    · refine mm_iload_n dX13_apart_14 rfl rfl ?_
      refine mm_S1i dX13_apart_15 rfl lk_X13_693 (by simp) rfl rfl rfl (c_X13_isSite (by omega)) ?_
      refine mm_ifeqb dX13_apart_18 (fun h18 => ?_) (fun h18 => ?_)
      · exact absurd hy1 h18
      · refine mm_iload dX13_apart_21 rfl rfl ?_
        refine mm_S1i dX13_apart_23 rfl lk_X13_693 (by simp) rfl rfl rfl (c_X13_isSite (by omega)) ?_
        refine mm_ifeqb dX13_apart_26 (fun h26 => ?_) (fun h26 => ?_)
        · exact absurd hv1 h26
        · refine mm_iload dX13_apart_29 rfl rfl ?_
          refine mm_i2l dX13_apart_31 rfl (by omega) ?_
          refine mm_lconst0 dX13_apart_32 rfl ?_
          refine mm_ldc2 dX13_apart_33 rfl kc_X13_696 ?_
          refine mm_S3i dX13_apart_36 rfl lk_X13_5 (by simp) (by simp) (by simp) rfl rfl rfl (c_X13_in (by omega) (by omega) (by omega)) ?_
          refine mm_ifneb dX13_apart_39 (fun h39 => ?_) (fun h39 => ?_)
          · refine mm_aload_n dX13_apart_45 rfl rfl ?_
            refine mm_iload_n dX13_apart_46 rfl rfl ?_
            refine mm_V1i dX13_apart_47 rfl lk_X13_673 (c := 183) rfl (by decide) rfl (by simp) rfl rfl rfl (c_X13_isKept hR (by omega) (by omega)) ?_
            refine mm_ifeqb dX13_apart_50 (fun h50 => ?_) (fun h50 => ?_)
            · exact absurd hp1 h50
            · refine mm_aload_n dX13_apart_53 rfl rfl ?_
              refine mm_iload_n dX13_apart_54 rfl rfl ?_
              refine mm_V1i dX13_apart_55 rfl lk_X13_673 (c := 183) rfl (by decide) rfl (by simp) rfl rfl rfl (c_X13_isKept hR (by omega) (by omega)) ?_
              refine mm_ifeqb dX13_apart_58 (fun h58 => ?_) (fun h58 => ?_)
              · exact absurd hp2 h58
              · refine mm_aload_n dX13_apart_61 rfl rfl ?_
                refine mm_iload_n dX13_apart_62 rfl rfl ?_
                refine mm_iload_n dX13_apart_63 rfl rfl ?_
                refine mm_iload_n dX13_apart_64 rfl rfl ?_
                refine mm_iload dX13_apart_65 rfl rfl ?_
                refine mm_iload dX13_apart_67 rfl rfl ?_
                refine mm_V5g (M1 := M) dX13_apart_69 rfl lk_X13_698 (c := 183) rfl (by decide) rfl (by simp) (by simp) (by simp) (by simp) (by simp) rfl rfl rfl (c_X13_leastApart hR hK (by omega) (by omega) hy1 hv1 (by omega) q1 q2 hp1 hp2) ?_
                rintro _ N69 ⟨rfl, p69⟩
                change mm_J _ _ _ _ _ _ _ _ _ _
                have hR69 : mm_Rf N69 := p69.1
                refine mm_goto dX13_apart_72 ?_
                refine mm_iret dX13_apart_77 rfl rfl ?_
                exact ⟨rfl, p69⟩
          · exfalso; omega
theorem c_X13_apart0 (hR : mm_Rf M) (hx : mm_R x) (hy : mm_R y) (hu : mm_R u) (hv : mm_R v) (hk : mm_R k) (hl : ∀ k : Nat, k < 6 → kl_ok M k) (hno : ¬ ((((0 ≤ x ∧ x ≤ 5) ∧ (0 ≤ y ∧ y ≤ 40) ∧ (0 ≤ u ∧ u ≤ 5) ∧ (0 ≤ v ∧ v ≤ 40)) ∧ 0 ≤ k ∧ k ≤ 99) ∧ 0 < M 216 x.toNat ∧ 0 < M 216 u.toNat)) :
    mm_Fn X Y_X13_apart 243 [(2, 184), (0, x), (0, y), (0, u), (0, v), (0, k)] M (0, if ((0 ≤ x ∧ x ≤ 5) ∧ (0 ≤ y ∧ y ≤ 40) ∧ (0 ≤ u ∧ u ≤ 5) ∧ (0 ≤ v ∧ v ≤ 40)) ∧ 0 ≤ k ∧ k ≤ 99 then -4 else -2) M := by
  refine mm_startF (ls := [(2, 184), (0, x), (0, y), (0, u), (0, v), (0, k)]) rfl ?_
  refine mm_iload_n dX13_apart_0 rfl rfl ?_
  refine mm_S1i dX13_apart_1 rfl lk_X13_629 (by simp) rfl rfl rfl (c_X13_isSlot (by omega)) ?_
  refine mm_ifeqb dX13_apart_4 (fun h4 => ?_) (fun h4 => ?_)
  · refine mm_bipush dX13_apart_42 rfl (by decide) ?_
    refine mm_iret dX13_apart_44 rfl rfl ?_
    exact mm_fin (by rw [if_neg (by omega)]) rfl
  · refine mm_iload_n dX13_apart_7 rfl rfl ?_
    refine mm_S1i dX13_apart_8 rfl lk_X13_629 (by simp) rfl rfl rfl (c_X13_isSlot (by omega)) ?_
    refine mm_ifeqb dX13_apart_11 (fun h11 => ?_) (fun h11 => ?_)
    · refine mm_bipush dX13_apart_42 rfl (by decide) ?_
      refine mm_iret dX13_apart_44 rfl rfl ?_
      exact mm_fin (by rw [if_neg (by omega)]) rfl
    · refine mm_iload_n dX13_apart_14 rfl rfl ?_
      refine mm_S1i dX13_apart_15 rfl lk_X13_693 (by simp) rfl rfl rfl (c_X13_isSite (by omega)) ?_
      refine mm_ifeqb dX13_apart_18 (fun h18 => ?_) (fun h18 => ?_)
      · refine mm_bipush dX13_apart_42 rfl (by decide) ?_
        refine mm_iret dX13_apart_44 rfl rfl ?_
        exact mm_fin (by rw [if_neg (by omega)]) rfl
      · refine mm_iload dX13_apart_21 rfl rfl ?_
        refine mm_S1i dX13_apart_23 rfl lk_X13_693 (by simp) rfl rfl rfl (c_X13_isSite (by omega)) ?_
        refine mm_ifeqb dX13_apart_26 (fun h26 => ?_) (fun h26 => ?_)
        · refine mm_bipush dX13_apart_42 rfl (by decide) ?_
          refine mm_iret dX13_apart_44 rfl rfl ?_
          exact mm_fin (by rw [if_neg (by omega)]) rfl
        · refine mm_iload dX13_apart_29 rfl rfl ?_
          refine mm_i2l dX13_apart_31 rfl (by omega) ?_
          refine mm_lconst0 dX13_apart_32 rfl ?_
          refine mm_ldc2 dX13_apart_33 rfl kc_X13_696 ?_
          refine mm_S3i dX13_apart_36 rfl lk_X13_5 (by simp) (by simp) (by simp) rfl rfl rfl (c_X13_in (by omega) (by omega) (by omega)) ?_
          refine mm_ifneb dX13_apart_39 (fun h39 => ?_) (fun h39 => ?_)
          · refine mm_aload_n dX13_apart_45 rfl rfl ?_
            refine mm_iload_n dX13_apart_46 rfl rfl ?_
            refine mm_V1i dX13_apart_47 rfl lk_X13_673 (c := 183) rfl (by decide) rfl (by simp) rfl rfl rfl (c_X13_isKept hR (by omega) (by have := (hl x.toNat (by omega)).1; omega)) ?_
            refine mm_ifeqb dX13_apart_50 (fun h50 => ?_) (fun h50 => ?_)
            · refine mm_bipush dX13_apart_75 rfl (by decide) ?_
              refine mm_iret dX13_apart_77 rfl rfl ?_
              exact mm_fin (by rw [if_pos (by omega)]) rfl
            · refine mm_aload_n dX13_apart_53 rfl rfl ?_
              refine mm_iload_n dX13_apart_54 rfl rfl ?_
              refine mm_V1i dX13_apart_55 rfl lk_X13_673 (c := 183) rfl (by decide) rfl (by simp) rfl rfl rfl (c_X13_isKept hR (by omega) (by have := (hl u.toNat (by omega)).1; omega)) ?_
              refine mm_ifeqb dX13_apart_58 (fun h58 => ?_) (fun h58 => ?_)
              · refine mm_bipush dX13_apart_75 rfl (by decide) ?_
                refine mm_iret dX13_apart_77 rfl rfl ?_
                exact mm_fin (by rw [if_pos (by omega)]) rfl
              · exact absurd ⟨⟨⟨h4, h18, h11, h26⟩, h39⟩, h50, h58⟩ hno
          · refine mm_bipush dX13_apart_42 rfl (by decide) ?_
            refine mm_iret dX13_apart_44 rfl rfl ?_
            exact mm_fin (by rw [if_neg (by omega)]) rfl
theorem c_X13_shift1 (hR : mm_Rf M) (hK : mm_KV (mm_rk M)) (hs : (0 ≤ x ∧ x ≤ 5) ∧ (0 ≤ y ∧ y ≤ 40) ∧ (0 ≤ u ∧ u ≤ 5) ∧ (0 ≤ v ∧ v ≤ 40)) (hl : ∀ k : Nat, k < 6 → kl_ok M k) (hp : 0 < M 216 x.toNat ∧ 0 < M 216 u.toNat) :
    mm_C X Y_X13_shift 243 243 [(2, 184), (0, x), (0, y), (0, u), (0, v)] M (fun r M' => r = (0, max 0 (kb_best (fun k => kn_a 1000000 (kn_e (mm_rk M) (kl_S M x.toNat) (kl_S M u.toNat) (M 216 x.toNat).toNat (M 216 u.toNat).toNat k y v) ((M 216 x.toNat).toNat * (M 216 u.toNat).toNat)) (M 216 u.toNat).toNat).1) ∧ mm_Rf M' ∧ mm_rg M M' ∧ (∀ a, a ≠ 226 → a ≠ 227 → M' a = M a)) := by
  obtain ⟨hx1, hy1, hu1, hv1⟩ := id hs
  obtain ⟨hp1, hp2⟩ := hp
  have q1 := hl x.toNat (by omega)
  have q2 := hl u.toNat (by omega)
  have q1l := q1.1
  have q2l := q2.1
  have hG0 := mm_rg.rf M
  obtain ⟨f, hf⟩ : ∃ f : Nat → Int, f = (fun k => kn_a 1000000 (kn_e (mm_rk M) (kl_S M x.toNat) (kl_S M u.toNat) (M 216 x.toNat).toNat (M 216 u.toNat).toNat k y v) ((M 216 x.toNat).toNat * (M 216 u.toNat).toNat)) := ⟨_, rfl⟩
  have hfb : ∀ i, 0 ≤ f i ∧ f i ≤ 1000000 := by intro i; rw [hf]; exact kn_ab (by decide) (fun t => (kn_eb hK hy1 hv1 t).1) _
  rw [← hf]
  refine mm_start (ls := [(2, 184), (0, x), (0, y), (0, u), (0, v), (9, 0), (9, 0), (9, 0), (9, 0)]) rfl ?_
  have loop : ∀ i : Nat, i ≤ (M 216 u.toNat).toNat → ∀ (N : mm_M) (l8 : mm_V), mm_Rf N → mm_rg M N → (∀ a, a ≠ 226 → a ≠ 227 → N a = M a) → mm_J X Y_X13_shift 243 243 243 60 [(2, 184), (0, x), (0, y), (0, u), (0, v), (0, max 0 (kb_best f i).1), (0, (kb_best f i).2), (0, (i : Int)), l8] [] N (fun r M' => r = (0, max 0 (kb_best f (M 216 u.toNat).toNat).1) ∧ mm_Rf M' ∧ mm_rg M M' ∧ (∀ a, a ≠ 226 → a ≠ 227 → M' a = M a)) := by
    refine mm_lp ?_
    intro i hi ih N l8 hRN hG hfr
    have f216 : N 216 = M 216 := hfr 216 (by decide) (by decide)
    have hbb := kb_bestb (f := f) (B := 1000000) (by decide) (n := i) (fun j _ => hfb j)
    by_cases hlt : i < (M 216 u.toNat).toNat
    · have hfi := hfb i
      have ih := ih hlt
      rw [kb_best] at ih
      have ok : ∀ j : Nat, kl_ok M j → kl_ok N j := by
        intro j hj
        unfold kl_ok kl_S at hj ⊢
        rw [f216, hfr 217 (by decide) (by decide), hfr 219 (by decide) (by decide), hG.k]
        exact hj
      have cn := c_X13_leastApart (X := X) (M := N) (x := x) (y := y) (u := u) (v := v) (k := (i : Int)) hRN (by rw [hG.k]; exact hK) (by omega) (by omega) hy1 hv1 (by omega) (ok _ q1) (ok _ q2) (by rw [f216]; exact hp1) (by rw [f216]; exact hp2)
      have ef : kn_a 1000000 (kn_e (mm_rk M) (kl_S M x.toNat) (kl_S M u.toNat) (M 216 x.toNat).toNat (M 216 u.toNat).toNat i y v) ((M 216 x.toNat).toNat * (M 216 u.toNat).toNat) = f i := by rw [hf]
      unfold kl_S at cn ef
      rw [f216, hfr 217 (by decide) (by decide), hfr 219 (by decide) (by decide), hG.k, Int.toNat_natCast, ef] at cn
      refine mm_iload dX13_shift_60 rfl rfl ?_
      refine mm_aload_n dX13_shift_62 rfl rfl ?_
      refine mm_getr dX13_shift_63 rfl fl_X13_295 (c := 183) rfl (by decide) rfl rfl (hRN.at (c := 183) (i := 64) (v := 217) rfl (by decide)) ?_
      refine mm_iload_n dX13_shift_66 rfl rfl ?_
      refine mm_iald dX13_shift_67 rfl (c := 216) rfl (by decide) rfl (by omega) (by omega) ?_
      rw [f216]
      refine mm_icge dX13_shift_68 (by omega) (by omega) (fun h68 => ?_) (fun h68 => ?_)
      · exfalso; omega
      · refine mm_aload_n dX13_shift_71 rfl rfl ?_
        refine mm_iload_n dX13_shift_72 rfl rfl ?_
        refine mm_iload_n dX13_shift_73 rfl rfl ?_
        refine mm_iload_n dX13_shift_74 rfl rfl ?_
        refine mm_iload dX13_shift_75 rfl rfl ?_
        refine mm_iload dX13_shift_77 rfl rfl ?_
        refine mm_V5g (M1 := N) dX13_shift_79 rfl lk_X13_698 (c := 183) rfl (by decide) rfl (by simp) (by simp) (by simp) (by simp) (by simp) rfl rfl rfl (cn) ?_
        rintro _ N79 ⟨rfl, p79⟩
        change mm_J _ _ _ _ _ _ _ _ _ _
        have hR79 : mm_Rf N79 := p79.1
        have hG79 : mm_rg M N79 := hG.tr p79.2.1
        refine mm_istore dX13_shift_82 rfl (Nat.le_of_ble_eq_true rfl) rfl ?_
        refine mm_iload dX13_shift_84 rfl rfl ?_
        refine mm_iload dX13_shift_86 rfl rfl ?_
        refine mm_icgt dX13_shift_88 (by omega) (by omega) (fun h88 => ?_) (fun h88 => ?_)
        · refine mm_iload dX13_shift_94 rfl rfl ?_
          refine mm_istore dX13_shift_96 rfl (Nat.le_of_ble_eq_true rfl) rfl ?_
          refine mm_iload dX13_shift_98 rfl rfl ?_
          refine mm_istore dX13_shift_100 rfl (Nat.le_of_ble_eq_true rfl) rfl ?_
          refine mm_iinc dX13_shift_102 rfl rfl (Nat.le_of_ble_eq_true rfl) rfl ?_
          refine mm_goto dX13_shift_105 ?_
          have hfr2 : ∀ a, a ≠ 226 → a ≠ 227 → N79 a = M a := fun a a1 a2 => (p79.2.2 a a1 a2).trans (hfr a a1 a2)
          first
          | (rw [if_pos (by omega), show max 0 (i : Int) = (i : Int) by omega] at ih; exact ih _ _ hR79 hG79 hfr2)
          | (rw [if_neg (by omega)] at ih; exact ih _ _ hR79 hG79 hfr2)
        · refine mm_goto dX13_shift_91 ?_
          refine mm_iinc dX13_shift_102 rfl rfl (Nat.le_of_ble_eq_true rfl) rfl ?_
          refine mm_goto dX13_shift_105 ?_
          have hfr2 : ∀ a, a ≠ 226 → a ≠ 227 → N79 a = M a := fun a a1 a2 => (p79.2.2 a a1 a2).trans (hfr a a1 a2)
          first
          | (rw [if_pos (by omega), show max 0 (i : Int) = (i : Int) by omega] at ih; exact ih _ _ hR79 hG79 hfr2)
          | (rw [if_neg (by omega)] at ih; exact ih _ _ hR79 hG79 hfr2)
    · have ei : i = (M 216 u.toNat).toNat := by omega
      refine mm_iload dX13_shift_60 rfl rfl ?_
      refine mm_aload_n dX13_shift_62 rfl rfl ?_
      refine mm_getr dX13_shift_63 rfl fl_X13_295 (c := 183) rfl (by decide) rfl rfl (hRN.at (c := 183) (i := 64) (v := 217) rfl (by decide)) ?_
      refine mm_iload_n dX13_shift_66 rfl rfl ?_
      refine mm_iald dX13_shift_67 rfl (c := 216) rfl (by decide) rfl (by omega) (by omega) ?_
      rw [f216]
      refine mm_icge dX13_shift_68 (by omega) (by omega) (fun h68 => ?_) (fun h68 => ?_)
      · refine mm_iload dX13_shift_108 rfl rfl ?_
        refine mm_iret dX13_shift_110 rfl rfl ?_
        exact ⟨by rw [ei], hRN, hG, hfr⟩
      · exfalso; omega
  refine mm_iload_n dX13_shift_0 rfl rfl ?_
  refine mm_S1i dX13_shift_1 rfl lk_X13_629 (by simp) rfl rfl rfl (c_X13_isSlot (by omega)) ?_
  refine mm_ifeqb dX13_shift_4 (fun h4 => ?_) (fun h4 => ?_)
  · exact absurd hx1 h4
  · refine mm_iload_n dX13_shift_7 rfl rfl ?_
    refine mm_S1i dX13_shift_8 rfl lk_X13_629 (by simp) rfl rfl rfl (c_X13_isSlot (by omega)) ?_
    refine mm_ifeqb dX13_shift_11 (fun h11 => ?_) (fun h11 => ?_)
    · exact absurd hu1 h11
    · refine mm_iload_n dX13_shift_14 rfl rfl ?_
      refine mm_S1i dX13_shift_15 rfl lk_X13_693 (by simp) rfl rfl rfl (c_X13_isSite (by omega)) ?_
      refine mm_ifeqb dX13_shift_18 (fun h18 => ?_) (fun h18 => ?_)
      · exact absurd hy1 h18
      · refine mm_iload dX13_shift_21 rfl rfl ?_
        refine mm_S1i dX13_shift_23 rfl lk_X13_693 (by simp) rfl rfl rfl (c_X13_isSite (by omega)) ?_
        refine mm_ifneb dX13_shift_26 (fun h26 => ?_) (fun h26 => ?_)
        · refine mm_aload_n dX13_shift_32 rfl rfl ?_
          refine mm_iload_n dX13_shift_33 rfl rfl ?_
          refine mm_V1i dX13_shift_34 rfl lk_X13_673 (c := 183) rfl (by decide) rfl (by simp) rfl rfl rfl (c_X13_isKept hR (by omega) (by omega)) ?_
          refine mm_ifeqb dX13_shift_37 (fun h37 => ?_) (fun h37 => ?_)
          · exact absurd hp1 h37
          · refine mm_aload_n dX13_shift_40 rfl rfl ?_
            refine mm_iload_n dX13_shift_41 rfl rfl ?_
            refine mm_V1i dX13_shift_42 rfl lk_X13_673 (c := 183) rfl (by decide) rfl (by simp) rfl rfl rfl (c_X13_isKept hR (by omega) (by omega)) ?_
            refine mm_ifneb dX13_shift_45 (fun h45 => ?_) (fun h45 => ?_)
            · refine mm_iconst dX13_shift_51 rfl ?_
              refine mm_istore dX13_shift_52 rfl (Nat.le_of_ble_eq_true rfl) rfl ?_
              refine mm_iconst dX13_shift_54 rfl ?_
              refine mm_istore dX13_shift_55 rfl (Nat.le_of_ble_eq_true rfl) rfl ?_
              refine mm_iconst dX13_shift_57 rfl ?_
              refine mm_istore dX13_shift_58 rfl (Nat.le_of_ble_eq_true rfl) rfl ?_
              exact loop 0 (Nat.zero_le _) M _ hR hG0 (fun _ _ _ => rfl)
            · exact absurd hp2 h45
        · exact absurd hv1 h26
theorem c_X13_shift0 (hR : mm_Rf M) (hx : mm_R x) (hy : mm_R y) (hu : mm_R u) (hv : mm_R v) (hl : ∀ k : Nat, k < 6 → kl_ok M k) (hno : ¬ (((0 ≤ x ∧ x ≤ 5) ∧ (0 ≤ y ∧ y ≤ 40) ∧ (0 ≤ u ∧ u ≤ 5) ∧ (0 ≤ v ∧ v ≤ 40)) ∧ 0 < M 216 x.toNat ∧ 0 < M 216 u.toNat)) :
    mm_Fn X Y_X13_shift 243 [(2, 184), (0, x), (0, y), (0, u), (0, v)] M (0, if (0 ≤ x ∧ x ≤ 5) ∧ (0 ≤ y ∧ y ≤ 40) ∧ (0 ≤ u ∧ u ≤ 5) ∧ (0 ≤ v ∧ v ≤ 40) then -4 else -2) M := by
  refine mm_startF (ls := [(2, 184), (0, x), (0, y), (0, u), (0, v), (9, 0), (9, 0), (9, 0), (9, 0)]) rfl ?_
  refine mm_iload_n dX13_shift_0 rfl rfl ?_
  refine mm_S1i dX13_shift_1 rfl lk_X13_629 (by simp) rfl rfl rfl (c_X13_isSlot (by omega)) ?_
  refine mm_ifeqb dX13_shift_4 (fun h4 => ?_) (fun h4 => ?_)
  · refine mm_bipush dX13_shift_29 rfl (by decide) ?_
    refine mm_iret dX13_shift_31 rfl rfl ?_
    exact mm_fin (by rw [if_neg (by omega)]) rfl
  · refine mm_iload_n dX13_shift_7 rfl rfl ?_
    refine mm_S1i dX13_shift_8 rfl lk_X13_629 (by simp) rfl rfl rfl (c_X13_isSlot (by omega)) ?_
    refine mm_ifeqb dX13_shift_11 (fun h11 => ?_) (fun h11 => ?_)
    · refine mm_bipush dX13_shift_29 rfl (by decide) ?_
      refine mm_iret dX13_shift_31 rfl rfl ?_
      exact mm_fin (by rw [if_neg (by omega)]) rfl
    · refine mm_iload_n dX13_shift_14 rfl rfl ?_
      refine mm_S1i dX13_shift_15 rfl lk_X13_693 (by simp) rfl rfl rfl (c_X13_isSite (by omega)) ?_
      refine mm_ifeqb dX13_shift_18 (fun h18 => ?_) (fun h18 => ?_)
      · refine mm_bipush dX13_shift_29 rfl (by decide) ?_
        refine mm_iret dX13_shift_31 rfl rfl ?_
        exact mm_fin (by rw [if_neg (by omega)]) rfl
      · refine mm_iload dX13_shift_21 rfl rfl ?_
        refine mm_S1i dX13_shift_23 rfl lk_X13_693 (by simp) rfl rfl rfl (c_X13_isSite (by omega)) ?_
        refine mm_ifneb dX13_shift_26 (fun h26 => ?_) (fun h26 => ?_)
        · refine mm_aload_n dX13_shift_32 rfl rfl ?_
          refine mm_iload_n dX13_shift_33 rfl rfl ?_
          refine mm_V1i dX13_shift_34 rfl lk_X13_673 (c := 183) rfl (by decide) rfl (by simp) rfl rfl rfl (c_X13_isKept hR (by omega) (by have := (hl x.toNat (by omega)).1; omega)) ?_
          refine mm_ifeqb dX13_shift_37 (fun h37 => ?_) (fun h37 => ?_)
          · refine mm_bipush dX13_shift_48 rfl (by decide) ?_
            refine mm_iret dX13_shift_50 rfl rfl ?_
            exact mm_fin (by rw [if_pos (by omega)]) rfl
          · refine mm_aload_n dX13_shift_40 rfl rfl ?_
            refine mm_iload_n dX13_shift_41 rfl rfl ?_
            refine mm_V1i dX13_shift_42 rfl lk_X13_673 (c := 183) rfl (by decide) rfl (by simp) rfl rfl rfl (c_X13_isKept hR (by omega) (by have := (hl u.toNat (by omega)).1; omega)) ?_
            refine mm_ifneb dX13_shift_45 (fun h45 => ?_) (fun h45 => ?_)
            · exact absurd ⟨⟨h4, h18, h11, h26⟩, h37, h45⟩ hno
            · refine mm_bipush dX13_shift_48 rfl (by decide) ?_
              refine mm_iret dX13_shift_50 rfl rfl ?_
              exact mm_fin (by rw [if_pos (by omega)]) rfl
        · refine mm_bipush dX13_shift_29 rfl (by decide) ?_
          refine mm_iret dX13_shift_31 rfl rfl ?_
          exact mm_fin (by rw [if_neg (by omega)]) rfl
end
end
/-! 83.bits -/
section
/-! ===== bits of small numbers ===== -/
theorem kx_nI (a : Nat) : mm_i (a : Int) = nI a := by
  apply Int32.toBitVec_inj.1
  show BitVec.ofInt 32 (a : Int) = BitVec.ofNat 32 a
  exact BitVec.ofInt_natCast 32 a
theorem kx_to {n : Nat} (h : n < 2147483648) : (nI n).toInt = n := by rw [← kx_nI]; exact mm_i_to ⟨by omega, by omega⟩
theorem kx_andI (a b : Nat) : nI a &&& nI b = nI (a &&& b) := by
  apply Int32.toBitVec_inj.1
  show BitVec.ofNat 32 a &&& BitVec.ofNat 32 b = BitVec.ofNat 32 (a &&& b)
  apply BitVec.eq_of_getLsbD_eq
  intro i hi
  simp [hi]
theorem kx_orI (a b : Nat) : nI a ||| nI b = nI (a ||| b) := by
  apply Int32.toBitVec_inj.1
  show BitVec.ofNat 32 a ||| BitVec.ofNat 32 b = BitVec.ofNat 32 (a ||| b)
  apply BitVec.eq_of_getLsbD_eq
  intro i hi
  simp [hi]
theorem kx_and {a b : Nat} (h : a < 2147483648) : (mm_i (a : Int) &&& mm_i (b : Int)).toInt = ((a &&& b : Nat) : Int) := by
  have : a &&& b ≤ a := Nat.and_le_left
  rw [kx_nI, kx_nI, kx_andI, kx_to (by omega)]
theorem kx_or {a b : Nat} (ha : a < 2147483648) (hb : b < 2147483648) : (mm_i (a : Int) ||| mm_i (b : Int)).toInt = ((a ||| b : Nat) : Int) := by
  have : a ||| b < 2 ^ 31 := Nat.or_lt_two_pow ha hb
  rw [kx_nI, kx_nI, kx_orI, kx_to (by omega)]
theorem kx_shl : ∀ k : Nat, k < 31 → (mm_i 1 <<< (mm_i (k : Int) &&& 31)).toInt = ((2 ^ k : Nat) : Int) := by
  intro k hk
  rw [kx_nI]
  revert k
  decide +kernel
theorem kx_sl : ∀ n, n < 32 → ((nI n &&& 31).toBitVec.smod 32).toNat = n := by decide +kernel
theorem kx_shr {a k : Nat} (h : a < 2147483648) (hk : k < 32) : (mm_i (a : Int) >>> (mm_i (k : Int) &&& 31)).toInt = ((a >>> k : Nat) : Int) := by
  have hs : a >>> k ≤ a := by
    rw [Nat.shiftRight_eq_div_pow]
    exact Nat.div_le_self _ _
  have e : nI a >>> (nI k &&& 31) = nI (a >>> k) := by
    apply Int32.toBitVec_inj.1
    rw [Int32.toBitVec_shiftRight]
    show (BitVec.ofNat 32 a).sshiftRight ((nI k &&& 31).toBitVec.smod 32).toNat = BitVec.ofNat 32 (a >>> k)
    rw [kx_sl k hk, BitVec.sshiftRight_eq_of_msb_false]
    · apply BitVec.eq_of_toNat_eq
      rw [BitVec.toNat_ushiftRight, BitVec.toNat_ofNat, BitVec.toNat_ofNat, Nat.mod_eq_of_lt (by omega), Nat.mod_eq_of_lt (by omega)]
    · rw [BitVec.msb_eq_decide]
      simp
      rw [Nat.mod_eq_of_lt (by omega)]
      omega
  rw [kx_nI, kx_nI, e, kx_to (by omega)]
theorem kx_bit {a k : Nat} (h : a < 2147483648) (hk : k < 32) : (mm_i ((mm_i (a : Int) >>> (mm_i (k : Int) &&& 31)).toInt) &&& mm_i 1).toInt = if a.testBit k = true then 1 else 0 := by
  have hs : a >>> k ≤ a := by
    rw [Nat.shiftRight_eq_div_pow]
    exact Nat.div_le_self _ _
  rw [kx_shr h hk, show (1 : Int) = ((1 : Nat) : Int) from rfl, kx_and (by omega), Nat.and_one_is_mod, Nat.testBit_eq_decide_div_mod_eq, Nat.shiftRight_eq_div_pow]
  generalize a / 2 ^ k = z
  by_cases q : z % 2 = 1
  · rw [if_pos (by simp [q])]; omega
  · rw [if_neg (by simp [q])]; omega
end
/-! 84.field -/
section
/-! ===== the best field ===== -/
/-- a set of the first n stands in which no two meet -/
def kd_good (meet : Nat → Nat → Prop) (n set : Nat) : Prop := ∀ i j, i < j → j < n → set.testBit i = true → set.testBit j = true → ¬ meet i j
def kd_sum (w : Nat → Int) (set : Nat) : Nat → Int := ka_sum (fun i => if set.testBit i = true then w i else 0)
/-- what a set is worth; -1 if two of it meet -/
noncomputable def kd_v (meet : Nat → Nat → Prop) (w : Nat → Int) (n set : Nat) : Int := @ite Int (kd_good meet n set) (Classical.propDecidable _) (kd_sum w set n) (-1)
theorem kd_v1 {meet : Nat → Nat → Prop} {w : Nat → Int} {n set : Nat} (h : kd_good meet n set) : kd_v meet w n set = kd_sum w set n := by unfold kd_v; rw [if_pos h]
theorem kd_v0 {meet : Nat → Nat → Prop} {w : Nat → Int} {n set : Nat} (h : ¬ kd_good meet n set) : kd_v meet w n set = -1 := by unfold kd_v; rw [if_neg h]
/-- the best of the sets 1 .. k: its worth and the set -/
def kd_b (v : Nat → Int) : Nat → Int × Int
  | 0 => (0, 0)
  | k + 1 => if (kd_b v k).1 < v (k + 1) then (v (k + 1), ((k + 1 : Nat) : Int)) else kd_b v k
theorem kd_bb {v : Nat → Int} {B : Int} (hB : 0 ≤ B) : ∀ {k : Nat}, (∀ i, i ≤ k → v i ≤ B) → 0 ≤ (kd_b v k).1 ∧ (kd_b v k).1 ≤ B ∧ 0 ≤ (kd_b v k).2 ∧ (kd_b v k).2 ≤ k
  | 0, _ => by simp [kd_b, hB]
  | k + 1, h => by
    have h1 := kd_bb (v := v) hB (k := k) (fun i q => h i (by omega))
    have h2 := h (k + 1) (Nat.le_refl _)
    unfold kd_b
    split
    · simp only; omega
    · omega
theorem kd_sumb {w : Nat → Int} {set : Nat} {B : Int} (hB : 0 ≤ B) {n : Nat} (h : ∀ i, i < n → -B ≤ w i ∧ w i ≤ B) : -(B * n) ≤ kd_sum w set n ∧ kd_sum w set n ≤ B * n := by
  unfold kd_sum
  exact ka_sumb (fun i hi => by have := h i hi; split <;> omega)
section
variable {X : mm_X} {M : mm_M} {meet : Nat → Nat → Prop} {n set : Nat}
/-- the class's field: n stands, their worths, whom they meet -/
def mm_CF (M : mm_M) (meet : Nat → Nat → Prop) : Prop := (0 ≤ M 144 1 ∧ M 144 1 ≤ 8) ∧ ∀ i : Nat, (i : Int) < M 144 1 → (-600000000 / 8 ≤ M (148 + 3 * i) 3 ∧ M (148 + 3 * i) 3 ≤ 600000000 / 8) ∧ ∃ b : Nat, M 147 i = (b : Int) ∧ b < 256 ∧ ∀ j, b.testBit j = true ↔ ((j : Int) < M 144 1 ∧ ((i < j ∧ meet i j) ∨ (j < i ∧ meet j i)))
theorem c_X1_worthOf (hR : mm_Rf M) (hF : mm_CF M meet) (hs : set < 256) (hn : M 144 1 = (n : Int)) (hsn : ∀ j, set.testBit j = true → j < n) :
    mm_Fn X Y_X1_worthOf 243 [(2, 145), (0, (set : Int))] M (0, kd_v meet (fun i => M (148 + 3 * i) 3) n set) M := by
  have hc := hF.1
  refine mm_startF (ls := [(2, 145), (0, (set : Int)), (9, 0), (9, 0)]) rfl ?_
  have hwb : ∀ i, i < n → -75000000 ≤ M (148 + 3 * i) 3 ∧ M (148 + 3 * i) 3 ≤ 75000000 := fun i hi => (hF.2 i (by omega)).1
  have loop : ∀ i : Nat, i ≤ n → (∀ j k, j < k → k < i → set.testBit j = true → set.testBit k = true → ¬ meet j k) → (∀ j k, j < i → set.testBit j = true → set.testBit k = true → j < k → ¬ meet j k) →
      mm_J X Y_X1_worthOf 243 243 243 4 [(2, 145), (0, (set : Int)), (0, kd_sum (fun i => M (148 + 3 * i) 3) set i), (0, (i : Int))] [] M (fun r' M'' => r' = (0, kd_v meet (fun i => M (148 + 3 * i) 3) n set) ∧ M'' = M) := by
    refine mm_lp ?_
    intro i hi ih hg1 hg2
    have hsb := kd_sumb (w := fun i => M (148 + 3 * i) 3) (set := set) (B := 75000000) (by decide) (n := i) (fun j hj => hwb j (by omega))
    by_cases hlt : i < n
    · obtain ⟨hw, b, hb, hb2, hb3⟩ := hF.2 i (by omega)
      have wr := mm_rw_stands i (by omega)
      have er : M 145 i = ((148 + 3 * i : Nat) : Int) + 1 := hR.at wr.2 (by omega)
      have eb := kx_bit (a := set) (k := i) (by omega) (by omega)
      have ea := kx_and (a := b) (b := set) (by omega)
      have hand : b &&& set ≤ b := Nat.and_le_left
      have nxt : set.testBit i = true ∨ ¬ set.testBit i = true := by cases set.testBit i <;> simp
      have ih := ih hlt
      unfold kd_sum at ih hsb
      rw [ka_sum] at ih
      refine mm_iload_n dX1_worthOf_4 rfl rfl ?_
      refine mm_aload_n dX1_worthOf_5 rfl rfl ?_
      refine mm_get (kd := 0) dX1_worthOf_6 rfl fl_X1_31 (c := 144) rfl (by decide) rfl rfl ?_
      obtain ⟨v6, hv6⟩ : ∃ v, v = M 144 1 := ⟨_, rfl⟩
      rw [← hv6]
      rw [hn] at hv6
      subst hv6
      refine mm_icge dX1_worthOf_9 (by omega) (by omega) (fun h9 => ?_) (fun h9 => ?_)
      · exfalso; omega
      · refine mm_iload_n dX1_worthOf_12 rfl rfl ?_
        refine mm_iload_n dX1_worthOf_13 rfl rfl ?_
        refine mm_ishr dX1_worthOf_14 rfl ?_
        refine mm_iconst dX1_worthOf_15 rfl ?_
        refine mm_iand dX1_worthOf_16 rfl ?_
        rw [eb]
        refine mm_ifeq dX1_worthOf_17 (by split <;> omega) (fun h17 => ?_) (fun h17 => ?_)
        · refine mm_iinc dX1_worthOf_45 rfl rfl (Nat.le_of_ble_eq_true rfl) rfl ?_
          refine mm_goto dX1_worthOf_48 ?_
          by_cases z : set.testBit i = true
          · rw [if_pos z] at h17
            first
            | exact absurd h17 (by decide)
            | (have hz : b &&& set = 0 := by omega
               have no : ∀ k, set.testBit k = true → b.testBit k = true → False := by
                 intro k k1 k2
                 have : (b &&& set).testBit k = true := by rw [Nat.testBit_and, k1, k2]; rfl
                 rw [hz] at this
                 simp at this
               have := ih ?_ ?_
               · rw [if_pos z] at this; exact this
               · intro j k h1 h2 h3 h4 h5
                 by_cases q : k = i
                 · rw [q] at h1 h5
                   exact no j h3 ((hb3 j).mpr ⟨by omega, Or.inr ⟨h1, h5⟩⟩)
                 · exact hg1 j k h1 (by omega) h3 h4 h5
               · intro j k h1 h3 h4 h2 h5
                 by_cases q : j = i
                 · rw [q] at h2 h5
                   exact no k h4 ((hb3 k).mpr ⟨by have := hsn k h4; omega, Or.inl ⟨h2, h5⟩⟩)
                 · exact hg2 j k (by omega) h3 h4 h2 h5)
          · rw [if_neg z] at h17
            first
            | (have := ih ?_ ?_
               · rw [if_neg z, Int.add_zero] at this; exact this
               · intro j k h1 h2 h3 h4 h5
                 by_cases q : k = i
                 · rw [q] at h4; exact z h4
                 · exact hg1 j k h1 (by omega) h3 h4 h5
               · intro j k h1 h3 h4 h2 h5
                 by_cases q : j = i
                 · rw [q] at h3; exact z h3
                 · exact hg2 j k (by omega) h3 h4 h2 h5)
            | exact absurd rfl h17
        · refine mm_aload_n dX1_worthOf_20 rfl rfl ?_
          refine mm_getr dX1_worthOf_21 rfl fl_X1_21 (c := 144) rfl (by decide) rfl rfl (hR.at (c := 144) (i := 5) (v := 148) rfl (by decide)) ?_
          refine mm_iload_n dX1_worthOf_24 rfl rfl ?_
          refine mm_ialk (k0 := i) dX1_worthOf_25 rfl (c := 147) rfl (by decide) rfl (by omega) (by omega) ?_
          refine mm_iload_n dX1_worthOf_26 rfl rfl ?_
          rw [hb]
          refine mm_iand dX1_worthOf_27 rfl ?_
          rw [ea]
          refine mm_ifeq dX1_worthOf_28 (by omega) (fun h28 => ?_) (fun h28 => ?_)
          · refine mm_iload_n dX1_worthOf_33 rfl rfl ?_
            refine mm_aload_n dX1_worthOf_34 rfl rfl ?_
            refine mm_getr dX1_worthOf_35 rfl fl_X1_13 (c := 144) rfl (by decide) rfl rfl (hR.at (c := 144) (i := 3) (v := 146) rfl (by decide)) ?_
            refine mm_iload_n dX1_worthOf_38 rfl rfl ?_
            refine mm_aalk (k0 := i) dX1_worthOf_39 rfl (c := 145) rfl (by decide) rfl (by omega) (by omega) ?_
            rw [er]
            refine mm_get (kd := 0) dX1_worthOf_40 rfl fl_X1_50 (c := 148 + 3 * i) rfl wr.1.c0 wr.1.1 rfl ?_
            refine mm_iadd dX1_worthOf_43 rfl ?_
            refine mm_istore_n dX1_worthOf_44 rfl (Nat.le_of_ble_eq_true rfl) rfl ?_
            refine mm_iinc dX1_worthOf_45 rfl rfl (Nat.le_of_ble_eq_true rfl) rfl ?_
            refine mm_goto dX1_worthOf_48 ?_
            by_cases z : set.testBit i = true
            · rw [if_pos z] at h17
              first
              | exact absurd h17 (by decide)
              | (have hz : b &&& set = 0 := by omega
                 have no : ∀ k, set.testBit k = true → b.testBit k = true → False := by
                   intro k k1 k2
                   have : (b &&& set).testBit k = true := by rw [Nat.testBit_and, k1, k2]; rfl
                   rw [hz] at this
                   simp at this
                 have := ih ?_ ?_
                 · rw [if_pos z] at this; exact this
                 · intro j k h1 h2 h3 h4 h5
                   by_cases q : k = i
                   · rw [q] at h1 h5
                     exact no j h3 ((hb3 j).mpr ⟨by omega, Or.inr ⟨h1, h5⟩⟩)
                   · exact hg1 j k h1 (by omega) h3 h4 h5
                 · intro j k h1 h3 h4 h2 h5
                   by_cases q : j = i
                   · rw [q] at h2 h5
                     exact no k h4 ((hb3 k).mpr ⟨by have := hsn k h4; omega, Or.inl ⟨h2, h5⟩⟩)
                   · exact hg2 j k (by omega) h3 h4 h2 h5)
            · rw [if_neg z] at h17
              first
              | (have := ih ?_ ?_
                 · rw [if_neg z, Int.add_zero] at this; exact this
                 · intro j k h1 h2 h3 h4 h5
                   by_cases q : k = i
                   · rw [q] at h4; exact z h4
                   · exact hg1 j k h1 (by omega) h3 h4 h5
                 · intro j k h1 h3 h4 h2 h5
                   by_cases q : j = i
                   · rw [q] at h3; exact z h3
                   · exact hg2 j k (by omega) h3 h4 h2 h5)
              | exact absurd rfl h17
          · refine mm_iconst dX1_worthOf_31 rfl ?_
            refine mm_iret dX1_worthOf_32 rfl rfl ?_
            refine mm_fin (kd_v0 ?_).symm rfl
            intro hgood
            have hne : b &&& set ≠ 0 := by intro z; rw [z] at h28; exact h28 rfl
            obtain ⟨j, hj⟩ := Nat.exists_testBit_of_ne_zero hne
            rw [Nat.testBit_and, Bool.and_eq_true] at hj
            have hi1 : set.testBit i = true := by
              by_cases z : set.testBit i = true
              · exact z
              · rw [if_neg z] at h17; exact absurd rfl h17
            rcases (hb3 j).mp hj.1 with ⟨-, ⟨z1, z2⟩ | ⟨z1, z2⟩⟩
            · exact hgood i j z1 (hsn j hj.2) hi1 hj.2 z2
            · exact hgood j i z1 hlt hj.2 hi1 z2
    · have ei : i = n := by omega
      refine mm_iload_n dX1_worthOf_4 rfl rfl ?_
      refine mm_aload_n dX1_worthOf_5 rfl rfl ?_
      refine mm_get (kd := 0) dX1_worthOf_6 rfl fl_X1_31 (c := 144) rfl (by decide) rfl rfl ?_
      obtain ⟨v6, hv6⟩ : ∃ v, v = M 144 1 := ⟨_, rfl⟩
      rw [← hv6]
      rw [hn] at hv6
      subst hv6
      refine mm_icge dX1_worthOf_9 (by omega) (by omega) (fun h9 => ?_) (fun h9 => ?_)
      · refine mm_iload_n dX1_worthOf_51 rfl rfl ?_
        refine mm_iret dX1_worthOf_52 rfl rfl ?_
        refine mm_fin ?_ rfl
        rw [kd_v1 (fun j k h1 h2 h3 h4 => hg2 j k (by omega) h3 h4 h1), ei]
      · exfalso; omega
  refine mm_iconst dX1_worthOf_0 rfl ?_
  refine mm_istore_n dX1_worthOf_1 rfl (Nat.le_of_ble_eq_true rfl) rfl ?_
  refine mm_iconst dX1_worthOf_2 rfl ?_
  refine mm_istore_n dX1_worthOf_3 rfl (Nat.le_of_ble_eq_true rfl) rfl ?_
  exact loop 0 (Nat.zero_le _) (fun j k _ h => absurd h (Nat.not_lt_zero k)) (fun j k h => absurd h (Nat.not_lt_zero j))
theorem kd_vb {w : Nat → Int} {B : Int} (hB : 0 ≤ B) {n set : Nat} (h : ∀ i, i < n → -B ≤ w i ∧ w i ≤ B) : -(B * n) - 1 ≤ kd_v meet w n set ∧ kd_v meet w n set ≤ B * n := by
  have h1 := kd_sumb (set := set) hB h
  have h2 : 0 ≤ B * n := Int.mul_nonneg hB (by omega)
  by_cases q : kd_good meet n set
  · rw [kd_v1 q]; omega
  · rw [kd_v0 q]; omega
theorem kd_bits {set n : Nat} (h : set < 2 ^ n) (j : Nat) (hj : set.testBit j = true) : j < n := by
  rcases Nat.lt_or_ge j n with q | q
  · exact q
  · have : set.testBit j = false := Nat.testBit_lt_two_pow (Nat.lt_of_lt_of_le h (Nat.pow_le_pow_right (by decide) q))
    rw [this] at hj
    exact absurd hj (by decide)
theorem c_X1_chooseBest (hR : mm_Rf M) (hF : mm_CF M meet) (hn : M 144 1 = (n : Int)) :
    mm_C X Y_X1_chooseBest 243 243 [(2, 145)] M (fun r M' => r = (0, (kd_b (kd_v meet (fun i => M (148 + 3 * i) 3) n) (2 ^ n - 1)).1) ∧ mm_Rf M' ∧ M' = mm_up M 144 2 (kd_b (kd_v meet (fun i => M (148 + 3 * i) 3) n) (2 ^ n - 1)).2) := by
  have hc := hF.1
  have hn8 : n ≤ 8 := by omega
  have hp8 : 2 ^ n ≤ 256 := by
    have : 2 ^ n ≤ 2 ^ 8 := Nat.pow_le_pow_right (by decide) hn8
    omega
  have hp1 : 1 ≤ 2 ^ n := Nat.one_le_two_pow
  have hwb : ∀ i, i < n → -75000000 ≤ M (148 + 3 * i) 3 ∧ M (148 + 3 * i) 3 ≤ 75000000 := fun i hi => (hF.2 i (by omega)).1
  obtain ⟨v, hv⟩ : ∃ v, v = kd_v meet (fun i => M (148 + 3 * i) 3) n := ⟨_, rfl⟩
  have hvb : ∀ s, -600000001 ≤ v s ∧ v s ≤ 600000000 := by
    intro s
    have := kd_vb (meet := meet) (w := fun i => M (148 + 3 * i) 3) (B := 75000000) (by decide) (n := n) (set := s) hwb
    rw [hv]
    omega
  have esh := kx_shl n (by omega)
  rw [← hv]
  refine mm_start (ls := [(2, 145), (9, 0), (9, 0), (9, 0)]) rfl ?_
  have loop : ∀ k : Nat, k ≤ 2 ^ n - 1 → ∀ (N : mm_M) (l3 : mm_V), mm_Rf N → N = mm_up M 144 2 (kd_b v k).2 → mm_J X Y_X1_chooseBest 243 243 243 9 [(2, 145), (0, (kd_b v k).1), (0, ((k + 1 : Nat) : Int)), l3] [] N (fun r M' => r = (0, (kd_b v (2 ^ n - 1)).1) ∧ mm_Rf M' ∧ M' = mm_up M 144 2 (kd_b v (2 ^ n - 1)).2) := by
    refine mm_lp ?_
    intro k hk ih N l3 hRN hN
    have hbb := kd_bb (v := v) (B := 600000000) (by decide) (k := k) (fun i _ => (hvb i).2)
    have fc : N 144 1 = (n : Int) := by rw [hN, mm_up_i (by decide)]; exact hn
    by_cases hlt : k < 2 ^ n - 1
    · have hvk := hvb (k + 1)
      have fr : ∀ a, a ≠ 144 → N a = M a := by intro a ha; rw [hN, mm_up_row ha]
      have hFN : mm_CF N meet := by
        refine ⟨by rw [fc]; omega, fun i hi => ?_⟩
        rw [fc] at hi
        obtain ⟨q1, b, q2, q3, q4⟩ := hF.2 i (by omega)
        rw [fr (148 + 3 * i) (by omega)]
        refine ⟨q1, b, by rw [fr 147 (by decide)]; exact q2, q3, fun j => ?_⟩
        rw [q4 j, fc, hn]
      have cw := c_X1_worthOf (X := X) (M := N) (meet := meet) (n := n) (set := k + 1) hRN hFN (by omega) fc (kd_bits (by omega))
      have ew : kd_v meet (fun i => N (148 + 3 * i) 3) n (k + 1) = v (k + 1) := by
        rw [hv]
        congr 1
        funext i
        rw [fr (148 + 3 * i) (by omega)]
      rw [ew] at cw
      have ih := ih hlt
      rw [kd_b] at ih
      refine mm_iload_n dX1_chooseBest_9 rfl rfl ?_
      refine mm_iconst dX1_chooseBest_10 rfl ?_
      refine mm_aload_n dX1_chooseBest_11 rfl rfl ?_
      refine mm_get (kd := 0) dX1_chooseBest_12 rfl fl_X1_31 (c := 144) rfl (by decide) rfl rfl ?_
      obtain ⟨v12, hv12⟩ : ∃ v, v = N 144 1 := ⟨_, rfl⟩
      rw [← hv12]
      rw [fc] at hv12
      subst hv12
      refine mm_ishl dX1_chooseBest_15 rfl ?_
      rw [esh]
      refine mm_icge dX1_chooseBest_16 (by omega) (by omega) (fun h16 => ?_) (fun h16 => ?_)
      · exfalso; omega
      · refine mm_aload_n dX1_chooseBest_19 rfl rfl ?_
        refine mm_iload_n dX1_chooseBest_20 rfl rfl ?_
        refine mm_V1i dX1_chooseBest_21 rfl lk_X1_46 (c := 144) rfl (by decide) rfl (by simp) rfl rfl rfl (cw) ?_
        refine mm_istore_n dX1_chooseBest_24 rfl (Nat.le_of_ble_eq_true rfl) rfl ?_
        refine mm_iload_n dX1_chooseBest_25 rfl rfl ?_
        refine mm_iload_n dX1_chooseBest_26 rfl rfl ?_
        refine mm_icle dX1_chooseBest_27 (by omega) (by omega) (fun h27 => ?_) (fun h27 => ?_)
        · refine mm_iinc dX1_chooseBest_37 rfl rfl (Nat.le_of_ble_eq_true rfl) rfl ?_
          refine mm_goto dX1_chooseBest_40 ?_
          first
          | (rw [if_pos (by omega)] at ih; exact ih _ _ hRN (by rw [hM34, hN]; funext a b; simp only [mm_up]; split <;> rfl))
          | (rw [if_neg (by omega)] at ih; exact ih _ _ hRN hN)
        · refine mm_iload_n dX1_chooseBest_30 rfl rfl ?_
          refine mm_istore_n dX1_chooseBest_31 rfl (Nat.le_of_ble_eq_true rfl) rfl ?_
          refine mm_aload_n dX1_chooseBest_32 rfl rfl ?_
          refine mm_iload_n dX1_chooseBest_33 rfl rfl ?_
          refine mm_puti dX1_chooseBest_34 rfl fl_X1_35 (c := 144) rfl (by decide) rfl rfl (fun M34 hM34 => ?_)
          have hR34 : mm_Rf M34 := by rw [hM34]; exact hRN.up rfl
          refine mm_iinc dX1_chooseBest_37 rfl rfl (Nat.le_of_ble_eq_true rfl) rfl ?_
          refine mm_goto dX1_chooseBest_40 ?_
          first
          | (rw [if_pos (by omega)] at ih; exact ih _ _ hR34 (by rw [hM34, hN]; funext a b; simp only [mm_up]; split <;> rfl))
          | (rw [if_neg (by omega)] at ih; exact ih _ _ hR34 hN)
    · have ek : k = 2 ^ n - 1 := by omega
      refine mm_iload_n dX1_chooseBest_9 rfl rfl ?_
      refine mm_iconst dX1_chooseBest_10 rfl ?_
      refine mm_aload_n dX1_chooseBest_11 rfl rfl ?_
      refine mm_get (kd := 0) dX1_chooseBest_12 rfl fl_X1_31 (c := 144) rfl (by decide) rfl rfl ?_
      obtain ⟨v12, hv12⟩ : ∃ v, v = N 144 1 := ⟨_, rfl⟩
      rw [← hv12]
      rw [fc] at hv12
      subst hv12
      refine mm_ishl dX1_chooseBest_15 rfl ?_
      rw [esh]
      refine mm_icge dX1_chooseBest_16 (by omega) (by omega) (fun h16 => ?_) (fun h16 => ?_)
      · refine mm_iload_n dX1_chooseBest_43 rfl rfl ?_
        refine mm_iret dX1_chooseBest_44 rfl rfl ?_
        exact ⟨by rw [ek], hRN, by rw [hN, ek]⟩
      · exfalso; omega
  refine mm_iconst dX1_chooseBest_0 rfl ?_
  refine mm_istore_n dX1_chooseBest_1 rfl (Nat.le_of_ble_eq_true rfl) rfl ?_
  refine mm_aload_n dX1_chooseBest_2 rfl rfl ?_
  refine mm_iconst dX1_chooseBest_3 rfl ?_
  refine mm_puti dX1_chooseBest_4 rfl fl_X1_35 (c := 144) rfl (by decide) rfl rfl (fun M4 hM4 => ?_)
  have hR4 : mm_Rf M4 := by rw [hM4]; exact hR.up rfl
  refine mm_iconst dX1_chooseBest_7 rfl ?_
  refine mm_istore_n dX1_chooseBest_8 rfl (Nat.le_of_ble_eq_true rfl) rfl ?_
  exact loop 0 (Nat.zero_le _) _ _ hR4 hM4
theorem c_X11_field (hR : mm_Rf M) (hF : mm_CF M meet) (hn : M 144 1 = (n : Int)) :
    mm_C X Y_X11_field 243 243 [(2, 1)] M (fun r M' => r = (0, (kd_b (kd_v meet (fun i => M (148 + 3 * i) 3) n) (2 ^ n - 1)).1) ∧ mm_Rf M' ∧ M' = mm_up M 144 2 (kd_b (kd_v meet (fun i => M (148 + 3 * i) 3) n) (2 ^ n - 1)).2) := by
  refine mm_start (ls := [(2, 1)]) rfl ?_
  refine mm_aload_n dX11_field_0 rfl rfl ?_
  refine mm_getr dX11_field_1 rfl fl_X11_76 (c := 0) rfl (by decide) rfl rfl (hR.at (c := 0) (i := 9) (v := 145) rfl (by decide)) ?_
  refine mm_V0g (M1 := M) dX11_field_4 rfl lk_X11_336 (c := 144) rfl (by decide) rfl  rfl rfl rfl (c_X1_chooseBest hR hF hn) ?_
  rintro _ N4 ⟨rfl, p4⟩
  change mm_J _ _ _ _ _ _ _ _ _ _
  have hR4 : mm_Rf N4 := p4.1
  refine mm_iret dX11_field_7 rfl rfl ?_
  exact ⟨rfl, p4⟩
end
end
/-! 85.stand -/
section
/-! ===== a stand, of the class ===== -/
theorem kn_congr {d e : Nat → Int} (h : ∀ t, d t = e t) (n : Nat) : kn d n = kn e n := by rw [show d = e from funext h]
theorem kn_d_congr {K S S' T T' : Nat → Int} {l m k : Nat} {w : Int} (hl : 0 < l) (hm : 0 < m) (hS : ∀ i, i < l → S i = S' i) (hT : ∀ i, i < m → T i = T' i) : kn_d K S T l m k w = kn_d K S' T' l m k w := by
  funext t
  unfold kn_d
  rw [hS _ (Nat.mod_lt _ hl), hT _ (Nat.mod_lt _ hm)]
/-- two stands of the class meet -/
def kd_mC (M : mm_M) (i j : Nat) : Prop := kn (kn_d (M 4) (M (148 + 3 * i + 2)) (M (148 + 3 * j + 2)) (M (148 + 3 * i) 2).toNat (M (148 + 3 * j) 2).toNat 0 (M 146 j - M 146 i)) ((M (148 + 3 * i) 2).toNat * (M (148 + 3 * j) 2).toNat / Nat.gcd (M (148 + 3 * i) 2).toNat (M (148 + 3 * j) 2).toNat) < 2
/-- the rows of the field -/
def mm_CFr (M : mm_M) : Prop := ∀ i : Nat, (i : Int) < M 144 1 → (1 ≤ M (148 + 3 * i) 2 ∧ M (148 + 3 * i) 2 ≤ 100) ∧ (0 ≤ M 146 i ∧ M 146 i ≤ 40) ∧ ∀ k : Nat, (k : Int) < M (148 + 3 * i) 2 → ks_st (M 4) (M (148 + 3 * i + 2) k)
section
variable {X : mm_X} {M : mm_M} {x y : Int} {rc n : Nat}
/-- what add leaves -/
def kd_add (M M' : mm_M) (x : Int) (rc n : Nat) : Prop :=
  (∀ a, a ≠ 144 → a ≠ 146 → a ≠ 147 → a ≠ 148 + 3 * n → a ≠ 148 + 3 * n + 1 → a ≠ 148 + 3 * n + 2 → M' a = M a) ∧ (∀ b, b ≠ 1 → b ≠ 2 → M' 144 b = M 144 b) ∧ M' 144 1 = (n : Int) + 1 ∧ M' 144 2 = 0 ∧ (∀ b, b ≠ n → M' 146 b = M 146 b) ∧ M' 146 n = x ∧
  M' (148 + 3 * n) 2 = M rc 2 ∧ M' (148 + 3 * n) 3 = M rc 3 ∧ (∀ b : Nat, (b : Int) < M rc 2 → M' (148 + 3 * n + 1) b = M (rc + 1) b) ∧ (∀ b : Nat, (b : Int) < M rc 2 → M' (148 + 3 * n + 2) b = M (rc + 2) b) ∧ mm_CF M' (kd_mC M')
theorem c_X1_add (hR : mm_Rf M) (hK : mm_CK M) (hF : mm_CF M (kd_mC M)) (hFr : mm_CFr M) (hn : M 144 1 = (n : Int)) (hn8 : n < 8) (hrc : mm_rw rc 100) (hne : rc + 3 ≤ 144) (h20 : 20 < rc) (hl : 1 ≤ M rc 2 ∧ M rc 2 ≤ 100) (hw : -75000000 ≤ M rc 3 ∧ M rc 3 ≤ 75000000) (hst : ∀ i : Nat, (i : Int) < M rc 2 → ks_st (M 4) (M (rc + 2) i)) (hx : 0 ≤ x ∧ x ≤ 40) :
    mm_C X Y_X1_add 243 243 [(2, 145), (0, x), (2, (rc : Int) + 1)] M (fun r M' => r = (0, (n : Int)) ∧ mm_Rf M' ∧ mm_ag M M' ∧ kd_add M M' x rc n) := by
  have hrn := (mm_rw_stands n hn8).1
  have ern := (mm_rw_stands n hn8).2
  have cc := c_X8_copyFrom (X := X) (M := M) (rc := 148 + 3 * n) (rd := rc) hR hrn hrc (by omega) (by omega)
  obtain ⟨N0, hN0⟩ : ∃ N, N = mm_cf M (148 + 3 * n) rc 100 := ⟨_, rfl⟩
  rw [← hN0] at cc
  have cf : ∀ a b, N0 a b = if a = 148 + 3 * n ∧ b = 2 then M rc 2 else if a = 148 + 3 * n ∧ b = 3 then M rc 3 else if a = 148 + 3 * n + 1 ∧ (b : Int) < M rc 2 then M (rc + 1) b else if a = 148 + 3 * n + 2 ∧ (b : Int) < M rc 2 then M (rc + 2) b else M a b := by
    intro a b
    rw [hN0]
    unfold mm_cf
    rw [show min (M rc 2) (100 : Nat) = M rc 2 by omega]
  have cf0 : ∀ a, a ≠ 148 + 3 * n → a ≠ 148 + 3 * n + 1 → a ≠ 148 + 3 * n + 2 → N0 a = M a := by
    intro a h1 h2 h3
    funext b
    rw [cf, if_neg (by omega), if_neg (by omega), if_neg (by omega), if_neg (by omega)]
  have hR0 : mm_Rf N0 := by
    intro a b hab
    rw [cf, if_neg (fun q => hab (by rw [q.1]; exact mm_rt_row hrn (by omega))), if_neg (fun q => hab (by rw [q.1]; exact mm_rt_row hrn (by omega))), if_neg (fun q => hab (by rw [q.1]; exact mm_rt_arr hrn.2.1 b)), if_neg (fun q => hab (by rw [q.1]; exact mm_rt_arr hrn.2.2.1 b))]
    exact hR a b hab
  have hG0 : mm_ag M N0 := fun a h1 h2 => cf0 a (by omega) (by omega) (by omega)
  -- the memory of the row that came
  obtain ⟨m, hm⟩ : ∃ m, m = (M rc 2).toNat := ⟨_, rfl⟩
  -- whom the new one meets
  obtain ⟨mt, hmt⟩ : ∃ mt : Nat → Prop, mt = (fun i => kn (kn_d (M 4) (M (148 + 3 * i + 2)) (M (rc + 2)) (M (148 + 3 * i) 2).toNat m 0 (x - M 146 i)) ((M (148 + 3 * i) 2).toNat * m / Nat.gcd (M (148 + 3 * i) 2).toNat m) < 2) := ⟨_, rfl⟩
  refine mm_start (ls := [(2, 145), (0, x), (2, (rc : Int) + 1), (9, 0), (9, 0)]) rfl ?_
  have e20 : 20 < 148 + 3 * n := by omega
  have loop : ∀ i : Nat, i ≤ n → ∀ N : mm_M, mm_Rf N → mm_ag M N → (∀ a, a ≠ 146 → a ≠ 147 → a ≠ 148 + 3 * n → a ≠ 148 + 3 * n + 1 → a ≠ 148 + 3 * n + 2 → N a = M a) → (∀ b, b ≠ n → N 146 b = M 146 b) → N 146 n = x → N (148 + 3 * n) = N0 (148 + 3 * n) → N (148 + 3 * n + 1) = N0 (148 + 3 * n + 1) → N (148 + 3 * n + 2) = N0 (148 + 3 * n + 2) →
      (∀ j : Nat, j < n → ∃ b : Nat, N 147 j = (b : Int) ∧ b < 256 ∧ ∀ k, b.testBit k = true ↔ ((k < n ∧ ((j < k ∧ kd_mC M j k) ∨ (k < j ∧ kd_mC M k j))) ∨ (k = n ∧ j < i ∧ mt j))) →
      (∃ b : Nat, N 147 n = (b : Int) ∧ b < 256 ∧ ∀ k, b.testBit k = true ↔ (k < i ∧ mt k)) →
      mm_J X Y_X1_add 243 243 243 32 [(2, 145), (0, x), (2, (rc : Int) + 1), (0, (n : Int)), (0, (i : Int))] [] N (fun r M' => r = (0, (n : Int)) ∧ mm_Rf M' ∧ mm_ag M M' ∧ kd_add M M' x rc n) := by
    refine mm_lp ?_
    intro i hi ih N hRN hG hfr hs1 hs2 hr0 hr1 hr2 hb hbn
    have f144 : N 144 = M 144 := hfr 144 (by decide) (by decide) (by omega) (by omega) (by omega)
    have eN4 : N 4 = M 4 := hG 4 (by decide) (by decide)
    by_cases hlt : i < n
    · have wr := mm_rw_stands i (by omega)
      have er : N 145 i = ((148 + 3 * i : Nat) : Int) + 1 := hRN.at wr.2 (by omega)
      obtain ⟨q1, q2, q3⟩ := hFr i (by omega)
      have hw40 := hs1 i (by omega)
      obtain ⟨bi, b1, b2, b3⟩ := hb i hlt
      obtain ⟨bn, c1, c2, c3⟩ := hbn
      have fi : N (148 + 3 * i) = M (148 + 3 * i) := hfr _ (by omega) (by omega) (by omega) (by omega) (by omega)
      have fi2 : N (148 + 3 * i + 2) = M (148 + 3 * i + 2) := hfr _ (by omega) (by omega) (by omega) (by omega) (by omega)
      have frc : N rc = M rc := hfr _ (by omega) (by omega) (by omega) (by omega) (by omega)
      have frc2 : N (rc + 2) = M (rc + 2) := hfr _ (by omega) (by omega) (by omega) (by omega) (by omega)
      have cn := c_X1_nearest (X := X) (M := N) (w := x - M 146 i) (k := 0) (l := (M (148 + 3 * i) 2).toNat) (m := m) hRN (hG.ck hK) wr.1 hrc (by rw [fi]; omega) (by rw [frc]; omega) (by omega) (by omega) (by intro k hk; rw [eN4, fi2]; exact q3 k (by omega)) (by intro k hk; rw [eN4, frc2]; exact hst k (by omega))
      rw [eN4, fi2, frc2] at cn
      have hkb := kn_b (fun t => (kn_db (S := M (148 + 3 * i + 2)) (T := M (rc + 2)) (l := (M (148 + 3 * i) 2).toNat) (m := m) (k := 0) (w := x - M 146 i) hK.1 (by omega) t).1) ((M (148 + 3 * i) 2).toNat * m / Nat.gcd (M (148 + 3 * i) 2).toNat m)
      have emt : mt i ↔ kn (kn_d (M 4) (M (148 + 3 * i + 2)) (M (rc + 2)) (M (148 + 3 * i) 2).toNat m 0 (x - M 146 i)) ((M (148 + 3 * i) 2).toNat * m / Nat.gcd (M (148 + 3 * i) 2).toNat m) < 2 := by rw [hmt]
      obtain ⟨dn, hdn⟩ : ∃ z, z = kn (kn_d (M 4) (M (148 + 3 * i + 2)) (M (rc + 2)) (M (148 + 3 * i) 2).toNat m 0 (x - M 146 i)) ((M (148 + 3 * i) 2).toNat * m / Nat.gcd (M (148 + 3 * i) 2).toNat m) := ⟨_, rfl⟩
      rw [← hdn] at cn hkb emt
      have sh1 := kx_shl n (by omega)
      have sh2 := kx_shl i (by omega)
      have p1 : 2 ^ n < 256 := Nat.lt_of_lt_of_le (Nat.pow_lt_pow_right (by decide) hn8) (by decide)
      have p2 : 2 ^ i < 256 := Nat.lt_of_lt_of_le (Nat.pow_lt_pow_right (by decide) (show i < 8 by omega)) (by decide)
      have or1 := kx_or (a := bi) (b := 2 ^ n) (by omega) (by omega)
      have or2 := kx_or (a := bn) (b := 2 ^ i) (by omega) (by omega)
      have o1 : bi ||| 2 ^ n < 256 := Nat.or_lt_two_pow (n := 8) b2 p1
      have o2 : bn ||| 2 ^ i < 256 := Nat.or_lt_two_pow (n := 8) c2 p2
      refine mm_iload dX1_add_32 rfl rfl ?_
      refine mm_iload_n dX1_add_34 rfl rfl ?_
      refine mm_icge dX1_add_35 (by omega) (by omega) (fun h35 => ?_) (fun h35 => ?_)
      · exfalso; omega
      · refine mm_aload_n dX1_add_38 rfl rfl ?_
        refine mm_aload_n dX1_add_39 rfl rfl ?_
        refine mm_getr dX1_add_40 rfl fl_X1_13 (c := 144) rfl (by decide) rfl rfl (hRN.at (c := 144) (i := 3) (v := 146) rfl (by decide)) ?_
        refine mm_iload dX1_add_43 rfl rfl ?_
        refine mm_aalk (k0 := i) dX1_add_45 rfl (c := 145) rfl (by decide) rfl (by omega) (by omega) ?_
        rw [er]
        refine mm_aload_n dX1_add_46 rfl rfl ?_
        refine mm_iload_n dX1_add_47 rfl rfl ?_
        refine mm_aload_n dX1_add_48 rfl rfl ?_
        refine mm_getr dX1_add_49 rfl fl_X1_17 (c := 144) rfl (by decide) rfl rfl (hRN.at (c := 144) (i := 4) (v := 147) rfl (by decide)) ?_
        refine mm_iload dX1_add_52 rfl rfl ?_
        refine mm_ialk (k0 := i) dX1_add_54 rfl (c := 146) rfl (by decide) rfl (by omega) (by omega) ?_
        rw [hw40]
        refine mm_isub dX1_add_55 rfl ?_
        refine mm_iconst dX1_add_56 rfl ?_
        refine mm_V4i dX1_add_57 rfl lk_X1_42 (c := 144) rfl (by decide) rfl (by simp) (by simp) (by simp) (by simp) rfl rfl rfl (cn) ?_
        refine mm_iconst dX1_add_60 rfl ?_
        refine mm_icge dX1_add_61 (by omega) (by omega) (fun h61 => ?_) (fun h61 => ?_)
        · refine mm_iinc dX1_add_90 rfl rfl (Nat.le_of_ble_eq_true rfl) rfl ?_
          refine mm_goto dX1_add_93 ?_
          have hno : ¬ mt i := by rw [emt]; omega
          refine ih hlt N hRN hG hfr hs1 hs2 hr0 hr1 hr2 ?_ ?_
          · intro j hj
            obtain ⟨b, d1, d2, d3⟩ := hb j hj
            refine ⟨b, d1, d2, fun k => (d3 k).trans ?_⟩
            constructor
            · rintro (z | ⟨z1, z2, z3⟩)
              · exact Or.inl z
              · exact Or.inr ⟨z1, by omega, z3⟩
            · rintro (z | ⟨z1, z2, z3⟩)
              · exact Or.inl z
              · refine Or.inr ⟨z1, ?_, z3⟩
                by_cases q : j = i
                · rw [q] at z3; exact absurd z3 hno
                · omega
          · refine ⟨bn, c1, c2, fun k => (c3 k).trans ?_⟩
            constructor
            · rintro ⟨z1, z2⟩
              exact ⟨by omega, z2⟩
            · rintro ⟨z1, z2⟩
              refine ⟨?_, z2⟩
              by_cases q : k = i
              · rw [q] at z2; exact absurd z2 hno
              · omega
        · refine mm_aload_n dX1_add_64 rfl rfl ?_
          refine mm_getr dX1_add_65 rfl fl_X1_21 (c := 144) rfl (by decide) rfl rfl (hRN.at (c := 144) (i := 5) (v := 148) rfl (by decide)) ?_
          refine mm_iload dX1_add_68 rfl rfl ?_
          refine mm_dup2 dX1_add_70 rfl (by simp) (by simp) ?_
          refine mm_ialk (k0 := i) dX1_add_71 rfl (c := 147) rfl (by decide) rfl (by omega) (by omega) ?_
          refine mm_iconst dX1_add_72 rfl ?_
          refine mm_iload_n dX1_add_73 rfl rfl ?_
          refine mm_ishl dX1_add_74 rfl ?_
          rw [sh1, b1]
          refine mm_ior dX1_add_75 rfl ?_
          rw [or1]
          refine mm_istk (k0 := i) dX1_add_76 rfl (c := 147) rfl (by decide) rfl (by omega) (by omega) (fun M76 hM76 => ?_)
          have hR76 : mm_Rf M76 := by rw [hM76]; exact hRN.up (mm_rt_ar (t := 0) rfl (by decide))
          have hG76 : mm_ag M M76 := by rw [hM76]; exact hG.up (by decide)
          refine mm_aload_n dX1_add_77 rfl rfl ?_
          refine mm_getr dX1_add_78 rfl fl_X1_21 (c := 144) rfl (by decide) rfl rfl (hR76.at (c := 144) (i := 5) (v := 148) rfl (by decide)) ?_
          refine mm_iload_n dX1_add_81 rfl rfl ?_
          refine mm_dup2 dX1_add_82 rfl (by simp) (by simp) ?_
          refine mm_ialk (k0 := n) dX1_add_83 rfl (c := 147) rfl (by decide) rfl (by omega) (by omega) ?_
          have e83 : M76 147 n = (bn : Int) := by rw [hM76, mm_up_i (by omega)]; exact c1
          rw [e83]
          refine mm_iconst dX1_add_84 rfl ?_
          refine mm_iload dX1_add_85 rfl rfl ?_
          refine mm_ishl dX1_add_87 rfl ?_
          rw [sh2]
          refine mm_ior dX1_add_88 rfl ?_
          rw [or2]
          refine mm_istk (k0 := n) dX1_add_89 rfl (c := 147) rfl (by decide) rfl (by omega) (by omega) (fun M89 hM89 => ?_)
          have hR89 : mm_Rf M89 := by rw [hM89]; exact hR76.up (mm_rt_ar (t := 0) rfl (by decide))
          have hG89 : mm_ag M M89 := by rw [hM89]; exact hG76.up (by decide)
          refine mm_iinc dX1_add_90 rfl rfl (Nat.le_of_ble_eq_true rfl) rfl ?_
          refine mm_goto dX1_add_93 ?_
          have hyes : mt i := by rw [emt]; omega
          have u1 : ∀ j, j ≠ i → j ≠ n → M89 147 j = N 147 j := by intro j h1 h2; simp [hM89, hM76, mm_up, h1, h2]
          have u2 : M89 147 i = ((bi ||| 2 ^ n : Nat) : Int) := by
            have : i ≠ n := by omega
            simp [hM89, hM76, mm_up, this]
          have u3 : M89 147 n = ((bn ||| 2 ^ i : Nat) : Int) := by simp [hM89, hM76, mm_up]
          have u4 : ∀ a, a ≠ 147 → M89 a = N a := by intro a ha; funext b; simp [hM89, hM76, mm_up, ha]
          refine ih hlt _ hR89 hG89 ?_ ?_ ?_ ?_ ?_ ?_ ?_ ?_
          · intro a a1 a2 a3 a4 a5; rw [u4 a a2]; exact hfr a a1 a2 a3 a4 a5
          · intro b hb9; rw [u4 146 (by decide)]; exact hs1 b hb9
          · rw [u4 146 (by decide)]; exact hs2
          · rw [u4 _ (by omega)]; exact hr0
          · rw [u4 _ (by omega)]; exact hr1
          · rw [u4 _ (by omega)]; exact hr2
          · intro j hj
            by_cases q : j = i
            · rw [q]
              refine ⟨bi ||| 2 ^ n, u2, o1, fun k => ?_⟩
              rw [Nat.testBit_or, Nat.testBit_two_pow, Bool.or_eq_true, b3 k, decide_eq_true_iff]
              constructor
              · rintro ((z | ⟨z1, z2, z3⟩) | z)
                · exact Or.inl z
                · exact Or.inr ⟨z1, by omega, z3⟩
                · exact Or.inr ⟨z.symm, by omega, hyes⟩
              · rintro (z | ⟨z1, z2, z3⟩)
                · exact Or.inl (Or.inl z)
                · exact Or.inr z1.symm
            · obtain ⟨b, d1, d2, d3⟩ := hb j hj
              refine ⟨b, by rw [u1 j q (by omega)]; exact d1, d2, fun k => (d3 k).trans ?_⟩
              constructor
              · rintro (z | ⟨z1, z2, z3⟩)
                · exact Or.inl z
                · exact Or.inr ⟨z1, by omega, z3⟩
              · rintro (z | ⟨z1, z2, z3⟩)
                · exact Or.inl z
                · exact Or.inr ⟨z1, by omega, z3⟩
          · refine ⟨bn ||| 2 ^ i, u3, o2, fun k => ?_⟩
            rw [Nat.testBit_or, Nat.testBit_two_pow, Bool.or_eq_true, c3 k, decide_eq_true_iff]
            constructor
            · rintro (⟨z1, z2⟩ | z)
              · exact ⟨by omega, z2⟩
              · rw [← z]; exact ⟨by omega, hyes⟩
            · rintro ⟨z1, z2⟩
              by_cases q : k = i
              · exact Or.inr q.symm
              · exact Or.inl ⟨by omega, z2⟩
    · have ei : i = n := by omega
      have hcn : N 144 1 = (n : Int) := by rw [f144]; exact hn
      refine mm_iload dX1_add_32 rfl rfl ?_
      refine mm_iload_n dX1_add_34 rfl rfl ?_
      refine mm_icge dX1_add_35 (by omega) (by omega) (fun h35 => ?_) (fun h35 => ?_)
      · refine mm_aload_n dX1_add_96 rfl rfl ?_
        refine mm_dup dX1_add_97 rfl (by simp) ?_
        refine mm_get (kd := 0) dX1_add_98 rfl fl_X1_31 (c := 144) rfl (by decide) rfl rfl ?_
        obtain ⟨v98, hv98⟩ : ∃ v, v = N 144 1 := ⟨_, rfl⟩
        rw [← hv98]
        rw [hcn] at hv98
        subst hv98
        refine mm_iconst dX1_add_101 rfl ?_
        refine mm_iadd dX1_add_102 rfl ?_
        refine mm_puti dX1_add_103 rfl fl_X1_31 (c := 144) rfl (by decide) rfl rfl (fun M103 hM103 => ?_)
        have hR103 : mm_Rf M103 := by rw [hM103]; exact hRN.up rfl
        have hG103 : mm_ag M M103 := by rw [hM103]; exact hG.up (by decide)
        refine mm_aload_n dX1_add_106 rfl rfl ?_
        refine mm_iconst dX1_add_107 rfl ?_
        refine mm_puti dX1_add_108 rfl fl_X1_35 (c := 144) rfl (by decide) rfl rfl (fun M108 hM108 => ?_)
        have hR108 : mm_Rf M108 := by rw [hM108]; exact hR103.up rfl
        have hG108 : mm_ag M M108 := by rw [hM108]; exact hG103.up (by decide)
        refine mm_iload_n dX1_add_111 rfl rfl ?_
        refine mm_iret dX1_add_112 rfl rfl ?_
        have u4 : ∀ a, a ≠ 144 → M108 a = N a := by intro a ha; funext b; simp [hM108, hM103, mm_up, ha]
        have uc : M108 144 1 = (n : Int) + 1 := by simp [hM108, hM103, mm_up]
        have us : ∀ b, M108 146 b = N 146 b := by intro b; rw [u4 146 (by decide)]
        have k2 : M108 (148 + 3 * n) 2 = M rc 2 := by rw [u4 _ (by omega), hr0, cf, if_pos ⟨rfl, rfl⟩]
        have k3 : M108 (148 + 3 * n) 3 = M rc 3 := by rw [u4 _ (by omega), hr0, cf, if_neg (by omega), if_pos ⟨rfl, rfl⟩]
        have k4 : ∀ b : Nat, (b : Int) < M rc 2 → M108 (148 + 3 * n + 1) b = M (rc + 1) b := by intro b hb9; rw [u4 _ (by omega), hr1, cf, if_neg (by omega), if_neg (by omega), if_pos ⟨rfl, hb9⟩]
        have k5 : ∀ b : Nat, (b : Int) < M rc 2 → M108 (148 + 3 * n + 2) b = M (rc + 2) b := by intro b hb9; rw [u4 _ (by omega), hr2, cf, if_neg (by omega), if_neg (by omega), if_neg (by omega), if_pos ⟨rfl, hb9⟩]
        have old : ∀ j, j < n → M108 (148 + 3 * j) = M (148 + 3 * j) ∧ M108 (148 + 3 * j + 2) = M (148 + 3 * j + 2) ∧ M108 146 j = M 146 j := by
          intro j hj
          refine ⟨?_, ?_, ?_⟩
          · rw [u4 _ (by omega)]; exact hfr _ (by omega) (by omega) (by omega) (by omega) (by omega)
          · rw [u4 _ (by omega)]; exact hfr _ (by omega) (by omega) (by omega) (by omega) (by omega)
          · rw [us]; exact hs1 j (by omega)
        have e4 : M108 4 = M 4 := by rw [u4 4 (by decide)]; exact eN4
        have m1 : ∀ j k, j < n → k < n → (kd_mC M108 j k ↔ kd_mC M j k) := by
          intro j k hj hk
          unfold kd_mC
          rw [(old j hj).1, (old j hj).2.1, (old j hj).2.2, (old k hk).1, (old k hk).2.1, (old k hk).2.2, e4]
        have m2 : ∀ j, j < n → (kd_mC M108 j n ↔ mt j) := by
          intro j hj
          unfold kd_mC
          rw [(old j hj).1, (old j hj).2.1, (old j hj).2.2, e4, k2, us n, hs2, hmt, ← hm]
          obtain ⟨q1, q2, q3⟩ := hFr j (by omega)
          rw [kn_d_congr (T' := M (rc + 2)) (by omega) (by omega) (fun i _ => rfl) (fun i hi => k5 i (by omega))]
        refine ⟨rfl, hR108, hG108, ?_, ?_, uc, ?_, ?_, ?_, k2, k3, k4, k5, ⟨by rw [uc]; omega, ?_⟩⟩
        · intro a a1 a2 a3 a4 a5 a6; rw [u4 a a1]; exact hfr a a2 a3 a4 a5 a6
        · intro b b1 b2; simp [hM108, hM103, mm_up, b1, b2]; rw [f144]
        · simp [hM108, hM103, mm_up]
        · intro b hb9; rw [us]; exact hs1 b hb9
        · rw [us]; exact hs2
        · intro j hj
          rw [uc] at hj
          by_cases q : j = n
          · rw [q]
            obtain ⟨b, d1, d2, d3⟩ := hbn
            refine ⟨by rw [k3]; omega, b, by rw [u4 147 (by decide)]; exact d1, d2, fun k => (d3 k).trans ?_⟩
            rw [uc]
            constructor
            · rintro ⟨z1, z2⟩
              exact ⟨by omega, Or.inr ⟨by omega, (m2 k (by omega)).mpr z2⟩⟩
            · rintro ⟨z1, ⟨z2, z3⟩ | ⟨z2, z3⟩⟩
              · omega
              · exact ⟨by omega, (m2 k (by omega)).mp z3⟩
          · have hj2 : j < n := by omega
            obtain ⟨b, d1, d2, d3⟩ := hb j hj2
            refine ⟨by rw [(old j hj2).1]; exact (hF.2 j (by omega)).1, b, by rw [u4 147 (by decide)]; exact d1, d2, fun k => (d3 k).trans ?_⟩
            rw [uc]
            constructor
            · rintro (⟨z1, ⟨z2, z3⟩ | ⟨z2, z3⟩⟩ | ⟨z1, z2, z3⟩)
              · exact ⟨by omega, Or.inl ⟨z2, (m1 j k hj2 z1).mpr z3⟩⟩
              · exact ⟨by omega, Or.inr ⟨z2, (m1 k j z1 hj2).mpr z3⟩⟩
              · rw [z1]; exact ⟨by omega, Or.inl ⟨hj2, (m2 j hj2).mpr z3⟩⟩
            · rintro ⟨z1, ⟨z2, z3⟩ | ⟨z2, z3⟩⟩
              · by_cases y : k = n
                · rw [y] at z3; exact Or.inr ⟨y, by omega, (m2 j hj2).mp z3⟩
                · exact Or.inl ⟨by omega, Or.inl ⟨z2, (m1 j k hj2 (by omega)).mp z3⟩⟩
              · exact Or.inl ⟨by omega, Or.inr ⟨z2, (m1 k j (by omega) hj2).mp z3⟩⟩
      · exfalso; omega
  have e0n : N0 145 n = ((148 + 3 * n : Nat) : Int) + 1 := hR0.at ern (by omega)
  have ehn : M 145 n = ((148 + 3 * n : Nat) : Int) + 1 := hR.at ern (by omega)
  refine mm_aload_n dX1_add_0 rfl rfl ?_
  refine mm_get (kd := 0) dX1_add_1 rfl fl_X1_31 (c := 144) rfl (by decide) rfl rfl ?_
  obtain ⟨v1, hv1⟩ : ∃ v, v = M 144 1 := ⟨_, rfl⟩
  rw [← hv1]
  rw [hn] at hv1
  subst hv1
  refine mm_istore_n dX1_add_4 rfl (Nat.le_of_ble_eq_true rfl) rfl ?_
  refine mm_aload_n dX1_add_5 rfl rfl ?_
  refine mm_getr dX1_add_6 rfl fl_X1_13 (c := 144) rfl (by decide) rfl rfl (hR.at (c := 144) (i := 3) (v := 146) rfl (by decide)) ?_
  refine mm_iload_n dX1_add_9 rfl rfl ?_
  refine mm_aalk (k0 := n) dX1_add_10 rfl (c := 145) rfl (by decide) rfl (by omega) (by omega) ?_
  rw [ehn]
  refine mm_aload_n dX1_add_11 rfl rfl ?_
  refine mm_V1v dX1_add_12 rfl lk_X1_38 (c := 148 + 3 * n) rfl hrn.c0 hrn.1 (by simp) rfl rfl rfl (cc) ?_
  refine mm_aload_n dX1_add_15 rfl rfl ?_
  refine mm_getr dX1_add_16 rfl fl_X1_17 (c := 144) rfl (by decide) rfl rfl (hR0.at (c := 144) (i := 4) (v := 147) rfl (by decide)) ?_
  refine mm_iload_n dX1_add_19 rfl rfl ?_
  refine mm_iload_n dX1_add_20 rfl rfl ?_
  refine mm_istk (k0 := n) dX1_add_21 rfl (c := 146) rfl (by decide) rfl (by omega) (by omega) (fun M21 hM21 => ?_)
  have hR21 : mm_Rf M21 := by rw [hM21]; exact hR0.up (mm_rt_ar (t := 0) rfl (by decide))
  refine mm_aload_n dX1_add_22 rfl rfl ?_
  refine mm_getr dX1_add_23 rfl fl_X1_21 (c := 144) rfl (by decide) rfl rfl (hR21.at (c := 144) (i := 5) (v := 148) rfl (by decide)) ?_
  refine mm_iload_n dX1_add_26 rfl rfl ?_
  refine mm_iconst dX1_add_27 rfl ?_
  refine mm_istk (k0 := n) dX1_add_28 rfl (c := 147) rfl (by decide) rfl (by omega) (by omega) (fun M28 hM28 => ?_)
  have hR28 : mm_Rf M28 := by rw [hM28]; exact hR21.up (mm_rt_ar (t := 0) rfl (by decide))
  refine mm_iconst dX1_add_29 rfl ?_
  refine mm_istore dX1_add_30 rfl (Nat.le_of_ble_eq_true rfl) rfl ?_
  have u : ∀ a, a ≠ 146 → a ≠ 147 → M28 a = N0 a := by intro a a1 a2; funext b; simp [hM28, hM21, mm_up, a1, a2]
  refine loop 0 (Nat.zero_le _) _ hR28 ?_ ?_ ?_ ?_ ?_ ?_ ?_ ?_ ?_
  · intro a a1 a2; rw [u a (by omega) (by omega)]; exact hG0 a a1 a2
  · intro a a1 a2 a3 a4 a5; rw [u a a1 a2]; exact cf0 a a3 a4 a5
  · intro b hb9; simp [hM28, hM21, mm_up, hb9]; rw [cf0 146 (by omega) (by omega) (by omega)]
  · simp [hM28, hM21, mm_up]
  · rw [u _ (by omega) (by omega)]
  · rw [u _ (by omega) (by omega)]
  · rw [u _ (by omega) (by omega)]
  · intro j hj
    obtain ⟨b, d1, d2, d3⟩ := (hF.2 j (by omega)).2
    refine ⟨b, ?_, d2, fun k => (d3 k).trans ?_⟩
    · have : j ≠ n := by omega
      simp [hM28, hM21, mm_up, this]
      rw [cf0 147 (by omega) (by omega) (by omega)]
      exact d1
    · constructor
      · rintro ⟨z1, z2⟩
        exact Or.inl ⟨by omega, z2⟩
      · rintro (⟨z1, z2⟩ | ⟨z1, z2, z3⟩)
        · exact ⟨by omega, z2⟩
        · exact absurd z2 (Nat.not_lt_zero j)
  · refine ⟨0, by simp [hM28, hM21, mm_up], by decide, fun k => ?_⟩
    simp
end
end
