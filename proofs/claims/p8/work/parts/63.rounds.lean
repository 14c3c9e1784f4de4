/-! ===== rounds ===== -/
def kt_sum (K W S A : Nat → Int) (h : Int) : Nat → Int
  | 0 => 0
  | n + 1 => kt_sum K W S A h n + max (ks_p K (S n) (A n) (ks_wi W K (S n) h) - K 9) 0 / 100
def kv_rounds (tired b sum : Int) : Int := if b < tired then 0 else if 0 < sum then min ((b - tired) / sum) 100000 else 100000
theorem kt_sumb {K W S A : Nat → Int} {h : Int} (hK : mm_KV K) : ∀ n : Nat, (∀ i : Nat, i < n → ks_ac K (A i) ∧ 0 ≤ ks_wi W K (S i) h ∧ ks_wi W K (S i) h ≤ 60) → 0 ≤ kt_sum K W S A h n ∧ kt_sum K W S A h n ≤ 20000 * n
  | 0, _ => by simp [kt_sum]
  | n + 1, hi => by
    have h1 := kt_sumb (K := K) (W := W) (S := S) (A := A) (h := h) hK n (fun i q => hi i (by omega))
    have h2 := hi n (by omega)
    have h3 := ks_pw hK (s := S n) h2.1 h2.2
    obtain ⟨-, -, -, -, -, -, -, -, -, h9, -⟩ := id hK
    unfold kt_sum
    omega
section
variable {X : mm_X} {M : mm_M} {x h b : Int} {rc len : Nat}
theorem c_X8_tiring (hR : mm_Rf M) (hK : mm_CK M) (hA : mm_CA M) (hrw : mm_rw rc len) (hlen : len ≤ 288) (hl : 0 ≤ M rc 2 ∧ M rc 2 ≤ len) (hst : ∀ i : Nat, (i : Int) < M rc 2 → ks_st (M 4) (M (rc + 2) i) ∧ ks_ac (M 4) (M (rc + 1) i)) (hh : ks_hr h) :
    mm_Fn X Y_X8_tiring 243 [(2, (rc : Int) + 1), (2, 12), (2, 4), (0, h)] M (0, kt_sum (M 4) (M 17) (M (rc + 2)) (M (rc + 1)) h (M rc 2).toNat) M := by
  refine mm_startF (ls := [(2, (rc : Int) + 1), (2, 12), (2, 4), (0, h), (9, 0), (9, 0)]) rfl ?_
  have loop : ∀ (k i : Nat), i + k = (M rc 2).toNat → mm_J X Y_X8_tiring 243 243 243 6 [(2, (rc : Int) + 1), (2, 12), (2, 4), (0, h), (0, kt_sum (M 4) (M 17) (M (rc + 2)) (M (rc + 1)) h i), (0, (i : Int))] [] M (fun r' M'' => r' = (0, kt_sum (M 4) (M 17) (M (rc + 2)) (M (rc + 1)) h (M rc 2).toNat) ∧ M'' = M) := by
    intro k
    induction k with
    | zero =>
      intro i hi
      have ei : i = (M rc 2).toNat := by omega
      refine mm_iload dX8_tiring_6 rfl rfl ?_
      refine mm_aload_n dX8_tiring_8 rfl rfl ?_
      refine mm_get (kd := 0) dX8_tiring_9 rfl fl_X8_22 (c := rc) rfl hrw.c0 hrw.1 rfl ?_
      refine mm_icge dX8_tiring_12 (by omega) (by omega) (fun h12 => ?_) (fun h12 => ?_)
      · refine mm_iload dX8_tiring_50 rfl rfl ?_
        refine mm_iret dX8_tiring_52 rfl rfl ?_
        exact mm_fin (by rw [ei]) rfl
      · exfalso; omega
    | succ k ih =>
      intro i hi
      have hs := hst i (by omega)
      have hw := hA.wi hK.1 hs.1 hh
      have hp := ks_pw hK.1 (s := M (rc + 2) i) hs.2 hw.2
      have h9 : 0 ≤ M 4 9 ∧ M 4 9 ≤ 99999 := hK.1.2.2.2.2.2.2.2.2.2.1
      have hb := kt_sumb (K := M 4) (W := M 17) (S := M (rc + 2)) (A := M (rc + 1)) (h := h) hK.1 i (fun j q => ⟨(hst j (by omega)).2, (hA.wi hK.1 (hst j (by omega)).1 hh).2⟩)
      refine mm_iload dX8_tiring_6 rfl rfl ?_
      refine mm_aload_n dX8_tiring_8 rfl rfl ?_
      refine mm_get (kd := 0) dX8_tiring_9 rfl fl_X8_22 (c := rc) rfl hrw.c0 hrw.1 rfl ?_
      refine mm_icge dX8_tiring_12 (by omega) (by omega) (fun h12 => ?_) (fun h12 => ?_)
      · exfalso; omega
      · refine mm_iload dX8_tiring_15 rfl rfl ?_
        refine mm_aload_n dX8_tiring_17 rfl rfl ?_
        refine mm_aload_n dX8_tiring_18 rfl rfl ?_
        refine mm_aload_n dX8_tiring_19 rfl rfl ?_
        refine mm_getr dX8_tiring_20 rfl fl_X8_19 (c := rc) rfl hrw.c0 hrw.1 rfl (hrw.states hR) ?_
        refine mm_iload dX8_tiring_23 rfl rfl ?_
        refine mm_ialk (k0 := i) dX8_tiring_25 rfl (c := rc + 2) rfl hrw.c2 hrw.2.2.1 (by omega) (by omega) ?_
        refine mm_aload_n dX8_tiring_26 rfl rfl ?_
        refine mm_getr dX8_tiring_27 rfl fl_X8_13 (c := rc) rfl hrw.c0 hrw.1 rfl (hrw.acts hR) ?_
        refine mm_iload dX8_tiring_30 rfl rfl ?_
        refine mm_ialk (k0 := i) dX8_tiring_32 rfl (c := rc + 1) rfl hrw.c1 hrw.2.1 (by omega) (by omega) ?_
        refine mm_iload_n dX8_tiring_33 rfl rfl ?_
        refine mm_iconst dX8_tiring_34 rfl ?_
        refine mm_V4i dX8_tiring_35 rfl lk_X8_79 (c := 11) rfl (by decide) rfl (by simp) (by simp) (by simp) (by simp) rfl rfl rfl (c_X0_pullBy1 hR hK hA hs.1 hs.2 hh) ?_
        refine mm_V1i dX8_tiring_38 rfl lk_X8_90 (c := 3) rfl (by decide) rfl (by simp) rfl rfl rfl (c_X4_tiringOf hR hK (by omega)) ?_
        refine mm_iadd dX8_tiring_41 rfl ?_
        refine mm_istore dX8_tiring_42 rfl (Nat.le_of_ble_eq_true rfl) rfl ?_
        refine mm_iinc dX8_tiring_44 rfl rfl (Nat.le_of_ble_eq_true rfl) rfl ?_
        refine mm_goto dX8_tiring_47 ?_
        exact ih (i + 1) (by omega)
  refine mm_iconst dX8_tiring_0 rfl ?_
  refine mm_istore dX8_tiring_1 rfl (Nat.le_of_ble_eq_true rfl) rfl ?_
  refine mm_iconst dX8_tiring_3 rfl ?_
  refine mm_istore dX8_tiring_4 rfl (Nat.le_of_ble_eq_true rfl) rfl ?_
  exact loop (M rc 2).toNat 0 (by omega)
theorem c_X11_rounds (hR : mm_Rf M) (hK : mm_CK M) (hA : mm_CA M) (hx : mm_R x) (hh : mm_R h) (hb : mm_R b) (ht : 0 ≤ M 0 13 ∧ M 0 13 ≤ 1000000) (hl : ∀ k : Nat, k < 6 → 0 ≤ M (121 + 3 * k) 2 ∧ M (121 + 3 * k) 2 ≤ 100) (hst : ∀ k : Nat, k < 6 → ∀ i : Nat, (i : Int) < M (121 + 3 * k) 2 → ks_st (M 4) (M (121 + 3 * k + 2) i) ∧ ks_ac (M 4) (M (121 + 3 * k + 1) i)) :
    mm_Fn X Y_X11_rounds 243 [(2, 1), (0, x), (0, h), (0, b)] M (0, if (0 ≤ x ∧ x ≤ 5) ∧ ks_hr h ∧ 0 ≤ b ∧ b ≤ 1000000 then (if 0 < M (121 + 3 * x.toNat) 2 then kv_rounds (M 0 13) b (kt_sum (M 4) (M 17) (M (121 + 3 * x.toNat + 2)) (M (121 + 3 * x.toNat + 1)) h (M (121 + 3 * x.toNat) 2).toNat) else -4) else -2) M := by
  refine mm_startF (ls := [(2, 1), (0, x), (0, h), (0, b), (9, 0)]) rfl ?_
  by_cases hs : (0 ≤ x ∧ x ≤ 5) ∧ ks_hr h
  · have e1 := mm_keptref hR hs.1
    have w1 := (mm_rw_kept x.toNat (by omega)).1
    have l1 := hl x.toNat (by omega)
    have s1 := hst x.toNat (by omega)
    have hsb := kt_sumb (K := M 4) (W := M 17) (S := M (121 + 3 * x.toNat + 2)) (A := M (121 + 3 * x.toNat + 1)) (h := h) hK.1 (M (121 + 3 * x.toNat) 2).toNat (fun j q => ⟨(s1 j (by omega)).2, (hA.wi hK.1 (s1 j (by omega)).1 hs.2).2⟩)
    obtain ⟨T, hT⟩ : ∃ T, T = kt_sum (M 4) (M 17) (M (121 + 3 * x.toNat + 2)) (M (121 + 3 * x.toNat + 1)) h (M (121 + 3 * x.toNat) 2).toNat := ⟨_, rfl⟩
    have ct := c_X8_tiring (X := X) hR hK hA w1 (by omega) l1 s1 hs.2
    rw [← hT] at ct hsb ⊢
    have hq : ∀ u : Int, 0 ≤ u → u ≤ 1000000 → 0 < T → 0 ≤ u / T ∧ u / T ≤ 1000000 := fun u h1 h2 h3 => mm_divb h1 h2 h3
    refine mm_iload_n dX11_rounds_0 rfl rfl ?_
    refine mm_S1i dX11_rounds_1 rfl lk_X11_254 (by simp) rfl rfl rfl (c_X11_isSlot hx) ?_
    refine mm_ifeqb dX11_rounds_4 (fun h4 => ?_) (fun h4 => ?_)
    · exact absurd hs.1 h4
    · refine mm_iload_n dX11_rounds_7 rfl rfl ?_
      refine mm_S1i dX11_rounds_8 rfl lk_X11_165 (by simp) rfl rfl rfl (c_X11_isHour hh) ?_
      refine mm_ifeqb dX11_rounds_11 (fun h11 => ?_) (fun h11 => ?_)
      · exact absurd hs.2 h11
      · refine mm_iload_n dX11_rounds_14 rfl rfl ?_
        refine mm_iconst dX11_rounds_15 rfl ?_
        refine mm_ldcw dX11_rounds_16 rfl kc_X11_281 ?_
        refine mm_S3i dX11_rounds_19 rfl lk_X11_171 (by simp) (by simp) (by simp) rfl rfl rfl (c_X11_isWithin hb (by omega) (by omega)) ?_
        refine mm_ifneb dX11_rounds_22 (fun h22 => ?_) (fun h22 => ?_)
        · refine mm_aload_n dX11_rounds_28 rfl rfl ?_
          refine mm_getr dX11_rounds_29 rfl fl_X11_60 (c := 0) rfl (by decide) rfl rfl (hR.at (c := 0) (i := 7) (v := 121) rfl (by decide)) ?_
          refine mm_iload_n dX11_rounds_32 rfl rfl ?_
          refine mm_aald dX11_rounds_33 rfl (c := 120) rfl (by decide) rfl (by omega) (by omega) ?_
          rw [e1]
          refine mm_get (kd := 0) dX11_rounds_34 rfl fl_X11_115 (c := 121 + 3 * x.toNat) rfl w1.c0 w1.1 rfl ?_
          refine mm_ifne dX11_rounds_37 (by omega) (fun h37 => ?_) (fun h37 => ?_)
          · refine mm_aload_n dX11_rounds_43 rfl rfl ?_
            refine mm_get (kd := 0) dX11_rounds_44 rfl fl_X11_282 (c := 0) rfl (by decide) rfl rfl ?_
            refine mm_iload_n dX11_rounds_47 rfl rfl ?_
            refine mm_icle dX11_rounds_48 (by omega) (by omega) (fun h48 => ?_) (fun h48 => ?_)
            · refine mm_aload_n dX11_rounds_53 rfl rfl ?_
              refine mm_getr dX11_rounds_54 rfl fl_X11_60 (c := 0) rfl (by decide) rfl rfl (hR.at (c := 0) (i := 7) (v := 121) rfl (by decide)) ?_
              refine mm_iload_n dX11_rounds_57 rfl rfl ?_
              refine mm_aald dX11_rounds_58 rfl (c := 120) rfl (by decide) rfl (by omega) (by omega) ?_
              rw [e1]
              refine mm_aload_n dX11_rounds_59 rfl rfl ?_
              refine mm_getr dX11_rounds_60 rfl fl_X11_28 (c := 0) rfl (by decide) rfl rfl (hR.at (c := 0) (i := 2) (v := 12) rfl (by decide)) ?_
              refine mm_aload_n dX11_rounds_63 rfl rfl ?_
              refine mm_getr dX11_rounds_64 rfl fl_X11_19 (c := 0) rfl (by decide) rfl rfl (hR.at (c := 0) (i := 1) (v := 4) rfl (by decide)) ?_
              refine mm_iload_n dX11_rounds_67 rfl rfl ?_
              refine mm_V3i dX11_rounds_68 rfl lk_X11_285 (c := 121 + 3 * x.toNat) rfl w1.c0 w1.1 (by simp) (by simp) (by simp) rfl rfl rfl (ct) ?_
              refine mm_istore dX11_rounds_71 rfl (Nat.le_of_ble_eq_true rfl) rfl ?_
              refine mm_iload dX11_rounds_73 rfl rfl ?_
              refine mm_ifle dX11_rounds_75 (by omega) (fun h75 => ?_) (fun h75 => ?_)
              · refine mm_ldcw dX11_rounds_96 rfl kc_X11_289 ?_
                refine mm_iret dX11_rounds_99 rfl rfl ?_
                refine mm_fin ?_ rfl
                rw [if_pos (And.intro hs.1 (And.intro hs.2 h22)), if_pos (by omega), kv_rounds, if_neg (by omega)]
                first
                | (rw [if_pos (by omega)]; done)
                | (rw [if_neg (by omega)]; done)
              · refine mm_iload_n dX11_rounds_78 rfl rfl ?_
                refine mm_aload_n dX11_rounds_79 rfl rfl ?_
                refine mm_get (kd := 0) dX11_rounds_80 rfl fl_X11_282 (c := 0) rfl (by decide) rfl rfl ?_
                refine mm_isub dX11_rounds_83 rfl ?_
                refine mm_iload dX11_rounds_84 rfl rfl ?_
                refine mm_idiv dX11_rounds_86 rfl (by omega) (by omega) (by omega) ?_
                rw [mm_tdiv (by omega)]
                have hqq := hq (b - M 0 13) (by omega) (by omega) (by omega)
                refine mm_ldcw dX11_rounds_87 rfl kc_X11_289 ?_
                refine mm_min dX11_rounds_90 rfl lm_X11_290 rfl rfl (by simp) (by omega) (by omega) ?_
                refine mm_goto dX11_rounds_93 ?_
                refine mm_iret dX11_rounds_99 rfl rfl ?_
                refine mm_fin ?_ rfl
                rw [if_pos (And.intro hs.1 (And.intro hs.2 h22)), if_pos (by omega), kv_rounds, if_neg (by omega)]
                first
                | (rw [if_pos (by omega)]; done)
                | (rw [if_neg (by omega)]; done)
            · refine mm_iconst dX11_rounds_51 rfl ?_
              refine mm_iret dX11_rounds_52 rfl rfl ?_
              exact mm_fin (by rw [if_pos (And.intro hs.1 (And.intro hs.2 h22)), if_pos (by omega), kv_rounds, if_pos (by omega)]) rfl
          · refine mm_bipush dX11_rounds_40 rfl (by decide) ?_
            refine mm_iret dX11_rounds_42 rfl rfl ?_
            exact mm_fin (by rw [if_pos (And.intro hs.1 (And.intro hs.2 h22)), if_neg (by omega)]) rfl
        · refine mm_bipush dX11_rounds_25 rfl (by decide) ?_
          refine mm_iret dX11_rounds_27 rfl rfl ?_
          exact mm_fin (by rw [if_neg (fun q => h22 q.2.2)]) rfl
  · refine mm_iload_n dX11_rounds_0 rfl rfl ?_
    refine mm_S1i dX11_rounds_1 rfl lk_X11_254 (by simp) rfl rfl rfl (c_X11_isSlot hx) ?_
    refine mm_ifeqb dX11_rounds_4 (fun h4 => ?_) (fun h4 => ?_)
    · refine mm_bipush dX11_rounds_25 rfl (by decide) ?_
      refine mm_iret dX11_rounds_27 rfl rfl ?_
      exact mm_fin (by rw [if_neg (by omega)]) rfl
    · refine mm_iload_n dX11_rounds_7 rfl rfl ?_
      refine mm_S1i dX11_rounds_8 rfl lk_X11_165 (by simp) rfl rfl rfl (c_X11_isHour hh) ?_
      refine mm_ifeqb dX11_rounds_11 (fun h11 => ?_) (fun h11 => ?_)
      · refine mm_bipush dX11_rounds_25 rfl (by decide) ?_
        refine mm_iret dX11_rounds_27 rfl rfl ?_
        exact mm_fin (by rw [if_neg (by omega)]) rfl
      · exact absurd (And.intro h4 h11) hs
end

