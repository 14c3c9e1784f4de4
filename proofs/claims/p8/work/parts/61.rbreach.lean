/-! ===== the reference's breach ===== -/
abbrev kl_one (M : mm_M) (hr ht : Int) (j : Nat) : Prop := (M 230 j ≤ hr ∧ hr ≤ M 231 j) ∧ M 232 j < ht
/-- the roofs over the hours are what the laws say -/
def kl_R (M : mm_M) (roof : Nat → Int) : Prop := ∀ (hr : Nat) (ht : Int), hr < 24 → 0 ≤ ht → ht ≤ 2400 → ((∃ j : Nat, (j : Int) < M 183 92 ∧ kl_one M hr ht j) ↔ roof hr < ht)
theorem kf_mem_lt {M : mm_M} {c : Nat} {f : Nat → Int} {n i : Nat} (h : i < n) : kf_mem M c f n c i = f i := by
  unfold kf_mem; rw [if_pos ⟨rfl, h⟩]
section
variable {X : mm_X} {M : mm_M} {x h e n : Int} {roof : Nat → Int}
/-- the states of kept loop x of the reference -/
abbrev kl_S (M : mm_M) (x : Nat) : Nat → Int := kf_run (mm_rk M) (M 217 x) (fun i => M 219 (100 * x + i))
theorem c_X13_breach (hR : mm_Rf M) (hK : mm_KV (mm_rk M)) (hx : mm_R x) (hh : mm_R h) (he : mm_R e) (hn : mm_R n) (hL : 0 ≤ M 183 92 ∧ M 183 92 ≤ 10) (hLr : kl_R M roof)
    (hLv : ∀ i : Nat, i < 10 → mm_R (M 230 i) ∧ mm_R (M 231 i) ∧ mm_R (M 232 i))
    (hl : ∀ k : Nat, k < 6 → 0 ≤ M 216 k ∧ M 216 k ≤ 100) (hb : ∀ k : Nat, k < 6 → mm_R (M 217 k))
    (ha : ∀ k : Nat, k < 6 → ∀ i : Nat, (i : Int) < M 216 k → 0 ≤ M 219 (100 * k + i) ∧ M 219 (100 * k + i) < 1000)
    (hst : ∀ k : Nat, k < 6 → ∀ i : Nat, (i : Int) < M 216 k → ks_st (mm_rk M) (kl_S M k i)) :
    mm_Fn X Y_X13_breach 243 [(2, 184), (0, x), (0, h), (0, e), (0, n)] M (0, if (0 ≤ x ∧ x ≤ 5) ∧ ks_hr h ∧ (1 ≤ e ∧ e ≤ 60) ∧ 1 ≤ n ∧ n ≤ 5000 then (if 0 < M 216 x.toNat then kf_from (kb_at (mm_rk M) (kl_S M x.toNat) (M 216 x.toNat).toNat roof h e) 0 n.toNat else -4) else -2)
      (if ((0 ≤ x ∧ x ≤ 5) ∧ ks_hr h ∧ (1 ≤ e ∧ e ≤ 60) ∧ 1 ≤ n ∧ n ≤ 5000) ∧ 0 < M 216 x.toNat then kf_mem M 226 (kl_S M x.toNat) (M 216 x.toNat).toNat else M) := by
  refine mm_startF (ls := [(2, 184), (0, x), (0, h), (0, e), (0, n), (9, 0), (9, 0), (9, 0), (9, 0)]) rfl ?_
  by_cases hs : ((0 ≤ x ∧ x ≤ 5) ∧ ks_hr h ∧ (1 ≤ e ∧ e ≤ 60) ∧ 1 ≤ n ∧ n ≤ 5000) ∧ 0 < M 216 x.toNat
  · obtain ⟨⟨hxs, hhs, hes, hns⟩, hpos⟩ := hs
    have hlx := hl x.toNat (by omega)
    have hstx := hst x.toNat (by omega)
    obtain ⟨N, hN⟩ : ∃ N, N = kf_mem M 226 (kl_S M x.toNat) (M 216 x.toNat).toNat := ⟨_, rfl⟩
    have hRN : mm_Rf N := by rw [hN]; exact hR.fm (len := 100) rfl
    have e216 : N 216 = M 216 := by rw [hN]; exact kf_mem_n (by omega)
    have eo : N 183 = M 183 := by rw [hN]; exact kf_mem_n (by omega)
    have eF : N 230 = M 230 := by rw [hN]; exact kf_mem_n (by omega)
    have eT : N 231 = M 231 := by rw [hN]; exact kf_mem_n (by omega)
    have eH : N 232 = M 232 := by rw [hN]; exact kf_mem_n (by omega)
    have fk : mm_rk N = mm_rk M := by
      refine mm_rk_congr ?_ ?_ ?_ ?_ <;> rw [hN, kf_mem_n (by omega)]
    have eS : ∀ i : Nat, i < (M 216 x.toNat).toNat → N 226 i = kl_S M x.toNat i := by
      intro i hi; rw [hN]; exact kf_mem_lt hi
    have outer : ∀ (k t : Nat), t + k = n.toNat → kf_from (kb_at (mm_rk M) (kl_S M x.toNat) (M 216 x.toNat).toNat roof h e) t k = kf_from (kb_at (mm_rk M) (kl_S M x.toNat) (M 216 x.toNat).toNat roof h e) 0 n.toNat →
        ∀ l6 l7 l8 : Nat × Int, mm_J X Y_X13_breach 243 243 243 65 [(2, 184), (0, x), (0, h), (0, e), (0, n), (0, (t : Int)), l6, l7, l8] [] N (fun r' M'' => r' = (0, kf_from (kb_at (mm_rk M) (kl_S M x.toNat) (M 216 x.toNat).toNat roof h e) 0 n.toNat) ∧ M'' = N) := by
      intro k
      induction k with
      | zero =>
        intro t ht heq l6 l7 l8
        refine mm_iload dX13_breach_65 rfl rfl ?_
        refine mm_iload dX13_breach_67 rfl rfl ?_
        refine mm_icge dX13_breach_69 (by omega) (by omega) (fun h69 => ?_) (fun h69 => ?_)
        · refine mm_iconst dX13_breach_167 rfl ?_
          refine mm_iret dX13_breach_168 rfl rfl ?_
          exact mm_fin heq rfl
        · exfalso; omega
      | succ k ih =>
        intro t ht heq l6 l7 l8
        have hm := Nat.mod_lt t (show 0 < (M 216 x.toNat).toNat by omega)
        have hsx := hstx (t % (M 216 x.toNat).toNat) (by omega)
        have hhb := ks_hb hK hsx
        have hdv := mm_divb (a := (t : Int)) (b := e) (A := 5000) (by omega) (by omega) (by omega)
        have hmod : 0 ≤ (h + (t : Int) / e) % 24 ∧ (h + (t : Int) / e) % 24 < 24 := by omega
        have hiff := hLr ((h + (t : Int) / e) % 24).toNat (ks_h (mm_rk M) (kl_S M x.toNat (t % (M 216 x.toNat).toNat))) (by omega) hhb.1 hhb.2.1
        rw [Int.toNat_of_nonneg hmod.1] at hiff
        obtain ⟨H, hH⟩ : ∃ H, H = (h + (t : Int) / e) % 24 := ⟨_, rfl⟩
        obtain ⟨Z, hZ⟩ : ∃ Z, Z = ks_h (mm_rk M) (kl_S M x.toNat (t % (M 216 x.toNat).toNat)) := ⟨_, rfl⟩
        rw [← hH, ← hZ] at hiff
        have inner : ∀ (k' j : Nat), j + k' = (M 183 92).toNat → (∀ i : Nat, i < j → ¬ kl_one M H Z i) → mm_J X Y_X13_breach 243 243 243 106 [(2, 184), (0, x), (0, h), (0, e), (0, n), (0, (t : Int)), (0, H), (0, Z), (0, (j : Int))] [] N (fun r' M'' => r' = (0, kf_from (kb_at (mm_rk M) (kl_S M x.toNat) (M 216 x.toNat).toNat roof h e) 0 n.toNat) ∧ M'' = N) := by
          intro k'
          induction k' with
          | zero =>
            intro j hj hno
            refine mm_iload dX13_breach_106 rfl rfl ?_
            refine mm_aload_n dX13_breach_108 rfl rfl ?_
            refine mm_get (kd := 0) dX13_breach_109 rfl fl_X13_704 (c := 183) rfl (by decide) rfl rfl ?_
            rw [eo]
            refine mm_icge dX13_breach_112 (by omega) (by omega) (fun h112 => ?_) (fun h112 => ?_)
            · refine mm_iinc dX13_breach_161 rfl rfl (Nat.le_of_ble_eq_true rfl) rfl ?_
              refine mm_goto dX13_breach_164 ?_
              refine ih (t + 1) (by omega) ?_ _ _ _
              rw [← heq, kf_from, if_neg]
              show ¬ roof ((h + (t : Int) / e) % 24).toNat < ks_h (mm_rk M) (kl_S M x.toNat (t % (M 216 x.toNat).toNat))
              rw [← hH, ← hZ, ← hiff]
              rintro ⟨i, hi, hone⟩
              exact hno i (by omega) hone
            · exfalso; omega
          | succ k' ih' =>
            intro j hj hno
            have hv := hLv j (by omega)
            have hv1 := hv.1
            have hv2 := hv.2.1
            have hv3 := hv.2.2
            have nxt : ¬ kl_one M H Z j → ∀ i : Nat, i < j + 1 → ¬ kl_one M H Z i := by
              intro hz i hi
              by_cases hij : i = j
              · rw [hij]; exact hz
              · exact hno i (by omega)
            refine mm_iload dX13_breach_106 rfl rfl ?_
            refine mm_aload_n dX13_breach_108 rfl rfl ?_
            refine mm_get (kd := 0) dX13_breach_109 rfl fl_X13_704 (c := 183) rfl (by decide) rfl rfl ?_
            rw [eo]
            refine mm_icge dX13_breach_112 (by omega) (by omega) (fun h112 => ?_) (fun h112 => ?_)
            · exfalso; omega
            · refine mm_iload dX13_breach_115 rfl rfl ?_
              refine mm_i2l dX13_breach_117 rfl (by omega) ?_
              refine mm_aload_n dX13_breach_118 rfl rfl ?_
              refine mm_getr dX13_breach_119 rfl fl_X13_340 (c := 183) rfl (by decide) rfl rfl (hRN.at (c := 183) (i := 93) (v := 231) rfl (by decide)) ?_
              refine mm_iload dX13_breach_122 rfl rfl ?_
              refine mm_ialk (k0 := j) dX13_breach_124 rfl (c := 230) rfl (by decide) rfl (by omega) (by omega) ?_
              rw [eF]
              refine mm_i2l dX13_breach_125 rfl (by omega) ?_
              refine mm_aload_n dX13_breach_126 rfl rfl ?_
              refine mm_getr dX13_breach_127 rfl fl_X13_343 (c := 183) rfl (by decide) rfl rfl (hRN.at (c := 183) (i := 94) (v := 232) rfl (by decide)) ?_
              refine mm_iload dX13_breach_130 rfl rfl ?_
              refine mm_ialk (k0 := j) dX13_breach_132 rfl (c := 231) rfl (by decide) rfl (by omega) (by omega) ?_
              rw [eT]
              refine mm_i2l dX13_breach_133 rfl (by omega) ?_
              refine mm_S3i dX13_breach_134 rfl lk_X13_5 (by simp) (by simp) (by simp) rfl rfl rfl (c_X13_in (by omega) (by omega) (by omega)) ?_
              refine mm_ifeqb dX13_breach_137 (fun h137 => ?_) (fun h137 => ?_)
              · refine mm_iinc dX13_breach_155 rfl rfl (Nat.le_of_ble_eq_true rfl) rfl ?_
                refine mm_goto dX13_breach_158 ?_
                exact ih' (j + 1) (by omega) (nxt (by unfold kl_one; omega))
              · refine mm_iload dX13_breach_140 rfl rfl ?_
                refine mm_aload_n dX13_breach_142 rfl rfl ?_
                refine mm_getr dX13_breach_143 rfl fl_X13_346 (c := 183) rfl (by decide) rfl rfl (hRN.at (c := 183) (i := 95) (v := 233) rfl (by decide)) ?_
                refine mm_iload dX13_breach_146 rfl rfl ?_
                refine mm_ialk (k0 := j) dX13_breach_148 rfl (c := 232) rfl (by decide) rfl (by omega) (by omega) ?_
                rw [eH]
                refine mm_icle dX13_breach_149 (by omega) (by omega) (fun h149 => ?_) (fun h149 => ?_)
                · refine mm_iinc dX13_breach_155 rfl rfl (Nat.le_of_ble_eq_true rfl) rfl ?_
                  refine mm_goto dX13_breach_158 ?_
                  exact ih' (j + 1) (by omega) (nxt (by unfold kl_one; omega))
                · refine mm_iload dX13_breach_152 rfl rfl ?_
                  refine mm_iret dX13_breach_154 rfl rfl ?_
                  refine mm_fin ?_ rfl
                  rw [← heq, kf_from, if_pos]
                  show roof ((h + (t : Int) / e) % 24).toNat < ks_h (mm_rk M) (kl_S M x.toNat (t % (M 216 x.toNat).toNat))
                  rw [← hH, ← hZ, ← hiff]
                  exact ⟨j, by omega, by unfold kl_one; omega⟩
        refine mm_iload dX13_breach_65 rfl rfl ?_
        refine mm_iload dX13_breach_67 rfl rfl ?_
        refine mm_icge dX13_breach_69 (by omega) (by omega) (fun h69 => ?_) (fun h69 => ?_)
        · exfalso; omega
        · refine mm_iload_n dX13_breach_72 rfl rfl ?_
          refine mm_iload dX13_breach_73 rfl rfl ?_
          refine mm_iload_n dX13_breach_75 rfl rfl ?_
          refine mm_idiv dX13_breach_76 rfl (by omega) (by omega) (by omega) ?_
          rw [mm_tdiv (by omega)]
          refine mm_iadd dX13_breach_77 rfl ?_
          refine mm_bipush dX13_breach_78 rfl (by decide) ?_
          refine mm_irem dX13_breach_80 rfl (by omega) (by omega) (by omega) ?_
          rw [mm_tmod (by omega), ← hH]
          refine mm_istore dX13_breach_81 rfl (Nat.le_of_ble_eq_true rfl) rfl ?_
          refine mm_aload_n dX13_breach_83 rfl rfl ?_
          refine mm_aload_n dX13_breach_84 rfl rfl ?_
          refine mm_getr dX13_breach_85 rfl fl_X13_328 (c := 183) rfl (by decide) rfl rfl (hRN.at (c := 183) (i := 86) (v := 227) rfl (by decide)) ?_
          refine mm_iload dX13_breach_88 rfl rfl ?_
          refine mm_aload_n dX13_breach_90 rfl rfl ?_
          refine mm_getr dX13_breach_91 rfl fl_X13_295 (c := 183) rfl (by decide) rfl rfl (hRN.at (c := 183) (i := 64) (v := 217) rfl (by decide)) ?_
          refine mm_iload_n dX13_breach_94 rfl rfl ?_
          refine mm_ialk (k0 := x.toNat) dX13_breach_95 rfl (c := 216) rfl (by decide) rfl (by omega) (by omega) ?_
          rw [e216]
          refine mm_irem dX13_breach_96 rfl (by omega) (by omega) (by omega) ?_
          rw [mm_tmod (by omega), show (t : Int) % M 216 x.toNat = ((t % (M 216 x.toNat).toNat : Nat) : Int) by rw [Int.natCast_emod, Int.toNat_of_nonneg (by omega)]]
          refine mm_ialk (k0 := (t % (M 216 x.toNat).toNat)) dX13_breach_97 rfl (c := 226) rfl (by decide) rfl (by omega) (by omega) ?_
          rw [eS _ hm]
          refine mm_V1i dX13_breach_98 rfl lk_X13_435 (c := 183) rfl (by decide) rfl (by simp) rfl rfl rfl (c_X13_heightOf hRN (fk ▸ hK) (fk ▸ hsx)) ?_
          refine mm_istore dX13_breach_101 rfl (Nat.le_of_ble_eq_true rfl) rfl ?_
          refine mm_iconst dX13_breach_103 rfl ?_
          refine mm_istore dX13_breach_104 rfl (Nat.le_of_ble_eq_true rfl) rfl ?_
          have := inner (M 183 92).toNat 0 (by omega) (fun i hi => absurd hi (Nat.not_lt_zero i))
          rw [fk, ← hZ]
          exact this
    refine mm_iload_n dX13_breach_0 rfl rfl ?_
    refine mm_S1i dX13_breach_1 rfl lk_X13_629 (by simp) rfl rfl rfl (c_X13_isSlot hx) ?_
    refine mm_ifeqb dX13_breach_4 (fun h4 => ?_) (fun h4 => ?_)
    · refine mm_bipush dX13_breach_39 rfl (by decide) ?_
      refine mm_iret dX13_breach_41 rfl rfl ?_
      exfalso; omega
    · refine mm_iload_n dX13_breach_7 rfl rfl ?_
      refine mm_S1i dX13_breach_8 rfl lk_X13_486 (by simp) rfl rfl rfl (c_X13_isHour hh) ?_
      refine mm_ifeqb dX13_breach_11 (fun h11 => ?_) (fun h11 => ?_)
      · refine mm_bipush dX13_breach_39 rfl (by decide) ?_
        refine mm_iret dX13_breach_41 rfl rfl ?_
        exfalso; omega
      · refine mm_iload_n dX13_breach_14 rfl rfl ?_
        refine mm_i2l dX13_breach_15 rfl (by omega) ?_
        refine mm_lconst1 dX13_breach_16 rfl ?_
        refine mm_ldc2 dX13_breach_17 rfl kc_X13_492 ?_
        refine mm_S3i dX13_breach_20 rfl lk_X13_5 (by simp) (by simp) (by simp) rfl rfl rfl (c_X13_in (by omega) (by omega) (by omega)) ?_
        refine mm_ifeqb dX13_breach_23 (fun h23 => ?_) (fun h23 => ?_)
        · refine mm_bipush dX13_breach_39 rfl (by decide) ?_
          refine mm_iret dX13_breach_41 rfl rfl ?_
          exfalso; omega
        · refine mm_iload dX13_breach_26 rfl rfl ?_
          refine mm_i2l dX13_breach_28 rfl (by omega) ?_
          refine mm_lconst1 dX13_breach_29 rfl ?_
          refine mm_ldc2 dX13_breach_30 rfl kc_X13_707 ?_
          refine mm_S3i dX13_breach_33 rfl lk_X13_5 (by simp) (by simp) (by simp) rfl rfl rfl (c_X13_in (by omega) (by omega) (by omega)) ?_
          refine mm_ifneb dX13_breach_36 (fun h36 => ?_) (fun h36 => ?_)
          · refine mm_aload_n dX13_breach_42 rfl rfl ?_
            refine mm_iload_n dX13_breach_43 rfl rfl ?_
            refine mm_V1i dX13_breach_44 rfl lk_X13_673 (c := 183) rfl (by decide) rfl (by simp) rfl rfl rfl (c_X13_isKept hR (by omega) (by omega)) ?_
            refine mm_ifneb dX13_breach_47 (fun h47 => ?_) (fun h47 => ?_)
            · refine mm_aload_n dX13_breach_53 rfl rfl ?_
              refine mm_iload_n dX13_breach_54 rfl rfl ?_
              refine mm_aload_n dX13_breach_55 rfl rfl ?_
              refine mm_getr dX13_breach_56 rfl fl_X13_328 (c := 183) rfl (by decide) rfl rfl (hR.at (c := 183) (i := 86) (v := 227) rfl (by decide)) ?_
              refine mm_V2v dX13_breach_59 rfl lk_X13_684 (c := 183) rfl (by decide) rfl (by simp) (by simp) rfl rfl rfl ((hN ▸ c_X13_findStates hR (.inl rfl) (by omega) (by omega) (hb x.toNat (by omega)) (ha x.toNat (by omega)))) ?_
              refine mm_iconst dX13_breach_62 rfl ?_
              refine mm_istore dX13_breach_63 rfl (Nat.le_of_ble_eq_true rfl) rfl ?_
              rw [if_pos (And.intro hxs (And.intro hhs (And.intro hes hns))), if_pos hpos, if_pos (And.intro (And.intro hxs (And.intro hhs (And.intro hes hns))) hpos), ← hN]
              exact outer n.toNat 0 (by omega) rfl _ _ _
            · refine mm_bipush dX13_breach_50 rfl (by decide) ?_
              refine mm_iret dX13_breach_52 rfl rfl ?_
              exfalso; omega
          · refine mm_bipush dX13_breach_39 rfl (by decide) ?_
            refine mm_iret dX13_breach_41 rfl rfl ?_
            exfalso; omega
  · rw [if_neg hs]
    refine mm_iload_n dX13_breach_0 rfl rfl ?_
    refine mm_S1i dX13_breach_1 rfl lk_X13_629 (by simp) rfl rfl rfl (c_X13_isSlot hx) ?_
    refine mm_ifeqb dX13_breach_4 (fun h4 => ?_) (fun h4 => ?_)
    · refine mm_bipush dX13_breach_39 rfl (by decide) ?_
      refine mm_iret dX13_breach_41 rfl rfl ?_
      exact mm_fin (by rw [if_neg (by omega)]) rfl
    · refine mm_iload_n dX13_breach_7 rfl rfl ?_
      refine mm_S1i dX13_breach_8 rfl lk_X13_486 (by simp) rfl rfl rfl (c_X13_isHour hh) ?_
      refine mm_ifeqb dX13_breach_11 (fun h11 => ?_) (fun h11 => ?_)
      · refine mm_bipush dX13_breach_39 rfl (by decide) ?_
        refine mm_iret dX13_breach_41 rfl rfl ?_
        exact mm_fin (by rw [if_neg (by omega)]) rfl
      · refine mm_iload_n dX13_breach_14 rfl rfl ?_
        refine mm_i2l dX13_breach_15 rfl (by omega) ?_
        refine mm_lconst1 dX13_breach_16 rfl ?_
        refine mm_ldc2 dX13_breach_17 rfl kc_X13_492 ?_
        refine mm_S3i dX13_breach_20 rfl lk_X13_5 (by simp) (by simp) (by simp) rfl rfl rfl (c_X13_in (by omega) (by omega) (by omega)) ?_
        refine mm_ifeqb dX13_breach_23 (fun h23 => ?_) (fun h23 => ?_)
        · refine mm_bipush dX13_breach_39 rfl (by decide) ?_
          refine mm_iret dX13_breach_41 rfl rfl ?_
          exact mm_fin (by rw [if_neg (by omega)]) rfl
        · refine mm_iload dX13_breach_26 rfl rfl ?_
          refine mm_i2l dX13_breach_28 rfl (by omega) ?_
          refine mm_lconst1 dX13_breach_29 rfl ?_
          refine mm_ldc2 dX13_breach_30 rfl kc_X13_707 ?_
          refine mm_S3i dX13_breach_33 rfl lk_X13_5 (by simp) (by simp) (by simp) rfl rfl rfl (c_X13_in (by omega) (by omega) (by omega)) ?_
          refine mm_ifneb dX13_breach_36 (fun h36 => ?_) (fun h36 => ?_)
          · refine mm_aload_n dX13_breach_42 rfl rfl ?_
            refine mm_iload_n dX13_breach_43 rfl rfl ?_
            refine mm_V1i dX13_breach_44 rfl lk_X13_673 (c := 183) rfl (by decide) rfl (by simp) rfl rfl rfl (c_X13_isKept hR (by omega) (by have := hl x.toNat (by omega); omega)) ?_
            refine mm_ifneb dX13_breach_47 (fun h47 => ?_) (fun h47 => ?_)
            · exfalso; omega
            · refine mm_bipush dX13_breach_50 rfl (by decide) ?_
              refine mm_iret dX13_breach_52 rfl rfl ?_
              exact mm_fin (by rw [if_pos (by omega), if_neg (by omega)]) rfl
          · refine mm_bipush dX13_breach_39 rfl (by decide) ?_
            refine mm_iret dX13_breach_41 rfl rfl ?_
            exact mm_fin (by rw [if_neg (by omega)]) rfl
end

