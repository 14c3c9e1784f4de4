/-! 60.rkeep -/
section
/-! ===== the reference keeps a loop ===== -/
def kf_off (M : mm_M) (c o : Nat) (f : Nat → Int) (n : Nat) : mm_M := fun a b => if a = c ∧ o ≤ b ∧ b < o + n then f (b - o) else M a b
theorem kf_off_0 {M : mm_M} {c o : Nat} {f : Nat → Int} : kf_off M c o f 0 = M := by
  funext a b; unfold kf_off; rw [if_neg (by omega)]
theorem kf_off_s {M : mm_M} {c o : Nat} {f : Nat → Int} {n : Nat} : mm_up (kf_off M c o f n) c (o + n) (f n) = kf_off M c o f (n + 1) := by
  funext a b
  unfold mm_up kf_off
  by_cases h : a = c ∧ b = o + n
  · rw [if_pos h, if_pos (by omega), h.2, Nat.add_sub_cancel_left]
  · rw [if_neg h]
    by_cases h2 : a = c ∧ o ≤ b ∧ b < o + n
    · rw [if_pos h2, if_pos (by omega)]
    · rw [if_neg h2, if_neg (by omega)]
theorem kf_off_n {M : mm_M} {c o a : Nat} {f : Nat → Int} {n : Nat} (h : a ≠ c) : kf_off M c o f n a = M a := by
  funext b; unfold kf_off; rw [if_neg (fun q => h q.1)]
theorem mm_Rf.fo {M : mm_M} (h : mm_Rf M) {c o len n : Nat} {f : Nat → Int} (hs : mm_sh c = (1, len)) : mm_Rf (kf_off M c o f n) := by
  intro a b hab
  unfold kf_off
  rw [if_neg (fun q => hab (by rw [q.1]; exact mm_rt_arr hs b))]
  exact h a b hab
/-- the memory once loop x is kept -/
def kf_keep (M : mm_M) (x : Nat) : mm_M := kf_off (mm_up (mm_up (mm_up M 216 x (M 183 59)) 217 x (M 183 60)) 218 x (M 183 56 - M 183 57)) 219 (100 * x) (M 215) (M 183 59).toNat
section
variable {X : mm_X} {M : mm_M} {x : Int}
theorem c_X13_keep (hR : mm_Rf M) (hx : mm_R x) (hz : M 183 62 = 0 ∨ M 183 62 = 1) (hl : 0 ≤ M 183 59 ∧ M 183 59 ≤ 100) (hw : mm_R (M 183 56 - M 183 57)) :
    mm_Fn X Y_X13_keep 243 [(2, 184), (0, x)] M (0, if 0 ≤ x ∧ x ≤ 5 then (if M 183 62 = 1 then M 183 59 else -4) else -2) (if (0 ≤ x ∧ x ≤ 5) ∧ M 183 62 = 1 then kf_keep M x.toNat else M) := by
  refine mm_startF (ls := [(2, 184), (0, x), (9, 0)]) rfl ?_
  obtain ⟨N, hN⟩ : ∃ N, N = mm_up (mm_up (mm_up M 216 x.toNat (M 183 59)) 217 x.toNat (M 183 60)) 218 x.toNat (M 183 56 - M 183 57) := ⟨_, rfl⟩
  by_cases hs : (0 ≤ x ∧ x ≤ 5) ∧ M 183 62 = 1
  · have hRN : mm_Rf N := by rw [hN]; exact ((hR.up rfl).up rfl).up rfl
    have el : N 183 59 = M 183 59 := by rw [hN]; rfl
    have ea : N 215 = M 215 := by rw [hN]; rfl
    have loop : ∀ (k i : Nat), i + k = (M 183 59).toNat → mm_J X Y_X13_keep 243 243 243 57 [(2, 184), (0, x), (0, (i : Int))] [] (kf_off N 219 (100 * x.toNat) (M 215) i) (fun r' M'' => r' = (0, M 183 59) ∧ M'' = kf_keep M x.toNat) := by
      intro k
      induction k with
      | zero =>
        intro i hi
        obtain ⟨N', hN'⟩ : ∃ N', N' = kf_off N 219 (100 * x.toNat) (M 215) i := ⟨_, rfl⟩
        have hRN' : mm_Rf N' := by rw [hN']; exact hRN.fo rfl
        have el' : N' 183 59 = M 183 59 := by rw [hN', kf_off_n (by omega)]; exact el
        have ei : i = (M 183 59).toNat := by omega
        rw [← hN']
        refine mm_iload_n dX13_keep_57 rfl rfl ?_
        refine mm_aload_n dX13_keep_58 rfl rfl ?_
        refine mm_get (kd := 0) dX13_keep_59 rfl fl_X13_618 (c := 183) rfl (by decide) rfl rfl ?_
        refine mm_icge dX13_keep_62 (by omega) (by omega) (fun h62 => ?_) (fun h62 => ?_)
        · refine mm_aload_n dX13_keep_88 rfl rfl ?_
          refine mm_get (kd := 0) dX13_keep_89 rfl fl_X13_618 (c := 183) rfl (by decide) rfl rfl ?_
          refine mm_iret dX13_keep_92 rfl rfl ?_
          exact mm_fin el' (by rw [hN', ei, hN]; rfl)
        · exfalso; omega
      | succ k ih =>
        intro i hi
        obtain ⟨N', hN'⟩ : ∃ N', N' = kf_off N 219 (100 * x.toNat) (M 215) i := ⟨_, rfl⟩
        have hRN' : mm_Rf N' := by rw [hN']; exact hRN.fo rfl
        have el' : N' 183 59 = M 183 59 := by rw [hN', kf_off_n (by omega)]; exact el
        have ea' : N' 215 = M 215 := by rw [hN', kf_off_n (by omega)]; exact ea
        rw [← hN']
        refine mm_iload_n dX13_keep_57 rfl rfl ?_
        refine mm_aload_n dX13_keep_58 rfl rfl ?_
        refine mm_get (kd := 0) dX13_keep_59 rfl fl_X13_618 (c := 183) rfl (by decide) rfl rfl ?_
        refine mm_icge dX13_keep_62 (by omega) (by omega) (fun h62 => ?_) (fun h62 => ?_)
        · exfalso; omega
        · refine mm_aload_n dX13_keep_65 rfl rfl ?_
          refine mm_getr dX13_keep_66 rfl fl_X13_304 (c := 183) rfl (by decide) rfl rfl (hRN'.at (c := 183) (i := 67) (v := 220) rfl (by decide)) ?_
          refine mm_bipush dX13_keep_69 rfl (by decide) ?_
          refine mm_iload_n dX13_keep_71 rfl rfl ?_
          refine mm_imul dX13_keep_72 rfl ?_
          refine mm_iload_n dX13_keep_73 rfl rfl ?_
          refine mm_iadd dX13_keep_74 rfl ?_
          refine mm_aload_n dX13_keep_75 rfl rfl ?_
          refine mm_getr dX13_keep_76 rfl fl_X13_292 (c := 183) rfl (by decide) rfl rfl (hRN'.at (c := 183) (i := 63) (v := 216) rfl (by decide)) ?_
          refine mm_iload_n dX13_keep_79 rfl rfl ?_
          refine mm_ialk (k0 := i) dX13_keep_80 rfl (c := 215) rfl (by decide) rfl (by omega) (by omega) ?_
          refine mm_istk (k0 := (100 * x.toNat + i)) dX13_keep_81 rfl (c := 219) rfl (by decide) rfl (by omega) (by omega) (fun M81 hM81 => ?_)
          have hR81 : mm_Rf M81 := by rw [hM81]; exact hRN'.up (mm_rt_ar (t := 0) rfl (by decide))
          refine mm_iinc dX13_keep_82 rfl rfl (Nat.le_of_ble_eq_true rfl) rfl ?_
          refine mm_goto dX13_keep_85 ?_
          have e81 : M81 = kf_off N 219 (100 * x.toNat) (M 215) (i + 1) := by rw [hM81, hN', ← kf_off_s, ← hN', ea']
          rw [e81]
          exact ih (i + 1) (by omega)
    refine mm_iload_n dX13_keep_0 rfl rfl ?_
    refine mm_S1i dX13_keep_1 rfl lk_X13_629 (by simp) rfl rfl rfl (c_X13_isSlot hx) ?_
    refine mm_ifneb dX13_keep_4 (fun h4 => ?_) (fun h4 => ?_)
    · refine mm_aload_n dX13_keep_10 rfl rfl ?_
      refine mm_get (kd := 0) dX13_keep_11 rfl fl_X13_412 (c := 183) rfl (by decide) rfl rfl ?_
      refine mm_ifne dX13_keep_14 (by omega) (fun h14 => ?_) (fun h14 => ?_)
      · refine mm_aload_n dX13_keep_20 rfl rfl ?_
        refine mm_getr dX13_keep_21 rfl fl_X13_295 (c := 183) rfl (by decide) rfl rfl (hR.at (c := 183) (i := 64) (v := 217) rfl (by decide)) ?_
        refine mm_iload_n dX13_keep_24 rfl rfl ?_
        refine mm_aload_n dX13_keep_25 rfl rfl ?_
        refine mm_get (kd := 0) dX13_keep_26 rfl fl_X13_618 (c := 183) rfl (by decide) rfl rfl ?_
        refine mm_istk (k0 := x.toNat) dX13_keep_29 rfl (c := 216) rfl (by decide) rfl (by omega) (by omega) (fun M29 hM29 => ?_)
        have hR29 : mm_Rf M29 := by rw [hM29]; exact hR.up (mm_rt_ar (t := 0) rfl (by decide))
        refine mm_aload_n dX13_keep_30 rfl rfl ?_
        refine mm_getr dX13_keep_31 rfl fl_X13_298 (c := 183) rfl (by decide) rfl rfl (hR29.at (c := 183) (i := 65) (v := 218) rfl (by decide)) ?_
        refine mm_iload_n dX13_keep_34 rfl rfl ?_
        refine mm_aload_n dX13_keep_35 rfl rfl ?_
        refine mm_get (kd := 0) dX13_keep_36 rfl fl_X13_612 (c := 183) rfl (by decide) rfl rfl ?_
        refine mm_istk (k0 := x.toNat) dX13_keep_39 rfl (c := 217) rfl (by decide) rfl (by omega) (by omega) (fun M39 hM39 => ?_)
        have hR39 : mm_Rf M39 := by rw [hM39]; exact hR29.up (mm_rt_ar (t := 0) rfl (by decide))
        refine mm_aload_n dX13_keep_40 rfl rfl ?_
        refine mm_getr dX13_keep_41 rfl fl_X13_301 (c := 183) rfl (by decide) rfl rfl (hR39.at (c := 183) (i := 66) (v := 219) rfl (by decide)) ?_
        refine mm_iload_n dX13_keep_44 rfl rfl ?_
        refine mm_aload_n dX13_keep_45 rfl rfl ?_
        refine mm_get (kd := 0) dX13_keep_46 rfl fl_X13_603 (c := 183) rfl (by decide) rfl rfl ?_
        refine mm_aload_n dX13_keep_49 rfl rfl ?_
        refine mm_get (kd := 0) dX13_keep_50 rfl fl_X13_606 (c := 183) rfl (by decide) rfl rfl ?_
        refine mm_isub dX13_keep_53 rfl ?_
        refine mm_istk (k0 := x.toNat) dX13_keep_54 rfl (c := 218) rfl (by decide) rfl (by omega) (by omega) (fun M54 hM54 => ?_)
        have hR54 : mm_Rf M54 := by rw [hM54]; exact hR39.up (mm_rt_ar (t := 0) rfl (by decide))
        refine mm_iconst dX13_keep_55 rfl ?_
        refine mm_istore_n dX13_keep_56 rfl (Nat.le_of_ble_eq_true rfl) rfl ?_
        have e54 : M54 = kf_off N 219 (100 * x.toNat) (M 215) 0 := by rw [kf_off_0, hN]; simp [hM54, hM39, hM29, mm_up]
        rw [if_pos hs.1, if_pos hs.2, if_pos hs, e54]
        exact loop (M 183 59).toNat 0 (by omega)
      · refine mm_bipush dX13_keep_17 rfl (by decide) ?_
        refine mm_iret dX13_keep_19 rfl rfl ?_
        exfalso; omega
    · exact absurd hs.1 h4
  · refine mm_iload_n dX13_keep_0 rfl rfl ?_
    refine mm_S1i dX13_keep_1 rfl lk_X13_629 (by simp) rfl rfl rfl (c_X13_isSlot hx) ?_
    refine mm_ifneb dX13_keep_4 (fun h4 => ?_) (fun h4 => ?_)
    · refine mm_aload_n dX13_keep_10 rfl rfl ?_
      refine mm_get (kd := 0) dX13_keep_11 rfl fl_X13_412 (c := 183) rfl (by decide) rfl rfl ?_
      refine mm_ifne dX13_keep_14 (by omega) (fun h14 => ?_) (fun h14 => ?_)
      · exfalso; omega
      · refine mm_bipush dX13_keep_17 rfl (by decide) ?_
        refine mm_iret dX13_keep_19 rfl rfl ?_
        exact mm_fin (by rw [if_pos (by omega), if_neg (by omega)]) (by rw [if_neg hs])
    · refine mm_bipush dX13_keep_7 rfl (by decide) ?_
      refine mm_iret dX13_keep_9 rfl rfl ?_
      exact mm_fin (by rw [if_neg (by omega)]) (by rw [if_neg hs])
end
end
/-! 61.rbreach -/
section
/-! ===== the reference's breach ===== -/
abbrev kl_one (M : mm_M) (hr ht : Int) (j : Nat) : Prop := (M 230 j ≤ hr ∧ hr ≤ M 231 j) ∧ M 232 j < ht
/-- the roofs over the hours are what the laws say -/
def kl_R (M : mm_M) (roof : Nat → Int) : Prop := ∀ (hr : Nat) (ht : Int), hr < 24 → 0 ≤ ht → ht ≤ 2400 → ((∃ j : Nat, (j : Int) < M 183 92 ∧ kl_one M hr ht j) ↔ roof hr < ht)
theorem kf_mem_lt {M : mm_M} {c : Nat} {f : Nat → Int} {n i : Nat} (h : i < n) : kf_mem M c f n c i = f i := by
  unfold kf_mem; rw [if_pos ⟨rfl, h⟩]
section
variable {X : mm_X} {M : mm_M} {x h e n : Int} {roof : Nat → Int}
/-- the states of kept loop x of the reference -/
abbrev kl_S (M : mm_M) (x : Nat) : Nat → Int := kf_run (mm_rk M) (M 217 x) (fun i => M 219 (100 * x + i))
theorem c_X13_breach (hR : mm_Rf M) (hK : mm_KV (mm_rk M)) (hx : mm_R x) (hh : mm_R h) (he : mm_R e) (hn : mm_R n) (hL : 0 ≤ M 183 92 ∧ M 183 92 ≤ 10) (hLr : kl_R M roof)
    (hLv : ∀ i : Nat, i < 10 → mm_R (M 230 i) ∧ mm_R (M 231 i) ∧ mm_R (M 232 i))
    (hl : ∀ k : Nat, k < 6 → 0 ≤ M 216 k ∧ M 216 k ≤ 100) (hb : ∀ k : Nat, k < 6 → mm_R (M 217 k))
    (ha : ∀ k : Nat, k < 6 → ∀ i : Nat, (i : Int) < M 216 k → 0 ≤ M 219 (100 * k + i) ∧ M 219 (100 * k + i) < 1000)
    (hst : ∀ k : Nat, k < 6 → ∀ i : Nat, (i : Int) < M 216 k → ks_st (mm_rk M) (kl_S M k i)) :
    mm_Fn X Y_X13_breach 243 [(2, 184), (0, x), (0, h), (0, e), (0, n)] M (0, if (0 ≤ x ∧ x ≤ 5) ∧ ks_hr h ∧ (1 ≤ e ∧ e ≤ 60) ∧ 1 ≤ n ∧ n ≤ 5000 then (if 0 < M 216 x.toNat then kf_from (kb_at (mm_rk M) (kl_S M x.toNat) (M 216 x.toNat).toNat roof h e) 0 n.toNat else -4) else -2)
      (if ((0 ≤ x ∧ x ≤ 5) ∧ ks_hr h ∧ (1 ≤ e ∧ e ≤ 60) ∧ 1 ≤ n ∧ n ≤ 5000) ∧ 0 < M 216 x.toNat then kf_mem M 226 (kl_S M x.toNat) (M 216 x.toNat).toNat else M) := by
  refine mm_startF (ls := [(2, 184), (0, x), (0, h), (0, e), (0, n), (9, 0), (9, 0), (9, 0), (9, 0)]) rfl ?_
  by_cases hs : ((0 ≤ x ∧ x ≤ 5) ∧ ks_hr h ∧ (1 ≤ e ∧ e ≤ 60) ∧ 1 ≤ n ∧ n ≤ 5000) ∧ 0 < M 216 x.toNat
  · obtain ⟨⟨hxs, hhs, hes, hns⟩, hpos⟩ := hs
    have hlx := hl x.toNat (by omega)
    have hstx := hst x.toNat (by omega)
    obtain ⟨N, hN⟩ : ∃ N, N = kf_mem M 226 (kl_S M x.toNat) (M 216 x.toNat).toNat := ⟨_, rfl⟩
    have hRN : mm_Rf N := by rw [hN]; exact hR.fm (len := 100) rfl
    have e216 : N 216 = M 216 := by rw [hN]; exact kf_mem_n (by omega)
    have eo : N 183 = M 183 := by rw [hN]; exact kf_mem_n (by omega)
    have eF : N 230 = M 230 := by rw [hN]; exact kf_mem_n (by omega)
    have eT : N 231 = M 231 := by rw [hN]; exact kf_mem_n (by omega)
    have eH : N 232 = M 232 := by rw [hN]; exact kf_mem_n (by omega)
    have fk : mm_rk N = mm_rk M := by
      refine mm_rk_congr ?_ ?_ ?_ ?_ <;> rw [hN, kf_mem_n (by omega)]
    have eS : ∀ i : Nat, i < (M 216 x.toNat).toNat → N 226 i = kl_S M x.toNat i := by
      intro i hi; rw [hN]; exact kf_mem_lt hi
    have outer : ∀ (k t : Nat), t + k = n.toNat → kf_from (kb_at (mm_rk M) (kl_S M x.toNat) (M 216 x.toNat).toNat roof h e) t k = kf_from (kb_at (mm_rk M) (kl_S M x.toNat) (M 216 x.toNat).toNat roof h e) 0 n.toNat →
        ∀ l6 l7 l8 : Nat × Int, mm_J X Y_X13_breach 243 243 243 65 [(2, 184), (0, x), (0, h), (0, e), (0, n), (0, (t : Int)), l6, l7, l8] [] N (fun r' M'' => r' = (0, kf_from (kb_at (mm_rk M) (kl_S M x.toNat) (M 216 x.toNat).toNat roof h e) 0 n.toNat) ∧ M'' = N) := by
      intro k
      induction k with
      | zero =>
        intro t ht heq l6 l7 l8
        refine mm_iload dX13_breach_65 rfl rfl ?_
        refine mm_iload dX13_breach_67 rfl rfl ?_
        refine mm_icge dX13_breach_69 (by omega) (by omega) (fun h69 => ?_) (fun h69 => ?_)
        · refine mm_iconst dX13_breach_167 rfl ?_
          refine mm_iret dX13_breach_168 rfl rfl ?_
          exact mm_fin heq rfl
        · exfalso; omega
      | succ k ih =>
        intro t ht heq l6 l7 l8
        have hm := Nat.mod_lt t (show 0 < (M 216 x.toNat).toNat by omega)
        have hsx := hstx (t % (M 216 x.toNat).toNat) (by omega)
        have hhb := ks_hb hK hsx
        have hdv := mm_divb (a := (t : Int)) (b := e) (A := 5000) (by omega) (by omega) (by omega)
        have hmod : 0 ≤ (h + (t : Int) / e) % 24 ∧ (h + (t : Int) / e) % 24 < 24 := by omega
        have hiff := hLr ((h + (t : Int) / e) % 24).toNat (ks_h (mm_rk M) (kl_S M x.toNat (t % (M 216 x.toNat).toNat))) (by omega) hhb.1 hhb.2.1
        rw [Int.toNat_of_nonneg hmod.1] at hiff
        obtain ⟨H, hH⟩ : ∃ H, H = (h + (t : Int) / e) % 24 := ⟨_, rfl⟩
        obtain ⟨Z, hZ⟩ : ∃ Z, Z = ks_h (mm_rk M) (kl_S M x.toNat (t % (M 216 x.toNat).toNat)) := ⟨_, rfl⟩
        rw [← hH, ← hZ] at hiff
        have inner : ∀ (k' j : Nat), j + k' = (M 183 92).toNat → (∀ i : Nat, i < j → ¬ kl_one M H Z i) → mm_J X Y_X13_breach 243 243 243 106 [(2, 184), (0, x), (0, h), (0, e), (0, n), (0, (t : Int)), (0, H), (0, Z), (0, (j : Int))] [] N (fun r' M'' => r' = (0, kf_from (kb_at (mm_rk M) (kl_S M x.toNat) (M 216 x.toNat).toNat roof h e) 0 n.toNat) ∧ M'' = N) := by
          intro k'
          induction k' with
          | zero =>
            intro j hj hno
            refine mm_iload dX13_breach_106 rfl rfl ?_
            refine mm_aload_n dX13_breach_108 rfl rfl ?_
            refine mm_get (kd := 0) dX13_breach_109 rfl fl_X13_704 (c := 183) rfl (by decide) rfl rfl ?_
            rw [eo]
            refine mm_icge dX13_breach_112 (by omega) (by omega) (fun h112 => ?_) (fun h112 => ?_)
            · refine mm_iinc dX13_breach_161 rfl rfl (Nat.le_of_ble_eq_true rfl) rfl ?_
              refine mm_goto dX13_breach_164 ?_
              refine ih (t + 1) (by omega) ?_ _ _ _
              rw [← heq, kf_from, if_neg]
              show ¬ roof ((h + (t : Int) / e) % 24).toNat < ks_h (mm_rk M) (kl_S M x.toNat (t % (M 216 x.toNat).toNat))
              rw [← hH, ← hZ, ← hiff]
              rintro ⟨i, hi, hone⟩
              exact hno i (by omega) hone
            · exfalso; omega
          | succ k' ih' =>
            intro j hj hno
            have hv := hLv j (by omega)
            have hv1 := hv.1
            have hv2 := hv.2.1
            have hv3 := hv.2.2
            have nxt : ¬ kl_one M H Z j → ∀ i : Nat, i < j + 1 → ¬ kl_one M H Z i := by
              intro hz i hi
              by_cases hij : i = j
              · rw [hij]; exact hz
              · exact hno i (by omega)
            refine mm_iload dX13_breach_106 rfl rfl ?_
            refine mm_aload_n dX13_breach_108 rfl rfl ?_
            refine mm_get (kd := 0) dX13_breach_109 rfl fl_X13_704 (c := 183) rfl (by decide) rfl rfl ?_
            rw [eo]
            refine mm_icge dX13_breach_112 (by omega) (by omega) (fun h112 => ?_) (fun h112 => ?_)
            · exfalso; omega
            · refine mm_iload dX13_breach_115 rfl rfl ?_
              refine mm_i2l dX13_breach_117 rfl (by omega) ?_
              refine mm_aload_n dX13_breach_118 rfl rfl ?_
              refine mm_getr dX13_breach_119 rfl fl_X13_340 (c := 183) rfl (by decide) rfl rfl (hRN.at (c := 183) (i := 93) (v := 231) rfl (by decide)) ?_
              refine mm_iload dX13_breach_122 rfl rfl ?_
              refine mm_ialk (k0 := j) dX13_breach_124 rfl (c := 230) rfl (by decide) rfl (by omega) (by omega) ?_
              rw [eF]
              refine mm_i2l dX13_breach_125 rfl (by omega) ?_
              refine mm_aload_n dX13_breach_126 rfl rfl ?_
              refine mm_getr dX13_breach_127 rfl fl_X13_343 (c := 183) rfl (by decide) rfl rfl (hRN.at (c := 183) (i := 94) (v := 232) rfl (by decide)) ?_
              refine mm_iload dX13_breach_130 rfl rfl ?_
              refine mm_ialk (k0 := j) dX13_breach_132 rfl (c := 231) rfl (by decide) rfl (by omega) (by omega) ?_
              rw [eT]
              refine mm_i2l dX13_breach_133 rfl (by omega) ?_
              refine mm_S3i dX13_breach_134 rfl lk_X13_5 (by simp) (by simp) (by simp) rfl rfl rfl (c_X13_in (by omega) (by omega) (by omega)) ?_
              refine mm_ifeqb dX13_breach_137 (fun h137 => ?_) (fun h137 => ?_)
              · refine mm_iinc dX13_breach_155 rfl rfl (Nat.le_of_ble_eq_true rfl) rfl ?_
                refine mm_goto dX13_breach_158 ?_
                exact ih' (j + 1) (by omega) (nxt (by unfold kl_one; omega))
              · refine mm_iload dX13_breach_140 rfl rfl ?_
                refine mm_aload_n dX13_breach_142 rfl rfl ?_
                refine mm_getr dX13_breach_143 rfl fl_X13_346 (c := 183) rfl (by decide) rfl rfl (hRN.at (c := 183) (i := 95) (v := 233) rfl (by decide)) ?_
                refine mm_iload dX13_breach_146 rfl rfl ?_
                refine mm_ialk (k0 := j) dX13_breach_148 rfl (c := 232) rfl (by decide) rfl (by omega) (by omega) ?_
                rw [eH]
                refine mm_icle dX13_breach_149 (by omega) (by omega) (fun h149 => ?_) (fun h149 => ?_)
                · refine mm_iinc dX13_breach_155 rfl rfl (Nat.le_of_ble_eq_true rfl) rfl ?_
                  refine mm_goto dX13_breach_158 ?_
                  exact ih' (j + 1) (by omega) (nxt (by unfold kl_one; omega))
                · refine mm_iload dX13_breach_152 rfl rfl ?_
                  refine mm_iret dX13_breach_154 rfl rfl ?_
                  refine mm_fin ?_ rfl
                  rw [← heq, kf_from, if_pos]
                  show roof ((h + (t : Int) / e) % 24).toNat < ks_h (mm_rk M) (kl_S M x.toNat (t % (M 216 x.toNat).toNat))
                  rw [← hH, ← hZ, ← hiff]
                  exact ⟨j, by omega, by unfold kl_one; omega⟩
        refine mm_iload dX13_breach_65 rfl rfl ?_
        refine mm_iload dX13_breach_67 rfl rfl ?_
        refine mm_icge dX13_breach_69 (by omega) (by omega) (fun h69 => ?_) (fun h69 => ?_)
        · exfalso; omega
        · refine mm_iload_n dX13_breach_72 rfl rfl ?_
          refine mm_iload dX13_breach_73 rfl rfl ?_
          refine mm_iload_n dX13_breach_75 rfl rfl ?_
          refine mm_idiv dX13_breach_76 rfl (by omega) (by omega) (by omega) ?_
          rw [mm_tdiv (by omega)]
          refine mm_iadd dX13_breach_77 rfl ?_
          refine mm_bipush dX13_breach_78 rfl (by decide) ?_
          refine mm_irem dX13_breach_80 rfl (by omega) (by omega) (by omega) ?_
          rw [mm_tmod (by omega), ← hH]
          refine mm_istore dX13_breach_81 rfl (Nat.le_of_ble_eq_true rfl) rfl ?_
          refine mm_aload_n dX13_breach_83 rfl rfl ?_
          refine mm_aload_n dX13_breach_84 rfl rfl ?_
          refine mm_getr dX13_breach_85 rfl fl_X13_328 (c := 183) rfl (by decide) rfl rfl (hRN.at (c := 183) (i := 86) (v := 227) rfl (by decide)) ?_
          refine mm_iload dX13_breach_88 rfl rfl ?_
          refine mm_aload_n dX13_breach_90 rfl rfl ?_
          refine mm_getr dX13_breach_91 rfl fl_X13_295 (c := 183) rfl (by decide) rfl rfl (hRN.at (c := 183) (i := 64) (v := 217) rfl (by decide)) ?_
          refine mm_iload_n dX13_breach_94 rfl rfl ?_
          refine mm_ialk (k0 := x.toNat) dX13_breach_95 rfl (c := 216) rfl (by decide) rfl (by omega) (by omega) ?_
          rw [e216]
          refine mm_irem dX13_breach_96 rfl (by omega) (by omega) (by omega) ?_
          rw [mm_tmod (by omega), show (t : Int) % M 216 x.toNat = ((t % (M 216 x.toNat).toNat : Nat) : Int) by rw [Int.natCast_emod, Int.toNat_of_nonneg (by omega)]]
          refine mm_ialk (k0 := (t % (M 216 x.toNat).toNat)) dX13_breach_97 rfl (c := 226) rfl (by decide) rfl (by omega) (by omega) ?_
          rw [eS _ hm]
          refine mm_V1i dX13_breach_98 rfl lk_X13_435 (c := 183) rfl (by decide) rfl (by simp) rfl rfl rfl (c_X13_heightOf hRN (fk ▸ hK) (fk ▸ hsx)) ?_
          refine mm_istore dX13_breach_101 rfl (Nat.le_of_ble_eq_true rfl) rfl ?_
          refine mm_iconst dX13_breach_103 rfl ?_
          refine mm_istore dX13_breach_104 rfl (Nat.le_of_ble_eq_true rfl) rfl ?_
          have := inner (M 183 92).toNat 0 (by omega) (fun i hi => absurd hi (Nat.not_lt_zero i))
          rw [fk, ← hZ]
          exact this
    refine mm_iload_n dX13_breach_0 rfl rfl ?_
    refine mm_S1i dX13_breach_1 rfl lk_X13_629 (by simp) rfl rfl rfl (c_X13_isSlot hx) ?_
    refine mm_ifeqb dX13_breach_4 (fun h4 => ?_) (fun h4 => ?_)
    · refine mm_bipush dX13_breach_39 rfl (by decide) ?_
      refine mm_iret dX13_breach_41 rfl rfl ?_
      exfalso; omega
    · refine mm_iload_n dX13_breach_7 rfl rfl ?_
      refine mm_S1i dX13_breach_8 rfl lk_X13_486 (by simp) rfl rfl rfl (c_X13_isHour hh) ?_
      refine mm_ifeqb dX13_breach_11 (fun h11 => ?_) (fun h11 => ?_)
      · refine mm_bipush dX13_breach_39 rfl (by decide) ?_
        refine mm_iret dX13_breach_41 rfl rfl ?_
        exfalso; omega
      · refine mm_iload_n dX13_breach_14 rfl rfl ?_
        refine mm_i2l dX13_breach_15 rfl (by omega) ?_
        refine mm_lconst1 dX13_breach_16 rfl ?_
        refine mm_ldc2 dX13_breach_17 rfl kc_X13_492 ?_
        refine mm_S3i dX13_breach_20 rfl lk_X13_5 (by simp) (by simp) (by simp) rfl rfl rfl (c_X13_in (by omega) (by omega) (by omega)) ?_
        refine mm_ifeqb dX13_breach_23 (fun h23 => ?_) (fun h23 => ?_)
        · refine mm_bipush dX13_breach_39 rfl (by decide) ?_
          refine mm_iret dX13_breach_41 rfl rfl ?_
          exfalso; omega
        · refine mm_iload dX13_breach_26 rfl rfl ?_
          refine mm_i2l dX13_breach_28 rfl (by omega) ?_
          refine mm_lconst1 dX13_breach_29 rfl ?_
          refine mm_ldc2 dX13_breach_30 rfl kc_X13_707 ?_
          refine mm_S3i dX13_breach_33 rfl lk_X13_5 (by simp) (by simp) (by simp) rfl rfl rfl (c_X13_in (by omega) (by omega) (by omega)) ?_
          refine mm_ifneb dX13_breach_36 (fun h36 => ?_) (fun h36 => ?_)
          · refine mm_aload_n dX13_breach_42 rfl rfl ?_
            refine mm_iload_n dX13_breach_43 rfl rfl ?_
            refine mm_V1i dX13_breach_44 rfl lk_X13_673 (c := 183) rfl (by decide) rfl (by simp) rfl rfl rfl (c_X13_isKept hR (by omega) (by omega)) ?_
            refine mm_ifneb dX13_breach_47 (fun h47 => ?_) (fun h47 => ?_)
            · refine mm_aload_n dX13_breach_53 rfl rfl ?_
              refine mm_iload_n dX13_breach_54 rfl rfl ?_
              refine mm_aload_n dX13_breach_55 rfl rfl ?_
              refine mm_getr dX13_breach_56 rfl fl_X13_328 (c := 183) rfl (by decide) rfl rfl (hR.at (c := 183) (i := 86) (v := 227) rfl (by decide)) ?_
              refine mm_V2v dX13_breach_59 rfl lk_X13_684 (c := 183) rfl (by decide) rfl (by simp) (by simp) rfl rfl rfl ((hN ▸ c_X13_findStates hR (.inl rfl) (by omega) (by omega) (hb x.toNat (by omega)) (ha x.toNat (by omega)))) ?_
              refine mm_iconst dX13_breach_62 rfl ?_
              refine mm_istore dX13_breach_63 rfl (Nat.le_of_ble_eq_true rfl) rfl ?_
              rw [if_pos (And.intro hxs (And.intro hhs (And.intro hes hns))), if_pos hpos, if_pos (And.intro (And.intro hxs (And.intro hhs (And.intro hes hns))) hpos), ← hN]
              exact outer n.toNat 0 (by omega) rfl _ _ _
            · refine mm_bipush dX13_breach_50 rfl (by decide) ?_
              refine mm_iret dX13_breach_52 rfl rfl ?_
              exfalso; omega
          · refine mm_bipush dX13_breach_39 rfl (by decide) ?_
            refine mm_iret dX13_breach_41 rfl rfl ?_
            exfalso; omega
  · rw [if_neg hs]
    refine mm_iload_n dX13_breach_0 rfl rfl ?_
    refine mm_S1i dX13_breach_1 rfl lk_X13_629 (by simp) rfl rfl rfl (c_X13_isSlot hx) ?_
    refine mm_ifeqb dX13_breach_4 (fun h4 => ?_) (fun h4 => ?_)
    · refine mm_bipush dX13_breach_39 rfl (by decide) ?_
      refine mm_iret dX13_breach_41 rfl rfl ?_
      exact mm_fin (by rw [if_neg (by omega)]) rfl
    · refine mm_iload_n dX13_breach_7 rfl rfl ?_
      refine mm_S1i dX13_breach_8 rfl lk_X13_486 (by simp) rfl rfl rfl (c_X13_isHour hh) ?_
      refine mm_ifeqb dX13_breach_11 (fun h11 => ?_) (fun h11 => ?_)
      · refine mm_bipush dX13_breach_39 rfl (by decide) ?_
        refine mm_iret dX13_breach_41 rfl rfl ?_
        exact mm_fin (by rw [if_neg (by omega)]) rfl
      · refine mm_iload_n dX13_breach_14 rfl rfl ?_
        refine mm_i2l dX13_breach_15 rfl (by omega) ?_
        refine mm_lconst1 dX13_breach_16 rfl ?_
        refine mm_ldc2 dX13_breach_17 rfl kc_X13_492 ?_
        refine mm_S3i dX13_breach_20 rfl lk_X13_5 (by simp) (by simp) (by simp) rfl rfl rfl (c_X13_in (by omega) (by omega) (by omega)) ?_
        refine mm_ifeqb dX13_breach_23 (fun h23 => ?_) (fun h23 => ?_)
        · refine mm_bipush dX13_breach_39 rfl (by decide) ?_
          refine mm_iret dX13_breach_41 rfl rfl ?_
          exact mm_fin (by rw [if_neg (by omega)]) rfl
        · refine mm_iload dX13_breach_26 rfl rfl ?_
          refine mm_i2l dX13_breach_28 rfl (by omega) ?_
          refine mm_lconst1 dX13_breach_29 rfl ?_
          refine mm_ldc2 dX13_breach_30 rfl kc_X13_707 ?_
          refine mm_S3i dX13_breach_33 rfl lk_X13_5 (by simp) (by simp) (by simp) rfl rfl rfl (c_X13_in (by omega) (by omega) (by omega)) ?_
          refine mm_ifneb dX13_breach_36 (fun h36 => ?_) (fun h36 => ?_)
          · refine mm_aload_n dX13_breach_42 rfl rfl ?_
            refine mm_iload_n dX13_breach_43 rfl rfl ?_
            refine mm_V1i dX13_breach_44 rfl lk_X13_673 (c := 183) rfl (by decide) rfl (by simp) rfl rfl rfl (c_X13_isKept hR (by omega) (by have := hl x.toNat (by omega); omega)) ?_
            refine mm_ifneb dX13_breach_47 (fun h47 => ?_) (fun h47 => ?_)
            · exfalso; omega
            · refine mm_bipush dX13_breach_50 rfl (by decide) ?_
              refine mm_iret dX13_breach_52 rfl rfl ?_
              exact mm_fin (by rw [if_pos (by omega), if_neg (by omega)]) rfl
          · refine mm_bipush dX13_breach_39 rfl (by decide) ?_
            refine mm_iret dX13_breach_41 rfl rfl ?_
            exact mm_fin (by rw [if_neg (by omega)]) rfl
end
end
/-! 62.right -/
section
/-! ===== put right ===== -/
def kc_n (f : Nat → Int) (v : Int) : Nat → Int
  | 0 => 0
  | n + 1 => kc_n f v n + (if f n = v then 1 else 0)
theorem kc_nb {f : Nat → Int} {v : Int} : ∀ n : Nat, 0 ≤ kc_n f v n ∧ kc_n f v n ≤ n
  | 0 => by simp [kc_n]
  | n + 1 => by
    have := kc_nb (f := f) (v := v) n
    unfold kc_n
    split <;> omega
def mr_put (M : mm_M) (t k lo hi : Int) : mm_M :=
  mm_up (mm_up (mm_up (mm_up (mm_up (mm_up M 181 (M 174 3).toNat t) 182 (M 174 3).toNat k) 179 (30 + (M 174 3).toNat) lo) 180 (30 + (M 174 3).toNat) hi) 174 4 t) 174 3 (M 174 3 + 1)
def mr_putR (M : mm_M) (t k lo hi : Int) : mm_M :=
  mm_up (mm_up (mm_up (mm_up (mm_up (mm_up M 183 99 t) 239 (M 183 98).toNat k) 240 (M 183 98).toNat lo) 241 (M 183 98).toNat hi) 242 (M 183 98).toNat t) 183 98 (M 183 98 + 1)
section
variable {X : mm_X} {M N : mm_M} {t k lo hi : Int}
theorem l_X7_putRight (hRN : mm_Rf N) (hk : mm_R k) (hc : 0 ≤ N 174 3 ∧ N 174 3 ≤ 20) (hv : ∀ i : Nat, (i : Int) < N 174 3 → mm_R (N 182 i)) :
    ∀ (m i : Nat), i + m = (N 174 3).toNat → mm_J X Y_X7_putRight 243 243 243 68 [(2, 175), (0, t), (0, k), (0, lo), (0, hi), (0, kc_n (N 182) k i), (0, (i : Int))] [] N (fun r' M'' => r' = (0, kc_n (N 182) k (N 174 3).toNat) ∧ M'' = N) := by
  intro m
  induction m with
  | zero =>
    intro i hi
    have ei : i = (N 174 3).toNat := by omega
    refine mm_iload dX7_putRight_68 rfl rfl ?_
    refine mm_aload_n dX7_putRight_70 rfl rfl ?_
    refine mm_get (kd := 0) dX7_putRight_71 rfl fl_X7_48 (c := 174) rfl (by decide) rfl rfl ?_
    refine mm_icge dX7_putRight_74 (by omega) (by omega) (fun h74 => ?_) (fun h74 => ?_)
    · refine mm_iload dX7_putRight_104 rfl rfl ?_
      refine mm_iret dX7_putRight_106 rfl rfl ?_
      exact mm_fin (by rw [ei]) rfl
    · exfalso; omega
  | succ m ih =>
    intro i hi
    have hvi := hv i (by omega)
    have hb := kc_nb (f := N 182) (v := k) i
    refine mm_iload dX7_putRight_68 rfl rfl ?_
    refine mm_aload_n dX7_putRight_70 rfl rfl ?_
    refine mm_get (kd := 0) dX7_putRight_71 rfl fl_X7_48 (c := 174) rfl (by decide) rfl rfl ?_
    refine mm_icge dX7_putRight_74 (by omega) (by omega) (fun h74 => ?_) (fun h74 => ?_)
    · exfalso; omega
    · refine mm_iload dX7_putRight_77 rfl rfl ?_
      refine mm_aload_n dX7_putRight_79 rfl rfl ?_
      refine mm_getr dX7_putRight_80 rfl fl_X7_33 (c := 174) rfl (by decide) rfl rfl (hRN.at (c := 174) (i := 12) (v := 183) rfl (by decide)) ?_
      refine mm_iload dX7_putRight_83 rfl rfl ?_
      refine mm_ialk (k0 := i) dX7_putRight_85 rfl (c := 182) rfl (by decide) rfl (by omega) (by omega) ?_
      refine mm_iload_n dX7_putRight_86 rfl rfl ?_
      refine mm_icne dX7_putRight_87 (by omega) (by omega) (fun h87 => ?_) (fun h87 => ?_)
      · refine mm_iconst dX7_putRight_94 rfl ?_
        refine mm_iadd dX7_putRight_95 rfl ?_
        refine mm_istore dX7_putRight_96 rfl (Nat.le_of_ble_eq_true rfl) rfl ?_
        refine mm_iinc dX7_putRight_98 rfl rfl (Nat.le_of_ble_eq_true rfl) rfl ?_
        refine mm_goto dX7_putRight_101 ?_
        have := ih (i + 1) (by omega)
        rw [kc_n] at this
        first
        | (rw [if_pos (by omega)] at this; exact this)
        | (rw [if_neg (by omega)] at this; exact this)
      · refine mm_iconst dX7_putRight_90 rfl ?_
        refine mm_goto dX7_putRight_91 ?_
        refine mm_iadd dX7_putRight_95 rfl ?_
        refine mm_istore dX7_putRight_96 rfl (Nat.le_of_ble_eq_true rfl) rfl ?_
        refine mm_iinc dX7_putRight_98 rfl rfl (Nat.le_of_ble_eq_true rfl) rfl ?_
        refine mm_goto dX7_putRight_101 ?_
        have := ih (i + 1) (by omega)
        rw [kc_n] at this
        first
        | (rw [if_pos (by omega)] at this; exact this)
        | (rw [if_neg (by omega)] at this; exact this)
theorem c_X7_putRight (hR : mm_Rf M) (hk : mm_R k) (hc : 0 ≤ M 174 3 ∧ M 174 3 < 20) (hv : ∀ i : Nat, (i : Int) < M 174 3 → mm_R (M 182 i)) :
    mm_Fn X Y_X7_putRight 243 [(2, 175), (0, t), (0, k), (0, lo), (0, hi)] M (0, kc_n (mr_put M t k lo hi 182) k ((M 174 3).toNat + 1)) (mr_put M t k lo hi) := by
  refine mm_startF (ls := [(2, 175), (0, t), (0, k), (0, lo), (0, hi), (9, 0), (9, 0)]) rfl ?_
  refine mm_aload_n dX7_putRight_0 rfl rfl ?_
  refine mm_getr dX7_putRight_1 rfl fl_X7_30 (c := 174) rfl (by decide) rfl rfl (hR.at (c := 174) (i := 11) (v := 182) rfl (by decide)) ?_
  refine mm_aload_n dX7_putRight_4 rfl rfl ?_
  refine mm_get (kd := 0) dX7_putRight_5 rfl fl_X7_48 (c := 174) rfl (by decide) rfl rfl ?_
  refine mm_iload_n dX7_putRight_8 rfl rfl ?_
  refine mm_isto dX7_putRight_9 rfl (c := 181) rfl (by decide) rfl (by omega) (by omega) (fun M9 hM9 => ?_)
  have hR9 : mm_Rf M9 := by rw [hM9]; exact hR.up (mm_rt_ar (t := 0) rfl (by decide))
  refine mm_aload_n dX7_putRight_10 rfl rfl ?_
  refine mm_getr dX7_putRight_11 rfl fl_X7_33 (c := 174) rfl (by decide) rfl rfl (hR9.at (c := 174) (i := 12) (v := 183) rfl (by decide)) ?_
  refine mm_aload_n dX7_putRight_14 rfl rfl ?_
  refine mm_get (kd := 0) dX7_putRight_15 rfl fl_X7_48 (c := 174) rfl (by decide) rfl rfl ?_
  have e1 : M9 174 3 = M 174 3 := by simp [hM9, mm_up]
  rw [e1]
  refine mm_iload_n dX7_putRight_18 rfl rfl ?_
  refine mm_isto dX7_putRight_19 rfl (c := 182) rfl (by decide) rfl (by omega) (by omega) (fun M19 hM19 => ?_)
  have hR19 : mm_Rf M19 := by rw [hM19]; exact hR9.up (mm_rt_ar (t := 0) rfl (by decide))
  refine mm_aload_n dX7_putRight_20 rfl rfl ?_
  refine mm_getr dX7_putRight_21 rfl fl_X7_24 (c := 174) rfl (by decide) rfl rfl (hR19.at (c := 174) (i := 9) (v := 180) rfl (by decide)) ?_
  refine mm_bipush dX7_putRight_24 rfl (by decide) ?_
  refine mm_aload_n dX7_putRight_26 rfl rfl ?_
  refine mm_get (kd := 0) dX7_putRight_27 rfl fl_X7_48 (c := 174) rfl (by decide) rfl rfl ?_
  have e2 : M19 174 3 = M 174 3 := by simp [hM19, e1, mm_up]
  rw [e2]
  refine mm_iadd dX7_putRight_30 rfl ?_
  refine mm_iload_n dX7_putRight_31 rfl rfl ?_
  refine mm_istk (k0 := (30 + (M 174 3).toNat)) dX7_putRight_32 rfl (c := 179) rfl (by decide) rfl (by omega) (by omega) (fun M32 hM32 => ?_)
  have hR32 : mm_Rf M32 := by rw [hM32]; exact hR19.up (mm_rt_ar (t := 0) rfl (by decide))
  refine mm_aload_n dX7_putRight_33 rfl rfl ?_
  refine mm_getr dX7_putRight_34 rfl fl_X7_27 (c := 174) rfl (by decide) rfl rfl (hR32.at (c := 174) (i := 10) (v := 181) rfl (by decide)) ?_
  refine mm_bipush dX7_putRight_37 rfl (by decide) ?_
  refine mm_aload_n dX7_putRight_39 rfl rfl ?_
  refine mm_get (kd := 0) dX7_putRight_40 rfl fl_X7_48 (c := 174) rfl (by decide) rfl rfl ?_
  have e3 : M32 174 3 = M 174 3 := by simp [hM32, e2, mm_up]
  rw [e3]
  refine mm_iadd dX7_putRight_43 rfl ?_
  refine mm_iload dX7_putRight_44 rfl rfl ?_
  refine mm_istk (k0 := (30 + (M 174 3).toNat)) dX7_putRight_46 rfl (c := 180) rfl (by decide) rfl (by omega) (by omega) (fun M46 hM46 => ?_)
  have hR46 : mm_Rf M46 := by rw [hM46]; exact hR32.up (mm_rt_ar (t := 0) rfl (by decide))
  refine mm_aload_n dX7_putRight_47 rfl rfl ?_
  refine mm_iload_n dX7_putRight_48 rfl rfl ?_
  refine mm_puti dX7_putRight_49 rfl fl_X7_51 (c := 174) rfl (by decide) rfl rfl (fun M49 hM49 => ?_)
  have hR49 : mm_Rf M49 := by rw [hM49]; exact hR46.up rfl
  refine mm_aload_n dX7_putRight_52 rfl rfl ?_
  refine mm_dup dX7_putRight_53 rfl (by simp) ?_
  refine mm_get (kd := 0) dX7_putRight_54 rfl fl_X7_48 (c := 174) rfl (by decide) rfl rfl ?_
  have e4 : M49 174 3 = M 174 3 := by simp [hM49, hM46, e3, mm_up]
  rw [e4]
  refine mm_iconst dX7_putRight_57 rfl ?_
  refine mm_iadd dX7_putRight_58 rfl ?_
  refine mm_puti dX7_putRight_59 rfl fl_X7_48 (c := 174) rfl (by decide) rfl rfl (fun M59 hM59 => ?_)
  have hR59 : mm_Rf M59 := by rw [hM59]; exact hR49.up rfl
  refine mm_iconst dX7_putRight_62 rfl ?_
  refine mm_istore dX7_putRight_63 rfl (Nat.le_of_ble_eq_true rfl) rfl ?_
  refine mm_iconst dX7_putRight_65 rfl ?_
  refine mm_istore dX7_putRight_66 rfl (Nat.le_of_ble_eq_true rfl) rfl ?_
  have eN : M59 = mr_put M t k lo hi := by rw [hM59, hM49, hM46, hM32, hM19, hM9]; rfl
  have er : M59 174 3 = M 174 3 + 1 := by rw [hM59, mm_up_s]
  have ek : ∀ i : Nat, (i : Int) < M59 174 3 → mm_R (M59 182 i) := by
    intro i hi
    rw [er] at hi
    have e5 : M59 182 i = if i = (M 174 3).toNat then k else M 182 i := by
      simp [hM59, hM49, hM46, hM32, hM19, hM9, mm_up]
    rw [e5]
    split
    · exact hk
    · exact hv i (by omega)
  have := l_X7_putRight (X := X) (t := t) (lo := lo) (hi := hi) hR59 hk (by omega) ek (M59 174 3).toNat 0 (by omega)
  rw [er, show (M 174 3 + 1).toNat = (M 174 3).toNat + 1 by omega] at this
  rw [← eN]
  exact this
theorem c_X11_right (hR : mm_Rf M) (ht : mm_R t) (hk : mm_R k) (hlo : mm_R lo) (hhi : mm_R hi) (hl : 0 ≤ M 174 4 ∧ M 174 4 ≤ 999) (hn : 0 ≤ M 174 2 ∧ M 174 2 ≤ 30) (hc : 0 ≤ M 174 3 ∧ M 174 3 ≤ 20) (hv : ∀ i : Nat, (i : Int) < M 174 3 → mm_R (M 182 i)) :
    mm_Fn X Y_X11_right 243 [(2, 1), (0, t), (0, k), (0, lo), (0, hi)] M (0, if (0 ≤ k ∧ k ≤ M 174 2 - 1) ∧ (0 ≤ lo ∧ lo ≤ hi ∧ hi ≤ 99999999) ∧ M 174 4 ≤ t ∧ t ≤ 999 then (if M 174 3 < 20 then kc_n (mr_put M t k lo hi 182) k ((M 174 3).toNat + 1) else -3) else -2)
      (if ((0 ≤ k ∧ k ≤ M 174 2 - 1) ∧ (0 ≤ lo ∧ lo ≤ hi ∧ hi ≤ 99999999) ∧ M 174 4 ≤ t ∧ t ≤ 999) ∧ M 174 3 < 20 then mr_put M t k lo hi else M) := by
  refine mm_startF (ls := [(2, 1), (0, t), (0, k), (0, lo), (0, hi)]) rfl ?_
  obtain ⟨N, hN⟩ : ∃ N, N = mr_put M t k lo hi := ⟨_, rfl⟩
  have hRN : mm_Rf N := by
    rw [hN]; unfold mr_put
    exact (((((hR.up rfl).up rfl).up rfl).up rfl).up rfl).up rfl
  have hkb := kc_nb (f := N 182) (v := k) ((M 174 3).toNat + 1)
  refine mm_iload_n dX11_right_0 rfl rfl ?_
  refine mm_iconst dX11_right_1 rfl ?_
  refine mm_aload_n dX11_right_2 rfl rfl ?_
  refine mm_getr dX11_right_3 rfl fl_X11_90 (c := 0) rfl (by decide) rfl rfl (hR.at (c := 0) (i := 11) (v := 175) rfl (by decide)) ?_
  refine mm_get (kd := 0) dX11_right_6 rfl fl_X11_357 (c := 174) rfl (by decide) rfl rfl ?_
  refine mm_iconst dX11_right_9 rfl ?_
  refine mm_isub dX11_right_10 rfl ?_
  refine mm_S3i dX11_right_11 rfl lk_X11_171 (by simp) (by simp) (by simp) rfl rfl rfl (c_X11_isWithin hk (by omega) (by omega)) ?_
  refine mm_ifeqb dX11_right_14 (fun h14 => ?_) (fun h14 => ?_)
  · refine mm_bipush dX11_right_28 rfl (by decide) ?_
    refine mm_iret dX11_right_30 rfl rfl ?_
    first
    | exact mm_fin (by rw [if_neg (fun q => h14 q.1)]) (by rw [if_neg (fun q => h14 q.1.1)])
    | exact mm_fin (by rw [if_neg (fun q => h25 q.2)]) (by rw [if_neg (fun q => h25 q.1.2)])
  · refine mm_aload_n dX11_right_17 rfl rfl ?_
    refine mm_iload_n dX11_right_18 rfl rfl ?_
    refine mm_iload_n dX11_right_19 rfl rfl ?_
    refine mm_iload dX11_right_20 rfl rfl ?_
    refine mm_V3i dX11_right_22 rfl lk_X11_354 (c := 0) rfl (by decide) rfl (by simp) (by simp) (by simp) rfl rfl rfl (c_X11_canRead hR hl ht hlo hhi) ?_
    refine mm_ifneb dX11_right_25 (fun h25 => ?_) (fun h25 => ?_)
    · refine mm_aload_n dX11_right_31 rfl rfl ?_
      refine mm_getr dX11_right_32 rfl fl_X11_90 (c := 0) rfl (by decide) rfl rfl (hR.at (c := 0) (i := 11) (v := 175) rfl (by decide)) ?_
      refine mm_get (kd := 0) dX11_right_35 rfl fl_X11_361 (c := 174) rfl (by decide) rfl rfl ?_
      refine mm_bipush dX11_right_38 rfl (by decide) ?_
      refine mm_icge dX11_right_40 (by omega) (by omega) (fun h40 => ?_) (fun h40 => ?_)
      · refine mm_bipush dX11_right_58 rfl (by decide) ?_
        refine mm_iret dX11_right_60 rfl rfl ?_
        first
        | exact mm_fin (by rw [if_pos (And.intro h14 h25), if_pos (by omega), ← hN]) (by rw [if_pos ⟨And.intro h14 h25, by omega⟩, hN])
        | exact mm_fin (by rw [if_pos (And.intro h14 h25), if_neg (by omega)]) (by rw [if_neg (by omega)])
      · refine mm_aload_n dX11_right_43 rfl rfl ?_
        refine mm_getr dX11_right_44 rfl fl_X11_90 (c := 0) rfl (by decide) rfl rfl (hR.at (c := 0) (i := 11) (v := 175) rfl (by decide)) ?_
        refine mm_iload_n dX11_right_47 rfl rfl ?_
        refine mm_iload_n dX11_right_48 rfl rfl ?_
        refine mm_iload_n dX11_right_49 rfl rfl ?_
        refine mm_iload dX11_right_50 rfl rfl ?_
        refine mm_V4i dX11_right_52 rfl lk_X11_364 (c := 174) rfl (by decide) rfl (by simp) (by simp) (by simp) (by simp) rfl rfl rfl ((hN ▸ c_X7_putRight (t := t) (lo := lo) (hi := hi) hR hk (by omega) hv)) ?_
        refine mm_goto dX11_right_55 ?_
        refine mm_iret dX11_right_60 rfl rfl ?_
        first
        | exact mm_fin (by rw [if_pos (And.intro h14 h25), if_pos (by omega), ← hN]) (by rw [if_pos ⟨And.intro h14 h25, by omega⟩, hN])
        | exact mm_fin (by rw [if_pos (And.intro h14 h25), if_neg (by omega)]) (by rw [if_neg (by omega)])
    · refine mm_bipush dX11_right_28 rfl (by decide) ?_
      refine mm_iret dX11_right_30 rfl rfl ?_
      first
      | exact mm_fin (by rw [if_neg (fun q => h14 q.1)]) (by rw [if_neg (fun q => h14 q.1.1)])
      | exact mm_fin (by rw [if_neg (fun q => h25 q.2)]) (by rw [if_neg (fun q => h25 q.1.2)])
theorem l_X13_right (hRN : mm_Rf N) (hk : mm_R k) (hc : 0 ≤ N 183 98 ∧ N 183 98 ≤ 20) (hv : ∀ i : Nat, (i : Int) < N 183 98 → mm_R (N 239 i)) :
    ∀ (m i : Nat), i + m = (N 183 98).toNat → mm_J X Y_X13_right 243 243 243 118 [(2, 184), (0, t), (0, k), (0, lo), (0, hi), (0, kc_n (N 239) k i), (0, (i : Int))] [] N (fun r' M'' => r' = (0, kc_n (N 239) k (N 183 98).toNat) ∧ M'' = N) := by
  intro m
  induction m with
  | zero =>
    intro i hi
    have ei : i = (N 183 98).toNat := by omega
    refine mm_iload dX13_right_118 rfl rfl ?_
    refine mm_aload_n dX13_right_120 rfl rfl ?_
    refine mm_get (kd := 0) dX13_right_121 rfl fl_X13_406 (c := 183) rfl (by decide) rfl rfl ?_
    refine mm_icge dX13_right_124 (by omega) (by omega) (fun h124 => ?_) (fun h124 => ?_)
    · refine mm_iload dX13_right_154 rfl rfl ?_
      refine mm_iret dX13_right_156 rfl rfl ?_
      exact mm_fin (by rw [ei]) rfl
    · exfalso; omega
  | succ m ih =>
    intro i hi
    have hvi := hv i (by omega)
    have hb := kc_nb (f := N 239) (v := k) i
    refine mm_iload dX13_right_118 rfl rfl ?_
    refine mm_aload_n dX13_right_120 rfl rfl ?_
    refine mm_get (kd := 0) dX13_right_121 rfl fl_X13_406 (c := 183) rfl (by decide) rfl rfl ?_
    refine mm_icge dX13_right_124 (by omega) (by omega) (fun h124 => ?_) (fun h124 => ?_)
    · exfalso; omega
    · refine mm_iload dX13_right_127 rfl rfl ?_
      refine mm_aload_n dX13_right_129 rfl rfl ?_
      refine mm_getr dX13_right_130 rfl fl_X13_370 (c := 183) rfl (by decide) rfl rfl (hRN.at (c := 183) (i := 106) (v := 240) rfl (by decide)) ?_
      refine mm_iload dX13_right_133 rfl rfl ?_
      refine mm_ialk (k0 := i) dX13_right_135 rfl (c := 239) rfl (by decide) rfl (by omega) (by omega) ?_
      refine mm_iload_n dX13_right_136 rfl rfl ?_
      refine mm_icne dX13_right_137 (by omega) (by omega) (fun h137 => ?_) (fun h137 => ?_)
      · refine mm_iconst dX13_right_144 rfl ?_
        refine mm_iadd dX13_right_145 rfl ?_
        refine mm_istore dX13_right_146 rfl (Nat.le_of_ble_eq_true rfl) rfl ?_
        refine mm_iinc dX13_right_148 rfl rfl (Nat.le_of_ble_eq_true rfl) rfl ?_
        refine mm_goto dX13_right_151 ?_
        have := ih (i + 1) (by omega)
        rw [kc_n] at this
        first
        | (rw [if_pos (by omega)] at this; exact this)
        | (rw [if_neg (by omega)] at this; exact this)
      · refine mm_iconst dX13_right_140 rfl ?_
        refine mm_goto dX13_right_141 ?_
        refine mm_iadd dX13_right_145 rfl ?_
        refine mm_istore dX13_right_146 rfl (Nat.le_of_ble_eq_true rfl) rfl ?_
        refine mm_iinc dX13_right_148 rfl rfl (Nat.le_of_ble_eq_true rfl) rfl ?_
        refine mm_goto dX13_right_151 ?_
        have := ih (i + 1) (by omega)
        rw [kc_n] at this
        first
        | (rw [if_pos (by omega)] at this; exact this)
        | (rw [if_neg (by omega)] at this; exact this)
theorem c_X13_right (hR : mm_Rf M) (ht : mm_R t) (hk : mm_R k) (hlo : mm_R lo) (hhi : mm_R hi) (hl : 0 ≤ M 183 99 ∧ M 183 99 ≤ 999) (hn : 0 ≤ M 183 97 ∧ M 183 97 ≤ 30) (hc : 0 ≤ M 183 98 ∧ M 183 98 ≤ 20) (hv : ∀ i : Nat, (i : Int) < M 183 98 → mm_R (M 239 i)) :
    mm_Fn X Y_X13_right 243 [(2, 184), (0, t), (0, k), (0, lo), (0, hi)] M (0, if (0 ≤ k ∧ k ≤ M 183 97 - 1) ∧ (0 ≤ lo ∧ lo ≤ hi ∧ hi ≤ 99999999) ∧ M 183 99 ≤ t ∧ t ≤ 999 then (if M 183 98 < 20 then kc_n (mr_putR M t k lo hi 239) k ((M 183 98).toNat + 1) else -3) else -2)
      (if ((0 ≤ k ∧ k ≤ M 183 97 - 1) ∧ (0 ≤ lo ∧ lo ≤ hi ∧ hi ≤ 99999999) ∧ M 183 99 ≤ t ∧ t ≤ 999) ∧ M 183 98 < 20 then mr_putR M t k lo hi else M) := by
  refine mm_startF (ls := [(2, 184), (0, t), (0, k), (0, lo), (0, hi), (9, 0), (9, 0)]) rfl ?_
  refine mm_iload_n dX13_right_0 rfl rfl ?_
  refine mm_i2l dX13_right_1 rfl (by omega) ?_
  refine mm_aload_n dX13_right_2 rfl rfl ?_
  refine mm_get (kd := 0) dX13_right_3 rfl fl_X13_409 (c := 183) rfl (by decide) rfl rfl ?_
  refine mm_i2l dX13_right_6 rfl (by omega) ?_
  refine mm_ldc2 dX13_right_7 rfl kc_X13_484 ?_
  refine mm_S3i dX13_right_10 rfl lk_X13_5 (by simp) (by simp) (by simp) rfl rfl rfl (c_X13_in (by omega) (by omega) (by omega)) ?_
  refine mm_ifeqb dX13_right_13 (fun h13 => ?_) (fun h13 => ?_)
  · refine mm_bipush dX13_right_41 rfl (by decide) ?_
    refine mm_iret dX13_right_43 rfl rfl ?_
    first
    | exact mm_fin (by rw [if_neg (fun q => h13 q.2.2)]) (by rw [if_neg (fun q => h13 q.1.2.2)])
    | exact mm_fin (by rw [if_neg (fun q => h29 q.1)]) (by rw [if_neg (fun q => h29 q.1.1)])
    | exact mm_fin (by rw [if_neg (fun q => h38 q.2.1)]) (by rw [if_neg (fun q => h38 q.1.2.1)])
  · refine mm_iload_n dX13_right_16 rfl rfl ?_
    refine mm_i2l dX13_right_17 rfl (by omega) ?_
    refine mm_lconst0 dX13_right_18 rfl ?_
    refine mm_aload_n dX13_right_19 rfl rfl ?_
    refine mm_get (kd := 0) dX13_right_20 rfl fl_X13_403 (c := 183) rfl (by decide) rfl rfl ?_
    refine mm_i2l dX13_right_23 rfl (by omega) ?_
    refine mm_lconst1 dX13_right_24 rfl ?_
    refine mm_lsub dX13_right_25 rfl ?_
    refine mm_S3i dX13_right_26 rfl lk_X13_5 (by simp) (by simp) (by simp) rfl rfl rfl (c_X13_in (by omega) (by omega) (by omega)) ?_
    refine mm_ifeqb dX13_right_29 (fun h29 => ?_) (fun h29 => ?_)
    · refine mm_bipush dX13_right_41 rfl (by decide) ?_
      refine mm_iret dX13_right_43 rfl rfl ?_
      first
      | exact mm_fin (by rw [if_neg (fun q => h13 q.2.2)]) (by rw [if_neg (fun q => h13 q.1.2.2)])
      | exact mm_fin (by rw [if_neg (fun q => h29 q.1)]) (by rw [if_neg (fun q => h29 q.1.1)])
      | exact mm_fin (by rw [if_neg (fun q => h38 q.2.1)]) (by rw [if_neg (fun q => h38 q.1.2.1)])
    · refine mm_iload_n dX13_right_32 rfl rfl ?_
      refine mm_iload dX13_right_33 rfl rfl ?_
      refine mm_S2i dX13_right_35 rfl lk_X13_715 (by simp) (by simp) rfl rfl rfl (c_X13_arePulls hlo hhi) ?_
      refine mm_ifneb dX13_right_38 (fun h38 => ?_) (fun h38 => ?_)
      · refine mm_aload_n dX13_right_44 rfl rfl ?_
        refine mm_get (kd := 0) dX13_right_45 rfl fl_X13_406 (c := 183) rfl (by decide) rfl rfl ?_
        refine mm_bipush dX13_right_48 rfl (by decide) ?_
        refine mm_icne dX13_right_50 (by omega) (by omega) (fun h50 => ?_) (fun h50 => ?_)
        · refine mm_aload_n dX13_right_56 rfl rfl ?_
          refine mm_iload_n dX13_right_57 rfl rfl ?_
          refine mm_puti dX13_right_58 rfl fl_X13_409 (c := 183) rfl (by decide) rfl rfl (fun M58 hM58 => ?_)
          have hR58 : mm_Rf M58 := by rw [hM58]; exact hR.up rfl
          refine mm_aload_n dX13_right_61 rfl rfl ?_
          refine mm_getr dX13_right_62 rfl fl_X13_370 (c := 183) rfl (by decide) rfl rfl (hR58.at (c := 183) (i := 106) (v := 240) rfl (by decide)) ?_
          refine mm_aload_n dX13_right_65 rfl rfl ?_
          refine mm_get (kd := 0) dX13_right_66 rfl fl_X13_406 (c := 183) rfl (by decide) rfl rfl ?_
          have e1 : M58 183 98 = M 183 98 := by simp [hM58, mm_up]
          rw [e1]
          refine mm_iload_n dX13_right_69 rfl rfl ?_
          refine mm_isto dX13_right_70 rfl (c := 239) rfl (by decide) rfl (by omega) (by omega) (fun M70 hM70 => ?_)
          have hR70 : mm_Rf M70 := by rw [hM70]; exact hR58.up (mm_rt_ar (t := 0) rfl (by decide))
          refine mm_aload_n dX13_right_71 rfl rfl ?_
          refine mm_getr dX13_right_72 rfl fl_X13_373 (c := 183) rfl (by decide) rfl rfl (hR70.at (c := 183) (i := 107) (v := 241) rfl (by decide)) ?_
          refine mm_aload_n dX13_right_75 rfl rfl ?_
          refine mm_get (kd := 0) dX13_right_76 rfl fl_X13_406 (c := 183) rfl (by decide) rfl rfl ?_
          have e2 : M70 183 98 = M 183 98 := by simp [hM70, e1, mm_up]
          rw [e2]
          refine mm_iload_n dX13_right_79 rfl rfl ?_
          refine mm_isto dX13_right_80 rfl (c := 240) rfl (by decide) rfl (by omega) (by omega) (fun M80 hM80 => ?_)
          have hR80 : mm_Rf M80 := by rw [hM80]; exact hR70.up (mm_rt_ar (t := 0) rfl (by decide))
          refine mm_aload_n dX13_right_81 rfl rfl ?_
          refine mm_getr dX13_right_82 rfl fl_X13_376 (c := 183) rfl (by decide) rfl rfl (hR80.at (c := 183) (i := 108) (v := 242) rfl (by decide)) ?_
          refine mm_aload_n dX13_right_85 rfl rfl ?_
          refine mm_get (kd := 0) dX13_right_86 rfl fl_X13_406 (c := 183) rfl (by decide) rfl rfl ?_
          have e3 : M80 183 98 = M 183 98 := by simp [hM80, e2, mm_up]
          rw [e3]
          refine mm_iload dX13_right_89 rfl rfl ?_
          refine mm_isto dX13_right_91 rfl (c := 241) rfl (by decide) rfl (by omega) (by omega) (fun M91 hM91 => ?_)
          have hR91 : mm_Rf M91 := by rw [hM91]; exact hR80.up (mm_rt_ar (t := 0) rfl (by decide))
          refine mm_aload_n dX13_right_92 rfl rfl ?_
          refine mm_getr dX13_right_93 rfl fl_X13_379 (c := 183) rfl (by decide) rfl rfl (hR91.at (c := 183) (i := 109) (v := 243) rfl (by decide)) ?_
          refine mm_aload_n dX13_right_96 rfl rfl ?_
          refine mm_get (kd := 0) dX13_right_97 rfl fl_X13_406 (c := 183) rfl (by decide) rfl rfl ?_
          have e4 : M91 183 98 = M 183 98 := by simp [hM91, e3, mm_up]
          rw [e4]
          refine mm_iload_n dX13_right_100 rfl rfl ?_
          refine mm_isto dX13_right_101 rfl (c := 242) rfl (by decide) rfl (by omega) (by omega) (fun M101 hM101 => ?_)
          have hR101 : mm_Rf M101 := by rw [hM101]; exact hR91.up (mm_rt_ar (t := 0) rfl (by decide))
          refine mm_aload_n dX13_right_102 rfl rfl ?_
          refine mm_dup dX13_right_103 rfl (by simp) ?_
          refine mm_get (kd := 0) dX13_right_104 rfl fl_X13_406 (c := 183) rfl (by decide) rfl rfl ?_
          have e5 : M101 183 98 = M 183 98 := by simp [hM101, e4, mm_up]
          rw [e5]
          refine mm_iconst dX13_right_107 rfl ?_
          refine mm_iadd dX13_right_108 rfl ?_
          refine mm_puti dX13_right_109 rfl fl_X13_406 (c := 183) rfl (by decide) rfl rfl (fun M109 hM109 => ?_)
          have hR109 : mm_Rf M109 := by rw [hM109]; exact hR101.up rfl
          refine mm_iconst dX13_right_112 rfl ?_
          refine mm_istore dX13_right_113 rfl (Nat.le_of_ble_eq_true rfl) rfl ?_
          refine mm_iconst dX13_right_115 rfl ?_
          refine mm_istore dX13_right_116 rfl (Nat.le_of_ble_eq_true rfl) rfl ?_
          have eN : M109 = mr_putR M t k lo hi := by rw [hM109, hM101, hM91, hM80, hM70, hM58]; rfl
          have er : M109 183 98 = M 183 98 + 1 := by rw [hM109, mm_up_s]
          have ek : ∀ i : Nat, (i : Int) < M109 183 98 → mm_R (M109 239 i) := by
            intro i hi
            rw [er] at hi
            have e5 : M109 239 i = if i = (M 183 98).toNat then k else M 239 i := by
              simp [hM109, hM101, hM91, hM80, hM70, hM58, mm_up]
            rw [e5]
            split
            · exact hk
            · exact hv i (by omega)
          have := l_X13_right (X := X) (t := t) (lo := lo) (hi := hi) hR109 hk (by omega) ek (M109 183 98).toNat 0 (by omega)
          rw [er, show (M 183 98 + 1).toNat = (M 183 98).toNat + 1 by omega] at this
          rw [if_pos (And.intro h29 (And.intro h38 h13)), if_pos (show M 183 98 < 20 by omega), if_pos (And.intro (And.intro h29 (And.intro h38 h13)) (show M 183 98 < 20 by omega)), ← eN]
          exact this
        · refine mm_bipush dX13_right_53 rfl (by decide) ?_
          refine mm_iret dX13_right_55 rfl rfl ?_
          exact mm_fin (by rw [if_pos (And.intro h29 (And.intro h38 h13)), if_neg (by omega)]) (by rw [if_neg (by omega)])
      · refine mm_bipush dX13_right_41 rfl (by decide) ?_
        refine mm_iret dX13_right_43 rfl rfl ?_
        first
        | exact mm_fin (by rw [if_neg (fun q => h13 q.2.2)]) (by rw [if_neg (fun q => h13 q.1.2.2)])
        | exact mm_fin (by rw [if_neg (fun q => h29 q.1)]) (by rw [if_neg (fun q => h29 q.1.1)])
        | exact mm_fin (by rw [if_neg (fun q => h38 q.2.1)]) (by rw [if_neg (fun q => h38 q.1.2.1)])
end
end
/-! 63.rounds -/
section
/-! ===== rounds ===== -/
def kt_sum (K W S A : Nat → Int) (h : Int) : Nat → Int
  | 0 => 0
  | n + 1 => kt_sum K W S A h n + max (ks_p K (S n) (A n) (ks_wi W K (S n) h) - K 9) 0 / 100
def kv_rounds (tired b sum : Int) : Int := if b < tired then 0 else if 0 < sum then min ((b - tired) / sum) 100000 else 100000
theorem kt_sumb {K W S A : Nat → Int} {h : Int} (hK : mm_KV K) : ∀ n : Nat, (∀ i : Nat, i < n → ks_ac K (A i) ∧ 0 ≤ ks_wi W K (S i) h ∧ ks_wi W K (S i) h ≤ 60) → 0 ≤ kt_sum K W S A h n ∧ kt_sum K W S A h n ≤ 20000 * n
  | 0, _ => by simp [kt_sum]
  | n + 1, hi => by
    have h1 := kt_sumb (K := K) (W := W) (S := S) (A := A) (h := h) hK n (fun i q => hi i (by omega))
    have h2 := hi n (by omega)
    have h3 := ks_pw hK (s := S n) h2.1 h2.2
    obtain ⟨-, -, -, -, -, -, -, -, -, h9, -⟩ := id hK
    unfold kt_sum
    omega
section
variable {X : mm_X} {M : mm_M} {x h b : Int} {rc len : Nat}
theorem c_X8_tiring (hR : mm_Rf M) (hK : mm_CK M) (hA : mm_CA M) (hrw : mm_rw rc len) (hlen : len ≤ 288) (hl : 0 ≤ M rc 2 ∧ M rc 2 ≤ len) (hst : ∀ i : Nat, (i : Int) < M rc 2 → ks_st (M 4) (M (rc + 2) i) ∧ ks_ac (M 4) (M (rc + 1) i)) (hh : ks_hr h) :
    mm_Fn X Y_X8_tiring 243 [(2, (rc : Int) + 1), (2, 12), (2, 4), (0, h)] M (0, kt_sum (M 4) (M 17) (M (rc + 2)) (M (rc + 1)) h (M rc 2).toNat) M := by
  refine mm_startF (ls := [(2, (rc : Int) + 1), (2, 12), (2, 4), (0, h), (9, 0), (9, 0)]) rfl ?_
  have loop : ∀ (k i : Nat), i + k = (M rc 2).toNat → mm_J X Y_X8_tiring 243 243 243 6 [(2, (rc : Int) + 1), (2, 12), (2, 4), (0, h), (0, kt_sum (M 4) (M 17) (M (rc + 2)) (M (rc + 1)) h i), (0, (i : Int))] [] M (fun r' M'' => r' = (0, kt_sum (M 4) (M 17) (M (rc + 2)) (M (rc + 1)) h (M rc 2).toNat) ∧ M'' = M) := by
    intro k
    induction k with
    | zero =>
      intro i hi
      have ei : i = (M rc 2).toNat := by omega
      refine mm_iload dX8_tiring_6 rfl rfl ?_
      refine mm_aload_n dX8_tiring_8 rfl rfl ?_
      refine mm_get (kd := 0) dX8_tiring_9 rfl fl_X8_22 (c := rc) rfl hrw.c0 hrw.1 rfl ?_
      refine mm_icge dX8_tiring_12 (by omega) (by omega) (fun h12 => ?_) (fun h12 => ?_)
      · refine mm_iload dX8_tiring_50 rfl rfl ?_
        refine mm_iret dX8_tiring_52 rfl rfl ?_
        exact mm_fin (by rw [ei]) rfl
      · exfalso; omega
    | succ k ih =>
      intro i hi
      have hs := hst i (by omega)
      have hw := hA.wi hK.1 hs.1 hh
      have hp := ks_pw hK.1 (s := M (rc + 2) i) hs.2 hw.2
      have h9 : 0 ≤ M 4 9 ∧ M 4 9 ≤ 99999 := hK.1.2.2.2.2.2.2.2.2.2.1
      have hb := kt_sumb (K := M 4) (W := M 17) (S := M (rc + 2)) (A := M (rc + 1)) (h := h) hK.1 i (fun j q => ⟨(hst j (by omega)).2, (hA.wi hK.1 (hst j (by omega)).1 hh).2⟩)
      refine mm_iload dX8_tiring_6 rfl rfl ?_
      refine mm_aload_n dX8_tiring_8 rfl rfl ?_
      refine mm_get (kd := 0) dX8_tiring_9 rfl fl_X8_22 (c := rc) rfl hrw.c0 hrw.1 rfl ?_
      refine mm_icge dX8_tiring_12 (by omega) (by omega) (fun h12 => ?_) (fun h12 => ?_)
      · exfalso; omega
      · refine mm_iload dX8_tiring_15 rfl rfl ?_
        refine mm_aload_n dX8_tiring_17 rfl rfl ?_
        refine mm_aload_n dX8_tiring_18 rfl rfl ?_
        refine mm_aload_n dX8_tiring_19 rfl rfl ?_
        refine mm_getr dX8_tiring_20 rfl fl_X8_19 (c := rc) rfl hrw.c0 hrw.1 rfl (hrw.states hR) ?_
        refine mm_iload dX8_tiring_23 rfl rfl ?_
        refine mm_ialk (k0 := i) dX8_tiring_25 rfl (c := rc + 2) rfl hrw.c2 hrw.2.2.1 (by omega) (by omega) ?_
        refine mm_aload_n dX8_tiring_26 rfl rfl ?_
        refine mm_getr dX8_tiring_27 rfl fl_X8_13 (c := rc) rfl hrw.c0 hrw.1 rfl (hrw.acts hR) ?_
        refine mm_iload dX8_tiring_30 rfl rfl ?_
        refine mm_ialk (k0 := i) dX8_tiring_32 rfl (c := rc + 1) rfl hrw.c1 hrw.2.1 (by omega) (by omega) ?_
        refine mm_iload_n dX8_tiring_33 rfl rfl ?_
        refine mm_iconst dX8_tiring_34 rfl ?_
        refine mm_V4i dX8_tiring_35 rfl lk_X8_79 (c := 11) rfl (by decide) rfl (by simp) (by simp) (by simp) (by simp) rfl rfl rfl (c_X0_pullBy1 hR hK hA hs.1 hs.2 hh) ?_
        refine mm_V1i dX8_tiring_38 rfl lk_X8_90 (c := 3) rfl (by decide) rfl (by simp) rfl rfl rfl (c_X4_tiringOf hR hK (by omega)) ?_
        refine mm_iadd dX8_tiring_41 rfl ?_
        refine mm_istore dX8_tiring_42 rfl (Nat.le_of_ble_eq_true rfl) rfl ?_
        refine mm_iinc dX8_tiring_44 rfl rfl (Nat.le_of_ble_eq_true rfl) rfl ?_
        refine mm_goto dX8_tiring_47 ?_
        exact ih (i + 1) (by omega)
  refine mm_iconst dX8_tiring_0 rfl ?_
  refine mm_istore dX8_tiring_1 rfl (Nat.le_of_ble_eq_true rfl) rfl ?_
  refine mm_iconst dX8_tiring_3 rfl ?_
  refine mm_istore dX8_tiring_4 rfl (Nat.le_of_ble_eq_true rfl) rfl ?_
  exact loop (M rc 2).toNat 0 (by omega)
theorem c_X11_rounds (hR : mm_Rf M) (hK : mm_CK M) (hA : mm_CA M) (hx : mm_R x) (hh : mm_R h) (hb : mm_R b) (ht : 0 ≤ M 0 13 ∧ M 0 13 ≤ 1000000) (hl : ∀ k : Nat, k < 6 → 0 ≤ M (121 + 3 * k) 2 ∧ M (121 + 3 * k) 2 ≤ 100) (hst : ∀ k : Nat, k < 6 → ∀ i : Nat, (i : Int) < M (121 + 3 * k) 2 → ks_st (M 4) (M (121 + 3 * k + 2) i) ∧ ks_ac (M 4) (M (121 + 3 * k + 1) i)) :
    mm_Fn X Y_X11_rounds 243 [(2, 1), (0, x), (0, h), (0, b)] M (0, if (0 ≤ x ∧ x ≤ 5) ∧ ks_hr h ∧ 0 ≤ b ∧ b ≤ 1000000 then (if 0 < M (121 + 3 * x.toNat) 2 then kv_rounds (M 0 13) b (kt_sum (M 4) (M 17) (M (121 + 3 * x.toNat + 2)) (M (121 + 3 * x.toNat + 1)) h (M (121 + 3 * x.toNat) 2).toNat) else -4) else -2) M := by
  refine mm_startF (ls := [(2, 1), (0, x), (0, h), (0, b), (9, 0)]) rfl ?_
  by_cases hs : (0 ≤ x ∧ x ≤ 5) ∧ ks_hr h
  · have e1 := mm_keptref hR hs.1
    have w1 := (mm_rw_kept x.toNat (by omega)).1
    have l1 := hl x.toNat (by omega)
    have s1 := hst x.toNat (by omega)
    have hsb := kt_sumb (K := M 4) (W := M 17) (S := M (121 + 3 * x.toNat + 2)) (A := M (121 + 3 * x.toNat + 1)) (h := h) hK.1 (M (121 + 3 * x.toNat) 2).toNat (fun j q => ⟨(s1 j (by omega)).2, (hA.wi hK.1 (s1 j (by omega)).1 hs.2).2⟩)
    obtain ⟨T, hT⟩ : ∃ T, T = kt_sum (M 4) (M 17) (M (121 + 3 * x.toNat + 2)) (M (121 + 3 * x.toNat + 1)) h (M (121 + 3 * x.toNat) 2).toNat := ⟨_, rfl⟩
    have ct := c_X8_tiring (X := X) hR hK hA w1 (by omega) l1 s1 hs.2
    rw [← hT] at ct hsb ⊢
    have hq : ∀ u : Int, 0 ≤ u → u ≤ 1000000 → 0 < T → 0 ≤ u / T ∧ u / T ≤ 1000000 := fun u h1 h2 h3 => mm_divb h1 h2 h3
    refine mm_iload_n dX11_rounds_0 rfl rfl ?_
    refine mm_S1i dX11_rounds_1 rfl lk_X11_254 (by simp) rfl rfl rfl (c_X11_isSlot hx) ?_
    refine mm_ifeqb dX11_rounds_4 (fun h4 => ?_) (fun h4 => ?_)
    · exact absurd hs.1 h4
    · refine mm_iload_n dX11_rounds_7 rfl rfl ?_
      refine mm_S1i dX11_rounds_8 rfl lk_X11_165 (by simp) rfl rfl rfl (c_X11_isHour hh) ?_
      refine mm_ifeqb dX11_rounds_11 (fun h11 => ?_) (fun h11 => ?_)
      · exact absurd hs.2 h11
      · refine mm_iload_n dX11_rounds_14 rfl rfl ?_
        refine mm_iconst dX11_rounds_15 rfl ?_
        refine mm_ldcw dX11_rounds_16 rfl kc_X11_281 ?_
        refine mm_S3i dX11_rounds_19 rfl lk_X11_171 (by simp) (by simp) (by simp) rfl rfl rfl (c_X11_isWithin hb (by omega) (by omega)) ?_
        refine mm_ifneb dX11_rounds_22 (fun h22 => ?_) (fun h22 => ?_)
        · refine mm_aload_n dX11_rounds_28 rfl rfl ?_
          refine mm_getr dX11_rounds_29 rfl fl_X11_60 (c := 0) rfl (by decide) rfl rfl (hR.at (c := 0) (i := 7) (v := 121) rfl (by decide)) ?_
          refine mm_iload_n dX11_rounds_32 rfl rfl ?_
          refine mm_aald dX11_rounds_33 rfl (c := 120) rfl (by decide) rfl (by omega) (by omega) ?_
          rw [e1]
          refine mm_get (kd := 0) dX11_rounds_34 rfl fl_X11_115 (c := 121 + 3 * x.toNat) rfl w1.c0 w1.1 rfl ?_
          refine mm_ifne dX11_rounds_37 (by omega) (fun h37 => ?_) (fun h37 => ?_)
          · refine mm_aload_n dX11_rounds_43 rfl rfl ?_
            refine mm_get (kd := 0) dX11_rounds_44 rfl fl_X11_282 (c := 0) rfl (by decide) rfl rfl ?_
            refine mm_iload_n dX11_rounds_47 rfl rfl ?_
            refine mm_icle dX11_rounds_48 (by omega) (by omega) (fun h48 => ?_) (fun h48 => ?_)
            · refine mm_aload_n dX11_rounds_53 rfl rfl ?_
              refine mm_getr dX11_rounds_54 rfl fl_X11_60 (c := 0) rfl (by decide) rfl rfl (hR.at (c := 0) (i := 7) (v := 121) rfl (by decide)) ?_
              refine mm_iload_n dX11_rounds_57 rfl rfl ?_
              refine mm_aald dX11_rounds_58 rfl (c := 120) rfl (by decide) rfl (by omega) (by omega) ?_
              rw [e1]
              refine mm_aload_n dX11_rounds_59 rfl rfl ?_
              refine mm_getr dX11_rounds_60 rfl fl_X11_28 (c := 0) rfl (by decide) rfl rfl (hR.at (c := 0) (i := 2) (v := 12) rfl (by decide)) ?_
              refine mm_aload_n dX11_rounds_63 rfl rfl ?_
              refine mm_getr dX11_rounds_64 rfl fl_X11_19 (c := 0) rfl (by decide) rfl rfl (hR.at (c := 0) (i := 1) (v := 4) rfl (by decide)) ?_
              refine mm_iload_n dX11_rounds_67 rfl rfl ?_
              refine mm_V3i dX11_rounds_68 rfl lk_X11_285 (c := 121 + 3 * x.toNat) rfl w1.c0 w1.1 (by simp) (by simp) (by simp) rfl rfl rfl (ct) ?_
              refine mm_istore dX11_rounds_71 rfl (Nat.le_of_ble_eq_true rfl) rfl ?_
              refine mm_iload dX11_rounds_73 rfl rfl ?_
              refine mm_ifle dX11_rounds_75 (by omega) (fun h75 => ?_) (fun h75 => ?_)
              · refine mm_ldcw dX11_rounds_96 rfl kc_X11_289 ?_
                refine mm_iret dX11_rounds_99 rfl rfl ?_
                refine mm_fin ?_ rfl
                rw [if_pos (And.intro hs.1 (And.intro hs.2 h22)), if_pos (by omega), kv_rounds, if_neg (by omega)]
                first
                | (rw [if_pos (by omega)]; done)
                | (rw [if_neg (by omega)]; done)
              · refine mm_iload_n dX11_rounds_78 rfl rfl ?_
                refine mm_aload_n dX11_rounds_79 rfl rfl ?_
                refine mm_get (kd := 0) dX11_rounds_80 rfl fl_X11_282 (c := 0) rfl (by decide) rfl rfl ?_
                refine mm_isub dX11_rounds_83 rfl ?_
                refine mm_iload dX11_rounds_84 rfl rfl ?_
                refine mm_idiv dX11_rounds_86 rfl (by omega) (by omega) (by omega) ?_
                rw [mm_tdiv (by omega)]
                have hqq := hq (b - M 0 13) (by omega) (by omega) (by omega)
                refine mm_ldcw dX11_rounds_87 rfl kc_X11_289 ?_
                refine mm_min dX11_rounds_90 rfl lm_X11_290 rfl rfl (by simp) (by omega) (by omega) ?_
                refine mm_goto dX11_rounds_93 ?_
                refine mm_iret dX11_rounds_99 rfl rfl ?_
                refine mm_fin ?_ rfl
                rw [if_pos (And.intro hs.1 (And.intro hs.2 h22)), if_pos (by omega), kv_rounds, if_neg (by omega)]
                first
                | (rw [if_pos (by omega)]; done)
                | (rw [if_neg (by omega)]; done)
            · refine mm_iconst dX11_rounds_51 rfl ?_
              refine mm_iret dX11_rounds_52 rfl rfl ?_
              exact mm_fin (by rw [if_pos (And.intro hs.1 (And.intro hs.2 h22)), if_pos (by omega), kv_rounds, if_pos (by omega)]) rfl
          · refine mm_bipush dX11_rounds_40 rfl (by decide) ?_
            refine mm_iret dX11_rounds_42 rfl rfl ?_
            exact mm_fin (by rw [if_pos (And.intro hs.1 (And.intro hs.2 h22)), if_neg (by omega)]) rfl
        · refine mm_bipush dX11_rounds_25 rfl (by decide) ?_
          refine mm_iret dX11_rounds_27 rfl rfl ?_
          exact mm_fin (by rw [if_neg (fun q => h22 q.2.2)]) rfl
  · refine mm_iload_n dX11_rounds_0 rfl rfl ?_
    refine mm_S1i dX11_rounds_1 rfl lk_X11_254 (by simp) rfl rfl rfl (c_X11_isSlot hx) ?_
    refine mm_ifeqb dX11_rounds_4 (fun h4 => ?_) (fun h4 => ?_)
    · refine mm_bipush dX11_rounds_25 rfl (by decide) ?_
      refine mm_iret dX11_rounds_27 rfl rfl ?_
      exact mm_fin (by rw [if_neg (by omega)]) rfl
    · refine mm_iload_n dX11_rounds_7 rfl rfl ?_
      refine mm_S1i dX11_rounds_8 rfl lk_X11_165 (by simp) rfl rfl rfl (c_X11_isHour hh) ?_
      refine mm_ifeqb dX11_rounds_11 (fun h11 => ?_) (fun h11 => ?_)
      · refine mm_bipush dX11_rounds_25 rfl (by decide) ?_
        refine mm_iret dX11_rounds_27 rfl rfl ?_
        exact mm_fin (by rw [if_neg (by omega)]) rfl
      · exact absurd (And.intro h4 h11) hs
end
end
/-! 64.rrounds -/
section
/-! ===== the reference's rounds ===== -/
section
variable {X : mm_X} {M : mm_M} {x h b : Int}
theorem c_X13_rounds (hR : mm_Rf M) (hK : mm_KV (mm_rk M)) (hA : mm_RA M) (hx : mm_R x) (hh : mm_R h) (hb : mm_R b) (ht : 0 ≤ M 183 79 ∧ M 183 79 ≤ 1000000) (hl : ∀ k : Nat, k < 6 → 0 ≤ M 216 k ∧ M 216 k ≤ 100)
    (hst : ∀ k : Nat, k < 6 → ∀ i : Nat, (i : Int) < M 216 k → ks_st (mm_rk M) (kl_S M k i) ∧ ks_ac (mm_rk M) (M 219 (100 * k + i))) :
    mm_Fn X Y_X13_rounds 243 [(2, 184), (0, x), (0, h), (0, b)] M (0, if (0 ≤ x ∧ x ≤ 5) ∧ ks_hr h ∧ 0 ≤ b ∧ b ≤ 1000000 then (if 0 < M 216 x.toNat then kv_rounds (M 183 79) b (kt_sum (mm_rk M) (M 204) (kl_S M x.toNat) (fun i => M 219 (100 * x.toNat + i)) h (M 216 x.toNat).toNat) else -4) else -2) M := by
  refine mm_startF (ls := [(2, 184), (0, x), (0, h), (0, b), (9, 0), (9, 0), (9, 0), (9, 0)]) rfl ?_
  by_cases hs : ((0 ≤ x ∧ x ≤ 5) ∧ ks_hr h ∧ 0 ≤ b ∧ b ≤ 1000000) ∧ 0 < M 216 x.toNat
  · have l1 := hl x.toNat (by omega)
    have s1 := hst x.toNat (by omega)
    have hhs := hs.1.2.1
    have h9 : 0 ≤ mm_rk M 9 ∧ mm_rk M 9 ≤ 99999 := hK.2.2.2.2.2.2.2.2.2.1
    have e9 : M 186 9 = mm_rk M 9 := rfl
    have hsb : ∀ i : Nat, i ≤ (M 216 x.toNat).toNat → 0 ≤ kt_sum (mm_rk M) (M 204) (kl_S M x.toNat) (fun i => M 219 (100 * x.toNat + i)) h i ∧ kt_sum (mm_rk M) (M 204) (kl_S M x.toNat) (fun i => M 219 (100 * x.toNat + i)) h i ≤ 20000 * i :=
      fun i hi => kt_sumb hK i (fun j q => ⟨(s1 j (by omega)).2, (hA.wi hK (s1 j (by omega)).1 hhs).2⟩)
    have fin : ∀ (T : Int) (l5 l6 l7 : Nat × Int), 0 ≤ T → T ≤ 2000000 → mm_J X Y_X13_rounds 243 243 243 130 [(2, 184), (0, x), (0, h), (0, b), (0, T), l5, l6, l7] [] M (fun r' M'' => r' = (0, kv_rounds (M 183 79) b T) ∧ M'' = M) := by
      intro T l5 l6 l7 hT0 hT1
      have hq : ∀ u : Int, 0 ≤ u → u ≤ 1000000 → 0 < T → 0 ≤ u / T ∧ u / T ≤ 1000000 := fun u h1 h2 h3 => mm_divb h1 h2 h3
      refine mm_aload_n dX13_rounds_130 rfl rfl ?_
      refine mm_get (kd := 0) dX13_rounds_131 rfl fl_X13_670 (c := 183) rfl (by decide) rfl rfl ?_
      refine mm_iload_n dX13_rounds_134 rfl rfl ?_
      refine mm_icle dX13_rounds_135 (by omega) (by omega) (fun h135 => ?_) (fun h135 => ?_)
      · refine mm_iload dX13_rounds_140 rfl rfl ?_
        refine mm_ifne dX13_rounds_142 (by omega) (fun h142 => ?_) (fun h142 => ?_)
        · refine mm_ldcw dX13_rounds_151 rfl kc_X13_676 ?_
          refine mm_iload_n dX13_rounds_154 rfl rfl ?_
          refine mm_aload_n dX13_rounds_155 rfl rfl ?_
          refine mm_get (kd := 0) dX13_rounds_156 rfl fl_X13_670 (c := 183) rfl (by decide) rfl rfl ?_
          refine mm_isub dX13_rounds_159 rfl ?_
          refine mm_iload dX13_rounds_160 rfl rfl ?_
          refine mm_idiv dX13_rounds_162 rfl (by omega) (by omega) (by omega) ?_
          rw [mm_tdiv (by omega)]
          have hqq := hq (b - M 183 79) (by omega) (by omega) (by omega)
          refine mm_min dX13_rounds_163 rfl lm_X13_161 rfl rfl (by simp) (by omega) (by omega) ?_
          refine mm_iret dX13_rounds_166 rfl rfl ?_
          refine mm_fin ?_ rfl
          rw [kv_rounds, if_neg (by omega)]
          first
          | (rw [if_neg (by omega)]; done)
          | (rw [if_pos (by omega), Int.min_comm]; done)
        · refine mm_ldcw dX13_rounds_145 rfl kc_X13_676 ?_
          refine mm_goto dX13_rounds_148 ?_
          refine mm_iret dX13_rounds_166 rfl rfl ?_
          refine mm_fin ?_ rfl
          rw [kv_rounds, if_neg (by omega)]
          first
          | (rw [if_neg (by omega)]; done)
          | (rw [if_pos (by omega), Int.min_comm]; done)
      · refine mm_iconst dX13_rounds_138 rfl ?_
        refine mm_iret dX13_rounds_139 rfl rfl ?_
        exact mm_fin (by rw [kv_rounds, if_pos (by omega)]) rfl
    have loop : ∀ (k i : Nat) (l7 : Nat × Int), i + k = (M 216 x.toNat).toNat → mm_J X Y_X13_rounds 243 243 243 54 [(2, 184), (0, x), (0, h), (0, b), (0, kt_sum (mm_rk M) (M 204) (kl_S M x.toNat) (fun i => M 219 (100 * x.toNat + i)) h i), (0, kl_S M x.toNat i), (0, (i : Int)), l7] [] M (fun r' M'' => r' = (0, kv_rounds (M 183 79) b (kt_sum (mm_rk M) (M 204) (kl_S M x.toNat) (fun i => M 219 (100 * x.toNat + i)) h (M 216 x.toNat).toNat)) ∧ M'' = M) := by
      intro k
      induction k with
      | zero =>
        intro i l7 hi
        have ei : i = (M 216 x.toNat).toNat := by omega
        have hbi := hsb i (by omega)
        refine mm_iload dX13_rounds_54 rfl rfl ?_
        refine mm_aload_n dX13_rounds_56 rfl rfl ?_
        refine mm_getr dX13_rounds_57 rfl fl_X13_295 (c := 183) rfl (by decide) rfl rfl (hR.at (c := 183) (i := 64) (v := 217) rfl (by decide)) ?_
        refine mm_iload_n dX13_rounds_60 rfl rfl ?_
        refine mm_ialk (k0 := x.toNat) dX13_rounds_61 rfl (c := 216) rfl (by decide) rfl (by omega) (by omega) ?_
        refine mm_icge dX13_rounds_62 (by omega) (by omega) (fun h62 => ?_) (fun h62 => ?_)
        · rw [← ei]
          exact fin _ _ _ _ hbi.1 (by omega)
        · exfalso; omega
      | succ k ih =>
        intro i l7 hi
        have hs2 := s1 i (by omega)
        have hw := hA.wi hK hs2.1 hhs
        have hp := ks_pw hK (s := kl_S M x.toNat i) hs2.2 hw.2
        have hbi := hsb i (by omega)
        have hac := hs2.2
        have ha3 : 0 ≤ M 219 (100 * x.toNat + i) ∧ M 219 (100 * x.toNat + i) < 1000 := by
          have := ks_slb hK hac
          have := hac.1
          omega
        refine mm_iload dX13_rounds_54 rfl rfl ?_
        refine mm_aload_n dX13_rounds_56 rfl rfl ?_
        refine mm_getr dX13_rounds_57 rfl fl_X13_295 (c := 183) rfl (by decide) rfl rfl (hR.at (c := 183) (i := 64) (v := 217) rfl (by decide)) ?_
        refine mm_iload_n dX13_rounds_60 rfl rfl ?_
        refine mm_ialk (k0 := x.toNat) dX13_rounds_61 rfl (c := 216) rfl (by decide) rfl (by omega) (by omega) ?_
        refine mm_icge dX13_rounds_62 (by omega) (by omega) (fun h62 => ?_) (fun h62 => ?_)
        · exfalso; omega
        · refine mm_aload_n dX13_rounds_65 rfl rfl ?_
          refine mm_getr dX13_rounds_66 rfl fl_X13_304 (c := 183) rfl (by decide) rfl rfl (hR.at (c := 183) (i := 67) (v := 220) rfl (by decide)) ?_
          refine mm_bipush dX13_rounds_69 rfl (by decide) ?_
          refine mm_iload_n dX13_rounds_71 rfl rfl ?_
          refine mm_imul dX13_rounds_72 rfl ?_
          refine mm_iload dX13_rounds_73 rfl rfl ?_
          refine mm_iadd dX13_rounds_75 rfl ?_
          refine mm_ialk (k0 := (100 * x.toNat + i)) dX13_rounds_76 rfl (c := 219) rfl (by decide) rfl (by omega) (by omega) ?_
          refine mm_istore dX13_rounds_77 rfl (Nat.le_of_ble_eq_true rfl) rfl ?_
          refine mm_iload dX13_rounds_79 rfl rfl ?_
          refine mm_iconst dX13_rounds_81 rfl ?_
          refine mm_aload_n dX13_rounds_82 rfl rfl ?_
          refine mm_iload dX13_rounds_83 rfl rfl ?_
          refine mm_iload dX13_rounds_85 rfl rfl ?_
          refine mm_aload_n dX13_rounds_87 rfl rfl ?_
          refine mm_iload dX13_rounds_88 rfl rfl ?_
          refine mm_iload_n dX13_rounds_90 rfl rfl ?_
          refine mm_V2i dX13_rounds_91 rfl lk_X13_501 (c := 183) rfl (by decide) rfl (by simp) (by simp) rfl rfl rfl (c_X13_highAt hR hK hs2.1 hhs) ?_
          refine mm_V3i dX13_rounds_94 rfl lk_X13_497 (c := 183) rfl (by decide) rfl (by simp) (by simp) (by simp) rfl rfl rfl (c_X13_pullOf hR hK hs2.1 hs2.2 (by omega)) ?_
          refine mm_aload_n dX13_rounds_97 rfl rfl ?_
          refine mm_getr dX13_rounds_98 rfl fl_X13_151 (c := 183) rfl (by decide) rfl rfl (hR.at (c := 183) (i := 10) (v := 187) rfl (by decide)) ?_
          refine mm_bipush dX13_rounds_101 rfl (by decide) ?_
          refine mm_ialk (k0 := 9) dX13_rounds_103 rfl (c := 186) rfl (by decide) rfl rfl (by decide) ?_
          rw [e9]
          refine mm_isub dX13_rounds_104 rfl ?_
          refine mm_max dX13_rounds_105 rfl lm_X13_518 rfl rfl (by simp) (by omega) (by omega) ?_
          refine mm_bipush dX13_rounds_108 rfl (by decide) ?_
          refine mm_idiv dX13_rounds_110 rfl (by omega) (by omega) (by omega) ?_
          rw [mm_tdiv (by omega), Int.max_comm]
          refine mm_iadd dX13_rounds_111 rfl ?_
          refine mm_istore dX13_rounds_112 rfl (Nat.le_of_ble_eq_true rfl) rfl ?_
          refine mm_aload_n dX13_rounds_114 rfl rfl ?_
          refine mm_iload dX13_rounds_115 rfl rfl ?_
          refine mm_iload dX13_rounds_117 rfl rfl ?_
          refine mm_V2i dX13_rounds_119 rfl lk_X13_476 (c := 183) rfl (by decide) rfl (by simp) (by simp) rfl rfl rfl (c_X13_after hR ha3) ?_
          refine mm_istore dX13_rounds_122 rfl (Nat.le_of_ble_eq_true rfl) rfl ?_
          refine mm_iinc dX13_rounds_124 rfl rfl (Nat.le_of_ble_eq_true rfl) rfl ?_
          refine mm_goto dX13_rounds_127 ?_
          exact ih (i + 1) _ (by omega)
    refine mm_iload_n dX13_rounds_0 rfl rfl ?_
    refine mm_S1i dX13_rounds_1 rfl lk_X13_629 (by simp) rfl rfl rfl (c_X13_isSlot hx) ?_
    refine mm_ifeqb dX13_rounds_4 (fun h4 => ?_) (fun h4 => ?_)
    · refine mm_bipush dX13_rounds_26 rfl (by decide) ?_
      refine mm_iret dX13_rounds_28 rfl rfl ?_
      exfalso; omega
    · refine mm_iload_n dX13_rounds_7 rfl rfl ?_
      refine mm_S1i dX13_rounds_8 rfl lk_X13_486 (by simp) rfl rfl rfl (c_X13_isHour hh) ?_
      refine mm_ifeqb dX13_rounds_11 (fun h11 => ?_) (fun h11 => ?_)
      · refine mm_bipush dX13_rounds_26 rfl (by decide) ?_
        refine mm_iret dX13_rounds_28 rfl rfl ?_
        exfalso; omega
      · refine mm_iload_n dX13_rounds_14 rfl rfl ?_
        refine mm_i2l dX13_rounds_15 rfl (by omega) ?_
        refine mm_lconst0 dX13_rounds_16 rfl ?_
        refine mm_ldc2 dX13_rounds_17 rfl kc_X13_668 ?_
        refine mm_S3i dX13_rounds_20 rfl lk_X13_5 (by simp) (by simp) (by simp) rfl rfl rfl (c_X13_in (by omega) (by omega) (by omega)) ?_
        refine mm_ifneb dX13_rounds_23 (fun h23 => ?_) (fun h23 => ?_)
        · refine mm_aload_n dX13_rounds_29 rfl rfl ?_
          refine mm_iload_n dX13_rounds_30 rfl rfl ?_
          refine mm_V1i dX13_rounds_31 rfl lk_X13_673 (c := 183) rfl (by decide) rfl (by simp) rfl rfl rfl (c_X13_isKept hR (by omega) (by omega)) ?_
          refine mm_ifneb dX13_rounds_34 (fun h34 => ?_) (fun h34 => ?_)
          · refine mm_iconst dX13_rounds_40 rfl ?_
            refine mm_istore dX13_rounds_41 rfl (Nat.le_of_ble_eq_true rfl) rfl ?_
            refine mm_aload_n dX13_rounds_43 rfl rfl ?_
            refine mm_getr dX13_rounds_44 rfl fl_X13_298 (c := 183) rfl (by decide) rfl rfl (hR.at (c := 183) (i := 65) (v := 218) rfl (by decide)) ?_
            refine mm_iload_n dX13_rounds_47 rfl rfl ?_
            refine mm_ialk (k0 := x.toNat) dX13_rounds_48 rfl (c := 217) rfl (by decide) rfl (by omega) (by omega) ?_
            refine mm_istore dX13_rounds_49 rfl (Nat.le_of_ble_eq_true rfl) rfl ?_
            refine mm_iconst dX13_rounds_51 rfl ?_
            refine mm_istore dX13_rounds_52 rfl (Nat.le_of_ble_eq_true rfl) rfl ?_
            rw [if_pos hs.1, if_pos hs.2]
            exact loop (M 216 x.toNat).toNat 0 _ (by omega)
          · refine mm_bipush dX13_rounds_37 rfl (by decide) ?_
            refine mm_iret dX13_rounds_39 rfl rfl ?_
            exfalso; omega
        · refine mm_bipush dX13_rounds_26 rfl (by decide) ?_
          refine mm_iret dX13_rounds_28 rfl rfl ?_
          exfalso; omega
  · refine mm_iload_n dX13_rounds_0 rfl rfl ?_
    refine mm_S1i dX13_rounds_1 rfl lk_X13_629 (by simp) rfl rfl rfl (c_X13_isSlot hx) ?_
    refine mm_ifeqb dX13_rounds_4 (fun h4 => ?_) (fun h4 => ?_)
    · refine mm_bipush dX13_rounds_26 rfl (by decide) ?_
      refine mm_iret dX13_rounds_28 rfl rfl ?_
      exact mm_fin (by rw [if_neg (by omega)]) rfl
    · refine mm_iload_n dX13_rounds_7 rfl rfl ?_
      refine mm_S1i dX13_rounds_8 rfl lk_X13_486 (by simp) rfl rfl rfl (c_X13_isHour hh) ?_
      refine mm_ifeqb dX13_rounds_11 (fun h11 => ?_) (fun h11 => ?_)
      · refine mm_bipush dX13_rounds_26 rfl (by decide) ?_
        refine mm_iret dX13_rounds_28 rfl rfl ?_
        exact mm_fin (by rw [if_neg (by omega)]) rfl
      · refine mm_iload_n dX13_rounds_14 rfl rfl ?_
        refine mm_i2l dX13_rounds_15 rfl (by omega) ?_
        refine mm_lconst0 dX13_rounds_16 rfl ?_
        refine mm_ldc2 dX13_rounds_17 rfl kc_X13_668 ?_
        refine mm_S3i dX13_rounds_20 rfl lk_X13_5 (by simp) (by simp) (by simp) rfl rfl rfl (c_X13_in (by omega) (by omega) (by omega)) ?_
        refine mm_ifneb dX13_rounds_23 (fun h23 => ?_) (fun h23 => ?_)
        · refine mm_aload_n dX13_rounds_29 rfl rfl ?_
          refine mm_iload_n dX13_rounds_30 rfl rfl ?_
          refine mm_V1i dX13_rounds_31 rfl lk_X13_673 (c := 183) rfl (by decide) rfl (by simp) rfl rfl rfl (c_X13_isKept hR (by omega) (by have := hl x.toNat (by omega); omega)) ?_
          refine mm_ifneb dX13_rounds_34 (fun h34 => ?_) (fun h34 => ?_)
          · exfalso; omega
          · refine mm_bipush dX13_rounds_37 rfl (by decide) ?_
            refine mm_iret dX13_rounds_39 rfl rfl ?_
            exact mm_fin (by rw [if_pos (by omega), if_neg (by omega)]) rfl
        · refine mm_bipush dX13_rounds_26 rfl (by decide) ?_
          refine mm_iret dX13_rounds_28 rfl rfl ?_
          exact mm_fin (by rw [if_neg (by omega)]) rfl
end
end
/-! 65.byte -/
section
/-! ===== a byte of the tape ===== -/
section
variable {X : mm_X} {M : mm_M} {i : Int}
theorem kb_and {v : Int} (h : -128 ≤ v ∧ v ≤ 127) : (mm_i v &&& mm_i 255).toInt = v % 256 := by
  obtain ⟨k, rfl⟩ : ∃ k : Nat, v = (k : Int) - 128 := ⟨(v + 128).toNat, by omega⟩
  have hk : k < 256 := by omega
  clear h
  revert k
  decide +kernel
theorem c_X10_byteAt (hR : mm_Rf M) (hi : mm_R i) (hl : 0 ≤ M 1 1 ∧ M 1 1 ≤ 800) (hv : ∀ k : Nat, k < 800 → -128 ≤ M 2 k ∧ M 2 k ≤ 127) :
    mm_Fn X Y_X10_byteAt 243 [(2, 2), (0, i)] M (0, if 0 ≤ i ∧ i < M 1 1 then M 2 i.toNat % 256 else -1) M := by
  refine mm_startF (ls := [(2, 2), (0, i)]) rfl ?_
  refine mm_iload_n dX10_byteAt_0 rfl rfl ?_
  refine mm_iflt dX10_byteAt_1 (by omega) (fun h1 => ?_) (fun h1 => ?_)
  · refine mm_iconst dX10_byteAt_25 rfl ?_
    refine mm_iret dX10_byteAt_26 rfl rfl ?_
    refine mm_fin ?_ rfl
    first
    | (rw [if_pos (by omega)]; exact kb_and (hv _ (by omega)))
    | (rw [if_neg (by omega)]; done)
  · refine mm_iload_n dX10_byteAt_4 rfl rfl ?_
    refine mm_aload_n dX10_byteAt_5 rfl rfl ?_
    refine mm_get (kd := 0) dX10_byteAt_6 rfl fl_X10_19 (c := 1) rfl (by decide) rfl rfl ?_
    refine mm_icge dX10_byteAt_9 (by omega) (by omega) (fun h9 => ?_) (fun h9 => ?_)
    · refine mm_iconst dX10_byteAt_25 rfl ?_
      refine mm_iret dX10_byteAt_26 rfl rfl ?_
      refine mm_fin ?_ rfl
      first
      | (rw [if_pos (by omega)]; exact kb_and (hv _ (by omega)))
      | (rw [if_neg (by omega)]; done)
    · refine mm_aload_n dX10_byteAt_12 rfl rfl ?_
      refine mm_getr dX10_byteAt_13 rfl fl_X10_11 (c := 1) rfl (by decide) rfl rfl (hR.at (c := 1) (i := 0) (v := 3) rfl (by decide)) ?_
      refine mm_iload_n dX10_byteAt_16 rfl rfl ?_
      refine mm_bald dX10_byteAt_17 rfl (c := 2) rfl (by decide) rfl (by omega) (by omega) ?_
      refine mm_sipush dX10_byteAt_18 rfl (by decide) ?_
      refine mm_iand dX10_byteAt_21 rfl ?_
      refine mm_goto dX10_byteAt_22 ?_
      refine mm_iret dX10_byteAt_26 rfl rfl ?_
      refine mm_fin ?_ rfl
      first
      | (rw [if_pos (by omega)]; exact kb_and (hv _ (by omega)))
      | (rw [if_neg (by omega)]; done)
end
end
/-! 66.acts -/
section
/-! ===== the acts of a row, off the tape ===== -/
def kj_act (M : mm_M) (i : Nat) : Int := M 2 i % 256 - 48
/-- a row is told: its length and its acts are good -/
def kj_ok (M : mm_M) : Prop := (1 ≤ M 1 1 ∧ M 1 1 ≤ 100) ∧ ∀ i : Nat, (i : Int) < M 1 1 → ks_ac (M 4) (kj_act M i)
section
variable {X : mm_X} {M : mm_M}
theorem c_X8_takeActs0 (hR : mm_Rf M) (hK : mm_CK M) (hl : 0 ≤ M 1 1 ∧ M 1 1 ≤ 800) (hv : ∀ k : Nat, k < 800 → -128 ≤ M 2 k ∧ M 2 k ≤ 127) (hno : ¬ kj_ok M) :
    mm_Fn X Y_X8_takeActs 243 [(2, 118), (2, 2), (2, 4)] M (0, 0) M := by
  refine mm_startF (ls := [(2, 118), (2, 2), (2, 4), (9, 0)]) rfl ?_
  have loop : ∀ (k i : Nat), i + k = (M 1 1).toNat → (1 ≤ M 1 1 ∧ M 1 1 ≤ 100) → (∀ j : Nat, j < i → ks_ac (M 4) (kj_act M j)) → mm_J X Y_X8_takeActs 243 243 243 24 [(2, 118), (2, 2), (2, 4), (0, (i : Int))] [] M (fun r' M'' => r' = (0, 0) ∧ M'' = M) := by
    intro k
    induction k with
    | zero =>
      intro i hi hlen hj
      exact absurd ⟨hlen, fun j q => hj j (by omega)⟩ hno
    | succ k ih =>
      intro i hi hlen hj
      have hb := hv i (by omega)
      have e1 : (if 0 ≤ (i : Int) ∧ (i : Int) < M 1 1 then M 2 (i : Int).toNat % 256 else -1) = M 2 i % 256 := by rw [if_pos (by omega), Int.toNat_natCast]
      refine mm_iload_n dX8_takeActs_24 rfl rfl ?_
      refine mm_aload_n dX8_takeActs_25 rfl rfl ?_
      refine mm_get (kd := 0) dX8_takeActs_26 rfl fl_X8_38 (c := 1) rfl (by decide) rfl rfl ?_
      refine mm_icge dX8_takeActs_29 (by omega) (by omega) (fun h29 => ?_) (fun h29 => ?_)
      · exfalso; omega
      · refine mm_aload_n dX8_takeActs_32 rfl rfl ?_
        refine mm_aload_n dX8_takeActs_33 rfl rfl ?_
        refine mm_iload_n dX8_takeActs_34 rfl rfl ?_
        refine mm_V1i dX8_takeActs_35 rfl lk_X8_41 (c := 1) rfl (by decide) rfl (by simp) rfl rfl rfl ((e1 ▸ c_X10_byteAt hR (by omega) hl hv)) ?_
        refine mm_bipush dX8_takeActs_38 rfl (by decide) ?_
        refine mm_isub dX8_takeActs_40 rfl ?_
        refine mm_V1i dX8_takeActs_41 rfl lk_X8_45 (c := 3) rfl (by decide) rfl (by simp) rfl rfl rfl (c_X4_hasAct hR hK (by omega)) ?_
        refine mm_ifneb dX8_takeActs_44 (fun h44 => ?_) (fun h44 => ?_)
        · refine mm_iinc dX8_takeActs_49 rfl rfl (Nat.le_of_ble_eq_true rfl) rfl ?_
          refine mm_goto dX8_takeActs_52 ?_
          refine ih (i + 1) (by omega) hlen ?_
          intro j hj2
          by_cases hij : j = i
          · rw [hij]; exact h44
          · exact hj j (by omega)
        · refine mm_iconst dX8_takeActs_47 rfl ?_
          refine mm_zret dX8_takeActs_48 rfl rfl (Or.inl rfl) ?_
          exact mm_fin rfl rfl
  refine mm_aload_n dX8_takeActs_0 rfl rfl ?_
  refine mm_get (kd := 0) dX8_takeActs_1 rfl fl_X8_38 (c := 1) rfl (by decide) rfl rfl ?_
  refine mm_iconst dX8_takeActs_4 rfl ?_
  refine mm_iclt dX8_takeActs_5 (by omega) (by omega) (fun h5 => ?_) (fun h5 => ?_)
  · refine mm_iconst dX8_takeActs_20 rfl ?_
    refine mm_zret dX8_takeActs_21 rfl rfl (Or.inl rfl) ?_
    exact mm_fin rfl rfl
  · refine mm_aload_n dX8_takeActs_8 rfl rfl ?_
    refine mm_get (kd := 0) dX8_takeActs_9 rfl fl_X8_38 (c := 1) rfl (by decide) rfl rfl ?_
    refine mm_aload_n dX8_takeActs_12 rfl rfl ?_
    refine mm_getr dX8_takeActs_13 rfl fl_X8_13 (c := 117) rfl (by decide) rfl rfl (hR.at (c := 117) (i := 0) (v := 119) rfl (by decide)) ?_
    refine mm_aln dX8_takeActs_16 rfl (c := 118) rfl (by decide) rfl ?_
    refine mm_icle dX8_takeActs_17 (by omega) (by omega) (fun h17 => ?_) (fun h17 => ?_)
    · refine mm_iconst dX8_takeActs_22 rfl ?_
      refine mm_istore_n dX8_takeActs_23 rfl (Nat.le_of_ble_eq_true rfl) rfl ?_
      exact loop (M 1 1).toNat 0 (by omega) (by omega) (fun j q => absurd q (Nat.not_lt_zero j))
    · refine mm_iconst dX8_takeActs_20 rfl ?_
      refine mm_zret dX8_takeActs_21 rfl rfl (Or.inl rfl) ?_
      exact mm_fin rfl rfl
theorem c_X8_takeActs1 (hR : mm_Rf M) (hK : mm_CK M) (hv : ∀ k : Nat, k < 800 → -128 ≤ M 2 k ∧ M 2 k ≤ 127) (hok : kj_ok M) :
    mm_Fn X Y_X8_takeActs 243 [(2, 118), (2, 2), (2, 4)] M (0, 1) (kf_mem (mm_up M 117 2 (M 1 1)) 118 (kj_act M) (M 1 1).toNat) := by
  refine mm_startF (ls := [(2, 118), (2, 2), (2, 4), (9, 0)]) rfl ?_
  obtain ⟨hlen, hall⟩ := hok
  obtain ⟨N, hN⟩ : ∃ N, N = mm_up M 117 2 (M 1 1) := ⟨_, rfl⟩
  have hRN : mm_Rf N := by rw [hN]; exact hR.up rfl
  rw [← hN]
  have loop2 : ∀ (k i : Nat), i + k = (M 1 1).toNat → mm_J X Y_X8_takeActs 243 243 243 65 [(2, 118), (2, 2), (2, 4), (0, (i : Int))] [] (kf_mem N 118 (kj_act M) i) (fun r' M'' => r' = (0, 1) ∧ M'' = kf_mem N 118 (kj_act M) (M 1 1).toNat) := by
    intro k
    induction k with
    | zero =>
      intro i hi
      obtain ⟨N', hN'⟩ : ∃ N', N' = kf_mem N 118 (kj_act M) i := ⟨_, rfl⟩
      have hRN' : mm_Rf N' := by rw [hN']; exact hRN.fm (len := 100) rfl
      have el : N' 117 2 = M 1 1 := by rw [hN', kf_mem_n (by omega), hN, mm_up_s]
      have ei : i = (M 1 1).toNat := by omega
      rw [← hN']
      refine mm_iload_n dX8_takeActs_65 rfl rfl ?_
      refine mm_aload_n dX8_takeActs_66 rfl rfl ?_
      refine mm_get (kd := 0) dX8_takeActs_67 rfl fl_X8_22 (c := 117) rfl (by decide) rfl rfl ?_
      refine mm_icge dX8_takeActs_70 (by omega) (by omega) (fun h70 => ?_) (fun h70 => ?_)
      · refine mm_iconst dX8_takeActs_93 rfl ?_
        refine mm_zret dX8_takeActs_94 rfl rfl (Or.inr rfl) ?_
        exact mm_fin rfl (by rw [hN', ei])
      · exfalso; omega
    | succ k ih =>
      intro i hi
      obtain ⟨N', hN'⟩ : ∃ N', N' = kf_mem N 118 (kj_act M) i := ⟨_, rfl⟩
      have hRN' : mm_Rf N' := by rw [hN']; exact hRN.fm (len := 100) rfl
      have el : N' 117 2 = M 1 1 := by rw [hN', kf_mem_n (by omega), hN, mm_up_s]
      have et : N' 1 1 = M 1 1 := by rw [hN', kf_mem_n (by omega), hN]; rfl
      have eb : N' 2 = M 2 := by rw [hN', kf_mem_n (by omega), hN]; rfl
      have hb := hv i (by omega)
      have e1 : (if 0 ≤ (i : Int) ∧ (i : Int) < N' 1 1 then N' 2 (i : Int).toNat % 256 else -1) = M 2 i % 256 := by rw [if_pos (by omega), Int.toNat_natCast, eb]
      rw [← hN']
      refine mm_iload_n dX8_takeActs_65 rfl rfl ?_
      refine mm_aload_n dX8_takeActs_66 rfl rfl ?_
      refine mm_get (kd := 0) dX8_takeActs_67 rfl fl_X8_22 (c := 117) rfl (by decide) rfl rfl ?_
      refine mm_icge dX8_takeActs_70 (by omega) (by omega) (fun h70 => ?_) (fun h70 => ?_)
      · exfalso; omega
      · refine mm_aload_n dX8_takeActs_73 rfl rfl ?_
        refine mm_getr dX8_takeActs_74 rfl fl_X8_13 (c := 117) rfl (by decide) rfl rfl (hRN'.at (c := 117) (i := 0) (v := 119) rfl (by decide)) ?_
        refine mm_iload_n dX8_takeActs_77 rfl rfl ?_
        refine mm_aload_n dX8_takeActs_78 rfl rfl ?_
        refine mm_iload_n dX8_takeActs_79 rfl rfl ?_
        refine mm_V1i dX8_takeActs_80 rfl lk_X8_41 (c := 1) rfl (by decide) rfl (by simp) rfl rfl rfl ((e1 ▸ c_X10_byteAt hRN' (by omega) (by omega) (by rw [eb]; exact hv))) ?_
        refine mm_bipush dX8_takeActs_83 rfl (by decide) ?_
        refine mm_isub dX8_takeActs_85 rfl ?_
        refine mm_istk (k0 := i) dX8_takeActs_86 rfl (c := 118) rfl (by decide) rfl (by omega) (by omega) (fun M86 hM86 => ?_)
        have hR86 : mm_Rf M86 := by rw [hM86]; exact hRN'.up (mm_rt_ar (t := 0) rfl (by decide))
        refine mm_iinc dX8_takeActs_87 rfl rfl (Nat.le_of_ble_eq_true rfl) rfl ?_
        refine mm_goto dX8_takeActs_90 ?_
        have e86 : M86 = kf_mem N 118 (kj_act M) (i + 1) := by rw [hM86, hN', ← kf_mem_s]; rfl
        rw [e86]
        exact ih (i + 1) (by omega)
  have loop : ∀ (k i : Nat), i + k = (M 1 1).toNat → mm_J X Y_X8_takeActs 243 243 243 24 [(2, 118), (2, 2), (2, 4), (0, (i : Int))] [] M (fun r' M'' => r' = (0, 1) ∧ M'' = kf_mem N 118 (kj_act M) (M 1 1).toNat) := by
    intro k
    induction k with
    | zero =>
      intro i hi
      refine mm_iload_n dX8_takeActs_24 rfl rfl ?_
      refine mm_aload_n dX8_takeActs_25 rfl rfl ?_
      refine mm_get (kd := 0) dX8_takeActs_26 rfl fl_X8_38 (c := 1) rfl (by decide) rfl rfl ?_
      refine mm_icge dX8_takeActs_29 (by omega) (by omega) (fun h29 => ?_) (fun h29 => ?_)
      · refine mm_aload_n dX8_takeActs_55 rfl rfl ?_
        refine mm_aload_n dX8_takeActs_56 rfl rfl ?_
        refine mm_get (kd := 0) dX8_takeActs_57 rfl fl_X8_38 (c := 1) rfl (by decide) rfl rfl ?_
        refine mm_puti dX8_takeActs_60 rfl fl_X8_22 (c := 117) rfl (by decide) rfl rfl (fun M60 hM60 => ?_)
        have hR60 : mm_Rf M60 := by rw [hM60]; exact hR.up rfl
        refine mm_iconst dX8_takeActs_63 rfl ?_
        refine mm_istore_n dX8_takeActs_64 rfl (Nat.le_of_ble_eq_true rfl) rfl ?_
        have e60 : M60 = kf_mem N 118 (kj_act M) 0 := by rw [kf_mem_0, hM60, hN]
        rw [e60]
        exact loop2 (M 1 1).toNat 0 (by omega)
      · exfalso; omega
    | succ k ih =>
      intro i hi
      have hb := hv i (by omega)
      have hai := hall i (by omega)
      have e1 : (if 0 ≤ (i : Int) ∧ (i : Int) < M 1 1 then M 2 (i : Int).toNat % 256 else -1) = M 2 i % 256 := by rw [if_pos (by omega), Int.toNat_natCast]
      refine mm_iload_n dX8_takeActs_24 rfl rfl ?_
      refine mm_aload_n dX8_takeActs_25 rfl rfl ?_
      refine mm_get (kd := 0) dX8_takeActs_26 rfl fl_X8_38 (c := 1) rfl (by decide) rfl rfl ?_
      refine mm_icge dX8_takeActs_29 (by omega) (by omega) (fun h29 => ?_) (fun h29 => ?_)
      · exfalso; omega
      · refine mm_aload_n dX8_takeActs_32 rfl rfl ?_
        refine mm_aload_n dX8_takeActs_33 rfl rfl ?_
        refine mm_iload_n dX8_takeActs_34 rfl rfl ?_
        refine mm_V1i dX8_takeActs_35 rfl lk_X8_41 (c := 1) rfl (by decide) rfl (by simp) rfl rfl rfl ((e1 ▸ c_X10_byteAt hR (by omega) (by omega) hv)) ?_
        refine mm_bipush dX8_takeActs_38 rfl (by decide) ?_
        refine mm_isub dX8_takeActs_40 rfl ?_
        refine mm_V1i dX8_takeActs_41 rfl lk_X8_45 (c := 3) rfl (by decide) rfl (by simp) rfl rfl rfl (c_X4_hasAct hR hK (by omega)) ?_
        refine mm_ifneb dX8_takeActs_44 (fun h44 => ?_) (fun h44 => ?_)
        · refine mm_iinc dX8_takeActs_49 rfl rfl (Nat.le_of_ble_eq_true rfl) rfl ?_
          refine mm_goto dX8_takeActs_52 ?_
          exact ih (i + 1) (by omega)
        · refine mm_iconst dX8_takeActs_47 rfl ?_
          refine mm_zret dX8_takeActs_48 rfl rfl (Or.inl rfl) ?_
          exact absurd hai h44
  refine mm_aload_n dX8_takeActs_0 rfl rfl ?_
  refine mm_get (kd := 0) dX8_takeActs_1 rfl fl_X8_38 (c := 1) rfl (by decide) rfl rfl ?_
  refine mm_iconst dX8_takeActs_4 rfl ?_
  refine mm_iclt dX8_takeActs_5 (by omega) (by omega) (fun h5 => ?_) (fun h5 => ?_)
  · refine mm_iconst dX8_takeActs_20 rfl ?_
    refine mm_zret dX8_takeActs_21 rfl rfl (Or.inl rfl) ?_
    exfalso; omega
  · refine mm_aload_n dX8_takeActs_8 rfl rfl ?_
    refine mm_get (kd := 0) dX8_takeActs_9 rfl fl_X8_38 (c := 1) rfl (by decide) rfl rfl ?_
    refine mm_aload_n dX8_takeActs_12 rfl rfl ?_
    refine mm_getr dX8_takeActs_13 rfl fl_X8_13 (c := 117) rfl (by decide) rfl rfl (hR.at (c := 117) (i := 0) (v := 119) rfl (by decide)) ?_
    refine mm_aln dX8_takeActs_16 rfl (c := 118) rfl (by decide) rfl ?_
    refine mm_icle dX8_takeActs_17 (by omega) (by omega) (fun h17 => ?_) (fun h17 => ?_)
    · refine mm_iconst dX8_takeActs_22 rfl ?_
      refine mm_istore_n dX8_takeActs_23 rfl (Nat.le_of_ble_eq_true rfl) rfl ?_
      exact loop (M 1 1).toNat 0 (by omega)
    · refine mm_iconst dX8_takeActs_20 rfl ?_
      refine mm_zret dX8_takeActs_21 rfl rfl (Or.inl rfl) ?_
      exfalso; omega
end
end
/-! 67.gcd -/
section
/-! ===== the shared step of two loops ===== -/
section
variable {X : mm_X} {M : mm_M} {a b : Nat}
theorem c_X1_sharedStep (hR : mm_Rf M) (ha : 1 ≤ a ∧ a ≤ 100) (hb : 1 ≤ b ∧ b ≤ 100) : mm_Fn X Y_X1_sharedStep 243 [(0, (a : Int)), (0, (b : Int))] M (0, ((Nat.gcd a b : Nat) : Int)) M := by
  refine mm_startF (ls := [(0, (a : Int)), (0, (b : Int)), (9, 0), (9, 0), (9, 0), (9, 0)]) rfl ?_
  have hg : 1 ≤ Nat.gcd a b := Nat.gcd_pos_of_pos_left b (by omega)
  have loop : ∀ (m u v i : Nat) (l5 : Nat × Int), v ≤ m → v + i ≤ 100 → u ≤ 100 → Nat.gcd u v = Nat.gcd a b → mm_J X Y_X1_sharedStep 243 243 243 7 [(0, (a : Int)), (0, (b : Int)), (0, (u : Int)), (0, (v : Int)), (0, (i : Int)), l5] [] M (fun r' M'' => r' = (0, ((Nat.gcd a b : Nat) : Int)) ∧ M'' = M) := by
    intro m
    induction m with
    | zero =>
      intro u v i l5 hv hi hu hgc
      have hv0 : v = 0 := by omega
      subst hv0
      rw [Nat.gcd_zero_right] at hgc
      refine mm_iload dX1_sharedStep_7 rfl rfl ?_
      refine mm_bipush dX1_sharedStep_9 rfl (by decide) ?_
      refine mm_icge dX1_sharedStep_11 (by omega) (by omega) (fun h11 => ?_) (fun h11 => ?_)
      · refine mm_iload_n dX1_sharedStep_34 rfl rfl ?_
        refine mm_iconst dX1_sharedStep_35 rfl ?_
        refine mm_max dX1_sharedStep_36 rfl lm_X1_56 rfl rfl (by simp) (by omega) (by omega) ?_
        refine mm_iret dX1_sharedStep_39 rfl rfl ?_
        exact mm_fin (by rw [hgc]; omega) rfl
      · refine mm_iload_n dX1_sharedStep_14 rfl rfl ?_
        refine mm_ifle dX1_sharedStep_15 (by omega) (fun h15 => ?_) (fun h15 => ?_)
        · refine mm_iload_n dX1_sharedStep_34 rfl rfl ?_
          refine mm_iconst dX1_sharedStep_35 rfl ?_
          refine mm_max dX1_sharedStep_36 rfl lm_X1_56 rfl rfl (by simp) (by omega) (by omega) ?_
          refine mm_iret dX1_sharedStep_39 rfl rfl ?_
          exact mm_fin (by rw [hgc]; omega) rfl
        · exfalso; omega
    | succ m ih =>
      intro u v i l5 hv hi hu hgc
      by_cases hv0 : v = 0
      · exact ih u v i l5 (by omega) hi hu hgc
      · have hlt := Nat.mod_lt u (show 0 < v by omega)
        have hgc2 : Nat.gcd v (u % v) = Nat.gcd a b := by rw [← hgc, Nat.gcd_comm v (u % v), ← Nat.gcd_rec, Nat.gcd_comm]
        have ec : (u : Int) % (v : Int) = ((u % v : Nat) : Int) := (Int.natCast_emod u v).symm
        refine mm_iload dX1_sharedStep_7 rfl rfl ?_
        refine mm_bipush dX1_sharedStep_9 rfl (by decide) ?_
        refine mm_icge dX1_sharedStep_11 (by omega) (by omega) (fun h11 => ?_) (fun h11 => ?_)
        · exfalso; omega
        · refine mm_iload_n dX1_sharedStep_14 rfl rfl ?_
          refine mm_ifle dX1_sharedStep_15 (by omega) (fun h15 => ?_) (fun h15 => ?_)
          · exfalso; omega
          · refine mm_iload_n dX1_sharedStep_18 rfl rfl ?_
            refine mm_iload_n dX1_sharedStep_19 rfl rfl ?_
            refine mm_irem dX1_sharedStep_20 rfl (by omega) (by omega) (by omega) ?_
            rw [mm_tmod (by omega), ec]
            refine mm_istore dX1_sharedStep_21 rfl (Nat.le_of_ble_eq_true rfl) rfl ?_
            refine mm_iload_n dX1_sharedStep_23 rfl rfl ?_
            refine mm_istore_n dX1_sharedStep_24 rfl (Nat.le_of_ble_eq_true rfl) rfl ?_
            refine mm_iload dX1_sharedStep_25 rfl rfl ?_
            refine mm_istore_n dX1_sharedStep_27 rfl (Nat.le_of_ble_eq_true rfl) rfl ?_
            refine mm_iinc dX1_sharedStep_28 rfl rfl (Nat.le_of_ble_eq_true rfl) rfl ?_
            refine mm_goto dX1_sharedStep_31 ?_
            exact ih v (u % v) (i + 1) _ (by omega) (by omega) (by omega) hgc2
  refine mm_iload_n dX1_sharedStep_0 rfl rfl ?_
  refine mm_istore_n dX1_sharedStep_1 rfl (Nat.le_of_ble_eq_true rfl) rfl ?_
  refine mm_iload_n dX1_sharedStep_2 rfl rfl ?_
  refine mm_istore_n dX1_sharedStep_3 rfl (Nat.le_of_ble_eq_true rfl) rfl ?_
  refine mm_iconst dX1_sharedStep_4 rfl ?_
  refine mm_istore dX1_sharedStep_5 rfl (Nat.le_of_ble_eq_true rfl) rfl ?_
  exact loop 100 a b 0 _ (by omega) (by omega) (by omega) rfl
end
end
/-! 68.near -/
section
/-! ===== how near two loops come: one tick after another ===== -/
def kn_d (K S T : Nat → Int) (l m k : Nat) (w : Int) (t : Nat) : Int := ((w + ks_col K (T ((k + t) % m)) - ks_col K (S (t % l))).natAbs : Int) + ((ks_row K (T ((k + t) % m)) - ks_row K (S (t % l))).natAbs : Int)
def kn (d : Nat → Int) : Nat → Int
  | 0 => 1000
  | n + 1 => min (kn d n) (d n)
theorem kn_b {d : Nat → Int} (hd : ∀ t, 0 ≤ d t) : ∀ n, 0 ≤ kn d n ∧ kn d n ≤ 1000
  | 0 => by simp [kn]
  | n + 1 => by
    have h1 := kn_b hd n
    have h2 := hd n
    unfold kn
    omega
section
variable {X : mm_X} {M : mm_M} {w : Int} {rc rd l m k n : Nat}
theorem l_X1_nearest (hR : mm_Rf M) (hK : mm_CK M) (hrc : mm_rw rc 100) (hrd : mm_rw rd 100) (hl : M rc 2 = (l : Int) ∧ 1 ≤ l ∧ l ≤ 100) (hm : M rd 2 = (m : Int) ∧ 1 ≤ m ∧ m ≤ 100) (hw : -1000 ≤ w ∧ w ≤ 1000) (hn : n ≤ 10000)
    (hs : ∀ i : Nat, i < l → ks_st (M 4) (M (rc + 2) i)) (ht : ∀ i : Nat, i < m → ks_st (M 4) (M (rd + 2) i)) {z4 : Int} :
    ∀ (c t : Nat) (l10 l11 l12 : Nat × Int), t + c = n → mm_J X Y_X1_nearest 243 243 243 47 [(2, 145), (2, (rc : Int) + 1), (2, (rd : Int) + 1), (0, w), (0, z4), (0, kn (kn_d (M 4) (M (rc + 2)) (M (rd + 2)) l m k w) t), (0, ((t % l : Nat) : Int)), (0, (((k + t) % m : Nat) : Int)), (0, (n : Int)), (0, (t : Int)), l10, l11, l12] [] M
      (fun r' M'' => r' = (0, kn (kn_d (M 4) (M (rc + 2)) (M (rd + 2)) l m k w) n) ∧ M'' = M) := by
  have hnb := ks_nb hK.1
  have hK0 := hK.1.1
  have hK1 := hK.1.2.1
  have hd0 : ∀ t, 0 ≤ kn_d (M 4) (M (rc + 2)) (M (rd + 2)) l m k w t := by intro t; unfold kn_d; omega
  intro c
  induction c with
  | zero =>
    intro t l10 l11 l12 h1
    have et : t = n := by omega
    refine mm_iload dX1_nearest_47 rfl rfl ?_
    refine mm_iload dX1_nearest_49 rfl rfl ?_
    refine mm_icge dX1_nearest_51 (by omega) (by omega) (fun h51 => ?_) (fun h51 => ?_)
    · refine mm_iload dX1_nearest_182 rfl rfl ?_
      refine mm_iret dX1_nearest_184 rfl rfl ?_
      exact mm_fin (by rw [et]) rfl
    · exfalso; omega
  | succ c ih =>
    intro t l10 l11 l12 h1
    have b1 := Nat.mod_lt t (show 0 < l by omega)
    have b2 := Nat.mod_lt (k + t) (show 0 < m by omega)
    have s1 := hs (t % l) b1
    have s2 := ht ((k + t) % m) b2
    have t1 := hK.tab s1
    have t2 := hK.tab s2
    have c1 := ks_colb hK.1 (M (rc + 2) (t % l))
    have c2 := ks_colb hK.1 (M (rd + 2) ((k + t) % m))
    have r1 := ks_rowb hK.1 (M (rc + 2) (t % l))
    have r2 := ks_rowb hK.1 (M (rd + 2) ((k + t) % m))
    have kb := kn_b hd0 t
    have p1 := s1.1
    have p2 := s1.2
    have p3 := s2.1
    have p4 := s2.2
    have m1 := mm_modstep (t := t) (len := l) (by omega)
    have m2 := mm_modstep (t := k + t) (len := m) (by omega)
    have fin : ∀ (y z : Int) (l10 l11 l12 : Nat × Int), y = (((t + 1) % l : Nat) : Int) → z = (((k + (t + 1)) % m : Nat) : Int) → mm_J X Y_X1_nearest 243 243 243 174 [(2, 145), (2, (rc : Int) + 1), (2, (rd : Int) + 1), (0, w), (0, z4), (0, kn (kn_d (M 4) (M (rc + 2)) (M (rd + 2)) l m k w) (t + 1)), (0, y), (0, (((k + t) % m : Nat) : Int)), (0, (n : Int)), (0, (t : Int)), l10, l11, l12] [(0, z)] M
        (fun r' M'' => r' = (0, kn (kn_d (M 4) (M (rc + 2)) (M (rd + 2)) l m k w) n) ∧ M'' = M) := by
      intro y z l10 l11 l12 hy hz
      subst hy hz
      refine mm_istore dX1_nearest_174 rfl (Nat.le_of_ble_eq_true rfl) rfl ?_
      refine mm_iinc dX1_nearest_176 rfl rfl (Nat.le_of_ble_eq_true rfl) rfl ?_
      refine mm_goto dX1_nearest_179 ?_
      exact ih (t + 1) _ _ _ (by omega)
    refine mm_iload dX1_nearest_47 rfl rfl ?_
    refine mm_iload dX1_nearest_49 rfl rfl ?_
    refine mm_icge dX1_nearest_51 (by omega) (by omega) (fun h51 => ?_) (fun h51 => ?_)
    · exfalso; omega
    · refine mm_aload_n dX1_nearest_54 rfl rfl ?_
      refine mm_getr dX1_nearest_55 rfl fl_X1_65 (c := rc) rfl hrc.c0 hrc.1 rfl (hrc.states hR) ?_
      refine mm_iload dX1_nearest_58 rfl rfl ?_
      refine mm_ialk (k0 := (t % l)) dX1_nearest_60 rfl (c := rc + 2) rfl hrc.c2 hrc.2.2.1 (by omega) (by omega) ?_
      refine mm_istore dX1_nearest_61 rfl (Nat.le_of_ble_eq_true rfl) rfl ?_
      refine mm_aload_n dX1_nearest_63 rfl rfl ?_
      refine mm_getr dX1_nearest_64 rfl fl_X1_65 (c := rd) rfl hrd.c0 hrd.1 rfl (hrd.states hR) ?_
      refine mm_iload dX1_nearest_67 rfl rfl ?_
      refine mm_ialk (k0 := ((k + t) % m)) dX1_nearest_69 rfl (c := rd + 2) rfl hrd.c2 hrd.2.2.1 (by omega) (by omega) ?_
      refine mm_istore dX1_nearest_70 rfl (Nat.le_of_ble_eq_true rfl) rfl ?_
      refine mm_iload_n dX1_nearest_72 rfl rfl ?_
      refine mm_aload_n dX1_nearest_73 rfl rfl ?_
      refine mm_getr dX1_nearest_74 rfl fl_X1_24 (c := 144) rfl (by decide) rfl rfl (hR.at (c := 144) (i := 0) (v := 4) rfl (by decide)) ?_
      refine mm_getr dX1_nearest_77 rfl fl_X1_68 (c := 3) rfl (by decide) rfl rfl (hR.at (c := 3) (i := 3) (v := 7) rfl (by decide)) ?_
      refine mm_iload dX1_nearest_80 rfl rfl ?_
      refine mm_iald dX1_nearest_82 rfl (c := 6) rfl (by decide) rfl (by omega) (by omega) ?_
      rw [t2.1]
      refine mm_iadd dX1_nearest_83 rfl ?_
      refine mm_aload_n dX1_nearest_84 rfl rfl ?_
      refine mm_getr dX1_nearest_85 rfl fl_X1_24 (c := 144) rfl (by decide) rfl rfl (hR.at (c := 144) (i := 0) (v := 4) rfl (by decide)) ?_
      refine mm_getr dX1_nearest_88 rfl fl_X1_68 (c := 3) rfl (by decide) rfl rfl (hR.at (c := 3) (i := 3) (v := 7) rfl (by decide)) ?_
      refine mm_iload dX1_nearest_91 rfl rfl ?_
      refine mm_iald dX1_nearest_93 rfl (c := 6) rfl (by decide) rfl (by omega) (by omega) ?_
      rw [t1.1]
      refine mm_isub dX1_nearest_94 rfl ?_
      refine mm_abs dX1_nearest_95 rfl lm_X1_73 rfl rfl (by simp) (by omega) ?_
      refine mm_istore dX1_nearest_98 rfl (Nat.le_of_ble_eq_true rfl) rfl ?_
      refine mm_iload dX1_nearest_100 rfl rfl ?_
      refine mm_iload dX1_nearest_102 rfl rfl ?_
      refine mm_aload_n dX1_nearest_104 rfl rfl ?_
      refine mm_getr dX1_nearest_105 rfl fl_X1_24 (c := 144) rfl (by decide) rfl rfl (hR.at (c := 144) (i := 0) (v := 4) rfl (by decide)) ?_
      refine mm_getr dX1_nearest_108 rfl fl_X1_76 (c := 3) rfl (by decide) rfl rfl (hR.at (c := 3) (i := 4) (v := 8) rfl (by decide)) ?_
      refine mm_iload dX1_nearest_111 rfl rfl ?_
      refine mm_iald dX1_nearest_113 rfl (c := 7) rfl (by decide) rfl (by omega) (by omega) ?_
      rw [t2.2.1]
      refine mm_aload_n dX1_nearest_114 rfl rfl ?_
      refine mm_getr dX1_nearest_115 rfl fl_X1_24 (c := 144) rfl (by decide) rfl rfl (hR.at (c := 144) (i := 0) (v := 4) rfl (by decide)) ?_
      refine mm_getr dX1_nearest_118 rfl fl_X1_76 (c := 3) rfl (by decide) rfl rfl (hR.at (c := 3) (i := 4) (v := 8) rfl (by decide)) ?_
      refine mm_iload dX1_nearest_121 rfl rfl ?_
      refine mm_iald dX1_nearest_123 rfl (c := 7) rfl (by decide) rfl (by omega) (by omega) ?_
      rw [t1.2.1]
      refine mm_isub dX1_nearest_124 rfl ?_
      refine mm_abs dX1_nearest_125 rfl lm_X1_73 rfl rfl (by simp) (by omega) ?_
      refine mm_iadd dX1_nearest_128 rfl ?_
      refine mm_min dX1_nearest_129 rfl lm_X1_79 rfl rfl (by simp) (by omega) (by omega) ?_
      refine mm_istore dX1_nearest_132 rfl (Nat.le_of_ble_eq_true rfl) rfl ?_
      refine mm_iload dX1_nearest_134 rfl rfl ?_
      refine mm_iconst dX1_nearest_136 rfl ?_
      refine mm_iadd dX1_nearest_137 rfl ?_
      refine mm_aload_n dX1_nearest_138 rfl rfl ?_
      refine mm_get (kd := 0) dX1_nearest_139 rfl fl_X1_53 (c := rc) rfl hrc.c0 hrc.1 rfl ?_
      refine mm_icge dX1_nearest_142 (by omega) (by omega) (fun h142 => ?_) (fun h142 => ?_)
      · refine mm_iconst dX1_nearest_152 rfl ?_
        refine mm_istore dX1_nearest_153 rfl (Nat.le_of_ble_eq_true rfl) rfl ?_
        refine mm_iload dX1_nearest_155 rfl rfl ?_
        refine mm_iconst dX1_nearest_157 rfl ?_
        refine mm_iadd dX1_nearest_158 rfl ?_
        refine mm_aload_n dX1_nearest_159 rfl rfl ?_
        refine mm_get (kd := 0) dX1_nearest_160 rfl fl_X1_53 (c := rd) rfl hrd.c0 hrd.1 rfl ?_
        refine mm_icge dX1_nearest_163 (by omega) (by omega) (fun h163 => ?_) (fun h163 => ?_)
        · refine mm_iconst dX1_nearest_173 rfl ?_
          refine fin _ _ _ _ _ ?_ ?_
          · rw [← m1]
            first
            | (rw [if_pos (by omega)]; omega)
            | (rw [if_neg (by omega)]; omega)
          · rw [← Nat.add_assoc, ← m2]
            first
            | (rw [if_pos (by omega)]; omega)
            | (rw [if_neg (by omega)]; omega)
        · refine mm_iload dX1_nearest_166 rfl rfl ?_
          refine mm_iconst dX1_nearest_168 rfl ?_
          refine mm_iadd dX1_nearest_169 rfl ?_
          refine mm_goto dX1_nearest_170 ?_
          refine fin _ _ _ _ _ ?_ ?_
          · rw [← m1]
            first
            | (rw [if_pos (by omega)]; omega)
            | (rw [if_neg (by omega)]; omega)
          · rw [← Nat.add_assoc, ← m2]
            first
            | (rw [if_pos (by omega)]; omega)
            | (rw [if_neg (by omega)]; omega)
      · refine mm_iload dX1_nearest_145 rfl rfl ?_
        refine mm_iconst dX1_nearest_147 rfl ?_
        refine mm_iadd dX1_nearest_148 rfl ?_
        refine mm_goto dX1_nearest_149 ?_
        refine mm_istore dX1_nearest_153 rfl (Nat.le_of_ble_eq_true rfl) rfl ?_
        refine mm_iload dX1_nearest_155 rfl rfl ?_
        refine mm_iconst dX1_nearest_157 rfl ?_
        refine mm_iadd dX1_nearest_158 rfl ?_
        refine mm_aload_n dX1_nearest_159 rfl rfl ?_
        refine mm_get (kd := 0) dX1_nearest_160 rfl fl_X1_53 (c := rd) rfl hrd.c0 hrd.1 rfl ?_
        refine mm_icge dX1_nearest_163 (by omega) (by omega) (fun h163 => ?_) (fun h163 => ?_)
        · refine mm_iconst dX1_nearest_173 rfl ?_
          refine fin _ _ _ _ _ ?_ ?_
          · rw [← m1]
            first
            | (rw [if_pos (by omega)]; omega)
            | (rw [if_neg (by omega)]; omega)
          · rw [← Nat.add_assoc, ← m2]
            first
            | (rw [if_pos (by omega)]; omega)
            | (rw [if_neg (by omega)]; omega)
        · refine mm_iload dX1_nearest_166 rfl rfl ?_
          refine mm_iconst dX1_nearest_168 rfl ?_
          refine mm_iadd dX1_nearest_169 rfl ?_
          refine mm_goto dX1_nearest_170 ?_
          refine fin _ _ _ _ _ ?_ ?_
          · rw [← m1]
            first
            | (rw [if_pos (by omega)]; omega)
            | (rw [if_neg (by omega)]; omega)
          · rw [← Nat.add_assoc, ← m2]
            first
            | (rw [if_pos (by omega)]; omega)
            | (rw [if_neg (by omega)]; omega)
end
end
/-! 69.near2 -/
section
/-! ===== how near two loops come ===== -/
section
variable {X : mm_X} {M : mm_M} {w : Int} {rc rd l m k : Nat}
theorem c_X1_nearest (hR : mm_Rf M) (hK : mm_CK M) (hrc : mm_rw rc 100) (hrd : mm_rw rd 100) (hl : M rc 2 = (l : Int) ∧ 1 ≤ l ∧ l ≤ 100) (hm : M rd 2 = (m : Int) ∧ 1 ≤ m ∧ m ≤ 100) (hw : -1000 ≤ w ∧ w ≤ 1000) (hk : k ≤ 100)
    (hs : ∀ i : Nat, i < l → ks_st (M 4) (M (rc + 2) i)) (ht : ∀ i : Nat, i < m → ks_st (M 4) (M (rd + 2) i)) :
    mm_Fn X Y_X1_nearest 243 [(2, 145), (2, (rc : Int) + 1), (2, (rd : Int) + 1), (0, w), (0, (k : Int))] M (0, kn (kn_d (M 4) (M (rc + 2)) (M (rd + 2)) l m k w) (l * m / Nat.gcd l m)) M := by
  refine mm_startF (ls := [(2, 145), (2, (rc : Int) + 1), (2, (rd : Int) + 1), (0, w), (0, (k : Int)), (9, 0), (9, 0), (9, 0), (9, 0), (9, 0), (9, 0), (9, 0), (9, 0)]) rfl ?_
  have hg : 1 ≤ Nat.gcd l m := Nat.gcd_pos_of_pos_left m (by omega)
  have hg2 : Nat.gcd l m ≤ l := Nat.gcd_le_left m (by omega)
  have hlm := mm_mulb (a := (l : Int)) (b := (m : Int)) (A := 100) (B := 100) (by omega) (by omega) (by omega) (by omega)
  have hlm2 : l * m ≤ 10000 := Nat.mul_le_mul (show l ≤ 100 by omega) (show m ≤ 100 by omega)
  have hq : l * m / Nat.gcd l m ≤ 10000 := Nat.le_trans (Nat.div_le_self _ _) hlm2
  have e1 : (k : Int) % (m : Int) = ((k % m : Nat) : Int) := (Int.natCast_emod k m).symm
  have e2 : (l : Int) * (m : Int) / ((Nat.gcd l m : Nat) : Int) = ((l * m / Nat.gcd l m : Nat) : Int) := by rw [Int.natCast_ediv, Int.natCast_mul]
  have hl1 := hl.1
  have hm1 := hm.1
  refine mm_sipush dX1_nearest_0 rfl (by decide) ?_
  refine mm_istore dX1_nearest_3 rfl (Nat.le_of_ble_eq_true rfl) rfl ?_
  refine mm_iconst dX1_nearest_5 rfl ?_
  refine mm_istore dX1_nearest_6 rfl (Nat.le_of_ble_eq_true rfl) rfl ?_
  refine mm_iload dX1_nearest_8 rfl rfl ?_
  refine mm_aload_n dX1_nearest_10 rfl rfl ?_
  refine mm_get (kd := 0) dX1_nearest_11 rfl fl_X1_53 (c := rd) rfl hrd.c0 hrd.1 rfl ?_
  rw [hm1]
  refine mm_iconst dX1_nearest_14 rfl ?_
  refine mm_max dX1_nearest_15 rfl lm_X1_56 rfl rfl (by simp) (by omega) (by omega) ?_
  rw [show max (m : Int) 1 = (m : Int) by omega]
  refine mm_irem dX1_nearest_18 rfl (by omega) (by omega) (by omega) ?_
  rw [mm_tmod (by omega), e1]
  refine mm_istore dX1_nearest_19 rfl (Nat.le_of_ble_eq_true rfl) rfl ?_
  refine mm_aload_n dX1_nearest_21 rfl rfl ?_
  refine mm_get (kd := 0) dX1_nearest_22 rfl fl_X1_53 (c := rc) rfl hrc.c0 hrc.1 rfl ?_
  refine mm_aload_n dX1_nearest_25 rfl rfl ?_
  refine mm_get (kd := 0) dX1_nearest_26 rfl fl_X1_53 (c := rd) rfl hrd.c0 hrd.1 rfl ?_
  rw [hl1, hm1]
  refine mm_imul dX1_nearest_29 rfl ?_
  refine mm_aload_n dX1_nearest_30 rfl rfl ?_
  refine mm_get (kd := 0) dX1_nearest_31 rfl fl_X1_53 (c := rc) rfl hrc.c0 hrc.1 rfl ?_
  refine mm_aload_n dX1_nearest_34 rfl rfl ?_
  refine mm_get (kd := 0) dX1_nearest_35 rfl fl_X1_53 (c := rd) rfl hrd.c0 hrd.1 rfl ?_
  rw [hl1, hm1]
  refine mm_S2i dX1_nearest_38 rfl lk_X1_62 (by simp) (by simp) rfl rfl rfl (c_X1_sharedStep hR hl.2 hm.2) ?_
  refine mm_idiv dX1_nearest_41 rfl (by omega) (by omega) (by omega) ?_
  rw [mm_tdiv (by omega), e2]
  refine mm_istore dX1_nearest_42 rfl (Nat.le_of_ble_eq_true rfl) rfl ?_
  refine mm_iconst dX1_nearest_44 rfl ?_
  refine mm_istore dX1_nearest_45 rfl (Nat.le_of_ble_eq_true rfl) rfl ?_
  have := l_X1_nearest (X := X) (k := k) (z4 := (k : Int)) hR hK hrc hrd hl hm hw hq hs ht (l * m / Nat.gcd l m) 0 (9, 0) (9, 0) (9, 0) (by omega)
  rw [Nat.zero_mod, Nat.add_zero] at this
  exact this
end
end
