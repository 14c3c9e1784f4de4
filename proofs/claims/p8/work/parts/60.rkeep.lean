/-! ===== the reference keeps a loop ===== -/
def kf_off (M : mm_M) (c o : Nat) (f : Nat → Int) (n : Nat) : mm_M := fun a b => if a = c ∧ o ≤ b ∧ b < o + n then f (b - o) else M a b
theorem kf_off_0 {M : mm_M} {c o : Nat} {f : Nat → Int} : kf_off M c o f 0 = M := by
  funext a b; unfold kf_off; rw [if_neg (by omega)]
theorem kf_off_s {M : mm_M} {c o : Nat} {f : Nat → Int} {n : Nat} : mm_up (kf_off M c o f n) c (o + n) (f n) = kf_off M c o f (n + 1) := by
  funext a b
  unfold mm_up kf_off
  by_cases h : a = c ∧ b = o + n
  · rw [if_pos h, if_pos (by omega), h.2, Nat.add_sub_cancel_left]
  · rw [if_neg h]
    by_cases h2 : a = c ∧ o ≤ b ∧ b < o + n
    · rw [if_pos h2, if_pos (by omega)]
    · rw [if_neg h2, if_neg (by omega)]
theorem kf_off_n {M : mm_M} {c o a : Nat} {f : Nat → Int} {n : Nat} (h : a ≠ c) : kf_off M c o f n a = M a := by
  funext b; unfold kf_off; rw [if_neg (fun q => h q.1)]
theorem mm_Rf.fo {M : mm_M} (h : mm_Rf M) {c o len n : Nat} {f : Nat → Int} (hs : mm_sh c = (1, len)) : mm_Rf (kf_off M c o f n) := by
  intro a b hab
  unfold kf_off
  rw [if_neg (fun q => hab (by rw [q.1]; exact mm_rt_arr hs b))]
  exact h a b hab
/-- the memory once loop x is kept -/
def kf_keep (M : mm_M) (x : Nat) : mm_M := kf_off (mm_up (mm_up (mm_up M 216 x (M 183 59)) 217 x (M 183 60)) 218 x (M 183 56 - M 183 57)) 219 (100 * x) (M 215) (M 183 59).toNat
section
variable {X : mm_X} {M : mm_M} {x : Int}
theorem c_X13_keep (hR : mm_Rf M) (hx : mm_R x) (hz : M 183 62 = 0 ∨ M 183 62 = 1) (hl : 0 ≤ M 183 59 ∧ M 183 59 ≤ 100) (hw : mm_R (M 183 56 - M 183 57)) :
    mm_Fn X Y_X13_keep 243 [(2, 184), (0, x)] M (0, if 0 ≤ x ∧ x ≤ 5 then (if M 183 62 = 1 then M 183 59 else -4) else -2) (if (0 ≤ x ∧ x ≤ 5) ∧ M 183 62 = 1 then kf_keep M x.toNat else M) := by
  refine mm_startF (ls := [(2, 184), (0, x), (9, 0)]) rfl ?_
  obtain ⟨N, hN⟩ : ∃ N, N = mm_up (mm_up (mm_up M 216 x.toNat (M 183 59)) 217 x.toNat (M 183 60)) 218 x.toNat (M 183 56 - M 183 57) := ⟨_, rfl⟩
  by_cases hs : (0 ≤ x ∧ x ≤ 5) ∧ M 183 62 = 1
  · have hRN : mm_Rf N := by rw [hN]; exact ((hR.up rfl).up rfl).up rfl
    have el : N 183 59 = M 183 59 := by rw [hN]; rfl
    have ea : N 215 = M 215 := by rw [hN]; rfl
    have loop : ∀ (k i : Nat), i + k = (M 183 59).toNat → mm_J X Y_X13_keep 243 243 243 57 [(2, 184), (0, x), (0, (i : Int))] [] (kf_off N 219 (100 * x.toNat) (M 215) i) (fun r' M'' => r' = (0, M 183 59) ∧ M'' = kf_keep M x.toNat) := by
      intro k
      induction k with
      | zero =>
        intro i hi
        obtain ⟨N', hN'⟩ : ∃ N', N' = kf_off N 219 (100 * x.toNat) (M 215) i := ⟨_, rfl⟩
        have hRN' : mm_Rf N' := by rw [hN']; exact hRN.fo rfl
        have el' : N' 183 59 = M 183 59 := by rw [hN', kf_off_n (by omega)]; exact el
        have ei : i = (M 183 59).toNat := by omega
        rw [← hN']
        refine mm_iload_n dX13_keep_57 rfl rfl ?_
        refine mm_aload_n dX13_keep_58 rfl rfl ?_
        refine mm_get (kd := 0) dX13_keep_59 rfl fl_X13_618 (c := 183) rfl (by decide) rfl rfl ?_
        refine mm_icge dX13_keep_62 (by omega) (by omega) (fun h62 => ?_) (fun h62 => ?_)
        · refine mm_aload_n dX13_keep_88 rfl rfl ?_
          refine mm_get (kd := 0) dX13_keep_89 rfl fl_X13_618 (c := 183) rfl (by decide) rfl rfl ?_
          refine mm_iret dX13_keep_92 rfl rfl ?_
          exact mm_fin el' (by rw [hN', ei, hN]; rfl)
        · exfalso; omega
      | succ k ih =>
        intro i hi
        obtain ⟨N', hN'⟩ : ∃ N', N' = kf_off N 219 (100 * x.toNat) (M 215) i := ⟨_, rfl⟩
        have hRN' : mm_Rf N' := by rw [hN']; exact hRN.fo rfl
        have el' : N' 183 59 = M 183 59 := by rw [hN', kf_off_n (by omega)]; exact el
        have ea' : N' 215 = M 215 := by rw [hN', kf_off_n (by omega)]; exact ea
        rw [← hN']
        refine mm_iload_n dX13_keep_57 rfl rfl ?_
        refine mm_aload_n dX13_keep_58 rfl rfl ?_
        refine mm_get (kd := 0) dX13_keep_59 rfl fl_X13_618 (c := 183) rfl (by decide) rfl rfl ?_
        refine mm_icge dX13_keep_62 (by omega) (by omega) (fun h62 => ?_) (fun h62 => ?_)
        · exfalso; omega
        · refine mm_aload_n dX13_keep_65 rfl rfl ?_
          refine mm_getr dX13_keep_66 rfl fl_X13_304 (c := 183) rfl (by decide) rfl rfl (hRN'.at (c := 183) (i := 67) (v := 220) rfl (by decide)) ?_
          refine mm_bipush dX13_keep_69 rfl (by decide) ?_
          refine mm_iload_n dX13_keep_71 rfl rfl ?_
          refine mm_imul dX13_keep_72 rfl ?_
          refine mm_iload_n dX13_keep_73 rfl rfl ?_
          refine mm_iadd dX13_keep_74 rfl ?_
          refine mm_aload_n dX13_keep_75 rfl rfl ?_
          refine mm_getr dX13_keep_76 rfl fl_X13_292 (c := 183) rfl (by decide) rfl rfl (hRN'.at (c := 183) (i := 63) (v := 216) rfl (by decide)) ?_
          refine mm_iload_n dX13_keep_79 rfl rfl ?_
          refine mm_ialk (k0 := i) dX13_keep_80 rfl (c := 215) rfl (by decide) rfl (by omega) (by omega) ?_
          refine mm_istk (k0 := (100 * x.toNat + i)) dX13_keep_81 rfl (c := 219) rfl (by decide) rfl (by omega) (by omega) (fun M81 hM81 => ?_)
          have hR81 : mm_Rf M81 := by rw [hM81]; exact hRN'.up (mm_rt_ar (t := 0) rfl (by decide))
          refine mm_iinc dX13_keep_82 rfl rfl (Nat.le_of_ble_eq_true rfl) rfl ?_
          refine mm_goto dX13_keep_85 ?_
          have e81 : M81 = kf_off N 219 (100 * x.toNat) (M 215) (i + 1) := by rw [hM81, hN', ← kf_off_s, ← hN', ea']
          rw [e81]
          exact ih (i + 1) (by omega)
    refine mm_iload_n dX13_keep_0 rfl rfl ?_
    refine mm_S1i dX13_keep_1 rfl lk_X13_629 (by simp) rfl rfl rfl (c_X13_isSlot hx) ?_
    refine mm_ifneb dX13_keep_4 (fun h4 => ?_) (fun h4 => ?_)
    · refine mm_aload_n dX13_keep_10 rfl rfl ?_
      refine mm_get (kd := 0) dX13_keep_11 rfl fl_X13_412 (c := 183) rfl (by decide) rfl rfl ?_
      refine mm_ifne dX13_keep_14 (by omega) (fun h14 => ?_) (fun h14 => ?_)
      · refine mm_aload_n dX13_keep_20 rfl rfl ?_
        refine mm_getr dX13_keep_21 rfl fl_X13_295 (c := 183) rfl (by decide) rfl rfl (hR.at (c := 183) (i := 64) (v := 217) rfl (by decide)) ?_
        refine mm_iload_n dX13_keep_24 rfl rfl ?_
        refine mm_aload_n dX13_keep_25 rfl rfl ?_
        refine mm_get (kd := 0) dX13_keep_26 rfl fl_X13_618 (c := 183) rfl (by decide) rfl rfl ?_
        refine mm_istk (k0 := x.toNat) dX13_keep_29 rfl (c := 216) rfl (by decide) rfl (by omega) (by omega) (fun M29 hM29 => ?_)
        have hR29 : mm_Rf M29 := by rw [hM29]; exact hR.up (mm_rt_ar (t := 0) rfl (by decide))
        refine mm_aload_n dX13_keep_30 rfl rfl ?_
        refine mm_getr dX13_keep_31 rfl fl_X13_298 (c := 183) rfl (by decide) rfl rfl (hR29.at (c := 183) (i := 65) (v := 218) rfl (by decide)) ?_
        refine mm_iload_n dX13_keep_34 rfl rfl ?_
        refine mm_aload_n dX13_keep_35 rfl rfl ?_
        refine mm_get (kd := 0) dX13_keep_36 rfl fl_X13_612 (c := 183) rfl (by decide) rfl rfl ?_
        refine mm_istk (k0 := x.toNat) dX13_keep_39 rfl (c := 217) rfl (by decide) rfl (by omega) (by omega) (fun M39 hM39 => ?_)
        have hR39 : mm_Rf M39 := by rw [hM39]; exact hR29.up (mm_rt_ar (t := 0) rfl (by decide))
        refine mm_aload_n dX13_keep_40 rfl rfl ?_
        refine mm_getr dX13_keep_41 rfl fl_X13_301 (c := 183) rfl (by decide) rfl rfl (hR39.at (c := 183) (i := 66) (v := 219) rfl (by decide)) ?_
        refine mm_iload_n dX13_keep_44 rfl rfl ?_
        refine mm_aload_n dX13_keep_45 rfl rfl ?_
        refine mm_get (kd := 0) dX13_keep_46 rfl fl_X13_603 (c := 183) rfl (by decide) rfl rfl ?_
        refine mm_aload_n dX13_keep_49 rfl rfl ?_
        refine mm_get (kd := 0) dX13_keep_50 rfl fl_X13_606 (c := 183) rfl (by decide) rfl rfl ?_
        refine mm_isub dX13_keep_53 rfl ?_
        refine mm_istk (k0 := x.toNat) dX13_keep_54 rfl (c := 218) rfl (by decide) rfl (by omega) (by omega) (fun M54 hM54 => ?_)
        have hR54 : mm_Rf M54 := by rw [hM54]; exact hR39.up (mm_rt_ar (t := 0) rfl (by decide))
        refine mm_iconst dX13_keep_55 rfl ?_
        refine mm_istore_n dX13_keep_56 rfl (Nat.le_of_ble_eq_true rfl) rfl ?_
        have e54 : M54 = kf_off N 219 (100 * x.toNat) (M 215) 0 := by rw [kf_off_0, hN]; simp [hM54, hM39, hM29, mm_up]
        rw [if_pos hs.1, if_pos hs.2, if_pos hs, e54]
        exact loop (M 183 59).toNat 0 (by omega)
      · refine mm_bipush dX13_keep_17 rfl (by decide) ?_
        refine mm_iret dX13_keep_19 rfl rfl ?_
        exfalso; omega
    · exact absurd hs.1 h4
  · refine mm_iload_n dX13_keep_0 rfl rfl ?_
    refine mm_S1i dX13_keep_1 rfl lk_X13_629 (by simp) rfl rfl rfl (c_X13_isSlot hx) ?_
    refine mm_ifneb dX13_keep_4 (fun h4 => ?_) (fun h4 => ?_)
    · refine mm_aload_n dX13_keep_10 rfl rfl ?_
      refine mm_get (kd := 0) dX13_keep_11 rfl fl_X13_412 (c := 183) rfl (by decide) rfl rfl ?_
      refine mm_ifne dX13_keep_14 (by omega) (fun h14 => ?_) (fun h14 => ?_)
      · exfalso; omega
      · refine mm_bipush dX13_keep_17 rfl (by decide) ?_
        refine mm_iret dX13_keep_19 rfl rfl ?_
        exact mm_fin (by rw [if_pos (by omega), if_neg (by omega)]) (by rw [if_neg hs])
    · refine mm_bipush dX13_keep_7 rfl (by decide) ?_
      refine mm_iret dX13_keep_9 rfl rfl ?_
      exact mm_fin (by rw [if_neg (by omega)]) (by rw [if_neg hs])
end

