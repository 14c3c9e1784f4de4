/-! ===== KitePower$Row ===== -/
/-- the cell rc is a row with room for len acts; its two arrays follow it -/
def mm_rw (rc len : Nat) : Prop := mm_sh rc = (0, 8) ∧ mm_sh (rc + 1) = (1, len) ∧ mm_sh (rc + 2) = (1, len) ∧ rc + 2 < 183 ∧ mm_rt rc 0 = ((rc + 1 : Nat) : Int) + 1 ∧ mm_rt rc 1 = ((rc + 2 : Nat) : Int) + 1 ∧ 0 < len
theorem mm_rw_kept : ∀ k : Nat, k < 6 → mm_rw (121 + 3 * k) 100 ∧ mm_rt 120 k = ((121 + 3 * k : Nat) : Int) + 1 := by unfold mm_rw; decide +kernel
theorem mm_rw_loops : ∀ k : Nat, k < 24 → mm_rw (42 + 3 * k) 288 ∧ mm_rt 22 k = ((42 + 3 * k : Nat) : Int) + 1 := by unfold mm_rw; decide +kernel
theorem mm_rw_stands : ∀ k : Nat, k < 8 → mm_rw (148 + 3 * k) 100 ∧ mm_rt 145 k = ((148 + 3 * k : Nat) : Int) + 1 := by unfold mm_rw; decide +kernel
theorem mm_rw_latest : mm_rw 114 288 := by unfold mm_rw; decide +kernel
theorem mm_rw_judged : mm_rw 117 100 := by unfold mm_rw; decide +kernel
theorem mm_rw.acts {rc len : Nat} (h : mm_rw rc len) {M : mm_M} (hR : mm_Rf M) : M rc 0 = ((rc + 1 : Nat) : Int) + 1 := hR.at h.2.2.2.2.1 (by omega)
theorem mm_rw.states {rc len : Nat} (h : mm_rw rc len) {M : mm_M} (hR : mm_Rf M) : M rc 1 = ((rc + 2 : Nat) : Int) + 1 := hR.at h.2.2.2.2.2.1 (by omega)
theorem mm_rw.c0 {rc len : Nat} (h : mm_rw rc len) : rc < 243 := by have := h.2.2.2.1; omega
theorem mm_rw.c1 {rc len : Nat} (h : mm_rw rc len) : rc + 1 < 243 := by have := h.2.2.2.1; omega
theorem mm_rw.c2 {rc len : Nat} (h : mm_rw rc len) : rc + 2 < 243 := by have := h.2.2.2.1; omega
theorem mm_rt_row {rc len i : Nat} (h : mm_rw rc len) (hi : 2 ≤ i) : mm_rt rc i = 0 := by
  have key : mm_rl.all (fun q => ((mm_sl.getD q.1 (0, 99)).1 != 0 || (mm_sl.getD q.1 (0, 99)).2 != 8) || decide (q.2.1 < 2)) = true := by decide +kernel
  unfold mm_rt
  have : mm_rl.find? (fun q => q.1 == rc && q.2.1 == i) = none := by
    rw [List.find?_eq_none]
    intro q hq hc
    have k := List.all_eq_true.mp key q hq
    simp only [Bool.and_eq_true, beq_iff_eq] at hc
    rw [hc.1] at k
    have e : mm_sl.getD rc (0, 99) = (0, 8) := h.1
    rw [e] at k
    simp at k
    omega
  rw [this]
  rfl
theorem mm_rt_arr {c len : Nat} (h : mm_sh c = (1, len)) (i : Nat) : mm_rt c i = 0 := by
  have key : mm_rl.all (fun q => (mm_sl.getD q.1 (0, 99)).1 != 1) = true := by decide +kernel
  unfold mm_rt
  have : mm_rl.find? (fun q => q.1 == c && q.2.1 == i) = none := by
    rw [List.find?_eq_none]
    intro q hq hc
    have k := List.all_eq_true.mp key q hq
    simp only [Bool.and_eq_true, beq_iff_eq] at hc
    rw [hc.1] at k
    have e : mm_sl.getD c (0, 99) = (1, len) := h
    rw [e] at k
    simp at k
  rw [this]
  rfl
theorem mm_Rf.cp {M : mm_M} (h : mm_Rf M) {d len sp dp n : Nat} {f : Nat → Int} (hd : mm_sh d = (1, len)) : mm_Rf (mm_cp M d f sp dp n) := by
  intro a b hab
  unfold mm_cp
  rw [if_neg (fun q => hab (by rw [q.1]; exact mm_rt_arr hd b))]
  exact h a b hab
/-- the memory after a row was copied from another -/
def mm_cf (M : mm_M) (rc rd len : Nat) : mm_M := fun a b =>
  if a = rc ∧ b = 2 then min (M rd 2) len else if a = rc ∧ b = 3 then M rd 3 else if a = rc + 1 ∧ (b : Int) < min (M rd 2) len then M (rd + 1) b else if a = rc + 2 ∧ (b : Int) < min (M rd 2) len then M (rd + 2) b else M a b
section
variable {X : mm_X} {M : mm_M} {rc rd len len' : Nat}
theorem c_X8_copyFrom (hR : mm_Rf M) (h1 : mm_rw rc len) (h2 : mm_rw rd len') (hne : rc + 3 ≤ rd ∨ rd + 3 ≤ rc) (hl : 0 ≤ M rd 2 ∧ M rd 2 ≤ len') : mm_Fn X Y_X8_copyFrom 243 [(2, (rc : Int) + 1), (2, (rd : Int) + 1)] M (3, 0) (mm_cf M rc rd len) := by
  have hs1 := (mm_shA _ h1.2.1).1
  have hs2 := (mm_shA _ h2.2.1).1
  refine mm_startF (ls := [(2, (rc : Int) + 1), (2, (rd : Int) + 1)]) rfl ?_
  refine mm_aload_n dX8_copyFrom_0 rfl rfl ?_
  refine mm_aload_n dX8_copyFrom_1 rfl rfl ?_
  refine mm_get (kd := 0) dX8_copyFrom_2 rfl fl_X8_22 (c := rd) rfl h2.c0 h2.1 rfl ?_
  refine mm_aload_n dX8_copyFrom_5 rfl rfl ?_
  refine mm_getr dX8_copyFrom_6 rfl fl_X8_13 (c := rc) rfl h1.c0 h1.1 rfl (h1.acts hR) ?_
  refine mm_aln dX8_copyFrom_9 rfl (c := rc + 1) rfl h1.c1 h1.2.1 ?_
  refine mm_min dX8_copyFrom_10 rfl lm_X8_26 rfl rfl (by simp) (by omega) (by omega) ?_
  refine mm_puti dX8_copyFrom_13 rfl fl_X8_22 (c := rc) rfl h1.c0 h1.1 rfl (fun M13 hM13 => ?_)
  have hR13 : mm_Rf M13 := by rw [hM13]; exact hR.up (mm_rt_row h1 (by omega))
  refine mm_aload_n dX8_copyFrom_16 rfl rfl ?_
  refine mm_getr dX8_copyFrom_17 rfl fl_X8_13 (c := rd) rfl h2.c0 h2.1 rfl (h2.acts hR13) ?_
  refine mm_iconst dX8_copyFrom_20 rfl ?_
  refine mm_aload_n dX8_copyFrom_21 rfl rfl ?_
  refine mm_getr dX8_copyFrom_22 rfl fl_X8_13 (c := rc) rfl h1.c0 h1.1 rfl (h1.acts hR13) ?_
  refine mm_iconst dX8_copyFrom_25 rfl ?_
  refine mm_aload_n dX8_copyFrom_26 rfl rfl ?_
  refine mm_get (kd := 0) dX8_copyFrom_27 rfl fl_X8_22 (c := rc) rfl h1.c0 h1.1 rfl ?_
  have e13 : M13 rc 2 = min (M rd 2) len := by rw [hM13, mm_up_s]
  rw [e13]
  refine mm_copy dX8_copyFrom_30 rfl la_X8_29 rfl rfl (c := rd + 1) rfl h2.c1 h2.2.1 (d := rc + 1) rfl h1.c1 h1.2.1 (by omega) (by omega) (by omega) (by omega) (by omega) ?_
  obtain ⟨M30, hM30⟩ : ∃ m, m = mm_cp M13 (rc + 1) (M13 (rd + 1)) (0 : Int).toNat (0 : Int).toNat (min (M rd 2) (len : Int)).toNat := ⟨_, rfl⟩
  rw [← hM30]
  have hR30 : mm_Rf M30 := by rw [hM30]; exact hR13.cp h1.2.1
  refine mm_aload_n dX8_copyFrom_33 rfl rfl ?_
  refine mm_getr dX8_copyFrom_34 rfl fl_X8_19 (c := rd) rfl h2.c0 h2.1 rfl (h2.states hR30) ?_
  refine mm_iconst dX8_copyFrom_37 rfl ?_
  refine mm_aload_n dX8_copyFrom_38 rfl rfl ?_
  refine mm_getr dX8_copyFrom_39 rfl fl_X8_19 (c := rc) rfl h1.c0 h1.1 rfl (h1.states hR30) ?_
  refine mm_iconst dX8_copyFrom_42 rfl ?_
  refine mm_aload_n dX8_copyFrom_43 rfl rfl ?_
  refine mm_get (kd := 0) dX8_copyFrom_44 rfl fl_X8_22 (c := rc) rfl h1.c0 h1.1 rfl ?_
  have e30 : M30 rc 2 = min (M rd 2) len := by
    rw [hM30]; unfold mm_cp; rw [if_neg (fun q => absurd q.1 (by omega)), e13]
  rw [e30]
  refine mm_copy dX8_copyFrom_47 rfl la_X8_29 rfl rfl (c := rd + 2) rfl h2.c2 h2.2.2.1 (d := rc + 2) rfl h1.c2 h1.2.2.1 (by omega) (by omega) (by omega) (by omega) (by omega) ?_
  obtain ⟨M47, hM47⟩ : ∃ m, m = mm_cp M30 (rc + 2) (M30 (rd + 2)) (0 : Int).toNat (0 : Int).toNat (min (M rd 2) (len : Int)).toNat := ⟨_, rfl⟩
  rw [← hM47]
  have hR47 : mm_Rf M47 := by rw [hM47]; exact hR30.cp h1.2.2.1
  refine mm_aload_n dX8_copyFrom_50 rfl rfl ?_
  refine mm_aload_n dX8_copyFrom_51 rfl rfl ?_
  refine mm_get (kd := 0) dX8_copyFrom_52 rfl fl_X8_35 (c := rd) rfl h2.c0 h2.1 rfl ?_
  refine mm_puti dX8_copyFrom_55 rfl fl_X8_35 (c := rc) rfl h1.c0 h1.1 rfl (fun M55 hM55 => ?_)
  have hR55 : mm_Rf M55 := by rw [hM55]; exact hR47.up (mm_rt_row h1 (by omega))
  refine mm_vret dX8_copyFrom_58 rfl rfl ?_
  refine mm_fin rfl ?_
  have up : ∀ a b : Nat, M13 a b = if a = rc ∧ b = 2 then min (M rd 2) len else M a b := fun a b => by rw [hM13]; rfl
  funext a b
  rw [hM55]
  unfold mm_up
  by_cases c1 : a = rc ∧ b = 3
  · rw [if_pos c1]
    unfold mm_cf
    rw [if_neg (by omega), if_pos c1, hM47]
    unfold mm_cp
    rw [if_neg (by omega), hM30]
    unfold mm_cp
    rw [if_neg (by omega), up, if_neg (by omega)]
  · rw [if_neg c1, hM47]
    unfold mm_cf mm_cp
    by_cases c2 : a = rc + 2 ∧ (b : Int) < min (M rd 2) len
    · rw [if_pos (by omega), if_neg (by omega), if_neg (by omega), if_neg (by omega), if_pos c2, hM30]
      unfold mm_cp
      rw [if_neg (by omega), up, if_neg (by omega)]
      congr 1
      omega
    · rw [if_neg (by omega), hM30]
      unfold mm_cp
      by_cases c3 : a = rc + 1 ∧ (b : Int) < min (M rd 2) len
      · rw [if_pos (by omega), if_neg (by omega), if_neg (by omega), if_pos c3, up, if_neg (by omega)]
        congr 1
        omega
      · rw [if_neg (by omega), up]
        by_cases c4 : a = rc ∧ b = 2
        · rw [if_pos c4, if_pos c4]
        · rw [if_neg c4, if_neg c4, if_neg c1, if_neg c3, if_neg c2]
end

