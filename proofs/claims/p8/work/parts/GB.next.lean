/-! ===== the reference: isNext ===== -/
/-- the act goes on along a loop that is the best: so many acts are left to the goal -/
def ky_n (M : mm_M) (h : Int) (s : Nat) (a left goal : Int) : Prop := ks_safe (mm_rk M) (M 203) (M 204) (s : Int) a h ∧ M 208 s + (M 183 40 * ks_sure (mm_rk M) (M 203) (M 204) (s : Int) a h - M 183 39) = M 208 (ks_to (mm_rk M) (s : Int) a).toNat ∧ (if left = 0 then ks_to (mm_rk M) (s : Int) a = goal else M 211 (ks_to (mm_rk M) (s : Int) a).toNat = left)
section
variable {X : mm_X} {M : mm_M} {n : Nat}
theorem c_X13_isNext {s : Nat} {a h left goal b : Int} (hR : mm_Rf M) (hK : mm_KV (mm_rk M)) (hA : mm_RA M) (hh : ks_hr h) (hn : ks_n (mm_rk M) = (n : Int)) (hB : ky_B M n) (hs : s < n) (ha : ks_ac (mm_rk M) a) (hl : 0 ≤ left ∧ left ≤ 1000) (hg : mm_R goal) (hf : ∀ v, v < n → 0 ≤ M 211 v ∧ M 211 v ≤ 1000000)
    (hb : (b = 1 ∧ ky_n M h s a left goal) ∨ (b = 0 ∧ ¬ ky_n M h s a left goal)) :
    mm_Fn X Y_X13_isNext 243 [(2, 184), (0, (s : Int)), (0, a), (0, h), (0, left), (0, goal)] M (0, b) M := by
  have hnb := ks_nb hK
  have h10 : 1 ≤ mm_rk M 10 ∧ mm_rk M 10 ≤ 3 := by
    obtain ⟨-, -, -, -, -, -, -, -, -, -, q, -⟩ := hK
    exact q
  have hst : ks_st (mm_rk M) (s : Int) := ⟨by omega, by omega⟩
  have cs := c_X13_isSafe (X := X) hR hK hA hst ha hh
  have cg := c_X13_surely (X := X) hR hK hA hst ha hh
  have ca := c_X13_after (X := X) (s := (s : Int)) (a := a) hR (by omega)
  have gb := ks_sureb (Lo := M 203) (Hi := M 204) (s := (s : Int)) (hr := h) hK ha (hA.wi hK hst hh).1 (hA.wi hK hst hh).2
  refine mm_startF (ls := [(2, 184), (0, (s : Int)), (0, a), (0, h), (0, left), (0, goal), (9, 0)]) rfl ?_
  by_cases hsf : ks_safe (mm_rk M) (M 203) (M 204) (s : Int) a h
  · rw [mm_b_t hsf] at cs
    have ht := ks_to_st hK hst hsf.1
    obtain ⟨T, hT⟩ : ∃ T : Nat, (T : Int) = ks_to (mm_rk M) (s : Int) a := ⟨(ks_to (mm_rk M) (s : Int) a).toNat, by omega⟩
    have hTn : T < n := by omega
    rw [← hT] at ca
    have ct := c_X13_isTight (X := X) (t := T) hR (by omega) hB hs hTn gb
    have hfT := hf T hTn
    have hbt : (b = 1 ∧ (M 208 s + (M 183 40 * ks_sure (mm_rk M) (M 203) (M 204) (s : Int) a h - M 183 39) = M 208 T ∧ (if left = 0 then (T : Int) = goal else M 211 T = left))) ∨ (b = 0 ∧ ¬ (M 208 s + (M 183 40 * ks_sure (mm_rk M) (M 203) (M 204) (s : Int) a h - M 183 39) = M 208 T ∧ (if left = 0 then (T : Int) = goal else M 211 T = left))) := by
      unfold ky_n at hb
      rw [← hT, show ((T : Int)).toNat = T by omega] at hb
      rcases hb with ⟨q1, -, q2⟩ | ⟨q1, q2⟩
      · exact Or.inl ⟨q1, q2⟩
      · exact Or.inr ⟨q1, fun z => q2 ⟨hsf, z⟩⟩
    by_cases htt : M 208 s + (M 183 40 * ks_sure (mm_rk M) (M 203) (M 204) (s : Int) a h - M 183 39) = M 208 T
    · rw [mm_b_t htt] at ct
      have hbu : (b = 1 ∧ (if left = 0 then (T : Int) = goal else M 211 T = left)) ∨ (b = 0 ∧ ¬ (if left = 0 then (T : Int) = goal else M 211 T = left)) := by
        rcases hbt with ⟨q1, q2⟩ | ⟨q1, q2⟩
        · exact Or.inl ⟨q1, q2.2⟩
        · exact Or.inr ⟨q1, fun z => q2 ⟨htt, z⟩⟩
      clear hbt hb htt
      by_cases hl0 : left = 0
      · rw [if_pos hl0] at hbu
        refine mm_aload_n dX13_isNext_0 rfl rfl ?_
        refine mm_iload_n dX13_isNext_1 rfl rfl ?_
        refine mm_iload_n dX13_isNext_2 rfl rfl ?_
        refine mm_iload_n dX13_isNext_3 rfl rfl ?_
        refine mm_V3i dX13_isNext_4 rfl lk_X13_510 (c := 183) rfl (by decide) rfl (by simp) (by simp) (by simp) rfl rfl rfl (cs) ?_
        refine mm_ifne dX13_isNext_7 (by omega) (fun _ => ?_) (fun h => absurd h (by decide))
        refine mm_aload_n dX13_isNext_12 rfl rfl ?_
        refine mm_iload_n dX13_isNext_13 rfl rfl ?_
        refine mm_iload_n dX13_isNext_14 rfl rfl ?_
        refine mm_V2i dX13_isNext_15 rfl lk_X13_476 (c := 183) rfl (by decide) rfl (by simp) (by simp) rfl rfl rfl (ca) ?_
        refine mm_istore dX13_isNext_18 rfl (Nat.le_of_ble_eq_true rfl) rfl ?_
        refine mm_aload_n dX13_isNext_20 rfl rfl ?_
        refine mm_iload_n dX13_isNext_21 rfl rfl ?_
        refine mm_aload_n dX13_isNext_22 rfl rfl ?_
        refine mm_iload_n dX13_isNext_23 rfl rfl ?_
        refine mm_iload_n dX13_isNext_24 rfl rfl ?_
        refine mm_iload_n dX13_isNext_25 rfl rfl ?_
        refine mm_V3i dX13_isNext_26 rfl lk_X13_514 (c := 183) rfl (by decide) rfl (by simp) (by simp) (by simp) rfl rfl rfl (cg) ?_
        refine mm_iload dX13_isNext_29 rfl rfl ?_
        refine mm_V3i dX13_isNext_31 rfl lk_X13_537 (c := 183) rfl (by decide) rfl (by simp) (by simp) (by simp) rfl rfl rfl (ct) ?_
        refine mm_ifeq dX13_isNext_34 (by omega) (fun h => absurd h (by decide)) (fun _ => ?_)
        refine mm_iload dX13_isNext_37 rfl rfl ?_
        refine mm_ifne dX13_isNext_39 (by omega) (fun h39 => ?_) (fun h39 => ?_)
        · exfalso; omega
        · refine mm_iload dX13_isNext_42 rfl rfl ?_
          refine mm_iload dX13_isNext_44 rfl rfl ?_
          refine mm_icne dX13_isNext_46 (by omega) (by omega) (fun h46 => ?_) (fun h46 => ?_)
          · refine mm_iconst dX13_isNext_68 rfl ?_
            refine mm_zret dX13_isNext_69 rfl rfl (Or.inl rfl) ?_
            exact mm_fin (by omega) rfl
          · refine mm_goto dX13_isNext_49 ?_
            refine mm_iconst dX13_isNext_64 rfl ?_
            refine mm_goto dX13_isNext_65 ?_
            refine mm_zret dX13_isNext_69 rfl rfl (Or.inr rfl) ?_
            exact mm_fin (by omega) rfl
      · rw [if_neg hl0] at hbu
        refine mm_aload_n dX13_isNext_0 rfl rfl ?_
        refine mm_iload_n dX13_isNext_1 rfl rfl ?_
        refine mm_iload_n dX13_isNext_2 rfl rfl ?_
        refine mm_iload_n dX13_isNext_3 rfl rfl ?_
        refine mm_V3i dX13_isNext_4 rfl lk_X13_510 (c := 183) rfl (by decide) rfl (by simp) (by simp) (by simp) rfl rfl rfl (cs) ?_
        refine mm_ifne dX13_isNext_7 (by omega) (fun _ => ?_) (fun h => absurd h (by decide))
        refine mm_aload_n dX13_isNext_12 rfl rfl ?_
        refine mm_iload_n dX13_isNext_13 rfl rfl ?_
        refine mm_iload_n dX13_isNext_14 rfl rfl ?_
        refine mm_V2i dX13_isNext_15 rfl lk_X13_476 (c := 183) rfl (by decide) rfl (by simp) (by simp) rfl rfl rfl (ca) ?_
        refine mm_istore dX13_isNext_18 rfl (Nat.le_of_ble_eq_true rfl) rfl ?_
        refine mm_aload_n dX13_isNext_20 rfl rfl ?_
        refine mm_iload_n dX13_isNext_21 rfl rfl ?_
        refine mm_aload_n dX13_isNext_22 rfl rfl ?_
        refine mm_iload_n dX13_isNext_23 rfl rfl ?_
        refine mm_iload_n dX13_isNext_24 rfl rfl ?_
        refine mm_iload_n dX13_isNext_25 rfl rfl ?_
        refine mm_V3i dX13_isNext_26 rfl lk_X13_514 (c := 183) rfl (by decide) rfl (by simp) (by simp) (by simp) rfl rfl rfl (cg) ?_
        refine mm_iload dX13_isNext_29 rfl rfl ?_
        refine mm_V3i dX13_isNext_31 rfl lk_X13_537 (c := 183) rfl (by decide) rfl (by simp) (by simp) (by simp) rfl rfl rfl (ct) ?_
        refine mm_ifeq dX13_isNext_34 (by omega) (fun h => absurd h (by decide)) (fun _ => ?_)
        refine mm_iload dX13_isNext_37 rfl rfl ?_
        refine mm_ifne dX13_isNext_39 (by omega) (fun h39 => ?_) (fun h39 => ?_)
        · refine mm_aload_n dX13_isNext_52 rfl rfl ?_
          refine mm_getr dX13_isNext_53 rfl fl_X13_280 (c := 183) rfl (by decide) rfl rfl (hR.at (c := 183) (i := 44) (v := 212) rfl (by decide)) ?_
          refine mm_iload dX13_isNext_56 rfl rfl ?_
          refine mm_ialk (k0 := T) dX13_isNext_58 rfl (c := 211) rfl (by decide) rfl (by omega) (by omega) ?_
          refine mm_iload dX13_isNext_59 rfl rfl ?_
          refine mm_icne dX13_isNext_61 (by omega) (by omega) (fun h61 => ?_) (fun h61 => ?_)
          · refine mm_iconst dX13_isNext_68 rfl ?_
            refine mm_zret dX13_isNext_69 rfl rfl (Or.inl rfl) ?_
            exact mm_fin (by omega) rfl
          · refine mm_iconst dX13_isNext_64 rfl ?_
            refine mm_goto dX13_isNext_65 ?_
            refine mm_zret dX13_isNext_69 rfl rfl (Or.inr rfl) ?_
            exact mm_fin (by omega) rfl
        · exfalso; omega
    · rw [mm_b_f htt] at ct
      have b0 : b = 0 := by
        rcases hbt with ⟨q1, q2⟩ | ⟨q1, q2⟩
        · exact absurd q2.1 htt
        · exact q1
      refine mm_aload_n dX13_isNext_0 rfl rfl ?_
      refine mm_iload_n dX13_isNext_1 rfl rfl ?_
      refine mm_iload_n dX13_isNext_2 rfl rfl ?_
      refine mm_iload_n dX13_isNext_3 rfl rfl ?_
      refine mm_V3i dX13_isNext_4 rfl lk_X13_510 (c := 183) rfl (by decide) rfl (by simp) (by simp) (by simp) rfl rfl rfl (cs) ?_
      refine mm_ifne dX13_isNext_7 (by omega) (fun _ => ?_) (fun h => absurd h (by decide))
      refine mm_aload_n dX13_isNext_12 rfl rfl ?_
      refine mm_iload_n dX13_isNext_13 rfl rfl ?_
      refine mm_iload_n dX13_isNext_14 rfl rfl ?_
      refine mm_V2i dX13_isNext_15 rfl lk_X13_476 (c := 183) rfl (by decide) rfl (by simp) (by simp) rfl rfl rfl (ca) ?_
      refine mm_istore dX13_isNext_18 rfl (Nat.le_of_ble_eq_true rfl) rfl ?_
      refine mm_aload_n dX13_isNext_20 rfl rfl ?_
      refine mm_iload_n dX13_isNext_21 rfl rfl ?_
      refine mm_aload_n dX13_isNext_22 rfl rfl ?_
      refine mm_iload_n dX13_isNext_23 rfl rfl ?_
      refine mm_iload_n dX13_isNext_24 rfl rfl ?_
      refine mm_iload_n dX13_isNext_25 rfl rfl ?_
      refine mm_V3i dX13_isNext_26 rfl lk_X13_514 (c := 183) rfl (by decide) rfl (by simp) (by simp) (by simp) rfl rfl rfl (cg) ?_
      refine mm_iload dX13_isNext_29 rfl rfl ?_
      refine mm_V3i dX13_isNext_31 rfl lk_X13_537 (c := 183) rfl (by decide) rfl (by simp) (by simp) (by simp) rfl rfl rfl (ct) ?_
      refine mm_ifeq dX13_isNext_34 (by omega) (fun _ => ?_) (fun h => absurd (by decide) h)
      refine mm_iconst dX13_isNext_68 rfl ?_
      refine mm_zret dX13_isNext_69 rfl rfl (Or.inl rfl) ?_
      exact mm_fin b0.symm rfl
  · rw [mm_b_f hsf] at cs
    have b0 : b = 0 := by
      rcases hb with ⟨q1, q2⟩ | ⟨q1, q2⟩
      · exact absurd q2.1 hsf
      · exact q1
    refine mm_aload_n dX13_isNext_0 rfl rfl ?_
    refine mm_iload_n dX13_isNext_1 rfl rfl ?_
    refine mm_iload_n dX13_isNext_2 rfl rfl ?_
    refine mm_iload_n dX13_isNext_3 rfl rfl ?_
    refine mm_V3i dX13_isNext_4 rfl lk_X13_510 (c := 183) rfl (by decide) rfl (by simp) (by simp) (by simp) rfl rfl rfl (cs) ?_
    refine mm_ifne dX13_isNext_7 (by omega) (fun h => absurd h (by decide)) (fun _ => ?_)
    refine mm_iconst dX13_isNext_10 rfl ?_
    refine mm_zret dX13_isNext_11 rfl rfl (Or.inl rfl) ?_
    exact mm_fin b0.symm rfl
end

