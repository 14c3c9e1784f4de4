/-! GA.far -/
section
/-! ===== the reference: leadsTo ===== -/
/-- the steps that keep the level, as they are told -/
def ky_M (M : mm_M) (n : Nat) : Prop := ∀ s, s < n → ∃ c : Nat, M 210 s = (c : Int) ∧ c ≤ 15 ∧ ∀ j, j < c → ∃ v : Nat, v < n ∧ M 209 (15 * s + j) = (v : Int)
/-- the j-th of them leads on -/
def ky_c (M : mm_M) (s j : Nat) (goal r : Int) : Prop := if r = 1 then M 209 (15 * s + j) = goal else M 211 (M 209 (15 * s + j)).toNat = r - 1
section
variable {X : mm_X} {M : mm_M} {n : Nat}
theorem c_X13_leadsTo {s c : Nat} {goal r b : Int} (hR : mm_Rf M) (hn2 : n ≤ 288) (hM : ky_M M n) (hs : s < n) (hc : M 210 s = (c : Int)) (hg : mm_R goal) (hr : 1 ≤ r ∧ r ≤ 1000000) (hf : ∀ v, v < n → 0 ≤ M 211 v ∧ M 211 v ≤ 1000000)
    (hb : (b = 1 ∧ ∃ j, j < c ∧ ky_c M s j goal r) ∨ (b = 0 ∧ ∀ j, j < c → ¬ ky_c M s j goal r)) :
    mm_Fn X Y_X13_leadsTo 243 [(2, 184), (0, (s : Int)), (0, goal), (0, r)] M (0, b) M := by
  have hc15 : c ≤ 15 := by
    obtain ⟨d, d1, d2, -⟩ := hM s hs
    omega
  have hv : ∀ j, j < c → ∃ v : Nat, v < n ∧ M 209 (15 * s + j) = (v : Int) := by
    obtain ⟨d, d1, d2, d3⟩ := hM s hs
    have : d = c := by omega
    rw [← this]
    exact d3
  refine mm_startF (ls := [(2, 184), (0, (s : Int)), (0, goal), (0, r), (9, 0)]) rfl ?_
  have loop : ∀ j : Nat, j ≤ c → (∀ i, i < j → ¬ ky_c M s i goal r) → mm_J X Y_X13_leadsTo 243 243 243 3 [(2, 184), (0, (s : Int)), (0, goal), (0, r), (0, (j : Int))] [] M (fun r' M' => r' = (0, b) ∧ M' = M) := by
    refine mm_lp ?_
    intro j hj ih hno
    by_cases hlt : j < c
    · obtain ⟨v, hvn, hve⟩ := hv j hlt
      have hfv := hf v hvn
      have yes : ky_c M s j goal r → b = 1 := by
        intro q
        rcases hb with q1 | q1
        · exact q1.1
        · exact absurd q (q1.2 j hlt)
      have no : ¬ ky_c M s j goal r → mm_J X Y_X13_leadsTo 243 243 243 3 [(2, 184), (0, (s : Int)), (0, goal), (0, r), (0, (j : Int) + 1)] [] M (fun r' M' => r' = (0, b) ∧ M' = M) := by
        intro q
        have go := ih hlt (fun i hi => by
          by_cases c : i = j
          · rw [c]; exact q
          · exact hno i (by omega))
        rw [show ((j + 1 : Nat) : Int) = (j : Int) + 1 by omega] at go
        exact go
      by_cases hr1 : r = 1
      · have kc : ky_c M s j goal r ↔ (v : Int) = goal := by unfold ky_c; rw [if_pos hr1, hve]
        refine mm_iload dX13_leadsTo_3 rfl rfl ?_
        refine mm_aload_n dX13_leadsTo_5 rfl rfl ?_
        refine mm_getr dX13_leadsTo_6 rfl fl_X13_277 (c := 183) rfl (by decide) rfl rfl (hR.at (c := 183) (i := 43) (v := 211) rfl (by decide)) ?_
        refine mm_iload_n dX13_leadsTo_9 rfl rfl ?_
        refine mm_ialk (k0 := s) dX13_leadsTo_10 rfl (c := 210) rfl (by decide) rfl (by omega) (by omega) ?_
        rw [hc]
        refine mm_icge dX13_leadsTo_11 (by omega) (by omega) (fun h11 => ?_) (fun h11 => ?_)
        · exfalso; omega
        · refine mm_iload_n dX13_leadsTo_14 rfl rfl ?_
          refine mm_iconst dX13_leadsTo_15 rfl ?_
          refine mm_icne dX13_leadsTo_16 (by omega) (by omega) (fun h16 => ?_) (fun h16 => ?_)
          · exact absurd hr1 h16
          · refine mm_aload_n dX13_leadsTo_19 rfl rfl ?_
            refine mm_getr dX13_leadsTo_20 rfl fl_X13_274 (c := 183) rfl (by decide) rfl rfl (hR.at (c := 183) (i := 42) (v := 210) rfl (by decide)) ?_
            refine mm_bipush dX13_leadsTo_23 rfl (by decide) ?_
            refine mm_iload_n dX13_leadsTo_25 rfl rfl ?_
            refine mm_imul dX13_leadsTo_26 rfl ?_
            refine mm_iload dX13_leadsTo_27 rfl rfl ?_
            refine mm_iadd dX13_leadsTo_29 rfl ?_
            refine mm_ialk (k0 := 15 * s + j) dX13_leadsTo_30 rfl (c := 209) rfl (by decide) rfl (by omega) (by omega) ?_
            rw [hve]
            refine mm_iload_n dX13_leadsTo_31 rfl rfl ?_
            refine mm_icne dX13_leadsTo_32 (by omega) (by omega) (fun h32 => ?_) (fun h32 => ?_)
            · refine mm_iinc dX13_leadsTo_63 rfl rfl (Nat.le_of_ble_eq_true rfl) rfl ?_
              refine mm_goto dX13_leadsTo_66 ?_
              exact no (fun q => absurd (kc.mp q) (by omega))
            · refine mm_goto dX13_leadsTo_35 ?_
              refine mm_iconst dX13_leadsTo_61 rfl ?_
              refine mm_zret dX13_leadsTo_62 rfl rfl (Or.inr rfl) ?_
              exact ⟨by rw [yes (kc.mpr (by omega))], rfl⟩
      · have kc : ky_c M s j goal r ↔ M 211 v = r - 1 := by unfold ky_c; rw [if_neg hr1, hve]; exact Iff.rfl
        refine mm_iload dX13_leadsTo_3 rfl rfl ?_
        refine mm_aload_n dX13_leadsTo_5 rfl rfl ?_
        refine mm_getr dX13_leadsTo_6 rfl fl_X13_277 (c := 183) rfl (by decide) rfl rfl (hR.at (c := 183) (i := 43) (v := 211) rfl (by decide)) ?_
        refine mm_iload_n dX13_leadsTo_9 rfl rfl ?_
        refine mm_ialk (k0 := s) dX13_leadsTo_10 rfl (c := 210) rfl (by decide) rfl (by omega) (by omega) ?_
        rw [hc]
        refine mm_icge dX13_leadsTo_11 (by omega) (by omega) (fun h11 => ?_) (fun h11 => ?_)
        · exfalso; omega
        · refine mm_iload_n dX13_leadsTo_14 rfl rfl ?_
          refine mm_iconst dX13_leadsTo_15 rfl ?_
          refine mm_icne dX13_leadsTo_16 (by omega) (by omega) (fun h16 => ?_) (fun h16 => ?_)
          · refine mm_aload_n dX13_leadsTo_38 rfl rfl ?_
            refine mm_getr dX13_leadsTo_39 rfl fl_X13_280 (c := 183) rfl (by decide) rfl rfl (hR.at (c := 183) (i := 44) (v := 212) rfl (by decide)) ?_
            refine mm_aload_n dX13_leadsTo_42 rfl rfl ?_
            refine mm_getr dX13_leadsTo_43 rfl fl_X13_274 (c := 183) rfl (by decide) rfl rfl (hR.at (c := 183) (i := 42) (v := 210) rfl (by decide)) ?_
            refine mm_bipush dX13_leadsTo_46 rfl (by decide) ?_
            refine mm_iload_n dX13_leadsTo_48 rfl rfl ?_
            refine mm_imul dX13_leadsTo_49 rfl ?_
            refine mm_iload dX13_leadsTo_50 rfl rfl ?_
            refine mm_iadd dX13_leadsTo_52 rfl ?_
            refine mm_ialk (k0 := 15 * s + j) dX13_leadsTo_53 rfl (c := 209) rfl (by decide) rfl (by omega) (by omega) ?_
            rw [hve]
            refine mm_ialk (k0 := v) dX13_leadsTo_54 rfl (c := 211) rfl (by decide) rfl (by omega) (by omega) ?_
            refine mm_iload_n dX13_leadsTo_55 rfl rfl ?_
            refine mm_iconst dX13_leadsTo_56 rfl ?_
            refine mm_isub dX13_leadsTo_57 rfl ?_
            refine mm_icne dX13_leadsTo_58 (by omega) (by omega) (fun h58 => ?_) (fun h58 => ?_)
            · refine mm_iinc dX13_leadsTo_63 rfl rfl (Nat.le_of_ble_eq_true rfl) rfl ?_
              refine mm_goto dX13_leadsTo_66 ?_
              exact no (fun q => absurd (kc.mp q) (by omega))
            · refine mm_iconst dX13_leadsTo_61 rfl ?_
              refine mm_zret dX13_leadsTo_62 rfl rfl (Or.inr rfl) ?_
              exact ⟨by rw [yes (kc.mpr (by omega))], rfl⟩
          · exact absurd (by omega) hr1
    · have e : j = c := by omega
      have e0 : b = 0 := by
        rcases hb with ⟨-, i, i1, i2⟩ | q
        · exact absurd i2 (hno i (by omega))
        · exact q.1
      refine mm_iload dX13_leadsTo_3 rfl rfl ?_
      refine mm_aload_n dX13_leadsTo_5 rfl rfl ?_
      refine mm_getr dX13_leadsTo_6 rfl fl_X13_277 (c := 183) rfl (by decide) rfl rfl (hR.at (c := 183) (i := 43) (v := 211) rfl (by decide)) ?_
      refine mm_iload_n dX13_leadsTo_9 rfl rfl ?_
      refine mm_ialk (k0 := s) dX13_leadsTo_10 rfl (c := 210) rfl (by decide) rfl (by omega) (by omega) ?_
      rw [hc]
      refine mm_icge dX13_leadsTo_11 (by omega) (by omega) (fun h11 => ?_) (fun h11 => ?_)
      · refine mm_iconst dX13_leadsTo_69 rfl ?_
        refine mm_zret dX13_leadsTo_70 rfl rfl (Or.inl rfl) ?_
        exact ⟨by rw [e0], rfl⟩
      · exfalso; omega
  refine mm_iconst dX13_leadsTo_0 rfl ?_
  refine mm_istore dX13_leadsTo_1 rfl (Nat.le_of_ble_eq_true rfl) rfl ?_
  exact loop 0 (Nat.zero_le _) (fun i hi => absurd hi (by omega))
end
end
/-! GB.next -/
section
/-! ===== the reference: isNext ===== -/
/-- the act goes on along a loop that is the best: so many acts are left to the goal -/
def ky_n (M : mm_M) (h : Int) (s : Nat) (a left goal : Int) : Prop := ks_safe (mm_rk M) (M 203) (M 204) (s : Int) a h ∧ M 208 s + (M 183 40 * ks_sure (mm_rk M) (M 203) (M 204) (s : Int) a h - M 183 39) = M 208 (ks_to (mm_rk M) (s : Int) a).toNat ∧ (if left = 0 then ks_to (mm_rk M) (s : Int) a = goal else M 211 (ks_to (mm_rk M) (s : Int) a).toNat = left)
section
variable {X : mm_X} {M : mm_M} {n : Nat}
theorem c_X13_isNext {s : Nat} {a h left goal b : Int} (hR : mm_Rf M) (hK : mm_KV (mm_rk M)) (hA : mm_RA M) (hh : ks_hr h) (hn : ks_n (mm_rk M) = (n : Int)) (hB : ky_B M n) (hs : s < n) (ha : ks_ac (mm_rk M) a) (hl : 0 ≤ left ∧ left ≤ 1000) (hg : mm_R goal) (hf : ∀ v, v < n → 0 ≤ M 211 v ∧ M 211 v ≤ 1000000)
    (hb : (b = 1 ∧ ky_n M h s a left goal) ∨ (b = 0 ∧ ¬ ky_n M h s a left goal)) :
    mm_Fn X Y_X13_isNext 243 [(2, 184), (0, (s : Int)), (0, a), (0, h), (0, left), (0, goal)] M (0, b) M := by
  have hnb := ks_nb hK
  have h10 : 1 ≤ mm_rk M 10 ∧ mm_rk M 10 ≤ 3 := by
    obtain ⟨-, -, -, -, -, -, -, -, -, -, q, -⟩ := hK
    exact q
  have hst : ks_st (mm_rk M) (s : Int) := ⟨by omega, by omega⟩
  have cs := c_X13_isSafe (X := X) hR hK hA hst ha hh
  have cg := c_X13_surely (X := X) hR hK hA hst ha hh
  have ca := c_X13_after (X := X) (s := (s : Int)) (a := a) hR (by omega)
  have gb := ks_sureb (Lo := M 203) (Hi := M 204) (s := (s : Int)) (hr := h) hK ha (hA.wi hK hst hh).1 (hA.wi hK hst hh).2
  refine mm_startF (ls := [(2, 184), (0, (s : Int)), (0, a), (0, h), (0, left), (0, goal), (9, 0)]) rfl ?_
  by_cases hsf : ks_safe (mm_rk M) (M 203) (M 204) (s : Int) a h
  · rw [mm_b_t hsf] at cs
    have ht := ks_to_st hK hst hsf.1
    obtain ⟨T, hT⟩ : ∃ T : Nat, (T : Int) = ks_to (mm_rk M) (s : Int) a := ⟨(ks_to (mm_rk M) (s : Int) a).toNat, by omega⟩
    have hTn : T < n := by omega
    rw [← hT] at ca
    have ct := c_X13_isTight (X := X) (t := T) hR (by omega) hB hs hTn gb
    have hfT := hf T hTn
    have hbt : (b = 1 ∧ (M 208 s + (M 183 40 * ks_sure (mm_rk M) (M 203) (M 204) (s : Int) a h - M 183 39) = M 208 T ∧ (if left = 0 then (T : Int) = goal else M 211 T = left))) ∨ (b = 0 ∧ ¬ (M 208 s + (M 183 40 * ks_sure (mm_rk M) (M 203) (M 204) (s : Int) a h - M 183 39) = M 208 T ∧ (if left = 0 then (T : Int) = goal else M 211 T = left))) := by
      unfold ky_n at hb
      rw [← hT, show ((T : Int)).toNat = T by omega] at hb
      rcases hb with ⟨q1, -, q2⟩ | ⟨q1, q2⟩
      · exact Or.inl ⟨q1, q2⟩
      · exact Or.inr ⟨q1, fun z => q2 ⟨hsf, z⟩⟩
    by_cases htt : M 208 s + (M 183 40 * ks_sure (mm_rk M) (M 203) (M 204) (s : Int) a h - M 183 39) = M 208 T
    · rw [mm_b_t htt] at ct
      have hbu : (b = 1 ∧ (if left = 0 then (T : Int) = goal else M 211 T = left)) ∨ (b = 0 ∧ ¬ (if left = 0 then (T : Int) = goal else M 211 T = left)) := by
        rcases hbt with ⟨q1, q2⟩ | ⟨q1, q2⟩
        · exact Or.inl ⟨q1, q2.2⟩
        · exact Or.inr ⟨q1, fun z => q2 ⟨htt, z⟩⟩
      clear hbt hb htt
      by_cases hl0 : left = 0
      · rw [if_pos hl0] at hbu
        refine mm_aload_n dX13_isNext_0 rfl rfl ?_
        refine mm_iload_n dX13_isNext_1 rfl rfl ?_
        refine mm_iload_n dX13_isNext_2 rfl rfl ?_
        refine mm_iload_n dX13_isNext_3 rfl rfl ?_
        refine mm_V3i dX13_isNext_4 rfl lk_X13_510 (c := 183) rfl (by decide) rfl (by simp) (by simp) (by simp) rfl rfl rfl (cs) ?_
        refine mm_ifne dX13_isNext_7 (by omega) (fun _ => ?_) (fun h => absurd h (by decide))
        refine mm_aload_n dX13_isNext_12 rfl rfl ?_
        refine mm_iload_n dX13_isNext_13 rfl rfl ?_
        refine mm_iload_n dX13_isNext_14 rfl rfl ?_
        refine mm_V2i dX13_isNext_15 rfl lk_X13_476 (c := 183) rfl (by decide) rfl (by simp) (by simp) rfl rfl rfl (ca) ?_
        refine mm_istore dX13_isNext_18 rfl (Nat.le_of_ble_eq_true rfl) rfl ?_
        refine mm_aload_n dX13_isNext_20 rfl rfl ?_
        refine mm_iload_n dX13_isNext_21 rfl rfl ?_
        refine mm_aload_n dX13_isNext_22 rfl rfl ?_
        refine mm_iload_n dX13_isNext_23 rfl rfl ?_
        refine mm_iload_n dX13_isNext_24 rfl rfl ?_
        refine mm_iload_n dX13_isNext_25 rfl rfl ?_
        refine mm_V3i dX13_isNext_26 rfl lk_X13_514 (c := 183) rfl (by decide) rfl (by simp) (by simp) (by simp) rfl rfl rfl (cg) ?_
        refine mm_iload dX13_isNext_29 rfl rfl ?_
        refine mm_V3i dX13_isNext_31 rfl lk_X13_537 (c := 183) rfl (by decide) rfl (by simp) (by simp) (by simp) rfl rfl rfl (ct) ?_
        refine mm_ifeq dX13_isNext_34 (by omega) (fun h => absurd h (by decide)) (fun _ => ?_)
        refine mm_iload dX13_isNext_37 rfl rfl ?_
        refine mm_ifne dX13_isNext_39 (by omega) (fun h39 => ?_) (fun h39 => ?_)
        · exfalso; omega
        · refine mm_iload dX13_isNext_42 rfl rfl ?_
          refine mm_iload dX13_isNext_44 rfl rfl ?_
          refine mm_icne dX13_isNext_46 (by omega) (by omega) (fun h46 => ?_) (fun h46 => ?_)
          · refine mm_iconst dX13_isNext_68 rfl ?_
            refine mm_zret dX13_isNext_69 rfl rfl (Or.inl rfl) ?_
            exact mm_fin (by omega) rfl
          · refine mm_goto dX13_isNext_49 ?_
            refine mm_iconst dX13_isNext_64 rfl ?_
            refine mm_goto dX13_isNext_65 ?_
            refine mm_zret dX13_isNext_69 rfl rfl (Or.inr rfl) ?_
            exact mm_fin (by omega) rfl
      · rw [if_neg hl0] at hbu
        refine mm_aload_n dX13_isNext_0 rfl rfl ?_
        refine mm_iload_n dX13_isNext_1 rfl rfl ?_
        refine mm_iload_n dX13_isNext_2 rfl rfl ?_
        refine mm_iload_n dX13_isNext_3 rfl rfl ?_
        refine mm_V3i dX13_isNext_4 rfl lk_X13_510 (c := 183) rfl (by decide) rfl (by simp) (by simp) (by simp) rfl rfl rfl (cs) ?_
        refine mm_ifne dX13_isNext_7 (by omega) (fun _ => ?_) (fun h => absurd h (by decide))
        refine mm_aload_n dX13_isNext_12 rfl rfl ?_
        refine mm_iload_n dX13_isNext_13 rfl rfl ?_
        refine mm_iload_n dX13_isNext_14 rfl rfl ?_
        refine mm_V2i dX13_isNext_15 rfl lk_X13_476 (c := 183) rfl (by decide) rfl (by simp) (by simp) rfl rfl rfl (ca) ?_
        refine mm_istore dX13_isNext_18 rfl (Nat.le_of_ble_eq_true rfl) rfl ?_
        refine mm_aload_n dX13_isNext_20 rfl rfl ?_
        refine mm_iload_n dX13_isNext_21 rfl rfl ?_
        refine mm_aload_n dX13_isNext_22 rfl rfl ?_
        refine mm_iload_n dX13_isNext_23 rfl rfl ?_
        refine mm_iload_n dX13_isNext_24 rfl rfl ?_
        refine mm_iload_n dX13_isNext_25 rfl rfl ?_
        refine mm_V3i dX13_isNext_26 rfl lk_X13_514 (c := 183) rfl (by decide) rfl (by simp) (by simp) (by simp) rfl rfl rfl (cg) ?_
        refine mm_iload dX13_isNext_29 rfl rfl ?_
        refine mm_V3i dX13_isNext_31 rfl lk_X13_537 (c := 183) rfl (by decide) rfl (by simp) (by simp) (by simp) rfl rfl rfl (ct) ?_
        refine mm_ifeq dX13_isNext_34 (by omega) (fun h => absurd h (by decide)) (fun _ => ?_)
        refine mm_iload dX13_isNext_37 rfl rfl ?_
        refine mm_ifne dX13_isNext_39 (by omega) (fun h39 => ?_) (fun h39 => ?_)
        · refine mm_aload_n dX13_isNext_52 rfl rfl ?_
          refine mm_getr dX13_isNext_53 rfl fl_X13_280 (c := 183) rfl (by decide) rfl rfl (hR.at (c := 183) (i := 44) (v := 212) rfl (by decide)) ?_
          refine mm_iload dX13_isNext_56 rfl rfl ?_
          refine mm_ialk (k0 := T) dX13_isNext_58 rfl (c := 211) rfl (by decide) rfl (by omega) (by omega) ?_
          refine mm_iload dX13_isNext_59 rfl rfl ?_
          refine mm_icne dX13_isNext_61 (by omega) (by omega) (fun h61 => ?_) (fun h61 => ?_)
          · refine mm_iconst dX13_isNext_68 rfl ?_
            refine mm_zret dX13_isNext_69 rfl rfl (Or.inl rfl) ?_
            exact mm_fin (by omega) rfl
          · refine mm_iconst dX13_isNext_64 rfl ?_
            refine mm_goto dX13_isNext_65 ?_
            refine mm_zret dX13_isNext_69 rfl rfl (Or.inr rfl) ?_
            exact mm_fin (by omega) rfl
        · exfalso; omega
    · rw [mm_b_f htt] at ct
      have b0 : b = 0 := by
        rcases hbt with ⟨q1, q2⟩ | ⟨q1, q2⟩
        · exact absurd q2.1 htt
        · exact q1
      refine mm_aload_n dX13_isNext_0 rfl rfl ?_
      refine mm_iload_n dX13_isNext_1 rfl rfl ?_
      refine mm_iload_n dX13_isNext_2 rfl rfl ?_
      refine mm_iload_n dX13_isNext_3 rfl rfl ?_
      refine mm_V3i dX13_isNext_4 rfl lk_X13_510 (c := 183) rfl (by decide) rfl (by simp) (by simp) (by simp) rfl rfl rfl (cs) ?_
      refine mm_ifne dX13_isNext_7 (by omega) (fun _ => ?_) (fun h => absurd h (by decide))
      refine mm_aload_n dX13_isNext_12 rfl rfl ?_
      refine mm_iload_n dX13_isNext_13 rfl rfl ?_
      refine mm_iload_n dX13_isNext_14 rfl rfl ?_
      refine mm_V2i dX13_isNext_15 rfl lk_X13_476 (c := 183) rfl (by decide) rfl (by simp) (by simp) rfl rfl rfl (ca) ?_
      refine mm_istore dX13_isNext_18 rfl (Nat.le_of_ble_eq_true rfl) rfl ?_
      refine mm_aload_n dX13_isNext_20 rfl rfl ?_
      refine mm_iload_n dX13_isNext_21 rfl rfl ?_
      refine mm_aload_n dX13_isNext_22 rfl rfl ?_
      refine mm_iload_n dX13_isNext_23 rfl rfl ?_
      refine mm_iload_n dX13_isNext_24 rfl rfl ?_
      refine mm_iload_n dX13_isNext_25 rfl rfl ?_
      refine mm_V3i dX13_isNext_26 rfl lk_X13_514 (c := 183) rfl (by decide) rfl (by simp) (by simp) (by simp) rfl rfl rfl (cg) ?_
      refine mm_iload dX13_isNext_29 rfl rfl ?_
      refine mm_V3i dX13_isNext_31 rfl lk_X13_537 (c := 183) rfl (by decide) rfl (by simp) (by simp) (by simp) rfl rfl rfl (ct) ?_
      refine mm_ifeq dX13_isNext_34 (by omega) (fun _ => ?_) (fun h => absurd (by decide) h)
      refine mm_iconst dX13_isNext_68 rfl ?_
      refine mm_zret dX13_isNext_69 rfl rfl (Or.inl rfl) ?_
      exact mm_fin b0.symm rfl
  · rw [mm_b_f hsf] at cs
    have b0 : b = 0 := by
      rcases hb with ⟨q1, q2⟩ | ⟨q1, q2⟩
      · exact absurd q2.1 hsf
      · exact q1
    refine mm_aload_n dX13_isNext_0 rfl rfl ?_
    refine mm_iload_n dX13_isNext_1 rfl rfl ?_
    refine mm_iload_n dX13_isNext_2 rfl rfl ?_
    refine mm_iload_n dX13_isNext_3 rfl rfl ?_
    refine mm_V3i dX13_isNext_4 rfl lk_X13_510 (c := 183) rfl (by decide) rfl (by simp) (by simp) (by simp) rfl rfl rfl (cs) ?_
    refine mm_ifne dX13_isNext_7 (by omega) (fun h => absurd h (by decide)) (fun _ => ?_)
    refine mm_iconst dX13_isNext_10 rfl ?_
    refine mm_zret dX13_isNext_11 rfl rfl (Or.inl rfl) ?_
    exact mm_fin b0.symm rfl
end
end
/-! GC.dist -/
section
/-! ===== how far it is to the goal ===== -/
/-- by d steps from v to the goal -/
def kd_D (t : Nat → Nat → Prop) (g : Nat) : Nat → Nat → Prop
  | 0, v => v = g
  | d + 1, v => ∃ u, t v u ∧ kd_D t g d u
/-- distances up to r are told -/
def kd_F (t : Nat → Nat → Prop) (g n r : Nat) (f : Nat → Int) : Prop := ∀ v, v < n → (f v = 1000000 ∧ ∀ d, 1 ≤ d → d ≤ r → ¬ kd_D t g d v) ∨ ∃ d : Nat, f v = (d : Int) ∧ 1 ≤ d ∧ d ≤ r ∧ kd_D t g d v ∧ ∀ d', 1 ≤ d' → d' < d → ¬ kd_D t g d' v
/-- it leads on in round r + 1 -/
def kd_L (t : Nat → Nat → Prop) (g r : Nat) (f : Nat → Int) (v : Nat) : Prop := if r = 0 then t v g else ∃ u, t v u ∧ f u = (r : Int)
theorem kd_F.zero {t : Nat → Nat → Prop} {g n : Nat} {f : Nat → Int} (h : ∀ v, v < n → f v = 1000000) : kd_F t g n 0 f := fun v hv => Or.inl ⟨h v hv, fun d a b => by omega⟩
theorem kd_F.step {t : Nat → Nat → Prop} {g n r : Nat} {f f' : Nat → Int} (hr : r < 1000000) (hN : ∀ u v, t u v → v < n) (h : kd_F t g n r f)
    (h1 : ∀ v, v < n → f v = 1000000 → kd_L t g r f v → f' v = ((r + 1 : Nat) : Int)) (h2 : ∀ v, v < n → ¬ (f v = 1000000 ∧ kd_L t g r f v) → f' v = f v) : kd_F t g n (r + 1) f' := by
  have key : ∀ v, v < n → (∀ d, 1 ≤ d → d ≤ r → ¬ kd_D t g d v) → (kd_D t g (r + 1) v ↔ kd_L t g r f v) := by
    intro v hv hno
    unfold kd_L
    by_cases r0 : r = 0
    · rw [if_pos r0, r0]
      constructor
      · rintro ⟨u, u1, u2⟩
        have u2 : u = g := u2
        rw [← u2]; exact u1
      · exact fun q => ⟨g, q, rfl⟩
    · rw [if_neg r0]
      constructor
      · rintro ⟨u, u1, u2⟩
        refine ⟨u, u1, ?_⟩
        rcases h u (hN _ _ u1) with ⟨-, q⟩ | ⟨d, d1, d2, d3, d4, d5⟩
        · exact absurd u2 (q r (by omega) (Nat.le_refl r))
        · by_cases c : d = r
          · rw [d1, c]
          · exact absurd ⟨u, u1, d4⟩ (hno (d + 1) (by omega) (by omega))
      · rintro ⟨u, u1, u2⟩
        refine ⟨u, u1, ?_⟩
        rcases h u (hN _ _ u1) with ⟨q, -⟩ | ⟨d, d1, d2, d3, d4, d5⟩
        · exfalso; omega
        · have : d = r := by omega
          rw [← this]; exact d4
  intro v hv
  rcases h v hv with ⟨q1, q2⟩ | ⟨d, d1, d2, d3, d4, d5⟩
  · by_cases c : kd_L t g r f v
    · right
      exact ⟨r + 1, h1 v hv q1 c, by omega, Nat.le_refl _, (key v hv q2).mpr c, fun d' a b => q2 d' a (by omega)⟩
    · left
      refine ⟨by rw [h2 v hv (fun z => c z.2)]; exact q1, fun d a b => ?_⟩
      by_cases e : d = r + 1
      · rw [e]; exact fun z => c ((key v hv q2).mp z)
      · exact q2 d a (by omega)
  · right
    exact ⟨d, by rw [h2 v hv (fun z => by have := z.1; omega)]; exact d1, d2, by omega, d4, d5⟩
/-- distances on the way: the next state is one nearer -/
theorem kd_F.next {t : Nat → Nat → Prop} {g n r : Nat} {f : Nat → Int} (hN : ∀ u v, t u v → v < n) (h : kd_F t g n r f) {v d : Nat} (hd : 1 ≤ d) (hdr : d ≤ r) (hr : r + 1 < 1000000) (hv : v < n) (hf : f v = ((d + 1 : Nat) : Int)) : ∃ u, t v u ∧ f u = (d : Int) := by
  rcases h v hv with ⟨q, -⟩ | ⟨e, e1, e2, e3, e4, e5⟩
  · exfalso; omega
  · have ed : e = d + 1 := by omega
    subst ed
    obtain ⟨u, u1, u2⟩ := e4
    refine ⟨u, u1, ?_⟩
    rcases h u (hN _ _ u1) with ⟨-, q⟩ | ⟨k, k1, k2, k3, k4, k5⟩
    · exact absurd u2 (q d hd hdr)
    · by_cases c : k = d
      · rw [k1, c]
      · by_cases c2 : k < d
        · exact absurd ⟨u, u1, k4⟩ (e5 (k + 1) (by omega) (by omega))
        · exact absurd u2 (k5 d hd (by omega))
end
/-! GD.far2 -/
section
/-! ===== the reference: findFar ===== -/
/-- a told step -/
def ky_r (M : mm_M) (n u v : Nat) : Prop := u < n ∧ ∃ j : Nat, (j : Int) < M 210 u ∧ M 209 (15 * u + j) = (v : Int)
section
variable {X : mm_X} {M : mm_M} {n : Nat}
theorem ky_M_lt (hM : ky_M M n) : ∀ u v, ky_r M n u v → v < n := by
  rintro u v ⟨hu, j, j1, j2⟩
  obtain ⟨c, c1, c2, c3⟩ := hM u hu
  obtain ⟨w, w1, w2⟩ := c3 j (by omega)
  omega
theorem ky_lead {N : mm_M} {v g r c : Nat} (hM : ky_M M n) (hv : v < n) (h9 : N 209 = M 209) (hc : M 210 v = (c : Int)) : kd_L (ky_r M n) g r (N 211) v ↔ ∃ j, j < c ∧ ky_c N v j (g : Int) ((r + 1 : Nat) : Int) := by
  unfold kd_L ky_c ky_r
  by_cases r0 : r = 0
  · rw [if_pos r0]
    constructor
    · rintro ⟨-, j, j1, j2⟩
      exact ⟨j, by omega, by rw [if_pos (by omega), h9]; exact j2⟩
    · rintro ⟨j, j1, j2⟩
      rw [if_pos (by omega), h9] at j2
      exact ⟨hv, j, by omega, j2⟩
  · rw [if_neg r0]
    constructor
    · rintro ⟨u, ⟨-, j, j1, j2⟩, u2⟩
      refine ⟨j, by omega, ?_⟩
      rw [if_neg (by omega), h9, j2, show ((u : Int)).toNat = u by omega, u2]
      omega
    · rintro ⟨j, j1, j2⟩
      obtain ⟨d, d1, d2, d3⟩ := hM v hv
      obtain ⟨w, w1, w2⟩ := d3 j (by omega)
      rw [if_neg (by omega), h9, w2, show ((w : Int)).toNat = w by omega] at j2
      exact ⟨w, ⟨hv, j, by omega, w2⟩, by omega⟩
def ky_I (M N : mm_M) : Prop := mm_Rf N ∧ ∀ a, a ≠ 211 → a ≠ 212 → N a = M a
theorem c_X13_findFar {g m : Nat} (hR : mm_Rf M) (hn : ks_n (mm_rk M) = (n : Int)) (hn2 : n ≤ 288) (hM : ky_M M n) (hg : g < n) (hm : m ≤ 1000) :
    mm_C X Y_X13_findFar 243 243 [(2, 184), (0, (g : Int)), (0, (m : Int))] M (fun r M' => r = (3, 0) ∧ mm_Rf M' ∧ ky_I M M' ∧ kd_F (ky_r M n) g n m (M' 211)) := by
  obtain ⟨Φ, hΦ⟩ : ∃ Φ : mm_V → mm_M → Prop, Φ = (fun r M' => r = (3, 0) ∧ mm_Rf M' ∧ ky_I M M' ∧ kd_F (ky_r M n) g n m (M' 211)) := ⟨_, rfl⟩
  rw [← hΦ]
  have hrk : ∀ N, ky_I M N → mm_rk N = mm_rk M := fun N h => mm_rk.fr (fun a b q => by rw [h.2 a (by omega) (by omega)])
  -- those that were gathered are written
  have l4 : ∀ r : Nat, r < m → ∀ f : Nat → Int, ∀ Q : Nat → Int, ∀ e : Nat, e ≤ n → (∀ k, k < e → ∃ v : Nat, v < n ∧ Q k = (v : Int)) →
      (∀ N, ky_I M N → (∀ v, v < n → (∃ k, k < e ∧ Q k = (v : Int)) → N 211 v = ((r + 1 : Nat) : Int)) → (∀ v, v < n → ¬ (∃ k, k < e ∧ Q k = (v : Int)) → N 211 v = f v) → mm_J X Y_X13_findFar 243 243 243 121 [(2, 184), (0, (g : Int)), (0, (m : Int)), (0, ((r + 1 : Nat) : Int)), (9, 0), (9, 0)] [] N Φ) →
      ∀ k : Nat, k ≤ e → ∀ N, ky_I M N → N 212 = Q → (∀ v, v < n → (∃ i, i < k ∧ Q i = (v : Int)) → N 211 v = ((r + 1 : Nat) : Int)) → (∀ v, v < n → ¬ (∃ i, i < k ∧ Q i = (v : Int)) → N 211 v = f v) →
      mm_J X Y_X13_findFar 243 243 243 95 [(2, 184), (0, (g : Int)), (0, (m : Int)), (0, ((r + 1 : Nat) : Int)), (0, (e : Int)), (0, (k : Int))] [] N Φ := by
    intro r hr f Q e he hQ out
    refine mm_lp ?_
    intro k hk ih N hI hNQ w1 w2
    have hRN := hI.1
    by_cases hlt : k < e
    · obtain ⟨v, hv, hqv⟩ := hQ k hlt
      refine mm_iload dX13_findFar_95 rfl rfl ?_
      refine mm_iload dX13_findFar_97 rfl rfl ?_
      refine mm_icge dX13_findFar_99 (by omega) (by omega) (fun h99 => ?_) (fun h99 => ?_)
      · exfalso; omega
      · refine mm_aload_n dX13_findFar_102 rfl rfl ?_
        refine mm_getr dX13_findFar_103 rfl fl_X13_280 (c := 183) rfl (by decide) rfl rfl (hRN.at (c := 183) (i := 44) (v := 212) rfl (by decide)) ?_
        refine mm_aload_n dX13_findFar_106 rfl rfl ?_
        refine mm_getr dX13_findFar_107 rfl fl_X13_283 (c := 183) rfl (by decide) rfl rfl (hRN.at (c := 183) (i := 45) (v := 213) rfl (by decide)) ?_
        refine mm_iload dX13_findFar_110 rfl rfl ?_
        refine mm_ialk (k0 := k) dX13_findFar_112 rfl (c := 212) rfl (by decide) rfl (by omega) (by omega) ?_
        rw [hNQ, hqv]
        refine mm_iload_n dX13_findFar_113 rfl rfl ?_
        refine mm_istk (k0 := v) dX13_findFar_114 rfl (c := 211) rfl (by decide) rfl (by omega) (by omega) (fun M114 hM114 => ?_)
        have hR114 : mm_Rf M114 := by rw [hM114]; exact hRN.up (mm_rt_ar (t := 0) rfl (by decide))
        refine mm_iinc dX13_findFar_115 rfl rfl (Nat.le_of_ble_eq_true rfl) rfl ?_
        refine mm_goto dX13_findFar_118 ?_
        have go := ih hlt _ ⟨hR114, ?_⟩ ?_ ?_ ?_
        · rw [show ((k + 1 : Nat) : Int) = (k : Int) + 1 by omega] at go
          exact go
        · intro a a1 a2; rw [hM114, mm_up_row a1]; exact hI.2 a a1 a2
        · rw [hM114, mm_up_row (by decide)]; exact hNQ
        · rintro u hu ⟨i, i1, i2⟩
          by_cases c : u = v
          · rw [c, hM114, mm_up_s]
          · rw [hM114, mm_up_i c]
            refine w1 u hu ⟨i, ?_, i2⟩
            by_cases ci : i = k
            · rw [ci, hqv] at i2; exfalso; omega
            · omega
        · intro u hu q
          have c : u ≠ v := fun c => q ⟨k, by omega, by rw [c]; exact hqv⟩
          rw [hM114, mm_up_i c]
          exact w2 u hu (fun ⟨i, i1, i2⟩ => q ⟨i, by omega, i2⟩)
    · have ek : k = e := by omega
      subst ek
      have go := out N hI w1 w2
      refine mm_iload dX13_findFar_95 rfl rfl ?_
      refine mm_iload dX13_findFar_97 rfl rfl ?_
      refine mm_icge dX13_findFar_99 (by omega) (by omega) (fun h99 => ?_) (fun h99 => ?_)
      · exact mm_drop (ls' := [(2, 184), (0, (g : Int)), (0, (m : Int)), (0, ((r + 1 : Nat) : Int)), (9, 0), (9, 0)]) (by repeat (first | exact trivial | refine And.intro (Or.inl rfl) ?_ | refine And.intro (Or.inr rfl) ?_)) go
      · exfalso; omega
  -- they are gathered
  have l3 : ∀ r : Nat, r < m → ∀ f : Nat → Int, kd_F (ky_r M n) g n r f →
      (∀ N (e : Nat), ky_I M N → e ≤ n → N 211 = f → (∀ k, k < e → ∃ v : Nat, v < n ∧ N 212 k = (v : Int) ∧ f v = 1000000 ∧ kd_L (ky_r M n) g r f v) → (∀ v, v < n → f v = 1000000 → kd_L (ky_r M n) g r f v → ∃ k, k < e ∧ N 212 k = (v : Int)) → mm_J X Y_X13_findFar 243 243 243 92 [(2, 184), (0, (g : Int)), (0, (m : Int)), (0, ((r + 1 : Nat) : Int)), (0, (e : Int)), (9, 0)] [] N Φ) →
      ∀ s : Nat, s ≤ n → ∀ N (e : Nat), ky_I M N → e ≤ s → N 211 = f → (∀ k, k < e → ∃ v : Nat, v < s ∧ N 212 k = (v : Int) ∧ f v = 1000000 ∧ kd_L (ky_r M n) g r f v) → (∀ v, v < s → f v = 1000000 → kd_L (ky_r M n) g r f v → ∃ k, k < e ∧ N 212 k = (v : Int)) →
      mm_J X Y_X13_findFar 243 243 243 38 [(2, 184), (0, (g : Int)), (0, (m : Int)), (0, ((r + 1 : Nat) : Int)), (0, (e : Int)), (0, (s : Int))] [] N Φ := by
    intro r hr f hF out
    have hfb : ∀ v, v < n → 0 ≤ f v ∧ f v ≤ 1000000 := by
      intro v hv
      rcases hF v hv with q | ⟨d, d1, d2, d3, -⟩ <;> omega
    refine mm_lp ?_
    intro s hs ih N e hI he hNf w1 w2
    have hRN := hI.1
    have cn := c_X13_states (X := X) hRN
    rw [hrk N hI, hn] at cn
    by_cases hlt : s < n
    · have hfs := hfb s hlt
      have e9 : N 209 = M 209 := hI.2 209 (by decide) (by decide)
      have e10 : N 210 = M 210 := hI.2 210 (by decide) (by decide)
      have hMN : ky_M N n := by unfold ky_M; rw [e9, e10]; exact hM
      obtain ⟨c, c1, -, -⟩ := hM s hlt
      have no : ¬ (f s = 1000000 ∧ kd_L (ky_r M n) g r f s) → mm_J X Y_X13_findFar 243 243 243 38 [(2, 184), (0, (g : Int)), (0, (m : Int)), (0, ((r + 1 : Nat) : Int)), (0, (e : Int)), (0, (s : Int) + 1)] [] N Φ := by
        intro q
        have go := ih hlt N e hI (by omega) hNf (fun k hk => by
          obtain ⟨v, v1, v2⟩ := w1 k hk
          exact ⟨v, by omega, v2⟩) (fun v hv a b => by
          by_cases cc : v = s
          · rw [cc] at a b; exact absurd ⟨a, b⟩ q
          · exact w2 v (by omega) a b)
        rw [show ((s + 1 : Nat) : Int) = (s : Int) + 1 by omega] at go
        exact go
      have hlead := ky_lead (N := N) (g := g) (r := r) hM hlt e9 c1
      rw [hNf] at hlead
      by_cases hL : kd_L (ky_r M n) g r f s
      · have cl := c_X13_leadsTo (X := X) (b := 1) (goal := (g : Int)) (r := ((r + 1 : Nat) : Int)) hRN hn2 hMN hlt (by rw [e10]; exact c1) (by unfold mm_R; omega) (by omega) (by rw [hNf]; exact hfb) (Or.inl ⟨rfl, hlead.mp hL⟩)
        refine mm_iload dX13_findFar_38 rfl rfl ?_
        refine mm_aload_n dX13_findFar_40 rfl rfl ?_
        refine mm_V0i dX13_findFar_41 rfl lk_X13_458 (c := 183) rfl (by decide) rfl  rfl rfl rfl (cn) ?_
        refine mm_icge dX13_findFar_44 (by omega) (by omega) (fun h44 => ?_) (fun h44 => ?_)
        · exfalso; omega
        · refine mm_aload_n dX13_findFar_47 rfl rfl ?_
          refine mm_getr dX13_findFar_48 rfl fl_X13_280 (c := 183) rfl (by decide) rfl rfl (hRN.at (c := 183) (i := 44) (v := 212) rfl (by decide)) ?_
          refine mm_iload dX13_findFar_51 rfl rfl ?_
          refine mm_ialk (k0 := s) dX13_findFar_53 rfl (c := 211) rfl (by decide) rfl (by omega) (by omega) ?_
          rw [hNf]
          refine mm_ldcw dX13_findFar_54 rfl kc_X13_543 ?_
          refine mm_iclt dX13_findFar_57 (by omega) (by omega) (fun h57 => ?_) (fun h57 => ?_)
          · refine mm_iinc dX13_findFar_86 rfl rfl (Nat.le_of_ble_eq_true rfl) rfl ?_
            refine mm_goto dX13_findFar_89 ?_
            first
            | exact no (fun q => absurd q.1 (by omega))
            | (have go := ih hlt _ (e + 1) ⟨hRN, fun a a1 a2 => by rw [hM82, mm_up_row a2]; exact hI.2 a a1 a2⟩ (by omega) (by rw [hM82, mm_up_row (by decide)]; exact hNf) (fun k hk => by
                by_cases cc : k = e
                · exact ⟨s, by omega, by rw [cc, hM82, mm_up_s], by omega, hL⟩
                · obtain ⟨v, v1, v2⟩ := w1 k (by omega)
                  exact ⟨v, by omega, by rw [hM82, mm_up_i cc]; exact v2⟩) (fun v hv a b => by
                by_cases cc : v = s
                · exact ⟨e, by omega, by rw [cc, hM82, mm_up_s]⟩
                · obtain ⟨k, k1, k2⟩ := w2 v (by omega) a b
                  exact ⟨k, by omega, by rw [hM82, mm_up_i (by omega)]; exact k2⟩)
               rw [show ((s + 1 : Nat) : Int) = (s : Int) + 1 by omega, show ((e + 1 : Nat) : Int) = (e : Int) + 1 by omega] at go
               exact go)
          · refine mm_aload_n dX13_findFar_60 rfl rfl ?_
            refine mm_iload dX13_findFar_61 rfl rfl ?_
            refine mm_iload_n dX13_findFar_63 rfl rfl ?_
            refine mm_iload_n dX13_findFar_64 rfl rfl ?_
            refine mm_V3i dX13_findFar_65 rfl lk_X13_544 (c := 183) rfl (by decide) rfl (by simp) (by simp) (by simp) rfl rfl rfl (cl) ?_
            refine mm_ifne dX13_findFar_68 (by omega) (fun _ => ?_) (fun h => absurd h (by decide))
            refine mm_aload_n dX13_findFar_74 rfl rfl ?_
            refine mm_getr dX13_findFar_75 rfl fl_X13_283 (c := 183) rfl (by decide) rfl rfl (hRN.at (c := 183) (i := 45) (v := 213) rfl (by decide)) ?_
            refine mm_iload dX13_findFar_78 rfl rfl ?_
            refine mm_iload dX13_findFar_80 rfl rfl ?_
            refine mm_istk (k0 := e) dX13_findFar_82 rfl (c := 212) rfl (by decide) rfl (by omega) (by omega) (fun M82 hM82 => ?_)
            have hR82 : mm_Rf M82 := by rw [hM82]; exact hRN.up (mm_rt_ar (t := 0) rfl (by decide))
            refine mm_iinc dX13_findFar_83 rfl rfl (Nat.le_of_ble_eq_true rfl) rfl ?_
            refine mm_iinc dX13_findFar_86 rfl rfl (Nat.le_of_ble_eq_true rfl) rfl ?_
            refine mm_goto dX13_findFar_89 ?_
            first
            | exact no (fun q => absurd q.1 (by omega))
            | (have go := ih hlt _ (e + 1) ⟨hR82, fun a a1 a2 => by rw [hM82, mm_up_row a2]; exact hI.2 a a1 a2⟩ (by omega) (by rw [hM82, mm_up_row (by decide)]; exact hNf) (fun k hk => by
                by_cases cc : k = e
                · exact ⟨s, by omega, by rw [cc, hM82, mm_up_s], by omega, hL⟩
                · obtain ⟨v, v1, v2⟩ := w1 k (by omega)
                  exact ⟨v, by omega, by rw [hM82, mm_up_i cc]; exact v2⟩) (fun v hv a b => by
                by_cases cc : v = s
                · exact ⟨e, by omega, by rw [cc, hM82, mm_up_s]⟩
                · obtain ⟨k, k1, k2⟩ := w2 v (by omega) a b
                  exact ⟨k, by omega, by rw [hM82, mm_up_i (by omega)]; exact k2⟩)
               rw [show ((s + 1 : Nat) : Int) = (s : Int) + 1 by omega, show ((e + 1 : Nat) : Int) = (e : Int) + 1 by omega] at go
               exact go)
      · have cl := c_X13_leadsTo (X := X) (b := 0) (goal := (g : Int)) (r := ((r + 1 : Nat) : Int)) hRN hn2 hMN hlt (by rw [e10]; exact c1) (by unfold mm_R; omega) (by omega) (by rw [hNf]; exact hfb) (Or.inr ⟨rfl, fun j hj q => hL (hlead.mpr ⟨j, hj, q⟩)⟩)
        refine mm_iload dX13_findFar_38 rfl rfl ?_
        refine mm_aload_n dX13_findFar_40 rfl rfl ?_
        refine mm_V0i dX13_findFar_41 rfl lk_X13_458 (c := 183) rfl (by decide) rfl  rfl rfl rfl (cn) ?_
        refine mm_icge dX13_findFar_44 (by omega) (by omega) (fun h44 => ?_) (fun h44 => ?_)
        · exfalso; omega
        · refine mm_aload_n dX13_findFar_47 rfl rfl ?_
          refine mm_getr dX13_findFar_48 rfl fl_X13_280 (c := 183) rfl (by decide) rfl rfl (hRN.at (c := 183) (i := 44) (v := 212) rfl (by decide)) ?_
          refine mm_iload dX13_findFar_51 rfl rfl ?_
          refine mm_ialk (k0 := s) dX13_findFar_53 rfl (c := 211) rfl (by decide) rfl (by omega) (by omega) ?_
          rw [hNf]
          refine mm_ldcw dX13_findFar_54 rfl kc_X13_543 ?_
          refine mm_iclt dX13_findFar_57 (by omega) (by omega) (fun h57 => ?_) (fun h57 => ?_)
          · refine mm_iinc dX13_findFar_86 rfl rfl (Nat.le_of_ble_eq_true rfl) rfl ?_
            refine mm_goto dX13_findFar_89 ?_
            exact no (fun q => hL q.2)
          · refine mm_aload_n dX13_findFar_60 rfl rfl ?_
            refine mm_iload dX13_findFar_61 rfl rfl ?_
            refine mm_iload_n dX13_findFar_63 rfl rfl ?_
            refine mm_iload_n dX13_findFar_64 rfl rfl ?_
            refine mm_V3i dX13_findFar_65 rfl lk_X13_544 (c := 183) rfl (by decide) rfl (by simp) (by simp) (by simp) rfl rfl rfl (cl) ?_
            refine mm_ifne dX13_findFar_68 (by omega) (fun h => absurd h (by decide)) (fun _ => ?_)
            refine mm_goto dX13_findFar_71 ?_
            refine mm_iinc dX13_findFar_86 rfl rfl (Nat.le_of_ble_eq_true rfl) rfl ?_
            refine mm_goto dX13_findFar_89 ?_
            exact no (fun q => hL q.2)
    · have es : s = n := by omega
      subst es
      have go := out N e hI he hNf w1 w2
      refine mm_iload dX13_findFar_38 rfl rfl ?_
      refine mm_aload_n dX13_findFar_40 rfl rfl ?_
      refine mm_V0i dX13_findFar_41 rfl lk_X13_458 (c := 183) rfl (by decide) rfl  rfl rfl rfl (cn) ?_
      refine mm_icge dX13_findFar_44 (by omega) (by omega) (fun h44 => ?_) (fun h44 => ?_)
      · exact mm_drop (ls' := [(2, 184), (0, (g : Int)), (0, (m : Int)), (0, ((r + 1 : Nat) : Int)), (0, (e : Int)), (9, 0)]) (by repeat (first | exact trivial | refine And.intro (Or.inl rfl) ?_ | refine And.intro (Or.inr rfl) ?_)) go
      · exfalso; omega
  -- the rounds
  have l2 : ∀ r : Nat, r ≤ m → ∀ N, ky_I M N → kd_F (ky_r M n) g n r (N 211) → mm_J X Y_X13_findFar 243 243 243 27 [(2, 184), (0, (g : Int)), (0, (m : Int)), (0, ((r + 1 : Nat) : Int)), (9, 0), (9, 0)] [] N Φ := by
    refine mm_lp ?_
    intro r hr ih N hI hF
    have hRN := hI.1
    by_cases hlt : r < m
    · have b121 : ∀ P, ky_I M P → kd_F (ky_r M n) g n (r + 1) (P 211) → mm_J X Y_X13_findFar 243 243 243 121 [(2, 184), (0, (g : Int)), (0, (m : Int)), (0, ((r + 1 : Nat) : Int)), (9, 0), (9, 0)] [] P Φ := by
        intro P hP hQ
        have go := ih hlt P hP hQ
        have hRP := hP.1
        rw [show ((r + 1 + 1 : Nat) : Int) = ((r + 1 : Nat) : Int) + 1 by omega] at go
        refine mm_iinc dX13_findFar_121 rfl rfl (Nat.le_of_ble_eq_true rfl) rfl ?_
        refine mm_goto dX13_findFar_124 ?_
        exact go
      have b92 : ∀ P (e : Nat), ky_I M P → e ≤ n → P 211 = N 211 → (∀ k, k < e → ∃ v : Nat, v < n ∧ P 212 k = (v : Int) ∧ N 211 v = 1000000 ∧ kd_L (ky_r M n) g r (N 211) v) → (∀ v, v < n → N 211 v = 1000000 → kd_L (ky_r M n) g r (N 211) v → ∃ k, k < e ∧ P 212 k = (v : Int)) → mm_J X Y_X13_findFar 243 243 243 92 [(2, 184), (0, (g : Int)), (0, (m : Int)), (0, ((r + 1 : Nat) : Int)), (0, (e : Int)), (9, 0)] [] P Φ := by
        intro P e hP he hPf w1 w2
        have hRP := hP.1
        have go := l4 r hlt (N 211) (P 212) e he (fun k hk => by
          obtain ⟨v, v1, v2, -⟩ := w1 k hk
          exact ⟨v, v1, v2⟩) (fun Q hQ q1 q2 => b121 Q hQ (hF.step (by omega) (ky_M_lt hM) (fun v hv a b => q1 v hv (w2 v hv a b)) (fun v hv q => q2 v hv (fun ⟨k, k1, k2⟩ => by
            obtain ⟨u, u1, u2, u3, u4⟩ := w1 k k1
            have : u = v := by omega
            rw [this] at u3 u4
            exact q ⟨u3, u4⟩)))) 0 (Nat.zero_le _) P hP rfl (fun v hv ⟨i, i1, _⟩ => absurd i1 (by omega)) (fun v hv _ => by rw [hPf])
        refine mm_iconst dX13_findFar_92 rfl ?_
        refine mm_istore dX13_findFar_93 rfl (Nat.le_of_ble_eq_true rfl) rfl ?_
        exact go
      have go := l3 r hlt (N 211) hF b92 0 (Nat.zero_le _) N 0 hI (Nat.le_refl _) rfl (fun k hk => absurd hk (by omega)) (fun v hv => absurd hv (by omega))
      refine mm_iload_n dX13_findFar_27 rfl rfl ?_
      refine mm_iload_n dX13_findFar_28 rfl rfl ?_
      refine mm_icgt dX13_findFar_29 (by omega) (by omega) (fun h29 => ?_) (fun h29 => ?_)
      · exfalso; omega
      · refine mm_iconst dX13_findFar_32 rfl ?_
        refine mm_istore dX13_findFar_33 rfl (Nat.le_of_ble_eq_true rfl) rfl ?_
        refine mm_iconst dX13_findFar_35 rfl ?_
        refine mm_istore dX13_findFar_36 rfl (Nat.le_of_ble_eq_true rfl) rfl ?_
        exact go
    · have er : r = m := by omega
      subst er
      refine mm_iload_n dX13_findFar_27 rfl rfl ?_
      refine mm_iload_n dX13_findFar_28 rfl rfl ?_
      refine mm_icgt dX13_findFar_29 (by omega) (by omega) (fun h29 => ?_) (fun h29 => ?_)
      · refine mm_vret dX13_findFar_127 rfl rfl ?_
        rw [hΦ]; exact ⟨rfl, hRN, hI, hF⟩
      · exfalso; omega
  have l1 : ∀ s : Nat, s ≤ n → ∀ N, ky_I M N → (∀ v, v < s → N 211 v = 1000000) → mm_J X Y_X13_findFar 243 243 243 2 [(2, 184), (0, (g : Int)), (0, (m : Int)), (0, (s : Int)), (9, 0), (9, 0)] [] N Φ := by
    refine mm_lp ?_
    intro s hs ih N hI hH
    have hRN := hI.1
    have cn := c_X13_states (X := X) hRN
    rw [hrk N hI, hn] at cn
    by_cases hlt : s < n
    · refine mm_iload_n dX13_findFar_2 rfl rfl ?_
      refine mm_aload_n dX13_findFar_3 rfl rfl ?_
      refine mm_V0i dX13_findFar_4 rfl lk_X13_458 (c := 183) rfl (by decide) rfl  rfl rfl rfl (cn) ?_
      refine mm_icge dX13_findFar_7 (by omega) (by omega) (fun h7 => ?_) (fun h7 => ?_)
      · exfalso; omega
      · refine mm_aload_n dX13_findFar_10 rfl rfl ?_
        refine mm_getr dX13_findFar_11 rfl fl_X13_280 (c := 183) rfl (by decide) rfl rfl (hRN.at (c := 183) (i := 44) (v := 212) rfl (by decide)) ?_
        refine mm_iload_n dX13_findFar_14 rfl rfl ?_
        refine mm_ldcw dX13_findFar_15 rfl kc_X13_543 ?_
        refine mm_istk (k0 := s) dX13_findFar_18 rfl (c := 211) rfl (by decide) rfl (by omega) (by omega) (fun M18 hM18 => ?_)
        have hR18 : mm_Rf M18 := by rw [hM18]; exact hRN.up (mm_rt_ar (t := 0) rfl (by decide))
        refine mm_iinc dX13_findFar_19 rfl rfl (Nat.le_of_ble_eq_true rfl) rfl ?_
        refine mm_goto dX13_findFar_22 ?_
        have go := ih hlt _ ⟨hR18, ?_⟩ ?_
        · rw [show ((s + 1 : Nat) : Int) = (s : Int) + 1 by omega] at go
          exact go
        · intro a a1 a2; rw [hM18, mm_up_row a1]; exact hI.2 a a1 a2
        · intro v hv
          by_cases c : v = s
          · rw [c, hM18, mm_up_s]
          · rw [hM18, mm_up_i (by omega)]; exact hH v (by omega)
    · have es : s = n := by omega
      subst es
      have go := l2 0 (Nat.zero_le _) N hI (kd_F.zero hH)
      refine mm_iload_n dX13_findFar_2 rfl rfl ?_
      refine mm_aload_n dX13_findFar_3 rfl rfl ?_
      refine mm_V0i dX13_findFar_4 rfl lk_X13_458 (c := 183) rfl (by decide) rfl  rfl rfl rfl (cn) ?_
      refine mm_icge dX13_findFar_7 (by omega) (by omega) (fun h7 => ?_) (fun h7 => ?_)
      · refine mm_iconst dX13_findFar_25 rfl ?_
        refine mm_istore_n dX13_findFar_26 rfl (Nat.le_of_ble_eq_true rfl) rfl ?_
        exact go
      · exfalso; omega
  refine mm_start (ls := [(2, 184), (0, (g : Int)), (0, (m : Int)), (9, 0), (9, 0), (9, 0)]) rfl ?_
  refine mm_iconst dX13_findFar_0 rfl ?_
  refine mm_istore_n dX13_findFar_1 rfl (Nat.le_of_ble_eq_true rfl) rfl ?_
  exact l1 0 (Nat.zero_le _) M ⟨hR, fun _ _ _ => rfl⟩ (fun v hv => absurd hv (by omega))
end
end
/-! GE.tight3 -/
section
/-! ===== loops of the greatest mean keep the level ===== -/
section
variable {e : Nat → Nat → Int → Prop} {p : Nat → Nat} {g : Nat → Int} {m : Nat} {H : Nat → Int} {S C : Int}
theorem kz_tele (k : Nat) : gS S C g k + ka_sum (fun j => H (p (j + 1)) - H (p j) - (C * g j - S)) k = H (p k) - H (p 0) := by
  induction k with
  | zero => unfold gS; show C * 0 - S * 0 + 0 = H (p 0) - H (p 0); omega
  | succ k ih =>
    unfold gS at ih ⊢
    show C * (ka_sum g k + g k) - S * ((k + 1 : Nat) : Int) + (ka_sum (fun j => H (p (j + 1)) - H (p j) - (C * g j - S)) k + (H (p (k + 1)) - H (p k) - (C * g k - S))) = H (p (k + 1)) - H (p 0)
    rw [Int.mul_add, show ((k + 1 : Nat) : Int) = (k : Int) + 1 by omega, Int.mul_add, Int.mul_one]
    omega
theorem kz_loop (hK : ∀ u v w, e u v w → H u + (C * w - S) ≤ H v) (hL : gL e p g m) : C * ka_sum g m = S * m ↔ ∀ j, j < m → H (p j) + (C * g j - S) = H (p (j + 1)) := by
  have t := kz_tele (S := S) (C := C) (g := g) (H := H) (p := p) m
  rw [hL.2.2] at t
  unfold gS at t
  have pos : ∀ j, j < m → 0 ≤ H (p (j + 1)) - H (p j) - (C * g j - S) := fun j hj => by
    have := hK _ _ _ (hL.1 j hj)
    omega
  have z : ∀ k, ka_sum (fun _ => (0 : Int)) k = 0 := by
    intro k
    induction k with
    | zero => rfl
    | succ k ih => show ka_sum (fun _ => (0 : Int)) k + 0 = 0; omega
  constructor
  · intro q j hj
    by_cases c : H (p j) + (C * g j - S) = H (p (j + 1))
    · exact c
    · have a := ka_sum_plt (f := fun _ => (0 : Int)) (g := fun j => H (p (j + 1)) - H (p j) - (C * g j - S)) m pos ⟨j, hj, by
        have := pos j hj
        show (0 : Int) < H (p (j + 1)) - H (p j) - (C * g j - S)
        omega⟩
      rw [z] at a
      exfalso; omega
  · intro q
    have a := ka_sum_ple (g := fun _ => (0 : Int)) (f := fun j => H (p (j + 1)) - H (p j) - (C * g j - S)) m (fun j hj => by
      have := q j hj
      show H (p (j + 1)) - H (p j) - (C * g j - S) ≤ 0
      omega)
    have b := ka_sum_ple (f := fun _ => (0 : Int)) (g := fun j => H (p (j + 1)) - H (p j) - (C * g j - S)) m pos
    rw [z] at a b
    omega
end
end
/-! GF.round -/
section
/-! ===== rounds: from the beginning and to the goal ===== -/
/-- by d steps from b to v -/
def kd_R (t : Nat → Nat → Prop) (b : Nat) : Nat → Nat → Prop
  | 0, v => v = b
  | d + 1, v => ∃ u, kd_R t b d u ∧ t u v
theorem kd_RD {t : Nat → Nat → Prop} {b g : Nat} : ∀ (d k v : Nat), kd_R t b d v → kd_D t g k v → kd_D t g (d + k) b
  | 0, k, v, h1, h2 => by
    have e : v = b := h1
    rw [← e, Nat.zero_add]
    exact h2
  | d + 1, k, v, ⟨u, h1, h2⟩, h3 => by
    have := kd_RD d (k + 1) u h1 ⟨v, h2, h3⟩
    rw [show d + 1 + k = d + (k + 1) by omega]
    exact this
theorem kd_DR {t : Nat → Nat → Prop} {b g : Nat} : ∀ (k d v : Nat), kd_R t b d v → kd_D t g (k + 1) v → ∃ u, kd_R t b (d + k) u ∧ t u g
  | 0, d, v, h1, ⟨u, h2, h3⟩ => by
    have e : u = g := h3
    exact ⟨v, h1, by rw [← e]; exact h2⟩
  | k + 1, d, v, h1, ⟨u, h2, h3⟩ => by
    obtain ⟨w, w1, w2⟩ := kd_DR k (d + 1) u ⟨v, h1, h2⟩ h3
    exact ⟨w, by rw [show d + (k + 1) = d + 1 + k by omega]; exact w1, w2⟩
/-- a round through b: the last step comes from a state that is reached -/
theorem kd_round {t : Nat → Nat → Prop} {b l : Nat} : kd_D t b (l + 1) b ↔ ∃ u, kd_R t b l u ∧ t u b := by
  constructor
  · intro h
    have := kd_DR l 0 b rfl h
    rw [Nat.zero_add] at this
    exact this
  · rintro ⟨u, h1, h2⟩
    exact kd_RD l 1 u h1 ⟨b, h2, rfl⟩
end
/-! GG.round2 -/
section
/-! ===== the queue of a round ===== -/
def kQ_d (b : Nat) (f : Nat → Int) (v : Nat) : Int := if v = b then 0 else f v
def kQ_I (t : Nat → Nat → Prop) (n b k e : Nat) (f q : Nat → Int) : Prop :=
  (1 ≤ e) ∧
  (e ≤ n) ∧
  (k ≤ e) ∧
  (f b = 1000000) ∧
  ((q 0).toNat = b) ∧
  (∀ i, i < e → q i = ((q i).toNat : Int) ∧ (q i).toNat < n) ∧
  (∀ i j, i < j → j < e → (q i).toNat ≠ (q j).toNat) ∧
  (∀ i j, i < j → j < e → kQ_d b f (q i).toNat ≤ kQ_d b f (q j).toNat) ∧
  (∀ i, i < e → kQ_d b f (q i).toNat ≤ (i : Int)) ∧
  (∀ v, v < n → f v = 1000000 ∨ ∃ d : Nat, f v = (d : Int) ∧ 1 ≤ d ∧ d ≤ n ∧ v ≠ b ∧ kd_R t b d v ∧ ∃ i, i < e ∧ (q i).toNat = v) ∧
  (∀ i, 1 ≤ i → i < e → f (q i).toNat < 1000000) ∧
  (∀ i, i < k → ∀ v, t (q i).toNat v → v ≠ b ∧ f v ≤ kQ_d b f (q i).toNat + 1 ∧ f v < 1000000) ∧
  (k < e → ∀ i, i < e → kQ_d b f (q i).toNat ≤ kQ_d b f (q k).toNat + 1)
section
variable {t : Nat → Nat → Prop} {n b k e : Nat} {f q f' q' : Nat → Int}
theorem kQ_I.e1 (h : kQ_I t n b k e f q) : 1 ≤ e := h.1
theorem kQ_I.en (h : kQ_I t n b k e f q) : e ≤ n := h.2.1
theorem kQ_I.ke (h : kQ_I t n b k e f q) : k ≤ e := h.2.2.1
theorem kQ_I.fb (h : kQ_I t n b k e f q) : f b = 1000000 := h.2.2.2.1
theorem kQ_I.q0 (h : kQ_I t n b k e f q) : (q 0).toNat = b := h.2.2.2.2.1
theorem kQ_I.qn (h : kQ_I t n b k e f q) : ∀ i, i < e → q i = ((q i).toNat : Int) ∧ (q i).toNat < n := h.2.2.2.2.2.1
theorem kQ_I.ne (h : kQ_I t n b k e f q) : ∀ i j, i < j → j < e → (q i).toNat ≠ (q j).toNat := h.2.2.2.2.2.2.1
theorem kQ_I.so (h : kQ_I t n b k e f q) : ∀ i j, i < j → j < e → kQ_d b f (q i).toNat ≤ kQ_d b f (q j).toNat := h.2.2.2.2.2.2.2.1
theorem kQ_I.di (h : kQ_I t n b k e f q) : ∀ i, i < e → kQ_d b f (q i).toNat ≤ (i : Int) := h.2.2.2.2.2.2.2.2.1
theorem kQ_I.fv (h : kQ_I t n b k e f q) : ∀ v, v < n → f v = 1000000 ∨ ∃ d : Nat, f v = (d : Int) ∧ 1 ≤ d ∧ d ≤ n ∧ v ≠ b ∧ kd_R t b d v ∧ ∃ i, i < e ∧ (q i).toNat = v := h.2.2.2.2.2.2.2.2.2.1
theorem kQ_I.fq (h : kQ_I t n b k e f q) : ∀ i, 1 ≤ i → i < e → f (q i).toNat < 1000000 := h.2.2.2.2.2.2.2.2.2.2.1
theorem kQ_I.go (h : kQ_I t n b k e f q) : ∀ i, i < k → ∀ v, t (q i).toNat v → v ≠ b ∧ f v ≤ kQ_d b f (q i).toNat + 1 ∧ f v < 1000000 := h.2.2.2.2.2.2.2.2.2.2.2.1
theorem kQ_I.up (h : kQ_I t n b k e f q) : k < e → ∀ i, i < e → kQ_d b f (q i).toNat ≤ kQ_d b f (q k).toNat + 1 := h.2.2.2.2.2.2.2.2.2.2.2.2
theorem kQ_I.mk (e1 : 1 ≤ e) (en : e ≤ n) (ke : k ≤ e) (fb : f b = 1000000) (q0 : (q 0).toNat = b) (qn : ∀ i, i < e → q i = ((q i).toNat : Int) ∧ (q i).toNat < n) (ne : ∀ i j, i < j → j < e → (q i).toNat ≠ (q j).toNat) (so : ∀ i j, i < j → j < e → kQ_d b f (q i).toNat ≤ kQ_d b f (q j).toNat) (di : ∀ i, i < e → kQ_d b f (q i).toNat ≤ (i : Int)) (fv : ∀ v, v < n → f v = 1000000 ∨ ∃ d : Nat, f v = (d : Int) ∧ 1 ≤ d ∧ d ≤ n ∧ v ≠ b ∧ kd_R t b d v ∧ ∃ i, i < e ∧ (q i).toNat = v) (fq : ∀ i, 1 ≤ i → i < e → f (q i).toNat < 1000000) (go : ∀ i, i < k → ∀ v, t (q i).toNat v → v ≠ b ∧ f v ≤ kQ_d b f (q i).toNat + 1 ∧ f v < 1000000) (up : k < e → ∀ i, i < e → kQ_d b f (q i).toNat ≤ kQ_d b f (q k).toNat + 1) : kQ_I t n b k e f q := ⟨e1, en, ke, fb, q0, qn, ne, so, di, fv, fq, go, up⟩
theorem kQ_I.zero (hb : b < n) (h1 : ∀ v, v < n → f v = 1000000) (h2 : q 0 = (b : Int)) : kQ_I t n b 0 1 f q := kQ_I.mk
  (e1 := Nat.le_refl 1)
  (en := by omega)
  (ke := by omega)
  (fb := h1 b hb)
  (q0 := by rw [h2]; rfl)
  (qn := fun i hi => by
    have : i = 0 := by omega
    rw [this, h2]
    exact ⟨rfl, hb⟩)
  (ne := fun i j a c => by omega)
  (so := fun i j a c => by omega)
  (di := fun i hi => by
    have : i = 0 := by omega
    rw [this, h2]
    unfold kQ_d
    rw [if_pos (by omega)]
    exact Int.le_refl 0)
  (fv := fun v hv => Or.inl (h1 v hv))
  (fq := fun i a c => by omega)
  (go := fun i hi => by omega)
  (up := fun _ i hi => by
    have : i = 0 := by omega
    rw [this]
    omega)
theorem kQ_I.dge (h : kQ_I t n b k e f q) {i : Nat} (hi : i < e) : 0 ≤ kQ_d b f (q i).toNat := by
  unfold kQ_d
  by_cases c : (q i).toNat = b
  · rw [if_pos c]; exact Int.le_refl 0
  · rw [if_neg c]
    rcases h.fv _ (h.qn i hi).2 with z | ⟨d, d1, -⟩ <;> omega
theorem kQ_I.room (h : kQ_I t n b k e f q) {v : Nat} (hv : v < n) (hb : v ≠ b) (hf : f v = 1000000) : (∀ i, i < e → (q i).toNat ≠ v) ∧ e < n := by
  have no : ∀ i, i < e → (q i).toNat ≠ v := by
    intro i hi c
    by_cases i0 : i = 0
    · rw [i0, h.q0] at c; exact hb c.symm
    · have := h.fq i (by omega) hi
      rw [c] at this
      omega
  refine ⟨no, ?_⟩
  have hen := h.en
  by_cases c : e < n
  · exact c
  · exfalso
    have een : e = n := by omega
    obtain ⟨i, j, h1, h2, h3⟩ := gz_pig n (fun i => if i < e then (q i).toNat else v) (fun i _ => by
      show (if i < e then (q i).toNat else v) < n
      by_cases c : i < e
      · rw [if_pos c]; exact (h.qn i c).2
      · rw [if_neg c]; exact hv)
    have h3 : (if i < e then (q i).toNat else v) = (if j < e then (q j).toNat else v) := h3
    rw [if_pos (by omega)] at h3
    by_cases cj : j < e
    · rw [if_pos cj] at h3
      exact h.ne i j h1 cj h3
    · rw [if_neg cj] at h3
      exact no i (by omega) h3
theorem kQ_I.push (h : kQ_I t n b k e f q) (hk : k < e) {v : Nat} (hv : v < n) (hb : v ≠ b) (hf : f v = 1000000) (hn : n ≤ 1000) (ht : t (q k).toNat v)
    (f1 : f' v = kQ_d b f (q k).toNat + 1) (f2 : ∀ u, u ≠ v → f' u = f u) (q1 : q' e = (v : Int)) (q2 : ∀ i, i ≠ e → q' i = q i) :
    kQ_I t n b k (e + 1) f' q' ∧ kQ_d b f' (q' k).toNat = kQ_d b f (q k).toNat := by
  obtain ⟨no, hen⟩ := h.room hv hb hf
  have dq : ∀ i, i < e → kQ_d b f' (q' i).toNat = kQ_d b f (q i).toNat := by
    intro i hi
    rw [q2 i (by omega)]
    unfold kQ_d
    rw [f2 _ (no i hi)]
  have de : kQ_d b f' (q' e).toNat = kQ_d b f (q k).toNat + 1 := by
    rw [q1]
    unfold kQ_d
    rw [if_neg (by omega), show ((v : Int)).toNat = v by omega, f1]
    rfl
  have dk := h.dge hk
  have dk2 := h.di k hk
  have hq0 : (q' 0).toNat = b := by rw [q2 0 (by have := h.e1; omega)]; exact h.q0
  refine ⟨kQ_I.mk (by omega) hen (by omega) (by rw [f2 b (fun z => hb z.symm)]; exact h.fb) hq0 ?_ ?_ ?_ ?_ ?_ ?_ ?_ ?_, dq k hk⟩
  · intro i hi
    by_cases c : i = e
    · rw [c, q1]; exact ⟨by omega, by omega⟩
    · rw [q2 i c]; exact h.qn i (by omega)
  · intro i j a c
    by_cases cj : j = e
    · rw [cj, q1, q2 i (by omega)]
      have := no i (by omega)
      omega
    · rw [q2 j cj, q2 i (by omega)]
      exact h.ne i j a (by omega)
  · intro i j a c
    by_cases cj : j = e
    · rw [cj, de, dq i (by omega)]
      exact h.up hk i (by omega)
    · rw [dq j (by omega), dq i (by omega)]
      exact h.so i j a (by omega)
  · intro i hi
    by_cases c : i = e
    · rw [c, de]; omega
    · rw [dq i (by omega)]; exact h.di i (by omega)
  · intro u hu
    by_cases c : u = v
    · right
      refine ⟨(kQ_d b f (q k).toNat + 1).toNat, by rw [c, f1]; omega, by omega, by omega, by rw [c]; exact hb, ?_, e, by omega, by rw [q1, c]; omega⟩
      have ek : (kQ_d b f (q k).toNat + 1).toNat = (kQ_d b f (q k).toNat).toNat + 1 := by omega
      rw [ek]
      refine ⟨(q k).toNat, ?_, by rw [c]; exact ht⟩
      by_cases cb : (q k).toNat = b
      · have e0 : kQ_d b f (q k).toNat = 0 := by unfold kQ_d; rw [if_pos cb]
        rw [e0]
        exact cb
      · rcases h.fv _ (h.qn k hk).2 with z | ⟨d, d1, d2, d3, d4, d5, -⟩
        · exfalso
          have : kQ_d b f (q k).toNat = 1000000 := by unfold kQ_d; rw [if_neg cb]; exact z
          omega
        · have : kQ_d b f (q k).toNat = (d : Int) := by unfold kQ_d; rw [if_neg cb]; exact d1
          rw [this]
          exact d5
    · rw [f2 u c]
      rcases h.fv u hu with z | ⟨d, d1, d2, d3, d4, d5, i, i1, i2⟩
      · exact Or.inl z
      · exact Or.inr ⟨d, d1, d2, d3, d4, d5, i, by omega, by rw [q2 i (by omega)]; exact i2⟩
  · intro i i1 hi
    by_cases c : i = e
    · rw [c, q1, show ((v : Int)).toNat = v by omega, f1]
      omega
    · rw [q2 i c, f2 _ (no i (by omega))]
      exact h.fq i i1 (by omega)
  · intro i hi u hu
    rw [q2 i (by omega)] at hu
    obtain ⟨g1, g2, g3⟩ := h.go i hi u hu
    have : u ≠ v := fun z => by rw [z] at g3; omega
    rw [f2 u this, dq i (by omega)]
    exact ⟨g1, g2, g3⟩
  · intro _ i hi
    rw [dq k hk]
    by_cases c : i = e
    · rw [c, de]; exact Int.le_refl _
    · rw [dq i (by omega)]; exact h.up hk i (by omega)
theorem kQ_I.next (h : kQ_I t n b k e f q) (hk : k < e) (hg : ∀ v, t (q k).toNat v → v ≠ b ∧ f v ≤ kQ_d b f (q k).toNat + 1 ∧ f v < 1000000) : kQ_I t n b (k + 1) e f q := kQ_I.mk
  (e1 := h.e1)
  (en := h.en)
  (ke := by omega)
  (fb := h.fb)
  (q0 := h.q0)
  (qn := h.qn)
  (ne := h.ne)
  (so := h.so)
  (di := h.di)
  (fv := h.fv)
  (fq := h.fq)
  (go := fun i hi => by
    by_cases c : i = k
    · rw [c]; exact hg
    · exact h.go i (by omega))
  (up := fun hk2 i hi => by
    have := h.up hk i hi
    have := h.so k (k + 1) (by omega) hk2
    omega)
/-- what is reached in fewer steps is done -/
theorem kQ_I.done (h : kQ_I t n b k e f q) (hN : ∀ u v, t u v → v < n) (m : Nat) (hm : k = e ∨ (k < e ∧ (m : Int) ≤ kQ_d b f (q k).toNat)) : ∀ j : Nat, j < m → ∀ u, kd_R t b j u → ∃ i, i < k ∧ (q i).toNat = u ∧ kQ_d b f u ≤ (j : Int) := by
  have he := h.e1
  have lt : ∀ (j i : Nat), j < m → i < e → kQ_d b f (q i).toNat ≤ (j : Int) → i < k := by
    intro j i hj hi hd
    rcases hm with c | ⟨c1, c2⟩
    · omega
    · by_cases c : i < k
      · exact c
      · by_cases c3 : i = k
        · rw [c3] at hd; omega
        · have := h.so k i (by omega) hi
          omega
  intro j
  induction j with
  | zero =>
    intro hj u hu
    have hu : u = b := hu
    have e0 : kQ_d b f (q 0).toNat = 0 := by unfold kQ_d; rw [if_pos h.q0]
    exact ⟨0, lt 0 0 hj (by omega) (by rw [e0]; omega), by rw [h.q0, hu], by have e1 := e0; rw [h.q0] at e1; rw [hu, e1]; omega⟩
  | succ j ih =>
    rintro hj u ⟨w, w1, w2⟩
    obtain ⟨i, i1, i2, i3⟩ := ih (by omega) w w1
    obtain ⟨g1, g2, g3⟩ := h.go i i1 u (by rw [i2]; exact w2)
    rw [i2] at g2
    have du : kQ_d b f u = f u := by unfold kQ_d; rw [if_neg g1]
    rcases h.fv u (hN _ _ w2) with z | ⟨d, d1, d2, d3, d4, d5, x, x1, x2⟩
    · omega
    · refine ⟨x, lt (j + 1) x hj x1 ?_, x2, ?_⟩
      · rw [x2, du]; omega
      · rw [du]; omega
theorem kQ_I.none (h : kQ_I t n b k e f q) (hN : ∀ u v, t u v → v < n) (m : Nat) (hm : k = e ∨ (k < e ∧ (m : Int) ≤ kQ_d b f (q k).toNat)) : ∀ l : Nat, l < m → ¬ kd_D t b (l + 1) b := by
  intro l hl hD
  obtain ⟨u, u1, u2⟩ := kd_round.mp hD
  obtain ⟨i, i1, i2, -⟩ := h.done hN m hm l hl u u1
  exact (h.go i i1 b (by rw [i2]; exact u2)).1 rfl
/-- a step that closes the round -/
theorem kQ_I.close (h : kQ_I t n b k e f q) (hk : k < e) (ht : t (q k).toNat b) : ∃ d : Nat, kQ_d b f (q k).toNat = (d : Int) ∧ kd_D t b (d + 1) b := by
  by_cases cb : (q k).toNat = b
  · refine ⟨0, by unfold kQ_d; rw [if_pos cb]; rfl, kd_round.mpr ⟨b, rfl, by rw [cb] at ht; exact ht⟩⟩
  · have dk := h.di k hk
    have hen := h.en
    rcases h.fv _ (h.qn k hk).2 with z | ⟨d, d1, d2, d3, d4, d5, -⟩
    · exfalso
      have := h.fq k (by
        by_cases k0 : k = 0
        · rw [k0, h.q0] at cb; exact absurd rfl cb
        · omega) hk
      omega
    · exact ⟨d, by unfold kQ_d; rw [if_neg cb]; exact d1, kd_round.mpr ⟨_, d5, ht⟩⟩
end
end
/-! GH.round3 -/
section
/-! ===== the reference: roundOf ===== -/
/-- what roundOf answers: the shortest round through b, if it is below m -/
def kQ_A (t : Nat → Nat → Prop) (n b : Nat) (m x : Int) : Prop := (x = 1000000 ∧ ∀ l : Nat, 1 ≤ l → (l : Int) < m → ¬ kd_D t b l b) ∨ ∃ l : Nat, x = (l : Int) ∧ 1 ≤ l ∧ (l : Int) < m ∧ l ≤ n ∧ kd_D t b l b ∧ ∀ l' : Nat, 1 ≤ l' → l' < l → ¬ kd_D t b l' b
section
variable {X : mm_X} {M : mm_M} {n : Nat}
theorem c_X13_roundOf {b : Nat} {m : Int} (hR : mm_Rf M) (hn : ks_n (mm_rk M) = (n : Int)) (hn2 : n ≤ 288) (hM : ky_M M n) (hb : b < n) (hm : 1 ≤ m ∧ m ≤ 1000000) :
    mm_C X Y_X13_roundOf 243 243 [(2, 184), (0, (b : Int)), (0, m)] M (fun r M' => ∃ x, r = (0, x) ∧ mm_Rf M' ∧ ky_I M M' ∧ kQ_A (ky_r M n) n b m x) := by
  obtain ⟨Φ, hΦ⟩ : ∃ Φ : mm_V → mm_M → Prop, Φ = (fun r M' => ∃ x, r = (0, x) ∧ mm_Rf M' ∧ ky_I M M' ∧ kQ_A (ky_r M n) n b m x) := ⟨_, rfl⟩
  rw [← hΦ]
  have hrk : ∀ N, ky_I M N → mm_rk N = mm_rk M := fun N h => mm_rk.fr (fun a b q => by rw [h.2 a (by omega) (by omega)])
  have hN := ky_M_lt hM
  -- the steps of a state
  have l3 : ∀ k u c : Nat, ∀ d : Int, u < n → M 210 u = (c : Int) → c ≤ 15 → 0 ≤ d → d + 1 < m → d ≤ (k : Int) → 
      (∀ N (e : Nat), ky_I M N → k < e → kQ_I (ky_r M n) n b (k + 1) e (N 211) (N 212) → mm_J X Y_X13_roundOf 243 243 243 168 [(2, 184), (0, (b : Int)), (0, m), (0, (e : Int)), (0, (k : Int)), (9, 0), (9, 0), (9, 0), (9, 0)] [] N Φ) →
      ∀ i : Nat, i ≤ c → ∀ N (e : Nat), ky_I M N → k < e → kQ_I (ky_r M n) n b k e (N 211) (N 212) → (N 212 k).toNat = u → kQ_d b (N 211) u = d →
      (∀ j : Nat, j < i → ∀ v : Nat, M 209 (15 * u + j) = (v : Int) → v ≠ b ∧ N 211 v ≤ d + 1 ∧ N 211 v < 1000000) →
      mm_J X Y_X13_roundOf 243 243 243 86 [(2, 184), (0, (b : Int)), (0, m), (0, (e : Int)), (0, (k : Int)), (0, (u : Int)), (0, d), (0, (i : Int)), (9, 0)] [] N Φ := by
    intro k u c d hu hc hc15 hd0 hdm hdk out
    refine mm_lp ?_
    intro i hi ih N e hI hke hQ hqu hqd hw
    have hRN := hI.1
    have hen := hQ.en
    have e9 : N 209 = M 209 := hI.2 209 (by decide) (by decide)
    have e10 : N 210 = M 210 := hI.2 210 (by decide) (by decide)
    have hcN : N 210 u = (c : Int) := by rw [e10]; exact hc
    by_cases hlt : i < c
    · obtain ⟨c', c1, c2, c3⟩ := hM u hu
      obtain ⟨v, hv, hve⟩ := c3 i (by omega)
      have hveN : N 209 (15 * u + i) = (v : Int) := by rw [e9]; exact hve
      have htv : ky_r M n (N 212 k).toNat v := by rw [hqu]; exact ⟨hu, i, by omega, hve⟩
      by_cases hvb : v = b
      · obtain ⟨d', d1, d2⟩ := hQ.close hke (by rw [← hvb]; exact htv)
        rw [hqu, hqd] at d1
        have hno := hQ.none hN d' (Or.inr ⟨hke, by rw [hqu, hqd, d1]; exact Int.le_refl _⟩)
        refine mm_iload dX13_roundOf_86 rfl rfl ?_
        refine mm_aload_n dX13_roundOf_88 rfl rfl ?_
        refine mm_getr dX13_roundOf_89 rfl fl_X13_277 (c := 183) rfl (by decide) rfl rfl (hRN.at (c := 183) (i := 43) (v := 211) rfl (by decide)) ?_
        refine mm_iload dX13_roundOf_92 rfl rfl ?_
        refine mm_ialk (k0 := u) dX13_roundOf_94 rfl (c := 210) rfl (by decide) rfl (by omega) (by omega) ?_
        rw [hcN]
        refine mm_icge dX13_roundOf_95 (by omega) (by omega) (fun h95 => ?_) (fun h95 => ?_)
        · exfalso; omega
        · refine mm_aload_n dX13_roundOf_98 rfl rfl ?_
          refine mm_getr dX13_roundOf_99 rfl fl_X13_274 (c := 183) rfl (by decide) rfl rfl (hRN.at (c := 183) (i := 42) (v := 210) rfl (by decide)) ?_
          refine mm_bipush dX13_roundOf_102 rfl (by decide) ?_
          refine mm_iload dX13_roundOf_104 rfl rfl ?_
          refine mm_imul dX13_roundOf_106 rfl ?_
          refine mm_iload dX13_roundOf_107 rfl rfl ?_
          refine mm_iadd dX13_roundOf_109 rfl ?_
          refine mm_ialk (k0 := 15 * u + i) dX13_roundOf_110 rfl (c := 209) rfl (by decide) rfl (by omega) (by omega) ?_
          rw [hveN]
          refine mm_istore dX13_roundOf_111 rfl (Nat.le_of_ble_eq_true rfl) rfl ?_
          refine mm_iload dX13_roundOf_113 rfl rfl ?_
          refine mm_iload_n dX13_roundOf_115 rfl rfl ?_
          refine mm_icne dX13_roundOf_116 (by omega) (by omega) (fun h116 => ?_) (fun h116 => ?_)
          · exfalso; omega
          · refine mm_iload dX13_roundOf_119 rfl rfl ?_
            refine mm_iconst dX13_roundOf_121 rfl ?_
            refine mm_iadd dX13_roundOf_122 rfl ?_
            refine mm_iret dX13_roundOf_123 rfl rfl ?_
            rw [hΦ]; exact ⟨_, rfl, hRN, hI, Or.inr ⟨d' + 1, by omega, by omega, by omega, by omega, d2, fun l' a z => by
            have := hno (l' - 1) (by omega)
            rw [show l' - 1 + 1 = l' by omega] at this
            exact this⟩⟩
      · have hfv := hQ.fv v hv
        by_cases hf : N 211 v = 1000000
        · obtain ⟨no, hroom⟩ := hQ.room hv hvb hf
          refine mm_iload dX13_roundOf_86 rfl rfl ?_
          refine mm_aload_n dX13_roundOf_88 rfl rfl ?_
          refine mm_getr dX13_roundOf_89 rfl fl_X13_277 (c := 183) rfl (by decide) rfl rfl (hRN.at (c := 183) (i := 43) (v := 211) rfl (by decide)) ?_
          refine mm_iload dX13_roundOf_92 rfl rfl ?_
          refine mm_ialk (k0 := u) dX13_roundOf_94 rfl (c := 210) rfl (by decide) rfl (by omega) (by omega) ?_
          rw [hcN]
          refine mm_icge dX13_roundOf_95 (by omega) (by omega) (fun h95 => ?_) (fun h95 => ?_)
          · exfalso; omega
          · refine mm_aload_n dX13_roundOf_98 rfl rfl ?_
            refine mm_getr dX13_roundOf_99 rfl fl_X13_274 (c := 183) rfl (by decide) rfl rfl (hRN.at (c := 183) (i := 42) (v := 210) rfl (by decide)) ?_
            refine mm_bipush dX13_roundOf_102 rfl (by decide) ?_
            refine mm_iload dX13_roundOf_104 rfl rfl ?_
            refine mm_imul dX13_roundOf_106 rfl ?_
            refine mm_iload dX13_roundOf_107 rfl rfl ?_
            refine mm_iadd dX13_roundOf_109 rfl ?_
            refine mm_ialk (k0 := 15 * u + i) dX13_roundOf_110 rfl (c := 209) rfl (by decide) rfl (by omega) (by omega) ?_
            rw [hveN]
            refine mm_istore dX13_roundOf_111 rfl (Nat.le_of_ble_eq_true rfl) rfl ?_
            refine mm_iload dX13_roundOf_113 rfl rfl ?_
            refine mm_iload_n dX13_roundOf_115 rfl rfl ?_
            refine mm_icne dX13_roundOf_116 (by omega) (by omega) (fun h116 => ?_) (fun h116 => ?_)
            · refine mm_aload_n dX13_roundOf_124 rfl rfl ?_
              refine mm_getr dX13_roundOf_125 rfl fl_X13_280 (c := 183) rfl (by decide) rfl rfl (hRN.at (c := 183) (i := 44) (v := 212) rfl (by decide)) ?_
              refine mm_iload dX13_roundOf_128 rfl rfl ?_
              refine mm_ialk (k0 := v) dX13_roundOf_130 rfl (c := 211) rfl (by decide) rfl (by omega) (by omega) ?_
              refine mm_ldcw dX13_roundOf_131 rfl kc_X13_543 ?_
              refine mm_icge dX13_roundOf_134 (by omega) (by omega) (fun h134 => ?_) (fun h134 => ?_)
              · refine mm_aload_n dX13_roundOf_140 rfl rfl ?_
                refine mm_getr dX13_roundOf_141 rfl fl_X13_280 (c := 183) rfl (by decide) rfl rfl (hRN.at (c := 183) (i := 44) (v := 212) rfl (by decide)) ?_
                refine mm_iload dX13_roundOf_144 rfl rfl ?_
                refine mm_iload dX13_roundOf_146 rfl rfl ?_
                refine mm_iconst dX13_roundOf_148 rfl ?_
                refine mm_iadd dX13_roundOf_149 rfl ?_
                refine mm_istk (k0 := v) dX13_roundOf_150 rfl (c := 211) rfl (by decide) rfl (by omega) (by omega) (fun M150 hM150 => ?_)
                have hR150 : mm_Rf M150 := by rw [hM150]; exact hRN.up (mm_rt_ar (t := 0) rfl (by decide))
                refine mm_aload_n dX13_roundOf_151 rfl rfl ?_
                refine mm_getr dX13_roundOf_152 rfl fl_X13_283 (c := 183) rfl (by decide) rfl rfl (hR150.at (c := 183) (i := 45) (v := 213) rfl (by decide)) ?_
                refine mm_iload_n dX13_roundOf_155 rfl rfl ?_
                refine mm_iload dX13_roundOf_156 rfl rfl ?_
                refine mm_istk (k0 := e) dX13_roundOf_158 rfl (c := 212) rfl (by decide) rfl (by omega) (by omega) (fun M158 hM158 => ?_)
                have hR158 : mm_Rf M158 := by rw [hM158]; exact hR150.up (mm_rt_ar (t := 0) rfl (by decide))
                refine mm_iinc dX13_roundOf_159 rfl rfl (Nat.le_of_ble_eq_true rfl) rfl ?_
                refine mm_iinc dX13_roundOf_162 rfl rfl (Nat.le_of_ble_eq_true rfl) rfl ?_
                refine mm_goto dX13_roundOf_165 ?_
                have f1 : M158 211 v = d + 1 := by rw [hM158, mm_up_row (by decide), hM150, mm_up_s]
                have f2 : ∀ w, w ≠ v → M158 211 w = N 211 w := fun w hw => by rw [hM158, mm_up_row (by decide), hM150, mm_up_i hw]
                have q1 : M158 212 e = (v : Int) := by rw [hM158, mm_up_s]
                have q2 : ∀ w, w ≠ e → M158 212 w = N 212 w := fun w hw => by rw [hM158, mm_up_i hw, hM150, mm_up_row (by decide)]
                obtain ⟨p1, p2⟩ := hQ.push hke hv hvb hf (by omega) htv (by rw [f1, hqu, hqd]) f2 q1 q2
                have go := ih hlt _ (e + 1) ⟨hR158, fun a a1 a2 => by rw [hM158, mm_up_row a2, hM150, mm_up_row a1]; exact hI.2 a a1 a2⟩ (by omega) p1 (by rw [q2 k (by omega)]; exact hqu) (by rw [hqu, hqd, q2 k (by omega), hqu] at p2; exact p2) (fun j hj w hjw => by
                  by_cases cj : j = i
                  · have wv : w = v := by rw [cj, hve] at hjw; omega
                    rw [wv, f1]
                    exact ⟨hvb, Int.le_refl _, by omega⟩
                  · obtain ⟨x1, x2, x3⟩ := hw j (by omega) w hjw
                    have wv : w ≠ v := fun z => by rw [z, hf] at x3; omega
                    rw [f2 w wv]
                    exact ⟨x1, x2, x3⟩)
                rw [show ((i + 1 : Nat) : Int) = (i : Int) + 1 by omega, show ((e + 1 : Nat) : Int) = (e : Int) + 1 by omega] at go
                exact mm_drop (by repeat (first | exact trivial | refine And.intro (Or.inl rfl) ?_ | refine And.intro (Or.inr rfl) ?_)) go
              · exfalso; omega
            · exfalso; omega
        · obtain ⟨dv, v1, v2, v3, v4, -, x, x1, x2⟩ : ∃ dv : Nat, N 211 v = (dv : Int) ∧ 1 ≤ dv ∧ dv ≤ n ∧ v ≠ b ∧ kd_R (ky_r M n) b dv v ∧ ∃ x, x < e ∧ (N 212 x).toNat = v := by
            rcases hfv with z | z
            · exact absurd z hf
            · exact z
          have vle : N 211 v ≤ d + 1 := by
            have := hQ.up hke x x1
            rw [x2, hqu, hqd] at this
            have e : kQ_d b (N 211) v = N 211 v := by unfold kQ_d; rw [if_neg hvb]
            omega
          have go := ih hlt N e hI hke hQ hqu hqd (fun j hj w hjw => by
            by_cases cj : j = i
            · have wv : w = v := by rw [cj, hve] at hjw; omega
              rw [wv]
              exact ⟨hvb, vle, by omega⟩
            · exact hw j (by omega) w hjw)
          rw [show ((i + 1 : Nat) : Int) = (i : Int) + 1 by omega] at go
          refine mm_iload dX13_roundOf_86 rfl rfl ?_
          refine mm_aload_n dX13_roundOf_88 rfl rfl ?_
          refine mm_getr dX13_roundOf_89 rfl fl_X13_277 (c := 183) rfl (by decide) rfl rfl (hRN.at (c := 183) (i := 43) (v := 211) rfl (by decide)) ?_
          refine mm_iload dX13_roundOf_92 rfl rfl ?_
          refine mm_ialk (k0 := u) dX13_roundOf_94 rfl (c := 210) rfl (by decide) rfl (by omega) (by omega) ?_
          rw [hcN]
          refine mm_icge dX13_roundOf_95 (by omega) (by omega) (fun h95 => ?_) (fun h95 => ?_)
          · exfalso; omega
          · refine mm_aload_n dX13_roundOf_98 rfl rfl ?_
            refine mm_getr dX13_roundOf_99 rfl fl_X13_274 (c := 183) rfl (by decide) rfl rfl (hRN.at (c := 183) (i := 42) (v := 210) rfl (by decide)) ?_
            refine mm_bipush dX13_roundOf_102 rfl (by decide) ?_
            refine mm_iload dX13_roundOf_104 rfl rfl ?_
            refine mm_imul dX13_roundOf_106 rfl ?_
            refine mm_iload dX13_roundOf_107 rfl rfl ?_
            refine mm_iadd dX13_roundOf_109 rfl ?_
            refine mm_ialk (k0 := 15 * u + i) dX13_roundOf_110 rfl (c := 209) rfl (by decide) rfl (by omega) (by omega) ?_
            rw [hveN]
            refine mm_istore dX13_roundOf_111 rfl (Nat.le_of_ble_eq_true rfl) rfl ?_
            refine mm_iload dX13_roundOf_113 rfl rfl ?_
            refine mm_iload_n dX13_roundOf_115 rfl rfl ?_
            refine mm_icne dX13_roundOf_116 (by omega) (by omega) (fun h116 => ?_) (fun h116 => ?_)
            · refine mm_aload_n dX13_roundOf_124 rfl rfl ?_
              refine mm_getr dX13_roundOf_125 rfl fl_X13_280 (c := 183) rfl (by decide) rfl rfl (hRN.at (c := 183) (i := 44) (v := 212) rfl (by decide)) ?_
              refine mm_iload dX13_roundOf_128 rfl rfl ?_
              refine mm_ialk (k0 := v) dX13_roundOf_130 rfl (c := 211) rfl (by decide) rfl (by omega) (by omega) ?_
              refine mm_ldcw dX13_roundOf_131 rfl kc_X13_543 ?_
              refine mm_icge dX13_roundOf_134 (by omega) (by omega) (fun h134 => ?_) (fun h134 => ?_)
              · exfalso; omega
              · refine mm_goto dX13_roundOf_137 ?_
                refine mm_iinc dX13_roundOf_162 rfl rfl (Nat.le_of_ble_eq_true rfl) rfl ?_
                refine mm_goto dX13_roundOf_165 ?_
                exact mm_drop (by repeat (first | exact trivial | refine And.intro (Or.inl rfl) ?_ | refine And.intro (Or.inr rfl) ?_)) go
            · exfalso; omega
    · have ei : i = c := by omega
      subst ei
      have go := out N e hI hke (hQ.next hke (fun v hv => by
        rw [hqu] at hv ⊢
        rw [hqd]
        obtain ⟨-, j, j1, j2⟩ := hv
        exact hw j (by omega) v j2))
      refine mm_iload dX13_roundOf_86 rfl rfl ?_
      refine mm_aload_n dX13_roundOf_88 rfl rfl ?_
      refine mm_getr dX13_roundOf_89 rfl fl_X13_277 (c := 183) rfl (by decide) rfl rfl (hRN.at (c := 183) (i := 43) (v := 211) rfl (by decide)) ?_
      refine mm_iload dX13_roundOf_92 rfl rfl ?_
      refine mm_ialk (k0 := u) dX13_roundOf_94 rfl (c := 210) rfl (by decide) rfl (by omega) (by omega) ?_
      rw [hcN]
      refine mm_icge dX13_roundOf_95 (by omega) (by omega) (fun h95 => ?_) (fun h95 => ?_)
      · exact mm_drop (by repeat (first | exact trivial | refine And.intro (Or.inl rfl) ?_ | refine And.intro (Or.inr rfl) ?_)) go
      · exfalso; omega
  -- the states of the queue
  have l2 : ∀ k : Nat, k ≤ n → ∀ N (e : Nat), ky_I M N → kQ_I (ky_r M n) n b k e (N 211) (N 212) → mm_J X Y_X13_roundOf 243 243 243 37 [(2, 184), (0, (b : Int)), (0, m), (0, (e : Int)), (0, (k : Int)), (9, 0), (9, 0), (9, 0), (9, 0)] [] N Φ := by
    refine mm_lp ?_
    intro k hk ih N e hI hQ
    have hRN := hI.1
    have hen := hQ.en
    have hke := hQ.ke
    by_cases hlt : k < e
    · obtain ⟨u, hu⟩ : ∃ u, u = (N 212 k).toNat := ⟨_, rfl⟩
      have hqn := hQ.qn k hlt
      rw [← hu] at hqn
      obtain ⟨hqu, hun⟩ := hqn
      obtain ⟨d, hd⟩ : ∃ d, d = kQ_d b (N 211) u := ⟨_, rfl⟩
      have hd0 := hQ.dge hlt
      have hdk := hQ.di k hlt
      rw [← hu, ← hd] at hd0 hdk
      obtain ⟨c, c1, c2, -⟩ := hM u hun
      have cases : d + 1 < m ∨ m ≤ d + 1 := by omega
      have hno : m ≤ d + 1 → ∀ l : Nat, 1 ≤ l → (l : Int) < m → ¬ kd_D (ky_r M n) b l b := by
        intro z l l1 l2
        have := hQ.none hN d.toNat (Or.inr ⟨hlt, by rw [← hu, ← hd]; omega⟩) (l - 1) (by omega)
        rw [show l - 1 + 1 = l by omega] at this
        exact this
      have b168 : ∀ P (e : Nat), ky_I M P → k < e → kQ_I (ky_r M n) n b (k + 1) e (P 211) (P 212) → mm_J X Y_X13_roundOf 243 243 243 168 [(2, 184), (0, (b : Int)), (0, m), (0, (e : Int)), (0, (k : Int)), (9, 0), (9, 0), (9, 0), (9, 0)] [] P Φ := by
        intro P e hP hke hPQ
        have hRP := hP.1
        have go := ih (by omega) P e hP hPQ
        rw [show ((k + 1 : Nat) : Int) = (k : Int) + 1 by omega] at go
        refine mm_iinc dX13_roundOf_168 rfl rfl (Nat.le_of_ble_eq_true rfl) rfl ?_
        refine mm_goto dX13_roundOf_171 ?_
        exact go
      have go : d + 1 < m → mm_J X Y_X13_roundOf 243 243 243 86 [(2, 184), (0, (b : Int)), (0, m), (0, (e : Int)), (0, (k : Int)), (0, (u : Int)), (0, d), (0, (0 : Int)), (9, 0)] [] N Φ := fun z => l3 k u c d hun c1 c2 hd0 z hdk b168 0 (Nat.zero_le _) N e hI hlt hQ hu.symm hd.symm (fun j hj => absurd hj (by omega))
      by_cases cb : u = b
      · have d0 : d = 0 := by rw [hd]; unfold kQ_d; rw [if_pos cb]
        rw [d0] at go hno
        refine mm_iload dX13_roundOf_37 rfl rfl ?_
        refine mm_iload_n dX13_roundOf_39 rfl rfl ?_
        refine mm_icge dX13_roundOf_40 (by omega) (by omega) (fun h40 => ?_) (fun h40 => ?_)
        · exfalso; omega
        · refine mm_aload_n dX13_roundOf_43 rfl rfl ?_
          refine mm_getr dX13_roundOf_44 rfl fl_X13_283 (c := 183) rfl (by decide) rfl rfl (hRN.at (c := 183) (i := 45) (v := 213) rfl (by decide)) ?_
          refine mm_iload dX13_roundOf_47 rfl rfl ?_
          refine mm_ialk (k0 := k) dX13_roundOf_49 rfl (c := 212) rfl (by decide) rfl (by omega) (by omega) ?_
          rw [hqu]
          refine mm_istore dX13_roundOf_50 rfl (Nat.le_of_ble_eq_true rfl) rfl ?_
          refine mm_iload dX13_roundOf_52 rfl rfl ?_
          refine mm_iload_n dX13_roundOf_54 rfl rfl ?_
          refine mm_icne dX13_roundOf_55 (by omega) (by omega) (fun h55 => ?_) (fun h55 => ?_)
          · exfalso; omega
          · refine mm_iconst dX13_roundOf_58 rfl ?_
            refine mm_goto dX13_roundOf_59 ?_
            refine mm_istore dX13_roundOf_69 rfl (Nat.le_of_ble_eq_true rfl) rfl ?_
            refine mm_iload dX13_roundOf_71 rfl rfl ?_
            refine mm_iconst dX13_roundOf_73 rfl ?_
            refine mm_iadd dX13_roundOf_74 rfl ?_
            refine mm_iload_n dX13_roundOf_75 rfl rfl ?_
            refine mm_iclt dX13_roundOf_76 (by omega) (by omega) (fun h76 => ?_) (fun h76 => ?_)
            · refine mm_iconst dX13_roundOf_83 rfl ?_
              refine mm_istore dX13_roundOf_84 rfl (Nat.le_of_ble_eq_true rfl) rfl ?_
              exact go (by omega)
            · refine mm_ldcw dX13_roundOf_79 rfl kc_X13_543 ?_
              refine mm_iret dX13_roundOf_82 rfl rfl ?_
              rw [hΦ]; exact ⟨_, rfl, hRN, hI, Or.inl ⟨rfl, hno (by omega)⟩⟩
      · have hfd : N 211 u = d := by rw [hd]; unfold kQ_d; rw [if_neg cb]
        refine mm_iload dX13_roundOf_37 rfl rfl ?_
        refine mm_iload_n dX13_roundOf_39 rfl rfl ?_
        refine mm_icge dX13_roundOf_40 (by omega) (by omega) (fun h40 => ?_) (fun h40 => ?_)
        · exfalso; omega
        · refine mm_aload_n dX13_roundOf_43 rfl rfl ?_
          refine mm_getr dX13_roundOf_44 rfl fl_X13_283 (c := 183) rfl (by decide) rfl rfl (hRN.at (c := 183) (i := 45) (v := 213) rfl (by decide)) ?_
          refine mm_iload dX13_roundOf_47 rfl rfl ?_
          refine mm_ialk (k0 := k) dX13_roundOf_49 rfl (c := 212) rfl (by decide) rfl (by omega) (by omega) ?_
          rw [hqu]
          refine mm_istore dX13_roundOf_50 rfl (Nat.le_of_ble_eq_true rfl) rfl ?_
          refine mm_iload dX13_roundOf_52 rfl rfl ?_
          refine mm_iload_n dX13_roundOf_54 rfl rfl ?_
          refine mm_icne dX13_roundOf_55 (by omega) (by omega) (fun h55 => ?_) (fun h55 => ?_)
          · refine mm_aload_n dX13_roundOf_62 rfl rfl ?_
            refine mm_getr dX13_roundOf_63 rfl fl_X13_280 (c := 183) rfl (by decide) rfl rfl (hRN.at (c := 183) (i := 44) (v := 212) rfl (by decide)) ?_
            refine mm_iload dX13_roundOf_66 rfl rfl ?_
            refine mm_ialk (k0 := u) dX13_roundOf_68 rfl (c := 211) rfl (by decide) rfl (by omega) (by omega) ?_
            rw [hfd]
            refine mm_istore dX13_roundOf_69 rfl (Nat.le_of_ble_eq_true rfl) rfl ?_
            refine mm_iload dX13_roundOf_71 rfl rfl ?_
            refine mm_iconst dX13_roundOf_73 rfl ?_
            refine mm_iadd dX13_roundOf_74 rfl ?_
            refine mm_iload_n dX13_roundOf_75 rfl rfl ?_
            refine mm_iclt dX13_roundOf_76 (by omega) (by omega) (fun h76 => ?_) (fun h76 => ?_)
            · refine mm_iconst dX13_roundOf_83 rfl ?_
              refine mm_istore dX13_roundOf_84 rfl (Nat.le_of_ble_eq_true rfl) rfl ?_
              exact go (by omega)
            · refine mm_ldcw dX13_roundOf_79 rfl kc_X13_543 ?_
              refine mm_iret dX13_roundOf_82 rfl rfl ?_
              rw [hΦ]; exact ⟨_, rfl, hRN, hI, Or.inl ⟨rfl, hno (by omega)⟩⟩
          · exfalso; omega
    · have ek : k = e := by omega
      have hno : ∀ l : Nat, 1 ≤ l → (l : Int) < m → ¬ kd_D (ky_r M n) b l b := by
        intro l l1 l2
        have := hQ.none hN l (Or.inl ek) (l - 1) (by omega)
        rw [show l - 1 + 1 = l by omega] at this
        exact this
      refine mm_iload dX13_roundOf_37 rfl rfl ?_
      refine mm_iload_n dX13_roundOf_39 rfl rfl ?_
      refine mm_icge dX13_roundOf_40 (by omega) (by omega) (fun h40 => ?_) (fun h40 => ?_)
      · refine mm_ldcw dX13_roundOf_174 rfl kc_X13_543 ?_
        refine mm_iret dX13_roundOf_177 rfl rfl ?_
        rw [hΦ]; exact ⟨_, rfl, hRN, hI, Or.inl ⟨rfl, hno⟩⟩
      · exfalso; omega
  have l1 : ∀ s : Nat, s ≤ n → ∀ N, ky_I M N → (∀ v, v < s → N 211 v = 1000000) → mm_J X Y_X13_roundOf 243 243 243 2 [(2, 184), (0, (b : Int)), (0, m), (0, (s : Int)), (9, 0), (9, 0), (9, 0), (9, 0), (9, 0)] [] N Φ := by
    refine mm_lp ?_
    intro s hs ih N hI hH
    have hRN := hI.1
    have cn := c_X13_states (X := X) hRN
    rw [hrk N hI, hn] at cn
    by_cases hlt : s < n
    · refine mm_iload_n dX13_roundOf_2 rfl rfl ?_
      refine mm_aload_n dX13_roundOf_3 rfl rfl ?_
      refine mm_V0i dX13_roundOf_4 rfl lk_X13_458 (c := 183) rfl (by decide) rfl  rfl rfl rfl (cn) ?_
      refine mm_icge dX13_roundOf_7 (by omega) (by omega) (fun h7 => ?_) (fun h7 => ?_)
      · exfalso; omega
      · refine mm_aload_n dX13_roundOf_10 rfl rfl ?_
        refine mm_getr dX13_roundOf_11 rfl fl_X13_280 (c := 183) rfl (by decide) rfl rfl (hRN.at (c := 183) (i := 44) (v := 212) rfl (by decide)) ?_
        refine mm_iload_n dX13_roundOf_14 rfl rfl ?_
        refine mm_ldcw dX13_roundOf_15 rfl kc_X13_543 ?_
        refine mm_istk (k0 := s) dX13_roundOf_18 rfl (c := 211) rfl (by decide) rfl (by omega) (by omega) (fun M18 hM18 => ?_)
        have hR18 : mm_Rf M18 := by rw [hM18]; exact hRN.up (mm_rt_ar (t := 0) rfl (by decide))
        refine mm_iinc dX13_roundOf_19 rfl rfl (Nat.le_of_ble_eq_true rfl) rfl ?_
        refine mm_goto dX13_roundOf_22 ?_
        have go := ih hlt _ ⟨hR18, ?_⟩ ?_
        · rw [show ((s + 1 : Nat) : Int) = (s : Int) + 1 by omega] at go
          exact go
        · intro a a1 a2; rw [hM18, mm_up_row a1]; exact hI.2 a a1 a2
        · intro v hv
          by_cases c : v = s
          · rw [c, hM18, mm_up_s]
          · rw [hM18, mm_up_i (by omega)]; exact hH v (by omega)
    · have es : s = n := by omega
      subst es
      refine mm_iload_n dX13_roundOf_2 rfl rfl ?_
      refine mm_aload_n dX13_roundOf_3 rfl rfl ?_
      refine mm_V0i dX13_roundOf_4 rfl lk_X13_458 (c := 183) rfl (by decide) rfl  rfl rfl rfl (cn) ?_
      refine mm_icge dX13_roundOf_7 (by omega) (by omega) (fun h7 => ?_) (fun h7 => ?_)
      · refine mm_aload_n dX13_roundOf_25 rfl rfl ?_
        refine mm_getr dX13_roundOf_26 rfl fl_X13_283 (c := 183) rfl (by decide) rfl rfl (hRN.at (c := 183) (i := 45) (v := 213) rfl (by decide)) ?_
        refine mm_iconst dX13_roundOf_29 rfl ?_
        refine mm_iload_n dX13_roundOf_30 rfl rfl ?_
        refine mm_istk (k0 := 0) dX13_roundOf_31 rfl (c := 212) rfl (by decide) rfl rfl (by decide) (fun M31 hM31 => ?_)
        have hR31 : mm_Rf M31 := by rw [hM31]; exact hRN.up (mm_rt_ar (t := 0) rfl (by decide))
        refine mm_iconst dX13_roundOf_32 rfl ?_
        refine mm_istore_n dX13_roundOf_33 rfl (Nat.le_of_ble_eq_true rfl) rfl ?_
        refine mm_iconst dX13_roundOf_34 rfl ?_
        refine mm_istore dX13_roundOf_35 rfl (Nat.le_of_ble_eq_true rfl) rfl ?_
        exact l2 0 (Nat.zero_le _) _ 1 ⟨hR31, fun a a1 a2 => by rw [hM31, mm_up_row a2]; exact hI.2 a a1 a2⟩ (kQ_I.zero hb (by rw [hM31, mm_up_row (by decide)]; exact hH) (by rw [hM31, mm_up_s]))
      · exfalso; omega
  refine mm_start (ls := [(2, 184), (0, (b : Int)), (0, m), (9, 0), (9, 0), (9, 0), (9, 0), (9, 0), (9, 0)]) rfl ?_
  refine mm_iconst dX13_roundOf_0 rfl ?_
  refine mm_istore_n dX13_roundOf_1 rfl (Nat.le_of_ble_eq_true rfl) rfl ?_
  exact l1 0 (Nat.zero_le _) M ⟨hR, fun _ _ _ => rfl⟩ (fun v hv => absurd hv (by omega))
end
end
/-! GI.best -/
section
/-! ===== which loop is the best ===== -/
/-- a safe act is a step with what it surely gives -/
def kb_E (K Lo Hi : Nat → Int) (h : Int) (u v : Nat) (w : Int) : Prop := ks_st K (u : Int) ∧ ∃ a, ks_ac K a ∧ ks_safe K Lo Hi (u : Int) a h ∧ ks_to K (u : Int) a = (v : Int) ∧ w = ks_sure K Lo Hi (u : Int) a h
/-- an act that keeps the level -/
def kb_T (K Lo Hi : Nat → Int) (h : Int) (H : Nat → Int) (S C s a : Int) : Prop := ks_ac K a ∧ ks_safe K Lo Hi s a h ∧ H s.toNat + (C * ks_sure K Lo Hi s a h - S) = H (ks_to K s a).toNat
def kb_t (K Lo Hi : Nat → Int) (h : Int) (H : Nat → Int) (S C : Int) (u v : Nat) : Prop := ks_st K (u : Int) ∧ ∃ a, kb_T K Lo Hi h H S C (u : Int) a ∧ ks_to K (u : Int) a = (v : Int)
section
variable {K Lo Hi H A : Nat → Int} {h S C : Int} {m : Nat}
theorem kb_lp.gl (hK : mm_KV K) {s : Int} (hl : kb_lp K Lo Hi h s A m) : gL (kb_E K Lo Hi h) (fun j => (kf_run K s A j).toNat) (kj_g K Lo Hi s h A) m := by
  have st := hl.st hK
  refine ⟨fun j hj => ?_, hl.1, ?_⟩
  · have q := st j (by omega)
    have q2 := st (j + 1) (by omega)
    have e : (((kf_run K s A j).toNat : Nat) : Int) = kf_run K s A j := by have := q.1; omega
    have e2 : (((kf_run K s A (j + 1)).toNat : Nat) : Int) = kf_run K s A (j + 1) := by have := q2.1; omega
    refine ⟨by rw [e]; exact q, A j, (hl.2.2.1 j hj).1, by rw [e]; exact (hl.2.2.1 j hj).2, by rw [e, e2]; rfl, by rw [e]; rfl⟩
  · show (kf_run K s A m).toNat = (kf_run K s A 0).toNat
    rw [hl.2.2.2]; rfl
theorem kz_le {e : Nat → Nat → Int → Prop} {p : Nat → Nat} {g : Nat → Int} (hK : ∀ u v w, e u v w → H u + (C * w - S) ≤ H v) (hL : gL e p g m) : C * ka_sum g m ≤ S * m := by
  have t := kz_tele (S := S) (C := C) (g := g) (H := H) (p := p) m
  rw [hL.2.2] at t
  unfold gS at t
  have z : ∀ k, ka_sum (fun _ => (0 : Int)) k = 0 := by
    intro k
    induction k with
    | zero => rfl
    | succ k ih => show ka_sum (fun _ => (0 : Int)) k + 0 = 0; omega
  have b := ka_sum_ple (f := fun _ => (0 : Int)) (g := fun j => H (p (j + 1)) - H (p j) - (C * g j - S)) m (fun j hj => by
    have := hK _ _ _ (hL.1 j hj)
    show (0 : Int) ≤ H (p (j + 1)) - H (p j) - (C * g j - S)
    omega)
  rw [z] at b
  omega
theorem kd_Dof {t : Nat → Nat → Prop} {p : Nat → Nat} : ∀ (k j : Nat), (∀ i, i < j + k → t (p i) (p (i + 1))) → kd_D t (p (j + k)) k (p j)
  | 0, j, _ => rfl
  | k + 1, j, h => ⟨p (j + 1), h j (by omega), by
      have := kd_Dof k (j + 1) (fun i hi => h i (by omega))
      rw [show j + 1 + k = j + (k + 1) by omega] at this
      exact this⟩
theorem kb_diff {A B : Nat → Int} : ∀ n : Nat, (∀ j, j < n → A j = B j) ∨ ∃ j, j < n ∧ (∀ i, i < j → A i = B i) ∧ A j ≠ B j
  | 0 => Or.inl (fun j hj => absurd hj (by omega))
  | n + 1 => by
    rcases kb_diff (A := A) (B := B) n with q | ⟨j, j1, j2, j3⟩
    · by_cases c : A n = B n
      · refine Or.inl (fun j hj => ?_)
        by_cases e : j = n
        · rw [e]; exact c
        · exact q j (by omega)
      · exact Or.inr ⟨n, by omega, q, c⟩
    · exact Or.inr ⟨j, by omega, j2, j3⟩
/-- a loop along acts that keep the level, of the greatest mean -/
theorem kb_lp.tight (hK : mm_KV K) (hup : ∀ u v w, kb_E K Lo Hi h u v w → H u + (C * w - S) ≤ H v) {s : Int} (hl : kb_lp K Lo Hi h s A m) : C * kb_sm K Lo Hi h s A m = S * m ↔ ∀ j, j < m → kb_T K Lo Hi h H S C (kf_run K s A j) (A j) := by
  have st := hl.st hK
  unfold kb_sm
  rw [kz_loop hup (hl.gl hK)]
  constructor
  · intro q j hj
    have := q j hj
    exact ⟨(hl.2.2.1 j hj).1, (hl.2.2.1 j hj).2, this⟩
  · intro q j hj
    exact (q j hj).2.2
theorem kb_lp.tt (hK : mm_KV K) {s : Int} (hl : kb_lp K Lo Hi h s A m) (ht : ∀ j, j < m → kb_T K Lo Hi h H S C (kf_run K s A j) (A j)) : ∀ j, j < m → kb_t K Lo Hi h H S C (kf_run K s A j).toNat (kf_run K s A (j + 1)).toNat := by
  intro j hj
  have st := hl.st hK
  have q := st j (by omega)
  have q2 := st (j + 1) (by omega)
  have e : (((kf_run K s A j).toNat : Nat) : Int) = kf_run K s A j := by have := q.1; omega
  have e2 : (((kf_run K s A (j + 1)).toNat : Nat) : Int) = kf_run K s A (j + 1) := by have := q2.1; omega
  exact ⟨by rw [e]; exact q, A j, by rw [e]; exact ht j hj, by rw [e, e2]; rfl⟩
theorem kb_lp.dd (hK : mm_KV K) {s : Int} (hl : kb_lp K Lo Hi h s A m) (ht : ∀ j, j < m → kb_T K Lo Hi h H S C (kf_run K s A j) (A j)) {j : Nat} (hj : j ≤ m) : kd_D (kb_t K Lo Hi h H S C) s.toNat (m - j) (kf_run K s A j).toNat := by
  have := kd_Dof (t := kb_t K Lo Hi h H S C) (p := fun j => (kf_run K s A j).toNat) (m - j) j (fun i hi => hl.tt hK ht i (by omega))
  rw [show j + (m - j) = m by omega] at this
  have this : kd_D (kb_t K Lo Hi h H S C) (kf_run K s A m).toNat (m - j) (kf_run K s A j).toNat := this
  rw [hl.2.2.2] at this
  exact this
theorem kb_of (hK : mm_KV K) (hC : 0 < C) (hup : ∀ u v w, kb_E K Lo Hi h u v w → H u + (C * w - S) ≤ H v) {b N : Nat} (hb : ks_st K (b : Int)) (h1 : 1 ≤ N) (h2 : N ≤ 288)
    (hs : ∀ j, j < N → kb_T K Lo Hi h H S C (kf_run K (b : Int) A j) (A j) ∧ ∀ a, kb_T K Lo Hi h H S C (kf_run K (b : Int) A j) a → kd_D (kb_t K Lo Hi h H S C) b (N - j - 1) (ks_to K (kf_run K (b : Int) A j) a).toNat → A j ≤ a)
    (he : kf_run K (b : Int) A N = (b : Int)) (hmin : ∀ s : Nat, ks_st K (s : Int) → ∀ l : Nat, 1 ≤ l → kd_D (kb_t K Lo Hi h H S C) s l s → N < l ∨ (N = l ∧ b ≤ s))
    {T : Nat → Int} (hT : ∀ j, j < N → T j = kf_run K (b : Int) A j) : kb_is K Lo Hi h (N : Int) (kb_sm K Lo Hi h (b : Int) A N) A T := by
  have T0 : T 0 = (b : Int) := hT 0 (by omega)
  have hl : kb_lp K Lo Hi h (b : Int) A N := ⟨h1, hb, fun j hj => ⟨(hs j hj).1.1, (hs j hj).1.2.1⟩, he⟩
  have hw := (hl.tight hK hup).mpr (fun j hj => (hs j hj).1)
  refine Or.inr ⟨N, rfl, h2, by rw [T0]; exact hl, by rw [T0], by rw [T0]; exact hT, ?_⟩
  intro s B m hB
  have hBg := kz_le hup (hB.gl hK)
  have hm1 := hB.1
  obtain ⟨x, hx⟩ : ∃ x, x = kb_sm K Lo Hi h s B m := ⟨_, rfl⟩
  obtain ⟨w, hw0⟩ : ∃ w, w = kb_sm K Lo Hi h (b : Int) A N := ⟨_, rfl⟩
  rw [T0, ← hx, ← hw0]
  rw [← hw0] at hw
  have hBg : C * x ≤ S * m := by rw [hx]; exact hBg
  have u1 : x * N ≤ w * m := fr_trans (b := (m : Int)) (c := S) (d := C) (f := (N : Int)) (by omega) hC (by omega) (by rw [Int.mul_comm]; exact hBg) (by rw [Int.mul_comm w, hw]; exact Int.le_refl _)
  by_cases c : x * N < w * m
  · exact Or.inl c
  · right
    have eq : x * N = w * m := by omega
    refine ⟨eq, ?_⟩
    have u2 : S * m ≤ x * C := fr_trans (b := C) (c := w) (d := (N : Int)) (f := (m : Int)) (by omega) (by omega) (by omega) (by rw [Int.mul_comm w, hw]; exact Int.le_refl _) (by omega)
    have hx2 : C * kb_sm K Lo Hi h s B m = S * m := by rw [← hx]; rw [Int.mul_comm x C] at u2; omega
    have tB := (hB.tight hK hup).mp hx2
    have d0 := hB.dd hK tB (Nat.zero_le m)
    have s0 := hB.2.1
    have es : ((s.toNat : Nat) : Int) = s := by omega
    rcases hmin s.toNat (by rw [es]; exact s0) m hm1 (by
      have d1 := d0
      rw [Nat.sub_zero] at d1
      exact d1) with q | ⟨q1, q2⟩
    · exact Or.inl q
    · refine Or.inr ⟨q1, ?_⟩
      by_cases cs : (b : Int) < s
      · exact Or.inl cs
      · right
        have bs : (b : Int) = s := by omega
        refine ⟨bs, ?_⟩
        subst q1
        rcases kb_diff (A := A) (B := B) N with z | ⟨j, j1, j2, j3⟩
        · exact Or.inl z
        · right
          refine ⟨j, j1, j2, ?_⟩
          have er : kf_run K s B j = kf_run K (b : Int) A j := kf_run_congr bs.symm (fun i hi => (j2 i hi).symm)
          have tj := tB j j1
          have dj := hB.dd hK tB (show j + 1 ≤ N by omega)
          rw [show N - (j + 1) = N - j - 1 by omega, ← bs] at dj
          have e2 : kf_run K (b : Int) B (j + 1) = ks_to K (kf_run K (b : Int) A j) (B j) := by
            show ks_to K (kf_run K (b : Int) B j) (B j) = _
            rw [bs, er, bs]
          rw [e2, show ((b : Int)).toNat = b by omega] at dj
          rw [er] at tj
          have := (hs j j1).2 (B j) tj dj
          omega
/-- there is no loop -/
theorem kb_none {len worth : Int} {T : Nat → Int} (h0 : len = 0) (h1 : ¬ ∃ p g m, gL (kb_E K Lo Hi h) p g m) (hK : mm_KV K) : kb_is K Lo Hi h len worth A T :=
  Or.inl ⟨h0, fun s B n q => h1 ⟨_, _, _, q.gl hK⟩⟩
end
end
/-! GJ.acts -/
section
/-! ===== rounds are short; told steps and acts ===== -/
section
variable {t : Nat → Nat → Prop}
theorem kd_walk {g : Nat} : ∀ (d v : Nat), kd_D t g d v → ∃ p : Nat → Nat, p 0 = v ∧ p d = g ∧ ∀ i, i < d → t (p i) (p (i + 1))
  | 0, v, h => ⟨fun _ => v, rfl, h, fun i hi => absurd hi (by omega)⟩
  | d + 1, v, ⟨u, h1, h2⟩ => by
    obtain ⟨p, p1, p2, p3⟩ := kd_walk d u h2
    refine ⟨fun i => if i = 0 then v else p (i - 1), rfl, ?_, ?_⟩
    · show (if d + 1 = 0 then v else p (d + 1 - 1)) = g
      rw [if_neg (by omega)]; exact p2
    · intro i hi
      show t (if i = 0 then v else p (i - 1)) (if i + 1 = 0 then v else p (i + 1 - 1))
      rw [if_neg (show ¬ i + 1 = 0 by omega), show i + 1 - 1 = i by omega]
      by_cases c : i = 0
      · rw [if_pos c, c, p1]; exact h1
      · rw [if_neg c]
        have := p3 (i - 1) (by omega)
        rw [show i - 1 + 1 = i by omega] at this
        exact this
theorem kd_Rof {p : Nat → Nat} : ∀ k : Nat, (∀ i, i < k → t (p i) (p (i + 1))) → kd_R t (p 0) k (p k)
  | 0, _ => rfl
  | k + 1, h => ⟨p k, kd_Rof k (fun i hi => h i (by omega)), h k (by omega)⟩
/-- the shortest round is no longer than there are states -/
theorem kd_short {n b : Nat} (hN : ∀ u v, t u v → u < n) {m : Nat} (hm : 1 ≤ m) (h : kd_D t b m b) : ∃ l, 1 ≤ l ∧ l ≤ n ∧ l ≤ m ∧ kd_D t b l b := by
  induction m using Nat.strongRecOn with
  | ind m ih =>
    by_cases c : m ≤ n
    · exact ⟨m, hm, c, Nat.le_refl m, h⟩
    · obtain ⟨p, p1, p2, p3⟩ := kd_walk m b h
      obtain ⟨i, j, i1, i2, i3⟩ := gz_pig n p (fun i hi => hN _ _ (p3 i (by omega)))
      have a := kd_Rof (t := t) (p := p) i (fun x hx => p3 x (by omega))
      have z := kd_Dof (t := t) (p := p) (m - j) j (fun x hx => p3 x (by omega))
      rw [show j + (m - j) = m by omega, p2, ← i3] at z
      rw [p1] at a
      have d := kd_RD i (m - j) (p i) a z
      obtain ⟨l, l1, l2, l3, l4⟩ := ih (i + (m - j)) (by omega) (by omega) d
      exact ⟨l, l1, l2, by omega, l4⟩
end
section
variable {K Lo Hi F G H : Nat → Int} {h S C : Int} {n : Nat}
theorem ke_P_act {s : Int} {x L : Nat} {f v : Int} (hK : mm_KV K) (hL : L = (K 10).toNat) (hx : x < 15) (hP : ke_P K Lo Hi h s x L f v) :
    (∀ a, ks_ac K a → a % 15 = (x : Int) → ks_safe K Lo Hi s a h → f = 1 ∧ ks_sure K Lo Hi s a h ≤ v) ∧ (f = 1 → ∃ a, ks_ac K a ∧ a % 15 = (x : Int) ∧ ks_safe K Lo Hi s a h ∧ ks_sure K Lo Hi s a h = v) := by
  have h10 : 1 ≤ K 10 ∧ K 10 ≤ 3 := by
    obtain ⟨-, -, -, -, -, -, -, -, -, -, q, -⟩ := hK
    exact q
  constructor
  · intro a ha hax hs
    obtain ⟨i, hi⟩ : ∃ i : Nat, a = 15 * (i : Int) + x := ⟨(a / 15).toNat, by omega⟩
    have iL : i < L := by omega
    rw [hi] at hs ⊢
    rcases hP with ⟨q1, q2⟩ | ⟨q1, q2, q3⟩
    · exact absurd hs (q2 i iL)
    · exact ⟨q1, q3 i iL hs⟩
  · intro hf
    rcases hP with ⟨q1, q2⟩ | ⟨q1, ⟨i, i1, i2, i3⟩, q3⟩
    · omega
    · exact ⟨15 * (i : Int) + x, ⟨by omega, by omega⟩, by omega, i2, i3⟩
theorem ks_to_m {s a : Int} {x : Nat} (ha : ks_ac K a) (hx : a % 15 = (x : Int)) : ks_to K s a = ks_to K s (x : Int) := by
  have e : a = 15 * (a / 15) + x := by omega
  rw [e, ks_to_15]
/-- no act leads higher -/
theorem ke_up (hK : mm_KV K) (hn : ks_n K = (n : Int)) (hC : 0 < C) (hP : ∀ x, x < 15 * n → ke_P K Lo Hi h ((x / 15 : Nat) : Int) (x % 15) (K 10).toNat (F x) (G x)) (hS : ke_S K n F G)
    (hk : ∀ i, i < 15 * n → F i = 1 → H (i / 15) + (C * G i - S) ≤ H (ke_T K i)) : ∀ u v w, kb_E K Lo Hi h u v w → H u + (C * w - S) ≤ H v := by
  rintro u v w ⟨hu, a, a1, a2, a3, a4⟩
  obtain ⟨x, hx⟩ : ∃ x : Nat, a % 15 = (x : Int) := ⟨(a % 15).toNat, by omega⟩
  have hun : u < n := by have := hu.2; omega
  have e1 : (15 * u + x) / 15 = u := by omega
  have e2 : (15 * u + x) % 15 = x := by omega
  have p := hP (15 * u + x) (by omega)
  rw [e1, e2] at p
  obtain ⟨f1, f2⟩ := (ke_P_act hK rfl (by omega) p).1 a a1 hx a2
  have q := hk (15 * u + x) (by omega) f1
  have st := (hS.t (i := 15 * u + x) (by omega) f1).1
  rw [e1] at q
  rw [e1, e2, ← ks_to_m a1 hx, a3] at st
  have ev : ke_T K (15 * u + x) = v := by omega
  rw [ev] at q
  have := Int.mul_le_mul_of_nonneg_left f2 (by omega : 0 ≤ C)
  rw [a4]
  omega
/-- acts that keep the level are of steps that keep it -/
theorem ke_tt (hK : mm_KV K) (hn : ks_n K = (n : Int)) (hC : 0 < C) (hP : ∀ x, x < 15 * n → ke_P K Lo Hi h ((x / 15 : Nat) : Int) (x % 15) (K 10).toNat (F x) (G x)) (hS : ke_S K n F G)
    (hk : ∀ i, i < 15 * n → F i = 1 → H (i / 15) + (C * G i - S) ≤ H (ke_T K i)) (u v : Nat) :
    kb_t K Lo Hi h H S C u v ↔ u < n ∧ ∃ i, 15 * u ≤ i ∧ i < 15 * u + 15 ∧ (F i = 1 ∧ H (i / 15) + (C * G i - S) = H (ke_T K i)) ∧ v = ke_T K i := by
  constructor
  · rintro ⟨hu, a, ⟨a1, a2, a3⟩, a4⟩
    obtain ⟨x, hx⟩ : ∃ x : Nat, a % 15 = (x : Int) := ⟨(a % 15).toNat, by omega⟩
    have hun : u < n := by have := hu.2; omega
    have e1 : (15 * u + x) / 15 = u := by omega
    have e2 : (15 * u + x) % 15 = x := by omega
    have p := hP (15 * u + x) (by omega)
    rw [e1, e2] at p
    obtain ⟨f1, f2⟩ := (ke_P_act hK rfl (by omega) p).1 a a1 hx a2
    have q := hk (15 * u + x) (by omega) f1
    have st := (hS.t (i := 15 * u + x) (by omega) f1).1
    rw [e1] at q
    rw [e1, e2, ← ks_to_m a1 hx, a4] at st
    have ev : ke_T K (15 * u + x) = v := by omega
    have := Int.mul_le_mul_of_nonneg_left f2 (by omega : 0 ≤ C)
    rw [a4, show ((u : Int)).toNat = u by omega, show ((v : Int)).toNat = v by omega] at a3
    refine ⟨hun, 15 * u + x, by omega, by omega, ⟨f1, ?_⟩, ev.symm⟩
    rw [e1, ev]
    rw [ev] at q
    omega
  · rintro ⟨hun, i, i1, i2, ⟨i3, i4⟩, i5⟩
    have e1 : i / 15 = u := by omega
    have p := hP i (by omega)
    rw [e1] at p
    obtain ⟨a, a1, a2, a3, a4⟩ := (ke_P_act hK rfl (by omega) p).2 i3
    have st := (hS.t (i := i) (by omega) i3).1
    rw [e1, ← ks_to_m a1 a2] at st
    rw [e1] at i4
    refine ⟨⟨by omega, by omega⟩, a, ⟨a1, a3, ?_⟩, by omega⟩
    rw [a4, ← st, show ((u : Int)).toNat = u by omega, show (((ke_T K i : Nat)) : Int).toNat = ke_T K i by omega]
    exact i4
/-- the greatest mean is that of a short round -/
theorem ke_round (hK : mm_KV K) (hn : ks_n K = (n : Int)) (hC : 0 < C) (hP : ∀ x, x < 15 * n → ke_P K Lo Hi h ((x / 15 : Nat) : Int) (x % 15) (K 10).toNat (F x) (G x)) (hS : ke_S K n F G)
    (hk : ∀ i, i < 15 * n → F i = 1 → H (i / 15) + (C * G i - S) ≤ H (ke_T K i)) (hm : kw_mean (ke_E K n F G) S C) : ∃ b l : Nat, b < n ∧ 1 ≤ l ∧ l ≤ n ∧ kd_D (kb_t K Lo Hi h H S C) b l b := by
  obtain ⟨-, -, p, g, m, hL, hg⟩ := hm
  have hup : ∀ u v w, ke_E K n F G u v w → H u + (C * w - S) ≤ H v := by
    rintro u v w ⟨i, i1, i2, i3, i4, i5⟩
    rw [i3, i4, i5]
    exact hk i i1 i2
  have tight := (kz_loop hup hL).mp hg
  have ts : ∀ j, j < m → kb_t K Lo Hi h H S C (p j) (p (j + 1)) := by
    intro j hj
    obtain ⟨i, i1, i2, i3, i4, i5⟩ := hL.1 j hj
    have q := tight j hj
    rw [i3, i4, i5] at q
    exact (ke_tt hK hn hC hP hS hk _ _).mpr ⟨by omega, i, by omega, by omega, ⟨i2, q⟩, i4⟩
  have d := kd_Dof (t := kb_t K Lo Hi h H S C) (p := p) m 0 (fun i hi => ts i (by omega))
  rw [Nat.zero_add, hL.2.2] at d
  obtain ⟨l, l1, l2, -, l4⟩ := kd_short (n := n) (fun u v z => ((ke_tt hK hn hC hP hS hk u v).mp z).1) hL.2.1 d
  have := ((ke_tt hK hn hC hP hS hk _ _).mp (ts 0 (by have := hL.2.1; omega))).1
  exact ⟨p 0, l, this, l1, l2, l4⟩
end
end
