/-! ===== the reference: leadsTo ===== -/
/-- the steps that keep the level, as they are told -/
def ky_M (M : mm_M) (n : Nat) : Prop := ∀ s, s < n → ∃ c : Nat, M 210 s = (c : Int) ∧ c ≤ 15 ∧ ∀ j, j < c → ∃ v : Nat, v < n ∧ M 209 (15 * s + j) = (v : Int)
/-- the j-th of them leads on -/
def ky_c (M : mm_M) (s j : Nat) (goal r : Int) : Prop := if r = 1 then M 209 (15 * s + j) = goal else M 211 (M 209 (15 * s + j)).toNat = r - 1
section
variable {X : mm_X} {M : mm_M} {n : Nat}
theorem c_X13_leadsTo {s c : Nat} {goal r b : Int} (hR : mm_Rf M) (hn2 : n ≤ 288) (hM : ky_M M n) (hs : s < n) (hc : M 210 s = (c : Int)) (hg : mm_R goal) (hr : 1 ≤ r ∧ r ≤ 1000000) (hf : ∀ v, v < n → 0 ≤ M 211 v ∧ M 211 v ≤ 1000000)
    (hb : (b = 1 ∧ ∃ j, j < c ∧ ky_c M s j goal r) ∨ (b = 0 ∧ ∀ j, j < c → ¬ ky_c M s j goal r)) :
    mm_Fn X Y_X13_leadsTo 243 [(2, 184), (0, (s : Int)), (0, goal), (0, r)] M (0, b) M := by
  have hc15 : c ≤ 15 := by
    obtain ⟨d, d1, d2, -⟩ := hM s hs
    omega
  have hv : ∀ j, j < c → ∃ v : Nat, v < n ∧ M 209 (15 * s + j) = (v : Int) := by
    obtain ⟨d, d1, d2, d3⟩ := hM s hs
    have : d = c := by omega
    rw [← this]
    exact d3
  refine mm_startF (ls := [(2, 184), (0, (s : Int)), (0, goal), (0, r), (9, 0)]) rfl ?_
  have loop : ∀ j : Nat, j ≤ c → (∀ i, i < j → ¬ ky_c M s i goal r) → mm_J X Y_X13_leadsTo 243 243 243 3 [(2, 184), (0, (s : Int)), (0, goal), (0, r), (0, (j : Int))] [] M (fun r' M' => r' = (0, b) ∧ M' = M) := by
    refine mm_lp ?_
    intro j hj ih hno
    by_cases hlt : j < c
    · obtain ⟨v, hvn, hve⟩ := hv j hlt
      have hfv := hf v hvn
      have yes : ky_c M s j goal r → b = 1 := by
        intro q
        rcases hb with q1 | q1
        · exact q1.1
        · exact absurd q (q1.2 j hlt)
      have no : ¬ ky_c M s j goal r → mm_J X Y_X13_leadsTo 243 243 243 3 [(2, 184), (0, (s : Int)), (0, goal), (0, r), (0, (j : Int) + 1)] [] M (fun r' M' => r' = (0, b) ∧ M' = M) := by
        intro q
        have go := ih hlt (fun i hi => by
          by_cases c : i = j
          · rw [c]; exact q
          · exact hno i (by omega))
        rw [show ((j + 1 : Nat) : Int) = (j : Int) + 1 by omega] at go
        exact go
      by_cases hr1 : r = 1
      · have kc : ky_c M s j goal r ↔ (v : Int) = goal := by unfold ky_c; rw [if_pos hr1, hve]
        refine mm_iload dX13_leadsTo_3 rfl rfl ?_
        refine mm_aload_n dX13_leadsTo_5 rfl rfl ?_
        refine mm_getr dX13_leadsTo_6 rfl fl_X13_277 (c := 183) rfl (by decide) rfl rfl (hR.at (c := 183) (i := 43) (v := 211) rfl (by decide)) ?_
        refine mm_iload_n dX13_leadsTo_9 rfl rfl ?_
        refine mm_ialk (k0 := s) dX13_leadsTo_10 rfl (c := 210) rfl (by decide) rfl (by omega) (by omega) ?_
        rw [hc]
        refine mm_icge dX13_leadsTo_11 (by omega) (by omega) (fun h11 => ?_) (fun h11 => ?_)
        · exfalso; omega
        · refine mm_iload_n dX13_leadsTo_14 rfl rfl ?_
          refine mm_iconst dX13_leadsTo_15 rfl ?_
          refine mm_icne dX13_leadsTo_16 (by omega) (by omega) (fun h16 => ?_) (fun h16 => ?_)
          · exact absurd hr1 h16
          · refine mm_aload_n dX13_leadsTo_19 rfl rfl ?_
            refine mm_getr dX13_leadsTo_20 rfl fl_X13_274 (c := 183) rfl (by decide) rfl rfl (hR.at (c := 183) (i := 42) (v := 210) rfl (by decide)) ?_
            refine mm_bipush dX13_leadsTo_23 rfl (by decide) ?_
            refine mm_iload_n dX13_leadsTo_25 rfl rfl ?_
            refine mm_imul dX13_leadsTo_26 rfl ?_
            refine mm_iload dX13_leadsTo_27 rfl rfl ?_
            refine mm_iadd dX13_leadsTo_29 rfl ?_
            refine mm_ialk (k0 := 15 * s + j) dX13_leadsTo_30 rfl (c := 209) rfl (by decide) rfl (by omega) (by omega) ?_
            rw [hve]
            refine mm_iload_n dX13_leadsTo_31 rfl rfl ?_
            refine mm_icne dX13_leadsTo_32 (by omega) (by omega) (fun h32 => ?_) (fun h32 => ?_)
            · refine mm_iinc dX13_leadsTo_63 rfl rfl (Nat.le_of_ble_eq_true rfl) rfl ?_
              refine mm_goto dX13_leadsTo_66 ?_
              exact no (fun q => absurd (kc.mp q) (by omega))
            · refine mm_goto dX13_leadsTo_35 ?_
              refine mm_iconst dX13_leadsTo_61 rfl ?_
              refine mm_zret dX13_leadsTo_62 rfl rfl (Or.inr rfl) ?_
              exact ⟨by rw [yes (kc.mpr (by omega))], rfl⟩
      · have kc : ky_c M s j goal r ↔ M 211 v = r - 1 := by unfold ky_c; rw [if_neg hr1, hve]; exact Iff.rfl
        refine mm_iload dX13_leadsTo_3 rfl rfl ?_
        refine mm_aload_n dX13_leadsTo_5 rfl rfl ?_
        refine mm_getr dX13_leadsTo_6 rfl fl_X13_277 (c := 183) rfl (by decide) rfl rfl (hR.at (c := 183) (i := 43) (v := 211) rfl (by decide)) ?_
        refine mm_iload_n dX13_leadsTo_9 rfl rfl ?_
        refine mm_ialk (k0 := s) dX13_leadsTo_10 rfl (c := 210) rfl (by decide) rfl (by omega) (by omega) ?_
        rw [hc]
        refine mm_icge dX13_leadsTo_11 (by omega) (by omega) (fun h11 => ?_) (fun h11 => ?_)
        · exfalso; omega
        · refine mm_iload_n dX13_leadsTo_14 rfl rfl ?_
          refine mm_iconst dX13_leadsTo_15 rfl ?_
          refine mm_icne dX13_leadsTo_16 (by omega) (by omega) (fun h16 => ?_) (fun h16 => ?_)
          · refine mm_aload_n dX13_leadsTo_38 rfl rfl ?_
            refine mm_getr dX13_leadsTo_39 rfl fl_X13_280 (c := 183) rfl (by decide) rfl rfl (hR.at (c := 183) (i := 44) (v := 212) rfl (by decide)) ?_
            refine mm_aload_n dX13_leadsTo_42 rfl rfl ?_
            refine mm_getr dX13_leadsTo_43 rfl fl_X13_274 (c := 183) rfl (by decide) rfl rfl (hR.at (c := 183) (i := 42) (v := 210) rfl (by decide)) ?_
            refine mm_bipush dX13_leadsTo_46 rfl (by decide) ?_
            refine mm_iload_n dX13_leadsTo_48 rfl rfl ?_
            refine mm_imul dX13_leadsTo_49 rfl ?_
            refine mm_iload dX13_leadsTo_50 rfl rfl ?_
            refine mm_iadd dX13_leadsTo_52 rfl ?_
            refine mm_ialk (k0 := 15 * s + j) dX13_leadsTo_53 rfl (c := 209) rfl (by decide) rfl (by omega) (by omega) ?_
            rw [hve]
            refine mm_ialk (k0 := v) dX13_leadsTo_54 rfl (c := 211) rfl (by decide) rfl (by omega) (by omega) ?_
            refine mm_iload_n dX13_leadsTo_55 rfl rfl ?_
            refine mm_iconst dX13_leadsTo_56 rfl ?_
            refine mm_isub dX13_leadsTo_57 rfl ?_
            refine mm_icne dX13_leadsTo_58 (by omega) (by omega) (fun h58 => ?_) (fun h58 => ?_)
            · refine mm_iinc dX13_leadsTo_63 rfl rfl (Nat.le_of_ble_eq_true rfl) rfl ?_
              refine mm_goto dX13_leadsTo_66 ?_
              exact no (fun q => absurd (kc.mp q) (by omega))
            · refine mm_iconst dX13_leadsTo_61 rfl ?_
              refine mm_zret dX13_leadsTo_62 rfl rfl (Or.inr rfl) ?_
              exact ⟨by rw [yes (kc.mpr (by omega))], rfl⟩
          · exact absurd (by omega) hr1
    · have e : j = c := by omega
      have e0 : b = 0 := by
        rcases hb with ⟨-, i, i1, i2⟩ | q
        · exact absurd i2 (hno i (by omega))
        · exact q.1
      refine mm_iload dX13_leadsTo_3 rfl rfl ?_
      refine mm_aload_n dX13_leadsTo_5 rfl rfl ?_
      refine mm_getr dX13_leadsTo_6 rfl fl_X13_277 (c := 183) rfl (by decide) rfl rfl (hR.at (c := 183) (i := 43) (v := 211) rfl (by decide)) ?_
      refine mm_iload_n dX13_leadsTo_9 rfl rfl ?_
      refine mm_ialk (k0 := s) dX13_leadsTo_10 rfl (c := 210) rfl (by decide) rfl (by omega) (by omega) ?_
      rw [hc]
      refine mm_icge dX13_leadsTo_11 (by omega) (by omega) (fun h11 => ?_) (fun h11 => ?_)
      · refine mm_iconst dX13_leadsTo_69 rfl ?_
        refine mm_zret dX13_leadsTo_70 rfl rfl (Or.inl rfl) ?_
        exact ⟨by rw [e0], rfl⟩
      · exfalso; omega
  refine mm_iconst dX13_leadsTo_0 rfl ?_
  refine mm_istore dX13_leadsTo_1 rfl (Nat.le_of_ble_eq_true rfl) rfl ?_
  exact loop 0 (Nat.zero_le _) (fun i hi => absurd hi (by omega))
end

