/-! ===== fit and next, of the reference ===== -/
def mm_RG (M : mm_M) : Prop := (0 ≤ M 183 97 ∧ M 183 97 ≤ 30) ∧ (0 ≤ M 183 98 ∧ M 183 98 ≤ 20) ∧
  (∀ k : Nat, (k : Int) < M 183 97 → (ks_st (mm_rk M) (M 233 k) ∧ ks_ac (mm_rk M) (M 234 k) ∧ ks_hr (M 235 k)) ∧ mm_R (M 238 k) ∧ mm_R (M 236 k) ∧ mm_R (M 237 k)) ∧
  (∀ i : Nat, (i : Int) < M 183 98 → mm_R (M 239 i) ∧ mm_R (M 242 i) ∧ mm_R (M 240 i) ∧ mm_R (M 241 i))
def kg_pR (M : mm_M) (k q : Nat) : Int := ks_p (mm_rk M) (M 233 k) (M 234 k) (ks_wi (M 203) (mm_rk M) (M 233 k) (M 235 k) * (q : Int) / 10)
def kg_loR (M : mm_M) (k : Nat) (t : Int) (n : Nat) : Int := kg_last (kg_ok (M 239) (M 242) k t) (M 240) (M 236 k) n
def kg_hiR (M : mm_M) (k : Nat) (t : Int) (n : Nat) : Int := kg_last (kg_ok (M 239) (M 242) k t) (M 241) (M 237 k) n
def kg_soR (M : mm_M) (k : Nat) (t : Int) (q : Nat) : Prop := kg_loR M k t (M 183 98).toNat ≤ kg_pR M k q ∧ kg_pR M k q ≤ kg_hiR M k t (M 183 98).toNat
def kg_fR (M : mm_M) (t : Int) (q : Nat) : Prop := ∀ k : Nat, (k : Int) < M 183 97 → M 238 k ≤ t → kg_soR M k t q
section
variable {X : mm_X} {M : mm_M} {s a h t : Int} {k q : Nat}
theorem c_X13_isSo (hR : mm_Rf M) (hK : mm_KV (mm_rk M)) (hA : mm_RA M) (hG : mm_RG M) (hk : (k : Int) < M 183 97) (ht : mm_R t) (hq : q < 21) :
    mm_C X Y_X13_isSo 243 243 [(2, 184), (0, (k : Int)), (0, t), (0, (q : Int))] M (fun r M' => ∃ z : Int, r = (0, z) ∧ mm_Rf M' ∧ M' = M ∧ ((z = 0 ∧ ¬ kg_soR M k t q) ∨ (z = 1 ∧ kg_soR M k t q))) := by
  have hc := hG.1
  have hr := hG.2.1
  obtain ⟨⟨g1, g2, g3⟩, g4, g5, g6⟩ := hG.2.2.1 k hk
  have hwb := hA.wi hK g1 g3
  have hp := ks_pwb hK (s := M 233 k) (q := (q : Int)) g2 hwb.1 (by omega)
  have ep : ks_p (mm_rk M) (M 233 k) (M 234 k) (ks_wi (M 203) (mm_rk M) (M 233 k) (M 235 k) * (q : Int) / 10) = kg_pR M k q := rfl
  rw [ep] at hp
  refine mm_start (ls := [(2, 184), (0, (k : Int)), (0, t), (0, (q : Int)), (9, 0), (9, 0), (9, 0)]) rfl ?_
  have loop : ∀ i : Nat, i ≤ (M 183 98).toNat → mm_J X Y_X13_isSo 243 243 243 19 [(2, 184), (0, (k : Int)), (0, t), (0, (q : Int)), (0, kg_loR M k t i), (0, kg_hiR M k t i), (0, (i : Int))] [] M (fun r M' => ∃ z : Int, r = (0, z) ∧ mm_Rf M' ∧ M' = M ∧ ((z = 0 ∧ ¬ kg_soR M k t q) ∨ (z = 1 ∧ kg_soR M k t q))) := by
    refine mm_lp ?_
    intro i hi ih
    by_cases hlt : i < (M 183 98).toNat
    · obtain ⟨r1, r2, r3, r4⟩ := hG.2.2.2 i (by omega)
      have ih := ih hlt
      unfold kg_loR kg_hiR at ih
      rw [kg_last, kg_last] at ih
      refine mm_iload dX13_isSo_19 rfl rfl ?_
      refine mm_aload_n dX13_isSo_21 rfl rfl ?_
      refine mm_get (kd := 0) dX13_isSo_22 rfl fl_X13_406 (c := 183) rfl (by decide) rfl rfl ?_
      refine mm_icge dX13_isSo_25 (by omega) (by omega) (fun h25 => ?_) (fun h25 => ?_)
      · exfalso; omega
      · refine mm_aload_n dX13_isSo_28 rfl rfl ?_
        refine mm_getr dX13_isSo_29 rfl fl_X13_370 (c := 183) rfl (by decide) rfl rfl (hR.at (c := 183) (i := 106) (v := 240) rfl (by decide)) ?_
        refine mm_iload dX13_isSo_32 rfl rfl ?_
        refine mm_ialk (k0 := i) dX13_isSo_34 rfl (c := 239) rfl (by decide) rfl (by omega) (by omega) ?_
        refine mm_iload_n dX13_isSo_35 rfl rfl ?_
        refine mm_icne dX13_isSo_36 (by omega) (by omega) (fun h36 => ?_) (fun h36 => ?_)
        · refine mm_iinc dX13_isSo_71 rfl rfl (Nat.le_of_ble_eq_true rfl) rfl ?_
          refine mm_goto dX13_isSo_74 ?_
          first
          | (rw [if_pos (by unfold kg_ok; exact decide_eq_true ⟨h36, h47⟩), if_pos (by unfold kg_ok; exact decide_eq_true ⟨h36, h47⟩)] at ih; exact ih)
          | (rw [if_neg (by unfold kg_ok; intro z; have := of_decide_eq_true z; omega), if_neg (by unfold kg_ok; intro z; have := of_decide_eq_true z; omega)] at ih; exact ih)
        · refine mm_aload_n dX13_isSo_39 rfl rfl ?_
          refine mm_getr dX13_isSo_40 rfl fl_X13_379 (c := 183) rfl (by decide) rfl rfl (hR.at (c := 183) (i := 109) (v := 243) rfl (by decide)) ?_
          refine mm_iload dX13_isSo_43 rfl rfl ?_
          refine mm_ialk (k0 := i) dX13_isSo_45 rfl (c := 242) rfl (by decide) rfl (by omega) (by omega) ?_
          refine mm_iload_n dX13_isSo_46 rfl rfl ?_
          refine mm_icle dX13_isSo_47 (by omega) (by omega) (fun h47 => ?_) (fun h47 => ?_)
          · refine mm_aload_n dX13_isSo_53 rfl rfl ?_
            refine mm_getr dX13_isSo_54 rfl fl_X13_373 (c := 183) rfl (by decide) rfl rfl (hR.at (c := 183) (i := 107) (v := 241) rfl (by decide)) ?_
            refine mm_iload dX13_isSo_57 rfl rfl ?_
            refine mm_ialk (k0 := i) dX13_isSo_59 rfl (c := 240) rfl (by decide) rfl (by omega) (by omega) ?_
            refine mm_istore dX13_isSo_60 rfl (Nat.le_of_ble_eq_true rfl) rfl ?_
            refine mm_aload_n dX13_isSo_62 rfl rfl ?_
            refine mm_getr dX13_isSo_63 rfl fl_X13_376 (c := 183) rfl (by decide) rfl rfl (hR.at (c := 183) (i := 108) (v := 242) rfl (by decide)) ?_
            refine mm_iload dX13_isSo_66 rfl rfl ?_
            refine mm_ialk (k0 := i) dX13_isSo_68 rfl (c := 241) rfl (by decide) rfl (by omega) (by omega) ?_
            refine mm_istore dX13_isSo_69 rfl (Nat.le_of_ble_eq_true rfl) rfl ?_
            refine mm_iinc dX13_isSo_71 rfl rfl (Nat.le_of_ble_eq_true rfl) rfl ?_
            refine mm_goto dX13_isSo_74 ?_
            first
            | (rw [if_pos (by unfold kg_ok; exact decide_eq_true ⟨h36, h47⟩), if_pos (by unfold kg_ok; exact decide_eq_true ⟨h36, h47⟩)] at ih; exact ih)
            | (rw [if_neg (by unfold kg_ok; intro z; have := of_decide_eq_true z; omega), if_neg (by unfold kg_ok; intro z; have := of_decide_eq_true z; omega)] at ih; exact ih)
          · refine mm_goto dX13_isSo_50 ?_
            refine mm_iinc dX13_isSo_71 rfl rfl (Nat.le_of_ble_eq_true rfl) rfl ?_
            refine mm_goto dX13_isSo_74 ?_
            first
            | (rw [if_pos (by unfold kg_ok; exact decide_eq_true ⟨h36, h47⟩), if_pos (by unfold kg_ok; exact decide_eq_true ⟨h36, h47⟩)] at ih; exact ih)
            | (rw [if_neg (by unfold kg_ok; intro z; have := of_decide_eq_true z; omega), if_neg (by unfold kg_ok; intro z; have := of_decide_eq_true z; omega)] at ih; exact ih)
    · have ei : i = (M 183 98).toNat := by omega
      have b1 : mm_R (kg_loR M k t i) := by unfold kg_loR; exact kg_last_P (P := mm_R) g5 (fun j hj => (hG.2.2.2 j (by omega)).2.2.1)
      have b2 : mm_R (kg_hiR M k t i) := by unfold kg_hiR; exact kg_last_P (P := mm_R) g6 (fun j hj => (hG.2.2.2 j (by omega)).2.2.2)
      refine mm_iload dX13_isSo_19 rfl rfl ?_
      refine mm_aload_n dX13_isSo_21 rfl rfl ?_
      refine mm_get (kd := 0) dX13_isSo_22 rfl fl_X13_406 (c := 183) rfl (by decide) rfl rfl ?_
      refine mm_icge dX13_isSo_25 (by omega) (by omega) (fun h25 => ?_) (fun h25 => ?_)
      · refine mm_aload_n dX13_isSo_77 rfl rfl ?_
        refine mm_aload_n dX13_isSo_78 rfl rfl ?_
        refine mm_getr dX13_isSo_79 rfl fl_X13_352 (c := 183) rfl (by decide) rfl rfl (hR.at (c := 183) (i := 100) (v := 234) rfl (by decide)) ?_
        refine mm_iload_n dX13_isSo_82 rfl rfl ?_
        refine mm_ialk (k0 := k) dX13_isSo_83 rfl (c := 233) rfl (by decide) rfl (by omega) (by omega) ?_
        refine mm_aload_n dX13_isSo_84 rfl rfl ?_
        refine mm_getr dX13_isSo_85 rfl fl_X13_355 (c := 183) rfl (by decide) rfl rfl (hR.at (c := 183) (i := 101) (v := 235) rfl (by decide)) ?_
        refine mm_iload_n dX13_isSo_88 rfl rfl ?_
        refine mm_ialk (k0 := k) dX13_isSo_89 rfl (c := 234) rfl (by decide) rfl (by omega) (by omega) ?_
        refine mm_aload_n dX13_isSo_90 rfl rfl ?_
        refine mm_getr dX13_isSo_91 rfl fl_X13_358 (c := 183) rfl (by decide) rfl rfl (hR.at (c := 183) (i := 102) (v := 236) rfl (by decide)) ?_
        refine mm_iload_n dX13_isSo_94 rfl rfl ?_
        refine mm_ialk (k0 := k) dX13_isSo_95 rfl (c := 235) rfl (by decide) rfl (by omega) (by omega) ?_
        refine mm_iload_n dX13_isSo_96 rfl rfl ?_
        refine mm_V4i dX13_isSo_97 rfl lk_X13_709 (c := 183) rfl (by decide) rfl (by simp) (by simp) (by simp) (by simp) rfl rfl rfl ((ep ▸ c_X13_pullBy hR hK hA g1 g2 g3 (by omega))) ?_
        refine mm_i2l dX13_isSo_100 rfl (by omega) ?_
        refine mm_iload dX13_isSo_101 rfl rfl ?_
        refine mm_i2l dX13_isSo_103 rfl (by omega) ?_
        refine mm_iload dX13_isSo_104 rfl rfl ?_
        refine mm_i2l dX13_isSo_106 rfl (by omega) ?_
        refine mm_S3i dX13_isSo_107 rfl lk_X13_5 (by simp) (by simp) (by simp) rfl rfl rfl (c_X13_in (by omega) (by omega) (by omega)) ?_
        refine mm_zret dX13_isSo_110 rfl rfl (mm_b_01 _) ?_
        refine ⟨_, rfl, hR, rfl, ?_⟩
        rw [ei]
        by_cases z : kg_soR M k t q
        · exact Or.inr ⟨mm_b_t z, z⟩
        · exact Or.inl ⟨mm_b_f z, z⟩
      · exfalso; omega
  refine mm_aload_n dX13_isSo_0 rfl rfl ?_
  refine mm_getr dX13_isSo_1 rfl fl_X13_361 (c := 183) rfl (by decide) rfl rfl (hR.at (c := 183) (i := 103) (v := 237) rfl (by decide)) ?_
  refine mm_iload_n dX13_isSo_4 rfl rfl ?_
  refine mm_ialk (k0 := k) dX13_isSo_5 rfl (c := 236) rfl (by decide) rfl (by omega) (by omega) ?_
  refine mm_istore dX13_isSo_6 rfl (Nat.le_of_ble_eq_true rfl) rfl ?_
  refine mm_aload_n dX13_isSo_8 rfl rfl ?_
  refine mm_getr dX13_isSo_9 rfl fl_X13_364 (c := 183) rfl (by decide) rfl rfl (hR.at (c := 183) (i := 104) (v := 238) rfl (by decide)) ?_
  refine mm_iload_n dX13_isSo_12 rfl rfl ?_
  refine mm_ialk (k0 := k) dX13_isSo_13 rfl (c := 237) rfl (by decide) rfl (by omega) (by omega) ?_
  refine mm_istore dX13_isSo_14 rfl (Nat.le_of_ble_eq_true rfl) rfl ?_
  refine mm_iconst dX13_isSo_16 rfl ?_
  refine mm_istore dX13_isSo_17 rfl (Nat.le_of_ble_eq_true rfl) rfl ?_
  exact loop 0 (Nat.zero_le _)
theorem c_X13_fitOf (hR : mm_Rf M) (hK : mm_KV (mm_rk M)) (hA : mm_RA M) (hG : mm_RG M) (ht : mm_R t) :
    mm_C X Y_X13_fitOf 243 243 [(2, 184), (0, t)] M (fun r M' => ∃ F : Nat, r = (0, (F : Int)) ∧ mm_Rf M' ∧ M' = M ∧ kg_set (kg_fR M t) F) := by
  have hc := hG.1
  have hr := hG.2.1
  refine mm_start (ls := [(2, 184), (0, t), (9, 0), (9, 0), (9, 0), (9, 0)]) rfl ?_
  have loop : ∀ i : Nat, i ≤ 21 → ∀ (F : Nat) (l4 l5 : mm_V), F < 2 ^ 21 → (∀ q, q < 21 → (F.testBit q = true ↔ q < i ∧ kg_fR M t q)) →
      mm_J X Y_X13_fitOf 243 243 243 4 [(2, 184), (0, t), (0, (F : Int)), (0, (i : Int)), l4, l5] [] M (fun r M' => ∃ F : Nat, r = (0, (F : Int)) ∧ mm_Rf M' ∧ M' = M ∧ kg_set (kg_fR M t) F) := by
    refine mm_lp ?_
    intro i hi ih F l4 l5 hF hb
    by_cases hlt : i < 21
    · have sh := kx_shl i (by omega)
      have pi : 2 ^ i < 2 ^ 21 := Nat.pow_lt_pow_right (by decide) hlt
      have orr := kx_or (a := F) (b := 2 ^ i) (by omega) (by omega)
      have or0 := kx_or (a := F) (b := 0) (by omega) (by omega)
      -- behind the readings
      have fin : ∀ (z : Int) (l5 : mm_V), (z = 0 ∧ ¬ kg_fR M t i) ∨ (z = 1 ∧ kg_fR M t i) → mm_J X Y_X13_fitOf 243 243 243 65 [(2, 184), (0, t), (0, (F : Int)), (0, (i : Int)), (0, z), l5] [] M (fun r M' => ∃ F : Nat, r = (0, (F : Int)) ∧ mm_Rf M' ∧ M' = M ∧ kg_set (kg_fR M t) F) := by
        intro z l5 hz
        refine mm_iload_n dX13_fitOf_65 rfl rfl ?_
        refine mm_iload dX13_fitOf_66 rfl rfl ?_
        refine mm_ifeq dX13_fitOf_68 (by omega) (fun h68 => ?_) (fun h68 => ?_)
        · refine mm_iconst dX13_fitOf_77 rfl ?_
          refine mm_ior dX13_fitOf_78 rfl ?_
          first
          | rw [orr]
          | rw [show (0 : Int) = ((0 : Nat) : Int) from rfl, or0, Nat.or_zero]
          refine mm_istore_n dX13_fitOf_79 rfl (Nat.le_of_ble_eq_true rfl) rfl ?_
          refine mm_iinc dX13_fitOf_80 rfl rfl (Nat.le_of_ble_eq_true rfl) rfl ?_
          refine mm_goto dX13_fitOf_83 ?_
          first
          | (refine ih hlt (F ||| 2 ^ i) _ _ (Nat.or_lt_two_pow hF pi) (fun q hq => ?_)
             rw [Nat.testBit_or, Nat.testBit_two_pow, Bool.or_eq_true, hb q hq, decide_eq_true_iff]
             have hz1 : kg_fR M t i := by
               rcases hz with ⟨y, -⟩ | ⟨-, y⟩
               · omega
               · exact y
             constructor
             · rintro (⟨z1, z2⟩ | z)
               · exact ⟨by omega, z2⟩
               · rw [← z]; exact ⟨by omega, hz1⟩
             · rintro ⟨z1, z2⟩
               by_cases y : i = q
               · exact Or.inr y
               · exact Or.inl ⟨by omega, z2⟩)
          | (refine ih hlt F _ _ hF (fun q hq => ?_)
             rw [hb q hq]
             have hz0 : ¬ kg_fR M t i := by
               rcases hz with ⟨-, y⟩ | ⟨y, -⟩
               · exact y
               · omega
             constructor
             · rintro ⟨z1, z2⟩; exact ⟨by omega, z2⟩
             · rintro ⟨z1, z2⟩
               by_cases y : q = i
               · rw [y] at z2; exact absurd z2 hz0
               · exact ⟨by omega, z2⟩)
        · refine mm_iconst dX13_fitOf_71 rfl ?_
          refine mm_iload_n dX13_fitOf_72 rfl rfl ?_
          refine mm_ishl dX13_fitOf_73 rfl ?_
          rw [sh]
          refine mm_goto dX13_fitOf_74 ?_
          refine mm_ior dX13_fitOf_78 rfl ?_
          first
          | rw [orr]
          | rw [show (0 : Int) = ((0 : Nat) : Int) from rfl, or0, Nat.or_zero]
          refine mm_istore_n dX13_fitOf_79 rfl (Nat.le_of_ble_eq_true rfl) rfl ?_
          refine mm_iinc dX13_fitOf_80 rfl rfl (Nat.le_of_ble_eq_true rfl) rfl ?_
          refine mm_goto dX13_fitOf_83 ?_
          first
          | (refine ih hlt (F ||| 2 ^ i) _ _ (Nat.or_lt_two_pow hF pi) (fun q hq => ?_)
             rw [Nat.testBit_or, Nat.testBit_two_pow, Bool.or_eq_true, hb q hq, decide_eq_true_iff]
             have hz1 : kg_fR M t i := by
               rcases hz with ⟨y, -⟩ | ⟨-, y⟩
               · omega
               · exact y
             constructor
             · rintro (⟨z1, z2⟩ | z)
               · exact ⟨by omega, z2⟩
               · rw [← z]; exact ⟨by omega, hz1⟩
             · rintro ⟨z1, z2⟩
               by_cases y : i = q
               · exact Or.inr y
               · exact Or.inl ⟨by omega, z2⟩)
          | (refine ih hlt F _ _ hF (fun q hq => ?_)
             rw [hb q hq]
             have hz0 : ¬ kg_fR M t i := by
               rcases hz with ⟨-, y⟩ | ⟨y, -⟩
               · exact y
               · omega
             constructor
             · rintro ⟨z1, z2⟩; exact ⟨by omega, z2⟩
             · rintro ⟨z1, z2⟩
               by_cases y : q = i
               · rw [y] at z2; exact absurd z2 hz0
               · exact ⟨by omega, z2⟩)
      -- the readings
      have reads : ∀ j : Nat, j ≤ (M 183 97).toNat → ∀ z : Int, ((z = 0 ∧ ¬ kg_fR M t i) ∨ (z = 1 ∧ ∀ k : Nat, k < j → M 238 k ≤ t → kg_soR M k t i)) →
          mm_J X Y_X13_fitOf 243 243 243 16 [(2, 184), (0, t), (0, (F : Int)), (0, (i : Int)), (0, z), (0, (j : Int))] [] M (fun r M' => ∃ F : Nat, r = (0, (F : Int)) ∧ mm_Rf M' ∧ M' = M ∧ kg_set (kg_fR M t) F) := by
        refine mm_lp ?_
        intro j hj ih2 z hz
        by_cases hjl : j < (M 183 97).toNat ∧ z = 1
        · obtain ⟨hjl, hz1⟩ := hjl
          obtain ⟨g0, g1, g2, g3⟩ := hG.2.2.1 j (by omega)
          have hall : ∀ k : Nat, k < j → M 238 k ≤ t → kg_soR M k t i := by
            rcases hz with ⟨y, -⟩ | ⟨-, y⟩
            · omega
            · exact y
          have nx : ∀ y : Int, ((y = 0 ∧ M 238 j ≤ t ∧ ¬ kg_soR M j t i) ∨ (y = 1 ∧ (M 238 j ≤ t → kg_soR M j t i))) → mm_J X Y_X13_fitOf 243 243 243 57 [(2, 184), (0, t), (0, (F : Int)), (0, (i : Int)), (0, z), (0, (j : Int))] [(0, y)] M (fun r M' => ∃ F : Nat, r = (0, (F : Int)) ∧ mm_Rf M' ∧ M' = M ∧ kg_set (kg_fR M t) F) := by
            intro y hy
            refine mm_istore dX13_fitOf_57 rfl (Nat.le_of_ble_eq_true rfl) rfl ?_
            refine mm_iinc dX13_fitOf_59 rfl rfl (Nat.le_of_ble_eq_true rfl) rfl ?_
            refine mm_goto dX13_fitOf_62 ?_
            refine ih2 hjl y ?_
            rcases hy with ⟨y1, y2, y3⟩ | ⟨y1, y2⟩
            · exact Or.inl ⟨y1, fun w => y3 (w j (by omega) y2)⟩
            · refine Or.inr ⟨y1, fun k hk hs => ?_⟩
              by_cases w : k = j
              · rw [w] at hs ⊢; exact y2 hs
              · exact hall k (by omega) hs
          refine mm_iload dX13_fitOf_16 rfl rfl ?_
          refine mm_aload_n dX13_fitOf_18 rfl rfl ?_
          refine mm_get (kd := 0) dX13_fitOf_19 rfl fl_X13_403 (c := 183) rfl (by decide) rfl rfl ?_
          refine mm_icge dX13_fitOf_22 (by omega) (by omega) (fun h22 => ?_) (fun h22 => ?_)
          · exfalso; omega
          · refine mm_iload dX13_fitOf_25 rfl rfl ?_
            refine mm_ifeq dX13_fitOf_27 (by omega) (fun h27 => ?_) (fun h27 => ?_)
            · exfalso; omega
            · refine mm_aload_n dX13_fitOf_30 rfl rfl ?_
              refine mm_getr dX13_fitOf_31 rfl fl_X13_367 (c := 183) rfl (by decide) rfl rfl (hR.at (c := 183) (i := 105) (v := 239) rfl (by decide)) ?_
              refine mm_iload dX13_fitOf_34 rfl rfl ?_
              refine mm_ialk (k0 := j) dX13_fitOf_36 rfl (c := 238) rfl (by decide) rfl (by omega) (by omega) ?_
              refine mm_iload_n dX13_fitOf_37 rfl rfl ?_
              refine mm_icgt dX13_fitOf_38 (by omega) (by omega) (fun h38 => ?_) (fun h38 => ?_)
              · refine mm_iconst dX13_fitOf_52 rfl ?_
                refine mm_goto dX13_fitOf_53 ?_
                refine nx _ ?_
                first
                | exact Or.inr ⟨rfl, fun w => by omega⟩
                | (rcases hso with ⟨y1, y2⟩ | ⟨y1, y2⟩
                   · first
                     | exact Or.inl ⟨rfl, by omega, y2⟩
                     | exact absurd y1 h49
                   · first
                     | exact Or.inr ⟨rfl, fun _ => y2⟩
                     | exact absurd (h49.symm.trans y1) (by decide))
              · refine mm_aload_n dX13_fitOf_41 rfl rfl ?_
                refine mm_iload dX13_fitOf_42 rfl rfl ?_
                refine mm_iload_n dX13_fitOf_44 rfl rfl ?_
                refine mm_iload_n dX13_fitOf_45 rfl rfl ?_
                refine mm_V3g (M1 := M) dX13_fitOf_46 rfl lk_X13_718 (c := 183) rfl (by decide) rfl (by simp) (by simp) (by simp) rfl rfl rfl (c_X13_isSo hR hK hA hG (by omega) ht hlt) ?_
                rintro _ N46 ⟨x46, rfl, p46⟩
                change mm_J _ _ _ _ _ _ _ _ _ _
                have hR46 : mm_Rf N46 := p46.1
                obtain ⟨-, eN, hso⟩ := p46
                rw [eN]
                refine mm_ifeq dX13_fitOf_49 (by omega) (fun h49 => ?_) (fun h49 => ?_)
                · refine mm_iconst dX13_fitOf_56 rfl ?_
                  refine nx _ ?_
                  first
                  | exact Or.inr ⟨rfl, fun w => by omega⟩
                  | (rcases hso with ⟨y1, y2⟩ | ⟨y1, y2⟩
                     · first
                       | exact Or.inl ⟨rfl, by omega, y2⟩
                       | exact absurd y1 h49
                     · first
                       | exact Or.inr ⟨rfl, fun _ => y2⟩
                       | exact absurd (h49.symm.trans y1) (by decide))
                · refine mm_iconst dX13_fitOf_52 rfl ?_
                  refine mm_goto dX13_fitOf_53 ?_
                  refine nx _ ?_
                  first
                  | exact Or.inr ⟨rfl, fun w => by omega⟩
                  | (rcases hso with ⟨y1, y2⟩ | ⟨y1, y2⟩
                     · first
                       | exact Or.inl ⟨rfl, by omega, y2⟩
                       | exact absurd y1 h49
                     · first
                       | exact Or.inr ⟨rfl, fun _ => y2⟩
                       | exact absurd (h49.symm.trans y1) (by decide))
        · refine mm_iload dX13_fitOf_16 rfl rfl ?_
          refine mm_aload_n dX13_fitOf_18 rfl rfl ?_
          refine mm_get (kd := 0) dX13_fitOf_19 rfl fl_X13_403 (c := 183) rfl (by decide) rfl rfl ?_
          refine mm_icge dX13_fitOf_22 (by omega) (by omega) (fun h22 => ?_) (fun h22 => ?_)
          · refine fin z _ ?_
            rcases hz with y | ⟨y1, y2⟩
            · exact Or.inl y
            · exact Or.inr ⟨y1, fun k hk hs => y2 k (by omega) hs⟩
          · refine mm_iload dX13_fitOf_25 rfl rfl ?_
            refine mm_ifeq dX13_fitOf_27 (by omega) (fun h27 => ?_) (fun h27 => ?_)
            · refine fin z _ ?_
              rcases hz with y | ⟨y1, y2⟩
              · exact Or.inl y
              · exact Or.inr ⟨y1, fun k hk hs => y2 k (by omega) hs⟩
            · exfalso; omega
      refine mm_iload_n dX13_fitOf_4 rfl rfl ?_
      refine mm_bipush dX13_fitOf_5 rfl (by decide) ?_
      refine mm_icge dX13_fitOf_7 (by omega) (by omega) (fun h7 => ?_) (fun h7 => ?_)
      · exfalso; omega
      · refine mm_iconst dX13_fitOf_10 rfl ?_
        refine mm_istore dX13_fitOf_11 rfl (Nat.le_of_ble_eq_true rfl) rfl ?_
        refine mm_iconst dX13_fitOf_13 rfl ?_
        refine mm_istore dX13_fitOf_14 rfl (Nat.le_of_ble_eq_true rfl) rfl ?_
        exact reads 0 (Nat.zero_le _) 1 (Or.inr ⟨rfl, fun k hk => absurd hk (Nat.not_lt_zero k)⟩)
    · refine mm_iload_n dX13_fitOf_4 rfl rfl ?_
      refine mm_bipush dX13_fitOf_5 rfl (by decide) ?_
      refine mm_icge dX13_fitOf_7 (by omega) (by omega) (fun h7 => ?_) (fun h7 => ?_)
      · refine mm_iload_n dX13_fitOf_86 rfl rfl ?_
        refine mm_iret dX13_fitOf_87 rfl rfl ?_
        refine ⟨F, rfl, hR, rfl, hF, fun q hq => ?_⟩
        rw [hb q hq]
        exact ⟨fun z => z.2, fun z => ⟨by omega, z⟩⟩
      · exfalso; omega
  refine mm_iconst dX13_fitOf_0 rfl ?_
  refine mm_istore_n dX13_fitOf_1 rfl (Nat.le_of_ble_eq_true rfl) rfl ?_
  refine mm_iconst dX13_fitOf_2 rfl ?_
  refine mm_istore_n dX13_fitOf_3 rfl (Nat.le_of_ble_eq_true rfl) rfl ?_
  exact loop 0 (by decide) 0 _ _ (by decide) (fun q hq => by simp)
theorem c_X13_fit1 (hR : mm_Rf M) (hK : mm_KV (mm_rk M)) (hA : mm_RA M) (hG : mm_RG M) (ht : 0 ≤ t ∧ t ≤ 999) :
    mm_C X Y_X13_fit 243 243 [(2, 184), (0, t)] M (fun r M' => ∃ F : Nat, r = (0, (F : Int)) ∧ mm_Rf M' ∧ M' = M ∧ kg_set (kg_fR M t) F) := by
  refine mm_start (ls := [(2, 184), (0, t)]) rfl ?_
  refine mm_iload_n dX13_fit_0 rfl rfl ?_
  refine mm_i2l dX13_fit_1 rfl (by omega) ?_
  refine mm_lconst0 dX13_fit_2 rfl ?_
  refine mm_ldc2 dX13_fit_3 rfl kc_X13_484 ?_
  refine mm_S3i dX13_fit_6 rfl lk_X13_5 (by simp) (by simp) (by simp) rfl rfl rfl (c_X13_in (by omega) (by omega) (by omega)) ?_
  refine mm_ifeqb dX13_fit_9 (fun h9 => ?_) (fun h9 => ?_)
  · exact absurd ht h9
  · refine mm_aload_n dX13_fit_12 rfl rfl ?_
    refine mm_iload_n dX13_fit_13 rfl rfl ?_
    refine mm_V1g (M1 := M) dX13_fit_14 rfl lk_X13_721 (c := 183) rfl (by decide) rfl (by simp) rfl rfl rfl (c_X13_fitOf hR hK hA hG (by omega)) ?_
    rintro _ N14 ⟨x14, rfl, p14⟩
    change mm_J _ _ _ _ _ _ _ _ _ _
    have hR14 : mm_Rf N14 := p14.1
    refine mm_goto dX13_fit_17 ?_
    refine mm_iret dX13_fit_22 rfl rfl ?_
    exact ⟨x14, rfl, p14⟩
theorem c_X13_fit0 (hR : mm_Rf M) (ht : mm_R t) (hno : ¬ (0 ≤ t ∧ t ≤ 999)) : mm_Fn X Y_X13_fit 243 [(2, 184), (0, t)] M (0, -2) M := by
  refine mm_startF (ls := [(2, 184), (0, t)]) rfl ?_
  refine mm_iload_n dX13_fit_0 rfl rfl ?_
  refine mm_i2l dX13_fit_1 rfl (by omega) ?_
  refine mm_lconst0 dX13_fit_2 rfl ?_
  refine mm_ldc2 dX13_fit_3 rfl kc_X13_484 ?_
  refine mm_S3i dX13_fit_6 rfl lk_X13_5 (by simp) (by simp) (by simp) rfl rfl rfl (c_X13_in (by omega) (by omega) (by omega)) ?_
  refine mm_ifeqb dX13_fit_9 (fun h9 => ?_) (fun h9 => ?_)
  · refine mm_bipush dX13_fit_20 rfl (by decide) ?_
    refine mm_iret dX13_fit_22 rfl rfl ?_
    exact mm_fin rfl rfl
  · exact absurd h9 hno
theorem c_X13_next1 (hR : mm_Rf M) (hK : mm_KV (mm_rk M)) (hA : mm_RA M) (hG : mm_RG M) (hs : ks_st (mm_rk M) s) (hh : ks_hr h) :
    mm_C X Y_X13_next 243 243 [(2, 184), (0, s), (0, h)] M (fun r M' => ∃ F : Nat, r = (0, kg_next (mm_rk M) (M 203) F s h) ∧ mm_Rf M' ∧ M' = M ∧ kg_set (kg_fR M 999) F) := by
  have hnb := ks_nb hK
  have hs1 := hs.1
  have hs2 := hs.2
  have hwb := hA.wi hK hs hh
  have h10 : 1 ≤ mm_rk M 10 ∧ mm_rk M 10 ≤ 3 := by obtain ⟨-, -, -, -, -, -, -, -, -, -, h10, -⟩ := id hK; exact h10
  obtain ⟨Φ, hΦ⟩ : ∃ Φ : mm_V → mm_M → Prop, Φ = (fun r M' => ∃ F : Nat, r = (0, kg_next (mm_rk M) (M 203) F s h) ∧ mm_Rf M' ∧ M' = M ∧ kg_set (kg_fR M 999) F) := ⟨_, rfl⟩
  rw [← hΦ]
  refine mm_start (ls := [(2, 184), (0, s), (0, h), (9, 0), (9, 0), (9, 0), (9, 0), (9, 0), (9, 0), (9, 0), (9, 0)]) rfl ?_
  have acts : ∀ F : Nat, kg_set (kg_fR M 999) F → ∀ i : Nat, i ≤ (15 * mm_rk M 10).toNat → ∀ l7 l8 l9 l10 : mm_V, mm_J X Y_X13_next 243 243 243 62 [(2, 184), (0, s), (0, h), (0, (F : Int)), (0, (kg_nx (fun a => decide (ks_can (mm_rk M) s (a : Int))) (fun a => kg_heap F (kg_p (mm_rk M) (M 203) s (a : Int) h)) (kx_n F) i).1), (0, (kg_nx (fun a => decide (ks_can (mm_rk M) s (a : Int))) (fun a => kg_heap F (kg_p (mm_rk M) (M 203) s (a : Int) h)) (kx_n F) i).2), (0, (i : Int)), l7, l8, l9, l10] [] M Φ := by
    intro F hF
    have hF1 := hF.1
    refine mm_lp ?_
    intro i hi ih l7 l8 l9 l10
    have hb := kg_nxb (c := fun a => decide (ks_can (mm_rk M) s (a : Int))) (hp := fun a => kg_heap F (kg_p (mm_rk M) (M 203) s (a : Int) h)) (l0 := kx_n F) (by have := kx_nb F; omega) (n := i) (fun j hj => by have := kg_heapb (F := F) (f := kg_p (mm_rk M) (M 203) s (j : Int) h); omega)
    by_cases hlt : i < (15 * mm_rk M 10).toNat
    · have hac : ks_ac (mm_rk M) (i : Int) := ⟨by omega, by omega⟩
      obtain ⟨f, hf⟩ : ∃ f, f = kg_p (mm_rk M) (M 203) s (i : Int) h := ⟨_, rfl⟩
      have hfb : ∀ q : Nat, q < 21 → 0 ≤ f q ∧ f q ≤ 5702400 := by intro q hq; rw [hf]; exact ks_pwb hK hac hwb.1 (by omega)
      have hhb := kg_heapb (F := F) (f := f)
      have ih := ih hlt
      rw [kg_nx, ← hf] at ih
      obtain ⟨L1, hL1⟩ : ∃ z, z = (kg_nx (fun a => decide (ks_can (mm_rk M) s (a : Int))) (fun a => kg_heap F (kg_p (mm_rk M) (M 203) s (a : Int) h)) (kx_n F) i).1 := ⟨_, rfl⟩
      obtain ⟨L2, hL2⟩ : ∃ z, z = (kg_nx (fun a => decide (ks_can (mm_rk M) s (a : Int))) (fun a => kg_heap F (kg_p (mm_rk M) (M 203) s (a : Int) h)) (kx_n F) i).2 := ⟨_, rfl⟩
      by_cases hcan : ks_can (mm_rk M) s (i : Int)
      · have ed : decide (ks_can (mm_rk M) s (i : Int)) = true := decide_eq_true hcan
        -- the shares q
        have shares : ∀ q : Nat, q ≤ 21 → ∀ l9 l10 : mm_V, mm_J X Y_X13_next 243 243 243 90 [(2, 184), (0, s), (0, h), (0, (F : Int)), (0, L1), (0, L2), (0, (i : Int)), (0, ka_max (fun q => if F.testBit q = true then kg_C F f q 21 else 0) q), (0, (q : Int)), l9, l10] [] M Φ := by
          refine mm_lp ?_
          intro q hq ih2 l9 l10
          have hmb := ka_maxb (B := 21) (by decide) (n := q) (f := fun q => if F.testBit q = true then kg_C F f q 21 else 0) (fun j _ => by have := kg_Cb (F := F) (f := f) (q := j) (n := 21); split <;> omega)
          by_cases hql : q < 21
          · have eb := kx_bit (a := F) (k := q) (by omega) (by omega)
            have hfq := hfb q hql
            have efq : ks_p (mm_rk M) s (i : Int) (ks_wi (M 203) (mm_rk M) s h * (q : Int) / 10) = f q := by rw [hf]; rfl
            have others : ∀ o : Nat, o ≤ 21 → mm_J X Y_X13_next 243 243 243 103 [(2, 184), (0, s), (0, h), (0, (F : Int)), (0, L1), (0, L2), (0, (i : Int)), (0, ka_max (fun q => if F.testBit q = true then kg_C F f q 21 else 0) q), (0, (q : Int)), (0, if F.testBit q = true then kg_C F f q o else 0), (0, (o : Int))] [] M Φ := by
              refine mm_lp ?_
              intro o ho ih3
              have hCb := kg_Cb (F := F) (f := f) (q := q) (n := o)
              have hCb2 : 0 ≤ (if F.testBit q = true then kg_C F f q o else 0) ∧ (if F.testBit q = true then kg_C F f q o else 0) ≤ 21 := by split <;> omega
              by_cases hol : o < 21
              · have ebo := kx_bit (a := F) (k := o) (by omega) (by omega)
                have hfo := hfb o hol
                have efo : ks_p (mm_rk M) s (i : Int) (ks_wi (M 203) (mm_rk M) s h * (o : Int) / 10) = f o := by rw [hf]; rfl
                have ih3 := ih3 hol
                rw [kg_C_s] at ih3
                have nx : ∀ z : Int, z = (if F.testBit q = true ∧ F.testBit o = true ∧ f o = f q then 1 else 0) → mm_J X Y_X13_next 243 243 243 160 [(2, 184), (0, s), (0, h), (0, (F : Int)), (0, L1), (0, L2), (0, (i : Int)), (0, ka_max (fun q => if F.testBit q = true then kg_C F f q 21 else 0) q), (0, (q : Int)), (0, if F.testBit q = true then kg_C F f q o else 0), (0, (o : Int))] [(0, z), (0, if F.testBit q = true then kg_C F f q o else 0)] M Φ := by
                  intro z hz
                  have ez : (if F.testBit q = true then kg_C F f q o + (if F.testBit o = true ∧ f o = f q then 1 else 0) else 0) = (if F.testBit q = true then kg_C F f q o else 0) + z := by
                    rw [hz]
                    by_cases y : F.testBit q = true
                    · rw [if_pos y, if_pos y]
                      by_cases w : F.testBit o = true ∧ f o = f q
                      · rw [if_pos w, if_pos ⟨y, w⟩]
                      · rw [if_neg w, if_neg (fun v => w v.2)]
                    · rw [if_neg y, if_neg y, if_neg (fun v => y v.1)]; rfl
                  rw [ez] at ih3
                  refine mm_iadd dX13_next_160 rfl ?_
                  refine mm_istore dX13_next_161 rfl (Nat.le_of_ble_eq_true rfl) rfl ?_
                  refine mm_iinc dX13_next_163 rfl rfl (Nat.le_of_ble_eq_true rfl) rfl ?_
                  refine mm_goto dX13_next_166 ?_
                  exact ih3
                refine mm_iload dX13_next_103 rfl rfl ?_
                refine mm_bipush dX13_next_105 rfl (by decide) ?_
                refine mm_icge dX13_next_107 (by omega) (by omega) (fun h107 => ?_) (fun h107 => ?_)
                · exfalso; omega
                · refine mm_iload dX13_next_110 rfl rfl ?_
                  refine mm_iload_n dX13_next_112 rfl rfl ?_
                  refine mm_iload dX13_next_113 rfl rfl ?_
                  refine mm_ishr dX13_next_115 rfl ?_
                  refine mm_iconst dX13_next_116 rfl ?_
                  refine mm_iand dX13_next_117 rfl ?_
                  refine mm_iconst dX13_next_118 rfl ?_
                  rw [eb]
                  refine mm_icne dX13_next_119 (by split <;> omega) (by omega) (fun h119 => ?_) (fun h119 => ?_)
                  · refine mm_iconst dX13_next_159 rfl ?_
                    refine nx _ ?_
                    first
                    | (rw [if_pos ⟨by by_cases y : F.testBit q = true
                                      · exact y
                                      · rw [if_neg y] at h119; exact absurd h119 (by decide), by by_cases y : F.testBit o = true
                                                                                                 · exact y
                                                                                                 · rw [if_neg y] at h129; exact absurd h129 (by decide), h152.symm⟩]; done)
                    | (rw [if_neg (fun z => h152 z.2.2.symm)]; done)
                    | (rw [if_neg (fun z => by rw [if_pos z.2.1] at h129; exact h129 rfl)]; done)
                    | (rw [if_neg (fun z => by rw [if_pos z.1] at h119; exact h119 rfl)]; done)
                  · refine mm_iload_n dX13_next_122 rfl rfl ?_
                    refine mm_iload dX13_next_123 rfl rfl ?_
                    refine mm_ishr dX13_next_125 rfl ?_
                    refine mm_iconst dX13_next_126 rfl ?_
                    refine mm_iand dX13_next_127 rfl ?_
                    refine mm_iconst dX13_next_128 rfl ?_
                    rw [ebo]
                    refine mm_icne dX13_next_129 (by split <;> omega) (by omega) (fun h129 => ?_) (fun h129 => ?_)
                    · refine mm_iconst dX13_next_159 rfl ?_
                      refine nx _ ?_
                      first
                      | (rw [if_pos ⟨by by_cases y : F.testBit q = true
                                        · exact y
                                        · rw [if_neg y] at h119; exact absurd h119 (by decide), by by_cases y : F.testBit o = true
                                                                                                   · exact y
                                                                                                   · rw [if_neg y] at h129; exact absurd h129 (by decide), h152.symm⟩]; done)
                      | (rw [if_neg (fun z => h152 z.2.2.symm)]; done)
                      | (rw [if_neg (fun z => by rw [if_pos z.2.1] at h129; exact h129 rfl)]; done)
                      | (rw [if_neg (fun z => by rw [if_pos z.1] at h119; exact h119 rfl)]; done)
                    · refine mm_aload_n dX13_next_132 rfl rfl ?_
                      refine mm_iload_n dX13_next_133 rfl rfl ?_
                      refine mm_iload dX13_next_134 rfl rfl ?_
                      refine mm_iload_n dX13_next_136 rfl rfl ?_
                      refine mm_iload dX13_next_137 rfl rfl ?_
                      refine mm_V4i dX13_next_139 rfl lk_X13_709 (c := 183) rfl (by decide) rfl (by simp) (by simp) (by simp) (by simp) rfl rfl rfl ((efq ▸ c_X13_pullBy hR hK hA hs hac hh (by omega))) ?_
                      refine mm_aload_n dX13_next_142 rfl rfl ?_
                      refine mm_iload_n dX13_next_143 rfl rfl ?_
                      refine mm_iload dX13_next_144 rfl rfl ?_
                      refine mm_iload_n dX13_next_146 rfl rfl ?_
                      refine mm_iload dX13_next_147 rfl rfl ?_
                      refine mm_V4i dX13_next_149 rfl lk_X13_709 (c := 183) rfl (by decide) rfl (by simp) (by simp) (by simp) (by simp) rfl rfl rfl ((efo ▸ c_X13_pullBy hR hK hA hs hac hh (by omega))) ?_
                      refine mm_icne dX13_next_152 (by omega) (by omega) (fun h152 => ?_) (fun h152 => ?_)
                      · refine mm_iconst dX13_next_159 rfl ?_
                        refine nx _ ?_
                        first
                        | (rw [if_pos ⟨by by_cases y : F.testBit q = true
                                          · exact y
                                          · rw [if_neg y] at h119; exact absurd h119 (by decide), by by_cases y : F.testBit o = true
                                                                                                     · exact y
                                                                                                     · rw [if_neg y] at h129; exact absurd h129 (by decide), h152.symm⟩]; done)
                        | (rw [if_neg (fun z => h152 z.2.2.symm)]; done)
                        | (rw [if_neg (fun z => by rw [if_pos z.2.1] at h129; exact h129 rfl)]; done)
                        | (rw [if_neg (fun z => by rw [if_pos z.1] at h119; exact h119 rfl)]; done)
                      · refine mm_iconst dX13_next_155 rfl ?_
                        refine mm_goto dX13_next_156 ?_
                        refine nx _ ?_
                        first
                        | (rw [if_pos ⟨by by_cases y : F.testBit q = true
                                          · exact y
                                          · rw [if_neg y] at h119; exact absurd h119 (by decide), by by_cases y : F.testBit o = true
                                                                                                     · exact y
                                                                                                     · rw [if_neg y] at h129; exact absurd h129 (by decide), h152.symm⟩]; done)
                        | (rw [if_neg (fun z => h152 z.2.2.symm)]; done)
                        | (rw [if_neg (fun z => by rw [if_pos z.2.1] at h129; exact h129 rfl)]; done)
                        | (rw [if_neg (fun z => by rw [if_pos z.1] at h119; exact h119 rfl)]; done)
              · have eo : o = 21 := by omega
                have ih2 := ih2 hql
                rw [ka_max] at ih2
                refine mm_iload dX13_next_103 rfl rfl ?_
                refine mm_bipush dX13_next_105 rfl (by decide) ?_
                refine mm_icge dX13_next_107 (by omega) (by omega) (fun h107 => ?_) (fun h107 => ?_)
                · refine mm_iload dX13_next_169 rfl rfl ?_
                  refine mm_iload dX13_next_171 rfl rfl ?_
                  refine mm_max dX13_next_173 rfl lm_X13_518 rfl rfl (by simp) (by omega) (by omega) ?_
                  refine mm_istore dX13_next_176 rfl (Nat.le_of_ble_eq_true rfl) rfl ?_
                  refine mm_iinc dX13_next_178 rfl rfl (Nat.le_of_ble_eq_true rfl) rfl ?_
                  refine mm_goto dX13_next_181 ?_
                  rw [eo]
                  exact ih2 _ _
                · exfalso; omega
            refine mm_iload dX13_next_90 rfl rfl ?_
            refine mm_bipush dX13_next_92 rfl (by decide) ?_
            refine mm_icge dX13_next_94 (by omega) (by omega) (fun h94 => ?_) (fun h94 => ?_)
            · exfalso; omega
            · refine mm_iconst dX13_next_97 rfl ?_
              refine mm_istore dX13_next_98 rfl (Nat.le_of_ble_eq_true rfl) rfl ?_
              refine mm_iconst dX13_next_100 rfl ?_
              refine mm_istore dX13_next_101 rfl (Nat.le_of_ble_eq_true rfl) rfl ?_
              have := others 0 (by decide)
              rw [show (if F.testBit q = true then kg_C F f q 0 else 0) = 0 by split <;> rfl] at this
              exact this
          · have eq : q = 21 := by omega
            have eh : ka_max (fun q => if F.testBit q = true then kg_C F f q 21 else 0) q = kg_heap F f := by rw [eq]; rfl
            rw [eh]
            refine mm_iload dX13_next_90 rfl rfl ?_
            refine mm_bipush dX13_next_92 rfl (by decide) ?_
            refine mm_icge dX13_next_94 (by omega) (by omega) (fun h94 => ?_) (fun h94 => ?_)
            · refine mm_iload dX13_next_184 rfl rfl ?_
              refine mm_iload dX13_next_186 rfl rfl ?_
              refine mm_iclt dX13_next_188 (by omega) (by omega) (fun h188 => ?_) (fun h188 => ?_)
              · refine mm_iload dX13_next_194 rfl rfl ?_
                refine mm_istore dX13_next_196 rfl (Nat.le_of_ble_eq_true rfl) rfl ?_
                refine mm_iload dX13_next_198 rfl rfl ?_
                refine mm_istore dX13_next_200 rfl (Nat.le_of_ble_eq_true rfl) rfl ?_
                refine mm_iinc dX13_next_202 rfl rfl (Nat.le_of_ble_eq_true rfl) rfl ?_
                refine mm_goto dX13_next_205 ?_
                first
                | (rw [if_pos ⟨ed, by omega⟩] at ih; exact ih _ _ _ _)
                | (rw [if_neg (fun z => absurd z.2 (by omega)), ← hL1, ← hL2] at ih; exact ih _ _ _ _)
              · refine mm_goto dX13_next_191 ?_
                refine mm_iinc dX13_next_202 rfl rfl (Nat.le_of_ble_eq_true rfl) rfl ?_
                refine mm_goto dX13_next_205 ?_
                first
                | (rw [if_pos ⟨ed, by omega⟩] at ih; exact ih _ _ _ _)
                | (rw [if_neg (fun z => absurd z.2 (by omega)), ← hL1, ← hL2] at ih; exact ih _ _ _ _)
            · exfalso; omega
        rw [← hL1, ← hL2]
        clear hcan
        refine mm_iload dX13_next_62 rfl rfl ?_
        refine mm_aload_n dX13_next_64 rfl rfl ?_
        refine mm_V0i dX13_next_65 rfl lk_X13_461 (c := 183) rfl (by decide) rfl  rfl rfl rfl (c_X13_acts hR) ?_
        refine mm_icge dX13_next_68 (by omega) (by omega) (fun h68 => ?_) (fun h68 => ?_)
        · exfalso; omega
        · refine mm_aload_n dX13_next_71 rfl rfl ?_
          refine mm_iload_n dX13_next_72 rfl rfl ?_
          refine mm_iload dX13_next_73 rfl rfl ?_
          refine mm_V2i dX13_next_75 rfl lk_X13_473 (c := 183) rfl (by decide) rfl (by simp) (by simp) rfl rfl rfl (c_X13_canDo hR hK hs (by omega)) ?_
          refine mm_ifneb dX13_next_78 (fun h78 => ?_) (fun h78 => ?_)
          · clear h78
            refine mm_iconst dX13_next_84 rfl ?_
            refine mm_istore dX13_next_85 rfl (Nat.le_of_ble_eq_true rfl) rfl ?_
            refine mm_iconst dX13_next_87 rfl ?_
            refine mm_istore dX13_next_88 rfl (Nat.le_of_ble_eq_true rfl) rfl ?_
            exact shares 0 (by decide) _ _
          · exact absurd (of_decide_eq_true ed) h78
      · rw [if_neg (fun z => hcan (of_decide_eq_true z.1))] at ih
        refine mm_iload dX13_next_62 rfl rfl ?_
        refine mm_aload_n dX13_next_64 rfl rfl ?_
        refine mm_V0i dX13_next_65 rfl lk_X13_461 (c := 183) rfl (by decide) rfl  rfl rfl rfl (c_X13_acts hR) ?_
        refine mm_icge dX13_next_68 (by omega) (by omega) (fun h68 => ?_) (fun h68 => ?_)
        · exfalso; omega
        · refine mm_aload_n dX13_next_71 rfl rfl ?_
          refine mm_iload_n dX13_next_72 rfl rfl ?_
          refine mm_iload dX13_next_73 rfl rfl ?_
          refine mm_V2i dX13_next_75 rfl lk_X13_473 (c := 183) rfl (by decide) rfl (by simp) (by simp) rfl rfl rfl (c_X13_canDo hR hK hs (by omega)) ?_
          refine mm_ifneb dX13_next_78 (fun h78 => ?_) (fun h78 => ?_)
          · exact absurd h78 hcan
          · refine mm_goto dX13_next_81 ?_
            refine mm_iinc dX13_next_202 rfl rfl (Nat.le_of_ble_eq_true rfl) rfl ?_
            refine mm_goto dX13_next_205 ?_
            exact ih _ _ _ _
    · have ei : i = (15 * mm_rk M 10).toNat := by omega
      rw [hΦ]
      refine mm_iload dX13_next_62 rfl rfl ?_
      refine mm_aload_n dX13_next_64 rfl rfl ?_
      refine mm_V0i dX13_next_65 rfl lk_X13_461 (c := 183) rfl (by decide) rfl  rfl rfl rfl (c_X13_acts hR) ?_
      refine mm_icge dX13_next_68 (by omega) (by omega) (fun h68 => ?_) (fun h68 => ?_)
      · refine mm_iload dX13_next_208 rfl rfl ?_
        refine mm_iret dX13_next_210 rfl rfl ?_
        exact ⟨F, by unfold kg_next; rw [ei], hR, rfl, hF⟩
      · exfalso; omega
  have count : ∀ F : Nat, kg_set (kg_fR M 999) F → ∀ i : Nat, i ≤ 21 → ∀ l6 l7 l8 l9 l10 : mm_V, mm_J X Y_X13_next 243 243 243 32 [(2, 184), (0, s), (0, h), (0, (F : Int)), (0, ka_sum (fun q => if F.testBit q = true then 1 else 0) i), (0, (i : Int)), l6, l7, l8, l9, l10] [] M Φ := by
    intro F hF
    have hF1 := hF.1
    refine mm_lp ?_
    intro i hi ih l6 l7 l8 l9 l10
    by_cases hlt : i < 21
    · have eb := kx_bit (a := F) (k := i) (by omega) (by omega)
      have ih := ih hlt
      rw [ka_sum] at ih
      refine mm_iload dX13_next_32 rfl rfl ?_
      refine mm_bipush dX13_next_34 rfl (by decide) ?_
      refine mm_icge dX13_next_36 (by omega) (by omega) (fun h36 => ?_) (fun h36 => ?_)
      · exfalso; omega
      · refine mm_iload dX13_next_39 rfl rfl ?_
        refine mm_iload_n dX13_next_41 rfl rfl ?_
        refine mm_iload dX13_next_42 rfl rfl ?_
        refine mm_ishr dX13_next_44 rfl ?_
        refine mm_iconst dX13_next_45 rfl ?_
        refine mm_iand dX13_next_46 rfl ?_
        rw [eb]
        refine mm_iadd dX13_next_47 rfl ?_
        refine mm_istore dX13_next_48 rfl (Nat.le_of_ble_eq_true rfl) rfl ?_
        refine mm_iinc dX13_next_50 rfl rfl (Nat.le_of_ble_eq_true rfl) rfl ?_
        refine mm_goto dX13_next_53 ?_
        exact ih _ _ _ _ _
    · have ei : i = 21 := by omega
      have en : ka_sum (fun q => if F.testBit q = true then (1 : Int) else 0) i = kx_n F := by rw [ei]; rfl
      rw [en]
      refine mm_iload dX13_next_32 rfl rfl ?_
      refine mm_bipush dX13_next_34 rfl (by decide) ?_
      refine mm_icge dX13_next_36 (by omega) (by omega) (fun h36 => ?_) (fun h36 => ?_)
      · refine mm_iconst dX13_next_56 rfl ?_
        refine mm_istore dX13_next_57 rfl (Nat.le_of_ble_eq_true rfl) rfl ?_
        refine mm_iconst dX13_next_59 rfl ?_
        refine mm_istore dX13_next_60 rfl (Nat.le_of_ble_eq_true rfl) rfl ?_
        exact acts F hF 0 (Nat.zero_le _) _ _ _ _
      · exfalso; omega
  refine mm_aload_n dX13_next_0 rfl rfl ?_
  refine mm_iload_n dX13_next_1 rfl rfl ?_
  refine mm_V1i dX13_next_2 rfl lk_X13_464 (c := 183) rfl (by decide) rfl (by simp) rfl rfl rfl (c_X13_isState hR hK (by omega)) ?_
  refine mm_ifeqb dX13_next_5 (fun h5 => ?_) (fun h5 => ?_)
  · exact absurd hs h5
  · refine mm_iload_n dX13_next_8 rfl rfl ?_
    refine mm_S1i dX13_next_9 rfl lk_X13_486 (by simp) rfl rfl rfl (c_X13_isHour (by omega)) ?_
    refine mm_ifneb dX13_next_12 (fun h12 => ?_) (fun h12 => ?_)
    · refine mm_aload_n dX13_next_18 rfl rfl ?_
      refine mm_sipush dX13_next_19 rfl (by decide) ?_
      refine mm_V1g (M1 := M) dX13_next_22 rfl lk_X13_721 (c := 183) rfl (by decide) rfl (by simp) rfl rfl rfl (c_X13_fitOf hR hK hA hG (by omega)) ?_
      rintro _ N22 ⟨x22, rfl, p22⟩
      change mm_J _ _ _ _ _ _ _ _ _ _
      have hR22 : mm_Rf N22 := p22.1
      obtain ⟨-, eN, hF⟩ := p22
      rw [eN]
      refine mm_istore_n dX13_next_25 rfl (Nat.le_of_ble_eq_true rfl) rfl ?_
      refine mm_iconst dX13_next_26 rfl ?_
      refine mm_istore dX13_next_27 rfl (Nat.le_of_ble_eq_true rfl) rfl ?_
      refine mm_iconst dX13_next_29 rfl ?_
      refine mm_istore dX13_next_30 rfl (Nat.le_of_ble_eq_true rfl) rfl ?_
      exact count x22 hF 0 (by decide) _ _ _ _ _
    · exact absurd hh h12
theorem c_X13_next0 (hR : mm_Rf M) (hK : mm_KV (mm_rk M)) (hs : mm_R s) (hh : mm_R h) (hno : ¬ (ks_st (mm_rk M) s ∧ ks_hr h)) : mm_Fn X Y_X13_next 243 [(2, 184), (0, s), (0, h)] M (0, -2) M := by
  refine mm_startF (ls := [(2, 184), (0, s), (0, h), (9, 0), (9, 0), (9, 0), (9, 0), (9, 0), (9, 0), (9, 0), (9, 0)]) rfl ?_
  refine mm_aload_n dX13_next_0 rfl rfl ?_
  refine mm_iload_n dX13_next_1 rfl rfl ?_
  refine mm_V1i dX13_next_2 rfl lk_X13_464 (c := 183) rfl (by decide) rfl (by simp) rfl rfl rfl (c_X13_isState hR hK (by omega)) ?_
  refine mm_ifeqb dX13_next_5 (fun h5 => ?_) (fun h5 => ?_)
  · refine mm_bipush dX13_next_15 rfl (by decide) ?_
    refine mm_iret dX13_next_17 rfl rfl ?_
    exact mm_fin rfl rfl
  · refine mm_iload_n dX13_next_8 rfl rfl ?_
    refine mm_S1i dX13_next_9 rfl lk_X13_486 (by simp) rfl rfl rfl (c_X13_isHour (by omega)) ?_
    refine mm_ifneb dX13_next_12 (fun h12 => ?_) (fun h12 => ?_)
    · exact absurd ⟨h5, h12⟩ hno
    · refine mm_bipush dX13_next_15 rfl (by decide) ?_
      refine mm_iret dX13_next_17 rfl rfl ?_
      exact mm_fin rfl rfl
end

