/-! ===== a stand, of the class ===== -/
theorem kn_congr {d e : Nat → Int} (h : ∀ t, d t = e t) (n : Nat) : kn d n = kn e n := by rw [show d = e from funext h]
theorem kn_d_congr {K S S' T T' : Nat → Int} {l m k : Nat} {w : Int} (hl : 0 < l) (hm : 0 < m) (hS : ∀ i, i < l → S i = S' i) (hT : ∀ i, i < m → T i = T' i) : kn_d K S T l m k w = kn_d K S' T' l m k w := by
  funext t
  unfold kn_d
  rw [hS _ (Nat.mod_lt _ hl), hT _ (Nat.mod_lt _ hm)]
/-- two stands of the class meet -/
def kd_mC (M : mm_M) (i j : Nat) : Prop := kn (kn_d (M 4) (M (148 + 3 * i + 2)) (M (148 + 3 * j + 2)) (M (148 + 3 * i) 2).toNat (M (148 + 3 * j) 2).toNat 0 (M 146 j - M 146 i)) ((M (148 + 3 * i) 2).toNat * (M (148 + 3 * j) 2).toNat / Nat.gcd (M (148 + 3 * i) 2).toNat (M (148 + 3 * j) 2).toNat) < 2
/-- the rows of the field -/
def mm_CFr (M : mm_M) : Prop := ∀ i : Nat, (i : Int) < M 144 1 → (1 ≤ M (148 + 3 * i) 2 ∧ M (148 + 3 * i) 2 ≤ 100) ∧ (0 ≤ M 146 i ∧ M 146 i ≤ 40) ∧ ∀ k : Nat, (k : Int) < M (148 + 3 * i) 2 → ks_st (M 4) (M (148 + 3 * i + 2) k)
section
variable {X : mm_X} {M : mm_M} {x y : Int} {rc n : Nat}
/-- what add leaves -/
def kd_add (M M' : mm_M) (x : Int) (rc n : Nat) : Prop :=
  (∀ a, a ≠ 144 → a ≠ 146 → a ≠ 147 → a ≠ 148 + 3 * n → a ≠ 148 + 3 * n + 1 → a ≠ 148 + 3 * n + 2 → M' a = M a) ∧ (∀ b, b ≠ 1 → b ≠ 2 → M' 144 b = M 144 b) ∧ M' 144 1 = (n : Int) + 1 ∧ M' 144 2 = 0 ∧ (∀ b, b ≠ n → M' 146 b = M 146 b) ∧ M' 146 n = x ∧
  M' (148 + 3 * n) 2 = M rc 2 ∧ M' (148 + 3 * n) 3 = M rc 3 ∧ (∀ b : Nat, (b : Int) < M rc 2 → M' (148 + 3 * n + 1) b = M (rc + 1) b) ∧ (∀ b : Nat, (b : Int) < M rc 2 → M' (148 + 3 * n + 2) b = M (rc + 2) b) ∧ mm_CF M' (kd_mC M')
theorem c_X1_add (hR : mm_Rf M) (hK : mm_CK M) (hF : mm_CF M (kd_mC M)) (hFr : mm_CFr M) (hn : M 144 1 = (n : Int)) (hn8 : n < 8) (hrc : mm_rw rc 100) (hne : rc + 3 ≤ 144) (h20 : 20 < rc) (hl : 1 ≤ M rc 2 ∧ M rc 2 ≤ 100) (hw : -75000000 ≤ M rc 3 ∧ M rc 3 ≤ 75000000) (hst : ∀ i : Nat, (i : Int) < M rc 2 → ks_st (M 4) (M (rc + 2) i)) (hx : 0 ≤ x ∧ x ≤ 40) :
    mm_C X Y_X1_add 243 243 [(2, 145), (0, x), (2, (rc : Int) + 1)] M (fun r M' => r = (0, (n : Int)) ∧ mm_Rf M' ∧ mm_ag M M' ∧ kd_add M M' x rc n) := by
  have hrn := (mm_rw_stands n hn8).1
  have ern := (mm_rw_stands n hn8).2
  have cc := c_X8_copyFrom (X := X) (M := M) (rc := 148 + 3 * n) (rd := rc) hR hrn hrc (by omega) (by omega)
  obtain ⟨N0, hN0⟩ : ∃ N, N = mm_cf M (148 + 3 * n) rc 100 := ⟨_, rfl⟩
  rw [← hN0] at cc
  have cf : ∀ a b, N0 a b = if a = 148 + 3 * n ∧ b = 2 then M rc 2 else if a = 148 + 3 * n ∧ b = 3 then M rc 3 else if a = 148 + 3 * n + 1 ∧ (b : Int) < M rc 2 then M (rc + 1) b else if a = 148 + 3 * n + 2 ∧ (b : Int) < M rc 2 then M (rc + 2) b else M a b := by
    intro a b
    rw [hN0]
    unfold mm_cf
    rw [show min (M rc 2) (100 : Nat) = M rc 2 by omega]
  have cf0 : ∀ a, a ≠ 148 + 3 * n → a ≠ 148 + 3 * n + 1 → a ≠ 148 + 3 * n + 2 → N0 a = M a := by
    intro a h1 h2 h3
    funext b
    rw [cf, if_neg (by omega), if_neg (by omega), if_neg (by omega), if_neg (by omega)]
  have hR0 : mm_Rf N0 := by
    intro a b hab
    rw [cf, if_neg (fun q => hab (by rw [q.1]; exact mm_rt_row hrn (by omega))), if_neg (fun q => hab (by rw [q.1]; exact mm_rt_row hrn (by omega))), if_neg (fun q => hab (by rw [q.1]; exact mm_rt_arr hrn.2.1 b)), if_neg (fun q => hab (by rw [q.1]; exact mm_rt_arr hrn.2.2.1 b))]
    exact hR a b hab
  have hG0 : mm_ag M N0 := fun a h1 h2 => cf0 a (by omega) (by omega) (by omega)
  -- the memory of the row that came
  obtain ⟨m, hm⟩ : ∃ m, m = (M rc 2).toNat := ⟨_, rfl⟩
  -- whom the new one meets
  obtain ⟨mt, hmt⟩ : ∃ mt : Nat → Prop, mt = (fun i => kn (kn_d (M 4) (M (148 + 3 * i + 2)) (M (rc + 2)) (M (148 + 3 * i) 2).toNat m 0 (x - M 146 i)) ((M (148 + 3 * i) 2).toNat * m / Nat.gcd (M (148 + 3 * i) 2).toNat m) < 2) := ⟨_, rfl⟩
  refine mm_start (ls := [(2, 145), (0, x), (2, (rc : Int) + 1), (9, 0), (9, 0)]) rfl ?_
  have e20 : 20 < 148 + 3 * n := by omega
  have loop : ∀ i : Nat, i ≤ n → ∀ N : mm_M, mm_Rf N → mm_ag M N → (∀ a, a ≠ 146 → a ≠ 147 → a ≠ 148 + 3 * n → a ≠ 148 + 3 * n + 1 → a ≠ 148 + 3 * n + 2 → N a = M a) → (∀ b, b ≠ n → N 146 b = M 146 b) → N 146 n = x → N (148 + 3 * n) = N0 (148 + 3 * n) → N (148 + 3 * n + 1) = N0 (148 + 3 * n + 1) → N (148 + 3 * n + 2) = N0 (148 + 3 * n + 2) →
      (∀ j : Nat, j < n → ∃ b : Nat, N 147 j = (b : Int) ∧ b < 256 ∧ ∀ k, b.testBit k = true ↔ ((k < n ∧ ((j < k ∧ kd_mC M j k) ∨ (k < j ∧ kd_mC M k j))) ∨ (k = n ∧ j < i ∧ mt j))) →
      (∃ b : Nat, N 147 n = (b : Int) ∧ b < 256 ∧ ∀ k, b.testBit k = true ↔ (k < i ∧ mt k)) →
      mm_J X Y_X1_add 243 243 243 32 [(2, 145), (0, x), (2, (rc : Int) + 1), (0, (n : Int)), (0, (i : Int))] [] N (fun r M' => r = (0, (n : Int)) ∧ mm_Rf M' ∧ mm_ag M M' ∧ kd_add M M' x rc n) := by
    refine mm_lp ?_
    intro i hi ih N hRN hG hfr hs1 hs2 hr0 hr1 hr2 hb hbn
    have f144 : N 144 = M 144 := hfr 144 (by decide) (by decide) (by omega) (by omega) (by omega)
    have eN4 : N 4 = M 4 := hG 4 (by decide) (by decide)
    by_cases hlt : i < n
    · have wr := mm_rw_stands i (by omega)
      have er : N 145 i = ((148 + 3 * i : Nat) : Int) + 1 := hRN.at wr.2 (by omega)
      obtain ⟨q1, q2, q3⟩ := hFr i (by omega)
      have hw40 := hs1 i (by omega)
      obtain ⟨bi, b1, b2, b3⟩ := hb i hlt
      obtain ⟨bn, c1, c2, c3⟩ := hbn
      have fi : N (148 + 3 * i) = M (148 + 3 * i) := hfr _ (by omega) (by omega) (by omega) (by omega) (by omega)
      have fi2 : N (148 + 3 * i + 2) = M (148 + 3 * i + 2) := hfr _ (by omega) (by omega) (by omega) (by omega) (by omega)
      have frc : N rc = M rc := hfr _ (by omega) (by omega) (by omega) (by omega) (by omega)
      have frc2 : N (rc + 2) = M (rc + 2) := hfr _ (by omega) (by omega) (by omega) (by omega) (by omega)
      have cn := c_X1_nearest (X := X) (M := N) (w := x - M 146 i) (k := 0) (l := (M (148 + 3 * i) 2).toNat) (m := m) hRN (hG.ck hK) wr.1 hrc (by rw [fi]; omega) (by rw [frc]; omega) (by omega) (by omega) (by intro k hk; rw [eN4, fi2]; exact q3 k (by omega)) (by intro k hk; rw [eN4, frc2]; exact hst k (by omega))
      rw [eN4, fi2, frc2] at cn
      have hkb := kn_b (fun t => (kn_db (S := M (148 + 3 * i + 2)) (T := M (rc + 2)) (l := (M (148 + 3 * i) 2).toNat) (m := m) (k := 0) (w := x - M 146 i) hK.1 (by omega) t).1) ((M (148 + 3 * i) 2).toNat * m / Nat.gcd (M (148 + 3 * i) 2).toNat m)
      have emt : mt i ↔ kn (kn_d (M 4) (M (148 + 3 * i + 2)) (M (rc + 2)) (M (148 + 3 * i) 2).toNat m 0 (x - M 146 i)) ((M (148 + 3 * i) 2).toNat * m / Nat.gcd (M (148 + 3 * i) 2).toNat m) < 2 := by rw [hmt]
      obtain ⟨dn, hdn⟩ : ∃ z, z = kn (kn_d (M 4) (M (148 + 3 * i + 2)) (M (rc + 2)) (M (148 + 3 * i) 2).toNat m 0 (x - M 146 i)) ((M (148 + 3 * i) 2).toNat * m / Nat.gcd (M (148 + 3 * i) 2).toNat m) := ⟨_, rfl⟩
      rw [← hdn] at cn hkb emt
      have sh1 := kx_shl n (by omega)
      have sh2 := kx_shl i (by omega)
      have p1 : 2 ^ n < 256 := Nat.lt_of_lt_of_le (Nat.pow_lt_pow_right (by decide) hn8) (by decide)
      have p2 : 2 ^ i < 256 := Nat.lt_of_lt_of_le (Nat.pow_lt_pow_right (by decide) (show i < 8 by omega)) (by decide)
      have or1 := kx_or (a := bi) (b := 2 ^ n) (by omega) (by omega)
      have or2 := kx_or (a := bn) (b := 2 ^ i) (by omega) (by omega)
      have o1 : bi ||| 2 ^ n < 256 := Nat.or_lt_two_pow (n := 8) b2 p1
      have o2 : bn ||| 2 ^ i < 256 := Nat.or_lt_two_pow (n := 8) c2 p2
      refine mm_iload dX1_add_32 rfl rfl ?_
      refine mm_iload_n dX1_add_34 rfl rfl ?_
      refine mm_icge dX1_add_35 (by omega) (by omega) (fun h35 => ?_) (fun h35 => ?_)
      · exfalso; omega
      · refine mm_aload_n dX1_add_38 rfl rfl ?_
        refine mm_aload_n dX1_add_39 rfl rfl ?_
        refine mm_getr dX1_add_40 rfl fl_X1_13 (c := 144) rfl (by decide) rfl rfl (hRN.at (c := 144) (i := 3) (v := 146) rfl (by decide)) ?_
        refine mm_iload dX1_add_43 rfl rfl ?_
        refine mm_aalk (k0 := i) dX1_add_45 rfl (c := 145) rfl (by decide) rfl (by omega) (by omega) ?_
        rw [er]
        refine mm_aload_n dX1_add_46 rfl rfl ?_
        refine mm_iload_n dX1_add_47 rfl rfl ?_
        refine mm_aload_n dX1_add_48 rfl rfl ?_
        refine mm_getr dX1_add_49 rfl fl_X1_17 (c := 144) rfl (by decide) rfl rfl (hRN.at (c := 144) (i := 4) (v := 147) rfl (by decide)) ?_
        refine mm_iload dX1_add_52 rfl rfl ?_
        refine mm_ialk (k0 := i) dX1_add_54 rfl (c := 146) rfl (by decide) rfl (by omega) (by omega) ?_
        rw [hw40]
        refine mm_isub dX1_add_55 rfl ?_
        refine mm_iconst dX1_add_56 rfl ?_
        refine mm_V4i dX1_add_57 rfl lk_X1_42 (c := 144) rfl (by decide) rfl (by simp) (by simp) (by simp) (by simp) rfl rfl rfl (cn) ?_
        refine mm_iconst dX1_add_60 rfl ?_
        refine mm_icge dX1_add_61 (by omega) (by omega) (fun h61 => ?_) (fun h61 => ?_)
        · refine mm_iinc dX1_add_90 rfl rfl (Nat.le_of_ble_eq_true rfl) rfl ?_
          refine mm_goto dX1_add_93 ?_
          have hno : ¬ mt i := by rw [emt]; omega
          refine ih hlt N hRN hG hfr hs1 hs2 hr0 hr1 hr2 ?_ ?_
          · intro j hj
            obtain ⟨b, d1, d2, d3⟩ := hb j hj
            refine ⟨b, d1, d2, fun k => (d3 k).trans ?_⟩
            constructor
            · rintro (z | ⟨z1, z2, z3⟩)
              · exact Or.inl z
              · exact Or.inr ⟨z1, by omega, z3⟩
            · rintro (z | ⟨z1, z2, z3⟩)
              · exact Or.inl z
              · refine Or.inr ⟨z1, ?_, z3⟩
                by_cases q : j = i
                · rw [q] at z3; exact absurd z3 hno
                · omega
          · refine ⟨bn, c1, c2, fun k => (c3 k).trans ?_⟩
            constructor
            · rintro ⟨z1, z2⟩
              exact ⟨by omega, z2⟩
            · rintro ⟨z1, z2⟩
              refine ⟨?_, z2⟩
              by_cases q : k = i
              · rw [q] at z2; exact absurd z2 hno
              · omega
        · refine mm_aload_n dX1_add_64 rfl rfl ?_
          refine mm_getr dX1_add_65 rfl fl_X1_21 (c := 144) rfl (by decide) rfl rfl (hRN.at (c := 144) (i := 5) (v := 148) rfl (by decide)) ?_
          refine mm_iload dX1_add_68 rfl rfl ?_
          refine mm_dup2 dX1_add_70 rfl (by simp) (by simp) ?_
          refine mm_ialk (k0 := i) dX1_add_71 rfl (c := 147) rfl (by decide) rfl (by omega) (by omega) ?_
          refine mm_iconst dX1_add_72 rfl ?_
          refine mm_iload_n dX1_add_73 rfl rfl ?_
          refine mm_ishl dX1_add_74 rfl ?_
          rw [sh1, b1]
          refine mm_ior dX1_add_75 rfl ?_
          rw [or1]
          refine mm_istk (k0 := i) dX1_add_76 rfl (c := 147) rfl (by decide) rfl (by omega) (by omega) (fun M76 hM76 => ?_)
          have hR76 : mm_Rf M76 := by rw [hM76]; exact hRN.up (mm_rt_ar (t := 0) rfl (by decide))
          have hG76 : mm_ag M M76 := by rw [hM76]; exact hG.up (by decide)
          refine mm_aload_n dX1_add_77 rfl rfl ?_
          refine mm_getr dX1_add_78 rfl fl_X1_21 (c := 144) rfl (by decide) rfl rfl (hR76.at (c := 144) (i := 5) (v := 148) rfl (by decide)) ?_
          refine mm_iload_n dX1_add_81 rfl rfl ?_
          refine mm_dup2 dX1_add_82 rfl (by simp) (by simp) ?_
          refine mm_ialk (k0 := n) dX1_add_83 rfl (c := 147) rfl (by decide) rfl (by omega) (by omega) ?_
          have e83 : M76 147 n = (bn : Int) := by rw [hM76, mm_up_i (by omega)]; exact c1
          rw [e83]
          refine mm_iconst dX1_add_84 rfl ?_
          refine mm_iload dX1_add_85 rfl rfl ?_
          refine mm_ishl dX1_add_87 rfl ?_
          rw [sh2]
          refine mm_ior dX1_add_88 rfl ?_
          rw [or2]
          refine mm_istk (k0 := n) dX1_add_89 rfl (c := 147) rfl (by decide) rfl (by omega) (by omega) (fun M89 hM89 => ?_)
          have hR89 : mm_Rf M89 := by rw [hM89]; exact hR76.up (mm_rt_ar (t := 0) rfl (by decide))
          have hG89 : mm_ag M M89 := by rw [hM89]; exact hG76.up (by decide)
          refine mm_iinc dX1_add_90 rfl rfl (Nat.le_of_ble_eq_true rfl) rfl ?_
          refine mm_goto dX1_add_93 ?_
          have hyes : mt i := by rw [emt]; omega
          have u1 : ∀ j, j ≠ i → j ≠ n → M89 147 j = N 147 j := by intro j h1 h2; simp [hM89, hM76, mm_up, h1, h2]
          have u2 : M89 147 i = ((bi ||| 2 ^ n : Nat) : Int) := by
            have : i ≠ n := by omega
            simp [hM89, hM76, mm_up, this]
          have u3 : M89 147 n = ((bn ||| 2 ^ i : Nat) : Int) := by simp [hM89, hM76, mm_up]
          have u4 : ∀ a, a ≠ 147 → M89 a = N a := by intro a ha; funext b; simp [hM89, hM76, mm_up, ha]
          refine ih hlt _ hR89 hG89 ?_ ?_ ?_ ?_ ?_ ?_ ?_ ?_
          · intro a a1 a2 a3 a4 a5; rw [u4 a a2]; exact hfr a a1 a2 a3 a4 a5
          · intro b hb9; rw [u4 146 (by decide)]; exact hs1 b hb9
          · rw [u4 146 (by decide)]; exact hs2
          · rw [u4 _ (by omega)]; exact hr0
          · rw [u4 _ (by omega)]; exact hr1
          · rw [u4 _ (by omega)]; exact hr2
          · intro j hj
            by_cases q : j = i
            · rw [q]
              refine ⟨bi ||| 2 ^ n, u2, o1, fun k => ?_⟩
              rw [Nat.testBit_or, Nat.testBit_two_pow, Bool.or_eq_true, b3 k, decide_eq_true_iff]
              constructor
              · rintro ((z | ⟨z1, z2, z3⟩) | z)
                · exact Or.inl z
                · exact Or.inr ⟨z1, by omega, z3⟩
                · exact Or.inr ⟨z.symm, by omega, hyes⟩
              · rintro (z | ⟨z1, z2, z3⟩)
                · exact Or.inl (Or.inl z)
                · exact Or.inr z1.symm
            · obtain ⟨b, d1, d2, d3⟩ := hb j hj
              refine ⟨b, by rw [u1 j q (by omega)]; exact d1, d2, fun k => (d3 k).trans ?_⟩
              constructor
              · rintro (z | ⟨z1, z2, z3⟩)
                · exact Or.inl z
                · exact Or.inr ⟨z1, by omega, z3⟩
              · rintro (z | ⟨z1, z2, z3⟩)
                · exact Or.inl z
                · exact Or.inr ⟨z1, by omega, z3⟩
          · refine ⟨bn ||| 2 ^ i, u3, o2, fun k => ?_⟩
            rw [Nat.testBit_or, Nat.testBit_two_pow, Bool.or_eq_true, c3 k, decide_eq_true_iff]
            constructor
            · rintro (⟨z1, z2⟩ | z)
              · exact ⟨by omega, z2⟩
              · rw [← z]; exact ⟨by omega, hyes⟩
            · rintro ⟨z1, z2⟩
              by_cases q : k = i
              · exact Or.inr q.symm
              · exact Or.inl ⟨by omega, z2⟩
    · have ei : i = n := by omega
      have hcn : N 144 1 = (n : Int) := by rw [f144]; exact hn
      refine mm_iload dX1_add_32 rfl rfl ?_
      refine mm_iload_n dX1_add_34 rfl rfl ?_
      refine mm_icge dX1_add_35 (by omega) (by omega) (fun h35 => ?_) (fun h35 => ?_)
      · refine mm_aload_n dX1_add_96 rfl rfl ?_
        refine mm_dup dX1_add_97 rfl (by simp) ?_
        refine mm_get (kd := 0) dX1_add_98 rfl fl_X1_31 (c := 144) rfl (by decide) rfl rfl ?_
        obtain ⟨v98, hv98⟩ : ∃ v, v = N 144 1 := ⟨_, rfl⟩
        rw [← hv98]
        rw [hcn] at hv98
        subst hv98
        refine mm_iconst dX1_add_101 rfl ?_
        refine mm_iadd dX1_add_102 rfl ?_
        refine mm_puti dX1_add_103 rfl fl_X1_31 (c := 144) rfl (by decide) rfl rfl (fun M103 hM103 => ?_)
        have hR103 : mm_Rf M103 := by rw [hM103]; exact hRN.up rfl
        have hG103 : mm_ag M M103 := by rw [hM103]; exact hG.up (by decide)
        refine mm_aload_n dX1_add_106 rfl rfl ?_
        refine mm_iconst dX1_add_107 rfl ?_
        refine mm_puti dX1_add_108 rfl fl_X1_35 (c := 144) rfl (by decide) rfl rfl (fun M108 hM108 => ?_)
        have hR108 : mm_Rf M108 := by rw [hM108]; exact hR103.up rfl
        have hG108 : mm_ag M M108 := by rw [hM108]; exact hG103.up (by decide)
        refine mm_iload_n dX1_add_111 rfl rfl ?_
        refine mm_iret dX1_add_112 rfl rfl ?_
        have u4 : ∀ a, a ≠ 144 → M108 a = N a := by intro a ha; funext b; simp [hM108, hM103, mm_up, ha]
        have uc : M108 144 1 = (n : Int) + 1 := by simp [hM108, hM103, mm_up]
        have us : ∀ b, M108 146 b = N 146 b := by intro b; rw [u4 146 (by decide)]
        have k2 : M108 (148 + 3 * n) 2 = M rc 2 := by rw [u4 _ (by omega), hr0, cf, if_pos ⟨rfl, rfl⟩]
        have k3 : M108 (148 + 3 * n) 3 = M rc 3 := by rw [u4 _ (by omega), hr0, cf, if_neg (by omega), if_pos ⟨rfl, rfl⟩]
        have k4 : ∀ b : Nat, (b : Int) < M rc 2 → M108 (148 + 3 * n + 1) b = M (rc + 1) b := by intro b hb9; rw [u4 _ (by omega), hr1, cf, if_neg (by omega), if_neg (by omega), if_pos ⟨rfl, hb9⟩]
        have k5 : ∀ b : Nat, (b : Int) < M rc 2 → M108 (148 + 3 * n + 2) b = M (rc + 2) b := by intro b hb9; rw [u4 _ (by omega), hr2, cf, if_neg (by omega), if_neg (by omega), if_neg (by omega), if_pos ⟨rfl, hb9⟩]
        have old : ∀ j, j < n → M108 (148 + 3 * j) = M (148 + 3 * j) ∧ M108 (148 + 3 * j + 2) = M (148 + 3 * j + 2) ∧ M108 146 j = M 146 j := by
          intro j hj
          refine ⟨?_, ?_, ?_⟩
          · rw [u4 _ (by omega)]; exact hfr _ (by omega) (by omega) (by omega) (by omega) (by omega)
          · rw [u4 _ (by omega)]; exact hfr _ (by omega) (by omega) (by omega) (by omega) (by omega)
          · rw [us]; exact hs1 j (by omega)
        have e4 : M108 4 = M 4 := by rw [u4 4 (by decide)]; exact eN4
        have m1 : ∀ j k, j < n → k < n → (kd_mC M108 j k ↔ kd_mC M j k) := by
          intro j k hj hk
          unfold kd_mC
          rw [(old j hj).1, (old j hj).2.1, (old j hj).2.2, (old k hk).1, (old k hk).2.1, (old k hk).2.2, e4]
        have m2 : ∀ j, j < n → (kd_mC M108 j n ↔ mt j) := by
          intro j hj
          unfold kd_mC
          rw [(old j hj).1, (old j hj).2.1, (old j hj).2.2, e4, k2, us n, hs2, hmt, ← hm]
          obtain ⟨q1, q2, q3⟩ := hFr j (by omega)
          rw [kn_d_congr (T' := M (rc + 2)) (by omega) (by omega) (fun i _ => rfl) (fun i hi => k5 i (by omega))]
        refine ⟨rfl, hR108, hG108, ?_, ?_, uc, ?_, ?_, ?_, k2, k3, k4, k5, ⟨by rw [uc]; omega, ?_⟩⟩
        · intro a a1 a2 a3 a4 a5 a6; rw [u4 a a1]; exact hfr a a2 a3 a4 a5 a6
        · intro b b1 b2; simp [hM108, hM103, mm_up, b1, b2]; rw [f144]
        · simp [hM108, hM103, mm_up]
        · intro b hb9; rw [us]; exact hs1 b hb9
        · rw [us]; exact hs2
        · intro j hj
          rw [uc] at hj
          by_cases q : j = n
          · rw [q]
            obtain ⟨b, d1, d2, d3⟩ := hbn
            refine ⟨by rw [k3]; omega, b, by rw [u4 147 (by decide)]; exact d1, d2, fun k => (d3 k).trans ?_⟩
            rw [uc]
            constructor
            · rintro ⟨z1, z2⟩
              exact ⟨by omega, Or.inr ⟨by omega, (m2 k (by omega)).mpr z2⟩⟩
            · rintro ⟨z1, ⟨z2, z3⟩ | ⟨z2, z3⟩⟩
              · omega
              · exact ⟨by omega, (m2 k (by omega)).mp z3⟩
          · have hj2 : j < n := by omega
            obtain ⟨b, d1, d2, d3⟩ := hb j hj2
            refine ⟨by rw [(old j hj2).1]; exact (hF.2 j (by omega)).1, b, by rw [u4 147 (by decide)]; exact d1, d2, fun k => (d3 k).trans ?_⟩
            rw [uc]
            constructor
            · rintro (⟨z1, ⟨z2, z3⟩ | ⟨z2, z3⟩⟩ | ⟨z1, z2, z3⟩)
              · exact ⟨by omega, Or.inl ⟨z2, (m1 j k hj2 z1).mpr z3⟩⟩
              · exact ⟨by omega, Or.inr ⟨z2, (m1 k j z1 hj2).mpr z3⟩⟩
              · rw [z1]; exact ⟨by omega, Or.inl ⟨hj2, (m2 j hj2).mpr z3⟩⟩
            · rintro ⟨z1, ⟨z2, z3⟩ | ⟨z2, z3⟩⟩
              · by_cases y : k = n
                · rw [y] at z3; exact Or.inr ⟨y, by omega, (m2 j hj2).mp z3⟩
                · exact Or.inl ⟨by omega, Or.inl ⟨z2, (m1 j k hj2 (by omega)).mp z3⟩⟩
              · exact Or.inl ⟨by omega, Or.inr ⟨z2, (m1 k j (by omega) hj2).mp z3⟩⟩
      · exfalso; omega
  have e0n : N0 145 n = ((148 + 3 * n : Nat) : Int) + 1 := hR0.at ern (by omega)
  have ehn : M 145 n = ((148 + 3 * n : Nat) : Int) + 1 := hR.at ern (by omega)
  refine mm_aload_n dX1_add_0 rfl rfl ?_
  refine mm_get (kd := 0) dX1_add_1 rfl fl_X1_31 (c := 144) rfl (by decide) rfl rfl ?_
  obtain ⟨v1, hv1⟩ : ∃ v, v = M 144 1 := ⟨_, rfl⟩
  rw [← hv1]
  rw [hn] at hv1
  subst hv1
  refine mm_istore_n dX1_add_4 rfl (Nat.le_of_ble_eq_true rfl) rfl ?_
  refine mm_aload_n dX1_add_5 rfl rfl ?_
  refine mm_getr dX1_add_6 rfl fl_X1_13 (c := 144) rfl (by decide) rfl rfl (hR.at (c := 144) (i := 3) (v := 146) rfl (by decide)) ?_
  refine mm_iload_n dX1_add_9 rfl rfl ?_
  refine mm_aalk (k0 := n) dX1_add_10 rfl (c := 145) rfl (by decide) rfl (by omega) (by omega) ?_
  rw [ehn]
  refine mm_aload_n dX1_add_11 rfl rfl ?_
  refine mm_V1v dX1_add_12 rfl lk_X1_38 (c := 148 + 3 * n) rfl hrn.c0 hrn.1 (by simp) rfl rfl rfl (cc) ?_
  refine mm_aload_n dX1_add_15 rfl rfl ?_
  refine mm_getr dX1_add_16 rfl fl_X1_17 (c := 144) rfl (by decide) rfl rfl (hR0.at (c := 144) (i := 4) (v := 147) rfl (by decide)) ?_
  refine mm_iload_n dX1_add_19 rfl rfl ?_
  refine mm_iload_n dX1_add_20 rfl rfl ?_
  refine mm_istk (k0 := n) dX1_add_21 rfl (c := 146) rfl (by decide) rfl (by omega) (by omega) (fun M21 hM21 => ?_)
  have hR21 : mm_Rf M21 := by rw [hM21]; exact hR0.up (mm_rt_ar (t := 0) rfl (by decide))
  refine mm_aload_n dX1_add_22 rfl rfl ?_
  refine mm_getr dX1_add_23 rfl fl_X1_21 (c := 144) rfl (by decide) rfl rfl (hR21.at (c := 144) (i := 5) (v := 148) rfl (by decide)) ?_
  refine mm_iload_n dX1_add_26 rfl rfl ?_
  refine mm_iconst dX1_add_27 rfl ?_
  refine mm_istk (k0 := n) dX1_add_28 rfl (c := 147) rfl (by decide) rfl (by omega) (by omega) (fun M28 hM28 => ?_)
  have hR28 : mm_Rf M28 := by rw [hM28]; exact hR21.up (mm_rt_ar (t := 0) rfl (by decide))
  refine mm_iconst dX1_add_29 rfl ?_
  refine mm_istore dX1_add_30 rfl (Nat.le_of_ble_eq_true rfl) rfl ?_
  have u : ∀ a, a ≠ 146 → a ≠ 147 → M28 a = N0 a := by intro a a1 a2; funext b; simp [hM28, hM21, mm_up, a1, a2]
  refine loop 0 (Nat.zero_le _) _ hR28 ?_ ?_ ?_ ?_ ?_ ?_ ?_ ?_ ?_
  · intro a a1 a2; rw [u a (by omega) (by omega)]; exact hG0 a a1 a2
  · intro a a1 a2 a3 a4 a5; rw [u a a1 a2]; exact cf0 a a3 a4 a5
  · intro b hb9; simp [hM28, hM21, mm_up, hb9]; rw [cf0 146 (by omega) (by omega) (by omega)]
  · simp [hM28, hM21, mm_up]
  · rw [u _ (by omega) (by omega)]
  · rw [u _ (by omega) (by omega)]
  · rw [u _ (by omega) (by omega)]
  · intro j hj
    obtain ⟨b, d1, d2, d3⟩ := (hF.2 j (by omega)).2
    refine ⟨b, ?_, d2, fun k => (d3 k).trans ?_⟩
    · have : j ≠ n := by omega
      simp [hM28, hM21, mm_up, this]
      rw [cf0 147 (by omega) (by omega) (by omega)]
      exact d1
    · constructor
      · rintro ⟨z1, z2⟩
        exact Or.inl ⟨by omega, z2⟩
      · rintro (⟨z1, z2⟩ | ⟨z1, z2, z3⟩)
        · exact ⟨by omega, z2⟩
        · exact absurd z2 (Nat.not_lt_zero j)
  · refine ⟨0, by simp [hM28, hM21, mm_up], by decide, fun k => ?_⟩
    simp
end

