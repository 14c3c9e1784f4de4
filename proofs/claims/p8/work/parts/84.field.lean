/-! ===== the best field ===== -/
/-- a set of the first n stands in which no two meet -/
def kd_good (meet : Nat → Nat → Prop) (n set : Nat) : Prop := ∀ i j, i < j → j < n → set.testBit i = true → set.testBit j = true → ¬ meet i j
def kd_sum (w : Nat → Int) (set : Nat) : Nat → Int := ka_sum (fun i => if set.testBit i = true then w i else 0)
/-- what a set is worth; -1 if two of it meet -/
noncomputable def kd_v (meet : Nat → Nat → Prop) (w : Nat → Int) (n set : Nat) : Int := @ite Int (kd_good meet n set) (Classical.propDecidable _) (kd_sum w set n) (-1)
theorem kd_v1 {meet : Nat → Nat → Prop} {w : Nat → Int} {n set : Nat} (h : kd_good meet n set) : kd_v meet w n set = kd_sum w set n := by unfold kd_v; rw [if_pos h]
theorem kd_v0 {meet : Nat → Nat → Prop} {w : Nat → Int} {n set : Nat} (h : ¬ kd_good meet n set) : kd_v meet w n set = -1 := by unfold kd_v; rw [if_neg h]
/-- the best of the sets 1 .. k: its worth and the set -/
def kd_b (v : Nat → Int) : Nat → Int × Int
  | 0 => (0, 0)
  | k + 1 => if (kd_b v k).1 < v (k + 1) then (v (k + 1), ((k + 1 : Nat) : Int)) else kd_b v k
theorem kd_bb {v : Nat → Int} {B : Int} (hB : 0 ≤ B) : ∀ {k : Nat}, (∀ i, i ≤ k → v i ≤ B) → 0 ≤ (kd_b v k).1 ∧ (kd_b v k).1 ≤ B ∧ 0 ≤ (kd_b v k).2 ∧ (kd_b v k).2 ≤ k
  | 0, _ => by simp [kd_b, hB]
  | k + 1, h => by
    have h1 := kd_bb (v := v) hB (k := k) (fun i q => h i (by omega))
    have h2 := h (k + 1) (Nat.le_refl _)
    unfold kd_b
    split
    · simp only; omega
    · omega
theorem kd_sumb {w : Nat → Int} {set : Nat} {B : Int} (hB : 0 ≤ B) {n : Nat} (h : ∀ i, i < n → -B ≤ w i ∧ w i ≤ B) : -(B * n) ≤ kd_sum w set n ∧ kd_sum w set n ≤ B * n := by
  unfold kd_sum
  exact ka_sumb (fun i hi => by have := h i hi; split <;> omega)
section
variable {X : mm_X} {M : mm_M} {meet : Nat → Nat → Prop} {n set : Nat}
/-- the class's field: n stands, their worths, whom they meet -/
def mm_CF (M : mm_M) (meet : Nat → Nat → Prop) : Prop := (0 ≤ M 144 1 ∧ M 144 1 ≤ 8) ∧ ∀ i : Nat, (i : Int) < M 144 1 → (-600000000 / 8 ≤ M (148 + 3 * i) 3 ∧ M (148 + 3 * i) 3 ≤ 600000000 / 8) ∧ ∃ b : Nat, M 147 i = (b : Int) ∧ b < 256 ∧ ∀ j, b.testBit j = true ↔ ((j : Int) < M 144 1 ∧ ((i < j ∧ meet i j) ∨ (j < i ∧ meet j i)))
theorem c_X1_worthOf (hR : mm_Rf M) (hF : mm_CF M meet) (hs : set < 256) (hn : M 144 1 = (n : Int)) (hsn : ∀ j, set.testBit j = true → j < n) :
    mm_Fn X Y_X1_worthOf 243 [(2, 145), (0, (set : Int))] M (0, kd_v meet (fun i => M (148 + 3 * i) 3) n set) M := by
  have hc := hF.1
  refine mm_startF (ls := [(2, 145), (0, (set : Int)), (9, 0), (9, 0)]) rfl ?_
  have hwb : ∀ i, i < n → -75000000 ≤ M (148 + 3 * i) 3 ∧ M (148 + 3 * i) 3 ≤ 75000000 := fun i hi => (hF.2 i (by omega)).1
  have loop : ∀ i : Nat, i ≤ n → (∀ j k, j < k → k < i → set.testBit j = true → set.testBit k = true → ¬ meet j k) → (∀ j k, j < i → set.testBit j = true → set.testBit k = true → j < k → ¬ meet j k) →
      mm_J X Y_X1_worthOf 243 243 243 4 [(2, 145), (0, (set : Int)), (0, kd_sum (fun i => M (148 + 3 * i) 3) set i), (0, (i : Int))] [] M (fun r' M'' => r' = (0, kd_v meet (fun i => M (148 + 3 * i) 3) n set) ∧ M'' = M) := by
    refine mm_lp ?_
    intro i hi ih hg1 hg2
    have hsb := kd_sumb (w := fun i => M (148 + 3 * i) 3) (set := set) (B := 75000000) (by decide) (n := i) (fun j hj => hwb j (by omega))
    by_cases hlt : i < n
    · obtain ⟨hw, b, hb, hb2, hb3⟩ := hF.2 i (by omega)
      have wr := mm_rw_stands i (by omega)
      have er : M 145 i = ((148 + 3 * i : Nat) : Int) + 1 := hR.at wr.2 (by omega)
      have eb := kx_bit (a := set) (k := i) (by omega) (by omega)
      have ea := kx_and (a := b) (b := set) (by omega)
      have hand : b &&& set ≤ b := Nat.and_le_left
      have nxt : set.testBit i = true ∨ ¬ set.testBit i = true := by cases set.testBit i <;> simp
      have ih := ih hlt
      unfold kd_sum at ih hsb
      rw [ka_sum] at ih
      refine mm_iload_n dX1_worthOf_4 rfl rfl ?_
      refine mm_aload_n dX1_worthOf_5 rfl rfl ?_
      refine mm_get (kd := 0) dX1_worthOf_6 rfl fl_X1_31 (c := 144) rfl (by decide) rfl rfl ?_
      obtain ⟨v6, hv6⟩ : ∃ v, v = M 144 1 := ⟨_, rfl⟩
      rw [← hv6]
      rw [hn] at hv6
      subst hv6
      refine mm_icge dX1_worthOf_9 (by omega) (by omega) (fun h9 => ?_) (fun h9 => ?_)
      · exfalso; omega
      · refine mm_iload_n dX1_worthOf_12 rfl rfl ?_
        refine mm_iload_n dX1_worthOf_13 rfl rfl ?_
        refine mm_ishr dX1_worthOf_14 rfl ?_
        refine mm_iconst dX1_worthOf_15 rfl ?_
        refine mm_iand dX1_worthOf_16 rfl ?_
        rw [eb]
        refine mm_ifeq dX1_worthOf_17 (by split <;> omega) (fun h17 => ?_) (fun h17 => ?_)
        · refine mm_iinc dX1_worthOf_45 rfl rfl (Nat.le_of_ble_eq_true rfl) rfl ?_
          refine mm_goto dX1_worthOf_48 ?_
          by_cases z : set.testBit i = true
          · rw [if_pos z] at h17
            first
            | exact absurd h17 (by decide)
            | (have hz : b &&& set = 0 := by omega
               have no : ∀ k, set.testBit k = true → b.testBit k = true → False := by
                 intro k k1 k2
                 have : (b &&& set).testBit k = true := by rw [Nat.testBit_and, k1, k2]; rfl
                 rw [hz] at this
                 simp at this
               have := ih ?_ ?_
               · rw [if_pos z] at this; exact this
               · intro j k h1 h2 h3 h4 h5
                 by_cases q : k = i
                 · rw [q] at h1 h5
                   exact no j h3 ((hb3 j).mpr ⟨by omega, Or.inr ⟨h1, h5⟩⟩)
                 · exact hg1 j k h1 (by omega) h3 h4 h5
               · intro j k h1 h3 h4 h2 h5
                 by_cases q : j = i
                 · rw [q] at h2 h5
                   exact no k h4 ((hb3 k).mpr ⟨by have := hsn k h4; omega, Or.inl ⟨h2, h5⟩⟩)
                 · exact hg2 j k (by omega) h3 h4 h2 h5)
          · rw [if_neg z] at h17
            first
            | (have := ih ?_ ?_
               · rw [if_neg z, Int.add_zero] at this; exact this
               · intro j k h1 h2 h3 h4 h5
                 by_cases q : k = i
                 · rw [q] at h4; exact z h4
                 · exact hg1 j k h1 (by omega) h3 h4 h5
               · intro j k h1 h3 h4 h2 h5
                 by_cases q : j = i
                 · rw [q] at h3; exact z h3
                 · exact hg2 j k (by omega) h3 h4 h2 h5)
            | exact absurd rfl h17
        · refine mm_aload_n dX1_worthOf_20 rfl rfl ?_
          refine mm_getr dX1_worthOf_21 rfl fl_X1_21 (c := 144) rfl (by decide) rfl rfl (hR.at (c := 144) (i := 5) (v := 148) rfl (by decide)) ?_
          refine mm_iload_n dX1_worthOf_24 rfl rfl ?_
          refine mm_ialk (k0 := i) dX1_worthOf_25 rfl (c := 147) rfl (by decide) rfl (by omega) (by omega) ?_
          refine mm_iload_n dX1_worthOf_26 rfl rfl ?_
          rw [hb]
          refine mm_iand dX1_worthOf_27 rfl ?_
          rw [ea]
          refine mm_ifeq dX1_worthOf_28 (by omega) (fun h28 => ?_) (fun h28 => ?_)
          · refine mm_iload_n dX1_worthOf_33 rfl rfl ?_
            refine mm_aload_n dX1_worthOf_34 rfl rfl ?_
            refine mm_getr dX1_worthOf_35 rfl fl_X1_13 (c := 144) rfl (by decide) rfl rfl (hR.at (c := 144) (i := 3) (v := 146) rfl (by decide)) ?_
            refine mm_iload_n dX1_worthOf_38 rfl rfl ?_
            refine mm_aalk (k0 := i) dX1_worthOf_39 rfl (c := 145) rfl (by decide) rfl (by omega) (by omega) ?_
            rw [er]
            refine mm_get (kd := 0) dX1_worthOf_40 rfl fl_X1_50 (c := 148 + 3 * i) rfl wr.1.c0 wr.1.1 rfl ?_
            refine mm_iadd dX1_worthOf_43 rfl ?_
            refine mm_istore_n dX1_worthOf_44 rfl (Nat.le_of_ble_eq_true rfl) rfl ?_
            refine mm_iinc dX1_worthOf_45 rfl rfl (Nat.le_of_ble_eq_true rfl) rfl ?_
            refine mm_goto dX1_worthOf_48 ?_
            by_cases z : set.testBit i = true
            · rw [if_pos z] at h17
              first
              | exact absurd h17 (by decide)
              | (have hz : b &&& set = 0 := by omega
                 have no : ∀ k, set.testBit k = true → b.testBit k = true → False := by
                   intro k k1 k2
                   have : (b &&& set).testBit k = true := by rw [Nat.testBit_and, k1, k2]; rfl
                   rw [hz] at this
                   simp at this
                 have := ih ?_ ?_
                 · rw [if_pos z] at this; exact this
                 · intro j k h1 h2 h3 h4 h5
                   by_cases q : k = i
                   · rw [q] at h1 h5
                     exact no j h3 ((hb3 j).mpr ⟨by omega, Or.inr ⟨h1, h5⟩⟩)
                   · exact hg1 j k h1 (by omega) h3 h4 h5
                 · intro j k h1 h3 h4 h2 h5
                   by_cases q : j = i
                   · rw [q] at h2 h5
                     exact no k h4 ((hb3 k).mpr ⟨by have := hsn k h4; omega, Or.inl ⟨h2, h5⟩⟩)
                   · exact hg2 j k (by omega) h3 h4 h2 h5)
            · rw [if_neg z] at h17
              first
              | (have := ih ?_ ?_
                 · rw [if_neg z, Int.add_zero] at this; exact this
                 · intro j k h1 h2 h3 h4 h5
                   by_cases q : k = i
                   · rw [q] at h4; exact z h4
                   · exact hg1 j k h1 (by omega) h3 h4 h5
                 · intro j k h1 h3 h4 h2 h5
                   by_cases q : j = i
                   · rw [q] at h3; exact z h3
                   · exact hg2 j k (by omega) h3 h4 h2 h5)
              | exact absurd rfl h17
          · refine mm_iconst dX1_worthOf_31 rfl ?_
            refine mm_iret dX1_worthOf_32 rfl rfl ?_
            refine mm_fin (kd_v0 ?_).symm rfl
            intro hgood
            have hne : b &&& set ≠ 0 := by intro z; rw [z] at h28; exact h28 rfl
            obtain ⟨j, hj⟩ := Nat.exists_testBit_of_ne_zero hne
            rw [Nat.testBit_and, Bool.and_eq_true] at hj
            have hi1 : set.testBit i = true := by
              by_cases z : set.testBit i = true
              · exact z
              · rw [if_neg z] at h17; exact absurd rfl h17
            rcases (hb3 j).mp hj.1 with ⟨-, ⟨z1, z2⟩ | ⟨z1, z2⟩⟩
            · exact hgood i j z1 (hsn j hj.2) hi1 hj.2 z2
            · exact hgood j i z1 hlt hj.2 hi1 z2
    · have ei : i = n := by omega
      refine mm_iload_n dX1_worthOf_4 rfl rfl ?_
      refine mm_aload_n dX1_worthOf_5 rfl rfl ?_
      refine mm_get (kd := 0) dX1_worthOf_6 rfl fl_X1_31 (c := 144) rfl (by decide) rfl rfl ?_
      obtain ⟨v6, hv6⟩ : ∃ v, v = M 144 1 := ⟨_, rfl⟩
      rw [← hv6]
      rw [hn] at hv6
      subst hv6
      refine mm_icge dX1_worthOf_9 (by omega) (by omega) (fun h9 => ?_) (fun h9 => ?_)
      · refine mm_iload_n dX1_worthOf_51 rfl rfl ?_
        refine mm_iret dX1_worthOf_52 rfl rfl ?_
        refine mm_fin ?_ rfl
        rw [kd_v1 (fun j k h1 h2 h3 h4 => hg2 j k (by omega) h3 h4 h1), ei]
      · exfalso; omega
  refine mm_iconst dX1_worthOf_0 rfl ?_
  refine mm_istore_n dX1_worthOf_1 rfl (Nat.le_of_ble_eq_true rfl) rfl ?_
  refine mm_iconst dX1_worthOf_2 rfl ?_
  refine mm_istore_n dX1_worthOf_3 rfl (Nat.le_of_ble_eq_true rfl) rfl ?_
  exact loop 0 (Nat.zero_le _) (fun j k _ h => absurd h (Nat.not_lt_zero k)) (fun j k h => absurd h (Nat.not_lt_zero j))
theorem kd_vb {w : Nat → Int} {B : Int} (hB : 0 ≤ B) {n set : Nat} (h : ∀ i, i < n → -B ≤ w i ∧ w i ≤ B) : -(B * n) - 1 ≤ kd_v meet w n set ∧ kd_v meet w n set ≤ B * n := by
  have h1 := kd_sumb (set := set) hB h
  have h2 : 0 ≤ B * n := Int.mul_nonneg hB (by omega)
  by_cases q : kd_good meet n set
  · rw [kd_v1 q]; omega
  · rw [kd_v0 q]; omega
theorem kd_bits {set n : Nat} (h : set < 2 ^ n) (j : Nat) (hj : set.testBit j = true) : j < n := by
  rcases Nat.lt_or_ge j n with q | q
  · exact q
  · have : set.testBit j = false := Nat.testBit_lt_two_pow (Nat.lt_of_lt_of_le h (Nat.pow_le_pow_right (by decide) q))
    rw [this] at hj
    exact absurd hj (by decide)
theorem c_X1_chooseBest (hR : mm_Rf M) (hF : mm_CF M meet) (hn : M 144 1 = (n : Int)) :
    mm_C X Y_X1_chooseBest 243 243 [(2, 145)] M (fun r M' => r = (0, (kd_b (kd_v meet (fun i => M (148 + 3 * i) 3) n) (2 ^ n - 1)).1) ∧ mm_Rf M' ∧ M' = mm_up M 144 2 (kd_b (kd_v meet (fun i => M (148 + 3 * i) 3) n) (2 ^ n - 1)).2) := by
  have hc := hF.1
  have hn8 : n ≤ 8 := by omega
  have hp8 : 2 ^ n ≤ 256 := by
    have : 2 ^ n ≤ 2 ^ 8 := Nat.pow_le_pow_right (by decide) hn8
    omega
  have hp1 : 1 ≤ 2 ^ n := Nat.one_le_two_pow
  have hwb : ∀ i, i < n → -75000000 ≤ M (148 + 3 * i) 3 ∧ M (148 + 3 * i) 3 ≤ 75000000 := fun i hi => (hF.2 i (by omega)).1
  obtain ⟨v, hv⟩ : ∃ v, v = kd_v meet (fun i => M (148 + 3 * i) 3) n := ⟨_, rfl⟩
  have hvb : ∀ s, -600000001 ≤ v s ∧ v s ≤ 600000000 := by
    intro s
    have := kd_vb (meet := meet) (w := fun i => M (148 + 3 * i) 3) (B := 75000000) (by decide) (n := n) (set := s) hwb
    rw [hv]
    omega
  have esh := kx_shl n (by omega)
  rw [← hv]
  refine mm_start (ls := [(2, 145), (9, 0), (9, 0), (9, 0)]) rfl ?_
  have loop : ∀ k : Nat, k ≤ 2 ^ n - 1 → ∀ (N : mm_M) (l3 : mm_V), mm_Rf N → N = mm_up M 144 2 (kd_b v k).2 → mm_J X Y_X1_chooseBest 243 243 243 9 [(2, 145), (0, (kd_b v k).1), (0, ((k + 1 : Nat) : Int)), l3] [] N (fun r M' => r = (0, (kd_b v (2 ^ n - 1)).1) ∧ mm_Rf M' ∧ M' = mm_up M 144 2 (kd_b v (2 ^ n - 1)).2) := by
    refine mm_lp ?_
    intro k hk ih N l3 hRN hN
    have hbb := kd_bb (v := v) (B := 600000000) (by decide) (k := k) (fun i _ => (hvb i).2)
    have fc : N 144 1 = (n : Int) := by rw [hN, mm_up_i (by decide)]; exact hn
    by_cases hlt : k < 2 ^ n - 1
    · have hvk := hvb (k + 1)
      have fr : ∀ a, a ≠ 144 → N a = M a := by intro a ha; rw [hN, mm_up_row ha]
      have hFN : mm_CF N meet := by
        refine ⟨by rw [fc]; omega, fun i hi => ?_⟩
        rw [fc] at hi
        obtain ⟨q1, b, q2, q3, q4⟩ := hF.2 i (by omega)
        rw [fr (148 + 3 * i) (by omega)]
        refine ⟨q1, b, by rw [fr 147 (by decide)]; exact q2, q3, fun j => ?_⟩
        rw [q4 j, fc, hn]
      have cw := c_X1_worthOf (X := X) (M := N) (meet := meet) (n := n) (set := k + 1) hRN hFN (by omega) fc (kd_bits (by omega))
      have ew : kd_v meet (fun i => N (148 + 3 * i) 3) n (k + 1) = v (k + 1) := by
        rw [hv]
        congr 1
        funext i
        rw [fr (148 + 3 * i) (by omega)]
      rw [ew] at cw
      have ih := ih hlt
      rw [kd_b] at ih
      refine mm_iload_n dX1_chooseBest_9 rfl rfl ?_
      refine mm_iconst dX1_chooseBest_10 rfl ?_
      refine mm_aload_n dX1_chooseBest_11 rfl rfl ?_
      refine mm_get (kd := 0) dX1_chooseBest_12 rfl fl_X1_31 (c := 144) rfl (by decide) rfl rfl ?_
      obtain ⟨v12, hv12⟩ : ∃ v, v = N 144 1 := ⟨_, rfl⟩
      rw [← hv12]
      rw [fc] at hv12
      subst hv12
      refine mm_ishl dX1_chooseBest_15 rfl ?_
      rw [esh]
      refine mm_icge dX1_chooseBest_16 (by omega) (by omega) (fun h16 => ?_) (fun h16 => ?_)
      · exfalso; omega
      · refine mm_aload_n dX1_chooseBest_19 rfl rfl ?_
        refine mm_iload_n dX1_chooseBest_20 rfl rfl ?_
        refine mm_V1i dX1_chooseBest_21 rfl lk_X1_46 (c := 144) rfl (by decide) rfl (by simp) rfl rfl rfl (cw) ?_
        refine mm_istore_n dX1_chooseBest_24 rfl (Nat.le_of_ble_eq_true rfl) rfl ?_
        refine mm_iload_n dX1_chooseBest_25 rfl rfl ?_
        refine mm_iload_n dX1_chooseBest_26 rfl rfl ?_
        refine mm_icle dX1_chooseBest_27 (by omega) (by omega) (fun h27 => ?_) (fun h27 => ?_)
        · refine mm_iinc dX1_chooseBest_37 rfl rfl (Nat.le_of_ble_eq_true rfl) rfl ?_
          refine mm_goto dX1_chooseBest_40 ?_
          first
          | (rw [if_pos (by omega)] at ih; exact ih _ _ hRN (by rw [hM34, hN]; funext a b; simp only [mm_up]; split <;> rfl))
          | (rw [if_neg (by omega)] at ih; exact ih _ _ hRN hN)
        · refine mm_iload_n dX1_chooseBest_30 rfl rfl ?_
          refine mm_istore_n dX1_chooseBest_31 rfl (Nat.le_of_ble_eq_true rfl) rfl ?_
          refine mm_aload_n dX1_chooseBest_32 rfl rfl ?_
          refine mm_iload_n dX1_chooseBest_33 rfl rfl ?_
          refine mm_puti dX1_chooseBest_34 rfl fl_X1_35 (c := 144) rfl (by decide) rfl rfl (fun M34 hM34 => ?_)
          have hR34 : mm_Rf M34 := by rw [hM34]; exact hRN.up rfl
          refine mm_iinc dX1_chooseBest_37 rfl rfl (Nat.le_of_ble_eq_true rfl) rfl ?_
          refine mm_goto dX1_chooseBest_40 ?_
          first
          | (rw [if_pos (by omega)] at ih; exact ih _ _ hR34 (by rw [hM34, hN]; funext a b; simp only [mm_up]; split <;> rfl))
          | (rw [if_neg (by omega)] at ih; exact ih _ _ hR34 hN)
    · have ek : k = 2 ^ n - 1 := by omega
      refine mm_iload_n dX1_chooseBest_9 rfl rfl ?_
      refine mm_iconst dX1_chooseBest_10 rfl ?_
      refine mm_aload_n dX1_chooseBest_11 rfl rfl ?_
      refine mm_get (kd := 0) dX1_chooseBest_12 rfl fl_X1_31 (c := 144) rfl (by decide) rfl rfl ?_
      obtain ⟨v12, hv12⟩ : ∃ v, v = N 144 1 := ⟨_, rfl⟩
      rw [← hv12]
      rw [fc] at hv12
      subst hv12
      refine mm_ishl dX1_chooseBest_15 rfl ?_
      rw [esh]
      refine mm_icge dX1_chooseBest_16 (by omega) (by omega) (fun h16 => ?_) (fun h16 => ?_)
      · refine mm_iload_n dX1_chooseBest_43 rfl rfl ?_
        refine mm_iret dX1_chooseBest_44 rfl rfl ?_
        exact ⟨by rw [ek], hRN, by rw [hN, ek]⟩
      · exfalso; omega
  refine mm_iconst dX1_chooseBest_0 rfl ?_
  refine mm_istore_n dX1_chooseBest_1 rfl (Nat.le_of_ble_eq_true rfl) rfl ?_
  refine mm_aload_n dX1_chooseBest_2 rfl rfl ?_
  refine mm_iconst dX1_chooseBest_3 rfl ?_
  refine mm_puti dX1_chooseBest_4 rfl fl_X1_35 (c := 144) rfl (by decide) rfl rfl (fun M4 hM4 => ?_)
  have hR4 : mm_Rf M4 := by rw [hM4]; exact hR.up rfl
  refine mm_iconst dX1_chooseBest_7 rfl ?_
  refine mm_istore_n dX1_chooseBest_8 rfl (Nat.le_of_ble_eq_true rfl) rfl ?_
  exact loop 0 (Nat.zero_le _) _ _ hR4 hM4
theorem c_X11_field (hR : mm_Rf M) (hF : mm_CF M meet) (hn : M 144 1 = (n : Int)) :
    mm_C X Y_X11_field 243 243 [(2, 1)] M (fun r M' => r = (0, (kd_b (kd_v meet (fun i => M (148 + 3 * i) 3) n) (2 ^ n - 1)).1) ∧ mm_Rf M' ∧ M' = mm_up M 144 2 (kd_b (kd_v meet (fun i => M (148 + 3 * i) 3) n) (2 ^ n - 1)).2) := by
  refine mm_start (ls := [(2, 1)]) rfl ?_
  refine mm_aload_n dX11_field_0 rfl rfl ?_
  refine mm_getr dX11_field_1 rfl fl_X11_76 (c := 0) rfl (by decide) rfl rfl (hR.at (c := 0) (i := 9) (v := 145) rfl (by decide)) ?_
  refine mm_V0g (M1 := M) dX11_field_4 rfl lk_X11_336 (c := 144) rfl (by decide) rfl  rfl rfl rfl (c_X1_chooseBest hR hF hn) ?_
  rintro _ N4 ⟨rfl, p4⟩
  change mm_J _ _ _ _ _ _ _ _ _ _
  have hR4 : mm_Rf N4 := p4.1
  refine mm_iret dX11_field_7 rfl rfl ?_
  exact ⟨rfl, p4⟩
end

