/-! ===== fit ===== -/
/-- of the first n the last that is ok, or d -/
def kg_last {α : Type} (ok : Nat → Bool) (v : Nat → α) (d : α) : Nat → α
  | 0 => d
  | n + 1 => if ok n = true then v n else kg_last ok v d n
theorem kg_last_map {α β : Type} {ok : Nat → Bool} {v : Nat → α} {d : α} (f : α → β) : ∀ {n : Nat}, f (kg_last ok v d n) = kg_last ok (fun i => f (v i)) (f d) n
  | 0 => rfl
  | n + 1 => by
    unfold kg_last
    by_cases h : ok n = true
    · rw [if_pos h, if_pos h]
    · rw [if_neg h, if_neg h]; exact kg_last_map f
theorem kg_last_P {α : Type} {ok : Nat → Bool} {v : Nat → α} {d : α} {P : α → Prop} : ∀ {n : Nat}, P d → (∀ i, i < n → P (v i)) → P (kg_last ok v d n)
  | 0, h, _ => h
  | n + 1, h, k => by
    unfold kg_last
    split
    · exact k n (by omega)
    · exact kg_last_P h (fun i hi => k i (by omega))
theorem kg_last_congr {α : Type} {ok ok' : Nat → Bool} {v v' : Nat → α} {d d' : α} (hd : d = d') : ∀ {n : Nat}, (∀ i, i < n → ok i = ok' i ∧ v i = v' i) → kg_last ok v d n = kg_last ok' v' d' n
  | 0, _ => hd
  | n + 1, h => by
    unfold kg_last
    rw [(h n (by omega)).1, (h n (by omega)).2, kg_last_congr hd (fun i hi => h i (by omega))]
/-- which rightings of reading k are known at step t -/
def kg_ok (O A : Nat → Int) (k t : Int) (i : Nat) : Bool := decide (O i = k ∧ A i ≤ t)
/-- a set of shares, as bits -/
def kg_set (P : Nat → Prop) (F : Nat) : Prop := F < 2 ^ 21 ∧ ∀ q, q < 21 → (F.testBit q = true ↔ P q)
theorem kg_set_u {P Q : Nat → Prop} {F G : Nat} (h : kg_set P F) (k : kg_set Q G) (e : ∀ q, q < 21 → (P q ↔ Q q)) : F = G := by
  apply Nat.eq_of_testBit_eq
  intro q
  by_cases hq : q < 21
  · have a := h.2 q hq
    have b := k.2 q hq
    rw [e q hq, ← b] at a
    exact Bool.eq_iff_iff.mpr a
  · rw [Nat.testBit_lt_two_pow (Nat.lt_of_lt_of_le h.1 (Nat.pow_le_pow_right (by decide) (by omega))), Nat.testBit_lt_two_pow (Nat.lt_of_lt_of_le k.1 (Nat.pow_le_pow_right (by decide) (by omega)))]
/-- the readings of the class -/
def mm_CG (M : mm_M) : Prop := (0 ≤ M 174 2 ∧ M 174 2 ≤ 30) ∧ (0 ≤ M 174 3 ∧ M 174 3 ≤ 20) ∧
  (∀ k : Nat, (k : Int) < M 174 2 → (ks_st (M 4) (M 176 k) ∧ ks_ac (M 4) (M 177 k) ∧ ks_hr (M 178 k)) ∧ mm_R (M 175 k) ∧ mm_R (M 179 k) ∧ mm_R (M 180 k)) ∧
  (∀ i : Nat, (i : Int) < M 174 3 → mm_R (M 182 i) ∧ mm_R (M 181 i) ∧ mm_R (M 179 (30 + i)) ∧ mm_R (M 180 (30 + i)))
/-- the pull of reading k with share q -/
def kg_pC (M : mm_M) (k q : Nat) : Int := ks_p (M 4) (M 176 k) (M 177 k) (ks_wi (M 16) (M 4) (M 176 k) (M 178 k) * (q : Int) / 10)
def kg_ix (M : mm_M) (k : Nat) (t : Int) : Nat := kg_last (kg_ok (M 182) (M 181) k t) (fun i => 30 + i) k (M 174 3).toNat
/-- the shares that fit, of the class -/
def kg_fC (M : mm_M) (t : Int) (q : Nat) : Prop := ∀ k : Nat, (k : Int) < M 174 2 → M 175 k ≤ t → M 179 (kg_ix M k t) ≤ kg_pC M k q ∧ kg_pC M k q ≤ M 180 (kg_ix M k t)
theorem ks_pwb {K : Nat → Int} (h : mm_KV K) {s a w q : Int} (ha : ks_ac K a) (hw : 0 ≤ w ∧ w ≤ 60) (hq : 0 ≤ q ∧ q ≤ 20) : 0 ≤ ks_p K s a (w * q / 10) ∧ ks_p K s a (w * q / 10) ≤ 5702400 := by
  have hc := ks_colb h s
  have hsl := ks_slb h ha
  have h0 := h.1
  have hm := mm_mulb (a := w) (b := q) (A := 60) (B := 20) hw.1 hw.2 hq.1 hq.2
  unfold ks_p
  exact ks_pb h ⟨hsl.1, hsl.2.2⟩ (by omega) (by omega)
section
variable {X : mm_X} {M : mm_M} {t : Int} {k sp : Nat}
theorem c_X7_spanOf (hR : mm_Rf M) (hG : mm_CG M) (hk : k < 30) (ht : mm_R t) : mm_Fn X Y_X7_spanOf 243 [(2, 175), (0, (k : Int)), (0, t)] M (0, (kg_ix M k t : Int)) M := by
  have hr := hG.2.1
  refine mm_startF (ls := [(2, 175), (0, (k : Int)), (0, t), (9, 0)]) rfl ?_
  have loop : ∀ i : Nat, i ≤ (M 174 3).toNat → kg_last (kg_ok (M 182) (M 181) k t) (fun i => 30 + i) k i = kg_ix M k t → mm_J X Y_X7_spanOf 243 243 243 7 [(2, 175), (0, (k : Int)), (0, t), (0, (i : Int) - 1)] [] M (fun r' M'' => r' = (0, (kg_ix M k t : Int)) ∧ M'' = M) := by
    intro i
    induction i with
    | zero =>
      intro hi he
      refine mm_iload_n dX7_spanOf_7 rfl rfl ?_
      refine mm_iflt dX7_spanOf_8 (by omega) (fun h8 => ?_) (fun h8 => ?_)
      · refine mm_iload_n dX7_spanOf_42 rfl rfl ?_
        refine mm_iret dX7_spanOf_43 rfl rfl ?_
        exact mm_fin (by rw [← he]; rfl) rfl
      · exfalso; omega
    | succ i ih =>
      intro hi he
      have hq := hG.2.2.2 i (by omega)
      have hq1 := hq.1
      have hq2 := hq.2.1
      rw [kg_last] at he
      rw [show ((i + 1 : Nat) : Int) - 1 = (i : Int) by omega]
      refine mm_iload_n dX7_spanOf_7 rfl rfl ?_
      refine mm_iflt dX7_spanOf_8 (by omega) (fun h8 => ?_) (fun h8 => ?_)
      · exfalso; omega
      · refine mm_aload_n dX7_spanOf_11 rfl rfl ?_
        refine mm_getr dX7_spanOf_12 rfl fl_X7_33 (c := 174) rfl (by decide) rfl rfl (hR.at (c := 174) (i := 12) (v := 183) rfl (by decide)) ?_
        refine mm_iload_n dX7_spanOf_15 rfl rfl ?_
        refine mm_ialk (k0 := i) dX7_spanOf_16 rfl (c := 182) rfl (by decide) rfl (by omega) (by omega) ?_
        refine mm_iload_n dX7_spanOf_17 rfl rfl ?_
        refine mm_icne dX7_spanOf_18 (by omega) (by omega) (fun h18 => ?_) (fun h18 => ?_)
        · refine mm_iinc dX7_spanOf_36 rfl rfl (Nat.le_of_ble_eq_true rfl) rfl ?_
          refine mm_goto dX7_spanOf_39 ?_
          rw [if_neg (by unfold kg_ok; intro z; have := of_decide_eq_true z; omega)] at he
          exact ih (by omega) he
        · refine mm_aload_n dX7_spanOf_21 rfl rfl ?_
          refine mm_getr dX7_spanOf_22 rfl fl_X7_30 (c := 174) rfl (by decide) rfl rfl (hR.at (c := 174) (i := 11) (v := 182) rfl (by decide)) ?_
          refine mm_iload_n dX7_spanOf_25 rfl rfl ?_
          refine mm_ialk (k0 := i) dX7_spanOf_26 rfl (c := 181) rfl (by decide) rfl (by omega) (by omega) ?_
          refine mm_iload_n dX7_spanOf_27 rfl rfl ?_
          refine mm_icgt dX7_spanOf_28 (by omega) (by omega) (fun h28 => ?_) (fun h28 => ?_)
          · refine mm_iinc dX7_spanOf_36 rfl rfl (Nat.le_of_ble_eq_true rfl) rfl ?_
            refine mm_goto dX7_spanOf_39 ?_
            rw [if_neg (by unfold kg_ok; intro z; have := of_decide_eq_true z; omega)] at he
            exact ih (by omega) he
          · refine mm_bipush dX7_spanOf_31 rfl (by decide) ?_
            refine mm_iload_n dX7_spanOf_33 rfl rfl ?_
            refine mm_iadd dX7_spanOf_34 rfl ?_
            refine mm_iret dX7_spanOf_35 rfl rfl ?_
            rw [if_pos (by unfold kg_ok; exact decide_eq_true ⟨h18, by omega⟩)] at he
            exact mm_fin (by rw [← he]; omega) rfl
  refine mm_aload_n dX7_spanOf_0 rfl rfl ?_
  refine mm_get (kd := 0) dX7_spanOf_1 rfl fl_X7_48 (c := 174) rfl (by decide) rfl rfl ?_
  refine mm_iconst dX7_spanOf_4 rfl ?_
  refine mm_isub dX7_spanOf_5 rfl ?_
  refine mm_istore_n dX7_spanOf_6 rfl (Nat.le_of_ble_eq_true rfl) rfl ?_
  have := loop (M 174 3).toNat (Nat.le_refl _) rfl
  rw [Int.toNat_of_nonneg hr.1] at this
  exact this
theorem c_X7_sharesOf (hR : mm_Rf M) (hK : mm_CK M) (hA : mm_CA M) (hG : mm_CG M) (hk : (k : Int) < M 174 2) (hsp : sp < 50) (hlo : mm_R (M 179 sp)) (hhi : mm_R (M 180 sp)) :
    mm_C X Y_X7_sharesOf 243 243 [(2, 175), (0, (k : Int)), (0, (sp : Int))] M (fun r M' => ∃ F : Nat, r = (0, (F : Int)) ∧ mm_Rf M' ∧ M' = M ∧ kg_set (fun q => M 179 sp ≤ kg_pC M k q ∧ kg_pC M k q ≤ M 180 sp) F) := by
  have hc := hG.1
  obtain ⟨⟨g1, g2, g3⟩, -⟩ := hG.2.2.1 k hk
  have hwb := hA.wi hK.1 g1 g3
  refine mm_start (ls := [(2, 175), (0, (k : Int)), (0, (sp : Int)), (9, 0), (9, 0), (9, 0)]) rfl ?_
  have loop : ∀ i : Nat, i ≤ 21 → ∀ (F : Nat) (l5 : mm_V), F < 2 ^ 21 → (∀ q, q < 21 → (F.testBit q = true ↔ q < i ∧ (M 179 sp ≤ kg_pC M k q ∧ kg_pC M k q ≤ M 180 sp))) →
      mm_J X Y_X7_sharesOf 243 243 243 5 [(2, 175), (0, (k : Int)), (0, (sp : Int)), (0, (F : Int)), (0, (i : Int)), l5] [] M (fun r M' => ∃ F : Nat, r = (0, (F : Int)) ∧ mm_Rf M' ∧ M' = M ∧ kg_set (fun q => M 179 sp ≤ kg_pC M k q ∧ kg_pC M k q ≤ M 180 sp) F) := by
    refine mm_lp ?_
    intro i hi ih F l5 hF hb
    by_cases hlt : i < 21
    · have hp := ks_pwb hK.1 (s := M 176 k) (q := (i : Int)) g2 hwb.1 (by omega)
      have ep : ks_p (M 4) (M 176 k) (M 177 k) (ks_wi (M 16) (M 4) (M 176 k) (M 178 k) * (i : Int) / 10) = kg_pC M k i := rfl
      rw [ep] at hp
      have sh := kx_shl i (by omega)
      have pi : 2 ^ i < 2 ^ 21 := Nat.pow_lt_pow_right (by decide) hlt
      have orr := kx_or (a := F) (b := 2 ^ i) (by omega) (by omega)
      refine mm_iload dX7_sharesOf_5 rfl rfl ?_
      refine mm_bipush dX7_sharesOf_7 rfl (by decide) ?_
      refine mm_icgt dX7_sharesOf_9 (by omega) (by omega) (fun h9 => ?_) (fun h9 => ?_)
      · exfalso; omega
      · refine mm_aload_n dX7_sharesOf_12 rfl rfl ?_
        refine mm_getr dX7_sharesOf_13 rfl fl_X7_40 (c := 174) rfl (by decide) rfl rfl (hR.at (c := 174) (i := 1) (v := 12) rfl (by decide)) ?_
        refine mm_aload_n dX7_sharesOf_16 rfl rfl ?_
        refine mm_getr dX7_sharesOf_17 rfl fl_X7_15 (c := 174) rfl (by decide) rfl rfl (hR.at (c := 174) (i := 6) (v := 177) rfl (by decide)) ?_
        refine mm_iload_n dX7_sharesOf_20 rfl rfl ?_
        refine mm_ialk (k0 := k) dX7_sharesOf_21 rfl (c := 176) rfl (by decide) rfl (by omega) (by omega) ?_
        refine mm_aload_n dX7_sharesOf_22 rfl rfl ?_
        refine mm_getr dX7_sharesOf_23 rfl fl_X7_18 (c := 174) rfl (by decide) rfl rfl (hR.at (c := 174) (i := 7) (v := 178) rfl (by decide)) ?_
        refine mm_iload_n dX7_sharesOf_26 rfl rfl ?_
        refine mm_ialk (k0 := k) dX7_sharesOf_27 rfl (c := 177) rfl (by decide) rfl (by omega) (by omega) ?_
        refine mm_aload_n dX7_sharesOf_28 rfl rfl ?_
        refine mm_getr dX7_sharesOf_29 rfl fl_X7_21 (c := 174) rfl (by decide) rfl rfl (hR.at (c := 174) (i := 8) (v := 179) rfl (by decide)) ?_
        refine mm_iload_n dX7_sharesOf_32 rfl rfl ?_
        refine mm_ialk (k0 := k) dX7_sharesOf_33 rfl (c := 178) rfl (by decide) rfl (by omega) (by omega) ?_
        refine mm_iload dX7_sharesOf_34 rfl rfl ?_
        refine mm_V4i dX7_sharesOf_36 rfl lk_X7_62 (c := 11) rfl (by decide) rfl (by simp) (by simp) (by simp) (by simp) rfl rfl rfl ((ep ▸ c_X0_sharedPull hR hK hA g1 g2 g3 (by omega))) ?_
        refine mm_istore dX7_sharesOf_39 rfl (Nat.le_of_ble_eq_true rfl) rfl ?_
        refine mm_iload dX7_sharesOf_41 rfl rfl ?_
        refine mm_aload_n dX7_sharesOf_43 rfl rfl ?_
        refine mm_getr dX7_sharesOf_44 rfl fl_X7_24 (c := 174) rfl (by decide) rfl rfl (hR.at (c := 174) (i := 9) (v := 180) rfl (by decide)) ?_
        refine mm_iload_n dX7_sharesOf_47 rfl rfl ?_
        refine mm_ialk (k0 := sp) dX7_sharesOf_48 rfl (c := 179) rfl (by decide) rfl (by omega) (by omega) ?_
        refine mm_aload_n dX7_sharesOf_49 rfl rfl ?_
        refine mm_getr dX7_sharesOf_50 rfl fl_X7_27 (c := 174) rfl (by decide) rfl rfl (hR.at (c := 174) (i := 10) (v := 181) rfl (by decide)) ?_
        refine mm_iload_n dX7_sharesOf_53 rfl rfl ?_
        refine mm_ialk (k0 := sp) dX7_sharesOf_54 rfl (c := 180) rfl (by decide) rfl (by omega) (by omega) ?_
        refine mm_N3i dX7_sharesOf_55 rfl ln_X7_68 (by simp) (by simp) (by simp) rfl rfl rfl (c_X11_isWithin (by omega) hlo hhi) ?_
        refine mm_ifeqb dX7_sharesOf_58 (fun h58 => ?_) (fun h58 => ?_)
        · refine mm_iinc dX7_sharesOf_68 rfl rfl (Nat.le_of_ble_eq_true rfl) rfl ?_
          refine mm_goto dX7_sharesOf_71 ?_
          first
          | (refine ih hlt (F ||| 2 ^ i) _ (Nat.or_lt_two_pow hF pi) (fun q hq => ?_)
             rw [Nat.testBit_or, Nat.testBit_two_pow, Bool.or_eq_true, hb q hq, decide_eq_true_iff]
             constructor
             · rintro (⟨z1, z2⟩ | z)
               · exact ⟨by omega, z2⟩
               · rw [← z]; exact ⟨by omega, h58⟩
             · rintro ⟨z1, z2⟩
               by_cases y : i = q
               · exact Or.inr y
               · exact Or.inl ⟨by omega, z2⟩)
          | (refine ih hlt F _ hF (fun q hq => ?_)
             rw [hb q hq]
             constructor
             · rintro ⟨z1, z2⟩; exact ⟨by omega, z2⟩
             · rintro ⟨z1, z2⟩
               by_cases y : q = i
               · rw [y] at z2; exact absurd z2 h58
               · exact ⟨by omega, z2⟩)
        · refine mm_iload_n dX7_sharesOf_61 rfl rfl ?_
          refine mm_iconst dX7_sharesOf_62 rfl ?_
          refine mm_iload dX7_sharesOf_63 rfl rfl ?_
          refine mm_ishl dX7_sharesOf_65 rfl ?_
          rw [sh]
          refine mm_ior dX7_sharesOf_66 rfl ?_
          rw [orr]
          refine mm_istore_n dX7_sharesOf_67 rfl (Nat.le_of_ble_eq_true rfl) rfl ?_
          refine mm_iinc dX7_sharesOf_68 rfl rfl (Nat.le_of_ble_eq_true rfl) rfl ?_
          refine mm_goto dX7_sharesOf_71 ?_
          first
          | (refine ih hlt (F ||| 2 ^ i) _ (Nat.or_lt_two_pow hF pi) (fun q hq => ?_)
             rw [Nat.testBit_or, Nat.testBit_two_pow, Bool.or_eq_true, hb q hq, decide_eq_true_iff]
             constructor
             · rintro (⟨z1, z2⟩ | z)
               · exact ⟨by omega, z2⟩
               · rw [← z]; exact ⟨by omega, h58⟩
             · rintro ⟨z1, z2⟩
               by_cases y : i = q
               · exact Or.inr y
               · exact Or.inl ⟨by omega, z2⟩)
          | (refine ih hlt F _ hF (fun q hq => ?_)
             rw [hb q hq]
             constructor
             · rintro ⟨z1, z2⟩; exact ⟨by omega, z2⟩
             · rintro ⟨z1, z2⟩
               by_cases y : q = i
               · rw [y] at z2; exact absurd z2 h58
               · exact ⟨by omega, z2⟩)
    · refine mm_iload dX7_sharesOf_5 rfl rfl ?_
      refine mm_bipush dX7_sharesOf_7 rfl (by decide) ?_
      refine mm_icgt dX7_sharesOf_9 (by omega) (by omega) (fun h9 => ?_) (fun h9 => ?_)
      · refine mm_iload_n dX7_sharesOf_74 rfl rfl ?_
        refine mm_iret dX7_sharesOf_75 rfl rfl ?_
        refine ⟨F, rfl, hR, rfl, hF, fun q hq => ?_⟩
        rw [hb q hq]
        exact ⟨fun z => z.2, fun z => ⟨by omega, z⟩⟩
      · exfalso; omega
  refine mm_iconst dX7_sharesOf_0 rfl ?_
  refine mm_istore_n dX7_sharesOf_1 rfl (Nat.le_of_ble_eq_true rfl) rfl ?_
  refine mm_iconst dX7_sharesOf_2 rfl ?_
  refine mm_istore dX7_sharesOf_3 rfl (Nat.le_of_ble_eq_true rfl) rfl ?_
  exact loop 0 (by decide) 0 _ (by decide) (fun q hq => by simp)
theorem c_X7_fittingShares (hR : mm_Rf M) (hK : mm_CK M) (hA : mm_CA M) (hG : mm_CG M) (ht : mm_R t) :
    mm_C X Y_X7_fittingShares 243 243 [(2, 175), (0, t)] M (fun r M' => ∃ F : Nat, r = (0, (F : Int)) ∧ mm_Rf M' ∧ M' = M ∧ kg_set (kg_fC M t) F) := by
  have hc := hG.1
  have hr := hG.2.1
  refine mm_start (ls := [(2, 175), (0, t), (9, 0), (9, 0)]) rfl ?_
  have loop : ∀ i : Nat, i ≤ (M 174 2).toNat → ∀ F : Nat, F < 2 ^ 21 → (∀ q, q < 21 → (F.testBit q = true ↔ ∀ k : Nat, k < i → M 175 k ≤ t → M 179 (kg_ix M k t) ≤ kg_pC M k q ∧ kg_pC M k q ≤ M 180 (kg_ix M k t))) →
      mm_J X Y_X7_fittingShares 243 243 243 5 [(2, 175), (0, t), (0, (F : Int)), (0, (i : Int))] [] M (fun r M' => ∃ F : Nat, r = (0, (F : Int)) ∧ mm_Rf M' ∧ M' = M ∧ kg_set (kg_fC M t) F) := by
    refine mm_lp ?_
    intro i hi ih F hF hb
    by_cases hlt : i < (M 174 2).toNat
    · obtain ⟨g0, g1, g2, g3⟩ := hG.2.2.1 i (by omega)
      have ix50 : kg_ix M i t < 50 := by unfold kg_ix; exact kg_last_P (P := fun z => z < 50) (by omega) (fun j hj => by omega)
      have ixl : mm_R (M 179 (kg_ix M i t)) := by unfold kg_ix; exact kg_last_P (P := fun z => mm_R (M 179 z)) g2 (fun j hj => (hG.2.2.2 j (by omega)).2.2.1)
      have ixh : mm_R (M 180 (kg_ix M i t)) := by unfold kg_ix; exact kg_last_P (P := fun z => mm_R (M 180 z)) g3 (fun j hj => (hG.2.2.2 j (by omega)).2.2.2)
      by_cases hst : M 175 i ≤ t
      · refine mm_iload_n dX7_fittingShares_5 rfl rfl ?_
        refine mm_aload_n dX7_fittingShares_6 rfl rfl ?_
        refine mm_get (kd := 0) dX7_fittingShares_7 rfl fl_X7_44 (c := 174) rfl (by decide) rfl rfl ?_
        refine mm_icge dX7_fittingShares_10 (by omega) (by omega) (fun h10 => ?_) (fun h10 => ?_)
        · exfalso; omega
        · refine mm_aload_n dX7_fittingShares_13 rfl rfl ?_
          refine mm_getr dX7_fittingShares_14 rfl fl_X7_11 (c := 174) rfl (by decide) rfl rfl (hR.at (c := 174) (i := 5) (v := 176) rfl (by decide)) ?_
          refine mm_iload_n dX7_fittingShares_17 rfl rfl ?_
          refine mm_ialk (k0 := i) dX7_fittingShares_18 rfl (c := 175) rfl (by decide) rfl (by omega) (by omega) ?_
          refine mm_iload_n dX7_fittingShares_19 rfl rfl ?_
          refine mm_icgt dX7_fittingShares_20 (by omega) (by omega) (fun h20 => ?_) (fun h20 => ?_)
          · exfalso; omega
          · refine mm_iload_n dX7_fittingShares_23 rfl rfl ?_
            refine mm_aload_n dX7_fittingShares_24 rfl rfl ?_
            refine mm_iload_n dX7_fittingShares_25 rfl rfl ?_
            refine mm_aload_n dX7_fittingShares_26 rfl rfl ?_
            refine mm_iload_n dX7_fittingShares_27 rfl rfl ?_
            refine mm_iload_n dX7_fittingShares_28 rfl rfl ?_
            refine mm_V2i dX7_fittingShares_29 rfl lk_X7_55 (c := 174) rfl (by decide) rfl (by simp) (by simp) rfl rfl rfl (c_X7_spanOf hR hG (by omega) ht) ?_
            refine mm_V2g (M1 := M) dX7_fittingShares_32 rfl lk_X7_59 (c := 174) rfl (by decide) rfl (by simp) (by simp) rfl rfl rfl (c_X7_sharesOf hR hK hA hG (by omega) ix50 ixl ixh) ?_
            rintro _ N32 ⟨x32, rfl, p32⟩
            change mm_J _ _ _ _ _ _ _ _ _ _
            have hR32 : mm_Rf N32 := p32.1
            obtain ⟨-, eN, hS1, hS2⟩ := p32
            rw [eN]
            refine mm_iand dX7_fittingShares_35 rfl ?_
            rw [kx_and (by omega)]
            refine mm_istore_n dX7_fittingShares_36 rfl (Nat.le_of_ble_eq_true rfl) rfl ?_
            refine mm_iinc dX7_fittingShares_37 rfl rfl (Nat.le_of_ble_eq_true rfl) rfl ?_
            refine mm_goto dX7_fittingShares_40 ?_
            have hand : F &&& x32 ≤ F := Nat.and_le_left
            refine ih hlt (F &&& x32) (by omega) (fun q hq => ?_)
            rw [Nat.testBit_and, Bool.and_eq_true, hb q hq, hS2 q hq]
            constructor
            · rintro ⟨z1, z2⟩ j hj hs
              by_cases y : j = i
              · rw [y]; exact z2
              · exact z1 j (by omega) hs
            · intro z
              exact ⟨fun j hj hs => z j (by omega) hs, z i (by omega) hst⟩
      · refine mm_iload_n dX7_fittingShares_5 rfl rfl ?_
        refine mm_aload_n dX7_fittingShares_6 rfl rfl ?_
        refine mm_get (kd := 0) dX7_fittingShares_7 rfl fl_X7_44 (c := 174) rfl (by decide) rfl rfl ?_
        refine mm_icge dX7_fittingShares_10 (by omega) (by omega) (fun h10 => ?_) (fun h10 => ?_)
        · exfalso; omega
        · refine mm_aload_n dX7_fittingShares_13 rfl rfl ?_
          refine mm_getr dX7_fittingShares_14 rfl fl_X7_11 (c := 174) rfl (by decide) rfl rfl (hR.at (c := 174) (i := 5) (v := 176) rfl (by decide)) ?_
          refine mm_iload_n dX7_fittingShares_17 rfl rfl ?_
          refine mm_ialk (k0 := i) dX7_fittingShares_18 rfl (c := 175) rfl (by decide) rfl (by omega) (by omega) ?_
          refine mm_iload_n dX7_fittingShares_19 rfl rfl ?_
          refine mm_icgt dX7_fittingShares_20 (by omega) (by omega) (fun h20 => ?_) (fun h20 => ?_)
          · refine mm_iinc dX7_fittingShares_37 rfl rfl (Nat.le_of_ble_eq_true rfl) rfl ?_
            refine mm_goto dX7_fittingShares_40 ?_
            refine ih hlt F hF (fun q hq => ?_)
            rw [hb q hq]
            constructor
            · intro z j hj hs
              by_cases y : j = i
              · rw [y] at hs; exact absurd hs hst
              · exact z j (by omega) hs
            · intro z j hj hs
              exact z j (by omega) hs
          · exfalso; omega
    · refine mm_iload_n dX7_fittingShares_5 rfl rfl ?_
      refine mm_aload_n dX7_fittingShares_6 rfl rfl ?_
      refine mm_get (kd := 0) dX7_fittingShares_7 rfl fl_X7_44 (c := 174) rfl (by decide) rfl rfl ?_
      refine mm_icge dX7_fittingShares_10 (by omega) (by omega) (fun h10 => ?_) (fun h10 => ?_)
      · refine mm_iload_n dX7_fittingShares_43 rfl rfl ?_
        refine mm_iret dX7_fittingShares_44 rfl rfl ?_
        refine ⟨F, rfl, hR, rfl, hF, fun q hq => ?_⟩
        rw [hb q hq]
        exact ⟨fun z j hj hs => z j (by omega) hs, fun z j hj hs => z j (by omega) hs⟩
      · exfalso; omega
  refine mm_ldc dX7_fittingShares_0 rfl kc_X7_54 ?_
  refine mm_istore_n dX7_fittingShares_2 rfl (Nat.le_of_ble_eq_true rfl) rfl ?_
  refine mm_iconst dX7_fittingShares_3 rfl ?_
  refine mm_istore_n dX7_fittingShares_4 rfl (Nat.le_of_ble_eq_true rfl) rfl ?_
  refine loop 0 (Nat.zero_le _) (2 ^ 21 - 1) (by decide) (fun q hq => ?_)
  rw [Nat.testBit_two_pow_sub_one]
  simp [hq]
end

