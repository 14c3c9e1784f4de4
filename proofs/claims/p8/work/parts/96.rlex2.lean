/-! ===== words, numbers, faults of the reference ===== -/
theorem mm_Cmono {X : mm_X} {Y : mm_Y} {n0 n1 : Nat} {as : List mm_V} {M : mm_M} {Ψ Ψ' : mm_V → mm_M → Prop} (h : mm_C X Y n0 n1 as M Ψ) (k : ∀ r M', Ψ r M' → Ψ' r M') : mm_C X Y n0 n1 as M Ψ' := by
  intro p l e R s m args below meth c D cA bs ro H locs lsr Cx hP hS hL
  refine mm_mono (h p l e R s m args below meth c D cA bs ro H locs lsr Cx hP hS hL) ?_
  rintro t ⟨o, r, M', L, h1, h2, h3, h4, h5⟩
  exact ⟨o, r, M', L, h1, h2, h3, k r M' h4, h5⟩
/-- a fault of this kind at the token at hand was found: nothing else changed -/
def kt_W (M M' : mm_M) (x : Int) : Prop := (∀ a, a ≠ 183 → M' a = M a) ∧ (∀ b, b ≠ 8 → b ≠ 9 → M' 183 b = M 183 b) ∧ M' 183 8 = x ∧ M' 183 9 = M 183 4
section
variable {X : mm_X} {M : mm_M} {n p s e k0 : Nat} {x y lo hi : Int}
theorem c_X13_is (hR : mm_Rf M) (hT : mm_RT M n) (hk : k0 < 37) (h6 : mm_R (M 183 6)) (hs : M 183 4 = (s : Int)) (he : M 183 5 = (e : Int)) (hse : s ≤ e ∧ e ≤ n) :
    mm_C X Y_X13_is 243 243 [(2, 184), (2, -((k0 + 100 : Nat) : Int))] M (fun r M' => ∃ z : Int, r = (0, z) ∧ mm_Rf M' ∧ M' = M ∧ ((z = 1 ∧ M 183 6 = 1 ∧ kt_m (fun j => M 185 (s + j)) (e - s) (mm_sc.getD k0 mm_sd).2.2.2) ∨ (z = 0 ∧ ¬ (M 183 6 = 1 ∧ kt_m (fun j => M 185 (s + j)) (e - s) (mm_sc.getD k0 mm_sd).2.2.2)))) := by
  obtain ⟨hn, hn8, hb⟩ := id hT
  have hL := ks_LB k0 hk
  have eL : (mm_sc.getD k0 mm_sd).2.2.2.length = ks_L k0 := rfl
  obtain ⟨Φ, hΦ⟩ : ∃ Φ : mm_V → mm_M → Prop, Φ = (fun r M' => ∃ z : Int, r = (0, z) ∧ mm_Rf M' ∧ M' = M ∧ ((z = 1 ∧ M 183 6 = 1 ∧ kt_m (fun j => M 185 (s + j)) (e - s) (mm_sc.getD k0 mm_sd).2.2.2) ∨ (z = 0 ∧ ¬ (M 183 6 = 1 ∧ kt_m (fun j => M 185 (s + j)) (e - s) (mm_sc.getD k0 mm_sd).2.2.2)))) := ⟨_, rfl⟩
  rw [← hΦ]
  refine mm_start (ls := [(2, 184), (2, -((k0 + 100 : Nat) : Int)), (9, 0), (9, 0)]) rfl ?_
  have loop : ∀ i : Nat, i ≤ ks_L k0 → ∀ z : Int, ((z = 1 ∧ M 183 6 = 1 ∧ e - s = ks_L k0 ∧ ∀ j, j < i → M 185 (s + j) = ks_B k0 j) ∨ (z = 0 ∧ ¬ (M 183 6 = 1 ∧ kt_m (fun j => M 185 (s + j)) (e - s) (mm_sc.getD k0 mm_sd).2.2.2))) →
      mm_J X Y_X13_is 243 243 243 32 [(2, 184), (2, -((k0 + 100 : Nat) : Int)), (0, z), (0, (i : Int))] [] M Φ := by
    refine mm_lp ?_
    intro i hi ih z hz
    by_cases hlt : i < ks_L k0 ∧ z = 1
    · obtain ⟨hlt, hz1⟩ := hlt
      rcases hz with ⟨-, z2, z3, z4⟩ | ⟨y, -⟩
      · have hB := ks_BB k0 hk i hlt
        have cA := c_J0_charAt_5068e (X := X) (M := M) (k0 := k0) (j := (i : Int)) hk (by omega) (by omega)
        rw [Int.toNat_natCast] at cA
        have hbi := hb (s + i) (by omega)
        refine mm_iload_n dX13_is_32 rfl rfl ?_
        refine mm_aload_n dX13_is_33 rfl rfl ?_
        refine mm_VS0i dX13_is_34 rfl ls_X13_50 rfl hk  rfl rfl rfl (c_J0_length_8abf5 hk) ?_
        refine mm_icge dX13_is_37 (by omega) (by omega) (fun h37 => ?_) (fun h37 => ?_)
        · exfalso; omega
        · refine mm_iload_n dX13_is_40 rfl rfl ?_
          refine mm_ifeq dX13_is_41 (by omega) (fun h41 => ?_) (fun h41 => ?_)
          · exfalso; omega
          · refine mm_aload_n dX13_is_44 rfl rfl ?_
            refine mm_getr dX13_is_45 rfl fl_X13_26 (c := 183) rfl (by decide) rfl rfl (hR.at (c := 183) (i := 1) (v := 186) rfl (by decide)) ?_
            refine mm_aload_n dX13_is_48 rfl rfl ?_
            refine mm_get (kd := 0) dX13_is_49 rfl fl_X13_13 (c := 183) rfl (by decide) rfl rfl ?_
            obtain ⟨v49, hv49⟩ : ∃ v, v = M 183 4 := ⟨_, rfl⟩
            rw [← hv49]
            rw [hs] at hv49
            subst hv49
            refine mm_iload_n dX13_is_52 rfl rfl ?_
            refine mm_iadd dX13_is_53 rfl ?_
            refine mm_balk (k0 := (s + i)) dX13_is_54 rfl (c := 185) rfl (by decide) rfl (by omega) (by omega) ?_
            refine mm_aload_n dX13_is_55 rfl rfl ?_
            refine mm_iload_n dX13_is_56 rfl rfl ?_
            refine mm_VS1i dX13_is_57 rfl ls_X13_55 rfl hk (by simp) rfl rfl rfl (cA) ?_
            refine mm_icne_z (q2 := 68) dX13_is_60 (by omega) (by omega) (fun k => mm_iconst dX13_is_67 rfl k) (fun k => mm_iconst dX13_is_63 rfl (mm_goto dX13_is_64 k)) ?_
            refine mm_istore_n dX13_is_68 rfl (Nat.le_of_ble_eq_true rfl) rfl ?_
            refine mm_iinc dX13_is_69 rfl rfl (Nat.le_of_ble_eq_true rfl) rfl ?_
            refine mm_goto dX13_is_72 ?_
            refine ih hlt _ ?_
            by_cases q : M 185 (s + i) = ks_B k0 i
            · left
              refine ⟨mm_b_t q, z2, z3, fun j hj => ?_⟩
              by_cases w : j = i
              · rw [w]; exact q
              · exact z4 j (by omega)
            · right
              exact ⟨mm_b_f q, fun w => q (w.2.2 i hlt)⟩
      · omega
    · rw [hΦ]
      refine mm_iload_n dX13_is_32 rfl rfl ?_
      refine mm_aload_n dX13_is_33 rfl rfl ?_
      refine mm_VS0i dX13_is_34 rfl ls_X13_50 rfl hk  rfl rfl rfl (c_J0_length_8abf5 hk) ?_
      refine mm_icge dX13_is_37 (by omega) (by omega) (fun h37 => ?_) (fun h37 => ?_)
      · refine mm_iload_n dX13_is_75 rfl rfl ?_
        refine mm_zret dX13_is_76 rfl rfl (by omega) ?_
        refine ⟨z, rfl, hR, rfl, ?_⟩
        rcases hz with ⟨z1, z2, z3, z4⟩ | ⟨z1, z2⟩
        · exact Or.inl ⟨z1, z2, z3, fun j hj => z4 j (by omega)⟩
        · exact Or.inr ⟨z1, z2⟩
      · refine mm_iload_n dX13_is_40 rfl rfl ?_
        refine mm_ifeq dX13_is_41 (by omega) (fun h41 => ?_) (fun h41 => ?_)
        · refine mm_iload_n dX13_is_75 rfl rfl ?_
          refine mm_zret dX13_is_76 rfl rfl (by omega) ?_
          refine ⟨z, rfl, hR, rfl, ?_⟩
          rcases hz with ⟨z1, z2, z3, z4⟩ | ⟨z1, z2⟩
          · exact Or.inl ⟨z1, z2, z3, fun j hj => z4 j (by omega)⟩
          · exact Or.inr ⟨z1, z2⟩
        · exfalso; omega
  refine mm_aload_n dX13_is_0 rfl rfl ?_
  refine mm_get (kd := 0) dX13_is_1 rfl fl_X13_37 (c := 183) rfl (by decide) rfl rfl ?_
  refine mm_iconst dX13_is_4 rfl ?_
  refine mm_icne dX13_is_5 (by omega) (by omega) (fun h5 => ?_) (fun h5 => ?_)
  · refine mm_iconst dX13_is_28 rfl ?_
    refine mm_istore_n dX13_is_29 rfl (Nat.le_of_ble_eq_true rfl) rfl ?_
    refine mm_iconst dX13_is_30 rfl ?_
    refine mm_istore_n dX13_is_31 rfl (Nat.le_of_ble_eq_true rfl) rfl ?_
    refine loop 0 (Nat.zero_le _) _ ?_
    first
    | exact Or.inl ⟨rfl, h5, by omega, fun j hj => absurd hj (Nat.not_lt_zero j)⟩
    | exact Or.inr ⟨rfl, fun w => h21 (by have := w.2.1; omega)⟩
    | exact Or.inr ⟨rfl, fun w => h5 w.1⟩
  · refine mm_aload_n dX13_is_8 rfl rfl ?_
    refine mm_get (kd := 0) dX13_is_9 rfl fl_X13_30 (c := 183) rfl (by decide) rfl rfl ?_
    obtain ⟨v9, hv9⟩ : ∃ v, v = M 183 5 := ⟨_, rfl⟩
    rw [← hv9]
    rw [he] at hv9
    subst hv9
    refine mm_aload_n dX13_is_12 rfl rfl ?_
    refine mm_get (kd := 0) dX13_is_13 rfl fl_X13_13 (c := 183) rfl (by decide) rfl rfl ?_
    obtain ⟨v13, hv13⟩ : ∃ v, v = M 183 4 := ⟨_, rfl⟩
    rw [← hv13]
    rw [hs] at hv13
    subst hv13
    refine mm_isub dX13_is_16 rfl ?_
    refine mm_aload_n dX13_is_17 rfl rfl ?_
    refine mm_VS0i dX13_is_18 rfl ls_X13_50 rfl hk  rfl rfl rfl (c_J0_length_8abf5 hk) ?_
    refine mm_icne dX13_is_21 (by omega) (by omega) (fun h21 => ?_) (fun h21 => ?_)
    · refine mm_iconst dX13_is_28 rfl ?_
      refine mm_istore_n dX13_is_29 rfl (Nat.le_of_ble_eq_true rfl) rfl ?_
      refine mm_iconst dX13_is_30 rfl ?_
      refine mm_istore_n dX13_is_31 rfl (Nat.le_of_ble_eq_true rfl) rfl ?_
      refine loop 0 (Nat.zero_le _) _ ?_
      first
      | exact Or.inl ⟨rfl, h5, by omega, fun j hj => absurd hj (Nat.not_lt_zero j)⟩
      | exact Or.inr ⟨rfl, fun w => h21 (by have := w.2.1; omega)⟩
      | exact Or.inr ⟨rfl, fun w => h5 w.1⟩
    · refine mm_iconst dX13_is_24 rfl ?_
      refine mm_goto dX13_is_25 ?_
      refine mm_istore_n dX13_is_29 rfl (Nat.le_of_ble_eq_true rfl) rfl ?_
      refine mm_iconst dX13_is_30 rfl ?_
      refine mm_istore_n dX13_is_31 rfl (Nat.le_of_ble_eq_true rfl) rfl ?_
      refine loop 0 (Nat.zero_le _) _ ?_
      first
      | exact Or.inl ⟨rfl, h5, by omega, fun j hj => absurd hj (Nat.not_lt_zero j)⟩
      | exact Or.inr ⟨rfl, fun w => h21 (by have := w.2.1; omega)⟩
      | exact Or.inr ⟨rfl, fun w => h5 w.1⟩
theorem c_X13_wrong (hR : mm_Rf M) : mm_Fn X Y_X13_wrong 243 [(2, 184), (0, x)] M (2, 185) (mm_up (mm_up M 183 8 x) 183 9 (M 183 4)) := by
  refine mm_startF (ls := [(2, 184), (0, x)]) rfl ?_
  refine mm_aload_n dX13_wrong_0 rfl rfl ?_
  refine mm_iload_n dX13_wrong_1 rfl rfl ?_
  refine mm_puti dX13_wrong_2 rfl fl_X13_9 (c := 183) rfl (by decide) rfl rfl (fun M2 hM2 => ?_)
  have hR2 : mm_Rf M2 := by rw [hM2]; exact hR.up rfl
  refine mm_aload_n dX13_wrong_5 rfl rfl ?_
  refine mm_aload_n dX13_wrong_6 rfl rfl ?_
  refine mm_get (kd := 0) dX13_wrong_7 rfl fl_X13_13 (c := 183) rfl (by decide) rfl rfl ?_
  obtain ⟨v7, hv7⟩ : ∃ v, v = M2 183 4 := ⟨_, rfl⟩
  rw [← hv7]
  rw [hM2, mm_up_i (by decide)] at hv7
  subst hv7
  refine mm_puti dX13_wrong_10 rfl fl_X13_16 (c := 183) rfl (by decide) rfl rfl (fun M10 hM10 => ?_)
  have hR10 : mm_Rf M10 := by rw [hM10]; exact hR2.up rfl
  refine mm_aload_n dX13_wrong_13 rfl rfl ?_
  refine mm_getr dX13_wrong_14 rfl fl_X13_19 (c := 183) rfl (by decide) rfl rfl (hR10.at (c := 183) (i := 0) (v := 185) rfl (by decide)) ?_
  refine mm_aret dX13_wrong_17 rfl rfl (Or.inl ⟨_, rfl⟩) ?_
  exact mm_fin rfl (by rw [hM10, hM2])
theorem c_X13_need1 : mm_Fn X Y_X13_need 243 [(2, 184), (0, 1), (0, x)] M (3, 0) M := by
  refine mm_startF (ls := [(2, 184), (0, 1), (0, x)]) rfl ?_
  refine mm_iload_n dX13_need_0 rfl rfl ?_
  refine mm_ifne dX13_need_1 (by omega) (fun _ => ?_) (fun h => absurd h (by decide))
  refine mm_vret dX13_need_10 rfl rfl ?_
  exact mm_fin rfl rfl
theorem c_X13_need0 (hR : mm_Rf M) : mm_C X Y_X13_need 243 243 [(2, 184), (0, 0), (0, x)] M (fun r M' => r = (4, 185) ∧ mm_Rf M' ∧ kt_W M M' x) := by
  obtain ⟨N, hN⟩ : ∃ N, N = mm_up (mm_up M 183 8 x) 183 9 (M 183 4) := ⟨_, rfl⟩
  have hRN : mm_Rf N := by rw [hN]; exact (hR.up rfl).up rfl
  refine mm_start (ls := [(2, 184), (0, 0), (0, x)]) rfl ?_
  refine mm_iload_n dX13_need_0 rfl rfl ?_
  refine mm_ifne dX13_need_1 (by omega) (fun h => absurd h (by decide)) (fun _ => ?_)
  refine mm_aload_n dX13_need_4 rfl rfl ?_
  refine mm_iload_n dX13_need_5 rfl rfl ?_
  refine mm_V1a dX13_need_6 rfl lk_X13_59 (c := 183) rfl (by decide) rfl (by simp) rfl rfl rfl ((hN ▸ c_X13_wrong (x := x) hR)) ?_
  refine mm_athrow dX13_need_9 rfl rfl (by decide) ?_
  refine ⟨rfl, hRN, ?_, ?_, ?_, ?_⟩
  · intro a ha; rw [hN, mm_up_row ha, mm_up_row ha]
  · intro b b1 b2; rw [hN, mm_up_i b2, mm_up_i b1]
  · rw [hN, mm_up_i (by decide), mm_up_s]
  · rw [hN, mm_up_s]
/-- need: nothing, or the fault is thrown -/
theorem c_X13_need {P : Prop} [Decidable P] (hR : mm_Rf M) : mm_C X Y_X13_need 243 243 [(2, 184), (0, mm_b P), (0, x)] M (fun r M' => (r = (4, 185) ∧ mm_Rf M' ∧ ¬ P ∧ kt_W M M' x) ∨ (r = (3, 0) ∧ mm_Rf M' ∧ P ∧ M' = M)) := by
  by_cases h : P
  · rw [mm_b_t h]
    refine mm_Cmono (c_X13_need1 (M := M)) ?_
    rintro r M' ⟨rfl, rfl⟩
    exact Or.inr ⟨rfl, hR, h, rfl⟩
  · rw [mm_b_f h]
    refine mm_Cmono (c_X13_need0 hR) ?_
    rintro r M' ⟨rfl, h1, h2⟩
    exact Or.inl ⟨rfl, h1, h, h2⟩
/-- a number within bounds at hand, or the fault is thrown -/
theorem c_X13_look (hR : mm_Rf M) (h6 : mm_R (M 183 6)) (h7 : M 183 6 = 2 → mm_R (M 183 7)) (hlo : mm_R lo) (hhi : mm_R hi) :
    mm_C X Y_X13_look 243 243 [(2, 184), (0, lo), (0, hi)] M (fun r M' => (r = (4, 185) ∧ mm_Rf M' ∧ ¬ (M 183 6 = 2 ∧ lo ≤ M 183 7 ∧ M 183 7 ≤ hi) ∧ kt_W M M' (if M 183 6 = 2 then 2 else 1)) ∨ (∃ x, r = (0, x) ∧ mm_Rf M' ∧ (M 183 6 = 2 ∧ lo ≤ M 183 7 ∧ M 183 7 ≤ hi) ∧ x = M 183 7 ∧ M' = M)) := by
  refine mm_start (ls := [(2, 184), (0, lo), (0, hi)]) rfl ?_
  refine mm_aload_n dX13_look_0 rfl rfl ?_
  refine mm_aload_n dX13_look_1 rfl rfl ?_
  refine mm_get (kd := 0) dX13_look_2 rfl fl_X13_37 (c := 183) rfl (by decide) rfl rfl ?_
  refine mm_iconst dX13_look_5 rfl ?_
  refine mm_icne_z (q2 := 14) dX13_look_6 (by omega) (by omega) (fun k => mm_iconst dX13_look_13 rfl k) (fun k => mm_iconst dX13_look_9 rfl (mm_goto dX13_look_10 k)) ?_
  refine mm_iconst dX13_look_14 rfl ?_
  refine mm_V2g (M1 := M) dX13_look_15 rfl lk_X13_63 (c := 183) rfl (by decide) rfl (by simp) (by simp) rfl rfl rfl (c_X13_need (P := M 183 6 = 2) (x := 1) hR) ?_
  rintro _ N15 (⟨rfl, p15⟩ | ⟨rfl, p15⟩)
  · refine ⟨rfl, rfl, ?_⟩
    exact Or.inl ⟨rfl, p15.1, fun q => p15.2.1 q.1, by rw [if_neg p15.2.1]; exact p15.2.2⟩
  change mm_J _ _ _ _ _ _ _ _ _ _
  have hR15 : mm_Rf N15 := p15.1
  obtain ⟨-, hh, eN⟩ := p15
  rw [eN]
  have hv := h7 hh
  refine mm_aload_n dX13_look_18 rfl rfl ?_
  refine mm_aload_n dX13_look_19 rfl rfl ?_
  refine mm_get (kd := 0) dX13_look_20 rfl fl_X13_47 (c := 183) rfl (by decide) rfl rfl ?_
  refine mm_i2l dX13_look_23 rfl (by omega) ?_
  refine mm_iload_n dX13_look_24 rfl rfl ?_
  refine mm_i2l dX13_look_25 rfl (by omega) ?_
  refine mm_iload_n dX13_look_26 rfl rfl ?_
  refine mm_i2l dX13_look_27 rfl (by omega) ?_
  refine mm_S3i dX13_look_28 rfl lk_X13_5 (by simp) (by simp) (by simp) rfl rfl rfl (c_X13_in (by omega) (by omega) (by omega)) ?_
  refine mm_iconst dX13_look_31 rfl ?_
  refine mm_V2g (M1 := M) dX13_look_32 rfl lk_X13_63 (c := 183) rfl (by decide) rfl (by simp) (by simp) rfl rfl rfl (c_X13_need (P := lo ≤ M 183 7 ∧ M 183 7 ≤ hi) (x := 2) hR) ?_
  rintro _ N32 (⟨rfl, p32⟩ | ⟨rfl, p32⟩)
  · refine ⟨rfl, rfl, ?_⟩
    exact Or.inl ⟨rfl, p32.1, fun q => p32.2.1 q.2, by rw [if_pos hh]; exact p32.2.2⟩
  change mm_J _ _ _ _ _ _ _ _ _ _
  have hR32 : mm_Rf N32 := p32.1
  obtain ⟨-, hh2, eN2⟩ := p32
  rw [eN2]
  refine mm_aload_n dX13_look_35 rfl rfl ?_
  refine mm_get (kd := 0) dX13_look_36 rfl fl_X13_47 (c := 183) rfl (by decide) rfl rfl ?_
  refine mm_iret dX13_look_39 rfl rfl ?_
  exact Or.inr ⟨_, rfl, hR, ⟨hh, hh2⟩, rfl, rfl⟩
/-- the tape that is read, the token at hand: as they were, behind p -/
theorem mm_RT.sc {M N : mm_M} (h : mm_RT M n) (q : kt_R M N n p) : mm_RT N n := ⟨(q.2.1 3 (by omega)).trans h.1, h.2.1, by rw [q.1 185 (by decide)]; exact h.2.2⟩
theorem kt_R.h {M N : mm_M} (q : kt_R M N n p) : kt_H N n p := by
  unfold kt_H
  rw [q.1 185 (by decide)]
  exact q.2.2
theorem kt_H.b {M : mm_M} (h : kt_H M n p) : mm_R (M 183 6) ∧ (M 183 6 = 2 → mm_R (M 183 7)) := by
  have a := kt_kb (B := M 185) (n := n) (p := p)
  have b := kt_vb (B := M 185) (n := n) (p := p)
  refine ⟨by rw [h.1]; omega, fun z => ?_⟩
  rw [h.2.2.2 (by rw [← h.1]; exact z)]
  omega
/-- a number, and the token behind it -/
theorem c_X13_number (hR : mm_Rf M) (hT : mm_RT M n) (hp : p ≤ n) (hH : kt_H M n p) (hlo : mm_R lo) (hhi : mm_R hi) :
    mm_C X Y_X13_number 243 243 [(2, 184), (0, lo), (0, hi)] M (fun r M' => (r = (4, 185) ∧ mm_Rf M' ∧ ¬ (M 183 6 = 2 ∧ lo ≤ M 183 7 ∧ M 183 7 ≤ hi) ∧ kt_W M M' (if M 183 6 = 2 then 2 else 1)) ∨ (∃ x, r = (0, x) ∧ mm_Rf M' ∧ (M 183 6 = 2 ∧ lo ≤ M 183 7 ∧ M 183 7 ≤ hi) ∧ x = M 183 7 ∧ mm_rg M M' ∧ kt_R M M' n (kt_e (M 185) n p))) := by
  have heb := kt_eb (B := M 185) hp
  refine mm_start (ls := [(2, 184), (0, lo), (0, hi), (9, 0)]) rfl ?_
  refine mm_aload_n dX13_number_0 rfl rfl ?_
  refine mm_iload_n dX13_number_1 rfl rfl ?_
  refine mm_iload_n dX13_number_2 rfl rfl ?_
  refine mm_V2g (M1 := M) dX13_number_3 rfl lk_X13_67 (c := 183) rfl (by decide) rfl (by simp) (by simp) rfl rfl rfl (c_X13_look hR hH.b.1 hH.b.2 hlo hhi) ?_
  rintro _ N3 (⟨rfl, p3⟩ | ⟨x3, rfl, p3⟩)
  · refine ⟨rfl, rfl, ?_⟩
    exact Or.inl ⟨rfl, p3⟩
  change mm_J _ _ _ _ _ _ _ _ _ _
  have hR3 : mm_Rf N3 := p3.1
  obtain ⟨-, hh, hx, eN⟩ := p3
  rw [eN]
  refine mm_istore_n dX13_number_6 rfl (Nat.le_of_ble_eq_true rfl) rfl ?_
  refine mm_aload_n dX13_number_7 rfl rfl ?_
  refine mm_V0g (M1 := M) dX13_number_8 rfl lk_X13_71 (c := 183) rfl (by decide) rfl  rfl rfl rfl (c_X13_scan (p := kt_e (M 185) n p) hR hT heb.2 hH.2.2.1) ?_
  rintro _ N8 ⟨rfl, p8⟩
  change mm_J _ _ _ _ _ _ _ _ _ _
  have hR8 : mm_Rf N8 := p8.1
  refine mm_iload_n dX13_number_11 rfl rfl ?_
  refine mm_iret dX13_number_12 rfl rfl ?_
  exact Or.inr ⟨_, rfl, p8.1, hh, hx, p8.2⟩
/-- a semicolon, and the token behind it -/
theorem c_X13_close (hR : mm_Rf M) (hT : mm_RT M n) (hp : p ≤ n) (hH : kt_H M n p) :
    mm_C X Y_X13_close 243 243 [(2, 184)] M (fun r M' => (r = (4, 185) ∧ mm_Rf M' ∧ ¬ M 183 6 = 3 ∧ kt_W M M' 1) ∨ (r = (3, 0) ∧ mm_Rf M' ∧ M 183 6 = 3 ∧ mm_rg M M' ∧ kt_R M M' n (kt_e (M 185) n p))) := by
  have heb := kt_eb (B := M 185) hp
  have hb1 := hH.b.1
  refine mm_start (ls := [(2, 184)]) rfl ?_
  refine mm_aload_n dX13_close_0 rfl rfl ?_
  refine mm_aload_n dX13_close_1 rfl rfl ?_
  refine mm_get (kd := 0) dX13_close_2 rfl fl_X13_37 (c := 183) rfl (by decide) rfl rfl ?_
  refine mm_iconst dX13_close_5 rfl ?_
  refine mm_icne_z (q2 := 14) dX13_close_6 (by omega) (by omega) (fun k => mm_iconst dX13_close_13 rfl k) (fun k => mm_iconst dX13_close_9 rfl (mm_goto dX13_close_10 k)) ?_
  refine mm_iconst dX13_close_14 rfl ?_
  refine mm_V2g (M1 := M) dX13_close_15 rfl lk_X13_63 (c := 183) rfl (by decide) rfl (by simp) (by simp) rfl rfl rfl (c_X13_need (P := M 183 6 = 3) (x := 1) hR) ?_
  rintro _ N15 (⟨rfl, p15⟩ | ⟨rfl, p15⟩)
  · refine ⟨rfl, rfl, ?_⟩
    exact Or.inl ⟨rfl, p15⟩
  change mm_J _ _ _ _ _ _ _ _ _ _
  have hR15 : mm_Rf N15 := p15.1
  obtain ⟨-, hh, eN⟩ := p15
  rw [eN]
  refine mm_aload_n dX13_close_18 rfl rfl ?_
  refine mm_V0g (M1 := M) dX13_close_19 rfl lk_X13_71 (c := 183) rfl (by decide) rfl  rfl rfl rfl (c_X13_scan (p := kt_e (M 185) n p) hR hT heb.2 hH.2.2.1) ?_
  rintro _ N19 ⟨rfl, p19⟩
  change mm_J _ _ _ _ _ _ _ _ _ _
  have hR19 : mm_Rf N19 := p19.1
  refine mm_vret dX13_close_22 rfl rfl ?_
  exact Or.inr ⟨rfl, p19.1, hh, p19.2⟩
/-- the text is the tape, which is empty then; the first token is at hand -/
theorem c_X13_begin (hR : mm_Rf M) (hn : M 183 2 = (n : Int) ∧ n ≤ 800) (hb : ∀ k : Nat, k < 800 → -128 ≤ M 185 k ∧ M 185 k ≤ 127) :
    mm_C X Y_X13_begin 243 243 [(2, 184)] M (fun r M' => r = (3, 0) ∧ mm_Rf M' ∧ mm_rg M M' ∧ mm_RT M' n ∧ kt_H M' n 0 ∧ (∀ a, a ≠ 183 → M' a = M a) ∧ (∀ b, ¬ (2 ≤ b ∧ b ≤ 9) → M' 183 b = M 183 b) ∧ M' 183 2 = 0 ∧ M' 183 8 = 0 ∧ M' 183 9 = -1) := by
  have hG0 := mm_rg.rf M
  have hn1 := hn.1
  refine mm_start (ls := [(2, 184)]) rfl ?_
  refine mm_aload_n dX13_begin_0 rfl rfl ?_
  refine mm_aload_n dX13_begin_1 rfl rfl ?_
  refine mm_get (kd := 0) dX13_begin_2 rfl fl_X13_75 (c := 183) rfl (by decide) rfl rfl ?_
  obtain ⟨v2, hv2⟩ : ∃ v, v = M 183 2 := ⟨_, rfl⟩
  rw [← hv2]
  rw [hn1] at hv2
  subst hv2
  refine mm_puti dX13_begin_5 rfl fl_X13_23 (c := 183) rfl (by decide) rfl rfl (fun M5 hM5 => ?_)
  have hR5 : mm_Rf M5 := by rw [hM5]; exact hR.up rfl
  have hG5 : mm_rg M M5 := by rw [hM5]; exact hG0.up (by decide)
  refine mm_aload_n dX13_begin_8 rfl rfl ?_
  refine mm_iconst dX13_begin_9 rfl ?_
  refine mm_puti dX13_begin_10 rfl fl_X13_75 (c := 183) rfl (by decide) rfl rfl (fun M10 hM10 => ?_)
  have hR10 : mm_Rf M10 := by rw [hM10]; exact hR5.up rfl
  have hG10 : mm_rg M M10 := by rw [hM10]; exact hG5.up (by decide)
  refine mm_aload_n dX13_begin_13 rfl rfl ?_
  refine mm_iconst dX13_begin_14 rfl ?_
  refine mm_puti dX13_begin_15 rfl fl_X13_30 (c := 183) rfl (by decide) rfl rfl (fun M15 hM15 => ?_)
  have hR15 : mm_Rf M15 := by rw [hM15]; exact hR10.up rfl
  have hG15 : mm_rg M M15 := by rw [hM15]; exact hG10.up (by decide)
  refine mm_aload_n dX13_begin_18 rfl rfl ?_
  refine mm_iconst dX13_begin_19 rfl ?_
  refine mm_puti dX13_begin_20 rfl fl_X13_9 (c := 183) rfl (by decide) rfl rfl (fun M20 hM20 => ?_)
  have hR20 : mm_Rf M20 := by rw [hM20]; exact hR15.up rfl
  have hG20 : mm_rg M M20 := by rw [hM20]; exact hG15.up (by decide)
  refine mm_aload_n dX13_begin_23 rfl rfl ?_
  refine mm_iconst dX13_begin_24 rfl ?_
  refine mm_puti dX13_begin_25 rfl fl_X13_16 (c := 183) rfl (by decide) rfl rfl (fun M25 hM25 => ?_)
  have hR25 : mm_Rf M25 := by rw [hM25]; exact hR20.up rfl
  have hG25 : mm_rg M M25 := by rw [hM25]; exact hG20.up (by decide)
  refine mm_aload_n dX13_begin_28 rfl rfl ?_
  have u : ∀ a, a ≠ 183 → M25 a = M a := by intro a ha; funext b; simp [hM25, hM20, hM15, hM10, hM5, mm_up, ha]
  have u2 : ∀ b, ¬ (2 ≤ b ∧ b ≤ 9) → M25 183 b = M 183 b := by
    intro b hb9
    have n1 : b ≠ 2 := by omega
    have n2 : b ≠ 3 := by omega
    have n3 : b ≠ 5 := by omega
    have n4 : b ≠ 8 := by omega
    have n5 : b ≠ 9 := by omega
    simp [hM25, hM20, hM15, hM10, hM5, mm_up, n1, n2, n3, n4, n5]
  have hT1 : mm_RT M25 n := ⟨by simp [hM25, hM20, hM15, hM10, hM5, mm_up], hn.2, by rw [u 185 (by decide)]; exact hb⟩
  refine mm_V0g (M1 := M25) dX13_begin_29 rfl lk_X13_71 (c := 183) rfl (by decide) rfl  rfl rfl rfl (c_X13_scan (p := 0) hR25 hT1 (Nat.zero_le _) (by simp [hM25, hM20, hM15, hM10, hM5, mm_up])) ?_
  rintro _ N29 ⟨rfl, p29⟩
  change mm_J _ _ _ _ _ _ _ _ _ _
  have hR29 : mm_Rf N29 := p29.1
  have hG29 : mm_rg M N29 := hG25.tr p29.2.1
  refine mm_vret dX13_begin_32 rfl rfl ?_
  refine ⟨rfl, hR29, hG29, hT1.sc p29.2.2, p29.2.2.h, ?_, ?_, ?_, ?_, ?_⟩
  · intro a ha; rw [p29.2.2.1 a ha]; exact u a ha
  · intro b hb9; rw [p29.2.2.2.1 b (by omega)]; exact u2 b hb9
  · rw [p29.2.2.2.1 2 (by omega)]; simp [hM25, hM20, hM15, hM10, hM5, mm_up]
  · rw [p29.2.2.2.1 8 (by omega)]; simp [hM25, hM20, hM15, hM10, hM5, mm_up]
  · rw [p29.2.2.2.1 9 (by omega)]; simp [hM25, hM20, hM15, hM10, hM5, mm_up]
end

