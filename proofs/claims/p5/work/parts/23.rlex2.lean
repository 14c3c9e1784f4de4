/-! 96.rlex2 -/
section
/-! ===== words, numbers, faults of the reference ===== -/
theorem mm_Cmono {X : mm_X} {Y : mm_Y} {n0 n1 : Nat} {as : List mm_V} {M : mm_M} {Ψ Ψ' : mm_V → mm_M → Prop} (h : mm_C X Y n0 n1 as M Ψ) (k : ∀ r M', Ψ r M' → Ψ' r M') : mm_C X Y n0 n1 as M Ψ' := by
  intro p l e R s m args below meth c D cA bs ro H locs lsr Cx hP hS hL
  refine mm_mono (h p l e R s m args below meth c D cA bs ro H locs lsr Cx hP hS hL) ?_
  rintro t ⟨o, r, M', L, h1, h2, h3, h4, h5⟩
  exact ⟨o, r, M', L, h1, h2, h3, k r M' h4, h5⟩
/-- a fault of this kind at the token at hand was found: nothing else changed -/
def kt_W (M M' : mm_M) (x : Int) : Prop := (∀ a, a ≠ 183 → M' a = M a) ∧ (∀ b, b ≠ 8 → b ≠ 9 → M' 183 b = M 183 b) ∧ M' 183 8 = x ∧ M' 183 9 = M 183 4
section
variable {X : mm_X} {M : mm_M} {n p s e k0 : Nat} {x y lo hi : Int}
theorem c_X13_is (hR : mm_Rf M) (hT : mm_RT M n) (hk : k0 < 37) (h6 : mm_R (M 183 6)) (hs : M 183 4 = (s : Int)) (he : M 183 5 = (e : Int)) (hse : s ≤ e ∧ e ≤ n) :
    mm_C X Y_X13_is 243 243 [(2, 184), (2, -((k0 + 100 : Nat) : Int))] M (fun r M' => ∃ z : Int, r = (0, z) ∧ mm_Rf M' ∧ M' = M ∧ ((z = 1 ∧ M 183 6 = 1 ∧ kt_m (fun j => M 185 (s + j)) (e - s) (mm_sc.getD k0 mm_sd).2.2.2) ∨ (z = 0 ∧ ¬ (M 183 6 = 1 ∧ kt_m (fun j => M 185 (s + j)) (e - s) (mm_sc.getD k0 mm_sd).2.2.2)))) := by
  obtain ⟨hn, hn8, hb⟩ := id hT
  have hL := ks_LB k0 hk
  have eL : (mm_sc.getD k0 mm_sd).2.2.2.length = ks_L k0 := rfl
  obtain ⟨Φ, hΦ⟩ : ∃ Φ : mm_V → mm_M → Prop, Φ = (fun r M' => ∃ z : Int, r = (0, z) ∧ mm_Rf M' ∧ M' = M ∧ ((z = 1 ∧ M 183 6 = 1 ∧ kt_m (fun j => M 185 (s + j)) (e - s) (mm_sc.getD k0 mm_sd).2.2.2) ∨ (z = 0 ∧ ¬ (M 183 6 = 1 ∧ kt_m (fun j => M 185 (s + j)) (e - s) (mm_sc.getD k0 mm_sd).2.2.2)))) := ⟨_, rfl⟩
  rw [← hΦ]
  refine mm_start (ls := [(2, 184), (2, -((k0 + 100 : Nat) : Int)), (9, 0), (9, 0)]) rfl ?_
  have loop : ∀ i : Nat, i ≤ ks_L k0 → ∀ z : Int, ((z = 1 ∧ M 183 6 = 1 ∧ e - s = ks_L k0 ∧ ∀ j, j < i → M 185 (s + j) = ks_B k0 j) ∨ (z = 0 ∧ ¬ (M 183 6 = 1 ∧ kt_m (fun j => M 185 (s + j)) (e - s) (mm_sc.getD k0 mm_sd).2.2.2))) →
      mm_J X Y_X13_is 243 243 243 32 [(2, 184), (2, -((k0 + 100 : Nat) : Int)), (0, z), (0, (i : Int))] [] M Φ := by
    refine mm_lp ?_
    intro i hi ih z hz
    by_cases hlt : i < ks_L k0 ∧ z = 1
    · obtain ⟨hlt, hz1⟩ := hlt
      rcases hz with ⟨-, z2, z3, z4⟩ | ⟨y, -⟩
      · have hB := ks_BB k0 hk i hlt
        have cA := c_J0_charAt_5068e (X := X) (M := M) (k0 := k0) (j := (i : Int)) hk (by omega) (by omega)
        rw [Int.toNat_natCast] at cA
        have hbi := hb (s + i) (by omega)
        refine mm_iload_n dX13_is_32 rfl rfl ?_
        refine mm_aload_n dX13_is_33 rfl rfl ?_
        refine mm_VS0i dX13_is_34 rfl ls_X13_50 rfl hk  rfl rfl rfl (c_J0_length_8abf5 hk) ?_
        refine mm_icge dX13_is_37 (by omega) (by omega) (fun h37 => ?_) (fun h37 => ?_)
        · exfalso; omega
        · refine mm_iload_n dX13_is_40 rfl rfl ?_
          refine mm_ifeq dX13_is_41 (by omega) (fun h41 => ?_) (fun h41 => ?_)
          · exfalso; omega
          · refine mm_aload_n dX13_is_44 rfl rfl ?_
            refine mm_getr dX13_is_45 rfl fl_X13_26 (c := 183) rfl (by decide) rfl rfl (hR.at (c := 183) (i := 1) (v := 186) rfl (by decide)) ?_
            refine mm_aload_n dX13_is_48 rfl rfl ?_
            refine mm_get (kd := 0) dX13_is_49 rfl fl_X13_13 (c := 183) rfl (by decide) rfl rfl ?_
            obtain ⟨v49, hv49⟩ : ∃ v, v = M 183 4 := ⟨_, rfl⟩
            rw [← hv49]
            rw [hs] at hv49
            subst hv49
            refine mm_iload_n dX13_is_52 rfl rfl ?_
            refine mm_iadd dX13_is_53 rfl ?_
            refine mm_balk (k0 := (s + i)) dX13_is_54 rfl (c := 185) rfl (by decide) rfl (by omega) (by omega) ?_
            refine mm_aload_n dX13_is_55 rfl rfl ?_
            refine mm_iload_n dX13_is_56 rfl rfl ?_
            refine mm_VS1i dX13_is_57 rfl ls_X13_55 rfl hk (by simp) rfl rfl rfl (cA) ?_
            refine mm_icne_z (q2 := 68) dX13_is_60 (by omega) (by omega) (fun k => mm_iconst dX13_is_67 rfl k) (fun k => mm_iconst dX13_is_63 rfl (mm_goto dX13_is_64 k)) ?_
            refine mm_istore_n dX13_is_68 rfl (Nat.le_of_ble_eq_true rfl) rfl ?_
            refine mm_iinc dX13_is_69 rfl rfl (Nat.le_of_ble_eq_true rfl) rfl ?_
            refine mm_goto dX13_is_72 ?_
            refine ih hlt _ ?_
            by_cases q : M 185 (s + i) = ks_B k0 i
            · left
              refine ⟨mm_b_t q, z2, z3, fun j hj => ?_⟩
              by_cases w : j = i
              · rw [w]; exact q
              · exact z4 j (by omega)
            · right
              exact ⟨mm_b_f q, fun w => q (w.2.2 i hlt)⟩
      · omega
    · rw [hΦ]
      refine mm_iload_n dX13_is_32 rfl rfl ?_
      refine mm_aload_n dX13_is_33 rfl rfl ?_
      refine mm_VS0i dX13_is_34 rfl ls_X13_50 rfl hk  rfl rfl rfl (c_J0_length_8abf5 hk) ?_
      refine mm_icge dX13_is_37 (by omega) (by omega) (fun h37 => ?_) (fun h37 => ?_)
      · refine mm_iload_n dX13_is_75 rfl rfl ?_
        refine mm_zret dX13_is_76 rfl rfl (by omega) ?_
        refine ⟨z, rfl, hR, rfl, ?_⟩
        rcases hz with ⟨z1, z2, z3, z4⟩ | ⟨z1, z2⟩
        · exact Or.inl ⟨z1, z2, z3, fun j hj => z4 j (by omega)⟩
        · exact Or.inr ⟨z1, z2⟩
      · refine mm_iload_n dX13_is_40 rfl rfl ?_
        refine mm_ifeq dX13_is_41 (by omega) (fun h41 => ?_) (fun h41 => ?_)
        · refine mm_iload_n dX13_is_75 rfl rfl ?_
          refine mm_zret dX13_is_76 rfl rfl (by omega) ?_
          refine ⟨z, rfl, hR, rfl, ?_⟩
          rcases hz with ⟨z1, z2, z3, z4⟩ | ⟨z1, z2⟩
          · exact Or.inl ⟨z1, z2, z3, fun j hj => z4 j (by omega)⟩
          · exact Or.inr ⟨z1, z2⟩
        · exfalso; omega
  refine mm_aload_n dX13_is_0 rfl rfl ?_
  refine mm_get (kd := 0) dX13_is_1 rfl fl_X13_37 (c := 183) rfl (by decide) rfl rfl ?_
  refine mm_iconst dX13_is_4 rfl ?_
  refine mm_icne dX13_is_5 (by omega) (by omega) (fun h5 => ?_) (fun h5 => ?_)
  · refine mm_iconst dX13_is_28 rfl ?_
    refine mm_istore_n dX13_is_29 rfl (Nat.le_of_ble_eq_true rfl) rfl ?_
    refine mm_iconst dX13_is_30 rfl ?_
    refine mm_istore_n dX13_is_31 rfl (Nat.le_of_ble_eq_true rfl) rfl ?_
    refine loop 0 (Nat.zero_le _) _ ?_
    first
    | exact Or.inl ⟨rfl, h5, by omega, fun j hj => absurd hj (Nat.not_lt_zero j)⟩
    | exact Or.inr ⟨rfl, fun w => h21 (by have := w.2.1; omega)⟩
    | exact Or.inr ⟨rfl, fun w => h5 w.1⟩
  · refine mm_aload_n dX13_is_8 rfl rfl ?_
    refine mm_get (kd := 0) dX13_is_9 rfl fl_X13_30 (c := 183) rfl (by decide) rfl rfl ?_
    obtain ⟨v9, hv9⟩ : ∃ v, v = M 183 5 := ⟨_, rfl⟩
    rw [← hv9]
    rw [he] at hv9
    subst hv9
    refine mm_aload_n dX13_is_12 rfl rfl ?_
    refine mm_get (kd := 0) dX13_is_13 rfl fl_X13_13 (c := 183) rfl (by decide) rfl rfl ?_
    obtain ⟨v13, hv13⟩ : ∃ v, v = M 183 4 := ⟨_, rfl⟩
    rw [← hv13]
    rw [hs] at hv13
    subst hv13
    refine mm_isub dX13_is_16 rfl ?_
    refine mm_aload_n dX13_is_17 rfl rfl ?_
    refine mm_VS0i dX13_is_18 rfl ls_X13_50 rfl hk  rfl rfl rfl (c_J0_length_8abf5 hk) ?_
    refine mm_icne dX13_is_21 (by omega) (by omega) (fun h21 => ?_) (fun h21 => ?_)
    · refine mm_iconst dX13_is_28 rfl ?_
      refine mm_istore_n dX13_is_29 rfl (Nat.le_of_ble_eq_true rfl) rfl ?_
      refine mm_iconst dX13_is_30 rfl ?_
      refine mm_istore_n dX13_is_31 rfl (Nat.le_of_ble_eq_true rfl) rfl ?_
      refine loop 0 (Nat.zero_le _) _ ?_
      first
      | exact Or.inl ⟨rfl, h5, by omega, fun j hj => absurd hj (Nat.not_lt_zero j)⟩
      | exact Or.inr ⟨rfl, fun w => h21 (by have := w.2.1; omega)⟩
      | exact Or.inr ⟨rfl, fun w => h5 w.1⟩
    · refine mm_iconst dX13_is_24 rfl ?_
      refine mm_goto dX13_is_25 ?_
      refine mm_istore_n dX13_is_29 rfl (Nat.le_of_ble_eq_true rfl) rfl ?_
      refine mm_iconst dX13_is_30 rfl ?_
      refine mm_istore_n dX13_is_31 rfl (Nat.le_of_ble_eq_true rfl) rfl ?_
      refine loop 0 (Nat.zero_le _) _ ?_
      first
      | exact Or.inl ⟨rfl, h5, by omega, fun j hj => absurd hj (Nat.not_lt_zero j)⟩
      | exact Or.inr ⟨rfl, fun w => h21 (by have := w.2.1; omega)⟩
      | exact Or.inr ⟨rfl, fun w => h5 w.1⟩
theorem c_X13_wrong (hR : mm_Rf M) : mm_Fn X Y_X13_wrong 243 [(2, 184), (0, x)] M (2, 185) (mm_up (mm_up M 183 8 x) 183 9 (M 183 4)) := by
  refine mm_startF (ls := [(2, 184), (0, x)]) rfl ?_
  refine mm_aload_n dX13_wrong_0 rfl rfl ?_
  refine mm_iload_n dX13_wrong_1 rfl rfl ?_
  refine mm_puti dX13_wrong_2 rfl fl_X13_9 (c := 183) rfl (by decide) rfl rfl (fun M2 hM2 => ?_)
  have hR2 : mm_Rf M2 := by rw [hM2]; exact hR.up rfl
  refine mm_aload_n dX13_wrong_5 rfl rfl ?_
  refine mm_aload_n dX13_wrong_6 rfl rfl ?_
  refine mm_get (kd := 0) dX13_wrong_7 rfl fl_X13_13 (c := 183) rfl (by decide) rfl rfl ?_
  obtain ⟨v7, hv7⟩ : ∃ v, v = M2 183 4 := ⟨_, rfl⟩
  rw [← hv7]
  rw [hM2, mm_up_i (by decide)] at hv7
  subst hv7
  refine mm_puti dX13_wrong_10 rfl fl_X13_16 (c := 183) rfl (by decide) rfl rfl (fun M10 hM10 => ?_)
  have hR10 : mm_Rf M10 := by rw [hM10]; exact hR2.up rfl
  refine mm_aload_n dX13_wrong_13 rfl rfl ?_
  refine mm_getr dX13_wrong_14 rfl fl_X13_19 (c := 183) rfl (by decide) rfl rfl (hR10.at (c := 183) (i := 0) (v := 185) rfl (by decide)) ?_
  refine mm_aret dX13_wrong_17 rfl rfl (Or.inl ⟨_, rfl⟩) ?_
  exact mm_fin rfl (by rw [hM10, hM2])
theorem c_X13_need1 : mm_Fn X Y_X13_need 243 [(2, 184), (0, 1), (0, x)] M (3, 0) M := by
  refine mm_startF (ls := [(2, 184), (0, 1), (0, x)]) rfl ?_
  refine mm_iload_n dX13_need_0 rfl rfl ?_
  refine mm_ifne dX13_need_1 (by omega) (fun _ => ?_) (fun h => absurd h (by decide))
  refine mm_vret dX13_need_10 rfl rfl ?_
  exact mm_fin rfl rfl
theorem c_X13_need0 (hR : mm_Rf M) : mm_C X Y_X13_need 243 243 [(2, 184), (0, 0), (0, x)] M (fun r M' => r = (4, 185) ∧ mm_Rf M' ∧ kt_W M M' x) := by
  obtain ⟨N, hN⟩ : ∃ N, N = mm_up (mm_up M 183 8 x) 183 9 (M 183 4) := ⟨_, rfl⟩
  have hRN : mm_Rf N := by rw [hN]; exact (hR.up rfl).up rfl
  refine mm_start (ls := [(2, 184), (0, 0), (0, x)]) rfl ?_
  refine mm_iload_n dX13_need_0 rfl rfl ?_
  refine mm_ifne dX13_need_1 (by omega) (fun h => absurd h (by decide)) (fun _ => ?_)
  refine mm_aload_n dX13_need_4 rfl rfl ?_
  refine mm_iload_n dX13_need_5 rfl rfl ?_
  refine mm_V1a dX13_need_6 rfl lk_X13_59 (c := 183) rfl (by decide) rfl (by simp) rfl rfl rfl ((hN ▸ c_X13_wrong (x := x) hR)) ?_
  refine mm_athrow dX13_need_9 rfl rfl (by decide) ?_
  refine ⟨rfl, hRN, ?_, ?_, ?_, ?_⟩
  · intro a ha; rw [hN, mm_up_row ha, mm_up_row ha]
  · intro b b1 b2; rw [hN, mm_up_i b2, mm_up_i b1]
  · rw [hN, mm_up_i (by decide), mm_up_s]
  · rw [hN, mm_up_s]
/-- need: nothing, or the fault is thrown -/
theorem c_X13_need {P : Prop} [Decidable P] (hR : mm_Rf M) : mm_C X Y_X13_need 243 243 [(2, 184), (0, mm_b P), (0, x)] M (fun r M' => (r = (4, 185) ∧ mm_Rf M' ∧ ¬ P ∧ kt_W M M' x) ∨ (r = (3, 0) ∧ mm_Rf M' ∧ P ∧ M' = M)) := by
  by_cases h : P
  · rw [mm_b_t h]
    refine mm_Cmono (c_X13_need1 (M := M)) ?_
    rintro r M' ⟨rfl, rfl⟩
    exact Or.inr ⟨rfl, hR, h, rfl⟩
  · rw [mm_b_f h]
    refine mm_Cmono (c_X13_need0 hR) ?_
    rintro r M' ⟨rfl, h1, h2⟩
    exact Or.inl ⟨rfl, h1, h, h2⟩
/-- a number within bounds at hand, or the fault is thrown -/
theorem c_X13_look (hR : mm_Rf M) (h6 : mm_R (M 183 6)) (h7 : M 183 6 = 2 → mm_R (M 183 7)) (hlo : mm_R lo) (hhi : mm_R hi) :
    mm_C X Y_X13_look 243 243 [(2, 184), (0, lo), (0, hi)] M (fun r M' => (r = (4, 185) ∧ mm_Rf M' ∧ ¬ (M 183 6 = 2 ∧ lo ≤ M 183 7 ∧ M 183 7 ≤ hi) ∧ kt_W M M' (if M 183 6 = 2 then 2 else 1)) ∨ (∃ x, r = (0, x) ∧ mm_Rf M' ∧ (M 183 6 = 2 ∧ lo ≤ M 183 7 ∧ M 183 7 ≤ hi) ∧ x = M 183 7 ∧ M' = M)) := by
  refine mm_start (ls := [(2, 184), (0, lo), (0, hi)]) rfl ?_
  refine mm_aload_n dX13_look_0 rfl rfl ?_
  refine mm_aload_n dX13_look_1 rfl rfl ?_
  refine mm_get (kd := 0) dX13_look_2 rfl fl_X13_37 (c := 183) rfl (by decide) rfl rfl ?_
  refine mm_iconst dX13_look_5 rfl ?_
  refine mm_icne_z (q2 := 14) dX13_look_6 (by omega) (by omega) (fun k => mm_iconst dX13_look_13 rfl k) (fun k => mm_iconst dX13_look_9 rfl (mm_goto dX13_look_10 k)) ?_
  refine mm_iconst dX13_look_14 rfl ?_
  refine mm_V2g (M1 := M) dX13_look_15 rfl lk_X13_63 (c := 183) rfl (by decide) rfl (by simp) (by simp) rfl rfl rfl (c_X13_need (P := M 183 6 = 2) (x := 1) hR) ?_
  rintro _ N15 (⟨rfl, p15⟩ | ⟨rfl, p15⟩)
  · refine ⟨rfl, rfl, ?_⟩
    exact Or.inl ⟨rfl, p15.1, fun q => p15.2.1 q.1, by rw [if_neg p15.2.1]; exact p15.2.2⟩
  change mm_J _ _ _ _ _ _ _ _ _ _
  have hR15 : mm_Rf N15 := p15.1
  obtain ⟨-, hh, eN⟩ := p15
  rw [eN]
  have hv := h7 hh
  refine mm_aload_n dX13_look_18 rfl rfl ?_
  refine mm_aload_n dX13_look_19 rfl rfl ?_
  refine mm_get (kd := 0) dX13_look_20 rfl fl_X13_47 (c := 183) rfl (by decide) rfl rfl ?_
  refine mm_i2l dX13_look_23 rfl (by omega) ?_
  refine mm_iload_n dX13_look_24 rfl rfl ?_
  refine mm_i2l dX13_look_25 rfl (by omega) ?_
  refine mm_iload_n dX13_look_26 rfl rfl ?_
  refine mm_i2l dX13_look_27 rfl (by omega) ?_
  refine mm_S3i dX13_look_28 rfl lk_X13_5 (by simp) (by simp) (by simp) rfl rfl rfl (c_X13_in (by omega) (by omega) (by omega)) ?_
  refine mm_iconst dX13_look_31 rfl ?_
  refine mm_V2g (M1 := M) dX13_look_32 rfl lk_X13_63 (c := 183) rfl (by decide) rfl (by simp) (by simp) rfl rfl rfl (c_X13_need (P := lo ≤ M 183 7 ∧ M 183 7 ≤ hi) (x := 2) hR) ?_
  rintro _ N32 (⟨rfl, p32⟩ | ⟨rfl, p32⟩)
  · refine ⟨rfl, rfl, ?_⟩
    exact Or.inl ⟨rfl, p32.1, fun q => p32.2.1 q.2, by rw [if_pos hh]; exact p32.2.2⟩
  change mm_J _ _ _ _ _ _ _ _ _ _
  have hR32 : mm_Rf N32 := p32.1
  obtain ⟨-, hh2, eN2⟩ := p32
  rw [eN2]
  refine mm_aload_n dX13_look_35 rfl rfl ?_
  refine mm_get (kd := 0) dX13_look_36 rfl fl_X13_47 (c := 183) rfl (by decide) rfl rfl ?_
  refine mm_iret dX13_look_39 rfl rfl ?_
  exact Or.inr ⟨_, rfl, hR, ⟨hh, hh2⟩, rfl, rfl⟩
/-- the tape that is read, the token at hand: as they were, behind p -/
theorem mm_RT.sc {M N : mm_M} (h : mm_RT M n) (q : kt_R M N n p) : mm_RT N n := ⟨(q.2.1 3 (by omega)).trans h.1, h.2.1, by rw [q.1 185 (by decide)]; exact h.2.2⟩
theorem kt_R.h {M N : mm_M} (q : kt_R M N n p) : kt_H N n p := by
  unfold kt_H
  rw [q.1 185 (by decide)]
  exact q.2.2
theorem kt_H.b {M : mm_M} (h : kt_H M n p) : mm_R (M 183 6) ∧ (M 183 6 = 2 → mm_R (M 183 7)) := by
  have a := kt_kb (B := M 185) (n := n) (p := p)
  have b := kt_vb (B := M 185) (n := n) (p := p)
  refine ⟨by rw [h.1]; omega, fun z => ?_⟩
  rw [h.2.2.2 (by rw [← h.1]; exact z)]
  omega
/-- a number, and the token behind it -/
theorem c_X13_number (hR : mm_Rf M) (hT : mm_RT M n) (hp : p ≤ n) (hH : kt_H M n p) (hlo : mm_R lo) (hhi : mm_R hi) :
    mm_C X Y_X13_number 243 243 [(2, 184), (0, lo), (0, hi)] M (fun r M' => (r = (4, 185) ∧ mm_Rf M' ∧ ¬ (M 183 6 = 2 ∧ lo ≤ M 183 7 ∧ M 183 7 ≤ hi) ∧ kt_W M M' (if M 183 6 = 2 then 2 else 1)) ∨ (∃ x, r = (0, x) ∧ mm_Rf M' ∧ (M 183 6 = 2 ∧ lo ≤ M 183 7 ∧ M 183 7 ≤ hi) ∧ x = M 183 7 ∧ mm_rg M M' ∧ kt_R M M' n (kt_e (M 185) n p))) := by
  have heb := kt_eb (B := M 185) hp
  refine mm_start (ls := [(2, 184), (0, lo), (0, hi), (9, 0)]) rfl ?_
  refine mm_aload_n dX13_number_0 rfl rfl ?_
  refine mm_iload_n dX13_number_1 rfl rfl ?_
  refine mm_iload_n dX13_number_2 rfl rfl ?_
  refine mm_V2g (M1 := M) dX13_number_3 rfl lk_X13_67 (c := 183) rfl (by decide) rfl (by simp) (by simp) rfl rfl rfl (c_X13_look hR hH.b.1 hH.b.2 hlo hhi) ?_
  rintro _ N3 (⟨rfl, p3⟩ | ⟨x3, rfl, p3⟩)
  · refine ⟨rfl, rfl, ?_⟩
    exact Or.inl ⟨rfl, p3⟩
  change mm_J _ _ _ _ _ _ _ _ _ _
  have hR3 : mm_Rf N3 := p3.1
  obtain ⟨-, hh, hx, eN⟩ := p3
  rw [eN]
  refine mm_istore_n dX13_number_6 rfl (Nat.le_of_ble_eq_true rfl) rfl ?_
  refine mm_aload_n dX13_number_7 rfl rfl ?_
  refine mm_V0g (M1 := M) dX13_number_8 rfl lk_X13_71 (c := 183) rfl (by decide) rfl  rfl rfl rfl (c_X13_scan (p := kt_e (M 185) n p) hR hT heb.2 hH.2.2.1) ?_
  rintro _ N8 ⟨rfl, p8⟩
  change mm_J _ _ _ _ _ _ _ _ _ _
  have hR8 : mm_Rf N8 := p8.1
  refine mm_iload_n dX13_number_11 rfl rfl ?_
  refine mm_iret dX13_number_12 rfl rfl ?_
  exact Or.inr ⟨_, rfl, p8.1, hh, hx, p8.2⟩
/-- a semicolon, and the token behind it -/
theorem c_X13_close (hR : mm_Rf M) (hT : mm_RT M n) (hp : p ≤ n) (hH : kt_H M n p) :
    mm_C X Y_X13_close 243 243 [(2, 184)] M (fun r M' => (r = (4, 185) ∧ mm_Rf M' ∧ ¬ M 183 6 = 3 ∧ kt_W M M' 1) ∨ (r = (3, 0) ∧ mm_Rf M' ∧ M 183 6 = 3 ∧ mm_rg M M' ∧ kt_R M M' n (kt_e (M 185) n p))) := by
  have heb := kt_eb (B := M 185) hp
  have hb1 := hH.b.1
  refine mm_start (ls := [(2, 184)]) rfl ?_
  refine mm_aload_n dX13_close_0 rfl rfl ?_
  refine mm_aload_n dX13_close_1 rfl rfl ?_
  refine mm_get (kd := 0) dX13_close_2 rfl fl_X13_37 (c := 183) rfl (by decide) rfl rfl ?_
  refine mm_iconst dX13_close_5 rfl ?_
  refine mm_icne_z (q2 := 14) dX13_close_6 (by omega) (by omega) (fun k => mm_iconst dX13_close_13 rfl k) (fun k => mm_iconst dX13_close_9 rfl (mm_goto dX13_close_10 k)) ?_
  refine mm_iconst dX13_close_14 rfl ?_
  refine mm_V2g (M1 := M) dX13_close_15 rfl lk_X13_63 (c := 183) rfl (by decide) rfl (by simp) (by simp) rfl rfl rfl (c_X13_need (P := M 183 6 = 3) (x := 1) hR) ?_
  rintro _ N15 (⟨rfl, p15⟩ | ⟨rfl, p15⟩)
  · refine ⟨rfl, rfl, ?_⟩
    exact Or.inl ⟨rfl, p15⟩
  change mm_J _ _ _ _ _ _ _ _ _ _
  have hR15 : mm_Rf N15 := p15.1
  obtain ⟨-, hh, eN⟩ := p15
  rw [eN]
  refine mm_aload_n dX13_close_18 rfl rfl ?_
  refine mm_V0g (M1 := M) dX13_close_19 rfl lk_X13_71 (c := 183) rfl (by decide) rfl  rfl rfl rfl (c_X13_scan (p := kt_e (M 185) n p) hR hT heb.2 hH.2.2.1) ?_
  rintro _ N19 ⟨rfl, p19⟩
  change mm_J _ _ _ _ _ _ _ _ _ _
  have hR19 : mm_Rf N19 := p19.1
  refine mm_vret dX13_close_22 rfl rfl ?_
  exact Or.inr ⟨rfl, p19.1, hh, p19.2⟩
/-- the text is the tape, which is empty then; the first token is at hand -/
theorem c_X13_begin (hR : mm_Rf M) (hn : M 183 2 = (n : Int) ∧ n ≤ 800) (hb : ∀ k : Nat, k < 800 → -128 ≤ M 185 k ∧ M 185 k ≤ 127) :
    mm_C X Y_X13_begin 243 243 [(2, 184)] M (fun r M' => r = (3, 0) ∧ mm_Rf M' ∧ mm_rg M M' ∧ mm_RT M' n ∧ kt_H M' n 0 ∧ (∀ a, a ≠ 183 → M' a = M a) ∧ (∀ b, ¬ (2 ≤ b ∧ b ≤ 9) → M' 183 b = M 183 b) ∧ M' 183 2 = 0 ∧ M' 183 8 = 0 ∧ M' 183 9 = -1) := by
  have hG0 := mm_rg.rf M
  have hn1 := hn.1
  refine mm_start (ls := [(2, 184)]) rfl ?_
  refine mm_aload_n dX13_begin_0 rfl rfl ?_
  refine mm_aload_n dX13_begin_1 rfl rfl ?_
  refine mm_get (kd := 0) dX13_begin_2 rfl fl_X13_75 (c := 183) rfl (by decide) rfl rfl ?_
  obtain ⟨v2, hv2⟩ : ∃ v, v = M 183 2 := ⟨_, rfl⟩
  rw [← hv2]
  rw [hn1] at hv2
  subst hv2
  refine mm_puti dX13_begin_5 rfl fl_X13_23 (c := 183) rfl (by decide) rfl rfl (fun M5 hM5 => ?_)
  have hR5 : mm_Rf M5 := by rw [hM5]; exact hR.up rfl
  have hG5 : mm_rg M M5 := by rw [hM5]; exact hG0.up (by decide)
  refine mm_aload_n dX13_begin_8 rfl rfl ?_
  refine mm_iconst dX13_begin_9 rfl ?_
  refine mm_puti dX13_begin_10 rfl fl_X13_75 (c := 183) rfl (by decide) rfl rfl (fun M10 hM10 => ?_)
  have hR10 : mm_Rf M10 := by rw [hM10]; exact hR5.up rfl
  have hG10 : mm_rg M M10 := by rw [hM10]; exact hG5.up (by decide)
  refine mm_aload_n dX13_begin_13 rfl rfl ?_
  refine mm_iconst dX13_begin_14 rfl ?_
  refine mm_puti dX13_begin_15 rfl fl_X13_30 (c := 183) rfl (by decide) rfl rfl (fun M15 hM15 => ?_)
  have hR15 : mm_Rf M15 := by rw [hM15]; exact hR10.up rfl
  have hG15 : mm_rg M M15 := by rw [hM15]; exact hG10.up (by decide)
  refine mm_aload_n dX13_begin_18 rfl rfl ?_
  refine mm_iconst dX13_begin_19 rfl ?_
  refine mm_puti dX13_begin_20 rfl fl_X13_9 (c := 183) rfl (by decide) rfl rfl (fun M20 hM20 => ?_)
  have hR20 : mm_Rf M20 := by rw [hM20]; exact hR15.up rfl
  have hG20 : mm_rg M M20 := by rw [hM20]; exact hG15.up (by decide)
  refine mm_aload_n dX13_begin_23 rfl rfl ?_
  refine mm_iconst dX13_begin_24 rfl ?_
  refine mm_puti dX13_begin_25 rfl fl_X13_16 (c := 183) rfl (by decide) rfl rfl (fun M25 hM25 => ?_)
  have hR25 : mm_Rf M25 := by rw [hM25]; exact hR20.up rfl
  have hG25 : mm_rg M M25 := by rw [hM25]; exact hG20.up (by decide)
  refine mm_aload_n dX13_begin_28 rfl rfl ?_
  have u : ∀ a, a ≠ 183 → M25 a = M a := by intro a ha; funext b; simp [hM25, hM20, hM15, hM10, hM5, mm_up, ha]
  have u2 : ∀ b, ¬ (2 ≤ b ∧ b ≤ 9) → M25 183 b = M 183 b := by
    intro b hb9
    have n1 : b ≠ 2 := by omega
    have n2 : b ≠ 3 := by omega
    have n3 : b ≠ 5 := by omega
    have n4 : b ≠ 8 := by omega
    have n5 : b ≠ 9 := by omega
    simp [hM25, hM20, hM15, hM10, hM5, mm_up, n1, n2, n3, n4, n5]
  have hT1 : mm_RT M25 n := ⟨by simp [hM25, hM20, hM15, hM10, hM5, mm_up], hn.2, by rw [u 185 (by decide)]; exact hb⟩
  refine mm_V0g (M1 := M25) dX13_begin_29 rfl lk_X13_71 (c := 183) rfl (by decide) rfl  rfl rfl rfl (c_X13_scan (p := 0) hR25 hT1 (Nat.zero_le _) (by simp [hM25, hM20, hM15, hM10, hM5, mm_up])) ?_
  rintro _ N29 ⟨rfl, p29⟩
  change mm_J _ _ _ _ _ _ _ _ _ _
  have hR29 : mm_Rf N29 := p29.1
  have hG29 : mm_rg M N29 := hG25.tr p29.2.1
  refine mm_vret dX13_begin_32 rfl rfl ?_
  refine ⟨rfl, hR29, hG29, hT1.sc p29.2.2, p29.2.2.h, ?_, ?_, ?_, ?_, ?_⟩
  · intro a ha; rw [p29.2.2.1 a ha]; exact u a ha
  · intro b hb9; rw [p29.2.2.2.1 b (by omega)]; exact u2 b hb9
  · rw [p29.2.2.2.1 2 (by omega)]; simp [hM25, hM20, hM15, hM10, hM5, mm_up]
  · rw [p29.2.2.2.1 8 (by omega)]; simp [hM25, hM20, hM15, hM10, hM5, mm_up]
  · rw [p29.2.2.2.1 9 (by omega)]; simp [hM25, hM20, hM15, hM10, hM5, mm_up]
end
end
/-! 97.fill -/
section
/-! ===== Arrays.fill, on any row of the world, with any number of cells ===== -/
theorem kf_off_at {M : mm_M} {c o n a b : Nat} {f : Nat → Int} : kf_off M c o f n a b = if a = c ∧ o ≤ b ∧ b < o + n then f (b - o) else M a b := rfl
section
variable {X : mm_X} {M : mm_M} {n c len : Nat} {x y v : Int}
theorem c_J7_rangeCheck (hx : 0 ≤ x ∧ x ≤ y) (hy : y ≤ (len : Int)) (hl : len ≤ 100000) : mm_Fn X Y_J7_rangeCheck_23922 n [(0, (len : Int)), (0, x), (0, y)] M (3, 0) M := by
  refine mm_startF (ls := [(0, (len : Int)), (0, x), (0, y)]) rfl ?_
  refine mm_iload_n dJ7_rangeCheck_23922_0 rfl rfl ?_
  refine mm_iload_n dJ7_rangeCheck_23922_1 rfl rfl ?_
  refine mm_icle dJ7_rangeCheck_23922_2 (by omega) (by omega) (fun _ => ?_) (fun h => ?_)
  · refine mm_iload_n dJ7_rangeCheck_23922_46 rfl rfl ?_
    refine mm_ifge dJ7_rangeCheck_23922_47 (by omega) (fun _ => ?_) (fun h => ?_)
    · refine mm_iload_n dJ7_rangeCheck_23922_59 rfl rfl ?_
      refine mm_iload_n dJ7_rangeCheck_23922_60 rfl rfl ?_
      refine mm_icle dJ7_rangeCheck_23922_61 (by omega) (by omega) (fun _ => ?_) (fun h => ?_)
      · refine mm_vret dJ7_rangeCheck_23922_73 rfl rfl ?_
        exact ⟨rfl, rfl⟩
      · exfalso; omega
    · exfalso; omega
  · exfalso; omega
theorem c_J7_fill4 (hc : c < n) (hs : mm_sh c = (1, len)) (hx : 0 ≤ x ∧ x ≤ y) (hy : y ≤ (len : Int)) : mm_Fn X Y_J7_fill_fda19 n [(2, (c : Int) + 1), (0, x), (0, y), (0, v)] M (3, 0) (kf_off M c x.toNat (fun _ => v) (y - x).toNat) := by
  have hl := (mm_shA c hs).1
  refine mm_startF (ls := [(2, (c : Int) + 1), (0, x), (0, y), (0, v), (9, 0)]) rfl ?_
  have loop : ∀ i : Nat, i ≤ (y - x).toNat → mm_J X Y_J7_fill_fda19 n n n 10 [(2, (c : Int) + 1), (0, x), (0, y), (0, v), (0, x + (i : Int))] [] (kf_off M c x.toNat (fun _ => v) i) (fun r' M'' => r' = (3, 0) ∧ M'' = kf_off M c x.toNat (fun _ => v) (y - x).toNat) := by
    refine mm_lp ?_
    intro i hi ih
    by_cases hlt : i < (y - x).toNat
    · refine mm_iload dJ7_fill_fda19_10 rfl rfl ?_
      refine mm_iload_n dJ7_fill_fda19_12 rfl rfl ?_
      refine mm_icge dJ7_fill_fda19_13 (by omega) (by omega) (fun h13 => ?_) (fun h13 => ?_)
      · exfalso; omega
      · refine mm_aload_n dJ7_fill_fda19_16 rfl rfl ?_
        refine mm_iload dJ7_fill_fda19_17 rfl rfl ?_
        refine mm_iload_n dJ7_fill_fda19_19 rfl rfl ?_
        refine mm_istk (k0 := (x.toNat + i)) dJ7_fill_fda19_20 rfl (c := c) rfl hc hs (by omega) (by omega) (fun M20 hM20 => ?_)
        refine mm_iinc dJ7_fill_fda19_21 rfl rfl (Nat.le_of_ble_eq_true rfl) rfl ?_
        refine mm_goto dJ7_fill_fda19_24 ?_
        have e : M20 = kf_off M c x.toNat (fun _ => v) (i + 1) := by rw [hM20]; exact kf_off_s
        rw [e, show x + (i : Int) + 1 = x + ((i + 1 : Nat) : Int) by omega]
        exact ih hlt
    · have ei : i = (y - x).toNat := by omega
      refine mm_iload dJ7_fill_fda19_10 rfl rfl ?_
      refine mm_iload_n dJ7_fill_fda19_12 rfl rfl ?_
      refine mm_icge dJ7_fill_fda19_13 (by omega) (by omega) (fun h13 => ?_) (fun h13 => ?_)
      · refine mm_vret dJ7_fill_fda19_27 rfl rfl ?_
        exact ⟨rfl, by rw [ei]⟩
      · exfalso; omega
  refine mm_aload_n dJ7_fill_fda19_0 rfl rfl ?_
  refine mm_aln dJ7_fill_fda19_1 rfl (c := c) rfl hc hs ?_
  refine mm_iload_n dJ7_fill_fda19_2 rfl rfl ?_
  refine mm_iload_n dJ7_fill_fda19_3 rfl rfl ?_
  refine mm_S3v dJ7_fill_fda19_4 rfl lk_J7_13 (by simp) (by simp) (by simp) rfl rfl rfl (c_J7_rangeCheck hx hy (by omega)) ?_
  refine mm_iload_n dJ7_fill_fda19_7 rfl rfl ?_
  refine mm_istore dJ7_fill_fda19_8 rfl (Nat.le_of_ble_eq_true rfl) rfl ?_
  have := loop 0 (Nat.zero_le _)
  rw [kf_off_0, show x + ((0 : Nat) : Int) = x by omega] at this
  exact this
theorem c_J7_fill2 (hc : c < n) (hs : mm_sh c = (1, len)) : mm_Fn X Y_J7_fill_53178 n [(2, (c : Int) + 1), (0, v)] M (3, 0) (kf_mem M c (fun _ => v) len) := by
  have hl := (mm_shA c hs).1
  refine mm_startF (ls := [(2, (c : Int) + 1), (0, v), (9, 0), (9, 0)]) rfl ?_
  have loop : ∀ i : Nat, i ≤ len → mm_J X Y_J7_fill_53178 n n n 5 [(2, (c : Int) + 1), (0, v), (0, (i : Int)), (0, (len : Int))] [] (kf_mem M c (fun _ => v) i) (fun r' M'' => r' = (3, 0) ∧ M'' = kf_mem M c (fun _ => v) len) := by
    refine mm_lp ?_
    intro i hi ih
    by_cases hlt : i < len
    · refine mm_iload_n dJ7_fill_53178_5 rfl rfl ?_
      refine mm_iload_n dJ7_fill_53178_6 rfl rfl ?_
      refine mm_icge dJ7_fill_53178_7 (by omega) (by omega) (fun h7 => ?_) (fun h7 => ?_)
      · exfalso; omega
      · refine mm_aload_n dJ7_fill_53178_10 rfl rfl ?_
        refine mm_iload_n dJ7_fill_53178_11 rfl rfl ?_
        refine mm_iload_n dJ7_fill_53178_12 rfl rfl ?_
        refine mm_istk (k0 := i) dJ7_fill_53178_13 rfl (c := c) rfl hc hs (by omega) (by omega) (fun M13 hM13 => ?_)
        refine mm_iinc dJ7_fill_53178_14 rfl rfl (Nat.le_of_ble_eq_true rfl) rfl ?_
        refine mm_goto dJ7_fill_53178_17 ?_
        have e : M13 = kf_mem M c (fun _ => v) (i + 1) := by rw [hM13]; exact kf_mem_s
        rw [e]
        exact ih hlt
    · have ei : i = len := by omega
      refine mm_iload_n dJ7_fill_53178_5 rfl rfl ?_
      refine mm_iload_n dJ7_fill_53178_6 rfl rfl ?_
      refine mm_icge dJ7_fill_53178_7 (by omega) (by omega) (fun h7 => ?_) (fun h7 => ?_)
      · refine mm_vret dJ7_fill_53178_20 rfl rfl ?_
        exact ⟨rfl, by rw [ei]⟩
      · exfalso; omega
  refine mm_iconst dJ7_fill_53178_0 rfl ?_
  refine mm_istore_n dJ7_fill_53178_1 rfl (Nat.le_of_ble_eq_true rfl) rfl ?_
  refine mm_aload_n dJ7_fill_53178_2 rfl rfl ?_
  refine mm_aln dJ7_fill_53178_3 rfl (c := c) rfl hc hs ?_
  refine mm_istore_n dJ7_fill_53178_4 rfl (Nat.le_of_ble_eq_true rfl) rfl ?_
  have := loop 0 (Nat.zero_le _)
  rw [kf_mem_0] at this
  exact this
end
end
/-! 98.draft -/
section
/-! ===== the draft of a kite, and its use ===== -/
def kp_U : List Int := [5, 4, 6, 20, 100, 20000, 0, 100, 150, 1000]
def kp_D0 (D : Nat → Int) (i : Nat) : Int := if i < 10 then kp_U.getD i 0 else if i = 10 then 2 else if i = 20 then 10 else if i = 21 then 2 else if 30 ≤ i ∧ i < 36 then 100 else D i
/-- the references of the kite -/
def kc_rf (M : mm_M) : Prop := M 3 0 = 5 ∧ M 3 1 = 6 ∧ M 3 3 = 7 ∧ M 3 4 = 8 ∧ M 3 5 = 9 ∧ M 3 6 = 10 ∧ M 3 7 = 11
theorem mm_Rf.kc {M : mm_M} (h : mm_Rf M) : kc_rf M := ⟨h.at rfl (by decide), h.at rfl (by decide), h.at rfl (by decide), h.at rfl (by decide), h.at rfl (by decide), h.at rfl (by decide), h.at rfl (by decide)⟩
theorem kc_rf.fr {M N : mm_M} (h : kc_rf M) (q : ∀ b, b ≠ 2 → N 3 b = M 3 b) : kc_rf N := by
  unfold kc_rf at h ⊢
  rw [q 0 (by decide), q 1 (by decide), q 3 (by decide), q 4 (by decide), q 5 (by decide), q 6 (by decide), q 7 (by decide)]
  exact h
theorem mm_KV_congr {K L : Nat → Int} (h : ∀ i, i < 36 → L i = K i) (hK : mm_KV K) : mm_KV L := by
  unfold mm_KV at hK ⊢
  rw [h 0 (by decide), h 1 (by decide), h 2 (by decide), h 3 (by decide), h 4 (by decide), h 5 (by decide), h 6 (by decide), h 7 (by decide), h 8 (by decide), h 9 (by decide), h 10 (by decide)]
  obtain ⟨a0, a1, a2, a3, a4, a5, a6, a7, a8, a9, a10, a11, a12⟩ := hK
  exact ⟨a0, a1, a2, a3, a4, a5, a6, a7, a8, a9, a10, fun i hi => by rw [h (20 + i) (by omega)]; exact a11 i hi, fun i hi => by rw [h (30 + i) (by omega)]; exact a12 i hi⟩
theorem kp_D0_KV {D : Nat → Int} (h : 0 ≤ D 22 ∧ D 22 ≤ 99) : mm_KV (kp_D0 D) := by
  refine ⟨by simp [kp_D0, kp_U], by simp [kp_D0, kp_U], by simp [kp_D0, kp_U], by simp [kp_D0, kp_U], by simp [kp_D0, kp_U], by simp [kp_D0, kp_U], by simp [kp_D0, kp_U], by simp [kp_D0, kp_U], by simp [kp_D0, kp_U], by simp [kp_D0, kp_U], by simp [kp_D0], ?_, ?_⟩
  · intro i hi
    match i, hi with
    | 0, _ => show 0 ≤ (10 : Int) ∧ (10 : Int) ≤ 99; decide
    | 1, _ => show 0 ≤ (2 : Int) ∧ (2 : Int) ≤ 99; decide
    | 2, _ => exact h
  · intro i hi
    have : kp_D0 D (30 + i) = 100 := by
      unfold kp_D0
      rw [if_neg (by omega), if_neg (by omega), if_neg (by omega), if_neg (by omega), if_pos (by omega)]
    rw [this]
    decide
section
variable {X : mm_X} {M : mm_M} {n : Nat}
theorem c_X4_startDraft (hn : 11 ≤ n) (hR : kc_rf M) : mm_C X Y_X4_startDraft n n [(2, 4)] M (fun r M' => r = (3, 0) ∧ (∀ a, a ≠ 5 → M' a = M a) ∧ M' 5 = kp_D0 (M 5)) := by
  refine mm_start (ls := [(2, 4)]) rfl ?_
  have h5 : ∀ (N : mm_M), (∀ a, a ≠ 5 → N a = M a) → N 3 1 = 6 := fun N q => by rw [q 3 (by decide)]; exact hR.2.1
  refine mm_gets (k0 := 2) dX4_startDraft_0 rfl (by decide) sf_X4_92 ?_
  refine mm_iconst dX4_startDraft_3 rfl ?_
  refine mm_aload_n dX4_startDraft_4 rfl rfl ?_
  refine mm_getr dX4_startDraft_5 rfl fl_X4_15 (c := 3) rfl (by omega) rfl rfl (h5 M (by intro a ha; funext b; first | rfl | (simp [mm_up, hN13, mm_cp, ha]; done) | (rw [hN13]; simp [mm_cp, ha]))) ?_
  refine mm_iconst dX4_startDraft_8 rfl ?_
  refine mm_gets (k0 := 2) dX4_startDraft_9 rfl (by decide) sf_X4_92 ?_
  refine mm_alro (k0 := 4) dX4_startDraft_12 rfl rfl (by decide) ?_
  rw [show ((mm_rc X 4).1 : Int) = 10 from rfl]
  refine mm_copyro (k0 := 4) (d := 5) dX4_startDraft_13 rfl la_X4_95 rfl rfl rfl (by decide) rfl (by omega) rfl (by omega) (by omega) (by omega) (by omega) (by omega) ?_
  obtain ⟨N13, hN13⟩ : ∃ N, N = mm_cp M 5 (mm_rc X 4).2 (0 : Int).toNat (0 : Int).toNat (10 : Int).toNat := ⟨_, rfl⟩
  rw [← hN13]
  refine mm_aload_n dX4_startDraft_16 rfl rfl ?_
  refine mm_getr dX4_startDraft_17 rfl fl_X4_15 (c := 3) rfl (by omega) rfl rfl (h5 N13 (by intro a ha; funext b; first | rfl | (simp [mm_up, hN13, mm_cp, ha]; done) | (rw [hN13]; simp [mm_cp, ha]))) ?_
  refine mm_bipush dX4_startDraft_20 rfl (by decide) ?_
  refine mm_iconst dX4_startDraft_22 rfl ?_
  refine mm_istk (k0 := 10) dX4_startDraft_23 rfl (c := 5) rfl (by omega) rfl rfl (by decide) (fun M23 hM23 => ?_)
  refine mm_aload_n dX4_startDraft_24 rfl rfl ?_
  refine mm_getr dX4_startDraft_25 rfl fl_X4_15 (c := 3) rfl (by omega) rfl rfl (h5 M23 (by intro a ha; funext b; first | rfl | (simp [hM23, mm_up, hN13, mm_cp, ha]; done) | (rw [hN13]; simp [mm_cp, ha]))) ?_
  refine mm_bipush dX4_startDraft_28 rfl (by decide) ?_
  refine mm_bipush dX4_startDraft_30 rfl (by decide) ?_
  refine mm_istk (k0 := 20) dX4_startDraft_32 rfl (c := 5) rfl (by omega) rfl rfl (by decide) (fun M32 hM32 => ?_)
  refine mm_aload_n dX4_startDraft_33 rfl rfl ?_
  refine mm_getr dX4_startDraft_34 rfl fl_X4_15 (c := 3) rfl (by omega) rfl rfl (h5 M32 (by intro a ha; funext b; first | rfl | (simp [hM32, hM23, mm_up, hN13, mm_cp, ha]; done) | (rw [hN13]; simp [mm_cp, ha]))) ?_
  refine mm_bipush dX4_startDraft_37 rfl (by decide) ?_
  refine mm_iconst dX4_startDraft_39 rfl ?_
  refine mm_istk (k0 := 21) dX4_startDraft_40 rfl (c := 5) rfl (by omega) rfl rfl (by decide) (fun M40 hM40 => ?_)
  refine mm_aload_n dX4_startDraft_41 rfl rfl ?_
  refine mm_getr dX4_startDraft_42 rfl fl_X4_15 (c := 3) rfl (by omega) rfl rfl (h5 M40 (by intro a ha; funext b; first | rfl | (simp [hM40, hM32, hM23, mm_up, hN13, mm_cp, ha]; done) | (rw [hN13]; simp [mm_cp, ha]))) ?_
  refine mm_bipush dX4_startDraft_45 rfl (by decide) ?_
  refine mm_bipush dX4_startDraft_47 rfl (by decide) ?_
  refine mm_bipush dX4_startDraft_49 rfl (by decide) ?_
  refine mm_S4v dX4_startDraft_51 rfl lk_X4_86 (by simp) (by simp) (by simp) (by simp) rfl rfl rfl (c_J7_fill4 (c := 5) (len := 36) (by omega) rfl (by decide) (by decide)) ?_
  refine mm_vret dX4_startDraft_54 rfl rfl ?_
  refine ⟨rfl, ?_, ?_⟩
  · intro a ha
    rw [kf_off_n ha, hM40, mm_up_row ha, hM32, mm_up_row ha, hM23, mm_up_row ha, hN13]
    funext b
    simp [mm_cp, ha]
  · funext i
    rw [kf_off_at]
    unfold kp_D0
    by_cases c0 : 30 ≤ i ∧ i < 36
    · rw [if_pos ⟨rfl, by simpa using c0⟩, if_neg (by omega), if_neg (by omega), if_neg (by omega), if_neg (by omega), if_pos c0]
    · rw [if_neg (fun q => c0 (by simpa using q.2))]
      by_cases c1 : i < 10
      · rw [if_pos c1, hM40, mm_up_i (by omega), hM32, mm_up_i (by omega), hM23, mm_up_i (by omega), hN13]
        unfold mm_cp
        rw [if_pos ⟨rfl, by simp, by simpa using c1⟩]
        match i, c1 with
        | 0, _ => rfl
        | 1, _ => rfl
        | 2, _ => rfl
        | 3, _ => rfl
        | 4, _ => rfl
        | 5, _ => rfl
        | 6, _ => rfl
        | 7, _ => rfl
        | 8, _ => rfl
        | 9, _ => rfl
      · rw [if_neg c1]
        by_cases c2 : i = 10
        · rw [if_pos c2, c2, hM40, mm_up_i (by decide), hM32, mm_up_i (by decide), hM23, mm_up_s]
        · rw [if_neg c2]
          by_cases c3 : i = 20
          · rw [if_pos c3, c3, hM40, mm_up_i (by decide), hM32, mm_up_s]
          · rw [if_neg c3]
            by_cases c4 : i = 21
            · rw [if_pos c4, c4, hM40, mm_up_s]
            · rw [if_neg c4, if_neg c0, hM40, mm_up_i c4, hM32, mm_up_i c3, hM23, mm_up_i c2, hN13]
              unfold mm_cp
              rw [if_neg (fun q => c1 (by simpa using q.2.2))]
/-- the tables of the first S states -/
def kc_tab (N : mm_M) (K : Nat → Int) (S : Int) : Prop := ∀ s : Nat, (s : Int) < S → N 6 s = ks_col K s ∧ N 7 s = ks_row K s ∧ N 8 s = ks_rope K s ∧ N 9 s = ks_h K s ∧ N 10 s = ks_band K s
set_option maxHeartbeats 4000000 in
theorem c_X4_useDraft (hn : 11 ≤ n) (hR : kc_rf M) (hK : mm_KV (M 5)) : mm_C X Y_X4_useDraft n n [(2, 4)] M (fun r M' => r = (3, 0) ∧ (∀ a, a ≠ 3 → a ≠ 4 → ¬ (6 ≤ a ∧ a ≤ 10) → M' a = M a) ∧ (∀ b, b ≠ 2 → M' 3 b = M 3 b) ∧ (∀ b, b < 36 → M' 4 b = M 5 b) ∧ mm_CK M') := by
  obtain ⟨Φ, hΦ⟩ : ∃ Φ : mm_V → mm_M → Prop, Φ = (fun r M' => r = (3, 0) ∧ (∀ a, a ≠ 3 → a ≠ 4 → ¬ (6 ≤ a ∧ a ≤ 10) → M' a = M a) ∧ (∀ b, b ≠ 2 → M' 3 b = M 3 b) ∧ (∀ b, b < 36 → M' 4 b = M 5 b) ∧ mm_CK M') := ⟨_, rfl⟩
  rw [← hΦ]
  obtain ⟨K, hKd⟩ : ∃ K : Nat → Int, K = (fun b => if b < 36 then M 5 b else M 4 b) := ⟨_, rfl⟩
  have hK5 : ∀ b, b < 36 → K b = M 5 b := by intro b hb; rw [hKd]; simp [hb]
  have hKV : mm_KV K := mm_KV_congr hK5 hK
  obtain ⟨k0, k1, k2, k3, -⟩ := id hKV
  have hnb := ks_nb hKV
  have hnd : ks_n K = K 0 * K 1 * K 2 := rfl
  refine mm_start (ls := [(2, 4), (9, 0), (9, 0), (9, 0), (9, 0)]) rfl ?_
  -- what holds of the memory with S states made
  obtain ⟨I, hI⟩ : ∃ I : mm_M → Int → Prop, I = (fun N S => (∀ a, a ≠ 3 → a ≠ 4 → ¬ (6 ≤ a ∧ a ≤ 10) → N a = M a) ∧ (∀ b, b ≠ 2 → N 3 b = M 3 b) ∧ N 4 = K ∧ N 3 2 = S ∧ kc_tab N K S) := ⟨_, rfl⟩
  have rope : ∀ p : Nat, p ≤ (K 2).toNat → ∀ (N : mm_M) (l3 l4 : mm_V), I N (ks_f K 0 0 p) → mm_J X Y_X4_useDraft n n n 33 [(2, 4), (0, K 1), (0, (p : Int)), l3, l4] [] N Φ := by
    refine mm_lp ?_
    intro p hp ihp N l3 l4 hIN
    rw [hI] at hIN
    obtain ⟨i1, i2, i3, i4, i5⟩ := hIN
    have hRN := hR.fr i2
    by_cases hpl : p < (K 2).toNat
    · have row : ∀ w : Nat, w ≤ (K 1).toNat → ∀ (N : mm_M) (l4 : mm_V), I N (ks_f K 0 w p) → mm_J X Y_X4_useDraft n n n 45 [(2, 4), (0, K 1), (0, (p : Int)), (0, (w : Int)), l4] [] N Φ := by
        refine mm_lp ?_
        intro w hw ihw N l4 hIN
        rw [hI] at hIN
        obtain ⟨i1, i2, i3, i4, i5⟩ := hIN
        have hRN := hR.fr i2
        by_cases hwl : w < (K 1).toNat
        · have col : ∀ c : Nat, c ≤ (K 0).toNat → ∀ (N : mm_M), I N (ks_f K c w p) → mm_J X Y_X4_useDraft n n n 58 [(2, 4), (0, K 1), (0, (p : Int)), (0, (w : Int)), (0, (c : Int))] [] N Φ := by
            refine mm_lp ?_
            intro c hc ihc N hIN
            have hIN0 := hIN
            rw [hI] at hIN
            obtain ⟨i1, i2, i3, i4, i5⟩ := hIN
            have hRN := hR.fr i2
            by_cases hcl : c < (K 0).toNat
            · have hst := ks_f_st hKV (c := (c : Int)) (r := (w : Int)) (p := (p : Int)) (by omega) (by omega) (by omega)
              have hdc := ks_f_dec hKV (c := (c : Int)) (r := (w : Int)) (p := (p : Int)) (by omega) (by omega)
              obtain ⟨S, hS⟩ : ∃ S : Nat, S = (ks_f K c w p).toNat := ⟨_, rfl⟩
              have hS1 : ks_f K c w p = (S : Int) := by have := hst.1; omega
              have hst1 := hst.1
              have hst2 := hst.2
              have hh := ks_hb hKV hst
              have eh : ks_h K (ks_f K c w p) = K 3 * ((p : Int) + 1) * ((w : Int) + 1) / K 1 := by unfold ks_h; rw [hdc.2.1, hdc.2.2]
              rw [hdc.2.1, hdc.2.2] at hh
              have hnext : ks_f K ((c + 1 : Nat) : Int) w p = ks_f K c w p + 1 := by unfold ks_f; omega
              rw [hS1] at i4 i5 hst1 hst2 hdc eh hnext
              have ebd : ks_band K (S : Int) = min (K 3 * ((p : Int) + 1) * ((w : Int) + 1) / K 1 / 40) 4 := by unfold ks_band; rw [eh, Int.min_comm]
              have hdb := mm_divb (b := K 1) hh.2.2.2.2.1 hh.2.2.2.2.2 (by omega)
              have etd : (K 3 * ((p : Int) + 1) * ((w : Int) + 1)).tdiv (K 1) = K 3 * ((p : Int) + 1) * ((w : Int) + 1) / K 1 := mm_tdiv hh.2.2.2.2.1
              have r0 := hRN.1
              have r3 := hRN.2.2.1
              have r4 := hRN.2.2.2.1
              have r5 := hRN.2.2.2.2.1
              have r6 := hRN.2.2.2.2.2.1
              have r7 := hRN.2.2.2.2.2.2
              refine mm_iload dX4_useDraft_58 rfl rfl ?_
              refine mm_aload_n dX4_useDraft_60 rfl rfl ?_
              refine mm_getr dX4_useDraft_61 rfl fl_X4_11 (c := 3) rfl (by omega) rfl rfl ((by first | exact r0 | (simp [mm_up]; exact r0))) ?_
              refine mm_iconst dX4_useDraft_64 rfl ?_
              refine mm_ialk (k0 := 0) dX4_useDraft_65 rfl (c := 4) rfl (by omega) rfl rfl (by decide) ?_
              rw [i3]
              refine mm_icge dX4_useDraft_66 (by omega) (by omega) (fun h66 => ?_) (fun h66 => ?_)
              · exfalso; omega
              · refine mm_aload_n dX4_useDraft_69 rfl rfl ?_
                refine mm_get (kd := 0) dX4_useDraft_70 rfl fl_X4_107 (c := 3) rfl (by omega) rfl rfl ?_
                obtain ⟨v70, hv70⟩ : ∃ v, v = N 3 2 := ⟨_, rfl⟩
                rw [← hv70]
                rw [i4] at hv70
                subst hv70
                refine mm_sipush dX4_useDraft_73 rfl (by decide) ?_
                refine mm_icge dX4_useDraft_76 (by omega) (by omega) (fun h76 => ?_) (fun h76 => ?_)
                · exfalso; omega
                · refine mm_aload_n dX4_useDraft_79 rfl rfl ?_
                  refine mm_getr dX4_useDraft_80 rfl fl_X4_18 (c := 3) rfl (by omega) rfl rfl ((by first | exact r3 | (simp [mm_up]; exact r3))) ?_
                  refine mm_aload_n dX4_useDraft_83 rfl rfl ?_
                  refine mm_get (kd := 0) dX4_useDraft_84 rfl fl_X4_107 (c := 3) rfl (by omega) rfl rfl ?_
                  obtain ⟨v84, hv84⟩ : ∃ v, v = N 3 2 := ⟨_, rfl⟩
                  rw [← hv84]
                  rw [i4] at hv84
                  subst hv84
                  refine mm_iload dX4_useDraft_87 rfl rfl ?_
                  refine mm_istk (k0 := S) dX4_useDraft_89 rfl (c := 6) rfl (by omega) rfl (by omega) (by omega) (fun M89 hM89 => ?_)
                  refine mm_aload_n dX4_useDraft_90 rfl rfl ?_
                  refine mm_getr dX4_useDraft_91 rfl fl_X4_21 (c := 3) rfl (by omega) rfl rfl ((by first | exact r4 | (simp [hM89, mm_up]; exact r4))) ?_
                  refine mm_aload_n dX4_useDraft_94 rfl rfl ?_
                  refine mm_get (kd := 0) dX4_useDraft_95 rfl fl_X4_107 (c := 3) rfl (by omega) rfl rfl ?_
                  obtain ⟨v95, hv95⟩ : ∃ v, v = M89 3 2 := ⟨_, rfl⟩
                  rw [← hv95]
                  rw [hM89, mm_up_c (by decide), i4] at hv95
                  subst hv95
                  refine mm_iload_n dX4_useDraft_98 rfl rfl ?_
                  refine mm_istk (k0 := S) dX4_useDraft_99 rfl (c := 7) rfl (by omega) rfl (by omega) (by omega) (fun M99 hM99 => ?_)
                  refine mm_aload_n dX4_useDraft_100 rfl rfl ?_
                  refine mm_getr dX4_useDraft_101 rfl fl_X4_24 (c := 3) rfl (by omega) rfl rfl ((by first | exact r5 | (simp [hM99, hM89, mm_up]; exact r5))) ?_
                  refine mm_aload_n dX4_useDraft_104 rfl rfl ?_
                  refine mm_get (kd := 0) dX4_useDraft_105 rfl fl_X4_107 (c := 3) rfl (by omega) rfl rfl ?_
                  obtain ⟨v105, hv105⟩ : ∃ v, v = M99 3 2 := ⟨_, rfl⟩
                  rw [← hv105]
                  rw [hM99, mm_up_c (by decide), hM89, mm_up_c (by decide), i4] at hv105
                  subst hv105
                  refine mm_iload_n dX4_useDraft_108 rfl rfl ?_
                  refine mm_istk (k0 := S) dX4_useDraft_109 rfl (c := 8) rfl (by omega) rfl (by omega) (by omega) (fun M109 hM109 => ?_)
                  refine mm_aload_n dX4_useDraft_110 rfl rfl ?_
                  refine mm_getr dX4_useDraft_111 rfl fl_X4_27 (c := 3) rfl (by omega) rfl rfl ((by first | exact r6 | (simp [hM109, hM99, hM89, mm_up]; exact r6))) ?_
                  refine mm_aload_n dX4_useDraft_114 rfl rfl ?_
                  refine mm_get (kd := 0) dX4_useDraft_115 rfl fl_X4_107 (c := 3) rfl (by omega) rfl rfl ?_
                  obtain ⟨v115, hv115⟩ : ∃ v, v = M109 3 2 := ⟨_, rfl⟩
                  rw [← hv115]
                  rw [hM109, mm_up_c (by decide), hM99, mm_up_c (by decide), hM89, mm_up_c (by decide), i4] at hv115
                  subst hv115
                  refine mm_aload_n dX4_useDraft_118 rfl rfl ?_
                  refine mm_getr dX4_useDraft_119 rfl fl_X4_11 (c := 3) rfl (by omega) rfl rfl ((by first | exact r0 | (simp [hM109, hM99, hM89, mm_up]; exact r0))) ?_
                  refine mm_iconst dX4_useDraft_122 rfl ?_
                  refine mm_ialk (k0 := 3) dX4_useDraft_123 rfl (c := 4) rfl (by omega) rfl rfl (by decide) ?_
                  rw [show M109 4 = N 4 from by rw [hM109, mm_up_row (by decide), hM99, mm_up_row (by decide), hM89, mm_up_row (by decide)]]
                  rw [i3]
                  refine mm_iload_n dX4_useDraft_124 rfl rfl ?_
                  refine mm_iconst dX4_useDraft_125 rfl ?_
                  refine mm_iadd dX4_useDraft_126 rfl ?_
                  refine mm_imul dX4_useDraft_127 rfl ?_
                  refine mm_iload_n dX4_useDraft_128 rfl rfl ?_
                  refine mm_iconst dX4_useDraft_129 rfl ?_
                  refine mm_iadd dX4_useDraft_130 rfl ?_
                  refine mm_imul dX4_useDraft_131 rfl ?_
                  refine mm_iload_n dX4_useDraft_132 rfl rfl ?_
                  refine mm_idiv dX4_useDraft_133 rfl (by omega) (by omega) (by omega) ?_
                  rw [etd]
                  refine mm_istk (k0 := S) dX4_useDraft_134 rfl (c := 9) rfl (by omega) rfl (by omega) (by omega) (fun M134 hM134 => ?_)
                  refine mm_aload_n dX4_useDraft_135 rfl rfl ?_
                  refine mm_getr dX4_useDraft_136 rfl fl_X4_30 (c := 3) rfl (by omega) rfl rfl ((by first | exact r7 | (simp [hM134, hM109, hM99, hM89, mm_up]; exact r7))) ?_
                  refine mm_aload_n dX4_useDraft_139 rfl rfl ?_
                  refine mm_get (kd := 0) dX4_useDraft_140 rfl fl_X4_107 (c := 3) rfl (by omega) rfl rfl ?_
                  obtain ⟨v140, hv140⟩ : ∃ v, v = M134 3 2 := ⟨_, rfl⟩
                  rw [← hv140]
                  rw [hM134, mm_up_c (by decide), hM109, mm_up_c (by decide), hM99, mm_up_c (by decide), hM89, mm_up_c (by decide), i4] at hv140
                  subst hv140
                  refine mm_aload_n dX4_useDraft_143 rfl rfl ?_
                  refine mm_getr dX4_useDraft_144 rfl fl_X4_27 (c := 3) rfl (by omega) rfl rfl ((by first | exact r6 | (simp [hM134, hM109, hM99, hM89, mm_up]; exact r6))) ?_
                  refine mm_aload_n dX4_useDraft_147 rfl rfl ?_
                  refine mm_get (kd := 0) dX4_useDraft_148 rfl fl_X4_107 (c := 3) rfl (by omega) rfl rfl ?_
                  obtain ⟨v148, hv148⟩ : ∃ v, v = M134 3 2 := ⟨_, rfl⟩
                  rw [← hv148]
                  rw [hM134, mm_up_c (by decide), hM109, mm_up_c (by decide), hM99, mm_up_c (by decide), hM89, mm_up_c (by decide), i4] at hv148
                  subst hv148
                  refine mm_ialk (k0 := S) dX4_useDraft_151 rfl (c := 9) rfl (by omega) rfl (by omega) (by omega) ?_
                  have e151 : M134 9 S = K 3 * ((p : Int) + 1) * ((w : Int) + 1) / K 1 := by rw [hM134, mm_up_s]
                  rw [e151]
                  refine mm_bipush dX4_useDraft_152 rfl (by decide) ?_
                  refine mm_idiv dX4_useDraft_154 rfl (by omega) (by omega) (by omega) ?_
                  rw [mm_tdiv hdb.1]
                  refine mm_iconst dX4_useDraft_155 rfl ?_
                  refine mm_min dX4_useDraft_156 rfl lm_X4_110 rfl rfl (by simp) (by omega) (by omega) ?_
                  refine mm_istk (k0 := S) dX4_useDraft_159 rfl (c := 10) rfl (by omega) rfl (by omega) (by omega) (fun M159 hM159 => ?_)
                  refine mm_aload_n dX4_useDraft_160 rfl rfl ?_
                  refine mm_dup dX4_useDraft_161 rfl (by simp) ?_
                  refine mm_get (kd := 0) dX4_useDraft_162 rfl fl_X4_107 (c := 3) rfl (by omega) rfl rfl ?_
                  obtain ⟨v162, hv162⟩ : ∃ v, v = M159 3 2 := ⟨_, rfl⟩
                  rw [← hv162]
                  rw [hM159, mm_up_c (by decide), hM134, mm_up_c (by decide), hM109, mm_up_c (by decide), hM99, mm_up_c (by decide), hM89, mm_up_c (by decide), i4] at hv162
                  subst hv162
                  refine mm_iconst dX4_useDraft_165 rfl ?_
                  refine mm_iadd dX4_useDraft_166 rfl ?_
                  refine mm_puti dX4_useDraft_167 rfl fl_X4_107 (c := 3) rfl (by omega) rfl rfl (fun M167 hM167 => ?_)
                  refine mm_iinc dX4_useDraft_170 rfl rfl (Nat.le_of_ble_eq_true rfl) rfl ?_
                  refine mm_goto dX4_useDraft_173 ?_
                  refine ihc hcl _ ?_
                  rw [hI, hnext]
                  refine ⟨?_, ?_, ?_, ?_, ?_⟩
                  · intro a a1 a2 a3
                    have n1 : a ≠ 6 := by omega
                    have n2 : a ≠ 7 := by omega
                    have n3 : a ≠ 8 := by omega
                    have n4 : a ≠ 9 := by omega
                    have n5 : a ≠ 10 := by omega
                    funext b
                    simp [hM167, hM159, hM134, hM109, hM99, hM89, mm_up, a1, n1, n2, n3, n4, n5]
                    rw [i1 a a1 a2 a3]
                  · intro b hb; simp [hM167, hM159, hM134, hM109, hM99, hM89, mm_up, hb]; exact i2 b hb
                  · rw [← i3]; funext b; simp [hM167, hM159, hM134, hM109, hM99, hM89, mm_up]
                  · simp [hM167, hM159, hM134, hM109, hM99, hM89, mm_up]
                  · intro s hs
                    by_cases q : s = S
                    · rw [q, hdc.1, hdc.2.1, hdc.2.2, eh, ebd]
                      simp [hM167, hM159, hM134, hM109, hM99, hM89, mm_up]
                    · have := i5 s (by omega)
                      simp [hM167, hM159, hM134, hM109, hM99, hM89, mm_up, q]
                      exact this
            · have ec : (c : Int) = K 0 := by omega
              have enx : ks_f K c w p = ks_f K 0 ((w + 1 : Nat) : Int) p := by
                rw [ec]
                unfold ks_f
                rw [show ((w + 1 : Nat) : Int) = (w : Int) + 1 by omega]
                simp only [Int.mul_add, Int.mul_one, Int.zero_add]
                omega
              rw [enx] at hIN0
              have r0 := hRN.1
              refine mm_iload dX4_useDraft_58 rfl rfl ?_
              refine mm_aload_n dX4_useDraft_60 rfl rfl ?_
              refine mm_getr dX4_useDraft_61 rfl fl_X4_11 (c := 3) rfl (by omega) rfl rfl (r0) ?_
              refine mm_iconst dX4_useDraft_64 rfl ?_
              refine mm_ialk (k0 := 0) dX4_useDraft_65 rfl (c := 4) rfl (by omega) rfl rfl (by decide) ?_
              rw [i3]
              refine mm_icge dX4_useDraft_66 (by omega) (by omega) (fun h66 => ?_) (fun h66 => ?_)
              · refine mm_iinc dX4_useDraft_176 rfl rfl (Nat.le_of_ble_eq_true rfl) rfl ?_
                refine mm_goto dX4_useDraft_179 ?_
                exact ihw hwl N _ hIN0
              · exfalso; omega
          have r0 := hRN.1
          refine mm_iload_n dX4_useDraft_45 rfl rfl ?_
          refine mm_aload_n dX4_useDraft_46 rfl rfl ?_
          refine mm_getr dX4_useDraft_47 rfl fl_X4_11 (c := 3) rfl (by omega) rfl rfl (r0) ?_
          refine mm_iconst dX4_useDraft_50 rfl ?_
          refine mm_ialk (k0 := 1) dX4_useDraft_51 rfl (c := 4) rfl (by omega) rfl rfl (by decide) ?_
          rw [i3]
          refine mm_icge dX4_useDraft_52 (by omega) (by omega) (fun h52 => ?_) (fun h52 => ?_)
          · exfalso; omega
          · refine mm_iconst dX4_useDraft_55 rfl ?_
            refine mm_istore dX4_useDraft_56 rfl (Nat.le_of_ble_eq_true rfl) rfl ?_
            refine col 0 (Nat.zero_le _) N ?_
            rw [hI]
            exact ⟨i1, i2, i3, i4, i5⟩
        · have ew : (w : Int) = K 1 := by omega
          have enx : ks_f K 0 w p = ks_f K 0 0 ((p + 1 : Nat) : Int) := by
            rw [ew]
            unfold ks_f
            rw [show ((p + 1 : Nat) : Int) = (p : Int) + 1 by omega]
            simp only [Int.mul_add, Int.mul_one, Int.zero_add]
            omega
          have r0 := hRN.1
          refine mm_iload_n dX4_useDraft_45 rfl rfl ?_
          refine mm_aload_n dX4_useDraft_46 rfl rfl ?_
          refine mm_getr dX4_useDraft_47 rfl fl_X4_11 (c := 3) rfl (by omega) rfl rfl (r0) ?_
          refine mm_iconst dX4_useDraft_50 rfl ?_
          refine mm_ialk (k0 := 1) dX4_useDraft_51 rfl (c := 4) rfl (by omega) rfl rfl (by decide) ?_
          rw [i3]
          refine mm_icge dX4_useDraft_52 (by omega) (by omega) (fun h52 => ?_) (fun h52 => ?_)
          · refine mm_iinc dX4_useDraft_182 rfl rfl (Nat.le_of_ble_eq_true rfl) rfl ?_
            refine mm_goto dX4_useDraft_185 ?_
            refine ihp hpl N _ _ ?_
            rw [hI, ← enx]
            exact ⟨i1, i2, i3, i4, i5⟩
          · exfalso; omega
      have r0 := hRN.1
      refine mm_iload_n dX4_useDraft_33 rfl rfl ?_
      refine mm_aload_n dX4_useDraft_34 rfl rfl ?_
      refine mm_getr dX4_useDraft_35 rfl fl_X4_11 (c := 3) rfl (by omega) rfl rfl (r0) ?_
      refine mm_iconst dX4_useDraft_38 rfl ?_
      refine mm_ialk (k0 := 2) dX4_useDraft_39 rfl (c := 4) rfl (by omega) rfl rfl (by decide) ?_
      rw [i3]
      refine mm_icge dX4_useDraft_40 (by omega) (by omega) (fun h40 => ?_) (fun h40 => ?_)
      · exfalso; omega
      · refine mm_iconst dX4_useDraft_43 rfl ?_
        refine mm_istore_n dX4_useDraft_44 rfl (Nat.le_of_ble_eq_true rfl) rfl ?_
        refine row 0 (Nat.zero_le _) N _ ?_
        rw [hI]
        exact ⟨i1, i2, i3, i4, i5⟩
    · have ep : (p : Int) = K 2 := by omega
      have enx : ks_f K 0 0 p = ks_n K := by
        rw [ep]
        unfold ks_f ks_n
        rw [Int.zero_add, Int.zero_add, Int.mul_assoc]
      rw [enx] at i4 i5
      have r0 := hRN.1
      rw [hΦ]
      refine mm_iload_n dX4_useDraft_33 rfl rfl ?_
      refine mm_aload_n dX4_useDraft_34 rfl rfl ?_
      refine mm_getr dX4_useDraft_35 rfl fl_X4_11 (c := 3) rfl (by omega) rfl rfl (r0) ?_
      refine mm_iconst dX4_useDraft_38 rfl ?_
      refine mm_ialk (k0 := 2) dX4_useDraft_39 rfl (c := 4) rfl (by omega) rfl rfl (by decide) ?_
      rw [i3]
      refine mm_icge dX4_useDraft_40 (by omega) (by omega) (fun h40 => ?_) (fun h40 => ?_)
      · refine mm_vret dX4_useDraft_188 rfl rfl ?_
        refine ⟨rfl, i1, i2, ?_, ?_⟩
        · intro b hb; rw [i3]; exact hK5 b hb
        · unfold mm_CK
          rw [i3]
          exact ⟨hKV, i4, fun s hs => i5 s hs.2⟩
      · exfalso; omega
  refine mm_aload_n dX4_useDraft_0 rfl rfl ?_
  refine mm_getr dX4_useDraft_1 rfl fl_X4_15 (c := 3) rfl (by omega) rfl rfl (hR.2.1) ?_
  refine mm_iconst dX4_useDraft_4 rfl ?_
  refine mm_aload_n dX4_useDraft_5 rfl rfl ?_
  refine mm_getr dX4_useDraft_6 rfl fl_X4_11 (c := 3) rfl (by omega) rfl rfl ((by first | exact hR.1 | (simp [mm_up, hN12, mm_cp]; exact hR.1))) ?_
  refine mm_iconst dX4_useDraft_9 rfl ?_
  refine mm_bipush dX4_useDraft_10 rfl (by decide) ?_
  refine mm_copy dX4_useDraft_12 rfl la_X4_95 rfl rfl (c := 5) rfl (by omega) rfl (d := 4) rfl (by omega) rfl (by omega) (by omega) (by omega) (by omega) (by omega) ?_
  obtain ⟨N12, hN12⟩ : ∃ N, N = mm_cp M 4 (M 5) (0 : Int).toNat (0 : Int).toNat (36 : Int).toNat := ⟨_, rfl⟩
  rw [← hN12]
  have e4 : N12 4 = K := by
    rw [hN12, hKd]
    funext b
    simp [mm_cp]
  have ea : ∀ a, a ≠ 4 → N12 a = M a := by intro a ha; rw [hN12]; funext b; simp [mm_cp, ha]
  refine mm_aload_n dX4_useDraft_15 rfl rfl ?_
  refine mm_getr dX4_useDraft_16 rfl fl_X4_11 (c := 3) rfl (by omega) rfl rfl ((by first | exact hR.1 | (simp [mm_up, hN12, mm_cp]; exact hR.1))) ?_
  refine mm_iconst dX4_useDraft_19 rfl ?_
  refine mm_ialk (k0 := 1) dX4_useDraft_20 rfl (c := 4) rfl (by omega) rfl rfl (by decide) ?_
  rw [e4]
  refine mm_iconst dX4_useDraft_21 rfl ?_
  refine mm_max dX4_useDraft_22 rfl lm_X4_101 rfl rfl (by simp) (by omega) (by omega) ?_
  refine mm_istore_n dX4_useDraft_25 rfl (Nat.le_of_ble_eq_true rfl) rfl ?_
  refine mm_aload_n dX4_useDraft_26 rfl rfl ?_
  refine mm_iconst dX4_useDraft_27 rfl ?_
  refine mm_puti dX4_useDraft_28 rfl fl_X4_107 (c := 3) rfl (by omega) rfl rfl (fun M28 hM28 => ?_)
  refine mm_iconst dX4_useDraft_31 rfl ?_
  refine mm_istore_n dX4_useDraft_32 rfl (Nat.le_of_ble_eq_true rfl) rfl ?_
  rw [show max (K 1) 1 = K 1 by omega]
  refine rope 0 (Nat.zero_le _) _ _ _ ?_
  rw [hI]
  refine ⟨?_, ?_, ?_, ?_, ?_⟩
  · intro a a1 a2 a3; rw [hM28, mm_up_row a1]; exact ea a a2
  · intro b hb; rw [hM28, mm_up_i hb, ea 3 (by decide)]
  · rw [hM28, mm_up_row (by decide)]; exact e4
  · rw [hM28, mm_up_s]; unfold ks_f; simp
  · intro s hs; unfold ks_f at hs; simp at hs; omega
end
end
/-! 99.kite -/
section
/-! ===== the text of a kite: what it tells ===== -/
abbrev kp_E : Type := Except (Int × Nat) (Nat × (Nat → Int))
def kp_put (D : Nat → Int) (pl room c : Nat) (v : Int) (i : Nat) : Int := if pl = 20 ∧ i = 10 then (c : Int) + 1 else if pl + c ≤ i ∧ i < pl + room then v else D i
/-- the numbers of lift or window, from the c-th on, at p -/
def kp_list (B : Nat → Int) (n pl room : Nat) (most : Int) : Nat → Nat → Nat → (Nat → Int) → kp_E
  | 0, _, _, _ => .error (0, 0)
  | k + 1, c, p, D => if 0 < c ∧ kt_k B n p = 3 then .ok (kt_e B n p, D) else if ¬ kt_k B n p = 2 then .error (1, kt_s B n p) else if most < kt_v B n p then .error (2, kt_s B n p) else if c = room then .error (4, kt_s B n p) else kp_list B n pl room most k (c + 1) (kt_e B n p) (kp_put D pl room c (kt_v B n p))
def kp_lo : List Int := [2, 2, 2, 5, 0, 1, 0, 0, 100, 0]
def kp_hi : List Int := [6, 6, 8, 50, 9999, 99999, 9999, 400, 400, 99999]
/-- a clause behind its name -/
def kp_clause (B : Nat → Int) (n nm p : Nat) (D : Nat → Int) : kp_E :=
  if nm = 10 then kp_list B n 20 3 99 4 0 p D else if 10 < nm then kp_list B n 30 6 100 7 0 p D
  else if ¬ kt_k B n p = 2 then .error (1, kt_s B n p) else if ¬ (kp_lo.getD nm 0 ≤ kt_v B n p ∧ kt_v B n p ≤ kp_hi.getD nm 0) then .error (2, kt_s B n p)
  else if ¬ kt_k B n (kt_e B n p) = 3 then .error (1, kt_s B n (kt_e B n p)) else .ok (kt_e B n (kt_e B n p), fun i => if i = nm then kt_v B n p else D i)
/-- the word at p among those of text k0 -/
def kp_nm (B : Nat → Int) (n p k0 : Nat) : Int := if kt_k B n p = 1 then kt_f (fun j => B (kt_s B n p + j)) (kt_e B n p - kt_s B n p) (mm_sc.getD k0 mm_sd).2.2.2 0 0 true else -1
/-- clauses to the end: how many, and the kite -/
def kp_text (B : Nat → Int) (n : Nat) : Nat → Nat → Nat → Nat → (Nat → Int) → kp_E
  | 0, _, _, _, _ => .error (0, 0)
  | k + 1, c, p, t, D => if kt_k B n p = 0 then .ok (c, D) else if kp_nm B n p 0 < 0 then .error (1, kt_s B n p) else if t.testBit (kp_nm B n p 0).toNat = true then .error (3, kt_s B n p)
    else match kp_clause B n (kp_nm B n p 0).toNat (kt_e B n p) D with
      | .error f => .error f
      | .ok (p', D') => kp_text B n k (c + 1) p' (t ||| 2 ^ (kp_nm B n p 0).toNat) D'
theorem kp_put_KV {D : Nat → Int} (h : mm_KV D) {c : Nat} {v : Int} : (c < 3 → 0 ≤ v ∧ v ≤ 99 → mm_KV (kp_put D 20 3 c v)) ∧ (c < 6 → 0 ≤ v ∧ v ≤ 100 → mm_KV (kp_put D 30 6 c v)) := by
  obtain ⟨a0, a1, a2, a3, a4, a5, a6, a7, a8, a9, a10, a11, a12⟩ := h
  have low : ∀ (pl room i : Nat), 20 ≤ pl → i < 10 → kp_put D pl room c v i = D i := by
    intro pl room i hp hi
    unfold kp_put
    rw [if_neg (by omega), if_neg (by omega)]
  constructor
  · intro hc hv
    have e10 : kp_put D 20 3 c v 10 = (c : Int) + 1 := by unfold kp_put; rw [if_pos ⟨rfl, rfl⟩]
    unfold mm_KV
    rw [low 20 3 0 (by omega) (by omega), low 20 3 1 (by omega) (by omega), low 20 3 2 (by omega) (by omega), low 20 3 3 (by omega) (by omega), low 20 3 4 (by omega) (by omega), low 20 3 5 (by omega) (by omega), low 20 3 6 (by omega) (by omega), low 20 3 7 (by omega) (by omega), low 20 3 8 (by omega) (by omega), low 20 3 9 (by omega) (by omega), e10]
    refine ⟨a0, a1, a2, a3, a4, a5, a6, a7, a8, a9, by omega, fun i hi => ?_, fun i hi => ?_⟩
    · unfold kp_put
      rw [if_neg (by omega)]
      split
      · exact hv
      · exact a11 i hi
    · unfold kp_put
      rw [if_neg (by omega), if_neg (by omega)]
      exact a12 i hi
  · intro hc hv
    have e10 : kp_put D 30 6 c v 10 = D 10 := by unfold kp_put; rw [if_neg (by omega), if_neg (by omega)]
    unfold mm_KV
    rw [low 30 6 0 (by omega) (by omega), low 30 6 1 (by omega) (by omega), low 30 6 2 (by omega) (by omega), low 30 6 3 (by omega) (by omega), low 30 6 4 (by omega) (by omega), low 30 6 5 (by omega) (by omega), low 30 6 6 (by omega) (by omega), low 30 6 7 (by omega) (by omega), low 30 6 8 (by omega) (by omega), low 30 6 9 (by omega) (by omega), e10]
    refine ⟨a0, a1, a2, a3, a4, a5, a6, a7, a8, a9, a10, fun i hi => ?_, fun i hi => ?_⟩
    · unfold kp_put
      rw [if_neg (by omega), if_neg (by omega)]
      exact a11 i hi
    · unfold kp_put
      rw [if_neg (by omega)]
      split
      · exact hv
      · exact a12 i hi
/-- while a kite's text is read: only the tape's words and the draft have changed -/
def kp_I (M N : mm_M) (n p : Nat) : Prop := mm_Rf N ∧ (∀ a, a ≠ 1 → a ≠ 5 → N a = M a) ∧ (∀ b, b < 2 → N 1 b = M 1 b) ∧ mm_CT N n ∧ p ≤ n ∧ N 1 7 = (p : Int) ∧ mm_KV (N 5)
/-- how a piece of it ends -/
def kp_P (M N M' : mm_M) (n : Nat) (e : kp_E) (r : mm_V) : Prop := match e with
  | .ok (p', D') => r = (0, 1) ∧ kp_I M M' n p' ∧ M' 5 = D' ∧ M' 1 2 = N 1 2 ∧ M' 1 3 = N 1 3
  | .error (k, s) => r = (0, 0) ∧ mm_Rf M' ∧ (∀ a, a ≠ 1 → a ≠ 5 → M' a = M a) ∧ (∀ b, b < 2 → M' 1 b = M 1 b) ∧ mm_KV (M' 5) ∧ M' 1 2 = k ∧ M' 1 3 = (s : Int)
theorem kt_A.ct {M N : mm_M} {n p : Nat} (h : kt_A M N n p) (hT : mm_CT M n) : mm_CT N n := ⟨(h.2.1 1 (by decide)).trans hT.1, hT.2.1, by rw [h.1 2 (by decide)]; exact hT.2.2⟩
section
variable {X : mm_X} {M N : mm_M} {n p pl room : Nat} {most : Int}
/-- advance, while a kite's text is read -/
theorem kp_adv (hI : kp_I M N n p) : mm_C X Y_X10_advance 243 243 [(2, 2)] N (fun r M' => r = (3, 0) ∧ mm_Rf M' ∧ kt_A N M' n p ∧ kp_I M M' n (kt_e (M 2) n p) ∧ M' 5 = N 5 ∧ M' 1 2 = N 1 2 ∧ M' 1 3 = N 1 3 ∧ M' 1 5 = kt_k (M 2) n p ∧ M' 1 6 = (kt_s (M 2) n p : Int) ∧ (kt_k (M 2) n p = 2 → M' 1 4 = kt_v (M 2) n p)) := by
  obtain ⟨i1, i2, i3, i4, i5, i6, i7⟩ := hI
  have e2 : N 2 = M 2 := i2 2 (by decide) (by decide)
  refine mm_Cmono (c_X10_advance i1 i4 i5 i6) ?_
  rintro r M' ⟨h1, h2, h3⟩
  obtain ⟨q1, q2, q3, q4, q5, q6⟩ := id h3
  rw [e2] at q3 q4 q5 q6
  refine ⟨h1, h2, h3, ⟨h2, ?_, ?_, h3.ct i4, (kt_eb i5).2, q5, ?_⟩, q1 5 (by decide), q2 2 (by decide), q2 3 (by decide), q3, q4, q6⟩
  · intro a a1 a2; rw [q1 a a1]; exact i2 a a1 a2
  · intro b hb; rw [q2 b (by omega)]; exact i3 b hb
  · rw [q1 5 (by decide)]; exact i7
/-- a number within bounds, or the fault is marked -/
theorem c_X10_num {lo hi : Int} (hR : mm_Rf M) (hk : mm_R (M 1 5)) (hv : M 1 5 = 2 → mm_R (M 1 4)) (hlo : mm_R lo) (hhi : mm_R hi) :
    mm_C X Y_X10_isNumberWithin 243 243 [(2, 2), (0, lo), (0, hi)] M (fun r M' => ∃ z : Int, r = (0, z) ∧ mm_Rf M' ∧ ((z = 1 ∧ M' = M ∧ M 1 5 = 2 ∧ lo ≤ M 1 4 ∧ M 1 4 ≤ hi) ∨ (z = 0 ∧ ¬ (M 1 5 = 2 ∧ lo ≤ M 1 4 ∧ M 1 4 ≤ hi) ∧ M' = mm_up (mm_up M 1 2 (if M 1 5 = 2 then 2 else 1)) 1 3 (M 1 6)))) := by
  refine mm_Cmono (c_X10_isNumberWithin hR hk hv hlo hhi) ?_
  rintro r M' ⟨rfl, rfl⟩
  by_cases h : M 1 5 = 2 ∧ lo ≤ M 1 4 ∧ M 1 4 ≤ hi
  · rw [if_pos h, mm_b_t h]
    exact ⟨1, rfl, hR, Or.inl ⟨rfl, rfl, h⟩⟩
  · rw [if_neg h, mm_b_f h]
    exact ⟨0, rfl, (hR.up rfl).up rfl, Or.inr ⟨rfl, h, rfl⟩⟩
/-- a fault that is marked at the token behind p ends the reading -/
theorem kp_bad {M' : mm_M} {k : Int} {s : Nat} (hI : kp_I M N n p) (hs : N 1 6 = (s : Int)) (hM : M' = mm_up (mm_up N 1 2 k) 1 3 (N 1 6)) (Q : mm_M) : kp_P M Q M' n (.error (k, s)) (0, 0) := by
  obtain ⟨i1, i2, i3, i4, i5, i6, i7⟩ := hI
  refine ⟨rfl, by rw [hM]; exact (i1.up rfl).up rfl, ?_, ?_, ?_, ?_, ?_⟩
  · intro a a1 a2; rw [hM, mm_up_row a1, mm_up_row a1]; exact i2 a a1 a2
  · intro b hb; rw [hM, mm_up_i (by omega), mm_up_i (by omega)]; exact i3 b hb
  · rw [hM, mm_up_row (by decide), mm_up_row (by decide)]; exact i7
  · rw [hM, mm_up_i (by decide), mm_up_s]
  · rw [hM, mm_up_s]; exact hs
theorem c_X4_takeList (hpl : (pl = 20 ∧ room = 3 ∧ most = 99) ∨ (pl = 30 ∧ room = 6 ∧ most = 100)) (hI : kp_I M N n p) :
    mm_C X Y_X4_takeList 243 243 [(2, 4), (2, 2), (0, (pl : Int)), (0, (room : Int)), (0, most)] N (fun r M' => kp_P M N M' n (kp_list (M 2) n pl room most (room + 1) 0 p (N 5)) r) := by
  have hroom : room ≤ 6 := by omega
  obtain ⟨E, hE⟩ : ∃ E, E = kp_list (M 2) n pl room most (room + 1) 0 p (N 5) := ⟨_, rfl⟩
  rw [← hE]
  refine mm_start (ls := [(2, 4), (2, 2), (0, (pl : Int)), (0, (room : Int)), (0, most), (9, 0)]) rfl ?_
  have loop : ∀ c : Nat, c ≤ room → ∀ (Q : mm_M) (p : Nat), kp_I M Q n p → Q 1 2 = N 1 2 → Q 1 3 = N 1 3 → kp_list (M 2) n pl room most (room + 1 - c) c p (Q 5) = E → mm_J X Y_X4_takeList 243 243 243 3 [(2, 4), (2, 2), (0, (pl : Int)), (0, (room : Int)), (0, most), (0, (c : Int))] [] Q (fun r M' => kp_P M N M' n E r) := by
    refine mm_lp ?_
    intro c hc ih Q p hQ hq2 hq3 hL
    have hRQ := hQ.1
    have hkb := kt_kb (B := M 2) (n := n) (p := p)
    have hvb := kt_vb (B := M 2) (n := n) (p := p)
    rw [show room + 1 - c = (room - c) + 1 by omega, kp_list] at hL
    -- behind the semicolon's test
    have nx : ∀ T : mm_M, kp_I M T n (kt_e (M 2) n p) → T 5 = Q 5 → T 1 2 = N 1 2 → T 1 3 = N 1 3 → T 1 5 = kt_k (M 2) n p → T 1 6 = (kt_s (M 2) n p : Int) → (kt_k (M 2) n p = 2 → T 1 4 = kt_v (M 2) n p) → ¬ (0 < c ∧ kt_k (M 2) n p = 3) →
        mm_J X Y_X4_takeList 243 243 243 27 [(2, 4), (2, 2), (0, (pl : Int)), (0, (room : Int)), (0, most), (0, (c : Int))] [] T (fun r M' => kp_P M N M' n E r) := by
      intro T hT e5 e12 e13 ek es ev hns
      have hRT := hT.1
      rw [if_neg hns] at hL
      refine mm_aload_n dX4_takeList_27 rfl rfl ?_
      refine mm_iconst dX4_takeList_28 rfl ?_
      refine mm_iload dX4_takeList_29 rfl rfl ?_
      refine mm_V2g (M1 := T) dX4_takeList_31 rfl lk_X4_75 (c := 1) rfl (by decide) rfl (by simp) (by simp) rfl rfl rfl (c_X10_num hRT (by omega) (by intro z; rw [ek] at z; rw [ev z]; omega) (by omega) (by omega)) ?_
      rintro _ N31 ⟨x31, rfl, p31⟩
      change mm_J _ _ _ _ _ _ _ _ _ _
      have hR31 : mm_Rf N31 := p31.1
      obtain ⟨-, hz⟩ := p31
      have hz01 : x31 = 0 ∨ x31 = 1 := by rcases hz with ⟨z, -⟩ | ⟨z, -⟩ <;> omega
      refine mm_ifne dX4_takeList_34 (by omega) (fun h34 => ?_) (fun h34 => ?_)
      · obtain ⟨eN, z2, z3⟩ : N31 = T ∧ T 1 5 = 2 ∧ 0 ≤ T 1 4 ∧ T 1 4 ≤ most := by
          rcases hz with ⟨z1, z2, z3, z4⟩ | ⟨z, -⟩
          · exact ⟨z2, z3, z4⟩
          · omega
        have hk2 : kt_k (M 2) n p = 2 := by rw [← ek]; exact z2
        have ev2 := ev hk2
        rw [if_neg (fun z => z hk2), if_neg (by omega)] at hL
        have hI3 : kp_I M N31 n (kt_e (M 2) n p) := by rw [eN]; exact hT
        have es3 : N31 1 6 = (kt_s (M 2) n p : Int) := by rw [eN]; exact es
        have ev3 : N31 1 4 = kt_v (M 2) n p := by rw [eN]; exact ev2
        have e53 : N31 5 = Q 5 := by rw [eN]; exact e5
        have e123 : N31 1 2 = N 1 2 := by rw [eN]; exact e12
        have e133 : N31 1 3 = N 1 3 := by rw [eN]; exact e13
        refine mm_iload dX4_takeList_39 rfl rfl ?_
        refine mm_iload_n dX4_takeList_41 rfl rfl ?_
        refine mm_icne dX4_takeList_42 (by omega) (by omega) (fun h42 => ?_) (fun h42 => ?_)
        · refine mm_aload_n dX4_takeList_51 rfl rfl ?_
          refine mm_getr dX4_takeList_52 rfl fl_X4_15 (c := 3) rfl (by decide) rfl rfl (hR31.at (c := 3) (i := 1) (v := 6) rfl (by decide)) ?_
          refine mm_iload_n dX4_takeList_55 rfl rfl ?_
          refine mm_iload dX4_takeList_56 rfl rfl ?_
          refine mm_iadd dX4_takeList_58 rfl ?_
          refine mm_iload_n dX4_takeList_59 rfl rfl ?_
          refine mm_iload_n dX4_takeList_60 rfl rfl ?_
          refine mm_iadd dX4_takeList_61 rfl ?_
          refine mm_aload_n dX4_takeList_62 rfl rfl ?_
          refine mm_get (kd := 0) dX4_takeList_63 rfl fl_X4_79 (c := 1) rfl (by decide) rfl rfl ?_
          obtain ⟨v63, hv63⟩ : ∃ v, v = N31 1 4 := ⟨_, rfl⟩
          rw [← hv63]
          rw [ev3] at hv63
          subst hv63
          obtain ⟨N66, hN66⟩ : ∃ Z, Z = kf_off N31 5 ((pl : Int) + (c : Int)).toNat (fun _ => kt_v (M 2) n p) ((pl : Int) + (room : Int) - ((pl : Int) + (c : Int))).toNat := ⟨_, rfl⟩
          have hR66 : mm_Rf N66 := by rw [hN66]; exact hR31.fo (len := 36) rfl
          refine mm_S4v dX4_takeList_66 rfl lk_X4_86 (by simp) (by simp) (by simp) (by simp) rfl rfl rfl ((hN66 ▸ c_J7_fill4 (c := 5) (len := 36) (by decide) rfl (by omega) (by omega))) ?_
          refine mm_iload_n dX4_takeList_69 rfl rfl ?_
          refine mm_bipush dX4_takeList_70 rfl (by decide) ?_
          refine mm_icne dX4_takeList_72 (by omega) (by omega) (fun h72 => ?_) (fun h72 => ?_)
          · refine mm_iinc dX4_takeList_86 rfl rfl (Nat.le_of_ble_eq_true rfl) rfl ?_
            refine mm_goto dX4_takeList_89 ?_
            rw [if_neg (by omega)] at hL
            have hput : N66 5 = kp_put (Q 5) pl room c (kt_v (M 2) n p) := by
              funext i
              unfold kp_put
              rw [← e53]
              have e66 : N66 5 i = if pl + c ≤ i ∧ i < pl + room then kt_v (M 2) n p else N31 5 i := by
                rw [hN66, kf_off_at]
                by_cases q : pl + c ≤ i ∧ i < pl + room
                · rw [if_pos ⟨rfl, by omega, by omega⟩, if_pos q]
                · rw [if_neg (by omega), if_neg q]
              first
              | (rw [if_neg (fun z => h72 (by omega)), e66]; done)
              | (by_cases q : i = 10
                 · rw [if_pos ⟨by omega, q⟩, q, hM85, mm_up_s]
                 · rw [if_neg (fun z => q z.2), hM85, mm_up_i q, e66])
            have hfr : ∀ a, a ≠ 5 → N66 a = T a := by
              intro a ha
              first
              | (rw [hN66, kf_off_n ha, eN]; done)
              | (rw [hM85, mm_up_row ha, hN66, kf_off_n ha, eN])
            obtain ⟨i1, i2, i3, i4, i5, i6, i7⟩ := id hT
            refine ih (by omega) _ (kt_e (M 2) n p) ⟨hR66, ?_, ?_, ⟨?_, i4.2.1, ?_⟩, i5, ?_, ?_⟩ ?_ ?_ ?_
            · intro a a1 a2; rw [hfr a a2]; exact i2 a a1 a2
            · intro b hb; rw [hfr 1 (by decide)]; exact i3 b hb
            · rw [hfr 1 (by decide)]; exact i4.1
            · rw [hfr 2 (by decide)]; exact i4.2.2
            · rw [hfr 1 (by decide)]; exact i6
            · rw [hput]
              rcases hpl with ⟨q1, q2, q3⟩ | ⟨q1, q2, q3⟩
              · rw [q1, q2]; exact (kp_put_KV (by rw [← e5]; exact i7)).1 (by omega) (by omega)
              · rw [q1, q2]; exact (kp_put_KV (by rw [← e5]; exact i7)).2 (by omega) (by omega)
            · rw [hfr 1 (by decide)]; exact e12
            · rw [hfr 1 (by decide)]; exact e13
            · rw [show room + 1 - (c + 1) = room - c by omega, hput]; exact hL
          · refine mm_aload_n dX4_takeList_75 rfl rfl ?_
            refine mm_getr dX4_takeList_76 rfl fl_X4_15 (c := 3) rfl (by decide) rfl rfl (hR66.at (c := 3) (i := 1) (v := 6) rfl (by decide)) ?_
            refine mm_bipush dX4_takeList_79 rfl (by decide) ?_
            refine mm_iload dX4_takeList_81 rfl rfl ?_
            refine mm_iconst dX4_takeList_83 rfl ?_
            refine mm_iadd dX4_takeList_84 rfl ?_
            refine mm_istk (k0 := 10) dX4_takeList_85 rfl (c := 5) rfl (by decide) rfl rfl (by decide) (fun M85 hM85 => ?_)
            have hR85 : mm_Rf M85 := by rw [hM85]; exact hR66.up (mm_rt_ar (t := 0) rfl (by decide))
            refine mm_iinc dX4_takeList_86 rfl rfl (Nat.le_of_ble_eq_true rfl) rfl ?_
            refine mm_goto dX4_takeList_89 ?_
            rw [if_neg (by omega)] at hL
            have hput : M85 5 = kp_put (Q 5) pl room c (kt_v (M 2) n p) := by
              funext i
              unfold kp_put
              rw [← e53]
              have e66 : N66 5 i = if pl + c ≤ i ∧ i < pl + room then kt_v (M 2) n p else N31 5 i := by
                rw [hN66, kf_off_at]
                by_cases q : pl + c ≤ i ∧ i < pl + room
                · rw [if_pos ⟨rfl, by omega, by omega⟩, if_pos q]
                · rw [if_neg (by omega), if_neg q]
              first
              | (rw [if_neg (fun z => h72 (by omega)), e66]; done)
              | (by_cases q : i = 10
                 · rw [if_pos ⟨by omega, q⟩, q, hM85, mm_up_s]
                 · rw [if_neg (fun z => q z.2), hM85, mm_up_i q, e66])
            have hfr : ∀ a, a ≠ 5 → M85 a = T a := by
              intro a ha
              first
              | (rw [hN66, kf_off_n ha, eN]; done)
              | (rw [hM85, mm_up_row ha, hN66, kf_off_n ha, eN])
            obtain ⟨i1, i2, i3, i4, i5, i6, i7⟩ := id hT
            refine ih (by omega) _ (kt_e (M 2) n p) ⟨hR85, ?_, ?_, ⟨?_, i4.2.1, ?_⟩, i5, ?_, ?_⟩ ?_ ?_ ?_
            · intro a a1 a2; rw [hfr a a2]; exact i2 a a1 a2
            · intro b hb; rw [hfr 1 (by decide)]; exact i3 b hb
            · rw [hfr 1 (by decide)]; exact i4.1
            · rw [hfr 2 (by decide)]; exact i4.2.2
            · rw [hfr 1 (by decide)]; exact i6
            · rw [hput]
              rcases hpl with ⟨q1, q2, q3⟩ | ⟨q1, q2, q3⟩
              · rw [q1, q2]; exact (kp_put_KV (by rw [← e5]; exact i7)).1 (by omega) (by omega)
              · rw [q1, q2]; exact (kp_put_KV (by rw [← e5]; exact i7)).2 (by omega) (by omega)
            · rw [hfr 1 (by decide)]; exact e12
            · rw [hfr 1 (by decide)]; exact e13
            · rw [show room + 1 - (c + 1) = room - c by omega, hput]; exact hL
        · refine mm_aload_n dX4_takeList_45 rfl rfl ?_
          refine mm_iconst dX4_takeList_46 rfl ?_
          refine mm_V1i dX4_takeList_47 rfl lk_X4_57 (c := 1) rfl (by decide) rfl (by simp) rfl rfl rfl (c_X10_fails hR31) ?_
          refine mm_zret dX4_takeList_50 rfl rfl (Or.inl rfl) ?_
          rw [if_pos (by omega)] at hL
          rw [← hL]
          exact kp_bad hI3 es3 rfl N
      · refine mm_iconst dX4_takeList_37 rfl ?_
        refine mm_zret dX4_takeList_38 rfl rfl (Or.inl rfl) ?_
        rcases hz with ⟨z, -⟩ | ⟨z1, z2, z3⟩
        · omega
        · rw [ek] at z2 z3
          by_cases q : kt_k (M 2) n p = 2
          · rw [if_pos q] at z3
            rw [if_neg (fun y => y q), if_pos (by have := ev q; omega)] at hL
            rw [← hL]
            exact kp_bad hT es z3 N
          · rw [if_neg q] at z3
            rw [if_pos q] at hL
            rw [← hL]
            exact kp_bad hT es z3 N
    refine mm_iload dX4_takeList_3 rfl rfl ?_
    refine mm_iload_n dX4_takeList_5 rfl rfl ?_
    refine mm_icgt dX4_takeList_6 (by omega) (by omega) (fun h6 => ?_) (fun h6 => ?_)
    · exfalso; omega
    · refine mm_aload_n dX4_takeList_9 rfl rfl ?_
      refine mm_V0g (M1 := Q) dX4_takeList_10 rfl lk_X4_44 (c := 1) rfl (by decide) rfl  rfl rfl rfl (kp_adv hQ) ?_
      rintro _ N10 ⟨rfl, p10⟩
      change mm_J _ _ _ _ _ _ _ _ _ _
      have hR10 : mm_Rf N10 := p10.1
      obtain ⟨-, hA, hI2, e5, e12, e13, ek, es, ev⟩ := p10
      refine mm_iload dX4_takeList_13 rfl rfl ?_
      refine mm_ifle dX4_takeList_15 (by omega) (fun h15 => ?_) (fun h15 => ?_)
      · refine nx _ hI2 e5 (e12.trans hq2) (e13.trans hq3) ek es ev ?_
        first
        | (intro z; omega)
        | (intro z; rw [ek] at h22; exact h22 z.2)
      · refine mm_aload_n dX4_takeList_18 rfl rfl ?_
        refine mm_V0i dX4_takeList_19 rfl lk_X4_83 (c := 1) rfl (by decide) rfl  rfl rfl rfl (c_X10_isSemicolon hR10 (by omega)) ?_
        refine mm_ifeqb dX4_takeList_22 (fun h22 => ?_) (fun h22 => ?_)
        · refine nx _ hI2 e5 (e12.trans hq2) (e13.trans hq3) ek es ev ?_
          first
          | (intro z; omega)
          | (intro z; rw [ek] at h22; exact h22 z.2)
        · refine mm_iconst dX4_takeList_25 rfl ?_
          refine mm_zret dX4_takeList_26 rfl rfl (Or.inr rfl) ?_
          rw [ek] at h22
          rw [if_pos ⟨by omega, h22⟩] at hL
          rw [← hL]
          exact ⟨rfl, hI2, e5, e12.trans hq2, e13.trans hq3⟩
  have hRN := hI.1
  refine mm_iconst dX4_takeList_0 rfl ?_
  refine mm_istore dX4_takeList_1 rfl (Nat.le_of_ble_eq_true rfl) rfl ?_
  exact loop 0 (Nat.zero_le _) N p hI rfl rfl hE.symm
end
end
/-! A0.kite2 -/
section
/-! ===== the text of a kite, of the class ===== -/
theorem kp_lo_at {nm : Nat} (h : nm < 10) : ((mm_rc (0, fun _ => 0) 2).2 nm) = kp_lo.getD nm 0 ∧ ((mm_rc (0, fun _ => 0) 3).2 nm) = kp_hi.getD nm 0 := by
  match nm, h with
  | 0, _ => exact ⟨rfl, rfl⟩
  | 1, _ => exact ⟨rfl, rfl⟩
  | 2, _ => exact ⟨rfl, rfl⟩
  | 3, _ => exact ⟨rfl, rfl⟩
  | 4, _ => exact ⟨rfl, rfl⟩
  | 5, _ => exact ⟨rfl, rfl⟩
  | 6, _ => exact ⟨rfl, rfl⟩
  | 7, _ => exact ⟨rfl, rfl⟩
  | 8, _ => exact ⟨rfl, rfl⟩
  | 9, _ => exact ⟨rfl, rfl⟩
theorem kp_lohi {nm : Nat} (h : nm < 10) : (0 ≤ kp_lo.getD nm 0 ∧ kp_lo.getD nm 0 ≤ 100) ∧ 0 ≤ kp_hi.getD nm 0 ∧ kp_hi.getD nm 0 ≤ 99999 := by
  match nm, h with
  | 0, _ => decide
  | 1, _ => decide
  | 2, _ => decide
  | 3, _ => decide
  | 4, _ => decide
  | 5, _ => decide
  | 6, _ => decide
  | 7, _ => decide
  | 8, _ => decide
  | 9, _ => decide
theorem kp_set_KV {D : Nat → Int} (h : mm_KV D) {nm : Nat} (hn : nm < 10) {v : Int} (hv : kp_lo.getD nm 0 ≤ v ∧ v ≤ kp_hi.getD nm 0) : mm_KV (fun i => if i = nm then v else D i) := by
  obtain ⟨a0, a1, a2, a3, a4, a5, a6, a7, a8, a9, a10, a11, a12⟩ := h
  refine ⟨?_, ?_, ?_, ?_, ?_, ?_, ?_, ?_, ?_, ?_, ?_, ?_, ?_⟩
  · show _ ≤ (if 0 = nm then v else D 0) ∧ (if 0 = nm then v else D 0) ≤ _
    split
    · next q => subst q; exact hv
    · exact a0
  · show _ ≤ (if 1 = nm then v else D 1) ∧ (if 1 = nm then v else D 1) ≤ _
    split
    · next q => subst q; exact hv
    · exact a1
  · show _ ≤ (if 2 = nm then v else D 2) ∧ (if 2 = nm then v else D 2) ≤ _
    split
    · next q => subst q; exact hv
    · exact a2
  · show _ ≤ (if 3 = nm then v else D 3) ∧ (if 3 = nm then v else D 3) ≤ _
    split
    · next q => subst q; exact hv
    · exact a3
  · show _ ≤ (if 4 = nm then v else D 4) ∧ (if 4 = nm then v else D 4) ≤ _
    split
    · next q => subst q; exact hv
    · exact a4
  · show _ ≤ (if 5 = nm then v else D 5) ∧ (if 5 = nm then v else D 5) ≤ _
    split
    · next q => subst q; exact hv
    · exact a5
  · show _ ≤ (if 6 = nm then v else D 6) ∧ (if 6 = nm then v else D 6) ≤ _
    split
    · next q => subst q; exact hv
    · exact a6
  · show _ ≤ (if 7 = nm then v else D 7) ∧ (if 7 = nm then v else D 7) ≤ _
    split
    · next q => subst q; exact hv
    · exact a7
  · show _ ≤ (if 8 = nm then v else D 8) ∧ (if 8 = nm then v else D 8) ≤ _
    split
    · next q => subst q; exact hv
    · exact a8
  · show _ ≤ (if 9 = nm then v else D 9) ∧ (if 9 = nm then v else D 9) ≤ _
    split
    · next q => subst q; exact hv
    · exact a9
  · show _ ≤ (if 10 = nm then v else D 10) ∧ (if 10 = nm then v else D 10) ≤ _
    rw [if_neg (by omega)]
    exact a10
  · intro i hi
    show _ ≤ (if 20 + i = nm then v else D (20 + i)) ∧ (if 20 + i = nm then v else D (20 + i)) ≤ _
    rw [if_neg (by omega)]
    exact a11 i hi
  · intro i hi
    show _ ≤ (if 30 + i = nm then v else D (30 + i)) ∧ (if 30 + i = nm then v else D (30 + i)) ≤ _
    rw [if_neg (by omega)]
    exact a12 i hi
section
variable {X : mm_X} {M N : mm_M} {n p nm : Nat}
theorem c_X4_takeClause (hnm : nm < 12) (hI : kp_I M N n p) :
    mm_C X Y_X4_takeClause 243 243 [(2, 4), (2, 2), (0, (nm : Int))] N (fun r M' => kp_P M N M' n (kp_clause (M 2) n nm p (N 5)) r) := by
  have hRN := hI.1
  obtain ⟨E, hE⟩ : ∃ E, E = kp_clause (M 2) n nm p (N 5) := ⟨_, rfl⟩
  have hL := hE.symm
  rw [← hE]
  unfold kp_clause at hL
  have hkb := kt_kb (B := M 2) (n := n) (p := p)
  have hvb := kt_vb (B := M 2) (n := n) (p := p)
  have hkb2 := kt_kb (B := M 2) (n := n) (p := kt_e (M 2) n p)
  refine mm_start (ls := [(2, 4), (2, 2), (0, (nm : Int))]) rfl ?_
  by_cases h10 : nm = 10
  · rw [if_pos h10] at hL
    have cl := c_X4_takeList (X := X) (pl := 20) (room := 3) (most := 99) (Or.inl ⟨rfl, rfl, rfl⟩) hI
    rw [hL] at cl
    refine mm_iload_n dX4_takeClause_0 rfl rfl ?_
    refine mm_bipush dX4_takeClause_1 rfl (by decide) ?_
    refine mm_icne dX4_takeClause_3 (by omega) (by omega) (fun h3 => ?_) (fun h3 => ?_)
    · exfalso; omega
    · refine mm_aload_n dX4_takeClause_6 rfl rfl ?_
      refine mm_aload_n dX4_takeClause_7 rfl rfl ?_
      refine mm_bipush dX4_takeClause_8 rfl (by decide) ?_
      refine mm_iconst dX4_takeClause_10 rfl ?_
      refine mm_bipush dX4_takeClause_11 rfl (by decide) ?_
      refine mm_V4g (M1 := N) dX4_takeClause_13 rfl lk_X4_65 (c := 3) rfl (by decide) rfl (by simp) (by simp) (by simp) (by simp) rfl rfl rfl cl ?_
      intro r M' hP
      match E, hP with
      | .ok (p', D'), hP => obtain ⟨rfl, -⟩ := id hP; exact mm_zret dX4_takeClause_16 rfl rfl (Or.inr rfl) hP
      | .error (k, s), hP => obtain ⟨rfl, -⟩ := id hP; exact mm_zret dX4_takeClause_16 rfl rfl (Or.inl rfl) hP
  · rw [if_neg h10] at hL
    by_cases h11 : 10 < nm
    · rw [if_pos h11] at hL
      have cl := c_X4_takeList (X := X) (pl := 30) (room := 6) (most := 100) (Or.inr ⟨rfl, rfl, rfl⟩) hI
      rw [hL] at cl
      refine mm_iload_n dX4_takeClause_0 rfl rfl ?_
      refine mm_bipush dX4_takeClause_1 rfl (by decide) ?_
      refine mm_icne dX4_takeClause_3 (by omega) (by omega) (fun h3 => ?_) (fun h3 => ?_)
      · refine mm_iload_n dX4_takeClause_17 rfl rfl ?_
        refine mm_bipush dX4_takeClause_18 rfl (by decide) ?_
        refine mm_icle dX4_takeClause_20 (by omega) (by omega) (fun h20 => ?_) (fun h20 => ?_)
        · exfalso; omega
        · refine mm_aload_n dX4_takeClause_23 rfl rfl ?_
          refine mm_aload_n dX4_takeClause_24 rfl rfl ?_
          refine mm_bipush dX4_takeClause_25 rfl (by decide) ?_
          refine mm_bipush dX4_takeClause_27 rfl (by decide) ?_
          refine mm_bipush dX4_takeClause_29 rfl (by decide) ?_
          refine mm_V4g (M1 := N) dX4_takeClause_31 rfl lk_X4_65 (c := 3) rfl (by decide) rfl (by simp) (by simp) (by simp) (by simp) rfl rfl rfl cl ?_
          intro r M' hP
          match E, hP with
          | .ok (p', D'), hP => obtain ⟨rfl, -⟩ := id hP; exact mm_zret dX4_takeClause_34 rfl rfl (Or.inr rfl) hP
          | .error (k, s), hP => obtain ⟨rfl, -⟩ := id hP; exact mm_zret dX4_takeClause_34 rfl rfl (Or.inl rfl) hP
      · exfalso; omega
    · rw [if_neg h11] at hL
      have hn10 : nm < 10 := by omega
      have hlh := kp_lohi hn10
      have elo : (mm_rc X 2).2 nm = kp_lo.getD nm 0 := (kp_lo_at hn10).1
      have ehi : (mm_rc X 3).2 nm = kp_hi.getD nm 0 := (kp_lo_at hn10).2
      refine mm_iload_n dX4_takeClause_0 rfl rfl ?_
      refine mm_bipush dX4_takeClause_1 rfl (by decide) ?_
      refine mm_icne dX4_takeClause_3 (by omega) (by omega) (fun h3 => ?_) (fun h3 => ?_)
      · refine mm_iload_n dX4_takeClause_17 rfl rfl ?_
        refine mm_bipush dX4_takeClause_18 rfl (by decide) ?_
        refine mm_icle dX4_takeClause_20 (by omega) (by omega) (fun h20 => ?_) (fun h20 => ?_)
        · refine mm_aload_n dX4_takeClause_35 rfl rfl ?_
          refine mm_V0g (M1 := N) dX4_takeClause_36 rfl lk_X4_44 (c := 1) rfl (by decide) rfl  rfl rfl rfl (kp_adv hI) ?_
          rintro _ N36 ⟨rfl, p36⟩
          change mm_J _ _ _ _ _ _ _ _ _ _
          have hR36 : mm_Rf N36 := p36.1
          obtain ⟨-, hA, hI2, e5, e12, e13, ek, es, ev⟩ := p36
          refine mm_aload_n dX4_takeClause_39 rfl rfl ?_
          refine mm_gets (k0 := 0) dX4_takeClause_40 rfl (by decide) sf_X4_69 ?_
          refine mm_iload_n dX4_takeClause_43 rfl rfl ?_
          refine mm_iark (k1 := 2) (k0 := nm) dX4_takeClause_44 rfl rfl (by decide) (by omega) (by (show nm < 10); omega) (Nat.le_of_ble_eq_true rfl) ?_
          refine mm_gets (k0 := 1) dX4_takeClause_45 rfl (by decide) sf_X4_72 ?_
          refine mm_iload_n dX4_takeClause_48 rfl rfl ?_
          refine mm_iark (k1 := 3) (k0 := nm) dX4_takeClause_49 rfl rfl (by decide) (by omega) (by (show nm < 10); omega) (Nat.le_of_ble_eq_true rfl) ?_
          rw [elo, ehi]
          refine mm_V2g (M1 := N36) dX4_takeClause_50 rfl lk_X4_75 (c := 1) rfl (by decide) rfl (by simp) (by simp) rfl rfl rfl (c_X10_num hR36 (by omega) (by intro z; rw [ek] at z; rw [ev z]; omega) (by omega) (by omega)) ?_
          rintro _ N50 ⟨x50, rfl, p50⟩
          change mm_J _ _ _ _ _ _ _ _ _ _
          have hR50 : mm_Rf N50 := p50.1
          obtain ⟨-, hz⟩ := p50
          have hz01 : x50 = 0 ∨ x50 = 1 := by rcases hz with ⟨z, -⟩ | ⟨z, -⟩ <;> omega
          refine mm_ifne dX4_takeClause_53 (by omega) (fun h53 => ?_) (fun h53 => ?_)
          · obtain ⟨eN, z2, z3⟩ : N50 = N36 ∧ N36 1 5 = 2 ∧ kp_lo.getD nm 0 ≤ N36 1 4 ∧ N36 1 4 ≤ kp_hi.getD nm 0 := by
              rcases hz with ⟨z1, z2, z3, z4⟩ | ⟨z, -⟩
              · exact ⟨z2, z3, z4⟩
              · omega
            have hk2 : kt_k (M 2) n p = 2 := by rw [← ek]; exact z2
            have ev2 := ev hk2
            rw [ev2] at z3
            rw [if_neg (fun z => z hk2), if_neg (fun y => y z3)] at hL
            have ev3 : N50 1 4 = kt_v (M 2) n p := by rw [eN]; exact ev2
            refine mm_aload_n dX4_takeClause_58 rfl rfl ?_
            refine mm_getr dX4_takeClause_59 rfl fl_X4_15 (c := 3) rfl (by decide) rfl rfl (hR50.at (c := 3) (i := 1) (v := 6) rfl (by decide)) ?_
            refine mm_iload_n dX4_takeClause_62 rfl rfl ?_
            refine mm_aload_n dX4_takeClause_63 rfl rfl ?_
            refine mm_get (kd := 0) dX4_takeClause_64 rfl fl_X4_79 (c := 1) rfl (by decide) rfl rfl ?_
            obtain ⟨v64, hv64⟩ : ∃ v, v = N50 1 4 := ⟨_, rfl⟩
            rw [← hv64]
            rw [ev3] at hv64
            subst hv64
            refine mm_istk (k0 := nm) dX4_takeClause_67 rfl (c := 5) rfl (by decide) rfl (by omega) (by omega) (fun M67 hM67 => ?_)
            have hR67 : mm_Rf M67 := by rw [hM67]; exact hR50.up (mm_rt_ar (t := 0) rfl (by decide))
            refine mm_aload_n dX4_takeClause_68 rfl rfl ?_
            have h67 : M67 5 = fun i => if i = nm then kt_v (M 2) n p else N 5 i := by
              funext i
              rw [hM67, eN]
              by_cases q : i = nm
              · rw [q, mm_up_s, if_pos rfl]
              · rw [mm_up_i q, if_neg q, e5]
            have hI4 : kp_I M M67 n (kt_e (M 2) n p) := by
              obtain ⟨i1, i2, i3, i4, i5, i6, i7⟩ := id hI2
              refine ⟨hR67, ?_, ?_, ⟨?_, i4.2.1, ?_⟩, i5, ?_, ?_⟩
              · intro a a1 a2; rw [hM67, mm_up_row a2, eN]; exact i2 a a1 a2
              · intro b hb; rw [hM67, mm_up_row (by decide), eN]; exact i3 b hb
              · rw [hM67, mm_up_row (by decide), eN]; exact i4.1
              · rw [hM67, mm_up_row (by decide), eN]; exact i4.2.2
              · rw [hM67, mm_up_row (by decide), eN]; exact i6
              · rw [h67]; exact kp_set_KV hI.2.2.2.2.2.2 hn10 z3
            refine mm_V0g (M1 := M67) dX4_takeClause_69 rfl lk_X4_44 (c := 1) rfl (by decide) rfl  rfl rfl rfl (kp_adv hI4) ?_
            rintro _ N69 ⟨rfl, p69⟩
            change mm_J _ _ _ _ _ _ _ _ _ _
            have hR69 : mm_Rf N69 := p69.1
            obtain ⟨-, hA3, hI5, f5, f12, f13, fk, fs, fv⟩ := p69
            have g12 : N69 1 2 = N 1 2 := by rw [f12, hM67, mm_up_row (by decide), eN]; exact e12
            have g13 : N69 1 3 = N 1 3 := by rw [f13, hM67, mm_up_row (by decide), eN]; exact e13
            refine mm_aload_n dX4_takeClause_72 rfl rfl ?_
            refine mm_V0i dX4_takeClause_73 rfl lk_X4_83 (c := 1) rfl (by decide) rfl  rfl rfl rfl (c_X10_isSemicolon hR69 (by omega)) ?_
            refine mm_ifneb dX4_takeClause_76 (fun h76 => ?_) (fun h76 => ?_)
            · refine mm_iconst dX4_takeClause_87 rfl ?_
              refine mm_goto dX4_takeClause_88 ?_
              refine mm_zret dX4_takeClause_92 rfl rfl (Or.inr rfl) ?_
              rw [fk] at h76
              first
              | (rw [if_neg (fun y => y h76)] at hL
                 rw [← hL]
                 exact ⟨rfl, hI5, f5.trans h67, g12, g13⟩)
              | (rw [if_pos h76] at hL
                 rw [← hL]
                 exact kp_bad hI5 fs rfl N)
            · refine mm_aload_n dX4_takeClause_79 rfl rfl ?_
              refine mm_iconst dX4_takeClause_80 rfl ?_
              refine mm_V1i dX4_takeClause_81 rfl lk_X4_57 (c := 1) rfl (by decide) rfl (by simp) rfl rfl rfl (c_X10_fails hR69) ?_
              refine mm_ifeq dX4_takeClause_84 (by omega) (fun _ => ?_) (fun h => absurd (by decide) h)
              refine mm_iconst dX4_takeClause_91 rfl ?_
              refine mm_zret dX4_takeClause_92 rfl rfl (Or.inl rfl) ?_
              rw [fk] at h76
              first
              | (rw [if_neg (fun y => y h76)] at hL
                 rw [← hL]
                 exact ⟨rfl, hI5, f5.trans h67, g12, g13⟩)
              | (rw [if_pos h76] at hL
                 rw [← hL]
                 exact kp_bad hI5 fs rfl N)
          · refine mm_iconst dX4_takeClause_56 rfl ?_
            refine mm_zret dX4_takeClause_57 rfl rfl (Or.inl rfl) ?_
            rcases hz with ⟨z, -⟩ | ⟨z1, z2, z3⟩
            · omega
            · rw [ek] at z2 z3
              by_cases q : kt_k (M 2) n p = 2
              · rw [if_pos q] at z3
                rw [if_neg (fun y => y q), if_pos (fun y => z2 ⟨q, by rw [ev q]; exact y.1, by rw [ev q]; exact y.2⟩)] at hL
                rw [← hL]
                exact kp_bad hI2 es z3 N
              · rw [if_neg q] at z3
                rw [if_pos q] at hL
                rw [← hL]
                exact kp_bad hI2 es z3 N
        · exfalso; omega
      · exfalso; omega
end
end
/-! A1.kite3 -/
section
/-! ===== the text of a kite, of the class: clauses to the end ===== -/
theorem kt_fb {T : Nat → Int} {len : Nat} : ∀ (bs : List Int) (w o : Nat) (z : Bool), -1 ≤ kt_f T len bs w o z ∧ kt_f T len bs w o z ≤ (w : Int) + (bs.count 32 : Nat)
  | [], w, o, z => by unfold kt_f; split <;> simp <;> omega
  | b :: bs, w, o, z => by
    unfold kt_f
    by_cases h : b = 32
    · rw [if_pos h, h, List.count_cons_self]
      split
      · omega
      · have := kt_fb (T := T) (len := len) bs (w + 1) 0 true
        omega
    · rw [if_neg h, List.count_cons_of_ne h]
      exact kt_fb bs w (o + 1) _
theorem kp_nmb {B : Nat → Int} {n p : Nat} : -1 ≤ kp_nm B n p 0 ∧ kp_nm B n p 0 < 12 := by
  unfold kp_nm
  split
  · have := kt_fb (T := fun j => B (kt_s B n p + j)) (len := kt_e B n p - kt_s B n p) (mm_sc.getD 0 mm_sd).2.2.2 0 0 true
    have e : (mm_sc.getD 0 mm_sd).2.2.2.count 32 = 11 := by decide +kernel
    rw [e] at this
    omega
  · omega
def kx_m (t : Nat) : Nat → Int := ka_sum (fun q => if t.testBit q = true then 1 else 0)
theorem kx_mb {t : Nat} : ∀ {m : Nat}, 0 ≤ kx_m t m ∧ kx_m t m ≤ m
  | 0 => by simp [kx_m, ka_sum]
  | m + 1 => by
    have := kx_mb (t := t) (m := m)
    unfold kx_m at this ⊢
    rw [ka_sum]
    split <;> omega
theorem kx_m_lt {t q : Nat} (h : ¬ t.testBit q = true) : ∀ {m : Nat}, q < m → kx_m t m < m
  | 0, hq => absurd hq (Nat.not_lt_zero q)
  | m + 1, hq => by
    unfold kx_m
    rw [ka_sum]
    by_cases e : q = m
    · rw [← e, if_neg h]
      have := (kx_mb (t := t) (m := q)).2
      unfold kx_m at this
      omega
    · have := kx_m_lt h (show q < m by omega)
      unfold kx_m at this
      split <;> omega
theorem kx_m_or {t q : Nat} (h : ¬ t.testBit q = true) : ∀ {m : Nat}, q < m → kx_m (t ||| 2 ^ q) m = kx_m t m + 1
  | 0, hq => absurd hq (Nat.not_lt_zero q)
  | m + 1, hq => by
    have tb : ∀ j, j ≠ q → (t ||| 2 ^ q).testBit j = t.testBit j := by
      intro j hj
      rw [Nat.testBit_or, Nat.testBit_two_pow, decide_eq_false (fun z => hj z.symm), Bool.or_false]
    unfold kx_m
    rw [ka_sum, ka_sum]
    by_cases e : q = m
    · subst e
      rw [if_neg h, if_pos (by rw [Nat.testBit_or, Nat.testBit_two_pow]; simp)]
      have : ka_sum (fun j => if (t ||| 2 ^ q).testBit j = true then (1 : Int) else 0) q = ka_sum (fun j => if t.testBit j = true then 1 else 0) q := ka_sum_congr (fun j hj => by rw [tb j (by omega)])
      rw [this]
      omega
    · have := kx_m_or h (show q < m by omega)
      unfold kx_m at this
      rw [this, tb m (fun z => e z.symm)]
      omega
/-- how takeText ends -/
def kp_Q (M M' : mm_M) (e : kp_E) (r : mm_V) : Prop := match e with
  | .ok (c, D) => r = (0, (c : Int)) ∧ mm_Rf M' ∧ (∀ a, a ≠ 1 → a ≠ 3 → a ≠ 4 → ¬ (5 ≤ a ∧ a ≤ 10) → M' a = M a) ∧ (∀ b, b < 2 → M' 1 b = M 1 b) ∧ mm_KV (M' 5) ∧ M' 1 2 = 0 ∧ M' 1 3 = -1 ∧ mm_CK M' ∧ (∀ b, b < 36 → M' 4 b = D b)
  | .error (k, s) => r = (0, -1) ∧ mm_Rf M' ∧ (∀ a, a ≠ 1 → a ≠ 5 → M' a = M a) ∧ (∀ b, b < 2 → M' 1 b = M 1 b) ∧ mm_KV (M' 5) ∧ M' 1 2 = k ∧ M' 1 3 = (s : Int)
theorem mm_Rf.ud {M N : mm_M} (h : mm_Rf M) (q1 : ∀ a, a ≠ 3 → a ≠ 4 → ¬ (6 ≤ a ∧ a ≤ 10) → N a = M a) (q2 : ∀ b, b ≠ 2 → N 3 b = M 3 b) : mm_Rf N := by
  intro a b hab
  by_cases e3 : a = 3
  · subst e3
    rw [q2 b (fun z => hab (by rw [z]; rfl))]
    exact h 3 b hab
  · by_cases e4 : a = 4
    · subst e4; exact absurd (mm_rt_arr (len := 36) rfl b) hab
    · by_cases e6 : 6 ≤ a ∧ a ≤ 10
      · have : mm_sh a = (1, 288) := by
          rcases (show a = 6 ∨ a = 7 ∨ a = 8 ∨ a = 9 ∨ a = 10 by omega) with z | z | z | z | z <;> rw [z] <;> rfl
        exact absurd (mm_rt_arr this b) hab
      · rw [q1 a e3 e4 e6]; exact h a b hab
theorem kp_badQ {M N M' : mm_M} {n p s : Nat} {k : Int} (hI : kp_I M N n p) (hs : N 1 6 = (s : Int)) (hM : M' = mm_up (mm_up N 1 2 k) 1 3 (N 1 6)) : kp_Q M M' (.error (k, s)) (0, -1) := by
  obtain ⟨-, h⟩ := kp_bad hI hs hM M
  exact ⟨rfl, h⟩
section
variable {X : mm_X} {M : mm_M} {n : Nat}
theorem c_X4_takeText (hR : mm_Rf M) (hT : mm_CT M n) (h22 : 0 ≤ M 5 22 ∧ M 5 22 ≤ 99) :
    mm_C X Y_X4_takeText 243 243 [(2, 4), (2, 2)] M (fun r M' => kp_Q M M' (kp_text (M 2) n 13 0 0 0 (kp_D0 (M 5))) r) := by
  obtain ⟨E, hE⟩ : ∃ E, E = kp_text (M 2) n 13 0 0 0 (kp_D0 (M 5)) := ⟨_, rfl⟩
  rw [← hE]
  refine mm_start (ls := [(2, 4), (2, 2), (9, 0), (9, 0), (9, 0)]) rfl ?_
  have loop : ∀ c : Nat, c ≤ 12 → ∀ (Q : mm_M) (p t : Nat) (l4 : mm_V), kp_I M Q n p → Q 1 2 = 0 → Q 1 3 = -1 → t < 4096 → kx_m t 12 = c → kp_text (M 2) n (13 - c) c p t (Q 5) = E →
      mm_J X Y_X4_takeText 243 243 243 12 [(2, 4), (2, 2), (0, (t : Int)), (0, (c : Int)), l4] [] Q (fun r M' => kp_Q M M' E r) := by
    refine mm_lp ?_
    intro c hc ih Q p t l4 hQ hq2 hq3 ht hm hL
    have hRQ := hQ.1
    have hpn := hQ.2.2.2.2.1
    have hkb := kt_kb (B := M 2) (n := n) (p := p)
    have hnb := kp_nmb (B := M 2) (n := n) (p := p)
    have heb := kt_eb (B := M 2) hpn
    rw [show 13 - c = (12 - c) + 1 by omega, kp_text] at hL
    have enm : ∀ T : mm_M, T 2 = M 2 → T 1 5 = kt_k (M 2) n p → (if T 1 5 = 1 then kt_f (fun j => T 2 (kt_s (M 2) n p + j)) (kt_e (M 2) n p - kt_s (M 2) n p) (mm_sc.getD 0 mm_sd).2.2.2 0 0 true else -1) = kp_nm (M 2) n p 0 := by
      intro T h2 h5
      rw [h2, h5]
      rfl
    -- behind a clause
    have nx1 : ∀ (T : mm_M) (p' t' : Nat) (l4 : mm_V), c < 12 → kp_I M T n p' → T 1 2 = 0 → T 1 3 = -1 → t' < 4096 → kx_m t' 12 = ((c + 1 : Nat) : Int) → kp_text (M 2) n (12 - c) (c + 1) p' t' (T 5) = E → mm_J X Y_X4_takeText 243 243 243 87 [(2, 4), (2, 2), (0, (t' : Int)), (0, (c : Int)), l4] [(0, 1)] T (fun r M' => kp_Q M M' E r) := by
      intro T p' t' l4 hc12 hIT h2 h3 ht' hm' hL'
      have hRT := hIT.1
      refine mm_ifne dX4_takeText_87 (by omega) (fun _ => ?_) (fun h => absurd h (by decide))
      refine mm_iinc dX4_takeText_92 rfl rfl (Nat.le_of_ble_eq_true rfl) rfl ?_
      refine mm_goto dX4_takeText_95 ?_
      exact ih hc12 T p' t' _ hIT h2 h3 ht' hm' (by rw [show 13 - (c + 1) = 12 - c by omega]; exact hL')
    have nx0 : ∀ (T : mm_M) (l2 l4 : mm_V), kp_Q M T E (0, -1) → mm_J X Y_X4_takeText 243 243 243 87 [(2, 4), (2, 2), l2, (0, (c : Int)), l4] [(0, 0)] T (fun r M' => kp_Q M M' E r) := by
      intro T l2 l4 hQ9
      refine mm_ifne dX4_takeText_87 (by omega) (fun h => absurd h (by decide)) (fun _ => ?_)
      refine mm_iconst dX4_takeText_90 rfl ?_
      refine mm_iret dX4_takeText_91 rfl rfl ?_
      exact hQ9
    refine mm_iload_n dX4_takeText_12 rfl rfl ?_
    refine mm_bipush dX4_takeText_13 rfl (by decide) ?_
    refine mm_icgt dX4_takeText_15 (by omega) (by omega) (fun h15 => ?_) (fun h15 => ?_)
    · exfalso; omega
    · refine mm_aload_n dX4_takeText_18 rfl rfl ?_
      refine mm_V0g (M1 := Q) dX4_takeText_19 rfl lk_X4_44 (c := 1) rfl (by decide) rfl  rfl rfl rfl (kp_adv hQ) ?_
      rintro _ N19 ⟨rfl, p19⟩
      change mm_J _ _ _ _ _ _ _ _ _ _
      have hR19 : mm_Rf N19 := p19.1
      obtain ⟨-, hA, hI2, e5, e12, e13, ek, es, ev⟩ := p19
      have k5 : mm_KV (N19 5) := hI2.2.2.2.2.2.2
      have f2 : N19 2 = M 2 := hI2.2.1 2 (by decide) (by decide)
      have cwa := c_X10_wordAmong (X := X) (M := N19) (k0 := 0) hR19 hI2.2.2.2.1 (by decide) (by omega) es hI2.2.2.2.2.2.1 heb
      rw [enm N19 f2 ek] at cwa
      refine mm_aload_n dX4_takeText_22 rfl rfl ?_
      refine mm_V0i dX4_takeText_23 rfl lk_X4_47 (c := 1) rfl (by decide) rfl  rfl rfl rfl (c_X10_isAtEnd hR19 (by omega)) ?_
      refine mm_ifeqb dX4_takeText_26 (fun h26 => ?_) (fun h26 => ?_)
      · rw [ek] at h26
        rw [if_neg h26] at hL
        refine mm_aload_n dX4_takeText_35 rfl rfl ?_
        refine mm_lds (k0 := 0) dX4_takeText_36 rfl (by decide) rfl rfl ?_
        refine mm_V1i dX4_takeText_38 rfl lk_X4_53 (c := 1) rfl (by decide) rfl (by simp) rfl rfl rfl (cwa) ?_
        refine mm_istore dX4_takeText_41 rfl (Nat.le_of_ble_eq_true rfl) rfl ?_
        refine mm_iload dX4_takeText_43 rfl rfl ?_
        refine mm_ifge dX4_takeText_45 (by omega) (fun h45 => ?_) (fun h45 => ?_)
        · rw [if_neg (by omega)] at hL
          obtain ⟨nm, hnm⟩ : ∃ nm : Nat, kp_nm (M 2) n p 0 = (nm : Int) := ⟨_, (Int.toNat_of_nonneg h45).symm⟩
          rw [hnm, Int.toNat_natCast] at hL
          rw [hnm] at hnb
          rw [hnm]
          have eb := kx_bit (a := t) (k := nm) (by omega) (by omega)
          have sh := kx_shl nm (by omega)
          have p2 : 2 ^ nm < 4096 := Nat.lt_of_lt_of_le (Nat.pow_lt_pow_right (by decide) (show nm < 12 by omega)) (by decide)
          have orr := kx_or (a := t) (b := 2 ^ nm) (by omega) (by omega)
          refine mm_iload_n dX4_takeText_56 rfl rfl ?_
          refine mm_iload dX4_takeText_57 rfl rfl ?_
          refine mm_ishr dX4_takeText_59 rfl ?_
          refine mm_iconst dX4_takeText_60 rfl ?_
          refine mm_iand dX4_takeText_61 rfl ?_
          rw [eb]
          refine mm_ifeq dX4_takeText_62 (by split <;> omega) (fun h62 => ?_) (fun h62 => ?_)
          · refine mm_iload_n dX4_takeText_73 rfl rfl ?_
            refine mm_iconst dX4_takeText_74 rfl ?_
            refine mm_iload dX4_takeText_75 rfl rfl ?_
            refine mm_ishl dX4_takeText_77 rfl ?_
            rw [sh]
            refine mm_ior dX4_takeText_78 rfl ?_
            rw [orr]
            refine mm_istore_n dX4_takeText_79 rfl (Nat.le_of_ble_eq_true rfl) rfl ?_
            refine mm_aload_n dX4_takeText_80 rfl rfl ?_
            refine mm_aload_n dX4_takeText_81 rfl rfl ?_
            refine mm_iload dX4_takeText_82 rfl rfl ?_
            have hno : ¬ t.testBit nm = true := by
              intro q
              rw [if_pos q] at h62
              exact absurd h62 (by decide)
            rw [if_neg hno] at hL
            have hlt := kx_m_lt hno (show nm < 12 by omega)
            have hor := kx_m_or hno (show nm < 12 by omega)
            have ho : t ||| 2 ^ nm < 4096 := Nat.or_lt_two_pow (n := 12) ht p2
            refine mm_V2g (M1 := N19) dX4_takeText_84 rfl lk_X4_61 (c := 3) rfl (by decide) rfl (by simp) (by simp) rfl rfl rfl (c_X4_takeClause (nm := nm) (by omega) hI2) ?_
            intro r M' hP
            rw [e5] at hP
            match hCl : kp_clause (M 2) n nm (kt_e (M 2) n p) (Q 5), hP with
            | .ok (p', D'), hP =>
              obtain ⟨rfl, g1, g2, g3, g4⟩ := hP
              rw [hCl] at hL
              exact nx1 M' p' (t ||| 2 ^ nm) _ (by omega) g1 (by rw [g3, e12, hq2]) (by rw [g4, e13, hq3]) ho (by rw [hor, hm]; omega) (by rw [g2]; exact hL)
            | .error (k, s), hP =>
              obtain ⟨rfl, g1⟩ := hP
              rw [hCl] at hL
              refine nx0 M' _ _ ?_
              rw [← hL]
              exact ⟨rfl, g1⟩
          · refine mm_aload_n dX4_takeText_65 rfl rfl ?_
            refine mm_iconst dX4_takeText_66 rfl ?_
            refine mm_V1i dX4_takeText_67 rfl lk_X4_57 (c := 1) rfl (by decide) rfl (by simp) rfl rfl rfl (c_X10_fails hR19) ?_
            refine mm_pop dX4_takeText_70 rfl (by simp) ?_
            refine mm_iconst dX4_takeText_71 rfl ?_
            refine mm_iret dX4_takeText_72 rfl rfl ?_
            by_cases q : t.testBit nm = true
            · rw [if_pos q] at hL
              rw [← hL]
              exact kp_badQ hI2 es rfl
            · rw [if_neg q] at h62; exact absurd rfl h62
        · refine mm_aload_n dX4_takeText_48 rfl rfl ?_
          refine mm_iconst dX4_takeText_49 rfl ?_
          refine mm_V1i dX4_takeText_50 rfl lk_X4_57 (c := 1) rfl (by decide) rfl (by simp) rfl rfl rfl (c_X10_fails hR19) ?_
          refine mm_pop dX4_takeText_53 rfl (by simp) ?_
          refine mm_iconst dX4_takeText_54 rfl ?_
          refine mm_iret dX4_takeText_55 rfl rfl ?_
          rw [if_pos (by omega)] at hL
          rw [← hL]
          exact kp_badQ hI2 es rfl
      · refine mm_aload_n dX4_takeText_29 rfl rfl ?_
        refine mm_V0g (M1 := N19) dX4_takeText_30 rfl lk_X4_36 (c := 3) rfl (by decide) rfl  rfl rfl rfl (mm_Cmono (c_X4_useDraft (by decide) hR19.kc k5) (fun r M' q => (⟨q.1, hR19.ud q.2.1 q.2.2.1, q.2⟩ : r = (3, 0) ∧ mm_Rf M' ∧ (∀ a, a ≠ 3 → a ≠ 4 → ¬ (6 ≤ a ∧ a ≤ 10) → M' a = N19 a) ∧ (∀ b, b ≠ 2 → M' 3 b = N19 3 b) ∧ (∀ b, b < 36 → M' 4 b = N19 5 b) ∧ mm_CK M'))) ?_
        rintro _ N30 ⟨rfl, p30⟩
        change mm_J _ _ _ _ _ _ _ _ _ _
        have hR30 : mm_Rf N30 := p30.1
        refine mm_iload_n dX4_takeText_33 rfl rfl ?_
        refine mm_iret dX4_takeText_34 rfl rfl ?_
        rw [ek] at h26
        rw [if_pos h26] at hL
        obtain ⟨-, u1, u2, u3, u4⟩ := p30
        rw [← hL]
        have w1 : N30 1 = N19 1 := u1 1 (by decide) (by decide) (by omega)
        have w5 : N30 5 = N19 5 := u1 5 (by decide) (by decide) (by omega)
        refine ⟨rfl, hR30, ?_, ?_, ?_, ?_, ?_, u4, ?_⟩
        · intro a a1 a2 a3 a4; rw [u1 a a2 a3 (by omega)]; exact hI2.2.1 a a1 (by omega)
        · intro b hb; rw [w1]; exact hI2.2.2.1 b hb
        · rw [w5]; exact k5
        · rw [w1, e12, hq2]
        · rw [w1, e13, hq3]
        · intro b hb; rw [u3 b hb, e5]
  refine mm_aload_n dX4_takeText_0 rfl rfl ?_
  refine mm_V0g (M1 := M) dX4_takeText_1 rfl lk_X4_33 (c := 3) rfl (by decide) rfl  rfl rfl rfl (mm_Cmono (c_X4_startDraft (by decide) hR.kc) (fun r M' q => (⟨q.1, (fun a b hab => by rw [q.2.1 a (fun z => hab (by rw [z]; exact mm_rt_arr (len := 36) rfl b))]; exact hR a b hab), q.2⟩ : r = (3, 0) ∧ mm_Rf M' ∧ (∀ a, a ≠ 5 → M' a = M a) ∧ M' 5 = kp_D0 (M 5)))) ?_
  rintro _ N1 ⟨rfl, p1⟩
  change mm_J _ _ _ _ _ _ _ _ _ _
  have hR1 : mm_Rf N1 := p1.1
  obtain ⟨-, d1, d2⟩ := p1
  obtain ⟨N5, hN5⟩ : ∃ N, N = mm_up (mm_up (mm_up N1 1 7 0) 1 2 0) 1 3 (-1) := ⟨_, rfl⟩
  have hR5 : mm_Rf N5 := by rw [hN5]; exact ((hR1.up rfl).up rfl).up rfl
  refine mm_aload_n dX4_takeText_4 rfl rfl ?_
  refine mm_V0v dX4_takeText_5 rfl lk_X4_39 (c := 1) rfl (by decide) rfl  rfl rfl rfl ((hN5 ▸ c_X10_startText hR1)) ?_
  refine mm_iconst dX4_takeText_8 rfl ?_
  refine mm_istore_n dX4_takeText_9 rfl (Nat.le_of_ble_eq_true rfl) rfl ?_
  refine mm_iconst dX4_takeText_10 rfl ?_
  refine mm_istore_n dX4_takeText_11 rfl (Nat.le_of_ble_eq_true rfl) rfl ?_
  have w : ∀ a, a ≠ 1 → N5 a = N1 a := by intro a ha; rw [hN5, mm_up_row ha, mm_up_row ha, mm_up_row ha]
  refine loop 0 (Nat.zero_le _) N5 0 0 _ ⟨hR5, ?_, ?_, ⟨?_, hT.2.1, ?_⟩, Nat.zero_le _, ?_, ?_⟩ ?_ ?_ (by decide) ?_ ?_
  · intro a a1 a2; rw [w a a1]; exact d1 a a2
  · intro b hb; rw [hN5, mm_up_i (by omega), mm_up_i (by omega), mm_up_i (by omega), d1 1 (by decide)]
  · rw [hN5, mm_up_i (by decide), mm_up_i (by decide), mm_up_i (by decide), d1 1 (by decide)]; exact hT.1
  · rw [w 2 (by decide), d1 2 (by decide)]; exact hT.2.2
  · rw [hN5, mm_up_i (by decide), mm_up_i (by decide), mm_up_s]; rfl
  · rw [w 5 (by decide), d2]; exact kp_D0_KV h22
  · rw [hN5, mm_up_i (by decide), mm_up_s]
  · rw [hN5, mm_up_s]
  · decide
  · rw [w 5 (by decide), d2]; exact hE.symm
end
end
/-! A2.kite4 -/
section
/-! ===== kite, of the class ===== -/
/-- what a new kite leaves -/
def kp_new (M M' : mm_M) (D : Nat → Int) : Prop :=
  mm_CK M' ∧ (∀ b, b < 36 → M' 4 b = D b) ∧ (∀ a, a ≠ 0 → a ≠ 1 → ¬ (3 ≤ a ∧ a ≤ 10) → a ≠ 18 → a ≠ 23 → ¬ (121 ≤ a ∧ a ≤ 138) → a ≠ 144 → a ≠ 174 → M' a = M a) ∧ M' 18 1 = 0 ∧
  (∀ k : Nat, k < 6 → M' (121 + 3 * k) 2 = 0 ∧ (∀ b, b ≠ 2 → M' (121 + 3 * k) b = M (121 + 3 * k) b) ∧ M' (121 + 3 * k + 1) = M (121 + 3 * k + 1) ∧ M' (121 + 3 * k + 2) = M (121 + 3 * k + 2)) ∧
  M' 0 12 = 0 ∧ (∀ b, b ≠ 12 → M' 0 b = M 0 b) ∧ M' 144 1 = 0 ∧ M' 144 2 = 0 ∧ M' 174 2 = 0 ∧ M' 174 3 = 0 ∧ M' 174 4 = 0 ∧ (∀ j, j < 24 → M' 23 j = 0)
def kp_K (M M' : mm_M) (e : kp_E) (r : mm_V) : Prop := mm_Rf M' ∧ mm_KV (M' 5) ∧ M' 1 1 = 0 ∧ match e with
  | .ok (c, D) => r = (0, (c : Int)) ∧ M' 1 2 = 0 ∧ M' 1 3 = -1 ∧ kp_new M M' D
  | .error (k, s) => r = (0, -1) ∧ M' 1 2 = k ∧ M' 1 3 = (s : Int) ∧ (∀ a, a ≠ 1 → a ≠ 5 → M' a = M a)
section
variable {X : mm_X} {M : mm_M} {n : Nat}
theorem c_X9_forget (hR : mm_Rf M) : mm_Fn X Y_X9_forget 243 [(2, 19)] M (3, 0) (mm_up M 18 1 0) := by
  refine mm_startF (ls := [(2, 19)]) rfl ?_
  refine mm_aload_n dX9_forget_0 rfl rfl ?_
  refine mm_iconst dX9_forget_1 rfl ?_
  refine mm_puti dX9_forget_2 rfl fl_X9_22 (c := 18) rfl (by decide) rfl rfl (fun M2 hM2 => ?_)
  have hR2 : mm_Rf M2 := by rw [hM2]; exact hR.up rfl
  refine mm_vret dX9_forget_5 rfl rfl ?_
  exact mm_fin rfl hM2
theorem c_X1_forget (hR : mm_Rf M) : mm_Fn X Y_X1_forget 243 [(2, 145)] M (3, 0) (mm_up (mm_up M 144 1 0) 144 2 0) := by
  refine mm_startF (ls := [(2, 145)]) rfl ?_
  refine mm_aload_n dX1_forget_0 rfl rfl ?_
  refine mm_iconst dX1_forget_1 rfl ?_
  refine mm_puti dX1_forget_2 rfl fl_X1_31 (c := 144) rfl (by decide) rfl rfl (fun M2 hM2 => ?_)
  have hR2 : mm_Rf M2 := by rw [hM2]; exact hR.up rfl
  refine mm_aload_n dX1_forget_5 rfl rfl ?_
  refine mm_iconst dX1_forget_6 rfl ?_
  refine mm_puti dX1_forget_7 rfl fl_X1_35 (c := 144) rfl (by decide) rfl rfl (fun M7 hM7 => ?_)
  have hR7 : mm_Rf M7 := by rw [hM7]; exact hR2.up rfl
  refine mm_vret dX1_forget_10 rfl rfl ?_
  exact mm_fin rfl (by rw [hM7, hM2])
theorem c_X3_forgetAll (hR : mm_Rf M) : mm_C X Y_X3_forgetAll 243 243 [(2, 22)] M (fun r M' => r = (3, 0) ∧ mm_Rf M' ∧ (∀ a, a ≠ 23 → M' a = M a) ∧ ∀ j, j < 24 → M' 23 j = 0) := by
  refine mm_start (ls := [(2, 22), (9, 0)]) rfl ?_
  have loop : ∀ i : Nat, i ≤ 24 → ∀ N : mm_M, mm_Rf N → (∀ a, a ≠ 23 → N a = M a) → (∀ j, j < i → N 23 j = 0) → mm_J X Y_X3_forgetAll 243 243 243 2 [(2, 22), (0, (i : Int))] [] N (fun r M' => r = (3, 0) ∧ mm_Rf M' ∧ (∀ a, a ≠ 23 → M' a = M a) ∧ ∀ j, j < 24 → M' 23 j = 0) := by
    refine mm_lp ?_
    intro i hi ih N hRN hfr h0
    by_cases hlt : i < 24
    · refine mm_iload_n dX3_forgetAll_2 rfl rfl ?_
      refine mm_aload_n dX3_forgetAll_3 rfl rfl ?_
      refine mm_getr dX3_forgetAll_4 rfl fl_X3_19 (c := 21) rfl (by decide) rfl rfl (hRN.at (c := 21) (i := 3) (v := 24) rfl (by decide)) ?_
      refine mm_aln dX3_forgetAll_7 rfl (c := 23) rfl (by decide) rfl ?_
      refine mm_icge dX3_forgetAll_8 (by omega) (by omega) (fun h8 => ?_) (fun h8 => ?_)
      · exfalso; omega
      · refine mm_aload_n dX3_forgetAll_11 rfl rfl ?_
        refine mm_getr dX3_forgetAll_12 rfl fl_X3_19 (c := 21) rfl (by decide) rfl rfl (hRN.at (c := 21) (i := 3) (v := 24) rfl (by decide)) ?_
        refine mm_iload_n dX3_forgetAll_15 rfl rfl ?_
        refine mm_iconst dX3_forgetAll_16 rfl ?_
        refine mm_zstk (k0 := i) dX3_forgetAll_17 rfl (c := 23) rfl (by decide) rfl (by omega) (by omega) (Or.inl rfl) (fun M17 hM17 => ?_)
        have hR17 : mm_Rf M17 := by rw [hM17]; exact hRN.up (mm_rt_ar (t := 2) rfl (by decide))
        refine mm_iinc dX3_forgetAll_18 rfl rfl (Nat.le_of_ble_eq_true rfl) rfl ?_
        refine mm_goto dX3_forgetAll_21 ?_
        refine ih hlt _ hR17 ?_ ?_
        · intro a ha; rw [hM17, mm_up_row ha]; exact hfr a ha
        · intro j hj
          by_cases q : j = i
          · rw [hM17, q, mm_up_s]
          · rw [hM17, mm_up_i q]; exact h0 j (by omega)
    · refine mm_iload_n dX3_forgetAll_2 rfl rfl ?_
      refine mm_aload_n dX3_forgetAll_3 rfl rfl ?_
      refine mm_getr dX3_forgetAll_4 rfl fl_X3_19 (c := 21) rfl (by decide) rfl rfl (hRN.at (c := 21) (i := 3) (v := 24) rfl (by decide)) ?_
      refine mm_aln dX3_forgetAll_7 rfl (c := 23) rfl (by decide) rfl ?_
      refine mm_icge dX3_forgetAll_8 (by omega) (by omega) (fun h8 => ?_) (fun h8 => ?_)
      · refine mm_vret dX3_forgetAll_24 rfl rfl ?_
        exact ⟨rfl, hRN, hfr, fun j hj => h0 j (by omega)⟩
      · exfalso; omega
  refine mm_iconst dX3_forgetAll_0 rfl ?_
  refine mm_istore_n dX3_forgetAll_1 rfl (Nat.le_of_ble_eq_true rfl) rfl ?_
  exact loop 0 (Nat.zero_le _) M hR (fun _ _ => rfl) (fun j hj => absurd hj (Nat.not_lt_zero j))
theorem c_X11_kite (hR : mm_Rf M) (hT : mm_CT M n) (h22 : 0 ≤ M 5 22 ∧ M 5 22 ≤ 99) :
    mm_C X Y_X11_kite 243 243 [(2, 1)] M (fun r M' => kp_K M M' (kp_text (M 2) n 13 0 0 0 (kp_D0 (M 5))) r) := by
  obtain ⟨E, hE⟩ : ∃ E, E = kp_text (M 2) n 13 0 0 0 (kp_D0 (M 5)) := ⟨_, rfl⟩
  have ct := c_X4_takeText (X := X) hR hT h22
  rw [← hE] at ct ⊢
  have hcb : ∀ c D, E = .ok (c, D) → c ≤ 12 := by
    intro c D hED
    have key : ∀ (k c0 p t : Nat) (D0 : Nat → Int), c0 + k = 13 → kp_text (M 2) n k c0 p t D0 = .ok (c, D) → c ≤ 12 := by
      intro k
      induction k with
      | zero => intro c0 p t D0 _ h; unfold kp_text at h; cases h
      | succ k ih =>
        intro c0 p t D0 hk h
        unfold kp_text at h
        split at h
        · cases h; omega
        · split at h
          · cases h
          · split at h
            · cases h
            · split at h
              · cases h
              · exact ih _ _ _ _ (by omega) h
    exact key 13 0 0 0 _ rfl (by rw [← hE, hED])
  refine mm_start (ls := [(2, 1), (9, 0), (9, 0)]) rfl ?_
  -- behind a text without a fault
  have good : ∀ (c : Nat) (D : Nat → Int) (T : mm_M), E = .ok (c, D) → kp_Q M T E (0, (c : Int)) → ∀ i : Nat, i ≤ 6 → ∀ N : mm_M, mm_Rf N → (∀ a, a ≠ 1 → a ≠ 18 → (∀ k, k < 6 → a ≠ 121 + 3 * k) → N a = T a) → N 1 = mm_up T 1 1 0 1 → N 18 1 = 0 → (∀ b, b ≠ 1 → N 18 b = T 18 b) → (∀ k : Nat, k < i → N (121 + 3 * k) 2 = 0) → (∀ k : Nat, k < 6 → ∀ b, b ≠ 2 → N (121 + 3 * k) b = T (121 + 3 * k) b) →
      mm_J X Y_X11_kite 243 243 243 35 [(2, 1), (0, (c : Int)), (0, (i : Int))] [] N (fun r M' => kp_K M M' E r) := by
    intro c D T hED hQT
    rw [hED] at hQT
    obtain ⟨-, t1, t2, t3, t4, t5, t6, t7, t8⟩ := hQT
    have hc12 := hcb c D hED
    refine mm_lp ?_
    intro i hi ih N hRN hfr hN1 hN18 hN18b hk0 hkb
    by_cases hlt : i < 6
    · have wr := mm_rw_kept i hlt
      have er : N 120 i = ((121 + 3 * i : Nat) : Int) + 1 := hRN.at wr.2 (by omega)
      refine mm_iload_n dX11_kite_35 rfl rfl ?_
      refine mm_bipush dX11_kite_36 rfl (by decide) ?_
      refine mm_icge dX11_kite_38 (by omega) (by omega) (fun h38 => ?_) (fun h38 => ?_)
      · exfalso; omega
      · refine mm_aload_n dX11_kite_41 rfl rfl ?_
        refine mm_getr dX11_kite_42 rfl fl_X11_60 (c := 0) rfl (by decide) rfl rfl (hRN.at (c := 0) (i := 7) (v := 121) rfl (by decide)) ?_
        refine mm_iload_n dX11_kite_45 rfl rfl ?_
        refine mm_aalk (k0 := i) dX11_kite_46 rfl (c := 120) rfl (by decide) rfl (by omega) (by omega) ?_
        rw [er]
        refine mm_iconst dX11_kite_47 rfl ?_
        refine mm_puti dX11_kite_48 rfl fl_X11_115 (c := 121 + 3 * i) rfl wr.1.c0 wr.1.1 rfl (fun M48 hM48 => ?_)
        have hR48 : mm_Rf M48 := by rw [hM48]; exact hRN.up (mm_rt_row wr.1 (by decide))
        refine mm_iinc dX11_kite_51 rfl rfl (Nat.le_of_ble_eq_true rfl) rfl ?_
        refine mm_goto dX11_kite_54 ?_
        refine ih hlt _ hR48 ?_ ?_ ?_ ?_ ?_ ?_
        · intro a a1 a2 a3; rw [hM48, mm_up_row (a3 i hlt)]; exact hfr a a1 a2 a3
        · rw [hM48, mm_up_row (by omega)]; exact hN1
        · rw [hM48, mm_up_c (by omega)]; exact hN18
        · intro b hb; rw [hM48, mm_up_c (by omega)]; exact hN18b b hb
        · intro k hk
          by_cases q : k = i
          · rw [hM48, q, mm_up_s]
          · rw [hM48, mm_up_c (by omega)]; exact hk0 k (by omega)
        · intro k hk b hb; rw [hM48, mm_up_i hb]; exact hkb k hk b hb
    · refine mm_iload_n dX11_kite_35 rfl rfl ?_
      refine mm_bipush dX11_kite_36 rfl (by decide) ?_
      refine mm_icge dX11_kite_38 (by omega) (by omega) (fun h38 => ?_) (fun h38 => ?_)
      · refine mm_aload_n dX11_kite_57 rfl rfl ?_
        refine mm_iconst dX11_kite_58 rfl ?_
        refine mm_putz dX11_kite_59 rfl fl_X11_116 (c := 0) rfl (by decide) rfl rfl (Or.inl rfl) (fun M59 hM59 => ?_)
        have hR59 : mm_Rf M59 := by rw [hM59]; exact hRN.up rfl
        refine mm_aload_n dX11_kite_62 rfl rfl ?_
        refine mm_getr dX11_kite_63 rfl fl_X11_76 (c := 0) rfl (by decide) rfl rfl (hR59.at (c := 0) (i := 9) (v := 145) rfl (by decide)) ?_
        obtain ⟨NF, hNF⟩ : ∃ Z, Z = mm_up (mm_up M59 144 1 0) 144 2 0 := ⟨_, rfl⟩
        have hRF : mm_Rf NF := by rw [hNF]; exact (hR59.up rfl).up rfl
        obtain ⟨NR, hNR⟩ : ∃ Z, Z = mm_up (mm_up (mm_up NF 174 2 0) 174 3 0) 174 4 0 := ⟨_, rfl⟩
        have hRR : mm_Rf NR := by rw [hNR]; exact ((hRF.up rfl).up rfl).up rfl
        refine mm_V0v dX11_kite_66 rfl lk_X11_120 (c := 144) rfl (by decide) rfl  rfl rfl rfl ((hNF ▸ c_X1_forget hR59)) ?_
        refine mm_aload_n dX11_kite_69 rfl rfl ?_
        refine mm_getr dX11_kite_70 rfl fl_X11_90 (c := 0) rfl (by decide) rfl rfl (hRF.at (c := 0) (i := 11) (v := 175) rfl (by decide)) ?_
        refine mm_V0v dX11_kite_73 rfl lk_X11_121 (c := 174) rfl (by decide) rfl  rfl rfl rfl ((hNR ▸ c_X7_forget hRF)) ?_
        refine mm_aload_n dX11_kite_76 rfl rfl ?_
        refine mm_getr dX11_kite_77 rfl fl_X11_44 (c := 0) rfl (by decide) rfl rfl (hRR.at (c := 0) (i := 4) (v := 22) rfl (by decide)) ?_
        refine mm_V0g (M1 := NR) dX11_kite_80 rfl lk_X11_122 (c := 21) rfl (by decide) rfl  rfl rfl rfl (c_X3_forgetAll hRR) ?_
        rintro _ N80 ⟨rfl, p80⟩
        change mm_J _ _ _ _ _ _ _ _ _ _
        have hR80 : mm_Rf N80 := p80.1
        refine mm_iload_n dX11_kite_83 rfl rfl ?_
        refine mm_iret dX11_kite_84 rfl rfl ?_
        obtain ⟨-, g1, g2⟩ := p80
        have w : ∀ a, a ≠ 0 → a ≠ 144 → a ≠ 174 → a ≠ 23 → N80 a = N a := by
          intro a a1 a2 a3 a4
          rw [g1 a a4, hNR, mm_up_row a3, mm_up_row a3, mm_up_row a3, hNF, mm_up_row a2, mm_up_row a2, hM59, mm_up_row a1]
        have w1 : N80 1 = mm_up T 1 1 0 1 := by rw [w 1 (by decide) (by decide) (by decide) (by decide)]; exact hN1
        have u : ∀ a, a ≠ 0 → a ≠ 1 → a ≠ 18 → a ≠ 23 → ¬ (121 ≤ a ∧ a ≤ 138) → a ≠ 144 → a ≠ 174 → N80 a = T a := by
          intro a a1 a2 a3 a4 a5 a6 a7
          rw [w a a1 a6 a7 a4]
          exact hfr a a2 a3 (fun k hk => by omega)
        rw [hED]
        refine ⟨hR80, ?_, ?_, rfl, ?_, ?_, ?_, ?_, ?_, ?_, ?_, ?_, ?_, ?_, ?_, ?_, ?_, ?_, g2⟩
        · rw [u 5 (by decide) (by decide) (by decide) (by decide) (by decide) (by decide) (by decide)]; exact t4
        · rw [w1, mm_up_s]
        · rw [w1, mm_up_i (by decide)]; exact t5
        · rw [w1, mm_up_i (by decide)]; exact t6
        · unfold mm_CK at t7 ⊢
          rw [u 3 (by decide) (by decide) (by decide) (by decide) (by decide) (by decide) (by decide), u 4 (by decide) (by decide) (by decide) (by decide) (by decide) (by decide) (by decide), u 6 (by decide) (by decide) (by decide) (by decide) (by decide) (by decide) (by decide), u 7 (by decide) (by decide) (by decide) (by decide) (by decide) (by decide) (by decide), u 8 (by decide) (by decide) (by decide) (by decide) (by decide) (by decide) (by decide), u 9 (by decide) (by decide) (by decide) (by decide) (by decide) (by decide) (by decide), u 10 (by decide) (by decide) (by decide) (by decide) (by decide) (by decide) (by decide)]
          exact t7
        · intro b hb; rw [u 4 (by decide) (by decide) (by decide) (by decide) (by decide) (by decide) (by decide)]; exact t8 b hb
        · intro a a1 a2 a3 a4 a5 a6 a7 a8; rw [u a a1 a2 a4 a5 a6 a7 a8]; exact t2 a a2 (by omega) (by omega) (by omega)
        · rw [w 18 (by decide) (by decide) (by decide) (by decide)]; exact hN18
        · intro k hk
          have q1 : ∀ a, 121 ≤ a → a ≤ 138 → N80 a = N a := fun a b1 b2 => w a (by omega) (by omega) (by omega) (by omega)
          have q2 : ∀ a, 121 ≤ a → a ≤ 138 → T a = M a := fun a b1 b2 => t2 a (by omega) (by omega) (by omega) (by omega)
          refine ⟨?_, ?_, ?_, ?_⟩
          · rw [q1 _ (by omega) (by omega)]; exact hk0 k (by omega)
          · intro b hb; rw [q1 _ (by omega) (by omega), hkb k hk b hb, q2 _ (by omega) (by omega)]
          · rw [q1 _ (by omega) (by omega), hfr _ (by omega) (by omega) (fun j hj => by omega), q2 _ (by omega) (by omega)]
          · rw [q1 _ (by omega) (by omega), hfr _ (by omega) (by omega) (fun j hj => by omega), q2 _ (by omega) (by omega)]
        · rw [g1 0 (by decide), hNR, mm_up_c (by decide), mm_up_c (by decide), mm_up_c (by decide), hNF, mm_up_c (by decide), mm_up_c (by decide), hM59, mm_up_s]
        · intro b hb
          rw [g1 0 (by decide), hNR, mm_up_c (by decide), mm_up_c (by decide), mm_up_c (by decide), hNF, mm_up_c (by decide), mm_up_c (by decide), hM59, mm_up_i hb, hfr 0 (by decide) (by decide) (fun k hk => by omega), t2 0 (by decide) (by decide) (by decide) (by omega)]
        · rw [g1 144 (by decide), hNR, mm_up_c (by decide), mm_up_c (by decide), mm_up_c (by decide), hNF, mm_up_i (by decide), mm_up_s]
        · rw [g1 144 (by decide), hNR, mm_up_c (by decide), mm_up_c (by decide), mm_up_c (by decide), hNF, mm_up_s]
        · rw [g1 174 (by decide), hNR, mm_up_i (by decide), mm_up_i (by decide), mm_up_s]
        · rw [g1 174 (by decide), hNR, mm_up_i (by decide), mm_up_s]
        · rw [g1 174 (by decide), hNR, mm_up_s]
      · exfalso; omega
  have ok : ∀ (c : Nat) (D : Nat → Int) (T : mm_M), E = .ok (c, D) → kp_Q M T E (0, (c : Int)) → mm_J X Y_X11_kite 243 243 243 11 [(2, 1), (9, 0), (9, 0)] [(0, (c : Int))] T (fun r M' => kp_K M M' E r) := by
    intro c D T hED hQT
    have g0 := good c D T hED hQT 0 (by decide)
    rw [hED] at hQT
    have hRT : mm_Rf T := hQT.2.1
    have hc12 := hcb c D hED
    refine mm_istore_n dX11_kite_11 rfl (Nat.le_of_ble_eq_true rfl) rfl ?_
    refine mm_aload_n dX11_kite_12 rfl rfl ?_
    refine mm_getr dX11_kite_13 rfl fl_X11_10 (c := 0) rfl (by decide) rfl rfl (hRT.at (c := 0) (i := 0) (v := 2) rfl (by decide)) ?_
    refine mm_iconst dX11_kite_16 rfl ?_
    refine mm_puti dX11_kite_17 rfl fl_X11_105 (c := 1) rfl (by decide) rfl rfl (fun M17 hM17 => ?_)
    have hR17 : mm_Rf M17 := by rw [hM17]; exact hRT.up rfl
    refine mm_iload_n dX11_kite_20 rfl rfl ?_
    refine mm_ifge dX11_kite_21 (by omega) (fun h21 => ?_) (fun h21 => ?_)
    · refine mm_aload_n dX11_kite_26 rfl rfl ?_
      refine mm_getr dX11_kite_27 rfl fl_X11_35 (c := 0) rfl (by decide) rfl rfl (hR17.at (c := 0) (i := 3) (v := 19) rfl (by decide)) ?_
      refine mm_V0v dX11_kite_30 rfl lk_X11_112 (c := 18) rfl (by decide) rfl  rfl rfl rfl ((c_X9_forget hR17)) ?_
      refine mm_iconst dX11_kite_33 rfl ?_
      refine mm_istore_n dX11_kite_34 rfl (Nat.le_of_ble_eq_true rfl) rfl ?_
      refine g0 _ (hR17.up rfl) ?_ ?_ ?_ ?_ ?_ ?_
      · intro a a1 a2 a3; rw [mm_up_row a2, hM17, mm_up_row a1]
      · rw [mm_up_row (by decide), hM17]
      · rw [mm_up_s]
      · intro b hb; rw [mm_up_i hb, hM17, mm_up_c (by decide)]
      · intro k hk; omega
      · intro k hk b hb; rw [mm_up_c (by omega), hM17, mm_up_c (by omega)]
    · exfalso; omega
  have bad : ∀ (k : Int) (s : Nat) (T : mm_M), E = .error (k, s) → kp_Q M T E (0, -1) → mm_J X Y_X11_kite 243 243 243 11 [(2, 1), (9, 0), (9, 0)] [(0, -1)] T (fun r M' => kp_K M M' E r) := by
    intro k s T hED hQT
    rw [hED] at hQT
    obtain ⟨-, hRT, t2, t3, t4, t5, t6⟩ := hQT
    refine mm_istore_n dX11_kite_11 rfl (Nat.le_of_ble_eq_true rfl) rfl ?_
    refine mm_aload_n dX11_kite_12 rfl rfl ?_
    refine mm_getr dX11_kite_13 rfl fl_X11_10 (c := 0) rfl (by decide) rfl rfl (hRT.at (c := 0) (i := 0) (v := 2) rfl (by decide)) ?_
    refine mm_iconst dX11_kite_16 rfl ?_
    refine mm_puti dX11_kite_17 rfl fl_X11_105 (c := 1) rfl (by decide) rfl rfl (fun M17 hM17 => ?_)
    have hR17 : mm_Rf M17 := by rw [hM17]; exact hRT.up rfl
    refine mm_iload_n dX11_kite_20 rfl rfl ?_
    refine mm_ifge dX11_kite_21 (by omega) (fun h21 => ?_) (fun h21 => ?_)
    · exfalso; omega
    · refine mm_iconst dX11_kite_24 rfl ?_
      refine mm_iret dX11_kite_25 rfl rfl ?_
      rw [hED]
      refine ⟨hR17, ?_, ?_, rfl, ?_, ?_, ?_⟩
      · rw [hM17, mm_up_row (by decide)]; exact t4
      · rw [hM17, mm_up_s]
      · rw [hM17, mm_up_i (by decide)]; exact t5
      · rw [hM17, mm_up_i (by decide)]; exact t6
      · intro a a1 a2; rw [hM17, mm_up_row a1]; exact t2 a a1 a2
  refine mm_aload_n dX11_kite_0 rfl rfl ?_
  refine mm_getr dX11_kite_1 rfl fl_X11_19 (c := 0) rfl (by decide) rfl rfl (hR.at (c := 0) (i := 1) (v := 4) rfl (by decide)) ?_
  refine mm_aload_n dX11_kite_4 rfl rfl ?_
  refine mm_getr dX11_kite_5 rfl fl_X11_10 (c := 0) rfl (by decide) rfl rfl (hR.at (c := 0) (i := 0) (v := 2) rfl (by decide)) ?_
  refine mm_V1g (M1 := M) dX11_kite_8 rfl lk_X11_108 (c := 3) rfl (by decide) rfl (by simp) rfl rfl rfl ct ?_
  intro r T hQT
  rcases hc : E with ⟨k, s⟩ | ⟨c, D⟩
  · have hQ := hQT
    rw [hc] at hQ
    obtain ⟨rfl, -⟩ := hQ
    exact hc ▸ bad k s T hc hQT
  · have hQ := hQT
    rw [hc] at hQ
    obtain ⟨rfl, -⟩ := hQ
    exact hc ▸ ok c D T hc hQT
end
end
