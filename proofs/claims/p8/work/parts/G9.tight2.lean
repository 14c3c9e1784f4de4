/-! ===== the reference: findTight ===== -/
/-- of the first t steps of s, those that keep the level are told -/
def ky_Q (M N : mm_M) (s t : Nat) : Prop := ∃ c : Nat, N 210 s = (c : Int) ∧ c ≤ t ∧ (∀ j, j < c → ∃ i, 15 * s ≤ i ∧ i < 15 * s + t ∧ ky_t M i ∧ N 209 (15 * s + j) = (ke_T (mm_rk M) i : Int)) ∧ ∀ i, 15 * s ≤ i → i < 15 * s + t → ky_t M i → ∃ j, j < c ∧ N 209 (15 * s + j) = (ke_T (mm_rk M) i : Int)
def ky_F (M N : mm_M) (m : Nat) : Prop := mm_Rf N ∧ (∀ a, a ≠ 209 → a ≠ 210 → N a = M a) ∧ ∀ s, s < m → ky_Q M N s 15
section
variable {X : mm_X} {M : mm_M} {n : Nat}
theorem ky_t.fr {M N : mm_M} (f : ∀ a, a ≠ 209 → a ≠ 210 → N a = M a) : mm_rk N = mm_rk M ∧ ∀ i, ky_t N i ↔ ky_t M i := by
  have rk : mm_rk N = mm_rk M := mm_rk.fr (fun a b q => by rw [f a (by omega) (by omega)])
  refine ⟨rk, fun i => ?_⟩
  unfold ky_t
  rw [rk, f 205 (by decide) (by decide), f 206 (by decide) (by decide), f 208 (by decide) (by decide), f 183 (by decide) (by decide)]
theorem c_X13_findTight (hR : mm_Rf M) (hn : ks_n (mm_rk M) = (n : Int)) (hn2 : n ≤ 288) (hS : ke_S (mm_rk M) n (M 205) (M 206)) (hB : ky_B M n) :
    mm_C X Y_X13_findTight 243 243 [(2, 184)] M (fun r M' => r = (3, 0) ∧ mm_Rf M' ∧ ky_F M M' n) := by
  obtain ⟨Φ, hΦ⟩ : ∃ Φ : mm_V → mm_M → Prop, Φ = (fun r M' => r = (3, 0) ∧ mm_Rf M' ∧ ky_F M M' n) := ⟨_, rfl⟩
  rw [← hΦ]
  have l2 : ∀ s : Nat, s < n → (∀ N, ky_F M N (s + 1) → mm_J X Y_X13_findTight 243 243 243 75 [(2, 184), (0, (s : Int)), (9, 0)] [] N Φ) →
      ∀ t : Nat, t ≤ 15 → ∀ N, ky_F M N s → ky_Q M N s t → mm_J X Y_X13_findTight 243 243 243 19 [(2, 184), (0, (s : Int)), (0, (t : Int))] [] N Φ := by
    intro s hs out
    refine mm_lp ?_
    intro t ht ih N hF hQ
    obtain ⟨hRN, f1, f2⟩ := id hF
    obtain ⟨rk, tf⟩ := ky_t.fr f1
    by_cases hlt : t < 15
    · have e205 : N 205 = M 205 := f1 205 (by decide) (by decide)
      have e206 : N 206 = M 206 := f1 206 (by decide) (by decide)
      have hSN : ke_S (mm_rk N) n (N 205) (N 206) := by rw [rk, e205, e206]; exact hS
      have hBN : ky_B N n := by unfold ky_B; rw [f1 183 (by decide) (by decide), f1 208 (by decide) (by decide)]; exact hB
      have ct := c_X13_isTightStep (X := X) (i := 15 * s + t) hRN hn2 hSN hBN rfl hs hlt
      by_cases hT : ky_t M (15 * s + t)
      · have ct := ct.1 ((tf _).mpr hT)
        have hTT := hS.t (i := 15 * s + t) (by omega) hT.1
        rw [show (15 * s + t) / 15 = s by omega, show (15 * s + t) % 15 = t by omega] at hTT
        have ca := c_X13_after (X := X) (s := (s : Int)) (a := (t : Int)) hRN (by omega)
        rw [rk, ← hTT.1] at ca
        obtain ⟨T, hTe⟩ : ∃ T, T = ke_T (mm_rk M) (15 * s + t) := ⟨_, rfl⟩
        rw [← hTe] at ca hTT
        have hTn := hTT.2
        obtain ⟨c, c1, c2, c3, c4⟩ := hQ
        have fin : ∀ P : mm_M, P = mm_up (mm_up N 209 (15 * s + c) (T : Int)) 210 s ((c : Int) + 1) → mm_Rf P → mm_J X Y_X13_findTight 243 243 243 19 [(2, 184), (0, (s : Int)), (0, (t : Int) + 1)] [] P Φ := by
          intro P hP hRP
          have p209 : ∀ x, x ≠ 15 * s + c → P 209 x = N 209 x := fun x hx => by rw [hP, mm_up_row (by decide), mm_up_i hx]
          have p209s : P 209 (15 * s + c) = (T : Int) := by rw [hP, mm_up_row (by decide), mm_up_s]
          have p210 : ∀ x, x ≠ s → P 210 x = N 210 x := fun x hx => by rw [hP, mm_up_i hx, mm_up_row (by decide)]
          have p210s : P 210 s = (c : Int) + 1 := by rw [hP, mm_up_s]
          have go := ih hlt P ⟨hRP, fun a a1 a2 => by rw [hP, mm_up_row a2, mm_up_row a1]; exact f1 a a1 a2, ?_⟩ ⟨c + 1, by rw [p210s]; omega, by omega, ?_, ?_⟩
          · rw [show ((t + 1 : Nat) : Int) = (t : Int) + 1 by omega] at go; exact go
          · intro u hu
            obtain ⟨d, d1, d2, d3, d4⟩ := f2 u hu
            refine ⟨d, by rw [p210 u (by omega)]; exact d1, d2, fun j hj => ?_, fun i i1 i2 i3 => ?_⟩
            · rw [p209 _ (by omega)]; exact d3 j hj
            · obtain ⟨j, j1, j2⟩ := d4 i i1 i2 i3
              exact ⟨j, j1, by rw [p209 _ (by omega)]; exact j2⟩
          · intro j hj
            by_cases cc : j = c
            · exact ⟨15 * s + t, by omega, by omega, hT, by rw [cc, p209s, hTe]⟩
            · obtain ⟨i, i1, i2, i3, i4⟩ := c3 j (by omega)
              exact ⟨i, i1, by omega, i3, by rw [p209 _ (by omega)]; exact i4⟩
          · intro i i1 i2 i3
            by_cases cc : i = 15 * s + t
            · exact ⟨c, by omega, by rw [p209s, hTe, cc]⟩
            · obtain ⟨j, j1, j2⟩ := c4 i i1 (by omega) i3
              exact ⟨j, by omega, by rw [p209 _ (by omega)]; exact j2⟩
        refine mm_iload_n dX13_findTight_19 rfl rfl ?_
        refine mm_bipush dX13_findTight_20 rfl (by decide) ?_
        refine mm_icge dX13_findTight_22 (by omega) (by omega) (fun h22 => ?_) (fun h22 => ?_)
        · exfalso; omega
        · refine mm_aload_n dX13_findTight_25 rfl rfl ?_
          refine mm_iload_n dX13_findTight_26 rfl rfl ?_
          refine mm_iload_n dX13_findTight_27 rfl rfl ?_
          refine mm_V2i dX13_findTight_28 rfl lk_X13_540 (c := 183) rfl (by decide) rfl (by simp) (by simp) rfl rfl rfl (ct) ?_
          refine mm_ifne dX13_findTight_31 (by omega) (fun _ => ?_) (fun h => absurd h (by decide))
          refine mm_aload_n dX13_findTight_37 rfl rfl ?_
          refine mm_getr dX13_findTight_38 rfl fl_X13_274 (c := 183) rfl (by decide) rfl rfl (hRN.at (c := 183) (i := 42) (v := 210) rfl (by decide)) ?_
          refine mm_bipush dX13_findTight_41 rfl (by decide) ?_
          refine mm_iload_n dX13_findTight_43 rfl rfl ?_
          refine mm_imul dX13_findTight_44 rfl ?_
          refine mm_aload_n dX13_findTight_45 rfl rfl ?_
          refine mm_getr dX13_findTight_46 rfl fl_X13_277 (c := 183) rfl (by decide) rfl rfl (hRN.at (c := 183) (i := 43) (v := 211) rfl (by decide)) ?_
          refine mm_iload_n dX13_findTight_49 rfl rfl ?_
          refine mm_ialk (k0 := s) dX13_findTight_50 rfl (c := 210) rfl (by decide) rfl (by omega) (by omega) ?_
          rw [c1]
          refine mm_iadd dX13_findTight_51 rfl ?_
          refine mm_aload_n dX13_findTight_52 rfl rfl ?_
          refine mm_iload_n dX13_findTight_53 rfl rfl ?_
          refine mm_iload_n dX13_findTight_54 rfl rfl ?_
          refine mm_V2i dX13_findTight_55 rfl lk_X13_476 (c := 183) rfl (by decide) rfl (by simp) (by simp) rfl rfl rfl (ca) ?_
          refine mm_istk (k0 := 15 * s + c) dX13_findTight_58 rfl (c := 209) rfl (by decide) rfl (by omega) (by omega) (fun M58 hM58 => ?_)
          have hR58 : mm_Rf M58 := by rw [hM58]; exact hRN.up (mm_rt_ar (t := 0) rfl (by decide))
          refine mm_aload_n dX13_findTight_59 rfl rfl ?_
          refine mm_getr dX13_findTight_60 rfl fl_X13_277 (c := 183) rfl (by decide) rfl rfl (hR58.at (c := 183) (i := 43) (v := 211) rfl (by decide)) ?_
          refine mm_iload_n dX13_findTight_63 rfl rfl ?_
          refine mm_dup2 dX13_findTight_64 rfl (by simp) (by simp) ?_
          refine mm_ialk (k0 := s) dX13_findTight_65 rfl (c := 210) rfl (by decide) rfl (by omega) (by omega) ?_
          rw [show M58 210 s = (c : Int) by rw [hM58, mm_up_row (by decide), c1]]
          refine mm_iconst dX13_findTight_66 rfl ?_
          refine mm_iadd dX13_findTight_67 rfl ?_
          refine mm_istk (k0 := s) dX13_findTight_68 rfl (c := 210) rfl (by decide) rfl (by omega) (by omega) (fun M68 hM68 => ?_)
          have hR68 : mm_Rf M68 := by rw [hM68]; exact hR58.up (mm_rt_ar (t := 0) rfl (by decide))
          refine mm_iinc dX13_findTight_69 rfl rfl (Nat.le_of_ble_eq_true rfl) rfl ?_
          refine mm_goto dX13_findTight_72 ?_
          exact fin _ (by rw [hM68, hM58]) hR68
      · have ct := ct.2 (fun q => hT ((tf _).mp q))
        have go := ih hlt N hF (by
          obtain ⟨c, c1, c2, c3, c4⟩ := hQ
          refine ⟨c, c1, by omega, fun j hj => ?_, fun i i1 i2 i3 => ?_⟩
          · obtain ⟨i, i1, i2, i3, i4⟩ := c3 j hj
            exact ⟨i, i1, by omega, i3, i4⟩
          · by_cases cc : i = 15 * s + t
            · rw [cc] at i3; exact absurd i3 hT
            · exact c4 i i1 (by omega) i3)
        rw [show ((t + 1 : Nat) : Int) = (t : Int) + 1 by omega] at go
        refine mm_iload_n dX13_findTight_19 rfl rfl ?_
        refine mm_bipush dX13_findTight_20 rfl (by decide) ?_
        refine mm_icge dX13_findTight_22 (by omega) (by omega) (fun h22 => ?_) (fun h22 => ?_)
        · exfalso; omega
        · refine mm_aload_n dX13_findTight_25 rfl rfl ?_
          refine mm_iload_n dX13_findTight_26 rfl rfl ?_
          refine mm_iload_n dX13_findTight_27 rfl rfl ?_
          refine mm_V2i dX13_findTight_28 rfl lk_X13_540 (c := 183) rfl (by decide) rfl (by simp) (by simp) rfl rfl rfl (ct) ?_
          refine mm_ifne dX13_findTight_31 (by omega) (fun h => absurd h (by decide)) (fun _ => ?_)
          refine mm_goto dX13_findTight_34 ?_
          refine mm_iinc dX13_findTight_69 rfl rfl (Nat.le_of_ble_eq_true rfl) rfl ?_
          refine mm_goto dX13_findTight_72 ?_
          exact go
    · have et : t = 15 := by omega
      subst et
      have go := out N ⟨hRN, f1, fun u hu => by
        by_cases c : u = s
        · rw [c]; exact hQ
        · exact f2 u (by omega)⟩
      refine mm_iload_n dX13_findTight_19 rfl rfl ?_
      refine mm_bipush dX13_findTight_20 rfl (by decide) ?_
      refine mm_icge dX13_findTight_22 (by omega) (by omega) (fun h22 => ?_) (fun h22 => ?_)
      · exact mm_drop (ls' := [(2, 184), (0, (s : Int)), (9, 0)]) (by simp [mm_dr]) go
      · exfalso; omega
  have l1 : ∀ s : Nat, s ≤ n → ∀ N, ky_F M N s → mm_J X Y_X13_findTight 243 243 243 2 [(2, 184), (0, (s : Int)), (9, 0)] [] N Φ := by
    refine mm_lp ?_
    intro s hs ih N hF
    obtain ⟨hRN, f1, f2⟩ := id hF
    obtain ⟨rk, tf⟩ := ky_t.fr f1
    have cn := c_X13_states (X := X) hRN
    rw [rk, hn] at cn
    by_cases hlt : s < n
    · have back : ∀ N, ky_F M N (s + 1) → mm_J X Y_X13_findTight 243 243 243 75 [(2, 184), (0, (s : Int)), (9, 0)] [] N Φ := by
        intro P hP
        have go := ih hlt P hP
        have hRP := hP.1
        rw [show ((s + 1 : Nat) : Int) = (s : Int) + 1 by omega] at go
        refine mm_iinc dX13_findTight_75 rfl rfl (Nat.le_of_ble_eq_true rfl) rfl ?_
        refine mm_goto dX13_findTight_78 ?_
        exact go
      refine mm_iload_n dX13_findTight_2 rfl rfl ?_
      refine mm_aload_n dX13_findTight_3 rfl rfl ?_
      refine mm_V0i dX13_findTight_4 rfl lk_X13_458 (c := 183) rfl (by decide) rfl  rfl rfl rfl (cn) ?_
      refine mm_icge dX13_findTight_7 (by omega) (by omega) (fun h7 => ?_) (fun h7 => ?_)
      · exfalso; omega
      · refine mm_aload_n dX13_findTight_10 rfl rfl ?_
        refine mm_getr dX13_findTight_11 rfl fl_X13_277 (c := 183) rfl (by decide) rfl rfl (hRN.at (c := 183) (i := 43) (v := 211) rfl (by decide)) ?_
        refine mm_iload_n dX13_findTight_14 rfl rfl ?_
        refine mm_iconst dX13_findTight_15 rfl ?_
        refine mm_istk (k0 := s) dX13_findTight_16 rfl (c := 210) rfl (by decide) rfl (by omega) (by omega) (fun M16 hM16 => ?_)
        have hR16 : mm_Rf M16 := by rw [hM16]; exact hRN.up (mm_rt_ar (t := 0) rfl (by decide))
        refine mm_iconst dX13_findTight_17 rfl ?_
        refine mm_istore_n dX13_findTight_18 rfl (Nat.le_of_ble_eq_true rfl) rfl ?_
        refine l2 s hlt back 0 (Nat.zero_le _) _ ⟨hR16, ?_, ?_⟩ ⟨0, ?_, Nat.le_refl _, ?_, ?_⟩
        · intro a a1 a2; rw [hM16, mm_up_row a2]; exact f1 a a1 a2
        · intro u hu
          obtain ⟨d, d1, d2, d3, d4⟩ := f2 u hu
          exact ⟨d, by rw [hM16, mm_up_i (by omega)]; exact d1, d2, by rw [hM16, mm_up_row (by decide)]; exact d3, by rw [hM16, mm_up_row (by decide)]; exact d4⟩
        · rw [hM16, mm_up_s]; rfl
        · intro j hj; exact absurd hj (by omega)
        · intro i i1 i2; exfalso; omega
    · have es : s = n := by omega
      subst es
      refine mm_iload_n dX13_findTight_2 rfl rfl ?_
      refine mm_aload_n dX13_findTight_3 rfl rfl ?_
      refine mm_V0i dX13_findTight_4 rfl lk_X13_458 (c := 183) rfl (by decide) rfl  rfl rfl rfl (cn) ?_
      refine mm_icge dX13_findTight_7 (by omega) (by omega) (fun h7 => ?_) (fun h7 => ?_)
      · refine mm_vret dX13_findTight_81 rfl rfl ?_
        rw [hΦ]; exact ⟨rfl, hRN, hF⟩
      · exfalso; omega
  refine mm_start (ls := [(2, 184), (9, 0), (9, 0)]) rfl ?_
  refine mm_iconst dX13_findTight_0 rfl ?_
  refine mm_istore_n dX13_findTight_1 rfl (Nat.le_of_ble_eq_true rfl) rfl ?_
  exact l1 0 (Nat.zero_le _) M ⟨hR, fun _ _ _ => rfl, fun s hs => absurd hs (by omega)⟩
end

