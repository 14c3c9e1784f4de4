/-! ===== flights of the reference ===== -/
theorem mm_rg.rr {M N : mm_M} (h : mm_rg M N) (h20 : N 183 20 = M 183 20) (h3 : N 193 = M 193) (h4 : N 194 = M 194) (h5 : N 195 = M 195) (h6 : N 196 = M 196) (h7 : N 197 = M 197) (hC : mm_RR M) : mm_RR N := by
  unfold mm_RR kq_C kq_Q kq_H kq_B kq_D at hC ⊢
  rw [h20, h3, h4, h5, h6, h7, h.k]
  exact hC
theorem mm_rg.qt {M N : mm_M} (h : mm_rg M N) (h20 : N 183 20 = M 183 20) (h3 : N 193 = M 193) (h4 : N 194 = M 194) (h5 : N 195 = M 195) (h6 : N 196 = M 196) (h7 : N 197 = M 197) : kq_T N = kq_T M := by
  funext s w
  unfold kq_T kq_C kq_Q kq_H kq_B kq_D
  rw [h20, h3, h4, h5, h6, h7, h.k]
section
variable {X : mm_X} {M : mm_M} {s w h e n : Int}
theorem c_X13_actBy (hR : mm_Rf M) (hK : mm_KV (mm_rk M)) (hC : mm_RR M) (hs : ks_st (mm_rk M) s) (hw : 0 ≤ w ∧ w ≤ 60) :
    mm_Fn X Y_X13_actBy 243 [(2, 184), (0, s), (0, w)] M (0, ks_in (mm_rk M) s (kq_T M s w)) M := by
  have hL := hC.1
  have hT := kq_T_ac hK hC (s := s) (w := w)
  have hslb := ks_slb hK hT
  have hT1 := hT.1
  have hmb := ks_mvb hT1
  have hdb := ks_drb hT1
  refine mm_startF (ls := [(2, 184), (0, s), (0, w), (9, 0), (9, 0), (9, 0)]) rfl ?_
  have fin : ∀ l4 : mm_V, mm_J X Y_X13_actBy 243 243 243 40 [(2, 184), (0, s), (0, w), (0, kq_T M s w), l4, (9, 0)] [] M (fun r' M'' => r' = (0, ks_in (mm_rk M) s (kq_T M s w)) ∧ M'' = M) := by
    intro l4
    refine mm_aload_n dX13_actBy_40 rfl rfl ?_
    refine mm_iload_n dX13_actBy_41 rfl rfl ?_
    refine mm_iload_n dX13_actBy_42 rfl rfl ?_
    refine mm_S1i dX13_actBy_43 rfl lk_X13_441 (by simp) rfl rfl rfl (c_X13_moveOf (by omega)) ?_
    refine mm_V2i dX13_actBy_46 rfl lk_X13_444 (c := 183) rfl (by decide) rfl (by simp) (by simp) rfl rfl rfl (c_X13_canMove hR hK hs hmb) ?_
    refine mm_ifeqb dX13_actBy_49 (fun h49 => ?_) (fun h49 => ?_)
    · refine mm_iconst dX13_actBy_59 rfl ?_
      refine mm_istore dX13_actBy_60 rfl (Nat.le_of_ble_eq_true rfl) rfl ?_
      refine mm_aload_n dX13_actBy_62 rfl rfl ?_
      refine mm_iload_n dX13_actBy_63 rfl rfl ?_
      refine mm_iload_n dX13_actBy_64 rfl rfl ?_
      refine mm_S1i dX13_actBy_65 rfl lk_X13_448 (by simp) rfl rfl rfl (c_X13_drumOf (by omega)) ?_
      refine mm_V2i dX13_actBy_68 rfl lk_X13_451 (c := 183) rfl (by decide) rfl (by simp) (by simp) rfl rfl rfl (c_X13_canReel hR hK hs hdb) ?_
      refine mm_ifeqb dX13_actBy_71 (fun h71 => ?_) (fun h71 => ?_)
      · refine mm_iconst dX13_actBy_81 rfl ?_
        refine mm_istore dX13_actBy_82 rfl (Nat.le_of_ble_eq_true rfl) rfl ?_
        refine mm_bipush dX13_actBy_84 rfl (by decide) ?_
        refine mm_iload_n dX13_actBy_86 rfl rfl ?_
        refine mm_bipush dX13_actBy_87 rfl (by decide) ?_
        refine mm_idiv dX13_actBy_89 rfl (by omega) (by omega) (by omega) ?_
        rw [mm_tdiv hT1]
        refine mm_imul dX13_actBy_90 rfl ?_
        refine mm_iconst dX13_actBy_91 rfl ?_
        refine mm_iload dX13_actBy_92 rfl rfl ?_
        refine mm_imul dX13_actBy_94 rfl ?_
        refine mm_iadd dX13_actBy_95 rfl ?_
        refine mm_iload dX13_actBy_96 rfl rfl ?_
        refine mm_iadd dX13_actBy_98 rfl ?_
        refine mm_iret dX13_actBy_99 rfl rfl ?_
        refine mm_fin ?_ rfl
        rw [ks_in_eq hT1]
        first
        | (rw [if_pos h49, if_pos h71]; done)
        | (rw [if_pos h49, if_neg h71]; done)
        | (rw [if_neg h49, if_pos h71]; done)
        | (rw [if_neg h49, if_neg h71]; done)
      · refine mm_iload_n dX13_actBy_74 rfl rfl ?_
        refine mm_S1i dX13_actBy_75 rfl lk_X13_448 (by simp) rfl rfl rfl (c_X13_drumOf (by omega)) ?_
        refine mm_goto dX13_actBy_78 ?_
        refine mm_istore dX13_actBy_82 rfl (Nat.le_of_ble_eq_true rfl) rfl ?_
        refine mm_bipush dX13_actBy_84 rfl (by decide) ?_
        refine mm_iload_n dX13_actBy_86 rfl rfl ?_
        refine mm_bipush dX13_actBy_87 rfl (by decide) ?_
        refine mm_idiv dX13_actBy_89 rfl (by omega) (by omega) (by omega) ?_
        rw [mm_tdiv hT1]
        refine mm_imul dX13_actBy_90 rfl ?_
        refine mm_iconst dX13_actBy_91 rfl ?_
        refine mm_iload dX13_actBy_92 rfl rfl ?_
        refine mm_imul dX13_actBy_94 rfl ?_
        refine mm_iadd dX13_actBy_95 rfl ?_
        refine mm_iload dX13_actBy_96 rfl rfl ?_
        refine mm_iadd dX13_actBy_98 rfl ?_
        refine mm_iret dX13_actBy_99 rfl rfl ?_
        refine mm_fin ?_ rfl
        rw [ks_in_eq hT1]
        first
        | (rw [if_pos h49, if_pos h71]; done)
        | (rw [if_pos h49, if_neg h71]; done)
        | (rw [if_neg h49, if_pos h71]; done)
        | (rw [if_neg h49, if_neg h71]; done)
    · refine mm_iload_n dX13_actBy_52 rfl rfl ?_
      refine mm_S1i dX13_actBy_53 rfl lk_X13_441 (by simp) rfl rfl rfl (c_X13_moveOf (by omega)) ?_
      refine mm_goto dX13_actBy_56 ?_
      refine mm_istore dX13_actBy_60 rfl (Nat.le_of_ble_eq_true rfl) rfl ?_
      refine mm_aload_n dX13_actBy_62 rfl rfl ?_
      refine mm_iload_n dX13_actBy_63 rfl rfl ?_
      refine mm_iload_n dX13_actBy_64 rfl rfl ?_
      refine mm_S1i dX13_actBy_65 rfl lk_X13_448 (by simp) rfl rfl rfl (c_X13_drumOf (by omega)) ?_
      refine mm_V2i dX13_actBy_68 rfl lk_X13_451 (c := 183) rfl (by decide) rfl (by simp) (by simp) rfl rfl rfl (c_X13_canReel hR hK hs hdb) ?_
      refine mm_ifeqb dX13_actBy_71 (fun h71 => ?_) (fun h71 => ?_)
      · refine mm_iconst dX13_actBy_81 rfl ?_
        refine mm_istore dX13_actBy_82 rfl (Nat.le_of_ble_eq_true rfl) rfl ?_
        refine mm_bipush dX13_actBy_84 rfl (by decide) ?_
        refine mm_iload_n dX13_actBy_86 rfl rfl ?_
        refine mm_bipush dX13_actBy_87 rfl (by decide) ?_
        refine mm_idiv dX13_actBy_89 rfl (by omega) (by omega) (by omega) ?_
        rw [mm_tdiv hT1]
        refine mm_imul dX13_actBy_90 rfl ?_
        refine mm_iconst dX13_actBy_91 rfl ?_
        refine mm_iload dX13_actBy_92 rfl rfl ?_
        refine mm_imul dX13_actBy_94 rfl ?_
        refine mm_iadd dX13_actBy_95 rfl ?_
        refine mm_iload dX13_actBy_96 rfl rfl ?_
        refine mm_iadd dX13_actBy_98 rfl ?_
        refine mm_iret dX13_actBy_99 rfl rfl ?_
        refine mm_fin ?_ rfl
        rw [ks_in_eq hT1]
        first
        | (rw [if_pos h49, if_pos h71]; done)
        | (rw [if_pos h49, if_neg h71]; done)
        | (rw [if_neg h49, if_pos h71]; done)
        | (rw [if_neg h49, if_neg h71]; done)
      · refine mm_iload_n dX13_actBy_74 rfl rfl ?_
        refine mm_S1i dX13_actBy_75 rfl lk_X13_448 (by simp) rfl rfl rfl (c_X13_drumOf (by omega)) ?_
        refine mm_goto dX13_actBy_78 ?_
        refine mm_istore dX13_actBy_82 rfl (Nat.le_of_ble_eq_true rfl) rfl ?_
        refine mm_bipush dX13_actBy_84 rfl (by decide) ?_
        refine mm_iload_n dX13_actBy_86 rfl rfl ?_
        refine mm_bipush dX13_actBy_87 rfl (by decide) ?_
        refine mm_idiv dX13_actBy_89 rfl (by omega) (by omega) (by omega) ?_
        rw [mm_tdiv hT1]
        refine mm_imul dX13_actBy_90 rfl ?_
        refine mm_iconst dX13_actBy_91 rfl ?_
        refine mm_iload dX13_actBy_92 rfl rfl ?_
        refine mm_imul dX13_actBy_94 rfl ?_
        refine mm_iadd dX13_actBy_95 rfl ?_
        refine mm_iload dX13_actBy_96 rfl rfl ?_
        refine mm_iadd dX13_actBy_98 rfl ?_
        refine mm_iret dX13_actBy_99 rfl rfl ?_
        refine mm_fin ?_ rfl
        rw [ks_in_eq hT1]
        first
        | (rw [if_pos h49, if_pos h71]; done)
        | (rw [if_pos h49, if_neg h71]; done)
        | (rw [if_neg h49, if_pos h71]; done)
        | (rw [if_neg h49, if_neg h71]; done)
  have loop : ∀ i : Nat, i ≤ (M 183 20).toNat → mm_J X Y_X13_actBy 243 243 243 10 [(2, 184), (0, s), (0, w), (0, kr_act (kr_ln (mm_rk M) s w (kq_C M) (kq_Q M) (kq_H M) (kq_B M)) (kq_D M) i ((M 183 20).toNat - i)), (0, (i : Int) - 1), (9, 0)] [] M (fun r' M'' => r' = (0, ks_in (mm_rk M) s (kq_T M s w)) ∧ M'' = M) := by
    intro i
    induction i with
    | zero =>
      intro hi
      refine mm_iload dX13_actBy_10 rfl rfl ?_
      refine mm_iflt dX13_actBy_12 (by omega) (fun h12 => ?_) (fun h12 => ?_)
      · exact fin _
      · exfalso; omega
    | succ i ih =>
      intro hi
      have hq := hC.2 i (by omega)
      have eD : M 197 i = kq_D M i := rfl
      have ih := ih (by omega)
      rw [show (M 183 20).toNat - i = ((M 183 20).toNat - (i + 1)) + 1 by omega, kr_act] at ih
      rw [show ((i + 1 : Nat) : Int) - 1 = (i : Int) by omega]
      refine mm_iload dX13_actBy_10 rfl rfl ?_
      refine mm_iflt dX13_actBy_12 (by omega) (fun h12 => ?_) (fun h12 => ?_)
      · exfalso; omega
      · refine mm_aload_n dX13_actBy_15 rfl rfl ?_
        refine mm_iload dX13_actBy_16 rfl rfl ?_
        refine mm_iload_n dX13_actBy_18 rfl rfl ?_
        refine mm_iload_n dX13_actBy_19 rfl rfl ?_
        refine mm_V3i dX13_actBy_20 rfl lk_X13_632 (c := 183) rfl (by decide) rfl (by simp) (by simp) (by simp) rfl rfl rfl (c_X13_holds hR hK hs hw (by omega) hq.1 hq.2.1) ?_
        refine mm_ifeqb dX13_actBy_23 (fun h23 => ?_) (fun h23 => ?_)
        · refine mm_iinc dX13_actBy_34 rfl rfl (Nat.le_of_ble_eq_true rfl) rfl ?_
          refine mm_goto dX13_actBy_37 ?_
          first
          | (rw [if_pos h23] at ih; exact ih)
          | (rw [if_neg h23] at ih; exact ih)
        · refine mm_aload_n dX13_actBy_26 rfl rfl ?_
          refine mm_getr dX13_actBy_27 rfl fl_X13_229 (c := 183) rfl (by decide) rfl rfl (hR.at (c := 183) (i := 26) (v := 198) rfl (by decide)) ?_
          refine mm_iload dX13_actBy_30 rfl rfl ?_
          refine mm_ialk (k0 := i) dX13_actBy_32 rfl (c := 197) rfl (by decide) rfl (by omega) (by omega) ?_
          rw [eD]
          refine mm_istore_n dX13_actBy_33 rfl (Nat.le_of_ble_eq_true rfl) rfl ?_
          refine mm_iinc dX13_actBy_34 rfl rfl (Nat.le_of_ble_eq_true rfl) rfl ?_
          refine mm_goto dX13_actBy_37 ?_
          first
          | (rw [if_pos h23] at ih; exact ih)
          | (rw [if_neg h23] at ih; exact ih)
  refine mm_iconst dX13_actBy_0 rfl ?_
  refine mm_istore_n dX13_actBy_1 rfl (Nat.le_of_ble_eq_true rfl) rfl ?_
  refine mm_aload_n dX13_actBy_2 rfl rfl ?_
  refine mm_get (kd := 0) dX13_actBy_3 rfl fl_X13_394 (c := 183) rfl (by decide) rfl rfl ?_
  refine mm_iconst dX13_actBy_6 rfl ?_
  refine mm_isub dX13_actBy_7 rfl ?_
  refine mm_istore dX13_actBy_8 rfl (Nat.le_of_ble_eq_true rfl) rfl ?_
  have := loop (M 183 20).toNat (Nat.le_refl _)
  rw [Nat.sub_self, kr_act, Int.toNat_of_nonneg hL.1] at this
  exact this
/-- what flyOn leaves -/
def kfl_postT (M M' : mm_M) (L : Nat → Int) (s h e : Int) (n c : Nat) : Prop :=
  kj_is (kfl_ok (mm_rk M) (kq_T M) (kfl_W L (mm_rk M) h e) s) n c ∧ (∀ a, a ≠ 183 → a ≠ 221 → M' a = M a) ∧ (∀ b, ¬ (76 ≤ b ∧ b ≤ 78) → M' 183 b = M 183 b) ∧ M' 183 76 = kfl_end (mm_rk M) (kq_T M) (kfl_W L (mm_rk M) h e) s n c ∧
  M' 183 77 = ka_sum (kfl_g (mm_rk M) (kq_T M) (kfl_W L (mm_rk M) h e) s) c ∧ M' 183 78 = kfl_S (mm_rk M) (kq_T M) (kfl_W L (mm_rk M) h e) s c ∧ (∀ i, i < c → M' 221 i = kfl_a (mm_rk M) (kq_T M) (kfl_W L (mm_rk M) h e) s i)
theorem c_X13_flyOn {P : Prop} [Decidable P] (hR : mm_Rf M) (hK : mm_KV (mm_rk M)) (hA : mm_RA M) (hC : mm_RR M) (hs : ks_st (mm_rk M) s) (hh : ks_hr h) (hn : 1 ≤ n ∧ n ≤ 500) (he : 0 ≤ e ∧ e ≤ 60) :
    mm_C X Y_X13_flyOn 243 243 [(2, 184), (0, s), (0, h), (0, n), (0, e), (0, mm_b P)] M (fun r M' => ∃ c : Nat, r = (0, (c : Int)) ∧ mm_Rf M' ∧ mm_rg M M' ∧ kfl_postT M M' (if P then M 204 else M 203) s h e n.toNat c) := by
  obtain ⟨L, hL⟩ : ∃ L, L = (if P then M 204 else M 203) := ⟨_, rfl⟩
  rw [← hL]
  have hLb : ∀ p, p < 120 → 0 ≤ L p ∧ L p ≤ 60 := by
    intro p hp
    have := hA p hp
    rw [hL]
    split <;> omega
  have hG0 := mm_rg.rf M
  have hnb := ks_nb hK
  obtain ⟨S, hS⟩ : ∃ S, S = kfl_S (mm_rk M) (kq_T M) (kfl_W L (mm_rk M) h e) s := ⟨_, rfl⟩
  have hSs : ∀ i, ks_st (mm_rk M) (S i) := by rw [hS]; exact kfl_st hK (fun s w => kq_T_ac hK hC) hs
  have hWb : ∀ i, 0 ≤ kfl_W L (mm_rk M) h e (S i) i ∧ kfl_W L (mm_rk M) h e (S i) i ≤ 60 := fun i => kfl_Wb hK hLb (hSs i) hh (by omega)
  have hab : ∀ i, ks_ac (mm_rk M) (kfl_a (mm_rk M) (kq_T M) (kfl_W L (mm_rk M) h e) s i) := fun i => ks_in_ac (kq_T_ac hK hC)
  have hpb : ∀ i, 0 ≤ kfl_p (mm_rk M) (kq_T M) (kfl_W L (mm_rk M) h e) s i ∧ kfl_p (mm_rk M) (kq_T M) (kfl_W L (mm_rk M) h e) s i ≤ 1425600 := fun i => ks_pw hK (hab i) (by have := hWb i; rw [hS] at this; exact this)
  refine mm_start (ls := [(2, 184), (0, s), (0, h), (0, n), (0, e), (0, mm_b P), (9, 0), (9, 0), (9, 0), (9, 0), (9, 0), (9, 0)]) rfl ?_
  obtain ⟨hf, hff⟩ : ∃ f : Nat → Int, ∀ i : Nat, f i = (if e = 0 then h else (h + (i : Int) / e) % 24) := ⟨_, fun _ => rfl⟩
  have hfr : ∀ i, ks_hr (hf i) := by
    intro i
    rw [hff]
    split
    · exact hh
    · have : 0 ≤ (i : Int) / e := Int.ediv_nonneg (by omega) (by omega)
      unfold ks_hr
      omega
  -- the end
  have fin : ∀ (i : Nat) (N : mm_M) (l8 l9 l10 l11 : mm_V), i ≤ n.toNat → mm_Rf N → mm_rg M N → (∀ a, a ≠ 183 → a ≠ 221 → N a = M a) → (∀ b, ¬ (76 ≤ b ∧ b ≤ 78) → N 183 b = M 183 b) → (∀ j, j < i → kfl_ok (mm_rk M) (kq_T M) (kfl_W L (mm_rk M) h e) s j) → (i < n.toNat → ¬ kfl_ok (mm_rk M) (kq_T M) (kfl_W L (mm_rk M) h e) s i) →
      N 183 76 = kfl_end (mm_rk M) (kq_T M) (kfl_W L (mm_rk M) h e) s n.toNat i → N 183 77 = ka_sum (kfl_g (mm_rk M) (kq_T M) (kfl_W L (mm_rk M) h e) s) i → (∀ j, j < i → N 221 j = kfl_a (mm_rk M) (kq_T M) (kfl_W L (mm_rk M) h e) s j) →
      mm_J X Y_X13_flyOn 243 243 243 185 [(2, 184), (0, s), (0, h), (0, n), (0, e), (0, mm_b P), (0, S i), (0, (i : Int)), l8, l9, l10, l11] [] N (fun r M' => ∃ c : Nat, r = (0, (c : Int)) ∧ mm_Rf M' ∧ mm_rg M M' ∧ kfl_postT M M' L s h e n.toNat c) := by
    intro i N l8 l9 l10 l11 hi hRN hG hfa hfb hok hno e76 e77 hac
    refine mm_aload_n dX13_flyOn_185 rfl rfl ?_
    refine mm_iload dX13_flyOn_186 rfl rfl ?_
    refine mm_puti dX13_flyOn_188 rfl fl_X13_644 (c := 183) rfl (by decide) rfl rfl (fun M188 hM188 => ?_)
    have hR188 : mm_Rf M188 := by rw [hM188]; exact hRN.up rfl
    have hG188 : mm_rg M M188 := by rw [hM188]; exact hG.up (by decide)
    refine mm_iload dX13_flyOn_191 rfl rfl ?_
    refine mm_iret dX13_flyOn_193 rfl rfl ?_
    refine ⟨i, rfl, hR188, hG188, ⟨hi, hok, hno⟩, ?_, ?_, ?_, ?_, ?_, ?_⟩
    · intro x h1 h2; funext b; simp [hM188, mm_up, h1]; rw [hfa x h1 h2]
    · intro b hb
      have n1 : b ≠ 78 := by omega
      simp [hM188, mm_up, n1]; exact hfb b hb
    · simp [hM188, mm_up, e76]
    · simp [hM188, mm_up, e77]
    · simp [hM188, mm_up, hS]
    · intro j hj; simp [hM188, mm_up]; exact hac j hj
  have loop : ∀ i : Nat, i ≤ n.toNat → ∀ (N : mm_M) (l8 l9 l10 l11 : mm_V), mm_Rf N → mm_rg M N → (∀ a, a ≠ 183 → a ≠ 221 → N a = M a) → (∀ b, ¬ (76 ≤ b ∧ b ≤ 78) → N 183 b = M 183 b) → (∀ j, j < i → kfl_ok (mm_rk M) (kq_T M) (kfl_W L (mm_rk M) h e) s j) →
      N 183 76 = 0 → N 183 77 = ka_sum (kfl_g (mm_rk M) (kq_T M) (kfl_W L (mm_rk M) h e) s) i → (∀ j, j < i → N 221 j = kfl_a (mm_rk M) (kq_T M) (kfl_W L (mm_rk M) h e) s j) →
      mm_J X Y_X13_flyOn 243 243 243 16 [(2, 184), (0, s), (0, h), (0, n), (0, e), (0, mm_b P), (0, S i), (0, (i : Int)), l8, l9, l10, l11] [] N (fun r M' => ∃ c : Nat, r = (0, (c : Int)) ∧ mm_Rf M' ∧ mm_rg M M' ∧ kfl_postT M M' L s h e n.toNat c) := by
    refine mm_lp ?_
    intro i hi ih N l8 l9 l10 l11 hRN hG hfa hfb hok e76 e77 hac
    by_cases hlt : i < n.toNat
    · have hSi := hSs i
      have hWi := hWb i
      have hfi := hfr i
      have hai := hab i
      have hpi := hpb i
      have hslb := ks_slb hK hai
      have ha1 := hai.1
      have hwab := ks_wab hK (d := ks_dr (kfl_a (mm_rk M) (kq_T M) (kfl_W L (mm_rk M) h e) s i)) hpi
      have hsum := ka_sumb (B := 5800000) (n := i) (f := kfl_g (mm_rk M) (kq_T M) (kfl_W L (mm_rk M) h e) s) (fun j hj => ks_wab hK (hpb j))
      have eW : (if P then ks_wi (M 204) (mm_rk M) (S i) (hf i) else ks_wi (M 203) (mm_rk M) (S i) (hf i)) = kfl_W L (mm_rk M) h e (S i) i := by
        unfold kfl_W
        rw [← hff, hL]
        split <;> rfl
      have ea : ks_in (mm_rk M) (S i) (kq_T M (S i) (kfl_W L (mm_rk M) h e (S i) i)) = kfl_a (mm_rk M) (kq_T M) (kfl_W L (mm_rk M) h e) s i := by rw [hS]; rfl
      have ep : ks_p (mm_rk M) (S i) (kfl_a (mm_rk M) (kq_T M) (kfl_W L (mm_rk M) h e) s i) (kfl_W L (mm_rk M) h e (S i) i) = kfl_p (mm_rk M) (kq_T M) (kfl_W L (mm_rk M) h e) s i := by rw [hS]; rfl
      have eS : ks_to (mm_rk M) (S i) (kfl_a (mm_rk M) (kq_T M) (kfl_W L (mm_rk M) h e) s i) = S (i + 1) := by rw [hS]; rfl
      have f186 : N 186 = M 186 := hG.1
      have e4 : mm_rk M 4 = M 186 4 := rfl
      have e5 : mm_rk M 5 = M 186 5 := rfl
      have b4 : 0 ≤ M 186 4 ∧ M 186 4 ≤ 9999 := hK.2.2.2.2.1
      have b5 : 1 ≤ M 186 5 ∧ M 186 5 ≤ 99999 := hK.2.2.2.2.2.1
      have hRR : mm_RR N := hG.rr (hfb 20 (by omega)) (hfa 193 (by decide) (by decide)) (hfa 194 (by decide) (by decide)) (hfa 195 (by decide) (by decide)) (hfa 196 (by decide) (by decide)) (hfa 197 (by decide) (by decide)) hC
      have hqt : kq_T N = kq_T M := hG.qt (hfb 20 (by omega)) (hfa 193 (by decide) (by decide)) (hfa 194 (by decide) (by decide)) (hfa 195 (by decide) (by decide)) (hfa 196 (by decide) (by decide)) (hfa 197 (by decide) (by decide))
      have cA := c_X13_actBy (X := X) (M := N) (s := S i) (w := kfl_W L (mm_rk M) h e (S i) i) hRN (by rw [hG.k]; exact hK) hRR (by rw [hG.k]; exact hSi) hWi
      rw [hqt, hG.k, ea] at cA
      -- behind the fate
      have nx2 : ∀ (z : Int), z = ks_fate (mm_rk M) (kfl_p (mm_rk M) (kq_T M) (kfl_W L (mm_rk M) h e) s i) → mm_J X Y_X13_flyOn 243 243 243 130 [(2, 184), (0, s), (0, h), (0, n), (0, e), (0, mm_b P), (0, S i), (0, (i : Int)), (0, hf i), (0, kfl_W L (mm_rk M) h e (S i) i), (0, kfl_a (mm_rk M) (kq_T M) (kfl_W L (mm_rk M) h e) s i), (0, kfl_p (mm_rk M) (kq_T M) (kfl_W L (mm_rk M) h e) s i)] [(0, z), (2, 184)] N (fun r M' => ∃ c : Nat, r = (0, (c : Int)) ∧ mm_Rf M' ∧ mm_rg M M' ∧ kfl_postT M M' L s h e n.toNat c) := by
        intro z hz
        have hfb2 := ks_fateb (K := mm_rk M) (p := kfl_p (mm_rk M) (kq_T M) (kfl_W L (mm_rk M) h e) s i)
        by_cases hf0 : z = 0
        · refine mm_puti dX13_flyOn_130 rfl fl_X13_635 (c := 183) rfl (by decide) rfl rfl (fun M130 hM130 => ?_)
          have hR130 : mm_Rf M130 := by rw [hM130]; exact hRN.up rfl
          have hG130 : mm_rg M M130 := by rw [hM130]; exact hG.up (by decide)
          refine mm_aload_n dX13_flyOn_133 rfl rfl ?_
          refine mm_get (kd := 0) dX13_flyOn_134 rfl fl_X13_635 (c := 183) rfl (by decide) rfl rfl ?_
          obtain ⟨v134, hv134⟩ : ∃ v, v = M130 183 76 := ⟨_, rfl⟩
          rw [← hv134]
          rw [hM130, mm_up_s] at hv134
          subst hv134
          refine mm_ifle dX13_flyOn_137 (by omega) (fun h137 => ?_) (fun h137 => ?_)
          · refine mm_aload_n dX13_flyOn_143 rfl rfl ?_
            refine mm_dup dX13_flyOn_144 rfl (by simp) ?_
            refine mm_get (kd := 0) dX13_flyOn_145 rfl fl_X13_638 (c := 183) rfl (by decide) rfl rfl ?_
            obtain ⟨v145, hv145⟩ : ∃ v, v = M130 183 77 := ⟨_, rfl⟩
            rw [← hv145]
            rw [hM130, mm_up_i (by decide), e77] at hv145
            subst hv145
            refine mm_aload_n dX13_flyOn_148 rfl rfl ?_
            refine mm_iload dX13_flyOn_149 rfl rfl ?_
            refine mm_iload dX13_flyOn_151 rfl rfl ?_
            refine mm_V2i dX13_flyOn_153 rfl lk_X13_507 (c := 183) rfl (by decide) rfl (by simp) (by simp) rfl rfl rfl (g_X13_workOf hR130 hG130 hK (by omega) hpi) ?_
            refine mm_iadd dX13_flyOn_156 rfl ?_
            refine mm_puti dX13_flyOn_157 rfl fl_X13_638 (c := 183) rfl (by decide) rfl rfl (fun M157 hM157 => ?_)
            have hR157 : mm_Rf M157 := by rw [hM157]; exact hR130.up rfl
            have hG157 : mm_rg M M157 := by rw [hM157]; exact hG130.up (by decide)
            refine mm_aload_n dX13_flyOn_160 rfl rfl ?_
            refine mm_getr dX13_flyOn_161 rfl fl_X13_310 (c := 183) rfl (by decide) rfl rfl (hR157.at (c := 183) (i := 74) (v := 222) rfl (by decide)) ?_
            refine mm_iload dX13_flyOn_164 rfl rfl ?_
            refine mm_iload dX13_flyOn_166 rfl rfl ?_
            refine mm_istk (k0 := i) dX13_flyOn_168 rfl (c := 221) rfl (by decide) rfl (by omega) (by omega) (fun M168 hM168 => ?_)
            have hR168 : mm_Rf M168 := by rw [hM168]; exact hR157.up (mm_rt_ar (t := 0) rfl (by decide))
            have hG168 : mm_rg M M168 := by rw [hM168]; exact hG157.upa (by decide)
            refine mm_aload_n dX13_flyOn_169 rfl rfl ?_
            refine mm_iload dX13_flyOn_170 rfl rfl ?_
            refine mm_iload dX13_flyOn_172 rfl rfl ?_
            refine mm_V2i dX13_flyOn_174 rfl lk_X13_476 (c := 183) rfl (by decide) rfl (by simp) (by simp) rfl rfl rfl (g_X13_after hR168 hG168 (by omega)) ?_
            rw [eS]
            refine mm_istore dX13_flyOn_177 rfl (Nat.le_of_ble_eq_true rfl) rfl ?_
            refine mm_iinc dX13_flyOn_179 rfl rfl (Nat.le_of_ble_eq_true rfl) rfl ?_
            refine mm_goto dX13_flyOn_182 ?_
            refine ih hlt _ _ _ _ _ hR168 hG168 ?_ ?_ ?_ ?_ ?_ ?_
            · intro x h1 h2; funext b; simp [hM168, hM157, hM130, mm_up, h1, h2]; rw [hfa x h1 h2]
            · intro b hb
              have n1 : b ≠ 76 := by omega
              have n2 : b ≠ 77 := by omega
              simp [hM168, hM157, hM130, mm_up, n1, n2]; exact hfb b hb
            · intro j hj
              by_cases q : j = i
              · rw [q]; exact hz.symm.trans hf0
              · exact hok j (by omega)
            · simp [hM168, hM157, hM130, mm_up, hf0]
            · simp [hM168, hM157, hM130, mm_up]; rfl
            · intro j hj
              by_cases q : j = i
              · simp [hM168, hM157, hM130, mm_up, q]
              · simp [hM168, hM157, hM130, mm_up, q]; exact hac j (by omega)
          · exfalso; omega
        · refine mm_puti dX13_flyOn_130 rfl fl_X13_635 (c := 183) rfl (by decide) rfl rfl (fun M130 hM130 => ?_)
          have hR130 : mm_Rf M130 := by rw [hM130]; exact hRN.up rfl
          have hG130 : mm_rg M M130 := by rw [hM130]; exact hG.up (by decide)
          refine mm_aload_n dX13_flyOn_133 rfl rfl ?_
          refine mm_get (kd := 0) dX13_flyOn_134 rfl fl_X13_635 (c := 183) rfl (by decide) rfl rfl ?_
          obtain ⟨v134, hv134⟩ : ∃ v, v = M130 183 76 := ⟨_, rfl⟩
          rw [← hv134]
          rw [hM130, mm_up_s] at hv134
          subst hv134
          refine mm_ifle dX13_flyOn_137 (by omega) (fun h137 => ?_) (fun h137 => ?_)
          · exfalso; omega
          · refine mm_goto dX13_flyOn_140 ?_
            refine mm_iload dX13_flyOn_16 rfl rfl ?_
            refine mm_iload_n dX13_flyOn_18 rfl rfl ?_
            refine mm_icge dX13_flyOn_19 (by omega) (by omega) (fun h19 => ?_) (fun h19 => ?_)
            · exfalso; omega
            · refine mm_aload_n dX13_flyOn_22 rfl rfl ?_
              refine mm_get (kd := 0) dX13_flyOn_23 rfl fl_X13_635 (c := 183) rfl (by decide) rfl rfl ?_
              obtain ⟨v23, hv23⟩ : ∃ v, v = M130 183 76 := ⟨_, rfl⟩
              rw [← hv23]
              rw [hM130, mm_up_s] at hv23
              subst hv23
              refine mm_ifne dX13_flyOn_26 (by omega) (fun h26 => ?_) (fun h26 => ?_)
              · refine fin i _ _ _ _ _ hi hR130 hG130 ?_ ?_ hok (fun _ q => hf0 (hz.trans q)) ?_ ?_ ?_
                · intro x h1 h2; funext b; simp [hM130, mm_up, h1]; rw [hfa x h1 h2]
                · intro b hb
                  have n1 : b ≠ 76 := by omega
                  simp [hM130, mm_up, n1]; exact hfb b hb
                · simp [hM130, mm_up]; unfold kfl_end; rw [if_pos hlt]; exact hz
                · simp [hM130, mm_up, e77]
                · intro j hj; simp [hM130, mm_up]; exact hac j hj
              · exfalso; omega
      -- behind the hour and the wind
      have nx1 : ∀ (z : Int) (l9 l10 l11 : mm_V), z = kfl_W L (mm_rk M) h e (S i) i → mm_J X Y_X13_flyOn 243 243 243 74 [(2, 184), (0, s), (0, h), (0, n), (0, e), (0, mm_b P), (0, S i), (0, (i : Int)), (0, hf i), l9, l10, l11] [(0, z)] N (fun r M' => ∃ c : Nat, r = (0, (c : Int)) ∧ mm_Rf M' ∧ mm_rg M M' ∧ kfl_postT M M' L s h e n.toNat c) := by
        intro z l9 l10 l11 hz
        subst hz
        refine mm_istore dX13_flyOn_74 rfl (Nat.le_of_ble_eq_true rfl) rfl ?_
        refine mm_aload_n dX13_flyOn_76 rfl rfl ?_
        refine mm_iload dX13_flyOn_77 rfl rfl ?_
        refine mm_iload dX13_flyOn_79 rfl rfl ?_
        refine mm_V2i dX13_flyOn_81 rfl lk_X13_641 (c := 183) rfl (by decide) rfl (by simp) (by simp) rfl rfl rfl (cA) ?_
        refine mm_istore dX13_flyOn_84 rfl (Nat.le_of_ble_eq_true rfl) rfl ?_
        refine mm_aload_n dX13_flyOn_86 rfl rfl ?_
        refine mm_iload dX13_flyOn_87 rfl rfl ?_
        refine mm_iload dX13_flyOn_89 rfl rfl ?_
        refine mm_iload dX13_flyOn_91 rfl rfl ?_
        refine mm_V3i dX13_flyOn_93 rfl lk_X13_497 (c := 183) rfl (by decide) rfl (by simp) (by simp) (by simp) rfl rfl rfl ((ep ▸ g_X13_pullOf hRN hG hK hSi hai (by omega))) ?_
        refine mm_istore dX13_flyOn_96 rfl (Nat.le_of_ble_eq_true rfl) rfl ?_
        refine mm_aload_n dX13_flyOn_98 rfl rfl ?_
        refine mm_iload dX13_flyOn_99 rfl rfl ?_
        refine mm_aload_n dX13_flyOn_101 rfl rfl ?_
        refine mm_getr dX13_flyOn_102 rfl fl_X13_151 (c := 183) rfl (by decide) rfl rfl (hRN.at (c := 183) (i := 10) (v := 187) rfl (by decide)) ?_
        refine mm_iconst dX13_flyOn_105 rfl ?_
        refine mm_ialk (k0 := 4) dX13_flyOn_106 rfl (c := 186) rfl (by decide) rfl rfl (by decide) ?_
        rw [f186]
        refine mm_icge dX13_flyOn_107 (by omega) (by omega) (fun h107 => ?_) (fun h107 => ?_)
        · refine mm_iload dX13_flyOn_114 rfl rfl ?_
          refine mm_aload_n dX13_flyOn_116 rfl rfl ?_
          refine mm_getr dX13_flyOn_117 rfl fl_X13_151 (c := 183) rfl (by decide) rfl rfl (hRN.at (c := 183) (i := 10) (v := 187) rfl (by decide)) ?_
          refine mm_iconst dX13_flyOn_120 rfl ?_
          refine mm_ialk (k0 := 5) dX13_flyOn_121 rfl (c := 186) rfl (by decide) rfl rfl (by decide) ?_
          rw [f186]
          refine mm_icle_d (q2 := 130) dX13_flyOn_122 (by omega) (by omega) (fun k => mm_iconst dX13_flyOn_129 rfl k) (fun k => mm_iconst dX13_flyOn_125 rfl (mm_goto dX13_flyOn_126 k)) ?_
          refine nx2 _ ?_
          unfold ks_fate
          rw [e4, e5]
          split <;> (try split) <;> (try split) <;> omega
        · refine mm_iconst dX13_flyOn_110 rfl ?_
          refine mm_goto dX13_flyOn_111 ?_
          refine nx2 _ ?_
          unfold ks_fate
          rw [e4, e5]
          split <;> (try split) <;> (try split) <;> omega
      have nx0 : ∀ (z : Int) (l8 l9 l10 l11 : mm_V), z = hf i → mm_J X Y_X13_flyOn 243 243 243 48 [(2, 184), (0, s), (0, h), (0, n), (0, e), (0, mm_b P), (0, S i), (0, (i : Int)), l8, l9, l10, l11] [(0, z)] N (fun r M' => ∃ c : Nat, r = (0, (c : Int)) ∧ mm_Rf M' ∧ mm_rg M M' ∧ kfl_postT M M' L s h e n.toNat c) := by
        intro z l8 l9 l10 l11 hz
        subst hz
        refine mm_istore dX13_flyOn_48 rfl (Nat.le_of_ble_eq_true rfl) rfl ?_
        refine mm_iload dX13_flyOn_50 rfl rfl ?_
        refine mm_ifeqb dX13_flyOn_52 (fun h52 => ?_) (fun h52 => ?_)
        · refine mm_aload_n dX13_flyOn_66 rfl rfl ?_
          refine mm_iload dX13_flyOn_67 rfl rfl ?_
          refine mm_iload dX13_flyOn_69 rfl rfl ?_
          refine mm_V2i dX13_flyOn_71 rfl lk_X13_504 (c := 183) rfl (by decide) rfl (by simp) (by simp) rfl rfl rfl (g_X13_lowAt hRN hG hK hSi hfi) ?_
          refine nx1 _ _ _ _ ?_
          rw [← eW]
          first
          | (rw [if_pos h52]; done)
          | (rw [if_neg h52]; done)
        · refine mm_aload_n dX13_flyOn_55 rfl rfl ?_
          refine mm_iload dX13_flyOn_56 rfl rfl ?_
          refine mm_iload dX13_flyOn_58 rfl rfl ?_
          refine mm_V2i dX13_flyOn_60 rfl lk_X13_501 (c := 183) rfl (by decide) rfl (by simp) (by simp) rfl rfl rfl (g_X13_highAt hRN hG hK hSi hfi) ?_
          refine mm_goto dX13_flyOn_63 ?_
          refine nx1 _ _ _ _ ?_
          rw [← eW]
          first
          | (rw [if_pos h52]; done)
          | (rw [if_neg h52]; done)
      refine mm_iload dX13_flyOn_16 rfl rfl ?_
      refine mm_iload_n dX13_flyOn_18 rfl rfl ?_
      refine mm_icge dX13_flyOn_19 (by omega) (by omega) (fun h19 => ?_) (fun h19 => ?_)
      · exfalso; omega
      · refine mm_aload_n dX13_flyOn_22 rfl rfl ?_
        refine mm_get (kd := 0) dX13_flyOn_23 rfl fl_X13_635 (c := 183) rfl (by decide) rfl rfl ?_
        obtain ⟨v23, hv23⟩ : ∃ v, v = N 183 76 := ⟨_, rfl⟩
        rw [← hv23]
        rw [e76] at hv23
        subst hv23
        refine mm_ifne dX13_flyOn_26 (by omega) (fun h26 => ?_) (fun h26 => ?_)
        · exfalso; omega
        · refine mm_iload dX13_flyOn_29 rfl rfl ?_
          refine mm_ifne dX13_flyOn_31 (by omega) (fun h31 => ?_) (fun h31 => ?_)
          · refine mm_iload_n dX13_flyOn_38 rfl rfl ?_
            refine mm_iload dX13_flyOn_39 rfl rfl ?_
            refine mm_iload dX13_flyOn_41 rfl rfl ?_
            refine mm_idiv dX13_flyOn_43 rfl (by omega) (by omega) (by omega) ?_
            rw [mm_tdiv (by omega)]
            refine mm_iadd dX13_flyOn_44 rfl ?_
            refine mm_bipush dX13_flyOn_45 rfl (by decide) ?_
            refine mm_irem dX13_flyOn_47 rfl (by (have : 0 ≤ (i : Int) / e := Int.ediv_nonneg (by omega) (by omega)); have := Int.ediv_le_self e (show 0 ≤ (i : Int) by omega); omega) (by omega) (by omega) ?_
            refine nx0 _ _ _ _ _ ?_
            rw [hff]
            first
            | (rw [if_pos h31]; done)
            | (rw [if_neg h31, mm_tmod (by have : 0 ≤ (i : Int) / e := Int.ediv_nonneg (by omega) (by omega); omega)]; done)
          · refine mm_iload_n dX13_flyOn_34 rfl rfl ?_
            refine mm_goto dX13_flyOn_35 ?_
            refine nx0 _ _ _ _ _ ?_
            rw [hff]
            first
            | (rw [if_pos h31]; done)
            | (rw [if_neg h31, mm_tmod (by have : 0 ≤ (i : Int) / e := Int.ediv_nonneg (by omega) (by omega); omega)]; done)
    · refine mm_iload dX13_flyOn_16 rfl rfl ?_
      refine mm_iload_n dX13_flyOn_18 rfl rfl ?_
      refine mm_icge dX13_flyOn_19 (by omega) (by omega) (fun h19 => ?_) (fun h19 => ?_)
      · exact fin i _ _ _ _ _ hi hRN hG hfa hfb hok (fun q => absurd q hlt) (by rw [e76]; unfold kfl_end; rw [if_neg hlt]) e77 hac
      · exfalso; omega
  refine mm_iload_n dX13_flyOn_0 rfl rfl ?_
  refine mm_istore dX13_flyOn_1 rfl (Nat.le_of_ble_eq_true rfl) rfl ?_
  refine mm_aload_n dX13_flyOn_3 rfl rfl ?_
  refine mm_iconst dX13_flyOn_4 rfl ?_
  refine mm_puti dX13_flyOn_5 rfl fl_X13_635 (c := 183) rfl (by decide) rfl rfl (fun M5 hM5 => ?_)
  have hR5 : mm_Rf M5 := by rw [hM5]; exact hR.up rfl
  have hG5 : mm_rg M M5 := by rw [hM5]; exact hG0.up (by decide)
  refine mm_aload_n dX13_flyOn_8 rfl rfl ?_
  refine mm_iconst dX13_flyOn_9 rfl ?_
  refine mm_puti dX13_flyOn_10 rfl fl_X13_638 (c := 183) rfl (by decide) rfl rfl (fun M10 hM10 => ?_)
  have hR10 : mm_Rf M10 := by rw [hM10]; exact hR5.up rfl
  have hG10 : mm_rg M M10 := by rw [hM10]; exact hG5.up (by decide)
  refine mm_iconst dX13_flyOn_13 rfl ?_
  refine mm_istore dX13_flyOn_14 rfl (Nat.le_of_ble_eq_true rfl) rfl ?_
  have h0 := loop 0 (Nat.zero_le _) M10 (9, 0) (9, 0) (9, 0) (9, 0) hR10 hG10 ?_ ?_ (fun j q => absurd q (Nat.not_lt_zero j)) ?_ ?_ (fun j q => absurd q (Nat.not_lt_zero j))
  · rw [show S 0 = s by rw [hS]; rfl] at h0
    exact h0
  · intro x h1 h2; funext b; simp [hM10, hM5, mm_up, h1]
  · intro b hb
    have n1 : b ≠ 76 := by omega
    have n2 : b ≠ 77 := by omega
    simp [hM10, hM5, mm_up, n1, n2]
  · simp [hM10, hM5, mm_up]
  · simp [hM10, hM5, mm_up]; rfl
end

