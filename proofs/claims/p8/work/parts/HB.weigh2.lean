/-! ===== KitePower$LoopFinder: all options ===== -/
theorem ks_pa_iff {K : Nat → Int} {sl c w : Int} {P Q : Prop} [Decidable P] [Decidable Q] (h : P ↔ Q) : ks_pa K sl c P w = ks_pa K sl c Q w := by
  unfold ks_pa
  by_cases c : P
  · rw [if_pos c, if_pos (h.mp c)]
  · rw [if_neg c, if_neg (fun q => c (h.mpr q))]
/-- the option of a band and a column, sideways or not, is weighed -/
def kx_W (M N : mm_M) (h : Int) (b c sw : Nat) : Prop := ∀ d : Nat, d < 3 → kx_S (kx_B (M 4) c (sw = 1) (M 16 (ks_pl h b)) (M 17 (ks_pl h b))) (kx_g (M 4) c (sw = 1) (M 16 (ks_pl h b)) (M 17 (ks_pl h b)) d) (M 4 10).toNat (N 29 (((b * 6 + c) * 2 + sw) * 3 + d)) (N 30 (((b * 6 + c) * 2 + sw) * 3 + d))
def kx_J (M N : mm_M) (h : Int) (j : Nat) : Prop := mm_Rf N ∧ (∀ a, a ≠ 29 → a ≠ 30 → N a = M a) ∧ ∀ b c sw : Nat, b < 5 → (c : Int) < M 4 0 → sw < 2 → ((b * 6 + c) * 2 + sw < j → kx_W M N h b c sw) ∧ (j ≤ (b * 6 + c) * 2 + sw → ∀ d, d < 3 → N 29 (((b * 6 + c) * 2 + sw) * 3 + d) = -1)
theorem kx_J.step {M N U : mm_M} {h : Int} {b0 c0 s0 : Nat} (hJ : kx_J M N h ((b0 * 6 + c0) * 2 + s0)) (hb : b0 < 5) (hc : c0 < 6) (hs : s0 < 2) (hO : kx_OO N U (((b0 * 6 + c0) * 2 + s0) * 3)) (hW : kx_W M U h b0 c0 s0) (hA : M 4 0 ≤ 6) : kx_J M U h ((b0 * 6 + c0) * 2 + s0 + 1) := by
  refine ⟨hO.1, fun a a1 a2 => by rw [hO.2.1 a a1 a2]; exact hJ.2.1 a a1 a2, fun b c sw hb1 hc1 hs1 => ?_⟩
  obtain ⟨q1, q2⟩ := hJ.2.2 b c sw hb1 hc1 hs1
  have fr : (b * 6 + c) * 2 + sw ≠ (b0 * 6 + c0) * 2 + s0 → ∀ d, d < 3 → U 29 (((b * 6 + c) * 2 + sw) * 3 + d) = N 29 (((b * 6 + c) * 2 + sw) * 3 + d) ∧ U 30 (((b * 6 + c) * 2 + sw) * 3 + d) = N 30 (((b * 6 + c) * 2 + sw) * 3 + d) := fun hne d hd => hO.2.2 _ (by omega)
  constructor
  · intro hj
    by_cases e : (b * 6 + c) * 2 + sw = (b0 * 6 + c0) * 2 + s0
    · have e1 : b = b0 := by omega
      have e2 : c = c0 := by omega
      have e3 : sw = s0 := by omega
      rw [e1, e2, e3]; exact hW
    · intro d hd
      rw [(fr e d hd).1, (fr e d hd).2]
      exact q1 (by omega) d hd
  · intro hj d hd
    rw [(fr (by omega) d hd).1]
    exact q2 (by omega) d hd
theorem kx_J.skip {M N : mm_M} {h : Int} {b A : Nat} (hJ : kx_J M N h ((b * 6 + A) * 2)) (hA : M 4 0 = (A : Int)) (hA6 : A ≤ 6) : kx_J M N h ((b + 1) * 6 * 2) := by
  refine ⟨hJ.1, hJ.2.1, fun b' c sw hb1 hc1 hs1 => ?_⟩
  obtain ⟨q1, q2⟩ := hJ.2.2 b' c sw hb1 hc1 hs1
  exact ⟨fun hj => q1 (by omega), fun hj => q2 (by omega)⟩
section
variable {X : mm_X} {M : mm_M} {h : Int}
theorem c_X6_weighOptions (hR : mm_Rf M) (hK : mm_CK M) (hA : mm_CA M) (hh : ks_hr h) :
    mm_C X Y_X6_weighOptions 243 243 [(2, 29), (0, h)] M (fun r M' => r = (3, 0) ∧ mm_Rf M' ∧ kx_J M M' h 60) := by
  obtain ⟨Φ, hΦ⟩ : ∃ Φ : mm_V → mm_M → Prop, Φ = (fun r M' => r = (3, 0) ∧ mm_Rf M' ∧ kx_J M M' h 60) := ⟨_, rfl⟩
  rw [← hΦ]
  have hV := hK.1
  have h0 : 2 ≤ M 4 0 ∧ M 4 0 ≤ 6 := hV.1
  obtain ⟨A, hAi⟩ : ∃ A : Nat, M 4 0 = (A : Int) := ⟨(M 4 0).toNat, by omega⟩
  have e4 : ∀ N j, kx_J M N h j → N 4 = M 4 := fun N j h => h.2.1 4 (by decide) (by decide)
  have ck : ∀ N j, kx_J M N h j → mm_CK N := fun N j h => kx_ck (fun a a1 a2 => h.2.1 a (by omega) (by omega)) hK
  have wb : ∀ b : Nat, b < 5 → (0 ≤ M 16 (ks_pl h b) ∧ M 16 (ks_pl h b) ≤ 60) ∧ (0 ≤ M 17 (ks_pl h b) ∧ M 17 (ks_pl h b) ≤ 60) := by
    intro b hb
    have := hA (ks_pl h b) (ks_plb hh ⟨by omega, by omega⟩)
    omega
  have cols : ∀ b : Nat, b < 5 → (∀ N, kx_J M N h ((b + 1) * 6 * 2) → mm_J X Y_X6_weighOptions 243 243 243 91 [(2, 29), (0, h), (0, (b : Int)), (9, 0), (9, 0), (9, 0)] [] N Φ) →
      ∀ c : Nat, c ≤ A → ∀ N, kx_J M N h ((b * 6 + c) * 2) → mm_J X Y_X6_weighOptions 243 243 243 39 [(2, 29), (0, h), (0, (b : Int)), (0, M 16 (ks_pl h b)), (0, M 17 (ks_pl h b)), (0, (c : Int))] [] N Φ := by
    intro b hb out
    have w := wb b hb
    refine mm_lp ?_
    intro c hc ih N hJ
    have hRN := hJ.1
    have ca := c_X4_across (X := X) hRN
    rw [e4 N _ hJ, hAi] at ca
    by_cases hlt : c < A
    · have o1 := c_X6_optionOf (X := X) (M := N) (b := b) (c := c) (P := (0 : Nat) = 1) hb (by omega)
      rw [mm_b_f (by decide), if_neg (by decide)] at o1
      have w1 := c_X6_weighOption (X := X) (M := N) (o := ((b * 6 + c) * 2 + 0) * 3) (c := c) (P := (0 : Nat) = 1) (lo := M 16 (ks_pl h b)) (hi := M 17 (ks_pl h b)) hRN (ck N _ hJ) (by omega) (by omega) w.1 w.2 (fun d hd => (hJ.2.2 b c 0 hb (by omega) (by decide)).2 (by omega) d hd)
      rw [mm_b_f (by decide), e4 N _ hJ] at w1
      have o2 : ∀ U, mm_Fn X Y_X6_optionOf 243 [(0, (b : Int)), (0, (c : Int)), (0, 1)] U (0, (((b * 6 + c) * 2 + 1) * 3 : Nat)) U := by
        intro U
        have := c_X6_optionOf (X := X) (M := U) (b := b) (c := c) (P := (1 : Nat) = 1) hb (by omega)
        rw [mm_b_t (by decide), if_pos (by decide)] at this
        exact this
      have st1 : ∀ U, kx_OO N U (((b * 6 + c) * 2 + 0) * 3) → (∀ d : Nat, d < 3 → kx_S (kx_B (M 4) c ((0 : Nat) = 1) (M 16 (ks_pl h b)) (M 17 (ks_pl h b))) (kx_g (M 4) c ((0 : Nat) = 1) (M 16 (ks_pl h b)) (M 17 (ks_pl h b)) d) (M 4 10).toNat (U 29 (((b * 6 + c) * 2 + 0) * 3 + d)) (U 30 (((b * 6 + c) * 2 + 0) * 3 + d))) → kx_J M U h ((b * 6 + c) * 2 + 1) := fun U u1 u2 => kx_J.step (s0 := 0) hJ hb (by omega) (by decide) u1 u2 h0.2
      have w2 : ∀ U, kx_J M U h ((b * 6 + c) * 2 + 1) → mm_C X Y_X6_weighOption 243 243 [(2, 29), (0, ((((b * 6 + c) * 2 + 1) * 3 : Nat) : Int)), (0, (c : Int)), (0, 1), (0, M 16 (ks_pl h b)), (0, M 17 (ks_pl h b))] U (fun r M' => r = (3, 0) ∧ mm_Rf M' ∧ kx_J M M' h ((b * 6 + (c + 1)) * 2)) := by
        intro U hU
        have := c_X6_weighOption (X := X) (M := U) (o := ((b * 6 + c) * 2 + 1) * 3) (c := c) (P := (1 : Nat) = 1) (lo := M 16 (ks_pl h b)) (hi := M 17 (ks_pl h b)) hU.1 (ck U _ hU) (by omega) (by omega) w.1 w.2 (fun d hd => (hU.2.2 b c 1 hb (by omega) (by decide)).2 (by omega) d hd)
        rw [mm_b_t (by decide), e4 U _ hU] at this
        refine mm_C.mono this ?_
        rintro r V ⟨v1, v2, v3, v4⟩
        have := kx_J.step (s0 := 1) hU hb (by omega) (by decide) v3 v4 h0.2
        rw [show (b * 6 + c) * 2 + 1 + 1 = (b * 6 + (c + 1)) * 2 by omega] at this
        exact ⟨v1, v2, this⟩
      refine mm_iload dX6_weighOptions_39 rfl rfl ?_
      refine mm_aload_n dX6_weighOptions_41 rfl rfl ?_
      refine mm_getr dX6_weighOptions_42 rfl fl_X6_55 (c := 28) rfl (by decide) rfl rfl (hRN.at (c := 28) (i := 0) (v := 4) rfl (by decide)) ?_
      refine mm_V0i dX6_weighOptions_45 rfl lk_X6_125 (c := 3) rfl (by decide) rfl  rfl rfl rfl (ca) ?_
      refine mm_icge dX6_weighOptions_48 (by omega) (by omega) (fun h48 => ?_) (fun h48 => ?_)
      · exfalso; omega
      · refine mm_aload_n dX6_weighOptions_51 rfl rfl ?_
        refine mm_iload_n dX6_weighOptions_52 rfl rfl ?_
        refine mm_iload dX6_weighOptions_53 rfl rfl ?_
        refine mm_iconst dX6_weighOptions_55 rfl ?_
        refine mm_S3i dX6_weighOptions_56 rfl lk_X6_129 (by simp) (by simp) (by simp) rfl rfl rfl (o1) ?_
        refine mm_iload dX6_weighOptions_59 rfl rfl ?_
        refine mm_iconst dX6_weighOptions_61 rfl ?_
        refine mm_iload_n dX6_weighOptions_62 rfl rfl ?_
        refine mm_iload dX6_weighOptions_63 rfl rfl ?_
        refine mm_V5g (M1 := N) dX6_weighOptions_65 rfl lk_X6_133 (c := 28) rfl (by decide) rfl (by simp) (by simp) (by simp) (by simp) (by simp) rfl rfl rfl (w1) ?_
        rintro _ N65 ⟨rfl, p65⟩
        change mm_J _ _ _ _ _ _ _ _ _ _
        have hR65 : mm_Rf N65 := p65.1
        refine mm_aload_n dX6_weighOptions_68 rfl rfl ?_
        refine mm_iload_n dX6_weighOptions_69 rfl rfl ?_
        refine mm_iload dX6_weighOptions_70 rfl rfl ?_
        refine mm_iconst dX6_weighOptions_72 rfl ?_
        refine mm_S3i dX6_weighOptions_73 rfl lk_X6_129 (by simp) (by simp) (by simp) rfl rfl rfl (o2 _) ?_
        refine mm_iload dX6_weighOptions_76 rfl rfl ?_
        refine mm_iconst dX6_weighOptions_78 rfl ?_
        refine mm_iload_n dX6_weighOptions_79 rfl rfl ?_
        refine mm_iload dX6_weighOptions_80 rfl rfl ?_
        refine mm_V5g (M1 := N65) dX6_weighOptions_82 rfl lk_X6_133 (c := 28) rfl (by decide) rfl (by simp) (by simp) (by simp) (by simp) (by simp) rfl rfl rfl (w2 N65 (st1 N65 p65.2.1 p65.2.2)) ?_
        rintro _ N82 ⟨rfl, p82⟩
        change mm_J _ _ _ _ _ _ _ _ _ _
        have hR82 : mm_Rf N82 := p82.1
        refine mm_iinc dX6_weighOptions_85 rfl rfl (Nat.le_of_ble_eq_true rfl) rfl ?_
        refine mm_goto dX6_weighOptions_88 ?_
        have go := ih hlt N82 p82.2
        rw [show ((c + 1 : Nat) : Int) = (c : Int) + 1 by omega] at go
        exact go
    · have ec : c = A := by omega
      subst ec
      have go := out N (hJ.skip hAi (by omega))
      refine mm_iload dX6_weighOptions_39 rfl rfl ?_
      refine mm_aload_n dX6_weighOptions_41 rfl rfl ?_
      refine mm_getr dX6_weighOptions_42 rfl fl_X6_55 (c := 28) rfl (by decide) rfl rfl (hRN.at (c := 28) (i := 0) (v := 4) rfl (by decide)) ?_
      refine mm_V0i dX6_weighOptions_45 rfl lk_X6_125 (c := 3) rfl (by decide) rfl  rfl rfl rfl (ca) ?_
      refine mm_icge dX6_weighOptions_48 (by omega) (by omega) (fun h48 => ?_) (fun h48 => ?_)
      · exact mm_drop (by repeat (first | exact trivial | refine And.intro (Or.inl rfl) ?_ | refine And.intro (Or.inr rfl) ?_)) go
      · exfalso; omega
  have bands : ∀ b : Nat, b ≤ 5 → ∀ N, kx_J M N h (b * 6 * 2) → mm_J X Y_X6_weighOptions 243 243 243 10 [(2, 29), (0, h), (0, (b : Int)), (9, 0), (9, 0), (9, 0)] [] N Φ := by
    refine mm_lp ?_
    intro b hb ih N hJ
    have hRN := hJ.1
    by_cases hlt : b < 5
    · have b91 : ∀ U, kx_J M U h ((b + 1) * 6 * 2) → mm_J X Y_X6_weighOptions 243 243 243 91 [(2, 29), (0, h), (0, (b : Int)), (9, 0), (9, 0), (9, 0)] [] U Φ := by
        intro U hU
        have hRU := hU.1
        have go := ih hlt U hU
        rw [show ((b + 1 : Nat) : Int) = (b : Int) + 1 by omega] at go
        refine mm_iinc dX6_weighOptions_91 rfl rfl (Nat.le_of_ble_eq_true rfl) rfl ?_
        refine mm_goto dX6_weighOptions_94 ?_
        exact go
      have go := cols b hlt b91 0 (Nat.zero_le _) N (by rw [Nat.add_zero]; exact hJ)
      have l1 := c_X0_lowAt (X := X) (M := N) (h := h) (b := (b : Int)) hRN hh ⟨by omega, by omega⟩
      have l2 := c_X0_highAt (X := X) (M := N) (h := h) (b := (b : Int)) hRN hh ⟨by omega, by omega⟩
      rw [hJ.2.1 16 (by decide) (by decide)] at l1
      rw [hJ.2.1 17 (by decide) (by decide)] at l2
      refine mm_iload_n dX6_weighOptions_10 rfl rfl ?_
      refine mm_iconst dX6_weighOptions_11 rfl ?_
      refine mm_icge dX6_weighOptions_12 (by omega) (by omega) (fun h12 => ?_) (fun h12 => ?_)
      · exfalso; omega
      · refine mm_aload_n dX6_weighOptions_15 rfl rfl ?_
        refine mm_getr dX6_weighOptions_16 rfl fl_X6_59 (c := 28) rfl (by decide) rfl rfl (hRN.at (c := 28) (i := 1) (v := 12) rfl (by decide)) ?_
        refine mm_iload_n dX6_weighOptions_19 rfl rfl ?_
        refine mm_iload_n dX6_weighOptions_20 rfl rfl ?_
        refine mm_V2i dX6_weighOptions_21 rfl lk_X6_117 (c := 11) rfl (by decide) rfl (by simp) (by simp) rfl rfl rfl (l1) ?_
        refine mm_istore_n dX6_weighOptions_24 rfl (Nat.le_of_ble_eq_true rfl) rfl ?_
        refine mm_aload_n dX6_weighOptions_25 rfl rfl ?_
        refine mm_getr dX6_weighOptions_26 rfl fl_X6_59 (c := 28) rfl (by decide) rfl rfl (hRN.at (c := 28) (i := 1) (v := 12) rfl (by decide)) ?_
        refine mm_iload_n dX6_weighOptions_29 rfl rfl ?_
        refine mm_iload_n dX6_weighOptions_30 rfl rfl ?_
        refine mm_V2i dX6_weighOptions_31 rfl lk_X6_122 (c := 11) rfl (by decide) rfl (by simp) (by simp) rfl rfl rfl (l2) ?_
        refine mm_istore dX6_weighOptions_34 rfl (Nat.le_of_ble_eq_true rfl) rfl ?_
        refine mm_iconst dX6_weighOptions_36 rfl ?_
        refine mm_istore dX6_weighOptions_37 rfl (Nat.le_of_ble_eq_true rfl) rfl ?_
        exact go
    · have eb : b = 5 := by omega
      subst eb
      refine mm_iload_n dX6_weighOptions_10 rfl rfl ?_
      refine mm_iconst dX6_weighOptions_11 rfl ?_
      refine mm_icge dX6_weighOptions_12 (by omega) (by omega) (fun h12 => ?_) (fun h12 => ?_)
      · refine mm_vret dX6_weighOptions_97 rfl rfl ?_
        rw [hΦ]; exact ⟨rfl, hRN, hJ⟩
      · exfalso; omega
  obtain ⟨N5, hN5⟩ : ∃ Z, Z = kf_mem M 29 (fun _ => -1) 180 := ⟨_, rfl⟩
  have hR5 : mm_Rf N5 := by rw [hN5]; exact hR.fm (len := 180) rfl
  have cf := c_J7_fill2 (X := X) (M := M) (n := 243) (c := 29) (len := 180) (v := -1) (by decide) rfl
  rw [← hN5] at cf
  have J0 : kx_J M N5 h 0 := ⟨hR5, fun a a1 _ => by rw [hN5, kf_mem_n a1], fun b c sw b1 c1 s1 => ⟨fun z => absurd z (by omega), fun _ d hd => by rw [hN5, kf_mem_lt (by omega)]⟩⟩
  refine mm_start (ls := [(2, 29), (0, h), (9, 0), (9, 0), (9, 0), (9, 0)]) rfl ?_
  refine mm_aload_n dX6_weighOptions_0 rfl rfl ?_
  refine mm_getr dX6_weighOptions_1 rfl fl_X6_13 (c := 28) rfl (by decide) rfl rfl (hR.at (c := 28) (i := 2) (v := 30) rfl (by decide)) ?_
  refine mm_iconst dX6_weighOptions_4 rfl ?_
  refine mm_S2v dX6_weighOptions_5 rfl lk_X6_93 (by simp) (by simp) rfl rfl rfl (cf) ?_
  refine mm_iconst dX6_weighOptions_8 rfl ?_
  refine mm_istore_n dX6_weighOptions_9 rfl (Nat.le_of_ble_eq_true rfl) rfl ?_
  exact bands 0 (Nat.zero_le _) N5 J0
end

