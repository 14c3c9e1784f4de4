/-! ===== kite, of the class ===== -/
/-- what a new kite leaves -/
def kp_new (M M' : mm_M) (D : Nat → Int) : Prop :=
  mm_CK M' ∧ (∀ b, b < 36 → M' 4 b = D b) ∧ (∀ a, a ≠ 0 → a ≠ 1 → ¬ (3 ≤ a ∧ a ≤ 10) → a ≠ 18 → a ≠ 23 → ¬ (121 ≤ a ∧ a ≤ 138) → a ≠ 144 → a ≠ 174 → M' a = M a) ∧ M' 18 1 = 0 ∧
  (∀ k : Nat, k < 6 → M' (121 + 3 * k) 2 = 0 ∧ (∀ b, b ≠ 2 → M' (121 + 3 * k) b = M (121 + 3 * k) b) ∧ M' (121 + 3 * k + 1) = M (121 + 3 * k + 1) ∧ M' (121 + 3 * k + 2) = M (121 + 3 * k + 2)) ∧
  M' 0 12 = 0 ∧ (∀ b, b ≠ 12 → M' 0 b = M 0 b) ∧ M' 144 1 = 0 ∧ M' 144 2 = 0 ∧ M' 174 2 = 0 ∧ M' 174 3 = 0 ∧ M' 174 4 = 0 ∧ (∀ j, j < 24 → M' 23 j = 0)
def kp_K (M M' : mm_M) (e : kp_E) (r : mm_V) : Prop := mm_Rf M' ∧ mm_KV (M' 5) ∧ M' 1 1 = 0 ∧ match e with
  | .ok (c, D) => r = (0, (c : Int)) ∧ M' 1 2 = 0 ∧ M' 1 3 = -1 ∧ kp_new M M' D
  | .error (k, s) => r = (0, -1) ∧ M' 1 2 = k ∧ M' 1 3 = (s : Int) ∧ (∀ a, a ≠ 1 → a ≠ 5 → M' a = M a)
section
variable {X : mm_X} {M : mm_M} {n : Nat}
theorem c_X9_forget (hR : mm_Rf M) : mm_Fn X Y_X9_forget 243 [(2, 19)] M (3, 0) (mm_up M 18 1 0) := by
  refine mm_startF (ls := [(2, 19)]) rfl ?_
  refine mm_aload_n dX9_forget_0 rfl rfl ?_
  refine mm_iconst dX9_forget_1 rfl ?_
  refine mm_puti dX9_forget_2 rfl fl_X9_22 (c := 18) rfl (by decide) rfl rfl (fun M2 hM2 => ?_)
  have hR2 : mm_Rf M2 := by rw [hM2]; exact hR.up rfl
  refine mm_vret dX9_forget_5 rfl rfl ?_
  exact mm_fin rfl hM2
theorem c_X1_forget (hR : mm_Rf M) : mm_Fn X Y_X1_forget 243 [(2, 145)] M (3, 0) (mm_up (mm_up M 144 1 0) 144 2 0) := by
  refine mm_startF (ls := [(2, 145)]) rfl ?_
  refine mm_aload_n dX1_forget_0 rfl rfl ?_
  refine mm_iconst dX1_forget_1 rfl ?_
  refine mm_puti dX1_forget_2 rfl fl_X1_31 (c := 144) rfl (by decide) rfl rfl (fun M2 hM2 => ?_)
  have hR2 : mm_Rf M2 := by rw [hM2]; exact hR.up rfl
  refine mm_aload_n dX1_forget_5 rfl rfl ?_
  refine mm_iconst dX1_forget_6 rfl ?_
  refine mm_puti dX1_forget_7 rfl fl_X1_35 (c := 144) rfl (by decide) rfl rfl (fun M7 hM7 => ?_)
  have hR7 : mm_Rf M7 := by rw [hM7]; exact hR2.up rfl
  refine mm_vret dX1_forget_10 rfl rfl ?_
  exact mm_fin rfl (by rw [hM7, hM2])
theorem c_X3_forgetAll (hR : mm_Rf M) : mm_C X Y_X3_forgetAll 243 243 [(2, 22)] M (fun r M' => r = (3, 0) ∧ mm_Rf M' ∧ (∀ a, a ≠ 23 → M' a = M a) ∧ ∀ j, j < 24 → M' 23 j = 0) := by
  refine mm_start (ls := [(2, 22), (9, 0)]) rfl ?_
  have loop : ∀ i : Nat, i ≤ 24 → ∀ N : mm_M, mm_Rf N → (∀ a, a ≠ 23 → N a = M a) → (∀ j, j < i → N 23 j = 0) → mm_J X Y_X3_forgetAll 243 243 243 2 [(2, 22), (0, (i : Int))] [] N (fun r M' => r = (3, 0) ∧ mm_Rf M' ∧ (∀ a, a ≠ 23 → M' a = M a) ∧ ∀ j, j < 24 → M' 23 j = 0) := by
    refine mm_lp ?_
    intro i hi ih N hRN hfr h0
    by_cases hlt : i < 24
    · refine mm_iload_n dX3_forgetAll_2 rfl rfl ?_
      refine mm_aload_n dX3_forgetAll_3 rfl rfl ?_
      refine mm_getr dX3_forgetAll_4 rfl fl_X3_19 (c := 21) rfl (by decide) rfl rfl (hRN.at (c := 21) (i := 3) (v := 24) rfl (by decide)) ?_
      refine mm_aln dX3_forgetAll_7 rfl (c := 23) rfl (by decide) rfl ?_
      refine mm_icge dX3_forgetAll_8 (by omega) (by omega) (fun h8 => ?_) (fun h8 => ?_)
      · exfalso; omega
      · refine mm_aload_n dX3_forgetAll_11 rfl rfl ?_
        refine mm_getr dX3_forgetAll_12 rfl fl_X3_19 (c := 21) rfl (by decide) rfl rfl (hRN.at (c := 21) (i := 3) (v := 24) rfl (by decide)) ?_
        refine mm_iload_n dX3_forgetAll_15 rfl rfl ?_
        refine mm_iconst dX3_forgetAll_16 rfl ?_
        refine mm_zstk (k0 := i) dX3_forgetAll_17 rfl (c := 23) rfl (by decide) rfl (by omega) (by omega) (Or.inl rfl) (fun M17 hM17 => ?_)
        have hR17 : mm_Rf M17 := by rw [hM17]; exact hRN.up (mm_rt_ar (t := 2) rfl (by decide))
        refine mm_iinc dX3_forgetAll_18 rfl rfl (Nat.le_of_ble_eq_true rfl) rfl ?_
        refine mm_goto dX3_forgetAll_21 ?_
        refine ih hlt _ hR17 ?_ ?_
        · intro a ha; rw [hM17, mm_up_row ha]; exact hfr a ha
        · intro j hj
          by_cases q : j = i
          · rw [hM17, q, mm_up_s]
          · rw [hM17, mm_up_i q]; exact h0 j (by omega)
    · refine mm_iload_n dX3_forgetAll_2 rfl rfl ?_
      refine mm_aload_n dX3_forgetAll_3 rfl rfl ?_
      refine mm_getr dX3_forgetAll_4 rfl fl_X3_19 (c := 21) rfl (by decide) rfl rfl (hRN.at (c := 21) (i := 3) (v := 24) rfl (by decide)) ?_
      refine mm_aln dX3_forgetAll_7 rfl (c := 23) rfl (by decide) rfl ?_
      refine mm_icge dX3_forgetAll_8 (by omega) (by omega) (fun h8 => ?_) (fun h8 => ?_)
      · refine mm_vret dX3_forgetAll_24 rfl rfl ?_
        exact ⟨rfl, hRN, hfr, fun j hj => h0 j (by omega)⟩
      · exfalso; omega
  refine mm_iconst dX3_forgetAll_0 rfl ?_
  refine mm_istore_n dX3_forgetAll_1 rfl (Nat.le_of_ble_eq_true rfl) rfl ?_
  exact loop 0 (Nat.zero_le _) M hR (fun _ _ => rfl) (fun j hj => absurd hj (Nat.not_lt_zero j))
theorem c_X11_kite (hR : mm_Rf M) (hT : mm_CT M n) (h22 : 0 ≤ M 5 22 ∧ M 5 22 ≤ 99) :
    mm_C X Y_X11_kite 243 243 [(2, 1)] M (fun r M' => kp_K M M' (kp_text (M 2) n 13 0 0 0 (kp_D0 (M 5))) r) := by
  obtain ⟨E, hE⟩ : ∃ E, E = kp_text (M 2) n 13 0 0 0 (kp_D0 (M 5)) := ⟨_, rfl⟩
  have ct := c_X4_takeText (X := X) hR hT h22
  rw [← hE] at ct ⊢
  have hcb : ∀ c D, E = .ok (c, D) → c ≤ 12 := by
    intro c D hED
    have key : ∀ (k c0 p t : Nat) (D0 : Nat → Int), c0 + k = 13 → kp_text (M 2) n k c0 p t D0 = .ok (c, D) → c ≤ 12 := by
      intro k
      induction k with
      | zero => intro c0 p t D0 _ h; unfold kp_text at h; cases h
      | succ k ih =>
        intro c0 p t D0 hk h
        unfold kp_text at h
        split at h
        · cases h; omega
        · split at h
          · cases h
          · split at h
            · cases h
            · split at h
              · cases h
              · exact ih _ _ _ _ (by omega) h
    exact key 13 0 0 0 _ rfl (by rw [← hE, hED])
  refine mm_start (ls := [(2, 1), (9, 0), (9, 0)]) rfl ?_
  -- behind a text without a fault
  have good : ∀ (c : Nat) (D : Nat → Int) (T : mm_M), E = .ok (c, D) → kp_Q M T E (0, (c : Int)) → ∀ i : Nat, i ≤ 6 → ∀ N : mm_M, mm_Rf N → (∀ a, a ≠ 1 → a ≠ 18 → (∀ k, k < 6 → a ≠ 121 + 3 * k) → N a = T a) → N 1 = mm_up T 1 1 0 1 → N 18 1 = 0 → (∀ b, b ≠ 1 → N 18 b = T 18 b) → (∀ k : Nat, k < i → N (121 + 3 * k) 2 = 0) → (∀ k : Nat, k < 6 → ∀ b, b ≠ 2 → N (121 + 3 * k) b = T (121 + 3 * k) b) →
      mm_J X Y_X11_kite 243 243 243 35 [(2, 1), (0, (c : Int)), (0, (i : Int))] [] N (fun r M' => kp_K M M' E r) := by
    intro c D T hED hQT
    rw [hED] at hQT
    obtain ⟨-, t1, t2, t3, t4, t5, t6, t7, t8⟩ := hQT
    have hc12 := hcb c D hED
    refine mm_lp ?_
    intro i hi ih N hRN hfr hN1 hN18 hN18b hk0 hkb
    by_cases hlt : i < 6
    · have wr := mm_rw_kept i hlt
      have er : N 120 i = ((121 + 3 * i : Nat) : Int) + 1 := hRN.at wr.2 (by omega)
      refine mm_iload_n dX11_kite_35 rfl rfl ?_
      refine mm_bipush dX11_kite_36 rfl (by decide) ?_
      refine mm_icge dX11_kite_38 (by omega) (by omega) (fun h38 => ?_) (fun h38 => ?_)
      · exfalso; omega
      · refine mm_aload_n dX11_kite_41 rfl rfl ?_
        refine mm_getr dX11_kite_42 rfl fl_X11_60 (c := 0) rfl (by decide) rfl rfl (hRN.at (c := 0) (i := 7) (v := 121) rfl (by decide)) ?_
        refine mm_iload_n dX11_kite_45 rfl rfl ?_
        refine mm_aalk (k0 := i) dX11_kite_46 rfl (c := 120) rfl (by decide) rfl (by omega) (by omega) ?_
        rw [er]
        refine mm_iconst dX11_kite_47 rfl ?_
        refine mm_puti dX11_kite_48 rfl fl_X11_115 (c := 121 + 3 * i) rfl wr.1.c0 wr.1.1 rfl (fun M48 hM48 => ?_)
        have hR48 : mm_Rf M48 := by rw [hM48]; exact hRN.up (mm_rt_row wr.1 (by decide))
        refine mm_iinc dX11_kite_51 rfl rfl (Nat.le_of_ble_eq_true rfl) rfl ?_
        refine mm_goto dX11_kite_54 ?_
        refine ih hlt _ hR48 ?_ ?_ ?_ ?_ ?_ ?_
        · intro a a1 a2 a3; rw [hM48, mm_up_row (a3 i hlt)]; exact hfr a a1 a2 a3
        · rw [hM48, mm_up_row (by omega)]; exact hN1
        · rw [hM48, mm_up_c (by omega)]; exact hN18
        · intro b hb; rw [hM48, mm_up_c (by omega)]; exact hN18b b hb
        · intro k hk
          by_cases q : k = i
          · rw [hM48, q, mm_up_s]
          · rw [hM48, mm_up_c (by omega)]; exact hk0 k (by omega)
        · intro k hk b hb; rw [hM48, mm_up_i hb]; exact hkb k hk b hb
    · refine mm_iload_n dX11_kite_35 rfl rfl ?_
      refine mm_bipush dX11_kite_36 rfl (by decide) ?_
      refine mm_icge dX11_kite_38 (by omega) (by omega) (fun h38 => ?_) (fun h38 => ?_)
      · refine mm_aload_n dX11_kite_57 rfl rfl ?_
        refine mm_iconst dX11_kite_58 rfl ?_
        refine mm_putz dX11_kite_59 rfl fl_X11_116 (c := 0) rfl (by decide) rfl rfl (Or.inl rfl) (fun M59 hM59 => ?_)
        have hR59 : mm_Rf M59 := by rw [hM59]; exact hRN.up rfl
        refine mm_aload_n dX11_kite_62 rfl rfl ?_
        refine mm_getr dX11_kite_63 rfl fl_X11_76 (c := 0) rfl (by decide) rfl rfl (hR59.at (c := 0) (i := 9) (v := 145) rfl (by decide)) ?_
        obtain ⟨NF, hNF⟩ : ∃ Z, Z = mm_up (mm_up M59 144 1 0) 144 2 0 := ⟨_, rfl⟩
        have hRF : mm_Rf NF := by rw [hNF]; exact (hR59.up rfl).up rfl
        obtain ⟨NR, hNR⟩ : ∃ Z, Z = mm_up (mm_up (mm_up NF 174 2 0) 174 3 0) 174 4 0 := ⟨_, rfl⟩
        have hRR : mm_Rf NR := by rw [hNR]; exact ((hRF.up rfl).up rfl).up rfl
        refine mm_V0v dX11_kite_66 rfl lk_X11_120 (c := 144) rfl (by decide) rfl  rfl rfl rfl ((hNF ▸ c_X1_forget hR59)) ?_
        refine mm_aload_n dX11_kite_69 rfl rfl ?_
        refine mm_getr dX11_kite_70 rfl fl_X11_90 (c := 0) rfl (by decide) rfl rfl (hRF.at (c := 0) (i := 11) (v := 175) rfl (by decide)) ?_
        refine mm_V0v dX11_kite_73 rfl lk_X11_121 (c := 174) rfl (by decide) rfl  rfl rfl rfl ((hNR ▸ c_X7_forget hRF)) ?_
        refine mm_aload_n dX11_kite_76 rfl rfl ?_
        refine mm_getr dX11_kite_77 rfl fl_X11_44 (c := 0) rfl (by decide) rfl rfl (hRR.at (c := 0) (i := 4) (v := 22) rfl (by decide)) ?_
        refine mm_V0g (M1 := NR) dX11_kite_80 rfl lk_X11_122 (c := 21) rfl (by decide) rfl  rfl rfl rfl (c_X3_forgetAll hRR) ?_
        rintro _ N80 ⟨rfl, p80⟩
        change mm_J _ _ _ _ _ _ _ _ _ _
        have hR80 : mm_Rf N80 := p80.1
        refine mm_iload_n dX11_kite_83 rfl rfl ?_
        refine mm_iret dX11_kite_84 rfl rfl ?_
        obtain ⟨-, g1, g2⟩ := p80
        have w : ∀ a, a ≠ 0 → a ≠ 144 → a ≠ 174 → a ≠ 23 → N80 a = N a := by
          intro a a1 a2 a3 a4
          rw [g1 a a4, hNR, mm_up_row a3, mm_up_row a3, mm_up_row a3, hNF, mm_up_row a2, mm_up_row a2, hM59, mm_up_row a1]
        have w1 : N80 1 = mm_up T 1 1 0 1 := by rw [w 1 (by decide) (by decide) (by decide) (by decide)]; exact hN1
        have u : ∀ a, a ≠ 0 → a ≠ 1 → a ≠ 18 → a ≠ 23 → ¬ (121 ≤ a ∧ a ≤ 138) → a ≠ 144 → a ≠ 174 → N80 a = T a := by
          intro a a1 a2 a3 a4 a5 a6 a7
          rw [w a a1 a6 a7 a4]
          exact hfr a a2 a3 (fun k hk => by omega)
        rw [hED]
        refine ⟨hR80, ?_, ?_, rfl, ?_, ?_, ?_, ?_, ?_, ?_, ?_, ?_, ?_, ?_, ?_, ?_, ?_, ?_, g2⟩
        · rw [u 5 (by decide) (by decide) (by decide) (by decide) (by decide) (by decide) (by decide)]; exact t4
        · rw [w1, mm_up_s]
        · rw [w1, mm_up_i (by decide)]; exact t5
        · rw [w1, mm_up_i (by decide)]; exact t6
        · unfold mm_CK at t7 ⊢
          rw [u 3 (by decide) (by decide) (by decide) (by decide) (by decide) (by decide) (by decide), u 4 (by decide) (by decide) (by decide) (by decide) (by decide) (by decide) (by decide), u 6 (by decide) (by decide) (by decide) (by decide) (by decide) (by decide) (by decide), u 7 (by decide) (by decide) (by decide) (by decide) (by decide) (by decide) (by decide), u 8 (by decide) (by decide) (by decide) (by decide) (by decide) (by decide) (by decide), u 9 (by decide) (by decide) (by decide) (by decide) (by decide) (by decide) (by decide), u 10 (by decide) (by decide) (by decide) (by decide) (by decide) (by decide) (by decide)]
          exact t7
        · intro b hb; rw [u 4 (by decide) (by decide) (by decide) (by decide) (by decide) (by decide) (by decide)]; exact t8 b hb
        · intro a a1 a2 a3 a4 a5 a6 a7 a8; rw [u a a1 a2 a4 a5 a6 a7 a8]; exact t2 a a2 (by omega) (by omega) (by omega)
        · rw [w 18 (by decide) (by decide) (by decide) (by decide)]; exact hN18
        · intro k hk
          have q1 : ∀ a, 121 ≤ a → a ≤ 138 → N80 a = N a := fun a b1 b2 => w a (by omega) (by omega) (by omega) (by omega)
          have q2 : ∀ a, 121 ≤ a → a ≤ 138 → T a = M a := fun a b1 b2 => t2 a (by omega) (by omega) (by omega) (by omega)
          refine ⟨?_, ?_, ?_, ?_⟩
          · rw [q1 _ (by omega) (by omega)]; exact hk0 k (by omega)
          · intro b hb; rw [q1 _ (by omega) (by omega), hkb k hk b hb, q2 _ (by omega) (by omega)]
          · rw [q1 _ (by omega) (by omega), hfr _ (by omega) (by omega) (fun j hj => by omega), q2 _ (by omega) (by omega)]
          · rw [q1 _ (by omega) (by omega), hfr _ (by omega) (by omega) (fun j hj => by omega), q2 _ (by omega) (by omega)]
        · rw [g1 0 (by decide), hNR, mm_up_c (by decide), mm_up_c (by decide), mm_up_c (by decide), hNF, mm_up_c (by decide), mm_up_c (by decide), hM59, mm_up_s]
        · intro b hb
          rw [g1 0 (by decide), hNR, mm_up_c (by decide), mm_up_c (by decide), mm_up_c (by decide), hNF, mm_up_c (by decide), mm_up_c (by decide), hM59, mm_up_i hb, hfr 0 (by decide) (by decide) (fun k hk => by omega), t2 0 (by decide) (by decide) (by decide) (by omega)]
        · rw [g1 144 (by decide), hNR, mm_up_c (by decide), mm_up_c (by decide), mm_up_c (by decide), hNF, mm_up_i (by decide), mm_up_s]
        · rw [g1 144 (by decide), hNR, mm_up_c (by decide), mm_up_c (by decide), mm_up_c (by decide), hNF, mm_up_s]
        · rw [g1 174 (by decide), hNR, mm_up_i (by decide), mm_up_i (by decide), mm_up_s]
        · rw [g1 174 (by decide), hNR, mm_up_i (by decide), mm_up_s]
        · rw [g1 174 (by decide), hNR, mm_up_s]
      · exfalso; omega
  have ok : ∀ (c : Nat) (D : Nat → Int) (T : mm_M), E = .ok (c, D) → kp_Q M T E (0, (c : Int)) → mm_J X Y_X11_kite 243 243 243 11 [(2, 1), (9, 0), (9, 0)] [(0, (c : Int))] T (fun r M' => kp_K M M' E r) := by
    intro c D T hED hQT
    have g0 := good c D T hED hQT 0 (by decide)
    rw [hED] at hQT
    have hRT : mm_Rf T := hQT.2.1
    have hc12 := hcb c D hED
    refine mm_istore_n dX11_kite_11 rfl (Nat.le_of_ble_eq_true rfl) rfl ?_
    refine mm_aload_n dX11_kite_12 rfl rfl ?_
    refine mm_getr dX11_kite_13 rfl fl_X11_10 (c := 0) rfl (by decide) rfl rfl (hRT.at (c := 0) (i := 0) (v := 2) rfl (by decide)) ?_
    refine mm_iconst dX11_kite_16 rfl ?_
    refine mm_puti dX11_kite_17 rfl fl_X11_105 (c := 1) rfl (by decide) rfl rfl (fun M17 hM17 => ?_)
    have hR17 : mm_Rf M17 := by rw [hM17]; exact hRT.up rfl
    refine mm_iload_n dX11_kite_20 rfl rfl ?_
    refine mm_ifge dX11_kite_21 (by omega) (fun h21 => ?_) (fun h21 => ?_)
    · refine mm_aload_n dX11_kite_26 rfl rfl ?_
      refine mm_getr dX11_kite_27 rfl fl_X11_35 (c := 0) rfl (by decide) rfl rfl (hR17.at (c := 0) (i := 3) (v := 19) rfl (by decide)) ?_
      refine mm_V0v dX11_kite_30 rfl lk_X11_112 (c := 18) rfl (by decide) rfl  rfl rfl rfl ((c_X9_forget hR17)) ?_
      refine mm_iconst dX11_kite_33 rfl ?_
      refine mm_istore_n dX11_kite_34 rfl (Nat.le_of_ble_eq_true rfl) rfl ?_
      refine g0 _ (hR17.up rfl) ?_ ?_ ?_ ?_ ?_ ?_
      · intro a a1 a2 a3; rw [mm_up_row a2, hM17, mm_up_row a1]
      · rw [mm_up_row (by decide), hM17]
      · rw [mm_up_s]
      · intro b hb; rw [mm_up_i hb, hM17, mm_up_c (by decide)]
      · intro k hk; omega
      · intro k hk b hb; rw [mm_up_c (by omega), hM17, mm_up_c (by omega)]
    · exfalso; omega
  have bad : ∀ (k : Int) (s : Nat) (T : mm_M), E = .error (k, s) → kp_Q M T E (0, -1) → mm_J X Y_X11_kite 243 243 243 11 [(2, 1), (9, 0), (9, 0)] [(0, -1)] T (fun r M' => kp_K M M' E r) := by
    intro k s T hED hQT
    rw [hED] at hQT
    obtain ⟨-, hRT, t2, t3, t4, t5, t6⟩ := hQT
    refine mm_istore_n dX11_kite_11 rfl (Nat.le_of_ble_eq_true rfl) rfl ?_
    refine mm_aload_n dX11_kite_12 rfl rfl ?_
    refine mm_getr dX11_kite_13 rfl fl_X11_10 (c := 0) rfl (by decide) rfl rfl (hRT.at (c := 0) (i := 0) (v := 2) rfl (by decide)) ?_
    refine mm_iconst dX11_kite_16 rfl ?_
    refine mm_puti dX11_kite_17 rfl fl_X11_105 (c := 1) rfl (by decide) rfl rfl (fun M17 hM17 => ?_)
    have hR17 : mm_Rf M17 := by rw [hM17]; exact hRT.up rfl
    refine mm_iload_n dX11_kite_20 rfl rfl ?_
    refine mm_ifge dX11_kite_21 (by omega) (fun h21 => ?_) (fun h21 => ?_)
    · exfalso; omega
    · refine mm_iconst dX11_kite_24 rfl ?_
      refine mm_iret dX11_kite_25 rfl rfl ?_
      rw [hED]
      refine ⟨hR17, ?_, ?_, rfl, ?_, ?_, ?_⟩
      · rw [hM17, mm_up_row (by decide)]; exact t4
      · rw [hM17, mm_up_s]
      · rw [hM17, mm_up_i (by decide)]; exact t5
      · rw [hM17, mm_up_i (by decide)]; exact t6
      · intro a a1 a2; rw [hM17, mm_up_row a1]; exact t2 a a1 a2
  refine mm_aload_n dX11_kite_0 rfl rfl ?_
  refine mm_getr dX11_kite_1 rfl fl_X11_19 (c := 0) rfl (by decide) rfl rfl (hR.at (c := 0) (i := 1) (v := 4) rfl (by decide)) ?_
  refine mm_aload_n dX11_kite_4 rfl rfl ?_
  refine mm_getr dX11_kite_5 rfl fl_X11_10 (c := 0) rfl (by decide) rfl rfl (hR.at (c := 0) (i := 0) (v := 2) rfl (by decide)) ?_
  refine mm_V1g (M1 := M) dX11_kite_8 rfl lk_X11_108 (c := 3) rfl (by decide) rfl (by simp) rfl rfl rfl ct ?_
  intro r T hQT
  rcases hc : E with ⟨k, s⟩ | ⟨c, D⟩
  · have hQ := hQT
    rw [hc] at hQ
    obtain ⟨rfl, -⟩ := hQ
    exact hc ▸ bad k s T hc hQT
  · have hQ := hQT
    rw [hc] at hQ
    obtain ⟨rfl, -⟩ := hQ
    exact hc ▸ ok c D T hc hQT
end

