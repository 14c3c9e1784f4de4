/-! ===== kite, of the reference ===== -/
/-- what a new kite leaves -/
def kq_new (M M' : mm_M) (D : Nat → Int) : Prop :=
  ((∀ i, i < 10 → mm_rk M' i = D i) ∧ mm_rk M' 10 = D 10 ∧ (1 ≤ D 10 ∧ D 10 ≤ 3) ∧ (∀ i : Nat, (i : Int) < D 10 → mm_rk M' (20 + i) = D (20 + i)) ∧ (∀ i, i < 6 → mm_rk M' (30 + i) = D (30 + i))) ∧
  (kq_bd M → kq_bd M' ∧ ∀ i, i < 3 → 0 ≤ M' 188 i ∧ M' 188 i ≤ 99) ∧
  (∀ a, a ≠ 183 → ¬ (186 ≤ a ∧ a ≤ 192) → a ≠ 216 → M' a = M a) ∧ (∀ b, ¬ (2 ≤ b ∧ b ≤ 9) → ¬ (16 ≤ b ∧ b ≤ 18) → b ≠ 20 → b ≠ 62 → b ≠ 88 → b ≠ 89 → ¬ (97 ≤ b ∧ b ≤ 99) → M' 183 b = M 183 b) ∧
  M' 183 20 = 0 ∧ (∀ k, k < 6 → M' 216 k = 0) ∧ (∀ k, 6 ≤ k → M' 216 k = M 216 k) ∧ M' 183 88 = 0 ∧ M' 183 89 = 0 ∧ M' 183 97 = 0 ∧ M' 183 98 = 0 ∧ M' 183 99 = 0 ∧ M' 183 62 = 0
def kq_K (M M' : mm_M) (e : kp_E) (r : mm_V) : Prop := mm_Rf M' ∧ M' 183 2 = 0 ∧ match e with
  | .ok (c, D) => r = (0, (c : Int)) ∧ M' 183 8 = 0 ∧ M' 183 9 = -1 ∧ kq_new M M' D
  | .error (k, s) => r = (0, -1) ∧ M' 183 8 = k ∧ M' 183 9 = (s : Int) ∧ (∀ a, a ≠ 183 → ¬ kq_A a → M' a = M a) ∧ (∀ b, ¬ (2 ≤ b ∧ b ≤ 9) → ¬ kq_S b → M' 183 b = M 183 b) ∧ (kq_bd M → kq_bd M')
section
variable {X : mm_X} {M : mm_M} {n : Nat}
theorem c_X13_kite (hR : mm_Rf M) (hn : M 183 2 = (n : Int) ∧ n ≤ 800) (hb : ∀ k : Nat, k < 800 → -128 ≤ M 185 k ∧ M 185 k ≤ 127) (Z : Nat → Int) :
    mm_C X Y_X13_kite 243 243 [(2, 184)] M (fun r M' => kq_K M M' (kp_text (M 185) n 13 0 0 0 (kp_D0 Z)) r) := by
  obtain ⟨E, hE⟩ : ∃ E, E = kp_text (M 185) n 13 0 0 0 (kp_D0 Z) := ⟨_, rfl⟩
  rw [← hE]
  refine mm_start (ls := [(2, 184), (9, 0), (9, 0)]) rfl ?_
  have bad : ∀ (N T : mm_M) (k : Int) (s : Nat), E = .error (k, s) → mm_Rf T → (∀ a, a ≠ 183 → N a = M a) → (∀ b, ¬ (2 ≤ b ∧ b ≤ 9) → N 183 b = M 183 b) → N 183 2 = 0 → kq_X kq_A kq_S N T k s → mm_J X Y_X13_kite 243 243 243 12 [(2, 184), (9, 0), (9, 0)] [(2, 185)] T (fun r M' => kq_K M M' E r) := by
    intro N T k s hEe hRT g1 g2 g3 hX
    obtain ⟨⟨x1, x2, x3⟩, x4, x5⟩ := hX
    refine mm_astore_n dX13_kite_12 rfl (Nat.le_of_ble_eq_true rfl) rfl ?_
    refine mm_iconst dX13_kite_13 rfl ?_
    refine mm_iret dX13_kite_14 rfl rfl ?_
    rw [hEe]
    refine ⟨hRT, ?_, rfl, x4, x5, ?_, ?_, ?_⟩
    · rw [x2 2 (by decide) (by unfold kq_S; decide)]; exact g3
    · intro a a1 a2; rw [x1 a a1 a2]; exact g1 a a1
    · intro b b1 b2; rw [x2 b (by omega) b2]; exact g2 b b1
    · intro q; exact x3 (q.fr (g1 189 (by decide)))
  have ok : ∀ (N T : mm_M) (c : Nat) (D : Nat → Int), E = .ok (c, D) → mm_Rf T → (∀ a, a ≠ 183 → N a = M a) → (∀ b, ¬ (2 ≤ b ∧ b ≤ 9) → N 183 b = M 183 b) → N 183 2 = 0 → T 183 8 = 0 → T 183 9 = -1 → kq_F kq_A kq_S N T → kq_rd T D → mm_J X Y_X13_kite 243 243 243 8 [(2, 184), (9, 0), (9, 0)] [(0, (c : Int))] T (fun r M' => kq_K M M' E r) := by
    intro N T c D hEe hRT g1 g2 g3 t8 t9 hF hrd
    obtain ⟨f1, f2, f3⟩ := hF
    obtain ⟨d1, d2, d3, d4, d5, d6⟩ := id hrd
    have loop : ∀ (U : mm_M), mm_Rf U → (∀ a, a ≠ 183 → a ≠ 186 → a ≠ 188 → a ≠ 190 → U a = T a) → (∀ b, b ≠ 16 → b ≠ 20 → U 183 b = T 183 b) → U 183 20 = 0 → U 183 16 = T 183 17 → (∀ i, i < 10 → U 186 i = T 187 i) → (∀ i, i < 3 → U 188 i = T 189 i) → (∀ i : Nat, i < 6 → U 190 i = T 191 (min (i : Int) (T 183 18 - 1)).toNat) →
        ∀ i : Nat, i ≤ 6 → ∀ Q : mm_M, mm_Rf Q → (∀ a, a ≠ 216 → Q a = U a) → (∀ k, k < i → Q 216 k = 0) → (∀ k, 6 ≤ k → Q 216 k = U 216 k) → mm_J X Y_X13_kite 243 243 243 26 [(2, 184), (0, (c : Int)), (0, (i : Int))] [] Q (fun r M' => kq_K M M' E r) := by
      intro U hRU u1 u2 u3 u4 u5 u6 u7
      refine mm_lp ?_
      intro i hi ih Q hRQ q1 q2 q3
      by_cases hlt : i < 6
      · refine mm_iload_n dX13_kite_26 rfl rfl ?_
        refine mm_bipush dX13_kite_27 rfl (by decide) ?_
        refine mm_icge dX13_kite_29 (by omega) (by omega) (fun h29 => ?_) (fun h29 => ?_)
        · exfalso; omega
        · refine mm_aload_n dX13_kite_32 rfl rfl ?_
          refine mm_getr dX13_kite_33 rfl fl_X13_295 (c := 183) rfl (by decide) rfl rfl (hRQ.at (c := 183) (i := 64) (v := 217) rfl (by decide)) ?_
          refine mm_iload_n dX13_kite_36 rfl rfl ?_
          refine mm_iconst dX13_kite_37 rfl ?_
          refine mm_istk (k0 := i) dX13_kite_38 rfl (c := 216) rfl (by decide) rfl (by omega) (by omega) (fun M38 hM38 => ?_)
          have hR38 : mm_Rf M38 := by rw [hM38]; exact hRQ.up (mm_rt_ar (t := 0) rfl (by decide))
          refine mm_iinc dX13_kite_39 rfl rfl (Nat.le_of_ble_eq_true rfl) rfl ?_
          refine mm_goto dX13_kite_42 ?_
          refine ih hlt _ hR38 ?_ ?_ ?_
          · intro a a1; rw [hM38, mm_up_row a1]; exact q1 a a1
          · intro k hk
            by_cases q : k = i
            · rw [hM38, q, mm_up_s]
            · rw [hM38, mm_up_i q]; exact q2 k (by omega)
          · intro k hk; rw [hM38, mm_up_i (by omega)]; exact q3 k hk
      · refine mm_iload_n dX13_kite_26 rfl rfl ?_
        refine mm_bipush dX13_kite_27 rfl (by decide) ?_
        refine mm_icge dX13_kite_29 (by omega) (by omega) (fun h29 => ?_) (fun h29 => ?_)
        · refine mm_aload_n dX13_kite_45 rfl rfl ?_
          refine mm_iconst dX13_kite_46 rfl ?_
          refine mm_puti dX13_kite_47 rfl fl_X13_397 (c := 183) rfl (by decide) rfl rfl (fun M47 hM47 => ?_)
          have hR47 : mm_Rf M47 := by rw [hM47]; exact hRQ.up rfl
          refine mm_aload_n dX13_kite_50 rfl rfl ?_
          refine mm_iconst dX13_kite_51 rfl ?_
          refine mm_puti dX13_kite_52 rfl fl_X13_400 (c := 183) rfl (by decide) rfl rfl (fun M52 hM52 => ?_)
          have hR52 : mm_Rf M52 := by rw [hM52]; exact hR47.up rfl
          refine mm_aload_n dX13_kite_55 rfl rfl ?_
          refine mm_iconst dX13_kite_56 rfl ?_
          refine mm_puti dX13_kite_57 rfl fl_X13_403 (c := 183) rfl (by decide) rfl rfl (fun M57 hM57 => ?_)
          have hR57 : mm_Rf M57 := by rw [hM57]; exact hR52.up rfl
          refine mm_aload_n dX13_kite_60 rfl rfl ?_
          refine mm_iconst dX13_kite_61 rfl ?_
          refine mm_puti dX13_kite_62 rfl fl_X13_406 (c := 183) rfl (by decide) rfl rfl (fun M62 hM62 => ?_)
          have hR62 : mm_Rf M62 := by rw [hM62]; exact hR57.up rfl
          refine mm_aload_n dX13_kite_65 rfl rfl ?_
          refine mm_iconst dX13_kite_66 rfl ?_
          refine mm_puti dX13_kite_67 rfl fl_X13_409 (c := 183) rfl (by decide) rfl rfl (fun M67 hM67 => ?_)
          have hR67 : mm_Rf M67 := by rw [hM67]; exact hR62.up rfl
          refine mm_aload_n dX13_kite_70 rfl rfl ?_
          refine mm_iconst dX13_kite_71 rfl ?_
          refine mm_putz dX13_kite_72 rfl fl_X13_412 (c := 183) rfl (by decide) rfl rfl (Or.inl rfl) (fun M72 hM72 => ?_)
          have hR72 : mm_Rf M72 := by rw [hM72]; exact hR67.up rfl
          refine mm_iload_n dX13_kite_75 rfl rfl ?_
          refine mm_iret dX13_kite_76 rfl rfl ?_
          have w1 : ∀ a, a ≠ 183 → M72 a = Q a := by intro a ha; funext b; simp [hM72, hM67, hM62, hM57, hM52, hM47, mm_up, ha]
          have w2 : ∀ b, b ≠ 62 → b ≠ 88 → b ≠ 89 → ¬ (97 ≤ b ∧ b ≤ 99) → M72 183 b = Q 183 b := by
            intro b b1 b2 b3 b4
            have n1 : b ≠ 97 := by omega
            have n2 : b ≠ 98 := by omega
            have n3 : b ≠ 99 := by omega
            simp [hM72, hM67, hM62, hM57, hM52, hM47, mm_up, b1, b2, b3, n1, n2, n3]
          have x16 : M72 183 16 = T 183 17 := by rw [w2 16 (by decide) (by decide) (by decide) (by decide), q1 183 (by decide)]; exact u4
          have w3 : ∀ b, b ≠ 62 → b ≠ 88 → b ≠ 89 → ¬ (97 ≤ b ∧ b ≤ 99) → b ≠ 16 → b ≠ 20 → M72 183 b = T 183 b := by
            intro b b1 b2 b3 b4 b5 b6
            rw [w2 b b1 b2 b3 b4, q1 183 (by decide)]
            exact u2 b b5 b6
          have w4 : ∀ a, a ≠ 183 → a ≠ 186 → a ≠ 188 → a ≠ 190 → a ≠ 216 → M72 a = T a := by
            intro a a1 a2 a3 a4 a5
            rw [w1 a a1, q1 a a5]
            exact u1 a a1 a2 a3 a4
          have w189 : M72 189 = T 189 := w4 189 (by decide) (by decide) (by decide) (by decide) (by decide)
          rw [hEe]
          refine ⟨hR72, ?_, rfl, ?_, ?_, ⟨?_, ?_, d3, ?_, ?_⟩, ?_, ?_, ?_, ?_, ?_, ?_, ?_, ?_, ?_, ?_, ?_, ?_⟩
          · rw [w3 2 (by decide) (by decide) (by decide) (by decide) (by decide) (by decide), f2 2 (by decide) (by unfold kq_S; decide)]; exact g3
          · rw [w3 8 (by decide) (by decide) (by decide) (by decide) (by decide) (by decide)]; exact t8
          · rw [w3 9 (by decide) (by decide) (by decide) (by decide) (by decide) (by decide)]; exact t9
          · intro k hk; rw [mm_rk_r _ hk, w1 186 (by decide), q1 186 (by decide), u5 k hk]; exact d1 k hk
          · rw [mm_rk_n, x16]; exact d2
          · intro k hk; rw [mm_rk_l _ (show k < 3 by omega), w1 188 (by decide), q1 188 (by decide), u6 k (by omega)]; exact d4 k hk
          · intro k hk
            have : mm_rk M72 (30 + k) = M72 190 k := by
              unfold mm_rk
              rw [if_neg (by omega), if_neg (by omega), if_neg (by omega)]
              congr 1
              omega
            rw [this, w1 190 (by decide), q1 190 (by decide), u7 k hk]; exact d6 k hk
          · intro hB
            have hBT : kq_bd T := f3 (hB.fr (g1 189 (by decide)))
            refine ⟨hBT.fr w189, ?_⟩
            intro k hk; rw [w1 188 (by decide), q1 188 (by decide), u6 k hk]; exact hBT k hk
          · intro a a1 a2 a3; rw [w4 a a1 (by omega) (by omega) (by omega) a3, f1 a a1 (by unfold kq_A; omega)]; exact g1 a a1
          · intro b b1 b2 b3 b4 b5 b6 b7; rw [w3 b b4 b5 b6 b7 (by omega) b3, f2 b (by omega) (by unfold kq_S; omega)]; exact g2 b b1
          · rw [w2 20 (by decide) (by decide) (by decide) (by decide), q1 183 (by decide)]; exact u3
          · intro k hk; rw [w1 216 (by decide)]; exact q2 k (by omega)
          · intro k hk; rw [w1 216 (by decide), q3 k hk, u1 216 (by decide) (by decide) (by decide) (by decide), f1 216 (by decide) (by unfold kq_A; decide), g1 216 (by decide)]
          · simp [hM72, hM67, hM62, hM57, hM52, hM47, mm_up]
          · simp [hM72, hM67, hM62, hM57, hM52, hM47, mm_up]
          · simp [hM72, hM67, hM62, hM57, hM52, hM47, mm_up]
          · simp [hM72, hM67, hM62, hM57, hM52, hM47, mm_up]
          · simp [hM72, hM67, hM62, hM57, hM52, hM47, mm_up]
          · simp [hM72, hM67, hM62, hM57, hM52, hM47, mm_up]
        · exfalso; omega
    refine mm_istore_n dX13_kite_8 rfl (Nat.le_of_ble_eq_true rfl) rfl ?_
    refine mm_goto dX13_kite_9 ?_
    refine mm_aload_n dX13_kite_15 rfl rfl ?_
    refine mm_V0g (M1 := T) dX13_kite_16 rfl lk_X13_382 (c := 183) rfl (by decide) rfl  rfl rfl rfl (c_X13_takeKite hRT d5) ?_
    rintro _ N16 ⟨rfl, p16⟩
    change mm_J _ _ _ _ _ _ _ _ _ _
    have hR16 : mm_Rf N16 := p16.1
    obtain ⟨-, k1, k2, k3, k4, k5, k6⟩ := p16
    refine mm_aload_n dX13_kite_19 rfl rfl ?_
    refine mm_iconst dX13_kite_20 rfl ?_
    refine mm_puti dX13_kite_21 rfl fl_X13_394 (c := 183) rfl (by decide) rfl rfl (fun M21 hM21 => ?_)
    have hR21 : mm_Rf M21 := by rw [hM21]; exact hR16.up rfl
    refine mm_iconst dX13_kite_24 rfl ?_
    refine mm_istore_n dX13_kite_25 rfl (Nat.le_of_ble_eq_true rfl) rfl ?_
    refine loop _ hR21 ?_ ?_ ?_ ?_ ?_ ?_ ?_ 0 (Nat.zero_le _) _ hR21 (fun _ _ => rfl) (fun k hk => absurd hk (Nat.not_lt_zero k)) (fun _ _ => rfl)
    · intro a a1 a2 a3 a4; rw [hM21, mm_up_row a1]; exact k1 a a1 a2 a3 a4
    · intro b b1 b2; rw [hM21, mm_up_i b2]; exact k2 b b1
    · rw [hM21, mm_up_s]
    · rw [hM21, mm_up_i (by decide)]; exact k3
    · intro k hk; rw [hM21, mm_up_row (by decide)]; exact k4 k hk
    · intro k hk; rw [hM21, mm_up_row (by decide)]; exact k5 k hk
    · intro k hk; rw [hM21, mm_up_row (by decide)]; exact k6 k hk
  refine mm_aload_n dX13_kite_0 rfl rfl ?_
  refine mm_V0g (M1 := M) dX13_kite_1 rfl lk_X13_388 (c := 183) rfl (by decide) rfl  rfl rfl rfl (c_X13_begin hR hn hb) ?_
  rintro _ N1 ⟨rfl, p1⟩
  change mm_J _ _ _ _ _ _ _ _ _ _
  have hR1 : mm_Rf N1 := p1.1
  refine mm_aload_n dX13_kite_4 rfl rfl ?_
  obtain ⟨-, gg, gT, gH, g1, g2, g3, g4, g5⟩ := p1
  have e185 : N1 185 = M 185 := g1 185 (by decide)
  have hI : kq_I kq_A kq_S N1 N1 n 0 := ⟨hR1, ⟨fun _ _ _ => rfl, fun _ _ _ => rfl, id⟩, rfl, gT, Nat.zero_le _, gH⟩
  have cR := c_X13_readKite (X := X) hI Z
  rw [e185, ← hE] at cR
  refine mm_V0h dX13_kite_5 rfl lk_X13_391 (c := 183) rfl (by decide) rfl rfl rfl rfl rfl (by decide) cl_X13_237 (by decide) cR ?_
  rintro r T (⟨rfl, h1, k, s, h2, h3⟩ | ⟨x, rfl, h1, c, D, h2, rfl, h3, h4, h5, h6⟩)
  · exact ⟨rfl, bad N1 T k s h2 h1 g1 g2 g3 h3⟩
  · exact ok N1 T c D h2 h1 g1 g2 g3 (h5.trans g4) (h6.trans g5) h4 h3
end

