/-! ===== the text of a kite, of the reference: clauses to the end ===== -/
/-- what is read of a kite -/
def kq_rd (N : mm_M) (D : Nat → Int) : Prop := (∀ i, i < 10 → N 187 i = D i) ∧ N 183 17 = D 10 ∧ (1 ≤ D 10 ∧ D 10 ≤ 3) ∧ (∀ i : Nat, (i : Int) < D 10 → N 189 i = D (20 + i)) ∧ (1 ≤ N 183 18 ∧ N 183 18 ≤ 6) ∧ (∀ i : Nat, i < 6 → N 191 (min (i : Int) (N 183 18 - 1)).toNat = D (30 + i))
theorem kq_rd.fr {M N : mm_M} {D : Nat → Int} (h : kq_rd M D) (h1 : N 187 = M 187) (h2 : N 189 = M 189) (h3 : N 191 = M 191) (h4 : N 183 17 = M 183 17) (h5 : N 183 18 = M 183 18) : kq_rd N D := by
  unfold kq_rd at h ⊢
  rw [h1, h2, h3, h4, h5]
  exact h
section
variable {X : mm_X} {M N : mm_M} {n p : Nat}
theorem c_X13_plain (hR : mm_Rf M) : mm_C X Y_X13_plain 243 243 [(2, 184)] M (fun r M' => r = (3, 0) ∧ mm_Rf M' ∧ (∀ a, a ≠ 183 → ¬ kq_A a → M' a = M a) ∧ (∀ b, ¬ kq_S b → M' 183 b = M 183 b) ∧ (kq_bd M → kq_bd M') ∧ (∀ Z, kq_rd M' (kp_D0 Z)) ∧ (∀ k, k < 12 → M' 192 k = 0)) := by
  refine mm_start (ls := [(2, 184), (9, 0)]) rfl ?_
  have told : ∀ i : Nat, i ≤ 12 → ∀ N : mm_M, mm_Rf N → (∀ a, a ≠ 183 → ¬ kq_A a → N a = M a) → (∀ b, ¬ kq_S b → N 183 b = M 183 b) → (kq_bd M → kq_bd N) → (∀ Z, kq_rd N (kp_D0 Z)) → (∀ k, k < i → N 192 k = 0) →
      mm_J X Y_X13_plain 243 243 243 60 [(2, 184), (0, (i : Int))] [] N (fun r M' => r = (3, 0) ∧ mm_Rf M' ∧ (∀ a, a ≠ 183 → ¬ kq_A a → M' a = M a) ∧ (∀ b, ¬ kq_S b → M' 183 b = M 183 b) ∧ (kq_bd M → kq_bd M') ∧ (∀ Z, kq_rd M' (kp_D0 Z)) ∧ (∀ k, k < 12 → M' 192 k = 0)) := by
    refine mm_lp ?_
    intro i hi ih N hRN f1 f2 f3 hD h0
    by_cases hlt : i < 12
    · refine mm_iload_n dX13_plain_60 rfl rfl ?_
      refine mm_bipush dX13_plain_61 rfl (by decide) ?_
      refine mm_icge dX13_plain_63 (by omega) (by omega) (fun h63 => ?_) (fun h63 => ?_)
      · exfalso; omega
      · refine mm_aload_n dX13_plain_66 rfl rfl ?_
        refine mm_getr dX13_plain_67 rfl fl_X13_97 (c := 183) rfl (by decide) rfl rfl (hRN.at (c := 183) (i := 19) (v := 193) rfl (by decide)) ?_
        refine mm_iload_n dX13_plain_70 rfl rfl ?_
        refine mm_iconst dX13_plain_71 rfl ?_
        refine mm_zstk (k0 := i) dX13_plain_72 rfl (c := 192) rfl (by decide) rfl (by omega) (by omega) (Or.inl rfl) (fun M72 hM72 => ?_)
        have hR72 : mm_Rf M72 := by rw [hM72]; exact hRN.up (mm_rt_ar (t := 2) rfl (by decide))
        refine mm_iinc dX13_plain_73 rfl rfl (Nat.le_of_ble_eq_true rfl) rfl ?_
        refine mm_goto dX13_plain_76 ?_
        refine ih hlt _ hR72 ?_ ?_ (fun q => by rw [hM72]; exact (f3 q).up (fun z => absurd z (by decide))) ?_ ?_
        · intro a a1 a2; rw [hM72, mm_up_row (fun z => a2 (Or.inr (Or.inr (Or.inr z))))]; exact f1 a a1 a2
        · intro b hb; rw [hM72, mm_up_row (by decide)]; exact f2 b hb
        · intro Z
          rw [hM72]
          exact (hD Z).fr (mm_up_row (by decide)) (mm_up_row (by decide)) (mm_up_row (by decide)) (by rw [mm_up_row (by decide)]) (by rw [mm_up_row (by decide)])
        · intro k hk
          by_cases q : k = i
          · rw [hM72, q, mm_up_s]
          · rw [hM72, mm_up_i q]; exact h0 k (by omega)
    · refine mm_iload_n dX13_plain_60 rfl rfl ?_
      refine mm_bipush dX13_plain_61 rfl (by decide) ?_
      refine mm_icge dX13_plain_63 (by omega) (by omega) (fun h63 => ?_) (fun h63 => ?_)
      · refine mm_vret dX13_plain_79 rfl rfl ?_
        exact ⟨rfl, hRN, f1, f2, f3, hD, fun k hk => h0 k (by omega)⟩
      · exfalso; omega
  have rule : ∀ i : Nat, i ≤ 10 → ∀ N : mm_M, mm_Rf N → (∀ a, a ≠ 187 → N a = M a) → (∀ k, k < i → N 187 k = kp_U.getD k 0) →
      mm_J X Y_X13_plain 243 243 243 2 [(2, 184), (0, (i : Int))] [] N (fun r M' => r = (3, 0) ∧ mm_Rf M' ∧ (∀ a, a ≠ 183 → ¬ kq_A a → M' a = M a) ∧ (∀ b, ¬ kq_S b → M' 183 b = M 183 b) ∧ (kq_bd M → kq_bd M') ∧ (∀ Z, kq_rd M' (kp_D0 Z)) ∧ (∀ k, k < 12 → M' 192 k = 0)) := by
    refine mm_lp ?_
    intro i hi ih N hRN f1 h0
    by_cases hlt : i < 10
    · have eU : (mm_rc X 5).2 i = kp_U.getD i 0 := rfl
      refine mm_iload_n dX13_plain_2 rfl rfl ?_
      refine mm_bipush dX13_plain_3 rfl (by decide) ?_
      refine mm_icge dX13_plain_5 (by omega) (by omega) (fun h5 => ?_) (fun h5 => ?_)
      · exfalso; omega
      · refine mm_aload_n dX13_plain_8 rfl rfl ?_
        refine mm_getr dX13_plain_9 rfl fl_X13_78 (c := 183) rfl (by decide) rfl rfl (hRN.at (c := 183) (i := 11) (v := 188) rfl (by decide)) ?_
        refine mm_iload_n dX13_plain_12 rfl rfl ?_
        refine mm_gets (k0 := 3) dX13_plain_13 rfl (by decide) sf_X13_82 ?_
        refine mm_iload_n dX13_plain_16 rfl rfl ?_
        refine mm_iark (k1 := 5) (k0 := i) dX13_plain_17 rfl rfl (by decide) (by omega) (by (show i < 10); omega) (Nat.le_of_ble_eq_true rfl) ?_
        rw [eU]
        refine mm_istk (k0 := i) dX13_plain_18 rfl (c := 187) rfl (by decide) rfl (by omega) (by omega) (fun M18 hM18 => ?_)
        have hR18 : mm_Rf M18 := by rw [hM18]; exact hRN.up (mm_rt_ar (t := 0) rfl (by decide))
        refine mm_iinc dX13_plain_19 rfl rfl (Nat.le_of_ble_eq_true rfl) rfl ?_
        refine mm_goto dX13_plain_22 ?_
        refine ih hlt _ hR18 ?_ ?_
        · intro a a1; rw [hM18, mm_up_row a1]; exact f1 a a1
        · intro k hk
          by_cases q : k = i
          · rw [hM18, q, mm_up_s]
          · rw [hM18, mm_up_i q]; exact h0 k (by omega)
    · refine mm_iload_n dX13_plain_2 rfl rfl ?_
      refine mm_bipush dX13_plain_3 rfl (by decide) ?_
      refine mm_icge dX13_plain_5 (by omega) (by omega) (fun h5 => ?_) (fun h5 => ?_)
      · refine mm_aload_n dX13_plain_25 rfl rfl ?_
        refine mm_getr dX13_plain_26 rfl fl_X13_85 (c := 183) rfl (by decide) rfl rfl (hRN.at (c := 183) (i := 13) (v := 190) rfl (by decide)) ?_
        refine mm_iconst dX13_plain_29 rfl ?_
        refine mm_bipush dX13_plain_30 rfl (by decide) ?_
        refine mm_istk (k0 := 0) dX13_plain_32 rfl (c := 189) rfl (by decide) rfl rfl (by decide) (fun M32 hM32 => ?_)
        have hR32 : mm_Rf M32 := by rw [hM32]; exact hRN.up (mm_rt_ar (t := 0) rfl (by decide))
        refine mm_aload_n dX13_plain_33 rfl rfl ?_
        refine mm_getr dX13_plain_34 rfl fl_X13_85 (c := 183) rfl (by decide) rfl rfl (hR32.at (c := 183) (i := 13) (v := 190) rfl (by decide)) ?_
        refine mm_iconst dX13_plain_37 rfl ?_
        refine mm_iconst dX13_plain_38 rfl ?_
        refine mm_istk (k0 := 1) dX13_plain_39 rfl (c := 189) rfl (by decide) rfl rfl (by decide) (fun M39 hM39 => ?_)
        have hR39 : mm_Rf M39 := by rw [hM39]; exact hR32.up (mm_rt_ar (t := 0) rfl (by decide))
        refine mm_aload_n dX13_plain_40 rfl rfl ?_
        refine mm_iconst dX13_plain_41 rfl ?_
        refine mm_puti dX13_plain_42 rfl fl_X13_88 (c := 183) rfl (by decide) rfl rfl (fun M42 hM42 => ?_)
        have hR42 : mm_Rf M42 := by rw [hM42]; exact hR39.up rfl
        refine mm_aload_n dX13_plain_45 rfl rfl ?_
        refine mm_getr dX13_plain_46 rfl fl_X13_91 (c := 183) rfl (by decide) rfl rfl (hR42.at (c := 183) (i := 15) (v := 192) rfl (by decide)) ?_
        refine mm_iconst dX13_plain_49 rfl ?_
        refine mm_bipush dX13_plain_50 rfl (by decide) ?_
        refine mm_istk (k0 := 0) dX13_plain_52 rfl (c := 191) rfl (by decide) rfl rfl (by decide) (fun M52 hM52 => ?_)
        have hR52 : mm_Rf M52 := by rw [hM52]; exact hR42.up (mm_rt_ar (t := 0) rfl (by decide))
        refine mm_aload_n dX13_plain_53 rfl rfl ?_
        refine mm_iconst dX13_plain_54 rfl ?_
        refine mm_puti dX13_plain_55 rfl fl_X13_94 (c := 183) rfl (by decide) rfl rfl (fun M55 hM55 => ?_)
        have hR55 : mm_Rf M55 := by rw [hM55]; exact hR52.up rfl
        refine mm_iconst dX13_plain_58 rfl ?_
        refine mm_istore_n dX13_plain_59 rfl (Nat.le_of_ble_eq_true rfl) rfl ?_
        refine told 0 (Nat.zero_le _) _ hR55 ?_ ?_ (fun q => by rw [hM55, hM52, hM42, hM39, hM32]; exact (((((q.fr (f1 189 (by decide))).up (fun _ => by decide)).up (fun _ => by decide)).up (fun z => absurd z (by decide))).up (fun z => absurd z (by decide))).up (fun z => absurd z (by decide))) ?_ (fun k hk => absurd hk (Nat.not_lt_zero k))
        · intro a a1 a2
          unfold kq_A at a2
          have n1 : a ≠ 187 := by omega
          have n2 : a ≠ 189 := by omega
          have n3 : a ≠ 191 := by omega
          funext b; simp [hM55, hM52, hM42, hM39, hM32, mm_up, a1, n2, n3]; rw [f1 a n1]
        · intro b hb
          unfold kq_S at hb
          have n1 : b ≠ 17 := by omega
          have n2 : b ≠ 18 := by omega
          simp [hM55, hM52, hM42, hM39, hM32, mm_up, n1, n2]; rw [f1 183 (by decide)]
        · intro Z
          refine ⟨?_, ?_, ?_, ?_, ?_, ?_⟩
          · intro k hk; simp [hM55, hM52, hM42, hM39, hM32, mm_up, kp_D0, hk]; exact h0 k (by omega)
          · simp [hM55, hM52, hM42, hM39, hM32, mm_up, kp_D0]
          · simp [kp_D0]
          · intro k hk
            have : k < 2 := by simp [kp_D0] at hk; omega
            match k, this with
            | 0, _ => simp [hM55, hM52, hM42, hM39, hM32, mm_up, kp_D0]
            | 1, _ => simp [hM55, hM52, hM42, hM39, hM32, mm_up, kp_D0]
          · simp [hM55, hM52, hM42, hM39, hM32, mm_up]
          · intro k hk
            have e : M55 183 18 = 1 := by simp [hM55, hM52, hM42, hM39, hM32, mm_up]
            rw [e, show (min (k : Int) (1 - 1)).toNat = 0 by omega]
            unfold kp_D0
            rw [if_neg (by omega), if_neg (by omega), if_neg (by omega), if_neg (by omega), if_pos (by omega)]
            simp [hM55, hM52, hM42, hM39, hM32, mm_up]
      · exfalso; omega
  refine mm_iconst dX13_plain_0 rfl ?_
  refine mm_istore_n dX13_plain_1 rfl (Nat.le_of_ble_eq_true rfl) rfl ?_
  exact rule 0 (Nat.zero_le _) M hR (fun _ _ => rfl) (fun k hk => absurd hk (Nat.not_lt_zero k))
end

