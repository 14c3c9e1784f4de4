/-! ===== stand, of the class ===== -/
section
variable {X : mm_X} {M : mm_M} {x y : Int} {n : Nat}
theorem c_X11_stand1 (hR : mm_Rf M) (hK : mm_CK M) (hF : mm_CF M (kd_mC M)) (hFr : mm_CFr M) (hn : M 144 1 = (n : Int)) (hn8 : n < 8) (hx : 0 ≤ x ∧ x ≤ 40) (hy : 0 ≤ y ∧ y ≤ 5) (hl : 1 ≤ M (121 + 3 * y.toNat) 2 ∧ M (121 + 3 * y.toNat) 2 ≤ 100) (hw : -75000000 ≤ M (121 + 3 * y.toNat) 3 ∧ M (121 + 3 * y.toNat) 3 ≤ 75000000)
    (hst : ∀ i : Nat, (i : Int) < M (121 + 3 * y.toNat) 2 → ks_st (M 4) (M (121 + 3 * y.toNat + 2) i)) :
    mm_C X Y_X11_stand 243 243 [(2, 1), (0, x), (0, y)] M (fun r M' => r = (0, (n : Int)) ∧ mm_Rf M' ∧ mm_ag M M' ∧ kd_add M M' x (121 + 3 * y.toNat) n) := by
  have e1 := mm_keptref hR hy
  have w1 := (mm_rw_kept y.toNat (by omega)).1
  refine mm_start (ls := [(2, 1), (0, x), (0, y)]) rfl ?_
  refine mm_iload_n dX11_stand_0 rfl rfl ?_
  refine mm_S1i dX11_stand_1 rfl lk_X11_328 (by simp) rfl rfl rfl (c_X11_isSite (by omega)) ?_
  refine mm_ifeqb dX11_stand_4 (fun h4 => ?_) (fun h4 => ?_)
  · exact absurd hx h4
  · refine mm_iload_n dX11_stand_7 rfl rfl ?_
    refine mm_S1i dX11_stand_8 rfl lk_X11_254 (by simp) rfl rfl rfl (c_X11_isSlot (by omega)) ?_
    refine mm_ifneb dX11_stand_11 (fun h11 => ?_) (fun h11 => ?_)
    · refine mm_aload_n dX11_stand_17 rfl rfl ?_
      refine mm_getr dX11_stand_18 rfl fl_X11_60 (c := 0) rfl (by decide) rfl rfl (hR.at (c := 0) (i := 7) (v := 121) rfl (by decide)) ?_
      refine mm_iload_n dX11_stand_21 rfl rfl ?_
      refine mm_aald dX11_stand_22 rfl (c := 120) rfl (by decide) rfl (by omega) (by omega) ?_
      rw [e1]
      refine mm_get (kd := 0) dX11_stand_23 rfl fl_X11_115 (c := 121 + 3 * y.toNat) rfl w1.c0 w1.1 rfl ?_
      refine mm_ifne dX11_stand_26 (by omega) (fun h26 => ?_) (fun h26 => ?_)
      · refine mm_aload_n dX11_stand_32 rfl rfl ?_
        refine mm_getr dX11_stand_33 rfl fl_X11_76 (c := 0) rfl (by decide) rfl rfl (hR.at (c := 0) (i := 9) (v := 145) rfl (by decide)) ?_
        refine mm_get (kd := 0) dX11_stand_36 rfl fl_X11_331 (c := 144) rfl (by decide) rfl rfl ?_
        obtain ⟨v36, hv36⟩ : ∃ v, v = M 144 1 := ⟨_, rfl⟩
        rw [← hv36]
        rw [hn] at hv36
        subst hv36
        refine mm_bipush dX11_stand_39 rfl (by decide) ?_
        refine mm_icge dX11_stand_41 (by omega) (by omega) (fun h41 => ?_) (fun h41 => ?_)
        · exfalso; omega
        · refine mm_aload_n dX11_stand_44 rfl rfl ?_
          refine mm_getr dX11_stand_45 rfl fl_X11_76 (c := 0) rfl (by decide) rfl rfl (hR.at (c := 0) (i := 9) (v := 145) rfl (by decide)) ?_
          refine mm_iload_n dX11_stand_48 rfl rfl ?_
          refine mm_aload_n dX11_stand_49 rfl rfl ?_
          refine mm_getr dX11_stand_50 rfl fl_X11_60 (c := 0) rfl (by decide) rfl rfl (hR.at (c := 0) (i := 7) (v := 121) rfl (by decide)) ?_
          refine mm_iload_n dX11_stand_53 rfl rfl ?_
          refine mm_aald dX11_stand_54 rfl (c := 120) rfl (by decide) rfl (by omega) (by omega) ?_
          rw [e1]
          refine mm_V2g (M1 := M) dX11_stand_55 rfl lk_X11_332 (c := 144) rfl (by decide) rfl (by simp) (by simp) rfl rfl rfl (c_X1_add hR hK hF hFr hn hn8 w1 (by omega) (by omega) hl hw hst hx) ?_
          rintro _ N55 ⟨rfl, p55⟩
          change mm_J _ _ _ _ _ _ _ _ _ _
          have hR55 : mm_Rf N55 := p55.1
          refine mm_goto dX11_stand_58 ?_
          refine mm_iret dX11_stand_63 rfl rfl ?_
          exact ⟨rfl, p55⟩
      · exfalso; omega
    · exact absurd hy h11
theorem c_X11_stand0 (hR : mm_Rf M) (hx : mm_R x) (hy : mm_R y) (hc : 0 ≤ M 144 1 ∧ M 144 1 ≤ 8) (hl : ∀ k : Nat, k < 6 → 0 ≤ M (121 + 3 * k) 2 ∧ M (121 + 3 * k) 2 ≤ 100) (hno : ¬ (((0 ≤ x ∧ x ≤ 40) ∧ 0 ≤ y ∧ y ≤ 5) ∧ 0 < M (121 + 3 * y.toNat) 2 ∧ M 144 1 < 8)) :
    mm_Fn X Y_X11_stand 243 [(2, 1), (0, x), (0, y)] M (0, if (0 ≤ x ∧ x ≤ 40) ∧ 0 ≤ y ∧ y ≤ 5 then (if 0 < M (121 + 3 * y.toNat) 2 then -3 else -4) else -2) M := by
  refine mm_startF (ls := [(2, 1), (0, x), (0, y)]) rfl ?_
  by_cases hs : (0 ≤ x ∧ x ≤ 40) ∧ 0 ≤ y ∧ y ≤ 5
  · have e1 := mm_keptref hR hs.2
    have w1 := (mm_rw_kept y.toNat (by omega)).1
    have l1 := hl y.toNat (by omega)
    refine mm_iload_n dX11_stand_0 rfl rfl ?_
    refine mm_S1i dX11_stand_1 rfl lk_X11_328 (by simp) rfl rfl rfl (c_X11_isSite (by omega)) ?_
    refine mm_ifeqb dX11_stand_4 (fun h4 => ?_) (fun h4 => ?_)
    · exact absurd hs.1 h4
    · refine mm_iload_n dX11_stand_7 rfl rfl ?_
      refine mm_S1i dX11_stand_8 rfl lk_X11_254 (by simp) rfl rfl rfl (c_X11_isSlot (by omega)) ?_
      refine mm_ifneb dX11_stand_11 (fun h11 => ?_) (fun h11 => ?_)
      · refine mm_aload_n dX11_stand_17 rfl rfl ?_
        refine mm_getr dX11_stand_18 rfl fl_X11_60 (c := 0) rfl (by decide) rfl rfl (hR.at (c := 0) (i := 7) (v := 121) rfl (by decide)) ?_
        refine mm_iload_n dX11_stand_21 rfl rfl ?_
        refine mm_aald dX11_stand_22 rfl (c := 120) rfl (by decide) rfl (by omega) (by omega) ?_
        rw [e1]
        refine mm_get (kd := 0) dX11_stand_23 rfl fl_X11_115 (c := 121 + 3 * y.toNat) rfl w1.c0 w1.1 rfl ?_
        refine mm_ifne dX11_stand_26 (by omega) (fun h26 => ?_) (fun h26 => ?_)
        · refine mm_aload_n dX11_stand_32 rfl rfl ?_
          refine mm_getr dX11_stand_33 rfl fl_X11_76 (c := 0) rfl (by decide) rfl rfl (hR.at (c := 0) (i := 9) (v := 145) rfl (by decide)) ?_
          refine mm_get (kd := 0) dX11_stand_36 rfl fl_X11_331 (c := 144) rfl (by decide) rfl rfl ?_
          refine mm_bipush dX11_stand_39 rfl (by decide) ?_
          refine mm_icge dX11_stand_41 (by omega) (by omega) (fun h41 => ?_) (fun h41 => ?_)
          · refine mm_bipush dX11_stand_61 rfl (by decide) ?_
            refine mm_iret dX11_stand_63 rfl rfl ?_
            exact mm_fin (by rw [if_pos hs, if_pos (by omega)]) rfl
          · exact absurd ⟨hs, by omega, by omega⟩ hno
        · refine mm_bipush dX11_stand_29 rfl (by decide) ?_
          refine mm_iret dX11_stand_31 rfl rfl ?_
          exact mm_fin (by rw [if_pos hs, if_neg (by omega)]) rfl
      · exact absurd hs.2 h11
  · refine mm_iload_n dX11_stand_0 rfl rfl ?_
    refine mm_S1i dX11_stand_1 rfl lk_X11_328 (by simp) rfl rfl rfl (c_X11_isSite (by omega)) ?_
    refine mm_ifeqb dX11_stand_4 (fun h4 => ?_) (fun h4 => ?_)
    · refine mm_bipush dX11_stand_14 rfl (by decide) ?_
      refine mm_iret dX11_stand_16 rfl rfl ?_
      exact mm_fin (by rw [if_neg hs]) rfl
    · refine mm_iload_n dX11_stand_7 rfl rfl ?_
      refine mm_S1i dX11_stand_8 rfl lk_X11_254 (by simp) rfl rfl rfl (c_X11_isSlot (by omega)) ?_
      refine mm_ifneb dX11_stand_11 (fun h11 => ?_) (fun h11 => ?_)
      · exact absurd (And.intro h4 h11) hs
      · refine mm_bipush dX11_stand_14 rfl (by decide) ?_
        refine mm_iret dX11_stand_16 rfl rfl ?_
        exact mm_fin (by rw [if_neg hs]) rfl
end
/-! ===== stand and field, of the reference ===== -/
/-- two stands of the reference meet -/
def kd_mR (M : mm_M) (i j : Nat) : Prop := kn_a 1000000 (kn_e (mm_rk M) (kl_S M (6 + i)) (kl_S M (6 + j)) (M 216 (6 + i)).toNat (M 216 (6 + j)).toNat 0 (M 228 i) (M 228 j)) ((M 216 (6 + i)).toNat * (M 216 (6 + j)).toNat) < 2
/-- the stands of the reference -/
def mm_RF (M : mm_M) (meet : Nat → Nat → Prop) : Prop := (0 ≤ M 183 88 ∧ M 183 88 ≤ 8) ∧ (∀ i : Nat, (i : Int) < M 183 88 → (kl_ok M (6 + i) ∧ 0 < M 216 (6 + i)) ∧ (0 ≤ M 228 i ∧ M 228 i ≤ 40) ∧ (-75000000 ≤ M 218 (6 + i) ∧ M 218 (6 + i) ≤ 75000000)) ∧
  (∀ i j : Nat, i < j → (j : Int) < M 183 88 → (M 229 (8 * i + j) = 0 ∨ M 229 (8 * i + j) = 1) ∧ (M 229 (8 * i + j) = 1 ↔ meet i j))
section
variable {X : mm_X} {M : mm_M} {x y : Int} {n : Nat} {meet : Nat → Nat → Prop}
theorem c_X13_field (hR : mm_Rf M) (hF : mm_RF M meet) (hn : M 183 88 = (n : Int)) :
    mm_C X Y_X13_field 243 243 [(2, 184)] M (fun r M' => r = (0, (kd_b (kd_v meet (fun i => M 218 (6 + i)) n) (2 ^ n - 1)).1) ∧ mm_Rf M' ∧ M' = mm_up M 183 89 (kd_b (kd_v meet (fun i => M 218 (6 + i)) n) (2 ^ n - 1)).2) := by
  have hc := hF.1
  have hn8 : n ≤ 8 := by omega
  have hp8 : 2 ^ n ≤ 256 := by
    have : 2 ^ n ≤ 2 ^ 8 := Nat.pow_le_pow_right (by decide) hn8
    omega
  have hp1 : 1 ≤ 2 ^ n := Nat.one_le_two_pow
  obtain ⟨w, hw⟩ : ∃ w : Nat → Int, w = (fun i => M 218 (6 + i)) := ⟨_, rfl⟩
  have hwb : ∀ i, i < n → -75000000 ≤ w i ∧ w i ≤ 75000000 := fun i hi => by rw [hw]; exact (hF.2.1 i (by omega)).2.2
  rw [← hw]
  obtain ⟨v, hv⟩ : ∃ v, v = kd_v meet w n := ⟨_, rfl⟩
  have hvb : ∀ s, -600000001 ≤ v s ∧ v s ≤ 600000000 := by
    intro s
    have := kd_vb (meet := meet) (w := w) (B := 75000000) (by decide) (n := n) (set := s) hwb
    rw [hv]
    omega
  have esh := kx_shl n (by omega)
  rw [← hv]
  refine mm_start (ls := [(2, 184), (9, 0), (9, 0), (9, 0), (9, 0), (9, 0), (9, 0)]) rfl ?_
  obtain ⟨Φ, hΦ⟩ : ∃ Φ : mm_V → mm_M → Prop, Φ = (fun r M' => r = (0, (kd_b v (2 ^ n - 1)).1) ∧ mm_Rf M' ∧ M' = mm_up M 183 89 (kd_b v (2 ^ n - 1)).2) := ⟨_, rfl⟩
  rw [← hΦ]
  have loop : ∀ k : Nat, k ≤ 2 ^ n - 1 → ∀ (N : mm_M) (l3 l4 l5 l6 : mm_V), mm_Rf N → N = mm_up M 183 89 (kd_b v k).2 → mm_J X Y_X13_field 243 243 243 9 [(2, 184), (0, (kd_b v k).1), (0, ((k + 1 : Nat) : Int)), l3, l4, l5, l6] [] N Φ := by
    refine mm_lp ?_
    intro k hk ih N l3 l4 l5 l6 hRN hN
    have hbb := kd_bb (v := v) (B := 600000000) (by decide) (k := k) (fun i _ => (hvb i).2)
    have fc : N 183 88 = (n : Int) := by rw [hN, mm_up_i (by decide)]; exact hn
    have fr : ∀ a, a ≠ 183 → N a = M a := by intro a ha; rw [hN, mm_up_row ha]
    have f218 : N 218 = M 218 := fr 218 (by decide)
    have f229 : N 229 = M 229 := fr 229 (by decide)
    by_cases hlt : k < 2 ^ n - 1
    · have hvk := hvb (k + 1)
      have ih := ih hlt
      rw [kd_b] at ih
      have hkb : ∀ j, (k + 1).testBit j = true → j < n := kd_bits (by omega)
      -- all stands seen: z tells whether it is good
      have stands : ∀ i : Nat, i ≤ n → ∀ (l6 : mm_V) (z : Int), z = 0 ∨ z = 1 → (z = 1 ↔ ∀ a b, a < b → b < n → a < i → (k + 1).testBit a = true → (k + 1).testBit b = true → ¬ meet a b) →
          mm_J X Y_X13_field 243 243 243 27 [(2, 184), (0, (kd_b v k).1), (0, ((k + 1 : Nat) : Int)), (0, kd_sum w (k + 1) i), (0, z), (0, (i : Int)), l6] [] N Φ := by
        refine mm_lp ?_
        intro i hi ih2 l6 z hz1 hz2
        have hsb := kd_sumb (w := w) (set := k + 1) (B := 75000000) (by decide) (n := i) (fun j hj => hwb j (by omega))
        by_cases hil : i < n
        · have hwi := hwb i hil
          have ew : M 218 (6 + i) = w i := by rw [hw]
          have eb := kx_bit (a := k + 1) (k := i) (by omega) (by omega)
          have ih2 := ih2 hil
          have hsi : kd_sum w (k + 1) (i + 1) = kd_sum w (k + 1) i + (if (k + 1).testBit i = true then w i else 0) := rfl
          rw [hsi] at ih2
          by_cases hbi : (k + 1).testBit i = true
          · rw [if_pos hbi] at eb ih2
            -- the pairs with i
            have pairs : ∀ j : Nat, j ≤ n → i + 1 ≤ j → ∀ z : Int, z = 0 ∨ z = 1 → (z = 1 ↔ (∀ a b, a < b → b < n → a < i → (k + 1).testBit a = true → (k + 1).testBit b = true → ¬ meet a b) ∧ ∀ b, i < b → b < j → (k + 1).testBit b = true → ¬ meet i b) →
                mm_J X Y_X13_field 243 243 243 67 [(2, 184), (0, (kd_b v k).1), (0, ((k + 1 : Nat) : Int)), (0, kd_sum w (k + 1) i + w i), (0, z), (0, (i : Int)), (0, (j : Int))] [] N Φ := by
              refine mm_lp ?_
              intro j hj ih3 hij z hz1 hz2
              by_cases hjl : j < n
              · obtain ⟨m1, m2⟩ := hF.2.2 i j (by omega) (by omega)
                have ebj := kx_bit (a := k + 1) (k := j) (by omega) (by omega)
                have fin : ∀ y : Int, y = 0 ∨ y = 1 → (y = 1 ↔ z = 1 ∧ ((k + 1).testBit j = true → ¬ meet i j)) → mm_J X Y_X13_field 243 243 243 111 [(2, 184), (0, (kd_b v k).1), (0, ((k + 1 : Nat) : Int)), (0, kd_sum w (k + 1) i + w i), (0, z), (0, (i : Int)), (0, (j : Int))] [(0, y)] N Φ := by
                  intro y hy1 hy2
                  refine mm_istore dX13_field_111 rfl (Nat.le_of_ble_eq_true rfl) rfl ?_
                  refine mm_iinc dX13_field_113 rfl rfl (Nat.le_of_ble_eq_true rfl) rfl ?_
                  refine mm_goto dX13_field_116 ?_
                  refine ih3 hjl (by omega) y hy1 ?_
                  rw [hy2, hz2]
                  constructor
                  · rintro ⟨⟨a1, a2⟩, a3⟩
                    refine ⟨a1, fun b b1 b2 b3 => ?_⟩
                    by_cases q : b = j
                    · rw [q] at b3 ⊢; exact a3 b3
                    · exact a2 b b1 (by omega) b3
                  · rintro ⟨a1, a2⟩
                    exact ⟨⟨a1, fun b b1 b2 b3 => a2 b b1 (by omega) b3⟩, fun a3 => a2 j (by omega) (by omega) a3⟩
                refine mm_iload dX13_field_67 rfl rfl ?_
                refine mm_aload_n dX13_field_69 rfl rfl ?_
                refine mm_get (kd := 0) dX13_field_70 rfl fl_X13_397 (c := 183) rfl (by decide) rfl rfl ?_
                obtain ⟨v70, hv70⟩ : ∃ v, v = N 183 88 := ⟨_, rfl⟩
                rw [← hv70]
                rw [fc] at hv70
                subst hv70
                refine mm_icge dX13_field_73 (by omega) (by omega) (fun h73 => ?_) (fun h73 => ?_)
                · exfalso; omega
                · refine mm_iload dX13_field_76 rfl rfl ?_
                  refine mm_ifeq dX13_field_78 (by omega) (fun h78 => ?_) (fun h78 => ?_)
                  · refine mm_iconst dX13_field_110 rfl ?_
                    exact fin 0 (Or.inl rfl) ⟨fun y => absurd y (by decide), fun y => by omega⟩
                  · refine mm_iload_n dX13_field_81 rfl rfl ?_
                    refine mm_iload dX13_field_82 rfl rfl ?_
                    refine mm_ishr dX13_field_84 rfl ?_
                    refine mm_iconst dX13_field_85 rfl ?_
                    refine mm_iand dX13_field_86 rfl ?_
                    rw [ebj]
                    refine mm_ifeq dX13_field_87 (by split <;> omega) (fun h87 => ?_) (fun h87 => ?_)
                    · refine mm_iconst dX13_field_106 rfl ?_
                      refine mm_goto dX13_field_107 ?_
                      refine fin _ (by decide) ?_
                      by_cases q : (k + 1).testBit j = true
                      · rw [if_pos q] at h87
                        first
                        | exact absurd h87 (by decide)
                        | exact ⟨fun _ => ⟨by omega, fun _ y => by rw [← m2] at y; omega⟩, fun _ => rfl⟩
                        | exact ⟨fun y => absurd y (by decide), fun y => absurd (m2.mp (by omega)) (y.2 q)⟩
                      · rw [if_neg q] at h87
                        first
                        | exact ⟨fun _ => ⟨by omega, fun y => absurd y q⟩, fun _ => rfl⟩
                        | exact absurd rfl h87
                    · refine mm_aload_n dX13_field_90 rfl rfl ?_
                      refine mm_getr dX13_field_91 rfl fl_X13_337 (c := 183) rfl (by decide) rfl rfl (hRN.at (c := 183) (i := 91) (v := 230) rfl (by decide)) ?_
                      refine mm_bipush dX13_field_94 rfl (by decide) ?_
                      refine mm_iload dX13_field_96 rfl rfl ?_
                      refine mm_imul dX13_field_98 rfl ?_
                      refine mm_iload dX13_field_99 rfl rfl ?_
                      refine mm_iadd dX13_field_101 rfl ?_
                      refine mm_zalk (k0 := (8 * i + j)) dX13_field_102 rfl (c := 229) rfl (by decide) rfl (by omega) (by omega) ?_
                      rw [f229]
                      refine mm_ifne dX13_field_103 (by omega) (fun h103 => ?_) (fun h103 => ?_)
                      · refine mm_iconst dX13_field_110 rfl ?_
                        refine fin _ (by decide) ?_
                        by_cases q : (k + 1).testBit j = true
                        · rw [if_pos q] at h87
                          first
                          | exact absurd h87 (by decide)
                          | exact ⟨fun _ => ⟨by omega, fun _ y => by rw [← m2] at y; omega⟩, fun _ => rfl⟩
                          | exact ⟨fun y => absurd y (by decide), fun y => absurd (m2.mp (by omega)) (y.2 q)⟩
                        · rw [if_neg q] at h87
                          first
                          | exact ⟨fun _ => ⟨by omega, fun y => absurd y q⟩, fun _ => rfl⟩
                          | exact absurd rfl h87
                      · refine mm_iconst dX13_field_106 rfl ?_
                        refine mm_goto dX13_field_107 ?_
                        refine fin _ (by decide) ?_
                        by_cases q : (k + 1).testBit j = true
                        · rw [if_pos q] at h87
                          first
                          | exact absurd h87 (by decide)
                          | exact ⟨fun _ => ⟨by omega, fun _ y => by rw [← m2] at y; omega⟩, fun _ => rfl⟩
                          | exact ⟨fun y => absurd y (by decide), fun y => absurd (m2.mp (by omega)) (y.2 q)⟩
                        · rw [if_neg q] at h87
                          first
                          | exact ⟨fun _ => ⟨by omega, fun y => absurd y q⟩, fun _ => rfl⟩
                          | exact absurd rfl h87
              · refine mm_iload dX13_field_67 rfl rfl ?_
                refine mm_aload_n dX13_field_69 rfl rfl ?_
                refine mm_get (kd := 0) dX13_field_70 rfl fl_X13_397 (c := 183) rfl (by decide) rfl rfl ?_
                obtain ⟨v70, hv70⟩ : ∃ v, v = N 183 88 := ⟨_, rfl⟩
                rw [← hv70]
                rw [fc] at hv70
                subst hv70
                refine mm_icge dX13_field_73 (by omega) (by omega) (fun h73 => ?_) (fun h73 => ?_)
                · refine mm_iinc dX13_field_119 rfl rfl (Nat.le_of_ble_eq_true rfl) rfl ?_
                  refine mm_goto dX13_field_122 ?_
                  refine ih2 _ z hz1 ?_
                  rw [hz2]
                  constructor
                  · rintro ⟨a1, a2⟩ a b h1 h2 h3 h4 h5
                    by_cases q : a = i
                    · rw [q] at h1 ⊢; exact a2 b h1 (by omega) h5
                    · exact a1 a b h1 h2 (by omega) h4 h5
                  · intro a1
                    exact ⟨fun a b h1 h2 h3 h4 h5 => a1 a b h1 h2 (by omega) h4 h5, fun b h1 h2 h3 => a1 i b h1 (by omega) (by omega) hbi h3⟩
                · exfalso; omega
            refine mm_iload dX13_field_27 rfl rfl ?_
            refine mm_aload_n dX13_field_29 rfl rfl ?_
            refine mm_get (kd := 0) dX13_field_30 rfl fl_X13_397 (c := 183) rfl (by decide) rfl rfl ?_
            obtain ⟨v30, hv30⟩ : ∃ v, v = N 183 88 := ⟨_, rfl⟩
            rw [← hv30]
            rw [fc] at hv30
            subst hv30
            refine mm_icge dX13_field_33 (by omega) (by omega) (fun h33 => ?_) (fun h33 => ?_)
            · exfalso; omega
            · refine mm_iload_n dX13_field_36 rfl rfl ?_
              refine mm_iload dX13_field_37 rfl rfl ?_
              refine mm_ishr dX13_field_39 rfl ?_
              refine mm_iconst dX13_field_40 rfl ?_
              refine mm_iand dX13_field_41 rfl ?_
              rw [eb]
              refine mm_ifne dX13_field_42 (by omega) (fun h42 => ?_) (fun h42 => ?_)
              · refine mm_iload_n dX13_field_48 rfl rfl ?_
                refine mm_aload_n dX13_field_49 rfl rfl ?_
                refine mm_getr dX13_field_50 rfl fl_X13_301 (c := 183) rfl (by decide) rfl rfl (hRN.at (c := 183) (i := 66) (v := 219) rfl (by decide)) ?_
                refine mm_bipush dX13_field_53 rfl (by decide) ?_
                refine mm_iload dX13_field_55 rfl rfl ?_
                refine mm_iadd dX13_field_57 rfl ?_
                refine mm_ialk (k0 := (6 + i)) dX13_field_58 rfl (c := 218) rfl (by decide) rfl (by omega) (by omega) ?_
                rw [f218]
                rw [ew]
                refine mm_iadd dX13_field_59 rfl ?_
                refine mm_istore_n dX13_field_60 rfl (Nat.le_of_ble_eq_true rfl) rfl ?_
                refine mm_iload dX13_field_61 rfl rfl ?_
                refine mm_iconst dX13_field_63 rfl ?_
                refine mm_iadd dX13_field_64 rfl ?_
                refine mm_istore dX13_field_65 rfl (Nat.le_of_ble_eq_true rfl) rfl ?_
                have := pairs (i + 1) (by omega) (Nat.le_refl _) z hz1 ?_
                · exact this
                · rw [hz2]
                  exact ⟨fun a1 => ⟨a1, fun b b1 b2 => by omega⟩, fun a1 => a1.1⟩
              · exfalso; omega
          · rw [if_neg hbi] at eb ih2
            rw [Int.add_zero] at ih2
            refine mm_iload dX13_field_27 rfl rfl ?_
            refine mm_aload_n dX13_field_29 rfl rfl ?_
            refine mm_get (kd := 0) dX13_field_30 rfl fl_X13_397 (c := 183) rfl (by decide) rfl rfl ?_
            obtain ⟨v30, hv30⟩ : ∃ v, v = N 183 88 := ⟨_, rfl⟩
            rw [← hv30]
            rw [fc] at hv30
            subst hv30
            refine mm_icge dX13_field_33 (by omega) (by omega) (fun h33 => ?_) (fun h33 => ?_)
            · exfalso; omega
            · refine mm_iload_n dX13_field_36 rfl rfl ?_
              refine mm_iload dX13_field_37 rfl rfl ?_
              refine mm_ishr dX13_field_39 rfl ?_
              refine mm_iconst dX13_field_40 rfl ?_
              refine mm_iand dX13_field_41 rfl ?_
              rw [eb]
              refine mm_ifne dX13_field_42 (by omega) (fun h42 => ?_) (fun h42 => ?_)
              · exfalso; omega
              · refine mm_goto dX13_field_45 ?_
                refine mm_iinc dX13_field_119 rfl rfl (Nat.le_of_ble_eq_true rfl) rfl ?_
                refine mm_goto dX13_field_122 ?_
                refine ih2 _ z hz1 ?_
                rw [hz2]
                constructor
                · intro a1 a b h1 h2 h3 h4 h5
                  by_cases q : a = i
                  · rw [q] at h4; exact absurd h4 hbi
                  · exact a1 a b h1 h2 (by omega) h4 h5
                · intro a1 a b h1 h2 h3 h4 h5
                  exact a1 a b h1 h2 (by omega) h4 h5
        · have ei : i = n := by omega
          have hgz : z = 1 ↔ kd_good meet n (k + 1) := by
            rw [hz2]
            exact ⟨fun a1 a b h1 h2 h4 h5 => a1 a b h1 h2 (by omega) h4 h5, fun a1 a b h1 h2 _ h4 h5 => a1 a b h1 h2 h4 h5⟩
          have hv1 : z = 1 → v (k + 1) = kd_sum w (k + 1) i := by intro q; rw [hv, kd_v1 (hgz.mp q), ei]
          have hv0 : z = 0 → v (k + 1) = -1 := by intro q; rw [hv, kd_v0 (fun y => by rw [← hgz] at y; omega)]
          refine mm_iload dX13_field_27 rfl rfl ?_
          refine mm_aload_n dX13_field_29 rfl rfl ?_
          refine mm_get (kd := 0) dX13_field_30 rfl fl_X13_397 (c := 183) rfl (by decide) rfl rfl ?_
          obtain ⟨v30, hv30⟩ : ∃ v, v = N 183 88 := ⟨_, rfl⟩
          rw [← hv30]
          rw [fc] at hv30
          subst hv30
          refine mm_icge dX13_field_33 (by omega) (by omega) (fun h33 => ?_) (fun h33 => ?_)
          · refine mm_iload dX13_field_125 rfl rfl ?_
            refine mm_ifeq dX13_field_127 (by omega) (fun h127 => ?_) (fun h127 => ?_)
            · refine mm_iinc dX13_field_145 rfl rfl (Nat.le_of_ble_eq_true rfl) rfl ?_
              refine mm_goto dX13_field_148 ?_
              first
              | (have e := hv1 (by omega)
                 rw [if_pos (by omega), e] at ih
                 exact ih _ _ _ _ _ hRN (by rw [hM142, hN]; funext a b; simp only [mm_up]; split <;> rfl))
              | (have e := hv1 (by omega)
                 rw [if_neg (by omega)] at ih
                 exact ih _ _ _ _ _ hRN hN)
              | (have e := hv0 (by omega)
                 rw [if_neg (by omega)] at ih
                 exact ih _ _ _ _ _ hRN hN)
            · refine mm_iload_n dX13_field_130 rfl rfl ?_
              refine mm_iload_n dX13_field_131 rfl rfl ?_
              refine mm_icgt dX13_field_132 (by omega) (by omega) (fun h132 => ?_) (fun h132 => ?_)
              · refine mm_iload_n dX13_field_138 rfl rfl ?_
                refine mm_istore_n dX13_field_139 rfl (Nat.le_of_ble_eq_true rfl) rfl ?_
                refine mm_aload_n dX13_field_140 rfl rfl ?_
                refine mm_iload_n dX13_field_141 rfl rfl ?_
                refine mm_puti dX13_field_142 rfl fl_X13_400 (c := 183) rfl (by decide) rfl rfl (fun M142 hM142 => ?_)
                have hR142 : mm_Rf M142 := by rw [hM142]; exact hRN.up rfl
                refine mm_iinc dX13_field_145 rfl rfl (Nat.le_of_ble_eq_true rfl) rfl ?_
                refine mm_goto dX13_field_148 ?_
                first
                | (have e := hv1 (by omega)
                   rw [if_pos (by omega), e] at ih
                   exact ih _ _ _ _ _ hR142 (by rw [hM142, hN]; funext a b; simp only [mm_up]; split <;> rfl))
                | (have e := hv1 (by omega)
                   rw [if_neg (by omega)] at ih
                   exact ih _ _ _ _ _ hR142 hN)
                | (have e := hv0 (by omega)
                   rw [if_neg (by omega)] at ih
                   exact ih _ _ _ _ _ hR142 hN)
              · refine mm_goto dX13_field_135 ?_
                refine mm_iinc dX13_field_145 rfl rfl (Nat.le_of_ble_eq_true rfl) rfl ?_
                refine mm_goto dX13_field_148 ?_
                first
                | (have e := hv1 (by omega)
                   rw [if_pos (by omega), e] at ih
                   exact ih _ _ _ _ _ hRN (by rw [hM142, hN]; funext a b; simp only [mm_up]; split <;> rfl))
                | (have e := hv1 (by omega)
                   rw [if_neg (by omega)] at ih
                   exact ih _ _ _ _ _ hRN hN)
                | (have e := hv0 (by omega)
                   rw [if_neg (by omega)] at ih
                   exact ih _ _ _ _ _ hRN hN)
          · exfalso; omega
      refine mm_iload_n dX13_field_9 rfl rfl ?_
      refine mm_iconst dX13_field_10 rfl ?_
      refine mm_aload_n dX13_field_11 rfl rfl ?_
      refine mm_get (kd := 0) dX13_field_12 rfl fl_X13_397 (c := 183) rfl (by decide) rfl rfl ?_
      obtain ⟨v12, hv12⟩ : ∃ v, v = N 183 88 := ⟨_, rfl⟩
      rw [← hv12]
      rw [fc] at hv12
      subst hv12
      refine mm_ishl dX13_field_15 rfl ?_
      rw [esh]
      refine mm_icge dX13_field_16 (by omega) (by omega) (fun h16 => ?_) (fun h16 => ?_)
      · exfalso; omega
      · refine mm_iconst dX13_field_19 rfl ?_
        refine mm_istore_n dX13_field_20 rfl (Nat.le_of_ble_eq_true rfl) rfl ?_
        refine mm_iconst dX13_field_21 rfl ?_
        refine mm_istore dX13_field_22 rfl (Nat.le_of_ble_eq_true rfl) rfl ?_
        refine mm_iconst dX13_field_24 rfl ?_
        refine mm_istore dX13_field_25 rfl (Nat.le_of_ble_eq_true rfl) rfl ?_
        exact stands 0 (Nat.zero_le _) _ 1 (Or.inr rfl) ⟨fun _ a b _ _ h => absurd h (Nat.not_lt_zero a), fun _ => rfl⟩
    · have ek : k = 2 ^ n - 1 := by omega
      rw [hΦ]
      refine mm_iload_n dX13_field_9 rfl rfl ?_
      refine mm_iconst dX13_field_10 rfl ?_
      refine mm_aload_n dX13_field_11 rfl rfl ?_
      refine mm_get (kd := 0) dX13_field_12 rfl fl_X13_397 (c := 183) rfl (by decide) rfl rfl ?_
      obtain ⟨v12, hv12⟩ : ∃ v, v = N 183 88 := ⟨_, rfl⟩
      rw [← hv12]
      rw [fc] at hv12
      subst hv12
      refine mm_ishl dX13_field_15 rfl ?_
      rw [esh]
      refine mm_icge dX13_field_16 (by omega) (by omega) (fun h16 => ?_) (fun h16 => ?_)
      · refine mm_iload_n dX13_field_151 rfl rfl ?_
        refine mm_iret dX13_field_152 rfl rfl ?_
        exact ⟨by rw [ek], hRN, by rw [hN, ek]⟩
      · exfalso; omega
  refine mm_iconst dX13_field_0 rfl ?_
  refine mm_istore_n dX13_field_1 rfl (Nat.le_of_ble_eq_true rfl) rfl ?_
  refine mm_aload_n dX13_field_2 rfl rfl ?_
  refine mm_iconst dX13_field_3 rfl ?_
  refine mm_puti dX13_field_4 rfl fl_X13_400 (c := 183) rfl (by decide) rfl rfl (fun M4 hM4 => ?_)
  have hR4 : mm_Rf M4 := by rw [hM4]; exact hR.up rfl
  refine mm_iconst dX13_field_7 rfl ?_
  refine mm_istore_n dX13_field_8 rfl (Nat.le_of_ble_eq_true rfl) rfl ?_
  exact loop 0 (Nat.zero_le _) _ _ _ _ _ hR4 hM4
end

