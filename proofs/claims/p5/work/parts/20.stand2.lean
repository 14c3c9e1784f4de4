/-! 86.stand2 -/
section
/-! ===== stand, of the class ===== -/
section
variable {X : mm_X} {M : mm_M} {x y : Int} {n : Nat}
theorem c_X11_stand1 (hR : mm_Rf M) (hK : mm_CK M) (hF : mm_CF M (kd_mC M)) (hFr : mm_CFr M) (hn : M 144 1 = (n : Int)) (hn8 : n < 8) (hx : 0 ≤ x ∧ x ≤ 40) (hy : 0 ≤ y ∧ y ≤ 5) (hl : 1 ≤ M (121 + 3 * y.toNat) 2 ∧ M (121 + 3 * y.toNat) 2 ≤ 100) (hw : -75000000 ≤ M (121 + 3 * y.toNat) 3 ∧ M (121 + 3 * y.toNat) 3 ≤ 75000000)
    (hst : ∀ i : Nat, (i : Int) < M (121 + 3 * y.toNat) 2 → ks_st (M 4) (M (121 + 3 * y.toNat + 2) i)) :
    mm_C X Y_X11_stand 243 243 [(2, 1), (0, x), (0, y)] M (fun r M' => r = (0, (n : Int)) ∧ mm_Rf M' ∧ mm_ag M M' ∧ kd_add M M' x (121 + 3 * y.toNat) n) := by
  have e1 := mm_keptref hR hy
  have w1 := (mm_rw_kept y.toNat (by omega)).1
  refine mm_start (ls := [(2, 1), (0, x), (0, y)]) rfl ?_
  refine mm_iload_n dX11_stand_0 rfl rfl ?_
  refine mm_S1i dX11_stand_1 rfl lk_X11_328 (by simp) rfl rfl rfl (c_X11_isSite (by omega)) ?_
  refine mm_ifeqb dX11_stand_4 (fun h4 => ?_) (fun h4 => ?_)
  · exact absurd hx h4
  · refine mm_iload_n dX11_stand_7 rfl rfl ?_
    refine mm_S1i dX11_stand_8 rfl lk_X11_254 (by simp) rfl rfl rfl (c_X11_isSlot (by omega)) ?_
    refine mm_ifneb dX11_stand_11 (fun h11 => ?_) (fun h11 => ?_)
    · refine mm_aload_n dX11_stand_17 rfl rfl ?_
      refine mm_getr dX11_stand_18 rfl fl_X11_60 (c := 0) rfl (by decide) rfl rfl (hR.at (c := 0) (i := 7) (v := 121) rfl (by decide)) ?_
      refine mm_iload_n dX11_stand_21 rfl rfl ?_
      refine mm_aald dX11_stand_22 rfl (c := 120) rfl (by decide) rfl (by omega) (by omega) ?_
      rw [e1]
      refine mm_get (kd := 0) dX11_stand_23 rfl fl_X11_115 (c := 121 + 3 * y.toNat) rfl w1.c0 w1.1 rfl ?_
      refine mm_ifne dX11_stand_26 (by omega) (fun h26 => ?_) (fun h26 => ?_)
      · refine mm_aload_n dX11_stand_32 rfl rfl ?_
        refine mm_getr dX11_stand_33 rfl fl_X11_76 (c := 0) rfl (by decide) rfl rfl (hR.at (c := 0) (i := 9) (v := 145) rfl (by decide)) ?_
        refine mm_get (kd := 0) dX11_stand_36 rfl fl_X11_331 (c := 144) rfl (by decide) rfl rfl ?_
        obtain ⟨v36, hv36⟩ : ∃ v, v = M 144 1 := ⟨_, rfl⟩
        rw [← hv36]
        rw [hn] at hv36
        subst hv36
        refine mm_bipush dX11_stand_39 rfl (by decide) ?_
        refine mm_icge dX11_stand_41 (by omega) (by omega) (fun h41 => ?_) (fun h41 => ?_)
        · exfalso; omega
        · refine mm_aload_n dX11_stand_44 rfl rfl ?_
          refine mm_getr dX11_stand_45 rfl fl_X11_76 (c := 0) rfl (by decide) rfl rfl (hR.at (c := 0) (i := 9) (v := 145) rfl (by decide)) ?_
          refine mm_iload_n dX11_stand_48 rfl rfl ?_
          refine mm_aload_n dX11_stand_49 rfl rfl ?_
          refine mm_getr dX11_stand_50 rfl fl_X11_60 (c := 0) rfl (by decide) rfl rfl (hR.at (c := 0) (i := 7) (v := 121) rfl (by decide)) ?_
          refine mm_iload_n dX11_stand_53 rfl rfl ?_
          refine mm_aald dX11_stand_54 rfl (c := 120) rfl (by decide) rfl (by omega) (by omega) ?_
          rw [e1]
          refine mm_V2g (M1 := M) dX11_stand_55 rfl lk_X11_332 (c := 144) rfl (by decide) rfl (by simp) (by simp) rfl rfl rfl (c_X1_add hR hK hF hFr hn hn8 w1 (by omega) (by omega) hl hw hst hx) ?_
          rintro _ N55 ⟨rfl, p55⟩
          change mm_J _ _ _ _ _ _ _ _ _ _
          have hR55 : mm_Rf N55 := p55.1
          refine mm_goto dX11_stand_58 ?_
          refine mm_iret dX11_stand_63 rfl rfl ?_
          exact ⟨rfl, p55⟩
      · exfalso; omega
    · exact absurd hy h11
theorem c_X11_stand0 (hR : mm_Rf M) (hx : mm_R x) (hy : mm_R y) (hc : 0 ≤ M 144 1 ∧ M 144 1 ≤ 8) (hl : ∀ k : Nat, k < 6 → 0 ≤ M (121 + 3 * k) 2 ∧ M (121 + 3 * k) 2 ≤ 100) (hno : ¬ (((0 ≤ x ∧ x ≤ 40) ∧ 0 ≤ y ∧ y ≤ 5) ∧ 0 < M (121 + 3 * y.toNat) 2 ∧ M 144 1 < 8)) :
    mm_Fn X Y_X11_stand 243 [(2, 1), (0, x), (0, y)] M (0, if (0 ≤ x ∧ x ≤ 40) ∧ 0 ≤ y ∧ y ≤ 5 then (if 0 < M (121 + 3 * y.toNat) 2 then -3 else -4) else -2) M := by
  refine mm_startF (ls := [(2, 1), (0, x), (0, y)]) rfl ?_
  by_cases hs : (0 ≤ x ∧ x ≤ 40) ∧ 0 ≤ y ∧ y ≤ 5
  · have e1 := mm_keptref hR hs.2
    have w1 := (mm_rw_kept y.toNat (by omega)).1
    have l1 := hl y.toNat (by omega)
    refine mm_iload_n dX11_stand_0 rfl rfl ?_
    refine mm_S1i dX11_stand_1 rfl lk_X11_328 (by simp) rfl rfl rfl (c_X11_isSite (by omega)) ?_
    refine mm_ifeqb dX11_stand_4 (fun h4 => ?_) (fun h4 => ?_)
    · exact absurd hs.1 h4
    · refine mm_iload_n dX11_stand_7 rfl rfl ?_
      refine mm_S1i dX11_stand_8 rfl lk_X11_254 (by simp) rfl rfl rfl (c_X11_isSlot (by omega)) ?_
      refine mm_ifneb dX11_stand_11 (fun h11 => ?_) (fun h11 => ?_)
      · refine mm_aload_n dX11_stand_17 rfl rfl ?_
        refine mm_getr dX11_stand_18 rfl fl_X11_60 (c := 0) rfl (by decide) rfl rfl (hR.at (c := 0) (i := 7) (v := 121) rfl (by decide)) ?_
        refine mm_iload_n dX11_stand_21 rfl rfl ?_
        refine mm_aald dX11_stand_22 rfl (c := 120) rfl (by decide) rfl (by omega) (by omega) ?_
        rw [e1]
        refine mm_get (kd := 0) dX11_stand_23 rfl fl_X11_115 (c := 121 + 3 * y.toNat) rfl w1.c0 w1.1 rfl ?_
        refine mm_ifne dX11_stand_26 (by omega) (fun h26 => ?_) (fun h26 => ?_)
        · refine mm_aload_n dX11_stand_32 rfl rfl ?_
          refine mm_getr dX11_stand_33 rfl fl_X11_76 (c := 0) rfl (by decide) rfl rfl (hR.at (c := 0) (i := 9) (v := 145) rfl (by decide)) ?_
          refine mm_get (kd := 0) dX11_stand_36 rfl fl_X11_331 (c := 144) rfl (by decide) rfl rfl ?_
          refine mm_bipush dX11_stand_39 rfl (by decide) ?_
          refine mm_icge dX11_stand_41 (by omega) (by omega) (fun h41 => ?_) (fun h41 => ?_)
          · refine mm_bipush dX11_stand_61 rfl (by decide) ?_
            refine mm_iret dX11_stand_63 rfl rfl ?_
            exact mm_fin (by rw [if_pos hs, if_pos (by omega)]) rfl
          · exact absurd ⟨hs, by omega, by omega⟩ hno
        · refine mm_bipush dX11_stand_29 rfl (by decide) ?_
          refine mm_iret dX11_stand_31 rfl rfl ?_
          exact mm_fin (by rw [if_pos hs, if_neg (by omega)]) rfl
      · exact absurd hs.2 h11
  · refine mm_iload_n dX11_stand_0 rfl rfl ?_
    refine mm_S1i dX11_stand_1 rfl lk_X11_328 (by simp) rfl rfl rfl (c_X11_isSite (by omega)) ?_
    refine mm_ifeqb dX11_stand_4 (fun h4 => ?_) (fun h4 => ?_)
    · refine mm_bipush dX11_stand_14 rfl (by decide) ?_
      refine mm_iret dX11_stand_16 rfl rfl ?_
      exact mm_fin (by rw [if_neg hs]) rfl
    · refine mm_iload_n dX11_stand_7 rfl rfl ?_
      refine mm_S1i dX11_stand_8 rfl lk_X11_254 (by simp) rfl rfl rfl (c_X11_isSlot (by omega)) ?_
      refine mm_ifneb dX11_stand_11 (fun h11 => ?_) (fun h11 => ?_)
      · exact absurd (And.intro h4 h11) hs
      · refine mm_bipush dX11_stand_14 rfl (by decide) ?_
        refine mm_iret dX11_stand_16 rfl rfl ?_
        exact mm_fin (by rw [if_neg hs]) rfl
end
/-! ===== stand and field, of the reference ===== -/
/-- two stands of the reference meet -/
def kd_mR (M : mm_M) (i j : Nat) : Prop := kn_a 1000000 (kn_e (mm_rk M) (kl_S M (6 + i)) (kl_S M (6 + j)) (M 216 (6 + i)).toNat (M 216 (6 + j)).toNat 0 (M 228 i) (M 228 j)) ((M 216 (6 + i)).toNat * (M 216 (6 + j)).toNat) < 2
/-- the stands of the reference -/
def mm_RF (M : mm_M) (meet : Nat → Nat → Prop) : Prop := (0 ≤ M 183 88 ∧ M 183 88 ≤ 8) ∧ (∀ i : Nat, (i : Int) < M 183 88 → (kl_ok M (6 + i) ∧ 0 < M 216 (6 + i)) ∧ (0 ≤ M 228 i ∧ M 228 i ≤ 40) ∧ (-75000000 ≤ M 218 (6 + i) ∧ M 218 (6 + i) ≤ 75000000)) ∧
  (∀ i j : Nat, i < j → (j : Int) < M 183 88 → (M 229 (8 * i + j) = 0 ∨ M 229 (8 * i + j) = 1) ∧ (M 229 (8 * i + j) = 1 ↔ meet i j))
section
variable {X : mm_X} {M : mm_M} {x y : Int} {n : Nat} {meet : Nat → Nat → Prop}
theorem c_X13_field (hR : mm_Rf M) (hF : mm_RF M meet) (hn : M 183 88 = (n : Int)) :
    mm_C X Y_X13_field 243 243 [(2, 184)] M (fun r M' => r = (0, (kd_b (kd_v meet (fun i => M 218 (6 + i)) n) (2 ^ n - 1)).1) ∧ mm_Rf M' ∧ M' = mm_up M 183 89 (kd_b (kd_v meet (fun i => M 218 (6 + i)) n) (2 ^ n - 1)).2) := by
  have hc := hF.1
  have hn8 : n ≤ 8 := by omega
  have hp8 : 2 ^ n ≤ 256 := by
    have : 2 ^ n ≤ 2 ^ 8 := Nat.pow_le_pow_right (by decide) hn8
    omega
  have hp1 : 1 ≤ 2 ^ n := Nat.one_le_two_pow
  obtain ⟨w, hw⟩ : ∃ w : Nat → Int, w = (fun i => M 218 (6 + i)) := ⟨_, rfl⟩
  have hwb : ∀ i, i < n → -75000000 ≤ w i ∧ w i ≤ 75000000 := fun i hi => by rw [hw]; exact (hF.2.1 i (by omega)).2.2
  rw [← hw]
  obtain ⟨v, hv⟩ : ∃ v, v = kd_v meet w n := ⟨_, rfl⟩
  have hvb : ∀ s, -600000001 ≤ v s ∧ v s ≤ 600000000 := by
    intro s
    have := kd_vb (meet := meet) (w := w) (B := 75000000) (by decide) (n := n) (set := s) hwb
    rw [hv]
    omega
  have esh := kx_shl n (by omega)
  rw [← hv]
  refine mm_start (ls := [(2, 184), (9, 0), (9, 0), (9, 0), (9, 0), (9, 0), (9, 0)]) rfl ?_
  obtain ⟨Φ, hΦ⟩ : ∃ Φ : mm_V → mm_M → Prop, Φ = (fun r M' => r = (0, (kd_b v (2 ^ n - 1)).1) ∧ mm_Rf M' ∧ M' = mm_up M 183 89 (kd_b v (2 ^ n - 1)).2) := ⟨_, rfl⟩
  rw [← hΦ]
  have loop : ∀ k : Nat, k ≤ 2 ^ n - 1 → ∀ (N : mm_M) (l3 l4 l5 l6 : mm_V), mm_Rf N → N = mm_up M 183 89 (kd_b v k).2 → mm_J X Y_X13_field 243 243 243 9 [(2, 184), (0, (kd_b v k).1), (0, ((k + 1 : Nat) : Int)), l3, l4, l5, l6] [] N Φ := by
    refine mm_lp ?_
    intro k hk ih N l3 l4 l5 l6 hRN hN
    have hbb := kd_bb (v := v) (B := 600000000) (by decide) (k := k) (fun i _ => (hvb i).2)
    have fc : N 183 88 = (n : Int) := by rw [hN, mm_up_i (by decide)]; exact hn
    have fr : ∀ a, a ≠ 183 → N a = M a := by intro a ha; rw [hN, mm_up_row ha]
    have f218 : N 218 = M 218 := fr 218 (by decide)
    have f229 : N 229 = M 229 := fr 229 (by decide)
    by_cases hlt : k < 2 ^ n - 1
    · have hvk := hvb (k + 1)
      have ih := ih hlt
      rw [kd_b] at ih
      have hkb : ∀ j, (k + 1).testBit j = true → j < n := kd_bits (by omega)
      -- all stands seen: z tells whether it is good
      have stands : ∀ i : Nat, i ≤ n → ∀ (l6 : mm_V) (z : Int), z = 0 ∨ z = 1 → (z = 1 ↔ ∀ a b, a < b → b < n → a < i → (k + 1).testBit a = true → (k + 1).testBit b = true → ¬ meet a b) →
          mm_J X Y_X13_field 243 243 243 27 [(2, 184), (0, (kd_b v k).1), (0, ((k + 1 : Nat) : Int)), (0, kd_sum w (k + 1) i), (0, z), (0, (i : Int)), l6] [] N Φ := by
        refine mm_lp ?_
        intro i hi ih2 l6 z hz1 hz2
        have hsb := kd_sumb (w := w) (set := k + 1) (B := 75000000) (by decide) (n := i) (fun j hj => hwb j (by omega))
        by_cases hil : i < n
        · have hwi := hwb i hil
          have ew : M 218 (6 + i) = w i := by rw [hw]
          have eb := kx_bit (a := k + 1) (k := i) (by omega) (by omega)
          have ih2 := ih2 hil
          have hsi : kd_sum w (k + 1) (i + 1) = kd_sum w (k + 1) i + (if (k + 1).testBit i = true then w i else 0) := rfl
          rw [hsi] at ih2
          by_cases hbi : (k + 1).testBit i = true
          · rw [if_pos hbi] at eb ih2
            -- the pairs with i
            have pairs : ∀ j : Nat, j ≤ n → i + 1 ≤ j → ∀ z : Int, z = 0 ∨ z = 1 → (z = 1 ↔ (∀ a b, a < b → b < n → a < i → (k + 1).testBit a = true → (k + 1).testBit b = true → ¬ meet a b) ∧ ∀ b, i < b → b < j → (k + 1).testBit b = true → ¬ meet i b) →
                mm_J X Y_X13_field 243 243 243 67 [(2, 184), (0, (kd_b v k).1), (0, ((k + 1 : Nat) : Int)), (0, kd_sum w (k + 1) i + w i), (0, z), (0, (i : Int)), (0, (j : Int))] [] N Φ := by
              refine mm_lp ?_
              intro j hj ih3 hij z hz1 hz2
              by_cases hjl : j < n
              · obtain ⟨m1, m2⟩ := hF.2.2 i j (by omega) (by omega)
                have ebj := kx_bit (a := k + 1) (k := j) (by omega) (by omega)
                have fin : ∀ y : Int, y = 0 ∨ y = 1 → (y = 1 ↔ z = 1 ∧ ((k + 1).testBit j = true → ¬ meet i j)) → mm_J X Y_X13_field 243 243 243 111 [(2, 184), (0, (kd_b v k).1), (0, ((k + 1 : Nat) : Int)), (0, kd_sum w (k + 1) i + w i), (0, z), (0, (i : Int)), (0, (j : Int))] [(0, y)] N Φ := by
                  intro y hy1 hy2
                  refine mm_istore dX13_field_111 rfl (Nat.le_of_ble_eq_true rfl) rfl ?_
                  refine mm_iinc dX13_field_113 rfl rfl (Nat.le_of_ble_eq_true rfl) rfl ?_
                  refine mm_goto dX13_field_116 ?_
                  refine ih3 hjl (by omega) y hy1 ?_
                  rw [hy2, hz2]
                  constructor
                  · rintro ⟨⟨a1, a2⟩, a3⟩
                    refine ⟨a1, fun b b1 b2 b3 => ?_⟩
                    by_cases q : b = j
                    · rw [q] at b3 ⊢; exact a3 b3
                    · exact a2 b b1 (by omega) b3
                  · rintro ⟨a1, a2⟩
                    exact ⟨⟨a1, fun b b1 b2 b3 => a2 b b1 (by omega) b3⟩, fun a3 => a2 j (by omega) (by omega) a3⟩
                refine mm_iload dX13_field_67 rfl rfl ?_
                refine mm_aload_n dX13_field_69 rfl rfl ?_
                refine mm_get (kd := 0) dX13_field_70 rfl fl_X13_397 (c := 183) rfl (by decide) rfl rfl ?_
                obtain ⟨v70, hv70⟩ : ∃ v, v = N 183 88 := ⟨_, rfl⟩
                rw [← hv70]
                rw [fc] at hv70
                subst hv70
                refine mm_icge dX13_field_73 (by omega) (by omega) (fun h73 => ?_) (fun h73 => ?_)
                · exfalso; omega
                · refine mm_iload dX13_field_76 rfl rfl ?_
                  refine mm_ifeq dX13_field_78 (by omega) (fun h78 => ?_) (fun h78 => ?_)
                  · refine mm_iconst dX13_field_110 rfl ?_
                    exact fin 0 (Or.inl rfl) ⟨fun y => absurd y (by decide), fun y => by omega⟩
                  · refine mm_iload_n dX13_field_81 rfl rfl ?_
                    refine mm_iload dX13_field_82 rfl rfl ?_
                    refine mm_ishr dX13_field_84 rfl ?_
                    refine mm_iconst dX13_field_85 rfl ?_
                    refine mm_iand dX13_field_86 rfl ?_
                    rw [ebj]
                    refine mm_ifeq dX13_field_87 (by split <;> omega) (fun h87 => ?_) (fun h87 => ?_)
                    · refine mm_iconst dX13_field_106 rfl ?_
                      refine mm_goto dX13_field_107 ?_
                      refine fin _ (by decide) ?_
                      by_cases q : (k + 1).testBit j = true
                      · rw [if_pos q] at h87
                        first
                        | exact absurd h87 (by decide)
                        | exact ⟨fun _ => ⟨by omega, fun _ y => by rw [← m2] at y; omega⟩, fun _ => rfl⟩
                        | exact ⟨fun y => absurd y (by decide), fun y => absurd (m2.mp (by omega)) (y.2 q)⟩
                      · rw [if_neg q] at h87
                        first
                        | exact ⟨fun _ => ⟨by omega, fun y => absurd y q⟩, fun _ => rfl⟩
                        | exact absurd rfl h87
                    · refine mm_aload_n dX13_field_90 rfl rfl ?_
                      refine mm_getr dX13_field_91 rfl fl_X13_337 (c := 183) rfl (by decide) rfl rfl (hRN.at (c := 183) (i := 91) (v := 230) rfl (by decide)) ?_
                      refine mm_bipush dX13_field_94 rfl (by decide) ?_
                      refine mm_iload dX13_field_96 rfl rfl ?_
                      refine mm_imul dX13_field_98 rfl ?_
                      refine mm_iload dX13_field_99 rfl rfl ?_
                      refine mm_iadd dX13_field_101 rfl ?_
                      refine mm_zalk (k0 := (8 * i + j)) dX13_field_102 rfl (c := 229) rfl (by decide) rfl (by omega) (by omega) ?_
                      rw [f229]
                      refine mm_ifne dX13_field_103 (by omega) (fun h103 => ?_) (fun h103 => ?_)
                      · refine mm_iconst dX13_field_110 rfl ?_
                        refine fin _ (by decide) ?_
                        by_cases q : (k + 1).testBit j = true
                        · rw [if_pos q] at h87
                          first
                          | exact absurd h87 (by decide)
                          | exact ⟨fun _ => ⟨by omega, fun _ y => by rw [← m2] at y; omega⟩, fun _ => rfl⟩
                          | exact ⟨fun y => absurd y (by decide), fun y => absurd (m2.mp (by omega)) (y.2 q)⟩
                        · rw [if_neg q] at h87
                          first
                          | exact ⟨fun _ => ⟨by omega, fun y => absurd y q⟩, fun _ => rfl⟩
                          | exact absurd rfl h87
                      · refine mm_iconst dX13_field_106 rfl ?_
                        refine mm_goto dX13_field_107 ?_
                        refine fin _ (by decide) ?_
                        by_cases q : (k + 1).testBit j = true
                        · rw [if_pos q] at h87
                          first
                          | exact absurd h87 (by decide)
                          | exact ⟨fun _ => ⟨by omega, fun _ y => by rw [← m2] at y; omega⟩, fun _ => rfl⟩
                          | exact ⟨fun y => absurd y (by decide), fun y => absurd (m2.mp (by omega)) (y.2 q)⟩
                        · rw [if_neg q] at h87
                          first
                          | exact ⟨fun _ => ⟨by omega, fun y => absurd y q⟩, fun _ => rfl⟩
                          | exact absurd rfl h87
              · refine mm_iload dX13_field_67 rfl rfl ?_
                refine mm_aload_n dX13_field_69 rfl rfl ?_
                refine mm_get (kd := 0) dX13_field_70 rfl fl_X13_397 (c := 183) rfl (by decide) rfl rfl ?_
                obtain ⟨v70, hv70⟩ : ∃ v, v = N 183 88 := ⟨_, rfl⟩
                rw [← hv70]
                rw [fc] at hv70
                subst hv70
                refine mm_icge dX13_field_73 (by omega) (by omega) (fun h73 => ?_) (fun h73 => ?_)
                · refine mm_iinc dX13_field_119 rfl rfl (Nat.le_of_ble_eq_true rfl) rfl ?_
                  refine mm_goto dX13_field_122 ?_
                  refine ih2 _ z hz1 ?_
                  rw [hz2]
                  constructor
                  · rintro ⟨a1, a2⟩ a b h1 h2 h3 h4 h5
                    by_cases q : a = i
                    · rw [q] at h1 ⊢; exact a2 b h1 (by omega) h5
                    · exact a1 a b h1 h2 (by omega) h4 h5
                  · intro a1
                    exact ⟨fun a b h1 h2 h3 h4 h5 => a1 a b h1 h2 (by omega) h4 h5, fun b h1 h2 h3 => a1 i b h1 (by omega) (by omega) hbi h3⟩
                · exfalso; omega
            refine mm_iload dX13_field_27 rfl rfl ?_
            refine mm_aload_n dX13_field_29 rfl rfl ?_
            refine mm_get (kd := 0) dX13_field_30 rfl fl_X13_397 (c := 183) rfl (by decide) rfl rfl ?_
            obtain ⟨v30, hv30⟩ : ∃ v, v = N 183 88 := ⟨_, rfl⟩
            rw [← hv30]
            rw [fc] at hv30
            subst hv30
            refine mm_icge dX13_field_33 (by omega) (by omega) (fun h33 => ?_) (fun h33 => ?_)
            · exfalso; omega
            · refine mm_iload_n dX13_field_36 rfl rfl ?_
              refine mm_iload dX13_field_37 rfl rfl ?_
              refine mm_ishr dX13_field_39 rfl ?_
              refine mm_iconst dX13_field_40 rfl ?_
              refine mm_iand dX13_field_41 rfl ?_
              rw [eb]
              refine mm_ifne dX13_field_42 (by omega) (fun h42 => ?_) (fun h42 => ?_)
              · refine mm_iload_n dX13_field_48 rfl rfl ?_
                refine mm_aload_n dX13_field_49 rfl rfl ?_
                refine mm_getr dX13_field_50 rfl fl_X13_301 (c := 183) rfl (by decide) rfl rfl (hRN.at (c := 183) (i := 66) (v := 219) rfl (by decide)) ?_
                refine mm_bipush dX13_field_53 rfl (by decide) ?_
                refine mm_iload dX13_field_55 rfl rfl ?_
                refine mm_iadd dX13_field_57 rfl ?_
                refine mm_ialk (k0 := (6 + i)) dX13_field_58 rfl (c := 218) rfl (by decide) rfl (by omega) (by omega) ?_
                rw [f218]
                rw [ew]
                refine mm_iadd dX13_field_59 rfl ?_
                refine mm_istore_n dX13_field_60 rfl (Nat.le_of_ble_eq_true rfl) rfl ?_
                refine mm_iload dX13_field_61 rfl rfl ?_
                refine mm_iconst dX13_field_63 rfl ?_
                refine mm_iadd dX13_field_64 rfl ?_
                refine mm_istore dX13_field_65 rfl (Nat.le_of_ble_eq_true rfl) rfl ?_
                have := pairs (i + 1) (by omega) (Nat.le_refl _) z hz1 ?_
                · exact this
                · rw [hz2]
                  exact ⟨fun a1 => ⟨a1, fun b b1 b2 => by omega⟩, fun a1 => a1.1⟩
              · exfalso; omega
          · rw [if_neg hbi] at eb ih2
            rw [Int.add_zero] at ih2
            refine mm_iload dX13_field_27 rfl rfl ?_
            refine mm_aload_n dX13_field_29 rfl rfl ?_
            refine mm_get (kd := 0) dX13_field_30 rfl fl_X13_397 (c := 183) rfl (by decide) rfl rfl ?_
            obtain ⟨v30, hv30⟩ : ∃ v, v = N 183 88 := ⟨_, rfl⟩
            rw [← hv30]
            rw [fc] at hv30
            subst hv30
            refine mm_icge dX13_field_33 (by omega) (by omega) (fun h33 => ?_) (fun h33 => ?_)
            · exfalso; omega
            · refine mm_iload_n dX13_field_36 rfl rfl ?_
              refine mm_iload dX13_field_37 rfl rfl ?_
              refine mm_ishr dX13_field_39 rfl ?_
              refine mm_iconst dX13_field_40 rfl ?_
              refine mm_iand dX13_field_41 rfl ?_
              rw [eb]
              refine mm_ifne dX13_field_42 (by omega) (fun h42 => ?_) (fun h42 => ?_)
              · exfalso; omega
              · refine mm_goto dX13_field_45 ?_
                refine mm_iinc dX13_field_119 rfl rfl (Nat.le_of_ble_eq_true rfl) rfl ?_
                refine mm_goto dX13_field_122 ?_
                refine ih2 _ z hz1 ?_
                rw [hz2]
                constructor
                · intro a1 a b h1 h2 h3 h4 h5
                  by_cases q : a = i
                  · rw [q] at h4; exact absurd h4 hbi
                  · exact a1 a b h1 h2 (by omega) h4 h5
                · intro a1 a b h1 h2 h3 h4 h5
                  exact a1 a b h1 h2 (by omega) h4 h5
        · have ei : i = n := by omega
          have hgz : z = 1 ↔ kd_good meet n (k + 1) := by
            rw [hz2]
            exact ⟨fun a1 a b h1 h2 h4 h5 => a1 a b h1 h2 (by omega) h4 h5, fun a1 a b h1 h2 _ h4 h5 => a1 a b h1 h2 h4 h5⟩
          have hv1 : z = 1 → v (k + 1) = kd_sum w (k + 1) i := by intro q; rw [hv, kd_v1 (hgz.mp q), ei]
          have hv0 : z = 0 → v (k + 1) = -1 := by intro q; rw [hv, kd_v0 (fun y => by rw [← hgz] at y; omega)]
          refine mm_iload dX13_field_27 rfl rfl ?_
          refine mm_aload_n dX13_field_29 rfl rfl ?_
          refine mm_get (kd := 0) dX13_field_30 rfl fl_X13_397 (c := 183) rfl (by decide) rfl rfl ?_
          obtain ⟨v30, hv30⟩ : ∃ v, v = N 183 88 := ⟨_, rfl⟩
          rw [← hv30]
          rw [fc] at hv30
          subst hv30
          refine mm_icge dX13_field_33 (by omega) (by omega) (fun h33 => ?_) (fun h33 => ?_)
          · refine mm_iload dX13_field_125 rfl rfl ?_
            refine mm_ifeq dX13_field_127 (by omega) (fun h127 => ?_) (fun h127 => ?_)
            · refine mm_iinc dX13_field_145 rfl rfl (Nat.le_of_ble_eq_true rfl) rfl ?_
              refine mm_goto dX13_field_148 ?_
              first
              | (have e := hv1 (by omega)
                 rw [if_pos (by omega), e] at ih
                 exact ih _ _ _ _ _ hRN (by rw [hM142, hN]; funext a b; simp only [mm_up]; split <;> rfl))
              | (have e := hv1 (by omega)
                 rw [if_neg (by omega)] at ih
                 exact ih _ _ _ _ _ hRN hN)
              | (have e := hv0 (by omega)
                 rw [if_neg (by omega)] at ih
                 exact ih _ _ _ _ _ hRN hN)
            · refine mm_iload_n dX13_field_130 rfl rfl ?_
              refine mm_iload_n dX13_field_131 rfl rfl ?_
              refine mm_icgt dX13_field_132 (by omega) (by omega) (fun h132 => ?_) (fun h132 => ?_)
              · refine mm_iload_n dX13_field_138 rfl rfl ?_
                refine mm_istore_n dX13_field_139 rfl (Nat.le_of_ble_eq_true rfl) rfl ?_
                refine mm_aload_n dX13_field_140 rfl rfl ?_
                refine mm_iload_n dX13_field_141 rfl rfl ?_
                refine mm_puti dX13_field_142 rfl fl_X13_400 (c := 183) rfl (by decide) rfl rfl (fun M142 hM142 => ?_)
                have hR142 : mm_Rf M142 := by rw [hM142]; exact hRN.up rfl
                refine mm_iinc dX13_field_145 rfl rfl (Nat.le_of_ble_eq_true rfl) rfl ?_
                refine mm_goto dX13_field_148 ?_
                first
                | (have e := hv1 (by omega)
                   rw [if_pos (by omega), e] at ih
                   exact ih _ _ _ _ _ hR142 (by rw [hM142, hN]; funext a b; simp only [mm_up]; split <;> rfl))
                | (have e := hv1 (by omega)
                   rw [if_neg (by omega)] at ih
                   exact ih _ _ _ _ _ hR142 hN)
                | (have e := hv0 (by omega)
                   rw [if_neg (by omega)] at ih
                   exact ih _ _ _ _ _ hR142 hN)
              · refine mm_goto dX13_field_135 ?_
                refine mm_iinc dX13_field_145 rfl rfl (Nat.le_of_ble_eq_true rfl) rfl ?_
                refine mm_goto dX13_field_148 ?_
                first
                | (have e := hv1 (by omega)
                   rw [if_pos (by omega), e] at ih
                   exact ih _ _ _ _ _ hRN (by rw [hM142, hN]; funext a b; simp only [mm_up]; split <;> rfl))
                | (have e := hv1 (by omega)
                   rw [if_neg (by omega)] at ih
                   exact ih _ _ _ _ _ hRN hN)
                | (have e := hv0 (by omega)
                   rw [if_neg (by omega)] at ih
                   exact ih _ _ _ _ _ hRN hN)
          · exfalso; omega
      refine mm_iload_n dX13_field_9 rfl rfl ?_
      refine mm_iconst dX13_field_10 rfl ?_
      refine mm_aload_n dX13_field_11 rfl rfl ?_
      refine mm_get (kd := 0) dX13_field_12 rfl fl_X13_397 (c := 183) rfl (by decide) rfl rfl ?_
      obtain ⟨v12, hv12⟩ : ∃ v, v = N 183 88 := ⟨_, rfl⟩
      rw [← hv12]
      rw [fc] at hv12
      subst hv12
      refine mm_ishl dX13_field_15 rfl ?_
      rw [esh]
      refine mm_icge dX13_field_16 (by omega) (by omega) (fun h16 => ?_) (fun h16 => ?_)
      · exfalso; omega
      · refine mm_iconst dX13_field_19 rfl ?_
        refine mm_istore_n dX13_field_20 rfl (Nat.le_of_ble_eq_true rfl) rfl ?_
        refine mm_iconst dX13_field_21 rfl ?_
        refine mm_istore dX13_field_22 rfl (Nat.le_of_ble_eq_true rfl) rfl ?_
        refine mm_iconst dX13_field_24 rfl ?_
        refine mm_istore dX13_field_25 rfl (Nat.le_of_ble_eq_true rfl) rfl ?_
        exact stands 0 (Nat.zero_le _) _ 1 (Or.inr rfl) ⟨fun _ a b _ _ h => absurd h (Nat.not_lt_zero a), fun _ => rfl⟩
    · have ek : k = 2 ^ n - 1 := by omega
      rw [hΦ]
      refine mm_iload_n dX13_field_9 rfl rfl ?_
      refine mm_iconst dX13_field_10 rfl ?_
      refine mm_aload_n dX13_field_11 rfl rfl ?_
      refine mm_get (kd := 0) dX13_field_12 rfl fl_X13_397 (c := 183) rfl (by decide) rfl rfl ?_
      obtain ⟨v12, hv12⟩ : ∃ v, v = N 183 88 := ⟨_, rfl⟩
      rw [← hv12]
      rw [fc] at hv12
      subst hv12
      refine mm_ishl dX13_field_15 rfl ?_
      rw [esh]
      refine mm_icge dX13_field_16 (by omega) (by omega) (fun h16 => ?_) (fun h16 => ?_)
      · refine mm_iload_n dX13_field_151 rfl rfl ?_
        refine mm_iret dX13_field_152 rfl rfl ?_
        exact ⟨by rw [ek], hRN, by rw [hN, ek]⟩
      · exfalso; omega
  refine mm_iconst dX13_field_0 rfl ?_
  refine mm_istore_n dX13_field_1 rfl (Nat.le_of_ble_eq_true rfl) rfl ?_
  refine mm_aload_n dX13_field_2 rfl rfl ?_
  refine mm_iconst dX13_field_3 rfl ?_
  refine mm_puti dX13_field_4 rfl fl_X13_400 (c := 183) rfl (by decide) rfl rfl (fun M4 hM4 => ?_)
  have hR4 : mm_Rf M4 := by rw [hM4]; exact hR.up rfl
  refine mm_iconst dX13_field_7 rfl ?_
  refine mm_istore_n dX13_field_8 rfl (Nat.le_of_ble_eq_true rfl) rfl ?_
  exact loop 0 (Nat.zero_le _) _ _ _ _ _ hR4 hM4
end
end
/-! 87.rstand -/
section
/-! ===== stand, of the reference ===== -/
section
variable {X : mm_X} {M : mm_M} {x y : Int} {n : Nat}
def kd_addR (M M' : mm_M) (x : Int) (y n : Nat) : Prop :=
  (∀ a, a ≠ 183 → a ≠ 216 → a ≠ 217 → a ≠ 218 → a ≠ 219 → a ≠ 226 → a ≠ 227 → a ≠ 228 → a ≠ 229 → M' a = M a) ∧ (∀ b, b ≠ 88 → b ≠ 89 → M' 183 b = M 183 b) ∧ M' 183 88 = (n : Int) + 1 ∧ M' 183 89 = 0 ∧
  (∀ b, b ≠ 6 + n → M' 216 b = M 216 b ∧ M' 217 b = M 217 b ∧ M' 218 b = M 218 b) ∧ M' 216 (6 + n) = M 216 y ∧ M' 217 (6 + n) = M 217 y ∧ M' 218 (6 + n) = M 218 y ∧ (∀ b, ¬ (100 * (6 + n) ≤ b ∧ b < 100 * (6 + n) + 100) → M' 219 b = M 219 b) ∧ (∀ j, j < 100 → M' 219 (100 * (6 + n) + j) = M 219 (100 * y + j)) ∧
  (∀ b, b ≠ n → M' 228 b = M 228 b) ∧ M' 228 n = x ∧ mm_RF M' (kd_mR M')
theorem kd_mR_congr {M N : mm_M} (h6 : N 216 = M 216) (h7 : N 217 = M 217) (h9 : N 219 = M 219) (h8 : N 228 = M 228) (hk : mm_rk N = mm_rk M) : kd_mR N = kd_mR M := by
  funext i j
  unfold kd_mR kl_S
  rw [h6, h7, h9, h8, hk]
theorem kl_ok_congr {M N : mm_M} (h6 : N 216 = M 216) (h7 : N 217 = M 217) (h9 : N 219 = M 219) (hk : mm_rk N = mm_rk M) {u : Nat} (h : kl_ok M u) : kl_ok N u := by
  unfold kl_ok kl_S at h ⊢
  rw [h6, h7, h9, hk]
  exact h
theorem kf_run_congr {K : Nat → Int} {s s' : Int} {A B : Nat → Int} (hs : s = s') : ∀ {n : Nat}, (∀ i, i < n → A i = B i) → kf_run K s A n = kf_run K s' B n
  | 0, _ => hs
  | n + 1, h => by unfold kf_run; rw [kf_run_congr hs (fun i hi => h i (by omega)), h n (by omega)]
set_option maxHeartbeats 4000000 in
theorem c_X13_stand1 (hR : mm_Rf M) (hK : mm_KV (mm_rk M)) (hF : mm_RF M (kd_mR M)) (hn : M 183 88 = (n : Int)) (hn8 : n < 8) (hx : 0 ≤ x ∧ x ≤ 40) (hy : 0 ≤ y ∧ y ≤ 5) (hok : kl_ok M y.toNat) (hpos : 0 < M 216 y.toNat) (hw : -75000000 ≤ M 218 y.toNat ∧ M 218 y.toNat ≤ 75000000) :
    mm_C X Y_X13_stand 243 243 [(2, 184), (0, x), (0, y)] M (fun r M' => r = (0, (n : Int)) ∧ mm_Rf M' ∧ mm_rg M M' ∧ kd_addR M M' x y.toNat n) := by
  have hG0 := mm_rg.rf M
  have hl := hok.1
  obtain ⟨Φ, hΦ⟩ : ∃ Φ : mm_V → mm_M → Prop, Φ = (fun r M' => r = (0, (n : Int)) ∧ mm_Rf M' ∧ mm_rg M M' ∧ kd_addR M M' x y.toNat n) := ⟨_, rfl⟩
  rw [← hΦ]
  refine mm_start (ls := [(2, 184), (0, x), (0, y), (9, 0), (9, 0)]) rfl ?_
  -- the pairs: P is the memory with the new loop in it
  have pairs : ∀ (P : mm_M), mm_rg M P → (∀ a, a ≠ 216 → a ≠ 217 → a ≠ 218 → a ≠ 219 → a ≠ 228 → P a = M a) → (∀ b, b ≠ 6 + n → P 216 b = M 216 b ∧ P 217 b = M 217 b ∧ P 218 b = M 218 b) → P 216 (6 + n) = M 216 y.toNat → P 217 (6 + n) = M 217 y.toNat → P 218 (6 + n) = M 218 y.toNat → (∀ b, ¬ (100 * (6 + n) ≤ b ∧ b < 100 * (6 + n) + 100) → P 219 b = M 219 b) → (∀ j, j < 100 → P 219 (100 * (6 + n) + j) = M 219 (100 * y.toNat + j)) → (∀ b, b ≠ n → P 228 b = M 228 b) → P 228 n = x →
      ∀ i : Nat, i ≤ n → ∀ N : mm_M, mm_Rf N → mm_rg M N → (∀ a, a ≠ 226 → a ≠ 227 → a ≠ 229 → N a = P a) → (∀ b, (∀ j, j < n → b ≠ 8 * j + n) → N 229 b = M 229 b) → (∀ j, j < i → (N 229 (8 * j + n) = 0 ∨ N 229 (8 * j + n) = 1) ∧ (N 229 (8 * j + n) = 1 ↔ kd_mR P j n)) →
      mm_J X Y_X13_stand 243 243 243 137 [(2, 184), (0, x), (0, y), (0, ((6 + n : Nat) : Int)), (0, (i : Int))] [] N Φ := by
    intro P hGP hPa hP6 hPm hPs hPw hP9 hP9n hP8 hP8n
    have kP : mm_rk P = mm_rk M := hGP.k
    have eS : ∀ i, i ≤ 100 → kl_S P (6 + n) i = kl_S M y.toNat i := by
      intro i hi
      unfold kl_S
      rw [kP]
      exact kf_run_congr hPs (fun k hk => hP9n k (by omega))
    have okn : kl_ok P (6 + n) := by
      obtain ⟨q1, q2, q3, q4⟩ := hok
      refine ⟨by rw [hPm]; exact q1, by rw [hPs]; exact q2, ?_, ?_⟩
      · intro i hi
        rw [hPm] at hi
        rw [hP9n i (by omega)]
        exact q3 i hi
      · intro i hi
        rw [hPm] at hi
        rw [eS i (by omega), kP]
        exact q4 i hi
    have eSo : ∀ j, j < n → ∀ i, i ≤ 100 → kl_S P (6 + j) i = kl_S M (6 + j) i := by
      intro j hj i hi
      unfold kl_S
      rw [kP]
      exact kf_run_congr (hP6 (6 + j) (by omega)).2.1 (fun k hk => hP9 _ (by omega))
    have oko : ∀ j, j < n → kl_ok P (6 + j) := by
      intro j hj
      obtain ⟨⟨⟨q1, q2, q3, q4⟩, q5⟩, q6, q7⟩ := hF.2.1 j (by omega)
      have e1 := (hP6 (6 + j) (by omega)).1
      refine ⟨by rw [e1]; exact q1, by rw [(hP6 (6 + j) (by omega)).2.1]; exact q2, ?_, ?_⟩
      · intro i hi
        rw [e1] at hi
        rw [hP9 _ (by omega)]
        exact q3 i hi
      · intro i hi
        rw [e1] at hi
        rw [eSo j hj i (by omega), kP]
        exact q4 i hi
    have eRo : ∀ j k, j < n → k < n → (kd_mR P j k ↔ kd_mR M j k) := by
      intro j k hj hk
      unfold kd_mR
      have a1 := (hF.2.1 j (by omega)).1
      have a2 := (hF.2.1 k (by omega)).1
      have b1 := a1.1.1
      have b2 := a2.1.1
      have c1 := a1.2
      have c2 := a2.2
      rw [(hP6 (6 + j) (by omega)).1, (hP6 (6 + k) (by omega)).1, hP8 j (by omega), hP8 k (by omega), kP, kn_ed, kn_ed, kn_d_congr (S' := kl_S M (6 + j)) (T' := kl_S M (6 + k)) (by omega) (by omega) (fun i hi => eSo j hj i (by omega)) (fun i hi => eSo k hk i (by omega))]
    refine mm_lp ?_
    intro i hi ih N hRN hG hfr h229 hm
    have f183 : N 183 = M 183 := (hfr 183 (by decide) (by decide) (by decide)).trans (hPa 183 (by decide) (by decide) (by decide) (by decide) (by decide))
    have fc : N 183 88 = (n : Int) := by rw [f183]; exact hn
    have f228 : N 228 = P 228 := hfr 228 (by decide) (by decide) (by decide)
    have f216 : N 216 = P 216 := hfr 216 (by decide) (by decide) (by decide)
    have f217 : N 217 = P 217 := hfr 217 (by decide) (by decide) (by decide)
    have f219 : N 219 = P 219 := hfr 219 (by decide) (by decide) (by decide)
    have kN : mm_rk N = mm_rk P := hG.k.trans kP.symm
    by_cases hlt : i < n
    · have q0 := (hF.2.1 i (by omega)).2.1
      have e8 : N 228 i = M 228 i := by rw [f228]; exact hP8 i (by omega)
      have cn := c_X13_leastApart (X := X) (M := N) (x := ((6 + i : Nat) : Int)) (y := M 228 i) (u := ((6 + n : Nat) : Int)) (v := x) (k := 0) hRN (by rw [hG.k]; exact hK) (by omega) (by omega) q0 hx (by decide) (by rw [Int.toNat_natCast]; exact kl_ok_congr f216 f217 f219 kN (oko i hlt)) (by rw [Int.toNat_natCast]; exact kl_ok_congr f216 f217 f219 kN okn)
        (by rw [Int.toNat_natCast, f216, (hP6 (6 + i) (by omega)).1]; exact (hF.2.1 i (by omega)).1.2) (by rw [Int.toNat_natCast, f216, hPm]; exact hpos)
      rw [Int.toNat_natCast, Int.toNat_natCast] at cn
      have em : kn_a 1000000 (kn_e (mm_rk N) (kl_S N (6 + i)) (kl_S N (6 + n)) (N 216 (6 + i)).toNat (N 216 (6 + n)).toNat (0 : Int).toNat (M 228 i) x) ((N 216 (6 + i)).toNat * (N 216 (6 + n)).toNat) < 2 ↔ kd_mR P i n := by
        rw [← kd_mR_congr f216 f217 f219 f228 kN]
        unfold kd_mR
        rw [f228, hP8 i (by omega), hP8n]
        rfl
      have hab := kn_ab (a := 1000000) (by decide) (fun t => (kn_eb (S := kl_S N (6 + i)) (T := kl_S N (6 + n)) (l := (N 216 (6 + i)).toNat) (m := (N 216 (6 + n)).toNat) (k := (0 : Int).toNat) (x := M 228 i) (y := x) (hG.k ▸ hK : mm_KV (mm_rk N)) q0 hx t).1) ((N 216 (6 + i)).toNat * (N 216 (6 + n)).toNat)
      obtain ⟨D, hD⟩ : ∃ D, D = kn_a 1000000 (kn_e (mm_rk N) (kl_S N (6 + i)) (kl_S N (6 + n)) (N 216 (6 + i)).toNat (N 216 (6 + n)).toNat (0 : Int).toNat (M 228 i) x) ((N 216 (6 + i)).toNat * (N 216 (6 + n)).toNat) := ⟨_, rfl⟩
      rw [← hD] at cn em hab
      have f6 : (6 : Int) + (i : Int) = ((6 + i : Nat) : Int) := by omega
      refine mm_iload dX13_stand_137 rfl rfl ?_
      refine mm_aload_n dX13_stand_139 rfl rfl ?_
      refine mm_get (kd := 0) dX13_stand_140 rfl fl_X13_397 (c := 183) rfl (by decide) rfl rfl ?_
      obtain ⟨v140, hv140⟩ : ∃ v, v = N 183 88 := ⟨_, rfl⟩
      rw [← hv140]
      rw [fc] at hv140
      subst hv140
      refine mm_icge dX13_stand_143 (by omega) (by omega) (fun h143 => ?_) (fun h143 => ?_)
      · exfalso; omega
      · refine mm_aload_n dX13_stand_146 rfl rfl ?_
        refine mm_getr dX13_stand_147 rfl fl_X13_337 (c := 183) rfl (by decide) rfl rfl (hRN.at (c := 183) (i := 91) (v := 230) rfl (by decide)) ?_
        refine mm_bipush dX13_stand_150 rfl (by decide) ?_
        refine mm_iload dX13_stand_152 rfl rfl ?_
        refine mm_imul dX13_stand_154 rfl ?_
        refine mm_aload_n dX13_stand_155 rfl rfl ?_
        refine mm_get (kd := 0) dX13_stand_156 rfl fl_X13_397 (c := 183) rfl (by decide) rfl rfl ?_
        obtain ⟨v156, hv156⟩ : ∃ v, v = N 183 88 := ⟨_, rfl⟩
        rw [← hv156]
        rw [fc] at hv156
        subst hv156
        refine mm_iadd dX13_stand_159 rfl ?_
        refine mm_aload_n dX13_stand_160 rfl rfl ?_
        refine mm_bipush dX13_stand_161 rfl (by decide) ?_
        refine mm_iload dX13_stand_163 rfl rfl ?_
        refine mm_iadd dX13_stand_165 rfl ?_
        refine mm_aload_n dX13_stand_166 rfl rfl ?_
        refine mm_getr dX13_stand_167 rfl fl_X13_334 (c := 183) rfl (by decide) rfl rfl (hRN.at (c := 183) (i := 90) (v := 229) rfl (by decide)) ?_
        refine mm_iload dX13_stand_170 rfl rfl ?_
        refine mm_ialk (k0 := i) dX13_stand_172 rfl (c := 228) rfl (by decide) rfl (by omega) (by omega) ?_
        rw [e8]
        refine mm_iload_n dX13_stand_173 rfl rfl ?_
        refine mm_iload_n dX13_stand_174 rfl rfl ?_
        refine mm_iconst dX13_stand_175 rfl ?_
        rw [f6]
        refine mm_V5g (M1 := N) dX13_stand_176 rfl lk_X13_698 (c := 183) rfl (by decide) rfl (by simp) (by simp) (by simp) (by simp) (by simp) rfl rfl rfl (cn) ?_
        rintro _ N176 ⟨rfl, p176⟩
        change mm_J _ _ _ _ _ _ _ _ _ _
        have hR176 : mm_Rf N176 := p176.1
        have hG176 : mm_rg M N176 := hG.tr p176.2.1
        refine mm_iconst dX13_stand_179 rfl ?_
        refine mm_icge_z (q2 := 188) dX13_stand_180 (by omega) (by omega) (fun k => mm_iconst dX13_stand_187 rfl k) (fun k => mm_iconst dX13_stand_183 rfl (mm_goto dX13_stand_184 k)) ?_
        refine mm_zstk (k0 := (8 * i + n)) dX13_stand_188 rfl (c := 229) rfl (by decide) rfl (by omega) (by omega) (mm_b_01 _) (fun M188 hM188 => ?_)
        have hR188 : mm_Rf M188 := by rw [hM188]; exact hR176.up (mm_rt_ar (t := 2) rfl (by decide))
        have hG188 : mm_rg M M188 := by rw [hM188]; exact hG176.upa (by decide)
        refine mm_iinc dX13_stand_189 rfl rfl (Nat.le_of_ble_eq_true rfl) rfl ?_
        refine mm_goto dX13_stand_192 ?_
        have u : ∀ a, a ≠ 229 → M188 a = N176 a := by intro a ha; funext b; simp [hM188, mm_up, ha]
        have u229 : ∀ b, b ≠ 8 * i + n → M188 229 b = N 229 b := by
          intro b hb
          simp [hM188, mm_up, hb]
          rw [p176.2.2 229 (by decide) (by decide)]
        refine ih hlt _ hR188 hG188 ?_ ?_ ?_
        · intro a a1 a2 a3; rw [u a a3, p176.2.2 a a1 a2]; exact hfr a a1 a2 a3
        · intro b hb; rw [u229 b (hb i hlt)]; exact h229 b hb
        · intro j hj
          by_cases q : j = i
          · have e9 : M188 229 (8 * j + n) = mm_b (D < 2) := by rw [q]; simp [hM188, mm_up]
            rw [e9, q, ← em]
            refine ⟨mm_b_01 _, ?_⟩
            unfold mm_b
            split <;> omega
          · rw [u229 _ (by omega)]; exact hm j (by omega)
    · rw [hΦ]
      refine mm_iload dX13_stand_137 rfl rfl ?_
      refine mm_aload_n dX13_stand_139 rfl rfl ?_
      refine mm_get (kd := 0) dX13_stand_140 rfl fl_X13_397 (c := 183) rfl (by decide) rfl rfl ?_
      obtain ⟨v140, hv140⟩ : ∃ v, v = N 183 88 := ⟨_, rfl⟩
      rw [← hv140]
      rw [fc] at hv140
      subst hv140
      refine mm_icge dX13_stand_143 (by omega) (by omega) (fun h143 => ?_) (fun h143 => ?_)
      · refine mm_aload_n dX13_stand_195 rfl rfl ?_
        refine mm_dup dX13_stand_196 rfl (by simp) ?_
        refine mm_get (kd := 0) dX13_stand_197 rfl fl_X13_397 (c := 183) rfl (by decide) rfl rfl ?_
        obtain ⟨v197, hv197⟩ : ∃ v, v = N 183 88 := ⟨_, rfl⟩
        rw [← hv197]
        rw [fc] at hv197
        subst hv197
        refine mm_iconst dX13_stand_200 rfl ?_
        refine mm_iadd dX13_stand_201 rfl ?_
        refine mm_puti dX13_stand_202 rfl fl_X13_397 (c := 183) rfl (by decide) rfl rfl (fun M202 hM202 => ?_)
        have hR202 : mm_Rf M202 := by rw [hM202]; exact hRN.up rfl
        have hG202 : mm_rg M M202 := by rw [hM202]; exact hG.up (by decide)
        refine mm_aload_n dX13_stand_205 rfl rfl ?_
        refine mm_iconst dX13_stand_206 rfl ?_
        refine mm_puti dX13_stand_207 rfl fl_X13_400 (c := 183) rfl (by decide) rfl rfl (fun M207 hM207 => ?_)
        have hR207 : mm_Rf M207 := by rw [hM207]; exact hR202.up rfl
        have hG207 : mm_rg M M207 := by rw [hM207]; exact hG202.up (by decide)
        refine mm_aload_n dX13_stand_210 rfl rfl ?_
        refine mm_get (kd := 0) dX13_stand_211 rfl fl_X13_397 (c := 183) rfl (by decide) rfl rfl ?_
        obtain ⟨v211, hv211⟩ : ∃ v, v = M207 183 88 := ⟨_, rfl⟩
        rw [← hv211]
        rw [hM207, mm_up_i (by decide), hM202, mm_up_s] at hv211
        subst hv211
        refine mm_iconst dX13_stand_214 rfl ?_
        refine mm_isub dX13_stand_215 rfl ?_
        refine mm_iret dX13_stand_216 rfl rfl ?_
        have u : ∀ a, a ≠ 183 → M207 a = N a := by intro a ha; funext b; simp [hM207, hM202, mm_up, ha]
        have uc : M207 183 88 = (n : Int) + 1 := by simp [hM207, hM202, mm_up]
        have kM : mm_rk M207 = mm_rk P := hG207.k.trans kP.symm
        have g216 : M207 216 = P 216 := (u 216 (by decide)).trans f216
        have g217 : M207 217 = P 217 := (u 217 (by decide)).trans f217
        have g218 : M207 218 = P 218 := (u 218 (by decide)).trans (hfr 218 (by decide) (by decide) (by decide))
        have g219 : M207 219 = P 219 := (u 219 (by decide)).trans f219
        have g228 : M207 228 = P 228 := (u 228 (by decide)).trans f228
        refine ⟨by simp [hM207, hM202, mm_up], hR207, hG207, ?_, ?_, uc, ?_, ?_, ?_, ?_, ?_, ?_, ?_, ?_, ?_, ?_⟩
        · intro a a1 a2 a3 a4 a5 a6 a7 a8 a9; rw [u a a1, hfr a a6 a7 a9]; exact hPa a a2 a3 a4 a5 a8
        · intro b b1 b2; simp [hM207, hM202, mm_up, b1, b2]; rw [f183]
        · simp [hM207, hM202, mm_up]
        · intro b hb; rw [g216, g217, g218]; exact hP6 b hb
        · rw [g216]; exact hPm
        · rw [g217]; exact hPs
        · rw [g218]; exact hPw
        · intro b hb; rw [g219]; exact hP9 b hb
        · intro j hj; rw [g219]; exact hP9n j hj
        · intro b hb; rw [g228]; exact hP8 b hb
        · rw [g228]; exact hP8n
        · refine ⟨by rw [uc]; omega, ?_, ?_⟩
          · intro j hj
            rw [uc] at hj
            by_cases q : j = n
            · rw [q, g216, g218, g228, hPm, hPw, hP8n]
              exact ⟨⟨kl_ok_congr g216 g217 g219 kM okn, hpos⟩, hx, hw⟩
            · have hj2 : j < n := by omega
              have := hF.2.1 j (by omega)
              rw [g216, g218, g228, (hP6 (6 + j) (by omega)).1, (hP6 (6 + j) (by omega)).2.2, hP8 j q]
              exact ⟨⟨kl_ok_congr g216 g217 g219 kM (oko j hj2), this.1.2⟩, this.2.1, this.2.2⟩
          · intro j k hjk hk
            rw [uc] at hk
            rw [kd_mR_congr g216 g217 g219 g228 kM, u 229 (by decide)]
            by_cases q : k = n
            · rw [q]; exact hm j (by omega)
            · have := hF.2.2 j k hjk (by omega)
              rw [h229 (8 * j + k) (fun l hl => by omega), eRo j k (by omega) (by omega)]
              exact this
      · exfalso; omega
  have e218 : mm_rk M = mm_rk M := rfl
  -- the acts are copied
  have copy : ∀ i : Nat, i ≤ 100 → ∀ N : mm_M, mm_Rf N → mm_rg M N → (∀ a, a ≠ 216 → a ≠ 217 → a ≠ 218 → a ≠ 219 → N a = M a) → (∀ b, b ≠ 6 + n → N 216 b = M 216 b ∧ N 217 b = M 217 b ∧ N 218 b = M 218 b) → N 216 (6 + n) = M 216 y.toNat → N 217 (6 + n) = M 217 y.toNat → N 218 (6 + n) = M 218 y.toNat → (∀ b, ¬ (100 * (6 + n) ≤ b ∧ b < 100 * (6 + n) + i) → N 219 b = M 219 b) → (∀ j, j < i → N 219 (100 * (6 + n) + j) = M 219 (100 * y.toNat + j)) →
      mm_J X Y_X13_stand 243 243 243 87 [(2, 184), (0, x), (0, y), (0, ((6 + n : Nat) : Int)), (0, (i : Int))] [] N Φ := by
    refine mm_lp ?_
    intro i hi ih N hRN hG hfr h6 h6m h6s h6w h9 h9n
    by_cases hlt : i < 100
    · have e1 := h9 (100 * y.toNat + i) (by omega)
      refine mm_iload dX13_stand_87 rfl rfl ?_
      refine mm_bipush dX13_stand_89 rfl (by decide) ?_
      refine mm_icge dX13_stand_91 (by omega) (by omega) (fun h91 => ?_) (fun h91 => ?_)
      · exfalso; omega
      · refine mm_aload_n dX13_stand_94 rfl rfl ?_
        refine mm_getr dX13_stand_95 rfl fl_X13_304 (c := 183) rfl (by decide) rfl rfl (hRN.at (c := 183) (i := 67) (v := 220) rfl (by decide)) ?_
        refine mm_bipush dX13_stand_98 rfl (by decide) ?_
        refine mm_iload_n dX13_stand_100 rfl rfl ?_
        refine mm_imul dX13_stand_101 rfl ?_
        refine mm_iload dX13_stand_102 rfl rfl ?_
        refine mm_iadd dX13_stand_104 rfl ?_
        refine mm_aload_n dX13_stand_105 rfl rfl ?_
        refine mm_getr dX13_stand_106 rfl fl_X13_304 (c := 183) rfl (by decide) rfl rfl (hRN.at (c := 183) (i := 67) (v := 220) rfl (by decide)) ?_
        refine mm_bipush dX13_stand_109 rfl (by decide) ?_
        refine mm_iload_n dX13_stand_111 rfl rfl ?_
        refine mm_imul dX13_stand_112 rfl ?_
        refine mm_iload dX13_stand_113 rfl rfl ?_
        refine mm_iadd dX13_stand_115 rfl ?_
        refine mm_ialk (k0 := (100 * y.toNat + i)) dX13_stand_116 rfl (c := 219) rfl (by decide) rfl (by omega) (by omega) ?_
        rw [e1]
        refine mm_istk (k0 := (100 * (6 + n) + i)) dX13_stand_117 rfl (c := 219) rfl (by decide) rfl (by omega) (by omega) (fun M117 hM117 => ?_)
        have hR117 : mm_Rf M117 := by rw [hM117]; exact hRN.up (mm_rt_ar (t := 0) rfl (by decide))
        have hG117 : mm_rg M M117 := by rw [hM117]; exact hG.upa (by decide)
        refine mm_iinc dX13_stand_118 rfl rfl (Nat.le_of_ble_eq_true rfl) rfl ?_
        refine mm_goto dX13_stand_121 ?_
        have u : ∀ a, a ≠ 219 → M117 a = N a := by intro a ha; funext b; simp [hM117, mm_up, ha]
        refine ih hlt _ hR117 hG117 ?_ ?_ ?_ ?_ ?_ ?_ ?_
        · intro a a1 a2 a3 a4; rw [u a a4]; exact hfr a a1 a2 a3 a4
        · intro b hb; rw [u 216 (by decide), u 217 (by decide), u 218 (by decide)]; exact h6 b hb
        · rw [u 216 (by decide)]; exact h6m
        · rw [u 217 (by decide)]; exact h6s
        · rw [u 218 (by decide)]; exact h6w
        · intro b hb
          have nb : b ≠ 100 * (6 + n) + i := by omega
          rw [hM117, mm_up_i nb]
          exact h9 b (by omega)
        · intro j hj
          by_cases q : j = i
          · rw [hM117, q, mm_up_s]
          · rw [hM117, mm_up_i (by omega)]; exact h9n j (by omega)
    · have f183 : N 183 = M 183 := hfr 183 (by decide) (by decide) (by decide) (by decide)
      have fc : N 183 88 = (n : Int) := by rw [f183]; exact hn
      refine mm_iload dX13_stand_87 rfl rfl ?_
      refine mm_bipush dX13_stand_89 rfl (by decide) ?_
      refine mm_icge dX13_stand_91 (by omega) (by omega) (fun h91 => ?_) (fun h91 => ?_)
      · refine mm_aload_n dX13_stand_124 rfl rfl ?_
        refine mm_getr dX13_stand_125 rfl fl_X13_334 (c := 183) rfl (by decide) rfl rfl (hRN.at (c := 183) (i := 90) (v := 229) rfl (by decide)) ?_
        refine mm_aload_n dX13_stand_128 rfl rfl ?_
        refine mm_get (kd := 0) dX13_stand_129 rfl fl_X13_397 (c := 183) rfl (by decide) rfl rfl ?_
        obtain ⟨v129, hv129⟩ : ∃ v, v = N 183 88 := ⟨_, rfl⟩
        rw [← hv129]
        rw [fc] at hv129
        subst hv129
        refine mm_iload_n dX13_stand_132 rfl rfl ?_
        refine mm_istk (k0 := n) dX13_stand_133 rfl (c := 228) rfl (by decide) rfl (by omega) (by omega) (fun M133 hM133 => ?_)
        have hR133 : mm_Rf M133 := by rw [hM133]; exact hRN.up (mm_rt_ar (t := 0) rfl (by decide))
        have hG133 : mm_rg M M133 := by rw [hM133]; exact hG.upa (by decide)
        refine mm_iconst dX13_stand_134 rfl ?_
        refine mm_istore dX13_stand_135 rfl (Nat.le_of_ble_eq_true rfl) rfl ?_
        have u : ∀ a, a ≠ 228 → M133 a = N a := by intro a ha; funext b; simp [hM133, mm_up, ha]
        refine pairs M133 hG133 ?_ ?_ ?_ ?_ ?_ ?_ ?_ ?_ ?_ 0 (Nat.zero_le _) M133 hR133 hG133 (fun _ _ _ _ => rfl) ?_ (fun j hj => absurd hj (Nat.not_lt_zero j))
        · intro a a1 a2 a3 a4 a5; rw [u a a5]; exact hfr a a1 a2 a3 a4
        · intro b hb; rw [u 216 (by decide), u 217 (by decide), u 218 (by decide)]; exact h6 b hb
        · rw [u 216 (by decide)]; exact h6m
        · rw [u 217 (by decide)]; exact h6s
        · rw [u 218 (by decide)]; exact h6w
        · intro b hb; rw [u 219 (by decide)]; exact h9 b (by omega)
        · intro j hj; rw [u 219 (by decide)]; exact h9n j (by omega)
        · intro b hb; rw [hM133, mm_up_i hb, hfr 228 (by decide) (by decide) (by decide) (by decide)]
        · rw [hM133, mm_up_s]
        · intro b hb; rw [u 229 (by decide), hfr 229 (by decide) (by decide) (by decide) (by decide)]
      · exfalso; omega
  have f6 : (6 : Int) + (n : Int) = ((6 + n : Nat) : Int) := by omega
  refine mm_iload_n dX13_stand_0 rfl rfl ?_
  refine mm_S1i dX13_stand_1 rfl lk_X13_693 (by simp) rfl rfl rfl (c_X13_isSite (by omega)) ?_
  refine mm_ifeqb dX13_stand_4 (fun h4 => ?_) (fun h4 => ?_)
  · exact absurd hx h4
  · refine mm_iload_n dX13_stand_7 rfl rfl ?_
    refine mm_S1i dX13_stand_8 rfl lk_X13_629 (by simp) rfl rfl rfl (c_X13_isSlot (by omega)) ?_
    refine mm_ifneb dX13_stand_11 (fun h11 => ?_) (fun h11 => ?_)
    · refine mm_aload_n dX13_stand_17 rfl rfl ?_
      refine mm_iload_n dX13_stand_18 rfl rfl ?_
      refine mm_V1i dX13_stand_19 rfl lk_X13_673 (c := 183) rfl (by decide) rfl (by simp) rfl rfl rfl (c_X13_isKept hR (by omega) (by omega)) ?_
      refine mm_ifneb dX13_stand_22 (fun h22 => ?_) (fun h22 => ?_)
      · refine mm_aload_n dX13_stand_28 rfl rfl ?_
        refine mm_get (kd := 0) dX13_stand_29 rfl fl_X13_397 (c := 183) rfl (by decide) rfl rfl ?_
        obtain ⟨v29, hv29⟩ : ∃ v, v = M 183 88 := ⟨_, rfl⟩
        rw [← hv29]
        rw [hn] at hv29
        subst hv29
        refine mm_bipush dX13_stand_32 rfl (by decide) ?_
        refine mm_icne dX13_stand_34 (by omega) (by omega) (fun h34 => ?_) (fun h34 => ?_)
        · refine mm_bipush dX13_stand_40 rfl (by decide) ?_
          refine mm_aload_n dX13_stand_42 rfl rfl ?_
          refine mm_get (kd := 0) dX13_stand_43 rfl fl_X13_397 (c := 183) rfl (by decide) rfl rfl ?_
          obtain ⟨v43, hv43⟩ : ∃ v, v = M 183 88 := ⟨_, rfl⟩
          rw [← hv43]
          rw [hn] at hv43
          subst hv43
          refine mm_iadd dX13_stand_46 rfl ?_
          rw [f6]
          refine mm_istore_n dX13_stand_47 rfl (Nat.le_of_ble_eq_true rfl) rfl ?_
          refine mm_aload_n dX13_stand_48 rfl rfl ?_
          refine mm_getr dX13_stand_49 rfl fl_X13_295 (c := 183) rfl (by decide) rfl rfl (hR.at (c := 183) (i := 64) (v := 217) rfl (by decide)) ?_
          refine mm_iload_n dX13_stand_52 rfl rfl ?_
          refine mm_aload_n dX13_stand_53 rfl rfl ?_
          refine mm_getr dX13_stand_54 rfl fl_X13_295 (c := 183) rfl (by decide) rfl rfl (hR.at (c := 183) (i := 64) (v := 217) rfl (by decide)) ?_
          refine mm_iload_n dX13_stand_57 rfl rfl ?_
          refine mm_ialk (k0 := y.toNat) dX13_stand_58 rfl (c := 216) rfl (by decide) rfl (by omega) (by omega) ?_
          refine mm_istk (k0 := (6 + n)) dX13_stand_59 rfl (c := 216) rfl (by decide) rfl (by omega) (by omega) (fun M59 hM59 => ?_)
          have hR59 : mm_Rf M59 := by rw [hM59]; exact hR.up (mm_rt_ar (t := 0) rfl (by decide))
          have hG59 : mm_rg M M59 := by rw [hM59]; exact hG0.upa (by decide)
          refine mm_aload_n dX13_stand_60 rfl rfl ?_
          refine mm_getr dX13_stand_61 rfl fl_X13_298 (c := 183) rfl (by decide) rfl rfl (hR59.at (c := 183) (i := 65) (v := 218) rfl (by decide)) ?_
          refine mm_iload_n dX13_stand_64 rfl rfl ?_
          refine mm_aload_n dX13_stand_65 rfl rfl ?_
          refine mm_getr dX13_stand_66 rfl fl_X13_298 (c := 183) rfl (by decide) rfl rfl (hR59.at (c := 183) (i := 65) (v := 218) rfl (by decide)) ?_
          refine mm_iload_n dX13_stand_69 rfl rfl ?_
          refine mm_ialk (k0 := y.toNat) dX13_stand_70 rfl (c := 217) rfl (by decide) rfl (by omega) (by omega) ?_
          rw [show M59 217 = M 217 from by rw [hM59, mm_up_row (by decide)]]
          refine mm_istk (k0 := (6 + n)) dX13_stand_71 rfl (c := 217) rfl (by decide) rfl (by omega) (by omega) (fun M71 hM71 => ?_)
          have hR71 : mm_Rf M71 := by rw [hM71]; exact hR59.up (mm_rt_ar (t := 0) rfl (by decide))
          have hG71 : mm_rg M M71 := by rw [hM71]; exact hG59.upa (by decide)
          refine mm_aload_n dX13_stand_72 rfl rfl ?_
          refine mm_getr dX13_stand_73 rfl fl_X13_301 (c := 183) rfl (by decide) rfl rfl (hR71.at (c := 183) (i := 66) (v := 219) rfl (by decide)) ?_
          refine mm_iload_n dX13_stand_76 rfl rfl ?_
          refine mm_aload_n dX13_stand_77 rfl rfl ?_
          refine mm_getr dX13_stand_78 rfl fl_X13_301 (c := 183) rfl (by decide) rfl rfl (hR71.at (c := 183) (i := 66) (v := 219) rfl (by decide)) ?_
          refine mm_iload_n dX13_stand_81 rfl rfl ?_
          refine mm_ialk (k0 := y.toNat) dX13_stand_82 rfl (c := 218) rfl (by decide) rfl (by omega) (by omega) ?_
          rw [show M71 218 = M 218 from by rw [hM71, mm_up_row (by decide), hM59, mm_up_row (by decide)]]
          refine mm_istk (k0 := (6 + n)) dX13_stand_83 rfl (c := 218) rfl (by decide) rfl (by omega) (by omega) (fun M83 hM83 => ?_)
          have hR83 : mm_Rf M83 := by rw [hM83]; exact hR71.up (mm_rt_ar (t := 0) rfl (by decide))
          have hG83 : mm_rg M M83 := by rw [hM83]; exact hG71.upa (by decide)
          refine mm_iconst dX13_stand_84 rfl ?_
          refine mm_istore dX13_stand_85 rfl (Nat.le_of_ble_eq_true rfl) rfl ?_
          refine copy 0 (by decide) _ hR83 hG83 ?_ ?_ ?_ ?_ ?_ ?_ (fun j hj => absurd hj (Nat.not_lt_zero j))
          · intro a a1 a2 a3 a4; funext b; simp [hM83, hM71, hM59, mm_up, a1, a2, a3]
          · intro b hb; simp [hM83, hM71, hM59, mm_up, hb]
          · simp [hM83, hM71, hM59, mm_up]
          · simp [hM83, hM71, hM59, mm_up]
          · simp [hM83, hM71, hM59, mm_up]
          · intro b hb; simp [hM83, hM71, hM59, mm_up]
        · exfalso; omega
      · exact absurd hpos h22
    · exact absurd hy h11
theorem c_X13_stand0 (hR : mm_Rf M) (hx : mm_R x) (hy : mm_R y) (hc : 0 ≤ M 183 88 ∧ M 183 88 ≤ 8) (hl : ∀ k : Nat, k < 6 → kl_ok M k) (hno : ¬ (((0 ≤ x ∧ x ≤ 40) ∧ 0 ≤ y ∧ y ≤ 5) ∧ 0 < M 216 y.toNat ∧ M 183 88 < 8)) :
    mm_Fn X Y_X13_stand 243 [(2, 184), (0, x), (0, y)] M (0, if (0 ≤ x ∧ x ≤ 40) ∧ 0 ≤ y ∧ y ≤ 5 then (if 0 < M 216 y.toNat then -3 else -4) else -2) M := by
  refine mm_startF (ls := [(2, 184), (0, x), (0, y), (9, 0), (9, 0)]) rfl ?_
  refine mm_iload_n dX13_stand_0 rfl rfl ?_
  refine mm_S1i dX13_stand_1 rfl lk_X13_693 (by simp) rfl rfl rfl (c_X13_isSite (by omega)) ?_
  refine mm_ifeqb dX13_stand_4 (fun h4 => ?_) (fun h4 => ?_)
  · refine mm_bipush dX13_stand_14 rfl (by decide) ?_
    refine mm_iret dX13_stand_16 rfl rfl ?_
    exact mm_fin (by rw [if_neg (by omega)]) rfl
  · refine mm_iload_n dX13_stand_7 rfl rfl ?_
    refine mm_S1i dX13_stand_8 rfl lk_X13_629 (by simp) rfl rfl rfl (c_X13_isSlot (by omega)) ?_
    refine mm_ifneb dX13_stand_11 (fun h11 => ?_) (fun h11 => ?_)
    · refine mm_aload_n dX13_stand_17 rfl rfl ?_
      refine mm_iload_n dX13_stand_18 rfl rfl ?_
      refine mm_V1i dX13_stand_19 rfl lk_X13_673 (c := 183) rfl (by decide) rfl (by simp) rfl rfl rfl (c_X13_isKept hR (by omega) (by have := (hl y.toNat (by omega)).1; omega)) ?_
      refine mm_ifneb dX13_stand_22 (fun h22 => ?_) (fun h22 => ?_)
      · refine mm_aload_n dX13_stand_28 rfl rfl ?_
        refine mm_get (kd := 0) dX13_stand_29 rfl fl_X13_397 (c := 183) rfl (by decide) rfl rfl ?_
        refine mm_bipush dX13_stand_32 rfl (by decide) ?_
        refine mm_icne dX13_stand_34 (by omega) (by omega) (fun h34 => ?_) (fun h34 => ?_)
        · exact absurd ⟨⟨h4, h11⟩, h22, by omega⟩ hno
        · refine mm_bipush dX13_stand_37 rfl (by decide) ?_
          refine mm_iret dX13_stand_39 rfl rfl ?_
          exact mm_fin (by rw [if_pos (by omega), if_pos h22]) rfl
      · refine mm_bipush dX13_stand_25 rfl (by decide) ?_
        refine mm_iret dX13_stand_27 rfl rfl ?_
        exact mm_fin (by rw [if_pos (by omega), if_neg h22]) rfl
    · refine mm_bipush dX13_stand_14 rfl (by decide) ?_
      refine mm_iret dX13_stand_16 rfl rfl ?_
      exact mm_fin (by rw [if_neg (by omega)]) rfl
end
end
/-! 88.fit -/
section
/-! ===== fit ===== -/
/-- of the first n the last that is ok, or d -/
def kg_last {α : Type} (ok : Nat → Bool) (v : Nat → α) (d : α) : Nat → α
  | 0 => d
  | n + 1 => if ok n = true then v n else kg_last ok v d n
theorem kg_last_map {α β : Type} {ok : Nat → Bool} {v : Nat → α} {d : α} (f : α → β) : ∀ {n : Nat}, f (kg_last ok v d n) = kg_last ok (fun i => f (v i)) (f d) n
  | 0 => rfl
  | n + 1 => by
    unfold kg_last
    by_cases h : ok n = true
    · rw [if_pos h, if_pos h]
    · rw [if_neg h, if_neg h]; exact kg_last_map f
theorem kg_last_P {α : Type} {ok : Nat → Bool} {v : Nat → α} {d : α} {P : α → Prop} : ∀ {n : Nat}, P d → (∀ i, i < n → P (v i)) → P (kg_last ok v d n)
  | 0, h, _ => h
  | n + 1, h, k => by
    unfold kg_last
    split
    · exact k n (by omega)
    · exact kg_last_P h (fun i hi => k i (by omega))
theorem kg_last_congr {α : Type} {ok ok' : Nat → Bool} {v v' : Nat → α} {d d' : α} (hd : d = d') : ∀ {n : Nat}, (∀ i, i < n → ok i = ok' i ∧ v i = v' i) → kg_last ok v d n = kg_last ok' v' d' n
  | 0, _ => hd
  | n + 1, h => by
    unfold kg_last
    rw [(h n (by omega)).1, (h n (by omega)).2, kg_last_congr hd (fun i hi => h i (by omega))]
/-- which rightings of reading k are known at step t -/
def kg_ok (O A : Nat → Int) (k t : Int) (i : Nat) : Bool := decide (O i = k ∧ A i ≤ t)
/-- a set of shares, as bits -/
def kg_set (P : Nat → Prop) (F : Nat) : Prop := F < 2 ^ 21 ∧ ∀ q, q < 21 → (F.testBit q = true ↔ P q)
theorem kg_set_u {P Q : Nat → Prop} {F G : Nat} (h : kg_set P F) (k : kg_set Q G) (e : ∀ q, q < 21 → (P q ↔ Q q)) : F = G := by
  apply Nat.eq_of_testBit_eq
  intro q
  by_cases hq : q < 21
  · have a := h.2 q hq
    have b := k.2 q hq
    rw [e q hq, ← b] at a
    exact Bool.eq_iff_iff.mpr a
  · rw [Nat.testBit_lt_two_pow (Nat.lt_of_lt_of_le h.1 (Nat.pow_le_pow_right (by decide) (by omega))), Nat.testBit_lt_two_pow (Nat.lt_of_lt_of_le k.1 (Nat.pow_le_pow_right (by decide) (by omega)))]
/-- the readings of the class -/
def mm_CG (M : mm_M) : Prop := (0 ≤ M 174 2 ∧ M 174 2 ≤ 30) ∧ (0 ≤ M 174 3 ∧ M 174 3 ≤ 20) ∧
  (∀ k : Nat, (k : Int) < M 174 2 → (ks_st (M 4) (M 176 k) ∧ ks_ac (M 4) (M 177 k) ∧ ks_hr (M 178 k)) ∧ mm_R (M 175 k) ∧ mm_R (M 179 k) ∧ mm_R (M 180 k)) ∧
  (∀ i : Nat, (i : Int) < M 174 3 → mm_R (M 182 i) ∧ mm_R (M 181 i) ∧ mm_R (M 179 (30 + i)) ∧ mm_R (M 180 (30 + i)))
/-- the pull of reading k with share q -/
def kg_pC (M : mm_M) (k q : Nat) : Int := ks_p (M 4) (M 176 k) (M 177 k) (ks_wi (M 16) (M 4) (M 176 k) (M 178 k) * (q : Int) / 10)
def kg_ix (M : mm_M) (k : Nat) (t : Int) : Nat := kg_last (kg_ok (M 182) (M 181) k t) (fun i => 30 + i) k (M 174 3).toNat
/-- the shares that fit, of the class -/
def kg_fC (M : mm_M) (t : Int) (q : Nat) : Prop := ∀ k : Nat, (k : Int) < M 174 2 → M 175 k ≤ t → M 179 (kg_ix M k t) ≤ kg_pC M k q ∧ kg_pC M k q ≤ M 180 (kg_ix M k t)
theorem ks_pwb {K : Nat → Int} (h : mm_KV K) {s a w q : Int} (ha : ks_ac K a) (hw : 0 ≤ w ∧ w ≤ 60) (hq : 0 ≤ q ∧ q ≤ 20) : 0 ≤ ks_p K s a (w * q / 10) ∧ ks_p K s a (w * q / 10) ≤ 5702400 := by
  have hc := ks_colb h s
  have hsl := ks_slb h ha
  have h0 := h.1
  have hm := mm_mulb (a := w) (b := q) (A := 60) (B := 20) hw.1 hw.2 hq.1 hq.2
  unfold ks_p
  exact ks_pb h ⟨hsl.1, hsl.2.2⟩ (by omega) (by omega)
section
variable {X : mm_X} {M : mm_M} {t : Int} {k sp : Nat}
theorem c_X7_spanOf (hR : mm_Rf M) (hG : mm_CG M) (hk : k < 30) (ht : mm_R t) : mm_Fn X Y_X7_spanOf 243 [(2, 175), (0, (k : Int)), (0, t)] M (0, (kg_ix M k t : Int)) M := by
  have hr := hG.2.1
  refine mm_startF (ls := [(2, 175), (0, (k : Int)), (0, t), (9, 0)]) rfl ?_
  have loop : ∀ i : Nat, i ≤ (M 174 3).toNat → kg_last (kg_ok (M 182) (M 181) k t) (fun i => 30 + i) k i = kg_ix M k t → mm_J X Y_X7_spanOf 243 243 243 7 [(2, 175), (0, (k : Int)), (0, t), (0, (i : Int) - 1)] [] M (fun r' M'' => r' = (0, (kg_ix M k t : Int)) ∧ M'' = M) := by
    intro i
    induction i with
    | zero =>
      intro hi he
      refine mm_iload_n dX7_spanOf_7 rfl rfl ?_
      refine mm_iflt dX7_spanOf_8 (by omega) (fun h8 => ?_) (fun h8 => ?_)
      · refine mm_iload_n dX7_spanOf_42 rfl rfl ?_
        refine mm_iret dX7_spanOf_43 rfl rfl ?_
        exact mm_fin (by rw [← he]; rfl) rfl
      · exfalso; omega
    | succ i ih =>
      intro hi he
      have hq := hG.2.2.2 i (by omega)
      have hq1 := hq.1
      have hq2 := hq.2.1
      rw [kg_last] at he
      rw [show ((i + 1 : Nat) : Int) - 1 = (i : Int) by omega]
      refine mm_iload_n dX7_spanOf_7 rfl rfl ?_
      refine mm_iflt dX7_spanOf_8 (by omega) (fun h8 => ?_) (fun h8 => ?_)
      · exfalso; omega
      · refine mm_aload_n dX7_spanOf_11 rfl rfl ?_
        refine mm_getr dX7_spanOf_12 rfl fl_X7_33 (c := 174) rfl (by decide) rfl rfl (hR.at (c := 174) (i := 12) (v := 183) rfl (by decide)) ?_
        refine mm_iload_n dX7_spanOf_15 rfl rfl ?_
        refine mm_ialk (k0 := i) dX7_spanOf_16 rfl (c := 182) rfl (by decide) rfl (by omega) (by omega) ?_
        refine mm_iload_n dX7_spanOf_17 rfl rfl ?_
        refine mm_icne dX7_spanOf_18 (by omega) (by omega) (fun h18 => ?_) (fun h18 => ?_)
        · refine mm_iinc dX7_spanOf_36 rfl rfl (Nat.le_of_ble_eq_true rfl) rfl ?_
          refine mm_goto dX7_spanOf_39 ?_
          rw [if_neg (by unfold kg_ok; intro z; have := of_decide_eq_true z; omega)] at he
          exact ih (by omega) he
        · refine mm_aload_n dX7_spanOf_21 rfl rfl ?_
          refine mm_getr dX7_spanOf_22 rfl fl_X7_30 (c := 174) rfl (by decide) rfl rfl (hR.at (c := 174) (i := 11) (v := 182) rfl (by decide)) ?_
          refine mm_iload_n dX7_spanOf_25 rfl rfl ?_
          refine mm_ialk (k0 := i) dX7_spanOf_26 rfl (c := 181) rfl (by decide) rfl (by omega) (by omega) ?_
          refine mm_iload_n dX7_spanOf_27 rfl rfl ?_
          refine mm_icgt dX7_spanOf_28 (by omega) (by omega) (fun h28 => ?_) (fun h28 => ?_)
          · refine mm_iinc dX7_spanOf_36 rfl rfl (Nat.le_of_ble_eq_true rfl) rfl ?_
            refine mm_goto dX7_spanOf_39 ?_
            rw [if_neg (by unfold kg_ok; intro z; have := of_decide_eq_true z; omega)] at he
            exact ih (by omega) he
          · refine mm_bipush dX7_spanOf_31 rfl (by decide) ?_
            refine mm_iload_n dX7_spanOf_33 rfl rfl ?_
            refine mm_iadd dX7_spanOf_34 rfl ?_
            refine mm_iret dX7_spanOf_35 rfl rfl ?_
            rw [if_pos (by unfold kg_ok; exact decide_eq_true ⟨h18, by omega⟩)] at he
            exact mm_fin (by rw [← he]; omega) rfl
  refine mm_aload_n dX7_spanOf_0 rfl rfl ?_
  refine mm_get (kd := 0) dX7_spanOf_1 rfl fl_X7_48 (c := 174) rfl (by decide) rfl rfl ?_
  refine mm_iconst dX7_spanOf_4 rfl ?_
  refine mm_isub dX7_spanOf_5 rfl ?_
  refine mm_istore_n dX7_spanOf_6 rfl (Nat.le_of_ble_eq_true rfl) rfl ?_
  have := loop (M 174 3).toNat (Nat.le_refl _) rfl
  rw [Int.toNat_of_nonneg hr.1] at this
  exact this
theorem c_X7_sharesOf (hR : mm_Rf M) (hK : mm_CK M) (hA : mm_CA M) (hG : mm_CG M) (hk : (k : Int) < M 174 2) (hsp : sp < 50) (hlo : mm_R (M 179 sp)) (hhi : mm_R (M 180 sp)) :
    mm_C X Y_X7_sharesOf 243 243 [(2, 175), (0, (k : Int)), (0, (sp : Int))] M (fun r M' => ∃ F : Nat, r = (0, (F : Int)) ∧ mm_Rf M' ∧ M' = M ∧ kg_set (fun q => M 179 sp ≤ kg_pC M k q ∧ kg_pC M k q ≤ M 180 sp) F) := by
  have hc := hG.1
  obtain ⟨⟨g1, g2, g3⟩, -⟩ := hG.2.2.1 k hk
  have hwb := hA.wi hK.1 g1 g3
  refine mm_start (ls := [(2, 175), (0, (k : Int)), (0, (sp : Int)), (9, 0), (9, 0), (9, 0)]) rfl ?_
  have loop : ∀ i : Nat, i ≤ 21 → ∀ (F : Nat) (l5 : mm_V), F < 2 ^ 21 → (∀ q, q < 21 → (F.testBit q = true ↔ q < i ∧ (M 179 sp ≤ kg_pC M k q ∧ kg_pC M k q ≤ M 180 sp))) →
      mm_J X Y_X7_sharesOf 243 243 243 5 [(2, 175), (0, (k : Int)), (0, (sp : Int)), (0, (F : Int)), (0, (i : Int)), l5] [] M (fun r M' => ∃ F : Nat, r = (0, (F : Int)) ∧ mm_Rf M' ∧ M' = M ∧ kg_set (fun q => M 179 sp ≤ kg_pC M k q ∧ kg_pC M k q ≤ M 180 sp) F) := by
    refine mm_lp ?_
    intro i hi ih F l5 hF hb
    by_cases hlt : i < 21
    · have hp := ks_pwb hK.1 (s := M 176 k) (q := (i : Int)) g2 hwb.1 (by omega)
      have ep : ks_p (M 4) (M 176 k) (M 177 k) (ks_wi (M 16) (M 4) (M 176 k) (M 178 k) * (i : Int) / 10) = kg_pC M k i := rfl
      rw [ep] at hp
      have sh := kx_shl i (by omega)
      have pi : 2 ^ i < 2 ^ 21 := Nat.pow_lt_pow_right (by decide) hlt
      have orr := kx_or (a := F) (b := 2 ^ i) (by omega) (by omega)
      refine mm_iload dX7_sharesOf_5 rfl rfl ?_
      refine mm_bipush dX7_sharesOf_7 rfl (by decide) ?_
      refine mm_icgt dX7_sharesOf_9 (by omega) (by omega) (fun h9 => ?_) (fun h9 => ?_)
      · exfalso; omega
      · refine mm_aload_n dX7_sharesOf_12 rfl rfl ?_
        refine mm_getr dX7_sharesOf_13 rfl fl_X7_40 (c := 174) rfl (by decide) rfl rfl (hR.at (c := 174) (i := 1) (v := 12) rfl (by decide)) ?_
        refine mm_aload_n dX7_sharesOf_16 rfl rfl ?_
        refine mm_getr dX7_sharesOf_17 rfl fl_X7_15 (c := 174) rfl (by decide) rfl rfl (hR.at (c := 174) (i := 6) (v := 177) rfl (by decide)) ?_
        refine mm_iload_n dX7_sharesOf_20 rfl rfl ?_
        refine mm_ialk (k0 := k) dX7_sharesOf_21 rfl (c := 176) rfl (by decide) rfl (by omega) (by omega) ?_
        refine mm_aload_n dX7_sharesOf_22 rfl rfl ?_
        refine mm_getr dX7_sharesOf_23 rfl fl_X7_18 (c := 174) rfl (by decide) rfl rfl (hR.at (c := 174) (i := 7) (v := 178) rfl (by decide)) ?_
        refine mm_iload_n dX7_sharesOf_26 rfl rfl ?_
        refine mm_ialk (k0 := k) dX7_sharesOf_27 rfl (c := 177) rfl (by decide) rfl (by omega) (by omega) ?_
        refine mm_aload_n dX7_sharesOf_28 rfl rfl ?_
        refine mm_getr dX7_sharesOf_29 rfl fl_X7_21 (c := 174) rfl (by decide) rfl rfl (hR.at (c := 174) (i := 8) (v := 179) rfl (by decide)) ?_
        refine mm_iload_n dX7_sharesOf_32 rfl rfl ?_
        refine mm_ialk (k0 := k) dX7_sharesOf_33 rfl (c := 178) rfl (by decide) rfl (by omega) (by omega) ?_
        refine mm_iload dX7_sharesOf_34 rfl rfl ?_
        refine mm_V4i dX7_sharesOf_36 rfl lk_X7_62 (c := 11) rfl (by decide) rfl (by simp) (by simp) (by simp) (by simp) rfl rfl rfl ((ep ▸ c_X0_sharedPull hR hK hA g1 g2 g3 (by omega))) ?_
        refine mm_istore dX7_sharesOf_39 rfl (Nat.le_of_ble_eq_true rfl) rfl ?_
        refine mm_iload dX7_sharesOf_41 rfl rfl ?_
        refine mm_aload_n dX7_sharesOf_43 rfl rfl ?_
        refine mm_getr dX7_sharesOf_44 rfl fl_X7_24 (c := 174) rfl (by decide) rfl rfl (hR.at (c := 174) (i := 9) (v := 180) rfl (by decide)) ?_
        refine mm_iload_n dX7_sharesOf_47 rfl rfl ?_
        refine mm_ialk (k0 := sp) dX7_sharesOf_48 rfl (c := 179) rfl (by decide) rfl (by omega) (by omega) ?_
        refine mm_aload_n dX7_sharesOf_49 rfl rfl ?_
        refine mm_getr dX7_sharesOf_50 rfl fl_X7_27 (c := 174) rfl (by decide) rfl rfl (hR.at (c := 174) (i := 10) (v := 181) rfl (by decide)) ?_
        refine mm_iload_n dX7_sharesOf_53 rfl rfl ?_
        refine mm_ialk (k0 := sp) dX7_sharesOf_54 rfl (c := 180) rfl (by decide) rfl (by omega) (by omega) ?_
        refine mm_N3i dX7_sharesOf_55 rfl ln_X7_68 (by simp) (by simp) (by simp) rfl rfl rfl (c_X11_isWithin (by omega) hlo hhi) ?_
        refine mm_ifeqb dX7_sharesOf_58 (fun h58 => ?_) (fun h58 => ?_)
        · refine mm_iinc dX7_sharesOf_68 rfl rfl (Nat.le_of_ble_eq_true rfl) rfl ?_
          refine mm_goto dX7_sharesOf_71 ?_
          first
          | (refine ih hlt (F ||| 2 ^ i) _ (Nat.or_lt_two_pow hF pi) (fun q hq => ?_)
             rw [Nat.testBit_or, Nat.testBit_two_pow, Bool.or_eq_true, hb q hq, decide_eq_true_iff]
             constructor
             · rintro (⟨z1, z2⟩ | z)
               · exact ⟨by omega, z2⟩
               · rw [← z]; exact ⟨by omega, h58⟩
             · rintro ⟨z1, z2⟩
               by_cases y : i = q
               · exact Or.inr y
               · exact Or.inl ⟨by omega, z2⟩)
          | (refine ih hlt F _ hF (fun q hq => ?_)
             rw [hb q hq]
             constructor
             · rintro ⟨z1, z2⟩; exact ⟨by omega, z2⟩
             · rintro ⟨z1, z2⟩
               by_cases y : q = i
               · rw [y] at z2; exact absurd z2 h58
               · exact ⟨by omega, z2⟩)
        · refine mm_iload_n dX7_sharesOf_61 rfl rfl ?_
          refine mm_iconst dX7_sharesOf_62 rfl ?_
          refine mm_iload dX7_sharesOf_63 rfl rfl ?_
          refine mm_ishl dX7_sharesOf_65 rfl ?_
          rw [sh]
          refine mm_ior dX7_sharesOf_66 rfl ?_
          rw [orr]
          refine mm_istore_n dX7_sharesOf_67 rfl (Nat.le_of_ble_eq_true rfl) rfl ?_
          refine mm_iinc dX7_sharesOf_68 rfl rfl (Nat.le_of_ble_eq_true rfl) rfl ?_
          refine mm_goto dX7_sharesOf_71 ?_
          first
          | (refine ih hlt (F ||| 2 ^ i) _ (Nat.or_lt_two_pow hF pi) (fun q hq => ?_)
             rw [Nat.testBit_or, Nat.testBit_two_pow, Bool.or_eq_true, hb q hq, decide_eq_true_iff]
             constructor
             · rintro (⟨z1, z2⟩ | z)
               · exact ⟨by omega, z2⟩
               · rw [← z]; exact ⟨by omega, h58⟩
             · rintro ⟨z1, z2⟩
               by_cases y : i = q
               · exact Or.inr y
               · exact Or.inl ⟨by omega, z2⟩)
          | (refine ih hlt F _ hF (fun q hq => ?_)
             rw [hb q hq]
             constructor
             · rintro ⟨z1, z2⟩; exact ⟨by omega, z2⟩
             · rintro ⟨z1, z2⟩
               by_cases y : q = i
               · rw [y] at z2; exact absurd z2 h58
               · exact ⟨by omega, z2⟩)
    · refine mm_iload dX7_sharesOf_5 rfl rfl ?_
      refine mm_bipush dX7_sharesOf_7 rfl (by decide) ?_
      refine mm_icgt dX7_sharesOf_9 (by omega) (by omega) (fun h9 => ?_) (fun h9 => ?_)
      · refine mm_iload_n dX7_sharesOf_74 rfl rfl ?_
        refine mm_iret dX7_sharesOf_75 rfl rfl ?_
        refine ⟨F, rfl, hR, rfl, hF, fun q hq => ?_⟩
        rw [hb q hq]
        exact ⟨fun z => z.2, fun z => ⟨by omega, z⟩⟩
      · exfalso; omega
  refine mm_iconst dX7_sharesOf_0 rfl ?_
  refine mm_istore_n dX7_sharesOf_1 rfl (Nat.le_of_ble_eq_true rfl) rfl ?_
  refine mm_iconst dX7_sharesOf_2 rfl ?_
  refine mm_istore dX7_sharesOf_3 rfl (Nat.le_of_ble_eq_true rfl) rfl ?_
  exact loop 0 (by decide) 0 _ (by decide) (fun q hq => by simp)
theorem c_X7_fittingShares (hR : mm_Rf M) (hK : mm_CK M) (hA : mm_CA M) (hG : mm_CG M) (ht : mm_R t) :
    mm_C X Y_X7_fittingShares 243 243 [(2, 175), (0, t)] M (fun r M' => ∃ F : Nat, r = (0, (F : Int)) ∧ mm_Rf M' ∧ M' = M ∧ kg_set (kg_fC M t) F) := by
  have hc := hG.1
  have hr := hG.2.1
  refine mm_start (ls := [(2, 175), (0, t), (9, 0), (9, 0)]) rfl ?_
  have loop : ∀ i : Nat, i ≤ (M 174 2).toNat → ∀ F : Nat, F < 2 ^ 21 → (∀ q, q < 21 → (F.testBit q = true ↔ ∀ k : Nat, k < i → M 175 k ≤ t → M 179 (kg_ix M k t) ≤ kg_pC M k q ∧ kg_pC M k q ≤ M 180 (kg_ix M k t))) →
      mm_J X Y_X7_fittingShares 243 243 243 5 [(2, 175), (0, t), (0, (F : Int)), (0, (i : Int))] [] M (fun r M' => ∃ F : Nat, r = (0, (F : Int)) ∧ mm_Rf M' ∧ M' = M ∧ kg_set (kg_fC M t) F) := by
    refine mm_lp ?_
    intro i hi ih F hF hb
    by_cases hlt : i < (M 174 2).toNat
    · obtain ⟨g0, g1, g2, g3⟩ := hG.2.2.1 i (by omega)
      have ix50 : kg_ix M i t < 50 := by unfold kg_ix; exact kg_last_P (P := fun z => z < 50) (by omega) (fun j hj => by omega)
      have ixl : mm_R (M 179 (kg_ix M i t)) := by unfold kg_ix; exact kg_last_P (P := fun z => mm_R (M 179 z)) g2 (fun j hj => (hG.2.2.2 j (by omega)).2.2.1)
      have ixh : mm_R (M 180 (kg_ix M i t)) := by unfold kg_ix; exact kg_last_P (P := fun z => mm_R (M 180 z)) g3 (fun j hj => (hG.2.2.2 j (by omega)).2.2.2)
      by_cases hst : M 175 i ≤ t
      · refine mm_iload_n dX7_fittingShares_5 rfl rfl ?_
        refine mm_aload_n dX7_fittingShares_6 rfl rfl ?_
        refine mm_get (kd := 0) dX7_fittingShares_7 rfl fl_X7_44 (c := 174) rfl (by decide) rfl rfl ?_
        refine mm_icge dX7_fittingShares_10 (by omega) (by omega) (fun h10 => ?_) (fun h10 => ?_)
        · exfalso; omega
        · refine mm_aload_n dX7_fittingShares_13 rfl rfl ?_
          refine mm_getr dX7_fittingShares_14 rfl fl_X7_11 (c := 174) rfl (by decide) rfl rfl (hR.at (c := 174) (i := 5) (v := 176) rfl (by decide)) ?_
          refine mm_iload_n dX7_fittingShares_17 rfl rfl ?_
          refine mm_ialk (k0 := i) dX7_fittingShares_18 rfl (c := 175) rfl (by decide) rfl (by omega) (by omega) ?_
          refine mm_iload_n dX7_fittingShares_19 rfl rfl ?_
          refine mm_icgt dX7_fittingShares_20 (by omega) (by omega) (fun h20 => ?_) (fun h20 => ?_)
          · exfalso; omega
          · refine mm_iload_n dX7_fittingShares_23 rfl rfl ?_
            refine mm_aload_n dX7_fittingShares_24 rfl rfl ?_
            refine mm_iload_n dX7_fittingShares_25 rfl rfl ?_
            refine mm_aload_n dX7_fittingShares_26 rfl rfl ?_
            refine mm_iload_n dX7_fittingShares_27 rfl rfl ?_
            refine mm_iload_n dX7_fittingShares_28 rfl rfl ?_
            refine mm_V2i dX7_fittingShares_29 rfl lk_X7_55 (c := 174) rfl (by decide) rfl (by simp) (by simp) rfl rfl rfl (c_X7_spanOf hR hG (by omega) ht) ?_
            refine mm_V2g (M1 := M) dX7_fittingShares_32 rfl lk_X7_59 (c := 174) rfl (by decide) rfl (by simp) (by simp) rfl rfl rfl (c_X7_sharesOf hR hK hA hG (by omega) ix50 ixl ixh) ?_
            rintro _ N32 ⟨x32, rfl, p32⟩
            change mm_J _ _ _ _ _ _ _ _ _ _
            have hR32 : mm_Rf N32 := p32.1
            obtain ⟨-, eN, hS1, hS2⟩ := p32
            rw [eN]
            refine mm_iand dX7_fittingShares_35 rfl ?_
            rw [kx_and (by omega)]
            refine mm_istore_n dX7_fittingShares_36 rfl (Nat.le_of_ble_eq_true rfl) rfl ?_
            refine mm_iinc dX7_fittingShares_37 rfl rfl (Nat.le_of_ble_eq_true rfl) rfl ?_
            refine mm_goto dX7_fittingShares_40 ?_
            have hand : F &&& x32 ≤ F := Nat.and_le_left
            refine ih hlt (F &&& x32) (by omega) (fun q hq => ?_)
            rw [Nat.testBit_and, Bool.and_eq_true, hb q hq, hS2 q hq]
            constructor
            · rintro ⟨z1, z2⟩ j hj hs
              by_cases y : j = i
              · rw [y]; exact z2
              · exact z1 j (by omega) hs
            · intro z
              exact ⟨fun j hj hs => z j (by omega) hs, z i (by omega) hst⟩
      · refine mm_iload_n dX7_fittingShares_5 rfl rfl ?_
        refine mm_aload_n dX7_fittingShares_6 rfl rfl ?_
        refine mm_get (kd := 0) dX7_fittingShares_7 rfl fl_X7_44 (c := 174) rfl (by decide) rfl rfl ?_
        refine mm_icge dX7_fittingShares_10 (by omega) (by omega) (fun h10 => ?_) (fun h10 => ?_)
        · exfalso; omega
        · refine mm_aload_n dX7_fittingShares_13 rfl rfl ?_
          refine mm_getr dX7_fittingShares_14 rfl fl_X7_11 (c := 174) rfl (by decide) rfl rfl (hR.at (c := 174) (i := 5) (v := 176) rfl (by decide)) ?_
          refine mm_iload_n dX7_fittingShares_17 rfl rfl ?_
          refine mm_ialk (k0 := i) dX7_fittingShares_18 rfl (c := 175) rfl (by decide) rfl (by omega) (by omega) ?_
          refine mm_iload_n dX7_fittingShares_19 rfl rfl ?_
          refine mm_icgt dX7_fittingShares_20 (by omega) (by omega) (fun h20 => ?_) (fun h20 => ?_)
          · refine mm_iinc dX7_fittingShares_37 rfl rfl (Nat.le_of_ble_eq_true rfl) rfl ?_
            refine mm_goto dX7_fittingShares_40 ?_
            refine ih hlt F hF (fun q hq => ?_)
            rw [hb q hq]
            constructor
            · intro z j hj hs
              by_cases y : j = i
              · rw [y] at hs; exact absurd hs hst
              · exact z j (by omega) hs
            · intro z j hj hs
              exact z j (by omega) hs
          · exfalso; omega
    · refine mm_iload_n dX7_fittingShares_5 rfl rfl ?_
      refine mm_aload_n dX7_fittingShares_6 rfl rfl ?_
      refine mm_get (kd := 0) dX7_fittingShares_7 rfl fl_X7_44 (c := 174) rfl (by decide) rfl rfl ?_
      refine mm_icge dX7_fittingShares_10 (by omega) (by omega) (fun h10 => ?_) (fun h10 => ?_)
      · refine mm_iload_n dX7_fittingShares_43 rfl rfl ?_
        refine mm_iret dX7_fittingShares_44 rfl rfl ?_
        refine ⟨F, rfl, hR, rfl, hF, fun q hq => ?_⟩
        rw [hb q hq]
        exact ⟨fun z j hj hs => z j (by omega) hs, fun z j hj hs => z j (by omega) hs⟩
      · exfalso; omega
  refine mm_ldc dX7_fittingShares_0 rfl kc_X7_54 ?_
  refine mm_istore_n dX7_fittingShares_2 rfl (Nat.le_of_ble_eq_true rfl) rfl ?_
  refine mm_iconst dX7_fittingShares_3 rfl ?_
  refine mm_istore_n dX7_fittingShares_4 rfl (Nat.le_of_ble_eq_true rfl) rfl ?_
  refine loop 0 (Nat.zero_le _) (2 ^ 21 - 1) (by decide) (fun q hq => ?_)
  rw [Nat.testBit_two_pow_sub_one]
  simp [hq]
end
end
/-! 89.count -/
section
/-! ===== Integer.bitCount of numbers below 2 ^ 21 ===== -/
section
variable {X : mm_X} {Y : mm_Y} {n0 n1 n pc q : Nat} {ls st : List mm_V} {M : mm_M} {Φ : mm_V → mm_M → Prop} {x y : Int}
theorem mm_iushr (hd : mm_D Y.2.1 pc q .iushr) (hq : pc + 1 = q) (k : mm_J X Y n0 n1 n q ls ((0, ((mm_i x).toUInt32 >>> ((mm_i y).toUInt32 &&& Int32.toUInt32 31)).toInt32.toInt) :: st) M Φ) : mm_J X Y n0 n1 n pc ls ((0, y) :: (0, x) :: st) M Φ := by
  subst hq
  refine mm_go (fun p l e R s m args below meth c D cA bs ro H locs lsr cells slots Q hx hb hL kk => ?_) k
  refine lv_iushr hx hb (by simpa using hd.1) rfl ?_
  rw [← mm_i_of ((mm_i x).toUInt32 >>> ((mm_i y).toUInt32 &&& Int32.toUInt32 31)).toInt32]
  exact kk
end
theorem kc_J6_265 : mm_Wk (.constant RJ6 265 (mm_i 1431655765)) := mm_w1 5 98 rfl rfl
theorem kc_J6_266 : mm_Wk (.constant RJ6 266 (mm_i 858993459)) := mm_w1 5 99 rfl rfl
theorem kc_J6_267 : mm_Wk (.constant RJ6 267 (mm_i 252645135)) := mm_w1 5 100 rfl rfl
theorem kx_cnt : ∀ j : Fin 32, (UInt32.ofNat j.val &&& Int32.toUInt32 31).toNat % 32 = j.val := by decide +kernel
theorem kx_ush {k j : Nat} (hk : k < 2147483648) (hj : j < 32) : ((mm_i (k : Int)).toUInt32 >>> ((mm_i (j : Int)).toUInt32 &&& Int32.toUInt32 31)).toInt32.toInt = ((k >>> j : Nat) : Int) := by
  have hs : k >>> j ≤ k := by
    rw [Nat.shiftRight_eq_div_pow]
    exact Nat.div_le_self _ _
  rw [kx_nI, kx_nI]
  have e2 : UInt32.ofNat k >>> (UInt32.ofNat j &&& Int32.toUInt32 31) = UInt32.ofNat (k >>> j) := by
    apply UInt32.toNat_inj.1
    have h1 : (UInt32.ofNat k).toNat = k := Nat.mod_eq_of_lt (by omega)
    have h2 : (UInt32.ofNat (k >>> j)).toNat = k >>> j := Nat.mod_eq_of_lt (by omega)
    rw [UInt32.toNat_shiftRight, kx_cnt ⟨j, hj⟩, h1, h2]
  show (UInt32.ofNat k >>> (UInt32.ofNat j &&& Int32.toUInt32 31)).toInt32.toInt = _
  rw [e2]
  exact kx_to (by omega)
theorem kx_and8 {p r m s : Nat} (hr : r < 256) (hs : s < 256) : (256 * p + r) &&& (256 * m + s) = 256 * (p &&& m) + (r &&& s) := by
  apply Nat.eq_of_testBit_eq
  intro j
  have hrs : r &&& s < 2 ^ 8 := Nat.lt_of_le_of_lt Nat.and_le_left hr
  rw [Nat.testBit_and, Nat.testBit_two_pow_mul_add (i := 8) p hr, Nat.testBit_two_pow_mul_add (i := 8) m hs, Nat.testBit_two_pow_mul_add (i := 8) (p &&& m) hrs]
  split <;> rw [Nat.testBit_and]
theorem kx_and0 {r m s : Nat} (hr : r < 256) (hs : s < 256) : r &&& (256 * m + s) = r &&& s := by
  have := kx_and8 (p := 0) (m := m) hr hs
  rw [Nat.mul_zero, Nat.zero_add, Nat.zero_and, Nat.mul_zero, Nat.zero_add] at this
  exact this
/-- the bits of a byte -/
def kx_pb (a : Nat) : Nat := a % 2 + a / 2 % 2 + a / 4 % 2 + a / 8 % 2 + a / 16 % 2 + a / 32 % 2 + a / 64 % 2 + a / 128 % 2
def kx_c (a : Nat) : Nat := a - ((a / 2) &&& 85)
def kx_d (a : Nat) : Nat := (kx_c a &&& 51) + ((kx_c a / 4) &&& 51)
theorem kx_b1 : ∀ a, a < 256 → ∀ b, b < 2 → (a / 2 + 128 * b) &&& 85 = (a / 2) &&& 85 := by decide +kernel
theorem kx_b2 : ∀ a, a < 256 → ((a / 2) &&& 85) ≤ a := by decide +kernel
theorem kx_b3 : ∀ a, a < 256 → ∀ b, b < 4 → (a / 4 + 64 * b) &&& 51 = (a / 4) &&& 51 := by decide +kernel
theorem kx_b4 : ∀ a, a < 256 → kx_d a ≤ 68 ∧ kx_d a % 16 ≤ 4 ∧ kx_d a / 16 ≤ 4 ∧ kx_d a % 16 + kx_d a / 16 = kx_pb a := by decide +kernel
theorem kx_b5 : ∀ a, a < 16 → ∀ b, b < 16 → (16 * b + a) &&& 15 = a := by decide +kernel
theorem kx_pop {a0 a1 a2 : Nat} (h0 : a0 < 256) (h1 : a1 < 256) (h2 : a2 < 32) : ∃ x1 x2 x3 : Nat,
    x1 = (a0 + 256 * a1 + 65536 * a2) - (((a0 + 256 * a1 + 65536 * a2) >>> 1) &&& 1431655765) ∧ (((a0 + 256 * a1 + 65536 * a2) >>> 1) &&& 1431655765) ≤ a0 + 256 * a1 + 65536 * a2 ∧ x1 < 16777216 ∧
    x2 = (x1 &&& 858993459) + ((x1 >>> 2) &&& 858993459) ∧ x2 < 16777216 ∧ x3 = (x2 + (x2 >>> 4)) &&& 252645135 ∧ x3 < 16777216 ∧
    x3 + (x3 >>> 8) < 16777216 ∧ (x3 + (x3 >>> 8)) + ((x3 + (x3 >>> 8)) >>> 16) < 16777216 ∧ ((x3 + (x3 >>> 8)) + ((x3 + (x3 >>> 8)) >>> 16)) &&& 63 = kx_pb a0 + kx_pb a1 + kx_pb a2 := by
  have u : ((a0 + 256 * a1 + 65536 * a2) >>> 1) &&& 1431655765 = ((a0 / 2) &&& 85) + 256 * ((a1 / 2) &&& 85) + 65536 * ((a2 / 2) &&& 85) := by
    rw [Nat.shiftRight_eq_div_pow, show (a0 + 256 * a1 + 65536 * a2) / 2 ^ 1 = 256 * (256 * (a2 / 2) + (a1 / 2 + 128 * (a2 % 2))) + (a0 / 2 + 128 * (a1 % 2)) by omega, show 1431655765 = 256 * (256 * (256 * 85 + 85) + 85) + 85 from rfl, kx_and8 (by omega) (by decide), kx_and8 (by omega) (by decide), kx_b1 a0 h0 (a1 % 2) (by omega), kx_b1 a1 h1 (a2 % 2) (by omega),
      kx_and0 (by omega) (by decide)]
    omega
  have k0 := kx_b2 a0 h0
  have k1 := kx_b2 a1 h1
  have k2 := kx_b2 a2 (by omega)
  have ex1 : (a0 + 256 * a1 + 65536 * a2) - (((a0 + 256 * a1 + 65536 * a2) >>> 1) &&& 1431655765) = 256 * (256 * kx_c a2 + kx_c a1) + kx_c a0 := by
    rw [u]; unfold kx_c; omega
  have c0 : kx_c a0 < 256 := by unfold kx_c; omega
  have c1 : kx_c a1 < 256 := by unfold kx_c; omega
  have c2 : kx_c a2 < 256 := by unfold kx_c; omega
  have d0 := kx_b4 a0 h0
  have d1 := kx_b4 a1 h1
  have d2 := kx_b4 a2 (by omega)
  have ex2 : ((256 * (256 * kx_c a2 + kx_c a1) + kx_c a0) &&& 858993459) + (((256 * (256 * kx_c a2 + kx_c a1) + kx_c a0) >>> 2) &&& 858993459) = 256 * (256 * kx_d a2 + kx_d a1) + kx_d a0 := by
    have e1 : (256 * (256 * kx_c a2 + kx_c a1) + kx_c a0) &&& 858993459 = 256 * (256 * (kx_c a2 &&& 51) + (kx_c a1 &&& 51)) + (kx_c a0 &&& 51) := by
      rw [show 858993459 = 256 * (256 * (256 * 51 + 51) + 51) + 51 from rfl, kx_and8 c0 (by decide), kx_and8 c1 (by decide), kx_and0 c2 (by decide)]
    have e2 : ((256 * (256 * kx_c a2 + kx_c a1) + kx_c a0) >>> 2) &&& 858993459 = 256 * (256 * ((kx_c a2 / 4) &&& 51) + ((kx_c a1 / 4) &&& 51)) + ((kx_c a0 / 4) &&& 51) := by
      rw [Nat.shiftRight_eq_div_pow, show (256 * (256 * kx_c a2 + kx_c a1) + kx_c a0) / 2 ^ 2 = 256 * (256 * (kx_c a2 / 4) + (kx_c a1 / 4 + 64 * (kx_c a2 % 4))) + (kx_c a0 / 4 + 64 * (kx_c a1 % 4)) by omega, show 858993459 = 256 * (256 * (256 * 51 + 51) + 51) + 51 from rfl, kx_and8 (by omega) (by decide), kx_and8 (by omega) (by decide), kx_b3 _ c0 _ (by omega), kx_b3 _ c1 _ (by omega),
        kx_and0 (by omega) (by decide)]
    rw [e1, e2]; unfold kx_d; omega
  obtain ⟨D0, hD0⟩ : ∃ z, z = kx_d a0 := ⟨_, rfl⟩
  obtain ⟨D1, hD1⟩ : ∃ z, z = kx_d a1 := ⟨_, rfl⟩
  obtain ⟨D2, hD2⟩ : ∃ z, z = kx_d a2 := ⟨_, rfl⟩
  rw [← hD0] at d0
  rw [← hD1] at d1
  rw [← hD2] at d2
  rw [← hD0, ← hD1, ← hD2] at ex2
  have ex3 : ((256 * (256 * D2 + D1) + D0) + ((256 * (256 * D2 + D1) + D0) >>> 4)) &&& 252645135 = 256 * (256 * (D2 % 16 + D2 / 16) + (D1 % 16 + D1 / 16)) + (D0 % 16 + D0 / 16) := by
    rw [Nat.shiftRight_eq_div_pow, show (256 * (256 * D2 + D1) + D0) + (256 * (256 * D2 + D1) + D0) / 2 ^ 4 = 256 * (256 * (256 * 0 + (16 * (D2 / 16) + (D2 % 16 + D2 / 16))) + (16 * (D1 / 16 + D2 % 16) + (D1 % 16 + D1 / 16))) + (16 * (D0 / 16 + D1 % 16) + (D0 % 16 + D0 / 16)) by omega,
      show 252645135 = 256 * (256 * (256 * 15 + 15) + 15) + 15 from rfl, kx_and8 (by omega) (by decide), kx_and8 (by omega) (by decide), kx_and8 (by omega) (by decide), kx_b5 _ (by omega) _ (by omega), kx_b5 _ (by omega) _ (by omega), kx_b5 _ (by omega) _ (by omega), Nat.zero_and]
    omega
  refine ⟨256 * (256 * kx_c a2 + kx_c a1) + kx_c a0, 256 * (256 * D2 + D1) + D0, 256 * (256 * (D2 % 16 + D2 / 16) + (D1 % 16 + D1 / 16)) + (D0 % 16 + D0 / 16), ex1.symm, by rw [u]; omega, by omega, ex2.symm, by omega, ex3.symm, by omega, ?_, ?_, ?_⟩
  all_goals
    obtain ⟨E0, hE0⟩ : ∃ z, z = D0 % 16 + D0 / 16 := ⟨_, rfl⟩
    obtain ⟨E1, hE1⟩ : ∃ z, z = D1 % 16 + D1 / 16 := ⟨_, rfl⟩
    obtain ⟨E2, hE2⟩ : ∃ z, z = D2 % 16 + D2 / 16 := ⟨_, rfl⟩
    have g0 := d0.2.2.2
    have g1 := d1.2.2.2
    have g2 := d2.2.2.2
    have m0 : E0 ≤ 8 := by omega
    have m1 : E1 ≤ 8 := by omega
    have m2 : E2 ≤ 8 := by omega
    rw [← hE0] at g0
    rw [← hE1] at g1
    rw [← hE2] at g2
    rw [← hE0, ← hE1, ← hE2]
    clear hE0 hE1 hE2 d0 d1 d2 ex1 ex2 ex3 u k0 k1 k2 c0 c1 c2 hD0 hD1 hD2
    have y1 : (256 * (256 * E2 + E1) + E0) >>> 8 = 256 * E2 + E1 := by rw [Nat.shiftRight_eq_div_pow]; omega
    rw [y1]
    have y2 : (256 * (256 * E2 + E1) + E0 + (256 * E2 + E1)) >>> 16 = E2 := by rw [Nat.shiftRight_eq_div_pow]; omega
    try rw [y2]
  · omega
  · omega
  · rw [show (63 : Nat) = 2 ^ 6 - 1 from rfl, Nat.and_two_pow_sub_one_eq_mod]
    omega
/-- how many bits of a are set below 21 -/
def kx_n (a : Nat) : Int := ka_sum (fun q => if a.testBit q = true then 1 else 0) 21
theorem kx_e0 (a : Nat) : a / 2 ^ 0 % 2 = a % 256 / 1 % 2 := by omega
theorem kx_e1 (a : Nat) : a / 2 ^ 1 % 2 = a % 256 / 2 % 2 := by omega
theorem kx_e2 (a : Nat) : a / 2 ^ 2 % 2 = a % 256 / 4 % 2 := by omega
theorem kx_e3 (a : Nat) : a / 2 ^ 3 % 2 = a % 256 / 8 % 2 := by omega
theorem kx_e4 (a : Nat) : a / 2 ^ 4 % 2 = a % 256 / 16 % 2 := by omega
theorem kx_e5 (a : Nat) : a / 2 ^ 5 % 2 = a % 256 / 32 % 2 := by omega
theorem kx_e6 (a : Nat) : a / 2 ^ 6 % 2 = a % 256 / 64 % 2 := by omega
theorem kx_e7 (a : Nat) : a / 2 ^ 7 % 2 = a % 256 / 128 % 2 := by omega
theorem kx_e8 (a : Nat) : a / 2 ^ 8 % 2 = a / 256 % 256 / 1 % 2 := by omega
theorem kx_e9 (a : Nat) : a / 2 ^ 9 % 2 = a / 256 % 256 / 2 % 2 := by omega
theorem kx_e10 (a : Nat) : a / 2 ^ 10 % 2 = a / 256 % 256 / 4 % 2 := by omega
theorem kx_e11 (a : Nat) : a / 2 ^ 11 % 2 = a / 256 % 256 / 8 % 2 := by omega
theorem kx_e12 (a : Nat) : a / 2 ^ 12 % 2 = a / 256 % 256 / 16 % 2 := by omega
theorem kx_e13 (a : Nat) : a / 2 ^ 13 % 2 = a / 256 % 256 / 32 % 2 := by omega
theorem kx_e14 (a : Nat) : a / 2 ^ 14 % 2 = a / 256 % 256 / 64 % 2 := by omega
theorem kx_e15 (a : Nat) : a / 2 ^ 15 % 2 = a / 256 % 256 / 128 % 2 := by omega
theorem kx_e16 (a : Nat) : a / 2 ^ 16 % 2 = a / 65536 / 1 % 2 := by omega
theorem kx_e17 (a : Nat) : a / 2 ^ 17 % 2 = a / 65536 / 2 % 2 := by omega
theorem kx_e18 (a : Nat) : a / 2 ^ 18 % 2 = a / 65536 / 4 % 2 := by omega
theorem kx_e19 (a : Nat) : a / 2 ^ 19 % 2 = a / 65536 / 8 % 2 := by omega
theorem kx_e20 (a : Nat) : a / 2 ^ 20 % 2 = a / 65536 / 16 % 2 := by omega
theorem kx_z5 (a : Nat) (h : a < 2097152) : a / 65536 / 32 % 2 = 0 := by omega
theorem kx_z6 (a : Nat) (h : a < 2097152) : a / 65536 / 64 % 2 = 0 := by omega
theorem kx_z7 (a : Nat) (h : a < 2097152) : a / 65536 / 128 % 2 = 0 := by omega
theorem kx_n_eq {a : Nat} (h : a < 2097152) : kx_n a = ((kx_pb (a % 256) + kx_pb (a / 256 % 256) + kx_pb (a / 65536) : Nat) : Int) := by
  have key : ∀ q, (if a.testBit q = true then (1 : Int) else 0) = ((a / 2 ^ q % 2 : Nat) : Int) := by
    intro q
    rw [Nat.testBit_eq_decide_div_mod_eq]
    by_cases z : a / 2 ^ q % 2 = 1
    · rw [if_pos (by simp [z]), z]; rfl
    · rw [if_neg (by simp [z])]; omega
  unfold kx_n
  have e0 := kx_e0 a
  have e1 := kx_e1 a
  have e2 := kx_e2 a
  have e3 := kx_e3 a
  have e4 := kx_e4 a
  have e5 := kx_e5 a
  have e6 := kx_e6 a
  have e7 := kx_e7 a
  have e8 := kx_e8 a
  have e9 := kx_e9 a
  have e10 := kx_e10 a
  have e11 := kx_e11 a
  have e12 := kx_e12 a
  have e13 := kx_e13 a
  have e14 := kx_e14 a
  have e15 := kx_e15 a
  have e16 := kx_e16 a
  have e17 := kx_e17 a
  have e18 := kx_e18 a
  have e19 := kx_e19 a
  have e20 := kx_e20 a
  have z5 := kx_z5 a h
  have z6 := kx_z6 a h
  have z7 := kx_z7 a h
  simp only [ka_sum, key, e0, e1, e2, e3, e4, e5, e6, e7, e8, e9, e10, e11, e12, e13, e14, e15, e16, e17, e18, e19, e20]
  unfold kx_pb
  rw [z5, z6, z7]
  rw [show a % 256 % 2 = a % 256 / 1 % 2 by rw [Nat.div_one]]
  generalize a % 256 / 1 % 2 = p0
  generalize a % 256 / 2 % 2 = p1
  generalize a % 256 / 4 % 2 = p2
  generalize a % 256 / 8 % 2 = p3
  generalize a % 256 / 16 % 2 = p4
  generalize a % 256 / 32 % 2 = p5
  generalize a % 256 / 64 % 2 = p6
  generalize a % 256 / 128 % 2 = p7
  rw [show a / 256 % 256 % 2 = a / 256 % 256 / 1 % 2 by rw [Nat.div_one]]
  generalize a / 256 % 256 / 1 % 2 = q0
  generalize a / 256 % 256 / 2 % 2 = q1
  generalize a / 256 % 256 / 4 % 2 = q2
  generalize a / 256 % 256 / 8 % 2 = q3
  generalize a / 256 % 256 / 16 % 2 = q4
  generalize a / 256 % 256 / 32 % 2 = q5
  generalize a / 256 % 256 / 64 % 2 = q6
  generalize a / 256 % 256 / 128 % 2 = q7
  rw [show a / 65536 % 2 = a / 65536 / 1 % 2 by rw [Nat.div_one]]
  generalize a / 65536 / 1 % 2 = r0
  generalize a / 65536 / 2 % 2 = r1
  generalize a / 65536 / 4 % 2 = r2
  generalize a / 65536 / 8 % 2 = r3
  generalize a / 65536 / 16 % 2 = r4
  clear key e0 e1 e2 e3 e4 e5 e6 e7 e8 e9 e10 e11 e12 e13 e14 e15 e16 e17 e18 e19 e20 z5 z6 z7
  omega
section
variable {X : mm_X} {M : mm_M} {a : Nat}
theorem c_J6_bitCount_0f7a4 (h : a < 2097152) : mm_Fn X Y_J6_bitCount_0f7a4 243 [(0, (a : Int))] M (0, kx_n a) M := by
  rw [kx_n_eq h]
  obtain ⟨x1, x2, x3, e1, e1b, b1, e2, b2, e3, b3, b4, b5, e6⟩ := kx_pop (a0 := a % 256) (a1 := a / 256 % 256) (a2 := a / 65536) (by omega) (by omega) (by omega)
  rw [show a % 256 + 256 * (a / 256 % 256) + 65536 * (a / 65536) = a by omega] at e1 e1b
  have s1 := kx_ush (k := a) (j := 1) (by omega) (by decide)
  have s2 := kx_ush (k := x1) (j := 2) (by omega) (by decide)
  have s3 := kx_ush (k := x2) (j := 4) (by omega) (by decide)
  have s4 := kx_ush (k := x3) (j := 8) (by omega) (by decide)
  have s5 := kx_ush (k := x3 + (x3 >>> 8)) (j := 16) (by omega) (by decide)
  have l1 : a >>> 1 ≤ a := by rw [Nat.shiftRight_eq_div_pow]; exact Nat.div_le_self _ _
  have l2 : x1 >>> 2 ≤ x1 := by rw [Nat.shiftRight_eq_div_pow]; exact Nat.div_le_self _ _
  have l3 : x2 >>> 4 ≤ x2 := by rw [Nat.shiftRight_eq_div_pow]; exact Nat.div_le_self _ _
  have a1 := kx_and (a := a >>> 1) (b := 1431655765) (by omega)
  have a2 := kx_and (a := x1) (b := 858993459) (by omega)
  have a3 := kx_and (a := x1 >>> 2) (b := 858993459) (by omega)
  have a4 := kx_and (a := x2 + (x2 >>> 4)) (b := 252645135) (by omega)
  have a5 := kx_and (a := x3 + (x3 >>> 8) + ((x3 + (x3 >>> 8)) >>> 16)) (b := 63) (by omega)
  have f1 : (a : Int) - (((a >>> 1) &&& 1431655765 : Nat) : Int) = (x1 : Int) := by omega
  have f2 : ((x1 &&& 858993459 : Nat) : Int) + (((x1 >>> 2) &&& 858993459 : Nat) : Int) = (x2 : Int) := by omega
  have f3 : (x2 : Int) + ((x2 >>> 4 : Nat) : Int) = ((x2 + (x2 >>> 4) : Nat) : Int) := by omega
  have f4 : (x3 : Int) + ((x3 >>> 8 : Nat) : Int) = ((x3 + (x3 >>> 8) : Nat) : Int) := by omega
  have f5 : ((x3 + (x3 >>> 8) : Nat) : Int) + (((x3 + (x3 >>> 8)) >>> 16 : Nat) : Int) = ((x3 + (x3 >>> 8) + ((x3 + (x3 >>> 8)) >>> 16) : Nat) : Int) := by omega
  refine mm_startF (ls := [(0, (a : Int))]) rfl ?_
  refine mm_iload_n dJ6_bitCount_0f7a4_0 rfl rfl ?_
  refine mm_iload_n dJ6_bitCount_0f7a4_1 rfl rfl ?_
  refine mm_iconst dJ6_bitCount_0f7a4_2 rfl ?_
  refine mm_iushr dJ6_bitCount_0f7a4_3 rfl ?_
  rw [show (1 : Int) = ((1 : Nat) : Int) from rfl, s1]
  refine mm_ldcw dJ6_bitCount_0f7a4_4 rfl kc_J6_265 ?_
  refine mm_iand dJ6_bitCount_0f7a4_7 rfl ?_
  rw [show (1431655765 : Int) = ((1431655765 : Nat) : Int) from rfl, a1]
  refine mm_isub dJ6_bitCount_0f7a4_8 rfl ?_
  rw [f1]
  refine mm_istore_n dJ6_bitCount_0f7a4_9 rfl (Nat.le_of_ble_eq_true rfl) rfl ?_
  refine mm_iload_n dJ6_bitCount_0f7a4_10 rfl rfl ?_
  refine mm_ldcw dJ6_bitCount_0f7a4_11 rfl kc_J6_266 ?_
  refine mm_iand dJ6_bitCount_0f7a4_14 rfl ?_
  rw [show (858993459 : Int) = ((858993459 : Nat) : Int) from rfl, a2]
  refine mm_iload_n dJ6_bitCount_0f7a4_15 rfl rfl ?_
  refine mm_iconst dJ6_bitCount_0f7a4_16 rfl ?_
  refine mm_iushr dJ6_bitCount_0f7a4_17 rfl ?_
  rw [show (2 : Int) = ((2 : Nat) : Int) from rfl, s2]
  refine mm_ldcw dJ6_bitCount_0f7a4_18 rfl kc_J6_266 ?_
  refine mm_iand dJ6_bitCount_0f7a4_21 rfl ?_
  rw [show (858993459 : Int) = ((858993459 : Nat) : Int) from rfl, a3]
  refine mm_iadd dJ6_bitCount_0f7a4_22 rfl ?_
  rw [f2]
  refine mm_istore_n dJ6_bitCount_0f7a4_23 rfl (Nat.le_of_ble_eq_true rfl) rfl ?_
  refine mm_iload_n dJ6_bitCount_0f7a4_24 rfl rfl ?_
  refine mm_iload_n dJ6_bitCount_0f7a4_25 rfl rfl ?_
  refine mm_iconst dJ6_bitCount_0f7a4_26 rfl ?_
  refine mm_iushr dJ6_bitCount_0f7a4_27 rfl ?_
  rw [show (4 : Int) = ((4 : Nat) : Int) from rfl, s3]
  refine mm_iadd dJ6_bitCount_0f7a4_28 rfl ?_
  rw [f3]
  refine mm_ldcw dJ6_bitCount_0f7a4_29 rfl kc_J6_267 ?_
  refine mm_iand dJ6_bitCount_0f7a4_32 rfl ?_
  rw [show (252645135 : Int) = ((252645135 : Nat) : Int) from rfl, a4, ← e3]
  refine mm_istore_n dJ6_bitCount_0f7a4_33 rfl (Nat.le_of_ble_eq_true rfl) rfl ?_
  refine mm_iload_n dJ6_bitCount_0f7a4_34 rfl rfl ?_
  refine mm_iload_n dJ6_bitCount_0f7a4_35 rfl rfl ?_
  refine mm_bipush dJ6_bitCount_0f7a4_36 rfl (by decide) ?_
  refine mm_iushr dJ6_bitCount_0f7a4_38 rfl ?_
  rw [show (8 : Int) = ((8 : Nat) : Int) from rfl, s4]
  refine mm_iadd dJ6_bitCount_0f7a4_39 rfl ?_
  rw [f4]
  refine mm_istore_n dJ6_bitCount_0f7a4_40 rfl (Nat.le_of_ble_eq_true rfl) rfl ?_
  refine mm_iload_n dJ6_bitCount_0f7a4_41 rfl rfl ?_
  refine mm_iload_n dJ6_bitCount_0f7a4_42 rfl rfl ?_
  refine mm_bipush dJ6_bitCount_0f7a4_43 rfl (by decide) ?_
  refine mm_iushr dJ6_bitCount_0f7a4_45 rfl ?_
  rw [show (16 : Int) = ((16 : Nat) : Int) from rfl, s5]
  refine mm_iadd dJ6_bitCount_0f7a4_46 rfl ?_
  rw [f5]
  refine mm_istore_n dJ6_bitCount_0f7a4_47 rfl (Nat.le_of_ble_eq_true rfl) rfl ?_
  refine mm_iload_n dJ6_bitCount_0f7a4_48 rfl rfl ?_
  refine mm_bipush dJ6_bitCount_0f7a4_49 rfl (by decide) ?_
  refine mm_iand dJ6_bitCount_0f7a4_51 rfl ?_
  rw [show (63 : Int) = ((63 : Nat) : Int) from rfl, a5, e6]
  refine mm_iret dJ6_bitCount_0f7a4_52 rfl rfl ?_
  exact mm_fin rfl rfl
end
end
