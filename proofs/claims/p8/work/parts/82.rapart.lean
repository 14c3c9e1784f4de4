/-! ===== apart and shift, of the reference ===== -/
def kn_a (a : Int) (d : Nat → Int) : Nat → Int
  | 0 => a
  | n + 1 => min (kn_a a d n) (d n)
theorem kn_ab {a : Int} {d : Nat → Int} (ha : 0 ≤ a) (hd : ∀ t, 0 ≤ d t) : ∀ n, 0 ≤ kn_a a d n ∧ kn_a a d n ≤ a
  | 0 => by simp [kn_a, ha]
  | n + 1 => by
    have h1 := kn_ab ha hd n
    have h2 := hd n
    unfold kn_a
    omega
/-- the distances as the reference has them -/
def kn_e (K S T : Nat → Int) (l m k : Nat) (x y : Int) (t : Nat) : Int := ((x + ks_col K (S (t % l)) - y - ks_col K (T ((t + k) % m))).natAbs : Int) + ((ks_row K (S (t % l)) - ks_row K (T ((t + k) % m))).natAbs : Int)
theorem kn_eb {K S T : Nat → Int} (hK : mm_KV K) {l m k : Nat} {x y : Int} (hx : 0 ≤ x ∧ x ≤ 40) (hy : 0 ≤ y ∧ y ≤ 40) (t : Nat) : 0 ≤ kn_e K S T l m k x y t ∧ kn_e K S T l m k x y t ≤ 52 := by
  have a := ks_colb hK (T ((t + k) % m))
  have b := ks_colb hK (S (t % l))
  have c := ks_rowb hK (T ((t + k) % m))
  have d := ks_rowb hK (S (t % l))
  obtain ⟨h0, h1, -⟩ := hK
  unfold kn_e
  omega
theorem kn_ed {K S T : Nat → Int} {l m k : Nat} {x y : Int} : kn_e K S T l m k x y = kn_d K S T l m k (y - x) := by
  funext t
  unfold kn_e kn_d
  rw [Nat.add_comm t k]
  generalize ks_col K (S (t % l)) = a
  generalize ks_col K (T ((k + t) % m)) = b
  generalize ks_row K (S (t % l)) = c
  generalize ks_row K (T ((k + t) % m)) = d
  omega
section
variable {X : mm_X} {M : mm_M} {x y u v k w : Int}
/-- the loop u of the reference is good -/
def kl_ok (M : mm_M) (u : Nat) : Prop := (0 ≤ M 216 u ∧ M 216 u ≤ 100) ∧ mm_R (M 217 u) ∧ (∀ i : Nat, (i : Int) < M 216 u → 0 ≤ M 219 (100 * u + i) ∧ M 219 (100 * u + i) < 1000) ∧ (∀ i : Nat, (i : Int) < M 216 u → ks_st (mm_rk M) (kl_S M u i))
theorem c_X13_leastApart (hR : mm_Rf M) (hK : mm_KV (mm_rk M)) (hx : 0 ≤ x ∧ x < 14) (hu : 0 ≤ u ∧ u < 14) (hy : 0 ≤ y ∧ y ≤ 40) (hv : 0 ≤ v ∧ v ≤ 40) (hk : 0 ≤ k ∧ k ≤ 100) (h1 : kl_ok M x.toNat) (h2 : kl_ok M u.toNat) (p1 : 0 < M 216 x.toNat) (p2 : 0 < M 216 u.toNat) :
    mm_C X Y_X13_leastApart 243 243 [(2, 184), (0, x), (0, y), (0, u), (0, v), (0, k)] M (fun r M' => r = (0, kn_a 1000000 (kn_e (mm_rk M) (kl_S M x.toNat) (kl_S M u.toNat) (M 216 x.toNat).toNat (M 216 u.toNat).toNat k.toNat y v) ((M 216 x.toNat).toNat * (M 216 u.toNat).toNat)) ∧ mm_Rf M' ∧ mm_rg M M' ∧ (∀ a, a ≠ 226 → a ≠ 227 → M' a = M a)) := by
  obtain ⟨l1, a1, b1, s1⟩ := h1
  obtain ⟨l2, a2, b2, s2⟩ := h2
  have c1 := c_X13_findStates (X := X) (M := M) (x := x) (c := 226) hR (Or.inl rfl) hx l1 a1 b1
  obtain ⟨N1, hN1⟩ : ∃ N, N = kf_mem M 226 (kl_S M x.toNat) (M 216 x.toNat).toNat := ⟨_, rfl⟩
  rw [← hN1] at c1
  have hR1 : mm_Rf N1 := by rw [hN1]; exact hR.fm (len := 100) rfl
  have f1 : ∀ a, a ≠ 226 → N1 a = M a := by intro a ha; rw [hN1]; exact kf_mem_n ha
  have k1 : mm_rk N1 = mm_rk M := mm_rk_congr (f1 186 (by decide)) (by rw [f1 183 (by decide)]) (f1 188 (by decide)) (f1 190 (by decide))
  have c2 := c_X13_findStates (X := X) (M := N1) (x := u) (c := 227) hR1 (Or.inr rfl) hu (by rw [f1 216 (by decide)]; exact l2) (by rw [f1 217 (by decide)]; exact a2) (by rw [f1 216 (by decide), f1 219 (by decide)]; exact b2)
  rw [f1 216 (by decide), f1 217 (by decide), f1 219 (by decide), k1] at c2
  obtain ⟨N, hN⟩ : ∃ N, N = kf_mem N1 227 (kl_S M u.toNat) (M 216 u.toNat).toNat := ⟨_, rfl⟩
  rw [← hN] at c2
  have hRN : mm_Rf N := by rw [hN]; exact hR1.fm (len := 100) rfl
  have fN : ∀ a, a ≠ 226 → a ≠ 227 → N a = M a := by intro a ha hb; rw [hN, kf_mem_n hb]; exact f1 a ha
  have hG : mm_rg M N := ⟨fN 186 (by decide) (by decide), by rw [fN 183 (by decide) (by decide)], fN 188 (by decide) (by decide), fN 190 (by decide) (by decide), fN 203 (by decide) (by decide), fN 204 (by decide) (by decide)⟩
  have e1 : ∀ i : Nat, i < (M 216 x.toNat).toNat → N 226 i = kl_S M x.toNat i := by intro i hi; rw [hN, kf_mem_n (by decide), hN1]; exact kf_mem_lt hi
  have e2 : ∀ i : Nat, i < (M 216 u.toNat).toNat → N 227 i = kl_S M u.toNat i := by intro i hi; rw [hN]; exact kf_mem_lt hi
  have f216 : N 216 = M 216 := fN 216 (by decide) (by decide)
  obtain ⟨l, hl⟩ : ∃ l, l = (M 216 x.toNat).toNat := ⟨_, rfl⟩
  obtain ⟨m, hm⟩ : ∃ m, m = (M 216 u.toNat).toNat := ⟨_, rfl⟩
  have hl' : M 216 x.toNat = (l : Int) := by omega
  have hm' : M 216 u.toNat = (m : Int) := by omega
  rw [← hl, ← hm]
  obtain ⟨d, hd⟩ : ∃ d, d = kn_e (mm_rk M) (kl_S M x.toNat) (kl_S M u.toNat) l m k.toNat y v := ⟨_, rfl⟩
  have hdb : ∀ t, 0 ≤ d t ∧ d t ≤ 52 := by rw [hd]; exact kn_eb hK hy hv
  have hlm : l * m ≤ 10000 := Nat.mul_le_mul (show l ≤ 100 by omega) (show m ≤ 100 by omega)
  have hlmi : (l : Int) * (m : Int) = ((l * m : Nat) : Int) := by rw [Int.natCast_mul]
  rw [← hd]
  refine mm_start (ls := [(2, 184), (0, x), (0, y), (0, u), (0, v), (0, k), (9, 0), (9, 0), (9, 0), (9, 0)]) rfl ?_
  have loop : ∀ i : Nat, i ≤ l * m → ∀ l8 l9 : mm_V, mm_J X Y_X13_leastApart 243 243 243 26 [(2, 184), (0, x), (0, y), (0, u), (0, v), (0, k), (0, kn_a 1000000 d i), (0, (i : Int)), l8, l9] [] N (fun r M' => r = (0, kn_a 1000000 d (l * m)) ∧ mm_Rf M' ∧ mm_rg M M' ∧ (∀ a, a ≠ 226 → a ≠ 227 → M' a = M a)) := by
    refine mm_lp ?_
    intro i hi ih l8 l9
    have hkb := kn_ab (a := 1000000) (d := d) (by decide) (fun t => (hdb t).1) i
    by_cases hlt : i < l * m
    · have t1 := Nat.mod_lt i (show 0 < l by omega)
      have t2 := Nat.mod_lt (i + k.toNat) (show 0 < m by omega)
      have s1' := s1 (i % l) (by omega)
      have s2' := s2 ((i + k.toNat) % m) (by omega)
      have cb1 := ks_colb hK (kl_S M x.toNat (i % l))
      have cb2 := ks_colb hK (kl_S M u.toNat ((i + k.toNat) % m))
      have rb1 := ks_rowb hK (kl_S M x.toNat (i % l))
      have rb2 := ks_rowb hK (kl_S M u.toNat ((i + k.toNat) % m))
      have hK0 := hK.1
      have hK1 := hK.2.1
      have ed : d i = ((y + ks_col (mm_rk M) (kl_S M x.toNat (i % l)) - v - ks_col (mm_rk M) (kl_S M u.toNat ((i + k.toNat) % m))).natAbs : Int) + ((ks_row (mm_rk M) (kl_S M x.toNat (i % l)) - ks_row (mm_rk M) (kl_S M u.toNat ((i + k.toNat) % m))).natAbs : Int) := by rw [hd]; rfl
      have er1 : (i : Int).tmod (l : Int) = ((i % l : Nat) : Int) := by rw [mm_tmod (by omega), Int.natCast_emod]
      have er2 : ((i : Int) + k).tmod (m : Int) = (((i + k.toNat) % m : Nat) : Int) := by rw [mm_tmod (by omega), Int.natCast_emod]; congr 1; omega
      refine mm_iload dX13_leastApart_26 rfl rfl ?_
      refine mm_aload_n dX13_leastApart_28 rfl rfl ?_
      refine mm_getr dX13_leastApart_29 rfl fl_X13_295 (c := 183) rfl (by decide) rfl rfl (hRN.at (c := 183) (i := 64) (v := 217) rfl (by decide)) ?_
      refine mm_iload_n dX13_leastApart_32 rfl rfl ?_
      refine mm_iald dX13_leastApart_33 rfl (c := 216) rfl (by decide) rfl (by omega) (by omega) ?_
      rw [f216]
      refine mm_aload_n dX13_leastApart_34 rfl rfl ?_
      refine mm_getr dX13_leastApart_35 rfl fl_X13_295 (c := 183) rfl (by decide) rfl rfl (hRN.at (c := 183) (i := 64) (v := 217) rfl (by decide)) ?_
      refine mm_iload_n dX13_leastApart_38 rfl rfl ?_
      refine mm_iald dX13_leastApart_39 rfl (c := 216) rfl (by decide) rfl (by omega) (by omega) ?_
      rw [f216]
      refine mm_imul dX13_leastApart_40 rfl ?_
      rw [hl', hm', hlmi]
      refine mm_icge dX13_leastApart_41 (by omega) (by omega) (fun h41 => ?_) (fun h41 => ?_)
      · exfalso; omega
      · refine mm_aload_n dX13_leastApart_44 rfl rfl ?_
        refine mm_getr dX13_leastApart_45 rfl fl_X13_328 (c := 183) rfl (by decide) rfl rfl (hRN.at (c := 183) (i := 86) (v := 227) rfl (by decide)) ?_
        refine mm_iload dX13_leastApart_48 rfl rfl ?_
        refine mm_aload_n dX13_leastApart_50 rfl rfl ?_
        refine mm_getr dX13_leastApart_51 rfl fl_X13_295 (c := 183) rfl (by decide) rfl rfl (hRN.at (c := 183) (i := 64) (v := 217) rfl (by decide)) ?_
        refine mm_iload_n dX13_leastApart_54 rfl rfl ?_
        refine mm_iald dX13_leastApart_55 rfl (c := 216) rfl (by decide) rfl (by omega) (by omega) ?_
        rw [f216]
        rw [hl']
        refine mm_irem dX13_leastApart_56 rfl (by omega) (by omega) (by omega) ?_
        rw [er1]
        refine mm_ialk (k0 := (i % l)) dX13_leastApart_57 rfl (c := 226) rfl (by decide) rfl (by omega) (by omega) ?_
        rw [e1 _ (by omega)]
        refine mm_istore dX13_leastApart_58 rfl (Nat.le_of_ble_eq_true rfl) rfl ?_
        refine mm_aload_n dX13_leastApart_60 rfl rfl ?_
        refine mm_getr dX13_leastApart_61 rfl fl_X13_331 (c := 183) rfl (by decide) rfl rfl (hRN.at (c := 183) (i := 87) (v := 228) rfl (by decide)) ?_
        refine mm_iload dX13_leastApart_64 rfl rfl ?_
        refine mm_iload dX13_leastApart_66 rfl rfl ?_
        refine mm_iadd dX13_leastApart_68 rfl ?_
        refine mm_aload_n dX13_leastApart_69 rfl rfl ?_
        refine mm_getr dX13_leastApart_70 rfl fl_X13_295 (c := 183) rfl (by decide) rfl rfl (hRN.at (c := 183) (i := 64) (v := 217) rfl (by decide)) ?_
        refine mm_iload_n dX13_leastApart_73 rfl rfl ?_
        refine mm_iald dX13_leastApart_74 rfl (c := 216) rfl (by decide) rfl (by omega) (by omega) ?_
        rw [f216]
        rw [hm']
        refine mm_irem dX13_leastApart_75 rfl (by omega) (by omega) (by omega) ?_
        rw [er2]
        refine mm_ialk (k0 := ((i + k.toNat) % m)) dX13_leastApart_76 rfl (c := 227) rfl (by decide) rfl (by omega) (by omega) ?_
        rw [e2 _ (by omega)]
        refine mm_istore dX13_leastApart_77 rfl (Nat.le_of_ble_eq_true rfl) rfl ?_
        refine mm_iload dX13_leastApart_79 rfl rfl ?_
        refine mm_iload_n dX13_leastApart_81 rfl rfl ?_
        refine mm_aload_n dX13_leastApart_82 rfl rfl ?_
        refine mm_iload dX13_leastApart_83 rfl rfl ?_
        refine mm_V1i dX13_leastApart_85 rfl lk_X13_438 (c := 183) rfl (by decide) rfl (by simp) rfl rfl rfl (g_X13_columnOf hRN hG hK s1') ?_
        refine mm_iadd dX13_leastApart_88 rfl ?_
        refine mm_iload dX13_leastApart_89 rfl rfl ?_
        refine mm_isub dX13_leastApart_91 rfl ?_
        refine mm_aload_n dX13_leastApart_92 rfl rfl ?_
        refine mm_iload dX13_leastApart_93 rfl rfl ?_
        refine mm_V1i dX13_leastApart_95 rfl lk_X13_438 (c := 183) rfl (by decide) rfl (by simp) rfl rfl rfl (g_X13_columnOf hRN hG hK s2') ?_
        refine mm_isub dX13_leastApart_98 rfl ?_
        refine mm_abs dX13_leastApart_99 rfl lm_X13_688 rfl rfl (by simp) (by omega) ?_
        refine mm_aload_n dX13_leastApart_102 rfl rfl ?_
        refine mm_iload dX13_leastApart_103 rfl rfl ?_
        refine mm_V1i dX13_leastApart_105 rfl lk_X13_432 (c := 183) rfl (by decide) rfl (by simp) rfl rfl rfl (g_X13_rowOf hRN hG hK s1') ?_
        refine mm_aload_n dX13_leastApart_108 rfl rfl ?_
        refine mm_iload dX13_leastApart_109 rfl rfl ?_
        refine mm_V1i dX13_leastApart_111 rfl lk_X13_432 (c := 183) rfl (by decide) rfl (by simp) rfl rfl rfl (g_X13_rowOf hRN hG hK s2') ?_
        refine mm_isub dX13_leastApart_114 rfl ?_
        refine mm_abs dX13_leastApart_115 rfl lm_X13_688 rfl rfl (by simp) (by omega) ?_
        refine mm_iadd dX13_leastApart_118 rfl ?_
        refine mm_min dX13_leastApart_119 rfl lm_X13_161 rfl rfl (by simp) (by omega) (by omega) ?_
        refine mm_istore dX13_leastApart_122 rfl (Nat.le_of_ble_eq_true rfl) rfl ?_
        refine mm_iinc dX13_leastApart_124 rfl rfl (Nat.le_of_ble_eq_true rfl) rfl ?_
        refine mm_goto dX13_leastApart_127 ?_
        have := ih hlt (0, kl_S M x.toNat (i % l)) (0, kl_S M u.toNat ((i + k.toNat) % m))
        rw [kn_a, ed] at this
        exact this
    · have ei : i = l * m := by omega
      refine mm_iload dX13_leastApart_26 rfl rfl ?_
      refine mm_aload_n dX13_leastApart_28 rfl rfl ?_
      refine mm_getr dX13_leastApart_29 rfl fl_X13_295 (c := 183) rfl (by decide) rfl rfl (hRN.at (c := 183) (i := 64) (v := 217) rfl (by decide)) ?_
      refine mm_iload_n dX13_leastApart_32 rfl rfl ?_
      refine mm_iald dX13_leastApart_33 rfl (c := 216) rfl (by decide) rfl (by omega) (by omega) ?_
      rw [f216]
      refine mm_aload_n dX13_leastApart_34 rfl rfl ?_
      refine mm_getr dX13_leastApart_35 rfl fl_X13_295 (c := 183) rfl (by decide) rfl rfl (hRN.at (c := 183) (i := 64) (v := 217) rfl (by decide)) ?_
      refine mm_iload_n dX13_leastApart_38 rfl rfl ?_
      refine mm_iald dX13_leastApart_39 rfl (c := 216) rfl (by decide) rfl (by omega) (by omega) ?_
      rw [f216]
      refine mm_imul dX13_leastApart_40 rfl ?_
      rw [hl', hm', hlmi]
      refine mm_icge dX13_leastApart_41 (by omega) (by omega) (fun h41 => ?_) (fun h41 => ?_)
      · refine mm_iload dX13_leastApart_130 rfl rfl ?_
        refine mm_iret dX13_leastApart_132 rfl rfl ?_
        exact ⟨by rw [ei], hRN, hG, fN⟩
      · exfalso; omega
  refine mm_aload_n dX13_leastApart_0 rfl rfl ?_
  refine mm_iload_n dX13_leastApart_1 rfl rfl ?_
  refine mm_aload_n dX13_leastApart_2 rfl rfl ?_
  refine mm_getr dX13_leastApart_3 rfl fl_X13_328 (c := 183) rfl (by decide) rfl rfl (hR.at (c := 183) (i := 86) (v := 227) rfl (by decide)) ?_
  refine mm_V2v dX13_leastApart_6 rfl lk_X13_684 (c := 183) rfl (by decide) rfl (by simp) (by simp) rfl rfl rfl (c1) ?_
  refine mm_aload_n dX13_leastApart_9 rfl rfl ?_
  refine mm_iload_n dX13_leastApart_10 rfl rfl ?_
  refine mm_aload_n dX13_leastApart_11 rfl rfl ?_
  refine mm_getr dX13_leastApart_12 rfl fl_X13_331 (c := 183) rfl (by decide) rfl rfl (hR1.at (c := 183) (i := 87) (v := 228) rfl (by decide)) ?_
  refine mm_V2v dX13_leastApart_15 rfl lk_X13_684 (c := 183) rfl (by decide) rfl (by simp) (by simp) rfl rfl rfl (c2) ?_
  refine mm_ldcw dX13_leastApart_18 rfl kc_X13_543 ?_
  refine mm_istore dX13_leastApart_21 rfl (Nat.le_of_ble_eq_true rfl) rfl ?_
  refine mm_iconst dX13_leastApart_23 rfl ?_
  refine mm_istore dX13_leastApart_24 rfl (Nat.le_of_ble_eq_true rfl) rfl ?_
  exact loop 0 (Nat.zero_le _) _ _
theorem c_X13_apart1 (hR : mm_Rf M) (hK : mm_KV (mm_rk M)) (hs : ((0 ≤ x ∧ x ≤ 5) ∧ (0 ≤ y ∧ y ≤ 40) ∧ (0 ≤ u ∧ u ≤ 5) ∧ (0 ≤ v ∧ v ≤ 40)) ∧ 0 ≤ k ∧ k ≤ 99) (hl : ∀ k : Nat, k < 6 → kl_ok M k) (hp : 0 < M 216 x.toNat ∧ 0 < M 216 u.toNat) :
    mm_C X Y_X13_apart 243 243 [(2, 184), (0, x), (0, y), (0, u), (0, v), (0, k)] M (fun r M' => r = (0, kn_a 1000000 (kn_e (mm_rk M) (kl_S M x.toNat) (kl_S M u.toNat) (M 216 x.toNat).toNat (M 216 u.toNat).toNat k.toNat y v) ((M 216 x.toNat).toNat * (M 216 u.toNat).toNat)) ∧ mm_Rf M' ∧ mm_rg M M' ∧ (∀ a, a ≠ 226 → a ≠ 227 → M' a = M a)) := by
  obtain ⟨⟨hx1, hy1, hu1, hv1⟩, hk1⟩ := id hs
  obtain ⟨hp1, hp2⟩ := hp
  have q1 := hl x.toNat (by omega)
  have q2 := hl u.toNat (by omega)
  have q1l := q1.1
  have q2l := q2.1
  refine mm_start (ls := [(2, 184), (0, x), (0, y), (0, u), (0, v), (0, k)]) rfl ?_
  refine mm_iload_n dX13_apart_0 rfl rfl ?_
  refine mm_S1i dX13_apart_1 rfl lk_X13_629 (by simp) rfl rfl rfl (c_X13_isSlot (by omega)) ?_
  refine mm_ifeqb dX13_apart_4 (fun h4 => ?_) (fun h4 => ?_)
  · exact absurd hx1 h4
  · refine mm_iload_n dX13_apart_7 rfl rfl ?_
    refine mm_S1i dX13_apart_8 rfl lk_X13_629 (by simp) rfl rfl rfl (c_X13_isSlot (by omega)) ?_
    refine mm_ifeqb dX13_apart_11 (fun h11 => ?_) (fun h11 => ?_)
    · exact absurd hu1 h11
    · refine mm_iload_n dX13_apart_14 rfl rfl ?_
      refine mm_S1i dX13_apart_15 rfl lk_X13_693 (by simp) rfl rfl rfl (c_X13_isSite (by omega)) ?_
      refine mm_ifeqb dX13_apart_18 (fun h18 => ?_) (fun h18 => ?_)
      · exact absurd hy1 h18
      · refine mm_iload dX13_apart_21 rfl rfl ?_
        refine mm_S1i dX13_apart_23 rfl lk_X13_693 (by simp) rfl rfl rfl (c_X13_isSite (by omega)) ?_
        refine mm_ifeqb dX13_apart_26 (fun h26 => ?_) (fun h26 => ?_)
        · exact absurd hv1 h26
        · refine mm_iload dX13_apart_29 rfl rfl ?_
          refine mm_i2l dX13_apart_31 rfl (by omega) ?_
          refine mm_lconst0 dX13_apart_32 rfl ?_
          refine mm_ldc2 dX13_apart_33 rfl kc_X13_696 ?_
          refine mm_S3i dX13_apart_36 rfl lk_X13_5 (by simp) (by simp) (by simp) rfl rfl rfl (c_X13_in (by omega) (by omega) (by omega)) ?_
          refine mm_ifneb dX13_apart_39 (fun h39 => ?_) (fun h39 => ?_)
          · refine mm_aload_n dX13_apart_45 rfl rfl ?_
            refine mm_iload_n dX13_apart_46 rfl rfl ?_
            refine mm_V1i dX13_apart_47 rfl lk_X13_673 (c := 183) rfl (by decide) rfl (by simp) rfl rfl rfl (c_X13_isKept hR (by omega) (by omega)) ?_
            refine mm_ifeqb dX13_apart_50 (fun h50 => ?_) (fun h50 => ?_)
            · exact absurd hp1 h50
            · refine mm_aload_n dX13_apart_53 rfl rfl ?_
              refine mm_iload_n dX13_apart_54 rfl rfl ?_
              refine mm_V1i dX13_apart_55 rfl lk_X13_673 (c := 183) rfl (by decide) rfl (by simp) rfl rfl rfl (c_X13_isKept hR (by omega) (by omega)) ?_
              refine mm_ifeqb dX13_apart_58 (fun h58 => ?_) (fun h58 => ?_)
              · exact absurd hp2 h58
              · refine mm_aload_n dX13_apart_61 rfl rfl ?_
                refine mm_iload_n dX13_apart_62 rfl rfl ?_
                refine mm_iload_n dX13_apart_63 rfl rfl ?_
                refine mm_iload_n dX13_apart_64 rfl rfl ?_
                refine mm_iload dX13_apart_65 rfl rfl ?_
                refine mm_iload dX13_apart_67 rfl rfl ?_
                refine mm_V5g (M1 := M) dX13_apart_69 rfl lk_X13_698 (c := 183) rfl (by decide) rfl (by simp) (by simp) (by simp) (by simp) (by simp) rfl rfl rfl (c_X13_leastApart hR hK (by omega) (by omega) hy1 hv1 (by omega) q1 q2 hp1 hp2) ?_
                rintro _ N69 ⟨rfl, p69⟩
                change mm_J _ _ _ _ _ _ _ _ _ _
                have hR69 : mm_Rf N69 := p69.1
                refine mm_goto dX13_apart_72 ?_
                refine mm_iret dX13_apart_77 rfl rfl ?_
                exact ⟨rfl, p69⟩
          · exfalso; omega
theorem c_X13_apart0 (hR : mm_Rf M) (hx : mm_R x) (hy : mm_R y) (hu : mm_R u) (hv : mm_R v) (hk : mm_R k) (hl : ∀ k : Nat, k < 6 → kl_ok M k) (hno : ¬ ((((0 ≤ x ∧ x ≤ 5) ∧ (0 ≤ y ∧ y ≤ 40) ∧ (0 ≤ u ∧ u ≤ 5) ∧ (0 ≤ v ∧ v ≤ 40)) ∧ 0 ≤ k ∧ k ≤ 99) ∧ 0 < M 216 x.toNat ∧ 0 < M 216 u.toNat)) :
    mm_Fn X Y_X13_apart 243 [(2, 184), (0, x), (0, y), (0, u), (0, v), (0, k)] M (0, if ((0 ≤ x ∧ x ≤ 5) ∧ (0 ≤ y ∧ y ≤ 40) ∧ (0 ≤ u ∧ u ≤ 5) ∧ (0 ≤ v ∧ v ≤ 40)) ∧ 0 ≤ k ∧ k ≤ 99 then -4 else -2) M := by
  refine mm_startF (ls := [(2, 184), (0, x), (0, y), (0, u), (0, v), (0, k)]) rfl ?_
  refine mm_iload_n dX13_apart_0 rfl rfl ?_
  refine mm_S1i dX13_apart_1 rfl lk_X13_629 (by simp) rfl rfl rfl (c_X13_isSlot (by omega)) ?_
  refine mm_ifeqb dX13_apart_4 (fun h4 => ?_) (fun h4 => ?_)
  · refine mm_bipush dX13_apart_42 rfl (by decide) ?_
    refine mm_iret dX13_apart_44 rfl rfl ?_
    exact mm_fin (by rw [if_neg (by omega)]) rfl
  · refine mm_iload_n dX13_apart_7 rfl rfl ?_
    refine mm_S1i dX13_apart_8 rfl lk_X13_629 (by simp) rfl rfl rfl (c_X13_isSlot (by omega)) ?_
    refine mm_ifeqb dX13_apart_11 (fun h11 => ?_) (fun h11 => ?_)
    · refine mm_bipush dX13_apart_42 rfl (by decide) ?_
      refine mm_iret dX13_apart_44 rfl rfl ?_
      exact mm_fin (by rw [if_neg (by omega)]) rfl
    · refine mm_iload_n dX13_apart_14 rfl rfl ?_
      refine mm_S1i dX13_apart_15 rfl lk_X13_693 (by simp) rfl rfl rfl (c_X13_isSite (by omega)) ?_
      refine mm_ifeqb dX13_apart_18 (fun h18 => ?_) (fun h18 => ?_)
      · refine mm_bipush dX13_apart_42 rfl (by decide) ?_
        refine mm_iret dX13_apart_44 rfl rfl ?_
        exact mm_fin (by rw [if_neg (by omega)]) rfl
      · refine mm_iload dX13_apart_21 rfl rfl ?_
        refine mm_S1i dX13_apart_23 rfl lk_X13_693 (by simp) rfl rfl rfl (c_X13_isSite (by omega)) ?_
        refine mm_ifeqb dX13_apart_26 (fun h26 => ?_) (fun h26 => ?_)
        · refine mm_bipush dX13_apart_42 rfl (by decide) ?_
          refine mm_iret dX13_apart_44 rfl rfl ?_
          exact mm_fin (by rw [if_neg (by omega)]) rfl
        · refine mm_iload dX13_apart_29 rfl rfl ?_
          refine mm_i2l dX13_apart_31 rfl (by omega) ?_
          refine mm_lconst0 dX13_apart_32 rfl ?_
          refine mm_ldc2 dX13_apart_33 rfl kc_X13_696 ?_
          refine mm_S3i dX13_apart_36 rfl lk_X13_5 (by simp) (by simp) (by simp) rfl rfl rfl (c_X13_in (by omega) (by omega) (by omega)) ?_
          refine mm_ifneb dX13_apart_39 (fun h39 => ?_) (fun h39 => ?_)
          · refine mm_aload_n dX13_apart_45 rfl rfl ?_
            refine mm_iload_n dX13_apart_46 rfl rfl ?_
            refine mm_V1i dX13_apart_47 rfl lk_X13_673 (c := 183) rfl (by decide) rfl (by simp) rfl rfl rfl (c_X13_isKept hR (by omega) (by have := (hl x.toNat (by omega)).1; omega)) ?_
            refine mm_ifeqb dX13_apart_50 (fun h50 => ?_) (fun h50 => ?_)
            · refine mm_bipush dX13_apart_75 rfl (by decide) ?_
              refine mm_iret dX13_apart_77 rfl rfl ?_
              exact mm_fin (by rw [if_pos (by omega)]) rfl
            · refine mm_aload_n dX13_apart_53 rfl rfl ?_
              refine mm_iload_n dX13_apart_54 rfl rfl ?_
              refine mm_V1i dX13_apart_55 rfl lk_X13_673 (c := 183) rfl (by decide) rfl (by simp) rfl rfl rfl (c_X13_isKept hR (by omega) (by have := (hl u.toNat (by omega)).1; omega)) ?_
              refine mm_ifeqb dX13_apart_58 (fun h58 => ?_) (fun h58 => ?_)
              · refine mm_bipush dX13_apart_75 rfl (by decide) ?_
                refine mm_iret dX13_apart_77 rfl rfl ?_
                exact mm_fin (by rw [if_pos (by omega)]) rfl
              · exact absurd ⟨⟨⟨h4, h18, h11, h26⟩, h39⟩, h50, h58⟩ hno
          · refine mm_bipush dX13_apart_42 rfl (by decide) ?_
            refine mm_iret dX13_apart_44 rfl rfl ?_
            exact mm_fin (by rw [if_neg (by omega)]) rfl
theorem c_X13_shift1 (hR : mm_Rf M) (hK : mm_KV (mm_rk M)) (hs : (0 ≤ x ∧ x ≤ 5) ∧ (0 ≤ y ∧ y ≤ 40) ∧ (0 ≤ u ∧ u ≤ 5) ∧ (0 ≤ v ∧ v ≤ 40)) (hl : ∀ k : Nat, k < 6 → kl_ok M k) (hp : 0 < M 216 x.toNat ∧ 0 < M 216 u.toNat) :
    mm_C X Y_X13_shift 243 243 [(2, 184), (0, x), (0, y), (0, u), (0, v)] M (fun r M' => r = (0, max 0 (kb_best (fun k => kn_a 1000000 (kn_e (mm_rk M) (kl_S M x.toNat) (kl_S M u.toNat) (M 216 x.toNat).toNat (M 216 u.toNat).toNat k y v) ((M 216 x.toNat).toNat * (M 216 u.toNat).toNat)) (M 216 u.toNat).toNat).1) ∧ mm_Rf M' ∧ mm_rg M M' ∧ (∀ a, a ≠ 226 → a ≠ 227 → M' a = M a)) := by
  obtain ⟨hx1, hy1, hu1, hv1⟩ := id hs
  obtain ⟨hp1, hp2⟩ := hp
  have q1 := hl x.toNat (by omega)
  have q2 := hl u.toNat (by omega)
  have q1l := q1.1
  have q2l := q2.1
  have hG0 := mm_rg.rf M
  obtain ⟨f, hf⟩ : ∃ f : Nat → Int, f = (fun k => kn_a 1000000 (kn_e (mm_rk M) (kl_S M x.toNat) (kl_S M u.toNat) (M 216 x.toNat).toNat (M 216 u.toNat).toNat k y v) ((M 216 x.toNat).toNat * (M 216 u.toNat).toNat)) := ⟨_, rfl⟩
  have hfb : ∀ i, 0 ≤ f i ∧ f i ≤ 1000000 := by intro i; rw [hf]; exact kn_ab (by decide) (fun t => (kn_eb hK hy1 hv1 t).1) _
  rw [← hf]
  refine mm_start (ls := [(2, 184), (0, x), (0, y), (0, u), (0, v), (9, 0), (9, 0), (9, 0), (9, 0)]) rfl ?_
  have loop : ∀ i : Nat, i ≤ (M 216 u.toNat).toNat → ∀ (N : mm_M) (l8 : mm_V), mm_Rf N → mm_rg M N → (∀ a, a ≠ 226 → a ≠ 227 → N a = M a) → mm_J X Y_X13_shift 243 243 243 60 [(2, 184), (0, x), (0, y), (0, u), (0, v), (0, max 0 (kb_best f i).1), (0, (kb_best f i).2), (0, (i : Int)), l8] [] N (fun r M' => r = (0, max 0 (kb_best f (M 216 u.toNat).toNat).1) ∧ mm_Rf M' ∧ mm_rg M M' ∧ (∀ a, a ≠ 226 → a ≠ 227 → M' a = M a)) := by
    refine mm_lp ?_
    intro i hi ih N l8 hRN hG hfr
    have f216 : N 216 = M 216 := hfr 216 (by decide) (by decide)
    have hbb := kb_bestb (f := f) (B := 1000000) (by decide) (n := i) (fun j _ => hfb j)
    by_cases hlt : i < (M 216 u.toNat).toNat
    · have hfi := hfb i
      have ih := ih hlt
      rw [kb_best] at ih
      have ok : ∀ j : Nat, kl_ok M j → kl_ok N j := by
        intro j hj
        unfold kl_ok kl_S at hj ⊢
        rw [f216, hfr 217 (by decide) (by decide), hfr 219 (by decide) (by decide), hG.k]
        exact hj
      have cn := c_X13_leastApart (X := X) (M := N) (x := x) (y := y) (u := u) (v := v) (k := (i : Int)) hRN (by rw [hG.k]; exact hK) (by omega) (by omega) hy1 hv1 (by omega) (ok _ q1) (ok _ q2) (by rw [f216]; exact hp1) (by rw [f216]; exact hp2)
      have ef : kn_a 1000000 (kn_e (mm_rk M) (kl_S M x.toNat) (kl_S M u.toNat) (M 216 x.toNat).toNat (M 216 u.toNat).toNat i y v) ((M 216 x.toNat).toNat * (M 216 u.toNat).toNat) = f i := by rw [hf]
      unfold kl_S at cn ef
      rw [f216, hfr 217 (by decide) (by decide), hfr 219 (by decide) (by decide), hG.k, Int.toNat_natCast, ef] at cn
      refine mm_iload dX13_shift_60 rfl rfl ?_
      refine mm_aload_n dX13_shift_62 rfl rfl ?_
      refine mm_getr dX13_shift_63 rfl fl_X13_295 (c := 183) rfl (by decide) rfl rfl (hRN.at (c := 183) (i := 64) (v := 217) rfl (by decide)) ?_
      refine mm_iload_n dX13_shift_66 rfl rfl ?_
      refine mm_iald dX13_shift_67 rfl (c := 216) rfl (by decide) rfl (by omega) (by omega) ?_
      rw [f216]
      refine mm_icge dX13_shift_68 (by omega) (by omega) (fun h68 => ?_) (fun h68 => ?_)
      · exfalso; omega
      · refine mm_aload_n dX13_shift_71 rfl rfl ?_
        refine mm_iload_n dX13_shift_72 rfl rfl ?_
        refine mm_iload_n dX13_shift_73 rfl rfl ?_
        refine mm_iload_n dX13_shift_74 rfl rfl ?_
        refine mm_iload dX13_shift_75 rfl rfl ?_
        refine mm_iload dX13_shift_77 rfl rfl ?_
        refine mm_V5g (M1 := N) dX13_shift_79 rfl lk_X13_698 (c := 183) rfl (by decide) rfl (by simp) (by simp) (by simp) (by simp) (by simp) rfl rfl rfl (cn) ?_
        rintro _ N79 ⟨rfl, p79⟩
        change mm_J _ _ _ _ _ _ _ _ _ _
        have hR79 : mm_Rf N79 := p79.1
        have hG79 : mm_rg M N79 := hG.tr p79.2.1
        refine mm_istore dX13_shift_82 rfl (Nat.le_of_ble_eq_true rfl) rfl ?_
        refine mm_iload dX13_shift_84 rfl rfl ?_
        refine mm_iload dX13_shift_86 rfl rfl ?_
        refine mm_icgt dX13_shift_88 (by omega) (by omega) (fun h88 => ?_) (fun h88 => ?_)
        · refine mm_iload dX13_shift_94 rfl rfl ?_
          refine mm_istore dX13_shift_96 rfl (Nat.le_of_ble_eq_true rfl) rfl ?_
          refine mm_iload dX13_shift_98 rfl rfl ?_
          refine mm_istore dX13_shift_100 rfl (Nat.le_of_ble_eq_true rfl) rfl ?_
          refine mm_iinc dX13_shift_102 rfl rfl (Nat.le_of_ble_eq_true rfl) rfl ?_
          refine mm_goto dX13_shift_105 ?_
          have hfr2 : ∀ a, a ≠ 226 → a ≠ 227 → N79 a = M a := fun a a1 a2 => (p79.2.2 a a1 a2).trans (hfr a a1 a2)
          first
          | (rw [if_pos (by omega), show max 0 (i : Int) = (i : Int) by omega] at ih; exact ih _ _ hR79 hG79 hfr2)
          | (rw [if_neg (by omega)] at ih; exact ih _ _ hR79 hG79 hfr2)
        · refine mm_goto dX13_shift_91 ?_
          refine mm_iinc dX13_shift_102 rfl rfl (Nat.le_of_ble_eq_true rfl) rfl ?_
          refine mm_goto dX13_shift_105 ?_
          have hfr2 : ∀ a, a ≠ 226 → a ≠ 227 → N79 a = M a := fun a a1 a2 => (p79.2.2 a a1 a2).trans (hfr a a1 a2)
          first
          | (rw [if_pos (by omega), show max 0 (i : Int) = (i : Int) by omega] at ih; exact ih _ _ hR79 hG79 hfr2)
          | (rw [if_neg (by omega)] at ih; exact ih _ _ hR79 hG79 hfr2)
    · have ei : i = (M 216 u.toNat).toNat := by omega
      refine mm_iload dX13_shift_60 rfl rfl ?_
      refine mm_aload_n dX13_shift_62 rfl rfl ?_
      refine mm_getr dX13_shift_63 rfl fl_X13_295 (c := 183) rfl (by decide) rfl rfl (hRN.at (c := 183) (i := 64) (v := 217) rfl (by decide)) ?_
      refine mm_iload_n dX13_shift_66 rfl rfl ?_
      refine mm_iald dX13_shift_67 rfl (c := 216) rfl (by decide) rfl (by omega) (by omega) ?_
      rw [f216]
      refine mm_icge dX13_shift_68 (by omega) (by omega) (fun h68 => ?_) (fun h68 => ?_)
      · refine mm_iload dX13_shift_108 rfl rfl ?_
        refine mm_iret dX13_shift_110 rfl rfl ?_
        exact ⟨by rw [ei], hRN, hG, hfr⟩
      · exfalso; omega
  refine mm_iload_n dX13_shift_0 rfl rfl ?_
  refine mm_S1i dX13_shift_1 rfl lk_X13_629 (by simp) rfl rfl rfl (c_X13_isSlot (by omega)) ?_
  refine mm_ifeqb dX13_shift_4 (fun h4 => ?_) (fun h4 => ?_)
  · exact absurd hx1 h4
  · refine mm_iload_n dX13_shift_7 rfl rfl ?_
    refine mm_S1i dX13_shift_8 rfl lk_X13_629 (by simp) rfl rfl rfl (c_X13_isSlot (by omega)) ?_
    refine mm_ifeqb dX13_shift_11 (fun h11 => ?_) (fun h11 => ?_)
    · exact absurd hu1 h11
    · refine mm_iload_n dX13_shift_14 rfl rfl ?_
      refine mm_S1i dX13_shift_15 rfl lk_X13_693 (by simp) rfl rfl rfl (c_X13_isSite (by omega)) ?_
      refine mm_ifeqb dX13_shift_18 (fun h18 => ?_) (fun h18 => ?_)
      · exact absurd hy1 h18
      · refine mm_iload dX13_shift_21 rfl rfl ?_
        refine mm_S1i dX13_shift_23 rfl lk_X13_693 (by simp) rfl rfl rfl (c_X13_isSite (by omega)) ?_
        refine mm_ifneb dX13_shift_26 (fun h26 => ?_) (fun h26 => ?_)
        · refine mm_aload_n dX13_shift_32 rfl rfl ?_
          refine mm_iload_n dX13_shift_33 rfl rfl ?_
          refine mm_V1i dX13_shift_34 rfl lk_X13_673 (c := 183) rfl (by decide) rfl (by simp) rfl rfl rfl (c_X13_isKept hR (by omega) (by omega)) ?_
          refine mm_ifeqb dX13_shift_37 (fun h37 => ?_) (fun h37 => ?_)
          · exact absurd hp1 h37
          · refine mm_aload_n dX13_shift_40 rfl rfl ?_
            refine mm_iload_n dX13_shift_41 rfl rfl ?_
            refine mm_V1i dX13_shift_42 rfl lk_X13_673 (c := 183) rfl (by decide) rfl (by simp) rfl rfl rfl (c_X13_isKept hR (by omega) (by omega)) ?_
            refine mm_ifneb dX13_shift_45 (fun h45 => ?_) (fun h45 => ?_)
            · refine mm_iconst dX13_shift_51 rfl ?_
              refine mm_istore dX13_shift_52 rfl (Nat.le_of_ble_eq_true rfl) rfl ?_
              refine mm_iconst dX13_shift_54 rfl ?_
              refine mm_istore dX13_shift_55 rfl (Nat.le_of_ble_eq_true rfl) rfl ?_
              refine mm_iconst dX13_shift_57 rfl ?_
              refine mm_istore dX13_shift_58 rfl (Nat.le_of_ble_eq_true rfl) rfl ?_
              exact loop 0 (Nat.zero_le _) M _ hR hG0 (fun _ _ _ => rfl)
            · exact absurd hp2 h45
        · exact absurd hv1 h26
theorem c_X13_shift0 (hR : mm_Rf M) (hx : mm_R x) (hy : mm_R y) (hu : mm_R u) (hv : mm_R v) (hl : ∀ k : Nat, k < 6 → kl_ok M k) (hno : ¬ (((0 ≤ x ∧ x ≤ 5) ∧ (0 ≤ y ∧ y ≤ 40) ∧ (0 ≤ u ∧ u ≤ 5) ∧ (0 ≤ v ∧ v ≤ 40)) ∧ 0 < M 216 x.toNat ∧ 0 < M 216 u.toNat)) :
    mm_Fn X Y_X13_shift 243 [(2, 184), (0, x), (0, y), (0, u), (0, v)] M (0, if (0 ≤ x ∧ x ≤ 5) ∧ (0 ≤ y ∧ y ≤ 40) ∧ (0 ≤ u ∧ u ≤ 5) ∧ (0 ≤ v ∧ v ≤ 40) then -4 else -2) M := by
  refine mm_startF (ls := [(2, 184), (0, x), (0, y), (0, u), (0, v), (9, 0), (9, 0), (9, 0), (9, 0)]) rfl ?_
  refine mm_iload_n dX13_shift_0 rfl rfl ?_
  refine mm_S1i dX13_shift_1 rfl lk_X13_629 (by simp) rfl rfl rfl (c_X13_isSlot (by omega)) ?_
  refine mm_ifeqb dX13_shift_4 (fun h4 => ?_) (fun h4 => ?_)
  · refine mm_bipush dX13_shift_29 rfl (by decide) ?_
    refine mm_iret dX13_shift_31 rfl rfl ?_
    exact mm_fin (by rw [if_neg (by omega)]) rfl
  · refine mm_iload_n dX13_shift_7 rfl rfl ?_
    refine mm_S1i dX13_shift_8 rfl lk_X13_629 (by simp) rfl rfl rfl (c_X13_isSlot (by omega)) ?_
    refine mm_ifeqb dX13_shift_11 (fun h11 => ?_) (fun h11 => ?_)
    · refine mm_bipush dX13_shift_29 rfl (by decide) ?_
      refine mm_iret dX13_shift_31 rfl rfl ?_
      exact mm_fin (by rw [if_neg (by omega)]) rfl
    · refine mm_iload_n dX13_shift_14 rfl rfl ?_
      refine mm_S1i dX13_shift_15 rfl lk_X13_693 (by simp) rfl rfl rfl (c_X13_isSite (by omega)) ?_
      refine mm_ifeqb dX13_shift_18 (fun h18 => ?_) (fun h18 => ?_)
      · refine mm_bipush dX13_shift_29 rfl (by decide) ?_
        refine mm_iret dX13_shift_31 rfl rfl ?_
        exact mm_fin (by rw [if_neg (by omega)]) rfl
      · refine mm_iload dX13_shift_21 rfl rfl ?_
        refine mm_S1i dX13_shift_23 rfl lk_X13_693 (by simp) rfl rfl rfl (c_X13_isSite (by omega)) ?_
        refine mm_ifneb dX13_shift_26 (fun h26 => ?_) (fun h26 => ?_)
        · refine mm_aload_n dX13_shift_32 rfl rfl ?_
          refine mm_iload_n dX13_shift_33 rfl rfl ?_
          refine mm_V1i dX13_shift_34 rfl lk_X13_673 (c := 183) rfl (by decide) rfl (by simp) rfl rfl rfl (c_X13_isKept hR (by omega) (by have := (hl x.toNat (by omega)).1; omega)) ?_
          refine mm_ifeqb dX13_shift_37 (fun h37 => ?_) (fun h37 => ?_)
          · refine mm_bipush dX13_shift_48 rfl (by decide) ?_
            refine mm_iret dX13_shift_50 rfl rfl ?_
            exact mm_fin (by rw [if_pos (by omega)]) rfl
          · refine mm_aload_n dX13_shift_40 rfl rfl ?_
            refine mm_iload_n dX13_shift_41 rfl rfl ?_
            refine mm_V1i dX13_shift_42 rfl lk_X13_673 (c := 183) rfl (by decide) rfl (by simp) rfl rfl rfl (c_X13_isKept hR (by omega) (by have := (hl u.toNat (by omega)).1; omega)) ?_
            refine mm_ifneb dX13_shift_45 (fun h45 => ?_) (fun h45 => ?_)
            · exact absurd ⟨⟨h4, h18, h11, h26⟩, h37, h45⟩ hno
            · refine mm_bipush dX13_shift_48 rfl (by decide) ?_
              refine mm_iret dX13_shift_50 rfl rfl ?_
              exact mm_fin (by rw [if_pos (by omega)]) rfl
        · refine mm_bipush dX13_shift_29 rfl (by decide) ?_
          refine mm_iret dX13_shift_31 rfl rfl ?_
          exact mm_fin (by rw [if_neg (by omega)]) rfl
end

