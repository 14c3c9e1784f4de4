/-! ===== how near two loops come: one tick after another ===== -/
def kn_d (K S T : Nat → Int) (l m k : Nat) (w : Int) (t : Nat) : Int := ((w + ks_col K (T ((k + t) % m)) - ks_col K (S (t % l))).natAbs : Int) + ((ks_row K (T ((k + t) % m)) - ks_row K (S (t % l))).natAbs : Int)
def kn (d : Nat → Int) : Nat → Int
  | 0 => 1000
  | n + 1 => min (kn d n) (d n)
theorem kn_b {d : Nat → Int} (hd : ∀ t, 0 ≤ d t) : ∀ n, 0 ≤ kn d n ∧ kn d n ≤ 1000
  | 0 => by simp [kn]
  | n + 1 => by
    have h1 := kn_b hd n
    have h2 := hd n
    unfold kn
    omega
section
variable {X : mm_X} {M : mm_M} {w : Int} {rc rd l m k n : Nat}
theorem l_X1_nearest (hR : mm_Rf M) (hK : mm_CK M) (hrc : mm_rw rc 100) (hrd : mm_rw rd 100) (hl : M rc 2 = (l : Int) ∧ 1 ≤ l ∧ l ≤ 100) (hm : M rd 2 = (m : Int) ∧ 1 ≤ m ∧ m ≤ 100) (hw : -1000 ≤ w ∧ w ≤ 1000) (hn : n ≤ 10000)
    (hs : ∀ i : Nat, i < l → ks_st (M 4) (M (rc + 2) i)) (ht : ∀ i : Nat, i < m → ks_st (M 4) (M (rd + 2) i)) {z4 : Int} :
    ∀ (c t : Nat) (l10 l11 l12 : Nat × Int), t + c = n → mm_J X Y_X1_nearest 243 243 243 47 [(2, 145), (2, (rc : Int) + 1), (2, (rd : Int) + 1), (0, w), (0, z4), (0, kn (kn_d (M 4) (M (rc + 2)) (M (rd + 2)) l m k w) t), (0, ((t % l : Nat) : Int)), (0, (((k + t) % m : Nat) : Int)), (0, (n : Int)), (0, (t : Int)), l10, l11, l12] [] M
      (fun r' M'' => r' = (0, kn (kn_d (M 4) (M (rc + 2)) (M (rd + 2)) l m k w) n) ∧ M'' = M) := by
  have hnb := ks_nb hK.1
  have hK0 := hK.1.1
  have hK1 := hK.1.2.1
  have hd0 : ∀ t, 0 ≤ kn_d (M 4) (M (rc + 2)) (M (rd + 2)) l m k w t := by intro t; unfold kn_d; omega
  intro c
  induction c with
  | zero =>
    intro t l10 l11 l12 h1
    have et : t = n := by omega
    refine mm_iload dX1_nearest_47 rfl rfl ?_
    refine mm_iload dX1_nearest_49 rfl rfl ?_
    refine mm_icge dX1_nearest_51 (by omega) (by omega) (fun h51 => ?_) (fun h51 => ?_)
    · refine mm_iload dX1_nearest_182 rfl rfl ?_
      refine mm_iret dX1_nearest_184 rfl rfl ?_
      exact mm_fin (by rw [et]) rfl
    · exfalso; omega
  | succ c ih =>
    intro t l10 l11 l12 h1
    have b1 := Nat.mod_lt t (show 0 < l by omega)
    have b2 := Nat.mod_lt (k + t) (show 0 < m by omega)
    have s1 := hs (t % l) b1
    have s2 := ht ((k + t) % m) b2
    have t1 := hK.tab s1
    have t2 := hK.tab s2
    have c1 := ks_colb hK.1 (M (rc + 2) (t % l))
    have c2 := ks_colb hK.1 (M (rd + 2) ((k + t) % m))
    have r1 := ks_rowb hK.1 (M (rc + 2) (t % l))
    have r2 := ks_rowb hK.1 (M (rd + 2) ((k + t) % m))
    have kb := kn_b hd0 t
    have p1 := s1.1
    have p2 := s1.2
    have p3 := s2.1
    have p4 := s2.2
    have m1 := mm_modstep (t := t) (len := l) (by omega)
    have m2 := mm_modstep (t := k + t) (len := m) (by omega)
    have fin : ∀ (y z : Int) (l10 l11 l12 : Nat × Int), y = (((t + 1) % l : Nat) : Int) → z = (((k + (t + 1)) % m : Nat) : Int) → mm_J X Y_X1_nearest 243 243 243 174 [(2, 145), (2, (rc : Int) + 1), (2, (rd : Int) + 1), (0, w), (0, z4), (0, kn (kn_d (M 4) (M (rc + 2)) (M (rd + 2)) l m k w) (t + 1)), (0, y), (0, (((k + t) % m : Nat) : Int)), (0, (n : Int)), (0, (t : Int)), l10, l11, l12] [(0, z)] M
        (fun r' M'' => r' = (0, kn (kn_d (M 4) (M (rc + 2)) (M (rd + 2)) l m k w) n) ∧ M'' = M) := by
      intro y z l10 l11 l12 hy hz
      subst hy hz
      refine mm_istore dX1_nearest_174 rfl (Nat.le_of_ble_eq_true rfl) rfl ?_
      refine mm_iinc dX1_nearest_176 rfl rfl (Nat.le_of_ble_eq_true rfl) rfl ?_
      refine mm_goto dX1_nearest_179 ?_
      exact ih (t + 1) _ _ _ (by omega)
    refine mm_iload dX1_nearest_47 rfl rfl ?_
    refine mm_iload dX1_nearest_49 rfl rfl ?_
    refine mm_icge dX1_nearest_51 (by omega) (by omega) (fun h51 => ?_) (fun h51 => ?_)
    · exfalso; omega
    · refine mm_aload_n dX1_nearest_54 rfl rfl ?_
      refine mm_getr dX1_nearest_55 rfl fl_X1_65 (c := rc) rfl hrc.c0 hrc.1 rfl (hrc.states hR) ?_
      refine mm_iload dX1_nearest_58 rfl rfl ?_
      refine mm_ialk (k0 := (t % l)) dX1_nearest_60 rfl (c := rc + 2) rfl hrc.c2 hrc.2.2.1 (by omega) (by omega) ?_
      refine mm_istore dX1_nearest_61 rfl (Nat.le_of_ble_eq_true rfl) rfl ?_
      refine mm_aload_n dX1_nearest_63 rfl rfl ?_
      refine mm_getr dX1_nearest_64 rfl fl_X1_65 (c := rd) rfl hrd.c0 hrd.1 rfl (hrd.states hR) ?_
      refine mm_iload dX1_nearest_67 rfl rfl ?_
      refine mm_ialk (k0 := ((k + t) % m)) dX1_nearest_69 rfl (c := rd + 2) rfl hrd.c2 hrd.2.2.1 (by omega) (by omega) ?_
      refine mm_istore dX1_nearest_70 rfl (Nat.le_of_ble_eq_true rfl) rfl ?_
      refine mm_iload_n dX1_nearest_72 rfl rfl ?_
      refine mm_aload_n dX1_nearest_73 rfl rfl ?_
      refine mm_getr dX1_nearest_74 rfl fl_X1_24 (c := 144) rfl (by decide) rfl rfl (hR.at (c := 144) (i := 0) (v := 4) rfl (by decide)) ?_
      refine mm_getr dX1_nearest_77 rfl fl_X1_68 (c := 3) rfl (by decide) rfl rfl (hR.at (c := 3) (i := 3) (v := 7) rfl (by decide)) ?_
      refine mm_iload dX1_nearest_80 rfl rfl ?_
      refine mm_iald dX1_nearest_82 rfl (c := 6) rfl (by decide) rfl (by omega) (by omega) ?_
      rw [t2.1]
      refine mm_iadd dX1_nearest_83 rfl ?_
      refine mm_aload_n dX1_nearest_84 rfl rfl ?_
      refine mm_getr dX1_nearest_85 rfl fl_X1_24 (c := 144) rfl (by decide) rfl rfl (hR.at (c := 144) (i := 0) (v := 4) rfl (by decide)) ?_
      refine mm_getr dX1_nearest_88 rfl fl_X1_68 (c := 3) rfl (by decide) rfl rfl (hR.at (c := 3) (i := 3) (v := 7) rfl (by decide)) ?_
      refine mm_iload dX1_nearest_91 rfl rfl ?_
      refine mm_iald dX1_nearest_93 rfl (c := 6) rfl (by decide) rfl (by omega) (by omega) ?_
      rw [t1.1]
      refine mm_isub dX1_nearest_94 rfl ?_
      refine mm_abs dX1_nearest_95 rfl lm_X1_73 rfl rfl (by simp) (by omega) ?_
      refine mm_istore dX1_nearest_98 rfl (Nat.le_of_ble_eq_true rfl) rfl ?_
      refine mm_iload dX1_nearest_100 rfl rfl ?_
      refine mm_iload dX1_nearest_102 rfl rfl ?_
      refine mm_aload_n dX1_nearest_104 rfl rfl ?_
      refine mm_getr dX1_nearest_105 rfl fl_X1_24 (c := 144) rfl (by decide) rfl rfl (hR.at (c := 144) (i := 0) (v := 4) rfl (by decide)) ?_
      refine mm_getr dX1_nearest_108 rfl fl_X1_76 (c := 3) rfl (by decide) rfl rfl (hR.at (c := 3) (i := 4) (v := 8) rfl (by decide)) ?_
      refine mm_iload dX1_nearest_111 rfl rfl ?_
      refine mm_iald dX1_nearest_113 rfl (c := 7) rfl (by decide) rfl (by omega) (by omega) ?_
      rw [t2.2.1]
      refine mm_aload_n dX1_nearest_114 rfl rfl ?_
      refine mm_getr dX1_nearest_115 rfl fl_X1_24 (c := 144) rfl (by decide) rfl rfl (hR.at (c := 144) (i := 0) (v := 4) rfl (by decide)) ?_
      refine mm_getr dX1_nearest_118 rfl fl_X1_76 (c := 3) rfl (by decide) rfl rfl (hR.at (c := 3) (i := 4) (v := 8) rfl (by decide)) ?_
      refine mm_iload dX1_nearest_121 rfl rfl ?_
      refine mm_iald dX1_nearest_123 rfl (c := 7) rfl (by decide) rfl (by omega) (by omega) ?_
      rw [t1.2.1]
      refine mm_isub dX1_nearest_124 rfl ?_
      refine mm_abs dX1_nearest_125 rfl lm_X1_73 rfl rfl (by simp) (by omega) ?_
      refine mm_iadd dX1_nearest_128 rfl ?_
      refine mm_min dX1_nearest_129 rfl lm_X1_79 rfl rfl (by simp) (by omega) (by omega) ?_
      refine mm_istore dX1_nearest_132 rfl (Nat.le_of_ble_eq_true rfl) rfl ?_
      refine mm_iload dX1_nearest_134 rfl rfl ?_
      refine mm_iconst dX1_nearest_136 rfl ?_
      refine mm_iadd dX1_nearest_137 rfl ?_
      refine mm_aload_n dX1_nearest_138 rfl rfl ?_
      refine mm_get (kd := 0) dX1_nearest_139 rfl fl_X1_53 (c := rc) rfl hrc.c0 hrc.1 rfl ?_
      refine mm_icge dX1_nearest_142 (by omega) (by omega) (fun h142 => ?_) (fun h142 => ?_)
      · refine mm_iconst dX1_nearest_152 rfl ?_
        refine mm_istore dX1_nearest_153 rfl (Nat.le_of_ble_eq_true rfl) rfl ?_
        refine mm_iload dX1_nearest_155 rfl rfl ?_
        refine mm_iconst dX1_nearest_157 rfl ?_
        refine mm_iadd dX1_nearest_158 rfl ?_
        refine mm_aload_n dX1_nearest_159 rfl rfl ?_
        refine mm_get (kd := 0) dX1_nearest_160 rfl fl_X1_53 (c := rd) rfl hrd.c0 hrd.1 rfl ?_
        refine mm_icge dX1_nearest_163 (by omega) (by omega) (fun h163 => ?_) (fun h163 => ?_)
        · refine mm_iconst dX1_nearest_173 rfl ?_
          refine fin _ _ _ _ _ ?_ ?_
          · rw [← m1]
            first
            | (rw [if_pos (by omega)]; omega)
            | (rw [if_neg (by omega)]; omega)
          · rw [← Nat.add_assoc, ← m2]
            first
            | (rw [if_pos (by omega)]; omega)
            | (rw [if_neg (by omega)]; omega)
        · refine mm_iload dX1_nearest_166 rfl rfl ?_
          refine mm_iconst dX1_nearest_168 rfl ?_
          refine mm_iadd dX1_nearest_169 rfl ?_
          refine mm_goto dX1_nearest_170 ?_
          refine fin _ _ _ _ _ ?_ ?_
          · rw [← m1]
            first
            | (rw [if_pos (by omega)]; omega)
            | (rw [if_neg (by omega)]; omega)
          · rw [← Nat.add_assoc, ← m2]
            first
            | (rw [if_pos (by omega)]; omega)
            | (rw [if_neg (by omega)]; omega)
      · refine mm_iload dX1_nearest_145 rfl rfl ?_
        refine mm_iconst dX1_nearest_147 rfl ?_
        refine mm_iadd dX1_nearest_148 rfl ?_
        refine mm_goto dX1_nearest_149 ?_
        refine mm_istore dX1_nearest_153 rfl (Nat.le_of_ble_eq_true rfl) rfl ?_
        refine mm_iload dX1_nearest_155 rfl rfl ?_
        refine mm_iconst dX1_nearest_157 rfl ?_
        refine mm_iadd dX1_nearest_158 rfl ?_
        refine mm_aload_n dX1_nearest_159 rfl rfl ?_
        refine mm_get (kd := 0) dX1_nearest_160 rfl fl_X1_53 (c := rd) rfl hrd.c0 hrd.1 rfl ?_
        refine mm_icge dX1_nearest_163 (by omega) (by omega) (fun h163 => ?_) (fun h163 => ?_)
        · refine mm_iconst dX1_nearest_173 rfl ?_
          refine fin _ _ _ _ _ ?_ ?_
          · rw [← m1]
            first
            | (rw [if_pos (by omega)]; omega)
            | (rw [if_neg (by omega)]; omega)
          · rw [← Nat.add_assoc, ← m2]
            first
            | (rw [if_pos (by omega)]; omega)
            | (rw [if_neg (by omega)]; omega)
        · refine mm_iload dX1_nearest_166 rfl rfl ?_
          refine mm_iconst dX1_nearest_168 rfl ?_
          refine mm_iadd dX1_nearest_169 rfl ?_
          refine mm_goto dX1_nearest_170 ?_
          refine fin _ _ _ _ _ ?_ ?_
          · rw [← m1]
            first
            | (rw [if_pos (by omega)]; omega)
            | (rw [if_neg (by omega)]; omega)
          · rw [← Nat.add_assoc, ← m2]
            first
            | (rw [if_pos (by omega)]; omega)
            | (rw [if_neg (by omega)]; omega)
end

