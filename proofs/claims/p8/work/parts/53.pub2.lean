/-! ===== KitePower: counts, looped, judged, flown, planned, winds ===== -/
/-- the span told last of those that a test picks, of the first n -/
def kw_last (ok : Nat → Prop) [∀ i, Decidable (ok i)] (v : Nat → Int) : Nat → Int
  | 0 => 1010
  | n + 1 => if ok n then v n else kw_last ok v n
section
variable {X : mm_X} {M : mm_M} {s a m w d p h b sh x y z k l u v t lo hi : Int}
theorem mm_keptref (hR : mm_Rf M) (hk : 0 ≤ k ∧ k ≤ 5) : M 120 k.toNat = ((121 + 3 * k.toNat : Nat) : Int) + 1 := hR.at (mm_rw_kept k.toNat (by omega)).2 (by omega)
theorem c_X11_areKept (hR : mm_Rf M) (hx : 0 ≤ x ∧ x ≤ 5) (hy : 0 ≤ y ∧ y ≤ 5) (hl : ∀ k : Nat, k < 6 → 0 ≤ M (121 + 3 * k) 2 ∧ M (121 + 3 * k) 2 ≤ 100) : mm_Fn X Y_X11_areKept 243 [(2, 1), (0, x), (0, y)] M (0, mm_b (0 < M (121 + 3 * x.toNat) 2 ∧ 0 < M (121 + 3 * y.toNat) 2)) M := by
  have e1 := mm_keptref hR hx
  have e2 := mm_keptref hR hy
  have w1 := (mm_rw_kept x.toNat (by omega)).1
  have w2 := (mm_rw_kept y.toNat (by omega)).1
  have l1 := hl x.toNat (by omega)
  have l2 := hl y.toNat (by omega)
  refine mm_startF (ls := [(2, 1), (0, x), (0, y)]) rfl ?_
  refine mm_aload_n dX11_areKept_0 rfl rfl ?_
  refine mm_getr dX11_areKept_1 rfl fl_X11_60 (c := 0) rfl (by decide) rfl rfl (hR.at (c := 0) (i := 7) (v := 121) rfl (by decide)) ?_
  refine mm_iload_n dX11_areKept_4 rfl rfl ?_
  refine mm_aald dX11_areKept_5 rfl (c := 120) rfl (by decide) rfl (by omega) (by omega) ?_
  rw [e1]
  refine mm_get (kd := 0) dX11_areKept_6 rfl fl_X11_115 (c := 121 + 3 * x.toNat) rfl w1.c0 w1.1 rfl ?_
  refine mm_ifle dX11_areKept_9 (by omega) (fun h9 => ?_) (fun h9 => ?_)
  · refine mm_iconst dX11_areKept_28 rfl ?_
    refine mm_zret dX11_areKept_29 rfl rfl (Or.inl rfl) ?_
    refine mm_fin ?_ rfl
    first
    | exact mm_b1 (by omega)
    | exact mm_b0 (by omega)
  · refine mm_aload_n dX11_areKept_12 rfl rfl ?_
    refine mm_getr dX11_areKept_13 rfl fl_X11_60 (c := 0) rfl (by decide) rfl rfl (hR.at (c := 0) (i := 7) (v := 121) rfl (by decide)) ?_
    refine mm_iload_n dX11_areKept_16 rfl rfl ?_
    refine mm_aald dX11_areKept_17 rfl (c := 120) rfl (by decide) rfl (by omega) (by omega) ?_
    rw [e2]
    refine mm_get (kd := 0) dX11_areKept_18 rfl fl_X11_115 (c := 121 + 3 * y.toNat) rfl w2.c0 w2.1 rfl ?_
    refine mm_ifle dX11_areKept_21 (by omega) (fun h21 => ?_) (fun h21 => ?_)
    · refine mm_iconst dX11_areKept_28 rfl ?_
      refine mm_zret dX11_areKept_29 rfl rfl (Or.inl rfl) ?_
      refine mm_fin ?_ rfl
      first
      | exact mm_b1 (by omega)
      | exact mm_b0 (by omega)
    · refine mm_iconst dX11_areKept_24 rfl ?_
      refine mm_goto dX11_areKept_25 ?_
      refine mm_zret dX11_areKept_29 rfl rfl (Or.inr rfl) ?_
      refine mm_fin ?_ rfl
      first
      | exact mm_b1 (by omega)
      | exact mm_b0 (by omega)
theorem c_X11_count (hR : mm_Rf M) (hx : mm_R x) : mm_Fn X Y_X11_count 243 [(2, 1), (0, x)] M (0, kv_count (M 3 2) (M 11 1) (M 144 1) (M 172 0) (M 174 2) (M 174 3) (M 0 13) (M 1 1) (fun i => M (121 + 3 * i.toNat) 2) x) M := by
  have big : x < 10 ∨ 15 < x ∨ (0 ≤ x - 10 ∧ x - 10 ≤ 5) := by omega
  refine mm_startF (ls := [(2, 1), (0, x)]) rfl ?_
  unfold kv_count
  by_cases hb : 0 ≤ x - 10 ∧ x - 10 ≤ 5
  · have e1 := mm_keptref hR hb
    have w1 := (mm_rw_kept (x - 10).toNat (by omega)).1
    refine mm_iload_n dX11_count_0 rfl rfl ?_
    have hsw : (x < 0 ∨ 7 < x) ∨ x = 0 ∨ x = 1 ∨ x = 2 ∨ x = 3 ∨ x = 4 ∨ x = 5 ∨ x = 6 ∨ x = 7 := by omega
    rcases hsw with h1 | h1 | h1 | h1 | h1 | h1 | h1 | h1 | h1
    · refine mm_tsd (t := 109) dX11_count_1.1 (by omega) h1 (by decide) ?_
      refine mm_iload_n dX11_count_109 rfl rfl ?_
      refine mm_bipush dX11_count_110 rfl (by decide) ?_
      refine mm_iclt dX11_count_112 (by omega) (by omega) (fun h112 => ?_) (fun h112 => ?_)
      · exfalso; omega
      · refine mm_iload_n dX11_count_115 rfl rfl ?_
        refine mm_bipush dX11_count_116 rfl (by decide) ?_
        refine mm_isub dX11_count_118 rfl ?_
        refine mm_S1i dX11_count_119 rfl lk_X11_254 (by simp) rfl rfl rfl (c_X11_isSlot (by omega)) ?_
        refine mm_ifeqb dX11_count_122 (fun h122 => ?_) (fun h122 => ?_)
        · exact absurd hb h122
        · refine mm_aload_n dX11_count_125 rfl rfl ?_
          refine mm_getr dX11_count_126 rfl fl_X11_60 (c := 0) rfl (by decide) rfl rfl (hR.at (c := 0) (i := 7) (v := 121) rfl (by decide)) ?_
          refine mm_iload_n dX11_count_129 rfl rfl ?_
          refine mm_bipush dX11_count_130 rfl (by decide) ?_
          refine mm_isub dX11_count_132 rfl ?_
          refine mm_aald dX11_count_133 rfl (c := 120) rfl (by decide) rfl (by omega) (by omega) ?_
          rw [e1]
          refine mm_get (kd := 0) dX11_count_134 rfl fl_X11_115 (c := 121 + 3 * (x - 10).toNat) rfl w1.c0 w1.1 rfl ?_
          refine mm_goto dX11_count_137 ?_
          refine mm_iret dX11_count_141 rfl rfl ?_
          refine mm_fin ?_ rfl
          first
          | (exfalso; omega)
          | (rw [if_neg (by omega), if_neg (by omega), if_neg (by omega), if_neg (by omega), if_neg (by omega), if_neg (by omega), if_neg (by omega), if_neg (by omega), if_pos (by omega)]; done)
    · refine mm_tsw (t := 48) (k := 0) dX11_count_1.1 (by omega) (by omega) (by omega) (by omega) rfl (by decide) ?_
      refine mm_aload_n dX11_count_48 rfl rfl ?_
      refine mm_getr dX11_count_49 rfl fl_X11_19 (c := 0) rfl (by decide) rfl rfl (hR.at (c := 0) (i := 1) (v := 4) rfl (by decide)) ?_
      refine mm_get (kd := 0) dX11_count_52 rfl fl_X11_373 (c := 3) rfl (by decide) rfl rfl ?_
      refine mm_iret dX11_count_55 rfl rfl ?_
      refine mm_fin ?_ rfl
      first
      | (exfalso; omega)
      | (rw [if_neg (by omega), if_neg (by omega), if_neg (by omega), if_neg (by omega), if_neg (by omega), if_neg (by omega), if_neg (by omega), if_neg (by omega), if_pos (by omega)]; done)
    · refine mm_tsw (t := 56) (k := 1) dX11_count_1.1 (by omega) (by omega) (by omega) (by omega) rfl (by decide) ?_
      refine mm_aload_n dX11_count_56 rfl rfl ?_
      refine mm_getr dX11_count_57 rfl fl_X11_28 (c := 0) rfl (by decide) rfl rfl (hR.at (c := 0) (i := 2) (v := 12) rfl (by decide)) ?_
      refine mm_get (kd := 0) dX11_count_60 rfl fl_X11_178 (c := 11) rfl (by decide) rfl rfl ?_
      refine mm_iret dX11_count_63 rfl rfl ?_
      refine mm_fin ?_ rfl
      first
      | (exfalso; omega)
      | (rw [if_neg (by omega), if_neg (by omega), if_neg (by omega), if_neg (by omega), if_neg (by omega), if_neg (by omega), if_neg (by omega), if_neg (by omega), if_pos (by omega)]; done)
    · refine mm_tsw (t := 64) (k := 2) dX11_count_1.1 (by omega) (by omega) (by omega) (by omega) rfl (by decide) ?_
      refine mm_aload_n dX11_count_64 rfl rfl ?_
      refine mm_getr dX11_count_65 rfl fl_X11_76 (c := 0) rfl (by decide) rfl rfl (hR.at (c := 0) (i := 9) (v := 145) rfl (by decide)) ?_
      refine mm_get (kd := 0) dX11_count_68 rfl fl_X11_331 (c := 144) rfl (by decide) rfl rfl ?_
      refine mm_iret dX11_count_71 rfl rfl ?_
      refine mm_fin ?_ rfl
      first
      | (exfalso; omega)
      | (rw [if_neg (by omega), if_neg (by omega), if_neg (by omega), if_neg (by omega), if_neg (by omega), if_neg (by omega), if_neg (by omega), if_neg (by omega), if_pos (by omega)]; done)
    · refine mm_tsw (t := 72) (k := 3) dX11_count_1.1 (by omega) (by omega) (by omega) (by omega) rfl (by decide) ?_
      refine mm_aload_n dX11_count_72 rfl rfl ?_
      refine mm_getr dX11_count_73 rfl fl_X11_83 (c := 0) rfl (by decide) rfl rfl (hR.at (c := 0) (i := 10) (v := 173) rfl (by decide)) ?_
      refine mm_get (kd := 0) dX11_count_76 rfl fl_X11_343 (c := 172) rfl (by decide) rfl rfl ?_
      refine mm_iret dX11_count_79 rfl rfl ?_
      refine mm_fin ?_ rfl
      first
      | (exfalso; omega)
      | (rw [if_neg (by omega), if_neg (by omega), if_neg (by omega), if_neg (by omega), if_neg (by omega), if_neg (by omega), if_neg (by omega), if_neg (by omega), if_pos (by omega)]; done)
    · refine mm_tsw (t := 80) (k := 4) dX11_count_1.1 (by omega) (by omega) (by omega) (by omega) rfl (by decide) ?_
      refine mm_aload_n dX11_count_80 rfl rfl ?_
      refine mm_getr dX11_count_81 rfl fl_X11_90 (c := 0) rfl (by decide) rfl rfl (hR.at (c := 0) (i := 11) (v := 175) rfl (by decide)) ?_
      refine mm_get (kd := 0) dX11_count_84 rfl fl_X11_357 (c := 174) rfl (by decide) rfl rfl ?_
      refine mm_iret dX11_count_87 rfl rfl ?_
      refine mm_fin ?_ rfl
      first
      | (exfalso; omega)
      | (rw [if_neg (by omega), if_neg (by omega), if_neg (by omega), if_neg (by omega), if_neg (by omega), if_neg (by omega), if_neg (by omega), if_neg (by omega), if_pos (by omega)]; done)
    · refine mm_tsw (t := 88) (k := 5) dX11_count_1.1 (by omega) (by omega) (by omega) (by omega) rfl (by decide) ?_
      refine mm_aload_n dX11_count_88 rfl rfl ?_
      refine mm_getr dX11_count_89 rfl fl_X11_90 (c := 0) rfl (by decide) rfl rfl (hR.at (c := 0) (i := 11) (v := 175) rfl (by decide)) ?_
      refine mm_get (kd := 0) dX11_count_92 rfl fl_X11_361 (c := 174) rfl (by decide) rfl rfl ?_
      refine mm_iret dX11_count_95 rfl rfl ?_
      refine mm_fin ?_ rfl
      first
      | (exfalso; omega)
      | (rw [if_neg (by omega), if_neg (by omega), if_neg (by omega), if_neg (by omega), if_neg (by omega), if_neg (by omega), if_neg (by omega), if_neg (by omega), if_pos (by omega)]; done)
    · refine mm_tsw (t := 96) (k := 6) dX11_count_1.1 (by omega) (by omega) (by omega) (by omega) rfl (by decide) ?_
      refine mm_aload_n dX11_count_96 rfl rfl ?_
      refine mm_get (kd := 0) dX11_count_97 rfl fl_X11_282 (c := 0) rfl (by decide) rfl rfl ?_
      refine mm_iret dX11_count_100 rfl rfl ?_
      refine mm_fin ?_ rfl
      first
      | (exfalso; omega)
      | (rw [if_neg (by omega), if_neg (by omega), if_neg (by omega), if_neg (by omega), if_neg (by omega), if_neg (by omega), if_neg (by omega), if_neg (by omega), if_pos (by omega)]; done)
    · refine mm_tsw (t := 101) (k := 7) dX11_count_1.1 (by omega) (by omega) (by omega) (by omega) rfl (by decide) ?_
      refine mm_aload_n dX11_count_101 rfl rfl ?_
      refine mm_getr dX11_count_102 rfl fl_X11_10 (c := 0) rfl (by decide) rfl rfl (hR.at (c := 0) (i := 0) (v := 2) rfl (by decide)) ?_
      refine mm_get (kd := 0) dX11_count_105 rfl fl_X11_105 (c := 1) rfl (by decide) rfl rfl ?_
      refine mm_iret dX11_count_108 rfl rfl ?_
      refine mm_fin ?_ rfl
      first
      | (exfalso; omega)
      | (rw [if_neg (by omega), if_neg (by omega), if_neg (by omega), if_neg (by omega), if_neg (by omega), if_neg (by omega), if_neg (by omega), if_neg (by omega), if_pos (by omega)]; done)
  · refine mm_iload_n dX11_count_0 rfl rfl ?_
    have hsw : (x < 0 ∨ 7 < x) ∨ x = 0 ∨ x = 1 ∨ x = 2 ∨ x = 3 ∨ x = 4 ∨ x = 5 ∨ x = 6 ∨ x = 7 := by omega
    rcases hsw with h1 | h1 | h1 | h1 | h1 | h1 | h1 | h1 | h1
    · refine mm_tsd (t := 109) dX11_count_1.1 (by omega) h1 (by decide) ?_
      refine mm_iload_n dX11_count_109 rfl rfl ?_
      refine mm_bipush dX11_count_110 rfl (by decide) ?_
      refine mm_iclt dX11_count_112 (by omega) (by omega) (fun h112 => ?_) (fun h112 => ?_)
      · refine mm_iconst dX11_count_140 rfl ?_
        refine mm_iret dX11_count_141 rfl rfl ?_
        refine mm_fin ?_ rfl
        first
        | (rw [if_neg (by omega), if_neg (by omega), if_neg (by omega), if_neg (by omega), if_neg (by omega), if_neg (by omega), if_neg (by omega), if_neg (by omega), if_neg (by omega)]; done)
        | (subst h1; rfl)
      · refine mm_iload_n dX11_count_115 rfl rfl ?_
        refine mm_bipush dX11_count_116 rfl (by decide) ?_
        refine mm_isub dX11_count_118 rfl ?_
        refine mm_S1i dX11_count_119 rfl lk_X11_254 (by simp) rfl rfl rfl (c_X11_isSlot (by omega)) ?_
        refine mm_ifeqb dX11_count_122 (fun h122 => ?_) (fun h122 => ?_)
        · refine mm_iconst dX11_count_140 rfl ?_
          refine mm_iret dX11_count_141 rfl rfl ?_
          refine mm_fin ?_ rfl
          first
          | (rw [if_neg (by omega), if_neg (by omega), if_neg (by omega), if_neg (by omega), if_neg (by omega), if_neg (by omega), if_neg (by omega), if_neg (by omega), if_neg (by omega)]; done)
          | (subst h1; rfl)
        · exact absurd h122 hb
    · refine mm_tsw (t := 48) (k := 0) dX11_count_1.1 (by omega) (by omega) (by omega) (by omega) rfl (by decide) ?_
      refine mm_aload_n dX11_count_48 rfl rfl ?_
      refine mm_getr dX11_count_49 rfl fl_X11_19 (c := 0) rfl (by decide) rfl rfl (hR.at (c := 0) (i := 1) (v := 4) rfl (by decide)) ?_
      refine mm_get (kd := 0) dX11_count_52 rfl fl_X11_373 (c := 3) rfl (by decide) rfl rfl ?_
      refine mm_iret dX11_count_55 rfl rfl ?_
      refine mm_fin ?_ rfl
      first
      | (rw [if_neg (by omega), if_neg (by omega), if_neg (by omega), if_neg (by omega), if_neg (by omega), if_neg (by omega), if_neg (by omega), if_neg (by omega), if_neg (by omega)]; done)
      | (subst h1; rfl)
    · refine mm_tsw (t := 56) (k := 1) dX11_count_1.1 (by omega) (by omega) (by omega) (by omega) rfl (by decide) ?_
      refine mm_aload_n dX11_count_56 rfl rfl ?_
      refine mm_getr dX11_count_57 rfl fl_X11_28 (c := 0) rfl (by decide) rfl rfl (hR.at (c := 0) (i := 2) (v := 12) rfl (by decide)) ?_
      refine mm_get (kd := 0) dX11_count_60 rfl fl_X11_178 (c := 11) rfl (by decide) rfl rfl ?_
      refine mm_iret dX11_count_63 rfl rfl ?_
      refine mm_fin ?_ rfl
      first
      | (rw [if_neg (by omega), if_neg (by omega), if_neg (by omega), if_neg (by omega), if_neg (by omega), if_neg (by omega), if_neg (by omega), if_neg (by omega), if_neg (by omega)]; done)
      | (subst h1; rfl)
    · refine mm_tsw (t := 64) (k := 2) dX11_count_1.1 (by omega) (by omega) (by omega) (by omega) rfl (by decide) ?_
      refine mm_aload_n dX11_count_64 rfl rfl ?_
      refine mm_getr dX11_count_65 rfl fl_X11_76 (c := 0) rfl (by decide) rfl rfl (hR.at (c := 0) (i := 9) (v := 145) rfl (by decide)) ?_
      refine mm_get (kd := 0) dX11_count_68 rfl fl_X11_331 (c := 144) rfl (by decide) rfl rfl ?_
      refine mm_iret dX11_count_71 rfl rfl ?_
      refine mm_fin ?_ rfl
      first
      | (rw [if_neg (by omega), if_neg (by omega), if_neg (by omega), if_neg (by omega), if_neg (by omega), if_neg (by omega), if_neg (by omega), if_neg (by omega), if_neg (by omega)]; done)
      | (subst h1; rfl)
    · refine mm_tsw (t := 72) (k := 3) dX11_count_1.1 (by omega) (by omega) (by omega) (by omega) rfl (by decide) ?_
      refine mm_aload_n dX11_count_72 rfl rfl ?_
      refine mm_getr dX11_count_73 rfl fl_X11_83 (c := 0) rfl (by decide) rfl rfl (hR.at (c := 0) (i := 10) (v := 173) rfl (by decide)) ?_
      refine mm_get (kd := 0) dX11_count_76 rfl fl_X11_343 (c := 172) rfl (by decide) rfl rfl ?_
      refine mm_iret dX11_count_79 rfl rfl ?_
      refine mm_fin ?_ rfl
      first
      | (rw [if_neg (by omega), if_neg (by omega), if_neg (by omega), if_neg (by omega), if_neg (by omega), if_neg (by omega), if_neg (by omega), if_neg (by omega), if_neg (by omega)]; done)
      | (subst h1; rfl)
    · refine mm_tsw (t := 80) (k := 4) dX11_count_1.1 (by omega) (by omega) (by omega) (by omega) rfl (by decide) ?_
      refine mm_aload_n dX11_count_80 rfl rfl ?_
      refine mm_getr dX11_count_81 rfl fl_X11_90 (c := 0) rfl (by decide) rfl rfl (hR.at (c := 0) (i := 11) (v := 175) rfl (by decide)) ?_
      refine mm_get (kd := 0) dX11_count_84 rfl fl_X11_357 (c := 174) rfl (by decide) rfl rfl ?_
      refine mm_iret dX11_count_87 rfl rfl ?_
      refine mm_fin ?_ rfl
      first
      | (rw [if_neg (by omega), if_neg (by omega), if_neg (by omega), if_neg (by omega), if_neg (by omega), if_neg (by omega), if_neg (by omega), if_neg (by omega), if_neg (by omega)]; done)
      | (subst h1; rfl)
    · refine mm_tsw (t := 88) (k := 5) dX11_count_1.1 (by omega) (by omega) (by omega) (by omega) rfl (by decide) ?_
      refine mm_aload_n dX11_count_88 rfl rfl ?_
      refine mm_getr dX11_count_89 rfl fl_X11_90 (c := 0) rfl (by decide) rfl rfl (hR.at (c := 0) (i := 11) (v := 175) rfl (by decide)) ?_
      refine mm_get (kd := 0) dX11_count_92 rfl fl_X11_361 (c := 174) rfl (by decide) rfl rfl ?_
      refine mm_iret dX11_count_95 rfl rfl ?_
      refine mm_fin ?_ rfl
      first
      | (rw [if_neg (by omega), if_neg (by omega), if_neg (by omega), if_neg (by omega), if_neg (by omega), if_neg (by omega), if_neg (by omega), if_neg (by omega), if_neg (by omega)]; done)
      | (subst h1; rfl)
    · refine mm_tsw (t := 96) (k := 6) dX11_count_1.1 (by omega) (by omega) (by omega) (by omega) rfl (by decide) ?_
      refine mm_aload_n dX11_count_96 rfl rfl ?_
      refine mm_get (kd := 0) dX11_count_97 rfl fl_X11_282 (c := 0) rfl (by decide) rfl rfl ?_
      refine mm_iret dX11_count_100 rfl rfl ?_
      refine mm_fin ?_ rfl
      first
      | (rw [if_neg (by omega), if_neg (by omega), if_neg (by omega), if_neg (by omega), if_neg (by omega), if_neg (by omega), if_neg (by omega), if_neg (by omega), if_neg (by omega)]; done)
      | (subst h1; rfl)
    · refine mm_tsw (t := 101) (k := 7) dX11_count_1.1 (by omega) (by omega) (by omega) (by omega) rfl (by decide) ?_
      refine mm_aload_n dX11_count_101 rfl rfl ?_
      refine mm_getr dX11_count_102 rfl fl_X11_10 (c := 0) rfl (by decide) rfl rfl (hR.at (c := 0) (i := 0) (v := 2) rfl (by decide)) ?_
      refine mm_get (kd := 0) dX11_count_105 rfl fl_X11_105 (c := 1) rfl (by decide) rfl rfl ?_
      refine mm_iret dX11_count_108 rfl rfl ?_
      refine mm_fin ?_ rfl
      first
      | (rw [if_neg (by omega), if_neg (by omega), if_neg (by omega), if_neg (by omega), if_neg (by omega), if_neg (by omega), if_neg (by omega), if_neg (by omega), if_neg (by omega)]; done)
      | (subst h1; rfl)
def kv_looped (len worth start : Int) (A : Nat → Int) (x : Int) : Int := if len = 0 then -100000000 else if x = 0 then worth else if x = 1 then start else if 10 ≤ x ∧ x - 10 < len then A (x - 10).toNat else -100000000
theorem c_X11_looped (hR : mm_Rf M) (hx : mm_R x) (hl : 0 ≤ M 114 2 ∧ M 114 2 ≤ 288) : mm_Fn X Y_X11_looped 243 [(2, 1), (0, x)] M (0, kv_looped (M 114 2) (M 114 3) (M 116 0) (M 115) x) M := by
  refine mm_startF (ls := [(2, 1), (0, x)]) rfl ?_
  unfold kv_looped
  refine mm_aload_n dX11_looped_0 rfl rfl ?_
  refine mm_getr dX11_looped_1 rfl fl_X11_53 (c := 0) rfl (by decide) rfl rfl (hR.at (c := 0) (i := 5) (v := 115) rfl (by decide)) ?_
  refine mm_get (kd := 0) dX11_looped_4 rfl fl_X11_115 (c := 114) rfl (by decide) rfl rfl ?_
  refine mm_ifne dX11_looped_7 (by omega) (fun h7 => ?_) (fun h7 => ?_)
  · refine mm_iload_n dX11_looped_13 rfl rfl ?_
    refine mm_ifne dX11_looped_14 (by omega) (fun h14 => ?_) (fun h14 => ?_)
    · refine mm_iload_n dX11_looped_25 rfl rfl ?_
      refine mm_iconst dX11_looped_26 rfl ?_
      refine mm_icne dX11_looped_27 (by omega) (by omega) (fun h27 => ?_) (fun h27 => ?_)
      · refine mm_iload_n dX11_looped_40 rfl rfl ?_
        refine mm_bipush dX11_looped_41 rfl (by decide) ?_
        refine mm_iclt dX11_looped_43 (by omega) (by omega) (fun h43 => ?_) (fun h43 => ?_)
        · refine mm_ldc dX11_looped_75 rfl kc_X11_207 ?_
          refine mm_iret dX11_looped_77 rfl rfl ?_
          refine mm_fin ?_ rfl
          first
          | (rw [if_pos (by omega)]; done)
          | (rw [if_neg (by omega), if_pos (by omega)]; done)
          | (rw [if_neg (by omega), if_neg (by omega), if_pos (by omega)]; done)
          | (rw [if_neg (by omega), if_neg (by omega), if_neg (by omega), if_pos (by omega)]; done)
          | (rw [if_neg (by omega), if_neg (by omega), if_neg (by omega), if_neg (by omega)]; done)
        · refine mm_iload_n dX11_looped_46 rfl rfl ?_
          refine mm_bipush dX11_looped_47 rfl (by decide) ?_
          refine mm_isub dX11_looped_49 rfl ?_
          refine mm_aload_n dX11_looped_50 rfl rfl ?_
          refine mm_getr dX11_looped_51 rfl fl_X11_53 (c := 0) rfl (by decide) rfl rfl (hR.at (c := 0) (i := 5) (v := 115) rfl (by decide)) ?_
          refine mm_get (kd := 0) dX11_looped_54 rfl fl_X11_115 (c := 114) rfl (by decide) rfl rfl ?_
          refine mm_icge dX11_looped_57 (by omega) (by omega) (fun h57 => ?_) (fun h57 => ?_)
          · refine mm_ldc dX11_looped_75 rfl kc_X11_207 ?_
            refine mm_iret dX11_looped_77 rfl rfl ?_
            refine mm_fin ?_ rfl
            first
            | (rw [if_pos (by omega)]; done)
            | (rw [if_neg (by omega), if_pos (by omega)]; done)
            | (rw [if_neg (by omega), if_neg (by omega), if_pos (by omega)]; done)
            | (rw [if_neg (by omega), if_neg (by omega), if_neg (by omega), if_pos (by omega)]; done)
            | (rw [if_neg (by omega), if_neg (by omega), if_neg (by omega), if_neg (by omega)]; done)
          · refine mm_aload_n dX11_looped_60 rfl rfl ?_
            refine mm_getr dX11_looped_61 rfl fl_X11_53 (c := 0) rfl (by decide) rfl rfl (hR.at (c := 0) (i := 5) (v := 115) rfl (by decide)) ?_
            refine mm_getr dX11_looped_64 rfl fl_X11_222 (c := 114) rfl (by decide) rfl rfl (hR.at (c := 114) (i := 0) (v := 116) rfl (by decide)) ?_
            refine mm_iload_n dX11_looped_67 rfl rfl ?_
            refine mm_bipush dX11_looped_68 rfl (by decide) ?_
            refine mm_isub dX11_looped_70 rfl ?_
            refine mm_iald dX11_looped_71 rfl (c := 115) rfl (by decide) rfl (by omega) (by omega) ?_
            refine mm_goto dX11_looped_72 ?_
            refine mm_iret dX11_looped_77 rfl rfl ?_
            refine mm_fin ?_ rfl
            first
            | (rw [if_pos (by omega)]; done)
            | (rw [if_neg (by omega), if_pos (by omega)]; done)
            | (rw [if_neg (by omega), if_neg (by omega), if_pos (by omega)]; done)
            | (rw [if_neg (by omega), if_neg (by omega), if_neg (by omega), if_pos (by omega)]; done)
            | (rw [if_neg (by omega), if_neg (by omega), if_neg (by omega), if_neg (by omega)]; done)
      · refine mm_aload_n dX11_looped_30 rfl rfl ?_
        refine mm_getr dX11_looped_31 rfl fl_X11_53 (c := 0) rfl (by decide) rfl rfl (hR.at (c := 0) (i := 5) (v := 115) rfl (by decide)) ?_
        refine mm_getr dX11_looped_34 rfl fl_X11_219 (c := 114) rfl (by decide) rfl rfl (hR.at (c := 114) (i := 1) (v := 117) rfl (by decide)) ?_
        refine mm_iconst dX11_looped_37 rfl ?_
        refine mm_ialk (k0 := 0) dX11_looped_38 rfl (c := 116) rfl (by decide) rfl rfl (by decide) ?_
        refine mm_iret dX11_looped_39 rfl rfl ?_
        refine mm_fin ?_ rfl
        first
        | (rw [if_pos (by omega)]; done)
        | (rw [if_neg (by omega), if_pos (by omega)]; done)
        | (rw [if_neg (by omega), if_neg (by omega), if_pos (by omega)]; done)
        | (rw [if_neg (by omega), if_neg (by omega), if_neg (by omega), if_pos (by omega)]; done)
        | (rw [if_neg (by omega), if_neg (by omega), if_neg (by omega), if_neg (by omega)]; done)
    · refine mm_aload_n dX11_looped_17 rfl rfl ?_
      refine mm_getr dX11_looped_18 rfl fl_X11_53 (c := 0) rfl (by decide) rfl rfl (hR.at (c := 0) (i := 5) (v := 115) rfl (by decide)) ?_
      refine mm_get (kd := 0) dX11_looped_21 rfl fl_X11_216 (c := 114) rfl (by decide) rfl rfl ?_
      refine mm_iret dX11_looped_24 rfl rfl ?_
      refine mm_fin ?_ rfl
      first
      | (rw [if_pos (by omega)]; done)
      | (rw [if_neg (by omega), if_pos (by omega)]; done)
      | (rw [if_neg (by omega), if_neg (by omega), if_pos (by omega)]; done)
      | (rw [if_neg (by omega), if_neg (by omega), if_neg (by omega), if_pos (by omega)]; done)
      | (rw [if_neg (by omega), if_neg (by omega), if_neg (by omega), if_neg (by omega)]; done)
  · refine mm_ldc dX11_looped_10 rfl kc_X11_207 ?_
    refine mm_iret dX11_looped_12 rfl rfl ?_
    refine mm_fin ?_ rfl
    first
    | (rw [if_pos (by omega)]; done)
    | (rw [if_neg (by omega), if_pos (by omega)]; done)
    | (rw [if_neg (by omega), if_neg (by omega), if_pos (by omega)]; done)
    | (rw [if_neg (by omega), if_neg (by omega), if_neg (by omega), if_pos (by omega)]; done)
    | (rw [if_neg (by omega), if_neg (by omega), if_neg (by omega), if_neg (by omega)]; done)
def kv_judged (has e won spent great loop x : Int) : Int := if has = 0 then -1 else if x = 0 then e else if x = 1 then won else if x = 2 then spent else if x = 3 then great else if x = 4 then (if loop = 0 then 0 else 1) else -1
theorem c_X11_judged (hR : mm_Rf M) (hx : mm_R x) (hl : mm_R (M 117 2)) (hz : M 117 9 = 0 ∨ M 117 9 = 1) : mm_Fn X Y_X11_judged 243 [(2, 1), (0, x)] M (0, kv_judged (M 117 2) (M 117 5) (M 117 6) (M 117 7) (M 117 8) (M 117 9) x) M := by
  refine mm_startF (ls := [(2, 1), (0, x)]) rfl ?_
  unfold kv_judged
  refine mm_aload_n dX11_judged_0 rfl rfl ?_
  refine mm_getr dX11_judged_1 rfl fl_X11_57 (c := 0) rfl (by decide) rfl rfl (hR.at (c := 0) (i := 6) (v := 118) rfl (by decide)) ?_
  refine mm_get (kd := 0) dX11_judged_4 rfl fl_X11_115 (c := 117) rfl (by decide) rfl rfl ?_
  refine mm_ifne dX11_judged_7 (by omega) (fun h7 => ?_) (fun h7 => ?_)
  · refine mm_iload_n dX11_judged_12 rfl rfl ?_
    have hsw : (x < 0 ∨ 4 < x) ∨ x = 0 ∨ x = 1 ∨ x = 2 ∨ x = 3 ∨ x = 4 := by omega
    rcases hsw with h13 | h13 | h13 | h13 | h13 | h13
    · refine mm_tsd (t := 96) dX11_judged_13.1 (by omega) h13 (by decide) ?_
      refine mm_iconst dX11_judged_96 rfl ?_
      refine mm_iret dX11_judged_97 rfl rfl ?_
      refine mm_fin ?_ rfl
      first
      | (rw [if_pos (by omega)]; done)
      | (rw [if_neg h7]; subst h13; first | rfl | (rw [if_pos h87]; rfl) | (rw [if_neg h87]; rfl) | (simp [h87]; done))
      | (rw [if_neg (by omega), if_neg (by omega), if_neg (by omega), if_neg (by omega), if_neg (by omega), if_neg (by omega)]; done)
    · refine mm_tsw (t := 48) (k := 0) dX11_judged_13.1 (by omega) (by omega) (by omega) (by omega) rfl (by decide) ?_
      refine mm_aload_n dX11_judged_48 rfl rfl ?_
      refine mm_getr dX11_judged_49 rfl fl_X11_57 (c := 0) rfl (by decide) rfl rfl (hR.at (c := 0) (i := 6) (v := 118) rfl (by decide)) ?_
      refine mm_get (kd := 0) dX11_judged_52 rfl fl_X11_239 (c := 117) rfl (by decide) rfl rfl ?_
      refine mm_iret dX11_judged_55 rfl rfl ?_
      refine mm_fin ?_ rfl
      first
      | (rw [if_pos (by omega)]; done)
      | (rw [if_neg h7]; subst h13; first | rfl | (rw [if_pos h87]; rfl) | (rw [if_neg h87]; rfl) | (simp [h87]; done))
      | (rw [if_neg (by omega), if_neg (by omega), if_neg (by omega), if_neg (by omega), if_neg (by omega), if_neg (by omega)]; done)
    · refine mm_tsw (t := 56) (k := 1) dX11_judged_13.1 (by omega) (by omega) (by omega) (by omega) rfl (by decide) ?_
      refine mm_aload_n dX11_judged_56 rfl rfl ?_
      refine mm_getr dX11_judged_57 rfl fl_X11_57 (c := 0) rfl (by decide) rfl rfl (hR.at (c := 0) (i := 6) (v := 118) rfl (by decide)) ?_
      refine mm_get (kd := 0) dX11_judged_60 rfl fl_X11_242 (c := 117) rfl (by decide) rfl rfl ?_
      refine mm_iret dX11_judged_63 rfl rfl ?_
      refine mm_fin ?_ rfl
      first
      | (rw [if_pos (by omega)]; done)
      | (rw [if_neg h7]; subst h13; first | rfl | (rw [if_pos h87]; rfl) | (rw [if_neg h87]; rfl) | (simp [h87]; done))
      | (rw [if_neg (by omega), if_neg (by omega), if_neg (by omega), if_neg (by omega), if_neg (by omega), if_neg (by omega)]; done)
    · refine mm_tsw (t := 64) (k := 2) dX11_judged_13.1 (by omega) (by omega) (by omega) (by omega) rfl (by decide) ?_
      refine mm_aload_n dX11_judged_64 rfl rfl ?_
      refine mm_getr dX11_judged_65 rfl fl_X11_57 (c := 0) rfl (by decide) rfl rfl (hR.at (c := 0) (i := 6) (v := 118) rfl (by decide)) ?_
      refine mm_get (kd := 0) dX11_judged_68 rfl fl_X11_245 (c := 117) rfl (by decide) rfl rfl ?_
      refine mm_iret dX11_judged_71 rfl rfl ?_
      refine mm_fin ?_ rfl
      first
      | (rw [if_pos (by omega)]; done)
      | (rw [if_neg h7]; subst h13; first | rfl | (rw [if_pos h87]; rfl) | (rw [if_neg h87]; rfl) | (simp [h87]; done))
      | (rw [if_neg (by omega), if_neg (by omega), if_neg (by omega), if_neg (by omega), if_neg (by omega), if_neg (by omega)]; done)
    · refine mm_tsw (t := 72) (k := 3) dX11_judged_13.1 (by omega) (by omega) (by omega) (by omega) rfl (by decide) ?_
      refine mm_aload_n dX11_judged_72 rfl rfl ?_
      refine mm_getr dX11_judged_73 rfl fl_X11_57 (c := 0) rfl (by decide) rfl rfl (hR.at (c := 0) (i := 6) (v := 118) rfl (by decide)) ?_
      refine mm_get (kd := 0) dX11_judged_76 rfl fl_X11_248 (c := 117) rfl (by decide) rfl rfl ?_
      refine mm_iret dX11_judged_79 rfl rfl ?_
      refine mm_fin ?_ rfl
      first
      | (rw [if_pos (by omega)]; done)
      | (rw [if_neg h7]; subst h13; first | rfl | (rw [if_pos h87]; rfl) | (rw [if_neg h87]; rfl) | (simp [h87]; done))
      | (rw [if_neg (by omega), if_neg (by omega), if_neg (by omega), if_neg (by omega), if_neg (by omega), if_neg (by omega)]; done)
    · refine mm_tsw (t := 80) (k := 4) dX11_judged_13.1 (by omega) (by omega) (by omega) (by omega) rfl (by decide) ?_
      refine mm_aload_n dX11_judged_80 rfl rfl ?_
      refine mm_getr dX11_judged_81 rfl fl_X11_57 (c := 0) rfl (by decide) rfl rfl (hR.at (c := 0) (i := 6) (v := 118) rfl (by decide)) ?_
      refine mm_get (kd := 0) dX11_judged_84 rfl fl_X11_251 (c := 117) rfl (by decide) rfl rfl ?_
      refine mm_ifeq dX11_judged_87 (by omega) (fun h87 => ?_) (fun h87 => ?_)
      · refine mm_iconst dX11_judged_94 rfl ?_
        refine mm_iret dX11_judged_95 rfl rfl ?_
        refine mm_fin ?_ rfl
        first
        | (rw [if_pos (by omega)]; done)
        | (rw [if_neg h7]; subst h13; first | rfl | (rw [if_pos h87]; rfl) | (rw [if_neg h87]; rfl) | (simp [h87]; done))
        | (rw [if_neg (by omega), if_neg (by omega), if_neg (by omega), if_neg (by omega), if_neg (by omega), if_neg (by omega)]; done)
      · refine mm_iconst dX11_judged_90 rfl ?_
        refine mm_goto dX11_judged_91 ?_
        refine mm_iret dX11_judged_95 rfl rfl ?_
        refine mm_fin ?_ rfl
        first
        | (rw [if_pos (by omega)]; done)
        | (rw [if_neg h7]; subst h13; first | rfl | (rw [if_pos h87]; rfl) | (rw [if_neg h87]; rfl) | (simp [h87]; done))
        | (rw [if_neg (by omega), if_neg (by omega), if_neg (by omega), if_neg (by omega), if_neg (by omega), if_neg (by omega)]; done)
  · refine mm_iconst dX11_judged_10 rfl ?_
    refine mm_iret dX11_judged_11 rfl rfl ?_
    refine mm_fin ?_ rfl
    first
    | (rw [if_pos (by omega)]; done)
    | (rw [if_neg h7]; subst h13; first | rfl | (rw [if_pos h87]; rfl) | (rw [if_neg h87]; rfl) | (simp [h87]; done))
    | (rw [if_neg (by omega), if_neg (by omega), if_neg (by omega), if_neg (by omega), if_neg (by omega), if_neg (by omega)]; done)
def kv_flown (has fate work e n : Int) (A : Nat → Int) (x : Int) : Int := if has = 0 then -100000000 else if x = 0 then fate else if x = 1 then work else if x = 2 then e else if 10 ≤ x ∧ x - 10 < n then A (x - 10).toNat else -100000000
theorem c_X11_flown (hR : mm_Rf M) (hx : mm_R x) (hz : M 139 3 = 0 ∨ M 139 3 = 1) (hn : 0 ≤ M 139 4 ∧ M 139 4 ≤ 500) : mm_Fn X Y_X11_flown 243 [(2, 1), (0, x)] M (0, kv_flown (M 139 3) (M 139 5) (M 139 6) (M 139 7) (M 139 4) (M 140) x) M := by
  refine mm_startF (ls := [(2, 1), (0, x)]) rfl ?_
  unfold kv_flown
  refine mm_aload_n dX11_flown_0 rfl rfl ?_
  refine mm_getr dX11_flown_1 rfl fl_X11_69 (c := 0) rfl (by decide) rfl rfl (hR.at (c := 0) (i := 8) (v := 140) rfl (by decide)) ?_
  refine mm_get (kd := 0) dX11_flown_4 rfl fl_X11_264 (c := 139) rfl (by decide) rfl rfl ?_
  refine mm_ifne dX11_flown_7 (by omega) (fun h7 => ?_) (fun h7 => ?_)
  · refine mm_iload_n dX11_flown_13 rfl rfl ?_
    have hsw : (x < 0 ∨ 2 < x) ∨ x = 0 ∨ x = 1 ∨ x = 2 := by omega
    rcases hsw with h14 | h14 | h14 | h14
    · refine mm_tsd (t := 64) dX11_flown_14.1 (by omega) h14 (by decide) ?_
      refine mm_iload_n dX11_flown_64 rfl rfl ?_
      refine mm_bipush dX11_flown_65 rfl (by decide) ?_
      refine mm_iclt dX11_flown_67 (by omega) (by omega) (fun h67 => ?_) (fun h67 => ?_)
      · refine mm_ldc dX11_flown_99 rfl kc_X11_207 ?_
        refine mm_iret dX11_flown_101 rfl rfl ?_
        refine mm_fin ?_ rfl
        first
        | (rw [if_pos (by omega)]; done)
        | (rw [if_neg h7]; subst h14; rfl)
        | (rw [if_neg (by omega), if_neg (by omega), if_neg (by omega), if_neg (by omega), if_pos (by omega)]; done)
        | (rw [if_neg (by omega), if_neg (by omega), if_neg (by omega), if_neg (by omega), if_neg (by omega)]; done)
      · refine mm_iload_n dX11_flown_70 rfl rfl ?_
        refine mm_bipush dX11_flown_71 rfl (by decide) ?_
        refine mm_isub dX11_flown_73 rfl ?_
        refine mm_aload_n dX11_flown_74 rfl rfl ?_
        refine mm_getr dX11_flown_75 rfl fl_X11_69 (c := 0) rfl (by decide) rfl rfl (hR.at (c := 0) (i := 8) (v := 140) rfl (by decide)) ?_
        refine mm_get (kd := 0) dX11_flown_78 rfl fl_X11_274 (c := 139) rfl (by decide) rfl rfl ?_
        refine mm_icge dX11_flown_81 (by omega) (by omega) (fun h81 => ?_) (fun h81 => ?_)
        · refine mm_ldc dX11_flown_99 rfl kc_X11_207 ?_
          refine mm_iret dX11_flown_101 rfl rfl ?_
          refine mm_fin ?_ rfl
          first
          | (rw [if_pos (by omega)]; done)
          | (rw [if_neg h7]; subst h14; rfl)
          | (rw [if_neg (by omega), if_neg (by omega), if_neg (by omega), if_neg (by omega), if_pos (by omega)]; done)
          | (rw [if_neg (by omega), if_neg (by omega), if_neg (by omega), if_neg (by omega), if_neg (by omega)]; done)
        · refine mm_aload_n dX11_flown_84 rfl rfl ?_
          refine mm_getr dX11_flown_85 rfl fl_X11_69 (c := 0) rfl (by decide) rfl rfl (hR.at (c := 0) (i := 8) (v := 140) rfl (by decide)) ?_
          refine mm_getr dX11_flown_88 rfl fl_X11_277 (c := 139) rfl (by decide) rfl rfl (hR.at (c := 139) (i := 8) (v := 141) rfl (by decide)) ?_
          refine mm_iload_n dX11_flown_91 rfl rfl ?_
          refine mm_bipush dX11_flown_92 rfl (by decide) ?_
          refine mm_isub dX11_flown_94 rfl ?_
          refine mm_iald dX11_flown_95 rfl (c := 140) rfl (by decide) rfl (by omega) (by omega) ?_
          refine mm_goto dX11_flown_96 ?_
          refine mm_iret dX11_flown_101 rfl rfl ?_
          refine mm_fin ?_ rfl
          first
          | (rw [if_pos (by omega)]; done)
          | (rw [if_neg h7]; subst h14; rfl)
          | (rw [if_neg (by omega), if_neg (by omega), if_neg (by omega), if_neg (by omega), if_pos (by omega)]; done)
          | (rw [if_neg (by omega), if_neg (by omega), if_neg (by omega), if_neg (by omega), if_neg (by omega)]; done)
    · refine mm_tsw (t := 40) (k := 0) dX11_flown_14.1 (by omega) (by omega) (by omega) (by omega) rfl (by decide) ?_
      refine mm_aload_n dX11_flown_40 rfl rfl ?_
      refine mm_getr dX11_flown_41 rfl fl_X11_69 (c := 0) rfl (by decide) rfl rfl (hR.at (c := 0) (i := 8) (v := 140) rfl (by decide)) ?_
      refine mm_get (kd := 0) dX11_flown_44 rfl fl_X11_267 (c := 139) rfl (by decide) rfl rfl ?_
      refine mm_iret dX11_flown_47 rfl rfl ?_
      refine mm_fin ?_ rfl
      first
      | (rw [if_pos (by omega)]; done)
      | (rw [if_neg h7]; subst h14; rfl)
      | (rw [if_neg (by omega), if_neg (by omega), if_neg (by omega), if_neg (by omega), if_pos (by omega)]; done)
      | (rw [if_neg (by omega), if_neg (by omega), if_neg (by omega), if_neg (by omega), if_neg (by omega)]; done)
    · refine mm_tsw (t := 48) (k := 1) dX11_flown_14.1 (by omega) (by omega) (by omega) (by omega) rfl (by decide) ?_
      refine mm_aload_n dX11_flown_48 rfl rfl ?_
      refine mm_getr dX11_flown_49 rfl fl_X11_69 (c := 0) rfl (by decide) rfl rfl (hR.at (c := 0) (i := 8) (v := 140) rfl (by decide)) ?_
      refine mm_get (kd := 0) dX11_flown_52 rfl fl_X11_270 (c := 139) rfl (by decide) rfl rfl ?_
      refine mm_iret dX11_flown_55 rfl rfl ?_
      refine mm_fin ?_ rfl
      first
      | (rw [if_pos (by omega)]; done)
      | (rw [if_neg h7]; subst h14; rfl)
      | (rw [if_neg (by omega), if_neg (by omega), if_neg (by omega), if_neg (by omega), if_pos (by omega)]; done)
      | (rw [if_neg (by omega), if_neg (by omega), if_neg (by omega), if_neg (by omega), if_neg (by omega)]; done)
    · refine mm_tsw (t := 56) (k := 2) dX11_flown_14.1 (by omega) (by omega) (by omega) (by omega) rfl (by decide) ?_
      refine mm_aload_n dX11_flown_56 rfl rfl ?_
      refine mm_getr dX11_flown_57 rfl fl_X11_69 (c := 0) rfl (by decide) rfl rfl (hR.at (c := 0) (i := 8) (v := 140) rfl (by decide)) ?_
      refine mm_get (kd := 0) dX11_flown_60 rfl fl_X11_273 (c := 139) rfl (by decide) rfl rfl ?_
      refine mm_iret dX11_flown_63 rfl rfl ?_
      refine mm_fin ?_ rfl
      first
      | (rw [if_pos (by omega)]; done)
      | (rw [if_neg h7]; subst h14; rfl)
      | (rw [if_neg (by omega), if_neg (by omega), if_neg (by omega), if_neg (by omega), if_pos (by omega)]; done)
      | (rw [if_neg (by omega), if_neg (by omega), if_neg (by omega), if_neg (by omega), if_neg (by omega)]; done)
  · refine mm_ldc dX11_flown_10 rfl kc_X11_207 ?_
    refine mm_iret dX11_flown_12 rfl rfl ?_
    refine mm_fin ?_ rfl
    first
    | (rw [if_pos (by omega)]; done)
    | (rw [if_neg h7]; subst h14; rfl)
    | (rw [if_neg (by omega), if_neg (by omega), if_neg (by omega), if_neg (by omega), if_pos (by omega)]; done)
    | (rw [if_neg (by omega), if_neg (by omega), if_neg (by omega), if_neg (by omega), if_neg (by omega)]; done)
theorem c_X3_isPlanned (hR : mm_Rf M) (hx : mm_R x) (h1 : mm_R (M 21 8)) (h2 : mm_R (M 21 9)) : mm_Fn X Y_X3_isPlanned 243 [(2, 22), (0, x)] M (0, mm_b (M 21 8 ≤ x ∧ x ≤ M 21 9)) M := by
  refine mm_startF (ls := [(2, 22), (0, x)]) rfl ?_
  refine mm_iload_n dX3_isPlanned_0 rfl rfl ?_
  refine mm_aload_n dX3_isPlanned_1 rfl rfl ?_
  refine mm_get (kd := 0) dX3_isPlanned_2 rfl fl_X3_36 (c := 21) rfl (by decide) rfl rfl ?_
  refine mm_iclt dX3_isPlanned_5 (by omega) (by omega) (fun h5 => ?_) (fun h5 => ?_)
  · refine mm_iconst dX3_isPlanned_20 rfl ?_
    refine mm_zret dX3_isPlanned_21 rfl rfl (Or.inl rfl) ?_
    refine mm_fin ?_ rfl
    unfold mm_b
    split <;> omega
  · refine mm_iload_n dX3_isPlanned_8 rfl rfl ?_
    refine mm_aload_n dX3_isPlanned_9 rfl rfl ?_
    refine mm_get (kd := 0) dX3_isPlanned_10 rfl fl_X3_40 (c := 21) rfl (by decide) rfl rfl ?_
    refine mm_icgt dX3_isPlanned_13 (by omega) (by omega) (fun h13 => ?_) (fun h13 => ?_)
    · refine mm_iconst dX3_isPlanned_20 rfl ?_
      refine mm_zret dX3_isPlanned_21 rfl rfl (Or.inl rfl) ?_
      refine mm_fin ?_ rfl
      unfold mm_b
      split <;> omega
    · refine mm_iconst dX3_isPlanned_16 rfl ?_
      refine mm_goto dX3_isPlanned_17 ?_
      refine mm_zret dX3_isPlanned_21 rfl rfl (Or.inr rfl) ?_
      refine mm_fin ?_ rfl
      unfold mm_b
      split <;> omega
theorem c_X11_planned (hR : mm_Rf M) (hx : mm_R x) (h1 : 0 ≤ M 21 8 ∧ M 21 8 ≤ 23) (h2 : -1 ≤ M 21 9 ∧ M 21 9 ≤ 23) : mm_Fn X Y_X11_planned 243 [(2, 1), (0, x)] M (0, if M 21 8 ≤ x ∧ x ≤ M 21 9 then M 27 x.toNat else -1) M := by
  refine mm_startF (ls := [(2, 1), (0, x)]) rfl ?_
  refine mm_aload_n dX11_planned_0 rfl rfl ?_
  refine mm_getr dX11_planned_1 rfl fl_X11_44 (c := 0) rfl (by decide) rfl rfl (hR.at (c := 0) (i := 4) (v := 22) rfl (by decide)) ?_
  refine mm_iload_n dX11_planned_4 rfl rfl ?_
  refine mm_V1i dX11_planned_5 rfl lk_X11_306 (c := 21) rfl (by decide) rfl (by simp) rfl rfl rfl (c_X3_isPlanned hR hx (by omega) (by omega)) ?_
  refine mm_ifeqb dX11_planned_8 (fun h8 => ?_) (fun h8 => ?_)
  · refine mm_iconst dX11_planned_23 rfl ?_
    refine mm_iret dX11_planned_24 rfl rfl ?_
    refine mm_fin ?_ rfl
    first
    | (rw [if_pos h8]; done)
    | (rw [if_neg h8]; done)
  · refine mm_aload_n dX11_planned_11 rfl rfl ?_
    refine mm_getr dX11_planned_12 rfl fl_X11_44 (c := 0) rfl (by decide) rfl rfl (hR.at (c := 0) (i := 4) (v := 22) rfl (by decide)) ?_
    refine mm_getr dX11_planned_15 rfl fl_X11_309 (c := 21) rfl (by decide) rfl rfl (hR.at (c := 21) (i := 7) (v := 28) rfl (by decide)) ?_
    refine mm_iload_n dX11_planned_18 rfl rfl ?_
    refine mm_iald dX11_planned_19 rfl (c := 27) rfl (by decide) rfl (by omega) (by omega) ?_
    refine mm_goto dX11_planned_20 ?_
    refine mm_iret dX11_planned_24 rfl rfl ?_
    refine mm_fin ?_ rfl
    first
    | (rw [if_pos h8]; done)
    | (rw [if_neg h8]; done)
theorem c_X3_forgetHour (hR : mm_Rf M) (hh : ks_hr h) : mm_Fn X Y_X3_forgetHour 243 [(2, 22), (0, h)] M (3, 0) (mm_up M 23 h.toNat 0) := by
  refine mm_startF (ls := [(2, 22), (0, h)]) rfl ?_
  refine mm_aload_n dX3_forgetHour_0 rfl rfl ?_
  refine mm_getr dX3_forgetHour_1 rfl fl_X3_19 (c := 21) rfl (by decide) rfl rfl (hR.at (c := 21) (i := 3) (v := 24) rfl (by decide)) ?_
  refine mm_iload_n dX3_forgetHour_4 rfl rfl ?_
  refine mm_iconst dX3_forgetHour_5 rfl ?_
  refine mm_zsto dX3_forgetHour_6 rfl (c := 23) rfl (by decide) rfl (by omega) (by omega) (Or.inl rfl) (fun M6 hM6 => ?_)
  have hR6 : mm_Rf M6 := by rw [hM6]; exact hR.up (mm_rt_ar (t := 2) rfl (by decide))
  refine mm_vret dX3_forgetHour_7 rfl rfl ?_
  exact mm_fin rfl hM6
theorem c_X0_knownAt (hR : mm_Rf M) (hh : ks_hr h) (hb : 0 ≤ b ∧ b ≤ 4) (hk : mm_R k) (hc : 0 ≤ M 11 1 ∧ M 11 1 ≤ 200) (ht : ∀ i, i < 200 → mm_R (M 13 i) ∧ mm_R (M 12 i)) :
    mm_Fn X Y_X0_knownAt 243 [(2, 12), (0, h), (0, b), (0, k)] M (0, kw_last (fun i => M 13 i = h * 5 + b ∧ M 12 i ≤ k) (fun i => 100 * M 14 i + M 15 i) (M 11 1).toNat) M := by
  refine mm_startF (ls := [(2, 12), (0, h), (0, b), (0, k), (9, 0), (9, 0)]) rfl ?_
  have loop : ∀ (i : Nat), i ≤ 200 → kw_last (fun i => M 13 i = h * 5 + b ∧ M 12 i ≤ k) (fun i => 100 * M 14 i + M 15 i) i = kw_last (fun i => M 13 i = h * 5 + b ∧ M 12 i ≤ k) (fun i => 100 * M 14 i + M 15 i) (M 11 1).toNat →
      mm_J X Y_X0_knownAt 243 243 243 15 [(2, 12), (0, h), (0, b), (0, k), (0, h * 5 + b), (0, (i : Int) - 1)] [] M (fun r' M'' => r' = (0, kw_last (fun i => M 13 i = h * 5 + b ∧ M 12 i ≤ k) (fun i => 100 * M 14 i + M 15 i) (M 11 1).toNat) ∧ M'' = M) := by
    intro i
    induction i with
    | zero =>
      intro hi he
      refine mm_iload dX0_knownAt_15 rfl rfl ?_
      refine mm_iflt dX0_knownAt_17 (by omega) (fun h17 => ?_) (fun h17 => ?_)
      · refine mm_sipush dX0_knownAt_68 rfl (by decide) ?_
        refine mm_iret dX0_knownAt_71 rfl rfl ?_
        exact mm_fin he rfl
      · exfalso; omega
    | succ i ih =>
      intro hi he
      have q := ht i (by omega)
      have e1 : ((i + 1 : Nat) : Int) - 1 = (i : Int) := by omega
      rw [e1]
      refine mm_iload dX0_knownAt_15 rfl rfl ?_
      refine mm_iflt dX0_knownAt_17 (by omega) (fun h17 => ?_) (fun h17 => ?_)
      · exfalso; omega
      · refine mm_aload_n dX0_knownAt_20 rfl rfl ?_
        refine mm_getr dX0_knownAt_21 rfl fl_X0_15 (c := 11) rfl (by decide) rfl rfl (hR.at (c := 11) (i := 4) (v := 14) rfl (by decide)) ?_
        refine mm_iload dX0_knownAt_24 rfl rfl ?_
        refine mm_ialk (k0 := i) dX0_knownAt_26 rfl (c := 13) rfl (by decide) rfl (by omega) (by omega) ?_
        refine mm_iload dX0_knownAt_27 rfl rfl ?_
        refine mm_icne dX0_knownAt_29 (by omega) (by omega) (fun h29 => ?_) (fun h29 => ?_)
        · refine mm_iinc dX0_knownAt_62 rfl rfl (Nat.le_of_ble_eq_true rfl) rfl ?_
          refine mm_goto dX0_knownAt_65 ?_
          exact ih (by omega) (by rw [← he, kw_last, if_neg (by omega)])
        · refine mm_aload_n dX0_knownAt_32 rfl rfl ?_
          refine mm_getr dX0_knownAt_33 rfl fl_X0_11 (c := 11) rfl (by decide) rfl rfl (hR.at (c := 11) (i := 3) (v := 13) rfl (by decide)) ?_
          refine mm_iload dX0_knownAt_36 rfl rfl ?_
          refine mm_ialk (k0 := i) dX0_knownAt_38 rfl (c := 12) rfl (by decide) rfl (by omega) (by omega) ?_
          refine mm_iload_n dX0_knownAt_39 rfl rfl ?_
          refine mm_icgt dX0_knownAt_40 (by omega) (by omega) (fun h40 => ?_) (fun h40 => ?_)
          · refine mm_iinc dX0_knownAt_62 rfl rfl (Nat.le_of_ble_eq_true rfl) rfl ?_
            refine mm_goto dX0_knownAt_65 ?_
            exact ih (by omega) (by rw [← he, kw_last, if_neg (by omega)])
          · refine mm_bipush dX0_knownAt_43 rfl (by decide) ?_
            refine mm_aload_n dX0_knownAt_45 rfl rfl ?_
            refine mm_getr dX0_knownAt_46 rfl fl_X0_18 (c := 11) rfl (by decide) rfl rfl (hR.at (c := 11) (i := 5) (v := 15) rfl (by decide)) ?_
            refine mm_iload dX0_knownAt_49 rfl rfl ?_
            refine mm_ialk (k0 := i) dX0_knownAt_51 rfl (c := 14) rfl (by decide) rfl (by omega) (by omega) ?_
            refine mm_imul dX0_knownAt_52 rfl ?_
            refine mm_aload_n dX0_knownAt_53 rfl rfl ?_
            refine mm_getr dX0_knownAt_54 rfl fl_X0_21 (c := 11) rfl (by decide) rfl rfl (hR.at (c := 11) (i := 6) (v := 16) rfl (by decide)) ?_
            refine mm_iload dX0_knownAt_57 rfl rfl ?_
            refine mm_ialk (k0 := i) dX0_knownAt_59 rfl (c := 15) rfl (by decide) rfl (by omega) (by omega) ?_
            refine mm_iadd dX0_knownAt_60 rfl ?_
            refine mm_iret dX0_knownAt_61 rfl rfl ?_
            exact mm_fin (by rw [← he, kw_last, if_pos ⟨h29, by omega⟩]) rfl
  refine mm_iload_n dX0_knownAt_0 rfl rfl ?_
  refine mm_iload_n dX0_knownAt_1 rfl rfl ?_
  refine mm_S2i dX0_knownAt_2 rfl lk_X0_48 (by simp) (by simp) rfl rfl rfl (c_X0_placeOf) ?_
  refine mm_istore dX0_knownAt_5 rfl (Nat.le_of_ble_eq_true rfl) rfl ?_
  refine mm_aload_n dX0_knownAt_7 rfl rfl ?_
  refine mm_get (kd := 0) dX0_knownAt_8 rfl fl_X0_51 (c := 11) rfl (by decide) rfl rfl ?_
  refine mm_iconst dX0_knownAt_11 rfl ?_
  refine mm_isub dX0_knownAt_12 rfl ?_
  refine mm_istore dX0_knownAt_13 rfl (Nat.le_of_ble_eq_true rfl) rfl ?_
  have := loop (M 11 1).toNat (by omega) rfl
  rw [Int.toNat_of_nonneg hc.1] at this
  exact this
end

