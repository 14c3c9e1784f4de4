/-! ===== apart and shift, of the class ===== -/
/-- the first of the greatest, among k below n -/
def kb_best (f : Nat → Int) : Nat → Int × Int
  | 0 => (-1, -1)
  | n + 1 => if (kb_best f n).2 < f n then ((n : Int), f n) else kb_best f n
theorem kb_bestb {f : Nat → Int} {B : Int} (hB : -1 ≤ B) : ∀ {n : Nat}, (∀ i, i < n → 0 ≤ f i ∧ f i ≤ B) → -1 ≤ (kb_best f n).2 ∧ (kb_best f n).2 ≤ B ∧ -1 ≤ (kb_best f n).1 ∧ (kb_best f n).1 < n
  | 0, _ => by simp [kb_best]; omega
  | n + 1, h => by
    have h1 := kb_bestb (f := f) hB (n := n) (fun i q => h i (by omega))
    have h2 := h n (by omega)
    unfold kb_best
    split
    · simp only; omega
    · omega
theorem kn_db {K S T : Nat → Int} (hK : mm_KV K) {l m k : Nat} {w : Int} (hw : -40 ≤ w ∧ w ≤ 40) (t : Nat) : 0 ≤ kn_d K S T l m k w t ∧ kn_d K S T l m k w t ≤ 52 := by
  have a := ks_colb hK (T ((k + t) % m))
  have b := ks_colb hK (S (t % l))
  have c := ks_rowb hK (T ((k + t) % m))
  have d := ks_rowb hK (S (t % l))
  obtain ⟨h0, h1, -⟩ := hK
  unfold kn_d
  omega
section
variable {X : mm_X} {M : mm_M} {x y u v k w : Int} {rc rd l m : Nat}
theorem c_X11_apart (hR : mm_Rf M) (hK : mm_CK M) (hx : mm_R x) (hy : mm_R y) (hu : mm_R u) (hv : mm_R v) (hk : mm_R k) (hl : ∀ k : Nat, k < 6 → 0 ≤ M (121 + 3 * k) 2 ∧ M (121 + 3 * k) 2 ≤ 100) (hst : ∀ k : Nat, k < 6 → ∀ i : Nat, (i : Int) < M (121 + 3 * k) 2 → ks_st (M 4) (M (121 + 3 * k + 2) i)) :
    mm_Fn X Y_X11_apart 243 [(2, 1), (0, x), (0, y), (0, u), (0, v), (0, k)] M (0, if ((0 ≤ x ∧ x ≤ 5) ∧ (0 ≤ y ∧ y ≤ 40) ∧ (0 ≤ u ∧ u ≤ 5) ∧ (0 ≤ v ∧ v ≤ 40)) ∧ 0 ≤ k ∧ k ≤ 99 then (if 0 < M (121 + 3 * x.toNat) 2 ∧ 0 < M (121 + 3 * u.toNat) 2 then
      kn (kn_d (M 4) (M (121 + 3 * x.toNat + 2)) (M (121 + 3 * u.toNat + 2)) (M (121 + 3 * x.toNat) 2).toNat (M (121 + 3 * u.toNat) 2).toNat k.toNat (v - y)) ((M (121 + 3 * x.toNat) 2).toNat * (M (121 + 3 * u.toNat) 2).toNat / Nat.gcd (M (121 + 3 * x.toNat) 2).toNat (M (121 + 3 * u.toNat) 2).toNat) else -4) else -2) M := by
  refine mm_startF (ls := [(2, 1), (0, x), (0, y), (0, u), (0, v), (0, k)]) rfl ?_
  by_cases hs : ((0 ≤ x ∧ x ≤ 5) ∧ (0 ≤ y ∧ y ≤ 40) ∧ (0 ≤ u ∧ u ≤ 5) ∧ (0 ≤ v ∧ v ≤ 40)) ∧ 0 ≤ k ∧ k ≤ 99
  · obtain ⟨⟨hx1, hy1, hu1, hv1⟩, hk1⟩ := id hs
    rw [if_pos hs]
    have e1 := mm_keptref hR hx1
    have e2 := mm_keptref hR hu1
    have w1 := (mm_rw_kept x.toNat (by omega)).1
    have w2 := (mm_rw_kept u.toNat (by omega)).1
    have l1 := hl x.toNat (by omega)
    have l2 := hl u.toNat (by omega)
    by_cases hb : 0 < M (121 + 3 * x.toNat) 2 ∧ 0 < M (121 + 3 * u.toNat) 2
    · rw [if_pos hb]
      obtain ⟨hb1, hb2⟩ := id hb
      have cn := c_X1_nearest (X := X) (w := v - y) (k := k.toNat) (l := (M (121 + 3 * x.toNat) 2).toNat) (m := (M (121 + 3 * u.toNat) 2).toNat) hR hK w1 w2 (by omega) (by omega) (by omega) (by omega) (fun i hi => hst x.toNat (by omega) i (by omega)) (fun i hi => hst u.toNat (by omega) i (by omega))
      rw [Int.toNat_of_nonneg hk1.1] at cn
      refine mm_aload_n dX11_apart_0 rfl rfl ?_
      refine mm_iload_n dX11_apart_1 rfl rfl ?_
      refine mm_iload_n dX11_apart_2 rfl rfl ?_
      refine mm_iload_n dX11_apart_3 rfl rfl ?_
      refine mm_iload dX11_apart_4 rfl rfl ?_
      refine mm_V4i dX11_apart_6 rfl lk_X11_312 (c := 0) rfl (by decide) rfl (by simp) (by simp) (by simp) (by simp) rfl rfl rfl (c_X11_canPair hx hy hu hv) ?_
      refine mm_ifeqb dX11_apart_9 (fun h9 => ?_) (fun h9 => ?_)
      · exact absurd hs.1 h9
      · refine mm_iload dX11_apart_12 rfl rfl ?_
        refine mm_iconst dX11_apart_14 rfl ?_
        refine mm_bipush dX11_apart_15 rfl (by decide) ?_
        refine mm_S3i dX11_apart_17 rfl lk_X11_171 (by simp) (by simp) (by simp) rfl rfl rfl (c_X11_isWithin hk (by omega) (by omega)) ?_
        refine mm_ifneb dX11_apart_20 (fun h20 => ?_) (fun h20 => ?_)
        · refine mm_aload_n dX11_apart_26 rfl rfl ?_
          refine mm_iload_n dX11_apart_27 rfl rfl ?_
          refine mm_iload_n dX11_apart_28 rfl rfl ?_
          refine mm_V2i dX11_apart_29 rfl lk_X11_316 (c := 0) rfl (by decide) rfl (by simp) (by simp) rfl rfl rfl (c_X11_areKept hR hx1 hu1 hl) ?_
          refine mm_ifeqb dX11_apart_32 (fun h32 => ?_) (fun h32 => ?_)
          · exact absurd hb h32
          · refine mm_aload_n dX11_apart_35 rfl rfl ?_
            refine mm_getr dX11_apart_36 rfl fl_X11_76 (c := 0) rfl (by decide) rfl rfl (hR.at (c := 0) (i := 9) (v := 145) rfl (by decide)) ?_
            refine mm_aload_n dX11_apart_39 rfl rfl ?_
            refine mm_getr dX11_apart_40 rfl fl_X11_60 (c := 0) rfl (by decide) rfl rfl (hR.at (c := 0) (i := 7) (v := 121) rfl (by decide)) ?_
            refine mm_iload_n dX11_apart_43 rfl rfl ?_
            refine mm_aald dX11_apart_44 rfl (c := 120) rfl (by decide) rfl (by omega) (by omega) ?_
            rw [e1]
            refine mm_aload_n dX11_apart_45 rfl rfl ?_
            refine mm_getr dX11_apart_46 rfl fl_X11_60 (c := 0) rfl (by decide) rfl rfl (hR.at (c := 0) (i := 7) (v := 121) rfl (by decide)) ?_
            refine mm_iload_n dX11_apart_49 rfl rfl ?_
            refine mm_aald dX11_apart_50 rfl (c := 120) rfl (by decide) rfl (by omega) (by omega) ?_
            rw [e2]
            refine mm_iload dX11_apart_51 rfl rfl ?_
            refine mm_iload_n dX11_apart_53 rfl rfl ?_
            refine mm_isub dX11_apart_54 rfl ?_
            refine mm_iload dX11_apart_55 rfl rfl ?_
            refine mm_V4i dX11_apart_57 rfl lk_X11_320 (c := 144) rfl (by decide) rfl (by simp) (by simp) (by simp) (by simp) rfl rfl rfl (cn) ?_
            refine mm_goto dX11_apart_60 ?_
            refine mm_iret dX11_apart_65 rfl rfl ?_
            exact mm_fin rfl rfl
        · exact absurd hs.2 h20
    · rw [if_neg hb]
      refine mm_aload_n dX11_apart_0 rfl rfl ?_
      refine mm_iload_n dX11_apart_1 rfl rfl ?_
      refine mm_iload_n dX11_apart_2 rfl rfl ?_
      refine mm_iload_n dX11_apart_3 rfl rfl ?_
      refine mm_iload dX11_apart_4 rfl rfl ?_
      refine mm_V4i dX11_apart_6 rfl lk_X11_312 (c := 0) rfl (by decide) rfl (by simp) (by simp) (by simp) (by simp) rfl rfl rfl (c_X11_canPair hx hy hu hv) ?_
      refine mm_ifeqb dX11_apart_9 (fun h9 => ?_) (fun h9 => ?_)
      · exact absurd hs.1 h9
      · refine mm_iload dX11_apart_12 rfl rfl ?_
        refine mm_iconst dX11_apart_14 rfl ?_
        refine mm_bipush dX11_apart_15 rfl (by decide) ?_
        refine mm_S3i dX11_apart_17 rfl lk_X11_171 (by simp) (by simp) (by simp) rfl rfl rfl (c_X11_isWithin hk (by omega) (by omega)) ?_
        refine mm_ifneb dX11_apart_20 (fun h20 => ?_) (fun h20 => ?_)
        · refine mm_aload_n dX11_apart_26 rfl rfl ?_
          refine mm_iload_n dX11_apart_27 rfl rfl ?_
          refine mm_iload_n dX11_apart_28 rfl rfl ?_
          refine mm_V2i dX11_apart_29 rfl lk_X11_316 (c := 0) rfl (by decide) rfl (by simp) (by simp) rfl rfl rfl (c_X11_areKept hR hx1 hu1 hl) ?_
          refine mm_ifeqb dX11_apart_32 (fun h32 => ?_) (fun h32 => ?_)
          · refine mm_bipush dX11_apart_63 rfl (by decide) ?_
            refine mm_iret dX11_apart_65 rfl rfl ?_
            exact mm_fin rfl rfl
          · exact absurd h32 hb
        · exact absurd hs.2 h20
  · rw [if_neg hs]
    refine mm_aload_n dX11_apart_0 rfl rfl ?_
    refine mm_iload_n dX11_apart_1 rfl rfl ?_
    refine mm_iload_n dX11_apart_2 rfl rfl ?_
    refine mm_iload_n dX11_apart_3 rfl rfl ?_
    refine mm_iload dX11_apart_4 rfl rfl ?_
    refine mm_V4i dX11_apart_6 rfl lk_X11_312 (c := 0) rfl (by decide) rfl (by simp) (by simp) (by simp) (by simp) rfl rfl rfl (c_X11_canPair hx hy hu hv) ?_
    refine mm_ifeqb dX11_apart_9 (fun h9 => ?_) (fun h9 => ?_)
    · refine mm_bipush dX11_apart_23 rfl (by decide) ?_
      refine mm_iret dX11_apart_25 rfl rfl ?_
      exact mm_fin rfl rfl
    · refine mm_iload dX11_apart_12 rfl rfl ?_
      refine mm_iconst dX11_apart_14 rfl ?_
      refine mm_bipush dX11_apart_15 rfl (by decide) ?_
      refine mm_S3i dX11_apart_17 rfl lk_X11_171 (by simp) (by simp) (by simp) rfl rfl rfl (c_X11_isWithin hk (by omega) (by omega)) ?_
      refine mm_ifneb dX11_apart_20 (fun h20 => ?_) (fun h20 => ?_)
      · exact absurd (And.intro h9 h20) hs
      · refine mm_bipush dX11_apart_23 rfl (by decide) ?_
        refine mm_iret dX11_apart_25 rfl rfl ?_
        exact mm_fin rfl rfl
theorem c_X1_bestShift (hR : mm_Rf M) (hK : mm_CK M) (hrc : mm_rw rc 100) (hrd : mm_rw rd 100) (hl : M rc 2 = (l : Int) ∧ 1 ≤ l ∧ l ≤ 100) (hm : M rd 2 = (m : Int) ∧ 1 ≤ m ∧ m ≤ 100) (hw : -40 ≤ w ∧ w ≤ 40)
    (hs : ∀ i : Nat, i < l → ks_st (M 4) (M (rc + 2) i)) (ht : ∀ i : Nat, i < m → ks_st (M 4) (M (rd + 2) i)) :
    mm_Fn X Y_X1_bestShift 243 [(2, 145), (2, (rc : Int) + 1), (2, (rd : Int) + 1), (0, w)] M (0, (kb_best (fun k => kn (kn_d (M 4) (M (rc + 2)) (M (rd + 2)) l m k w) (l * m / Nat.gcd l m)) (Nat.gcd l m)).1) M := by
  obtain ⟨f, hf⟩ : ∃ f : Nat → Int, f = (fun k => kn (kn_d (M 4) (M (rc + 2)) (M (rd + 2)) l m k w) (l * m / Nat.gcd l m)) := ⟨_, rfl⟩
  have hfb : ∀ i, 0 ≤ f i ∧ f i ≤ 1000 := by intro i; rw [hf]; exact kn_b (fun t => (kn_db hK.1 hw t).1) _
  have hg : 1 ≤ Nat.gcd l m := Nat.gcd_pos_of_pos_left m (by omega)
  have hg2 : Nat.gcd l m ≤ l := Nat.gcd_le_left m (by omega)
  have hl1 := hl.1
  have hm1 := hm.1
  rw [← hf]
  refine mm_startF (ls := [(2, 145), (2, (rc : Int) + 1), (2, (rd : Int) + 1), (0, w), (9, 0), (9, 0), (9, 0), (9, 0), (9, 0)]) rfl ?_
  have loop : ∀ i : Nat, i ≤ Nat.gcd l m → ∀ l8 : mm_V, mm_J X Y_X1_bestShift 243 243 243 22 [(2, 145), (2, (rc : Int) + 1), (2, (rd : Int) + 1), (0, w), (0, (kb_best f i).1), (0, (kb_best f i).2), (0, ((Nat.gcd l m : Nat) : Int)), (0, (i : Int)), l8] [] M (fun r' M'' => r' = (0, (kb_best f (Nat.gcd l m)).1) ∧ M'' = M) := by
    refine mm_lp ?_
    intro i hi ih l8
    have hbb := kb_bestb (f := f) (B := 1000) (by decide) (n := i) (fun j _ => hfb j)
    by_cases hlt : i < Nat.gcd l m
    · have hfi := hfb i
      have cn := c_X1_nearest (X := X) (w := w) (k := i) (l := l) (m := m) hR hK hrc hrd hl hm (by omega) (by omega) hs ht
      have ef : kn (kn_d (M 4) (M (rc + 2)) (M (rd + 2)) l m i w) (l * m / Nat.gcd l m) = f i := by rw [hf]
      rw [ef] at cn
      have ih := ih hlt
      rw [kb_best] at ih
      refine mm_iload dX1_bestShift_22 rfl rfl ?_
      refine mm_iload dX1_bestShift_24 rfl rfl ?_
      refine mm_icge dX1_bestShift_26 (by omega) (by omega) (fun h26 => ?_) (fun h26 => ?_)
      · exfalso; omega
      · refine mm_aload_n dX1_bestShift_29 rfl rfl ?_
        refine mm_aload_n dX1_bestShift_30 rfl rfl ?_
        refine mm_aload_n dX1_bestShift_31 rfl rfl ?_
        refine mm_iload_n dX1_bestShift_32 rfl rfl ?_
        refine mm_iload dX1_bestShift_33 rfl rfl ?_
        refine mm_V4i dX1_bestShift_35 rfl lk_X1_42 (c := 144) rfl (by decide) rfl (by simp) (by simp) (by simp) (by simp) rfl rfl rfl (cn) ?_
        refine mm_istore dX1_bestShift_38 rfl (Nat.le_of_ble_eq_true rfl) rfl ?_
        refine mm_iload dX1_bestShift_40 rfl rfl ?_
        refine mm_iload dX1_bestShift_42 rfl rfl ?_
        refine mm_icle dX1_bestShift_44 (by omega) (by omega) (fun h44 => ?_) (fun h44 => ?_)
        · refine mm_iinc dX1_bestShift_55 rfl rfl (Nat.le_of_ble_eq_true rfl) rfl ?_
          refine mm_goto dX1_bestShift_58 ?_
          first
          | (rw [if_pos (by omega)] at ih; exact ih _)
          | (rw [if_neg (by omega)] at ih; exact ih _)
        · refine mm_iload dX1_bestShift_47 rfl rfl ?_
          refine mm_istore dX1_bestShift_49 rfl (Nat.le_of_ble_eq_true rfl) rfl ?_
          refine mm_iload dX1_bestShift_51 rfl rfl ?_
          refine mm_istore dX1_bestShift_53 rfl (Nat.le_of_ble_eq_true rfl) rfl ?_
          refine mm_iinc dX1_bestShift_55 rfl rfl (Nat.le_of_ble_eq_true rfl) rfl ?_
          refine mm_goto dX1_bestShift_58 ?_
          first
          | (rw [if_pos (by omega)] at ih; exact ih _)
          | (rw [if_neg (by omega)] at ih; exact ih _)
    · have ei : i = Nat.gcd l m := by omega
      refine mm_iload dX1_bestShift_22 rfl rfl ?_
      refine mm_iload dX1_bestShift_24 rfl rfl ?_
      refine mm_icge dX1_bestShift_26 (by omega) (by omega) (fun h26 => ?_) (fun h26 => ?_)
      · refine mm_iload dX1_bestShift_61 rfl rfl ?_
        refine mm_iret dX1_bestShift_63 rfl rfl ?_
        exact mm_fin (by rw [ei]) rfl
      · exfalso; omega
  refine mm_iconst dX1_bestShift_0 rfl ?_
  refine mm_istore dX1_bestShift_1 rfl (Nat.le_of_ble_eq_true rfl) rfl ?_
  refine mm_iconst dX1_bestShift_3 rfl ?_
  refine mm_istore dX1_bestShift_4 rfl (Nat.le_of_ble_eq_true rfl) rfl ?_
  refine mm_aload_n dX1_bestShift_6 rfl rfl ?_
  refine mm_get (kd := 0) dX1_bestShift_7 rfl fl_X1_53 (c := rc) rfl hrc.c0 hrc.1 rfl ?_
  refine mm_aload_n dX1_bestShift_10 rfl rfl ?_
  refine mm_get (kd := 0) dX1_bestShift_11 rfl fl_X1_53 (c := rd) rfl hrd.c0 hrd.1 rfl ?_
  rw [hl1, hm1]
  refine mm_S2i dX1_bestShift_14 rfl lk_X1_62 (by simp) (by simp) rfl rfl rfl (c_X1_sharedStep hR hl.2 hm.2) ?_
  refine mm_istore dX1_bestShift_17 rfl (Nat.le_of_ble_eq_true rfl) rfl ?_
  refine mm_iconst dX1_bestShift_19 rfl ?_
  refine mm_istore dX1_bestShift_20 rfl (Nat.le_of_ble_eq_true rfl) rfl ?_
  exact loop 0 (Nat.zero_le _) _
theorem c_X11_shift (hR : mm_Rf M) (hK : mm_CK M) (hx : mm_R x) (hy : mm_R y) (hu : mm_R u) (hv : mm_R v) (hl : ∀ k : Nat, k < 6 → 0 ≤ M (121 + 3 * k) 2 ∧ M (121 + 3 * k) 2 ≤ 100) (hst : ∀ k : Nat, k < 6 → ∀ i : Nat, (i : Int) < M (121 + 3 * k) 2 → ks_st (M 4) (M (121 + 3 * k + 2) i)) :
    mm_Fn X Y_X11_shift 243 [(2, 1), (0, x), (0, y), (0, u), (0, v)] M (0, if (0 ≤ x ∧ x ≤ 5) ∧ (0 ≤ y ∧ y ≤ 40) ∧ (0 ≤ u ∧ u ≤ 5) ∧ (0 ≤ v ∧ v ≤ 40) then (if 0 < M (121 + 3 * x.toNat) 2 ∧ 0 < M (121 + 3 * u.toNat) 2 then
      (kb_best (fun k => kn (kn_d (M 4) (M (121 + 3 * x.toNat + 2)) (M (121 + 3 * u.toNat + 2)) (M (121 + 3 * x.toNat) 2).toNat (M (121 + 3 * u.toNat) 2).toNat k (v - y)) ((M (121 + 3 * x.toNat) 2).toNat * (M (121 + 3 * u.toNat) 2).toNat / Nat.gcd (M (121 + 3 * x.toNat) 2).toNat (M (121 + 3 * u.toNat) 2).toNat)) (Nat.gcd (M (121 + 3 * x.toNat) 2).toNat (M (121 + 3 * u.toNat) 2).toNat)).1 else -4) else -2) M := by
  refine mm_startF (ls := [(2, 1), (0, x), (0, y), (0, u), (0, v)]) rfl ?_
  by_cases hs : (0 ≤ x ∧ x ≤ 5) ∧ (0 ≤ y ∧ y ≤ 40) ∧ (0 ≤ u ∧ u ≤ 5) ∧ (0 ≤ v ∧ v ≤ 40)
  · obtain ⟨hx1, hy1, hu1, hv1⟩ := id hs
    rw [if_pos hs]
    have e1 := mm_keptref hR hx1
    have e2 := mm_keptref hR hu1
    have w1 := (mm_rw_kept x.toNat (by omega)).1
    have w2 := (mm_rw_kept u.toNat (by omega)).1
    have l1 := hl x.toNat (by omega)
    have l2 := hl u.toNat (by omega)
    by_cases hb : 0 < M (121 + 3 * x.toNat) 2 ∧ 0 < M (121 + 3 * u.toNat) 2
    · rw [if_pos hb]
      obtain ⟨hb1, hb2⟩ := id hb
      refine mm_aload_n dX11_shift_0 rfl rfl ?_
      refine mm_iload_n dX11_shift_1 rfl rfl ?_
      refine mm_iload_n dX11_shift_2 rfl rfl ?_
      refine mm_iload_n dX11_shift_3 rfl rfl ?_
      refine mm_iload dX11_shift_4 rfl rfl ?_
      refine mm_V4i dX11_shift_6 rfl lk_X11_312 (c := 0) rfl (by decide) rfl (by simp) (by simp) (by simp) (by simp) rfl rfl rfl (c_X11_canPair hx hy hu hv) ?_
      refine mm_ifneb dX11_shift_9 (fun h9 => ?_) (fun h9 => ?_)
      · refine mm_aload_n dX11_shift_15 rfl rfl ?_
        refine mm_iload_n dX11_shift_16 rfl rfl ?_
        refine mm_iload_n dX11_shift_17 rfl rfl ?_
        refine mm_V2i dX11_shift_18 rfl lk_X11_316 (c := 0) rfl (by decide) rfl (by simp) (by simp) rfl rfl rfl (c_X11_areKept hR hx1 hu1 hl) ?_
        refine mm_ifeqb dX11_shift_21 (fun h21 => ?_) (fun h21 => ?_)
        · exact absurd hb h21
        · refine mm_aload_n dX11_shift_24 rfl rfl ?_
          refine mm_getr dX11_shift_25 rfl fl_X11_76 (c := 0) rfl (by decide) rfl rfl (hR.at (c := 0) (i := 9) (v := 145) rfl (by decide)) ?_
          refine mm_aload_n dX11_shift_28 rfl rfl ?_
          refine mm_getr dX11_shift_29 rfl fl_X11_60 (c := 0) rfl (by decide) rfl rfl (hR.at (c := 0) (i := 7) (v := 121) rfl (by decide)) ?_
          refine mm_iload_n dX11_shift_32 rfl rfl ?_
          refine mm_aald dX11_shift_33 rfl (c := 120) rfl (by decide) rfl (by omega) (by omega) ?_
          rw [e1]
          refine mm_aload_n dX11_shift_34 rfl rfl ?_
          refine mm_getr dX11_shift_35 rfl fl_X11_60 (c := 0) rfl (by decide) rfl rfl (hR.at (c := 0) (i := 7) (v := 121) rfl (by decide)) ?_
          refine mm_iload_n dX11_shift_38 rfl rfl ?_
          refine mm_aald dX11_shift_39 rfl (c := 120) rfl (by decide) rfl (by omega) (by omega) ?_
          rw [e2]
          refine mm_iload dX11_shift_40 rfl rfl ?_
          refine mm_iload_n dX11_shift_42 rfl rfl ?_
          refine mm_isub dX11_shift_43 rfl ?_
          refine mm_V3i dX11_shift_44 rfl lk_X11_324 (c := 144) rfl (by decide) rfl (by simp) (by simp) (by simp) rfl rfl rfl ((c_X1_bestShift (X := X) (w := v - y) (l := (M (121 + 3 * x.toNat) 2).toNat) (m := (M (121 + 3 * u.toNat) 2).toNat) hR hK w1 w2 (by omega) (by omega) (by omega) (fun i hi => hst x.toNat (by omega) i (by omega)) (fun i hi => hst u.toNat (by omega) i (by omega)))) ?_
          refine mm_goto dX11_shift_47 ?_
          refine mm_iret dX11_shift_52 rfl rfl ?_
          exact mm_fin rfl rfl
      · exact absurd hs h9
    · rw [if_neg hb]
      refine mm_aload_n dX11_shift_0 rfl rfl ?_
      refine mm_iload_n dX11_shift_1 rfl rfl ?_
      refine mm_iload_n dX11_shift_2 rfl rfl ?_
      refine mm_iload_n dX11_shift_3 rfl rfl ?_
      refine mm_iload dX11_shift_4 rfl rfl ?_
      refine mm_V4i dX11_shift_6 rfl lk_X11_312 (c := 0) rfl (by decide) rfl (by simp) (by simp) (by simp) (by simp) rfl rfl rfl (c_X11_canPair hx hy hu hv) ?_
      refine mm_ifneb dX11_shift_9 (fun h9 => ?_) (fun h9 => ?_)
      · refine mm_aload_n dX11_shift_15 rfl rfl ?_
        refine mm_iload_n dX11_shift_16 rfl rfl ?_
        refine mm_iload_n dX11_shift_17 rfl rfl ?_
        refine mm_V2i dX11_shift_18 rfl lk_X11_316 (c := 0) rfl (by decide) rfl (by simp) (by simp) rfl rfl rfl (c_X11_areKept hR hx1 hu1 hl) ?_
        refine mm_ifeqb dX11_shift_21 (fun h21 => ?_) (fun h21 => ?_)
        · refine mm_bipush dX11_shift_50 rfl (by decide) ?_
          refine mm_iret dX11_shift_52 rfl rfl ?_
          exact mm_fin rfl rfl
        · exact absurd h21 hb
      · exact absurd hs h9
  · rw [if_neg hs]
    refine mm_aload_n dX11_shift_0 rfl rfl ?_
    refine mm_iload_n dX11_shift_1 rfl rfl ?_
    refine mm_iload_n dX11_shift_2 rfl rfl ?_
    refine mm_iload_n dX11_shift_3 rfl rfl ?_
    refine mm_iload dX11_shift_4 rfl rfl ?_
    refine mm_V4i dX11_shift_6 rfl lk_X11_312 (c := 0) rfl (by decide) rfl (by simp) (by simp) (by simp) (by simp) rfl rfl rfl (c_X11_canPair hx hy hu hv) ?_
    refine mm_ifneb dX11_shift_9 (fun h9 => ?_) (fun h9 => ?_)
    · exact absurd h9 hs
    · refine mm_bipush dX11_shift_12 rfl (by decide) ?_
      refine mm_iret dX11_shift_14 rfl rfl ?_
      exact mm_fin rfl rfl
end

