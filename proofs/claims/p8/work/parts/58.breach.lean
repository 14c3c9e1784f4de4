/-! ===== breaches ===== -/
/-- the first of the k ticks from t on at which P holds, or -1 -/
def kf_from (P : Nat → Prop) [∀ t, Decidable (P t)] : Nat → Nat → Int
  | _, 0 => -1
  | t, k + 1 => if P t then (t : Int) else kf_from P (t + 1) k
abbrev kb_at (K : Nat → Int) (S : Nat → Int) (len : Nat) (roof : Nat → Int) (h e : Int) (t : Nat) : Prop := roof ((h + (t : Int) / e) % 24).toNat < ks_h K (S (t % len))
theorem mm_modstep {t len : Nat} (hl : 0 < len) : (if t % len + 1 < len then t % len + 1 else 0) = (t + 1) % len := by
  have hlt := Nat.mod_lt t hl
  rw [Nat.add_mod]
  by_cases h1 : len = 1
  · subst h1; simp; omega
  · rw [Nat.mod_eq_of_lt (show 1 < len by omega)]
    generalize t % len = r at hlt ⊢
    split
    · rw [Nat.mod_eq_of_lt (by omega)]
    · rw [show r + 1 = len by omega, Nat.mod_self]
section
variable {X : mm_X} {M : mm_M} {x h e n : Int} {rc len : Nat}
theorem c_X5_firstBreach (hR : mm_Rf M) (hK : mm_CK M) (hrw : mm_rw rc len) (hl : 0 < M rc 2 ∧ M rc 2 ≤ len) (hst : ∀ i : Nat, (i : Int) < M rc 2 → ks_st (M 4) (M (rc + 2) i)) (hh : ks_hr h) (he : 1 ≤ e ∧ e ≤ 60) (hn : 1 ≤ n ∧ n ≤ 5000) (hr : ∀ i, i < 24 → mm_R (M 173 i)) :
    mm_Fn X Y_X5_firstBreach 243 [(2, 173), (2, (rc : Int) + 1), (2, 4), (0, h), (0, e), (0, n)] M (0, kf_from (kb_at (M 4) (M (rc + 2)) (M rc 2).toNat (M 173) h e) 0 n.toNat) M := by
  have hs1 := (mm_shA _ hrw.2.1).1
  refine mm_startF (ls := [(2, 173), (2, (rc : Int) + 1), (2, 4), (0, h), (0, e), (0, n), (9, 0), (9, 0)]) rfl ?_
  have loop : ∀ (k t : Nat), t + k = n.toNat → kf_from (kb_at (M 4) (M (rc + 2)) (M rc 2).toNat (M 173) h e) t k = kf_from (kb_at (M 4) (M (rc + 2)) (M rc 2).toNat (M 173) h e) 0 n.toNat →
      mm_J X Y_X5_firstBreach 243 243 243 6 [(2, 173), (2, (rc : Int) + 1), (2, 4), (0, h), (0, e), (0, n), (0, ((t % (M rc 2).toNat : Nat) : Int)), (0, (t : Int))] [] M (fun r' M'' => r' = (0, kf_from (kb_at (M 4) (M (rc + 2)) (M rc 2).toNat (M 173) h e) 0 n.toNat) ∧ M'' = M) := by
    intro k
    induction k with
    | zero =>
      intro t ht heq
      refine mm_iload dX5_firstBreach_6 rfl rfl ?_
      refine mm_iload dX5_firstBreach_8 rfl rfl ?_
      refine mm_icge dX5_firstBreach_10 (by omega) (by omega) (fun h10 => ?_) (fun h10 => ?_)
      · refine mm_iconst dX5_firstBreach_71 rfl ?_
        refine mm_iret dX5_firstBreach_72 rfl rfl ?_
        exact mm_fin heq rfl
      · exfalso; omega
    | succ k ih =>
      intro t ht heq
      have hm := Nat.mod_lt t (show 0 < (M rc 2).toNat by omega)
      have hs := hst (t % (M rc 2).toNat) (by omega)
      have hnb := ks_nb hK.1
      have htab := hK.tab hs
      have hhb := ks_hb hK.1 hs
      have hdv := mm_divb (a := (t : Int)) (b := e) (A := 5000) (by omega) (by omega) (by omega)
      have hmod : 0 ≤ (h + (t : Int) / e) % 24 ∧ (h + (t : Int) / e) % 24 < 24 := by omega
      have hrr := hr ((h + (t : Int) / e) % 24).toNat (by omega)
      have := hs.1
      have := hs.2
      have stp : ∀ z : Int, z = (((t + 1) % (M rc 2).toNat : Nat) : Int) → ¬ kb_at (M 4) (M (rc + 2)) (M rc 2).toNat (M 173) h e t → mm_J X Y_X5_firstBreach 243 243 243 63 [(2, 173), (2, (rc : Int) + 1), (2, 4), (0, h), (0, e), (0, n), (0, ((t % (M rc 2).toNat : Nat) : Int)), (0, (t : Int))] [(0, z)] M (fun r' M'' => r' = (0, kf_from (kb_at (M 4) (M (rc + 2)) (M rc 2).toNat (M 173) h e) 0 n.toNat) ∧ M'' = M) := by
        intro z hz hno
        subst hz
        refine mm_istore dX5_firstBreach_63 rfl (Nat.le_of_ble_eq_true rfl) rfl ?_
        refine mm_iinc dX5_firstBreach_65 rfl rfl (Nat.le_of_ble_eq_true rfl) rfl ?_
        refine mm_goto dX5_firstBreach_68 ?_
        exact ih (t + 1) (by omega) (by rw [← heq, kf_from, if_neg hno])
      have hstep := mm_modstep (t := t) (len := (M rc 2).toNat) (by omega)
      refine mm_iload dX5_firstBreach_6 rfl rfl ?_
      refine mm_iload dX5_firstBreach_8 rfl rfl ?_
      refine mm_icge dX5_firstBreach_10 (by omega) (by omega) (fun h10 => ?_) (fun h10 => ?_)
      · exfalso; omega
      · refine mm_aload_n dX5_firstBreach_13 rfl rfl ?_
        refine mm_getr dX5_firstBreach_14 rfl fl_X5_33 (c := 3) rfl (by decide) rfl rfl (hR.at (c := 3) (i := 6) (v := 10) rfl (by decide)) ?_
        refine mm_aload_n dX5_firstBreach_17 rfl rfl ?_
        refine mm_getr dX5_firstBreach_18 rfl fl_X5_38 (c := rc) rfl hrw.c0 hrw.1 rfl (hrw.states hR) ?_
        refine mm_iload dX5_firstBreach_21 rfl rfl ?_
        refine mm_ialk (k0 := (t % (M rc 2).toNat)) dX5_firstBreach_23 rfl (c := rc + 2) rfl hrw.c2 hrw.2.2.1 (by omega) (by omega) ?_
        refine mm_iald dX5_firstBreach_24 rfl (c := 9) rfl (by decide) rfl (by omega) (by omega) ?_
        rw [htab.2.2.2.1]
        refine mm_aload_n dX5_firstBreach_25 rfl rfl ?_
        refine mm_getr dX5_firstBreach_26 rfl fl_X5_11 (c := 172) rfl (by decide) rfl rfl (hR.at (c := 172) (i := 1) (v := 174) rfl (by decide)) ?_
        refine mm_iload_n dX5_firstBreach_29 rfl rfl ?_
        refine mm_iload dX5_firstBreach_30 rfl rfl ?_
        refine mm_iload dX5_firstBreach_32 rfl rfl ?_
        refine mm_S3i dX5_firstBreach_34 rfl lk_X5_43 (by simp) (by simp) (by simp) rfl rfl rfl (c_X0_hourOf hh (by omega) he) ?_
        refine mm_iald dX5_firstBreach_37 rfl (c := 173) rfl (by decide) rfl (by omega) (by omega) ?_
        refine mm_icle dX5_firstBreach_38 (by omega) (by omega) (fun h38 => ?_) (fun h38 => ?_)
        · refine mm_iload dX5_firstBreach_44 rfl rfl ?_
          refine mm_iconst dX5_firstBreach_46 rfl ?_
          refine mm_iadd dX5_firstBreach_47 rfl ?_
          refine mm_aload_n dX5_firstBreach_48 rfl rfl ?_
          refine mm_get (kd := 0) dX5_firstBreach_49 rfl fl_X5_47 (c := rc) rfl hrw.c0 hrw.1 rfl ?_
          refine mm_icge dX5_firstBreach_52 (by omega) (by omega) (fun h52 => ?_) (fun h52 => ?_)
          · refine mm_iconst dX5_firstBreach_62 rfl ?_
            refine stp _ ?_ (by unfold kb_at; omega)
            rw [← hstep]
            first
            | (rw [if_pos (by omega)]; omega)
            | (rw [if_neg (by omega)]; omega)
          · refine mm_iload dX5_firstBreach_55 rfl rfl ?_
            refine mm_iconst dX5_firstBreach_57 rfl ?_
            refine mm_iadd dX5_firstBreach_58 rfl ?_
            refine mm_goto dX5_firstBreach_59 ?_
            refine stp _ ?_ (by unfold kb_at; omega)
            rw [← hstep]
            first
            | (rw [if_pos (by omega)]; omega)
            | (rw [if_neg (by omega)]; omega)
        · refine mm_iload dX5_firstBreach_41 rfl rfl ?_
          refine mm_iret dX5_firstBreach_43 rfl rfl ?_
          exact mm_fin (by rw [← heq, kf_from, if_pos (show kb_at (M 4) (M (rc + 2)) (M rc 2).toNat (M 173) h e t by unfold kb_at; omega)]) rfl
  refine mm_iconst dX5_firstBreach_0 rfl ?_
  refine mm_istore dX5_firstBreach_1 rfl (Nat.le_of_ble_eq_true rfl) rfl ?_
  refine mm_iconst dX5_firstBreach_3 rfl ?_
  refine mm_istore dX5_firstBreach_4 rfl (Nat.le_of_ble_eq_true rfl) rfl ?_
  have := loop n.toNat 0 (by omega) rfl
  rw [Nat.zero_mod] at this
  exact this
theorem c_X11_breach (hR : mm_Rf M) (hK : mm_CK M) (hx : mm_R x) (hh : mm_R h) (he : mm_R e) (hn : mm_R n) (hr : ∀ i, i < 24 → mm_R (M 173 i)) (hl : ∀ k : Nat, k < 6 → 0 ≤ M (121 + 3 * k) 2 ∧ M (121 + 3 * k) 2 ≤ 100) (hst : ∀ k : Nat, k < 6 → ∀ i : Nat, (i : Int) < M (121 + 3 * k) 2 → ks_st (M 4) (M (121 + 3 * k + 2) i)) :
    mm_Fn X Y_X11_breach 243 [(2, 1), (0, x), (0, h), (0, e), (0, n)] M (0, if (0 ≤ x ∧ x ≤ 5) ∧ ks_hr h ∧ (1 ≤ e ∧ e ≤ 60) ∧ 1 ≤ n ∧ n ≤ 5000 then (if 0 < M (121 + 3 * x.toNat) 2 then kf_from (kb_at (M 4) (M (121 + 3 * x.toNat + 2)) (M (121 + 3 * x.toNat) 2).toNat (M 173) h e) 0 n.toNat else -4) else -2) M := by
  refine mm_startF (ls := [(2, 1), (0, x), (0, h), (0, e), (0, n), (9, 0)]) rfl ?_
  by_cases hs : 0 ≤ x ∧ x ≤ 5
  · have e1 := mm_keptref hR hs
    have w1 := (mm_rw_kept x.toNat (by omega)).1
    have l1 := hl x.toNat (by omega)
    refine mm_iload_n dX11_breach_0 rfl rfl ?_
    refine mm_S1i dX11_breach_1 rfl lk_X11_254 (by simp) rfl rfl rfl (c_X11_isSlot hx) ?_
    refine mm_ifeqb dX11_breach_4 (fun h4 => ?_) (fun h4 => ?_)
    · exact absurd hs h4
    · refine mm_iload_n dX11_breach_7 rfl rfl ?_
      refine mm_S1i dX11_breach_8 rfl lk_X11_165 (by simp) rfl rfl rfl (c_X11_isHour hh) ?_
      refine mm_ifeqb dX11_breach_11 (fun h11 => ?_) (fun h11 => ?_)
      · refine mm_iconst dX11_breach_25 rfl ?_
        refine mm_istore dX11_breach_26 rfl (Nat.le_of_ble_eq_true rfl) rfl ?_
        refine mm_iload dX11_breach_28 rfl rfl ?_
        refine mm_ifeq dX11_breach_30 (by omega) (fun _ => ?_) (fun h => absurd (by decide) h)
        refine mm_bipush dX11_breach_45 rfl (by decide) ?_
        refine mm_iret dX11_breach_47 rfl rfl ?_
        refine mm_fin ?_ rfl
        first
        | (rw [if_neg (fun q => h11 q.2.1)]; done)
        | (rw [if_neg (fun q => h18 q.2.2.1)]; done)
        | (rw [if_neg (fun q => h42 q.2.2.2)]; done)
      · refine mm_iload_n dX11_breach_14 rfl rfl ?_
        refine mm_S1i dX11_breach_15 rfl lk_X11_257 (by simp) rfl rfl rfl (c_X11_isEach he) ?_
        refine mm_ifeqb dX11_breach_18 (fun h18 => ?_) (fun h18 => ?_)
        · refine mm_iconst dX11_breach_25 rfl ?_
          refine mm_istore dX11_breach_26 rfl (Nat.le_of_ble_eq_true rfl) rfl ?_
          refine mm_iload dX11_breach_28 rfl rfl ?_
          refine mm_ifeq dX11_breach_30 (by omega) (fun _ => ?_) (fun h => absurd (by decide) h)
          refine mm_bipush dX11_breach_45 rfl (by decide) ?_
          refine mm_iret dX11_breach_47 rfl rfl ?_
          refine mm_fin ?_ rfl
          first
          | (rw [if_neg (fun q => h11 q.2.1)]; done)
          | (rw [if_neg (fun q => h18 q.2.2.1)]; done)
          | (rw [if_neg (fun q => h42 q.2.2.2)]; done)
        · refine mm_iconst dX11_breach_21 rfl ?_
          refine mm_goto dX11_breach_22 ?_
          refine mm_istore dX11_breach_26 rfl (Nat.le_of_ble_eq_true rfl) rfl ?_
          refine mm_iload dX11_breach_28 rfl rfl ?_
          refine mm_ifeq dX11_breach_30 (by omega) (fun h => absurd h (by decide)) (fun _ => ?_)
          refine mm_iload dX11_breach_33 rfl rfl ?_
          refine mm_iconst dX11_breach_35 rfl ?_
          refine mm_sipush dX11_breach_36 rfl (by decide) ?_
          refine mm_S3i dX11_breach_39 rfl lk_X11_171 (by simp) (by simp) (by simp) rfl rfl rfl (c_X11_isWithin hn (by omega) (by omega)) ?_
          refine mm_ifneb dX11_breach_42 (fun h42 => ?_) (fun h42 => ?_)
          · refine mm_aload_n dX11_breach_48 rfl rfl ?_
            refine mm_getr dX11_breach_49 rfl fl_X11_60 (c := 0) rfl (by decide) rfl rfl (hR.at (c := 0) (i := 7) (v := 121) rfl (by decide)) ?_
            refine mm_iload_n dX11_breach_52 rfl rfl ?_
            refine mm_aald dX11_breach_53 rfl (c := 120) rfl (by decide) rfl (by omega) (by omega) ?_
            rw [e1]
            refine mm_get (kd := 0) dX11_breach_54 rfl fl_X11_115 (c := 121 + 3 * x.toNat) rfl w1.c0 w1.1 rfl ?_
            refine mm_ifle dX11_breach_57 (by omega) (fun h57 => ?_) (fun h57 => ?_)
            · refine mm_bipush dX11_breach_84 rfl (by decide) ?_
              refine mm_iret dX11_breach_86 rfl rfl ?_
              refine mm_fin ?_ rfl
              rw [if_pos (And.intro h4 (And.intro h11 (And.intro h18 h42)))]
              first
              | (rw [if_pos (by omega)]; done)
              | (rw [if_neg (by omega)]; done)
            · refine mm_aload_n dX11_breach_60 rfl rfl ?_
              refine mm_getr dX11_breach_61 rfl fl_X11_83 (c := 0) rfl (by decide) rfl rfl (hR.at (c := 0) (i := 10) (v := 173) rfl (by decide)) ?_
              refine mm_aload_n dX11_breach_64 rfl rfl ?_
              refine mm_getr dX11_breach_65 rfl fl_X11_60 (c := 0) rfl (by decide) rfl rfl (hR.at (c := 0) (i := 7) (v := 121) rfl (by decide)) ?_
              refine mm_iload_n dX11_breach_68 rfl rfl ?_
              refine mm_aald dX11_breach_69 rfl (c := 120) rfl (by decide) rfl (by omega) (by omega) ?_
              rw [e1]
              refine mm_aload_n dX11_breach_70 rfl rfl ?_
              refine mm_getr dX11_breach_71 rfl fl_X11_19 (c := 0) rfl (by decide) rfl rfl (hR.at (c := 0) (i := 1) (v := 4) rfl (by decide)) ?_
              refine mm_iload_n dX11_breach_74 rfl rfl ?_
              refine mm_iload_n dX11_breach_75 rfl rfl ?_
              refine mm_iload dX11_breach_76 rfl rfl ?_
              refine mm_V5i dX11_breach_78 rfl lk_X11_346 (c := 172) rfl (by decide) rfl (by simp) (by simp) (by simp) (by simp) (by simp) rfl rfl rfl (c_X5_firstBreach hR hK w1 (by omega) (hst x.toNat (by omega)) h11 h18 h42 hr) ?_
              refine mm_goto dX11_breach_81 ?_
              refine mm_iret dX11_breach_86 rfl rfl ?_
              refine mm_fin ?_ rfl
              rw [if_pos (And.intro h4 (And.intro h11 (And.intro h18 h42)))]
              first
              | (rw [if_pos (by omega)]; done)
              | (rw [if_neg (by omega)]; done)
          · refine mm_bipush dX11_breach_45 rfl (by decide) ?_
            refine mm_iret dX11_breach_47 rfl rfl ?_
            refine mm_fin ?_ rfl
            first
            | (rw [if_neg (fun q => h11 q.2.1)]; done)
            | (rw [if_neg (fun q => h18 q.2.2.1)]; done)
            | (rw [if_neg (fun q => h42 q.2.2.2)]; done)
  · refine mm_iload_n dX11_breach_0 rfl rfl ?_
    refine mm_S1i dX11_breach_1 rfl lk_X11_254 (by simp) rfl rfl rfl (c_X11_isSlot hx) ?_
    refine mm_ifeqb dX11_breach_4 (fun h4 => ?_) (fun h4 => ?_)
    · refine mm_iconst dX11_breach_25 rfl ?_
      refine mm_istore dX11_breach_26 rfl (Nat.le_of_ble_eq_true rfl) rfl ?_
      refine mm_iload dX11_breach_28 rfl rfl ?_
      refine mm_ifeq dX11_breach_30 (by omega) (fun _ => ?_) (fun h => absurd (by decide) h)
      refine mm_bipush dX11_breach_45 rfl (by decide) ?_
      refine mm_iret dX11_breach_47 rfl rfl ?_
      exact mm_fin (by rw [if_neg (fun q => hs q.1)]) rfl
    · exact absurd h4 hs
end

