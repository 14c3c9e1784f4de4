/-! ===== KitePower$LoopFinder: raiseFrom ===== -/
/-- the paths as numbers that can be -/
def kv_G (N : mm_M) (n : Nat) : Prop := ∀ u, u < n → ∃ c0 c1 : Nat, N 31 u = (c0 : Int) ∧ N 31 (u + 1) = (c1 : Int) ∧ c0 ≤ c1 ∧ c1 ≤ 4320 ∧ ∀ p, c0 ≤ p → p < c1 → N 32 p = (u : Int) ∧ (∃ v : Nat, v < n ∧ N 33 p = (v : Int)) ∧ -5800000 ≤ N 34 p ∧ N 34 p ≤ 5800000
def kv_f (M N : mm_M) : Prop := mm_Rf N ∧ ∀ a, a ≠ 36 → a ≠ 37 → a ≠ 38 → N a = M a
theorem kv_f.p {M N : mm_M} (f : kv_f M N) {n p u v : Nat} : kv_p N n p u v ↔ kv_p M n p u v := by
  unfold kv_p
  rw [f.2 31 (by decide) (by decide) (by decide), f.2 32 (by decide) (by decide) (by decide), f.2 33 (by decide) (by decide) (by decide)]
theorem kv_f.w {M N : mm_M} (f : kv_f M N) {S C : Int} {p : Nat} : kv_w N S C p = kv_w M S C p := by
  unfold kv_w
  rw [f.2 34 (by decide) (by decide) (by decide)]
theorem kv_f.G {M N : mm_M} (f : kv_f M N) {n : Nat} (h : kv_G M n) : kv_G N n := by
  unfold kv_G at h ⊢
  rw [f.2 31 (by decide) (by decide) (by decide), f.2 32 (by decide) (by decide) (by decide), f.2 33 (by decide) (by decide) (by decide), f.2 34 (by decide) (by decide) (by decide)]
  exact h
theorem kv_A.mono {N : mm_M} {n : Nat} {S C B B' : Int} {T : Nat → Nat} {t : Nat} (h : kv_A N n S C T t B) (hB : B ≤ B') : kv_A N n S C T t B' :=
  ⟨fun v hv => ⟨(h.1 v hv).1, by have := (h.1 v hv).2; omega⟩, h.2⟩
/-- how things stand within raiseFrom, ahead of path p -/
def kv_L (M N : mm_M) (n s c0 p : Nat) (S C B lv b : Int) (T T1 : Nat → Nat) (t : Nat) : Prop :=
  kv_f M N ∧ kv_A N n S C T1 t (B + 4000000000) ∧ ((b = 0 ∧ N = M ∧ T1 = T) ∨ (b = 1 ∧ ∃ v, v < n ∧ T1 v = t)) ∧ (lv ≤ N 36 s ∧ (N 38 s = 0 → N 36 s = lv)) ∧
  (∀ p' v, c0 ≤ p' → p' < p → kv_p N n p' s v → lv + kv_w N S C p' ≤ N 36 v) ∧ (∀ y, y < n → y ≠ s → N 38 y = 0 → kv_S N n S C y) ∧
  ∀ y, y < n → T y ≤ T1 y ∧ (T1 y = T y ∨ T1 y = t) ∧ (N 38 y = 1 → M 38 y = 1 ∨ T1 y = t)
section
variable {X : mm_X} {M : mm_M} {n : Nat}
theorem kv_L.keep {M N : mm_M} {n s c0 p : Nat} {S C B lv b : Int} {T T1 : Nat → Nat} {t : Nat} (h : kv_L M N n s c0 p S C B lv b T T1 t) (hk : ∀ v, kv_p N n p s v → lv + kv_w N S C p ≤ N 36 v) : kv_L M N n s c0 (p + 1) S C B lv b T T1 t := by
  obtain ⟨h1, h2, h3, h4, h5, h6, h7⟩ := h
  refine ⟨h1, h2, h3, h4, fun p' v a1 a2 a3 => ?_, h6, h7⟩
  by_cases c : p' = p
  · rw [c] at a3 ⊢; exact hk v a3
  · exact h5 p' v a1 (by omega) a3
theorem kv_L.up {M N : mm_M} {n s c0 p v : Nat} {S C B lv b x : Int} {T T1 : Nat → Nat} {t : Nat} (h : kv_L M N n s c0 p S C B lv b T T1 t) (hp : kv_p N n p s v) (hx : x = lv + kv_w N S C p) (hr : N 36 v < x) (hB : x ≤ B + 4000000000) (ht : t ≤ T s + 1) (h1t : 1 ≤ t) (hs : s < n) (hR : mm_Rf (kv_up N v p x)) : kv_L M (kv_up N v p x) n s c0 (p + 1) S C B lv 1 T (fun y => if y = v then t else T1 y) t := by
  obtain ⟨h1, h2, h3, h4, h5, h6, h7⟩ := h
  have ge := kv_up_ge (N := N) (v := v) (p := p) (x := x) (by omega)
  have vn := hp.2.2.1
  refine ⟨⟨hR, fun a a1 a2 a3 => by rw [kv_up_row a1 a2 a3]; exact h1.2 a a1 a2 a3⟩, h2.raise hp h4.1 hx hr hB (Int.le_refl _) (by have := (h7 s hs).1; omega) h1t, Or.inr ⟨rfl, v, vn, by show (if v = v then t else T1 v) = t; rw [if_pos rfl]⟩, ⟨by have := ge s; omega, fun z => ?_⟩, fun p' w a1 a2 a3 => ?_, fun y hy hys hy0 p' w a1 => ?_, fun y hy => ?_⟩
  · by_cases c : s = v
    · rw [c, kv_up_38] at z; omega
    · rw [kv_up_i c] at z ⊢
      exact h4.2 z
  · rw [kv_w.up]
    have a3 := kv_p.up.mp a3
    by_cases c : p' = p
    · rw [c] at a3 ⊢
      have e : w = v := by
        have a := a3.2.2.2.2.2.2
        have b := hp.2.2.2.2.2.2
        omega
      rw [e, kv_up_36, hx]
      exact Int.le_refl _
    · have := h5 p' w a1 (by omega) a3
      have := ge w
      omega
  · have c : y ≠ v := fun c => by rw [c, kv_up_38] at hy0; omega
    rw [kv_up_i c] at hy0
    have := h6 y hy hys hy0 p' w (kv_p.up.mp a1)
    have := ge w
    rw [kv_up_i c, kv_w.up]
    omega
  · have q := h7 y hy
    show T y ≤ (if y = v then t else T1 y) ∧ ((if y = v then t else T1 y) = T y ∨ (if y = v then t else T1 y) = t) ∧ (_ → M 38 y = 1 ∨ (if y = v then t else T1 y) = t)
    by_cases c : y = v
    · rw [if_pos c]
      exact ⟨by have := h2.2.2.2.1 y hy; omega, Or.inr rfl, fun _ => Or.inr rfl⟩
    · rw [if_neg c, kv_up_i c]
      exact q
/-- what raiseFrom leaves -/
def kv_M (M M' : mm_M) (n : Nat) (S C B b : Int) (T : Nat → Nat) (t : Nat) : Prop := kv_f M M' ∧ ∃ T1, kv_A M' n S C T1 t (B + 4000000000) ∧ ((b = 0 ∧ M' = M ∧ T1 = T) ∨ (b = 1 ∧ ∃ v, v < n ∧ T1 v = t)) ∧ (∀ y, y < n → M' 38 y = 0 → kv_S M' n S C y) ∧ ∀ y, y < n → T y ≤ T1 y ∧ (T1 y = T y ∨ T1 y = t) ∧ (M' 38 y = 1 → M 38 y = 1 ∨ T1 y = t)
theorem c_X6_raiseFrom {s t : Nat} {S C B : Int} {T : Nat → Nat} (hR : mm_Rf M) (hG : kv_G M n) (hn2 : n ≤ 288) (hS : M 28 16 = S) (hC : M 28 17 = C) (hSb : -2000000000 ≤ S ∧ S ≤ 2000000000) (hCb : 1 ≤ C ∧ C ≤ 288) (hBb : 0 ≤ B ∧ B ≤ 2000000000000000000) (hA : kv_A M n S C T t B) (hs : s < n) (hF : M 38 s = 0) (ht : t ≤ T s + 1) (h1 : 1 ≤ t) (hst : ∀ y, y < n → y ≠ s → M 38 y = 0 → kv_S M n S C y) :
    mm_C X Y_X6_raiseFrom 243 243 [(2, 29), (0, (s : Int))] M (fun r M' => ∃ b, r = (0, b) ∧ mm_Rf M' ∧ kv_M M M' n S C B b T t) := by
  obtain ⟨Φ, hΦ⟩ : ∃ Φ : mm_V → mm_M → Prop, Φ = (fun r M' => ∃ b, r = (0, b) ∧ mm_Rf M' ∧ kv_M M M' n S C B b T t) := ⟨_, rfl⟩
  rw [← hΦ]
  obtain ⟨c0, c1, g1, g2, g3, g4, g5⟩ := hG s hs
  obtain ⟨lv, hlv⟩ : ∃ lv, lv = M 36 s := ⟨_, rfl⟩
  have lvb := hA.1 s hs
  rw [← hlv] at lvb
  have loop : ∀ p : Nat, p ≤ c1 → ∀ N b T1, c0 ≤ p → kv_L M N n s c0 p S C B lv b T T1 t →
      mm_J X Y_X6_raiseFrom 243 243 243 22 [(2, 29), (0, (s : Int)), (0, b), (1, lv - S), (9, 0), (0, (p : Int)), (9, 0), (9, 0), (9, 0)] [] N Φ := by
    refine mm_lp ?_
    intro p hp ih N b T1 hc0 hL
    have hfN := hL.1
    have hRN := hfN.1
    have e31 : N 31 = M 31 := hfN.2 31 (by decide) (by decide) (by decide)
    have e32 : N 32 = M 32 := hfN.2 32 (by decide) (by decide) (by decide)
    have e33 : N 33 = M 33 := hfN.2 33 (by decide) (by decide) (by decide)
    have e34 : N 34 = M 34 := hfN.2 34 (by decide) (by decide) (by decide)
    have e28 : N 28 = M 28 := hfN.2 28 (by decide) (by decide) (by decide)
    have k1 : N 31 (s + 1) = (c1 : Int) := by rw [e31]; exact g2
    have k17 : N 28 17 = C := by rw [e28]; exact hC
    by_cases hlt : p < c1
    · obtain ⟨q1, ⟨v, v1, v2⟩, q3, q4⟩ := g5 p hc0 hlt
      have k33 : N 33 p = (v : Int) := by rw [e33]; exact v2
      have hpv : kv_p N n p s v := ⟨by omega, hs, v1, by rw [e31, g1]; omega, by rw [k1]; omega, by rw [e32]; exact q1, k33⟩
      have mb := mm_mulB (a := N 34 p) (b := C) (A := 5800000) (B := 288) (by rw [e34]; exact q3) (by rw [e34]; exact q4) (by omega) hCb.2
      obtain ⟨w, hw⟩ : ∃ w, w = N 34 p * C := ⟨_, rfl⟩
      have hww : kv_w N S C p = w - S := by unfold kv_w; rw [hw]
      rw [← hw] at mb
      have lN := hL.2.1.1 v v1
      have k34 : -5800000 ≤ N 34 p ∧ N 34 p ≤ 5800000 := by rw [e34]; exact ⟨q3, q4⟩
      have keep : lv - S + w ≤ N 36 v → mm_J X Y_X6_raiseFrom 243 243 243 22 [(2, 29), (0, (s : Int)), (0, b), (1, lv - S), (9, 0), (0, (p : Int) + 1), (9, 0), (9, 0), (9, 0)] [] N Φ := by
        intro z
        have go := ih hlt N b T1 (by omega) (hL.keep (fun v' hv' => by
          have e : v' = v := by have := hv'.2.2.2.2.2.2; omega
          rw [e, hww]; omega))
        rw [show ((p + 1 : Nat) : Int) = (p : Int) + 1 by omega] at go
        exact go
      have up : N 36 v < lv - S + w → ∀ P, mm_Rf P → P = kv_up N v p (lv - S + w) → mm_J X Y_X6_raiseFrom 243 243 243 22 [(2, 29), (0, (s : Int)), (0, 1), (1, lv - S), (9, 0), (0, (p : Int) + 1), (9, 0), (9, 0), (9, 0)] [] P Φ := by
        intro z P hRP hP
        rw [hP] at hRP
        have go := ih hlt P 1 _ (by omega) (by rw [hP]; exact hL.up hpv (by rw [hww]; omega) z (by omega) ht h1 hs hRP)
        rw [show ((p + 1 : Nat) : Int) = (p : Int) + 1 by omega] at go
        exact go
      refine mm_iload dX6_raiseFrom_22 rfl rfl ?_
      refine mm_aload_n dX6_raiseFrom_24 rfl rfl ?_
      refine mm_getr dX6_raiseFrom_25 rfl fl_X6_20 (c := 28) rfl (by decide) rfl rfl (hRN.at (c := 28) (i := 4) (v := 32) rfl (by decide)) ?_
      refine mm_iload_n dX6_raiseFrom_28 rfl rfl ?_
      refine mm_iconst dX6_raiseFrom_29 rfl ?_
      refine mm_iadd dX6_raiseFrom_30 rfl ?_
      refine mm_ialk (k0 := s + 1) dX6_raiseFrom_31 rfl (c := 31) rfl (by decide) rfl (by omega) (by omega) ?_
      rw [k1]
      refine mm_icge dX6_raiseFrom_32 (by omega) (by omega) (fun h32 => ?_) (fun h32 => ?_)
      · exfalso; omega
      · refine mm_lload_n dX6_raiseFrom_35 rfl rfl ?_
        refine mm_aload_n dX6_raiseFrom_36 rfl rfl ?_
        refine mm_getr dX6_raiseFrom_37 rfl fl_X6_29 (c := 28) rfl (by decide) rfl rfl (hRN.at (c := 28) (i := 7) (v := 35) rfl (by decide)) ?_
        refine mm_iload dX6_raiseFrom_40 rfl rfl ?_
        refine mm_ialk (k0 := p) dX6_raiseFrom_42 rfl (c := 34) rfl (by decide) rfl (by omega) (by omega) ?_
        refine mm_i2l dX6_raiseFrom_43 rfl (by omega) ?_
        refine mm_aload_n dX6_raiseFrom_44 rfl rfl ?_
        refine mm_get (kd := 1) dX6_raiseFrom_45 rfl fl_X6_82 (c := 28) rfl (by decide) rfl rfl ?_
        refine mm_lmul dX6_raiseFrom_48 rfl ?_
        rw [k17, ← hw]
        refine mm_ladd dX6_raiseFrom_49 rfl ?_
        refine mm_lstore dX6_raiseFrom_50 rfl (Nat.le_of_ble_eq_true rfl) rfl ?_
        refine mm_aload_n dX6_raiseFrom_52 rfl rfl ?_
        refine mm_getr dX6_raiseFrom_53 rfl fl_X6_26 (c := 28) rfl (by decide) rfl rfl (hRN.at (c := 28) (i := 6) (v := 34) rfl (by decide)) ?_
        refine mm_iload dX6_raiseFrom_56 rfl rfl ?_
        refine mm_ialk (k0 := p) dX6_raiseFrom_58 rfl (c := 33) rfl (by decide) rfl (by omega) (by omega) ?_
        rw [k33]
        refine mm_istore dX6_raiseFrom_59 rfl (Nat.le_of_ble_eq_true rfl) rfl ?_
        refine mm_lload dX6_raiseFrom_61 rfl rfl ?_
        refine mm_aload_n dX6_raiseFrom_63 rfl rfl ?_
        refine mm_getr dX6_raiseFrom_64 rfl fl_X6_35 (c := 28) rfl (by decide) rfl rfl (hRN.at (c := 28) (i := 9) (v := 37) rfl (by decide)) ?_
        refine mm_iload dX6_raiseFrom_67 rfl rfl ?_
        refine mm_lalk (k0 := v) dX6_raiseFrom_69 rfl (c := 36) rfl (by decide) rfl (by omega) (by omega) ?_
        refine mm_lcmp dX6_raiseFrom_70 rfl (by omega) (by omega) ?_
        refine mm_iflec dX6_raiseFrom_71 (fun h71 => ?_) (fun h71 => ?_)
        · refine mm_iinc dX6_raiseFrom_102 rfl rfl (Nat.le_of_ble_eq_true rfl) rfl ?_
          refine mm_goto dX6_raiseFrom_105 ?_
          first
          | exact mm_drop (by repeat (first | exact trivial | refine And.intro (Or.inl rfl) ?_ | refine And.intro (Or.inr rfl) ?_)) (keep (by omega))
          | exact mm_drop (by repeat (first | exact trivial | refine And.intro (Or.inl rfl) ?_ | refine And.intro (Or.inr rfl) ?_)) (up (by omega) _ hRN (by unfold kv_up; rw [hM99, hM91, hM82]))
        · refine mm_aload_n dX6_raiseFrom_74 rfl rfl ?_
          refine mm_getr dX6_raiseFrom_75 rfl fl_X6_35 (c := 28) rfl (by decide) rfl rfl (hRN.at (c := 28) (i := 9) (v := 37) rfl (by decide)) ?_
          refine mm_iload dX6_raiseFrom_78 rfl rfl ?_
          refine mm_lload dX6_raiseFrom_80 rfl rfl ?_
          refine mm_lstk (k0 := v) dX6_raiseFrom_82 rfl (c := 36) rfl (by decide) rfl (by omega) (by omega) (fun M82 hM82 => ?_)
          have hR82 : mm_Rf M82 := by rw [hM82]; exact hRN.up (mm_rt_ar (t := 3) rfl (by decide))
          refine mm_aload_n dX6_raiseFrom_83 rfl rfl ?_
          refine mm_getr dX6_raiseFrom_84 rfl fl_X6_39 (c := 28) rfl (by decide) rfl rfl (hR82.at (c := 28) (i := 10) (v := 38) rfl (by decide)) ?_
          refine mm_iload dX6_raiseFrom_87 rfl rfl ?_
          refine mm_iload dX6_raiseFrom_89 rfl rfl ?_
          refine mm_istk (k0 := v) dX6_raiseFrom_91 rfl (c := 37) rfl (by decide) rfl (by omega) (by omega) (fun M91 hM91 => ?_)
          have hR91 : mm_Rf M91 := by rw [hM91]; exact hR82.up (mm_rt_ar (t := 0) rfl (by decide))
          refine mm_aload_n dX6_raiseFrom_92 rfl rfl ?_
          refine mm_getr dX6_raiseFrom_93 rfl fl_X6_42 (c := 28) rfl (by decide) rfl rfl (hR91.at (c := 28) (i := 11) (v := 39) rfl (by decide)) ?_
          refine mm_iload dX6_raiseFrom_96 rfl rfl ?_
          refine mm_iconst dX6_raiseFrom_98 rfl ?_
          refine mm_zstk (k0 := v) dX6_raiseFrom_99 rfl (c := 38) rfl (by decide) rfl (by omega) (by omega) (Or.inr rfl) (fun M99 hM99 => ?_)
          have hR99 : mm_Rf M99 := by rw [hM99]; exact hR91.up (mm_rt_ar (t := 2) rfl (by decide))
          refine mm_iconst dX6_raiseFrom_100 rfl ?_
          refine mm_istore_n dX6_raiseFrom_101 rfl (Nat.le_of_ble_eq_true rfl) rfl ?_
          refine mm_iinc dX6_raiseFrom_102 rfl rfl (Nat.le_of_ble_eq_true rfl) rfl ?_
          refine mm_goto dX6_raiseFrom_105 ?_
          first
          | exact mm_drop (by repeat (first | exact trivial | refine And.intro (Or.inl rfl) ?_ | refine And.intro (Or.inr rfl) ?_)) (keep (by omega))
          | exact mm_drop (by repeat (first | exact trivial | refine And.intro (Or.inl rfl) ?_ | refine And.intro (Or.inr rfl) ?_)) (up (by omega) _ hR99 (by unfold kv_up; rw [hM99, hM91, hM82]))
    · have ep : p = c1 := by omega
      subst ep
      obtain ⟨h1', h2, h3, h4, h5, h6, h7⟩ := hL
      have fin : kv_M M N n S C B b T t := by
        refine ⟨h1', T1, h2, h3, fun y hy hy0 => ?_, h7⟩
        by_cases c : y = s
        · rw [c] at hy0 ⊢
          intro p' v hpv
          rw [h4.2 hy0]
          have x1 := hpv.2.2.2.1
          have x2 := hpv.2.2.2.2.1
          rw [e31, g1] at x1
          rw [k1] at x2
          exact h5 p' v (by omega) (by omega) hpv
        · exact h6 y hy c hy0
      refine mm_iload dX6_raiseFrom_22 rfl rfl ?_
      refine mm_aload_n dX6_raiseFrom_24 rfl rfl ?_
      refine mm_getr dX6_raiseFrom_25 rfl fl_X6_20 (c := 28) rfl (by decide) rfl rfl (hRN.at (c := 28) (i := 4) (v := 32) rfl (by decide)) ?_
      refine mm_iload_n dX6_raiseFrom_28 rfl rfl ?_
      refine mm_iconst dX6_raiseFrom_29 rfl ?_
      refine mm_iadd dX6_raiseFrom_30 rfl ?_
      refine mm_ialk (k0 := s + 1) dX6_raiseFrom_31 rfl (c := 31) rfl (by decide) rfl (by omega) (by omega) ?_
      rw [k1]
      refine mm_icge dX6_raiseFrom_32 (by omega) (by omega) (fun h32 => ?_) (fun h32 => ?_)
      · refine mm_iload_n dX6_raiseFrom_108 rfl rfl ?_
        refine mm_zret dX6_raiseFrom_109 rfl rfl (h3.imp And.left And.left) ?_
        rw [hΦ]; exact ⟨b, rfl, hRN, fin⟩
      · exfalso; omega
  refine mm_start (ls := [(2, 29), (0, (s : Int)), (9, 0), (9, 0), (9, 0), (9, 0), (9, 0), (9, 0), (9, 0)]) rfl ?_
  refine mm_iconst dX6_raiseFrom_0 rfl ?_
  refine mm_istore_n dX6_raiseFrom_1 rfl (Nat.le_of_ble_eq_true rfl) rfl ?_
  refine mm_aload_n dX6_raiseFrom_2 rfl rfl ?_
  refine mm_getr dX6_raiseFrom_3 rfl fl_X6_35 (c := 28) rfl (by decide) rfl rfl (hR.at (c := 28) (i := 9) (v := 37) rfl (by decide)) ?_
  refine mm_iload_n dX6_raiseFrom_6 rfl rfl ?_
  refine mm_lalk (k0 := s) dX6_raiseFrom_7 rfl (c := 36) rfl (by decide) rfl (by omega) (by omega) ?_
  rw [← hlv]
  refine mm_aload_n dX6_raiseFrom_8 rfl rfl ?_
  refine mm_get (kd := 1) dX6_raiseFrom_9 rfl fl_X6_78 (c := 28) rfl (by decide) rfl rfl ?_
  rw [hS]
  refine mm_lsub dX6_raiseFrom_12 rfl ?_
  refine mm_lstore_n dX6_raiseFrom_13 rfl (Nat.le_of_ble_eq_true rfl) rfl ?_
  refine mm_aload_n dX6_raiseFrom_14 rfl rfl ?_
  refine mm_getr dX6_raiseFrom_15 rfl fl_X6_20 (c := 28) rfl (by decide) rfl rfl (hR.at (c := 28) (i := 4) (v := 32) rfl (by decide)) ?_
  refine mm_iload_n dX6_raiseFrom_18 rfl rfl ?_
  refine mm_ialk (k0 := s) dX6_raiseFrom_19 rfl (c := 31) rfl (by decide) rfl (by omega) (by omega) ?_
  rw [g1]
  refine mm_istore dX6_raiseFrom_20 rfl (Nat.le_of_ble_eq_true rfl) rfl ?_
  exact loop c0 g3 M 0 T (Nat.le_refl _) ⟨⟨hR, fun _ _ _ _ => rfl⟩, hA.mono (by omega), Or.inl ⟨rfl, rfl, rfl⟩, ⟨by omega, fun _ => hlv.symm⟩, fun p' v a1 a2 => absurd a2 (by omega), hst, fun y hy => ⟨Nat.le_refl _, Or.inl rfl, fun z => Or.inl z⟩⟩
end

