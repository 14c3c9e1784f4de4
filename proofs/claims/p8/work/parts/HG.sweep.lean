/-! ===== KitePower$LoopFinder: raiseLevels ===== -/
theorem kv_A.late {N : mm_M} {n : Nat} {S C B : Int} {T : Nat → Nat} {t t' : Nat} (h : kv_A N n S C T t B) (ht : t ≤ t') : kv_A N n S C T t' B :=
  ⟨h.1, h.2.1, h.2.2.1, fun v hv => by have := h.2.2.2.1 v hv; omega, h.2.2.2.2⟩
section
variable {X : mm_X} {M N : mm_M} {n : Nat}
theorem kv_p.fresh {s p u v : Nat} {x : Int} : kv_p (mm_up N 38 s x) n p u v ↔ kv_p N n p u v := by
  unfold kv_p
  rw [mm_up_row (by decide), mm_up_row (by decide), mm_up_row (by decide)]
theorem kv_w.fresh {s p : Nat} {x S C : Int} : kv_w (mm_up N 38 s x) S C p = kv_w N S C p := by
  unfold kv_w
  rw [mm_up_row (by decide)]
theorem kv_S.fresh {s y : Nat} {x S C : Int} : kv_S (mm_up N 38 s x) n S C y ↔ kv_S N n S C y := by
  unfold kv_S
  constructor
  · intro h p v hp
    have := h p v (kv_p.fresh.mpr hp)
    rw [kv_w.fresh, mm_up_row (by decide)] at this
    exact this
  · intro h p v hp
    have := h p v (kv_p.fresh.mp hp)
    rw [kv_w.fresh, mm_up_row (by decide)]
    exact this
theorem kv_A.fresh {S C B : Int} {T : Nat → Nat} {t s : Nat} (h : kv_A N n S C T t B) : kv_A (mm_up N 38 s 0) n S C T t B := by
  obtain ⟨a1, a2, a3, a4, a5⟩ := h
  have e36 : mm_up N 38 s 0 36 = N 36 := mm_up_row (by decide)
  have e37 : mm_up N 38 s 0 37 = N 37 := mm_up_row (by decide)
  refine ⟨by rw [e36]; exact a1, fun v hv => ?_, fun q r m hR => ?_, a4, fun v hv => ?_⟩
  · rw [e36, e37]
    rcases a2 v hv with z | ⟨p, u, y1, y2, y3, y4, y5⟩
    · exact Or.inl z
    · exact Or.inr ⟨p, u, y1, kv_p.fresh.mpr y2, y3, y4, by rw [kv_w.fresh]; exact y5⟩
  · obtain ⟨j, j1, j2⟩ := a3 q r m ⟨hR.1, hR.2.1, fun j hj => by
      have := hR.2.2 j hj
      rw [e37] at this
      exact ⟨this.1, kv_p.fresh.mp this.2⟩⟩
    exact ⟨j, j1, by rw [e36, kv_w.fresh]; exact j2⟩
  · by_cases c : v = s
    · rw [c, mm_up_s]; exact Or.inl rfl
    · rw [mm_up_i c]; exact a5 v hv
/-- what raiseLevels leaves -/
def kv_N (M M' : mm_M) (n : Nat) (S C B b : Int) (t : Nat) (T1 : Nat → Nat) : Prop := kv_f M M' ∧ kv_A M' n S C T1 t (B + 4000000000 * (n : Int)) ∧ (∀ y, y < n → M' 38 y = 1 → t ≤ T1 y) ∧ (∀ y, y < n → M' 38 y = 0 → kv_S M' n S C y) ∧ ((b = 0 ∧ ∀ y, y < n → kv_S M' n S C y) ∨ (b = 1 ∧ ∃ v, v < n ∧ T1 v = t))
/-- how things stand within a sweep, ahead of state s -/
def kv_O (M N : mm_M) (n s : Nat) (S C B b : Int) (T T1 : Nat → Nat) (t : Nat) : Prop :=
  kv_f M N ∧ kv_A N n S C T1 t (B + 4000000000 * (s : Int)) ∧ ((b = 0 ∧ T1 = T) ∨ (b = 1 ∧ ∃ v, v < n ∧ T1 v = t)) ∧ (∀ y, y < n → N 38 y = 0 → kv_S N n S C y) ∧ ∀ y, y < n → N 38 y = 1 → (s ≤ y → t ≤ T1 y + 1) ∧ (y < s → T1 y = t)
theorem kv_f.tr {M N P : mm_M} (f : kv_f M N) (g : kv_f N P) : kv_f M P := ⟨g.1, fun a a1 a2 a3 => by rw [g.2 a a1 a2 a3]; exact f.2 a a1 a2 a3⟩
theorem c_X6_raiseLevels {t : Nat} {S C B : Int} {T : Nat → Nat} (hR : mm_Rf M) (hG : kv_G M n) (hn : M 3 2 = (n : Int)) (hn2 : n ≤ 288) (hS : M 28 16 = S) (hC : M 28 17 = C) (hSb : -2000000000 ≤ S ∧ S ≤ 2000000000) (hCb : 1 ≤ C ∧ C ≤ 288) (hBb : 0 ≤ B ∧ B ≤ 1500000000000000000)
    (hA : kv_A M n S C T t B) (hF : ∀ y, y < n → M 38 y = 1 → t ≤ T y) (hst : ∀ y, y < n → M 38 y = 0 → kv_S M n S C y) :
    mm_C X Y_X6_raiseLevels 243 243 [(2, 29)] M (fun r M' => ∃ b, r = (0, b) ∧ mm_Rf M' ∧ ∃ T1, kv_N M M' n S C B b (t + 1) T1) := by
  obtain ⟨Φ, hΦ⟩ : ∃ Φ : mm_V → mm_M → Prop, Φ = (fun r M' => ∃ b, r = (0, b) ∧ mm_Rf M' ∧ ∃ T1, kv_N M M' n S C B b (t + 1) T1) := ⟨_, rfl⟩
  rw [← hΦ]
  have loop : ∀ s : Nat, s ≤ n → ∀ N b T1, kv_O M N n s S C B b T T1 (t + 1) → mm_J X Y_X6_raiseLevels 243 243 243 4 [(2, 29), (0, b), (0, (s : Int))] [] N Φ := by
    refine mm_lp ?_
    intro s hs ih N b T1 hO
    obtain ⟨o1, o2, o3, o4, o5⟩ := id hO
    have hRN := o1.1
    have est : N 3 2 = (n : Int) := by rw [o1.2 3 (by decide) (by decide) (by decide)]; exact hn
    by_cases hlt : s < n
    · have nx : ∀ P T2 b', kv_O M P n (s + 1) S C B b' T T2 (t + 1) → mm_J X Y_X6_raiseLevels 243 243 243 4 [(2, 29), (0, b'), (0, (s : Int) + 1)] [] P Φ := by
        intro P T2 b' hP
        have go := ih hlt P b' T2 hP
        rw [show ((s + 1 : Nat) : Int) = (s : Int) + 1 by omega] at go
        exact go
      rcases o2.2.2.2.2 s hlt with f0 | f1
      · have go := nx N T1 b ⟨o1, o2.mono (by omega), o3, o4, fun y hy z => ⟨fun a => (o5 y hy z).1 (by omega), fun a => by
          by_cases c : y = s
          · rw [c] at z; omega
          · exact (o5 y hy z).2 (by omega)⟩⟩
        refine mm_iload_n dX6_raiseLevels_4 rfl rfl ?_
        refine mm_aload_n dX6_raiseLevels_5 rfl rfl ?_
        refine mm_getr dX6_raiseLevels_6 rfl fl_X6_55 (c := 28) rfl (by decide) rfl rfl (hRN.at (c := 28) (i := 0) (v := 4) rfl (by decide)) ?_
        refine mm_get (kd := 0) dX6_raiseLevels_9 rfl fl_X6_102 (c := 3) rfl (by decide) rfl rfl ?_
        rw [est]
        refine mm_icge dX6_raiseLevels_12 (by omega) (by omega) (fun h12 => ?_) (fun h12 => ?_)
        · exfalso; omega
        · refine mm_aload_n dX6_raiseLevels_15 rfl rfl ?_
          refine mm_getr dX6_raiseLevels_16 rfl fl_X6_42 (c := 28) rfl (by decide) rfl rfl (hRN.at (c := 28) (i := 11) (v := 39) rfl (by decide)) ?_
          refine mm_iload_n dX6_raiseLevels_19 rfl rfl ?_
          refine mm_zalk (k0 := s) dX6_raiseLevels_20 rfl (c := 38) rfl (by decide) rfl (by omega) (by omega) ?_
          rw [f0]
          refine mm_ifeq dX6_raiseLevels_21 (by omega) (fun h21 => ?_) (fun h21 => ?_)
          · refine mm_iinc dX6_raiseLevels_49 rfl rfl (Nat.le_of_ble_eq_true rfl) rfl ?_
            refine mm_goto dX6_raiseLevels_52 ?_
            exact go
          · exfalso; omega
      · obtain ⟨N', hN'⟩ : ∃ Z, Z = mm_up N 38 s 0 := ⟨_, rfl⟩
        have fN : ∀ a, a ≠ 38 → N' a = N a := fun a ha => by rw [hN', mm_up_row ha]
        have call : mm_Rf N' → mm_C X Y_X6_raiseFrom 243 243 [(2, 29), (0, (s : Int))] N' (fun r M' => ∃ x, r = (0, x) ∧ mm_Rf M' ∧ (x = 0 ∨ x = 1) ∧ ∀ b', ((b' = 1 ∧ (x ≠ 0 ∨ b ≠ 0)) ∨ (b' = 0 ∧ x = 0 ∧ b = 0)) → ∃ T2, kv_O M M' n (s + 1) S C B b' T T2 (t + 1)) := by
          intro hRN'
          have fr : kv_f M N' := ⟨hRN', fun a a1 a2 a3 => by rw [fN a a3]; exact o1.2 a a1 a2 a3⟩
          refine mm_C.mono (c_X6_raiseFrom (S := S) (C := C) (B := B + 4000000000 * (s : Int)) (T := T1) (t := t + 1) hRN' (fr.G hG) hn2 (by rw [fN 28 (by decide), o1.2 28 (by decide) (by decide) (by decide)]; exact hS) (by rw [fN 28 (by decide), o1.2 28 (by decide) (by decide) (by decide)]; exact hC) hSb hCb ⟨by omega, by omega⟩ (by rw [hN']; exact o2.fresh) hlt (by rw [hN', mm_up_s]) ((o5 s hlt f1).1 (Nat.le_refl s)) (by omega) (fun y hy hys z => by
            rw [hN'] at z ⊢
            rw [mm_up_i hys] at z
            exact kv_S.fresh.mpr (o4 y hy z))) ?_
          rintro r P ⟨x, x1, x2, x3, T2, x4, x5, x6, x7⟩
          refine ⟨x, x1, x2, ?_, fun b' hb' => ⟨T2, fr.tr x3, ?_, ?_, x6, fun y hy z => ?_⟩⟩
          · rcases x5 with q | q
            · exact Or.inl q.1
            · exact Or.inr q.1
          · rw [show B + 4000000000 * ((s + 1 : Nat) : Int) = B + 4000000000 * (s : Int) + 4000000000 by omega]; exact x4
          · rcases hb' with ⟨q1, q2⟩ | ⟨q1, q2, q3⟩
            · right
              refine ⟨q1, ?_⟩
              rcases x5 with ⟨y1, y2, y3⟩ | y
              · rcases o3 with z | z
                · omega
                · rw [y3]; exact z.2
              · exact y.2
            · left
              refine ⟨q1, ?_⟩
              rcases x5 with ⟨y1, y2, y3⟩ | y
              · rcases o3 with z | z
                · rw [y3, z.2]
                · omega
              · omega
          · obtain ⟨w1, w2, w3⟩ := x7 y hy
            rcases w3 z with w | w
            · have ys : y ≠ s := fun c => by rw [c, hN', mm_up_s] at w; omega
              rw [hN', mm_up_i ys] at w
              have := o5 y hy w
              refine ⟨fun a => ?_, fun a => ?_⟩
              · have := this.1 (by omega)
                omega
              · have := this.2 (by omega)
                rcases w2 with q | q
                · rw [q]; exact this
                · exact q
            · exact ⟨fun _ => by omega, fun _ => w⟩
        refine mm_iload_n dX6_raiseLevels_4 rfl rfl ?_
        refine mm_aload_n dX6_raiseLevels_5 rfl rfl ?_
        refine mm_getr dX6_raiseLevels_6 rfl fl_X6_55 (c := 28) rfl (by decide) rfl rfl (hRN.at (c := 28) (i := 0) (v := 4) rfl (by decide)) ?_
        refine mm_get (kd := 0) dX6_raiseLevels_9 rfl fl_X6_102 (c := 3) rfl (by decide) rfl rfl ?_
        rw [est]
        refine mm_icge dX6_raiseLevels_12 (by omega) (by omega) (fun h12 => ?_) (fun h12 => ?_)
        · exfalso; omega
        · refine mm_aload_n dX6_raiseLevels_15 rfl rfl ?_
          refine mm_getr dX6_raiseLevels_16 rfl fl_X6_42 (c := 28) rfl (by decide) rfl rfl (hRN.at (c := 28) (i := 11) (v := 39) rfl (by decide)) ?_
          refine mm_iload_n dX6_raiseLevels_19 rfl rfl ?_
          refine mm_zalk (k0 := s) dX6_raiseLevels_20 rfl (c := 38) rfl (by decide) rfl (by omega) (by omega) ?_
          rw [f1]
          refine mm_ifeq dX6_raiseLevels_21 (by omega) (fun h21 => ?_) (fun h21 => ?_)
          · exfalso; omega
          · refine mm_aload_n dX6_raiseLevels_24 rfl rfl ?_
            refine mm_getr dX6_raiseLevels_25 rfl fl_X6_42 (c := 28) rfl (by decide) rfl rfl (hRN.at (c := 28) (i := 11) (v := 39) rfl (by decide)) ?_
            refine mm_iload_n dX6_raiseLevels_28 rfl rfl ?_
            refine mm_iconst dX6_raiseLevels_29 rfl ?_
            refine mm_zstk (k0 := s) dX6_raiseLevels_30 rfl (c := 38) rfl (by decide) rfl (by omega) (by omega) (Or.inl rfl) (fun M30 hM30 => ?_)
            have hR30 : mm_Rf M30 := by rw [hM30]; exact hRN.up (mm_rt_ar (t := 2) rfl (by decide))
            refine mm_aload_n dX6_raiseLevels_31 rfl rfl ?_
            refine mm_iload_n dX6_raiseLevels_32 rfl rfl ?_
            refine mm_V1g (M1 := M30) dX6_raiseLevels_33 rfl lk_X6_183 (c := 28) rfl (by decide) rfl (by simp) rfl rfl rfl ((by have := call (by rw [hN', ← hM30]; exact hR30); rw [hN', ← hM30] at this; exact this)) ?_
            rintro _ N33 ⟨x33, rfl, p33⟩
            change mm_J _ _ _ _ _ _ _ _ _ _
            have hR33 : mm_Rf N33 := p33.1
            have hx33 := p33.2.1
            refine mm_ifne dX6_raiseLevels_36 (by omega) (fun h36 => ?_) (fun h36 => ?_)
            · refine mm_iconst dX6_raiseLevels_43 rfl ?_
              refine mm_goto dX6_raiseLevels_44 ?_
              refine mm_istore_n dX6_raiseLevels_48 rfl (Nat.le_of_ble_eq_true rfl) rfl ?_
              refine mm_iinc dX6_raiseLevels_49 rfl rfl (Nat.le_of_ble_eq_true rfl) rfl ?_
              refine mm_goto dX6_raiseLevels_52 ?_
              first
              | (obtain ⟨T2, go⟩ := p33.2.2 1 (by omega)
                 exact nx N33 T2 1 go)
              | (obtain ⟨T2, go⟩ := p33.2.2 0 (by omega)
                 exact nx N33 T2 0 go)
            · refine mm_iload_n dX6_raiseLevels_39 rfl rfl ?_
              refine mm_ifeq dX6_raiseLevels_40 (by omega) (fun h40 => ?_) (fun h40 => ?_)
              · refine mm_iconst dX6_raiseLevels_47 rfl ?_
                refine mm_istore_n dX6_raiseLevels_48 rfl (Nat.le_of_ble_eq_true rfl) rfl ?_
                refine mm_iinc dX6_raiseLevels_49 rfl rfl (Nat.le_of_ble_eq_true rfl) rfl ?_
                refine mm_goto dX6_raiseLevels_52 ?_
                first
                | (obtain ⟨T2, go⟩ := p33.2.2 1 (by omega)
                   exact nx N33 T2 1 go)
                | (obtain ⟨T2, go⟩ := p33.2.2 0 (by omega)
                   exact nx N33 T2 0 go)
              · refine mm_iconst dX6_raiseLevels_43 rfl ?_
                refine mm_goto dX6_raiseLevels_44 ?_
                refine mm_istore_n dX6_raiseLevels_48 rfl (Nat.le_of_ble_eq_true rfl) rfl ?_
                refine mm_iinc dX6_raiseLevels_49 rfl rfl (Nat.le_of_ble_eq_true rfl) rfl ?_
                refine mm_goto dX6_raiseLevels_52 ?_
                first
                | (obtain ⟨T2, go⟩ := p33.2.2 1 (by omega)
                   exact nx N33 T2 1 go)
                | (obtain ⟨T2, go⟩ := p33.2.2 0 (by omega)
                   exact nx N33 T2 0 go)
    · have es : s = n := by omega
      subst es
      have fin : kv_N M N s S C B b (t + 1) T1 := by
        refine ⟨o1, o2, fun y hy z => by have := (o5 y hy z).2 hy; omega, o4, ?_⟩
        rcases o3 with ⟨q1, q2⟩ | q
        · left
          refine ⟨q1, fun y hy => ?_⟩
          rcases o2.2.2.2.2 y hy with z | z
          · exact o4 y hy z
          · have := (o5 y hy z).2 hy
            rw [q2] at this
            have := hA.2.2.2.1 y hy
            omega
        · exact Or.inr q
      refine mm_iload_n dX6_raiseLevels_4 rfl rfl ?_
      refine mm_aload_n dX6_raiseLevels_5 rfl rfl ?_
      refine mm_getr dX6_raiseLevels_6 rfl fl_X6_55 (c := 28) rfl (by decide) rfl rfl (hRN.at (c := 28) (i := 0) (v := 4) rfl (by decide)) ?_
      refine mm_get (kd := 0) dX6_raiseLevels_9 rfl fl_X6_102 (c := 3) rfl (by decide) rfl rfl ?_
      rw [est]
      refine mm_icge dX6_raiseLevels_12 (by omega) (by omega) (fun h12 => ?_) (fun h12 => ?_)
      · refine mm_iload_n dX6_raiseLevels_55 rfl rfl ?_
        refine mm_zret dX6_raiseLevels_56 rfl rfl (o3.imp And.left And.left) ?_
        rw [hΦ]; exact ⟨b, rfl, hRN, T1, fin⟩
      · exfalso; omega
  refine mm_start (ls := [(2, 29), (9, 0), (9, 0)]) rfl ?_
  refine mm_iconst dX6_raiseLevels_0 rfl ?_
  refine mm_istore_n dX6_raiseLevels_1 rfl (Nat.le_of_ble_eq_true rfl) rfl ?_
  refine mm_iconst dX6_raiseLevels_2 rfl ?_
  refine mm_istore_n dX6_raiseLevels_3 rfl (Nat.le_of_ble_eq_true rfl) rfl ?_
  exact loop 0 (Nat.zero_le _) M 0 T ⟨⟨hR, fun _ _ _ _ => rfl⟩, (hA.late (by omega)).mono (by omega), Or.inl ⟨rfl, rfl⟩, hst, fun y hy z => ⟨fun _ => by have := hF y hy z; omega, fun a => absurd a (by omega)⟩⟩
end

