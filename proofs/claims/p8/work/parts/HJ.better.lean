/-! ===== KitePower$LoopFinder: takeBetterMean ===== -/
section
variable {N : mm_M} {n : Nat}
theorem kv_e.uniq : ∀ {d d' v : Nat}, kv_e N n d v → kv_e N n d' v → d = d'
  | 0, 0, _, _, _ => rfl
  | 0, d' + 1, v, h, ⟨p, u, h1, _⟩ => by
    have h : N 37 v = -1 := h
    omega
  | d + 1, 0, v, ⟨p, u, h1, _⟩, h => by
    have h : N 37 v = -1 := h
    omega
  | d + 1, d' + 1, v, ⟨p, u, h1, h2, h3⟩, ⟨p', u', g1, g2, g3⟩ => by
    have ep : p = p' := by omega
    have eu : u = u' := by
      have a := h2.2.2.2.2.2.1
      have b := g2.2.2.2.2.2.1
      rw [ep] at a
      omega
    rw [eu] at h3
    rw [kv_e.uniq h3 g3]
theorem kv_e.walk : ∀ {d v : Nat}, v < n → kv_e N n d v → ∃ c : Nat → Nat, c 0 = v ∧ ∀ i, i ≤ d → c i < n ∧ kv_e N n (d - i) (c i)
  | 0, v, hv, h => ⟨fun _ => v, rfl, fun i hi => ⟨hv, by rw [Nat.zero_sub]; exact h⟩⟩
  | d + 1, v, hv, ⟨p, u, h1, h2, h3⟩ => by
    obtain ⟨c, c1, c2⟩ := kv_e.walk h2.2.1 h3
    refine ⟨fun i => if i = 0 then v else c (i - 1), rfl, fun i hi => ?_⟩
    show (if i = 0 then v else c (i - 1)) < n ∧ kv_e N n (d + 1 - i) (if i = 0 then v else c (i - 1))
    by_cases i0 : i = 0
    · rw [if_pos i0, i0]
      exact ⟨hv, p, u, h1, h2, h3⟩
    · rw [if_neg i0]
      have := c2 (i - 1) (by omega)
      rw [show d - (i - 1) = d + 1 - i by omega] at this
      exact this
/-- it ends in fewer steps than there are states -/
theorem kv_e.lt {d v : Nat} (hv : v < n) (h : kv_e N n d v) : d < n := by
  by_cases c : d < n
  · exact c
  · exfalso
    obtain ⟨c, c1, c2⟩ := h.walk hv
    obtain ⟨i, j, i1, i2, i3⟩ := gz_pig n c (fun i hi => (c2 i (by omega)).1)
    have a := (c2 i (by omega)).2
    have b := (c2 j (by omega)).2
    rw [i3] at a
    have := kv_e.uniq a b
    omega
theorem kv_A.T {S C B : Int} {T : Nat → Nat} {t : Nat} (h : kv_A N n S C T t B) : ∀ {d v : Nat}, v < n → kv_e N n d v → T v ≤ d
  | 0, v, hv, e => by
    have e : N 37 v = -1 := e
    rcases h.2.1 v hv with q | ⟨p, u, q1, -⟩ <;> omega
  | d + 1, v, hv, ⟨p, u, h1, h2, h3⟩ => by
    rcases h.2.1 v hv with q | ⟨p', u', q1, q2, q3, q4, -⟩
    · omega
    · have ep : p = p' := by omega
      have eu : u = u' := by
        have a := h2.2.2.2.2.2.1
        have b := q2.2.2.2.2.2.1
        rw [ep] at a
        omega
      have := kv_A.T h h2.2.1 h3
      rw [eu] at this
      omega
theorem kv_A.cg {M N : mm_M} {S C B : Int} {T : Nat → Nat} {t : Nat} (e : ∀ a, 31 ≤ a → a ≤ 38 → N a = M a) (h : kv_A M n S C T t B) : kv_A N n S C T t B := by
  unfold kv_A kv_R kv_w kv_p at h ⊢
  rw [e 31 (by decide) (by decide), e 32 (by decide) (by decide), e 33 (by decide) (by decide), e 34 (by decide) (by decide), e 36 (by decide) (by decide), e 37 (by decide) (by decide), e 38 (by decide) (by decide)]
  exact h
theorem kv_S.cg {M N : mm_M} {S C : Int} {y : Nat} (e : ∀ a, 31 ≤ a → a ≤ 38 → N a = M a) (h : kv_S M n S C y) : kv_S N n S C y := by
  unfold kv_S kv_w kv_p at h ⊢
  rw [e 31 (by decide) (by decide), e 32 (by decide) (by decide), e 33 (by decide) (by decide), e 34 (by decide) (by decide), e 36 (by decide) (by decide)]
  exact h
theorem kv_G.cg {M N : mm_M} (e : ∀ a, 31 ≤ a → a ≤ 34 → N a = M a) (h : kv_G M n) : kv_G N n := by
  unfold kv_G at h ⊢
  rw [e 31 (by decide) (by decide), e 32 (by decide) (by decide), e 33 (by decide) (by decide), e 34 (by decide) (by decide)]
  exact h
end
section
variable {X : mm_X} {M : mm_M} {n : Nat}
/-- levels and marks change, and the mean -/
def kv_k (M N : mm_M) : Prop := mm_Rf N ∧ (∀ a, a ≠ 28 → a ≠ 36 → a ≠ 37 → a ≠ 38 → a ≠ 39 → N a = M a) ∧ ∀ b, b ≠ 16 → b ≠ 17 → N 28 b = M 28 b
/-- a round of paths -/
def kv_B (M : mm_M) (n : Nat) (q r : Nat → Nat) (m : Nat) : Prop := 1 ≤ m ∧ m ≤ n ∧ q m = q 0 ∧ ∀ j, j < m → kv_p M n (r j) (q j) (q (j + 1))
/-- what takeBetterMean leaves: levels that no path raises, or the mean of a round that gives more -/
def kv_V (M N : mm_M) (n : Nat) (S C x : Int) : Prop := (∀ v, v < n → 0 ≤ N 36 v ∧ N 36 v ≤ 400000000000000) ∧ ((x = 0 ∧ N 28 16 = S ∧ N 28 17 = C ∧ ∀ y, y < n → kv_S N n S C y) ∨ (x = 1 ∧ ∃ q r m, kv_B M n q r m ∧ N 28 16 = ka_sum (fun j => M 34 (r j)) m ∧ N 28 17 = (m : Int) ∧ S * m < C * ka_sum (fun j => M 34 (r j)) m))
theorem c_X6_takeBetterMean {S C : Int} (hR : mm_Rf M) (hG : kv_G M n) (hn : M 3 2 = (n : Int)) (hn2 : n ≤ 288) (hS : M 28 16 = S) (hC : M 28 17 = C) (hSb : -2000000000 ≤ S ∧ S ≤ 2000000000) (hCb : 1 ≤ C ∧ C ≤ 288) :
    mm_C X Y_X6_takeBetterMean 243 243 [(2, 29)] M (fun r M' => ∃ x, r = (0, x) ∧ mm_Rf M' ∧ kv_k M M' ∧ kv_V M M' n S C x) := by
  obtain ⟨Φ, hΦ⟩ : ∃ Φ : mm_V → mm_M → Prop, Φ = (fun r M' => ∃ x, r = (0, x) ∧ mm_Rf M' ∧ kv_k M M' ∧ kv_V M M' n S C x) := ⟨_, rfl⟩
  rw [← hΦ]
  have l2 : ∀ t : Nat, t ≤ n → ∀ N T, kv_k M N → N 28 16 = S → N 28 17 = C → kv_A N n S C T t (4000000000 * (n : Int) * (t : Int)) → (∀ y, y < n → N 38 y = 1 → t ≤ T y) → (∀ y, y < n → N 38 y = 0 → kv_S N n S C y) →
      mm_J X Y_X6_takeBetterMean 243 243 243 42 [(2, 29), (0, (t : Int))] [] N Φ := by
    refine mm_lp ?_
    intro t ht ih N T hk k16 k17 hA hF hSt
    have hRN := hk.1
    have est : N 3 2 = (n : Int) := by rw [hk.2.1 3 (by decide) (by decide) (by decide) (by decide) (by decide)]; exact hn
    have hGN : kv_G N n := hG.cg (fun a a1 a2 => hk.2.1 a (by omega) (by omega) (by omega) (by omega) (by omega))
    have bt := mm_mulb (a := (n : Int)) (b := (t : Int)) (A := 288) (B := 288) (by omega) (by omega) (by omega) (by omega)
    have bt2 : 4000000000 * (n : Int) * (t : Int) = 4000000000 * ((n : Int) * (t : Int)) := Int.mul_assoc _ _ _
    have cl := c_X6_raiseLevels (X := X) (M := N) (n := n) (t := t) (S := S) (C := C) (B := 4000000000 * (n : Int) * (t : Int)) (T := T) hRN hGN est hn2 k16 k17 hSb hCb ⟨by omega, by omega⟩ hA hF hSt
    have cl2 : mm_C X Y_X6_raiseLevels 243 243 [(2, 29)] N (fun r M' => ∃ b, r = (0, b) ∧ mm_Rf M' ∧ (b = 0 ∨ b = 1) ∧ ∃ T1, kv_N N M' n S C (4000000000 * (n : Int) * (t : Int)) b (t + 1) T1) := by
      refine mm_C.mono cl ?_
      rintro r P ⟨b, b1, b2, T1, b3⟩
      exact ⟨b, b1, b2, b3.2.2.2.2.imp And.left And.left, T1, b3⟩
    have two : ∀ P : mm_M, (∃ T1, kv_N N P n S C (4000000000 * (n : Int) * (t : Int)) 1 (t + 1) T1) → mm_C X Y_X6_takeBestRing 243 243 [(2, 29)] P (fun r M' => ∃ x, r = (0, x) ∧ mm_Rf M' ∧ (x = 0 ∨ x = 1) ∧ (x = 1 → kv_k M M' ∧ kv_V M M' n S C 1) ∧ (x = 0 → ∃ T1, t + 1 ≤ n ∧ kv_k M M' ∧ M' 28 16 = S ∧ M' 28 17 = C ∧ kv_A M' n S C T1 (t + 1) (4000000000 * (n : Int) * ((t + 1 : Nat) : Int)) ∧ (∀ y, y < n → M' 38 y = 1 → t + 1 ≤ T1 y) ∧ ∀ y, y < n → M' 38 y = 0 → kv_S M' n S C y)) := by
      rintro P ⟨T1, p1, p2, p3, p4, p5⟩
      have eP : ∀ a, a ≠ 36 → a ≠ 37 → a ≠ 38 → P a = N a := p1.2
      have cb := c_X6_takeBestRing (X := X) (M := P) (n := n) (t := t + 1) (S := S) (C := C) (T := T1) p1.1 (p1.G hGN) (by rw [eP 3 (by decide) (by decide) (by decide)]; exact est) hn2 (by rw [eP 28 (by decide) (by decide) (by decide)]; exact k16) (by rw [eP 28 (by decide) (by decide) (by decide)]; exact k17) hSb hCb p2
      refine mm_C.mono cb ?_
      rintro r Q ⟨x, x1, x2, x3, x4⟩
      have kQ : kv_k M Q := ⟨x2, fun a a1 a2 a3 a4 a5 => by rw [x3.2.1 a a1 a5, eP a a2 a3 a4]; exact hk.2.1 a a1 a2 a3 a4 a5, fun b b1 b2 => by rw [x3.2.2 b b1 b2, eP 28 (by decide) (by decide) (by decide)]; exact hk.2.2 b b1 b2⟩
      refine ⟨x, x1, x2, x4.imp And.left And.left, fun e => ?_, fun e => ?_⟩
      · rcases x4 with ⟨y1, -⟩ | ⟨y1, q, r', m, y2, y3, y4, y5⟩
        · omega
        · have e34 : P 34 = M 34 := by rw [eP 34 (by decide) (by decide) (by decide)]; exact hk.2.1 34 (by decide) (by decide) (by decide) (by decide) (by decide)
          have big := p2.ring y2
          rw [e34] at y4 big
          refine ⟨kQ, fun v hv => ?_, Or.inr ⟨rfl, q, r', m, ⟨y2.1, y3, y2.2.1, fun j hj => ?_⟩, y4, y5, big⟩⟩
          · have := p2.1 v hv
            rw [x3.2.1 36 (by decide) (by decide)]
            exact ⟨this.1, by omega⟩
          have := (y2.2.2 j hj).2
          unfold kv_p at this ⊢
          rw [eP 31 (by decide) (by decide) (by decide), eP 32 (by decide) (by decide) (by decide), eP 33 (by decide) (by decide) (by decide), hk.2.1 31 (by decide) (by decide) (by decide) (by decide) (by decide), hk.2.1 32 (by decide) (by decide) (by decide) (by decide) (by decide), hk.2.1 33 (by decide) (by decide) (by decide) (by decide) (by decide)] at this
          exact this
      · rcases x4 with ⟨y1, y2, y3, y4⟩ | ⟨y1, -⟩
        · rcases p5 with ⟨z, -⟩ | ⟨-, v, v1, v2⟩
          · omega
          · obtain ⟨d, hd⟩ := y4 v v1
            have a := p2.T v1 hd
            have b := hd.lt v1
            have eQ : ∀ a, 31 ≤ a → a ≤ 38 → Q a = P a := fun a a1 a2 => x3.2.1 a (by omega) (by omega)
            refine ⟨T1, by omega, kQ, y2, y3, p2.cg eQ |>.mono ?_, fun y hy z => ?_, fun y hy z => ?_⟩
            · rw [show ((t + 1 : Nat) : Int) = (t : Int) + 1 by omega, Int.mul_add]; omega
            · rw [eQ 38 (by decide) (by decide)] at z
              exact p3 y hy z
            · rw [eQ 38 (by decide) (by decide)] at z
              exact (p4 y hy z).cg eQ
        · omega
    have done : ∀ P : mm_M, mm_Rf P → (∃ T1, kv_N N P n S C (4000000000 * (n : Int) * (t : Int)) 0 (t + 1) T1) → Φ (0, 0) P := by
      rintro P hRP ⟨T1, p1, p2, p3, p4, p5⟩
      rw [hΦ]
      refine ⟨0, rfl, hRP, ⟨hRP, fun a a1 a2 a3 a4 a5 => by rw [p1.2 a a2 a3 a4]; exact hk.2.1 a a1 a2 a3 a4 a5, fun b b1 b2 => by rw [p1.2 28 (by decide) (by decide) (by decide)]; exact hk.2.2 b b1 b2⟩, fun v hv => ?_, Or.inl ⟨rfl, by rw [p1.2 28 (by decide) (by decide) (by decide)]; exact k16, by rw [p1.2 28 (by decide) (by decide) (by decide)]; exact k17, ?_⟩⟩
      · have := p2.1 v hv
        exact ⟨this.1, by omega⟩
      · rcases p5 with ⟨-, z⟩ | ⟨z, -⟩
        · exact z
        · omega
    refine mm_iload_n dX6_takeBetterMean_42 rfl rfl ?_
    refine mm_ldc dX6_takeBetterMean_43 rfl kc_X6_85 ?_
    refine mm_icge dX6_takeBetterMean_45 (by omega) (by omega) (fun h45 => ?_) (fun h45 => ?_)
    · exfalso; omega
    · refine mm_aload_n dX6_takeBetterMean_48 rfl rfl ?_
      refine mm_V0g (M1 := N) dX6_takeBetterMean_49 rfl lk_X6_177 (c := 28) rfl (by decide) rfl  rfl rfl rfl (cl2) ?_
      rintro _ N49 ⟨x49, rfl, p49⟩
      change mm_J _ _ _ _ _ _ _ _ _ _
      have hR49 : mm_Rf N49 := p49.1
      have hx49 := p49.2.1
      refine mm_ifeq dX6_takeBetterMean_52 (by omega) (fun h52 => ?_) (fun h52 => ?_)
      · refine mm_iconst dX6_takeBetterMean_70 rfl ?_
        refine mm_zret dX6_takeBetterMean_71 rfl rfl (Or.inl rfl) ?_
        have e0 : x49 = 0 := by omega
        rw [e0] at p49
        exact done _ hR49 p49.2.2
      · refine mm_aload_n dX6_takeBetterMean_55 rfl rfl ?_
        refine mm_V0g (M1 := N49) dX6_takeBetterMean_56 rfl lk_X6_180 (c := 28) rfl (by decide) rfl  rfl rfl rfl (two N49 (by have e1 : x49 = 1 := (by omega); have q := p49.2.2; rw [e1] at q; exact q)) ?_
        rintro _ N56 ⟨x56, rfl, p56⟩
        change mm_J _ _ _ _ _ _ _ _ _ _
        have hR56 : mm_Rf N56 := p56.1
        have hx56 := p56.2.1
        refine mm_ifeq dX6_takeBetterMean_59 (by omega) (fun h59 => ?_) (fun h59 => ?_)
        · refine mm_iinc dX6_takeBetterMean_64 rfl rfl (Nat.le_of_ble_eq_true rfl) rfl ?_
          refine mm_goto dX6_takeBetterMean_67 ?_
          obtain ⟨T1, g0, g1, g2, g3, g4, g5, g6⟩ := p56.2.2.2 (by omega)
          have go := ih g0 N56 T1 g1 g2 g3 g4 g5 g6
          rw [show ((t + 1 : Nat) : Int) = (t : Int) + 1 by omega] at go
          exact go
        · refine mm_iconst dX6_takeBetterMean_62 rfl ?_
          refine mm_zret dX6_takeBetterMean_63 rfl rfl (Or.inr rfl) ?_
          have e1 : x56 = 1 := by omega
          rw [hΦ]
          obtain ⟨g1, g2⟩ := p56.2.2.1 e1
          exact ⟨1, rfl, hR56, g1, g2⟩
  have l1 : ∀ s : Nat, s ≤ n → ∀ N, kv_k M N → N 28 = M 28 → (∀ v, v < s → N 36 v = 0 ∧ N 37 v = -1 ∧ N 38 v = 1) → mm_J X Y_X6_takeBetterMean 243 243 243 2 [(2, 29), (0, (s : Int))] [] N Φ := by
    refine mm_lp ?_
    intro s hs ih N hk h28 hz
    have hRN := hk.1
    have est : N 3 2 = (n : Int) := by rw [hk.2.1 3 (by decide) (by decide) (by decide) (by decide) (by decide)]; exact hn
    by_cases hlt : s < n
    · refine mm_iload_n dX6_takeBetterMean_2 rfl rfl ?_
      refine mm_aload_n dX6_takeBetterMean_3 rfl rfl ?_
      refine mm_getr dX6_takeBetterMean_4 rfl fl_X6_55 (c := 28) rfl (by decide) rfl rfl (hRN.at (c := 28) (i := 0) (v := 4) rfl (by decide)) ?_
      refine mm_get (kd := 0) dX6_takeBetterMean_7 rfl fl_X6_102 (c := 3) rfl (by decide) rfl rfl ?_
      rw [est]
      refine mm_icge dX6_takeBetterMean_10 (by omega) (by omega) (fun h10 => ?_) (fun h10 => ?_)
      · exfalso; omega
      · refine mm_aload_n dX6_takeBetterMean_13 rfl rfl ?_
        refine mm_getr dX6_takeBetterMean_14 rfl fl_X6_35 (c := 28) rfl (by decide) rfl rfl (hRN.at (c := 28) (i := 9) (v := 37) rfl (by decide)) ?_
        refine mm_iload_n dX6_takeBetterMean_17 rfl rfl ?_
        refine mm_lconst0 dX6_takeBetterMean_18 rfl ?_
        refine mm_lstk (k0 := s) dX6_takeBetterMean_19 rfl (c := 36) rfl (by decide) rfl (by omega) (by omega) (fun M19 hM19 => ?_)
        have hR19 : mm_Rf M19 := by rw [hM19]; exact hRN.up (mm_rt_ar (t := 3) rfl (by decide))
        refine mm_aload_n dX6_takeBetterMean_20 rfl rfl ?_
        refine mm_getr dX6_takeBetterMean_21 rfl fl_X6_39 (c := 28) rfl (by decide) rfl rfl (hR19.at (c := 28) (i := 10) (v := 38) rfl (by decide)) ?_
        refine mm_iload_n dX6_takeBetterMean_24 rfl rfl ?_
        refine mm_iconst dX6_takeBetterMean_25 rfl ?_
        refine mm_istk (k0 := s) dX6_takeBetterMean_26 rfl (c := 37) rfl (by decide) rfl (by omega) (by omega) (fun M26 hM26 => ?_)
        have hR26 : mm_Rf M26 := by rw [hM26]; exact hR19.up (mm_rt_ar (t := 0) rfl (by decide))
        refine mm_aload_n dX6_takeBetterMean_27 rfl rfl ?_
        refine mm_getr dX6_takeBetterMean_28 rfl fl_X6_42 (c := 28) rfl (by decide) rfl rfl (hR26.at (c := 28) (i := 11) (v := 39) rfl (by decide)) ?_
        refine mm_iload_n dX6_takeBetterMean_31 rfl rfl ?_
        refine mm_iconst dX6_takeBetterMean_32 rfl ?_
        refine mm_zstk (k0 := s) dX6_takeBetterMean_33 rfl (c := 38) rfl (by decide) rfl (by omega) (by omega) (Or.inr rfl) (fun M33 hM33 => ?_)
        have hR33 : mm_Rf M33 := by rw [hM33]; exact hR26.up (mm_rt_ar (t := 2) rfl (by decide))
        refine mm_iinc dX6_takeBetterMean_34 rfl rfl (Nat.le_of_ble_eq_true rfl) rfl ?_
        refine mm_goto dX6_takeBetterMean_37 ?_
        have go := ih hlt M33 ⟨hR33, fun a a1 a2 a3 a4 a5 => by rw [hM33, mm_up_row a4, hM26, mm_up_row a3, hM19, mm_up_row a2]; exact hk.2.1 a a1 a2 a3 a4 a5, fun b b1 b2 => by rw [hM33, mm_up_row (by decide), hM26, mm_up_row (by decide), hM19, mm_up_row (by decide)]; exact hk.2.2 b b1 b2⟩ (by rw [hM33, mm_up_row (by decide), hM26, mm_up_row (by decide), hM19, mm_up_row (by decide)]; exact h28) (fun v hv => by
          by_cases c : v = s
          · rw [c, hM33, mm_up_c (by decide), mm_up_c (by decide), mm_up_s, hM26, mm_up_c (by decide), mm_up_s, hM19, mm_up_s]
            exact ⟨rfl, rfl, rfl⟩
          · rw [hM33, mm_up_i c, mm_up_i c, mm_up_i c, hM26, mm_up_i c, mm_up_i c, mm_up_i c, hM19, mm_up_i c, mm_up_i c, mm_up_i c]
            exact hz v (by omega))
        rw [show ((s + 1 : Nat) : Int) = (s : Int) + 1 by omega] at go
        exact go
    · have es : s = n := by omega
      subst es
      have go := l2 0 (Nat.zero_le _) N (fun _ => 0) hk (by rw [h28]; exact hS) (by rw [h28]; exact hC) ⟨fun v hv => by rw [(hz v hv).1]; exact ⟨Int.le_refl _, by omega⟩, fun v hv => Or.inl ⟨(hz v hv).2.1, rfl⟩, fun q r m hr => by
        have := hr.2.2 0 (by have := hr.1; omega)
        have z := (hz (q (0 + 1)) this.2.2.2.1).2.1
        rw [z] at this
        have := this.1
        exfalso; omega, fun v _ => Nat.le_refl 0, fun v hv => Or.inr (hz v hv).2.2⟩ (fun y _ _ => Nat.zero_le _) (fun y hy z => by rw [(hz y hy).2.2] at z; omega)
      refine mm_iload_n dX6_takeBetterMean_2 rfl rfl ?_
      refine mm_aload_n dX6_takeBetterMean_3 rfl rfl ?_
      refine mm_getr dX6_takeBetterMean_4 rfl fl_X6_55 (c := 28) rfl (by decide) rfl rfl (hRN.at (c := 28) (i := 0) (v := 4) rfl (by decide)) ?_
      refine mm_get (kd := 0) dX6_takeBetterMean_7 rfl fl_X6_102 (c := 3) rfl (by decide) rfl rfl ?_
      rw [est]
      refine mm_icge dX6_takeBetterMean_10 (by omega) (by omega) (fun h10 => ?_) (fun h10 => ?_)
      · refine mm_iconst dX6_takeBetterMean_40 rfl ?_
        refine mm_istore_n dX6_takeBetterMean_41 rfl (Nat.le_of_ble_eq_true rfl) rfl ?_
        exact go
      · exfalso; omega
  refine mm_start (ls := [(2, 29), (9, 0)]) rfl ?_
  refine mm_iconst dX6_takeBetterMean_0 rfl ?_
  refine mm_istore_n dX6_takeBetterMean_1 rfl (Nat.le_of_ble_eq_true rfl) rfl ?_
  exact l1 0 (Nat.zero_le _) M ⟨hR, fun _ _ _ _ _ _ => rfl, fun _ _ _ => rfl⟩ rfl (fun v hv => absurd hv (by omega))
end

