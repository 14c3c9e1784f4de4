/-! HJ.better -/
section
/-! ===== KitePower$LoopFinder: takeBetterMean ===== -/
section
variable {N : mm_M} {n : Nat}
theorem kv_e.uniq : ∀ {d d' v : Nat}, kv_e N n d v → kv_e N n d' v → d = d'
  | 0, 0, _, _, _ => rfl
  | 0, d' + 1, v, h, ⟨p, u, h1, _⟩ => by
    have h : N 37 v = -1 := h
    omega
  | d + 1, 0, v, ⟨p, u, h1, _⟩, h => by
    have h : N 37 v = -1 := h
    omega
  | d + 1, d' + 1, v, ⟨p, u, h1, h2, h3⟩, ⟨p', u', g1, g2, g3⟩ => by
    have ep : p = p' := by omega
    have eu : u = u' := by
      have a := h2.2.2.2.2.2.1
      have b := g2.2.2.2.2.2.1
      rw [ep] at a
      omega
    rw [eu] at h3
    rw [kv_e.uniq h3 g3]
theorem kv_e.walk : ∀ {d v : Nat}, v < n → kv_e N n d v → ∃ c : Nat → Nat, c 0 = v ∧ ∀ i, i ≤ d → c i < n ∧ kv_e N n (d - i) (c i)
  | 0, v, hv, h => ⟨fun _ => v, rfl, fun i hi => ⟨hv, by rw [Nat.zero_sub]; exact h⟩⟩
  | d + 1, v, hv, ⟨p, u, h1, h2, h3⟩ => by
    obtain ⟨c, c1, c2⟩ := kv_e.walk h2.2.1 h3
    refine ⟨fun i => if i = 0 then v else c (i - 1), rfl, fun i hi => ?_⟩
    show (if i = 0 then v else c (i - 1)) < n ∧ kv_e N n (d + 1 - i) (if i = 0 then v else c (i - 1))
    by_cases i0 : i = 0
    · rw [if_pos i0, i0]
      exact ⟨hv, p, u, h1, h2, h3⟩
    · rw [if_neg i0]
      have := c2 (i - 1) (by omega)
      rw [show d - (i - 1) = d + 1 - i by omega] at this
      exact this
/-- it ends in fewer steps than there are states -/
theorem kv_e.lt {d v : Nat} (hv : v < n) (h : kv_e N n d v) : d < n := by
  by_cases c : d < n
  · exact c
  · exfalso
    obtain ⟨c, c1, c2⟩ := h.walk hv
    obtain ⟨i, j, i1, i2, i3⟩ := gz_pig n c (fun i hi => (c2 i (by omega)).1)
    have a := (c2 i (by omega)).2
    have b := (c2 j (by omega)).2
    rw [i3] at a
    have := kv_e.uniq a b
    omega
theorem kv_A.T {S C B : Int} {T : Nat → Nat} {t : Nat} (h : kv_A N n S C T t B) : ∀ {d v : Nat}, v < n → kv_e N n d v → T v ≤ d
  | 0, v, hv, e => by
    have e : N 37 v = -1 := e
    rcases h.2.1 v hv with q | ⟨p, u, q1, -⟩ <;> omega
  | d + 1, v, hv, ⟨p, u, h1, h2, h3⟩ => by
    rcases h.2.1 v hv with q | ⟨p', u', q1, q2, q3, q4, -⟩
    · omega
    · have ep : p = p' := by omega
      have eu : u = u' := by
        have a := h2.2.2.2.2.2.1
        have b := q2.2.2.2.2.2.1
        rw [ep] at a
        omega
      have := kv_A.T h h2.2.1 h3
      rw [eu] at this
      omega
theorem kv_A.cg {M N : mm_M} {S C B : Int} {T : Nat → Nat} {t : Nat} (e : ∀ a, 31 ≤ a → a ≤ 38 → N a = M a) (h : kv_A M n S C T t B) : kv_A N n S C T t B := by
  unfold kv_A kv_R kv_w kv_p at h ⊢
  rw [e 31 (by decide) (by decide), e 32 (by decide) (by decide), e 33 (by decide) (by decide), e 34 (by decide) (by decide), e 36 (by decide) (by decide), e 37 (by decide) (by decide), e 38 (by decide) (by decide)]
  exact h
theorem kv_S.cg {M N : mm_M} {S C : Int} {y : Nat} (e : ∀ a, 31 ≤ a → a ≤ 38 → N a = M a) (h : kv_S M n S C y) : kv_S N n S C y := by
  unfold kv_S kv_w kv_p at h ⊢
  rw [e 31 (by decide) (by decide), e 32 (by decide) (by decide), e 33 (by decide) (by decide), e 34 (by decide) (by decide), e 36 (by decide) (by decide)]
  exact h
theorem kv_G.cg {M N : mm_M} (e : ∀ a, 31 ≤ a → a ≤ 34 → N a = M a) (h : kv_G M n) : kv_G N n := by
  unfold kv_G at h ⊢
  rw [e 31 (by decide) (by decide), e 32 (by decide) (by decide), e 33 (by decide) (by decide), e 34 (by decide) (by decide)]
  exact h
end
section
variable {X : mm_X} {M : mm_M} {n : Nat}
/-- levels and marks change, and the mean -/
def kv_k (M N : mm_M) : Prop := mm_Rf N ∧ (∀ a, a ≠ 28 → a ≠ 36 → a ≠ 37 → a ≠ 38 → a ≠ 39 → N a = M a) ∧ ∀ b, b ≠ 16 → b ≠ 17 → N 28 b = M 28 b
/-- a round of paths -/
def kv_B (M : mm_M) (n : Nat) (q r : Nat → Nat) (m : Nat) : Prop := 1 ≤ m ∧ m ≤ n ∧ q m = q 0 ∧ ∀ j, j < m → kv_p M n (r j) (q j) (q (j + 1))
/-- what takeBetterMean leaves: levels that no path raises, or the mean of a round that gives more -/
def kv_V (M N : mm_M) (n : Nat) (S C x : Int) : Prop := (∀ v, v < n → 0 ≤ N 36 v ∧ N 36 v ≤ 400000000000000) ∧ ((x = 0 ∧ N 28 16 = S ∧ N 28 17 = C ∧ ∀ y, y < n → kv_S N n S C y) ∨ (x = 1 ∧ ∃ q r m, kv_B M n q r m ∧ N 28 16 = ka_sum (fun j => M 34 (r j)) m ∧ N 28 17 = (m : Int) ∧ S * m < C * ka_sum (fun j => M 34 (r j)) m))
theorem c_X6_takeBetterMean {S C : Int} (hR : mm_Rf M) (hG : kv_G M n) (hn : M 3 2 = (n : Int)) (hn2 : n ≤ 288) (hS : M 28 16 = S) (hC : M 28 17 = C) (hSb : -2000000000 ≤ S ∧ S ≤ 2000000000) (hCb : 1 ≤ C ∧ C ≤ 288) :
    mm_C X Y_X6_takeBetterMean 243 243 [(2, 29)] M (fun r M' => ∃ x, r = (0, x) ∧ mm_Rf M' ∧ kv_k M M' ∧ kv_V M M' n S C x) := by
  obtain ⟨Φ, hΦ⟩ : ∃ Φ : mm_V → mm_M → Prop, Φ = (fun r M' => ∃ x, r = (0, x) ∧ mm_Rf M' ∧ kv_k M M' ∧ kv_V M M' n S C x) := ⟨_, rfl⟩
  rw [← hΦ]
  have l2 : ∀ t : Nat, t ≤ n → ∀ N T, kv_k M N → N 28 16 = S → N 28 17 = C → kv_A N n S C T t (4000000000 * (n : Int) * (t : Int)) → (∀ y, y < n → N 38 y = 1 → t ≤ T y) → (∀ y, y < n → N 38 y = 0 → kv_S N n S C y) →
      mm_J X Y_X6_takeBetterMean 243 243 243 42 [(2, 29), (0, (t : Int))] [] N Φ := by
    refine mm_lp ?_
    intro t ht ih N T hk k16 k17 hA hF hSt
    have hRN := hk.1
    have est : N 3 2 = (n : Int) := by rw [hk.2.1 3 (by decide) (by decide) (by decide) (by decide) (by decide)]; exact hn
    have hGN : kv_G N n := hG.cg (fun a a1 a2 => hk.2.1 a (by omega) (by omega) (by omega) (by omega) (by omega))
    have bt := mm_mulb (a := (n : Int)) (b := (t : Int)) (A := 288) (B := 288) (by omega) (by omega) (by omega) (by omega)
    have bt2 : 4000000000 * (n : Int) * (t : Int) = 4000000000 * ((n : Int) * (t : Int)) := Int.mul_assoc _ _ _
    have cl := c_X6_raiseLevels (X := X) (M := N) (n := n) (t := t) (S := S) (C := C) (B := 4000000000 * (n : Int) * (t : Int)) (T := T) hRN hGN est hn2 k16 k17 hSb hCb ⟨by omega, by omega⟩ hA hF hSt
    have cl2 : mm_C X Y_X6_raiseLevels 243 243 [(2, 29)] N (fun r M' => ∃ b, r = (0, b) ∧ mm_Rf M' ∧ (b = 0 ∨ b = 1) ∧ ∃ T1, kv_N N M' n S C (4000000000 * (n : Int) * (t : Int)) b (t + 1) T1) := by
      refine mm_C.mono cl ?_
      rintro r P ⟨b, b1, b2, T1, b3⟩
      exact ⟨b, b1, b2, b3.2.2.2.2.imp And.left And.left, T1, b3⟩
    have two : ∀ P : mm_M, (∃ T1, kv_N N P n S C (4000000000 * (n : Int) * (t : Int)) 1 (t + 1) T1) → mm_C X Y_X6_takeBestRing 243 243 [(2, 29)] P (fun r M' => ∃ x, r = (0, x) ∧ mm_Rf M' ∧ (x = 0 ∨ x = 1) ∧ (x = 1 → kv_k M M' ∧ kv_V M M' n S C 1) ∧ (x = 0 → ∃ T1, t + 1 ≤ n ∧ kv_k M M' ∧ M' 28 16 = S ∧ M' 28 17 = C ∧ kv_A M' n S C T1 (t + 1) (4000000000 * (n : Int) * ((t + 1 : Nat) : Int)) ∧ (∀ y, y < n → M' 38 y = 1 → t + 1 ≤ T1 y) ∧ ∀ y, y < n → M' 38 y = 0 → kv_S M' n S C y)) := by
      rintro P ⟨T1, p1, p2, p3, p4, p5⟩
      have eP : ∀ a, a ≠ 36 → a ≠ 37 → a ≠ 38 → P a = N a := p1.2
      have cb := c_X6_takeBestRing (X := X) (M := P) (n := n) (t := t + 1) (S := S) (C := C) (T := T1) p1.1 (p1.G hGN) (by rw [eP 3 (by decide) (by decide) (by decide)]; exact est) hn2 (by rw [eP 28 (by decide) (by decide) (by decide)]; exact k16) (by rw [eP 28 (by decide) (by decide) (by decide)]; exact k17) hSb hCb p2
      refine mm_C.mono cb ?_
      rintro r Q ⟨x, x1, x2, x3, x4⟩
      have kQ : kv_k M Q := ⟨x2, fun a a1 a2 a3 a4 a5 => by rw [x3.2.1 a a1 a5, eP a a2 a3 a4]; exact hk.2.1 a a1 a2 a3 a4 a5, fun b b1 b2 => by rw [x3.2.2 b b1 b2, eP 28 (by decide) (by decide) (by decide)]; exact hk.2.2 b b1 b2⟩
      refine ⟨x, x1, x2, x4.imp And.left And.left, fun e => ?_, fun e => ?_⟩
      · rcases x4 with ⟨y1, -⟩ | ⟨y1, q, r', m, y2, y3, y4, y5⟩
        · omega
        · have e34 : P 34 = M 34 := by rw [eP 34 (by decide) (by decide) (by decide)]; exact hk.2.1 34 (by decide) (by decide) (by decide) (by decide) (by decide)
          have big := p2.ring y2
          rw [e34] at y4 big
          refine ⟨kQ, fun v hv => ?_, Or.inr ⟨rfl, q, r', m, ⟨y2.1, y3, y2.2.1, fun j hj => ?_⟩, y4, y5, big⟩⟩
          · have := p2.1 v hv
            rw [x3.2.1 36 (by decide) (by decide)]
            exact ⟨this.1, by omega⟩
          have := (y2.2.2 j hj).2
          unfold kv_p at this ⊢
          rw [eP 31 (by decide) (by decide) (by decide), eP 32 (by decide) (by decide) (by decide), eP 33 (by decide) (by decide) (by decide), hk.2.1 31 (by decide) (by decide) (by decide) (by decide) (by decide), hk.2.1 32 (by decide) (by decide) (by decide) (by decide) (by decide), hk.2.1 33 (by decide) (by decide) (by decide) (by decide) (by decide)] at this
          exact this
      · rcases x4 with ⟨y1, y2, y3, y4⟩ | ⟨y1, -⟩
        · rcases p5 with ⟨z, -⟩ | ⟨-, v, v1, v2⟩
          · omega
          · obtain ⟨d, hd⟩ := y4 v v1
            have a := p2.T v1 hd
            have b := hd.lt v1
            have eQ : ∀ a, 31 ≤ a → a ≤ 38 → Q a = P a := fun a a1 a2 => x3.2.1 a (by omega) (by omega)
            refine ⟨T1, by omega, kQ, y2, y3, p2.cg eQ |>.mono ?_, fun y hy z => ?_, fun y hy z => ?_⟩
            · rw [show ((t + 1 : Nat) : Int) = (t : Int) + 1 by omega, Int.mul_add]; omega
            · rw [eQ 38 (by decide) (by decide)] at z
              exact p3 y hy z
            · rw [eQ 38 (by decide) (by decide)] at z
              exact (p4 y hy z).cg eQ
        · omega
    have done : ∀ P : mm_M, mm_Rf P → (∃ T1, kv_N N P n S C (4000000000 * (n : Int) * (t : Int)) 0 (t + 1) T1) → Φ (0, 0) P := by
      rintro P hRP ⟨T1, p1, p2, p3, p4, p5⟩
      rw [hΦ]
      refine ⟨0, rfl, hRP, ⟨hRP, fun a a1 a2 a3 a4 a5 => by rw [p1.2 a a2 a3 a4]; exact hk.2.1 a a1 a2 a3 a4 a5, fun b b1 b2 => by rw [p1.2 28 (by decide) (by decide) (by decide)]; exact hk.2.2 b b1 b2⟩, fun v hv => ?_, Or.inl ⟨rfl, by rw [p1.2 28 (by decide) (by decide) (by decide)]; exact k16, by rw [p1.2 28 (by decide) (by decide) (by decide)]; exact k17, ?_⟩⟩
      · have := p2.1 v hv
        exact ⟨this.1, by omega⟩
      · rcases p5 with ⟨-, z⟩ | ⟨z, -⟩
        · exact z
        · omega
    refine mm_iload_n dX6_takeBetterMean_42 rfl rfl ?_
    refine mm_ldc dX6_takeBetterMean_43 rfl kc_X6_85 ?_
    refine mm_icge dX6_takeBetterMean_45 (by omega) (by omega) (fun h45 => ?_) (fun h45 => ?_)
    · exfalso; omega
    · refine mm_aload_n dX6_takeBetterMean_48 rfl rfl ?_
      refine mm_V0g (M1 := N) dX6_takeBetterMean_49 rfl lk_X6_177 (c := 28) rfl (by decide) rfl  rfl rfl rfl (cl2) ?_
      rintro _ N49 ⟨x49, rfl, p49⟩
      change mm_J _ _ _ _ _ _ _ _ _ _
      have hR49 : mm_Rf N49 := p49.1
      have hx49 := p49.2.1
      refine mm_ifeq dX6_takeBetterMean_52 (by omega) (fun h52 => ?_) (fun h52 => ?_)
      · refine mm_iconst dX6_takeBetterMean_70 rfl ?_
        refine mm_zret dX6_takeBetterMean_71 rfl rfl (Or.inl rfl) ?_
        have e0 : x49 = 0 := by omega
        rw [e0] at p49
        exact done _ hR49 p49.2.2
      · refine mm_aload_n dX6_takeBetterMean_55 rfl rfl ?_
        refine mm_V0g (M1 := N49) dX6_takeBetterMean_56 rfl lk_X6_180 (c := 28) rfl (by decide) rfl  rfl rfl rfl (two N49 (by have e1 : x49 = 1 := (by omega); have q := p49.2.2; rw [e1] at q; exact q)) ?_
        rintro _ N56 ⟨x56, rfl, p56⟩
        change mm_J _ _ _ _ _ _ _ _ _ _
        have hR56 : mm_Rf N56 := p56.1
        have hx56 := p56.2.1
        refine mm_ifeq dX6_takeBetterMean_59 (by omega) (fun h59 => ?_) (fun h59 => ?_)
        · refine mm_iinc dX6_takeBetterMean_64 rfl rfl (Nat.le_of_ble_eq_true rfl) rfl ?_
          refine mm_goto dX6_takeBetterMean_67 ?_
          obtain ⟨T1, g0, g1, g2, g3, g4, g5, g6⟩ := p56.2.2.2 (by omega)
          have go := ih g0 N56 T1 g1 g2 g3 g4 g5 g6
          rw [show ((t + 1 : Nat) : Int) = (t : Int) + 1 by omega] at go
          exact go
        · refine mm_iconst dX6_takeBetterMean_62 rfl ?_
          refine mm_zret dX6_takeBetterMean_63 rfl rfl (Or.inr rfl) ?_
          have e1 : x56 = 1 := by omega
          rw [hΦ]
          obtain ⟨g1, g2⟩ := p56.2.2.1 e1
          exact ⟨1, rfl, hR56, g1, g2⟩
  have l1 : ∀ s : Nat, s ≤ n → ∀ N, kv_k M N → N 28 = M 28 → (∀ v, v < s → N 36 v = 0 ∧ N 37 v = -1 ∧ N 38 v = 1) → mm_J X Y_X6_takeBetterMean 243 243 243 2 [(2, 29), (0, (s : Int))] [] N Φ := by
    refine mm_lp ?_
    intro s hs ih N hk h28 hz
    have hRN := hk.1
    have est : N 3 2 = (n : Int) := by rw [hk.2.1 3 (by decide) (by decide) (by decide) (by decide) (by decide)]; exact hn
    by_cases hlt : s < n
    · refine mm_iload_n dX6_takeBetterMean_2 rfl rfl ?_
      refine mm_aload_n dX6_takeBetterMean_3 rfl rfl ?_
      refine mm_getr dX6_takeBetterMean_4 rfl fl_X6_55 (c := 28) rfl (by decide) rfl rfl (hRN.at (c := 28) (i := 0) (v := 4) rfl (by decide)) ?_
      refine mm_get (kd := 0) dX6_takeBetterMean_7 rfl fl_X6_102 (c := 3) rfl (by decide) rfl rfl ?_
      rw [est]
      refine mm_icge dX6_takeBetterMean_10 (by omega) (by omega) (fun h10 => ?_) (fun h10 => ?_)
      · exfalso; omega
      · refine mm_aload_n dX6_takeBetterMean_13 rfl rfl ?_
        refine mm_getr dX6_takeBetterMean_14 rfl fl_X6_35 (c := 28) rfl (by decide) rfl rfl (hRN.at (c := 28) (i := 9) (v := 37) rfl (by decide)) ?_
        refine mm_iload_n dX6_takeBetterMean_17 rfl rfl ?_
        refine mm_lconst0 dX6_takeBetterMean_18 rfl ?_
        refine mm_lstk (k0 := s) dX6_takeBetterMean_19 rfl (c := 36) rfl (by decide) rfl (by omega) (by omega) (fun M19 hM19 => ?_)
        have hR19 : mm_Rf M19 := by rw [hM19]; exact hRN.up (mm_rt_ar (t := 3) rfl (by decide))
        refine mm_aload_n dX6_takeBetterMean_20 rfl rfl ?_
        refine mm_getr dX6_takeBetterMean_21 rfl fl_X6_39 (c := 28) rfl (by decide) rfl rfl (hR19.at (c := 28) (i := 10) (v := 38) rfl (by decide)) ?_
        refine mm_iload_n dX6_takeBetterMean_24 rfl rfl ?_
        refine mm_iconst dX6_takeBetterMean_25 rfl ?_
        refine mm_istk (k0 := s) dX6_takeBetterMean_26 rfl (c := 37) rfl (by decide) rfl (by omega) (by omega) (fun M26 hM26 => ?_)
        have hR26 : mm_Rf M26 := by rw [hM26]; exact hR19.up (mm_rt_ar (t := 0) rfl (by decide))
        refine mm_aload_n dX6_takeBetterMean_27 rfl rfl ?_
        refine mm_getr dX6_takeBetterMean_28 rfl fl_X6_42 (c := 28) rfl (by decide) rfl rfl (hR26.at (c := 28) (i := 11) (v := 39) rfl (by decide)) ?_
        refine mm_iload_n dX6_takeBetterMean_31 rfl rfl ?_
        refine mm_iconst dX6_takeBetterMean_32 rfl ?_
        refine mm_zstk (k0 := s) dX6_takeBetterMean_33 rfl (c := 38) rfl (by decide) rfl (by omega) (by omega) (Or.inr rfl) (fun M33 hM33 => ?_)
        have hR33 : mm_Rf M33 := by rw [hM33]; exact hR26.up (mm_rt_ar (t := 2) rfl (by decide))
        refine mm_iinc dX6_takeBetterMean_34 rfl rfl (Nat.le_of_ble_eq_true rfl) rfl ?_
        refine mm_goto dX6_takeBetterMean_37 ?_
        have go := ih hlt M33 ⟨hR33, fun a a1 a2 a3 a4 a5 => by rw [hM33, mm_up_row a4, hM26, mm_up_row a3, hM19, mm_up_row a2]; exact hk.2.1 a a1 a2 a3 a4 a5, fun b b1 b2 => by rw [hM33, mm_up_row (by decide), hM26, mm_up_row (by decide), hM19, mm_up_row (by decide)]; exact hk.2.2 b b1 b2⟩ (by rw [hM33, mm_up_row (by decide), hM26, mm_up_row (by decide), hM19, mm_up_row (by decide)]; exact h28) (fun v hv => by
          by_cases c : v = s
          · rw [c, hM33, mm_up_c (by decide), mm_up_c (by decide), mm_up_s, hM26, mm_up_c (by decide), mm_up_s, hM19, mm_up_s]
            exact ⟨rfl, rfl, rfl⟩
          · rw [hM33, mm_up_i c, mm_up_i c, mm_up_i c, hM26, mm_up_i c, mm_up_i c, mm_up_i c, hM19, mm_up_i c, mm_up_i c, mm_up_i c]
            exact hz v (by omega))
        rw [show ((s + 1 : Nat) : Int) = (s : Int) + 1 by omega] at go
        exact go
    · have es : s = n := by omega
      subst es
      have go := l2 0 (Nat.zero_le _) N (fun _ => 0) hk (by rw [h28]; exact hS) (by rw [h28]; exact hC) ⟨fun v hv => by rw [(hz v hv).1]; exact ⟨Int.le_refl _, by omega⟩, fun v hv => Or.inl ⟨(hz v hv).2.1, rfl⟩, fun q r m hr => by
        have := hr.2.2 0 (by have := hr.1; omega)
        have z := (hz (q (0 + 1)) this.2.2.2.1).2.1
        rw [z] at this
        have := this.1
        exfalso; omega, fun v _ => Nat.le_refl 0, fun v hv => Or.inr (hz v hv).2.2⟩ (fun y _ _ => Nat.zero_le _) (fun y hy z => by rw [(hz y hy).2.2] at z; omega)
      refine mm_iload_n dX6_takeBetterMean_2 rfl rfl ?_
      refine mm_aload_n dX6_takeBetterMean_3 rfl rfl ?_
      refine mm_getr dX6_takeBetterMean_4 rfl fl_X6_55 (c := 28) rfl (by decide) rfl rfl (hRN.at (c := 28) (i := 0) (v := 4) rfl (by decide)) ?_
      refine mm_get (kd := 0) dX6_takeBetterMean_7 rfl fl_X6_102 (c := 3) rfl (by decide) rfl rfl ?_
      rw [est]
      refine mm_icge dX6_takeBetterMean_10 (by omega) (by omega) (fun h10 => ?_) (fun h10 => ?_)
      · refine mm_iconst dX6_takeBetterMean_40 rfl ?_
        refine mm_istore_n dX6_takeBetterMean_41 rfl (Nat.le_of_ble_eq_true rfl) rfl ?_
        exact go
      · exfalso; omega
  refine mm_start (ls := [(2, 29), (9, 0)]) rfl ?_
  refine mm_iconst dX6_takeBetterMean_0 rfl ?_
  refine mm_istore_n dX6_takeBetterMean_1 rfl (Nat.le_of_ble_eq_true rfl) rfl ?_
  exact l1 0 (Nat.zero_le _) M ⟨hR, fun _ _ _ _ _ _ => rfl, fun _ _ _ => rfl⟩ rfl (fun v hv => absurd hv (by omega))
end
end
/-! HK.keep -/
section
/-! ===== KitePower$LoopFinder: keepTightPaths ===== -/
/-- a path that just reaches the level of its head -/
def kt_g (M : mm_M) (n : Nat) (S C : Int) (p u v : Nat) : Prop := kv_p M n p u v ∧ M 36 u + kv_w M S C p = M 36 v
/-- the kept paths from u, of those below p -/
def kt_o (M N : mm_M) (n : Nat) (S C : Int) (u c0 c1 p : Nat) : Prop := c0 ≤ c1 ∧ (∀ x, c0 ≤ x → x < c1 → ∃ p' v, p' < p ∧ kt_g M n S C p' u v ∧ N 33 x = (v : Int) ∧ N 34 x = M 34 p' ∧ N 35 x = M 35 p') ∧ ∀ p' v, p' < p → kt_g M n S C p' u v → ∃ x, c0 ≤ x ∧ x < c1 ∧ N 33 x = (v : Int) ∧ N 34 x = M 34 p' ∧ N 35 x = M 35 p'
theorem kt_o.fr {M N U : mm_M} {n u c0 c1 p : Nat} {S C : Int} (h : kt_o M N n S C u c0 c1 p) (f : ∀ x, x < c1 → U 33 x = N 33 x ∧ U 34 x = N 34 x ∧ U 35 x = N 35 x) : kt_o M U n S C u c0 c1 p := by
  refine ⟨h.1, fun x x1 x2 => ?_, fun p' v h1 h2 => ?_⟩
  · obtain ⟨f1, f2, f3⟩ := f x x2
    rw [f1, f2, f3]
    exact h.2.1 x x1 x2
  · obtain ⟨x, x1, x2, x3⟩ := h.2.2 p' v h1 h2
    obtain ⟨f1, f2, f3⟩ := f x x2
    exact ⟨x, x1, x2, by rw [f1, f2, f3]; exact x3⟩
theorem kt_o.no {M N : mm_M} {n u c0 c1 p : Nat} {S C : Int} (h : kt_o M N n S C u c0 c1 p) (hn : ∀ v, ¬ kt_g M n S C p u v) : kt_o M N n S C u c0 c1 (p + 1) := by
  refine ⟨h.1, fun x x1 x2 => ?_, fun p' v h1 h2 => ?_⟩
  · obtain ⟨p', v, q1, q2⟩ := h.2.1 x x1 x2
    exact ⟨p', v, by omega, q2⟩
  · by_cases c : p' = p
    · rw [c] at h2; exact absurd h2 (hn v)
    · exact h.2.2 p' v (by omega) h2
theorem kt_o.yes {M N : mm_M} {n u c0 c1 p v : Nat} {S C : Int} (h : kt_o M N n S C u c0 c1 p) (hg : kt_g M n S C p u v) (q1 : N 33 c1 = (v : Int)) (q2 : N 34 c1 = M 34 p) (q3 : N 35 c1 = M 35 p) : kt_o M N n S C u c0 (c1 + 1) (p + 1) := by
  have h0 := h.1
  refine ⟨by omega, fun x x1 x2 => ?_, fun p' w h1 h2 => ?_⟩
  · by_cases c : x = c1
    · rw [c]; exact ⟨p, v, by omega, hg, q1, q2, q3⟩
    · obtain ⟨p', v, y1, y2⟩ := h.2.1 x x1 (by omega)
      exact ⟨p', v, by omega, y2⟩
  · by_cases c : p' = p
    · rw [c] at h2 ⊢
      have e : w = v := by
        have a := h2.1.2.2.2.2.2.2
        have b := hg.1.2.2.2.2.2.2
        omega
      exact ⟨c1, h0, by omega, by rw [e]; exact q1, q2, q3⟩
    · obtain ⟨x, x1, x2, x3⟩ := h.2.2 p' w (by omega) h2
      exact ⟨x, x1, by omega, x3⟩
def kt_U (M N : mm_M) : Prop := mm_Rf N ∧ ∀ a, a ≠ 31 → a ≠ 33 → a ≠ 34 → a ≠ 35 → N a = M a
/-- what is kept -/
def kt_K (M N : mm_M) (n : Nat) (S C : Int) : Prop := ∀ u, u < n → ∃ c0 c1 : Nat, N 31 u = (c0 : Int) ∧ N 31 (u + 1) = (c1 : Int) ∧ c1 ≤ 4320 ∧ kt_o M N n S C u c0 c1 4320
section
variable {X : mm_X} {M : mm_M} {n : Nat}
theorem c_X6_keepTightPaths {S C : Int} (hR : mm_Rf M) (hG : kv_G M n) (hn : M 3 2 = (n : Int)) (hn2 : n ≤ 288) (hn1 : 1 ≤ n) (hS : M 28 16 = S) (hC : M 28 17 = C) (hSb : -2000000000 ≤ S ∧ S ≤ 2000000000) (hCb : 1 ≤ C ∧ C ≤ 288) (hL : ∀ v, v < n → 0 ≤ M 36 v ∧ M 36 v ≤ 400000000000000) :
    mm_C X Y_X6_keepTightPaths 243 243 [(2, 29)] M (fun r M' => r = (3, 0) ∧ mm_Rf M' ∧ kt_U M M' ∧ kt_K M M' n S C) := by
  obtain ⟨Φ, hΦ⟩ : ∃ Φ : mm_V → mm_M → Prop, Φ = (fun r M' => r = (3, 0) ∧ mm_Rf M' ∧ kt_U M M' ∧ kt_K M M' n S C) := ⟨_, rfl⟩
  rw [← hΦ]
  -- the paths of a state
  have inner : ∀ s : Nat, s < n → ∀ c0 e0 e1 : Nat, M 31 s = (e0 : Int) → M 31 (s + 1) = (e1 : Int) → e1 ≤ 4320 →
      (∀ N (c : Nat), kt_U M N → c ≤ e1 → (∀ u, s < u → u ≤ n → N 31 u = M 31 u) → (∀ x, c ≤ x → N 33 x = M 33 x ∧ N 34 x = M 34 x ∧ N 35 x = M 35 x) → (∀ u, u < s + 1 → ∃ d0 d1 : Nat, N 31 u = (d0 : Int) ∧ (u + 1 = s + 1 → d1 = c) ∧ (u + 1 < s + 1 → N 31 (u + 1) = (d1 : Int)) ∧ d1 ≤ c ∧ kt_o M N n S C u d0 d1 4320) → mm_J X Y_X6_keepTightPaths 243 243 243 129 [(2, 29), (0, (c : Int)), (0, (s : Int)), (9, 0), (9, 0), (9, 0)] [] N Φ) →
      ∀ p : Nat, p ≤ e1 → ∀ N (c : Nat), kt_U M N → e0 ≤ p → c0 ≤ c → c ≤ p → N 31 s = (c0 : Int) → (∀ u, s < u → u ≤ n → N 31 u = M 31 u) → (∀ x, c ≤ x → N 33 x = M 33 x ∧ N 34 x = M 34 x ∧ N 35 x = M 35 x) → (∀ u, u < s → ∃ d0 d1 : Nat, N 31 u = (d0 : Int) ∧ N 31 (u + 1) = (d1 : Int) ∧ d1 ≤ c0 ∧ kt_o M N n S C u d0 d1 4320) → kt_o M N n S C s c0 c p →
      mm_J X Y_X6_keepTightPaths 243 243 243 29 [(2, 29), (0, (c : Int)), (0, (s : Int)), (0, (p : Int)), (9, 0), (9, 0)] [] N Φ := by
    intro s hs c0 e0 e1 he0 he1 he4 out
    refine mm_lp ?_
    intro p hp ih N c hU g0 g1 g2 g3 g4 g5 g6 g7
    have hRN := hU.1
    have k1 : N 31 (s + 1) = (e1 : Int) := by rw [g4 (s + 1) (by omega) (by omega)]; exact he1
    by_cases hlt : p < e1
    · obtain ⟨a0, a1, b1, b2, b3, b4, b5⟩ := hG s hs
      obtain ⟨q1, ⟨v, v1, v2⟩, q3, q4⟩ := b5 p (by omega) (by omega)
      have hpv : kv_p M n p s v := ⟨by omega, hs, v1, by omega, by omega, q1, v2⟩
      obtain ⟨f33, f34, f35⟩ := g5 p g2
      have k33 : N 33 p = (v : Int) := by rw [f33]; exact v2
      have k34 : -5800000 ≤ N 34 p ∧ N 34 p ≤ 5800000 := by rw [f34]; exact ⟨q3, q4⟩
      have e36 : N 36 = M 36 := hU.2 36 (by decide) (by decide) (by decide) (by decide)
      have e28 : N 28 = M 28 := hU.2 28 (by decide) (by decide) (by decide) (by decide)
      have k16 : N 28 16 = S := by rw [e28]; exact hS
      have k17 : N 28 17 = C := by rw [e28]; exact hC
      have mb := mm_mulB (a := N 34 p) (b := C) (A := 5800000) (B := 288) k34.1 k34.2 (by omega) hCb.2
      obtain ⟨w, hw⟩ : ∃ w, w = N 34 p * C := ⟨_, rfl⟩
      have hww : kv_w M S C p = w - S := by unfold kv_w; rw [hw, f34]
      rw [← hw] at mb
      have ls := hL s hs
      have lw := hL v v1
      have tgv : ∀ v', kt_g M n S C p s v' → M 36 s - S + w = M 36 v := by
        intro v' hv'
        have e : v' = v := by have := hv'.1.2.2.2.2.2.2; omega
        have := hv'.2
        rw [e, hww] at this
        omega
      by_cases ht : M 36 s - S + w = M 36 v
      · have hg : kt_g M n S C p s v := ⟨hpv, by rw [hww]; omega⟩
        have go : ∀ P, mm_Rf P → P = mm_up (mm_up (mm_up N 33 c (v : Int)) 34 c (N 34 p)) 35 c (N 35 p) → mm_J X Y_X6_keepTightPaths 243 243 243 29 [(2, 29), (0, (c : Int) + 1), (0, (s : Int)), (0, (p : Int) + 1), (9, 0), (9, 0)] [] P Φ := by
          intro P hRP hP
          have f : ∀ x, x ≠ c → P 33 x = N 33 x ∧ P 34 x = N 34 x ∧ P 35 x = N 35 x := by
            intro x hx
            rw [hP]
            refine ⟨?_, ?_, ?_⟩ <;> repeat (first | rw [mm_up_i hx] | rw [mm_up_c (by decide)])
          have r31 : P 31 = N 31 := by rw [hP, mm_up_row (by decide), mm_up_row (by decide), mm_up_row (by decide)]
          have u1 : P 33 c = (v : Int) := by rw [hP, mm_up_c (by decide), mm_up_c (by decide), mm_up_s]
          have u2 : P 34 c = M 34 p := by rw [hP, mm_up_c (by decide), mm_up_s, f34]
          have u3 : P 35 c = M 35 p := by rw [hP, mm_up_s, f35]
          have go := ih hlt P (c + 1) ⟨hRP, fun a a1 a2 a3 a4 => by rw [hP, mm_up_row a4, mm_up_row a3, mm_up_row a2]; exact hU.2 a a1 a2 a3 a4⟩ (by omega) (by omega) (by omega) (by rw [r31]; exact g3) (by rw [r31]; exact g4) (fun x hx => by
            obtain ⟨z1, z2, z3⟩ := f x (by omega)
            rw [z1, z2, z3]
            exact g5 x (by omega)) (fun u hu => by
            obtain ⟨d0, d1, z1, z2, z3, z4⟩ := g6 u hu
            rw [r31]
            exact ⟨d0, d1, z1, z2, z3, z4.fr (fun x hx => f x (by omega))⟩) ((g7.fr (fun x hx => f x (by omega))).yes hg u1 u2 u3)
          rw [show ((p + 1 : Nat) : Int) = (p : Int) + 1 by omega, show ((c + 1 : Nat) : Int) = (c : Int) + 1 by omega] at go
          exact go
        have r33 : ∀ P : mm_M, P = mm_up N 33 c (v : Int) → P 34 p = N 34 p := fun P hP => by rw [hP, mm_up_c (by decide)]
        refine mm_iload_n dX6_keepTightPaths_29 rfl rfl ?_
        refine mm_aload_n dX6_keepTightPaths_30 rfl rfl ?_
        refine mm_getr dX6_keepTightPaths_31 rfl fl_X6_20 (c := 28) rfl (by decide) rfl rfl (hRN.at (c := 28) (i := 4) (v := 32) rfl (by decide)) ?_
        refine mm_iload_n dX6_keepTightPaths_34 rfl rfl ?_
        refine mm_iconst dX6_keepTightPaths_35 rfl ?_
        refine mm_iadd dX6_keepTightPaths_36 rfl ?_
        refine mm_ialk (k0 := s + 1) dX6_keepTightPaths_37 rfl (c := 31) rfl (by decide) rfl (by omega) (by omega) ?_
        rw [k1]
        refine mm_icge dX6_keepTightPaths_38 (by omega) (by omega) (fun h38 => ?_) (fun h38 => ?_)
        · exfalso; omega
        · refine mm_aload_n dX6_keepTightPaths_41 rfl rfl ?_
          refine mm_getr dX6_keepTightPaths_42 rfl fl_X6_35 (c := 28) rfl (by decide) rfl rfl (hRN.at (c := 28) (i := 9) (v := 37) rfl (by decide)) ?_
          refine mm_iload_n dX6_keepTightPaths_45 rfl rfl ?_
          refine mm_lalk (k0 := s) dX6_keepTightPaths_46 rfl (c := 36) rfl (by decide) rfl (by omega) (by omega) ?_
          rw [e36]
          refine mm_aload_n dX6_keepTightPaths_47 rfl rfl ?_
          refine mm_get (kd := 1) dX6_keepTightPaths_48 rfl fl_X6_78 (c := 28) rfl (by decide) rfl rfl ?_
          rw [k16]
          refine mm_lsub dX6_keepTightPaths_51 rfl ?_
          refine mm_aload_n dX6_keepTightPaths_52 rfl rfl ?_
          refine mm_getr dX6_keepTightPaths_53 rfl fl_X6_29 (c := 28) rfl (by decide) rfl rfl (hRN.at (c := 28) (i := 7) (v := 35) rfl (by decide)) ?_
          refine mm_iload_n dX6_keepTightPaths_56 rfl rfl ?_
          refine mm_ialk (k0 := p) dX6_keepTightPaths_57 rfl (c := 34) rfl (by decide) rfl (by omega) (by omega) ?_
          refine mm_i2l dX6_keepTightPaths_58 rfl (by omega) ?_
          refine mm_aload_n dX6_keepTightPaths_59 rfl rfl ?_
          refine mm_get (kd := 1) dX6_keepTightPaths_60 rfl fl_X6_82 (c := 28) rfl (by decide) rfl rfl ?_
          refine mm_lmul dX6_keepTightPaths_63 rfl ?_
          rw [k17, ← hw]
          refine mm_ladd dX6_keepTightPaths_64 rfl ?_
          refine mm_lstore dX6_keepTightPaths_65 rfl (Nat.le_of_ble_eq_true rfl) rfl ?_
          refine mm_lload dX6_keepTightPaths_67 rfl rfl ?_
          refine mm_aload_n dX6_keepTightPaths_69 rfl rfl ?_
          refine mm_getr dX6_keepTightPaths_70 rfl fl_X6_35 (c := 28) rfl (by decide) rfl rfl (hRN.at (c := 28) (i := 9) (v := 37) rfl (by decide)) ?_
          refine mm_aload_n dX6_keepTightPaths_73 rfl rfl ?_
          refine mm_getr dX6_keepTightPaths_74 rfl fl_X6_26 (c := 28) rfl (by decide) rfl rfl (hRN.at (c := 28) (i := 6) (v := 34) rfl (by decide)) ?_
          refine mm_iload_n dX6_keepTightPaths_77 rfl rfl ?_
          refine mm_ialk (k0 := p) dX6_keepTightPaths_78 rfl (c := 33) rfl (by decide) rfl (by omega) (by omega) ?_
          rw [k33]
          refine mm_lalk (k0 := v) dX6_keepTightPaths_79 rfl (c := 36) rfl (by decide) rfl (by omega) (by omega) ?_
          rw [e36]
          refine mm_lcmp dX6_keepTightPaths_80 rfl (by omega) (by omega) ?_
          refine mm_ifnec dX6_keepTightPaths_81 (fun h81 => ?_) (fun h81 => ?_)
          · exfalso; omega
          · refine mm_aload_n dX6_keepTightPaths_84 rfl rfl ?_
            refine mm_getr dX6_keepTightPaths_85 rfl fl_X6_26 (c := 28) rfl (by decide) rfl rfl (hRN.at (c := 28) (i := 6) (v := 34) rfl (by decide)) ?_
            refine mm_iload_n dX6_keepTightPaths_88 rfl rfl ?_
            refine mm_aload_n dX6_keepTightPaths_89 rfl rfl ?_
            refine mm_getr dX6_keepTightPaths_90 rfl fl_X6_26 (c := 28) rfl (by decide) rfl rfl (hRN.at (c := 28) (i := 6) (v := 34) rfl (by decide)) ?_
            refine mm_iload_n dX6_keepTightPaths_93 rfl rfl ?_
            refine mm_ialk (k0 := p) dX6_keepTightPaths_94 rfl (c := 33) rfl (by decide) rfl (by omega) (by omega) ?_
            rw [k33]
            refine mm_istk (k0 := c) dX6_keepTightPaths_95 rfl (c := 33) rfl (by decide) rfl (by omega) (by omega) (fun M95 hM95 => ?_)
            have hR95 : mm_Rf M95 := by rw [hM95]; exact hRN.up (mm_rt_ar (t := 0) rfl (by decide))
            refine mm_aload_n dX6_keepTightPaths_96 rfl rfl ?_
            refine mm_getr dX6_keepTightPaths_97 rfl fl_X6_29 (c := 28) rfl (by decide) rfl rfl (hR95.at (c := 28) (i := 7) (v := 35) rfl (by decide)) ?_
            refine mm_iload_n dX6_keepTightPaths_100 rfl rfl ?_
            refine mm_aload_n dX6_keepTightPaths_101 rfl rfl ?_
            refine mm_getr dX6_keepTightPaths_102 rfl fl_X6_29 (c := 28) rfl (by decide) rfl rfl (hR95.at (c := 28) (i := 7) (v := 35) rfl (by decide)) ?_
            refine mm_iload_n dX6_keepTightPaths_105 rfl rfl ?_
            refine mm_ialk (k0 := p) dX6_keepTightPaths_106 rfl (c := 34) rfl (by decide) rfl (by omega) (by omega) ?_
            rw [r33 _ hM95]
            refine mm_istk (k0 := c) dX6_keepTightPaths_107 rfl (c := 34) rfl (by decide) rfl (by omega) (by omega) (fun M107 hM107 => ?_)
            have hR107 : mm_Rf M107 := by rw [hM107]; exact hR95.up (mm_rt_ar (t := 0) rfl (by decide))
            refine mm_aload_n dX6_keepTightPaths_108 rfl rfl ?_
            refine mm_getr dX6_keepTightPaths_109 rfl fl_X6_32 (c := 28) rfl (by decide) rfl rfl (hR107.at (c := 28) (i := 8) (v := 36) rfl (by decide)) ?_
            refine mm_iload_n dX6_keepTightPaths_112 rfl rfl ?_
            refine mm_aload_n dX6_keepTightPaths_113 rfl rfl ?_
            refine mm_getr dX6_keepTightPaths_114 rfl fl_X6_32 (c := 28) rfl (by decide) rfl rfl (hR107.at (c := 28) (i := 8) (v := 36) rfl (by decide)) ?_
            refine mm_iload_n dX6_keepTightPaths_117 rfl rfl ?_
            refine mm_ialk (k0 := p) dX6_keepTightPaths_118 rfl (c := 35) rfl (by decide) rfl (by omega) (by omega) ?_
            rw [show M107 35 p = N 35 p by rw [hM107, mm_up_c (by decide), hM95, mm_up_c (by decide)]]
            refine mm_istk (k0 := c) dX6_keepTightPaths_119 rfl (c := 35) rfl (by decide) rfl (by omega) (by omega) (fun M119 hM119 => ?_)
            have hR119 : mm_Rf M119 := by rw [hM119]; exact hR107.up (mm_rt_ar (t := 0) rfl (by decide))
            refine mm_iinc dX6_keepTightPaths_120 rfl rfl (Nat.le_of_ble_eq_true rfl) rfl ?_
            refine mm_iinc dX6_keepTightPaths_123 rfl rfl (Nat.le_of_ble_eq_true rfl) rfl ?_
            refine mm_goto dX6_keepTightPaths_126 ?_
            exact mm_drop (by repeat (first | exact trivial | refine And.intro (Or.inl rfl) ?_ | refine And.intro (Or.inr rfl) ?_)) (go _ hR119 (by rw [hM119, hM107, hM95]))
      · have go := ih hlt N c hU (by omega) g1 (by omega) g3 g4 g5 g6 (g7.no (fun v' z => ht (tgv v' z)))
        rw [show ((p + 1 : Nat) : Int) = (p : Int) + 1 by omega] at go
        refine mm_iload_n dX6_keepTightPaths_29 rfl rfl ?_
        refine mm_aload_n dX6_keepTightPaths_30 rfl rfl ?_
        refine mm_getr dX6_keepTightPaths_31 rfl fl_X6_20 (c := 28) rfl (by decide) rfl rfl (hRN.at (c := 28) (i := 4) (v := 32) rfl (by decide)) ?_
        refine mm_iload_n dX6_keepTightPaths_34 rfl rfl ?_
        refine mm_iconst dX6_keepTightPaths_35 rfl ?_
        refine mm_iadd dX6_keepTightPaths_36 rfl ?_
        refine mm_ialk (k0 := s + 1) dX6_keepTightPaths_37 rfl (c := 31) rfl (by decide) rfl (by omega) (by omega) ?_
        rw [k1]
        refine mm_icge dX6_keepTightPaths_38 (by omega) (by omega) (fun h38 => ?_) (fun h38 => ?_)
        · exfalso; omega
        · refine mm_aload_n dX6_keepTightPaths_41 rfl rfl ?_
          refine mm_getr dX6_keepTightPaths_42 rfl fl_X6_35 (c := 28) rfl (by decide) rfl rfl (hRN.at (c := 28) (i := 9) (v := 37) rfl (by decide)) ?_
          refine mm_iload_n dX6_keepTightPaths_45 rfl rfl ?_
          refine mm_lalk (k0 := s) dX6_keepTightPaths_46 rfl (c := 36) rfl (by decide) rfl (by omega) (by omega) ?_
          rw [e36]
          refine mm_aload_n dX6_keepTightPaths_47 rfl rfl ?_
          refine mm_get (kd := 1) dX6_keepTightPaths_48 rfl fl_X6_78 (c := 28) rfl (by decide) rfl rfl ?_
          rw [k16]
          refine mm_lsub dX6_keepTightPaths_51 rfl ?_
          refine mm_aload_n dX6_keepTightPaths_52 rfl rfl ?_
          refine mm_getr dX6_keepTightPaths_53 rfl fl_X6_29 (c := 28) rfl (by decide) rfl rfl (hRN.at (c := 28) (i := 7) (v := 35) rfl (by decide)) ?_
          refine mm_iload_n dX6_keepTightPaths_56 rfl rfl ?_
          refine mm_ialk (k0 := p) dX6_keepTightPaths_57 rfl (c := 34) rfl (by decide) rfl (by omega) (by omega) ?_
          refine mm_i2l dX6_keepTightPaths_58 rfl (by omega) ?_
          refine mm_aload_n dX6_keepTightPaths_59 rfl rfl ?_
          refine mm_get (kd := 1) dX6_keepTightPaths_60 rfl fl_X6_82 (c := 28) rfl (by decide) rfl rfl ?_
          refine mm_lmul dX6_keepTightPaths_63 rfl ?_
          rw [k17, ← hw]
          refine mm_ladd dX6_keepTightPaths_64 rfl ?_
          refine mm_lstore dX6_keepTightPaths_65 rfl (Nat.le_of_ble_eq_true rfl) rfl ?_
          refine mm_lload dX6_keepTightPaths_67 rfl rfl ?_
          refine mm_aload_n dX6_keepTightPaths_69 rfl rfl ?_
          refine mm_getr dX6_keepTightPaths_70 rfl fl_X6_35 (c := 28) rfl (by decide) rfl rfl (hRN.at (c := 28) (i := 9) (v := 37) rfl (by decide)) ?_
          refine mm_aload_n dX6_keepTightPaths_73 rfl rfl ?_
          refine mm_getr dX6_keepTightPaths_74 rfl fl_X6_26 (c := 28) rfl (by decide) rfl rfl (hRN.at (c := 28) (i := 6) (v := 34) rfl (by decide)) ?_
          refine mm_iload_n dX6_keepTightPaths_77 rfl rfl ?_
          refine mm_ialk (k0 := p) dX6_keepTightPaths_78 rfl (c := 33) rfl (by decide) rfl (by omega) (by omega) ?_
          rw [k33]
          refine mm_lalk (k0 := v) dX6_keepTightPaths_79 rfl (c := 36) rfl (by decide) rfl (by omega) (by omega) ?_
          rw [e36]
          refine mm_lcmp dX6_keepTightPaths_80 rfl (by omega) (by omega) ?_
          refine mm_ifnec dX6_keepTightPaths_81 (fun h81 => ?_) (fun h81 => ?_)
          · refine mm_iinc dX6_keepTightPaths_123 rfl rfl (Nat.le_of_ble_eq_true rfl) rfl ?_
            refine mm_goto dX6_keepTightPaths_126 ?_
            exact mm_drop (by repeat (first | exact trivial | refine And.intro (Or.inl rfl) ?_ | refine And.intro (Or.inr rfl) ?_)) go
          · exfalso; omega
    · have ep : p = e1 := by omega
      subst ep
      have full : kt_o M N n S C s c0 c 4320 := by
        refine ⟨g7.1, fun x x1 x2 => ?_, fun p' v _ h2 => ?_⟩
        · obtain ⟨p', v, z1, z2⟩ := g7.2.1 x x1 x2
          exact ⟨p', v, by omega, z2⟩
        · exact g7.2.2 p' v (by have := h2.1.2.2.2.2.1; omega) h2
      have go := out N c hU (by omega) g4 g5 (fun u hu => by
        by_cases cu : u = s
        · rw [cu]
          exact ⟨c0, c, g3, fun _ => rfl, fun z => absurd z (by omega), Nat.le_refl _, full⟩
        · obtain ⟨d0, d1, z1, z2, z3, z4⟩ := g6 u (by omega)
          exact ⟨d0, d1, z1, fun z => absurd z (by omega), fun _ => z2, by omega, z4⟩)
      refine mm_iload_n dX6_keepTightPaths_29 rfl rfl ?_
      refine mm_aload_n dX6_keepTightPaths_30 rfl rfl ?_
      refine mm_getr dX6_keepTightPaths_31 rfl fl_X6_20 (c := 28) rfl (by decide) rfl rfl (hRN.at (c := 28) (i := 4) (v := 32) rfl (by decide)) ?_
      refine mm_iload_n dX6_keepTightPaths_34 rfl rfl ?_
      refine mm_iconst dX6_keepTightPaths_35 rfl ?_
      refine mm_iadd dX6_keepTightPaths_36 rfl ?_
      refine mm_ialk (k0 := s + 1) dX6_keepTightPaths_37 rfl (c := 31) rfl (by decide) rfl (by omega) (by omega) ?_
      rw [k1]
      refine mm_icge dX6_keepTightPaths_38 (by omega) (by omega) (fun h38 => ?_) (fun h38 => ?_)
      · exact mm_drop (by repeat (first | exact trivial | refine And.intro (Or.inl rfl) ?_ | refine And.intro (Or.inr rfl) ?_)) go
      · exfalso; omega
  have loop : ∀ s : Nat, s ≤ n → ∀ N (c : Nat), kt_U M N → (c : Int) ≤ M 31 s → (∀ u, s ≤ u → u ≤ n → N 31 u = M 31 u) → (∀ x, c ≤ x → N 33 x = M 33 x ∧ N 34 x = M 34 x ∧ N 35 x = M 35 x) → (∀ u, u < s → ∃ d0 d1 : Nat, N 31 u = (d0 : Int) ∧ (u + 1 = s → d1 = c) ∧ (u + 1 < s → N 31 (u + 1) = (d1 : Int)) ∧ d1 ≤ c ∧ kt_o M N n S C u d0 d1 4320) →
      mm_J X Y_X6_keepTightPaths 243 243 243 4 [(2, 29), (0, (c : Int)), (0, (s : Int)), (9, 0), (9, 0), (9, 0)] [] N Φ := by
    refine mm_lp ?_
    intro s hs ih N c hU g1 g2 g3 g4
    have hRN := hU.1
    have est : N 3 2 = (n : Int) := by rw [hU.2 3 (by decide) (by decide) (by decide) (by decide)]; exact hn
    by_cases hlt : s < n
    · obtain ⟨e0, e1, b1, b2, b3, b4, b5⟩ := hG s hlt
      have k0 : N 31 s = (e0 : Int) := by rw [g2 s (Nat.le_refl s) (by omega)]; exact b1
      have back : ∀ P (c : Nat), kt_U M P → c ≤ e1 → (∀ u, s < u → u ≤ n → P 31 u = M 31 u) → (∀ x, c ≤ x → P 33 x = M 33 x ∧ P 34 x = M 34 x ∧ P 35 x = M 35 x) → (∀ u, u < s + 1 → ∃ d0 d1 : Nat, P 31 u = (d0 : Int) ∧ (u + 1 = s + 1 → d1 = c) ∧ (u + 1 < s + 1 → P 31 (u + 1) = (d1 : Int)) ∧ d1 ≤ c ∧ kt_o M P n S C u d0 d1 4320) → mm_J X Y_X6_keepTightPaths 243 243 243 129 [(2, 29), (0, (c : Int)), (0, (s : Int)), (9, 0), (9, 0), (9, 0)] [] P Φ := by
        intro P c hP z1 z2 z3 z4
        have hRP := hP.1
        have go := ih hlt P c hP (by omega) (fun u u1 u2 => z2 u (by omega) u2) z3 z4
        rw [show ((s + 1 : Nat) : Int) = (s : Int) + 1 by omega] at go
        refine mm_iinc dX6_keepTightPaths_129 rfl rfl (Nat.le_of_ble_eq_true rfl) rfl ?_
        refine mm_goto dX6_keepTightPaths_132 ?_
        exact go
      have go : ∀ P, mm_Rf P → P = mm_up N 31 s (c : Int) → mm_J X Y_X6_keepTightPaths 243 243 243 29 [(2, 29), (0, (c : Int)), (0, (s : Int)), (0, (e0 : Int)), (9, 0), (9, 0)] [] P Φ := by
        intro P hRP hP
        have r : ∀ a, a ≠ 31 → P a = N a := fun a ha => by rw [hP, mm_up_row ha]
        refine inner s hlt c e0 e1 b1 b2 b4 back e0 b3 P c ⟨hRP, fun a a1 a2 a3 a4 => by rw [r a a1]; exact hU.2 a a1 a2 a3 a4⟩ (Nat.le_refl _) (Nat.le_refl _) (by omega) (by rw [hP, mm_up_s]) (fun u u1 u2 => by rw [hP, mm_up_i (by omega)]; exact g2 u (by omega) u2) (fun x hx => by rw [r 33 (by decide), r 34 (by decide), r 35 (by decide)]; exact g3 x hx) (fun u hu => ?_) ⟨Nat.le_refl _, fun x x1 x2 => absurd x2 (by omega), fun p' v h1 h2 => absurd h1 (by have := h2.1.2.2.2.1; omega)⟩
        obtain ⟨d0, d1, z1, z2, z3, z4, z5⟩ := g4 u hu
        have z6 : kt_o M P n S C u d0 d1 4320 := z5.fr (fun x _ => by rw [r 33 (by decide), r 34 (by decide), r 35 (by decide)]; exact ⟨rfl, rfl, rfl⟩)
        by_cases cu : u + 1 = s
        · exact ⟨d0, d1, by rw [hP, mm_up_i (by omega)]; exact z1, by rw [cu, hP, mm_up_s, z2 cu], z4, z6⟩
        · exact ⟨d0, d1, by rw [hP, mm_up_i (by omega)]; exact z1, by rw [hP, mm_up_i cu]; exact z3 (by omega), z4, z6⟩
      refine mm_iload_n dX6_keepTightPaths_4 rfl rfl ?_
      refine mm_aload_n dX6_keepTightPaths_5 rfl rfl ?_
      refine mm_getr dX6_keepTightPaths_6 rfl fl_X6_55 (c := 28) rfl (by decide) rfl rfl (hRN.at (c := 28) (i := 0) (v := 4) rfl (by decide)) ?_
      refine mm_get (kd := 0) dX6_keepTightPaths_9 rfl fl_X6_102 (c := 3) rfl (by decide) rfl rfl ?_
      rw [est]
      refine mm_icge dX6_keepTightPaths_12 (by omega) (by omega) (fun h12 => ?_) (fun h12 => ?_)
      · exfalso; omega
      · refine mm_aload_n dX6_keepTightPaths_15 rfl rfl ?_
        refine mm_getr dX6_keepTightPaths_16 rfl fl_X6_20 (c := 28) rfl (by decide) rfl rfl (hRN.at (c := 28) (i := 4) (v := 32) rfl (by decide)) ?_
        refine mm_iload_n dX6_keepTightPaths_19 rfl rfl ?_
        refine mm_ialk (k0 := s) dX6_keepTightPaths_20 rfl (c := 31) rfl (by decide) rfl (by omega) (by omega) ?_
        rw [k0]
        refine mm_istore_n dX6_keepTightPaths_21 rfl (Nat.le_of_ble_eq_true rfl) rfl ?_
        refine mm_aload_n dX6_keepTightPaths_22 rfl rfl ?_
        refine mm_getr dX6_keepTightPaths_23 rfl fl_X6_20 (c := 28) rfl (by decide) rfl rfl (hRN.at (c := 28) (i := 4) (v := 32) rfl (by decide)) ?_
        refine mm_iload_n dX6_keepTightPaths_26 rfl rfl ?_
        refine mm_iload_n dX6_keepTightPaths_27 rfl rfl ?_
        refine mm_istk (k0 := s) dX6_keepTightPaths_28 rfl (c := 31) rfl (by decide) rfl (by omega) (by omega) (fun M28 hM28 => ?_)
        have hR28 : mm_Rf M28 := by rw [hM28]; exact hRN.up (mm_rt_ar (t := 0) rfl (by decide))
        exact go _ hR28 hM28
    · have es : s = n := by omega
      subst es
      have cb : c ≤ 4320 := by
        obtain ⟨e0, e1, b1, b2, b3, b4, -⟩ := hG (s - 1) (by omega)
        rw [show s - 1 + 1 = s by omega] at b2
        omega
      refine mm_iload_n dX6_keepTightPaths_4 rfl rfl ?_
      refine mm_aload_n dX6_keepTightPaths_5 rfl rfl ?_
      refine mm_getr dX6_keepTightPaths_6 rfl fl_X6_55 (c := 28) rfl (by decide) rfl rfl (hRN.at (c := 28) (i := 0) (v := 4) rfl (by decide)) ?_
      refine mm_get (kd := 0) dX6_keepTightPaths_9 rfl fl_X6_102 (c := 3) rfl (by decide) rfl rfl ?_
      rw [est]
      refine mm_icge dX6_keepTightPaths_12 (by omega) (by omega) (fun h12 => ?_) (fun h12 => ?_)
      · refine mm_aload_n dX6_keepTightPaths_135 rfl rfl ?_
        refine mm_getr dX6_keepTightPaths_136 rfl fl_X6_20 (c := 28) rfl (by decide) rfl rfl (hRN.at (c := 28) (i := 4) (v := 32) rfl (by decide)) ?_
        refine mm_aload_n dX6_keepTightPaths_139 rfl rfl ?_
        refine mm_getr dX6_keepTightPaths_140 rfl fl_X6_55 (c := 28) rfl (by decide) rfl rfl (hRN.at (c := 28) (i := 0) (v := 4) rfl (by decide)) ?_
        refine mm_get (kd := 0) dX6_keepTightPaths_143 rfl fl_X6_102 (c := 3) rfl (by decide) rfl rfl ?_
        rw [est]
        refine mm_iload_n dX6_keepTightPaths_146 rfl rfl ?_
        refine mm_istk (k0 := s) dX6_keepTightPaths_147 rfl (c := 31) rfl (by decide) rfl (by omega) (by omega) (fun M147 hM147 => ?_)
        have hR147 : mm_Rf M147 := by rw [hM147]; exact hRN.up (mm_rt_ar (t := 0) rfl (by decide))
        refine mm_vret dX6_keepTightPaths_148 rfl rfl ?_
        rw [hΦ]; refine ⟨rfl, hR147, ⟨hR147, fun a a1 a2 a3 a4 => by rw [hM147, mm_up_row a1]; exact hU.2 a a1 a2 a3 a4⟩, fun u hu => ?_⟩
        obtain ⟨d0, d1, z1, z2, z3, z4, z5⟩ := g4 u hu
        have z6 : kt_o M M147 s S C u d0 d1 4320 := z5.fr (fun x _ => by rw [hM147, mm_up_row (by decide), mm_up_row (by decide), mm_up_row (by decide)]; exact ⟨rfl, rfl, rfl⟩)
        by_cases cu : u + 1 = s
        · exact ⟨d0, d1, by rw [hM147, mm_up_i (by omega)]; exact z1, by rw [cu, hM147, mm_up_s, z2 cu], by omega, z6⟩
        · exact ⟨d0, d1, by rw [hM147, mm_up_i (by omega)]; exact z1, by rw [hM147, mm_up_i cu]; exact z3 (by omega), by omega, z6⟩
      · exfalso; omega
  refine mm_start (ls := [(2, 29), (9, 0), (9, 0), (9, 0), (9, 0), (9, 0)]) rfl ?_
  refine mm_iconst dX6_keepTightPaths_0 rfl ?_
  refine mm_istore_n dX6_keepTightPaths_1 rfl (Nat.le_of_ble_eq_true rfl) rfl ?_
  refine mm_iconst dX6_keepTightPaths_2 rfl ?_
  refine mm_istore_n dX6_keepTightPaths_3 rfl (Nat.le_of_ble_eq_true rfl) rfl ?_
  exact loop 0 (Nat.zero_le _) M 0 ⟨hR, fun _ _ _ _ _ => rfl⟩ (by obtain ⟨c0, c1, q, -⟩ := hG 0 (by omega); omega) (fun _ _ _ => rfl) (fun _ _ => ⟨rfl, rfl, rfl⟩) (fun u hu => absurd hu (by omega))
end
end
/-! HL.short -/
section
/-! ===== KitePower$LoopFinder: shortestFrom ===== -/
/-- the kept paths as numbers that can be -/
def kU_G (N : mm_M) (n : Nat) : Prop := ∀ u, u < n → ∃ c0 c1 : Nat, N 31 u = (c0 : Int) ∧ N 31 (u + 1) = (c1 : Int) ∧ c0 ≤ c1 ∧ c1 ≤ 4320 ∧ ∀ x, c0 ≤ x → x < c1 → ∃ v : Nat, v < n ∧ N 33 x = (v : Int)
/-- a kept path leads from u to v -/
def kU_t (N : mm_M) (n u v : Nat) : Prop := u < n ∧ ∃ x : Nat, N 31 u ≤ (x : Int) ∧ (x : Int) < N 31 (u + 1) ∧ N 33 x = (v : Int)
/-- and v is not below b -/
def kU_b (N : mm_M) (n b u v : Nat) : Prop := kU_t N n u v ∧ b ≤ v
theorem kU_G.lt {N : mm_M} {n : Nat} (h : kU_G N n) {u v : Nat} (q : kU_t N n u v) : v < n := by
  obtain ⟨hu, x, x1, x2, x3⟩ := q
  obtain ⟨c0, c1, g1, g2, g3, g4, g5⟩ := h u hu
  obtain ⟨w, w1, w2⟩ := g5 x (by omega) (by omega)
  omega
/-- the layers, of what is far -/
def kU_y (N : mm_M) (n b : Nat) (f : Nat → Int) : Prop := ∀ v, v < n → N 40 v = (if v = b then 0 else if f v = 1000000 then -1 else f v)
/-- only queued states have a layer -/
def kU_q (N : mm_M) (n : Nat) : Prop := ∃ e : Nat, N 28 15 = (e : Int) ∧ e ≤ n ∧ (∀ i, i < e → ∃ v : Nat, v < n ∧ N 41 i = (v : Int)) ∧ ∀ v, v < n → N 40 v = -1 ∨ ∃ i, i < e ∧ N 41 i = (v : Int)
def kU_f (M N : mm_M) : Prop := mm_Rf N ∧ (∀ a, a ≠ 28 → a ≠ 40 → a ≠ 41 → N a = M a) ∧ ∀ b, b ≠ 15 → N 28 b = M 28 b
theorem kU_f.t {M N : mm_M} (h : kU_f M N) {n u v : Nat} : kU_t N n u v ↔ kU_t M n u v := by
  unfold kU_t
  rw [h.2.1 31 (by decide) (by decide) (by decide), h.2.1 33 (by decide) (by decide) (by decide)]
theorem kU_f.G {M N : mm_M} (h : kU_f M N) {n : Nat} (g : kU_G M n) : kU_G N n := by
  unfold kU_G at g ⊢
  rw [h.2.1 31 (by decide) (by decide) (by decide), h.2.1 33 (by decide) (by decide) (by decide)]
  exact g
/-- how the search stands -/
def kU_I (M N : mm_M) (n b k e : Nat) (f : Nat → Int) : Prop := kU_f M N ∧ N 28 15 = (e : Int) ∧ kU_y N n b f ∧ kQ_I (kU_b M n b) n b k e f (N 41)
theorem kU_y.d {N : mm_M} {n b v : Nat} {f : Nat → Int} (h : kU_y N n b f) (hv : v < n) (hf : v = b ∨ f v ≠ 1000000) : N 40 v = kQ_d b f v := by
  rw [h v hv]
  unfold kQ_d
  by_cases c : v = b
  · rw [if_pos c, if_pos c]
  · rw [if_neg c, if_neg c]
    rcases hf with q | q
    · exact absurd q c
    · rw [if_neg q]
theorem kU_I.q {M N : mm_M} {n b k e : Nat} {f : Nat → Int} (hb : b < n) (h : kU_I M N n b k e f) : kU_q N n := by
  obtain ⟨h1, h2, h3, h4⟩ := h
  refine ⟨e, h2, h4.en, fun i hi => ⟨_, (h4.qn i hi).2, (h4.qn i hi).1⟩, fun v hv => ?_⟩
  rw [h3 v hv]
  by_cases c : v = b
  · right
    have := h4.e1
    refine ⟨0, by omega, ?_⟩
    have := (h4.qn 0 (by omega)).1
    rw [h4.q0] at this
    rw [this, c]
  · rw [if_neg c]
    rcases h4.fv v hv with q | ⟨d, d1, d2, d3, d4, d5, i, i1, i2⟩
    · rw [if_pos q]; exact Or.inl rfl
    · right
      refine ⟨i, i1, ?_⟩
      have := (h4.qn i i1).1
      rw [i2] at this
      exact this
/-- what shortestFrom answers -/
def kU_A (M N : mm_M) (n b : Nat) (m x : Int) : Prop := kU_f M N ∧ kU_q N n ∧ ((x = -1 ∧ ∀ l : Nat, 1 ≤ l → (l : Int) < m → ¬ kd_D (kU_b M n b) b l b) ∨ ∃ l k e : Nat, ∃ f, x = (l : Int) ∧ 1 ≤ l ∧ (l : Int) < m ∧ l ≤ n ∧ kd_D (kU_b M n b) b l b ∧ (∀ l' : Nat, 1 ≤ l' → l' < l → ¬ kd_D (kU_b M n b) b l' b) ∧ kU_I M N n b k e f ∧ k < e ∧ kQ_d b f (N 41 k).toNat + 1 = (l : Int))
section
variable {X : mm_X} {M : mm_M} {n : Nat}
theorem c_X6_shortestFrom {b : Nat} {m : Int} (hR : mm_Rf M) (hG : kU_G M n) (hn2 : n ≤ 288) (hq : kU_q M n) (hb : b < n) (hm : 1 ≤ m ∧ m ≤ 100000) :
    mm_C X Y_X6_shortestFrom 243 243 [(2, 29), (0, (b : Int)), (0, m)] M (fun r M' => ∃ x, r = (0, x) ∧ mm_Rf M' ∧ kU_A M M' n b m x) := by
  obtain ⟨Φ, hΦ⟩ : ∃ Φ : mm_V → mm_M → Prop, Φ = (fun r M' => ∃ x, r = (0, x) ∧ mm_Rf M' ∧ kU_A M M' n b m x) := ⟨_, rfl⟩
  rw [← hΦ]
  have hN : ∀ u v, kU_b M n b u v → v < n := fun u v h => hG.lt h.1
  -- the paths of a state
  have l3 : ∀ k u c0 c1 : Nat, ∀ d : Int, u < n → M 31 u = (c0 : Int) → M 31 (u + 1) = (c1 : Int) → c1 ≤ 4320 → 0 ≤ d → d + 1 < m → d ≤ (k : Int) →
      (∀ N (e : Nat) f, kU_I M N n b (k + 1) e f → mm_J X Y_X6_shortestFrom 243 243 243 209 [(2, 29), (0, (b : Int)), (0, m), (0, (k : Int)), (9, 0), (9, 0), (9, 0)] [] N Φ) →
      ∀ x : Nat, x ≤ c1 → ∀ N (e : Nat) f, c0 ≤ x → kU_I M N n b k e f → k < e → (N 41 k).toNat = u → kQ_d b f u = d →
      (∀ y : Nat, c0 ≤ y → y < x → ∀ v : Nat, M 33 y = (v : Int) → b ≤ v → v ≠ b ∧ f v ≤ d + 1 ∧ f v < 1000000) →
      mm_J X Y_X6_shortestFrom 243 243 243 98 [(2, 29), (0, (b : Int)), (0, m), (0, (k : Int)), (0, (u : Int)), (0, (x : Int)), (9, 0)] [] N Φ := by
    intro k u c0 c1 d hu hc0 hc1 hc4 hd0 hdm hdk out
    refine mm_lp ?_
    intro x hx ih N e f hcx hI hke hqu hqd hw
    obtain ⟨hf, he, hy, hQ⟩ := id hI
    have hRN := hf.1
    have hen := hQ.en
    have e31 : N 31 = M 31 := hf.2.1 31 (by decide) (by decide) (by decide)
    have e33 : N 33 = M 33 := hf.2.1 33 (by decide) (by decide) (by decide)
    have k1 : N 31 (u + 1) = (c1 : Int) := by rw [e31]; exact hc1
    have ul : N 40 u = d := by
      rw [← hqd]
      refine hy.d hu ?_
      by_cases cu : u = b
      · exact Or.inl cu
      · right
        have := hQ.fq k (by
          by_cases k0 : k = 0
          · rw [k0, hQ.q0] at hqu; omega
          · omega) hke
        rw [hqu] at this
        omega
    by_cases hlt : x < c1
    · obtain ⟨a0, a1, g1, g2, g3, g4, g5⟩ := hG u hu
      obtain ⟨v, hv, hve⟩ := g5 x (by omega) (by omega)
      have hvN : N 33 x = (v : Int) := by rw [e33]; exact hve
      have htv : kU_t M n u v := ⟨hu, x, by omega, by omega, hve⟩
      by_cases hvb : v = b
      · obtain ⟨d', d1, d2⟩ := hQ.close hke (by rw [hqu, ← hvb]; exact ⟨htv, Nat.le_refl v⟩)
        rw [hqu, hqd] at d1
        have hno := hQ.none hN d' (Or.inr ⟨hke, by rw [hqu, hqd, d1]; exact Int.le_refl _⟩)
        refine mm_iload dX6_shortestFrom_98 rfl rfl ?_
        refine mm_aload_n dX6_shortestFrom_100 rfl rfl ?_
        refine mm_getr dX6_shortestFrom_101 rfl fl_X6_20 (c := 28) rfl (by decide) rfl rfl (hRN.at (c := 28) (i := 4) (v := 32) rfl (by decide)) ?_
        refine mm_iload dX6_shortestFrom_104 rfl rfl ?_
        refine mm_iconst dX6_shortestFrom_106 rfl ?_
        refine mm_iadd dX6_shortestFrom_107 rfl ?_
        refine mm_ialk (k0 := u + 1) dX6_shortestFrom_108 rfl (c := 31) rfl (by decide) rfl (by omega) (by omega) ?_
        rw [k1]
        refine mm_icge dX6_shortestFrom_109 (by omega) (by omega) (fun h109 => ?_) (fun h109 => ?_)
        · exfalso; omega
        · refine mm_aload_n dX6_shortestFrom_112 rfl rfl ?_
          refine mm_getr dX6_shortestFrom_113 rfl fl_X6_26 (c := 28) rfl (by decide) rfl rfl (hRN.at (c := 28) (i := 6) (v := 34) rfl (by decide)) ?_
          refine mm_iload dX6_shortestFrom_116 rfl rfl ?_
          refine mm_ialk (k0 := x) dX6_shortestFrom_118 rfl (c := 33) rfl (by decide) rfl (by omega) (by omega) ?_
          rw [hvN]
          refine mm_istore dX6_shortestFrom_119 rfl (Nat.le_of_ble_eq_true rfl) rfl ?_
          refine mm_iload dX6_shortestFrom_121 rfl rfl ?_
          refine mm_iload_n dX6_shortestFrom_123 rfl rfl ?_
          refine mm_icne dX6_shortestFrom_124 (by omega) (by omega) (fun h124 => ?_) (fun h124 => ?_)
          · exfalso; omega
          · refine mm_aload_n dX6_shortestFrom_127 rfl rfl ?_
            refine mm_getr dX6_shortestFrom_128 rfl fl_X6_49 (c := 28) rfl (by decide) rfl rfl (hRN.at (c := 28) (i := 13) (v := 41) rfl (by decide)) ?_
            refine mm_iload dX6_shortestFrom_131 rfl rfl ?_
            refine mm_ialk (k0 := u) dX6_shortestFrom_133 rfl (c := 40) rfl (by decide) rfl (by omega) (by omega) ?_
            rw [ul]
            refine mm_iconst dX6_shortestFrom_134 rfl ?_
            refine mm_iadd dX6_shortestFrom_135 rfl ?_
            refine mm_iret dX6_shortestFrom_136 rfl rfl ?_
            rw [hΦ]; exact ⟨_, rfl, hRN, hf, hI.q hb, Or.inr ⟨d' + 1, k, e, f, by omega, by omega, by omega, by omega, d2, fun l' a z => by
            have := hno (l' - 1) (by omega)
            rw [show l' - 1 + 1 = l' by omega] at this
            exact this, hI, hke, by rw [hqu, hqd]; omega⟩⟩
      · by_cases hbv : b < v
        · have hfv := hQ.fv v hv
          have hkb : kU_b M n b u v := ⟨htv, by omega⟩
          by_cases hf0 : f v = 1000000
          · obtain ⟨no, hroom⟩ := hQ.room hv hvb hf0
            have lv : N 40 v = -1 := by rw [hy v hv, if_neg hvb, if_pos hf0]
            refine mm_iload dX6_shortestFrom_98 rfl rfl ?_
            refine mm_aload_n dX6_shortestFrom_100 rfl rfl ?_
            refine mm_getr dX6_shortestFrom_101 rfl fl_X6_20 (c := 28) rfl (by decide) rfl rfl (hRN.at (c := 28) (i := 4) (v := 32) rfl (by decide)) ?_
            refine mm_iload dX6_shortestFrom_104 rfl rfl ?_
            refine mm_iconst dX6_shortestFrom_106 rfl ?_
            refine mm_iadd dX6_shortestFrom_107 rfl ?_
            refine mm_ialk (k0 := u + 1) dX6_shortestFrom_108 rfl (c := 31) rfl (by decide) rfl (by omega) (by omega) ?_
            rw [k1]
            refine mm_icge dX6_shortestFrom_109 (by omega) (by omega) (fun h109 => ?_) (fun h109 => ?_)
            · exfalso; omega
            · refine mm_aload_n dX6_shortestFrom_112 rfl rfl ?_
              refine mm_getr dX6_shortestFrom_113 rfl fl_X6_26 (c := 28) rfl (by decide) rfl rfl (hRN.at (c := 28) (i := 6) (v := 34) rfl (by decide)) ?_
              refine mm_iload dX6_shortestFrom_116 rfl rfl ?_
              refine mm_ialk (k0 := x) dX6_shortestFrom_118 rfl (c := 33) rfl (by decide) rfl (by omega) (by omega) ?_
              rw [hvN]
              refine mm_istore dX6_shortestFrom_119 rfl (Nat.le_of_ble_eq_true rfl) rfl ?_
              refine mm_iload dX6_shortestFrom_121 rfl rfl ?_
              refine mm_iload_n dX6_shortestFrom_123 rfl rfl ?_
              refine mm_icne dX6_shortestFrom_124 (by omega) (by omega) (fun h124 => ?_) (fun h124 => ?_)
              · refine mm_iload dX6_shortestFrom_137 rfl rfl ?_
                refine mm_iload_n dX6_shortestFrom_139 rfl rfl ?_
                refine mm_icle dX6_shortestFrom_140 (by omega) (by omega) (fun h140 => ?_) (fun h140 => ?_)
                · exfalso; omega
                · refine mm_aload_n dX6_shortestFrom_143 rfl rfl ?_
                  refine mm_getr dX6_shortestFrom_144 rfl fl_X6_49 (c := 28) rfl (by decide) rfl rfl (hRN.at (c := 28) (i := 13) (v := 41) rfl (by decide)) ?_
                  refine mm_iload dX6_shortestFrom_147 rfl rfl ?_
                  refine mm_ialk (k0 := v) dX6_shortestFrom_149 rfl (c := 40) rfl (by decide) rfl (by omega) (by omega) ?_
                  rw [lv]
                  refine mm_iconst dX6_shortestFrom_150 rfl ?_
                  refine mm_icne dX6_shortestFrom_151 (by omega) (by omega) (fun h151 => ?_) (fun h151 => ?_)
                  · exfalso; omega
                  · refine mm_aload_n dX6_shortestFrom_154 rfl rfl ?_
                    refine mm_get (kd := 0) dX6_shortestFrom_155 rfl fl_X6_99 (c := 28) rfl (by decide) rfl rfl ?_
                    rw [he]
                    refine mm_aload_n dX6_shortestFrom_158 rfl rfl ?_
                    refine mm_getr dX6_shortestFrom_159 rfl fl_X6_52 (c := 28) rfl (by decide) rfl rfl (hRN.at (c := 28) (i := 14) (v := 42) rfl (by decide)) ?_
                    refine mm_aln dX6_shortestFrom_162 rfl (c := 41) rfl (by decide) rfl ?_
                    refine mm_icge dX6_shortestFrom_163 (by omega) (by omega) (fun h163 => ?_) (fun h163 => ?_)
                    · exfalso; omega
                    · refine mm_aload_n dX6_shortestFrom_166 rfl rfl ?_
                      refine mm_getr dX6_shortestFrom_167 rfl fl_X6_49 (c := 28) rfl (by decide) rfl rfl (hRN.at (c := 28) (i := 13) (v := 41) rfl (by decide)) ?_
                      refine mm_iload dX6_shortestFrom_170 rfl rfl ?_
                      refine mm_aload_n dX6_shortestFrom_172 rfl rfl ?_
                      refine mm_getr dX6_shortestFrom_173 rfl fl_X6_49 (c := 28) rfl (by decide) rfl rfl (hRN.at (c := 28) (i := 13) (v := 41) rfl (by decide)) ?_
                      refine mm_iload dX6_shortestFrom_176 rfl rfl ?_
                      refine mm_ialk (k0 := u) dX6_shortestFrom_178 rfl (c := 40) rfl (by decide) rfl (by omega) (by omega) ?_
                      rw [ul]
                      refine mm_iconst dX6_shortestFrom_179 rfl ?_
                      refine mm_iadd dX6_shortestFrom_180 rfl ?_
                      refine mm_istk (k0 := v) dX6_shortestFrom_181 rfl (c := 40) rfl (by decide) rfl (by omega) (by omega) (fun M181 hM181 => ?_)
                      have hR181 : mm_Rf M181 := by rw [hM181]; exact hRN.up (mm_rt_ar (t := 0) rfl (by decide))
                      refine mm_aload_n dX6_shortestFrom_182 rfl rfl ?_
                      refine mm_getr dX6_shortestFrom_183 rfl fl_X6_52 (c := 28) rfl (by decide) rfl rfl (hR181.at (c := 28) (i := 14) (v := 42) rfl (by decide)) ?_
                      refine mm_aload_n dX6_shortestFrom_186 rfl rfl ?_
                      refine mm_get (kd := 0) dX6_shortestFrom_187 rfl fl_X6_99 (c := 28) rfl (by decide) rfl rfl ?_
                      rw [show M181 28 15 = (e : Int) by rw [hM181, mm_up_row (by decide), he]]
                      refine mm_iload dX6_shortestFrom_190 rfl rfl ?_
                      refine mm_istk (k0 := e) dX6_shortestFrom_192 rfl (c := 41) rfl (by decide) rfl (by omega) (by omega) (fun M192 hM192 => ?_)
                      have hR192 : mm_Rf M192 := by rw [hM192]; exact hR181.up (mm_rt_ar (t := 0) rfl (by decide))
                      refine mm_aload_n dX6_shortestFrom_193 rfl rfl ?_
                      refine mm_dup dX6_shortestFrom_194 rfl (by simp) ?_
                      refine mm_get (kd := 0) dX6_shortestFrom_195 rfl fl_X6_99 (c := 28) rfl (by decide) rfl rfl ?_
                      rw [show M192 28 15 = (e : Int) by rw [hM192, mm_up_row (by decide), hM181, mm_up_row (by decide), he]]
                      refine mm_iconst dX6_shortestFrom_198 rfl ?_
                      refine mm_iadd dX6_shortestFrom_199 rfl ?_
                      refine mm_puti dX6_shortestFrom_200 rfl fl_X6_99 (c := 28) rfl (by decide) rfl rfl (fun M200 hM200 => ?_)
                      have hR200 : mm_Rf M200 := by rw [hM200]; exact hR192.up rfl
                      refine mm_iinc dX6_shortestFrom_203 rfl rfl (Nat.le_of_ble_eq_true rfl) rfl ?_
                      refine mm_goto dX6_shortestFrom_206 ?_
                      obtain ⟨f', hf'⟩ : ∃ f' : Nat → Int, f' = (fun w => if w = v then d + 1 else f w) := ⟨_, rfl⟩
                      have f1 : f' v = d + 1 := by rw [hf']; exact if_pos rfl
                      have f2 : ∀ w, w ≠ v → f' w = f w := fun w hw => by rw [hf']; exact if_neg hw
                      have r41 : M200 41 e = (v : Int) := by rw [hM200, mm_up_row (by decide), hM192, mm_up_s]
                      have r41' : ∀ w, w ≠ e → M200 41 w = N 41 w := fun w hw => by rw [hM200, mm_up_row (by decide), hM192, mm_up_i hw, hM181, mm_up_row (by decide)]
                      have r40 : M200 40 v = d + 1 := by rw [hM200, mm_up_row (by decide), hM192, mm_up_row (by decide), hM181, mm_up_s]
                      have r40' : ∀ w, w ≠ v → M200 40 w = N 40 w := fun w hw => by rw [hM200, mm_up_row (by decide), hM192, mm_up_row (by decide), hM181, mm_up_i hw]
                      obtain ⟨p1, p2⟩ := hQ.push hke hv hvb hf0 (by omega) (by rw [hqu]; exact hkb) (by rw [f1, hqu, hqd]) f2 r41 r41'
                      have go := ih hlt M200 (e + 1) f' (by omega) ⟨⟨hR200, fun a a1 a2 a3 => by rw [hM200, mm_up_row a1, hM192, mm_up_row a3, hM181, mm_up_row a2]; exact hf.2.1 a a1 a2 a3, fun b b1 => by rw [hM200, mm_up_i b1, hM192, mm_up_row (by decide), hM181, mm_up_row (by decide)]; exact hf.2.2 b b1⟩, by rw [hM200, mm_up_s]; omega, fun w hw => by
                        by_cases c : w = v
                        · rw [c, r40, if_neg hvb, f1, if_neg (by omega)]
                        · rw [r40' w c, f2 w c]
                          exact hy w hw, p1⟩ (by omega) (by rw [r41' k (by omega)]; exact hqu) (by rw [hqu, hqd, r41' k (by omega), hqu] at p2; exact p2) (fun y y1 y2 w hyw hbw => by
                        by_cases cj : y = x
                        · have wv : w = v := by rw [cj, hve] at hyw; omega
                          rw [wv, f1]
                          exact ⟨hvb, Int.le_refl _, by omega⟩
                        · obtain ⟨z1, z2, z3⟩ := hw y y1 (by omega) w hyw hbw
                          have wv : w ≠ v := fun z => by rw [z, hf0] at z3; omega
                          rw [f2 w wv]
                          exact ⟨z1, z2, z3⟩)
                      rw [show ((x + 1 : Nat) : Int) = (x : Int) + 1 by omega] at go
                      exact mm_drop (by repeat (first | exact trivial | refine And.intro (Or.inl rfl) ?_ | refine And.intro (Or.inr rfl) ?_)) go
              · exfalso; omega
          · obtain ⟨dv, v1, v2, v3, v4, -, z, z1, z2⟩ : ∃ dv : Nat, f v = (dv : Int) ∧ 1 ≤ dv ∧ dv ≤ n ∧ v ≠ b ∧ kd_R (kU_b M n b) b dv v ∧ ∃ z, z < e ∧ (N 41 z).toNat = v := by
              rcases hfv with q | q
              · exact absurd q hf0
              · exact q
            have vle : f v ≤ d + 1 := by
              have := hQ.up hke z z1
              rw [z2, hqu, hqd] at this
              have e : kQ_d b f v = f v := by unfold kQ_d; rw [if_neg hvb]
              omega
            have lv : N 40 v = (dv : Int) := by rw [hy v hv, if_neg hvb, if_neg hf0, v1]
            have go := ih hlt N e f (by omega) hI hke hqu hqd (fun y y1 y2 w hyw hbw => by
              by_cases cj : y = x
              · have wv : w = v := by rw [cj, hve] at hyw; omega
                rw [wv]
                exact ⟨hvb, vle, by omega⟩
              · exact hw y y1 (by omega) w hyw hbw)
            rw [show ((x + 1 : Nat) : Int) = (x : Int) + 1 by omega] at go
            refine mm_iload dX6_shortestFrom_98 rfl rfl ?_
            refine mm_aload_n dX6_shortestFrom_100 rfl rfl ?_
            refine mm_getr dX6_shortestFrom_101 rfl fl_X6_20 (c := 28) rfl (by decide) rfl rfl (hRN.at (c := 28) (i := 4) (v := 32) rfl (by decide)) ?_
            refine mm_iload dX6_shortestFrom_104 rfl rfl ?_
            refine mm_iconst dX6_shortestFrom_106 rfl ?_
            refine mm_iadd dX6_shortestFrom_107 rfl ?_
            refine mm_ialk (k0 := u + 1) dX6_shortestFrom_108 rfl (c := 31) rfl (by decide) rfl (by omega) (by omega) ?_
            rw [k1]
            refine mm_icge dX6_shortestFrom_109 (by omega) (by omega) (fun h109 => ?_) (fun h109 => ?_)
            · exfalso; omega
            · refine mm_aload_n dX6_shortestFrom_112 rfl rfl ?_
              refine mm_getr dX6_shortestFrom_113 rfl fl_X6_26 (c := 28) rfl (by decide) rfl rfl (hRN.at (c := 28) (i := 6) (v := 34) rfl (by decide)) ?_
              refine mm_iload dX6_shortestFrom_116 rfl rfl ?_
              refine mm_ialk (k0 := x) dX6_shortestFrom_118 rfl (c := 33) rfl (by decide) rfl (by omega) (by omega) ?_
              rw [hvN]
              refine mm_istore dX6_shortestFrom_119 rfl (Nat.le_of_ble_eq_true rfl) rfl ?_
              refine mm_iload dX6_shortestFrom_121 rfl rfl ?_
              refine mm_iload_n dX6_shortestFrom_123 rfl rfl ?_
              refine mm_icne dX6_shortestFrom_124 (by omega) (by omega) (fun h124 => ?_) (fun h124 => ?_)
              · refine mm_iload dX6_shortestFrom_137 rfl rfl ?_
                refine mm_iload_n dX6_shortestFrom_139 rfl rfl ?_
                refine mm_icle dX6_shortestFrom_140 (by omega) (by omega) (fun h140 => ?_) (fun h140 => ?_)
                · exfalso; omega
                · refine mm_aload_n dX6_shortestFrom_143 rfl rfl ?_
                  refine mm_getr dX6_shortestFrom_144 rfl fl_X6_49 (c := 28) rfl (by decide) rfl rfl (hRN.at (c := 28) (i := 13) (v := 41) rfl (by decide)) ?_
                  refine mm_iload dX6_shortestFrom_147 rfl rfl ?_
                  refine mm_ialk (k0 := v) dX6_shortestFrom_149 rfl (c := 40) rfl (by decide) rfl (by omega) (by omega) ?_
                  rw [lv]
                  refine mm_iconst dX6_shortestFrom_150 rfl ?_
                  refine mm_icne dX6_shortestFrom_151 (by omega) (by omega) (fun h151 => ?_) (fun h151 => ?_)
                  · refine mm_iinc dX6_shortestFrom_203 rfl rfl (Nat.le_of_ble_eq_true rfl) rfl ?_
                    refine mm_goto dX6_shortestFrom_206 ?_
                    exact mm_drop (by repeat (first | exact trivial | refine And.intro (Or.inl rfl) ?_ | refine And.intro (Or.inr rfl) ?_)) go
                  · exfalso; omega
              · exfalso; omega
        · have go := ih hlt N e f (by omega) hI hke hqu hqd (fun y y1 y2 w hyw hbw => by
            by_cases cj : y = x
            · have wv : w = v := by rw [cj, hve] at hyw; omega
              omega
            · exact hw y y1 (by omega) w hyw hbw)
          rw [show ((x + 1 : Nat) : Int) = (x : Int) + 1 by omega] at go
          refine mm_iload dX6_shortestFrom_98 rfl rfl ?_
          refine mm_aload_n dX6_shortestFrom_100 rfl rfl ?_
          refine mm_getr dX6_shortestFrom_101 rfl fl_X6_20 (c := 28) rfl (by decide) rfl rfl (hRN.at (c := 28) (i := 4) (v := 32) rfl (by decide)) ?_
          refine mm_iload dX6_shortestFrom_104 rfl rfl ?_
          refine mm_iconst dX6_shortestFrom_106 rfl ?_
          refine mm_iadd dX6_shortestFrom_107 rfl ?_
          refine mm_ialk (k0 := u + 1) dX6_shortestFrom_108 rfl (c := 31) rfl (by decide) rfl (by omega) (by omega) ?_
          rw [k1]
          refine mm_icge dX6_shortestFrom_109 (by omega) (by omega) (fun h109 => ?_) (fun h109 => ?_)
          · exfalso; omega
          · refine mm_aload_n dX6_shortestFrom_112 rfl rfl ?_
            refine mm_getr dX6_shortestFrom_113 rfl fl_X6_26 (c := 28) rfl (by decide) rfl rfl (hRN.at (c := 28) (i := 6) (v := 34) rfl (by decide)) ?_
            refine mm_iload dX6_shortestFrom_116 rfl rfl ?_
            refine mm_ialk (k0 := x) dX6_shortestFrom_118 rfl (c := 33) rfl (by decide) rfl (by omega) (by omega) ?_
            rw [hvN]
            refine mm_istore dX6_shortestFrom_119 rfl (Nat.le_of_ble_eq_true rfl) rfl ?_
            refine mm_iload dX6_shortestFrom_121 rfl rfl ?_
            refine mm_iload_n dX6_shortestFrom_123 rfl rfl ?_
            refine mm_icne dX6_shortestFrom_124 (by omega) (by omega) (fun h124 => ?_) (fun h124 => ?_)
            · refine mm_iload dX6_shortestFrom_137 rfl rfl ?_
              refine mm_iload_n dX6_shortestFrom_139 rfl rfl ?_
              refine mm_icle dX6_shortestFrom_140 (by omega) (by omega) (fun h140 => ?_) (fun h140 => ?_)
              · refine mm_iinc dX6_shortestFrom_203 rfl rfl (Nat.le_of_ble_eq_true rfl) rfl ?_
                refine mm_goto dX6_shortestFrom_206 ?_
                exact mm_drop (by repeat (first | exact trivial | refine And.intro (Or.inl rfl) ?_ | refine And.intro (Or.inr rfl) ?_)) go
              · exfalso; omega
            · exfalso; omega
    · have ex : x = c1 := by omega
      subst ex
      have go := out N e f ⟨hf, he, hy, hQ.next hke (fun v hv => by
        rw [hqu] at hv ⊢
        rw [hqd]
        obtain ⟨⟨-, y, y1, y2, y3⟩, hbv⟩ := hv
        exact hw y (by omega) (by omega) v y3 hbv)⟩
      refine mm_iload dX6_shortestFrom_98 rfl rfl ?_
      refine mm_aload_n dX6_shortestFrom_100 rfl rfl ?_
      refine mm_getr dX6_shortestFrom_101 rfl fl_X6_20 (c := 28) rfl (by decide) rfl rfl (hRN.at (c := 28) (i := 4) (v := 32) rfl (by decide)) ?_
      refine mm_iload dX6_shortestFrom_104 rfl rfl ?_
      refine mm_iconst dX6_shortestFrom_106 rfl ?_
      refine mm_iadd dX6_shortestFrom_107 rfl ?_
      refine mm_ialk (k0 := u + 1) dX6_shortestFrom_108 rfl (c := 31) rfl (by decide) rfl (by omega) (by omega) ?_
      rw [k1]
      refine mm_icge dX6_shortestFrom_109 (by omega) (by omega) (fun h109 => ?_) (fun h109 => ?_)
      · exact mm_drop (by repeat (first | exact trivial | refine And.intro (Or.inl rfl) ?_ | refine And.intro (Or.inr rfl) ?_)) go
      · exfalso; omega
  -- the states of the queue
  have l2 : ∀ k : Nat, k ≤ n → ∀ N (e : Nat) f, kU_I M N n b k e f → mm_J X Y_X6_shortestFrom 243 243 243 49 [(2, 29), (0, (b : Int)), (0, m), (0, (k : Int)), (9, 0), (9, 0), (9, 0)] [] N Φ := by
    refine mm_lp ?_
    intro k hk ih N e f hI
    obtain ⟨hf, he, hy, hQ⟩ := id hI
    have hRN := hf.1
    have hen := hQ.en
    have hke := hQ.ke
    by_cases hlt : k < e
    · obtain ⟨u, hu⟩ : ∃ u, u = (N 41 k).toNat := ⟨_, rfl⟩
      have hqn := hQ.qn k hlt
      rw [← hu] at hqn
      obtain ⟨hqu, hun⟩ := hqn
      obtain ⟨d, hd⟩ : ∃ d, d = kQ_d b f u := ⟨_, rfl⟩
      have hd0 := hQ.dge hlt
      have hdk := hQ.di k hlt
      rw [← hu, ← hd] at hd0 hdk
      obtain ⟨c0, c1, g1, g2, g3, g4, -⟩ := hG u hun
      have ul : N 40 u = d := by
        rw [hd]
        refine hy.d hun ?_
        by_cases cu : u = b
        · exact Or.inl cu
        · right
          have := hQ.fq k (by
            by_cases k0 : k = 0
            · rw [k0, hQ.q0] at hu; omega
            · omega) hlt
          rw [← hu] at this
          omega
      have k0' : N 31 u = (c0 : Int) := by rw [hf.2.1 31 (by decide) (by decide) (by decide)]; exact g1
      have hno : m ≤ d + 1 → ∀ l : Nat, 1 ≤ l → (l : Int) < m → ¬ kd_D (kU_b M n b) b l b := by
        intro z l l1 l2
        have := hQ.none hN d.toNat (Or.inr ⟨hlt, by rw [← hu, ← hd]; omega⟩) (l - 1) (by omega)
        rw [show l - 1 + 1 = l by omega] at this
        exact this
      have b209 : ∀ P (e : Nat) f, kU_I M P n b (k + 1) e f → mm_J X Y_X6_shortestFrom 243 243 243 209 [(2, 29), (0, (b : Int)), (0, m), (0, (k : Int)), (9, 0), (9, 0), (9, 0)] [] P Φ := by
        intro P e f hP
        have hRP := hP.1.1
        have go := ih (by omega) P e f hP
        rw [show ((k + 1 : Nat) : Int) = (k : Int) + 1 by omega] at go
        refine mm_iinc dX6_shortestFrom_209 rfl rfl (Nat.le_of_ble_eq_true rfl) rfl ?_
        refine mm_goto dX6_shortestFrom_212 ?_
        exact go
      have go : d + 1 < m → mm_J X Y_X6_shortestFrom 243 243 243 98 [(2, 29), (0, (b : Int)), (0, m), (0, (k : Int)), (0, (u : Int)), (0, (c0 : Int)), (9, 0)] [] N Φ := fun z => l3 k u c0 c1 d hun g1 g2 g4 hd0 z hdk b209 c0 g3 N e f (Nat.le_refl _) hI hlt hu.symm hd.symm (fun y y1 y2 => absurd y2 (by omega))
      refine mm_iload_n dX6_shortestFrom_49 rfl rfl ?_
      refine mm_aload_n dX6_shortestFrom_50 rfl rfl ?_
      refine mm_get (kd := 0) dX6_shortestFrom_51 rfl fl_X6_99 (c := 28) rfl (by decide) rfl rfl ?_
      rw [he]
      refine mm_icge dX6_shortestFrom_54 (by omega) (by omega) (fun h54 => ?_) (fun h54 => ?_)
      · exfalso; omega
      · refine mm_iload_n dX6_shortestFrom_57 rfl rfl ?_
        refine mm_aload_n dX6_shortestFrom_58 rfl rfl ?_
        refine mm_getr dX6_shortestFrom_59 rfl fl_X6_52 (c := 28) rfl (by decide) rfl rfl (hRN.at (c := 28) (i := 14) (v := 42) rfl (by decide)) ?_
        refine mm_aln dX6_shortestFrom_62 rfl (c := 41) rfl (by decide) rfl ?_
        refine mm_icge dX6_shortestFrom_63 (by omega) (by omega) (fun h63 => ?_) (fun h63 => ?_)
        · exfalso; omega
        · refine mm_aload_n dX6_shortestFrom_66 rfl rfl ?_
          refine mm_getr dX6_shortestFrom_67 rfl fl_X6_52 (c := 28) rfl (by decide) rfl rfl (hRN.at (c := 28) (i := 14) (v := 42) rfl (by decide)) ?_
          refine mm_iload_n dX6_shortestFrom_70 rfl rfl ?_
          refine mm_ialk (k0 := k) dX6_shortestFrom_71 rfl (c := 41) rfl (by decide) rfl (by omega) (by omega) ?_
          rw [hqu]
          refine mm_istore dX6_shortestFrom_72 rfl (Nat.le_of_ble_eq_true rfl) rfl ?_
          refine mm_aload_n dX6_shortestFrom_74 rfl rfl ?_
          refine mm_getr dX6_shortestFrom_75 rfl fl_X6_49 (c := 28) rfl (by decide) rfl rfl (hRN.at (c := 28) (i := 13) (v := 41) rfl (by decide)) ?_
          refine mm_iload dX6_shortestFrom_78 rfl rfl ?_
          refine mm_ialk (k0 := u) dX6_shortestFrom_80 rfl (c := 40) rfl (by decide) rfl (by omega) (by omega) ?_
          rw [ul]
          refine mm_iconst dX6_shortestFrom_81 rfl ?_
          refine mm_iadd dX6_shortestFrom_82 rfl ?_
          refine mm_iload_n dX6_shortestFrom_83 rfl rfl ?_
          refine mm_iclt dX6_shortestFrom_84 (by omega) (by omega) (fun h84 => ?_) (fun h84 => ?_)
          · refine mm_aload_n dX6_shortestFrom_89 rfl rfl ?_
            refine mm_getr dX6_shortestFrom_90 rfl fl_X6_20 (c := 28) rfl (by decide) rfl rfl (hRN.at (c := 28) (i := 4) (v := 32) rfl (by decide)) ?_
            refine mm_iload dX6_shortestFrom_93 rfl rfl ?_
            refine mm_ialk (k0 := u) dX6_shortestFrom_95 rfl (c := 31) rfl (by decide) rfl (by omega) (by omega) ?_
            rw [k0']
            refine mm_istore dX6_shortestFrom_96 rfl (Nat.le_of_ble_eq_true rfl) rfl ?_
            exact go (by omega)
          · refine mm_iconst dX6_shortestFrom_87 rfl ?_
            refine mm_iret dX6_shortestFrom_88 rfl rfl ?_
            rw [hΦ]; exact ⟨_, rfl, hRN, hf, hI.q hb, Or.inl ⟨rfl, hno (by omega)⟩⟩
    · have ek : k = e := by omega
      have hno : ∀ l : Nat, 1 ≤ l → (l : Int) < m → ¬ kd_D (kU_b M n b) b l b := by
        intro l l1 l2
        have := hQ.none hN l (Or.inl ek) (l - 1) (by omega)
        rw [show l - 1 + 1 = l by omega] at this
        exact this
      refine mm_iload_n dX6_shortestFrom_49 rfl rfl ?_
      refine mm_aload_n dX6_shortestFrom_50 rfl rfl ?_
      refine mm_get (kd := 0) dX6_shortestFrom_51 rfl fl_X6_99 (c := 28) rfl (by decide) rfl rfl ?_
      rw [he]
      refine mm_icge dX6_shortestFrom_54 (by omega) (by omega) (fun h54 => ?_) (fun h54 => ?_)
      · refine mm_iconst dX6_shortestFrom_215 rfl ?_
        refine mm_iret dX6_shortestFrom_216 rfl rfl ?_
        rw [hΦ]; exact ⟨_, rfl, hRN, hf, hI.q hb, Or.inl ⟨rfl, hno⟩⟩
      · exfalso; omega
  -- what was told is forgotten
  obtain ⟨e0, q1, q2, q3, q4⟩ := hq
  have l1 : ∀ i : Nat, i ≤ e0 → ∀ N, kU_f M N → N 28 15 = (e0 : Int) → N 41 = M 41 → (∀ v, v < n → N 40 v = -1 ∨ ∃ j, i ≤ j ∧ j < e0 ∧ M 41 j = (v : Int)) → mm_J X Y_X6_shortestFrom 243 243 243 2 [(2, 29), (0, (b : Int)), (0, m), (0, (i : Int)), (9, 0), (9, 0), (9, 0)] [] N Φ := by
    refine mm_lp ?_
    intro i hi ih N hf he h41 hz
    have hRN := hf.1
    by_cases hlt : i < e0
    · obtain ⟨v, v1, v2⟩ := q3 i hlt
      have k41 : N 41 i = (v : Int) := by rw [h41]; exact v2
      refine mm_iload_n dX6_shortestFrom_2 rfl rfl ?_
      refine mm_aload_n dX6_shortestFrom_3 rfl rfl ?_
      refine mm_get (kd := 0) dX6_shortestFrom_4 rfl fl_X6_99 (c := 28) rfl (by decide) rfl rfl ?_
      rw [he]
      refine mm_icge dX6_shortestFrom_7 (by omega) (by omega) (fun h7 => ?_) (fun h7 => ?_)
      · exfalso; omega
      · refine mm_aload_n dX6_shortestFrom_10 rfl rfl ?_
        refine mm_getr dX6_shortestFrom_11 rfl fl_X6_49 (c := 28) rfl (by decide) rfl rfl (hRN.at (c := 28) (i := 13) (v := 41) rfl (by decide)) ?_
        refine mm_aload_n dX6_shortestFrom_14 rfl rfl ?_
        refine mm_getr dX6_shortestFrom_15 rfl fl_X6_52 (c := 28) rfl (by decide) rfl rfl (hRN.at (c := 28) (i := 14) (v := 42) rfl (by decide)) ?_
        refine mm_iload_n dX6_shortestFrom_18 rfl rfl ?_
        refine mm_ialk (k0 := i) dX6_shortestFrom_19 rfl (c := 41) rfl (by decide) rfl (by omega) (by omega) ?_
        rw [k41]
        refine mm_iconst dX6_shortestFrom_20 rfl ?_
        refine mm_istk (k0 := v) dX6_shortestFrom_21 rfl (c := 40) rfl (by decide) rfl (by omega) (by omega) (fun M21 hM21 => ?_)
        have hR21 : mm_Rf M21 := by rw [hM21]; exact hRN.up (mm_rt_ar (t := 0) rfl (by decide))
        refine mm_iinc dX6_shortestFrom_22 rfl rfl (Nat.le_of_ble_eq_true rfl) rfl ?_
        refine mm_goto dX6_shortestFrom_25 ?_
        have go := ih hlt M21 ⟨hR21, fun a a1 a2 a3 => by rw [hM21, mm_up_row a2]; exact hf.2.1 a a1 a2 a3, fun b b1 => by rw [hM21, mm_up_row (by decide)]; exact hf.2.2 b b1⟩ (by rw [hM21, mm_up_row (by decide)]; exact he) (by rw [hM21, mm_up_row (by decide)]; exact h41) (fun w hw => by
          by_cases c : w = v
          · rw [c, hM21, mm_up_s]; exact Or.inl rfl
          · rw [hM21, mm_up_i c]
            rcases hz w hw with y | ⟨j, j1, j2, j3⟩
            · exact Or.inl y
            · right
              refine ⟨j, ?_, j2, j3⟩
              by_cases cj : j = i
              · rw [cj, v2] at j3; omega
              · omega)
        rw [show ((i + 1 : Nat) : Int) = (i : Int) + 1 by omega] at go
        exact go
    · have ei : i = e0 := by omega
      subst ei
      have all : ∀ v, v < n → N 40 v = -1 := fun v hv => by
        rcases hz v hv with y | ⟨j, j1, j2, -⟩
        · exact y
        · omega
      refine mm_iload_n dX6_shortestFrom_2 rfl rfl ?_
      refine mm_aload_n dX6_shortestFrom_3 rfl rfl ?_
      refine mm_get (kd := 0) dX6_shortestFrom_4 rfl fl_X6_99 (c := 28) rfl (by decide) rfl rfl ?_
      rw [he]
      refine mm_icge dX6_shortestFrom_7 (by omega) (by omega) (fun h7 => ?_) (fun h7 => ?_)
      · refine mm_aload_n dX6_shortestFrom_28 rfl rfl ?_
        refine mm_getr dX6_shortestFrom_29 rfl fl_X6_49 (c := 28) rfl (by decide) rfl rfl (hRN.at (c := 28) (i := 13) (v := 41) rfl (by decide)) ?_
        refine mm_iload_n dX6_shortestFrom_32 rfl rfl ?_
        refine mm_iconst dX6_shortestFrom_33 rfl ?_
        refine mm_istk (k0 := b) dX6_shortestFrom_34 rfl (c := 40) rfl (by decide) rfl (by omega) (by omega) (fun M34 hM34 => ?_)
        have hR34 : mm_Rf M34 := by rw [hM34]; exact hRN.up (mm_rt_ar (t := 0) rfl (by decide))
        refine mm_aload_n dX6_shortestFrom_35 rfl rfl ?_
        refine mm_getr dX6_shortestFrom_36 rfl fl_X6_52 (c := 28) rfl (by decide) rfl rfl (hR34.at (c := 28) (i := 14) (v := 42) rfl (by decide)) ?_
        refine mm_iconst dX6_shortestFrom_39 rfl ?_
        refine mm_iload_n dX6_shortestFrom_40 rfl rfl ?_
        refine mm_istk (k0 := 0) dX6_shortestFrom_41 rfl (c := 41) rfl (by decide) rfl rfl (by decide) (fun M41 hM41 => ?_)
        have hR41 : mm_Rf M41 := by rw [hM41]; exact hR34.up (mm_rt_ar (t := 0) rfl (by decide))
        refine mm_aload_n dX6_shortestFrom_42 rfl rfl ?_
        refine mm_iconst dX6_shortestFrom_43 rfl ?_
        refine mm_puti dX6_shortestFrom_44 rfl fl_X6_99 (c := 28) rfl (by decide) rfl rfl (fun M44 hM44 => ?_)
        have hR44 : mm_Rf M44 := by rw [hM44]; exact hR41.up rfl
        refine mm_iconst dX6_shortestFrom_47 rfl ?_
        refine mm_istore_n dX6_shortestFrom_48 rfl (Nat.le_of_ble_eq_true rfl) rfl ?_
        refine l2 0 (Nat.zero_le _) M44 1 (fun _ => 1000000) ⟨⟨hR44, fun a a1 a2 a3 => by rw [hM44, mm_up_row a1, hM41, mm_up_row a3, hM34, mm_up_row a2]; exact hf.2.1 a a1 a2 a3, fun b b1 => by rw [hM44, mm_up_i b1, hM41, mm_up_row (by decide), hM34, mm_up_row (by decide)]; exact hf.2.2 b b1⟩, by rw [hM44, mm_up_s]; rfl, fun v hv => ?_, kQ_I.zero hb (fun _ _ => rfl) (by rw [hM44, mm_up_row (by decide), hM41, mm_up_s])⟩
        rw [hM44, mm_up_row (by decide), hM41, mm_up_row (by decide), hM34]
        by_cases c : v = b
        · rw [c, mm_up_s, if_pos rfl]
        · rw [mm_up_i c, if_neg c, if_pos rfl]
          exact all v hv
      · exfalso; omega
  refine mm_start (ls := [(2, 29), (0, (b : Int)), (0, m), (9, 0), (9, 0), (9, 0), (9, 0)]) rfl ?_
  refine mm_iconst dX6_shortestFrom_0 rfl ?_
  refine mm_istore_n dX6_shortestFrom_1 rfl (Nat.le_of_ble_eq_true rfl) rfl ?_
  exact l1 0 (Nat.zero_le _) M ⟨hR, fun _ _ _ _ => rfl, fun _ _ => rfl⟩ q1 rfl (fun v hv => by
  rcases q4 v hv with y | ⟨i, i1, i2⟩
  · exact Or.inl y
  · exact Or.inr ⟨i, Nat.zero_le _, i1, i2⟩)
end
end
/-! HM.back -/
section
/-! ===== KitePower$LoopFinder: goesOn, markWaysBack ===== -/
/-- as goesOn tells it -/
def kU_o (N : mm_M) (h : Nat) (layer start length : Int) : Prop := if layer = length then (h : Int) = start else N 40 h = layer ∧ N 39 h = 1
/-- so many steps are left on a round of l steps, one layer a step -/
def kU_g (t : Nat → Nat → Prop) (lay : Nat → Int) (b : Nat) (l : Int) : Nat → Nat → Prop
  | 0, v => v = b
  | r + 1, v => lay v = l - ((r + 1 : Nat) : Int) ∧ ∃ h, t v h ∧ kU_g t lay b l r h
theorem kU_g.D {t : Nat → Nat → Prop} {lay : Nat → Int} {b : Nat} {l : Int} : ∀ {r v : Nat}, kU_g t lay b l r v → kd_D t b r v
  | 0, _, h => h
  | _ + 1, _, ⟨_, h, h1, h2⟩ => ⟨h, h1, h2.D⟩
section
variable {X : mm_X} {M : mm_M} {n : Nat}
theorem c_X6_goesOn {h : Nat} {layer start length b : Int} (hR : mm_Rf M) (hh : h < 288) (h1 : mm_R layer) (h2 : mm_R start) (h3 : mm_R length) (h4 : mm_R (M 40 h)) (h5 : mm_R (M 39 h)) (hb : (b = 1 ∧ kU_o M h layer start length) ∨ (b = 0 ∧ ¬ kU_o M h layer start length)) :
    mm_Fn X Y_X6_goesOn 243 [(2, 29), (0, (h : Int)), (0, layer), (0, start), (0, length)] M (0, b) M := by
  refine mm_startF (ls := [(2, 29), (0, (h : Int)), (0, layer), (0, start), (0, length)]) rfl ?_
  unfold kU_o at hb
  by_cases c : layer = length
  · rw [if_pos c] at hb
    refine mm_iload_n dX6_goesOn_0 rfl rfl ?_
    refine mm_iload dX6_goesOn_1 rfl rfl ?_
    refine mm_icne dX6_goesOn_3 (by omega) (by omega) (fun h3 => ?_) (fun h3 => ?_)
    · exfalso; omega
    · refine mm_iload_n dX6_goesOn_6 rfl rfl ?_
      refine mm_iload_n dX6_goesOn_7 rfl rfl ?_
      refine mm_icne dX6_goesOn_8 (by omega) (by omega) (fun h8 => ?_) (fun h8 => ?_)
      · refine mm_iconst dX6_goesOn_15 rfl ?_
        refine mm_goto dX6_goesOn_16 ?_
        refine mm_zret dX6_goesOn_44 rfl rfl (Or.inl rfl) ?_
        exact mm_fin (by omega) rfl
      · refine mm_iconst dX6_goesOn_11 rfl ?_
        refine mm_goto dX6_goesOn_12 ?_
        refine mm_zret dX6_goesOn_44 rfl rfl (Or.inr rfl) ?_
        exact mm_fin (by omega) rfl
  · rw [if_neg c] at hb
    by_cases c1 : M 40 h = layer
    · by_cases c2 : M 39 h = 1
      · have b1 : b = 1 := by
          rcases hb with q | q
          · exact q.1
          · exact absurd ⟨c1, c2⟩ q.2
        refine mm_iload_n dX6_goesOn_0 rfl rfl ?_
        refine mm_iload dX6_goesOn_1 rfl rfl ?_
        refine mm_icne dX6_goesOn_3 (by omega) (by omega) (fun h3 => ?_) (fun h3 => ?_)
        · refine mm_aload_n dX6_goesOn_19 rfl rfl ?_
          refine mm_getr dX6_goesOn_20 rfl fl_X6_49 (c := 28) rfl (by decide) rfl rfl (hR.at (c := 28) (i := 13) (v := 41) rfl (by decide)) ?_
          refine mm_iload_n dX6_goesOn_23 rfl rfl ?_
          refine mm_ialk (k0 := h) dX6_goesOn_24 rfl (c := 40) rfl (by decide) rfl (by omega) (by omega) ?_
          refine mm_iload_n dX6_goesOn_25 rfl rfl ?_
          refine mm_icne dX6_goesOn_26 (by omega) (by omega) (fun h26 => ?_) (fun h26 => ?_)
          · exfalso; omega
          · refine mm_aload_n dX6_goesOn_29 rfl rfl ?_
            refine mm_getr dX6_goesOn_30 rfl fl_X6_46 (c := 28) rfl (by decide) rfl rfl (hR.at (c := 28) (i := 12) (v := 40) rfl (by decide)) ?_
            refine mm_iload_n dX6_goesOn_33 rfl rfl ?_
            refine mm_ialk (k0 := h) dX6_goesOn_34 rfl (c := 39) rfl (by decide) rfl (by omega) (by omega) ?_
            refine mm_iconst dX6_goesOn_35 rfl ?_
            refine mm_icne dX6_goesOn_36 (by omega) (by omega) (fun h36 => ?_) (fun h36 => ?_)
            · exfalso; omega
            · refine mm_iconst dX6_goesOn_39 rfl ?_
              refine mm_goto dX6_goesOn_40 ?_
              refine mm_zret dX6_goesOn_44 rfl rfl (Or.inr rfl) ?_
              exact mm_fin b1.symm rfl
        · exfalso; omega
      · have b0 : b = 0 := by
          rcases hb with q | q
          · exact absurd q.2.2 c2
          · exact q.1
        refine mm_iload_n dX6_goesOn_0 rfl rfl ?_
        refine mm_iload dX6_goesOn_1 rfl rfl ?_
        refine mm_icne dX6_goesOn_3 (by omega) (by omega) (fun h3 => ?_) (fun h3 => ?_)
        · refine mm_aload_n dX6_goesOn_19 rfl rfl ?_
          refine mm_getr dX6_goesOn_20 rfl fl_X6_49 (c := 28) rfl (by decide) rfl rfl (hR.at (c := 28) (i := 13) (v := 41) rfl (by decide)) ?_
          refine mm_iload_n dX6_goesOn_23 rfl rfl ?_
          refine mm_ialk (k0 := h) dX6_goesOn_24 rfl (c := 40) rfl (by decide) rfl (by omega) (by omega) ?_
          refine mm_iload_n dX6_goesOn_25 rfl rfl ?_
          refine mm_icne dX6_goesOn_26 (by omega) (by omega) (fun h26 => ?_) (fun h26 => ?_)
          · exfalso; omega
          · refine mm_aload_n dX6_goesOn_29 rfl rfl ?_
            refine mm_getr dX6_goesOn_30 rfl fl_X6_46 (c := 28) rfl (by decide) rfl rfl (hR.at (c := 28) (i := 12) (v := 40) rfl (by decide)) ?_
            refine mm_iload_n dX6_goesOn_33 rfl rfl ?_
            refine mm_ialk (k0 := h) dX6_goesOn_34 rfl (c := 39) rfl (by decide) rfl (by omega) (by omega) ?_
            refine mm_iconst dX6_goesOn_35 rfl ?_
            refine mm_icne dX6_goesOn_36 (by omega) (by omega) (fun h36 => ?_) (fun h36 => ?_)
            · refine mm_iconst dX6_goesOn_43 rfl ?_
              refine mm_zret dX6_goesOn_44 rfl rfl (Or.inl rfl) ?_
              exact mm_fin b0.symm rfl
            · exfalso; omega
        · exfalso; omega
    · have b0 : b = 0 := by
        rcases hb with q | q
        · exact absurd q.2.1 c1
        · exact q.1
      refine mm_iload_n dX6_goesOn_0 rfl rfl ?_
      refine mm_iload dX6_goesOn_1 rfl rfl ?_
      refine mm_icne dX6_goesOn_3 (by omega) (by omega) (fun h3 => ?_) (fun h3 => ?_)
      · refine mm_aload_n dX6_goesOn_19 rfl rfl ?_
        refine mm_getr dX6_goesOn_20 rfl fl_X6_49 (c := 28) rfl (by decide) rfl rfl (hR.at (c := 28) (i := 13) (v := 41) rfl (by decide)) ?_
        refine mm_iload_n dX6_goesOn_23 rfl rfl ?_
        refine mm_ialk (k0 := h) dX6_goesOn_24 rfl (c := 40) rfl (by decide) rfl (by omega) (by omega) ?_
        refine mm_iload_n dX6_goesOn_25 rfl rfl ?_
        refine mm_icne dX6_goesOn_26 (by omega) (by omega) (fun h26 => ?_) (fun h26 => ?_)
        · refine mm_iconst dX6_goesOn_43 rfl ?_
          refine mm_zret dX6_goesOn_44 rfl rfl (Or.inl rfl) ?_
          exact mm_fin b0.symm rfl
        · exfalso; omega
      · exfalso; omega
/-- the marks: from where the round is closed in what is left -/
def kU_m (M N : mm_M) (n b : Nat) (l : Int) (v : Nat) : Prop := (N 39 v = 1 ∧ ∃ r : Nat, 1 ≤ r ∧ (r : Int) ≤ l ∧ kU_g (kU_t M n) (M 40) b l r v) ∨ (N 39 v = 0 ∧ ¬ ∃ r : Nat, 1 ≤ r ∧ (r : Int) ≤ l ∧ kU_g (kU_t M n) (M 40) b l r v)
theorem kU_m.go {M N : mm_M} {b h : Nat} {l j : Int} (hm : kU_m M N n b l h) (h40 : N 40 h = M 40 h) (hl : M 40 h ≤ l) (hj : 0 ≤ j) : kU_o N h (j + 1) (b : Int) l ↔ (j + 1 ≤ l ∧ kU_g (kU_t M n) (M 40) b l (l - j - 1).toNat h) := by
  unfold kU_o
  by_cases c : j + 1 = l
  · rw [if_pos c]
    have e : (l - j - 1).toNat = 0 := by omega
    rw [e]
    constructor
    · intro q
      exact ⟨by omega, by show h = b; omega⟩
    · rintro ⟨-, q⟩
      have q : h = b := q
      omega
  · rw [if_neg c, h40]
    constructor
    · rintro ⟨q1, q2⟩
      rcases hm with ⟨-, r, r1, r2, r3⟩ | ⟨z, -⟩
      · have e : (l - j - 1).toNat = r := by
          obtain ⟨r', rfl⟩ : ∃ r', r = r' + 1 := ⟨r - 1, by omega⟩
          have := r3.1
          omega
        rw [e]
        exact ⟨by omega, r3⟩
      · omega
    · rintro ⟨q1, q2⟩
      obtain ⟨r, hr⟩ : ∃ r, (l - j - 1).toNat = r + 1 := ⟨(l - j - 1).toNat - 1, by omega⟩
      rw [hr] at q2
      have e := q2.1
      refine ⟨by omega, ?_⟩
      rcases hm with ⟨z, -⟩ | ⟨-, z⟩
      · exact z
      · exact absurd ⟨r + 1, by omega, by omega, q2⟩ z
theorem c_X6_markWaysBack {M0 : mm_M} {b k e : Nat} {l : Int} {f : Nat → Int} (hR : mm_Rf M) (hG : kU_G M n) (hn2 : n ≤ 288) (hb : b < n) (hI : kU_I M0 M n b k e f) (hk : k < e) (hl : kQ_d b f (M 41 k).toNat + 1 = l) :
    mm_C X Y_X6_markWaysBack 243 243 [(2, 29), (0, (b : Int)), (0, l)] M (fun r M' => r = (3, 0) ∧ mm_Rf M' ∧ (∀ a, a ≠ 39 → M' a = M a) ∧ ∀ v, v < n → kU_m M M' n b l v) := by
  obtain ⟨Φ, hΦ⟩ : ∃ Φ : mm_V → mm_M → Prop, Φ = (fun r M' => r = (3, 0) ∧ mm_Rf M' ∧ (∀ a, a ≠ 39 → M' a = M a) ∧ ∀ v, v < n → kU_m M M' n b l v) := ⟨_, rfl⟩
  rw [← hΦ]
  obtain ⟨hf, he, hy, hQ⟩ := id hI
  have hen := hQ.en
  -- the layers of the queue
  have lq : ∀ i, i < e → M 40 (M 41 i).toNat = kQ_d b f (M 41 i).toNat := by
    intro i hi
    refine hy.d (hQ.qn i hi).2 ?_
    by_cases i0 : i = 0
    · rw [i0]; exact Or.inl hQ.q0
    · right
      have := hQ.fq i (by omega) hi
      omega
  have lb : ∀ i, i < e → 0 ≤ M 40 (M 41 i).toNat ∧ M 40 (M 41 i).toNat ≤ l := by
    intro i hi
    rw [lq i hi]
    have := hQ.up hk i hi
    exact ⟨hQ.dge hi, by omega⟩
  have lall : ∀ v, v < n → -1 ≤ M 40 v ∧ M 40 v ≤ l := by
    intro v hv
    obtain ⟨e', e1, e2, e3, e4⟩ := hI.q hb
    have ee : e' = e := by omega
    rcases e4 v hv with q | ⟨i, i1, i2⟩
    · have := lb 0 (by omega); omega
    · have := lb i (by omega)
      rw [i2, show ((v : Int)).toNat = v by omega] at this
      omega
  have hlb : 1 ≤ l ∧ l ≤ 1000 := by
    have a := hQ.dge hk
    have c := hQ.di k hk
    omega
  have later : ∀ i v, i < e → v < n → M 40 v = M 40 (M 41 i).toNat + 1 → ∃ i', i < i' ∧ i' < e ∧ (M 41 i').toNat = v := by
    intro i v hi hv h
    obtain ⟨e', e1, e2, e3, e4⟩ := hI.q hb
    have ee : e' = e := by omega
    have l0 := lb i hi
    rcases e4 v hv with q | ⟨i', i1, i2⟩
    · omega
    · refine ⟨i', ?_, by omega, by rw [i2]; omega⟩
      by_cases c : i < i'
      · exact c
      · exfalso
        have ev : (M 41 i').toNat = v := by rw [i2]; omega
        by_cases c2 : i' = i
        · rw [c2] at ev; rw [ev] at h; omega
        · have := hQ.so i' i (by omega) hi
          rw [← lq i' (by omega), ← lq i hi, ev] at this
          omega
  -- the paths of a state
  have inner : ∀ i v c0 c1 : Nat, i < e → M 41 i = (v : Int) → v < n → M 31 v = (c0 : Int) → M 31 (v + 1) = (c1 : Int) → c1 ≤ 4320 →
      ∀ N0 : mm_M, (∀ a, a ≠ 39 → N0 a = M a) → (∀ i', i < i' → i' < e → kU_m M N0 n b l (M 41 i').toNat) → (∀ w, w < n → N0 39 w = 0 ∨ N0 39 w = 1) → N0 39 v = 0 →
      (∀ N, mm_Rf N → (∀ a, a ≠ 39 → N a = M a) → (∀ w, w ≠ v → N 39 w = N0 39 w) → kU_m M N n b l v → mm_J X Y_X6_markWaysBack 243 243 243 89 [(2, 29), (0, (b : Int)), (0, l), (0, (i : Int)), (9, 0), (9, 0)] [] N Φ) →
      ∀ x : Nat, x ≤ c1 → ∀ N, mm_Rf N → c0 ≤ x → (∀ a, a ≠ 39 → N a = M a) → (∀ w, w ≠ v → N 39 w = N0 39 w) → ((N 39 v = 0 ∧ ∀ y h : Nat, c0 ≤ y → y < x → M 33 y = (h : Int) → ¬ (M 40 v + 1 ≤ l ∧ kU_g (kU_t M n) (M 40) b l (l - M 40 v - 1).toNat h)) ∨ (N 39 v = 1 ∧ ∃ y h : Nat, c0 ≤ y ∧ y < c1 ∧ M 33 y = (h : Int) ∧ M 40 v + 1 ≤ l ∧ kU_g (kU_t M n) (M 40) b l (l - M 40 v - 1).toNat h)) →
      mm_J X Y_X6_markWaysBack 243 243 243 36 [(2, 29), (0, (b : Int)), (0, l), (0, (i : Int)), (0, (v : Int)), (0, (x : Int))] [] N Φ := by
    intro i v c0 c1 hi hv hvn hc0 hc1 hc4 N0 f0 m0 z0 zv out
    have lv := lb i hi
    have ev : (M 41 i).toNat = v := by rw [hv]; omega
    rw [ev] at lv
    refine mm_lp ?_
    intro x hx ih N hRN hcx hf hw hs
    have e31 : N 31 = M 31 := hf 31 (by decide)
    have e33 : N 33 = M 33 := hf 33 (by decide)
    have e40 : N 40 = M 40 := hf 40 (by decide)
    have k1 : N 31 (v + 1) = (c1 : Int) := by rw [e31]; exact hc1
    by_cases hlt : x < c1
    · obtain ⟨a0, a1, g1, g2, g3, g4, g5⟩ := hG v hvn
      obtain ⟨h, hh, hhe⟩ := g5 x (by omega) (by omega)
      have k33 : N 33 x = (h : Int) := by rw [e33]; exact hhe
      have k40 : N 40 v = M 40 v := by rw [e40]
      have lh := lall h hh
      have nh : N 39 h = 0 ∨ N 39 h = 1 := by
        by_cases c : h = v
        · rw [c]
          rcases hs with q | q
          · exact Or.inl q.1
          · exact Or.inr q.1
        · rw [hw h c]; exact z0 h hh
      have dec : kU_o N h (M 40 v + 1) (b : Int) l ↔ (M 40 v + 1 ≤ l ∧ kU_g (kU_t M n) (M 40) b l (l - M 40 v - 1).toNat h) := by
        by_cases c : M 40 h = M 40 v + 1
        · obtain ⟨i', i1, i2, i3⟩ := later i h hi hh (by rw [ev]; exact c)
          have mm := m0 i' i1 i2
          rw [i3] at mm
          have hv2 : h ≠ v := fun q => by rw [q] at c; omega
          have mN : kU_m M N n b l h := by unfold kU_m at mm ⊢; rw [hw h hv2]; exact mm
          exact mN.go (by rw [e40]) lh.2 lv.1
        · unfold kU_o
          by_cases c2 : M 40 v + 1 = l
          · rw [if_pos c2]
            have e : (l - M 40 v - 1).toNat = 0 := by omega
            rw [e]
            constructor
            · intro q
              exact ⟨by omega, by show h = b; omega⟩
            · rintro ⟨-, q⟩
              have q : h = b := q
              omega
          · rw [if_neg c2, e40]
            constructor
            · rintro ⟨q, -⟩; exact absurd q c
            · rintro ⟨q1, q2⟩
              obtain ⟨r, hr⟩ : ∃ r, (l - M 40 v - 1).toNat = r + 1 := ⟨(l - M 40 v - 1).toNat - 1, by omega⟩
              rw [hr] at q2
              have := q2.1
              omega
      have cg := fun z hz => c_X6_goesOn (X := X) (M := N) (h := h) (layer := M 40 v + 1) (start := (b : Int)) (length := l) (b := z) hRN (by omega) (by unfold mm_R; omega) (by unfold mm_R; omega) (by unfold mm_R; omega) (by rw [e40]; unfold mm_R; omega) (by unfold mm_R; omega) hz
      by_cases ho : kU_o N h (M 40 v + 1) (b : Int) l
      · have c1' := cg 1 (Or.inl ⟨rfl, ho⟩)
        obtain ⟨o1, o2⟩ := dec.mp ho
        refine mm_iload dX6_markWaysBack_36 rfl rfl ?_
        refine mm_aload_n dX6_markWaysBack_38 rfl rfl ?_
        refine mm_getr dX6_markWaysBack_39 rfl fl_X6_20 (c := 28) rfl (by decide) rfl rfl (hRN.at (c := 28) (i := 4) (v := 32) rfl (by decide)) ?_
        refine mm_iload dX6_markWaysBack_42 rfl rfl ?_
        refine mm_iconst dX6_markWaysBack_44 rfl ?_
        refine mm_iadd dX6_markWaysBack_45 rfl ?_
        refine mm_ialk (k0 := v + 1) dX6_markWaysBack_46 rfl (c := 31) rfl (by decide) rfl (by omega) (by omega) ?_
        rw [k1]
        refine mm_icge dX6_markWaysBack_47 (by omega) (by omega) (fun h47 => ?_) (fun h47 => ?_)
        · exfalso; omega
        · refine mm_aload_n dX6_markWaysBack_50 rfl rfl ?_
          refine mm_aload_n dX6_markWaysBack_51 rfl rfl ?_
          refine mm_getr dX6_markWaysBack_52 rfl fl_X6_26 (c := 28) rfl (by decide) rfl rfl (hRN.at (c := 28) (i := 6) (v := 34) rfl (by decide)) ?_
          refine mm_iload dX6_markWaysBack_55 rfl rfl ?_
          refine mm_ialk (k0 := x) dX6_markWaysBack_57 rfl (c := 33) rfl (by decide) rfl (by omega) (by omega) ?_
          rw [k33]
          refine mm_aload_n dX6_markWaysBack_58 rfl rfl ?_
          refine mm_getr dX6_markWaysBack_59 rfl fl_X6_49 (c := 28) rfl (by decide) rfl rfl (hRN.at (c := 28) (i := 13) (v := 41) rfl (by decide)) ?_
          refine mm_iload dX6_markWaysBack_62 rfl rfl ?_
          refine mm_ialk (k0 := v) dX6_markWaysBack_64 rfl (c := 40) rfl (by decide) rfl (by omega) (by omega) ?_
          rw [k40]
          refine mm_iconst dX6_markWaysBack_65 rfl ?_
          refine mm_iadd dX6_markWaysBack_66 rfl ?_
          refine mm_iload_n dX6_markWaysBack_67 rfl rfl ?_
          refine mm_iload_n dX6_markWaysBack_68 rfl rfl ?_
          refine mm_V4i dX6_markWaysBack_69 rfl lk_X6_189 (c := 28) rfl (by decide) rfl (by simp) (by simp) (by simp) (by simp) rfl rfl rfl (c1') ?_
          refine mm_ifeq dX6_markWaysBack_72 (by omega) (fun h => absurd h (by decide)) (fun _ => ?_)
          refine mm_aload_n dX6_markWaysBack_75 rfl rfl ?_
          refine mm_getr dX6_markWaysBack_76 rfl fl_X6_46 (c := 28) rfl (by decide) rfl rfl (hRN.at (c := 28) (i := 12) (v := 40) rfl (by decide)) ?_
          refine mm_iload dX6_markWaysBack_79 rfl rfl ?_
          refine mm_iconst dX6_markWaysBack_81 rfl ?_
          refine mm_istk (k0 := v) dX6_markWaysBack_82 rfl (c := 39) rfl (by decide) rfl (by omega) (by omega) (fun M82 hM82 => ?_)
          have hR82 : mm_Rf M82 := by rw [hM82]; exact hRN.up (mm_rt_ar (t := 0) rfl (by decide))
          refine mm_iinc dX6_markWaysBack_83 rfl rfl (Nat.le_of_ble_eq_true rfl) rfl ?_
          refine mm_goto dX6_markWaysBack_86 ?_
          have go := ih hlt M82 hR82 (by omega) (fun a ha => by rw [hM82, mm_up_row ha]; exact hf a ha) (fun w hw2 => by rw [hM82, mm_up_i hw2]; exact hw w hw2) (Or.inr ⟨by rw [hM82, mm_up_s], x, h, hcx, hlt, hhe, o1, o2⟩)
          rw [show ((x + 1 : Nat) : Int) = (x : Int) + 1 by omega] at go
          exact go
      · have c0' := cg 0 (Or.inr ⟨rfl, ho⟩)
        have go := ih hlt N hRN (by omega) hf hw (by
          rcases hs with ⟨s1, s2⟩ | s
          · refine Or.inl ⟨s1, fun y w y1 y2 y3 => ?_⟩
            by_cases cy : y = x
            · have ew : w = h := by rw [cy, hhe] at y3; omega
              rw [ew]
              exact fun q => ho (dec.mpr q)
            · exact s2 y w y1 (by omega) y3
          · exact Or.inr s)
        rw [show ((x + 1 : Nat) : Int) = (x : Int) + 1 by omega] at go
        refine mm_iload dX6_markWaysBack_36 rfl rfl ?_
        refine mm_aload_n dX6_markWaysBack_38 rfl rfl ?_
        refine mm_getr dX6_markWaysBack_39 rfl fl_X6_20 (c := 28) rfl (by decide) rfl rfl (hRN.at (c := 28) (i := 4) (v := 32) rfl (by decide)) ?_
        refine mm_iload dX6_markWaysBack_42 rfl rfl ?_
        refine mm_iconst dX6_markWaysBack_44 rfl ?_
        refine mm_iadd dX6_markWaysBack_45 rfl ?_
        refine mm_ialk (k0 := v + 1) dX6_markWaysBack_46 rfl (c := 31) rfl (by decide) rfl (by omega) (by omega) ?_
        rw [k1]
        refine mm_icge dX6_markWaysBack_47 (by omega) (by omega) (fun h47 => ?_) (fun h47 => ?_)
        · exfalso; omega
        · refine mm_aload_n dX6_markWaysBack_50 rfl rfl ?_
          refine mm_aload_n dX6_markWaysBack_51 rfl rfl ?_
          refine mm_getr dX6_markWaysBack_52 rfl fl_X6_26 (c := 28) rfl (by decide) rfl rfl (hRN.at (c := 28) (i := 6) (v := 34) rfl (by decide)) ?_
          refine mm_iload dX6_markWaysBack_55 rfl rfl ?_
          refine mm_ialk (k0 := x) dX6_markWaysBack_57 rfl (c := 33) rfl (by decide) rfl (by omega) (by omega) ?_
          rw [k33]
          refine mm_aload_n dX6_markWaysBack_58 rfl rfl ?_
          refine mm_getr dX6_markWaysBack_59 rfl fl_X6_49 (c := 28) rfl (by decide) rfl rfl (hRN.at (c := 28) (i := 13) (v := 41) rfl (by decide)) ?_
          refine mm_iload dX6_markWaysBack_62 rfl rfl ?_
          refine mm_ialk (k0 := v) dX6_markWaysBack_64 rfl (c := 40) rfl (by decide) rfl (by omega) (by omega) ?_
          rw [k40]
          refine mm_iconst dX6_markWaysBack_65 rfl ?_
          refine mm_iadd dX6_markWaysBack_66 rfl ?_
          refine mm_iload_n dX6_markWaysBack_67 rfl rfl ?_
          refine mm_iload_n dX6_markWaysBack_68 rfl rfl ?_
          refine mm_V4i dX6_markWaysBack_69 rfl lk_X6_189 (c := 28) rfl (by decide) rfl (by simp) (by simp) (by simp) (by simp) rfl rfl rfl (c0') ?_
          refine mm_ifeq dX6_markWaysBack_72 (by omega) (fun _ => ?_) (fun h => absurd (by decide) h)
          refine mm_iinc dX6_markWaysBack_83 rfl rfl (Nat.le_of_ble_eq_true rfl) rfl ?_
          refine mm_goto dX6_markWaysBack_86 ?_
          exact go
    · have ex : x = c1 := by omega
      subst ex
      have step : ∀ h : Nat, kU_t M n v h ↔ ∃ y : Nat, c0 ≤ y ∧ y < x ∧ M 33 y = (h : Int) := by
        intro h
        constructor
        · rintro ⟨-, y, y1, y2, y3⟩
          exact ⟨y, by omega, by omega, y3⟩
        · rintro ⟨y, y1, y2, y3⟩
          exact ⟨hvn, y, by omega, by omega, y3⟩
      have fin : kU_m M N n b l v := by
        rcases hs with ⟨s1, s2⟩ | ⟨s1, y, h, y1, y2, y3, y4, y5⟩
        · refine Or.inr ⟨s1, ?_⟩
          rintro ⟨r, r1, r2, r3⟩
          obtain ⟨r', rfl⟩ : ∃ r', r = r' + 1 := ⟨r - 1, by omega⟩
          obtain ⟨g1, h, g2, g3⟩ := r3
          obtain ⟨y, y1, y2, y3⟩ := (step h).mp g2
          refine s2 y h y1 y2 y3 ⟨by omega, ?_⟩
          rw [show (l - M 40 v - 1).toNat = r' by omega]
          exact g3
        · refine Or.inl ⟨s1, (l - M 40 v - 1).toNat + 1, by omega, by omega, by omega, h, (step h).mpr ⟨y, y1, y2, y3⟩, y5⟩
      have go := out N hRN hf hw fin
      refine mm_iload dX6_markWaysBack_36 rfl rfl ?_
      refine mm_aload_n dX6_markWaysBack_38 rfl rfl ?_
      refine mm_getr dX6_markWaysBack_39 rfl fl_X6_20 (c := 28) rfl (by decide) rfl rfl (hRN.at (c := 28) (i := 4) (v := 32) rfl (by decide)) ?_
      refine mm_iload dX6_markWaysBack_42 rfl rfl ?_
      refine mm_iconst dX6_markWaysBack_44 rfl ?_
      refine mm_iadd dX6_markWaysBack_45 rfl ?_
      refine mm_ialk (k0 := v + 1) dX6_markWaysBack_46 rfl (c := 31) rfl (by decide) rfl (by omega) (by omega) ?_
      rw [k1]
      refine mm_icge dX6_markWaysBack_47 (by omega) (by omega) (fun h47 => ?_) (fun h47 => ?_)
      · exact mm_drop (by repeat (first | exact trivial | refine And.intro (Or.inl rfl) ?_ | refine And.intro (Or.inr rfl) ?_)) go
      · exfalso; omega
  -- the queue, from its end
  have loop : ∀ c : Nat, c ≤ e → ∀ N, mm_Rf N → (∀ a, a ≠ 39 → N a = M a) → (∀ i, e - c ≤ i → i < e → kU_m M N n b l (M 41 i).toNat) → (∀ w, w < n → (∀ i, e - c ≤ i → i < e → (M 41 i).toNat ≠ w) → N 39 w = 0) → (∀ w, w < n → N 39 w = 0 ∨ N 39 w = 1) →
      mm_J X Y_X6_markWaysBack 243 243 243 15 [(2, 29), (0, (b : Int)), (0, l), (0, (e : Int) - 1 - (c : Int)), (9, 0), (9, 0)] [] N Φ := by
    refine mm_lp ?_
    intro c hc ih N hRN hf hm hz h01
    by_cases hlt : c < e
    · obtain ⟨i, hi⟩ : ∃ i, i = e - 1 - c := ⟨_, rfl⟩
      have ei : (e : Int) - 1 - (c : Int) = (i : Int) := by omega
      obtain ⟨v, hv⟩ : ∃ v, v = (M 41 i).toNat := ⟨_, rfl⟩
      have qi := hQ.qn i (by omega)
      rw [← hv] at qi
      obtain ⟨c0, c1, g1, g2, g3, g4, -⟩ := hG v qi.2
      have k31 : N 31 v = (c0 : Int) := by rw [hf 31 (by decide)]; exact g1
      have k41 : N 41 i = (v : Int) := by rw [hf 41 (by decide)]; exact qi.1
      have back : ∀ P, mm_Rf P → (∀ a, a ≠ 39 → P a = M a) → (∀ w, w ≠ v → P 39 w = N 39 w) → kU_m M P n b l v → mm_J X Y_X6_markWaysBack 243 243 243 89 [(2, 29), (0, (b : Int)), (0, l), (0, (i : Int)), (9, 0), (9, 0)] [] P Φ := by
        intro P hRP hPf hPw hPm
        have go := ih hlt P hRP hPf (fun i' i1 i2 => by
          by_cases ci : i' = i
          · rw [ci, ← hv]; exact hPm
          · have ne : (M 41 i').toNat ≠ v := fun q => hQ.ne i i' (by omega) i2 (by rw [← hv]; exact q.symm)
            have := hm i' (by omega) i2
            unfold kU_m at this ⊢
            rw [hPw _ ne]
            exact this) (fun w hw1 hw2 => by
          have ne : w ≠ v := fun q => hw2 i (by omega) (by omega) (by rw [← hv]; exact q.symm)
          rw [hPw w ne]
          exact hz w hw1 (fun i' i1 i2 => hw2 i' (by omega) i2)) (fun w hw1 => by
          by_cases cw : w = v
          · rw [cw]
            rcases hPm with q | q
            · exact Or.inr q.1
            · exact Or.inl q.1
          · rw [hPw w cw]; exact h01 w hw1)
        rw [show (e : Int) - 1 - ((c + 1 : Nat) : Int) = (i : Int) + -1 by omega] at go
        refine mm_iinc dX6_markWaysBack_89 rfl rfl (Nat.le_of_ble_eq_true rfl) rfl ?_
        refine mm_goto dX6_markWaysBack_92 ?_
        exact go
      have v0 : N 39 v = 0 := hz v qi.2 (fun i' i1 i2 q => hQ.ne i i' (by omega) i2 (by rw [← hv]; exact q.symm))
      have go := inner i v c0 c1 (by omega) qi.1 qi.2 g1 g2 g4 N hf (fun i' i1 i2 => hm i' (by omega) i2) h01 v0 back c0 g3 N hRN (Nat.le_refl _) hf (fun _ _ => rfl) (Or.inl ⟨v0, fun y h y1 y2 => absurd y2 (by omega)⟩)
      rw [ei]
      refine mm_iload_n dX6_markWaysBack_15 rfl rfl ?_
      refine mm_iflt dX6_markWaysBack_16 (by omega) (fun h16 => ?_) (fun h16 => ?_)
      · exfalso; omega
      · refine mm_aload_n dX6_markWaysBack_19 rfl rfl ?_
        refine mm_getr dX6_markWaysBack_20 rfl fl_X6_52 (c := 28) rfl (by decide) rfl rfl (hRN.at (c := 28) (i := 14) (v := 42) rfl (by decide)) ?_
        refine mm_iload_n dX6_markWaysBack_23 rfl rfl ?_
        refine mm_ialk (k0 := i) dX6_markWaysBack_24 rfl (c := 41) rfl (by decide) rfl (by omega) (by omega) ?_
        rw [k41]
        refine mm_istore dX6_markWaysBack_25 rfl (Nat.le_of_ble_eq_true rfl) rfl ?_
        refine mm_aload_n dX6_markWaysBack_27 rfl rfl ?_
        refine mm_getr dX6_markWaysBack_28 rfl fl_X6_20 (c := 28) rfl (by decide) rfl rfl (hRN.at (c := 28) (i := 4) (v := 32) rfl (by decide)) ?_
        refine mm_iload dX6_markWaysBack_31 rfl rfl ?_
        refine mm_ialk (k0 := v) dX6_markWaysBack_33 rfl (c := 31) rfl (by decide) rfl (by omega) (by omega) ?_
        rw [k31]
        refine mm_istore dX6_markWaysBack_34 rfl (Nat.le_of_ble_eq_true rfl) rfl ?_
        exact go
    · have ec : c = e := by omega
      subst ec
      refine mm_iload_n dX6_markWaysBack_15 rfl rfl ?_
      refine mm_iflt dX6_markWaysBack_16 (by omega) (fun h16 => ?_) (fun h16 => ?_)
      · refine mm_vret dX6_markWaysBack_95 rfl rfl ?_
        rw [hΦ]; refine ⟨rfl, hRN, hf, fun v hv => ?_⟩
        by_cases ex : ∃ i, i < c ∧ (M 41 i).toNat = v
        · obtain ⟨i, i1, i2⟩ := ex
          rw [← i2]
          exact hm i (by omega) i1
        · have z := hz v hv (fun i _ i2 q => ex ⟨i, i2, q⟩)
          refine Or.inr ⟨z, ?_⟩
          rintro ⟨r, r1, r2, r3⟩
          obtain ⟨r', rfl⟩ : ∃ r', r = r' + 1 := ⟨r - 1, by omega⟩
          have l0 := r3.1
          obtain ⟨e', e1, e2, e3, e4⟩ := hI.q hb
          have ee : e' = c := by omega
          rcases e4 v hv with q | ⟨i, i1, i2⟩
          · omega
          · exact ex ⟨i, by omega, by rw [i2]; omega⟩
      · exfalso; omega
  obtain ⟨N5, hN5⟩ : ∃ Z, Z = kf_mem M 39 (fun _ => 0) 288 := ⟨_, rfl⟩
  have hR5 : mm_Rf N5 := by rw [hN5]; exact hR.fm (len := 288) rfl
  have cf := c_J7_fill2 (X := X) (M := M) (n := 243) (c := 39) (len := 288) (v := 0) (by decide) rfl
  rw [← hN5] at cf
  have f5 : ∀ a, a ≠ 39 → N5 a = M a := fun a ha => by rw [hN5, kf_mem_n ha]
  have z5 : ∀ w, w < n → N5 39 w = 0 := fun w hw => by rw [hN5, kf_mem_lt (by omega)]
  have e5 : N5 28 15 = (e : Int) := by rw [f5 28 (by decide)]; exact he
  refine mm_start (ls := [(2, 29), (0, (b : Int)), (0, l), (9, 0), (9, 0), (9, 0)]) rfl ?_
  refine mm_aload_n dX6_markWaysBack_0 rfl rfl ?_
  refine mm_getr dX6_markWaysBack_1 rfl fl_X6_46 (c := 28) rfl (by decide) rfl rfl (hR.at (c := 28) (i := 12) (v := 40) rfl (by decide)) ?_
  refine mm_iconst dX6_markWaysBack_4 rfl ?_
  refine mm_S2v dX6_markWaysBack_5 rfl lk_X6_93 (by simp) (by simp) rfl rfl rfl (cf) ?_
  refine mm_aload_n dX6_markWaysBack_8 rfl rfl ?_
  refine mm_get (kd := 0) dX6_markWaysBack_9 rfl fl_X6_99 (c := 28) rfl (by decide) rfl rfl ?_
  rw [e5]
  refine mm_iconst dX6_markWaysBack_12 rfl ?_
  refine mm_isub dX6_markWaysBack_13 rfl ?_
  refine mm_istore_n dX6_markWaysBack_14 rfl (Nat.le_of_ble_eq_true rfl) rfl ?_
  have go := loop 0 (Nat.zero_le _) N5 hR5 f5 (fun i i1 i2 => absurd i1 (by omega)) (fun w hw _ => z5 w hw) (fun w hw => Or.inl (z5 w hw))
  rw [show (e : Int) - 1 - ((0 : Nat) : Int) = (e : Int) - 1 by omega] at go
  exact go
end
end
