/-! ===== writes that name the new memory ===== -/
section
variable {X : mm_X} {Y : mm_Y} {n0 n1 n pc q t c ci i idx len kd : Nat} {ls st : List mm_V} {M : mm_M} {Φ : mm_V → mm_M → Prop} {x y r j v : Int}
theorem mm_puti (hd : mm_D Y.2.1 pc q (.putfield idx)) (hq : pc + 3 = q) (hf : mm_F Y.1.cls idx ci i false .int) (hr : r = (c : Int) + 1) (hc : c < n) (hs : mm_sh c = (0, ci)) (hk : mm_fk ci i = 0)
    (k : ∀ M1, M1 = mm_up M c i x → mm_J X Y n0 n1 n q ls st M1 Φ) : mm_J X Y n0 n1 n pc ls ((0, x) :: (2, r) :: st) M Φ :=
  mm_put hd hq hf hr hc hs hk (fun _ _ => ⟨rfl, rfl⟩) (k _ rfl)
theorem mm_putl (hd : mm_D Y.2.1 pc q (.putfield idx)) (hq : pc + 3 = q) (hf : mm_F Y.1.cls idx ci i false .long) (hr : r = (c : Int) + 1) (hc : c < n) (hs : mm_sh c = (0, ci)) (hk : mm_fk ci i = 1)
    (k : ∀ M1, M1 = mm_up M c i x → mm_J X Y n0 n1 n q ls st M1 Φ) : mm_J X Y n0 n1 n pc ls ((1, x) :: (2, r) :: st) M Φ :=
  mm_put hd hq hf hr hc hs hk (fun _ _ => ⟨rfl, rfl⟩) (k _ rfl)
theorem mm_putz (hd : mm_D Y.2.1 pc q (.putfield idx)) (hq : pc + 3 = q) (hf : mm_F Y.1.cls idx ci i false .boolean) (hr : r = (c : Int) + 1) (hc : c < n) (hs : mm_sh c = (0, ci)) (hk : mm_fk ci i = 0) (hz : x = 0 ∨ x = 1)
    (k : ∀ M1, M1 = mm_up M c i x → mm_J X Y n0 n1 n q ls st M1 Φ) : mm_J X Y n0 n1 n pc ls ((0, x) :: (2, r) :: st) M Φ :=
  mm_put hd hq hf hr hc hs hk (fun _ _ => by rcases hz with rfl | rfl <;> exact ⟨rfl, rfl⟩) (k _ rfl)
theorem mm_isto (hd : mm_D Y.2.1 pc q .iastore) (hq : pc + 1 = q) (hr : r = (c : Int) + 1) (hc : c < n) (hs : mm_sh c = (1, len)) (h0 : 0 ≤ j) (h1 : j < len) (k : ∀ M1, M1 = mm_up M c j.toNat x → mm_J X Y n0 n1 n q ls st M1 Φ) : mm_J X Y n0 n1 n pc ls ((0, x) :: (0, j) :: (2, r) :: st) M Φ := mm_iast hd hq hr hc hs h0 h1 (k _ rfl)
theorem mm_bsto (hd : mm_D Y.2.1 pc q .bastore) (hq : pc + 1 = q) (hr : r = (c : Int) + 1) (hc : c < n) (hs : mm_sh c = (2, len)) (h0 : 0 ≤ j) (h1 : j < len) (hb0 : -128 ≤ x ∧ x ≤ 127) (k : ∀ M1, M1 = mm_up M c j.toNat x → mm_J X Y n0 n1 n q ls st M1 Φ) : mm_J X Y n0 n1 n pc ls ((0, x) :: (0, j) :: (2, r) :: st) M Φ := mm_bast hd hq hr hc hs h0 h1 hb0 (k _ rfl)
theorem mm_zsto (hd : mm_D Y.2.1 pc q .bastore) (hq : pc + 1 = q) (hr : r = (c : Int) + 1) (hc : c < n) (hs : mm_sh c = (3, len)) (h0 : 0 ≤ j) (h1 : j < len) (hz : x = 0 ∨ x = 1) (k : ∀ M1, M1 = mm_up M c j.toNat x → mm_J X Y n0 n1 n q ls st M1 Φ) : mm_J X Y n0 n1 n pc ls ((0, x) :: (0, j) :: (2, r) :: st) M Φ := mm_zast hd hq hr hc hs h0 h1 hz (k _ rfl)
theorem mm_lsto (hd : mm_D Y.2.1 pc q .lastore) (hq : pc + 1 = q) (hr : r = (c : Int) + 1) (hc : c < n) (hs : mm_sh c = (4, len)) (h0 : 0 ≤ j) (h1 : j < len) (k : ∀ M1, M1 = mm_up M c j.toNat x → mm_J X Y n0 n1 n q ls st M1 Φ) : mm_J X Y n0 n1 n pc ls ((1, x) :: (0, j) :: (2, r) :: st) M Φ := mm_last hd hq hr hc hs h0 h1 (k _ rfl)
end
section
variable {X : mm_X} {Y : mm_Y} {n0 n1 n pc q c len k0 : Nat} {ls st : List mm_V} {M : mm_M} {Φ : mm_V → mm_M → Prop} {x r j : Int}
theorem mm_ialk (hd : mm_D Y.2.1 pc q .iaload) (hq : pc + 1 = q) (hr : r = (c : Int) + 1) (hc : c < n) (hs : mm_sh c = (1, len)) (hj : j = (k0 : Int)) (h1 : k0 < len) (k : mm_J X Y n0 n1 n q ls ((0, M c k0) :: st) M Φ) : mm_J X Y n0 n1 n pc ls ((0, j) :: (2, r) :: st) M Φ := by
  subst hj
  exact mm_iald hd hq hr hc hs (Int.natCast_nonneg k0) (by omega) k
theorem mm_balk (hd : mm_D Y.2.1 pc q .baload) (hq : pc + 1 = q) (hr : r = (c : Int) + 1) (hc : c < n) (hs : mm_sh c = (2, len)) (hj : j = (k0 : Int)) (h1 : k0 < len) (k : mm_J X Y n0 n1 n q ls ((0, M c k0) :: st) M Φ) : mm_J X Y n0 n1 n pc ls ((0, j) :: (2, r) :: st) M Φ := by
  subst hj
  exact mm_bald hd hq hr hc hs (Int.natCast_nonneg k0) (by omega) k
theorem mm_zalk (hd : mm_D Y.2.1 pc q .baload) (hq : pc + 1 = q) (hr : r = (c : Int) + 1) (hc : c < n) (hs : mm_sh c = (3, len)) (hj : j = (k0 : Int)) (h1 : k0 < len) (k : mm_J X Y n0 n1 n q ls ((0, M c k0) :: st) M Φ) : mm_J X Y n0 n1 n pc ls ((0, j) :: (2, r) :: st) M Φ := by
  subst hj
  exact mm_zald hd hq hr hc hs (Int.natCast_nonneg k0) (by omega) k
theorem mm_lalk (hd : mm_D Y.2.1 pc q .laload) (hq : pc + 1 = q) (hr : r = (c : Int) + 1) (hc : c < n) (hs : mm_sh c = (4, len)) (hj : j = (k0 : Int)) (h1 : k0 < len) (k : mm_J X Y n0 n1 n q ls ((1, M c k0) :: st) M Φ) : mm_J X Y n0 n1 n pc ls ((0, j) :: (2, r) :: st) M Φ := by
  subst hj
  exact mm_lald hd hq hr hc hs (Int.natCast_nonneg k0) (by omega) k
theorem mm_aalk (hd : mm_D Y.2.1 pc q .aaload) (hq : pc + 1 = q) (hr : r = (c : Int) + 1) (hc : c < n) (hs : mm_sh c = (5, len)) (hj : j = (k0 : Int)) (h1 : k0 < len) (k : mm_J X Y n0 n1 n q ls ((2, M c k0) :: st) M Φ) : mm_J X Y n0 n1 n pc ls ((0, j) :: (2, r) :: st) M Φ := by
  subst hj
  exact mm_aald hd hq hr hc hs (Int.natCast_nonneg k0) (by omega) k
theorem mm_istk (hd : mm_D Y.2.1 pc q .iastore) (hq : pc + 1 = q) (hr : r = (c : Int) + 1) (hc : c < n) (hs : mm_sh c = (1, len)) (hj : j = (k0 : Int)) (h1 : k0 < len) (k : ∀ M1, M1 = mm_up M c k0 x → mm_J X Y n0 n1 n q ls st M1 Φ) : mm_J X Y n0 n1 n pc ls ((0, x) :: (0, j) :: (2, r) :: st) M Φ := by
  subst hj
  exact mm_isto hd hq hr hc hs (Int.natCast_nonneg k0) (by omega) k
theorem mm_bstk (hd : mm_D Y.2.1 pc q .bastore) (hq : pc + 1 = q) (hr : r = (c : Int) + 1) (hc : c < n) (hs : mm_sh c = (2, len)) (hj : j = (k0 : Int)) (h1 : k0 < len) (hb0 : -128 ≤ x ∧ x ≤ 127) (k : ∀ M1, M1 = mm_up M c k0 x → mm_J X Y n0 n1 n q ls st M1 Φ) : mm_J X Y n0 n1 n pc ls ((0, x) :: (0, j) :: (2, r) :: st) M Φ := by
  subst hj
  exact mm_bsto hd hq hr hc hs (Int.natCast_nonneg k0) (by omega) hb0 k
theorem mm_zstk (hd : mm_D Y.2.1 pc q .bastore) (hq : pc + 1 = q) (hr : r = (c : Int) + 1) (hc : c < n) (hs : mm_sh c = (3, len)) (hj : j = (k0 : Int)) (h1 : k0 < len) (hz : x = 0 ∨ x = 1) (k : ∀ M1, M1 = mm_up M c k0 x → mm_J X Y n0 n1 n q ls st M1 Φ) : mm_J X Y n0 n1 n pc ls ((0, x) :: (0, j) :: (2, r) :: st) M Φ := by
  subst hj
  exact mm_zsto hd hq hr hc hs (Int.natCast_nonneg k0) (by omega) hz k
theorem mm_lstk (hd : mm_D Y.2.1 pc q .lastore) (hq : pc + 1 = q) (hr : r = (c : Int) + 1) (hc : c < n) (hs : mm_sh c = (4, len)) (hj : j = (k0 : Int)) (h1 : k0 < len) (k : ∀ M1, M1 = mm_up M c k0 x → mm_J X Y n0 n1 n q ls st M1 Φ) : mm_J X Y n0 n1 n pc ls ((1, x) :: (0, j) :: (2, r) :: st) M Φ := by
  subst hj
  exact mm_lsto hd hq hr hc hs (Int.natCast_nonneg k0) (by omega) k
theorem mm_iark {k1 : Nat} (hd : mm_D Y.2.1 pc q .iaload) (hq : pc + 1 = q) (hr : r = -(k1 : Int)) (hk : 1 ≤ k1 ∧ k1 ≤ 7) (hj : j = (k0 : Int)) (h1 : k0 < (mm_rc X k1).1) (hlt : (mm_rc X k1).1 ≤ 2147483647) (k : mm_J X Y n0 n1 n q ls ((0, (mm_rc X k1).2 k0) :: st) M Φ) : mm_J X Y n0 n1 n pc ls ((0, j) :: (2, r) :: st) M Φ := by
  subst hj
  exact mm_iaro hd hq hr hk (Int.natCast_nonneg k0) (by omega) hlt k
end
theorem mm_fin {k : Nat} {x v : Int} {M M' : mm_M} (h : x = v) (hM : M = M') : (k, x) = (k, v) ∧ M = M' := ⟨by rw [h], hM⟩
theorem mm_start {X : mm_X} {Y : mm_Y} {n0 n1 : Nat} {as ls : List mm_V} {M : mm_M} {Ψ : mm_V → mm_M → Prop} (hp : mm_pad Y.2.2.1 as = ls) (k : mm_J X Y n0 n1 n0 0 ls [] M Ψ) : mm_C X Y n0 n1 as M Ψ := by
  unfold mm_C
  rw [hp]
  exact k
theorem mm_startF {X : mm_X} {Y : mm_Y} {n : Nat} {as ls : List mm_V} {M M' : mm_M} {r : mm_V} (hp : mm_pad Y.2.2.1 as = ls) (k : mm_J X Y n n n 0 ls [] M (fun r' M'' => r' = r ∧ M'' = M')) : mm_Fn X Y n as M r M' := mm_start hp k
