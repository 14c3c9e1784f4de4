/-! 23.wrap -/
section
/-! ===== writes that name the new memory ===== -/
section
variable {X : mm_X} {Y : mm_Y} {n0 n1 n pc q t c ci i idx len kd : Nat} {ls st : List mm_V} {M : mm_M} {Φ : mm_V → mm_M → Prop} {x y r j v : Int}
theorem mm_puti (hd : mm_D Y.2.1 pc q (.putfield idx)) (hq : pc + 3 = q) (hf : mm_F Y.1.cls idx ci i false .int) (hr : r = (c : Int) + 1) (hc : c < n) (hs : mm_sh c = (0, ci)) (hk : mm_fk ci i = 0)
    (k : ∀ M1, M1 = mm_up M c i x → mm_J X Y n0 n1 n q ls st M1 Φ) : mm_J X Y n0 n1 n pc ls ((0, x) :: (2, r) :: st) M Φ :=
  mm_put hd hq hf hr hc hs hk (fun _ _ => ⟨rfl, rfl⟩) (k _ rfl)
theorem mm_putl (hd : mm_D Y.2.1 pc q (.putfield idx)) (hq : pc + 3 = q) (hf : mm_F Y.1.cls idx ci i false .long) (hr : r = (c : Int) + 1) (hc : c < n) (hs : mm_sh c = (0, ci)) (hk : mm_fk ci i = 1)
    (k : ∀ M1, M1 = mm_up M c i x → mm_J X Y n0 n1 n q ls st M1 Φ) : mm_J X Y n0 n1 n pc ls ((1, x) :: (2, r) :: st) M Φ :=
  mm_put hd hq hf hr hc hs hk (fun _ _ => ⟨rfl, rfl⟩) (k _ rfl)
theorem mm_putz (hd : mm_D Y.2.1 pc q (.putfield idx)) (hq : pc + 3 = q) (hf : mm_F Y.1.cls idx ci i false .boolean) (hr : r = (c : Int) + 1) (hc : c < n) (hs : mm_sh c = (0, ci)) (hk : mm_fk ci i = 0) (hz : x = 0 ∨ x = 1)
    (k : ∀ M1, M1 = mm_up M c i x → mm_J X Y n0 n1 n q ls st M1 Φ) : mm_J X Y n0 n1 n pc ls ((0, x) :: (2, r) :: st) M Φ :=
  mm_put hd hq hf hr hc hs hk (fun _ _ => by rcases hz with rfl | rfl <;> exact ⟨rfl, rfl⟩) (k _ rfl)
theorem mm_isto (hd : mm_D Y.2.1 pc q .iastore) (hq : pc + 1 = q) (hr : r = (c : Int) + 1) (hc : c < n) (hs : mm_sh c = (1, len)) (h0 : 0 ≤ j) (h1 : j < len) (k : ∀ M1, M1 = mm_up M c j.toNat x → mm_J X Y n0 n1 n q ls st M1 Φ) : mm_J X Y n0 n1 n pc ls ((0, x) :: (0, j) :: (2, r) :: st) M Φ := mm_iast hd hq hr hc hs h0 h1 (k _ rfl)
theorem mm_bsto (hd : mm_D Y.2.1 pc q .bastore) (hq : pc + 1 = q) (hr : r = (c : Int) + 1) (hc : c < n) (hs : mm_sh c = (2, len)) (h0 : 0 ≤ j) (h1 : j < len) (hb0 : -128 ≤ x ∧ x ≤ 127) (k : ∀ M1, M1 = mm_up M c j.toNat x → mm_J X Y n0 n1 n q ls st M1 Φ) : mm_J X Y n0 n1 n pc ls ((0, x) :: (0, j) :: (2, r) :: st) M Φ := mm_bast hd hq hr hc hs h0 h1 hb0 (k _ rfl)
theorem mm_zsto (hd : mm_D Y.2.1 pc q .bastore) (hq : pc + 1 = q) (hr : r = (c : Int) + 1) (hc : c < n) (hs : mm_sh c = (3, len)) (h0 : 0 ≤ j) (h1 : j < len) (hz : x = 0 ∨ x = 1) (k : ∀ M1, M1 = mm_up M c j.toNat x → mm_J X Y n0 n1 n q ls st M1 Φ) : mm_J X Y n0 n1 n pc ls ((0, x) :: (0, j) :: (2, r) :: st) M Φ := mm_zast hd hq hr hc hs h0 h1 hz (k _ rfl)
theorem mm_lsto (hd : mm_D Y.2.1 pc q .lastore) (hq : pc + 1 = q) (hr : r = (c : Int) + 1) (hc : c < n) (hs : mm_sh c = (4, len)) (h0 : 0 ≤ j) (h1 : j < len) (k : ∀ M1, M1 = mm_up M c j.toNat x → mm_J X Y n0 n1 n q ls st M1 Φ) : mm_J X Y n0 n1 n pc ls ((1, x) :: (0, j) :: (2, r) :: st) M Φ := mm_last hd hq hr hc hs h0 h1 (k _ rfl)
end
section
variable {X : mm_X} {Y : mm_Y} {n0 n1 n pc q c len k0 : Nat} {ls st : List mm_V} {M : mm_M} {Φ : mm_V → mm_M → Prop} {x r j : Int}
theorem mm_ialk (hd : mm_D Y.2.1 pc q .iaload) (hq : pc + 1 = q) (hr : r = (c : Int) + 1) (hc : c < n) (hs : mm_sh c = (1, len)) (hj : j = (k0 : Int)) (h1 : k0 < len) (k : mm_J X Y n0 n1 n q ls ((0, M c k0) :: st) M Φ) : mm_J X Y n0 n1 n pc ls ((0, j) :: (2, r) :: st) M Φ := by
  subst hj
  exact mm_iald hd hq hr hc hs (Int.natCast_nonneg k0) (by omega) k
theorem mm_balk (hd : mm_D Y.2.1 pc q .baload) (hq : pc + 1 = q) (hr : r = (c : Int) + 1) (hc : c < n) (hs : mm_sh c = (2, len)) (hj : j = (k0 : Int)) (h1 : k0 < len) (k : mm_J X Y n0 n1 n q ls ((0, M c k0) :: st) M Φ) : mm_J X Y n0 n1 n pc ls ((0, j) :: (2, r) :: st) M Φ := by
  subst hj
  exact mm_bald hd hq hr hc hs (Int.natCast_nonneg k0) (by omega) k
theorem mm_zalk (hd : mm_D Y.2.1 pc q .baload) (hq : pc + 1 = q) (hr : r = (c : Int) + 1) (hc : c < n) (hs : mm_sh c = (3, len)) (hj : j = (k0 : Int)) (h1 : k0 < len) (k : mm_J X Y n0 n1 n q ls ((0, M c k0) :: st) M Φ) : mm_J X Y n0 n1 n pc ls ((0, j) :: (2, r) :: st) M Φ := by
  subst hj
  exact mm_zald hd hq hr hc hs (Int.natCast_nonneg k0) (by omega) k
theorem mm_lalk (hd : mm_D Y.2.1 pc q .laload) (hq : pc + 1 = q) (hr : r = (c : Int) + 1) (hc : c < n) (hs : mm_sh c = (4, len)) (hj : j = (k0 : Int)) (h1 : k0 < len) (k : mm_J X Y n0 n1 n q ls ((1, M c k0) :: st) M Φ) : mm_J X Y n0 n1 n pc ls ((0, j) :: (2, r) :: st) M Φ := by
  subst hj
  exact mm_lald hd hq hr hc hs (Int.natCast_nonneg k0) (by omega) k
theorem mm_aalk (hd : mm_D Y.2.1 pc q .aaload) (hq : pc + 1 = q) (hr : r = (c : Int) + 1) (hc : c < n) (hs : mm_sh c = (5, len)) (hj : j = (k0 : Int)) (h1 : k0 < len) (k : mm_J X Y n0 n1 n q ls ((2, M c k0) :: st) M Φ) : mm_J X Y n0 n1 n pc ls ((0, j) :: (2, r) :: st) M Φ := by
  subst hj
  exact mm_aald hd hq hr hc hs (Int.natCast_nonneg k0) (by omega) k
theorem mm_istk (hd : mm_D Y.2.1 pc q .iastore) (hq : pc + 1 = q) (hr : r = (c : Int) + 1) (hc : c < n) (hs : mm_sh c = (1, len)) (hj : j = (k0 : Int)) (h1 : k0 < len) (k : ∀ M1, M1 = mm_up M c k0 x → mm_J X Y n0 n1 n q ls st M1 Φ) : mm_J X Y n0 n1 n pc ls ((0, x) :: (0, j) :: (2, r) :: st) M Φ := by
  subst hj
  exact mm_isto hd hq hr hc hs (Int.natCast_nonneg k0) (by omega) k
theorem mm_bstk (hd : mm_D Y.2.1 pc q .bastore) (hq : pc + 1 = q) (hr : r = (c : Int) + 1) (hc : c < n) (hs : mm_sh c = (2, len)) (hj : j = (k0 : Int)) (h1 : k0 < len) (hb0 : -128 ≤ x ∧ x ≤ 127) (k : ∀ M1, M1 = mm_up M c k0 x → mm_J X Y n0 n1 n q ls st M1 Φ) : mm_J X Y n0 n1 n pc ls ((0, x) :: (0, j) :: (2, r) :: st) M Φ := by
  subst hj
  exact mm_bsto hd hq hr hc hs (Int.natCast_nonneg k0) (by omega) hb0 k
theorem mm_zstk (hd : mm_D Y.2.1 pc q .bastore) (hq : pc + 1 = q) (hr : r = (c : Int) + 1) (hc : c < n) (hs : mm_sh c = (3, len)) (hj : j = (k0 : Int)) (h1 : k0 < len) (hz : x = 0 ∨ x = 1) (k : ∀ M1, M1 = mm_up M c k0 x → mm_J X Y n0 n1 n q ls st M1 Φ) : mm_J X Y n0 n1 n pc ls ((0, x) :: (0, j) :: (2, r) :: st) M Φ := by
  subst hj
  exact mm_zsto hd hq hr hc hs (Int.natCast_nonneg k0) (by omega) hz k
theorem mm_lstk (hd : mm_D Y.2.1 pc q .lastore) (hq : pc + 1 = q) (hr : r = (c : Int) + 1) (hc : c < n) (hs : mm_sh c = (4, len)) (hj : j = (k0 : Int)) (h1 : k0 < len) (k : ∀ M1, M1 = mm_up M c k0 x → mm_J X Y n0 n1 n q ls st M1 Φ) : mm_J X Y n0 n1 n pc ls ((1, x) :: (0, j) :: (2, r) :: st) M Φ := by
  subst hj
  exact mm_lsto hd hq hr hc hs (Int.natCast_nonneg k0) (by omega) k
theorem mm_iark {k1 : Nat} (hd : mm_D Y.2.1 pc q .iaload) (hq : pc + 1 = q) (hr : r = -(k1 : Int)) (hk : 1 ≤ k1 ∧ k1 ≤ 7) (hj : j = (k0 : Int)) (h1 : k0 < (mm_rc X k1).1) (hlt : (mm_rc X k1).1 ≤ 2147483647) (k : mm_J X Y n0 n1 n q ls ((0, (mm_rc X k1).2 k0) :: st) M Φ) : mm_J X Y n0 n1 n pc ls ((0, j) :: (2, r) :: st) M Φ := by
  subst hj
  exact mm_iaro hd hq hr hk (Int.natCast_nonneg k0) (by omega) hlt k
end
theorem mm_fin {k : Nat} {x v : Int} {M M' : mm_M} (h : x = v) (hM : M = M') : (k, x) = (k, v) ∧ M = M' := ⟨by rw [h], hM⟩
theorem mm_start {X : mm_X} {Y : mm_Y} {n0 n1 : Nat} {as ls : List mm_V} {M : mm_M} {Ψ : mm_V → mm_M → Prop} (hp : mm_pad Y.2.2.1 as = ls) (k : mm_J X Y n0 n1 n0 0 ls [] M Ψ) : mm_C X Y n0 n1 as M Ψ := by
  unfold mm_C
  rw [hp]
  exact k
theorem mm_startF {X : mm_X} {Y : mm_Y} {n : Nat} {as ls : List mm_V} {M M' : mm_M} {r : mm_V} (hp : mm_pad Y.2.2.1 as = ls) (k : mm_J X Y n n n 0 ls [] M (fun r' M'' => r' = r ∧ M'' = M')) : mm_Fn X Y n as M r M' := mm_start hp k
end
/-! 24.lcmp -/
section
/-! ===== branches behind lcmp ===== -/
section
variable {X : mm_X} {Y : mm_Y} {n0 n1 n pc q t : Nat} {ls st : List mm_V} {M : mm_M} {Φ : mm_V → mm_M → Prop} {x y : Int}
theorem mm_cmpR (x y : Int) : mm_R (if y < x then 1 else if x = y then 0 else -1) := by
  split
  · omega
  · split <;> omega
theorem mm_ifltc (hd : mm_Bz Y.2.1 pc q t .lt) (kt : x < y → mm_J X Y n0 n1 n t ls st M Φ) (kf : ¬ x < y → mm_J X Y n0 n1 n q ls st M Φ) : mm_J X Y n0 n1 n pc ls ((0, if y < x then 1 else if x = y then 0 else -1) :: st) M Φ := by
  refine mm_iflt hd (mm_cmpR x y) (fun h => kt ?_) (fun h => kf ?_)
  · split at h
    · omega
    · split at h <;> omega
  · split at h
    · omega
    · split at h <;> omega
theorem mm_ifgec (hd : mm_Bz Y.2.1 pc q t .ge) (kt : y ≤ x → mm_J X Y n0 n1 n t ls st M Φ) (kf : ¬ y ≤ x → mm_J X Y n0 n1 n q ls st M Φ) : mm_J X Y n0 n1 n pc ls ((0, if y < x then 1 else if x = y then 0 else -1) :: st) M Φ := by
  refine mm_ifge hd (mm_cmpR x y) (fun h => kt ?_) (fun h => kf ?_)
  · split at h
    · omega
    · split at h <;> omega
  · split at h
    · omega
    · split at h <;> omega
theorem mm_ifgtc (hd : mm_Bz Y.2.1 pc q t .gt) (kt : y < x → mm_J X Y n0 n1 n t ls st M Φ) (kf : ¬ y < x → mm_J X Y n0 n1 n q ls st M Φ) : mm_J X Y n0 n1 n pc ls ((0, if y < x then 1 else if x = y then 0 else -1) :: st) M Φ := by
  refine mm_ifgt hd (mm_cmpR x y) (fun h => kt ?_) (fun h => kf ?_)
  · split at h
    · omega
    · split at h <;> omega
  · split at h
    · omega
    · split at h <;> omega
theorem mm_iflec (hd : mm_Bz Y.2.1 pc q t .le) (kt : x ≤ y → mm_J X Y n0 n1 n t ls st M Φ) (kf : ¬ x ≤ y → mm_J X Y n0 n1 n q ls st M Φ) : mm_J X Y n0 n1 n pc ls ((0, if y < x then 1 else if x = y then 0 else -1) :: st) M Φ := by
  refine mm_ifle hd (mm_cmpR x y) (fun h => kt ?_) (fun h => kf ?_)
  · split at h
    · omega
    · split at h <;> omega
  · split at h
    · omega
    · split at h <;> omega
theorem mm_ifeqc (hd : mm_Bz Y.2.1 pc q t .eq) (kt : x = y → mm_J X Y n0 n1 n t ls st M Φ) (kf : ¬ x = y → mm_J X Y n0 n1 n q ls st M Φ) : mm_J X Y n0 n1 n pc ls ((0, if y < x then 1 else if x = y then 0 else -1) :: st) M Φ := by
  refine mm_ifeq hd (mm_cmpR x y) (fun h => kt ?_) (fun h => kf ?_)
  · split at h
    · omega
    · split at h <;> omega
  · split at h
    · omega
    · split at h <;> omega
theorem mm_ifnec (hd : mm_Bz Y.2.1 pc q t .ne) (kt : x ≠ y → mm_J X Y n0 n1 n t ls st M Φ) (kf : x = y → mm_J X Y n0 n1 n q ls st M Φ) : mm_J X Y n0 n1 n pc ls ((0, if y < x then 1 else if x = y then 0 else -1) :: st) M Φ := by
  refine mm_ifne hd (mm_cmpR x y) (fun h => kt ?_) (fun h => kf ?_)
  · split at h
    · omega
    · split at h <;> omega
  · split at h
    · omega
    · split at h <;> omega
end
theorem mm_b1 {P : Prop} [Decidable P] (h : P) : (1 : Int) = mm_b P := (mm_b_t h).symm
theorem mm_b0 {P : Prop} [Decidable P] (h : ¬ P) : (0 : Int) = mm_b P := (mm_b_f h).symm
section
variable {X : mm_X} {Y : mm_Y} {n0 n1 n pc q : Nat} {ls st : List mm_V} {M : mm_M} {Φ : mm_V → mm_M → Prop}
theorem mm_lconst0 (hd : mm_D Y.2.1 pc q (.lconst 0)) (hq : pc + 1 = q) (k : mm_J X Y n0 n1 n q ls ((1, 0) :: st) M Φ) : mm_J X Y n0 n1 n pc ls st M Φ := mm_lconst hd hq k
theorem mm_lconst1 (hd : mm_D Y.2.1 pc q (.lconst 1)) (hq : pc + 1 = q) (k : mm_J X Y n0 n1 n q ls ((1, 1) :: st) M Φ) : mm_J X Y n0 n1 n pc ls st M Φ := mm_lconst hd hq k
end
theorem mm_rt_ar {c t len i : Nat} (h : mm_sh c = (t + 1, len)) (ht : t ≠ 4) : mm_rt c i = 0 := by
  have key : mm_rl.all (fun q => (mm_sl.getD q.1 (0, 99)).1 == 0 || (mm_sl.getD q.1 (0, 99)).1 == 5) = true := by decide +kernel
  unfold mm_rt
  have : mm_rl.find? (fun q => q.1 == c && q.2.1 == i) = none := by
    rw [List.find?_eq_none]
    intro q hq hc
    have k := List.all_eq_true.mp key q hq
    simp only [Bool.and_eq_true, beq_iff_eq] at hc
    rw [hc.1] at k
    have e : mm_sl.getD c (0, 99) = (t + 1, len) := h
    rw [e] at k
    simp at k
    omega
  rw [this]
  rfl
end
/-! 25.alloc -/
section
/-! ===== cells that are made; constructors ===== -/
/-- the memory with a new cell -/
def mm_z (M : mm_M) (n : Nat) : mm_M := fun a b => if a = n then 0 else M a b
theorem mm_z_n {M : mm_M} {n a : Nat} (h : a ≠ n) : mm_z M n a = M a := by funext b; unfold mm_z; rw [if_neg h]
theorem mm_z_0 (M : mm_M) (n b : Nat) : mm_z M n n b = 0 := by unfold mm_z; rw [if_pos rfl]
theorem mm_Wd.push {D : va_G} {cA : Nat → ClassId} {bs n : Nat} {ro : Nat → Nat} {M : mm_M} {H H' : Heap} (h : mm_Wd D cA bs ro n M H) (z : H'.size = bs + n + 1) (oq : ∀ q, q < bs + n → H'[q]? = H[q]?) (hc : mm_ce D cA bs ro (mm_z M n) n H') : mm_Wd D cA bs ro (n + 1) (mm_z M n) H' := by
  refine ⟨by rw [z]; omega, fun a ha => ?_⟩
  by_cases e : a = n
  · subst e; exact hc
  · exact (h.2 a (by omega)).keep (mm_z_n e) (oq _ (by omega))
theorem mm_S.push {bs : Nat} {H0 H H' : Heap} {locs : List Loc} {n : Nat} (h : va_S (fun q => bs ≤ q) H0 H locs) (hs : H.size = bs + n) (z : H'.size = bs + n + 1) (oq : ∀ q, q < bs + n → H'[q]? = H[q]?) : va_S (fun q => bs ≤ q) H0 H' locs :=
  ⟨by rw [z]; have := h.1; omega, fun q h1 h2 => by rw [oq q (by have := h.1; omega)]; exact h.2.1 q h1 h2, h.2.2⟩
/-- what a fresh field of a class holds -/
def mm_dv (k : Nat) : Value := match k with
  | 0 => .int 0
  | 1 => .long 0
  | _ => .null
theorem mm_dv_eq (bs : Nat) (ro : Nat → Nat) (k : Nat) : mm_v bs ro (k, 0) = mm_dv k := by
  match k with
  | 0 => rfl
  | 1 => rfl
  | k + 2 => rfl
theorem mm_RAfind {cA : Nat → ClassId} {s : State} {t : Nat} (ht : t < 4) (h : va_RA s (cA t) (mm_et t)) : s.vm.findClass ("[" ++ (mm_et t).toString) = some (cA t) := by
  have h4 : t = 0 ∨ t = 1 ∨ t = 2 ∨ t = 3 := by omega
  rcases h4 with rfl | rfl | rfl | rfl
  · simp only [va_RA, mm_et] at h ⊢; exact h
  · simp only [va_RA, mm_et] at h ⊢; exact h
  · simp only [va_RA, mm_et] at h ⊢; exact h
  · simp only [va_RA, mm_et] at h ⊢; exact h
theorem mm_dvt {t : Nat} (ht : t < 4) : defaultValue (mm_et t) = mm_dv (mm_ek t) ∧ componentBytes (mm_et t) ≤ 8 := by
  match t, ht with
  | 0, _ => exact ⟨rfl, by decide⟩
  | 1, _ => exact ⟨rfl, by decide⟩
  | 2, _ => exact ⟨rfl, by decide⟩
  | 3, _ => exact ⟨rfl, by decide⟩
section
variable {X : mm_X} {Y Y' : mm_Y} {n0 n1 n n' pc q idx ci c i len : Nat} {ls st : List mm_V} {M : mm_M} {Φ Ψ : mm_V → mm_M → Prop} {x r : Int}
theorem mm_new {C : String} {T : u_T} {N : Nat} {ty : Nat → FieldType} (hd : mm_D Y.2.1 pc q (.new idx)) (hq : pc + 3 = q) (hs : mm_sh n = (0, ci)) (hcl : mm_Cl ci C T N ty) (hw1 : mm_Wk (.classLink Y.1.cls idx C)) (hw2 : mm_Wk (.instantiable C N)) (hw3 : mm_Wk (.initialized C))
    (hdv : ∀ i, i < N → defaultValue (ty i) = mm_dv (mm_fk ci i)) (hn : n0 ≤ n ∧ n + 1 ≤ n1 ∧ mm_sz n0 ≤ mm_sz n ∧ mm_sz (n + 1) = mm_sz n + N ∧ mm_sz (n + 1) ≤ mm_sz n1)
    (k : mm_J X Y n0 n1 (n + 1) q ls ((2, (n : Int) + 1) :: st) (mm_z M n) Φ) : mm_J X Y n0 n1 n pc ls st M Φ := by
  subst hq
  intro p l e R s m args below meth cd D cA bs ro H locs lsr Cx hP hS hL
  obtain ⟨hx, hb, -, -, hown, hT, -, -, -, -, -, hRc, hRs, hK, hRo, -⟩ := id Cx
  obtain ⟨h1, h2, h3, h4, h5⟩ := hcl
  obtain ⟨q1, q2, q3, q4, q5⟩ := hn
  have hKn := hK.1 ci _ h1
  have hts : ∀ w ∈ u_ws C T N, w.before args s = true := fun w hw' => hT.at (h3 w hw')
  refine W.newcK hx hb hown (hT.at hw1) (hT.at hw2) (hT.at hw3) rfl (by simpa using hd.1) (by omega) (by omega) hKn.2.1 hP.1 fun H1 kC hkC e1 z1 o1 => ?_
  have hce : mm_ce D cA bs ro (mm_z M n) n H1 := by
    refine mm_ce.of_obj hs ?_
    rw [h2]
    refine (u_born ty hts (fun _ h => h) hKn hkC e1 h4).to (fun i hi => ?_)
    rw [hdv i hi, mm_z_0, mm_dv_eq]
  have kk := k p l e R s m args below meth cd D cA bs ro H1 locs lsr Cx (hP.push z1 o1 hce) (mm_S.push hS hP.1 z1 o1) hL
  rw [List.map_cons, mm_v2, show n + 1 - n0 = n - n0 + 1 by omega, show mm_sz (n + 1) - mm_sz n0 = mm_sz n - mm_sz n0 + N by omega] at kk
  exact kk
theorem mm_newarr {t : Nat} {at' : ArrayType} (hd : mm_D Y.2.1 pc q (.newarray at')) (hq : pc + 2 = q) (hs : mm_sh n = (t + 1, len)) (ht : t < 4) (hat : newarray.typeOf at' = mm_et t) (hx0 : x = (len : Int)) (hw : mm_Wk (.arrayClass (mm_et t)))
    (hn : n0 ≤ n ∧ n + 1 ≤ n1 ∧ mm_sz n0 ≤ mm_sz n ∧ mm_sz (n + 1) = mm_sz n + len ∧ mm_sz (n + 1) ≤ mm_sz n1)
    (k : mm_J X Y n0 n1 (n + 1) q ls ((2, (n : Int) + 1) :: st) (mm_z M n) Φ) : mm_J X Y n0 n1 n pc ls ((0, x) :: st) M Φ := by
  subst hq; subst hx0
  intro p l e R s m args below meth cd D cA bs ro H locs lsr Cx hP hS hL
  obtain ⟨hx, hb, -, -, hown, hT, -, -, -, -, -, hRc, hRs, hK, hRo, -⟩ := id Cx
  obtain ⟨q1, q2, q3, q4, q5⟩ := hn
  have hl := (mm_shA n hs).1
  have hN : (mm_i (len : Int)).toNatClampNeg = len := by rw [mm_i_clamp (by omega) (by omega)]; omega
  have hcb := (mm_dvt ht).2
  have hbytes : len * componentBytes (newarray.typeOf at') ≤ 536870912 := by
    rw [hat]
    exact Nat.le_trans (Nat.mul_le_mul hl hcb) (by decide)
  have hfind := mm_RAfind ht (hK.2 t _ (mm_ty_at cA (by omega))).2
  refine W.newa hx hb (atype := at') (by rw [hat]; exact hT.at hw) rfl (by simpa using hd.1) (n := mm_i (len : Int)) (rest := st.map (mm_v bs ro)) rfl (fun h => mm_i_in (x := (len : Int)) (n := len + 1) (by omega) (by omega) (by omega) (Or.inl h)) (by rw [hN]; exact hbytes) (by omega) (by rw [hN]; omega) fun cA' kA comp f1 f2 f3 => ?_
  rw [hat, hfind] at f1
  cases f1
  rw [hN, hat]
  generalize hH1 : H.push ({ cls := cA t, slots := Array.replicate len (defaultValue (mm_et t)), vm := .none } : Cell) = H1
  have z1 : H1.size = bs + n + 1 := by rw [← hH1, Array.size_push, hP.1]
  have e1 : H1[bs + n]? = some (arrV (cA t) len (fun _ => defaultValue (mm_et t))) := by rw [← hH1, ← hP.1, Array.getElem?_push_size, ← arrV_new]
  have o1 : ∀ q : Nat, q < bs + n → H1[q]? = H[q]? := fun q hq => by rw [← hH1, Array.getElem?_push, if_neg (by rw [hP.1]; omega)]
  have hce : mm_ce D cA bs ro (mm_z M n) n H1 := by
    refine mm_ce.of_arr hs ?_
    rw [e1]
    congr 2
    funext j
    rw [mm_z_0, mm_dv_eq]
    exact (mm_dvt ht).1
  have kk := k p l e R s m args below meth cd D cA bs ro H1 locs lsr Cx (hP.push z1 o1 hce) (mm_S.push hS hP.1 z1 o1) hL
  rw [List.map_cons, mm_v2, show n + 1 - n0 = n - n0 + 1 by omega, show mm_sz (n + 1) - mm_sz n0 = mm_sz n - mm_sz n0 + len by omega] at kk
  rw [hP.1]
  exact kk
theorem mm_anew (hd : mm_D Y.2.1 pc q (.anewarray idx)) (hq : pc + 3 = q) (hs : mm_sh n = (5, len)) (hx0 : x = (len : Int)) (hw : mm_Wk (.classLink Y.1.cls idx "KitePower$Row"))
    (hn : n0 ≤ n ∧ n + 1 ≤ n1 ∧ mm_sz n0 ≤ mm_sz n ∧ mm_sz (n + 1) = mm_sz n + len ∧ mm_sz (n + 1) ≤ mm_sz n1)
    (k : mm_J X Y n0 n1 (n + 1) q ls ((2, (n : Int) + 1) :: st) (mm_z M n) Φ) : mm_J X Y n0 n1 n pc ls ((0, x) :: st) M Φ := by
  subst hq; subst hx0
  intro p l e R s m args below meth cd D cA bs ro H locs lsr Cx hP hS hL
  obtain ⟨hx, hb, -, -, hown, hT, -, -, -, -, -, hRc, hRs, hK, hRo, -⟩ := id Cx
  obtain ⟨q1, q2, q3, q4, q5⟩ := hn
  have hl := (mm_shA n hs).1
  have hN : (mm_i (len : Int)).toNatClampNeg = len := by rw [mm_i_clamp (by omega) (by omega)]; omega
  refine W.anew hx hb hown (hT.at hw) (va_AO.use hRo.2.2.2.2.2.1) rfl (by simpa using hd.1) (n := mm_i (len : Int)) (rest := st.map (mm_v bs ro)) rfl (fun h => mm_i_in (x := (len : Int)) (n := len + 1) (by omega) (by omega) (by omega) (Or.inl h)) (by rw [hN]; omega) (by omega) (by rw [hN]; omega) fun cA' kA comp f1 f2 f3 f4 => ?_
  obtain ⟨kA2, comp2, g1, g2, g3, g4⟩ := (hK.2 4 _ rfl).2
  cases f1.symm.trans g4
  rw [hN]
  generalize hH1 : H.push ({ cls := cA 4, slots := Array.replicate len .null, vm := .none } : Cell) = H1
  have z1 : H1.size = bs + n + 1 := by rw [← hH1, Array.size_push, hP.1]
  have e1 : H1[bs + n]? = some (arrV (cA 4) len (fun _ => .null)) := by rw [← hH1, ← hP.1, Array.getElem?_push_size, ← arrV_new]
  have o1 : ∀ q : Nat, q < bs + n → H1[q]? = H[q]? := fun q hq => by rw [← hH1, Array.getElem?_push, if_neg (by rw [hP.1]; omega)]
  have hce : mm_ce D cA bs ro (mm_z M n) n H1 := by
    refine mm_ce.of_arr (t := 4) hs ?_
    rw [e1]
    congr 2
    funext j
    rw [mm_z_0, mm_dv_eq]
    rfl
  have kk := k p l e R s m args below meth cd D cA bs ro H1 locs lsr Cx (hP.push z1 o1 hce) (mm_S.push hS hP.1 z1 o1) hL
  rw [List.map_cons, mm_v2, show n + 1 - n0 = n - n0 + 1 by omega, show mm_sz (n + 1) - mm_sz n0 = mm_sz n - mm_sz n0 + len by omega] at kk
  rw [hP.1]
  exact kk
/-- a row's reference into an array of rows -/
theorem mm_aast {j : Int} {d : Nat} (hd : mm_D Y.2.1 pc q .aastore) (hq : pc + 1 = q) (hr : r = (c : Int) + 1) (hc : c < n) (hs : mm_sh c = (5, len)) (hx0 : x = (d : Int) + 1) (hdn : d < n) (hsd : mm_sh d = (0, 8)) (h0 : 0 ≤ j) (h1 : j < len)
    (k : mm_J X Y n0 n1 n q ls st (mm_up M c j.toNat x) Φ) : mm_J X Y n0 n1 n pc ls ((2, x) :: (0, j) :: (2, r) :: st) M Φ := by
  subst hq; subst hr; subst hx0
  intro p l e R s m args below meth cd D cA bs ro H locs lsr Cx hP hS hL
  obtain ⟨hx, hb, -, -, hown, hT, -, -, -, -, -, hRc, hRs, hK, hRo, -⟩ := id Cx
  have ha := (hP.2 c hc).arr hs
  have hl := (mm_shA c hs).1
  obtain ⟨cell, g1, g2, g3, g4⟩ := (hP.2 d hdn).obj hsd
  obtain ⟨kA, comp, f1, f2, f3, f4⟩ := (hK.2 4 _ rfl).2
  obtain ⟨hS1, hfc, kC, hkC, hkind⟩ := hK.1 8 _ rfl
  have hcomp : comp = D.1 8 := Option.some.inj (f3.symm.trans hfc)
  rw [List.map_cons, List.map_cons, List.map_cons, mm_v2, mm_v2]
  have hin := mm_i_in h0 h1 (by omega)
  refine W.aast hx hb ha (fun _ h => by cases h) (fun h => by cases h) f1 f2 rfl (by rw [hcomp]; exact hkC) ⟨fun h => hin (Or.inl h), by rw [arrV_size]; exact Nat.not_le.mp (fun h => hin (Or.inr h))⟩ g1 (fun _ h => by rw [g3] at h; cases h) (by rw [g2]; exact hkC) (by rw [g2, hcomp]; exact va_assign ⟨hfc, kC, hkC, hkind⟩) rfl rfl (by simpa using hd.1) fun H' e1 e2 e3 => ?_
  rw [mm_i_clamp h0 (by omega)] at e1 ⊢
  exact k p l e R s m args below meth cd D cA bs ro H' _ lsr Cx (mm_arr_put (t := 4) hs hP (by rw [← mm_v2 bs ro d]; rfl) e1 e2 e3) (hS.put e2 e3 (Nat.le_add_right bs c)) hL
end
end
/-! 26.ctor -/
section
section
variable {X : mm_X} {Y Y' : mm_Y} {n0 n1 n n' pc q idx ci c i len na : Nat} {ls st stk as : List mm_V} {M : mm_M} {Φ Ψ : mm_V → mm_M → Prop} {x r : Int}
theorem mm_v2nf {bs : Nat} {ro : Nat → Nat} {ty : FieldType} (h : (∃ n, ty = .object n) ∨ ∃ t, ty = .array t) (x : Int) : narrow ty (mm_v bs ro (2, x)) = mm_v bs ro (2, x) ∧ fits ty (mm_v bs ro (2, x)) = true := by
  rcases mm_v2or bs ro x with e | ⟨a, e⟩ <;> rw [e] <;> rcases h with ⟨n, rfl⟩ | ⟨t, rfl⟩ <;> exact ⟨rfl, rfl⟩
/-- a reference into a final field, in a constructor -/
theorem mm_putr {ty : FieldType} (hd : mm_D Y.2.1 pc q (.putfield idx)) (hq : pc + 3 = q) (hf : mm_F Y.1.cls idx ci i true ty) (hty : (∃ n, ty = .object n) ∨ ∃ t, ty = .array t) (hin : Y.1.name = "<init>") (hcls : ∃ T N, vwCl[ci]? = some (Y.1.cls, T, N) ∧ ∀ j, j < N → (T j).1 = Y.1.cls) (hr : r = (c : Int) + 1) (hc : c < n) (hs : mm_sh c = (0, ci)) (hk : mm_fk ci i = 2)
    (k : mm_J X Y n0 n1 n q ls st (mm_up M c i x) Φ) : mm_J X Y n0 n1 n pc ls ((2, x) :: (2, r) :: st) M Φ := by
  subst hq; subst hr
  intro p l e R s m args below meth cd D cA bs ro H locs lsr Cx hP hS hL
  obtain ⟨hx, hb, -, -, hown, hT, -, hname, -, -, -, -, -, hK, -, -⟩ := id Cx
  obtain ⟨C, T, N, ty0, ⟨h1, h2, h3, h4, h5⟩, hi, hw, hfin, rfl⟩ := hf
  obtain ⟨T', N', hv, hdec⟩ := hcls
  have hv2 : (C, T, N) = (Y.1.cls, T', N') := Option.some.inj (h1.symm.trans hv)
  obtain ⟨rfl, rfl, rfl⟩ : C = Y.1.cls ∧ T = T' ∧ N = N' := by
    simp only [Prod.mk.injEq] at hv2; exact hv2
  obtain ⟨cell, q1, q2, q3, q4⟩ := (hP.2 c hc).obj hs
  obtain ⟨hS1, hfc, kC, hkC, hkind⟩ := hK.1 ci _ h1
  obtain ⟨cf, kf, fi, f, hfi, hsl⟩ := hS1 i hi
  have hts : ∀ w ∈ u_ws Y.1.cls T N, w.before args s = true := fun w hw' => hT.at (h3 w hw')
  have hap := va_apart (own := Y.1.cls) hts (fun _ h => h) ty0 h4 h5 hK h1
  have hlay := hts _ (u_in_lay hi)
  unfold u_lay at hlay
  rw [if_pos hfin] at hlay
  have hst := (u_facts hfc hkC (u_lays hts (fun _ h => h) hi) hfi).1
  have hcf : m.cls = cf := by
    obtain ⟨_, _, c', _, _, _, -, -, hf', -, -, -, hown2, -⟩ := Cond.laysFinal_spec hlay
    have e1 : c' = cf := by have := hfi.symm.trans hf'; simp at this; exact this.1.symm
    rw [hdec i hi] at hown2
    rw [← e1]; exact Option.some.inj (hown.symm.trans hown2)
  obtain ⟨hn1, hn2⟩ := mm_v2nf (bs := bs) (ro := ro) hty x
  have h6 := u_fits hfc hkC hkind (Or.inr hlay) hfi (h4 i hi) hn1 hn2
  have hi' : i < mm_nf ci := by rw [h2]; exact hi
  rw [List.map_cons, List.map_cons, mm_v2]
  refine W.putFinK hx hb hown (hT.at hw) hfi hst hcf (hname.trans hin) (by rw [q2]; exact h6) q1 q3 (by rw [hsl]; exact k2_hasslot (q4 i hi')) rfl rfl (by simpa using hd.1) fun H' e1 e2 e3 => ?_
  rw [hsl] at e1 ⊢
  refine k p l e R s m args below meth cd D cA bs ro H' _ lsr Cx (hP.put e2 e3 (fun a ha => mm_up_row ha) (mm_ce.of_obj hs ⟨_, e1, q2, q3, fun a ha => ?_⟩)) (hS.put e2 e3 (Nat.le_add_right bs c)) hL
  have := t_set q4 (by rw [h2]; exact hap) hi' (mm_v bs ro (2, x)) a ha
  rw [this]
  congr 1
  unfold updV
  by_cases ea : a = i
  · subst ea; rw [if_pos rfl]; show _ = mm_v bs ro (_, mm_up M c a x c a); rw [mm_up_s, hk]
  · rw [if_neg ea]; show _ = mm_v bs ro (_, mm_up M c i x c a); rw [mm_up_i ea]
/-- Object's constructor -/
theorem mm_oinit (hd : mm_D Y.2.1 pc q (.invokespecial idx)) (hq : pc + 3 = q) (hw1 : mm_Wk (.methodLink Y.1.cls idx Lib.objectInit)) (hw2 : mm_Wk (.instanceMethod Lib.objectInit)) (hw3 : mm_Wk (.code Lib.objectInit ⟨#[0xb1]⟩ 1 none)) (hr : r = (c : Int) + 1) (hfr : Nat.ble 1 Y.2.2.2.2.1 = true) (hlo : Nat.ble (mm_wd st + 12) Y.2.2.2.2.2.1 = true)
    (k : mm_J X Y n0 n1 n q ls st M Φ) : mm_J X Y n0 n1 n pc ls ((2, r) :: st) M Φ := by
  subst hq; subst hr
  intro p l e R s m args below meth cd D cA bs ro H locs lsr Cx hP hS hL
  obtain ⟨hx, hb, -, hml, hown, hT, -, hname, -, hRf, hRl, -, -, hK, -, -⟩ := id Cx
  have f1 := Nat.le_of_ble_eq_true hfr
  have f2 := Nat.le_of_ble_eq_true hlo
  rw [List.map_cons, mm_v2]
  exact W.objInit hx hb hown (hT.at hw1) (hT.at hw2) (hT.at hw3) rfl (by rw [hml]; exact hL.1) rfl (by simpa using hd.1) (by omega) (by show 2 * 0 + _ + 12 ≤ _; rw [mm_wd_eq]; omega) (k p l e R s m args below meth cd D cA bs ro H locs lsr Cx hP hS hL)
/-- a constructor of the system -/
def mm_LI (own : String) (idx : Nat) (Y' : mm_Y) (na : Nat) : Prop := mm_Lc own idx Y' na ∧ mm_Wk (.instanceMethod Y'.1) ∧ Y'.1.name = "<init>" ∧ Y'.2.2.2.1 = none ∧ Y'.2.2.2.2.2.2 = []
theorem mm_callI (hd : mm_D Y.2.1 pc q (.invokespecial idx)) (hq : pc + 3 = q) (hw : mm_LI Y.1.cls idx Y' na) (hr : r = (c : Int) + 1) (hna : as.length = na) (hst : stk = as.reverse ++ (2, r) :: st)
    (hn : mm_le n0 n n' n1) (h9 : ∀ v ∈ as, v.1 ≠ 9) (hpad : (mm_dbl ((2, r) :: as)).length ≤ Y'.2.2.1) (hfr : Y'.2.2.2.2.1 + 1 ≤ Y.2.2.2.2.1) (hlo : mm_wd st + (Y'.2.2.1 + 11) + Y'.2.2.2.2.2.1 ≤ Y.2.2.2.2.2.1)
    (hC : mm_C X Y' n n' ((2, r) :: as) M Ψ) (hk : ∀ r M', Ψ r M' → mm_Kc X Y n0 n1 n' q ls st Φ r M') : mm_J X Y n0 n1 n pc ls stk M Φ := by
  subst hst
  intro p l e R s m args below meth cd D cA bs ro H locs lsr Cx hP hS hL
  obtain ⟨hx, hb, -, hml, hown, hT, -, -, -, -, -, -, -, hK, hRo, -⟩ := id Cx
  obtain ⟨⟨w1, w2, w3, w4, w5⟩, w6, w7, w8, w9⟩ := hw
  have h9' : ∀ v ∈ (2, r) :: as, v.1 ≠ 9 := by
    intro v hv
    rcases List.mem_cons.mp hv with rfl | hv
    · show (2 : Nat) ≠ 9
      decide
    · exact h9 v hv
  have hd3 : decode Y.2.1 pc = .ok (.invokespecial idx, 3) := by
    have := hd.1
    rw [← hq] at this
    simpa using this
  have hcode : (Jvm.Cond.code Y'.1 Y'.2.1 Y'.2.2.1 none).before args s = true := by
    have := hT.at w2
    unfold mm_cw at this
    rw [w9, w8] at this
    exact this
  refine mm_callx (ig := .invokespecial idx) Cx hP hS hL hn w3 h9' hpad (hT.at w2) w2.2 hfr hlo hd3 hq ?_ hC hk
  intro T hTH X0
  have hpl : e.platform.magicAccessors = ({} : Platform).magicAccessors := by rw [X0.admits.platform]
  obtain ⟨mk, methM, cM, kP, vm₁, hnamed, hmethM, hcodeM, -, hlocalsM, -, hkP, -, hW₁, hstep₁⟩ := Steps.initColdArgs (tb := p.tables) (e := e) X0.here hx X0.warmed hpl hown w7 w4 (hT.at w1) (hT.at w6) hcode (f := F0 m pc lsr ((as.reverse ++ (2, r) :: st).map (mm_v bs ro))) rfl (a := bs + c) (argsL := as.map (mm_v bs ro)) (rest := st.map (mm_v bs ro)) (fun sig h => by rw [List.length_map, hna]; exact mm_lenOf w5 h)
    (by rw [List.map_append, List.map_cons, List.map_reverse, hr, mm_v2]) (by rw [hb]; exact hd3)
  refine ⟨vm₁, mk, X0.noted hW₁, hnamed, fun target h => hstep₁ target (fun acts => ?_)⟩
  have := h acts
  rw [List.map_cons, hr, mm_v2] at this
  exact this
end
end
/-! 30.first -/
section
/-! ===== small methods ===== -/
section
variable {X : mm_X} {M : mm_M}
theorem c_X11_isWithin {n a b : Int} (hn : mm_R n) (ha : mm_R a) (hb : mm_R b) : mm_Fn X Y_X11_isWithin 243 [(0, n), (0, a), (0, b)] M (0, mm_b (a ≤ n ∧ n ≤ b)) M := by
  refine mm_startF (ls := [(0, n), (0, a), (0, b)]) rfl ?_
  refine mm_iload_n dX11_isWithin_0 rfl rfl ?_
  refine mm_iload_n dX11_isWithin_1 rfl rfl ?_
  refine mm_iclt dX11_isWithin_2 (by omega) (by omega) (fun h2 => ?_) (fun h2 => ?_)
  · refine mm_iconst dX11_isWithin_14 rfl ?_
    refine mm_zret dX11_isWithin_15 rfl rfl (Or.inl rfl) ?_
    exact mm_fin (by unfold mm_b; split <;> omega) rfl
  · refine mm_iload_n dX11_isWithin_5 rfl rfl ?_
    refine mm_iload_n dX11_isWithin_6 rfl rfl ?_
    refine mm_icgt dX11_isWithin_7 (by omega) (by omega) (fun h7 => ?_) (fun h7 => ?_)
    · refine mm_iconst dX11_isWithin_14 rfl ?_
      refine mm_zret dX11_isWithin_15 rfl rfl (Or.inl rfl) ?_
      exact mm_fin (by unfold mm_b; split <;> omega) rfl
    · refine mm_iconst dX11_isWithin_10 rfl ?_
      refine mm_goto dX11_isWithin_11 ?_
      refine mm_zret dX11_isWithin_15 rfl rfl (Or.inr rfl) ?_
      exact mm_fin (by unfold mm_b; split <;> omega) rfl
theorem c_X11_isHour {n : Int} (hn : mm_R n) : mm_Fn X Y_X11_isHour 243 [(0, n)] M (0, mm_b (0 ≤ n ∧ n ≤ 23)) M := by
  refine mm_startF (ls := [(0, n)]) rfl ?_
  refine mm_iload_n dX11_isHour_0 rfl rfl ?_
  refine mm_iconst dX11_isHour_1 rfl ?_
  refine mm_bipush dX11_isHour_2 rfl (by decide) ?_
  refine mm_S3i dX11_isHour_4 rfl lk_X11_171 (by simp) (by simp) (by simp) rfl rfl rfl (c_X11_isWithin hn (by omega) (by omega)) ?_
  refine mm_zret dX11_isHour_7 rfl rfl (mm_b_01 _) ?_
  exact mm_fin rfl rfl
theorem c_X11_end {n : Int} (hR : mm_Rf M) (hn : mm_R n) (hl : 0 ≤ M 1 1 ∧ M 1 1 ≤ 800) : mm_Fn X Y_X11_end 243 [(2, 1), (0, n)] M (0, if 0 ≤ n ∧ n ≤ M 1 1 then n else -1) (if 0 ≤ n ∧ n ≤ M 1 1 then mm_up M 1 1 n else M) := by
  refine mm_startF (ls := [(2, 1), (0, n)]) rfl ?_
  refine mm_iload_n dX11_end_0 rfl rfl ?_
  refine mm_iflt dX11_end_1 (by omega) (fun h1 => ?_) (fun h1 => ?_)
  · refine mm_iconst dX11_end_15 rfl ?_
    refine mm_iret dX11_end_16 rfl rfl ?_
    exact mm_fin (by split <;> omega) (by rw [if_neg (by omega)])
  · refine mm_iload_n dX11_end_4 rfl rfl ?_
    refine mm_aload_n dX11_end_5 rfl rfl ?_
    refine mm_getr dX11_end_6 rfl fl_X11_10 (c := 0) rfl (by decide) rfl rfl (hR.at (c := 0) (i := 0) (v := 2) rfl (by decide)) ?_
    refine mm_get (kd := 0) dX11_end_9 rfl fl_X11_105 (c := 1) rfl (by decide) rfl rfl ?_
    refine mm_icle dX11_end_12 (by omega) (by omega) (fun h12 => ?_) (fun h12 => ?_)
    · refine mm_aload_n dX11_end_17 rfl rfl ?_
      refine mm_getr dX11_end_18 rfl fl_X11_10 (c := 0) rfl (by decide) rfl rfl (hR.at (c := 0) (i := 0) (v := 2) rfl (by decide)) ?_
      refine mm_iload_n dX11_end_21 rfl rfl ?_
      refine mm_puti dX11_end_22 rfl fl_X11_105 (c := 1) rfl (by decide) rfl rfl (fun M22 hM22 => ?_)
      have hR22 : mm_Rf M22 := by rw [hM22]; exact hR.up rfl
      refine mm_iload_n dX11_end_25 rfl rfl ?_
      refine mm_iret dX11_end_26 rfl rfl ?_
      exact mm_fin (by rw [if_pos (by omega)]) (by rw [if_pos (by omega), hM22])
    · refine mm_iconst dX11_end_15 rfl ?_
      refine mm_iret dX11_end_16 rfl rfl ?_
      exact mm_fin (by split <;> omega) (by rw [if_neg (by omega)])
end
end
/-! 31.spec -/
section
/-! ===== the kite as numbers: K 0 .. K 9 the rules, K 10 how many slants, K 20 .. their lifts, K 30 .. the windows ===== -/
def mm_KV (K : Nat → Int) : Prop := (2 ≤ K 0 ∧ K 0 ≤ 6) ∧ (2 ≤ K 1 ∧ K 1 ≤ 6) ∧ (2 ≤ K 2 ∧ K 2 ≤ 8) ∧ (5 ≤ K 3 ∧ K 3 ≤ 50) ∧ (0 ≤ K 4 ∧ K 4 ≤ 9999) ∧ (1 ≤ K 5 ∧ K 5 ≤ 99999) ∧ (0 ≤ K 6 ∧ K 6 ≤ 9999) ∧ (0 ≤ K 7 ∧ K 7 ≤ 400) ∧ (100 ≤ K 8 ∧ K 8 ≤ 400) ∧ (0 ≤ K 9 ∧ K 9 ≤ 99999) ∧ (1 ≤ K 10 ∧ K 10 ≤ 3) ∧ (∀ i, i < 3 → 0 ≤ K (20 + i) ∧ K (20 + i) ≤ 99) ∧ (∀ i, i < 6 → 0 ≤ K (30 + i) ∧ K (30 + i) ≤ 100)
theorem mm_mulb {a b A B : Int} (h1 : 0 ≤ a) (h2 : a ≤ A) (h3 : 0 ≤ b) (h4 : b ≤ B) : 0 ≤ a * b ∧ a * b ≤ A * B :=
  ⟨Int.mul_nonneg h1 h3, Int.le_trans (Int.mul_le_mul_of_nonneg_right h2 h3) (Int.mul_le_mul_of_nonneg_left h4 (Int.le_trans h1 h2))⟩
theorem mm_tdiv {a b : Int} (h : 0 ≤ a) : a.tdiv b = a / b := Int.tdiv_eq_ediv_of_nonneg h
theorem mm_tmod {a b : Int} (h : 0 ≤ a) : a.tmod b = a % b := Int.tmod_eq_emod_of_nonneg h
theorem mm_divb {a b A : Int} (h1 : 0 ≤ a) (h2 : a ≤ A) (hb : 0 < b) : 0 ≤ a / b ∧ a / b ≤ A :=
  ⟨Int.ediv_nonneg h1 (by omega), Int.le_trans (Int.ediv_le_self b h1) h2⟩
/-- how many states -/
def ks_n (K : Nat → Int) : Int := K 0 * K 1 * K 2
def ks_col (K : Nat → Int) (s : Int) : Int := s % K 0
def ks_row (K : Nat → Int) (s : Int) : Int := s / K 0 % K 1
def ks_rope (K : Nat → Int) (s : Int) : Int := s / K 0 / K 1
def ks_h (K : Nat → Int) (s : Int) : Int := K 3 * (ks_rope K s + 1) * (ks_row K s + 1) / K 1
def ks_band (K : Nat → Int) (s : Int) : Int := min 4 (ks_h K s / 40)
def ks_mv (a : Int) : Int := a / 3 % 5
def ks_dr (a : Int) : Int := a % 3
abbrev ks_side (m : Int) : Prop := m = 1 ∨ m = 2
abbrev ks_cm (K : Nat → Int) (s m : Int) : Prop := (m = 1 → 0 < ks_col K s) ∧ (m = 2 → ks_col K s + 1 < K 0) ∧ (m = 3 → ks_row K s + 1 < K 1) ∧ (m = 4 → 0 < ks_row K s)
abbrev ks_cr (K : Nat → Int) (s d : Int) : Prop := (d = 1 → ks_rope K s + 1 < K 2) ∧ (d = 2 → 0 < ks_rope K s)
abbrev ks_can (K : Nat → Int) (s a : Int) : Prop := ks_cm K s (ks_mv a) ∧ ks_cr K s (ks_dr a)
def ks_ms (K : Nat → Int) (m : Int) : Int := if m = 1 then -1 else if m = 2 then 1 else if m = 3 then K 0 else if m = 4 then -K 0 else 0
def ks_ds (K : Nat → Int) (d : Int) : Int := if d = 1 then K 0 * K 1 else if d = 2 then -(K 0 * K 1) else 0
def ks_to (K : Nat → Int) (s a : Int) : Int := s + ks_ms K (ks_mv a) + ks_ds K (ks_dr a)
/-- the pull of a slant in a column by a wind, sideways or not -/
def ks_pa (K : Nat → Int) (sl c : Int) (sw : Prop) [Decidable sw] (w : Int) : Int := if sw then K (20 + sl.toNat) * w * w * K (30 + c.toNat) / 100 * K 8 / 100 else K (20 + sl.toNat) * w * w * K (30 + c.toNat) / 100
def ks_p (K : Nat → Int) (s a w : Int) : Int := ks_pa K (a / 15) (ks_col K s) (ks_side (ks_mv a)) w
def ks_w (K : Nat → Int) (d p : Int) : Int := if d = 1 then p - K 6 else if d = 2 then -(p * K 7 / 100) - K 6 else 0
abbrev ks_st (K : Nat → Int) (s : Int) : Prop := 0 ≤ s ∧ s < ks_n K
abbrev ks_ac (K : Nat → Int) (a : Int) : Prop := 0 ≤ a ∧ a < 15 * K 10
theorem ks_nb {K : Nat → Int} (h : mm_KV K) : 8 ≤ ks_n K ∧ ks_n K ≤ 288 := by
  obtain ⟨h0, h1, h2, -⟩ := h
  unfold ks_n
  have a := mm_mulb (a := K 0) (b := K 1) (A := 6) (B := 6) (by omega) h0.2 (by omega) h1.2
  have b := mm_mulb (a := K 0 * K 1) (b := K 2) (A := 36) (B := 8) a.1 a.2 (by omega) h2.2
  have c : 4 ≤ K 0 * K 1 := by
    have : 2 * 2 ≤ K 0 * K 1 := Int.mul_le_mul h0.1 h1.1 (by omega) (by omega)
    omega
  have d : 4 * 2 ≤ K 0 * K 1 * K 2 := Int.mul_le_mul c h2.1 (by omega) (by omega)
  omega
theorem ks_colb {K : Nat → Int} (h : mm_KV K) (s : Int) : 0 ≤ ks_col K s ∧ ks_col K s < K 0 := by
  obtain ⟨h0, -⟩ := h
  exact ⟨Int.emod_nonneg _ (by omega), Int.emod_lt_of_pos _ (by omega)⟩
theorem ks_rowb {K : Nat → Int} (h : mm_KV K) (s : Int) : 0 ≤ ks_row K s ∧ ks_row K s < K 1 := by
  obtain ⟨-, h1, -⟩ := h
  exact ⟨Int.emod_nonneg _ (by omega), Int.emod_lt_of_pos _ (by omega)⟩
theorem ks_ropeb {K : Nat → Int} (h : mm_KV K) {s : Int} (hs : ks_st K s) : 0 ≤ ks_rope K s ∧ ks_rope K s < K 2 := by
  obtain ⟨h0, h1, -⟩ := h
  unfold ks_rope
  refine ⟨Int.ediv_nonneg (Int.ediv_nonneg hs.1 (by omega)) (by omega), ?_⟩
  rw [Int.ediv_lt_iff_lt_mul (by omega), Int.ediv_lt_iff_lt_mul (by omega)]
  have e : K 2 * K 1 * K 0 = ks_n K := by unfold ks_n; rw [Int.mul_comm (K 2) (K 1), Int.mul_comm _ (K 0), ← Int.mul_assoc]
  rw [e]
  exact hs.2
theorem ks_hb {K : Nat → Int} (h : mm_KV K) {s : Int} (hs : ks_st K s) : 0 ≤ ks_h K s ∧ ks_h K s ≤ 2400 ∧ 0 ≤ K 3 * (ks_rope K s + 1) ∧ K 3 * (ks_rope K s + 1) ≤ 400 ∧ 0 ≤ K 3 * (ks_rope K s + 1) * (ks_row K s + 1) ∧ K 3 * (ks_rope K s + 1) * (ks_row K s + 1) ≤ 2400 := by
  have hr := ks_ropeb h hs
  have hw := ks_rowb h s
  obtain ⟨h0, h1, h2, h3, -⟩ := h
  have a := mm_mulb (a := K 3) (b := ks_rope K s + 1) (A := 50) (B := 8) (by omega) h3.2 (by omega) (by omega)
  have b := mm_mulb (a := K 3 * (ks_rope K s + 1)) (b := ks_row K s + 1) (A := 400) (B := 6) a.1 a.2 (by omega) (by omega)
  have c := mm_divb (b := K 1) b.1 b.2 (by omega)
  unfold ks_h
  omega
theorem ks_bandb {K : Nat → Int} (h : mm_KV K) {s : Int} (hs : ks_st K s) : 0 ≤ ks_band K s ∧ ks_band K s ≤ 4 := by
  have := (ks_hb h hs).1
  have : 0 ≤ ks_h K s / 40 := Int.ediv_nonneg this (by omega)
  unfold ks_band
  omega
theorem ks_mvb {a : Int} (h : 0 ≤ a) : 0 ≤ ks_mv a ∧ ks_mv a ≤ 4 := by unfold ks_mv; omega
theorem ks_drb {a : Int} (h : 0 ≤ a) : 0 ≤ ks_dr a ∧ ks_dr a ≤ 2 := by unfold ks_dr; omega
theorem ks_slb {K : Nat → Int} {a : Int} (h : mm_KV K) (ha : ks_ac K a) : 0 ≤ a / 15 ∧ a / 15 < K 10 ∧ a / 15 < 3 := by
  obtain ⟨-, -, -, -, -, -, -, -, -, -, h10, -⟩ := h
  have := ha.1
  have := ha.2
  omega
/-- the parts of a pull, with their bounds -/
theorem ks_pab {K : Nat → Int} (h : mm_KV K) {sl c w : Int} (hs : 0 ≤ sl ∧ sl < 3) (hc : 0 ≤ c ∧ c < 6) (hw : 0 ≤ w ∧ w ≤ 120) :
    (0 ≤ K (20 + sl.toNat) ∧ K (20 + sl.toNat) ≤ 99) ∧ (0 ≤ K (30 + c.toNat) ∧ K (30 + c.toNat) ≤ 100) ∧ (0 ≤ K (20 + sl.toNat) * w ∧ K (20 + sl.toNat) * w ≤ 11880) ∧ (0 ≤ K (20 + sl.toNat) * w * w ∧ K (20 + sl.toNat) * w * w ≤ 1425600) ∧ (0 ≤ K (20 + sl.toNat) * w * w * K (30 + c.toNat) ∧ K (20 + sl.toNat) * w * w * K (30 + c.toNat) ≤ 142560000) ∧ (0 ≤ K (20 + sl.toNat) * w * w * K (30 + c.toNat) / 100 ∧ K (20 + sl.toNat) * w * w * K (30 + c.toNat) / 100 ≤ 1425600) ∧ (0 ≤ K (20 + sl.toNat) * w * w * K (30 + c.toNat) / 100 * K 8 ∧ K (20 + sl.toNat) * w * w * K (30 + c.toNat) / 100 * K 8 ≤ 570240000) := by
  obtain ⟨-, -, -, -, -, -, -, -, h8, -, -, hl, hv⟩ := h
  have a := hl sl.toNat (by omega)
  have b := hv c.toNat (by omega)
  generalize K (20 + sl.toNat) = u at a ⊢
  generalize K (30 + c.toNat) = v at b ⊢
  have c1 := mm_mulb (a := u) (b := w) (A := 99) (B := 120) a.1 a.2 hw.1 hw.2
  have c2 := mm_mulb (a := u * w) (b := w) (A := 99 * 120) (B := 120) c1.1 c1.2 hw.1 hw.2
  have c3 := mm_mulb (a := u * w * w) (b := v) (A := 99 * 120 * 120) (B := 100) c2.1 c2.2 b.1 b.2
  have c4 : 0 ≤ u * w * w * v / 100 ∧ u * w * w * v / 100 ≤ 1425600 := by omega
  have c5 := mm_mulb (a := u * w * w * v / 100) (b := K 8) (A := 1425600) (B := 400) c4.1 c4.2 (by omega) h8.2
  exact ⟨a, b, by omega, by omega, by omega, c4, by omega⟩
theorem ks_pb {K : Nat → Int} (h : mm_KV K) {sl c w : Int} {sw : Prop} [Decidable sw] (hs : 0 ≤ sl ∧ sl < 3) (hc : 0 ≤ c ∧ c < 6) (hw : 0 ≤ w ∧ w ≤ 120) : 0 ≤ ks_pa K sl c sw w ∧ ks_pa K sl c sw w ≤ 5702400 := by
  have := ks_pab h hs hc hw
  unfold ks_pa
  split <;> omega
end
/-! 32.kite -/
section
/-! ===== KitePower$Kite: what it answers of states and acts ===== -/
/-- the class's kite: its facts are a kite's, its tables are the states' -/
def mm_CK (M : mm_M) : Prop := mm_KV (M 4) ∧ M 3 2 = ks_n (M 4) ∧ ∀ s : Nat, ks_st (M 4) (s : Int) → M 6 s = ks_col (M 4) s ∧ M 7 s = ks_row (M 4) s ∧ M 8 s = ks_rope (M 4) s ∧ M 9 s = ks_h (M 4) s ∧ M 10 s = ks_band (M 4) s
theorem mm_CK.tab {M : mm_M} (h : mm_CK M) {s : Int} (hs : ks_st (M 4) s) : M 6 s.toNat = ks_col (M 4) s ∧ M 7 s.toNat = ks_row (M 4) s ∧ M 8 s.toNat = ks_rope (M 4) s ∧ M 9 s.toNat = ks_h (M 4) s ∧ M 10 s.toNat = ks_band (M 4) s := by
  have := h.2.2 s.toNat (by rw [Int.toNat_of_nonneg hs.1]; exact hs)
  rw [Int.toNat_of_nonneg hs.1] at this
  exact this
section
variable {X : mm_X} {M : mm_M} {s a m w d p : Int}
theorem c_X4_slants (hR : mm_Rf M) : mm_Fn X Y_X4_slants 243 [(2, 4)] M (0, M 4 10) M := by
  refine mm_startF (ls := [(2, 4)]) rfl ?_
  refine mm_aload_n dX4_slants_0 rfl rfl ?_
  refine mm_getr dX4_slants_1 rfl fl_X4_11 (c := 3) rfl (by decide) rfl rfl (hR.at (c := 3) (i := 0) (v := 5) rfl (by decide)) ?_
  refine mm_bipush dX4_slants_4 rfl (by decide) ?_
  refine mm_ialk (k0 := 10) dX4_slants_6 rfl (c := 4) rfl (by decide) rfl rfl (by decide) ?_
  refine mm_iret dX4_slants_7 rfl rfl ?_
  exact mm_fin rfl rfl
theorem c_X4_across (hR : mm_Rf M) : mm_Fn X Y_X4_across 243 [(2, 4)] M (0, M 4 0) M := by
  refine mm_startF (ls := [(2, 4)]) rfl ?_
  refine mm_aload_n dX4_across_0 rfl rfl ?_
  refine mm_getr dX4_across_1 rfl fl_X4_11 (c := 3) rfl (by decide) rfl rfl (hR.at (c := 3) (i := 0) (v := 5) rfl (by decide)) ?_
  refine mm_iconst dX4_across_4 rfl ?_
  refine mm_ialk (k0 := 0) dX4_across_5 rfl (c := 4) rfl (by decide) rfl rfl (by decide) ?_
  refine mm_iret dX4_across_6 rfl rfl ?_
  exact mm_fin rfl rfl
theorem c_X4_hasState (hR : mm_Rf M) (hK : mm_CK M) (hs : mm_R s) : mm_Fn X Y_X4_hasState 243 [(2, 4), (0, s)] M (0, mm_b (ks_st (M 4) s)) M := by
  have hn := ks_nb hK.1
  have e := hK.2.1
  refine mm_startF (ls := [(2, 4), (0, s)]) rfl ?_
  refine mm_iload_n dX4_hasState_0 rfl rfl ?_
  refine mm_iflt dX4_hasState_1 (by omega) (fun h1 => ?_) (fun h1 => ?_)
  · refine mm_iconst dX4_hasState_16 rfl ?_
    refine mm_zret dX4_hasState_17 rfl rfl (Or.inl rfl) ?_
    exact mm_fin (by unfold mm_b ks_st; split <;> omega) rfl
  · refine mm_iload_n dX4_hasState_4 rfl rfl ?_
    refine mm_aload_n dX4_hasState_5 rfl rfl ?_
    refine mm_get (kd := 0) dX4_hasState_6 rfl fl_X4_107 (c := 3) rfl (by decide) rfl rfl ?_
    refine mm_icge dX4_hasState_9 (by omega) (by omega) (fun h9 => ?_) (fun h9 => ?_)
    · refine mm_iconst dX4_hasState_16 rfl ?_
      refine mm_zret dX4_hasState_17 rfl rfl (Or.inl rfl) ?_
      exact mm_fin (by unfold mm_b ks_st; split <;> omega) rfl
    · refine mm_iconst dX4_hasState_12 rfl ?_
      refine mm_goto dX4_hasState_13 ?_
      refine mm_zret dX4_hasState_17 rfl rfl (Or.inr rfl) ?_
      exact mm_fin (by unfold mm_b ks_st; split <;> omega) rfl
theorem c_X4_actCount (hR : mm_Rf M) : mm_Fn X Y_X4_actCount 243 [(2, 4)] M (0, 15 * M 4 10) M := by
  refine mm_startF (ls := [(2, 4)]) rfl ?_
  refine mm_bipush dX4_actCount_0 rfl (by decide) ?_
  refine mm_aload_n dX4_actCount_2 rfl rfl ?_
  refine mm_getr dX4_actCount_3 rfl fl_X4_11 (c := 3) rfl (by decide) rfl rfl (hR.at (c := 3) (i := 0) (v := 5) rfl (by decide)) ?_
  refine mm_bipush dX4_actCount_6 rfl (by decide) ?_
  refine mm_ialk (k0 := 10) dX4_actCount_8 rfl (c := 4) rfl (by decide) rfl rfl (by decide) ?_
  refine mm_imul dX4_actCount_9 rfl ?_
  refine mm_iret dX4_actCount_10 rfl rfl ?_
  exact mm_fin rfl rfl
theorem c_X4_hasAct (hR : mm_Rf M) (hK : mm_CK M) (ha : mm_R a) : mm_Fn X Y_X4_hasAct 243 [(2, 4), (0, a)] M (0, mm_b (ks_ac (M 4) a)) M := by
  obtain ⟨-, -, -, -, -, -, -, -, -, -, h10, -⟩ := hK.1
  refine mm_startF (ls := [(2, 4), (0, a)]) rfl ?_
  refine mm_iload_n dX4_hasAct_0 rfl rfl ?_
  refine mm_iflt dX4_hasAct_1 (by omega) (fun h1 => ?_) (fun h1 => ?_)
  · refine mm_iconst dX4_hasAct_16 rfl ?_
    refine mm_zret dX4_hasAct_17 rfl rfl (Or.inl rfl) ?_
    exact mm_fin (by unfold mm_b ks_ac; split <;> omega) rfl
  · refine mm_iload_n dX4_hasAct_4 rfl rfl ?_
    refine mm_aload_n dX4_hasAct_5 rfl rfl ?_
    refine mm_V0i dX4_hasAct_6 rfl lk_X4_117 (c := 3) rfl (by decide) rfl  rfl rfl rfl (c_X4_actCount hR) ?_
    refine mm_icge dX4_hasAct_9 (by omega) (by omega) (fun h9 => ?_) (fun h9 => ?_)
    · refine mm_iconst dX4_hasAct_16 rfl ?_
      refine mm_zret dX4_hasAct_17 rfl rfl (Or.inl rfl) ?_
      exact mm_fin (by unfold mm_b ks_ac; split <;> omega) rfl
    · refine mm_iconst dX4_hasAct_12 rfl ?_
      refine mm_goto dX4_hasAct_13 ?_
      refine mm_zret dX4_hasAct_17 rfl rfl (Or.inr rfl) ?_
      exact mm_fin (by unfold mm_b ks_ac; split <;> omega) rfl
theorem c_X4_moveOf (ha : 0 ≤ a ∧ a < 1000) : mm_Fn X Y_X4_moveOf 243 [(0, a)] M (0, ks_mv a) M := by
  refine mm_startF (ls := [(0, a)]) rfl ?_
  refine mm_iload_n dX4_moveOf_0 rfl rfl ?_
  refine mm_bipush dX4_moveOf_1 rfl (by decide) ?_
  refine mm_irem dX4_moveOf_3 rfl (by omega) (by omega) (by omega) ?_
  refine mm_iconst dX4_moveOf_4 rfl ?_
  refine mm_idiv dX4_moveOf_5 rfl (by rw [mm_tmod ha.1]; omega) (by omega) (by omega) ?_
  refine mm_iret dX4_moveOf_6 rfl rfl ?_
  exact mm_fin (by rw [mm_tmod ha.1, mm_tdiv (by omega)]; unfold ks_mv; omega) rfl
theorem c_X4_drumOf (ha : 0 ≤ a ∧ a < 1000) : mm_Fn X Y_X4_drumOf 243 [(0, a)] M (0, ks_dr a) M := by
  refine mm_startF (ls := [(0, a)]) rfl ?_
  refine mm_iload_n dX4_drumOf_0 rfl rfl ?_
  refine mm_iconst dX4_drumOf_1 rfl ?_
  refine mm_irem dX4_drumOf_2 rfl (by omega) (by omega) (by omega) ?_
  refine mm_iret dX4_drumOf_3 rfl rfl ?_
  exact mm_fin (by rw [mm_tmod ha.1]; rfl) rfl
theorem c_X4_isSideways (hm : mm_R m) : mm_Fn X Y_X4_isSideways 243 [(0, m)] M (0, mm_b (ks_side m)) M := by
  refine mm_startF (ls := [(0, m)]) rfl ?_
  refine mm_iload_n dX4_isSideways_0 rfl rfl ?_
  refine mm_iconst dX4_isSideways_1 rfl ?_
  refine mm_iceq dX4_isSideways_2 (by omega) (by omega) (fun h2 => ?_) (fun h2 => ?_)
  · refine mm_iconst dX4_isSideways_10 rfl ?_
    refine mm_goto dX4_isSideways_11 ?_
    refine mm_zret dX4_isSideways_15 rfl rfl (Or.inr rfl) ?_
    exact mm_fin (by unfold mm_b ks_side; split <;> omega) rfl
  · refine mm_iload_n dX4_isSideways_5 rfl rfl ?_
    refine mm_iconst dX4_isSideways_6 rfl ?_
    refine mm_icne dX4_isSideways_7 (by omega) (by omega) (fun h7 => ?_) (fun h7 => ?_)
    · refine mm_iconst dX4_isSideways_14 rfl ?_
      refine mm_zret dX4_isSideways_15 rfl rfl (Or.inl rfl) ?_
      exact mm_fin (by unfold mm_b ks_side; split <;> omega) rfl
    · refine mm_iconst dX4_isSideways_10 rfl ?_
      refine mm_goto dX4_isSideways_11 ?_
      refine mm_zret dX4_isSideways_15 rfl rfl (Or.inr rfl) ?_
      exact mm_fin (by unfold mm_b ks_side; split <;> omega) rfl
theorem c_X4_canMove (hR : mm_Rf M) (hK : mm_CK M) (hs : ks_st (M 4) s) (hm : 0 ≤ m ∧ m ≤ 4) : mm_Fn X Y_X4_canMove 243 [(2, 4), (0, s), (0, m)] M (0, mm_b (ks_cm (M 4) s m)) M := by
  have hn := ks_nb hK.1
  have ht := hK.tab hs
  have hc := ks_colb hK.1 s
  have hr := ks_rowb hK.1 s
  obtain ⟨h0, h1, -⟩ := hK.1
  have := hs.1
  have := hs.2
  refine mm_startF (ls := [(2, 4), (0, s), (0, m)]) rfl ?_
  refine mm_iload_n dX4_canMove_0 rfl rfl ?_
  have hsw : (m < 1 ∨ 4 < m) ∨ m = 1 ∨ m = 2 ∨ m = 3 ∨ m = 4 := by omega
  rcases hsw with h1 | h1 | h1 | h1 | h1
  · refine mm_tsd (t := 108) dX4_canMove_1.1 (by omega) h1 (by decide) ?_
    refine mm_iconst dX4_canMove_108 rfl ?_
    refine mm_zret dX4_canMove_109 rfl rfl (Or.inr rfl) ?_
    exact mm_fin (by unfold mm_b ks_cm; split <;> omega) rfl
  · refine mm_tsw (t := 32) (k := 0) dX4_canMove_1.1 (by omega) (by omega) (by omega) (by omega) rfl (by decide) ?_
    refine mm_aload_n dX4_canMove_32 rfl rfl ?_
    refine mm_getr dX4_canMove_33 rfl fl_X4_18 (c := 3) rfl (by decide) rfl rfl (hR.at (c := 3) (i := 3) (v := 7) rfl (by decide)) ?_
    refine mm_iload_n dX4_canMove_36 rfl rfl ?_
    refine mm_iald dX4_canMove_37 rfl (c := 6) rfl (by decide) rfl (by omega) (by omega) ?_
    refine mm_ifle dX4_canMove_38 (by omega) (fun h38 => ?_) (fun h38 => ?_)
    · refine mm_iconst dX4_canMove_45 rfl ?_
      refine mm_zret dX4_canMove_46 rfl rfl (Or.inl rfl) ?_
      exact mm_fin (by unfold mm_b ks_cm; split <;> omega) rfl
    · refine mm_iconst dX4_canMove_41 rfl ?_
      refine mm_goto dX4_canMove_42 ?_
      refine mm_zret dX4_canMove_46 rfl rfl (Or.inr rfl) ?_
      exact mm_fin (by unfold mm_b ks_cm; split <;> omega) rfl
  · refine mm_tsw (t := 47) (k := 1) dX4_canMove_1.1 (by omega) (by omega) (by omega) (by omega) rfl (by decide) ?_
    refine mm_aload_n dX4_canMove_47 rfl rfl ?_
    refine mm_getr dX4_canMove_48 rfl fl_X4_18 (c := 3) rfl (by decide) rfl rfl (hR.at (c := 3) (i := 3) (v := 7) rfl (by decide)) ?_
    refine mm_iload_n dX4_canMove_51 rfl rfl ?_
    refine mm_iald dX4_canMove_52 rfl (c := 6) rfl (by decide) rfl (by omega) (by omega) ?_
    refine mm_aload_n dX4_canMove_53 rfl rfl ?_
    refine mm_getr dX4_canMove_54 rfl fl_X4_11 (c := 3) rfl (by decide) rfl rfl (hR.at (c := 3) (i := 0) (v := 5) rfl (by decide)) ?_
    refine mm_iconst dX4_canMove_57 rfl ?_
    refine mm_ialk (k0 := 0) dX4_canMove_58 rfl (c := 4) rfl (by decide) rfl rfl (by decide) ?_
    refine mm_iconst dX4_canMove_59 rfl ?_
    refine mm_isub dX4_canMove_60 rfl ?_
    refine mm_icge dX4_canMove_61 (by omega) (by omega) (fun h61 => ?_) (fun h61 => ?_)
    · refine mm_iconst dX4_canMove_68 rfl ?_
      refine mm_zret dX4_canMove_69 rfl rfl (Or.inl rfl) ?_
      exact mm_fin (by unfold mm_b ks_cm; split <;> omega) rfl
    · refine mm_iconst dX4_canMove_64 rfl ?_
      refine mm_goto dX4_canMove_65 ?_
      refine mm_zret dX4_canMove_69 rfl rfl (Or.inr rfl) ?_
      exact mm_fin (by unfold mm_b ks_cm; split <;> omega) rfl
  · refine mm_tsw (t := 70) (k := 2) dX4_canMove_1.1 (by omega) (by omega) (by omega) (by omega) rfl (by decide) ?_
    refine mm_aload_n dX4_canMove_70 rfl rfl ?_
    refine mm_getr dX4_canMove_71 rfl fl_X4_21 (c := 3) rfl (by decide) rfl rfl (hR.at (c := 3) (i := 4) (v := 8) rfl (by decide)) ?_
    refine mm_iload_n dX4_canMove_74 rfl rfl ?_
    refine mm_iald dX4_canMove_75 rfl (c := 7) rfl (by decide) rfl (by omega) (by omega) ?_
    refine mm_aload_n dX4_canMove_76 rfl rfl ?_
    refine mm_getr dX4_canMove_77 rfl fl_X4_11 (c := 3) rfl (by decide) rfl rfl (hR.at (c := 3) (i := 0) (v := 5) rfl (by decide)) ?_
    refine mm_iconst dX4_canMove_80 rfl ?_
    refine mm_ialk (k0 := 1) dX4_canMove_81 rfl (c := 4) rfl (by decide) rfl rfl (by decide) ?_
    refine mm_iconst dX4_canMove_82 rfl ?_
    refine mm_isub dX4_canMove_83 rfl ?_
    refine mm_icge dX4_canMove_84 (by omega) (by omega) (fun h84 => ?_) (fun h84 => ?_)
    · refine mm_iconst dX4_canMove_91 rfl ?_
      refine mm_zret dX4_canMove_92 rfl rfl (Or.inl rfl) ?_
      exact mm_fin (by unfold mm_b ks_cm; split <;> omega) rfl
    · refine mm_iconst dX4_canMove_87 rfl ?_
      refine mm_goto dX4_canMove_88 ?_
      refine mm_zret dX4_canMove_92 rfl rfl (Or.inr rfl) ?_
      exact mm_fin (by unfold mm_b ks_cm; split <;> omega) rfl
  · refine mm_tsw (t := 93) (k := 3) dX4_canMove_1.1 (by omega) (by omega) (by omega) (by omega) rfl (by decide) ?_
    refine mm_aload_n dX4_canMove_93 rfl rfl ?_
    refine mm_getr dX4_canMove_94 rfl fl_X4_21 (c := 3) rfl (by decide) rfl rfl (hR.at (c := 3) (i := 4) (v := 8) rfl (by decide)) ?_
    refine mm_iload_n dX4_canMove_97 rfl rfl ?_
    refine mm_iald dX4_canMove_98 rfl (c := 7) rfl (by decide) rfl (by omega) (by omega) ?_
    refine mm_ifle dX4_canMove_99 (by omega) (fun h99 => ?_) (fun h99 => ?_)
    · refine mm_iconst dX4_canMove_106 rfl ?_
      refine mm_zret dX4_canMove_107 rfl rfl (Or.inl rfl) ?_
      exact mm_fin (by unfold mm_b ks_cm; split <;> omega) rfl
    · refine mm_iconst dX4_canMove_102 rfl ?_
      refine mm_goto dX4_canMove_103 ?_
      refine mm_zret dX4_canMove_107 rfl rfl (Or.inr rfl) ?_
      exact mm_fin (by unfold mm_b ks_cm; split <;> omega) rfl
theorem c_X4_canReel (hR : mm_Rf M) (hK : mm_CK M) (hs : ks_st (M 4) s) (hd : 0 ≤ d ∧ d ≤ 2) : mm_Fn X Y_X4_canReel 243 [(2, 4), (0, s), (0, d)] M (0, mm_b (ks_cr (M 4) s d)) M := by
  have hn := ks_nb hK.1
  have ht := hK.tab hs
  have hc := ks_ropeb hK.1 hs
  obtain ⟨h0, h1, h2, -⟩ := hK.1
  have := hs.1
  have := hs.2
  refine mm_startF (ls := [(2, 4), (0, s), (0, d)]) rfl ?_
  refine mm_iload_n dX4_canReel_0 rfl rfl ?_
  refine mm_iconst dX4_canReel_1 rfl ?_
  refine mm_icne dX4_canReel_2 (by omega) (by omega) (fun h2 => ?_) (fun h2 => ?_)
  · refine mm_iload_n dX4_canReel_28 rfl rfl ?_
    refine mm_iconst dX4_canReel_29 rfl ?_
    refine mm_icne dX4_canReel_30 (by omega) (by omega) (fun h30 => ?_) (fun h30 => ?_)
    · refine mm_iconst dX4_canReel_42 rfl ?_
      refine mm_goto dX4_canReel_43 ?_
      refine mm_zret dX4_canReel_47 rfl rfl (Or.inr rfl) ?_
      exact mm_fin (by unfold mm_b ks_cr; split <;> omega) rfl
    · refine mm_aload_n dX4_canReel_33 rfl rfl ?_
      refine mm_getr dX4_canReel_34 rfl fl_X4_24 (c := 3) rfl (by decide) rfl rfl (hR.at (c := 3) (i := 5) (v := 9) rfl (by decide)) ?_
      refine mm_iload_n dX4_canReel_37 rfl rfl ?_
      refine mm_iald dX4_canReel_38 rfl (c := 8) rfl (by decide) rfl (by omega) (by omega) ?_
      refine mm_ifle dX4_canReel_39 (by omega) (fun h39 => ?_) (fun h39 => ?_)
      · refine mm_iconst dX4_canReel_46 rfl ?_
        refine mm_zret dX4_canReel_47 rfl rfl (Or.inl rfl) ?_
        exact mm_fin (by unfold mm_b ks_cr; split <;> omega) rfl
      · refine mm_iconst dX4_canReel_42 rfl ?_
        refine mm_goto dX4_canReel_43 ?_
        refine mm_zret dX4_canReel_47 rfl rfl (Or.inr rfl) ?_
        exact mm_fin (by unfold mm_b ks_cr; split <;> omega) rfl
  · refine mm_aload_n dX4_canReel_5 rfl rfl ?_
    refine mm_getr dX4_canReel_6 rfl fl_X4_24 (c := 3) rfl (by decide) rfl rfl (hR.at (c := 3) (i := 5) (v := 9) rfl (by decide)) ?_
    refine mm_iload_n dX4_canReel_9 rfl rfl ?_
    refine mm_iald dX4_canReel_10 rfl (c := 8) rfl (by decide) rfl (by omega) (by omega) ?_
    refine mm_aload_n dX4_canReel_11 rfl rfl ?_
    refine mm_getr dX4_canReel_12 rfl fl_X4_11 (c := 3) rfl (by decide) rfl rfl (hR.at (c := 3) (i := 0) (v := 5) rfl (by decide)) ?_
    refine mm_iconst dX4_canReel_15 rfl ?_
    refine mm_ialk (k0 := 2) dX4_canReel_16 rfl (c := 4) rfl (by decide) rfl rfl (by decide) ?_
    refine mm_iconst dX4_canReel_17 rfl ?_
    refine mm_isub dX4_canReel_18 rfl ?_
    refine mm_icge dX4_canReel_19 (by omega) (by omega) (fun h19 => ?_) (fun h19 => ?_)
    · refine mm_iconst dX4_canReel_26 rfl ?_
      refine mm_zret dX4_canReel_27 rfl rfl (Or.inl rfl) ?_
      exact mm_fin (by unfold mm_b ks_cr; split <;> omega) rfl
    · refine mm_iconst dX4_canReel_22 rfl ?_
      refine mm_goto dX4_canReel_23 ?_
      refine mm_zret dX4_canReel_27 rfl rfl (Or.inr rfl) ?_
      exact mm_fin (by unfold mm_b ks_cr; split <;> omega) rfl
theorem c_X4_moveStep (hR : mm_Rf M) (hm : 0 ≤ m ∧ m ≤ 4) : mm_Fn X Y_X4_moveStep 243 [(2, 4), (0, m)] M (0, ks_ms (M 4) m) M := by
  refine mm_startF (ls := [(2, 4), (0, m)]) rfl ?_
  refine mm_iload_n dX4_moveStep_0 rfl rfl ?_
  have hsw : (m < 1 ∨ 4 < m) ∨ m = 1 ∨ m = 2 ∨ m = 3 ∨ m = 4 := by omega
  rcases hsw with h1 | h1 | h1 | h1 | h1
  · refine mm_tsd (t := 51) dX4_moveStep_1.1 (by omega) h1 (by decide) ?_
    refine mm_iconst dX4_moveStep_51 rfl ?_
    refine mm_iret dX4_moveStep_52 rfl rfl ?_
    exact mm_fin (by unfold ks_ms; first | omega | (subst_vars; rfl) | (simp [*]; done) | (rw [if_neg (by omega), if_neg (by omega), if_neg (by omega), if_neg (by omega)])) rfl
  · refine mm_tsw (t := 32) (k := 0) dX4_moveStep_1.1 (by omega) (by omega) (by omega) (by omega) rfl (by decide) ?_
    refine mm_iconst dX4_moveStep_32 rfl ?_
    refine mm_iret dX4_moveStep_33 rfl rfl ?_
    exact mm_fin (by unfold ks_ms; first | omega | (subst_vars; rfl) | (simp [*]; done) | (rw [if_neg (by omega), if_neg (by omega), if_neg (by omega), if_neg (by omega)])) rfl
  · refine mm_tsw (t := 34) (k := 1) dX4_moveStep_1.1 (by omega) (by omega) (by omega) (by omega) rfl (by decide) ?_
    refine mm_iconst dX4_moveStep_34 rfl ?_
    refine mm_iret dX4_moveStep_35 rfl rfl ?_
    exact mm_fin (by unfold ks_ms; first | omega | (subst_vars; rfl) | (simp [*]; done) | (rw [if_neg (by omega), if_neg (by omega), if_neg (by omega), if_neg (by omega)])) rfl
  · refine mm_tsw (t := 36) (k := 2) dX4_moveStep_1.1 (by omega) (by omega) (by omega) (by omega) rfl (by decide) ?_
    refine mm_aload_n dX4_moveStep_36 rfl rfl ?_
    refine mm_getr dX4_moveStep_37 rfl fl_X4_11 (c := 3) rfl (by decide) rfl rfl (hR.at (c := 3) (i := 0) (v := 5) rfl (by decide)) ?_
    refine mm_iconst dX4_moveStep_40 rfl ?_
    refine mm_ialk (k0 := 0) dX4_moveStep_41 rfl (c := 4) rfl (by decide) rfl rfl (by decide) ?_
    refine mm_iret dX4_moveStep_42 rfl rfl ?_
    exact mm_fin (by unfold ks_ms; first | omega | (subst_vars; rfl) | (simp [*]; done) | (rw [if_neg (by omega), if_neg (by omega), if_neg (by omega), if_neg (by omega)])) rfl
  · refine mm_tsw (t := 43) (k := 3) dX4_moveStep_1.1 (by omega) (by omega) (by omega) (by omega) rfl (by decide) ?_
    refine mm_aload_n dX4_moveStep_43 rfl rfl ?_
    refine mm_getr dX4_moveStep_44 rfl fl_X4_11 (c := 3) rfl (by decide) rfl rfl (hR.at (c := 3) (i := 0) (v := 5) rfl (by decide)) ?_
    refine mm_iconst dX4_moveStep_47 rfl ?_
    refine mm_ialk (k0 := 0) dX4_moveStep_48 rfl (c := 4) rfl (by decide) rfl rfl (by decide) ?_
    refine mm_ineg dX4_moveStep_49 rfl ?_
    refine mm_iret dX4_moveStep_50 rfl rfl ?_
    exact mm_fin (by unfold ks_ms; first | omega | (subst_vars; rfl) | (simp [*]; done) | (rw [if_neg (by omega), if_neg (by omega), if_neg (by omega), if_neg (by omega)])) rfl
theorem c_X4_drumStep (hR : mm_Rf M) (hK : mm_CK M) (hd : 0 ≤ d ∧ d ≤ 2) : mm_Fn X Y_X4_drumStep 243 [(2, 4), (0, d)] M (0, ks_ds (M 4) d) M := by
  obtain ⟨h0, h1, h2, -⟩ := hK.1
  refine mm_startF (ls := [(2, 4), (0, d), (9, 0)]) rfl ?_
  refine mm_aload_n dX4_drumStep_0 rfl rfl ?_
  refine mm_getr dX4_drumStep_1 rfl fl_X4_11 (c := 3) rfl (by decide) rfl rfl (hR.at (c := 3) (i := 0) (v := 5) rfl (by decide)) ?_
  refine mm_iconst dX4_drumStep_4 rfl ?_
  refine mm_ialk (k0 := 0) dX4_drumStep_5 rfl (c := 4) rfl (by decide) rfl rfl (by decide) ?_
  refine mm_aload_n dX4_drumStep_6 rfl rfl ?_
  refine mm_getr dX4_drumStep_7 rfl fl_X4_11 (c := 3) rfl (by decide) rfl rfl (hR.at (c := 3) (i := 0) (v := 5) rfl (by decide)) ?_
  refine mm_iconst dX4_drumStep_10 rfl ?_
  refine mm_ialk (k0 := 1) dX4_drumStep_11 rfl (c := 4) rfl (by decide) rfl rfl (by decide) ?_
  refine mm_imul dX4_drumStep_12 rfl ?_
  refine mm_istore_n dX4_drumStep_13 rfl (Nat.le_of_ble_eq_true rfl) rfl ?_
  refine mm_iload_n dX4_drumStep_14 rfl rfl ?_
  refine mm_iconst dX4_drumStep_15 rfl ?_
  refine mm_icne dX4_drumStep_16 (by omega) (by omega) (fun h16 => ?_) (fun h16 => ?_)
  · refine mm_iload_n dX4_drumStep_21 rfl rfl ?_
    refine mm_iconst dX4_drumStep_22 rfl ?_
    refine mm_icne dX4_drumStep_23 (by omega) (by omega) (fun h23 => ?_) (fun h23 => ?_)
    · refine mm_iconst dX4_drumStep_31 rfl ?_
      refine mm_iret dX4_drumStep_32 rfl rfl ?_
      exact mm_fin (by unfold ks_ds; first | (subst_vars; rfl) | (simp [*]; done)) rfl
    · refine mm_iload_n dX4_drumStep_26 rfl rfl ?_
      refine mm_ineg dX4_drumStep_27 rfl ?_
      refine mm_goto dX4_drumStep_28 ?_
      refine mm_iret dX4_drumStep_32 rfl rfl ?_
      exact mm_fin (by unfold ks_ds; first | (subst_vars; rfl) | (simp [*]; done)) rfl
  · refine mm_iload_n dX4_drumStep_19 rfl rfl ?_
    refine mm_iret dX4_drumStep_20 rfl rfl ?_
    exact mm_fin (by unfold ks_ds; first | (subst_vars; rfl) | (simp [*]; done)) rfl
end
end
/-! 33.kite2 -/
section
theorem ks_wb {K : Nat → Int} (h : mm_KV K) {p : Int} (hp : 0 ≤ p ∧ p ≤ 1425600) : 0 ≤ p * K 7 ∧ p * K 7 ≤ 570240000 := by
  obtain ⟨-, -, -, -, -, -, -, h7, -⟩ := h
  have := mm_mulb (a := p) (b := K 7) (A := 1425600) (B := 400) hp.1 hp.2 (by omega) h7.2
  omega
/-- the act, with stay or hold for what would leave the states -/
def ks_in (K : Nat → Int) (s a : Int) : Int := (if ks_cm K s (ks_mv a) then a else a - 3 * ks_mv a) - (if ks_cr K s (ks_dr a) then 0 else ks_dr a)
def ks_fate (K : Nat → Int) (p : Int) : Int := if p < K 4 then 1 else if K 5 < p then 2 else 0
abbrev ks_bears (K : Nat → Int) (pl ph : Int) : Prop := K 4 ≤ pl ∧ ph ≤ K 5
def ks_told (K : Nat → Int) (x : Int) : Int := if (0 ≤ x ∧ x ≤ 10) ∨ (20 ≤ x ∧ x - 20 < K 10) ∨ (30 ≤ x ∧ x - 30 < K 0) then K x.toNat else -1
section
variable {X : mm_X} {M : mm_M} {s a m w d p p2 sl c : Int}
theorem c_X4_goal (hR : mm_Rf M) (hK : mm_CK M) (hs : ks_st (M 4) s) (ha : ks_ac (M 4) a) : mm_Fn X Y_X4_goal 243 [(2, 4), (0, s), (0, a)] M (0, if ks_can (M 4) s a then ks_to (M 4) s a else -1) M := by
  have hsl := ks_slb hK.1 ha
  have hm := ks_mvb ha.1
  have hd := ks_drb ha.1
  have h45 : a < 1000 := by omega
  refine mm_startF (ls := [(2, 4), (0, s), (0, a), (9, 0), (9, 0), (9, 0)]) rfl ?_
  refine mm_iload_n dX4_goal_0 rfl rfl ?_
  refine mm_S1i dX4_goal_1 rfl lk_X4_121 (by simp) rfl rfl rfl (c_X4_moveOf ⟨ha.1, h45⟩) ?_
  refine mm_istore_n dX4_goal_4 rfl (Nat.le_of_ble_eq_true rfl) rfl ?_
  refine mm_iload_n dX4_goal_5 rfl rfl ?_
  refine mm_S1i dX4_goal_6 rfl lk_X4_125 (by simp) rfl rfl rfl (c_X4_drumOf ⟨ha.1, h45⟩) ?_
  refine mm_istore dX4_goal_9 rfl (Nat.le_of_ble_eq_true rfl) rfl ?_
  refine mm_aload_n dX4_goal_11 rfl rfl ?_
  refine mm_iload_n dX4_goal_12 rfl rfl ?_
  refine mm_iload_n dX4_goal_13 rfl rfl ?_
  refine mm_V2i dX4_goal_14 rfl lk_X4_128 (c := 3) rfl (by decide) rfl (by simp) (by simp) rfl rfl rfl (c_X4_canMove hR hK hs hm) ?_
  refine mm_ifeqb dX4_goal_17 (fun h17 => ?_) (fun h17 => ?_)
  · refine mm_iconst dX4_goal_34 rfl ?_
    refine mm_istore dX4_goal_35 rfl (Nat.le_of_ble_eq_true rfl) rfl ?_
    refine mm_iload dX4_goal_37 rfl rfl ?_
    refine mm_ifeq dX4_goal_39 (by omega) (fun _ => ?_) (fun h => absurd (by decide) h)
    refine mm_iconst dX4_goal_59 rfl ?_
    refine mm_iret dX4_goal_60 rfl rfl ?_
    refine mm_fin ?_ rfl
    first
    | (rw [if_pos ⟨h17, h27⟩]; rfl)
    | (rw [if_neg (fun q => h17 q.1)]; done)
    | (rw [if_neg (fun q => h27 q.2)]; done)
  · refine mm_aload_n dX4_goal_20 rfl rfl ?_
    refine mm_iload_n dX4_goal_21 rfl rfl ?_
    refine mm_iload dX4_goal_22 rfl rfl ?_
    refine mm_V2i dX4_goal_24 rfl lk_X4_131 (c := 3) rfl (by decide) rfl (by simp) (by simp) rfl rfl rfl (c_X4_canReel hR hK hs hd) ?_
    refine mm_ifeqb dX4_goal_27 (fun h27 => ?_) (fun h27 => ?_)
    · refine mm_iconst dX4_goal_34 rfl ?_
      refine mm_istore dX4_goal_35 rfl (Nat.le_of_ble_eq_true rfl) rfl ?_
      refine mm_iload dX4_goal_37 rfl rfl ?_
      refine mm_ifeq dX4_goal_39 (by omega) (fun _ => ?_) (fun h => absurd (by decide) h)
      refine mm_iconst dX4_goal_59 rfl ?_
      refine mm_iret dX4_goal_60 rfl rfl ?_
      refine mm_fin ?_ rfl
      first
      | (rw [if_pos ⟨h17, h27⟩]; rfl)
      | (rw [if_neg (fun q => h17 q.1)]; done)
      | (rw [if_neg (fun q => h27 q.2)]; done)
    · refine mm_iconst dX4_goal_30 rfl ?_
      refine mm_goto dX4_goal_31 ?_
      refine mm_istore dX4_goal_35 rfl (Nat.le_of_ble_eq_true rfl) rfl ?_
      refine mm_iload dX4_goal_37 rfl rfl ?_
      refine mm_ifeq dX4_goal_39 (by omega) (fun h => absurd h (by decide)) (fun _ => ?_)
      refine mm_iload_n dX4_goal_42 rfl rfl ?_
      refine mm_aload_n dX4_goal_43 rfl rfl ?_
      refine mm_iload_n dX4_goal_44 rfl rfl ?_
      refine mm_V1i dX4_goal_45 rfl lk_X4_134 (c := 3) rfl (by decide) rfl (by simp) rfl rfl rfl (c_X4_moveStep hR hm) ?_
      refine mm_iadd dX4_goal_48 rfl ?_
      refine mm_aload_n dX4_goal_49 rfl rfl ?_
      refine mm_iload dX4_goal_50 rfl rfl ?_
      refine mm_V1i dX4_goal_52 rfl lk_X4_137 (c := 3) rfl (by decide) rfl (by simp) rfl rfl rfl (c_X4_drumStep hR hK hd) ?_
      refine mm_iadd dX4_goal_55 rfl ?_
      refine mm_goto dX4_goal_56 ?_
      refine mm_iret dX4_goal_60 rfl rfl ?_
      refine mm_fin ?_ rfl
      first
      | (rw [if_pos ⟨h17, h27⟩]; rfl)
      | (rw [if_neg (fun q => h17 q.1)]; done)
      | (rw [if_neg (fun q => h27 q.2)]; done)
theorem c_X4_withinStates (hR : mm_Rf M) (hK : mm_CK M) (hs : ks_st (M 4) s) (ha : ks_ac (M 4) a) : mm_Fn X Y_X4_withinStates 243 [(2, 4), (0, s), (0, a)] M (0, ks_in (M 4) s a) M := by
  have hsl := ks_slb hK.1 ha
  have hm := ks_mvb ha.1
  have hd := ks_drb ha.1
  have h45 : a < 1000 := by omega
  refine mm_startF (ls := [(2, 4), (0, s), (0, a), (9, 0), (9, 0), (9, 0)]) rfl ?_
  refine mm_iload_n dX4_withinStates_0 rfl rfl ?_
  refine mm_S1i dX4_withinStates_1 rfl lk_X4_121 (by simp) rfl rfl rfl (c_X4_moveOf ⟨ha.1, h45⟩) ?_
  refine mm_istore_n dX4_withinStates_4 rfl (Nat.le_of_ble_eq_true rfl) rfl ?_
  refine mm_iload_n dX4_withinStates_5 rfl rfl ?_
  refine mm_S1i dX4_withinStates_6 rfl lk_X4_125 (by simp) rfl rfl rfl (c_X4_drumOf ⟨ha.1, h45⟩) ?_
  refine mm_istore dX4_withinStates_9 rfl (Nat.le_of_ble_eq_true rfl) rfl ?_
  refine mm_aload_n dX4_withinStates_11 rfl rfl ?_
  refine mm_iload_n dX4_withinStates_12 rfl rfl ?_
  refine mm_iload_n dX4_withinStates_13 rfl rfl ?_
  refine mm_V2i dX4_withinStates_14 rfl lk_X4_128 (c := 3) rfl (by decide) rfl (by simp) (by simp) rfl rfl rfl (c_X4_canMove hR hK hs hm) ?_
  refine mm_ifeqb dX4_withinStates_17 (fun h17 => ?_) (fun h17 => ?_)
  · refine mm_iload_n dX4_withinStates_24 rfl rfl ?_
    refine mm_iconst dX4_withinStates_25 rfl ?_
    refine mm_iload_n dX4_withinStates_26 rfl rfl ?_
    refine mm_imul dX4_withinStates_27 rfl ?_
    refine mm_isub dX4_withinStates_28 rfl ?_
    refine mm_istore dX4_withinStates_29 rfl (Nat.le_of_ble_eq_true rfl) rfl ?_
    refine mm_aload_n dX4_withinStates_31 rfl rfl ?_
    refine mm_iload_n dX4_withinStates_32 rfl rfl ?_
    refine mm_iload dX4_withinStates_33 rfl rfl ?_
    refine mm_V2i dX4_withinStates_35 rfl lk_X4_131 (c := 3) rfl (by decide) rfl (by simp) (by simp) rfl rfl rfl (c_X4_canReel hR hK hs hd) ?_
    refine mm_ifeqb dX4_withinStates_38 (fun h38 => ?_) (fun h38 => ?_)
    · refine mm_iload dX4_withinStates_46 rfl rfl ?_
      refine mm_iload dX4_withinStates_48 rfl rfl ?_
      refine mm_isub dX4_withinStates_50 rfl ?_
      refine mm_iret dX4_withinStates_51 rfl rfl ?_
      exact mm_fin (by unfold ks_in; (first | rw [if_pos h17, if_pos h38] | rw [if_pos h17, if_neg h38] | rw [if_neg h17, if_pos h38] | rw [if_neg h17, if_neg h38]); try omega) rfl
    · refine mm_iload dX4_withinStates_41 rfl rfl ?_
      refine mm_goto dX4_withinStates_43 ?_
      refine mm_iret dX4_withinStates_51 rfl rfl ?_
      exact mm_fin (by unfold ks_in; (first | rw [if_pos h17, if_pos h38] | rw [if_pos h17, if_neg h38] | rw [if_neg h17, if_pos h38] | rw [if_neg h17, if_neg h38]); try omega) rfl
  · refine mm_iload_n dX4_withinStates_20 rfl rfl ?_
    refine mm_goto dX4_withinStates_21 ?_
    refine mm_istore dX4_withinStates_29 rfl (Nat.le_of_ble_eq_true rfl) rfl ?_
    refine mm_aload_n dX4_withinStates_31 rfl rfl ?_
    refine mm_iload_n dX4_withinStates_32 rfl rfl ?_
    refine mm_iload dX4_withinStates_33 rfl rfl ?_
    refine mm_V2i dX4_withinStates_35 rfl lk_X4_131 (c := 3) rfl (by decide) rfl (by simp) (by simp) rfl rfl rfl (c_X4_canReel hR hK hs hd) ?_
    refine mm_ifeqb dX4_withinStates_38 (fun h38 => ?_) (fun h38 => ?_)
    · refine mm_iload dX4_withinStates_46 rfl rfl ?_
      refine mm_iload dX4_withinStates_48 rfl rfl ?_
      refine mm_isub dX4_withinStates_50 rfl ?_
      refine mm_iret dX4_withinStates_51 rfl rfl ?_
      exact mm_fin (by unfold ks_in; (first | rw [if_pos h17, if_pos h38] | rw [if_pos h17, if_neg h38] | rw [if_neg h17, if_pos h38] | rw [if_neg h17, if_neg h38]); try omega) rfl
    · refine mm_iload dX4_withinStates_41 rfl rfl ?_
      refine mm_goto dX4_withinStates_43 ?_
      refine mm_iret dX4_withinStates_51 rfl rfl ?_
      exact mm_fin (by unfold ks_in; (first | rw [if_pos h17, if_pos h38] | rw [if_pos h17, if_neg h38] | rw [if_neg h17, if_pos h38] | rw [if_neg h17, if_neg h38]); try omega) rfl
theorem c_X4_pullAt {P : Prop} [Decidable P] (hR : mm_Rf M) (hK : mm_CK M) (hsl : 0 ≤ sl ∧ sl < 3) (hc : 0 ≤ c ∧ c < 6) (hw : 0 ≤ w ∧ w ≤ 120) : mm_Fn X Y_X4_pullAt 243 [(2, 4), (0, sl), (0, c), (0, mm_b P), (0, w)] M (0, ks_pa (M 4) sl c P w) M := by
  have hb := ks_pab hK.1 hsl hc hw
  have hp := ks_pb (sw := P) hK.1 hsl hc hw
  refine mm_startF (ls := [(2, 4), (0, sl), (0, c), (0, mm_b P), (0, w), (9, 0)]) rfl ?_
  refine mm_aload_n dX4_pullAt_0 rfl rfl ?_
  refine mm_getr dX4_pullAt_1 rfl fl_X4_11 (c := 3) rfl (by decide) rfl rfl (hR.at (c := 3) (i := 0) (v := 5) rfl (by decide)) ?_
  refine mm_bipush dX4_pullAt_4 rfl (by decide) ?_
  refine mm_iload_n dX4_pullAt_6 rfl rfl ?_
  refine mm_iadd dX4_pullAt_7 rfl ?_
  refine mm_ialk (k0 := 20 + sl.toNat) dX4_pullAt_8 rfl (c := 4) rfl (by decide) rfl (by omega) (by omega) ?_
  refine mm_iload dX4_pullAt_9 rfl rfl ?_
  refine mm_imul dX4_pullAt_11 rfl ?_
  refine mm_iload dX4_pullAt_12 rfl rfl ?_
  refine mm_imul dX4_pullAt_14 rfl ?_
  refine mm_aload_n dX4_pullAt_15 rfl rfl ?_
  refine mm_getr dX4_pullAt_16 rfl fl_X4_11 (c := 3) rfl (by decide) rfl rfl (hR.at (c := 3) (i := 0) (v := 5) rfl (by decide)) ?_
  refine mm_bipush dX4_pullAt_19 rfl (by decide) ?_
  refine mm_iload_n dX4_pullAt_21 rfl rfl ?_
  refine mm_iadd dX4_pullAt_22 rfl ?_
  refine mm_ialk (k0 := 30 + c.toNat) dX4_pullAt_23 rfl (c := 4) rfl (by decide) rfl (by omega) (by omega) ?_
  refine mm_imul dX4_pullAt_24 rfl ?_
  refine mm_bipush dX4_pullAt_25 rfl (by decide) ?_
  refine mm_idiv dX4_pullAt_27 rfl (by omega) (by omega) (by omega) ?_
  rw [mm_tdiv (by omega)]
  refine mm_istore dX4_pullAt_28 rfl (Nat.le_of_ble_eq_true rfl) rfl ?_
  refine mm_iload_n dX4_pullAt_30 rfl rfl ?_
  refine mm_ifeqb dX4_pullAt_31 (fun h31 => ?_) (fun h31 => ?_)
  · refine mm_iload dX4_pullAt_50 rfl rfl ?_
    refine mm_iret dX4_pullAt_52 rfl rfl ?_
    exact mm_fin (by unfold ks_pa; first | (rw [if_neg h31]; done) | (rw [if_pos h31, mm_tdiv (by omega)])) rfl
  · refine mm_iload dX4_pullAt_34 rfl rfl ?_
    refine mm_aload_n dX4_pullAt_36 rfl rfl ?_
    refine mm_getr dX4_pullAt_37 rfl fl_X4_11 (c := 3) rfl (by decide) rfl rfl (hR.at (c := 3) (i := 0) (v := 5) rfl (by decide)) ?_
    refine mm_bipush dX4_pullAt_40 rfl (by decide) ?_
    refine mm_ialk (k0 := 8) dX4_pullAt_42 rfl (c := 4) rfl (by decide) rfl rfl (by decide) ?_
    refine mm_imul dX4_pullAt_43 rfl ?_
    refine mm_bipush dX4_pullAt_44 rfl (by decide) ?_
    refine mm_idiv dX4_pullAt_46 rfl (by omega) (by omega) (by omega) ?_
    refine mm_goto dX4_pullAt_47 ?_
    refine mm_iret dX4_pullAt_52 rfl rfl ?_
    exact mm_fin (by unfold ks_pa; first | (rw [if_neg h31]; done) | (rw [if_pos h31, mm_tdiv (by omega)])) rfl
theorem c_X4_pullOf (hR : mm_Rf M) (hK : mm_CK M) (hs : ks_st (M 4) s) (ha : ks_ac (M 4) a) (hw : 0 ≤ w ∧ w ≤ 120) : mm_Fn X Y_X4_pullOf 243 [(2, 4), (0, s), (0, a), (0, w)] M (0, ks_p (M 4) s a w) M := by
  have hsl := ks_slb hK.1 ha
  have hm := ks_mvb ha.1
  have h45 : a < 1000 := by omega
  have hn := ks_nb hK.1
  have ht := hK.tab hs
  have hc := ks_colb hK.1 s
  obtain ⟨h0, -⟩ := id hK.1
  have := hs.1
  have := hs.2
  have ed : a.tdiv 15 = a / 15 := mm_tdiv ha.1
  refine mm_startF (ls := [(2, 4), (0, s), (0, a), (0, w)]) rfl ?_
  refine mm_aload_n dX4_pullOf_0 rfl rfl ?_
  refine mm_iload_n dX4_pullOf_1 rfl rfl ?_
  refine mm_bipush dX4_pullOf_2 rfl (by decide) ?_
  refine mm_idiv dX4_pullOf_4 rfl (by omega) (by omega) (by omega) ?_
  rw [ed]
  refine mm_aload_n dX4_pullOf_5 rfl rfl ?_
  refine mm_getr dX4_pullOf_6 rfl fl_X4_18 (c := 3) rfl (by decide) rfl rfl (hR.at (c := 3) (i := 3) (v := 7) rfl (by decide)) ?_
  refine mm_iload_n dX4_pullOf_9 rfl rfl ?_
  refine mm_iald dX4_pullOf_10 rfl (c := 6) rfl (by decide) rfl (by omega) (by omega) ?_
  rw [ht.1]
  refine mm_iload_n dX4_pullOf_11 rfl rfl ?_
  refine mm_S1i dX4_pullOf_12 rfl lk_X4_121 (by simp) rfl rfl rfl (c_X4_moveOf ⟨ha.1, h45⟩) ?_
  refine mm_S1i dX4_pullOf_15 rfl lk_X4_140 (by simp) rfl rfl rfl (c_X4_isSideways (by omega)) ?_
  refine mm_iload_n dX4_pullOf_18 rfl rfl ?_
  refine mm_V4i dX4_pullOf_19 rfl lk_X4_143 (c := 3) rfl (by decide) rfl (by simp) (by simp) (by simp) (by simp) rfl rfl rfl (c_X4_pullAt hR hK ⟨hsl.1, hsl.2.2⟩ (by omega) hw) ?_
  refine mm_iret dX4_pullOf_22 rfl rfl ?_
  exact mm_fin rfl rfl
theorem c_X4_workOf (hR : mm_Rf M) (hK : mm_CK M) (hd : 0 ≤ d ∧ d ≤ 2) (hp : 0 ≤ p ∧ p ≤ 1425600) : mm_Fn X Y_X4_workOf 243 [(2, 4), (0, d), (0, p)] M (0, ks_w (M 4) d p) M := by
  have hb := ks_wb hK.1 hp
  obtain ⟨-, -, -, -, -, -, h6, h7, -⟩ := id hK.1
  refine mm_startF (ls := [(2, 4), (0, d), (0, p)]) rfl ?_
  refine mm_iload_n dX4_workOf_0 rfl rfl ?_
  refine mm_iconst dX4_workOf_1 rfl ?_
  refine mm_icne dX4_workOf_2 (by omega) (by omega) (fun h2 => ?_) (fun h2 => ?_)
  · refine mm_iload_n dX4_workOf_15 rfl rfl ?_
    refine mm_iconst dX4_workOf_16 rfl ?_
    refine mm_icne dX4_workOf_17 (by omega) (by omega) (fun h17 => ?_) (fun h17 => ?_)
    · refine mm_iconst dX4_workOf_44 rfl ?_
      refine mm_iret dX4_workOf_45 rfl rfl ?_
      exact mm_fin (by unfold ks_w; first | (rw [if_pos (by omega)]; done) | (rw [if_neg (by omega), if_pos (by omega), mm_tdiv (by omega)]; done) | (rw [if_neg (by omega), if_neg (by omega)])) rfl
    · refine mm_iload_n dX4_workOf_20 rfl rfl ?_
      refine mm_aload_n dX4_workOf_21 rfl rfl ?_
      refine mm_getr dX4_workOf_22 rfl fl_X4_11 (c := 3) rfl (by decide) rfl rfl (hR.at (c := 3) (i := 0) (v := 5) rfl (by decide)) ?_
      refine mm_bipush dX4_workOf_25 rfl (by decide) ?_
      refine mm_ialk (k0 := 7) dX4_workOf_27 rfl (c := 4) rfl (by decide) rfl rfl (by decide) ?_
      refine mm_imul dX4_workOf_28 rfl ?_
      refine mm_bipush dX4_workOf_29 rfl (by decide) ?_
      refine mm_idiv dX4_workOf_31 rfl (by omega) (by omega) (by omega) ?_
      refine mm_ineg dX4_workOf_32 rfl ?_
      refine mm_aload_n dX4_workOf_33 rfl rfl ?_
      refine mm_getr dX4_workOf_34 rfl fl_X4_11 (c := 3) rfl (by decide) rfl rfl (hR.at (c := 3) (i := 0) (v := 5) rfl (by decide)) ?_
      refine mm_bipush dX4_workOf_37 rfl (by decide) ?_
      refine mm_ialk (k0 := 6) dX4_workOf_39 rfl (c := 4) rfl (by decide) rfl rfl (by decide) ?_
      refine mm_isub dX4_workOf_40 rfl ?_
      refine mm_goto dX4_workOf_41 ?_
      refine mm_iret dX4_workOf_45 rfl rfl ?_
      exact mm_fin (by unfold ks_w; first | (rw [if_pos (by omega)]; done) | (rw [if_neg (by omega), if_pos (by omega), mm_tdiv (by omega)]; done) | (rw [if_neg (by omega), if_neg (by omega)])) rfl
  · refine mm_iload_n dX4_workOf_5 rfl rfl ?_
    refine mm_aload_n dX4_workOf_6 rfl rfl ?_
    refine mm_getr dX4_workOf_7 rfl fl_X4_11 (c := 3) rfl (by decide) rfl rfl (hR.at (c := 3) (i := 0) (v := 5) rfl (by decide)) ?_
    refine mm_bipush dX4_workOf_10 rfl (by decide) ?_
    refine mm_ialk (k0 := 6) dX4_workOf_12 rfl (c := 4) rfl (by decide) rfl rfl (by decide) ?_
    refine mm_isub dX4_workOf_13 rfl ?_
    refine mm_iret dX4_workOf_14 rfl rfl ?_
    exact mm_fin (by unfold ks_w; first | (rw [if_pos (by omega)]; done) | (rw [if_neg (by omega), if_pos (by omega), mm_tdiv (by omega)]; done) | (rw [if_neg (by omega), if_neg (by omega)])) rfl
theorem c_X4_fateOf (hR : mm_Rf M) (hK : mm_CK M) (hp : mm_R p) : mm_Fn X Y_X4_fateOf 243 [(2, 4), (0, p)] M (0, ks_fate (M 4) p) M := by
  obtain ⟨-, -, -, -, h4, h5, -⟩ := id hK.1
  refine mm_startF (ls := [(2, 4), (0, p)]) rfl ?_
  refine mm_iload_n dX4_fateOf_0 rfl rfl ?_
  refine mm_aload_n dX4_fateOf_1 rfl rfl ?_
  refine mm_getr dX4_fateOf_2 rfl fl_X4_11 (c := 3) rfl (by decide) rfl rfl (hR.at (c := 3) (i := 0) (v := 5) rfl (by decide)) ?_
  refine mm_iconst dX4_fateOf_5 rfl ?_
  refine mm_ialk (k0 := 4) dX4_fateOf_6 rfl (c := 4) rfl (by decide) rfl rfl (by decide) ?_
  refine mm_icge dX4_fateOf_7 (by omega) (by omega) (fun h7 => ?_) (fun h7 => ?_)
  · refine mm_iload_n dX4_fateOf_12 rfl rfl ?_
    refine mm_aload_n dX4_fateOf_13 rfl rfl ?_
    refine mm_getr dX4_fateOf_14 rfl fl_X4_11 (c := 3) rfl (by decide) rfl rfl (hR.at (c := 3) (i := 0) (v := 5) rfl (by decide)) ?_
    refine mm_iconst dX4_fateOf_17 rfl ?_
    refine mm_ialk (k0 := 5) dX4_fateOf_18 rfl (c := 4) rfl (by decide) rfl rfl (by decide) ?_
    refine mm_icle dX4_fateOf_19 (by omega) (by omega) (fun h19 => ?_) (fun h19 => ?_)
    · refine mm_iconst dX4_fateOf_26 rfl ?_
      refine mm_iret dX4_fateOf_27 rfl rfl ?_
      exact mm_fin (by unfold ks_fate; first | (rw [if_pos (by omega)]; done) | (rw [if_neg (by omega), if_pos (by omega)]; done) | (rw [if_neg (by omega), if_neg (by omega)])) rfl
    · refine mm_iconst dX4_fateOf_22 rfl ?_
      refine mm_goto dX4_fateOf_23 ?_
      refine mm_iret dX4_fateOf_27 rfl rfl ?_
      exact mm_fin (by unfold ks_fate; first | (rw [if_pos (by omega)]; done) | (rw [if_neg (by omega), if_pos (by omega)]; done) | (rw [if_neg (by omega), if_neg (by omega)])) rfl
  · refine mm_iconst dX4_fateOf_10 rfl ?_
    refine mm_iret dX4_fateOf_11 rfl rfl ?_
    exact mm_fin (by unfold ks_fate; first | (rw [if_pos (by omega)]; done) | (rw [if_neg (by omega), if_pos (by omega)]; done) | (rw [if_neg (by omega), if_neg (by omega)])) rfl
theorem c_X4_bears (hR : mm_Rf M) (hK : mm_CK M) (hp : mm_R p) (hp2 : mm_R p2) : mm_Fn X Y_X4_bears 243 [(2, 4), (0, p), (0, p2)] M (0, mm_b (ks_bears (M 4) p p2)) M := by
  obtain ⟨-, -, -, -, h4, h5, -⟩ := id hK.1
  refine mm_startF (ls := [(2, 4), (0, p), (0, p2)]) rfl ?_
  refine mm_iload_n dX4_bears_0 rfl rfl ?_
  refine mm_aload_n dX4_bears_1 rfl rfl ?_
  refine mm_getr dX4_bears_2 rfl fl_X4_11 (c := 3) rfl (by decide) rfl rfl (hR.at (c := 3) (i := 0) (v := 5) rfl (by decide)) ?_
  refine mm_iconst dX4_bears_5 rfl ?_
  refine mm_ialk (k0 := 4) dX4_bears_6 rfl (c := 4) rfl (by decide) rfl rfl (by decide) ?_
  refine mm_iclt dX4_bears_7 (by omega) (by omega) (fun h7 => ?_) (fun h7 => ?_)
  · refine mm_iconst dX4_bears_24 rfl ?_
    refine mm_zret dX4_bears_25 rfl rfl (Or.inl rfl) ?_
    exact mm_fin (by unfold mm_b ks_bears; split <;> omega) rfl
  · refine mm_iload_n dX4_bears_10 rfl rfl ?_
    refine mm_aload_n dX4_bears_11 rfl rfl ?_
    refine mm_getr dX4_bears_12 rfl fl_X4_11 (c := 3) rfl (by decide) rfl rfl (hR.at (c := 3) (i := 0) (v := 5) rfl (by decide)) ?_
    refine mm_iconst dX4_bears_15 rfl ?_
    refine mm_ialk (k0 := 5) dX4_bears_16 rfl (c := 4) rfl (by decide) rfl rfl (by decide) ?_
    refine mm_icgt dX4_bears_17 (by omega) (by omega) (fun h17 => ?_) (fun h17 => ?_)
    · refine mm_iconst dX4_bears_24 rfl ?_
      refine mm_zret dX4_bears_25 rfl rfl (Or.inl rfl) ?_
      exact mm_fin (by unfold mm_b ks_bears; split <;> omega) rfl
    · refine mm_iconst dX4_bears_20 rfl ?_
      refine mm_goto dX4_bears_21 ?_
      refine mm_zret dX4_bears_25 rfl rfl (Or.inr rfl) ?_
      exact mm_fin (by unfold mm_b ks_bears; split <;> omega) rfl
theorem c_X4_tiringOf (hR : mm_Rf M) (hK : mm_CK M) (hp : 0 ≤ p ∧ p ≤ 10000000) : mm_Fn X Y_X4_tiringOf 243 [(2, 4), (0, p)] M (0, max (p - M 4 9) 0 / 100) M := by
  obtain ⟨-, -, -, -, -, -, -, -, -, h9, -⟩ := id hK.1
  refine mm_startF (ls := [(2, 4), (0, p)]) rfl ?_
  refine mm_iload_n dX4_tiringOf_0 rfl rfl ?_
  refine mm_aload_n dX4_tiringOf_1 rfl rfl ?_
  refine mm_getr dX4_tiringOf_2 rfl fl_X4_11 (c := 3) rfl (by decide) rfl rfl (hR.at (c := 3) (i := 0) (v := 5) rfl (by decide)) ?_
  refine mm_bipush dX4_tiringOf_5 rfl (by decide) ?_
  refine mm_ialk (k0 := 9) dX4_tiringOf_7 rfl (c := 4) rfl (by decide) rfl rfl (by decide) ?_
  refine mm_isub dX4_tiringOf_8 rfl ?_
  refine mm_iconst dX4_tiringOf_9 rfl ?_
  refine mm_max dX4_tiringOf_10 rfl lm_X4_101 rfl rfl (by simp) (by omega) (by omega) ?_
  refine mm_bipush dX4_tiringOf_13 rfl (by decide) ?_
  refine mm_idiv dX4_tiringOf_15 rfl (by omega) (by omega) (by omega) ?_
  refine mm_iret dX4_tiringOf_16 rfl rfl ?_
  exact mm_fin (by rw [mm_tdiv (by omega)]) rfl
theorem c_X4_fact {x : Int} (hR : mm_Rf M) (hK : mm_CK M) (hx : mm_R x) : mm_Fn X Y_X4_fact 243 [(2, 4), (0, x)] M (0, ks_told (M 4) x) M := by
  obtain ⟨h0, -, -, -, -, -, -, -, -, -, h10, -⟩ := id hK.1
  refine mm_startF (ls := [(2, 4), (0, x), (9, 0), (9, 0)]) rfl ?_
  refine mm_iload_n dX4_fact_0 rfl rfl ?_
  refine mm_bipush dX4_fact_1 rfl (by decide) ?_
  refine mm_iclt dX4_fact_3 (by omega) (by omega) (fun h3 => ?_) (fun h3 => ?_)
  · refine mm_iconst dX4_fact_24 rfl ?_
    refine mm_istore_n dX4_fact_25 rfl (Nat.le_of_ble_eq_true rfl) rfl ?_
    refine mm_iload_n dX4_fact_26 rfl rfl ?_
    refine mm_bipush dX4_fact_27 rfl (by decide) ?_
    refine mm_iclt dX4_fact_29 (by omega) (by omega) (fun h29 => ?_) (fun h29 => ?_)
    · refine mm_iconst dX4_fact_49 rfl ?_
      refine mm_istore_n dX4_fact_50 rfl (Nat.le_of_ble_eq_true rfl) rfl ?_
      refine mm_iload_n dX4_fact_51 rfl rfl ?_
      refine mm_iconst dX4_fact_52 rfl ?_
      refine mm_bipush dX4_fact_53 rfl (by decide) ?_
      refine mm_N3i dX4_fact_55 rfl ln_X4_113 (by simp) (by simp) (by simp) rfl rfl rfl (c_X11_isWithin hx (by omega) (by omega)) ?_
      refine mm_ifneb dX4_fact_58 (fun h58 => ?_) (fun h58 => ?_)
      · refine mm_aload_n dX4_fact_69 rfl rfl ?_
        refine mm_getr dX4_fact_70 rfl fl_X4_11 (c := 3) rfl (by decide) rfl rfl (hR.at (c := 3) (i := 0) (v := 5) rfl (by decide)) ?_
        refine mm_iload_n dX4_fact_73 rfl rfl ?_
        refine mm_iald dX4_fact_74 rfl (c := 4) rfl (by decide) rfl (by omega) (by omega) ?_
        refine mm_goto dX4_fact_75 ?_
        refine mm_iret dX4_fact_79 rfl rfl ?_
        refine mm_fin ?_ rfl
        unfold ks_told
        first
        | (rw [if_pos (by omega)]; done)
        | (rw [if_neg (by omega)]; done)
      · refine mm_iload_n dX4_fact_61 rfl rfl ?_
        refine mm_ifne dX4_fact_62 (by omega) (fun h => absurd h (by decide)) (fun _ => ?_)
        refine mm_iload_n dX4_fact_65 rfl rfl ?_
        refine mm_ifeq dX4_fact_66 (by omega) (fun _ => ?_) (fun h => absurd (by decide) h)
        refine mm_iconst dX4_fact_78 rfl ?_
        refine mm_iret dX4_fact_79 rfl rfl ?_
        refine mm_fin ?_ rfl
        unfold ks_told
        first
        | (rw [if_pos (by omega)]; done)
        | (rw [if_neg (by omega)]; done)
    · refine mm_iload_n dX4_fact_32 rfl rfl ?_
      refine mm_bipush dX4_fact_33 rfl (by decide) ?_
      refine mm_isub dX4_fact_35 rfl ?_
      refine mm_aload_n dX4_fact_36 rfl rfl ?_
      refine mm_getr dX4_fact_37 rfl fl_X4_11 (c := 3) rfl (by decide) rfl rfl (hR.at (c := 3) (i := 0) (v := 5) rfl (by decide)) ?_
      refine mm_iconst dX4_fact_40 rfl ?_
      refine mm_ialk (k0 := 0) dX4_fact_41 rfl (c := 4) rfl (by decide) rfl rfl (by decide) ?_
      refine mm_icge dX4_fact_42 (by omega) (by omega) (fun h42 => ?_) (fun h42 => ?_)
      · refine mm_iconst dX4_fact_49 rfl ?_
        refine mm_istore_n dX4_fact_50 rfl (Nat.le_of_ble_eq_true rfl) rfl ?_
        refine mm_iload_n dX4_fact_51 rfl rfl ?_
        refine mm_iconst dX4_fact_52 rfl ?_
        refine mm_bipush dX4_fact_53 rfl (by decide) ?_
        refine mm_N3i dX4_fact_55 rfl ln_X4_113 (by simp) (by simp) (by simp) rfl rfl rfl (c_X11_isWithin hx (by omega) (by omega)) ?_
        refine mm_ifneb dX4_fact_58 (fun h58 => ?_) (fun h58 => ?_)
        · refine mm_aload_n dX4_fact_69 rfl rfl ?_
          refine mm_getr dX4_fact_70 rfl fl_X4_11 (c := 3) rfl (by decide) rfl rfl (hR.at (c := 3) (i := 0) (v := 5) rfl (by decide)) ?_
          refine mm_iload_n dX4_fact_73 rfl rfl ?_
          refine mm_iald dX4_fact_74 rfl (c := 4) rfl (by decide) rfl (by omega) (by omega) ?_
          refine mm_goto dX4_fact_75 ?_
          refine mm_iret dX4_fact_79 rfl rfl ?_
          refine mm_fin ?_ rfl
          unfold ks_told
          first
          | (rw [if_pos (by omega)]; done)
          | (rw [if_neg (by omega)]; done)
        · refine mm_iload_n dX4_fact_61 rfl rfl ?_
          refine mm_ifne dX4_fact_62 (by omega) (fun h => absurd h (by decide)) (fun _ => ?_)
          refine mm_iload_n dX4_fact_65 rfl rfl ?_
          refine mm_ifeq dX4_fact_66 (by omega) (fun _ => ?_) (fun h => absurd (by decide) h)
          refine mm_iconst dX4_fact_78 rfl ?_
          refine mm_iret dX4_fact_79 rfl rfl ?_
          refine mm_fin ?_ rfl
          unfold ks_told
          first
          | (rw [if_pos (by omega)]; done)
          | (rw [if_neg (by omega)]; done)
      · refine mm_iconst dX4_fact_45 rfl ?_
        refine mm_goto dX4_fact_46 ?_
        refine mm_istore_n dX4_fact_50 rfl (Nat.le_of_ble_eq_true rfl) rfl ?_
        refine mm_iload_n dX4_fact_51 rfl rfl ?_
        refine mm_iconst dX4_fact_52 rfl ?_
        refine mm_bipush dX4_fact_53 rfl (by decide) ?_
        refine mm_N3i dX4_fact_55 rfl ln_X4_113 (by simp) (by simp) (by simp) rfl rfl rfl (c_X11_isWithin hx (by omega) (by omega)) ?_
        refine mm_ifneb dX4_fact_58 (fun h58 => ?_) (fun h58 => ?_)
        · refine mm_aload_n dX4_fact_69 rfl rfl ?_
          refine mm_getr dX4_fact_70 rfl fl_X4_11 (c := 3) rfl (by decide) rfl rfl (hR.at (c := 3) (i := 0) (v := 5) rfl (by decide)) ?_
          refine mm_iload_n dX4_fact_73 rfl rfl ?_
          refine mm_iald dX4_fact_74 rfl (c := 4) rfl (by decide) rfl (by omega) (by omega) ?_
          refine mm_goto dX4_fact_75 ?_
          refine mm_iret dX4_fact_79 rfl rfl ?_
          refine mm_fin ?_ rfl
          unfold ks_told
          first
          | (rw [if_pos (by omega)]; done)
          | (rw [if_neg (by omega)]; done)
        · refine mm_iload_n dX4_fact_61 rfl rfl ?_
          refine mm_ifne dX4_fact_62 (by omega) (fun h => absurd h (by decide)) (fun _ => ?_)
          refine mm_iload_n dX4_fact_65 rfl rfl ?_
          refine mm_ifeq dX4_fact_66 (by omega) (fun h => absurd h (by decide)) (fun _ => ?_)
          refine mm_aload_n dX4_fact_69 rfl rfl ?_
          refine mm_getr dX4_fact_70 rfl fl_X4_11 (c := 3) rfl (by decide) rfl rfl (hR.at (c := 3) (i := 0) (v := 5) rfl (by decide)) ?_
          refine mm_iload_n dX4_fact_73 rfl rfl ?_
          refine mm_iald dX4_fact_74 rfl (c := 4) rfl (by decide) rfl (by omega) (by omega) ?_
          refine mm_goto dX4_fact_75 ?_
          refine mm_iret dX4_fact_79 rfl rfl ?_
          refine mm_fin ?_ rfl
          unfold ks_told
          first
          | (rw [if_pos (by omega)]; done)
          | (rw [if_neg (by omega)]; done)
  · refine mm_iload_n dX4_fact_6 rfl rfl ?_
    refine mm_bipush dX4_fact_7 rfl (by decide) ?_
    refine mm_isub dX4_fact_9 rfl ?_
    refine mm_aload_n dX4_fact_10 rfl rfl ?_
    refine mm_getr dX4_fact_11 rfl fl_X4_11 (c := 3) rfl (by decide) rfl rfl (hR.at (c := 3) (i := 0) (v := 5) rfl (by decide)) ?_
    refine mm_bipush dX4_fact_14 rfl (by decide) ?_
    refine mm_ialk (k0 := 10) dX4_fact_16 rfl (c := 4) rfl (by decide) rfl rfl (by decide) ?_
    refine mm_icge dX4_fact_17 (by omega) (by omega) (fun h17 => ?_) (fun h17 => ?_)
    · refine mm_iconst dX4_fact_24 rfl ?_
      refine mm_istore_n dX4_fact_25 rfl (Nat.le_of_ble_eq_true rfl) rfl ?_
      refine mm_iload_n dX4_fact_26 rfl rfl ?_
      refine mm_bipush dX4_fact_27 rfl (by decide) ?_
      refine mm_iclt dX4_fact_29 (by omega) (by omega) (fun h29 => ?_) (fun h29 => ?_)
      · refine mm_iconst dX4_fact_49 rfl ?_
        refine mm_istore_n dX4_fact_50 rfl (Nat.le_of_ble_eq_true rfl) rfl ?_
        refine mm_iload_n dX4_fact_51 rfl rfl ?_
        refine mm_iconst dX4_fact_52 rfl ?_
        refine mm_bipush dX4_fact_53 rfl (by decide) ?_
        refine mm_N3i dX4_fact_55 rfl ln_X4_113 (by simp) (by simp) (by simp) rfl rfl rfl (c_X11_isWithin hx (by omega) (by omega)) ?_
        refine mm_ifneb dX4_fact_58 (fun h58 => ?_) (fun h58 => ?_)
        · refine mm_aload_n dX4_fact_69 rfl rfl ?_
          refine mm_getr dX4_fact_70 rfl fl_X4_11 (c := 3) rfl (by decide) rfl rfl (hR.at (c := 3) (i := 0) (v := 5) rfl (by decide)) ?_
          refine mm_iload_n dX4_fact_73 rfl rfl ?_
          refine mm_iald dX4_fact_74 rfl (c := 4) rfl (by decide) rfl (by omega) (by omega) ?_
          refine mm_goto dX4_fact_75 ?_
          refine mm_iret dX4_fact_79 rfl rfl ?_
          refine mm_fin ?_ rfl
          unfold ks_told
          first
          | (rw [if_pos (by omega)]; done)
          | (rw [if_neg (by omega)]; done)
        · refine mm_iload_n dX4_fact_61 rfl rfl ?_
          refine mm_ifne dX4_fact_62 (by omega) (fun h => absurd h (by decide)) (fun _ => ?_)
          refine mm_iload_n dX4_fact_65 rfl rfl ?_
          refine mm_ifeq dX4_fact_66 (by omega) (fun _ => ?_) (fun h => absurd (by decide) h)
          refine mm_iconst dX4_fact_78 rfl ?_
          refine mm_iret dX4_fact_79 rfl rfl ?_
          refine mm_fin ?_ rfl
          unfold ks_told
          first
          | (rw [if_pos (by omega)]; done)
          | (rw [if_neg (by omega)]; done)
      · refine mm_iload_n dX4_fact_32 rfl rfl ?_
        refine mm_bipush dX4_fact_33 rfl (by decide) ?_
        refine mm_isub dX4_fact_35 rfl ?_
        refine mm_aload_n dX4_fact_36 rfl rfl ?_
        refine mm_getr dX4_fact_37 rfl fl_X4_11 (c := 3) rfl (by decide) rfl rfl (hR.at (c := 3) (i := 0) (v := 5) rfl (by decide)) ?_
        refine mm_iconst dX4_fact_40 rfl ?_
        refine mm_ialk (k0 := 0) dX4_fact_41 rfl (c := 4) rfl (by decide) rfl rfl (by decide) ?_
        refine mm_icge dX4_fact_42 (by omega) (by omega) (fun h42 => ?_) (fun h42 => ?_)
        · refine mm_iconst dX4_fact_49 rfl ?_
          refine mm_istore_n dX4_fact_50 rfl (Nat.le_of_ble_eq_true rfl) rfl ?_
          refine mm_iload_n dX4_fact_51 rfl rfl ?_
          refine mm_iconst dX4_fact_52 rfl ?_
          refine mm_bipush dX4_fact_53 rfl (by decide) ?_
          refine mm_N3i dX4_fact_55 rfl ln_X4_113 (by simp) (by simp) (by simp) rfl rfl rfl (c_X11_isWithin hx (by omega) (by omega)) ?_
          refine mm_ifneb dX4_fact_58 (fun h58 => ?_) (fun h58 => ?_)
          · refine mm_aload_n dX4_fact_69 rfl rfl ?_
            refine mm_getr dX4_fact_70 rfl fl_X4_11 (c := 3) rfl (by decide) rfl rfl (hR.at (c := 3) (i := 0) (v := 5) rfl (by decide)) ?_
            refine mm_iload_n dX4_fact_73 rfl rfl ?_
            refine mm_iald dX4_fact_74 rfl (c := 4) rfl (by decide) rfl (by omega) (by omega) ?_
            refine mm_goto dX4_fact_75 ?_
            refine mm_iret dX4_fact_79 rfl rfl ?_
            refine mm_fin ?_ rfl
            unfold ks_told
            first
            | (rw [if_pos (by omega)]; done)
            | (rw [if_neg (by omega)]; done)
          · refine mm_iload_n dX4_fact_61 rfl rfl ?_
            refine mm_ifne dX4_fact_62 (by omega) (fun h => absurd h (by decide)) (fun _ => ?_)
            refine mm_iload_n dX4_fact_65 rfl rfl ?_
            refine mm_ifeq dX4_fact_66 (by omega) (fun _ => ?_) (fun h => absurd (by decide) h)
            refine mm_iconst dX4_fact_78 rfl ?_
            refine mm_iret dX4_fact_79 rfl rfl ?_
            refine mm_fin ?_ rfl
            unfold ks_told
            first
            | (rw [if_pos (by omega)]; done)
            | (rw [if_neg (by omega)]; done)
        · refine mm_iconst dX4_fact_45 rfl ?_
          refine mm_goto dX4_fact_46 ?_
          refine mm_istore_n dX4_fact_50 rfl (Nat.le_of_ble_eq_true rfl) rfl ?_
          refine mm_iload_n dX4_fact_51 rfl rfl ?_
          refine mm_iconst dX4_fact_52 rfl ?_
          refine mm_bipush dX4_fact_53 rfl (by decide) ?_
          refine mm_N3i dX4_fact_55 rfl ln_X4_113 (by simp) (by simp) (by simp) rfl rfl rfl (c_X11_isWithin hx (by omega) (by omega)) ?_
          refine mm_ifneb dX4_fact_58 (fun h58 => ?_) (fun h58 => ?_)
          · refine mm_aload_n dX4_fact_69 rfl rfl ?_
            refine mm_getr dX4_fact_70 rfl fl_X4_11 (c := 3) rfl (by decide) rfl rfl (hR.at (c := 3) (i := 0) (v := 5) rfl (by decide)) ?_
            refine mm_iload_n dX4_fact_73 rfl rfl ?_
            refine mm_iald dX4_fact_74 rfl (c := 4) rfl (by decide) rfl (by omega) (by omega) ?_
            refine mm_goto dX4_fact_75 ?_
            refine mm_iret dX4_fact_79 rfl rfl ?_
            refine mm_fin ?_ rfl
            unfold ks_told
            first
            | (rw [if_pos (by omega)]; done)
            | (rw [if_neg (by omega)]; done)
          · refine mm_iload_n dX4_fact_61 rfl rfl ?_
            refine mm_ifne dX4_fact_62 (by omega) (fun h => absurd h (by decide)) (fun _ => ?_)
            refine mm_iload_n dX4_fact_65 rfl rfl ?_
            refine mm_ifeq dX4_fact_66 (by omega) (fun h => absurd h (by decide)) (fun _ => ?_)
            refine mm_aload_n dX4_fact_69 rfl rfl ?_
            refine mm_getr dX4_fact_70 rfl fl_X4_11 (c := 3) rfl (by decide) rfl rfl (hR.at (c := 3) (i := 0) (v := 5) rfl (by decide)) ?_
            refine mm_iload_n dX4_fact_73 rfl rfl ?_
            refine mm_iald dX4_fact_74 rfl (c := 4) rfl (by decide) rfl (by omega) (by omega) ?_
            refine mm_goto dX4_fact_75 ?_
            refine mm_iret dX4_fact_79 rfl rfl ?_
            refine mm_fin ?_ rfl
            unfold ks_told
            first
            | (rw [if_pos (by omega)]; done)
            | (rw [if_neg (by omega)]; done)
    · refine mm_iconst dX4_fact_20 rfl ?_
      refine mm_goto dX4_fact_21 ?_
      refine mm_istore_n dX4_fact_25 rfl (Nat.le_of_ble_eq_true rfl) rfl ?_
      refine mm_iload_n dX4_fact_26 rfl rfl ?_
      refine mm_bipush dX4_fact_27 rfl (by decide) ?_
      refine mm_iclt dX4_fact_29 (by omega) (by omega) (fun h29 => ?_) (fun h29 => ?_)
      · refine mm_iconst dX4_fact_49 rfl ?_
        refine mm_istore_n dX4_fact_50 rfl (Nat.le_of_ble_eq_true rfl) rfl ?_
        refine mm_iload_n dX4_fact_51 rfl rfl ?_
        refine mm_iconst dX4_fact_52 rfl ?_
        refine mm_bipush dX4_fact_53 rfl (by decide) ?_
        refine mm_N3i dX4_fact_55 rfl ln_X4_113 (by simp) (by simp) (by simp) rfl rfl rfl (c_X11_isWithin hx (by omega) (by omega)) ?_
        refine mm_ifneb dX4_fact_58 (fun h58 => ?_) (fun h58 => ?_)
        · refine mm_aload_n dX4_fact_69 rfl rfl ?_
          refine mm_getr dX4_fact_70 rfl fl_X4_11 (c := 3) rfl (by decide) rfl rfl (hR.at (c := 3) (i := 0) (v := 5) rfl (by decide)) ?_
          refine mm_iload_n dX4_fact_73 rfl rfl ?_
          refine mm_iald dX4_fact_74 rfl (c := 4) rfl (by decide) rfl (by omega) (by omega) ?_
          refine mm_goto dX4_fact_75 ?_
          refine mm_iret dX4_fact_79 rfl rfl ?_
          refine mm_fin ?_ rfl
          unfold ks_told
          first
          | (rw [if_pos (by omega)]; done)
          | (rw [if_neg (by omega)]; done)
        · refine mm_iload_n dX4_fact_61 rfl rfl ?_
          refine mm_ifne dX4_fact_62 (by omega) (fun _ => ?_) (fun h => absurd h (by decide))
          refine mm_aload_n dX4_fact_69 rfl rfl ?_
          refine mm_getr dX4_fact_70 rfl fl_X4_11 (c := 3) rfl (by decide) rfl rfl (hR.at (c := 3) (i := 0) (v := 5) rfl (by decide)) ?_
          refine mm_iload_n dX4_fact_73 rfl rfl ?_
          refine mm_iald dX4_fact_74 rfl (c := 4) rfl (by decide) rfl (by omega) (by omega) ?_
          refine mm_goto dX4_fact_75 ?_
          refine mm_iret dX4_fact_79 rfl rfl ?_
          refine mm_fin ?_ rfl
          unfold ks_told
          first
          | (rw [if_pos (by omega)]; done)
          | (rw [if_neg (by omega)]; done)
      · refine mm_iload_n dX4_fact_32 rfl rfl ?_
        refine mm_bipush dX4_fact_33 rfl (by decide) ?_
        refine mm_isub dX4_fact_35 rfl ?_
        refine mm_aload_n dX4_fact_36 rfl rfl ?_
        refine mm_getr dX4_fact_37 rfl fl_X4_11 (c := 3) rfl (by decide) rfl rfl (hR.at (c := 3) (i := 0) (v := 5) rfl (by decide)) ?_
        refine mm_iconst dX4_fact_40 rfl ?_
        refine mm_ialk (k0 := 0) dX4_fact_41 rfl (c := 4) rfl (by decide) rfl rfl (by decide) ?_
        refine mm_icge dX4_fact_42 (by omega) (by omega) (fun h42 => ?_) (fun h42 => ?_)
        · refine mm_iconst dX4_fact_49 rfl ?_
          refine mm_istore_n dX4_fact_50 rfl (Nat.le_of_ble_eq_true rfl) rfl ?_
          refine mm_iload_n dX4_fact_51 rfl rfl ?_
          refine mm_iconst dX4_fact_52 rfl ?_
          refine mm_bipush dX4_fact_53 rfl (by decide) ?_
          refine mm_N3i dX4_fact_55 rfl ln_X4_113 (by simp) (by simp) (by simp) rfl rfl rfl (c_X11_isWithin hx (by omega) (by omega)) ?_
          refine mm_ifneb dX4_fact_58 (fun h58 => ?_) (fun h58 => ?_)
          · refine mm_aload_n dX4_fact_69 rfl rfl ?_
            refine mm_getr dX4_fact_70 rfl fl_X4_11 (c := 3) rfl (by decide) rfl rfl (hR.at (c := 3) (i := 0) (v := 5) rfl (by decide)) ?_
            refine mm_iload_n dX4_fact_73 rfl rfl ?_
            refine mm_iald dX4_fact_74 rfl (c := 4) rfl (by decide) rfl (by omega) (by omega) ?_
            refine mm_goto dX4_fact_75 ?_
            refine mm_iret dX4_fact_79 rfl rfl ?_
            refine mm_fin ?_ rfl
            unfold ks_told
            first
            | (rw [if_pos (by omega)]; done)
            | (rw [if_neg (by omega)]; done)
          · refine mm_iload_n dX4_fact_61 rfl rfl ?_
            refine mm_ifne dX4_fact_62 (by omega) (fun _ => ?_) (fun h => absurd h (by decide))
            refine mm_aload_n dX4_fact_69 rfl rfl ?_
            refine mm_getr dX4_fact_70 rfl fl_X4_11 (c := 3) rfl (by decide) rfl rfl (hR.at (c := 3) (i := 0) (v := 5) rfl (by decide)) ?_
            refine mm_iload_n dX4_fact_73 rfl rfl ?_
            refine mm_iald dX4_fact_74 rfl (c := 4) rfl (by decide) rfl (by omega) (by omega) ?_
            refine mm_goto dX4_fact_75 ?_
            refine mm_iret dX4_fact_79 rfl rfl ?_
            refine mm_fin ?_ rfl
            unfold ks_told
            first
            | (rw [if_pos (by omega)]; done)
            | (rw [if_neg (by omega)]; done)
        · refine mm_iconst dX4_fact_45 rfl ?_
          refine mm_goto dX4_fact_46 ?_
          refine mm_istore_n dX4_fact_50 rfl (Nat.le_of_ble_eq_true rfl) rfl ?_
          refine mm_iload_n dX4_fact_51 rfl rfl ?_
          refine mm_iconst dX4_fact_52 rfl ?_
          refine mm_bipush dX4_fact_53 rfl (by decide) ?_
          refine mm_N3i dX4_fact_55 rfl ln_X4_113 (by simp) (by simp) (by simp) rfl rfl rfl (c_X11_isWithin hx (by omega) (by omega)) ?_
          refine mm_ifneb dX4_fact_58 (fun h58 => ?_) (fun h58 => ?_)
          · refine mm_aload_n dX4_fact_69 rfl rfl ?_
            refine mm_getr dX4_fact_70 rfl fl_X4_11 (c := 3) rfl (by decide) rfl rfl (hR.at (c := 3) (i := 0) (v := 5) rfl (by decide)) ?_
            refine mm_iload_n dX4_fact_73 rfl rfl ?_
            refine mm_iald dX4_fact_74 rfl (c := 4) rfl (by decide) rfl (by omega) (by omega) ?_
            refine mm_goto dX4_fact_75 ?_
            refine mm_iret dX4_fact_79 rfl rfl ?_
            refine mm_fin ?_ rfl
            unfold ks_told
            first
            | (rw [if_pos (by omega)]; done)
            | (rw [if_neg (by omega)]; done)
          · refine mm_iload_n dX4_fact_61 rfl rfl ?_
            refine mm_ifne dX4_fact_62 (by omega) (fun _ => ?_) (fun h => absurd h (by decide))
            refine mm_aload_n dX4_fact_69 rfl rfl ?_
            refine mm_getr dX4_fact_70 rfl fl_X4_11 (c := 3) rfl (by decide) rfl rfl (hR.at (c := 3) (i := 0) (v := 5) rfl (by decide)) ?_
            refine mm_iload_n dX4_fact_73 rfl rfl ?_
            refine mm_iald dX4_fact_74 rfl (c := 4) rfl (by decide) rfl (by omega) (by omega) ?_
            refine mm_goto dX4_fact_75 ?_
            refine mm_iret dX4_fact_79 rfl rfl ?_
            refine mm_fin ?_ rfl
            unfold ks_told
            first
            | (rw [if_pos (by omega)]; done)
            | (rw [if_neg (by omega)]; done)
end
end
/-! 34.air -/
section
/-! ===== KitePower$Air ===== -/
/-- the class's winds: of every place a span of 0 to 60 -/
def mm_CA (M : mm_M) : Prop := (∀ p, p < 120 → 0 ≤ M 16 p ∧ M 16 p ≤ M 17 p ∧ M 17 p ≤ 60)
def ks_pl (h b : Int) : Nat := (h * 5 + b).toNat
abbrev ks_hr (h : Int) : Prop := 0 ≤ h ∧ h ≤ 23
theorem ks_plb {h b : Int} (hh : ks_hr h) (hb : 0 ≤ b ∧ b ≤ 4) : ks_pl h b < 120 := by unfold ks_pl; omega
/-- the wind by which a state flies in an hour: low, or high -/
def ks_wi (L : Nat → Int) (K : Nat → Int) (s h : Int) : Int := L (ks_pl h (ks_band K s))
abbrev ks_safe (K : Nat → Int) (Lo Hi : Nat → Int) (s a h : Int) : Prop := ks_can K s a ∧ ks_bears K (ks_p K s a (ks_wi Lo K s h)) (ks_p K s a (ks_wi Hi K s h))
def ks_sure (K : Nat → Int) (Lo Hi : Nat → Int) (s a h : Int) : Int := ks_w K (ks_dr a) (ks_p K s a (if ks_dr a = 2 then ks_wi Hi K s h else ks_wi Lo K s h))
theorem mm_CA.wi {M : mm_M} (h : mm_CA M) (hK : mm_KV (M 4)) {s hr : Int} (hs : ks_st (M 4) s) (hh : ks_hr hr) : (0 ≤ ks_wi (M 16) (M 4) s hr ∧ ks_wi (M 16) (M 4) s hr ≤ 60) ∧ (0 ≤ ks_wi (M 17) (M 4) s hr ∧ ks_wi (M 17) (M 4) s hr ≤ 60) := by
  have := h _ (ks_plb hh (ks_bandb hK hs))
  unfold ks_wi
  omega
section
variable {X : mm_X} {M : mm_M} {s a h b p t e sh : Int}
theorem c_X0_hourOf (hh : 0 ≤ h ∧ h ≤ 23) (ht : 0 ≤ t ∧ t ≤ 100000) (he : 1 ≤ e ∧ e ≤ 60) : mm_Fn X Y_X0_hourOf 243 [(0, h), (0, t), (0, e)] M (0, (h + t / e) % 24) M := by
  have hd := mm_divb (b := e) ht.1 ht.2 (by omega)
  refine mm_startF (ls := [(0, h), (0, t), (0, e)]) rfl ?_
  refine mm_iload_n dX0_hourOf_0 rfl rfl ?_
  refine mm_iload_n dX0_hourOf_1 rfl rfl ?_
  refine mm_iload_n dX0_hourOf_2 rfl rfl ?_
  refine mm_iconst dX0_hourOf_3 rfl ?_
  refine mm_max dX0_hourOf_4 rfl lm_X0_42 rfl rfl (by simp) (by omega) (by omega) ?_
  rw [show max e 1 = e by omega]
  refine mm_idiv dX0_hourOf_7 rfl (by omega) (by omega) (by omega) ?_
  rw [mm_tdiv ht.1]
  refine mm_iadd dX0_hourOf_8 rfl ?_
  refine mm_bipush dX0_hourOf_9 rfl (by decide) ?_
  refine mm_irem dX0_hourOf_11 rfl (by omega) (by omega) (by omega) ?_
  refine mm_iret dX0_hourOf_12 rfl rfl ?_
  exact mm_fin (by rw [mm_tmod (by omega)]) rfl
theorem c_X0_placeOf : mm_Fn X Y_X0_placeOf 243 [(0, h), (0, b)] M (0, h * 5 + b) M := by
  refine mm_startF (ls := [(0, h), (0, b)]) rfl ?_
  refine mm_iload_n dX0_placeOf_0 rfl rfl ?_
  refine mm_iconst dX0_placeOf_1 rfl ?_
  refine mm_imul dX0_placeOf_2 rfl ?_
  refine mm_iload_n dX0_placeOf_3 rfl rfl ?_
  refine mm_iadd dX0_placeOf_4 rfl ?_
  refine mm_iret dX0_placeOf_5 rfl rfl ?_
  exact mm_fin rfl rfl
theorem c_X0_lowAt (hR : mm_Rf M) (hh : ks_hr h) (hb : 0 ≤ b ∧ b ≤ 4) : mm_Fn X Y_X0_lowAt 243 [(2, 12), (0, h), (0, b)] M (0, M 16 (ks_pl h b)) M := by
  refine mm_startF (ls := [(2, 12), (0, h), (0, b)]) rfl ?_
  refine mm_aload_n dX0_lowAt_0 rfl rfl ?_
  refine mm_getr dX0_lowAt_1 rfl fl_X0_26 (c := 11) rfl (by decide) rfl rfl (hR.at (c := 11) (i := 7) (v := 17) rfl (by decide)) ?_
  refine mm_iload_n dX0_lowAt_4 rfl rfl ?_
  refine mm_iload_n dX0_lowAt_5 rfl rfl ?_
  refine mm_S2i dX0_lowAt_6 rfl lk_X0_48 (by simp) (by simp) rfl rfl rfl (c_X0_placeOf) ?_
  refine mm_iald dX0_lowAt_9 rfl (c := 16) rfl (by decide) rfl (by omega) (by omega) ?_
  refine mm_iret dX0_lowAt_10 rfl rfl ?_
  exact mm_fin rfl rfl
theorem c_X0_highAt (hR : mm_Rf M) (hh : ks_hr h) (hb : 0 ≤ b ∧ b ≤ 4) : mm_Fn X Y_X0_highAt 243 [(2, 12), (0, h), (0, b)] M (0, M 17 (ks_pl h b)) M := by
  refine mm_startF (ls := [(2, 12), (0, h), (0, b)]) rfl ?_
  refine mm_aload_n dX0_highAt_0 rfl rfl ?_
  refine mm_getr dX0_highAt_1 rfl fl_X0_29 (c := 11) rfl (by decide) rfl rfl (hR.at (c := 11) (i := 8) (v := 18) rfl (by decide)) ?_
  refine mm_iload_n dX0_highAt_4 rfl rfl ?_
  refine mm_iload_n dX0_highAt_5 rfl rfl ?_
  refine mm_S2i dX0_highAt_6 rfl lk_X0_48 (by simp) (by simp) rfl rfl rfl (c_X0_placeOf) ?_
  refine mm_iald dX0_highAt_9 rfl (c := 17) rfl (by decide) rfl (by omega) (by omega) ?_
  refine mm_iret dX0_highAt_10 rfl rfl ?_
  exact mm_fin rfl rfl
theorem c_X0_windIn {P : Prop} [Decidable P] (hR : mm_Rf M) (hK : mm_CK M) (hs : ks_st (M 4) s) (hh : ks_hr h) : mm_Fn X Y_X0_windIn 243 [(2, 12), (0, s), (0, h), (0, mm_b P)] M (0, if P then ks_wi (M 17) (M 4) s h else ks_wi (M 16) (M 4) s h) M := by
  have ht := hK.tab hs
  have hn := ks_nb hK.1
  have hb := ks_bandb hK.1 hs
  have := hs.1
  have := hs.2
  refine mm_startF (ls := [(2, 12), (0, s), (0, h), (0, mm_b P), (9, 0)]) rfl ?_
  refine mm_aload_n dX0_windIn_0 rfl rfl ?_
  refine mm_getr dX0_windIn_1 rfl fl_X0_32 (c := 11) rfl (by decide) rfl rfl (hR.at (c := 11) (i := 0) (v := 4) rfl (by decide)) ?_
  refine mm_getr dX0_windIn_4 rfl fl_X0_58 (c := 3) rfl (by decide) rfl rfl (hR.at (c := 3) (i := 7) (v := 11) rfl (by decide)) ?_
  refine mm_iload_n dX0_windIn_7 rfl rfl ?_
  refine mm_iald dX0_windIn_8 rfl (c := 10) rfl (by decide) rfl (by omega) (by omega) ?_
  rw [ht.2.2.2.2]
  refine mm_istore dX0_windIn_9 rfl (Nat.le_of_ble_eq_true rfl) rfl ?_
  refine mm_iload_n dX0_windIn_11 rfl rfl ?_
  refine mm_ifeqb dX0_windIn_12 (fun h12 => ?_) (fun h12 => ?_)
  · refine mm_aload_n dX0_windIn_25 rfl rfl ?_
    refine mm_iload_n dX0_windIn_26 rfl rfl ?_
    refine mm_iload dX0_windIn_27 rfl rfl ?_
    refine mm_V2i dX0_windIn_29 rfl lk_X0_64 (c := 11) rfl (by decide) rfl (by simp) (by simp) rfl rfl rfl (c_X0_lowAt hR hh hb) ?_
    refine mm_iret dX0_windIn_32 rfl rfl ?_
    exact mm_fin (by first | (rw [if_pos h12]; rfl) | (rw [if_neg h12]; rfl)) rfl
  · refine mm_aload_n dX0_windIn_15 rfl rfl ?_
    refine mm_iload_n dX0_windIn_16 rfl rfl ?_
    refine mm_iload dX0_windIn_17 rfl rfl ?_
    refine mm_V2i dX0_windIn_19 rfl lk_X0_61 (c := 11) rfl (by decide) rfl (by simp) (by simp) rfl rfl rfl (c_X0_highAt hR hh hb) ?_
    refine mm_goto dX0_windIn_22 ?_
    refine mm_iret dX0_windIn_32 rfl rfl ?_
    exact mm_fin (by first | (rw [if_pos h12]; rfl) | (rw [if_neg h12]; rfl)) rfl
theorem c_X0_pullBy {P : Prop} [Decidable P] (hR : mm_Rf M) (hK : mm_CK M) (hA : mm_CA M) (hs : ks_st (M 4) s) (ha : ks_ac (M 4) a) (hh : ks_hr h) : mm_Fn X Y_X0_pullBy 243 [(2, 12), (0, s), (0, a), (0, h), (0, mm_b P)] M (0, ks_p (M 4) s a (if P then ks_wi (M 17) (M 4) s h else ks_wi (M 16) (M 4) s h)) M := by
  have hw := hA.wi hK.1 hs hh
  refine mm_startF (ls := [(2, 12), (0, s), (0, a), (0, h), (0, mm_b P)]) rfl ?_
  refine mm_aload_n dX0_pullBy_0 rfl rfl ?_
  refine mm_getr dX0_pullBy_1 rfl fl_X0_32 (c := 11) rfl (by decide) rfl rfl (hR.at (c := 11) (i := 0) (v := 4) rfl (by decide)) ?_
  refine mm_iload_n dX0_pullBy_4 rfl rfl ?_
  refine mm_iload_n dX0_pullBy_5 rfl rfl ?_
  refine mm_aload_n dX0_pullBy_6 rfl rfl ?_
  refine mm_iload_n dX0_pullBy_7 rfl rfl ?_
  refine mm_iload_n dX0_pullBy_8 rfl rfl ?_
  refine mm_iload dX0_pullBy_9 rfl rfl ?_
  refine mm_V3i dX0_pullBy_11 rfl lk_X0_67 (c := 11) rfl (by decide) rfl (by simp) (by simp) (by simp) rfl rfl rfl (c_X0_windIn hR hK hs hh) ?_
  refine mm_V3i dX0_pullBy_14 rfl lk_X0_71 (c := 3) rfl (by decide) rfl (by simp) (by simp) (by simp) rfl rfl rfl (c_X4_pullOf hR hK hs ha (by split <;> omega)) ?_
  refine mm_iret dX0_pullBy_17 rfl rfl ?_
  exact mm_fin rfl rfl
end
end
/-! 35.geo -/
section
/-! ===== a state's number and its place ===== -/
def ks_f (K : Nat → Int) (c r p : Int) : Int := c + K 0 * (r + K 1 * p)
theorem ks_f_dec {K : Nat → Int} (h : mm_KV K) {c r p : Int} (hc : 0 ≤ c ∧ c < K 0) (hr : 0 ≤ r ∧ r < K 1) : ks_col K (ks_f K c r p) = c ∧ ks_row K (ks_f K c r p) = r ∧ ks_rope K (ks_f K c r p) = p := by
  obtain ⟨h0, h1, -⟩ := h
  have e0 : (c + K 0 * (r + K 1 * p)) / K 0 = r + K 1 * p := by
    rw [Int.add_mul_ediv_left _ _ (by omega), Int.ediv_eq_zero_of_lt hc.1 hc.2, Int.zero_add]
  refine ⟨?_, ?_, ?_⟩
  · unfold ks_col ks_f
    rw [Int.add_mul_emod_self_left, Int.emod_eq_of_lt hc.1 hc.2]
  · unfold ks_row ks_f
    rw [e0, Int.add_mul_emod_self_left, Int.emod_eq_of_lt hr.1 hr.2]
  · unfold ks_rope ks_f
    rw [e0, Int.add_mul_ediv_left _ _ (by omega), Int.ediv_eq_zero_of_lt hr.1 hr.2, Int.zero_add]
theorem ks_f_st {K : Nat → Int} (h : mm_KV K) {c r p : Int} (hc : 0 ≤ c ∧ c < K 0) (hr : 0 ≤ r ∧ r < K 1) (hp : 0 ≤ p ∧ p < K 2) : ks_st K (ks_f K c r p) := by
  obtain ⟨h0, h1, h2, -⟩ := h
  unfold ks_st ks_f ks_n
  have a : 0 ≤ K 1 * p := Int.mul_nonneg (by omega) hp.1
  have b : K 1 * p ≤ K 1 * (K 2 - 1) := Int.mul_le_mul_of_nonneg_left (by omega) (by omega)
  have c1 : 0 ≤ K 0 * (r + K 1 * p) := Int.mul_nonneg (by omega) (by omega)
  have d : r + K 1 * p ≤ K 1 * K 2 - 1 := by
    rw [Int.mul_sub, Int.mul_one] at b
    omega
  have e : K 0 * (r + K 1 * p) ≤ K 0 * (K 1 * K 2 - 1) := Int.mul_le_mul_of_nonneg_left d (by omega)
  rw [Int.mul_sub, Int.mul_one, ← Int.mul_assoc] at e
  omega
theorem ks_f_of {K : Nat → Int} (s : Int) : ks_f K (ks_col K s) (ks_row K s) (ks_rope K s) = s := by
  unfold ks_f ks_col ks_row ks_rope
  rw [Int.emod_add_mul_ediv, Int.emod_add_mul_ediv]
theorem ks_to_f {K : Nat → Int} (s a : Int) : ks_to K s a = ks_f K (ks_col K s + (if ks_mv a = 1 then -1 else if ks_mv a = 2 then 1 else 0)) (ks_row K s + (if ks_mv a = 3 then 1 else if ks_mv a = 4 then -1 else 0)) (ks_rope K s + (if ks_dr a = 1 then 1 else if ks_dr a = 2 then -1 else 0)) := by
  have e := ks_f_of (K := K) s
  unfold ks_to ks_ms ks_ds
  unfold ks_f at e ⊢
  generalize ks_col K s = c at e ⊢
  generalize ks_row K s = r at e ⊢
  generalize ks_rope K s = p at e ⊢
  rw [← e]
  have key : ∀ u v w : Int, c + u + K 0 * (r + v + K 1 * (p + w)) = c + K 0 * (r + K 1 * p) + u + K 0 * v + K 0 * K 1 * w := by
    intro u v w
    simp only [Int.mul_add, Int.mul_assoc]
    omega
  rw [key]
  generalize c + K 0 * (r + K 1 * p) = z
  generalize K 0 * K 1 = y
  generalize K 0 = k
  by_cases h1 : ks_mv a = 1
  · simp only [h1]
    by_cases d1 : ks_dr a = 1
    · simp [d1]
    · by_cases d2 : ks_dr a = 2
      · simp [d2]
      · simp [d1, d2]
  · by_cases h2 : ks_mv a = 2
    · simp only [h2]
      by_cases d1 : ks_dr a = 1
      · simp [d1]
      · by_cases d2 : ks_dr a = 2
        · simp [d2]
        · simp [d1, d2]
    · by_cases h3 : ks_mv a = 3
      · simp only [h3]
        by_cases d1 : ks_dr a = 1
        · simp [d1]
        · by_cases d2 : ks_dr a = 2
          · simp [d2]
          · simp [d1, d2]
      · by_cases h4 : ks_mv a = 4
        · simp only [h4]
          by_cases d1 : ks_dr a = 1
          · simp [d1]
          · by_cases d2 : ks_dr a = 2
            · simp [d2]
            · simp [d1, d2]
        · simp only [h1, h2, h3, h4, if_false]
          by_cases d1 : ks_dr a = 1
          · simp [d1]
          · by_cases d2 : ks_dr a = 2
            · simp [d2]
            · simp [d1, d2]
theorem ks_to_st {K : Nat → Int} (h : mm_KV K) {s a : Int} (hs : ks_st K s) (hc : ks_can K s a) : ks_st K (ks_to K s a) := by
  rw [ks_to_f]
  have c1 := ks_colb h s
  have c2 := ks_rowb h s
  have c3 := ks_ropeb h hs
  obtain ⟨⟨m1, m2, m3, m4⟩, d1, d2⟩ := hc
  refine ks_f_st h ?_ ?_ ?_
  · split
    · have := m1 (by assumption); omega
    · split
      · have := m2 (by assumption); omega
      · omega
  · split
    · have := m3 (by assumption); omega
    · split
      · have := m4 (by assumption); omega
      · omega
  · split
    · have := d1 (by assumption); omega
    · split
      · have := d2 (by assumption); omega
      · omega
end
