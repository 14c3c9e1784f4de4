/-! ===== branches behind lcmp ===== -/
section
variable {X : mm_X} {Y : mm_Y} {n0 n1 n pc q t : Nat} {ls st : List mm_V} {M : mm_M} {Φ : mm_V → mm_M → Prop} {x y : Int}
theorem mm_cmpR (x y : Int) : mm_R (if y < x then 1 else if x = y then 0 else -1) := by
  split
  · omega
  · split <;> omega
theorem mm_ifltc (hd : mm_Bz Y.2.1 pc q t .lt) (kt : x < y → mm_J X Y n0 n1 n t ls st M Φ) (kf : ¬ x < y → mm_J X Y n0 n1 n q ls st M Φ) : mm_J X Y n0 n1 n pc ls ((0, if y < x then 1 else if x = y then 0 else -1) :: st) M Φ := by
  refine mm_iflt hd (mm_cmpR x y) (fun h => kt ?_) (fun h => kf ?_)
  · split at h
    · omega
    · split at h <;> omega
  · split at h
    · omega
    · split at h <;> omega
theorem mm_ifgec (hd : mm_Bz Y.2.1 pc q t .ge) (kt : y ≤ x → mm_J X Y n0 n1 n t ls st M Φ) (kf : ¬ y ≤ x → mm_J X Y n0 n1 n q ls st M Φ) : mm_J X Y n0 n1 n pc ls ((0, if y < x then 1 else if x = y then 0 else -1) :: st) M Φ := by
  refine mm_ifge hd (mm_cmpR x y) (fun h => kt ?_) (fun h => kf ?_)
  · split at h
    · omega
    · split at h <;> omega
  · split at h
    · omega
    · split at h <;> omega
theorem mm_ifgtc (hd : mm_Bz Y.2.1 pc q t .gt) (kt : y < x → mm_J X Y n0 n1 n t ls st M Φ) (kf : ¬ y < x → mm_J X Y n0 n1 n q ls st M Φ) : mm_J X Y n0 n1 n pc ls ((0, if y < x then 1 else if x = y then 0 else -1) :: st) M Φ := by
  refine mm_ifgt hd (mm_cmpR x y) (fun h => kt ?_) (fun h => kf ?_)
  · split at h
    · omega
    · split at h <;> omega
  · split at h
    · omega
    · split at h <;> omega
theorem mm_iflec (hd : mm_Bz Y.2.1 pc q t .le) (kt : x ≤ y → mm_J X Y n0 n1 n t ls st M Φ) (kf : ¬ x ≤ y → mm_J X Y n0 n1 n q ls st M Φ) : mm_J X Y n0 n1 n pc ls ((0, if y < x then 1 else if x = y then 0 else -1) :: st) M Φ := by
  refine mm_ifle hd (mm_cmpR x y) (fun h => kt ?_) (fun h => kf ?_)
  · split at h
    · omega
    · split at h <;> omega
  · split at h
    · omega
    · split at h <;> omega
theorem mm_ifeqc (hd : mm_Bz Y.2.1 pc q t .eq) (kt : x = y → mm_J X Y n0 n1 n t ls st M Φ) (kf : ¬ x = y → mm_J X Y n0 n1 n q ls st M Φ) : mm_J X Y n0 n1 n pc ls ((0, if y < x then 1 else if x = y then 0 else -1) :: st) M Φ := by
  refine mm_ifeq hd (mm_cmpR x y) (fun h => kt ?_) (fun h => kf ?_)
  · split at h
    · omega
    · split at h <;> omega
  · split at h
    · omega
    · split at h <;> omega
theorem mm_ifnec (hd : mm_Bz Y.2.1 pc q t .ne) (kt : x ≠ y → mm_J X Y n0 n1 n t ls st M Φ) (kf : x = y → mm_J X Y n0 n1 n q ls st M Φ) : mm_J X Y n0 n1 n pc ls ((0, if y < x then 1 else if x = y then 0 else -1) :: st) M Φ := by
  refine mm_ifne hd (mm_cmpR x y) (fun h => kt ?_) (fun h => kf ?_)
  · split at h
    · omega
    · split at h <;> omega
  · split at h
    · omega
    · split at h <;> omega
end
theorem mm_b1 {P : Prop} [Decidable P] (h : P) : (1 : Int) = mm_b P := (mm_b_t h).symm
theorem mm_b0 {P : Prop} [Decidable P] (h : ¬ P) : (0 : Int) = mm_b P := (mm_b_f h).symm
section
variable {X : mm_X} {Y : mm_Y} {n0 n1 n pc q : Nat} {ls st : List mm_V} {M : mm_M} {Φ : mm_V → mm_M → Prop}
theorem mm_lconst0 (hd : mm_D Y.2.1 pc q (.lconst 0)) (hq : pc + 1 = q) (k : mm_J X Y n0 n1 n q ls ((1, 0) :: st) M Φ) : mm_J X Y n0 n1 n pc ls st M Φ := mm_lconst hd hq k
theorem mm_lconst1 (hd : mm_D Y.2.1 pc q (.lconst 1)) (hq : pc + 1 = q) (k : mm_J X Y n0 n1 n q ls ((1, 1) :: st) M Φ) : mm_J X Y n0 n1 n pc ls st M Φ := mm_lconst hd hq k
end
theorem mm_rt_ar {c t len i : Nat} (h : mm_sh c = (t + 1, len)) (ht : t ≠ 4) : mm_rt c i = 0 := by
  have key : mm_rl.all (fun q => (mm_sl.getD q.1 (0, 99)).1 == 0 || (mm_sl.getD q.1 (0, 99)).1 == 5) = true := by decide +kernel
  unfold mm_rt
  have : mm_rl.find? (fun q => q.1 == c && q.2.1 == i) = none := by
    rw [List.find?_eq_none]
    intro q hq hc
    have k := List.all_eq_true.mp key q hq
    simp only [Bool.and_eq_true, beq_iff_eq] at hc
    rw [hc.1] at k
    have e : mm_sl.getD c (0, 99) = (t + 1, len) := h
    rw [e] at k
    simp at k
    omega
  rw [this]
  rfl
