/-! ===== branches behind lcmp ===== -/
section
variable {X : mm_X} {Y : mm_Y} {n0 n1 n pc q t : Nat} {ls st : List mm_V} {M : mm_M} {Φ : mm_V → mm_M → Prop} {x y : Int}
theorem mm_cmpR (x y : Int) : mm_R (if y < x then 1 else if x = y then 0 else -1) := by
  split
  · omega
  · split <;> omega
theorem mm_ifltc (hd : mm_Bz Y.2.1 pc q t .lt) (kt : x < y → mm_J X Y n0 n1 n t ls st M Φ) (kf : ¬ x < y → mm_J X Y n0 n1 n q ls st M Φ) : mm_J X Y n0 n1 n pc ls ((0, if y < x then 1 else if x = y then 0 else -1) :: st) M Φ := by
  refine mm_iflt hd (mm_cmpR x y) (fun h => kt ?_) (fun h => kf ?_)
  · split at h
    · omega
    · split at h <;> omega
  · split at h
    · omega
    · split at h <;> omega
theorem mm_ifgec (hd : mm_Bz Y.2.1 pc q t .ge) (kt : y ≤ x → mm_J X Y n0 n1 n t ls st M Φ) (kf : ¬ y ≤ x → mm_J X Y n0 n1 n q ls st M Φ) : mm_J X Y n0 n1 n pc ls ((0, if y < x then 1 else if x = y then 0 else -1) :: st) M Φ := by
  refine mm_ifge hd (mm_cmpR x y) (fun h => kt ?_) (fun h => kf ?_)
  · split at h
    · omega
    · split at h <;> omega
  · split at h
    · omega
    · split at h <;> omega
theorem mm_ifgtc (hd : mm_Bz Y.2.1 pc q t .gt) (kt : y < x → mm_J X Y n0 n1 n t ls st M Φ) (kf : ¬ y < x → mm_J X Y n0 n1 n q ls st M Φ) : mm_J X Y n0 n1 n pc ls ((0, if y < x then 1 else if x = y then 0 else -1) :: st) M Φ := by
  refine mm_ifgt hd (mm_cmpR x y) (fun h => kt ?_) (fun h => kf ?_)
  · split at h
    · omega
    · split at h <;> omega
  · split at h
    · omega
    · split at h <;> omega
theorem mm_iflec (hd : mm_Bz Y.2.1 pc q t .le) (kt : x ≤ y → mm_J X Y n0 n1 n t ls st M Φ) (kf : ¬ x ≤ y → mm_J X Y n0 n1 n q ls st M Φ) : mm_J X Y n0 n1 n pc ls ((0, if y < x then 1 else if x = y then 0 else -1) :: st) M Φ := by
  refine mm_ifle hd (mm_cmpR x y) (fun h => kt ?_) (fun h => kf ?_)
  · split at h
    · omega
    · split at h <;> omega
  · split at h
    · omega
    · split at h <;> omega
theorem mm_ifeqc (hd : mm_Bz Y.2.1 pc q t .eq) (kt : x = y → mm_J X Y n0 n1 n t ls st M Φ) (kf : ¬ x = y → mm_J X Y n0 n1 n q ls st M Φ) : mm_J X Y n0 n1 n pc ls ((0, if y < x then 1 else if x = y then 0 else -1) :: st) M Φ := by
  refine mm_ifeq hd (mm_cmpR x y) (fun h => kt ?_) (fun h => kf ?_)
  · split at h
    · omega
    · split at h <;> omega
  · split at h
    · omega
    · split at h <;> omega
theorem mm_ifnec (hd : mm_Bz Y.2.1 pc q t .ne) (kt : x ≠ y → mm_J X Y n0 n1 n t ls st M Φ) (kf : x = y → mm_J X Y n0 n1 n q ls st M Φ) : mm_J X Y n0 n1 n pc ls ((0, if y < x then 1 else if x = y then 0 else -1) :: st) M Φ := by
  refine mm_ifne hd (mm_cmpR x y) (fun h => kt ?_) (fun h => kf ?_)
  · split at h
    · omega
    · split at h <;> omega
  · split at h
    · omega
    · split at h <;> omega
end
theorem mm_b1 {P : Prop} [Decidable P] (h : P) : (1 : Int) = mm_b P := (mm_b_t h).symm
theorem mm_b0 {P : Prop} [Decidable P] (h : ¬ P) : (0 : Int) = mm_b P := (mm_b_f h).symm
section
variable {X : mm_X} {Y : mm_Y} {n0 n1 n pc q : Nat} {ls st : List mm_V} {M : mm_M} {Φ : mm_V → mm_M → Prop}
theorem mm_lconst0 (hd : mm_D Y.2.1 pc q (.lconst 0)) (hq : pc + 1 = q) (k : mm_J X Y n0 n1 n q ls ((1, 0) :: st) M Φ) : mm_J X Y n0 n1 n pc ls st M Φ := mm_lconst hd hq k
theorem mm_lconst1 (hd : mm_D Y.2.1 pc q (.lconst 1)) (hq : pc + 1 = q) (k : mm_J X Y n0 n1 n q ls ((1, 1) :: st) M Φ) : mm_J X Y n0 n1 n pc ls st M Φ := mm_lconst hd hq k
end
