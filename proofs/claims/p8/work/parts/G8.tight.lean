/-! ===== the reference: steps that keep the level ===== -/
/-- levels and mean are within these -/
def ky_B (M : mm_M) (n : Nat) : Prop := kw_bd n (M 183 39) (M 183 40) ∧ 0 < M 183 40 ∧ ∀ v, v < n → 0 ≤ M 208 v ∧ M 208 v ≤ 1443225600000
/-- the step keeps the level -/
def ky_t (M : mm_M) (i : Nat) : Prop := M 205 i = 1 ∧ M 208 (i / 15) + (M 183 40 * M 206 i - M 183 39) = M 208 (ke_T (mm_rk M) i)
section
variable {X : mm_X} {M : mm_M} {n : Nat}
theorem c_X13_isTight {s t : Nat} {g : Int} (hR : mm_Rf M) (hn2 : n ≤ 288) (hB : ky_B M n) (hs : s < n) (ht : t < n) (hg : -5800000 ≤ g ∧ g ≤ 5800000) :
    mm_Fn X Y_X13_isTight 243 [(2, 184), (0, (s : Int)), (0, g), (0, (t : Int))] M (0, @mm_b (M 208 s + (M 183 40 * g - M 183 39) = M 208 t) (Int.instDecidableEq _ _)) M := by
  obtain ⟨⟨b1, b2, b3⟩, b4, b5⟩ := hB
  have b3 := b3 b4
  have ls := b5 s hs
  have lt := b5 t ht
  have mb := mm_mulB (a := g) (b := M 183 40) (A := 5800000) (B := 288) (by omega) (by omega) b1 (by omega)
  rw [Int.mul_comm g] at mb
  have cl := c_X13_lessMean (X := X) (g := g) hR (by unfold mm_R; omega)
  obtain ⟨d, hd⟩ : ∃ d, d = M 183 40 * g - M 183 39 := ⟨_, rfl⟩
  rw [← hd] at cl
  rw [← hd]
  refine mm_startF (ls := [(2, 184), (0, (s : Int)), (0, g), (0, (t : Int))]) rfl ?_
  refine mm_aload_n dX13_isTight_0 rfl rfl ?_
  refine mm_getr dX13_isTight_1 rfl fl_X13_272 (c := 183) rfl (by decide) rfl rfl (hR.at (c := 183) (i := 41) (v := 209) rfl (by decide)) ?_
  refine mm_iload_n dX13_isTight_4 rfl rfl ?_
  refine mm_lalk (k0 := s) dX13_isTight_5 rfl (c := 208) rfl (by decide) rfl (by omega) (by omega) ?_
  refine mm_aload_n dX13_isTight_6 rfl rfl ?_
  refine mm_iload_n dX13_isTight_7 rfl rfl ?_
  refine mm_V1l dX13_isTight_8 rfl lk_X13_533 (c := 183) rfl (by decide) rfl (by simp) rfl rfl rfl (cl) ?_
  refine mm_ladd dX13_isTight_11 rfl ?_
  refine mm_aload_n dX13_isTight_12 rfl rfl ?_
  refine mm_getr dX13_isTight_13 rfl fl_X13_272 (c := 183) rfl (by decide) rfl rfl (hR.at (c := 183) (i := 41) (v := 209) rfl (by decide)) ?_
  refine mm_iload_n dX13_isTight_16 rfl rfl ?_
  refine mm_lalk (k0 := t) dX13_isTight_17 rfl (c := 208) rfl (by decide) rfl (by omega) (by omega) ?_
  refine mm_lcmp dX13_isTight_18 rfl (by omega) (by omega) ?_
  refine mm_ifnec dX13_isTight_19 (fun h19 => ?_) (fun h19 => ?_)
  · refine mm_iconst dX13_isTight_26 rfl ?_
    refine mm_zret dX13_isTight_27 rfl rfl (Or.inl rfl) ?_
    exact mm_fin (by unfold mm_b; split <;> omega) rfl
  · refine mm_iconst dX13_isTight_22 rfl ?_
    refine mm_goto dX13_isTight_23 ?_
    refine mm_zret dX13_isTight_27 rfl rfl (Or.inr rfl) ?_
    exact mm_fin (by unfold mm_b; split <;> omega) rfl
theorem c_X13_isTightStep {i s t : Nat} (hR : mm_Rf M) (hn2 : n ≤ 288) (hS : ke_S (mm_rk M) n (M 205) (M 206)) (hB : ky_B M n) (hi : i = 15 * s + t) (hs : s < n) (ht : t < 15) :
    (ky_t M i → mm_Fn X Y_X13_isTightStep 243 [(2, 184), (0, (s : Int)), (0, (t : Int))] M (0, 1) M) ∧ (¬ ky_t M i → mm_Fn X Y_X13_isTightStep 243 [(2, 184), (0, (s : Int)), (0, (t : Int))] M (0, 0) M) := by
  have hix : i / 15 = s := by omega
  have hix2 : i % 15 = t := by omega
  have hin : i < 15 * n := by omega
  by_cases hF : M 205 i = 1
  · have hT := hS.t hin hF
    have hG := ((hS i hin).2 hF).2
    rw [hix, hix2] at hT
    have ca := c_X13_after (X := X) (s := (s : Int)) (a := (t : Int)) hR (by omega)
    rw [← hT.1] at ca
    have ct := c_X13_isTight (X := X) hR hn2 hB hs hT.2 hG
    constructor
    · intro q
      have q2 := q.2
      rw [hix] at q2
      rw [mm_b_t q2] at ct
      refine mm_startF (ls := [(2, 184), (0, (s : Int)), (0, (t : Int))]) rfl ?_
      refine mm_aload_n dX13_isTightStep_0 rfl rfl ?_
      refine mm_getr dX13_isTightStep_1 rfl fl_X13_261 (c := 183) rfl (by decide) rfl rfl (hR.at (c := 183) (i := 36) (v := 206) rfl (by decide)) ?_
      refine mm_bipush dX13_isTightStep_4 rfl (by decide) ?_
      refine mm_iload_n dX13_isTightStep_6 rfl rfl ?_
      refine mm_imul dX13_isTightStep_7 rfl ?_
      refine mm_iload_n dX13_isTightStep_8 rfl rfl ?_
      refine mm_iadd dX13_isTightStep_9 rfl ?_
      refine mm_zalk (k0 := i) dX13_isTightStep_10 rfl (c := 205) rfl (by decide) rfl (by omega) (by omega) ?_
      rw [hF]
      refine mm_ifeq dX13_isTightStep_11 (by omega) (fun h11 => ?_) (fun h11 => ?_)
      · exfalso; omega
      · refine mm_aload_n dX13_isTightStep_14 rfl rfl ?_
        refine mm_iload_n dX13_isTightStep_15 rfl rfl ?_
        refine mm_aload_n dX13_isTightStep_16 rfl rfl ?_
        refine mm_getr dX13_isTightStep_17 rfl fl_X13_264 (c := 183) rfl (by decide) rfl rfl (hR.at (c := 183) (i := 37) (v := 207) rfl (by decide)) ?_
        refine mm_bipush dX13_isTightStep_20 rfl (by decide) ?_
        refine mm_iload_n dX13_isTightStep_22 rfl rfl ?_
        refine mm_imul dX13_isTightStep_23 rfl ?_
        refine mm_iload_n dX13_isTightStep_24 rfl rfl ?_
        refine mm_iadd dX13_isTightStep_25 rfl ?_
        refine mm_ialk (k0 := i) dX13_isTightStep_26 rfl (c := 206) rfl (by decide) rfl (by omega) (by omega) ?_
        refine mm_aload_n dX13_isTightStep_27 rfl rfl ?_
        refine mm_iload_n dX13_isTightStep_28 rfl rfl ?_
        refine mm_iload_n dX13_isTightStep_29 rfl rfl ?_
        refine mm_V2i dX13_isTightStep_30 rfl lk_X13_476 (c := 183) rfl (by decide) rfl (by simp) (by simp) rfl rfl rfl (ca) ?_
        refine mm_V3i dX13_isTightStep_33 rfl lk_X13_537 (c := 183) rfl (by decide) rfl (by simp) (by simp) (by simp) rfl rfl rfl (ct) ?_
        refine mm_ifeq dX13_isTightStep_36 (by omega) (fun h => absurd h (by decide)) (fun _ => ?_)
        refine mm_iconst dX13_isTightStep_39 rfl ?_
        refine mm_goto dX13_isTightStep_40 ?_
        refine mm_zret dX13_isTightStep_44 rfl rfl (Or.inr rfl) ?_
        exact mm_fin rfl rfl
    · intro q
      have q2 : ¬ (M 208 s + (M 183 40 * M 206 i - M 183 39) = M 208 (ke_T (mm_rk M) i)) := fun z => q ⟨hF, by rw [hix]; exact z⟩
      rw [mm_b_f q2] at ct
      refine mm_startF (ls := [(2, 184), (0, (s : Int)), (0, (t : Int))]) rfl ?_
      refine mm_aload_n dX13_isTightStep_0 rfl rfl ?_
      refine mm_getr dX13_isTightStep_1 rfl fl_X13_261 (c := 183) rfl (by decide) rfl rfl (hR.at (c := 183) (i := 36) (v := 206) rfl (by decide)) ?_
      refine mm_bipush dX13_isTightStep_4 rfl (by decide) ?_
      refine mm_iload_n dX13_isTightStep_6 rfl rfl ?_
      refine mm_imul dX13_isTightStep_7 rfl ?_
      refine mm_iload_n dX13_isTightStep_8 rfl rfl ?_
      refine mm_iadd dX13_isTightStep_9 rfl ?_
      refine mm_zalk (k0 := i) dX13_isTightStep_10 rfl (c := 205) rfl (by decide) rfl (by omega) (by omega) ?_
      rw [hF]
      refine mm_ifeq dX13_isTightStep_11 (by omega) (fun h11 => ?_) (fun h11 => ?_)
      · exfalso; omega
      · refine mm_aload_n dX13_isTightStep_14 rfl rfl ?_
        refine mm_iload_n dX13_isTightStep_15 rfl rfl ?_
        refine mm_aload_n dX13_isTightStep_16 rfl rfl ?_
        refine mm_getr dX13_isTightStep_17 rfl fl_X13_264 (c := 183) rfl (by decide) rfl rfl (hR.at (c := 183) (i := 37) (v := 207) rfl (by decide)) ?_
        refine mm_bipush dX13_isTightStep_20 rfl (by decide) ?_
        refine mm_iload_n dX13_isTightStep_22 rfl rfl ?_
        refine mm_imul dX13_isTightStep_23 rfl ?_
        refine mm_iload_n dX13_isTightStep_24 rfl rfl ?_
        refine mm_iadd dX13_isTightStep_25 rfl ?_
        refine mm_ialk (k0 := i) dX13_isTightStep_26 rfl (c := 206) rfl (by decide) rfl (by omega) (by omega) ?_
        refine mm_aload_n dX13_isTightStep_27 rfl rfl ?_
        refine mm_iload_n dX13_isTightStep_28 rfl rfl ?_
        refine mm_iload_n dX13_isTightStep_29 rfl rfl ?_
        refine mm_V2i dX13_isTightStep_30 rfl lk_X13_476 (c := 183) rfl (by decide) rfl (by simp) (by simp) rfl rfl rfl (ca) ?_
        refine mm_V3i dX13_isTightStep_33 rfl lk_X13_537 (c := 183) rfl (by decide) rfl (by simp) (by simp) (by simp) rfl rfl rfl (ct) ?_
        refine mm_ifeq dX13_isTightStep_36 (by omega) (fun _ => ?_) (fun h => absurd (by decide) h)
        refine mm_iconst dX13_isTightStep_43 rfl ?_
        refine mm_zret dX13_isTightStep_44 rfl rfl (Or.inl rfl) ?_
        exact mm_fin rfl rfl
  · have hF0 : M 205 i = 0 := by
      rcases (hS i hin).1 with q | q
      · exact q
      · exact absurd q hF
    refine ⟨fun q => absurd q.1 hF, fun _ => ?_⟩
    refine mm_startF (ls := [(2, 184), (0, (s : Int)), (0, (t : Int))]) rfl ?_
    refine mm_aload_n dX13_isTightStep_0 rfl rfl ?_
    refine mm_getr dX13_isTightStep_1 rfl fl_X13_261 (c := 183) rfl (by decide) rfl rfl (hR.at (c := 183) (i := 36) (v := 206) rfl (by decide)) ?_
    refine mm_bipush dX13_isTightStep_4 rfl (by decide) ?_
    refine mm_iload_n dX13_isTightStep_6 rfl rfl ?_
    refine mm_imul dX13_isTightStep_7 rfl ?_
    refine mm_iload_n dX13_isTightStep_8 rfl rfl ?_
    refine mm_iadd dX13_isTightStep_9 rfl ?_
    refine mm_zalk (k0 := i) dX13_isTightStep_10 rfl (c := 205) rfl (by decide) rfl (by omega) (by omega) ?_
    rw [hF0]
    refine mm_ifeq dX13_isTightStep_11 (by omega) (fun h11 => ?_) (fun h11 => ?_)
    · refine mm_iconst dX13_isTightStep_43 rfl ?_
      refine mm_zret dX13_isTightStep_44 rfl rfl (Or.inl rfl) ?_
      exact mm_fin rfl rfl
    · exfalso; omega
end

