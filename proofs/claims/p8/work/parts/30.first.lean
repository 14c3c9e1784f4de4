/-! ===== small methods ===== -/
section
variable {X : mm_X} {M : mm_M}
theorem c_X11_isWithin {n a b : Int} (hn : mm_R n) (ha : mm_R a) (hb : mm_R b) : mm_Fn X Y_X11_isWithin 243 [(0, n), (0, a), (0, b)] M (0, mm_b (a ≤ n ∧ n ≤ b)) M := by
  refine mm_startF (ls := [(0, n), (0, a), (0, b)]) rfl ?_
  refine mm_iload_n dX11_isWithin_0 rfl rfl ?_
  refine mm_iload_n dX11_isWithin_1 rfl rfl ?_
  refine mm_iclt dX11_isWithin_2 (by omega) (by omega) (fun h2 => ?_) (fun h2 => ?_)
  · refine mm_iconst dX11_isWithin_14 rfl ?_
    refine mm_zret dX11_isWithin_15 rfl rfl (Or.inl rfl) ?_
    exact mm_fin (by unfold mm_b; split <;> omega) rfl
  · refine mm_iload_n dX11_isWithin_5 rfl rfl ?_
    refine mm_iload_n dX11_isWithin_6 rfl rfl ?_
    refine mm_icgt dX11_isWithin_7 (by omega) (by omega) (fun h7 => ?_) (fun h7 => ?_)
    · refine mm_iconst dX11_isWithin_14 rfl ?_
      refine mm_zret dX11_isWithin_15 rfl rfl (Or.inl rfl) ?_
      exact mm_fin (by unfold mm_b; split <;> omega) rfl
    · refine mm_iconst dX11_isWithin_10 rfl ?_
      refine mm_goto dX11_isWithin_11 ?_
      refine mm_zret dX11_isWithin_15 rfl rfl (Or.inr rfl) ?_
      exact mm_fin (by unfold mm_b; split <;> omega) rfl
theorem c_X11_isHour {n : Int} (hn : mm_R n) : mm_Fn X Y_X11_isHour 243 [(0, n)] M (0, mm_b (0 ≤ n ∧ n ≤ 23)) M := by
  refine mm_startF (ls := [(0, n)]) rfl ?_
  refine mm_iload_n dX11_isHour_0 rfl rfl ?_
  refine mm_iconst dX11_isHour_1 rfl ?_
  refine mm_bipush dX11_isHour_2 rfl (by decide) ?_
  refine mm_S3i dX11_isHour_4 rfl lk_X11_171 (by simp) (by simp) (by simp) rfl rfl rfl (c_X11_isWithin hn (by omega) (by omega)) ?_
  refine mm_zret dX11_isHour_7 rfl rfl (mm_b_01 _) ?_
  exact mm_fin rfl rfl
theorem c_X11_end {n : Int} (hR : mm_Rf M) (hn : mm_R n) (hl : 0 ≤ M 1 1 ∧ M 1 1 ≤ 800) : mm_Fn X Y_X11_end 243 [(2, 1), (0, n)] M (0, if 0 ≤ n ∧ n ≤ M 1 1 then n else -1) (if 0 ≤ n ∧ n ≤ M 1 1 then mm_up M 1 1 n else M) := by
  refine mm_startF (ls := [(2, 1), (0, n)]) rfl ?_
  refine mm_iload_n dX11_end_0 rfl rfl ?_
  refine mm_iflt dX11_end_1 (by omega) (fun h1 => ?_) (fun h1 => ?_)
  · refine mm_iconst dX11_end_15 rfl ?_
    refine mm_iret dX11_end_16 rfl rfl ?_
    exact mm_fin (by split <;> omega) (by rw [if_neg (by omega)])
  · refine mm_iload_n dX11_end_4 rfl rfl ?_
    refine mm_aload_n dX11_end_5 rfl rfl ?_
    refine mm_getr dX11_end_6 rfl fl_X11_10 (c := 0) rfl (by decide) rfl rfl (hR.at (c := 0) (i := 0) (v := 2) rfl (by decide)) ?_
    refine mm_get (kd := 0) dX11_end_9 rfl fl_X11_105 (c := 1) rfl (by decide) rfl rfl ?_
    refine mm_icle dX11_end_12 (by omega) (by omega) (fun h12 => ?_) (fun h12 => ?_)
    · refine mm_aload_n dX11_end_17 rfl rfl ?_
      refine mm_getr dX11_end_18 rfl fl_X11_10 (c := 0) rfl (by decide) rfl rfl (hR.at (c := 0) (i := 0) (v := 2) rfl (by decide)) ?_
      refine mm_iload_n dX11_end_21 rfl rfl ?_
      refine mm_puti dX11_end_22 rfl fl_X11_105 (c := 1) rfl (by decide) rfl rfl (fun M22 hM22 => ?_)
      have hR22 : mm_Rf M22 := by rw [hM22]; exact hR.up rfl
      refine mm_iload_n dX11_end_25 rfl rfl ?_
      refine mm_iret dX11_end_26 rfl rfl ?_
      exact mm_fin (by rw [if_pos (by omega)]) (by rw [if_pos (by omega), hM22])
    · refine mm_iconst dX11_end_15 rfl ?_
      refine mm_iret dX11_end_16 rfl rfl ?_
      exact mm_fin (by split <;> omega) (by rw [if_neg (by omega)])
end

