/-! ===== KitePower$Air ===== -/
/-- the class's winds: of every place a span of 0 to 60 -/
def mm_CA (M : mm_M) : Prop := (∀ p, p < 120 → 0 ≤ M 16 p ∧ M 16 p ≤ M 17 p ∧ M 17 p ≤ 60)
def ks_pl (h b : Int) : Nat := (h * 5 + b).toNat
abbrev ks_hr (h : Int) : Prop := 0 ≤ h ∧ h ≤ 23
theorem ks_plb {h b : Int} (hh : ks_hr h) (hb : 0 ≤ b ∧ b ≤ 4) : ks_pl h b < 120 := by unfold ks_pl; omega
/-- the wind by which a state flies in an hour: low, or high -/
def ks_wi (L : Nat → Int) (K : Nat → Int) (s h : Int) : Int := L (ks_pl h (ks_band K s))
abbrev ks_safe (K : Nat → Int) (Lo Hi : Nat → Int) (s a h : Int) : Prop := ks_can K s a ∧ ks_bears K (ks_p K s a (ks_wi Lo K s h)) (ks_p K s a (ks_wi Hi K s h))
def ks_sure (K : Nat → Int) (Lo Hi : Nat → Int) (s a h : Int) : Int := ks_w K (ks_dr a) (ks_p K s a (if ks_dr a = 2 then ks_wi Hi K s h else ks_wi Lo K s h))
theorem mm_CA.wi {M : mm_M} (h : mm_CA M) (hK : mm_KV (M 4)) {s hr : Int} (hs : ks_st (M 4) s) (hh : ks_hr hr) : (0 ≤ ks_wi (M 16) (M 4) s hr ∧ ks_wi (M 16) (M 4) s hr ≤ 60) ∧ (0 ≤ ks_wi (M 17) (M 4) s hr ∧ ks_wi (M 17) (M 4) s hr ≤ 60) := by
  have := h _ (ks_plb hh (ks_bandb hK hs))
  unfold ks_wi
  omega
section
variable {X : mm_X} {M : mm_M} {s a h b p t e sh : Int}
theorem c_X0_hourOf (hh : 0 ≤ h ∧ h ≤ 23) (ht : 0 ≤ t ∧ t ≤ 100000) (he : 1 ≤ e ∧ e ≤ 60) : mm_Fn X Y_X0_hourOf 243 [(0, h), (0, t), (0, e)] M (0, (h + t / e) % 24) M := by
  have hd := mm_divb (b := e) ht.1 ht.2 (by omega)
  refine mm_startF (ls := [(0, h), (0, t), (0, e)]) rfl ?_
  refine mm_iload_n dX0_hourOf_0 rfl rfl ?_
  refine mm_iload_n dX0_hourOf_1 rfl rfl ?_
  refine mm_iload_n dX0_hourOf_2 rfl rfl ?_
  refine mm_iconst dX0_hourOf_3 rfl ?_
  refine mm_max dX0_hourOf_4 rfl lm_X0_42 rfl rfl (by simp) (by omega) (by omega) ?_
  rw [show max e 1 = e by omega]
  refine mm_idiv dX0_hourOf_7 rfl (by omega) (by omega) (by omega) ?_
  rw [mm_tdiv ht.1]
  refine mm_iadd dX0_hourOf_8 rfl ?_
  refine mm_bipush dX0_hourOf_9 rfl (by decide) ?_
  refine mm_irem dX0_hourOf_11 rfl (by omega) (by omega) (by omega) ?_
  refine mm_iret dX0_hourOf_12 rfl rfl ?_
  exact mm_fin (by rw [mm_tmod (by omega)]) rfl
theorem c_X0_placeOf : mm_Fn X Y_X0_placeOf 243 [(0, h), (0, b)] M (0, h * 5 + b) M := by
  refine mm_startF (ls := [(0, h), (0, b)]) rfl ?_
  refine mm_iload_n dX0_placeOf_0 rfl rfl ?_
  refine mm_iconst dX0_placeOf_1 rfl ?_
  refine mm_imul dX0_placeOf_2 rfl ?_
  refine mm_iload_n dX0_placeOf_3 rfl rfl ?_
  refine mm_iadd dX0_placeOf_4 rfl ?_
  refine mm_iret dX0_placeOf_5 rfl rfl ?_
  exact mm_fin rfl rfl
theorem c_X0_lowAt (hR : mm_Rf M) (hh : ks_hr h) (hb : 0 ≤ b ∧ b ≤ 4) : mm_Fn X Y_X0_lowAt 243 [(2, 12), (0, h), (0, b)] M (0, M 16 (ks_pl h b)) M := by
  refine mm_startF (ls := [(2, 12), (0, h), (0, b)]) rfl ?_
  refine mm_aload_n dX0_lowAt_0 rfl rfl ?_
  refine mm_getr dX0_lowAt_1 rfl fl_X0_26 (c := 11) rfl (by decide) rfl rfl (hR.at (c := 11) (i := 7) (v := 17) rfl (by decide)) ?_
  refine mm_iload_n dX0_lowAt_4 rfl rfl ?_
  refine mm_iload_n dX0_lowAt_5 rfl rfl ?_
  refine mm_S2i dX0_lowAt_6 rfl lk_X0_48 (by simp) (by simp) rfl rfl rfl (c_X0_placeOf) ?_
  refine mm_iald dX0_lowAt_9 rfl (c := 16) rfl (by decide) rfl (by omega) (by omega) ?_
  refine mm_iret dX0_lowAt_10 rfl rfl ?_
  exact mm_fin rfl rfl
theorem c_X0_highAt (hR : mm_Rf M) (hh : ks_hr h) (hb : 0 ≤ b ∧ b ≤ 4) : mm_Fn X Y_X0_highAt 243 [(2, 12), (0, h), (0, b)] M (0, M 17 (ks_pl h b)) M := by
  refine mm_startF (ls := [(2, 12), (0, h), (0, b)]) rfl ?_
  refine mm_aload_n dX0_highAt_0 rfl rfl ?_
  refine mm_getr dX0_highAt_1 rfl fl_X0_29 (c := 11) rfl (by decide) rfl rfl (hR.at (c := 11) (i := 8) (v := 18) rfl (by decide)) ?_
  refine mm_iload_n dX0_highAt_4 rfl rfl ?_
  refine mm_iload_n dX0_highAt_5 rfl rfl ?_
  refine mm_S2i dX0_highAt_6 rfl lk_X0_48 (by simp) (by simp) rfl rfl rfl (c_X0_placeOf) ?_
  refine mm_iald dX0_highAt_9 rfl (c := 17) rfl (by decide) rfl (by omega) (by omega) ?_
  refine mm_iret dX0_highAt_10 rfl rfl ?_
  exact mm_fin rfl rfl
theorem c_X0_windIn {P : Prop} [Decidable P] (hR : mm_Rf M) (hK : mm_CK M) (hs : ks_st (M 4) s) (hh : ks_hr h) : mm_Fn X Y_X0_windIn 243 [(2, 12), (0, s), (0, h), (0, mm_b P)] M (0, if P then ks_wi (M 17) (M 4) s h else ks_wi (M 16) (M 4) s h) M := by
  have ht := hK.tab hs
  have hn := ks_nb hK.1
  have hb := ks_bandb hK.1 hs
  have := hs.1
  have := hs.2
  refine mm_startF (ls := [(2, 12), (0, s), (0, h), (0, mm_b P), (9, 0)]) rfl ?_
  refine mm_aload_n dX0_windIn_0 rfl rfl ?_
  refine mm_getr dX0_windIn_1 rfl fl_X0_32 (c := 11) rfl (by decide) rfl rfl (hR.at (c := 11) (i := 0) (v := 4) rfl (by decide)) ?_
  refine mm_getr dX0_windIn_4 rfl fl_X0_58 (c := 3) rfl (by decide) rfl rfl (hR.at (c := 3) (i := 7) (v := 11) rfl (by decide)) ?_
  refine mm_iload_n dX0_windIn_7 rfl rfl ?_
  refine mm_iald dX0_windIn_8 rfl (c := 10) rfl (by decide) rfl (by omega) (by omega) ?_
  rw [ht.2.2.2.2]
  refine mm_istore dX0_windIn_9 rfl (Nat.le_of_ble_eq_true rfl) rfl ?_
  refine mm_iload_n dX0_windIn_11 rfl rfl ?_
  refine mm_ifeqb dX0_windIn_12 (fun h12 => ?_) (fun h12 => ?_)
  · refine mm_aload_n dX0_windIn_25 rfl rfl ?_
    refine mm_iload_n dX0_windIn_26 rfl rfl ?_
    refine mm_iload dX0_windIn_27 rfl rfl ?_
    refine mm_V2i dX0_windIn_29 rfl lk_X0_64 (c := 11) rfl (by decide) rfl (by simp) (by simp) rfl rfl rfl (c_X0_lowAt hR hh hb) ?_
    refine mm_iret dX0_windIn_32 rfl rfl ?_
    exact mm_fin (by first | (rw [if_pos h12]; rfl) | (rw [if_neg h12]; rfl)) rfl
  · refine mm_aload_n dX0_windIn_15 rfl rfl ?_
    refine mm_iload_n dX0_windIn_16 rfl rfl ?_
    refine mm_iload dX0_windIn_17 rfl rfl ?_
    refine mm_V2i dX0_windIn_19 rfl lk_X0_61 (c := 11) rfl (by decide) rfl (by simp) (by simp) rfl rfl rfl (c_X0_highAt hR hh hb) ?_
    refine mm_goto dX0_windIn_22 ?_
    refine mm_iret dX0_windIn_32 rfl rfl ?_
    exact mm_fin (by first | (rw [if_pos h12]; rfl) | (rw [if_neg h12]; rfl)) rfl
theorem c_X0_pullBy {P : Prop} [Decidable P] (hR : mm_Rf M) (hK : mm_CK M) (hA : mm_CA M) (hs : ks_st (M 4) s) (ha : ks_ac (M 4) a) (hh : ks_hr h) : mm_Fn X Y_X0_pullBy 243 [(2, 12), (0, s), (0, a), (0, h), (0, mm_b P)] M (0, ks_p (M 4) s a (if P then ks_wi (M 17) (M 4) s h else ks_wi (M 16) (M 4) s h)) M := by
  have hw := hA.wi hK.1 hs hh
  refine mm_startF (ls := [(2, 12), (0, s), (0, a), (0, h), (0, mm_b P)]) rfl ?_
  refine mm_aload_n dX0_pullBy_0 rfl rfl ?_
  refine mm_getr dX0_pullBy_1 rfl fl_X0_32 (c := 11) rfl (by decide) rfl rfl (hR.at (c := 11) (i := 0) (v := 4) rfl (by decide)) ?_
  refine mm_iload_n dX0_pullBy_4 rfl rfl ?_
  refine mm_iload_n dX0_pullBy_5 rfl rfl ?_
  refine mm_aload_n dX0_pullBy_6 rfl rfl ?_
  refine mm_iload_n dX0_pullBy_7 rfl rfl ?_
  refine mm_iload_n dX0_pullBy_8 rfl rfl ?_
  refine mm_iload dX0_pullBy_9 rfl rfl ?_
  refine mm_V3i dX0_pullBy_11 rfl lk_X0_67 (c := 11) rfl (by decide) rfl (by simp) (by simp) (by simp) rfl rfl rfl (c_X0_windIn hR hK hs hh) ?_
  refine mm_V3i dX0_pullBy_14 rfl lk_X0_71 (c := 3) rfl (by decide) rfl (by simp) (by simp) (by simp) rfl rfl rfl (c_X4_pullOf hR hK hs ha (by split <;> omega)) ?_
  refine mm_iret dX0_pullBy_17 rfl rfl ?_
  exact mm_fin rfl rfl
end

