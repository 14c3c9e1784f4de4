theorem ks_wb {K : Nat → Int} (h : mm_KV K) {p : Int} (hp : 0 ≤ p ∧ p ≤ 1425600) : 0 ≤ p * K 7 ∧ p * K 7 ≤ 570240000 := by
  obtain ⟨-, -, -, -, -, -, -, h7, -⟩ := h
  have := mm_mulb (a := p) (b := K 7) (A := 1425600) (B := 400) hp.1 hp.2 (by omega) h7.2
  omega
/-- the act, with stay or hold for what would leave the states -/
def ks_in (K : Nat → Int) (s a : Int) : Int := (if ks_cm K s (ks_mv a) then a else a - 3 * ks_mv a) - (if ks_cr K s (ks_dr a) then 0 else ks_dr a)
def ks_fate (K : Nat → Int) (p : Int) : Int := if p < K 4 then 1 else if K 5 < p then 2 else 0
abbrev ks_bears (K : Nat → Int) (pl ph : Int) : Prop := K 4 ≤ pl ∧ ph ≤ K 5
def ks_told (K : Nat → Int) (x : Int) : Int := if (0 ≤ x ∧ x ≤ 10) ∨ (20 ≤ x ∧ x - 20 < K 10) ∨ (30 ≤ x ∧ x - 30 < K 0) then K x.toNat else -1
section
variable {X : mm_X} {M : mm_M} {s a m w d p p2 sl c : Int}
theorem c_X4_goal (hR : mm_Rf M) (hK : mm_CK M) (hs : ks_st (M 4) s) (ha : ks_ac (M 4) a) : mm_Fn X Y_X4_goal 243 [(2, 4), (0, s), (0, a)] M (0, if ks_can (M 4) s a then ks_to (M 4) s a else -1) M := by
  have hsl := ks_slb hK.1 ha
  have hm := ks_mvb ha.1
  have hd := ks_drb ha.1
  have h45 : a < 1000 := by omega
  refine mm_startF (ls := [(2, 4), (0, s), (0, a), (9, 0), (9, 0), (9, 0)]) rfl ?_
  refine mm_iload_n dX4_goal_0 rfl rfl ?_
  refine mm_S1i dX4_goal_1 rfl lk_X4_121 (by simp) rfl rfl rfl (c_X4_moveOf ⟨ha.1, h45⟩) ?_
  refine mm_istore_n dX4_goal_4 rfl (Nat.le_of_ble_eq_true rfl) rfl ?_
  refine mm_iload_n dX4_goal_5 rfl rfl ?_
  refine mm_S1i dX4_goal_6 rfl lk_X4_125 (by simp) rfl rfl rfl (c_X4_drumOf ⟨ha.1, h45⟩) ?_
  refine mm_istore dX4_goal_9 rfl (Nat.le_of_ble_eq_true rfl) rfl ?_
  refine mm_aload_n dX4_goal_11 rfl rfl ?_
  refine mm_iload_n dX4_goal_12 rfl rfl ?_
  refine mm_iload_n dX4_goal_13 rfl rfl ?_
  refine mm_V2i dX4_goal_14 rfl lk_X4_128 (c := 3) rfl (by decide) rfl (by simp) (by simp) rfl rfl rfl (c_X4_canMove hR hK hs hm) ?_
  refine mm_ifeqb dX4_goal_17 (fun h17 => ?_) (fun h17 => ?_)
  · refine mm_iconst dX4_goal_34 rfl ?_
    refine mm_istore dX4_goal_35 rfl (Nat.le_of_ble_eq_true rfl) rfl ?_
    refine mm_iload dX4_goal_37 rfl rfl ?_
    refine mm_ifeq dX4_goal_39 (by omega) (fun _ => ?_) (fun h => absurd (by decide) h)
    refine mm_iconst dX4_goal_59 rfl ?_
    refine mm_iret dX4_goal_60 rfl rfl ?_
    refine mm_fin ?_ rfl
    first
    | (rw [if_pos ⟨h17, h27⟩]; rfl)
    | (rw [if_neg (fun q => h17 q.1)]; done)
    | (rw [if_neg (fun q => h27 q.2)]; done)
  · refine mm_aload_n dX4_goal_20 rfl rfl ?_
    refine mm_iload_n dX4_goal_21 rfl rfl ?_
    refine mm_iload dX4_goal_22 rfl rfl ?_
    refine mm_V2i dX4_goal_24 rfl lk_X4_131 (c := 3) rfl (by decide) rfl (by simp) (by simp) rfl rfl rfl (c_X4_canReel hR hK hs hd) ?_
    refine mm_ifeqb dX4_goal_27 (fun h27 => ?_) (fun h27 => ?_)
    · refine mm_iconst dX4_goal_34 rfl ?_
      refine mm_istore dX4_goal_35 rfl (Nat.le_of_ble_eq_true rfl) rfl ?_
      refine mm_iload dX4_goal_37 rfl rfl ?_
      refine mm_ifeq dX4_goal_39 (by omega) (fun _ => ?_) (fun h => absurd (by decide) h)
      refine mm_iconst dX4_goal_59 rfl ?_
      refine mm_iret dX4_goal_60 rfl rfl ?_
      refine mm_fin ?_ rfl
      first
      | (rw [if_pos ⟨h17, h27⟩]; rfl)
      | (rw [if_neg (fun q => h17 q.1)]; done)
      | (rw [if_neg (fun q => h27 q.2)]; done)
    · refine mm_iconst dX4_goal_30 rfl ?_
      refine mm_goto dX4_goal_31 ?_
      refine mm_istore dX4_goal_35 rfl (Nat.le_of_ble_eq_true rfl) rfl ?_
      refine mm_iload dX4_goal_37 rfl rfl ?_
      refine mm_ifeq dX4_goal_39 (by omega) (fun h => absurd h (by decide)) (fun _ => ?_)
      refine mm_iload_n dX4_goal_42 rfl rfl ?_
      refine mm_aload_n dX4_goal_43 rfl rfl ?_
      refine mm_iload_n dX4_goal_44 rfl rfl ?_
      refine mm_V1i dX4_goal_45 rfl lk_X4_134 (c := 3) rfl (by decide) rfl (by simp) rfl rfl rfl (c_X4_moveStep hR hm) ?_
      refine mm_iadd dX4_goal_48 rfl ?_
      refine mm_aload_n dX4_goal_49 rfl rfl ?_
      refine mm_iload dX4_goal_50 rfl rfl ?_
      refine mm_V1i dX4_goal_52 rfl lk_X4_137 (c := 3) rfl (by decide) rfl (by simp) rfl rfl rfl (c_X4_drumStep hR hK hd) ?_
      refine mm_iadd dX4_goal_55 rfl ?_
      refine mm_goto dX4_goal_56 ?_
      refine mm_iret dX4_goal_60 rfl rfl ?_
      refine mm_fin ?_ rfl
      first
      | (rw [if_pos ⟨h17, h27⟩]; rfl)
      | (rw [if_neg (fun q => h17 q.1)]; done)
      | (rw [if_neg (fun q => h27 q.2)]; done)
theorem c_X4_withinStates (hR : mm_Rf M) (hK : mm_CK M) (hs : ks_st (M 4) s) (ha : ks_ac (M 4) a) : mm_Fn X Y_X4_withinStates 243 [(2, 4), (0, s), (0, a)] M (0, ks_in (M 4) s a) M := by
  have hsl := ks_slb hK.1 ha
  have hm := ks_mvb ha.1
  have hd := ks_drb ha.1
  have h45 : a < 1000 := by omega
  refine mm_startF (ls := [(2, 4), (0, s), (0, a), (9, 0), (9, 0), (9, 0)]) rfl ?_
  refine mm_iload_n dX4_withinStates_0 rfl rfl ?_
  refine mm_S1i dX4_withinStates_1 rfl lk_X4_121 (by simp) rfl rfl rfl (c_X4_moveOf ⟨ha.1, h45⟩) ?_
  refine mm_istore_n dX4_withinStates_4 rfl (Nat.le_of_ble_eq_true rfl) rfl ?_
  refine mm_iload_n dX4_withinStates_5 rfl rfl ?_
  refine mm_S1i dX4_withinStates_6 rfl lk_X4_125 (by simp) rfl rfl rfl (c_X4_drumOf ⟨ha.1, h45⟩) ?_
  refine mm_istore dX4_withinStates_9 rfl (Nat.le_of_ble_eq_true rfl) rfl ?_
  refine mm_aload_n dX4_withinStates_11 rfl rfl ?_
  refine mm_iload_n dX4_withinStates_12 rfl rfl ?_
  refine mm_iload_n dX4_withinStates_13 rfl rfl ?_
  refine mm_V2i dX4_withinStates_14 rfl lk_X4_128 (c := 3) rfl (by decide) rfl (by simp) (by simp) rfl rfl rfl (c_X4_canMove hR hK hs hm) ?_
  refine mm_ifeqb dX4_withinStates_17 (fun h17 => ?_) (fun h17 => ?_)
  · refine mm_iload_n dX4_withinStates_24 rfl rfl ?_
    refine mm_iconst dX4_withinStates_25 rfl ?_
    refine mm_iload_n dX4_withinStates_26 rfl rfl ?_
    refine mm_imul dX4_withinStates_27 rfl ?_
    refine mm_isub dX4_withinStates_28 rfl ?_
    refine mm_istore dX4_withinStates_29 rfl (Nat.le_of_ble_eq_true rfl) rfl ?_
    refine mm_aload_n dX4_withinStates_31 rfl rfl ?_
    refine mm_iload_n dX4_withinStates_32 rfl rfl ?_
    refine mm_iload dX4_withinStates_33 rfl rfl ?_
    refine mm_V2i dX4_withinStates_35 rfl lk_X4_131 (c := 3) rfl (by decide) rfl (by simp) (by simp) rfl rfl rfl (c_X4_canReel hR hK hs hd) ?_
    refine mm_ifeqb dX4_withinStates_38 (fun h38 => ?_) (fun h38 => ?_)
    · refine mm_iload dX4_withinStates_46 rfl rfl ?_
      refine mm_iload dX4_withinStates_48 rfl rfl ?_
      refine mm_isub dX4_withinStates_50 rfl ?_
      refine mm_iret dX4_withinStates_51 rfl rfl ?_
      exact mm_fin (by unfold ks_in; (first | rw [if_pos h17, if_pos h38] | rw [if_pos h17, if_neg h38] | rw [if_neg h17, if_pos h38] | rw [if_neg h17, if_neg h38]); try omega) rfl
    · refine mm_iload dX4_withinStates_41 rfl rfl ?_
      refine mm_goto dX4_withinStates_43 ?_
      refine mm_iret dX4_withinStates_51 rfl rfl ?_
      exact mm_fin (by unfold ks_in; (first | rw [if_pos h17, if_pos h38] | rw [if_pos h17, if_neg h38] | rw [if_neg h17, if_pos h38] | rw [if_neg h17, if_neg h38]); try omega) rfl
  · refine mm_iload_n dX4_withinStates_20 rfl rfl ?_
    refine mm_goto dX4_withinStates_21 ?_
    refine mm_istore dX4_withinStates_29 rfl (Nat.le_of_ble_eq_true rfl) rfl ?_
    refine mm_aload_n dX4_withinStates_31 rfl rfl ?_
    refine mm_iload_n dX4_withinStates_32 rfl rfl ?_
    refine mm_iload dX4_withinStates_33 rfl rfl ?_
    refine mm_V2i dX4_withinStates_35 rfl lk_X4_131 (c := 3) rfl (by decide) rfl (by simp) (by simp) rfl rfl rfl (c_X4_canReel hR hK hs hd) ?_
    refine mm_ifeqb dX4_withinStates_38 (fun h38 => ?_) (fun h38 => ?_)
    · refine mm_iload dX4_withinStates_46 rfl rfl ?_
      refine mm_iload dX4_withinStates_48 rfl rfl ?_
      refine mm_isub dX4_withinStates_50 rfl ?_
      refine mm_iret dX4_withinStates_51 rfl rfl ?_
      exact mm_fin (by unfold ks_in; (first | rw [if_pos h17, if_pos h38] | rw [if_pos h17, if_neg h38] | rw [if_neg h17, if_pos h38] | rw [if_neg h17, if_neg h38]); try omega) rfl
    · refine mm_iload dX4_withinStates_41 rfl rfl ?_
      refine mm_goto dX4_withinStates_43 ?_
      refine mm_iret dX4_withinStates_51 rfl rfl ?_
      exact mm_fin (by unfold ks_in; (first | rw [if_pos h17, if_pos h38] | rw [if_pos h17, if_neg h38] | rw [if_neg h17, if_pos h38] | rw [if_neg h17, if_neg h38]); try omega) rfl
theorem c_X4_pullAt {P : Prop} [Decidable P] (hR : mm_Rf M) (hK : mm_CK M) (hsl : 0 ≤ sl ∧ sl < 3) (hc : 0 ≤ c ∧ c < 6) (hw : 0 ≤ w ∧ w ≤ 120) : mm_Fn X Y_X4_pullAt 243 [(2, 4), (0, sl), (0, c), (0, mm_b P), (0, w)] M (0, ks_pa (M 4) sl c P w) M := by
  have hb := ks_pab hK.1 hsl hc hw
  have hp := ks_pb (sw := P) hK.1 hsl hc hw
  refine mm_startF (ls := [(2, 4), (0, sl), (0, c), (0, mm_b P), (0, w), (9, 0)]) rfl ?_
  refine mm_aload_n dX4_pullAt_0 rfl rfl ?_
  refine mm_getr dX4_pullAt_1 rfl fl_X4_11 (c := 3) rfl (by decide) rfl rfl (hR.at (c := 3) (i := 0) (v := 5) rfl (by decide)) ?_
  refine mm_bipush dX4_pullAt_4 rfl (by decide) ?_
  refine mm_iload_n dX4_pullAt_6 rfl rfl ?_
  refine mm_iadd dX4_pullAt_7 rfl ?_
  refine mm_ialk (k0 := 20 + sl.toNat) dX4_pullAt_8 rfl (c := 4) rfl (by decide) rfl (by omega) (by omega) ?_
  refine mm_iload dX4_pullAt_9 rfl rfl ?_
  refine mm_imul dX4_pullAt_11 rfl ?_
  refine mm_iload dX4_pullAt_12 rfl rfl ?_
  refine mm_imul dX4_pullAt_14 rfl ?_
  refine mm_aload_n dX4_pullAt_15 rfl rfl ?_
  refine mm_getr dX4_pullAt_16 rfl fl_X4_11 (c := 3) rfl (by decide) rfl rfl (hR.at (c := 3) (i := 0) (v := 5) rfl (by decide)) ?_
  refine mm_bipush dX4_pullAt_19 rfl (by decide) ?_
  refine mm_iload_n dX4_pullAt_21 rfl rfl ?_
  refine mm_iadd dX4_pullAt_22 rfl ?_
  refine mm_ialk (k0 := 30 + c.toNat) dX4_pullAt_23 rfl (c := 4) rfl (by decide) rfl (by omega) (by omega) ?_
  refine mm_imul dX4_pullAt_24 rfl ?_
  refine mm_bipush dX4_pullAt_25 rfl (by decide) ?_
  refine mm_idiv dX4_pullAt_27 rfl (by omega) (by omega) (by omega) ?_
  rw [mm_tdiv (by omega)]
  refine mm_istore dX4_pullAt_28 rfl (Nat.le_of_ble_eq_true rfl) rfl ?_
  refine mm_iload_n dX4_pullAt_30 rfl rfl ?_
  refine mm_ifeqb dX4_pullAt_31 (fun h31 => ?_) (fun h31 => ?_)
  · refine mm_iload dX4_pullAt_50 rfl rfl ?_
    refine mm_iret dX4_pullAt_52 rfl rfl ?_
    exact mm_fin (by unfold ks_pa; first | (rw [if_neg h31]; done) | (rw [if_pos h31, mm_tdiv (by omega)])) rfl
  · refine mm_iload dX4_pullAt_34 rfl rfl ?_
    refine mm_aload_n dX4_pullAt_36 rfl rfl ?_
    refine mm_getr dX4_pullAt_37 rfl fl_X4_11 (c := 3) rfl (by decide) rfl rfl (hR.at (c := 3) (i := 0) (v := 5) rfl (by decide)) ?_
    refine mm_bipush dX4_pullAt_40 rfl (by decide) ?_
    refine mm_ialk (k0 := 8) dX4_pullAt_42 rfl (c := 4) rfl (by decide) rfl rfl (by decide) ?_
    refine mm_imul dX4_pullAt_43 rfl ?_
    refine mm_bipush dX4_pullAt_44 rfl (by decide) ?_
    refine mm_idiv dX4_pullAt_46 rfl (by omega) (by omega) (by omega) ?_
    refine mm_goto dX4_pullAt_47 ?_
    refine mm_iret dX4_pullAt_52 rfl rfl ?_
    exact mm_fin (by unfold ks_pa; first | (rw [if_neg h31]; done) | (rw [if_pos h31, mm_tdiv (by omega)])) rfl
theorem c_X4_pullOf (hR : mm_Rf M) (hK : mm_CK M) (hs : ks_st (M 4) s) (ha : ks_ac (M 4) a) (hw : 0 ≤ w ∧ w ≤ 120) : mm_Fn X Y_X4_pullOf 243 [(2, 4), (0, s), (0, a), (0, w)] M (0, ks_p (M 4) s a w) M := by
  have hsl := ks_slb hK.1 ha
  have hm := ks_mvb ha.1
  have h45 : a < 1000 := by omega
  have hn := ks_nb hK.1
  have ht := hK.tab hs
  have hc := ks_colb hK.1 s
  obtain ⟨h0, -⟩ := id hK.1
  have := hs.1
  have := hs.2
  have ed : a.tdiv 15 = a / 15 := mm_tdiv ha.1
  refine mm_startF (ls := [(2, 4), (0, s), (0, a), (0, w)]) rfl ?_
  refine mm_aload_n dX4_pullOf_0 rfl rfl ?_
  refine mm_iload_n dX4_pullOf_1 rfl rfl ?_
  refine mm_bipush dX4_pullOf_2 rfl (by decide) ?_
  refine mm_idiv dX4_pullOf_4 rfl (by omega) (by omega) (by omega) ?_
  rw [ed]
  refine mm_aload_n dX4_pullOf_5 rfl rfl ?_
  refine mm_getr dX4_pullOf_6 rfl fl_X4_18 (c := 3) rfl (by decide) rfl rfl (hR.at (c := 3) (i := 3) (v := 7) rfl (by decide)) ?_
  refine mm_iload_n dX4_pullOf_9 rfl rfl ?_
  refine mm_iald dX4_pullOf_10 rfl (c := 6) rfl (by decide) rfl (by omega) (by omega) ?_
  rw [ht.1]
  refine mm_iload_n dX4_pullOf_11 rfl rfl ?_
  refine mm_S1i dX4_pullOf_12 rfl lk_X4_121 (by simp) rfl rfl rfl (c_X4_moveOf ⟨ha.1, h45⟩) ?_
  refine mm_S1i dX4_pullOf_15 rfl lk_X4_140 (by simp) rfl rfl rfl (c_X4_isSideways (by omega)) ?_
  refine mm_iload_n dX4_pullOf_18 rfl rfl ?_
  refine mm_V4i dX4_pullOf_19 rfl lk_X4_143 (c := 3) rfl (by decide) rfl (by simp) (by simp) (by simp) (by simp) rfl rfl rfl (c_X4_pullAt hR hK ⟨hsl.1, hsl.2.2⟩ (by omega) hw) ?_
  refine mm_iret dX4_pullOf_22 rfl rfl ?_
  exact mm_fin rfl rfl
theorem c_X4_workOf (hR : mm_Rf M) (hK : mm_CK M) (hd : 0 ≤ d ∧ d ≤ 2) (hp : 0 ≤ p ∧ p ≤ 1425600) : mm_Fn X Y_X4_workOf 243 [(2, 4), (0, d), (0, p)] M (0, ks_w (M 4) d p) M := by
  have hb := ks_wb hK.1 hp
  obtain ⟨-, -, -, -, -, -, h6, h7, -⟩ := id hK.1
  refine mm_startF (ls := [(2, 4), (0, d), (0, p)]) rfl ?_
  refine mm_iload_n dX4_workOf_0 rfl rfl ?_
  refine mm_iconst dX4_workOf_1 rfl ?_
  refine mm_icne dX4_workOf_2 (by omega) (by omega) (fun h2 => ?_) (fun h2 => ?_)
  · refine mm_iload_n dX4_workOf_15 rfl rfl ?_
    refine mm_iconst dX4_workOf_16 rfl ?_
    refine mm_icne dX4_workOf_17 (by omega) (by omega) (fun h17 => ?_) (fun h17 => ?_)
    · refine mm_iconst dX4_workOf_44 rfl ?_
      refine mm_iret dX4_workOf_45 rfl rfl ?_
      exact mm_fin (by unfold ks_w; first | (rw [if_pos (by omega)]; done) | (rw [if_neg (by omega), if_pos (by omega), mm_tdiv (by omega)]; done) | (rw [if_neg (by omega), if_neg (by omega)])) rfl
    · refine mm_iload_n dX4_workOf_20 rfl rfl ?_
      refine mm_aload_n dX4_workOf_21 rfl rfl ?_
      refine mm_getr dX4_workOf_22 rfl fl_X4_11 (c := 3) rfl (by decide) rfl rfl (hR.at (c := 3) (i := 0) (v := 5) rfl (by decide)) ?_
      refine mm_bipush dX4_workOf_25 rfl (by decide) ?_
      refine mm_ialk (k0 := 7) dX4_workOf_27 rfl (c := 4) rfl (by decide) rfl rfl (by decide) ?_
      refine mm_imul dX4_workOf_28 rfl ?_
      refine mm_bipush dX4_workOf_29 rfl (by decide) ?_
      refine mm_idiv dX4_workOf_31 rfl (by omega) (by omega) (by omega) ?_
      refine mm_ineg dX4_workOf_32 rfl ?_
      refine mm_aload_n dX4_workOf_33 rfl rfl ?_
      refine mm_getr dX4_workOf_34 rfl fl_X4_11 (c := 3) rfl (by decide) rfl rfl (hR.at (c := 3) (i := 0) (v := 5) rfl (by decide)) ?_
      refine mm_bipush dX4_workOf_37 rfl (by decide) ?_
      refine mm_ialk (k0 := 6) dX4_workOf_39 rfl (c := 4) rfl (by decide) rfl rfl (by decide) ?_
      refine mm_isub dX4_workOf_40 rfl ?_
      refine mm_goto dX4_workOf_41 ?_
      refine mm_iret dX4_workOf_45 rfl rfl ?_
      exact mm_fin (by unfold ks_w; first | (rw [if_pos (by omega)]; done) | (rw [if_neg (by omega), if_pos (by omega), mm_tdiv (by omega)]; done) | (rw [if_neg (by omega), if_neg (by omega)])) rfl
  · refine mm_iload_n dX4_workOf_5 rfl rfl ?_
    refine mm_aload_n dX4_workOf_6 rfl rfl ?_
    refine mm_getr dX4_workOf_7 rfl fl_X4_11 (c := 3) rfl (by decide) rfl rfl (hR.at (c := 3) (i := 0) (v := 5) rfl (by decide)) ?_
    refine mm_bipush dX4_workOf_10 rfl (by decide) ?_
    refine mm_ialk (k0 := 6) dX4_workOf_12 rfl (c := 4) rfl (by decide) rfl rfl (by decide) ?_
    refine mm_isub dX4_workOf_13 rfl ?_
    refine mm_iret dX4_workOf_14 rfl rfl ?_
    exact mm_fin (by unfold ks_w; first | (rw [if_pos (by omega)]; done) | (rw [if_neg (by omega), if_pos (by omega), mm_tdiv (by omega)]; done) | (rw [if_neg (by omega), if_neg (by omega)])) rfl
theorem c_X4_fateOf (hR : mm_Rf M) (hK : mm_CK M) (hp : mm_R p) : mm_Fn X Y_X4_fateOf 243 [(2, 4), (0, p)] M (0, ks_fate (M 4) p) M := by
  obtain ⟨-, -, -, -, h4, h5, -⟩ := id hK.1
  refine mm_startF (ls := [(2, 4), (0, p)]) rfl ?_
  refine mm_iload_n dX4_fateOf_0 rfl rfl ?_
  refine mm_aload_n dX4_fateOf_1 rfl rfl ?_
  refine mm_getr dX4_fateOf_2 rfl fl_X4_11 (c := 3) rfl (by decide) rfl rfl (hR.at (c := 3) (i := 0) (v := 5) rfl (by decide)) ?_
  refine mm_iconst dX4_fateOf_5 rfl ?_
  refine mm_ialk (k0 := 4) dX4_fateOf_6 rfl (c := 4) rfl (by decide) rfl rfl (by decide) ?_
  refine mm_icge dX4_fateOf_7 (by omega) (by omega) (fun h7 => ?_) (fun h7 => ?_)
  · refine mm_iload_n dX4_fateOf_12 rfl rfl ?_
    refine mm_aload_n dX4_fateOf_13 rfl rfl ?_
    refine mm_getr dX4_fateOf_14 rfl fl_X4_11 (c := 3) rfl (by decide) rfl rfl (hR.at (c := 3) (i := 0) (v := 5) rfl (by decide)) ?_
    refine mm_iconst dX4_fateOf_17 rfl ?_
    refine mm_ialk (k0 := 5) dX4_fateOf_18 rfl (c := 4) rfl (by decide) rfl rfl (by decide) ?_
    refine mm_icle dX4_fateOf_19 (by omega) (by omega) (fun h19 => ?_) (fun h19 => ?_)
    · refine mm_iconst dX4_fateOf_26 rfl ?_
      refine mm_iret dX4_fateOf_27 rfl rfl ?_
      exact mm_fin (by unfold ks_fate; first | (rw [if_pos (by omega)]; done) | (rw [if_neg (by omega), if_pos (by omega)]; done) | (rw [if_neg (by omega), if_neg (by omega)])) rfl
    · refine mm_iconst dX4_fateOf_22 rfl ?_
      refine mm_goto dX4_fateOf_23 ?_
      refine mm_iret dX4_fateOf_27 rfl rfl ?_
      exact mm_fin (by unfold ks_fate; first | (rw [if_pos (by omega)]; done) | (rw [if_neg (by omega), if_pos (by omega)]; done) | (rw [if_neg (by omega), if_neg (by omega)])) rfl
  · refine mm_iconst dX4_fateOf_10 rfl ?_
    refine mm_iret dX4_fateOf_11 rfl rfl ?_
    exact mm_fin (by unfold ks_fate; first | (rw [if_pos (by omega)]; done) | (rw [if_neg (by omega), if_pos (by omega)]; done) | (rw [if_neg (by omega), if_neg (by omega)])) rfl
theorem c_X4_bears (hR : mm_Rf M) (hK : mm_CK M) (hp : mm_R p) (hp2 : mm_R p2) : mm_Fn X Y_X4_bears 243 [(2, 4), (0, p), (0, p2)] M (0, mm_b (ks_bears (M 4) p p2)) M := by
  obtain ⟨-, -, -, -, h4, h5, -⟩ := id hK.1
  refine mm_startF (ls := [(2, 4), (0, p), (0, p2)]) rfl ?_
  refine mm_iload_n dX4_bears_0 rfl rfl ?_
  refine mm_aload_n dX4_bears_1 rfl rfl ?_
  refine mm_getr dX4_bears_2 rfl fl_X4_11 (c := 3) rfl (by decide) rfl rfl (hR.at (c := 3) (i := 0) (v := 5) rfl (by decide)) ?_
  refine mm_iconst dX4_bears_5 rfl ?_
  refine mm_ialk (k0 := 4) dX4_bears_6 rfl (c := 4) rfl (by decide) rfl rfl (by decide) ?_
  refine mm_iclt dX4_bears_7 (by omega) (by omega) (fun h7 => ?_) (fun h7 => ?_)
  · refine mm_iconst dX4_bears_24 rfl ?_
    refine mm_zret dX4_bears_25 rfl rfl (Or.inl rfl) ?_
    exact mm_fin (by unfold mm_b ks_bears; split <;> omega) rfl
  · refine mm_iload_n dX4_bears_10 rfl rfl ?_
    refine mm_aload_n dX4_bears_11 rfl rfl ?_
    refine mm_getr dX4_bears_12 rfl fl_X4_11 (c := 3) rfl (by decide) rfl rfl (hR.at (c := 3) (i := 0) (v := 5) rfl (by decide)) ?_
    refine mm_iconst dX4_bears_15 rfl ?_
    refine mm_ialk (k0 := 5) dX4_bears_16 rfl (c := 4) rfl (by decide) rfl rfl (by decide) ?_
    refine mm_icgt dX4_bears_17 (by omega) (by omega) (fun h17 => ?_) (fun h17 => ?_)
    · refine mm_iconst dX4_bears_24 rfl ?_
      refine mm_zret dX4_bears_25 rfl rfl (Or.inl rfl) ?_
      exact mm_fin (by unfold mm_b ks_bears; split <;> omega) rfl
    · refine mm_iconst dX4_bears_20 rfl ?_
      refine mm_goto dX4_bears_21 ?_
      refine mm_zret dX4_bears_25 rfl rfl (Or.inr rfl) ?_
      exact mm_fin (by unfold mm_b ks_bears; split <;> omega) rfl
theorem c_X4_tiringOf (hR : mm_Rf M) (hK : mm_CK M) (hp : 0 ≤ p ∧ p ≤ 10000000) : mm_Fn X Y_X4_tiringOf 243 [(2, 4), (0, p)] M (0, max (p - M 4 9) 0 / 100) M := by
  obtain ⟨-, -, -, -, -, -, -, -, -, h9, -⟩ := id hK.1
  refine mm_startF (ls := [(2, 4), (0, p)]) rfl ?_
  refine mm_iload_n dX4_tiringOf_0 rfl rfl ?_
  refine mm_aload_n dX4_tiringOf_1 rfl rfl ?_
  refine mm_getr dX4_tiringOf_2 rfl fl_X4_11 (c := 3) rfl (by decide) rfl rfl (hR.at (c := 3) (i := 0) (v := 5) rfl (by decide)) ?_
  refine mm_bipush dX4_tiringOf_5 rfl (by decide) ?_
  refine mm_ialk (k0 := 9) dX4_tiringOf_7 rfl (c := 4) rfl (by decide) rfl rfl (by decide) ?_
  refine mm_isub dX4_tiringOf_8 rfl ?_
  refine mm_iconst dX4_tiringOf_9 rfl ?_
  refine mm_max dX4_tiringOf_10 rfl lm_X4_101 rfl rfl (by simp) (by omega) (by omega) ?_
  refine mm_bipush dX4_tiringOf_13 rfl (by decide) ?_
  refine mm_idiv dX4_tiringOf_15 rfl (by omega) (by omega) (by omega) ?_
  refine mm_iret dX4_tiringOf_16 rfl rfl ?_
  exact mm_fin (by rw [mm_tdiv (by omega)]) rfl
theorem c_X4_fact {x : Int} (hR : mm_Rf M) (hK : mm_CK M) (hx : mm_R x) : mm_Fn X Y_X4_fact 243 [(2, 4), (0, x)] M (0, ks_told (M 4) x) M := by
  obtain ⟨h0, -, -, -, -, -, -, -, -, -, h10, -⟩ := id hK.1
  refine mm_startF (ls := [(2, 4), (0, x), (9, 0), (9, 0)]) rfl ?_
  refine mm_iload_n dX4_fact_0 rfl rfl ?_
  refine mm_bipush dX4_fact_1 rfl (by decide) ?_
  refine mm_iclt dX4_fact_3 (by omega) (by omega) (fun h3 => ?_) (fun h3 => ?_)
  · refine mm_iconst dX4_fact_24 rfl ?_
    refine mm_istore_n dX4_fact_25 rfl (Nat.le_of_ble_eq_true rfl) rfl ?_
    refine mm_iload_n dX4_fact_26 rfl rfl ?_
    refine mm_bipush dX4_fact_27 rfl (by decide) ?_
    refine mm_iclt dX4_fact_29 (by omega) (by omega) (fun h29 => ?_) (fun h29 => ?_)
    · refine mm_iconst dX4_fact_49 rfl ?_
      refine mm_istore_n dX4_fact_50 rfl (Nat.le_of_ble_eq_true rfl) rfl ?_
      refine mm_iload_n dX4_fact_51 rfl rfl ?_
      refine mm_iconst dX4_fact_52 rfl ?_
      refine mm_bipush dX4_fact_53 rfl (by decide) ?_
      refine mm_N3i dX4_fact_55 rfl ln_X4_113 (by simp) (by simp) (by simp) rfl rfl rfl (c_X11_isWithin hx (by omega) (by omega)) ?_
      refine mm_ifneb dX4_fact_58 (fun h58 => ?_) (fun h58 => ?_)
      · refine mm_aload_n dX4_fact_69 rfl rfl ?_
        refine mm_getr dX4_fact_70 rfl fl_X4_11 (c := 3) rfl (by decide) rfl rfl (hR.at (c := 3) (i := 0) (v := 5) rfl (by decide)) ?_
        refine mm_iload_n dX4_fact_73 rfl rfl ?_
        refine mm_iald dX4_fact_74 rfl (c := 4) rfl (by decide) rfl (by omega) (by omega) ?_
        refine mm_goto dX4_fact_75 ?_
        refine mm_iret dX4_fact_79 rfl rfl ?_
        refine mm_fin ?_ rfl
        unfold ks_told
        first
        | (rw [if_pos (by omega)]; done)
        | (rw [if_neg (by omega)]; done)
      · refine mm_iload_n dX4_fact_61 rfl rfl ?_
        refine mm_ifne dX4_fact_62 (by omega) (fun h => absurd h (by decide)) (fun _ => ?_)
        refine mm_iload_n dX4_fact_65 rfl rfl ?_
        refine mm_ifeq dX4_fact_66 (by omega) (fun _ => ?_) (fun h => absurd (by decide) h)
        refine mm_iconst dX4_fact_78 rfl ?_
        refine mm_iret dX4_fact_79 rfl rfl ?_
        refine mm_fin ?_ rfl
        unfold ks_told
        first
        | (rw [if_pos (by omega)]; done)
        | (rw [if_neg (by omega)]; done)
    · refine mm_iload_n dX4_fact_32 rfl rfl ?_
      refine mm_bipush dX4_fact_33 rfl (by decide) ?_
      refine mm_isub dX4_fact_35 rfl ?_
      refine mm_aload_n dX4_fact_36 rfl rfl ?_
      refine mm_getr dX4_fact_37 rfl fl_X4_11 (c := 3) rfl (by decide) rfl rfl (hR.at (c := 3) (i := 0) (v := 5) rfl (by decide)) ?_
      refine mm_iconst dX4_fact_40 rfl ?_
      refine mm_ialk (k0 := 0) dX4_fact_41 rfl (c := 4) rfl (by decide) rfl rfl (by decide) ?_
      refine mm_icge dX4_fact_42 (by omega) (by omega) (fun h42 => ?_) (fun h42 => ?_)
      · refine mm_iconst dX4_fact_49 rfl ?_
        refine mm_istore_n dX4_fact_50 rfl (Nat.le_of_ble_eq_true rfl) rfl ?_
        refine mm_iload_n dX4_fact_51 rfl rfl ?_
        refine mm_iconst dX4_fact_52 rfl ?_
        refine mm_bipush dX4_fact_53 rfl (by decide) ?_
        refine mm_N3i dX4_fact_55 rfl ln_X4_113 (by simp) (by simp) (by simp) rfl rfl rfl (c_X11_isWithin hx (by omega) (by omega)) ?_
        refine mm_ifneb dX4_fact_58 (fun h58 => ?_) (fun h58 => ?_)
        · refine mm_aload_n dX4_fact_69 rfl rfl ?_
          refine mm_getr dX4_fact_70 rfl fl_X4_11 (c := 3) rfl (by decide) rfl rfl (hR.at (c := 3) (i := 0) (v := 5) rfl (by decide)) ?_
          refine mm_iload_n dX4_fact_73 rfl rfl ?_
          refine mm_iald dX4_fact_74 rfl (c := 4) rfl (by decide) rfl (by omega) (by omega) ?_
          refine mm_goto dX4_fact_75 ?_
          refine mm_iret dX4_fact_79 rfl rfl ?_
          refine mm_fin ?_ rfl
          unfold ks_told
          first
          | (rw [if_pos (by omega)]; done)
          | (rw [if_neg (by omega)]; done)
        · refine mm_iload_n dX4_fact_61 rfl rfl ?_
          refine mm_ifne dX4_fact_62 (by omega) (fun h => absurd h (by decide)) (fun _ => ?_)
          refine mm_iload_n dX4_fact_65 rfl rfl ?_
          refine mm_ifeq dX4_fact_66 (by omega) (fun _ => ?_) (fun h => absurd (by decide) h)
          refine mm_iconst dX4_fact_78 rfl ?_
          refine mm_iret dX4_fact_79 rfl rfl ?_
          refine mm_fin ?_ rfl
          unfold ks_told
          first
          | (rw [if_pos (by omega)]; done)
          | (rw [if_neg (by omega)]; done)
      · refine mm_iconst dX4_fact_45 rfl ?_
        refine mm_goto dX4_fact_46 ?_
        refine mm_istore_n dX4_fact_50 rfl (Nat.le_of_ble_eq_true rfl) rfl ?_
        refine mm_iload_n dX4_fact_51 rfl rfl ?_
        refine mm_iconst dX4_fact_52 rfl ?_
        refine mm_bipush dX4_fact_53 rfl (by decide) ?_
        refine mm_N3i dX4_fact_55 rfl ln_X4_113 (by simp) (by simp) (by simp) rfl rfl rfl (c_X11_isWithin hx (by omega) (by omega)) ?_
        refine mm_ifneb dX4_fact_58 (fun h58 => ?_) (fun h58 => ?_)
        · refine mm_aload_n dX4_fact_69 rfl rfl ?_
          refine mm_getr dX4_fact_70 rfl fl_X4_11 (c := 3) rfl (by decide) rfl rfl (hR.at (c := 3) (i := 0) (v := 5) rfl (by decide)) ?_
          refine mm_iload_n dX4_fact_73 rfl rfl ?_
          refine mm_iald dX4_fact_74 rfl (c := 4) rfl (by decide) rfl (by omega) (by omega) ?_
          refine mm_goto dX4_fact_75 ?_
          refine mm_iret dX4_fact_79 rfl rfl ?_
          refine mm_fin ?_ rfl
          unfold ks_told
          first
          | (rw [if_pos (by omega)]; done)
          | (rw [if_neg (by omega)]; done)
        · refine mm_iload_n dX4_fact_61 rfl rfl ?_
          refine mm_ifne dX4_fact_62 (by omega) (fun h => absurd h (by decide)) (fun _ => ?_)
          refine mm_iload_n dX4_fact_65 rfl rfl ?_
          refine mm_ifeq dX4_fact_66 (by omega) (fun h => absurd h (by decide)) (fun _ => ?_)
          refine mm_aload_n dX4_fact_69 rfl rfl ?_
          refine mm_getr dX4_fact_70 rfl fl_X4_11 (c := 3) rfl (by decide) rfl rfl (hR.at (c := 3) (i := 0) (v := 5) rfl (by decide)) ?_
          refine mm_iload_n dX4_fact_73 rfl rfl ?_
          refine mm_iald dX4_fact_74 rfl (c := 4) rfl (by decide) rfl (by omega) (by omega) ?_
          refine mm_goto dX4_fact_75 ?_
          refine mm_iret dX4_fact_79 rfl rfl ?_
          refine mm_fin ?_ rfl
          unfold ks_told
          first
          | (rw [if_pos (by omega)]; done)
          | (rw [if_neg (by omega)]; done)
  · refine mm_iload_n dX4_fact_6 rfl rfl ?_
    refine mm_bipush dX4_fact_7 rfl (by decide) ?_
    refine mm_isub dX4_fact_9 rfl ?_
    refine mm_aload_n dX4_fact_10 rfl rfl ?_
    refine mm_getr dX4_fact_11 rfl fl_X4_11 (c := 3) rfl (by decide) rfl rfl (hR.at (c := 3) (i := 0) (v := 5) rfl (by decide)) ?_
    refine mm_bipush dX4_fact_14 rfl (by decide) ?_
    refine mm_ialk (k0 := 10) dX4_fact_16 rfl (c := 4) rfl (by decide) rfl rfl (by decide) ?_
    refine mm_icge dX4_fact_17 (by omega) (by omega) (fun h17 => ?_) (fun h17 => ?_)
    · refine mm_iconst dX4_fact_24 rfl ?_
      refine mm_istore_n dX4_fact_25 rfl (Nat.le_of_ble_eq_true rfl) rfl ?_
      refine mm_iload_n dX4_fact_26 rfl rfl ?_
      refine mm_bipush dX4_fact_27 rfl (by decide) ?_
      refine mm_iclt dX4_fact_29 (by omega) (by omega) (fun h29 => ?_) (fun h29 => ?_)
      · refine mm_iconst dX4_fact_49 rfl ?_
        refine mm_istore_n dX4_fact_50 rfl (Nat.le_of_ble_eq_true rfl) rfl ?_
        refine mm_iload_n dX4_fact_51 rfl rfl ?_
        refine mm_iconst dX4_fact_52 rfl ?_
        refine mm_bipush dX4_fact_53 rfl (by decide) ?_
        refine mm_N3i dX4_fact_55 rfl ln_X4_113 (by simp) (by simp) (by simp) rfl rfl rfl (c_X11_isWithin hx (by omega) (by omega)) ?_
        refine mm_ifneb dX4_fact_58 (fun h58 => ?_) (fun h58 => ?_)
        · refine mm_aload_n dX4_fact_69 rfl rfl ?_
          refine mm_getr dX4_fact_70 rfl fl_X4_11 (c := 3) rfl (by decide) rfl rfl (hR.at (c := 3) (i := 0) (v := 5) rfl (by decide)) ?_
          refine mm_iload_n dX4_fact_73 rfl rfl ?_
          refine mm_iald dX4_fact_74 rfl (c := 4) rfl (by decide) rfl (by omega) (by omega) ?_
          refine mm_goto dX4_fact_75 ?_
          refine mm_iret dX4_fact_79 rfl rfl ?_
          refine mm_fin ?_ rfl
          unfold ks_told
          first
          | (rw [if_pos (by omega)]; done)
          | (rw [if_neg (by omega)]; done)
        · refine mm_iload_n dX4_fact_61 rfl rfl ?_
          refine mm_ifne dX4_fact_62 (by omega) (fun h => absurd h (by decide)) (fun _ => ?_)
          refine mm_iload_n dX4_fact_65 rfl rfl ?_
          refine mm_ifeq dX4_fact_66 (by omega) (fun _ => ?_) (fun h => absurd (by decide) h)
          refine mm_iconst dX4_fact_78 rfl ?_
          refine mm_iret dX4_fact_79 rfl rfl ?_
          refine mm_fin ?_ rfl
          unfold ks_told
          first
          | (rw [if_pos (by omega)]; done)
          | (rw [if_neg (by omega)]; done)
      · refine mm_iload_n dX4_fact_32 rfl rfl ?_
        refine mm_bipush dX4_fact_33 rfl (by decide) ?_
        refine mm_isub dX4_fact_35 rfl ?_
        refine mm_aload_n dX4_fact_36 rfl rfl ?_
        refine mm_getr dX4_fact_37 rfl fl_X4_11 (c := 3) rfl (by decide) rfl rfl (hR.at (c := 3) (i := 0) (v := 5) rfl (by decide)) ?_
        refine mm_iconst dX4_fact_40 rfl ?_
        refine mm_ialk (k0 := 0) dX4_fact_41 rfl (c := 4) rfl (by decide) rfl rfl (by decide) ?_
        refine mm_icge dX4_fact_42 (by omega) (by omega) (fun h42 => ?_) (fun h42 => ?_)
        · refine mm_iconst dX4_fact_49 rfl ?_
          refine mm_istore_n dX4_fact_50 rfl (Nat.le_of_ble_eq_true rfl) rfl ?_
          refine mm_iload_n dX4_fact_51 rfl rfl ?_
          refine mm_iconst dX4_fact_52 rfl ?_
          refine mm_bipush dX4_fact_53 rfl (by decide) ?_
          refine mm_N3i dX4_fact_55 rfl ln_X4_113 (by simp) (by simp) (by simp) rfl rfl rfl (c_X11_isWithin hx (by omega) (by omega)) ?_
          refine mm_ifneb dX4_fact_58 (fun h58 => ?_) (fun h58 => ?_)
          · refine mm_aload_n dX4_fact_69 rfl rfl ?_
            refine mm_getr dX4_fact_70 rfl fl_X4_11 (c := 3) rfl (by decide) rfl rfl (hR.at (c := 3) (i := 0) (v := 5) rfl (by decide)) ?_
            refine mm_iload_n dX4_fact_73 rfl rfl ?_
            refine mm_iald dX4_fact_74 rfl (c := 4) rfl (by decide) rfl (by omega) (by omega) ?_
            refine mm_goto dX4_fact_75 ?_
            refine mm_iret dX4_fact_79 rfl rfl ?_
            refine mm_fin ?_ rfl
            unfold ks_told
            first
            | (rw [if_pos (by omega)]; done)
            | (rw [if_neg (by omega)]; done)
          · refine mm_iload_n dX4_fact_61 rfl rfl ?_
            refine mm_ifne dX4_fact_62 (by omega) (fun h => absurd h (by decide)) (fun _ => ?_)
            refine mm_iload_n dX4_fact_65 rfl rfl ?_
            refine mm_ifeq dX4_fact_66 (by omega) (fun _ => ?_) (fun h => absurd (by decide) h)
            refine mm_iconst dX4_fact_78 rfl ?_
            refine mm_iret dX4_fact_79 rfl rfl ?_
            refine mm_fin ?_ rfl
            unfold ks_told
            first
            | (rw [if_pos (by omega)]; done)
            | (rw [if_neg (by omega)]; done)
        · refine mm_iconst dX4_fact_45 rfl ?_
          refine mm_goto dX4_fact_46 ?_
          refine mm_istore_n dX4_fact_50 rfl (Nat.le_of_ble_eq_true rfl) rfl ?_
          refine mm_iload_n dX4_fact_51 rfl rfl ?_
          refine mm_iconst dX4_fact_52 rfl ?_
          refine mm_bipush dX4_fact_53 rfl (by decide) ?_
          refine mm_N3i dX4_fact_55 rfl ln_X4_113 (by simp) (by simp) (by simp) rfl rfl rfl (c_X11_isWithin hx (by omega) (by omega)) ?_
          refine mm_ifneb dX4_fact_58 (fun h58 => ?_) (fun h58 => ?_)
          · refine mm_aload_n dX4_fact_69 rfl rfl ?_
            refine mm_getr dX4_fact_70 rfl fl_X4_11 (c := 3) rfl (by decide) rfl rfl (hR.at (c := 3) (i := 0) (v := 5) rfl (by decide)) ?_
            refine mm_iload_n dX4_fact_73 rfl rfl ?_
            refine mm_iald dX4_fact_74 rfl (c := 4) rfl (by decide) rfl (by omega) (by omega) ?_
            refine mm_goto dX4_fact_75 ?_
            refine mm_iret dX4_fact_79 rfl rfl ?_
            refine mm_fin ?_ rfl
            unfold ks_told
            first
            | (rw [if_pos (by omega)]; done)
            | (rw [if_neg (by omega)]; done)
          · refine mm_iload_n dX4_fact_61 rfl rfl ?_
            refine mm_ifne dX4_fact_62 (by omega) (fun h => absurd h (by decide)) (fun _ => ?_)
            refine mm_iload_n dX4_fact_65 rfl rfl ?_
            refine mm_ifeq dX4_fact_66 (by omega) (fun h => absurd h (by decide)) (fun _ => ?_)
            refine mm_aload_n dX4_fact_69 rfl rfl ?_
            refine mm_getr dX4_fact_70 rfl fl_X4_11 (c := 3) rfl (by decide) rfl rfl (hR.at (c := 3) (i := 0) (v := 5) rfl (by decide)) ?_
            refine mm_iload_n dX4_fact_73 rfl rfl ?_
            refine mm_iald dX4_fact_74 rfl (c := 4) rfl (by decide) rfl (by omega) (by omega) ?_
            refine mm_goto dX4_fact_75 ?_
            refine mm_iret dX4_fact_79 rfl rfl ?_
            refine mm_fin ?_ rfl
            unfold ks_told
            first
            | (rw [if_pos (by omega)]; done)
            | (rw [if_neg (by omega)]; done)
    · refine mm_iconst dX4_fact_20 rfl ?_
      refine mm_goto dX4_fact_21 ?_
      refine mm_istore_n dX4_fact_25 rfl (Nat.le_of_ble_eq_true rfl) rfl ?_
      refine mm_iload_n dX4_fact_26 rfl rfl ?_
      refine mm_bipush dX4_fact_27 rfl (by decide) ?_
      refine mm_iclt dX4_fact_29 (by omega) (by omega) (fun h29 => ?_) (fun h29 => ?_)
      · refine mm_iconst dX4_fact_49 rfl ?_
        refine mm_istore_n dX4_fact_50 rfl (Nat.le_of_ble_eq_true rfl) rfl ?_
        refine mm_iload_n dX4_fact_51 rfl rfl ?_
        refine mm_iconst dX4_fact_52 rfl ?_
        refine mm_bipush dX4_fact_53 rfl (by decide) ?_
        refine mm_N3i dX4_fact_55 rfl ln_X4_113 (by simp) (by simp) (by simp) rfl rfl rfl (c_X11_isWithin hx (by omega) (by omega)) ?_
        refine mm_ifneb dX4_fact_58 (fun h58 => ?_) (fun h58 => ?_)
        · refine mm_aload_n dX4_fact_69 rfl rfl ?_
          refine mm_getr dX4_fact_70 rfl fl_X4_11 (c := 3) rfl (by decide) rfl rfl (hR.at (c := 3) (i := 0) (v := 5) rfl (by decide)) ?_
          refine mm_iload_n dX4_fact_73 rfl rfl ?_
          refine mm_iald dX4_fact_74 rfl (c := 4) rfl (by decide) rfl (by omega) (by omega) ?_
          refine mm_goto dX4_fact_75 ?_
          refine mm_iret dX4_fact_79 rfl rfl ?_
          refine mm_fin ?_ rfl
          unfold ks_told
          first
          | (rw [if_pos (by omega)]; done)
          | (rw [if_neg (by omega)]; done)
        · refine mm_iload_n dX4_fact_61 rfl rfl ?_
          refine mm_ifne dX4_fact_62 (by omega) (fun _ => ?_) (fun h => absurd h (by decide))
          refine mm_aload_n dX4_fact_69 rfl rfl ?_
          refine mm_getr dX4_fact_70 rfl fl_X4_11 (c := 3) rfl (by decide) rfl rfl (hR.at (c := 3) (i := 0) (v := 5) rfl (by decide)) ?_
          refine mm_iload_n dX4_fact_73 rfl rfl ?_
          refine mm_iald dX4_fact_74 rfl (c := 4) rfl (by decide) rfl (by omega) (by omega) ?_
          refine mm_goto dX4_fact_75 ?_
          refine mm_iret dX4_fact_79 rfl rfl ?_
          refine mm_fin ?_ rfl
          unfold ks_told
          first
          | (rw [if_pos (by omega)]; done)
          | (rw [if_neg (by omega)]; done)
      · refine mm_iload_n dX4_fact_32 rfl rfl ?_
        refine mm_bipush dX4_fact_33 rfl (by decide) ?_
        refine mm_isub dX4_fact_35 rfl ?_
        refine mm_aload_n dX4_fact_36 rfl rfl ?_
        refine mm_getr dX4_fact_37 rfl fl_X4_11 (c := 3) rfl (by decide) rfl rfl (hR.at (c := 3) (i := 0) (v := 5) rfl (by decide)) ?_
        refine mm_iconst dX4_fact_40 rfl ?_
        refine mm_ialk (k0 := 0) dX4_fact_41 rfl (c := 4) rfl (by decide) rfl rfl (by decide) ?_
        refine mm_icge dX4_fact_42 (by omega) (by omega) (fun h42 => ?_) (fun h42 => ?_)
        · refine mm_iconst dX4_fact_49 rfl ?_
          refine mm_istore_n dX4_fact_50 rfl (Nat.le_of_ble_eq_true rfl) rfl ?_
          refine mm_iload_n dX4_fact_51 rfl rfl ?_
          refine mm_iconst dX4_fact_52 rfl ?_
          refine mm_bipush dX4_fact_53 rfl (by decide) ?_
          refine mm_N3i dX4_fact_55 rfl ln_X4_113 (by simp) (by simp) (by simp) rfl rfl rfl (c_X11_isWithin hx (by omega) (by omega)) ?_
          refine mm_ifneb dX4_fact_58 (fun h58 => ?_) (fun h58 => ?_)
          · refine mm_aload_n dX4_fact_69 rfl rfl ?_
            refine mm_getr dX4_fact_70 rfl fl_X4_11 (c := 3) rfl (by decide) rfl rfl (hR.at (c := 3) (i := 0) (v := 5) rfl (by decide)) ?_
            refine mm_iload_n dX4_fact_73 rfl rfl ?_
            refine mm_iald dX4_fact_74 rfl (c := 4) rfl (by decide) rfl (by omega) (by omega) ?_
            refine mm_goto dX4_fact_75 ?_
            refine mm_iret dX4_fact_79 rfl rfl ?_
            refine mm_fin ?_ rfl
            unfold ks_told
            first
            | (rw [if_pos (by omega)]; done)
            | (rw [if_neg (by omega)]; done)
          · refine mm_iload_n dX4_fact_61 rfl rfl ?_
            refine mm_ifne dX4_fact_62 (by omega) (fun _ => ?_) (fun h => absurd h (by decide))
            refine mm_aload_n dX4_fact_69 rfl rfl ?_
            refine mm_getr dX4_fact_70 rfl fl_X4_11 (c := 3) rfl (by decide) rfl rfl (hR.at (c := 3) (i := 0) (v := 5) rfl (by decide)) ?_
            refine mm_iload_n dX4_fact_73 rfl rfl ?_
            refine mm_iald dX4_fact_74 rfl (c := 4) rfl (by decide) rfl (by omega) (by omega) ?_
            refine mm_goto dX4_fact_75 ?_
            refine mm_iret dX4_fact_79 rfl rfl ?_
            refine mm_fin ?_ rfl
            unfold ks_told
            first
            | (rw [if_pos (by omega)]; done)
            | (rw [if_neg (by omega)]; done)
        · refine mm_iconst dX4_fact_45 rfl ?_
          refine mm_goto dX4_fact_46 ?_
          refine mm_istore_n dX4_fact_50 rfl (Nat.le_of_ble_eq_true rfl) rfl ?_
          refine mm_iload_n dX4_fact_51 rfl rfl ?_
          refine mm_iconst dX4_fact_52 rfl ?_
          refine mm_bipush dX4_fact_53 rfl (by decide) ?_
          refine mm_N3i dX4_fact_55 rfl ln_X4_113 (by simp) (by simp) (by simp) rfl rfl rfl (c_X11_isWithin hx (by omega) (by omega)) ?_
          refine mm_ifneb dX4_fact_58 (fun h58 => ?_) (fun h58 => ?_)
          · refine mm_aload_n dX4_fact_69 rfl rfl ?_
            refine mm_getr dX4_fact_70 rfl fl_X4_11 (c := 3) rfl (by decide) rfl rfl (hR.at (c := 3) (i := 0) (v := 5) rfl (by decide)) ?_
            refine mm_iload_n dX4_fact_73 rfl rfl ?_
            refine mm_iald dX4_fact_74 rfl (c := 4) rfl (by decide) rfl (by omega) (by omega) ?_
            refine mm_goto dX4_fact_75 ?_
            refine mm_iret dX4_fact_79 rfl rfl ?_
            refine mm_fin ?_ rfl
            unfold ks_told
            first
            | (rw [if_pos (by omega)]; done)
            | (rw [if_neg (by omega)]; done)
          · refine mm_iload_n dX4_fact_61 rfl rfl ?_
            refine mm_ifne dX4_fact_62 (by omega) (fun _ => ?_) (fun h => absurd h (by decide))
            refine mm_aload_n dX4_fact_69 rfl rfl ?_
            refine mm_getr dX4_fact_70 rfl fl_X4_11 (c := 3) rfl (by decide) rfl rfl (hR.at (c := 3) (i := 0) (v := 5) rfl (by decide)) ?_
            refine mm_iload_n dX4_fact_73 rfl rfl ?_
            refine mm_iald dX4_fact_74 rfl (c := 4) rfl (by decide) rfl (by omega) (by omega) ?_
            refine mm_goto dX4_fact_75 ?_
            refine mm_iret dX4_fact_79 rfl rfl ?_
            refine mm_fin ?_ rfl
            unfold ks_told
            first
            | (rw [if_pos (by omega)]; done)
            | (rw [if_neg (by omega)]; done)
end

