/-! ===== flights ===== -/
theorem ks_in_eq {K : Nat → Int} {s a : Int} (ha : 0 ≤ a) : ks_in K s a = 15 * (a / 15) + 3 * (if ks_cm K s (ks_mv a) then ks_mv a else 0) + (if ks_cr K s (ks_dr a) then ks_dr a else 0) := by
  unfold ks_in
  obtain ⟨m, hm⟩ : ∃ m, m = ks_mv a := ⟨_, rfl⟩
  obtain ⟨d, hd⟩ : ∃ d, d = ks_dr a := ⟨_, rfl⟩
  have e : a = 15 * (a / 15) + 3 * m + d := by rw [hm, hd]; unfold ks_mv ks_dr; omega
  rw [← hm, ← hd]
  by_cases c : ks_cm K s m <;> by_cases c2 : ks_cr K s d
  · rw [if_pos c, if_pos c2, if_pos c, if_pos c2]; omega
  · rw [if_pos c, if_neg c2, if_pos c, if_neg c2]; omega
  · rw [if_neg c, if_pos c2, if_neg c, if_pos c2]; omega
  · rw [if_neg c, if_neg c2, if_neg c, if_neg c2]; omega
theorem ks_in_parts {K : Nat → Int} {s a : Int} (ha : 0 ≤ a) : ks_mv (ks_in K s a) = (if ks_cm K s (ks_mv a) then ks_mv a else 0) ∧ ks_dr (ks_in K s a) = (if ks_cr K s (ks_dr a) then ks_dr a else 0) ∧ ks_in K s a / 15 = a / 15 ∧ 0 ≤ ks_in K s a := by
  rw [ks_in_eq ha]
  have hm := ks_mvb ha
  have hd := ks_drb ha
  obtain ⟨m, hm'⟩ : ∃ m, m = (if ks_cm K s (ks_mv a) then ks_mv a else 0) := ⟨_, rfl⟩
  obtain ⟨d, hd'⟩ : ∃ d, d = (if ks_cr K s (ks_dr a) then ks_dr a else 0) := ⟨_, rfl⟩
  have bm : 0 ≤ m ∧ m ≤ 4 := by rw [hm']; split <;> omega
  have bd : 0 ≤ d ∧ d ≤ 2 := by rw [hd']; split <;> omega
  rw [← hm', ← hd']
  clear hm' hd' hm hd
  unfold ks_mv ks_dr
  omega
theorem ks_in_can {K : Nat → Int} {s a : Int} (ha : 0 ≤ a) : ks_can K s (ks_in K s a) := by
  have h := ks_in_parts (K := K) (s := s) ha
  unfold ks_can
  rw [h.1, h.2.1]
  refine ⟨?_, ?_⟩
  · split
    · assumption
    · exact ⟨fun q => absurd q (by decide), fun q => absurd q (by decide), fun q => absurd q (by decide), fun q => absurd q (by decide)⟩
  · split
    · assumption
    · exact ⟨fun q => absurd q (by decide), fun q => absurd q (by decide)⟩
theorem ks_in_ac {K : Nat → Int} {s a : Int} (ha : ks_ac K a) : ks_ac K (ks_in K s a) := by
  have h := ks_in_parts (K := K) (s := s) ha.1
  have h1 := ha.1
  have h2 := ha.2
  have h3 := h.2.2.1
  have h4 := h.2.2.2
  exact ⟨h4, by omega⟩
/-- the class's rules, the reference's rules -/
def kc_T (M : mm_M) (s w : Int) : Int := kr_tell (M 4) s w (M 18 1) (kc_C M) (kc_Q M) (kc_H M) (kc_B M) (kc_D M)
def kq_T (M : mm_M) (s w : Int) : Int := kr_tell (mm_rk M) s w (M 183 20) (kq_C M) (kq_Q M) (kq_H M) (kq_B M) (kq_D M)
theorem kc_T_ac {M : mm_M} (hK : mm_KV (M 4)) (hC : mm_CR M) {s w : Int} : ks_ac (M 4) (kc_T M s w) := kr_act_ac hK (fun j hj => (hC.2 j (by have := hC.1.1; omega)).2.2)
theorem kq_T_ac {M : mm_M} (hK : mm_KV (mm_rk M)) (hC : mm_RR M) {s w : Int} : ks_ac (mm_rk M) (kq_T M s w) := kr_act_ac hK (fun j hj => (hC.2 j (by have := hC.1.1; omega)).2.2)
theorem mm_ag.cr {M N : mm_M} (h : mm_ag M N) (hC : mm_CR M) : mm_CR N := by
  unfold mm_CR kc_C kc_Q kc_H kc_B kc_D at hC ⊢
  rw [h 18 (by decide) (by decide), h 19 (by decide) (by decide), h 4 (by decide) (by decide)]
  exact hC
theorem mm_ag.ct {M N : mm_M} (h : mm_ag M N) : kc_T N = kc_T M := by
  funext s w
  unfold kc_T kc_C kc_Q kc_H kc_B kc_D
  rw [h 18 (by decide) (by decide), h 19 (by decide) (by decide), h 4 (by decide) (by decide)]
/-- a flight: the state ahead of tick i, the act and the pull of tick i -/
def kfl_S (K : Nat → Int) (T : Int → Int → Int) (W : Int → Nat → Int) (s : Int) : Nat → Int
  | 0 => s
  | i + 1 => ks_to K (kfl_S K T W s i) (ks_in K (kfl_S K T W s i) (T (kfl_S K T W s i) (W (kfl_S K T W s i) i)))
def kfl_a (K : Nat → Int) (T : Int → Int → Int) (W : Int → Nat → Int) (s : Int) (i : Nat) : Int := ks_in K (kfl_S K T W s i) (T (kfl_S K T W s i) (W (kfl_S K T W s i) i))
def kfl_p (K : Nat → Int) (T : Int → Int → Int) (W : Int → Nat → Int) (s : Int) (i : Nat) : Int := ks_p K (kfl_S K T W s i) (kfl_a K T W s i) (W (kfl_S K T W s i) i)
def kfl_g (K : Nat → Int) (T : Int → Int → Int) (W : Int → Nat → Int) (s : Int) (i : Nat) : Int := ks_w K (ks_dr (kfl_a K T W s i)) (kfl_p K T W s i)
def kfl_ok (K : Nat → Int) (T : Int → Int → Int) (W : Int → Nat → Int) (s : Int) (i : Nat) : Prop := ks_fate K (kfl_p K T W s i) = 0
/-- the wind in a state at a tick of a flight from an hour on -/
def kfl_W (L : Nat → Int) (K : Nat → Int) (h e : Int) (s : Int) (i : Nat) : Int := ks_wi L K s (if e = 0 then h else (h + (i : Int) / e) % 24)
theorem kfl_st {K : Nat → Int} (hK : mm_KV K) {T : Int → Int → Int} {W : Int → Nat → Int} (hT : ∀ s w, ks_ac K (T s w)) {s : Int} (hs : ks_st K s) : ∀ i, ks_st K (kfl_S K T W s i)
  | 0 => hs
  | i + 1 => ks_to_st hK (kfl_st hK hT hs i) (ks_in_can (hT _ _).1)
/-- a bound of work -/
theorem ks_wab {K : Nat → Int} (h : mm_KV K) {d p : Int} (hp : 0 ≤ p ∧ p ≤ 1425600) : -5800000 ≤ ks_w K d p ∧ ks_w K d p ≤ 5800000 := by
  have q := ks_wb h hp
  obtain ⟨-, -, -, -, -, -, h6, -⟩ := id h
  unfold ks_w
  split
  · omega
  · split <;> omega
section
variable {X : mm_X} {M N : mm_M} {s w h e n : Int}
theorem g_X9_actFor (hR : mm_Rf N) (hG : mm_ag M N) (hK : mm_CK M) (hC : mm_CR M) (hs : ks_st (M 4) s) (hw : 0 ≤ w ∧ w ≤ 60) : mm_Fn X Y_X9_actFor 243 [(2, 19), (0, s), (0, w)] N (0, kc_T M s w) N := by
  have e4 : N 4 = M 4 := hG 4 (by decide) (by decide)
  rw [← hG.ct]
  rw [← e4] at hs
  exact c_X9_actFor hR (hG.ck hK) (hG.cr hC) hs hw
theorem c_X2_flyTick (hR : mm_Rf M) (hK : mm_CK M) (hC : mm_CR M) (hs : ks_st (M 4) (M 139 7)) (hw : 0 ≤ w ∧ w ≤ 60) (hd : 0 ≤ M 139 4 ∧ M 139 4 < 500) :
    mm_C X Y_X2_flyTick 243 243 [(2, 140), (0, w)] M (fun r M' => r = (3, 0) ∧ mm_Rf M' ∧ mm_ag M M' ∧ (∀ a, a ≠ 139 → a ≠ 140 → M' a = M a) ∧ M' 139 3 = M 139 3 ∧
      M' 139 5 = ks_fate (M 4) (ks_p (M 4) (M 139 7) (ks_in (M 4) (M 139 7) (kc_T M (M 139 7) w)) w) ∧
      (M' 139 5 = 0 → M' 139 6 = M 139 6 + ks_w (M 4) (ks_dr (ks_in (M 4) (M 139 7) (kc_T M (M 139 7) w))) (ks_p (M 4) (M 139 7) (ks_in (M 4) (M 139 7) (kc_T M (M 139 7) w)) w) ∧
        M' 139 7 = ks_to (M 4) (M 139 7) (ks_in (M 4) (M 139 7) (kc_T M (M 139 7) w)) ∧ M' 139 4 = M 139 4 + 1 ∧ M' 140 = mm_up M 140 (M 139 4).toNat (ks_in (M 4) (M 139 7) (kc_T M (M 139 7) w)) 140) ∧
      (M' 139 5 ≠ 0 → M' 139 6 = M 139 6 ∧ M' 139 7 = M 139 7 ∧ M' 139 4 = M 139 4 ∧ M' 140 = M 140)) := by
  have hG := mm_ag.rf M
  have hT := kc_T_ac hK.1 hC (s := M 139 7) (w := w)
  have hI := ks_in_ac (s := M 139 7) hT
  have hI2 := ks_in_can (K := M 4) (s := M 139 7) hT.1
  obtain ⟨a, ha⟩ : ∃ a, a = ks_in (M 4) (M 139 7) (kc_T M (M 139 7) w) := ⟨_, rfl⟩
  rw [← ha] at hI hI2 ⊢
  have hslb := ks_slb hK.1 hI
  have hI1 := hI.1
  have hp := ks_pw hK.1 (s := M 139 7) hI hw
  obtain ⟨p, hp'⟩ : ∃ p, p = ks_p (M 4) (M 139 7) a w := ⟨_, rfl⟩
  rw [← hp'] at hp ⊢
  have hfb : 0 ≤ ks_fate (M 4) p ∧ ks_fate (M 4) p ≤ 2 := by unfold ks_fate; split <;> (try split) <;> omega
  refine mm_start (ls := [(2, 140), (0, w), (9, 0), (9, 0)]) rfl ?_
  clear hI2 hT
  have hcan : ks_can (M 4) (M 139 7) a ↔ True := ⟨fun _ => trivial, fun _ => by rw [ha]; exact ks_in_can (kc_T_ac hK.1 hC).1⟩
  refine mm_aload_n dX2_flyTick_0 rfl rfl ?_
  refine mm_getr dX2_flyTick_1 rfl fl_X2_27 (c := 139) rfl (by decide) rfl rfl (hR.at (c := 139) (i := 0) (v := 4) rfl (by decide)) ?_
  refine mm_aload_n dX2_flyTick_4 rfl rfl ?_
  refine mm_get (kd := 0) dX2_flyTick_5 rfl fl_X2_53 (c := 139) rfl (by decide) rfl rfl ?_
  refine mm_aload_n dX2_flyTick_8 rfl rfl ?_
  refine mm_getr dX2_flyTick_9 rfl fl_X2_35 (c := 139) rfl (by decide) rfl rfl (hR.at (c := 139) (i := 2) (v := 19) rfl (by decide)) ?_
  refine mm_aload_n dX2_flyTick_12 rfl rfl ?_
  refine mm_get (kd := 0) dX2_flyTick_13 rfl fl_X2_53 (c := 139) rfl (by decide) rfl rfl ?_
  refine mm_iload_n dX2_flyTick_16 rfl rfl ?_
  refine mm_V2i dX2_flyTick_17 rfl lk_X2_70 (c := 18) rfl (by decide) rfl (by simp) (by simp) rfl rfl rfl (g_X9_actFor hR hG hK hC hs hw) ?_
  refine mm_V2i dX2_flyTick_20 rfl lk_X2_76 (c := 3) rfl (by decide) rfl (by simp) (by simp) rfl rfl rfl ((ha ▸ g_X4_withinStates hR hG hK hs (kc_T_ac hK.1 hC))) ?_
  refine mm_istore_n dX2_flyTick_23 rfl (Nat.le_of_ble_eq_true rfl) rfl ?_
  refine mm_aload_n dX2_flyTick_24 rfl rfl ?_
  refine mm_getr dX2_flyTick_25 rfl fl_X2_27 (c := 139) rfl (by decide) rfl rfl (hR.at (c := 139) (i := 0) (v := 4) rfl (by decide)) ?_
  refine mm_aload_n dX2_flyTick_28 rfl rfl ?_
  refine mm_get (kd := 0) dX2_flyTick_29 rfl fl_X2_53 (c := 139) rfl (by decide) rfl rfl ?_
  refine mm_iload_n dX2_flyTick_32 rfl rfl ?_
  refine mm_iload_n dX2_flyTick_33 rfl rfl ?_
  refine mm_V3i dX2_flyTick_34 rfl lk_X2_79 (c := 3) rfl (by decide) rfl (by simp) (by simp) (by simp) rfl rfl rfl ((hp' ▸ g_X4_pullOf hR hG hK hs hI (by omega))) ?_
  refine mm_istore_n dX2_flyTick_37 rfl (Nat.le_of_ble_eq_true rfl) rfl ?_
  refine mm_aload_n dX2_flyTick_38 rfl rfl ?_
  refine mm_aload_n dX2_flyTick_39 rfl rfl ?_
  refine mm_getr dX2_flyTick_40 rfl fl_X2_27 (c := 139) rfl (by decide) rfl rfl (hR.at (c := 139) (i := 0) (v := 4) rfl (by decide)) ?_
  refine mm_iload_n dX2_flyTick_43 rfl rfl ?_
  refine mm_V1i dX2_flyTick_44 rfl lk_X2_82 (c := 3) rfl (by decide) rfl (by simp) rfl rfl rfl (g_X4_fateOf hR hG hK (by omega)) ?_
  refine mm_puti dX2_flyTick_47 rfl fl_X2_47 (c := 139) rfl (by decide) rfl rfl (fun M47 hM47 => ?_)
  have hR47 : mm_Rf M47 := by rw [hM47]; exact hR.up rfl
  have hG47 : mm_ag M M47 := by rw [hM47]; exact hG.up (by decide)
  refine mm_aload_n dX2_flyTick_50 rfl rfl ?_
  refine mm_get (kd := 0) dX2_flyTick_51 rfl fl_X2_47 (c := 139) rfl (by decide) rfl rfl ?_
  obtain ⟨v51, hv51⟩ : ∃ v, v = M47 139 5 := ⟨_, rfl⟩
  rw [← hv51]
  rw [hM47, mm_up_s] at hv51
  subst hv51
  refine mm_ifne dX2_flyTick_54 (by omega) (fun h54 => ?_) (fun h54 => ?_)
  · refine mm_vret dX2_flyTick_114 rfl rfl ?_
    refine ⟨rfl, hR47, hG47, ?_, ?_, ?_, ?_, ?_⟩
    · intro x h1 h2; funext b; simp [hM47, mm_up, h1, h2]
    · simp [hM47, mm_up]
    · simp [hM47, mm_up]
    · intro hz
      first
      | (refine ⟨?_, ?_, ?_, ?_⟩
         · simp [hM47, mm_up]
         · simp [hM47, mm_up]
         · simp [hM47, mm_up]
         · funext b; simp [hM47, mm_up])
      | (exfalso; simp [hM47, mm_up] at hz; omega)
    · intro hz
      first
      | (refine ⟨?_, ?_, ?_, ?_⟩
         · simp [hM47, mm_up]; done
         · simp [hM47, mm_up]; done
         · simp [hM47, mm_up]; done
         · funext b; simp [hM47, mm_up]; done)
      | (exfalso; simp [hM47, mm_up] at hz; omega)
  · refine mm_aload_n dX2_flyTick_57 rfl rfl ?_
    refine mm_dup dX2_flyTick_58 rfl (by simp) ?_
    refine mm_get (kd := 0) dX2_flyTick_59 rfl fl_X2_50 (c := 139) rfl (by decide) rfl rfl ?_
    obtain ⟨v59, hv59⟩ : ∃ v, v = M47 139 6 := ⟨_, rfl⟩
    rw [← hv59]
    rw [hM47, mm_up_i (by decide)] at hv59
    subst hv59
    refine mm_aload_n dX2_flyTick_62 rfl rfl ?_
    refine mm_getr dX2_flyTick_63 rfl fl_X2_27 (c := 139) rfl (by decide) rfl rfl (hR47.at (c := 139) (i := 0) (v := 4) rfl (by decide)) ?_
    refine mm_iload_n dX2_flyTick_66 rfl rfl ?_
    refine mm_S1i dX2_flyTick_67 rfl lk_X2_86 (by simp) rfl rfl rfl (c_X4_drumOf (by omega)) ?_
    refine mm_iload_n dX2_flyTick_70 rfl rfl ?_
    refine mm_V2i dX2_flyTick_71 rfl lk_X2_89 (c := 3) rfl (by decide) rfl (by simp) (by simp) rfl rfl rfl (g_X4_workOf hR47 hG47 hK (ks_drb hI1) hp) ?_
    refine mm_iadd dX2_flyTick_74 rfl ?_
    refine mm_puti dX2_flyTick_75 rfl fl_X2_50 (c := 139) rfl (by decide) rfl rfl (fun M75 hM75 => ?_)
    have hR75 : mm_Rf M75 := by rw [hM75]; exact hR47.up rfl
    have hG75 : mm_ag M M75 := by rw [hM75]; exact hG47.up (by decide)
    refine mm_aload_n dX2_flyTick_78 rfl rfl ?_
    refine mm_getr dX2_flyTick_79 rfl fl_X2_11 (c := 139) rfl (by decide) rfl rfl (hR75.at (c := 139) (i := 8) (v := 141) rfl (by decide)) ?_
    refine mm_aload_n dX2_flyTick_82 rfl rfl ?_
    refine mm_get (kd := 0) dX2_flyTick_83 rfl fl_X2_43 (c := 139) rfl (by decide) rfl rfl ?_
    obtain ⟨v83, hv83⟩ : ∃ v, v = M75 139 4 := ⟨_, rfl⟩
    rw [← hv83]
    rw [hM75, mm_up_i (by decide), hM47, mm_up_i (by decide)] at hv83
    subst hv83
    refine mm_iload_n dX2_flyTick_86 rfl rfl ?_
    refine mm_isto dX2_flyTick_87 rfl (c := 140) rfl (by decide) rfl (by omega) (by omega) (fun M87 hM87 => ?_)
    have hR87 : mm_Rf M87 := by rw [hM87]; exact hR75.up (mm_rt_ar (t := 0) rfl (by decide))
    have hG87 : mm_ag M M87 := by rw [hM87]; exact hG75.up (by decide)
    refine mm_aload_n dX2_flyTick_88 rfl rfl ?_
    refine mm_aload_n dX2_flyTick_89 rfl rfl ?_
    refine mm_getr dX2_flyTick_90 rfl fl_X2_27 (c := 139) rfl (by decide) rfl rfl (hR87.at (c := 139) (i := 0) (v := 4) rfl (by decide)) ?_
    refine mm_aload_n dX2_flyTick_93 rfl rfl ?_
    refine mm_get (kd := 0) dX2_flyTick_94 rfl fl_X2_53 (c := 139) rfl (by decide) rfl rfl ?_
    obtain ⟨v94, hv94⟩ : ∃ v, v = M87 139 7 := ⟨_, rfl⟩
    rw [← hv94]
    rw [hM87, mm_up_c (by decide), hM75, mm_up_i (by decide), hM47, mm_up_i (by decide)] at hv94
    subst hv94
    refine mm_iload_n dX2_flyTick_97 rfl rfl ?_
    refine mm_V2i dX2_flyTick_98 rfl lk_X2_92 (c := 3) rfl (by decide) rfl (by simp) (by simp) rfl rfl rfl (g_X4_goal hR87 hG87 hK hs hI) ?_
    rw [if_pos (hcan.mpr trivial)]
    refine mm_puti dX2_flyTick_101 rfl fl_X2_53 (c := 139) rfl (by decide) rfl rfl (fun M101 hM101 => ?_)
    have hR101 : mm_Rf M101 := by rw [hM101]; exact hR87.up rfl
    have hG101 : mm_ag M M101 := by rw [hM101]; exact hG87.up (by decide)
    refine mm_aload_n dX2_flyTick_104 rfl rfl ?_
    refine mm_dup dX2_flyTick_105 rfl (by simp) ?_
    refine mm_get (kd := 0) dX2_flyTick_106 rfl fl_X2_43 (c := 139) rfl (by decide) rfl rfl ?_
    obtain ⟨v106, hv106⟩ : ∃ v, v = M101 139 4 := ⟨_, rfl⟩
    rw [← hv106]
    rw [hM101, mm_up_i (by decide), hM87, mm_up_c (by decide), hM75, mm_up_i (by decide), hM47, mm_up_i (by decide)] at hv106
    subst hv106
    refine mm_iconst dX2_flyTick_109 rfl ?_
    refine mm_iadd dX2_flyTick_110 rfl ?_
    refine mm_puti dX2_flyTick_111 rfl fl_X2_43 (c := 139) rfl (by decide) rfl rfl (fun M111 hM111 => ?_)
    have hR111 : mm_Rf M111 := by rw [hM111]; exact hR101.up rfl
    have hG111 : mm_ag M M111 := by rw [hM111]; exact hG101.up (by decide)
    refine mm_vret dX2_flyTick_114 rfl rfl ?_
    refine ⟨rfl, hR111, hG111, ?_, ?_, ?_, ?_, ?_⟩
    · intro x h1 h2; funext b; simp [hM111, hM101, hM87, hM75, hM47, mm_up, h1, h2]
    · simp [hM111, hM101, hM87, hM75, hM47, mm_up]
    · simp [hM111, hM101, hM87, hM75, hM47, mm_up]
    · intro hz
      first
      | (refine ⟨?_, ?_, ?_, ?_⟩
         · simp [hM111, hM101, hM87, hM75, hM47, mm_up]
         · simp [hM111, hM101, hM87, hM75, hM47, mm_up]
         · simp [hM111, hM101, hM87, hM75, hM47, mm_up]
         · funext b; simp [hM111, hM101, hM87, hM75, hM47, mm_up])
      | (exfalso; simp [hM111, hM101, hM87, hM75, hM47, mm_up] at hz; omega)
    · intro hz
      first
      | (refine ⟨?_, ?_, ?_, ?_⟩
         · simp [hM111, hM101, hM87, hM75, hM47, mm_up]; done
         · simp [hM111, hM101, hM87, hM75, hM47, mm_up]; done
         · simp [hM111, hM101, hM87, hM75, hM47, mm_up]; done
         · funext b; simp [hM111, hM101, hM87, hM75, hM47, mm_up]; done)
      | (exfalso; simp [hM111, hM101, hM87, hM75, hM47, mm_up] at hz; omega)
end

