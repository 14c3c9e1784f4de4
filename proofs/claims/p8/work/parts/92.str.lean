/-! ===== texts that are constants ===== -/
def ks_L (k : Nat) : Nat := (mm_sc.getD k mm_sd).2.2.2.length
def ks_B (k j : Nat) : Int := (mm_sc.getD k mm_sd).2.2.2.getD j 0
theorem ks_LB : ∀ k, k < 37 → ks_L k ≤ 100 ∧ 1 ≤ ks_L k := by decide +kernel
theorem ks_BB : ∀ k, k < 37 → ∀ j, j < ks_L k → 0 ≤ ks_B k j ∧ ks_B k j ≤ 127 := by decide +kernel
section
variable {X : mm_X} {Y Y' : mm_Y} {n0 n1 n pc q idx k0 na : Nat} {ls st stk as : List mm_V} {M M1 : mm_M} {Φ Ψ : mm_V → mm_M → Prop} {r j x : Int}
theorem mm_lds (hd : mm_D Y.2.1 pc q (.ldc idx)) (hq : pc + 2 = q) (hk : k0 < 37) (hc : (mm_sc.getD k0 mm_sd).1 = Y.1.cls) (hi : (mm_sc.getD k0 mm_sd).2.1 = idx) (k : mm_J X Y n0 n1 n q ls ((2, -((k0 + 100 : Nat) : Int)) :: st) M Φ) : mm_J X Y n0 n1 n pc ls st M Φ := by
  subst hq
  intro p l e R s m args below meth cd D cA bs ro H locs lsr Cx hP hS hL
  obtain ⟨hx, hb, -, -, hown, hT, -, -, -, -, -, -, -, hK, hRo, -⟩ := id Cx
  have kk := k p l e R s m args below meth cd D cA bs ro H locs lsr Cx hP hS hL
  rw [List.map_cons, mm_v2n _ _ _ (by omega)] at kk
  have hZ := (hRo.2.2.2.1 k0 hk).1
  rw [hi] at hZ
  rw [← hc] at hown
  exact va_ldcS hx hb hown hZ (by simpa using hd.1) kk
theorem mm_gsv (hd : mm_D Y.2.1 pc q (.getfield idx)) (hq : pc + 3 = q) (hr : r = -((k0 + 100 : Nat) : Int)) (hk : k0 < 37) (hw : mm_Wk (.fieldLink Y.1.cls idx "java/lang/String" "value" "[B")) (k : mm_J X Y n0 n1 n q ls ((2, -((k0 + 200 : Nat) : Int)) :: st) M Φ) : mm_J X Y n0 n1 n pc ls ((2, r) :: st) M Φ := by
  subst hq; subst hr
  intro p l e R s m args below meth cd D cA bs ro H locs lsr Cx hP hS hL
  obtain ⟨hx, hb, -, -, hown, hT, -, -, -, -, -, -, -, hK, hRo, -⟩ := id Cx
  have kk := k p l e R s m args below meth cd D cA bs ro H locs lsr Cx hP hS hL
  rw [List.map_cons, mm_v2n _ _ _ (by omega)] at kk ⊢
  exact vk_getf hx hb (hRo.2.2.2.1 k0 hk).2.2.2.1 hS hown (hT.at hw) (fun _ h => h) (by simpa using hd.1) kk
theorem mm_gsc (hd : mm_D Y.2.1 pc q (.getfield idx)) (hq : pc + 3 = q) (hr : r = -((k0 + 100 : Nat) : Int)) (hk : k0 < 37) (hw : mm_Wk (.fieldLink Y.1.cls idx "java/lang/String" "coder" "B")) (k : mm_J X Y n0 n1 n q ls ((0, 0) :: st) M Φ) : mm_J X Y n0 n1 n pc ls ((2, r) :: st) M Φ := by
  subst hq; subst hr
  intro p l e R s m args below meth cd D cA bs ro H locs lsr Cx hP hS hL
  obtain ⟨hx, hb, -, -, hown, hT, -, -, -, -, -, -, -, hK, hRo, -⟩ := id Cx
  have kk := k p l e R s m args below meth cd D cA bs ro H locs lsr Cx hP hS hL
  rw [List.map_cons, mm_v2n _ _ _ (by omega)]
  exact vk_getf hx hb (hRo.2.2.2.1 k0 hk).2.2.1 hS hown (hT.at hw) (fun _ h => h) (by simpa using hd.1) kk
theorem mm_gcs (hd : mm_D Y.2.1 pc q (.getstatic idx)) (hq : pc + 3 = q) (hw : mm_Wk (.fieldLink Y.1.cls idx "java/lang/String" "COMPACT_STRINGS" "Z")) (k : mm_J X Y n0 n1 n q ls ((0, 1) :: st) M Φ) : mm_J X Y n0 n1 n pc ls st M Φ := by
  subst hq
  intro p l e R s m args below meth cd D cA bs ro H locs lsr Cx hP hS hL
  obtain ⟨hx, hb, -, -, hown, hT, -, -, -, -, -, -, -, hK, hRo, -⟩ := id Cx
  have kk := k p l e R s m args below meth cd D cA bs ro H locs lsr Cx hP hS hL
  exact va_gets hx hb hRo.2.2.1 hS hown (hT.at hw) (fun _ h => h) (by simpa using hd.1) kk
theorem mm_gzq {j0 : Nat} (hd : mm_D Y.2.1 pc q (.getstatic idx)) (hq : pc + 3 = q) (hj : j0 < 3) (hw : mm_Wk (.fieldLink Y.1.cls idx (mm_zq.getD j0 ("", "", "")).1 (mm_zq.getD j0 ("", "", "")).2.1 (mm_zq.getD j0 ("", "", "")).2.2)) (k : ∀ r : Int, mm_J X Y n0 n1 n q ls ((2, r) :: st) M Φ) : mm_J X Y n0 n1 n pc ls st M Φ := by
  subst hq
  intro p l e R s m args below meth cd D cA bs ro H locs lsr Cx hP hS hL
  obtain ⟨hx, hb, -, -, hown, hT, -, -, -, -, -, -, -, hK, hRo, -⟩ := id Cx
  rcases hRo.2.2.2.2.2.2 j0 hj with hZ | hZ
  · have kk := k 0 p l e R s m args below meth cd D cA bs ro H locs lsr Cx hP hS hL
    rw [List.map_cons, mm_v20] at kk
    exact va_gets hx hb hZ hS hown (hT.at hw) (fun _ h => h) (by simpa using hd.1) kk
  · have kk := k (-((50 + j0 : Nat) : Int)) p l e R s m args below meth cd D cA bs ro H locs lsr Cx hP hS hL
    rw [List.map_cons, mm_v2n _ _ _ (by omega)] at kk
    exact va_gets hx hb hZ hS hown (hT.at hw) (fun _ h => h) (by simpa using hd.1) kk
theorem mm_alst (hd : mm_D Y.2.1 pc q .arraylength) (hq : pc + 1 = q) (hr : r = -((k0 + 200 : Nat) : Int)) (hk : k0 < 37) (k : mm_J X Y n0 n1 n q ls ((0, (ks_L k0 : Int)) :: st) M Φ) : mm_J X Y n0 n1 n pc ls ((2, r) :: st) M Φ := by
  subst hq; subst hr
  intro p l e R s m args below meth cd D cA bs ro H locs lsr Cx hP hS hL
  obtain ⟨hx, hb, -, -, hown, hT, -, -, -, -, -, -, -, hK, hRo, -⟩ := id Cx
  obtain ⟨cell, g1, g2, g3, g4, g5, g6, g7⟩ := (hRo.2.2.2.1 k0 hk).2.2.2.2
  have hb2 : ro (k0 + 200) < s.heap.size := (Array.getElem?_eq_some_iff.mp g1).1
  rw [List.map_cons, mm_v2n _ _ _ (by omega)]
  refine W.alen hx hb (n := mm_i ((ks_L k0 : Nat) : Int)) (by rw [hS.2.1 _ hb2 g7]; exact g1) g2 ?_ rfl rfl (by simpa using hd.1) (k p l e R s m args below meth cd D cA bs ro H locs lsr Cx hP hS hL)
  rw [g5]
  exact (Int32.ofInt_eq_ofNat).symm
theorem mm_bast2 (hd : mm_D Y.2.1 pc q .baload) (hq : pc + 1 = q) (hr : r = -((k0 + 200 : Nat) : Int)) (hk : k0 < 37) (h0 : 0 ≤ j) (h1 : j < (ks_L k0 : Int)) (k : mm_J X Y n0 n1 n q ls ((0, ks_B k0 j.toNat) :: st) M Φ) : mm_J X Y n0 n1 n pc ls ((0, j) :: (2, r) :: st) M Φ := by
  subst hq; subst hr
  intro p l e R s m args below meth cd D cA bs ro H locs lsr Cx hP hS hL
  obtain ⟨hx, hb, -, -, hown, hT, -, -, -, -, -, -, -, hK, hRo, -⟩ := id Cx
  obtain ⟨cell, g1, g2, g3, g4, g5, g6, g7⟩ := (hRo.2.2.2.1 k0 hk).2.2.2.2
  have hb2 : ro (k0 + 200) < s.heap.size := (Array.getElem?_eq_some_iff.mp g1).1
  have hLb := (ks_LB k0 hk).1
  rw [List.map_cons, List.map_cons, mm_v2n _ _ _ (by omega)]
  refine W.bald hx hb (v := .int (mm_i (ks_B k0 j.toNat))) (by rw [hS.2.1 _ hb2 g7]; exact g1) g2 g3 ?_ ?_ rfl rfl (by simpa using hd.1) (k p l e R s m args below meth cd D cA bs ro H locs lsr Cx hP hS hL)
  · have := mm_i_in h0 h1 (by omega)
    intro h
    apply this
    rcases h with h | h
    · exact Or.inl h
    · exact Or.inr (Nat.le_trans g4 h)
  · rw [mm_i_clamp h0 (by omega)]
    exact g6 _ (by unfold ks_L at h1; omega)
theorem mm_i2c (hd : mm_D Y.2.1 pc q .i2c) (hq : pc + 1 = q) (hx : 0 ≤ x ∧ x ≤ 255) (k : mm_J X Y n0 n1 n q ls ((0, x) :: st) M Φ) : mm_J X Y n0 n1 n pc ls ((0, x) :: st) M Φ := by
  subst hq
  refine mm_go (fun p l e R s m args below meth c D cA bs ro H locs lsr cells slots Q hx' hb hL kk => ?_) k
  refine lv_i2c hx' hb (by simpa using hd.1) (v := mm_i x) ?_ kk
  obtain ⟨y, rfl⟩ : ∃ y : Nat, x = (y : Int) := ⟨x.toNat, by omega⟩
  have hy : y < 256 := by omega
  clear hx k kk
  revert y
  decide +kernel
theorem mm_nret {ty : FieldType} (hd : mm_D Y.2.1 pc q .ireturn) (hq : pc + 1 = q) (hr : Y.2.2.2.1 = some ty) (hn : narrow ty (.int (mm_i x)) = .int (mm_i x)) (hΦ : Φ (0, x) M) : mm_J X Y n0 n n pc ls [(0, x)] M Φ := by
  subst hq
  intro p l e R s m args below meth cd D cA bs ro H locs lsr Cx hP hS hL
  obtain ⟨hx, hb, hrt, -, hown, hT, hlk, -, -, -, -, -, -, hK, hRo, -⟩ := id Cx
  refine mm_mono (W.zret (Qc := fun _ _ o' t => o' = .returned (some (.int (mm_i x))) ∧ t.heap = H) (free := fun q => bs ≤ q) hx hb (hrt.trans hr) hn (fun t h1 h2 => ⟨rfl, h1⟩) hS.2.2 (by simpa using hd.1) hlk) (mm_end (p := p) (R := R) (m := m) (meth := meth) (cd := cd) (rv := (0, x)) rfl hP hS hΦ)
theorem mm_nch (hx : 0 ≤ x ∧ x ≤ 255) : narrow .char (.int (mm_i x)) = .int (mm_i x) := by
  obtain ⟨y, rfl⟩ : ∃ y : Nat, x = (y : Int) := ⟨x.toNat, by omega⟩
  have hy : y < 256 := by omega
  clear hx
  revert y
  decide +kernel
/-- a call on a text -/
def mm_LVs (own : String) (idx : Nat) (Y' : mm_Y) (na : Nat) : Prop := mm_Lc own idx Y' na ∧ mm_Wk (.instanceMethod Y'.1) ∧ mm_Wk (.selects "java/lang/String" Y'.1 Y'.1)
theorem mm_callVs (hd : mm_D Y.2.1 pc q (.invokevirtual idx)) (hq : pc + 3 = q) (hw : mm_LVs Y.1.cls idx Y' na) (hr : r = -((k0 + 100 : Nat) : Int)) (hk0 : k0 < 37) (hna : as.length = na) (hst : stk = as.reverse ++ (2, r) :: st)
    {n' : Nat} (hn : mm_le n0 n n' n1) (h9 : ∀ v ∈ as, v.1 ≠ 9) (hpad : (mm_dbl ((2, r) :: as)).length ≤ Y'.2.2.1) (hfr : Y'.2.2.2.2.1 + 1 ≤ Y.2.2.2.2.1) (hlo : mm_wd st + (Y'.2.2.1 + 11) + Y'.2.2.2.2.2.1 ≤ Y.2.2.2.2.2.1)
    (hC : mm_C X Y' n n' ((2, r) :: as) M Ψ) (hk : ∀ r M', Ψ r M' → mm_Kc X Y n0 n1 n' q ls st Φ r M') : mm_J X Y n0 n1 n pc ls stk M Φ := by
  subst hst
  intro p l e R s m args below meth cd D cA bs ro H locs lsr Cx hP hS hL
  obtain ⟨hx, hb, -, hml, hown, hT, -, -, -, -, -, -, -, hK, hRo, -⟩ := id Cx
  obtain ⟨⟨w1, w2, w3, w4, w5⟩, w6, w8⟩ := hw
  have h9' : ∀ v ∈ (2, r) :: as, v.1 ≠ 9 := by
    intro v hv
    rcases List.mem_cons.mp hv with rfl | hv
    · show (2 : Nat) ≠ 9
      decide
    · exact h9 v hv
  have hd3 : decode Y.2.1 pc = .ok (.invokevirtual idx, 3) := by
    have := hd.1
    rw [← hq] at this
    simpa using this
  refine mm_callx (ig := .invokevirtual idx) Cx hP hS hL hn w3 h9' hpad (hT.at w2) w2.2 hfr hlo hd3 hq ?_ hC hk
  intro T hTH X0
  obtain ⟨cell, q1, q3, hcls, q4⟩ := (hRo.2.2.2.1 k0 hk0).2.1
  have hb2 : ro (k0 + 100) < s.heap.size := (Array.getElem?_eq_some_iff.mp q1).1
  have q1' : H[ro (k0 + 100)]? = some cell := by rw [hS.2.1 _ hb2 q4]; exact q1
  obtain ⟨mk, methM, hnamed, hmethM, hstM, habM⟩ := Cond.instanceMethod_spec (hT.at w6)
  obtain ⟨mk2, methM', cM, hn2, hmethM', -, -, -, -, -, -, hsigM⟩ := mm_cw_spec (hT.at w2)
  cases hnamed.symm.trans hn2
  cases hmethM.symm.trans hmethM'
  obtain ⟨c2, r2, m2, z1, z2, z3, z4, kP, hkP, hkPi⟩ := Cond.selects_spec (hT.at w8)
  cases hcls.symm.trans z1
  cases (State.methodFound?_of_named hnamed w4).symm.trans z2
  cases hnamed.symm.trans z3
  have hselP : selectMethod e.platform s.vm cell.cls mk = .method mk := by rw [Launch.admits_selectMethod X0.admits]; exact z4
  obtain ⟨vm₁, X₁, hstep₁⟩ := X0.invokevirtual hx hown (hT.at w1) hnamed hmethM hstM hkP hkPi w4 (a := ro (k0 + 100)) (cell := cell) (by rw [hTH]; exact q1')
    (fun z h => by rw [h] at q3; cases q3) hselP hmethM habM hkP hkPi (g := F0 m pc lsr ((as.reverse ++ (2, r) :: st).map (mm_v bs ro))) rfl (argsL := as.map (mm_v bs ro)) (rest := st.map (mm_v bs ro)) (by rw [List.length_map, hna]; exact mm_lenOf w5 hsigM)
    (by rw [List.map_append, List.map_cons, List.map_reverse, hr, mm_v2n _ _ _ (by omega)]) (by rw [hb]; exact hd3)
  refine ⟨vm₁, mk, X₁, hnamed, fun target h => hstep₁ target (fun acts => ?_)⟩
  have := h acts
  rw [List.map_cons, hr, mm_v2n _ _ _ (by omega)] at this
  exact this
theorem mm_VS0i (hd : mm_D Y.2.1 pc q (.invokevirtual idx)) (hq : pc + 3 = q) (hw : mm_LVs Y.1.cls idx Y' 0) (hr : r = -((k0 + 100 : Nat) : Int)) (hk0 : k0 < 37) (hpad : Nat.ble (mm_dbl [(2, r)]).length Y'.2.2.1 = true) (hfr : Nat.ble (Y'.2.2.2.2.1 + 1) Y.2.2.2.2.1 = true) (hlo : Nat.ble (mm_wd st + (Y'.2.2.1 + 11) + Y'.2.2.2.2.2.1) Y.2.2.2.2.2.1 = true)
    (hC : mm_Fn X Y' n [(2, r)] M (0, x) M1) (k : mm_J X Y n n n q ls ((0, x) :: st) M1 Φ) : mm_J X Y n n n pc ls ((2, r) :: st) M Φ := by
  refine mm_callVs hd hq hw hr hk0 (as := []) rfl rfl (mm_le_rf n) (by simp) (Nat.le_of_ble_eq_true hpad) (Nat.le_of_ble_eq_true hfr) (Nat.le_of_ble_eq_true hlo) hC ?_
  rintro _ _ ⟨rfl, rfl⟩
  exact k
theorem mm_VS1i {v1 : mm_V} (hd : mm_D Y.2.1 pc q (.invokevirtual idx)) (hq : pc + 3 = q) (hw : mm_LVs Y.1.cls idx Y' 1) (hr : r = -((k0 + 100 : Nat) : Int)) (hk0 : k0 < 37) (hv1 : v1.1 ≠ 9) (hpad : Nat.ble (mm_dbl [(2, r), v1]).length Y'.2.2.1 = true) (hfr : Nat.ble (Y'.2.2.2.2.1 + 1) Y.2.2.2.2.1 = true) (hlo : Nat.ble (mm_wd st + (Y'.2.2.1 + 11) + Y'.2.2.2.2.2.1) Y.2.2.2.2.2.1 = true)
    (hC : mm_Fn X Y' n [(2, r), v1] M (0, x) M1) (k : mm_J X Y n n n q ls ((0, x) :: st) M1 Φ) : mm_J X Y n n n pc ls (v1 :: (2, r) :: st) M Φ := by
  refine mm_callVs hd hq hw hr hk0 (as := [v1]) rfl rfl (mm_le_rf n) (by simpa using hv1) (Nat.le_of_ble_eq_true hpad) (Nat.le_of_ble_eq_true hfr) (Nat.le_of_ble_eq_true hlo) hC ?_
  rintro _ _ ⟨rfl, rfl⟩
  exact k
end
theorem ls_X10_53 : mm_LVs RX10 53 Y_J0_length_8abf5 0 := ⟨⟨mm_w1 2 134 rfl rfl, cw_J0_length_8abf5, by decide +kernel, ⟨by decide +kernel, by decide +kernel⟩, by decide +kernel⟩, mm_w1 2 135 rfl rfl, mm_w1 2 136 rfl rfl⟩
theorem ls_X10_58 : mm_LVs RX10 58 Y_J0_charAt_5068e 1 := ⟨⟨mm_w1 2 144 rfl rfl, cw_J0_charAt_5068e, by decide +kernel, ⟨by decide +kernel, by decide +kernel⟩, by decide +kernel⟩, mm_w1 2 145 rfl rfl, mm_w1 2 146 rfl rfl⟩
theorem ls_X13_50 : mm_LVs RX13 50 Y_J0_length_8abf5 0 := ⟨⟨mm_w1 7 90 rfl rfl, cw_J0_length_8abf5, by decide +kernel, ⟨by decide +kernel, by decide +kernel⟩, by decide +kernel⟩, mm_w1 2 135 rfl rfl, mm_w1 2 136 rfl rfl⟩
theorem ls_X13_55 : mm_LVs RX13 55 Y_J0_charAt_5068e 1 := ⟨⟨mm_w1 7 91 rfl rfl, cw_J0_charAt_5068e, by decide +kernel, ⟨by decide +kernel, by decide +kernel⟩, by decide +kernel⟩, mm_w1 2 145 rfl rfl, mm_w1 2 146 rfl rfl⟩
theorem ls_J0_335 : mm_LVs RJ0 335 Y_J0_coder_7d493 0 := ⟨⟨mm_w1 2 138 rfl rfl, cw_J0_coder_7d493, by decide +kernel, ⟨by decide +kernel, by decide +kernel⟩, by decide +kernel⟩, mm_w1 2 139 rfl rfl, mm_w1 2 140 rfl rfl⟩
theorem ls_J0_492 : mm_LVs RJ0 492 Y_J0_isLatin1_aae02 0 := ⟨⟨mm_w1 2 148 rfl rfl, cw_J0_isLatin1_aae02, by decide +kernel, ⟨by decide +kernel, by decide +kernel⟩, by decide +kernel⟩, mm_w1 2 149 rfl rfl, mm_w1 2 150 rfl rfl⟩
theorem fs_J0_9 : mm_Wk (.fieldLink RJ0 9 "java/lang/String" "value" "[B") := mm_w1 9 58 rfl rfl
theorem fs_J0_15 : mm_Wk (.fieldLink RJ0 15 "java/lang/String" "coder" "B") := mm_w1 9 59 rfl rfl
theorem fs_J0_38 : mm_Wk (.fieldLink RJ0 38 "java/lang/String" "COMPACT_STRINGS" "Z") := mm_w1 2 142 rfl rfl
theorem fs_J0_1053 : mm_Wk (.fieldLink RJ0 1053 "jdk/internal/util/Preconditions" "SIOOBE_FORMATTER" "Ljava/util/function/BiFunction;") := mm_w1 2 158 rfl rfl
section
variable {X : mm_X} {M : mm_M} {k0 : Nat} {j : Int}
theorem c_J0_coder_7d493 (hk : k0 < 37) : mm_Fn X Y_J0_coder_7d493 243 [(2, -((k0 + 100 : Nat) : Int))] M (0, 0) M := by
  refine mm_startF (ls := [(2, -((k0 + 100 : Nat) : Int))]) rfl ?_
  refine mm_gcs dJ0_coder_7d493_0 rfl fs_J0_38 ?_
  refine mm_ifeq dJ0_coder_7d493_3 (by omega) (fun h => absurd h (by decide)) (fun _ => ?_)
  refine mm_aload_n dJ0_coder_7d493_6 rfl rfl ?_
  refine mm_gsc dJ0_coder_7d493_7 rfl rfl hk fs_J0_15 ?_
  refine mm_goto dJ0_coder_7d493_10 ?_
  exact mm_nret dJ0_coder_7d493_14 rfl rfl rfl ⟨rfl, rfl⟩
theorem c_J0_length_8abf5 (hk : k0 < 37) : mm_Fn X Y_J0_length_8abf5 243 [(2, -((k0 + 100 : Nat) : Int))] M (0, (ks_L k0 : Int)) M := by
  have hL := ks_LB k0 hk
  refine mm_startF (ls := [(2, -((k0 + 100 : Nat) : Int))]) rfl ?_
  refine mm_aload_n dJ0_length_8abf5_0 rfl rfl ?_
  refine mm_gsv dJ0_length_8abf5_1 rfl rfl hk fs_J0_9 ?_
  refine mm_alst dJ0_length_8abf5_4 rfl rfl hk ?_
  refine mm_aload_n dJ0_length_8abf5_5 rfl rfl ?_
  refine mm_VS0i dJ0_length_8abf5_6 rfl ls_J0_335 rfl hk rfl rfl rfl (c_J0_coder_7d493 hk) ?_
  refine mm_ishr dJ0_length_8abf5_9 rfl ?_
  rw [show (0 : Int) = ((0 : Nat) : Int) from rfl, kx_shr (by omega) (by decide)]
  refine mm_iret dJ0_length_8abf5_10 rfl rfl ?_
  exact mm_fin rfl rfl
theorem c_J0_isLatin1_aae02 (hk : k0 < 37) : mm_Fn X Y_J0_isLatin1_aae02 243 [(2, -((k0 + 100 : Nat) : Int))] M (0, 1) M := by
  refine mm_startF (ls := [(2, -((k0 + 100 : Nat) : Int))]) rfl ?_
  refine mm_gcs dJ0_isLatin1_aae02_0 rfl fs_J0_38 ?_
  refine mm_ifeq dJ0_isLatin1_aae02_3 (by omega) (fun h => absurd h (by decide)) (fun _ => ?_)
  refine mm_aload_n dJ0_isLatin1_aae02_6 rfl rfl ?_
  refine mm_gsc dJ0_isLatin1_aae02_7 rfl rfl hk fs_J0_15 ?_
  refine mm_ifne dJ0_isLatin1_aae02_10 (by omega) (fun h => absurd rfl h) (fun _ => ?_)
  refine mm_iconst dJ0_isLatin1_aae02_13 rfl ?_
  refine mm_goto dJ0_isLatin1_aae02_14 ?_
  refine mm_zret dJ0_isLatin1_aae02_18 rfl rfl (Or.inr rfl) ?_
  exact mm_fin rfl rfl
theorem c_J3_checkIndex_8e157 {r : Int} {x y : Int} (hx : 0 ≤ x ∧ x < y) (hy : y ≤ 1000) : mm_Fn X Y_J3_checkIndex_8e157 243 [(0, x), (0, y), (2, r)] M (0, x) M := by
  refine mm_startF (ls := [(0, x), (0, y), (2, r)]) rfl ?_
  refine mm_iload_n dJ3_checkIndex_8e157_0 rfl rfl ?_
  refine mm_iflt dJ3_checkIndex_8e157_1 (by omega) (fun h => ?_) (fun _ => ?_)
  · exfalso; omega
  refine mm_iload_n dJ3_checkIndex_8e157_4 rfl rfl ?_
  refine mm_iload_n dJ3_checkIndex_8e157_5 rfl rfl ?_
  refine mm_iclt dJ3_checkIndex_8e157_6 (by omega) (by omega) (fun _ => ?_) (fun h => ?_)
  · refine mm_iload_n dJ3_checkIndex_8e157_16 rfl rfl ?_
    refine mm_iret dJ3_checkIndex_8e157_17 rfl rfl ?_
    exact mm_fin rfl rfl
  · exfalso; omega
theorem c_J0_checkIndex_df160 {x y : Int} (hx : 0 ≤ x ∧ x < y) (hy : y ≤ 1000) : mm_Fn X Y_J0_checkIndex_df160 243 [(0, x), (0, y)] M (3, 0) M := by
  refine mm_startF (ls := [(0, x), (0, y)]) rfl ?_
  refine mm_iload_n dJ0_checkIndex_df160_0 rfl rfl ?_
  refine mm_iload_n dJ0_checkIndex_df160_1 rfl rfl ?_
  refine mm_gzq (j0 := 0) dJ0_checkIndex_df160_2 rfl (by decide) fs_J0_1053 (fun r => ?_)
  refine mm_S3i dJ0_checkIndex_df160_5 rfl lk_J0_1059 (by simp) (by simp) (by simp) rfl rfl rfl (c_J3_checkIndex_8e157 hx hy) ?_
  refine mm_pop dJ0_checkIndex_df160_8 rfl (by simp) ?_
  refine mm_vret dJ0_checkIndex_df160_9 rfl rfl ?_
  exact ⟨rfl, rfl⟩
theorem c_J1_charAt_3b067 (hk : k0 < 37) (h0 : 0 ≤ j) (h1 : j < (ks_L k0 : Int)) : mm_Fn X Y_J1_charAt_3b067 243 [(2, -((k0 + 200 : Nat) : Int)), (0, j)] M (0, ks_B k0 j.toNat) M := by
  have hL := ks_LB k0 hk
  have hB := ks_BB k0 hk j.toNat (by omega)
  refine mm_startF (ls := [(2, -((k0 + 200 : Nat) : Int)), (0, j)]) rfl ?_
  refine mm_iload_n dJ1_charAt_3b067_0 rfl rfl ?_
  refine mm_aload_n dJ1_charAt_3b067_1 rfl rfl ?_
  refine mm_alst dJ1_charAt_3b067_2 rfl rfl hk ?_
  refine mm_S2v dJ1_charAt_3b067_3 rfl lk_J1_9 (by simp) (by simp) rfl rfl rfl (c_J0_checkIndex_df160 ⟨h0, h1⟩ (by omega)) ?_
  refine mm_aload_n dJ1_charAt_3b067_6 rfl rfl ?_
  refine mm_iload_n dJ1_charAt_3b067_7 rfl rfl ?_
  refine mm_bast2 dJ1_charAt_3b067_8 rfl rfl hk h0 h1 ?_
  refine mm_sipush dJ1_charAt_3b067_9 rfl (by decide) ?_
  refine mm_iand dJ1_charAt_3b067_12 rfl ?_
  rw [kb_and (by omega), show ks_B k0 j.toNat % 256 = ks_B k0 j.toNat by omega]
  refine mm_i2c dJ1_charAt_3b067_13 rfl (by omega) ?_
  exact mm_nret dJ1_charAt_3b067_14 rfl rfl (mm_nch (by omega)) ⟨rfl, rfl⟩
theorem c_J0_charAt_5068e (hk : k0 < 37) (h0 : 0 ≤ j) (h1 : j < (ks_L k0 : Int)) : mm_Fn X Y_J0_charAt_5068e 243 [(2, -((k0 + 100 : Nat) : Int)), (0, j)] M (0, ks_B k0 j.toNat) M := by
  refine mm_startF (ls := [(2, -((k0 + 100 : Nat) : Int)), (0, j)]) rfl ?_
  refine mm_aload_n dJ0_charAt_5068e_0 rfl rfl ?_
  refine mm_VS0i dJ0_charAt_5068e_1 rfl ls_J0_492 rfl hk rfl rfl rfl (c_J0_isLatin1_aae02 hk) ?_
  refine mm_ifeq dJ0_charAt_5068e_4 (by omega) (fun h => absurd h (by decide)) (fun _ => ?_)
  refine mm_aload_n dJ0_charAt_5068e_7 rfl rfl ?_
  refine mm_gsv dJ0_charAt_5068e_8 rfl rfl hk fs_J0_9 ?_
  refine mm_iload_n dJ0_charAt_5068e_11 rfl rfl ?_
  refine mm_S2i dJ0_charAt_5068e_12 rfl lk_J0_495 (by simp) (by simp) rfl rfl rfl (c_J1_charAt_3b067 hk h0 h1) ?_
  have hB := ks_BB k0 hk j.toNat (by omega)
  exact mm_nret dJ0_charAt_5068e_15 rfl rfl (mm_nch (by omega)) ⟨rfl, rfl⟩
end

