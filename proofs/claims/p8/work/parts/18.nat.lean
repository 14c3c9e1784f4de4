/-! ===== what the JDK does: Math, arraycopy ===== -/
def mm_LM (own : String) (idx : Nat) (y : MethodName) (cw : Jvm.Cond) : Prop := mm_Wk (.methodLink own idx y) ∧ mm_Wk (.static y) ∧ mm_Wk (.initialized "java/lang/Math") ∧ mm_Wk cw
section
variable {X : mm_X} {Y : mm_Y} {n0 n1 n pc q idx : Nat} {ls st : List mm_V} {M : mm_M} {Φ : mm_V → mm_M → Prop} {x y : Int}
theorem mm_max (hd : mm_D Y.2.1 pc q (.invokestatic idx)) (hq : pc + 3 = q) (hw : mm_LM Y.1.cls idx Lib.Math.max.name (.code Lib.Math.max.name Lib.Math.max.code 2 (some .int))) (hfr : Nat.ble 1 Y.2.2.2.2.1 = true) (hlo : Nat.ble (mm_wd st + 13) Y.2.2.2.2.2.1 = true) (hnn : n ≤ n1 ∧ mm_sz n ≤ mm_sz n1) (hx0 : mm_R x) (hy0 : mm_R y)
    (k : mm_J X Y n0 n1 n q ls ((0, max x y) :: st) M Φ) : mm_J X Y n0 n1 n pc ls ((0, y) :: (0, x) :: st) M Φ := by
  subst hq
  intro p l e R s m args below meth cd D cA bs ro H locs lsr Cx hP hS hL
  obtain ⟨hx, hb, -, hml, hown, hT, -, -, -, hRf, hRl, hRc, hRs, hK, hRo, -⟩ := id Cx
  have h1 := Nat.le_of_ble_eq_true hfr
  have h2 := Nat.le_of_ble_eq_true hlo
  refine va_mmax hx hb (hml.trans hL.1.symm) hown (hT.at hw.1) (hT.at hw.2.1) (hT.at hw.2.2.1) (hT.at hw.2.2.2) (by omega) (by rw [mm_wd_eq]; omega) (by omega) (by omega) (by simpa using hd.1) ?_
  have kk := k p l e R s m args below meth cd D cA bs ro H locs lsr Cx hP hS hL
  rw [List.map_cons, mm_v0] at kk
  have hxy := mm_i_lt hx0 hy0
  by_cases h : x < y
  · rw [show max x y = y by omega] at kk
    simp only [hxy, h, if_true]
    exact kk
  · rw [show max x y = x by omega] at kk
    simp only [hxy, h, if_false]
    exact kk
theorem mm_min (hd : mm_D Y.2.1 pc q (.invokestatic idx)) (hq : pc + 3 = q) (hw : mm_LM Y.1.cls idx Lib.Math.min.name (.code Lib.Math.min.name Lib.Math.min.code 2 (some .int))) (hfr : Nat.ble 1 Y.2.2.2.2.1 = true) (hlo : Nat.ble (mm_wd st + 13) Y.2.2.2.2.2.1 = true) (hnn : n ≤ n1 ∧ mm_sz n ≤ mm_sz n1) (hx0 : mm_R x) (hy0 : mm_R y)
    (k : mm_J X Y n0 n1 n q ls ((0, min x y) :: st) M Φ) : mm_J X Y n0 n1 n pc ls ((0, y) :: (0, x) :: st) M Φ := by
  subst hq
  intro p l e R s m args below meth cd D cA bs ro H locs lsr Cx hP hS hL
  obtain ⟨hx, hb, -, hml, hown, hT, -, -, -, hRf, hRl, hRc, hRs, hK, hRo, -⟩ := id Cx
  have h1 := Nat.le_of_ble_eq_true hfr
  have h2 := Nat.le_of_ble_eq_true hlo
  refine va_mmin hx hb (hml.trans hL.1.symm) hown (hT.at hw.1) (hT.at hw.2.1) (hT.at hw.2.2.1) (hT.at hw.2.2.2) (by omega) (by rw [mm_wd_eq]; omega) (by omega) (by omega) (by simpa using hd.1) ?_
  have kk := k p l e R s m args below meth cd D cA bs ro H locs lsr Cx hP hS hL
  rw [List.map_cons, mm_v0] at kk
  have hxy := mm_i_lt hx0 hy0
  have hyx := mm_i_lt hy0 hx0
  have hle := mm_i_le hx0 hy0
  by_cases h : x < y
  · rw [show min x y = x by omega] at kk
    simp only [hxy, hyx, hle, h, show ¬ y < x by omega, show x ≤ y by omega, if_true, if_false]
    exact kk
  · rw [show min x y = y by omega] at kk
    by_cases h' : x = y
    · subst h'; simpa using kk
    · simp only [hxy, hyx, hle, h, show y < x by omega, show ¬ x ≤ y by omega, if_true, if_false]
      exact kk
theorem mm_abs (hd : mm_D Y.2.1 pc q (.invokestatic idx)) (hq : pc + 3 = q) (hw : mm_LM Y.1.cls idx Lib.Math.abs.name (.code Lib.Math.abs.name Lib.Math.abs.code 1 (some .int))) (hfr : Nat.ble 1 Y.2.2.2.2.1 = true) (hlo : Nat.ble (mm_wd st + 13) Y.2.2.2.2.2.1 = true) (hnn : n ≤ n1 ∧ mm_sz n ≤ mm_sz n1) (hx0 : mm_R x)
    (k : mm_J X Y n0 n1 n q ls ((0, (x.natAbs : Int)) :: st) M Φ) : mm_J X Y n0 n1 n pc ls ((0, x) :: st) M Φ := by
  subst hq
  intro p l e R s m args below meth cd D cA bs ro H locs lsr Cx hP hS hL
  obtain ⟨hx, hb, -, hml, hown, hT, -, -, -, hRf, hRl, hRc, hRs, hK, hRo, -⟩ := id Cx
  have h1 := Nat.le_of_ble_eq_true hfr
  have h2 := Nat.le_of_ble_eq_true hlo
  refine va_mabs hx hb (hml.trans hL.1.symm) hown (hT.at hw.1) (hT.at hw.2.1) (hT.at hw.2.2.1) (hT.at hw.2.2.2) (by omega) (by rw [mm_wd_eq]; omega) (by omega) (by omega) (by simpa using hd.1) ?_
  have kk := k p l e R s m args below meth cd D cA bs ro H locs lsr Cx hP hS hL
  rw [List.map_cons, mm_v0] at kk
  have h0 : 0 ≤ mm_i x ↔ 0 ≤ x := mm_i_le (by omega : mm_R 0) hx0
  by_cases h : 0 ≤ x
  · rw [show (x.natAbs : Int) = x by omega] at kk
    simp only [h0, h, if_true]
    exact kk
  · rw [show (x.natAbs : Int) = 0 - x by omega, ← mm_i_sub] at kk
    simp only [h0, h, if_false]
    exact kk
theorem mm_maxl (hd : mm_D Y.2.1 pc q (.invokestatic idx)) (hq : pc + 3 = q) (hw : mm_LM Y.1.cls idx Lib.MathLoose.max_long.x (.code Lib.MathLoose.max_long.x Lib.MathLoose.max_long.code 4 (some .long))) (hfr : Nat.ble 1 Y.2.2.2.2.1 = true) (hlo : Nat.ble (mm_wd st + 15) Y.2.2.2.2.2.1 = true) (hnn : n ≤ n1 ∧ mm_sz n ≤ mm_sz n1) (hx0 : mm_RL x) (hy0 : mm_RL y)
    (k : mm_J X Y n0 n1 n q ls ((1, max x y) :: st) M Φ) : mm_J X Y n0 n1 n pc ls ((1, y) :: (1, x) :: st) M Φ := by
  subst hq
  intro p l e R s m args below meth cd D cA bs ro H locs lsr Cx hP hS hL
  obtain ⟨hx, hb, -, hml, hown, hT, -, -, -, hRf, hRl, hRc, hRs, hK, hRo, -⟩ := id Cx
  have h1 := Nat.le_of_ble_eq_true hfr
  have h2 := Nat.le_of_ble_eq_true hlo
  refine va_mmax_long hx hb (hml.trans hL.1.symm) hown (hT.at hw.1) (hT.at hw.2.1) (hT.at hw.2.2.1) (hT.at hw.2.2.2) (by omega) (by rw [mm_wd_eq]; omega) (by omega) (by omega) (by simpa using hd.1) ?_
  have kk := k p l e R s m args below meth cd D cA bs ro H locs lsr Cx hP hS hL
  rw [List.map_cons, mm_v1] at kk
  have hyx := mm_l_lt hy0 hx0
  by_cases h : y < x
  · rw [show max x y = x by omega] at kk
    simp only [hyx, h, if_true]
    exact kk
  · rw [show max x y = y by omega] at kk
    simp only [hyx, h, if_false]
    exact kk
end
/-- a stretch of an array copied into a cell -/
def mm_cp (M : mm_M) (d : Nat) (f : Nat → Int) (sp dp len : Nat) : mm_M := fun a b => if a = d ∧ dp ≤ b ∧ b < dp + len then f (sp + (b - dp)) else M a b
def mm_LA (own : String) (idx : Nat) : Prop := mm_Wk (.methodLink own idx arraycopyName) ∧ mm_Wk (.native arraycopyName) ∧ mm_Wk (.static arraycopyName) ∧ mm_Wk (.initialized "java/lang/System")
section
variable {X : mm_X} {Y : mm_Y} {n0 n1 n pc q idx d c len len' : Nat} {ls st : List mm_V} {M : mm_M} {Φ : mm_V → mm_M → Prop} {sp dp nn rs rd : Int}
set_option maxHeartbeats 1000000 in
theorem mm_copy (hd : mm_D Y.2.1 pc q (.invokestatic idx)) (hq : pc + 3 = q) (hw : mm_LA Y.1.cls idx) (hfr : Nat.ble 1 Y.2.2.2.2.1 = true) (hlo : Nat.ble (mm_wd st + 18) Y.2.2.2.2.2.1 = true)
    (hrs : rs = (c : Int) + 1) (hc : c < n) (hsc : mm_sh c = (1, len)) (hrd : rd = (d : Int) + 1) (hdn : d < n) (hsd : mm_sh d = (1, len')) (h1 : 0 ≤ sp) (h2 : 0 ≤ dp) (h3 : 0 ≤ nn) (h4 : sp + nn ≤ len) (h5 : dp + nn ≤ len')
    (k : mm_J X Y n0 n1 n q ls st (mm_cp M d (M c) sp.toNat dp.toNat nn.toNat) Φ) : mm_J X Y n0 n1 n pc ls ((0, nn) :: (0, dp) :: (2, rd) :: (0, sp) :: (2, rs) :: st) M Φ := by
  subst hq; subst hrs; subst hrd
  intro p l e R s m args below meth cd D cA bs ro H locs lsr Cx hP hS hL
  obtain ⟨hx, hb, -, hml, hown, hT, -, -, -, hRf, hRl, hRc, hRs, hK, hRo, -⟩ := id Cx
  have hf1 := Nat.le_of_ble_eq_true hfr
  have hf2 := Nat.le_of_ble_eq_true hlo
  have hl1 := (mm_shA c hsc).1
  have hl2 := (mm_shA d hsd).1
  have ha := (hP.2 c hc).arr hsc
  have hb0 := (hP.2 d hdn).arr hsd
  intro T hTH X0
  have R1 : mm_R sp := by omega
  have R2 : mm_R dp := by omega
  have R3 : mm_R nn := by omega
  have N1 : ¬ mm_i sp < 0 := by rw [show (0 : Int32) = mm_i 0 from rfl, mm_i_lt R1 (by omega)]; omega
  have N2 : ¬ mm_i dp < 0 := by rw [show (0 : Int32) = mm_i 0 from rfl, mm_i_lt R2 (by omega)]; omega
  have N3 : ¬ mm_i nn < 0 := by rw [show (0 : Int32) = mm_i 0 from rfl, mm_i_lt R3 (by omega)]; omega
  obtain ⟨-, k0, hk0, cm0, hkk0⟩ := (hK.2 0 _ rfl).1 len (fun j => mm_v bs ro (mm_ek 0, M c j))
  obtain ⟨-, k1, hk1, cm1, hkk1⟩ := (hK.2 0 _ rfl).1 len' (fun j => mm_v bs ro (mm_ek 0, M d j))
  obtain ⟨vm', X', step⟩ := X0.arraycopy hx hown (hT.at hw.1) (hT.at hw.2.1) (hT.at hw.2.2.1) (hT.at hw.2.2.2) (src := bs + c) (dst := bs + d) (cs := arrV (cA 0) len (fun j => mm_v bs ro (mm_ek 0, M c j))) (cd := arrV (cA 0) len' (fun j => mm_v bs ro (mm_ek 0, M d j))) (srcPos := mm_i sp) (destPos := mm_i dp) (n := mm_i nn) (by rw [hTH]; exact ha) (by rw [hTH]; exact hb0)
    (fun _ h => by cases h) (fun _ h => by cases h) (fun h => by cases h) (fun h => by cases h) hk0 hk1 hkk0 hkk1 (by simp [refKind]) N1 N2 N3
    (by rw [mm_i_to R1, mm_i_to R3, arrV_size]; omega)
    (by rw [mm_i_to R2, mm_i_to R3, arrV_size]; omega)
    (fun vm₁ _ i hi => by
      rw [mm_i_clamp h3 R3] at hi
      have e : (arrV (cA 0) len (fun j => mm_v bs ro (mm_ek 0, M c j))).slots.getD ((mm_i sp).toNatClampNeg + i) .null = .int (mm_i (M c (sp.toNat + i))) := by
        rw [mm_i_clamp h1 R1, Array.getD_eq_getD_getElem?, arrV_read _ _ (by omega)]
        rfl
      rw [e]
      exact ⟨rfl, trivial⟩)
    (g := F0 m pc lsr (((0, nn) :: (0, dp) :: (2, (d : Int) + 1) :: (0, sp) :: (2, (c : Int) + 1) :: st).map (mm_v bs ro))) rfl (by rw [hml]; exact hL.1) (rest := st.map (mm_v bs ro)) (by simp only [List.map_cons, mm_v2]; rfl) (by rw [hb]; simpa using hd.1) (by omega) (by
      show 2 * 0 + _ + _ ≤ _
      rw [mm_wd_eq]
      have : nativeFrameWords "java/lang/System" "arraycopy" 5 = 7 := by decide +kernel
      omega)
  have e1 : copied (arrV (cA 0) len (fun j => mm_v bs ro (mm_ek 0, M c j))) (arrV (cA 0) len' (fun j => mm_v bs ro (mm_ek 0, M d j))) (mm_i sp) (mm_i dp) (mm_i nn) = arrV (cA 0) len' (fun j => mm_v bs ro (mm_ek 0, mm_cp M d (M c) sp.toNat dp.toNat nn.toNat d j)) := by
    have := va_copied (fun z : Int => mm_v bs ro (mm_ek 0, z)) (cA 0) (cA 0) (n0 := len) (n1 := len') (sp := sp.toNat) (dp := dp.toNat) (n := nn.toNat) (M c) (M d) (by omega)
    unfold copied
    rw [mm_i_clamp h1 R1, mm_i_clamp h2 R2, mm_i_clamp h3 R3]
    refine this.trans ?_
    congr 1
    funext b
    unfold va_cpy mm_cp
    by_cases hb : dp.toNat ≤ b ∧ b < dp.toNat + nn.toNat
    · rw [if_pos hb, if_pos ⟨rfl, hb⟩]
    · rw [if_neg hb, if_neg (fun z => hb z.2)]
  rw [e1] at X' step
  have hl : bs + d < H.size := (Array.getElem?_eq_some_iff.mp hb0).1
  have oq : ∀ (cl : Cell) (q : Nat), q ≠ bs + d → (H.setIfInBounds (bs + d) cl)[q]? = H[q]? := fun cl q hq => by simp [Array.getElem?_setIfInBounds, Ne.symm hq]
  obtain ⟨t, a1, b1⟩ := (fun hh => k p l e R s m args below meth cd D cA bs ro (H.setIfInBounds (bs + d) _) _ lsr Cx (hP.put (c := d) (by simp) (oq _) (fun a ha => by
      funext b
      unfold mm_cp
      rw [if_neg (fun z => ha z.1)]) (mm_ce.of_arr hsd (by simp [Array.getElem?_setIfInBounds, hl]; rfl))) ⟨by simp; exact hS.1, fun q g1 g2 => by
      rw [oq _ q (fun e => g2 (by rw [e]; exact Nat.le_add_right bs d))]
      exact hS.2.1 q g1 g2, fun q hq => by
      rcases List.mem_append.mp hq with h | h
      · exact hS.2.2 q h
      · obtain ⟨z, -, hz⟩ := List.mem_map.mp h
        rw [← hz]
        exact Nat.le_add_right bs d⟩ hL _ hh X') (by rw [← hTH]; rfl)
  exact ⟨t, step t a1, b1⟩
set_option maxHeartbeats 1000000 in
theorem mm_copyro {k0 : Nat} (hd : mm_D Y.2.1 pc q (.invokestatic idx)) (hq : pc + 3 = q) (hw : mm_LA Y.1.cls idx) (hfr : Nat.ble 1 Y.2.2.2.2.1 = true) (hlo : Nat.ble (mm_wd st + 18) Y.2.2.2.2.2.1 = true)
    (hrs : rs = -(k0 : Int)) (hk0 : 2 ≤ k0 ∧ k0 ≤ 7) (hrd : rd = (d : Int) + 1) (hdn : d < n) (hsd : mm_sh d = (1, len')) (h1 : 0 ≤ sp) (h2 : 0 ≤ dp) (h3 : 0 ≤ nn) (h4 : sp + nn ≤ 10) (h5 : dp + nn ≤ len')
    (k : mm_J X Y n0 n1 n q ls st (mm_cp M d (mm_rc X k0).2 sp.toNat dp.toNat nn.toNat) Φ) : mm_J X Y n0 n1 n pc ls ((0, nn) :: (0, dp) :: (2, rd) :: (0, sp) :: (2, rs) :: st) M Φ := by
  subst hq; subst hrs; subst hrd
  intro p l e R s m args below meth cd D cA bs ro H locs lsr Cx hP hS hL
  obtain ⟨hx, hb, -, hml, hown, hT, -, -, -, hRf, hRl, hRc, hRs, hK, hRo, -⟩ := id Cx
  have hf1 := Nat.le_of_ble_eq_true hfr
  have hf2 := Nat.le_of_ble_eq_true hlo
  have hl2 := (mm_shA d hsd).1
  obtain ⟨cs, g1, g2, g3, g4, g5, g6, g7⟩ := mm_roT hRo (k := k0) (by omega)
  have hro : (mm_rc X k0).1 = 10 := by
    unfold mm_rc
    split
    · omega
    · rfl
  rw [hro] at g4 g6
  have hb2 : ro k0 < s.heap.size := (Array.getElem?_eq_some_iff.mp g1).1
  have ha : H[ro k0]? = some cs := by rw [hS.2.1 _ hb2 g7]; exact g1
  have hb0 := (hP.2 d hdn).arr hsd
  intro T hTH X0
  have R1 : mm_R sp := by omega
  have R2 : mm_R dp := by omega
  have R3 : mm_R nn := by omega
  have N1 : ¬ mm_i sp < 0 := by rw [show (0 : Int32) = mm_i 0 from rfl, mm_i_lt R1 (by omega)]; omega
  have N2 : ¬ mm_i dp < 0 := by rw [show (0 : Int32) = mm_i 0 from rfl, mm_i_lt R2 (by omega)]; omega
  have N3 : ¬ mm_i nn < 0 := by rw [show (0 : Int32) = mm_i 0 from rfl, mm_i_lt R3 (by omega)]; omega
  obtain ⟨hst0, kk0, hkk0', cm0, hkk0⟩ := g2
  obtain ⟨-, k1, hk1, cm1, hkk1⟩ := (hK.2 0 _ rfl).1 len' (fun j => mm_v bs ro (mm_ek 0, M d j))
  obtain ⟨vm', X', step⟩ := X0.arraycopy hx hown (hT.at hw.1) (hT.at hw.2.1) (hT.at hw.2.2.1) (hT.at hw.2.2.2) (src := ro k0) (dst := bs + d) (cs := cs) (cd := arrV (cA 0) len' (fun j => mm_v bs ro (mm_ek 0, M d j))) (srcPos := mm_i sp) (destPos := mm_i dp) (n := mm_i nn) (by rw [hTH]; exact ha) (by rw [hTH]; exact hb0)
    (fun z h => by first | exact hst0 z h | (rw [h] at hst0; exact absurd hst0 (by simp [VmData.isStatics]))) (fun _ h => by cases h) g3 (fun h => by cases h) hkk0' hk1 hkk0 hkk1 (by simp [refKind]) N1 N2 N3
    (by rw [mm_i_to R1, mm_i_to R3]; omega)
    (by rw [mm_i_to R2, mm_i_to R3, arrV_size]; omega)
    (fun vm₁ _ i hi => by
      rw [mm_i_clamp h3 R3] at hi
      have e : cs.slots.getD ((mm_i sp).toNatClampNeg + i) .null = .int (mm_i ((mm_rc X k0).2 (sp.toNat + i))) := by
        rw [mm_i_clamp h1 R1, Array.getD_eq_getD_getElem?, g6 _ (by omega)]
        rfl
      rw [e]
      exact ⟨rfl, trivial⟩)
    (g := F0 m pc lsr (((0, nn) :: (0, dp) :: (2, (d : Int) + 1) :: (0, sp) :: (2, -(k0 : Int)) :: st).map (mm_v bs ro))) rfl (by rw [hml]; exact hL.1) (rest := st.map (mm_v bs ro)) (by simp only [List.map_cons, mm_v2, mm_v2n bs ro k0 (by omega)]; rfl) (by rw [hb]; simpa using hd.1) (by omega) (by
      show 2 * 0 + _ + _ ≤ _
      rw [mm_wd_eq]
      have : nativeFrameWords "java/lang/System" "arraycopy" 5 = 7 := by decide +kernel
      omega)
  have e1 : copied cs (arrV (cA 0) len' (fun j => mm_v bs ro (mm_ek 0, M d j))) (mm_i sp) (mm_i dp) (mm_i nn) = arrV (cA 0) len' (fun j => mm_v bs ro (mm_ek 0, mm_cp M d (mm_rc X k0).2 sp.toNat dp.toNat nn.toNat d j)) := by
    have := va_copied (fun z : Int => mm_v bs ro (mm_ek 0, z)) (cA 0) (cA 0) (n0 := 10) (n1 := len') (sp := sp.toNat) (dp := dp.toNat) (n := nn.toNat) (mm_rc X k0).2 (M d) (by omega)
    unfold copied
    rw [mm_i_clamp h1 R1, mm_i_clamp h2 R2, mm_i_clamp h3 R3]
    have es : cs.stretch sp.toNat nn.toNat = (arrV (cA 0) 10 (fun j => mm_v bs ro (mm_ek 0, (mm_rc X k0).2 j))).stretch sp.toNat nn.toNat := by
      unfold Cell.stretch
      apply List.map_congr_left
      intro i hi
      have hi' := List.mem_range.mp hi
      rw [Array.getD_eq_getD_getElem?, Array.getD_eq_getD_getElem?, arrV_read _ _ (by omega), g6 _ (by omega)]
      rfl
    rw [es]
    refine this.trans ?_
    congr 1
    funext b
    unfold va_cpy mm_cp
    by_cases hb : dp.toNat ≤ b ∧ b < dp.toNat + nn.toNat
    · rw [if_pos hb, if_pos ⟨rfl, hb⟩]
    · rw [if_neg hb, if_neg (fun z => hb z.2)]
  rw [e1] at X' step
  have hl : bs + d < H.size := (Array.getElem?_eq_some_iff.mp hb0).1
  have oq : ∀ (cl : Cell) (q : Nat), q ≠ bs + d → (H.setIfInBounds (bs + d) cl)[q]? = H[q]? := fun cl q hq => by simp [Array.getElem?_setIfInBounds, Ne.symm hq]
  obtain ⟨t, a1, b1⟩ := (fun hh => k p l e R s m args below meth cd D cA bs ro (H.setIfInBounds (bs + d) _) _ lsr Cx (hP.put (c := d) (by simp) (oq _) (fun a ha => by
      funext b
      unfold mm_cp
      rw [if_neg (fun z => ha z.1)]) (mm_ce.of_arr hsd (by simp [Array.getElem?_setIfInBounds, hl]; rfl))) ⟨by simp; exact hS.1, fun q g1 g2 => by
      rw [oq _ q (fun e => g2 (by rw [e]; exact Nat.le_add_right bs d))]
      exact hS.2.1 q g1 g2, fun q hq => by
      rcases List.mem_append.mp hq with h | h
      · exact hS.2.2 q h
      · obtain ⟨z, -, hz⟩ := List.mem_map.mp h
        rw [← hz]
        exact Nat.le_add_right bs d⟩ hL _ hh X') (by rw [← hTH]; rfl)
  exact ⟨t, step t a1, b1⟩
end
