/-! ===== a constructor that the nest calls ===== -/
/-- a private constructor of another class of the nest -/
def mm_LIn (own : String) (idx : Nat) (Y' : mm_Y) (na : Nat) : Prop := ((∃ host, (own, idx, Y'.1, host) ∈ mm_nw) ∧ mm_Wk (mm_cw Y') ∧ plainName Y'.1.cls = true ∧ (Y'.1.cls ≠ "java/lang/invoke/MethodHandle" ∧ Y'.1.cls ≠ "java/lang/invoke/VarHandle") ∧ (parseMethodDescriptor Y'.1.desc).map (fun g => g.parameters.length) = some na) ∧ mm_Wk (.instanceMethod Y'.1) ∧ Y'.1.name = "<init>" ∧ Y'.2.2.2.1 = none ∧ Y'.2.2.2.2.2.2 = []
section
variable {X : mm_X} {Y Y' : mm_Y} {n0 n1 n n' pc q idx ci c i len na : Nat} {ls st stk as : List mm_V} {M : mm_M} {Φ Ψ : mm_V → mm_M → Prop} {x r : Int}
theorem mm_callIn (hd : mm_D Y.2.1 pc q (.invokespecial idx)) (hq : pc + 3 = q) (hw : mm_LIn Y.1.cls idx Y' na) (hr : r = (c : Int) + 1) (hna : as.length = na) (hst : stk = as.reverse ++ (2, r) :: st)
    (hn : mm_le n0 n n' n1) (h9 : ∀ v ∈ as, v.1 ≠ 9) (hpad : (mm_dbl ((2, r) :: as)).length ≤ Y'.2.2.1) (hfr : Y'.2.2.2.2.1 + 1 ≤ Y.2.2.2.2.1) (hlo : mm_wd st + (Y'.2.2.1 + 11) + Y'.2.2.2.2.2.1 ≤ Y.2.2.2.2.2.1)
    (hC : mm_C X Y' n n' ((2, r) :: as) M Ψ) (hk : ∀ r M', Ψ r M' → mm_Kc X Y n0 n1 n' q ls st Φ r M') : mm_J X Y n0 n1 n pc ls stk M Φ := by
  subst hst
  intro p l e R s m args below meth cd D cA bs ro H locs lsr Cx hP hS hL
  obtain ⟨hx, hb, -, hml, hown, hT, -, -, -, -, -, -, -, hK, hRo, -⟩ := id Cx
  obtain ⟨⟨⟨host, w1⟩, w2, w3, w4, w5⟩, w6, w7, w8, w9⟩ := hw
  have h9' : ∀ v ∈ (2, r) :: as, v.1 ≠ 9 := by
    intro v hv
    rcases List.mem_cons.mp hv with rfl | hv
    · show (2 : Nat) ≠ 9
      decide
    · exact h9 v hv
  have hd3 : decode Y.2.1 pc = .ok (.invokespecial idx, 3) := by
    have := hd.1
    rw [← hq] at this
    simpa using this
  have hcode : (Jvm.Cond.code Y'.1 Y'.2.1 Y'.2.2.1 none).before args s = true := by
    have := hT.at w2
    unfold mm_cw at this
    rw [w9, w8] at this
    exact this
  refine mm_callx (ig := .invokespecial idx) Cx hP hS hL hn w3 h9' hpad (hT.at w2) w2.2 hfr hlo hd3 hq ?_ hC hk
  intro T hTH X0
  have hpl : e.platform.magicAccessors = ({} : Platform).magicAccessors := by rw [X0.admits.platform]
  obtain ⟨mk, methM, cM, kP, vm₁, hnamed, hmethM, hcodeM, -, hlocalsM, -, hkP, -, hW₁, hstep₁⟩ := Steps.initColdArgsNest (tb := p.tables) (e := e) X0.here hx X0.warmed hpl hown w7 w4 (va_Nw.use rfl (hRo.2.2.2.2.1 _ w1)) (hT.at w6) hcode (f := F0 m pc lsr ((as.reverse ++ (2, r) :: st).map (mm_v bs ro))) rfl (a := bs + c) (argsL := as.map (mm_v bs ro)) (rest := st.map (mm_v bs ro)) (fun sig h => by rw [List.length_map, hna]; exact mm_lenOf w5 h)
    (by rw [List.map_append, List.map_cons, List.map_reverse, hr, mm_v2]) (by rw [hb]; exact hd3)
  refine ⟨vm₁, mk, X0.noted hW₁, hnamed, fun target h => hstep₁ target (fun acts => ?_)⟩
  have := h acts
  rw [List.map_cons, hr, mm_v2] at this
  exact this
theorem mm_I0n (hd : mm_D Y.2.1 pc q (.invokespecial idx)) (hq : pc + 3 = q) (hw : mm_LIn Y.1.cls idx Y' 0) (hr : r = (c : Int) + 1) (hn : mm_le n0 n n' n1) (hpad : Nat.ble (mm_dbl [(2, r)]).length Y'.2.2.1 = true) (hfr : Nat.ble (Y'.2.2.2.2.1 + 1) Y.2.2.2.2.1 = true) (hlo : Nat.ble (mm_wd st + (Y'.2.2.1 + 11) + Y'.2.2.2.2.2.1) Y.2.2.2.2.2.1 = true)
    (hC : mm_C X Y' n n' [(2, r)] M Ψ) (k : ∀ r M1, Ψ r M1 → mm_Kc X Y n0 n1 n' q ls st Φ r M1) : mm_J X Y n0 n1 n pc ls ((2, r) :: st) M Φ :=
  mm_callIn hd hq hw hr (as := []) rfl rfl hn (by simp) (Nat.le_of_ble_eq_true hpad) (Nat.le_of_ble_eq_true hfr) (Nat.le_of_ble_eq_true hlo) hC k
end
theorem ln_X11_9 : mm_LIn RX11 9 Y_X10_init 0 := ⟨⟨⟨"KitePower", by decide +kernel⟩, cw_X10_init, by decide +kernel, ⟨by decide +kernel, by decide +kernel⟩, by decide +kernel⟩, mm_w1 0 36 rfl rfl, rfl, rfl, rfl⟩

