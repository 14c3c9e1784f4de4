section
variable {X : mm_X} {Y Y' : mm_Y} {n0 n1 n n' pc q idx ci c i len na : Nat} {ls st stk as : List mm_V} {M : mm_M} {Φ Ψ : mm_V → mm_M → Prop} {x r : Int}
theorem mm_v2nf {bs : Nat} {ro : Nat → Nat} {ty : FieldType} (h : (∃ n, ty = .object n) ∨ ∃ t, ty = .array t) (x : Int) : narrow ty (mm_v bs ro (2, x)) = mm_v bs ro (2, x) ∧ fits ty (mm_v bs ro (2, x)) = true := by
  rcases mm_v2or bs ro x with e | ⟨a, e⟩ <;> rw [e] <;> rcases h with ⟨n, rfl⟩ | ⟨t, rfl⟩ <;> exact ⟨rfl, rfl⟩
/-- a reference into a final field, in a constructor -/
theorem mm_putr {ty : FieldType} (hd : mm_D Y.2.1 pc q (.putfield idx)) (hq : pc + 3 = q) (hf : mm_F Y.1.cls idx ci i true ty) (hty : (∃ n, ty = .object n) ∨ ∃ t, ty = .array t) (hin : Y.1.name = "<init>") (hcls : ∃ T N, vwCl[ci]? = some (Y.1.cls, T, N) ∧ ∀ j, j < N → (T j).1 = Y.1.cls) (hr : r = (c : Int) + 1) (hc : c < n) (hs : mm_sh c = (0, ci)) (hk : mm_fk ci i = 2)
    (k : mm_J X Y n0 n1 n q ls st (mm_up M c i x) Φ) : mm_J X Y n0 n1 n pc ls ((2, x) :: (2, r) :: st) M Φ := by
  subst hq; subst hr
  intro p l e R s m args below meth cd D cA bs ro H locs lsr Cx hP hS hL
  obtain ⟨hx, hb, -, -, hown, hT, -, hname, -, -, -, -, -, hK, -, -⟩ := id Cx
  obtain ⟨C, T, N, ty0, ⟨h1, h2, h3, h4, h5⟩, hi, hw, hfin, rfl⟩ := hf
  obtain ⟨T', N', hv, hdec⟩ := hcls
  have hv2 : (C, T, N) = (Y.1.cls, T', N') := Option.some.inj (h1.symm.trans hv)
  obtain ⟨rfl, rfl, rfl⟩ : C = Y.1.cls ∧ T = T' ∧ N = N' := by
    simp only [Prod.mk.injEq] at hv2; exact hv2
  obtain ⟨cell, q1, q2, q3, q4⟩ := (hP.2 c hc).obj hs
  obtain ⟨hS1, hfc, kC, hkC, hkind⟩ := hK.1 ci _ h1
  obtain ⟨cf, kf, fi, f, hfi, hsl⟩ := hS1 i hi
  have hts : ∀ w ∈ u_ws Y.1.cls T N, w.before args s = true := fun w hw' => hT.at (h3 w hw')
  have hap := va_apart (own := Y.1.cls) hts (fun _ h => h) ty0 h4 h5 hK h1
  have hlay := hts _ (u_in_lay hi)
  unfold u_lay at hlay
  rw [if_pos hfin] at hlay
  have hst := (u_facts hfc hkC (u_lays hts (fun _ h => h) hi) hfi).1
  have hcf : m.cls = cf := by
    obtain ⟨_, _, c', _, _, _, -, -, hf', -, -, -, hown2, -⟩ := Cond.laysFinal_spec hlay
    have e1 : c' = cf := by have := hfi.symm.trans hf'; simp at this; exact this.1.symm
    rw [hdec i hi] at hown2
    rw [← e1]; exact Option.some.inj (hown.symm.trans hown2)
  obtain ⟨hn1, hn2⟩ := mm_v2nf (bs := bs) (ro := ro) hty x
  have h6 := u_fits hfc hkC hkind (Or.inr hlay) hfi (h4 i hi) hn1 hn2
  have hi' : i < mm_nf ci := by rw [h2]; exact hi
  rw [List.map_cons, List.map_cons, mm_v2]
  refine W.putFinK hx hb hown (hT.at hw) hfi hst hcf (hname.trans hin) (by rw [q2]; exact h6) q1 q3 (by rw [hsl]; exact k2_hasslot (q4 i hi')) rfl rfl (by simpa using hd.1) fun H' e1 e2 e3 => ?_
  rw [hsl] at e1 ⊢
  refine k p l e R s m args below meth cd D cA bs ro H' _ lsr Cx (hP.put e2 e3 (fun a ha => mm_up_row ha) (mm_ce.of_obj hs ⟨_, e1, q2, q3, fun a ha => ?_⟩)) (hS.put e2 e3 (Nat.le_add_right bs c)) hL
  have := t_set q4 (by rw [h2]; exact hap) hi' (mm_v bs ro (2, x)) a ha
  rw [this]
  congr 1
  unfold updV
  by_cases ea : a = i
  · subst ea; rw [if_pos rfl]; show _ = mm_v bs ro (_, mm_up M c a x c a); rw [mm_up_s, hk]
  · rw [if_neg ea]; show _ = mm_v bs ro (_, mm_up M c i x c a); rw [mm_up_i ea]
/-- Object's constructor -/
theorem mm_oinit (hd : mm_D Y.2.1 pc q (.invokespecial idx)) (hq : pc + 3 = q) (hw1 : mm_Wk (.methodLink Y.1.cls idx Lib.objectInit)) (hw2 : mm_Wk (.instanceMethod Lib.objectInit)) (hw3 : mm_Wk (.code Lib.objectInit ⟨#[0xb1]⟩ 1 none)) (hr : r = (c : Int) + 1) (hfr : Nat.ble 1 Y.2.2.2.2.1 = true) (hlo : Nat.ble (mm_wd st + 12) Y.2.2.2.2.2.1 = true)
    (k : mm_J X Y n0 n1 n q ls st M Φ) : mm_J X Y n0 n1 n pc ls ((2, r) :: st) M Φ := by
  subst hq; subst hr
  intro p l e R s m args below meth cd D cA bs ro H locs lsr Cx hP hS hL
  obtain ⟨hx, hb, -, hml, hown, hT, -, hname, -, hRf, hRl, -, -, hK, -, -⟩ := id Cx
  have f1 := Nat.le_of_ble_eq_true hfr
  have f2 := Nat.le_of_ble_eq_true hlo
  rw [List.map_cons, mm_v2]
  exact W.objInit hx hb hown (hT.at hw1) (hT.at hw2) (hT.at hw3) rfl (by rw [hml]; exact hL.1) rfl (by simpa using hd.1) (by omega) (by show 2 * 0 + _ + 12 ≤ _; rw [mm_wd_eq]; omega) (k p l e R s m args below meth cd D cA bs ro H locs lsr Cx hP hS hL)
/-- a constructor of the system -/
def mm_LI (own : String) (idx : Nat) (Y' : mm_Y) (na : Nat) : Prop := mm_Lc own idx Y' na ∧ mm_Wk (.instanceMethod Y'.1) ∧ Y'.1.name = "<init>" ∧ Y'.2.2.2.1 = none ∧ Y'.2.2.2.2.2.2 = []
theorem mm_callI (hd : mm_D Y.2.1 pc q (.invokespecial idx)) (hq : pc + 3 = q) (hw : mm_LI Y.1.cls idx Y' na) (hr : r = (c : Int) + 1) (hna : as.length = na) (hst : stk = as.reverse ++ (2, r) :: st)
    (hn : mm_le n0 n n' n1) (h9 : ∀ v ∈ as, v.1 ≠ 9) (hpad : (mm_dbl ((2, r) :: as)).length ≤ Y'.2.2.1) (hfr : Y'.2.2.2.2.1 + 1 ≤ Y.2.2.2.2.1) (hlo : mm_wd st + (Y'.2.2.1 + 11) + Y'.2.2.2.2.2.1 ≤ Y.2.2.2.2.2.1)
    (hC : mm_C X Y' n n' ((2, r) :: as) M Ψ) (hk : ∀ r M', Ψ r M' → mm_Kc X Y n0 n1 n' q ls st Φ r M') : mm_J X Y n0 n1 n pc ls stk M Φ := by
  subst hst
  intro p l e R s m args below meth cd D cA bs ro H locs lsr Cx hP hS hL
  obtain ⟨hx, hb, -, hml, hown, hT, -, -, -, -, -, -, -, hK, hRo, -⟩ := id Cx
  obtain ⟨⟨w1, w2, w3, w4, w5⟩, w6, w7, w8, w9⟩ := hw
  have h9' : ∀ v ∈ (2, r) :: as, v.1 ≠ 9 := by
    intro v hv
    rcases List.mem_cons.mp hv with rfl | hv
    · show (2 : Nat) ≠ 9
      decide
    · exact h9 v hv
  have hd3 : decode Y.2.1 pc = .ok (.invokespecial idx, 3) := by
    have := hd.1
    rw [← hq] at this
    simpa using this
  have hcode : (Jvm.Cond.code Y'.1 Y'.2.1 Y'.2.2.1 none).before args s = true := by
    have := hT.at w2
    unfold mm_cw at this
    rw [w9, w8] at this
    exact this
  refine mm_callx (ig := .invokespecial idx) Cx hP hS hL hn w3 h9' hpad (hT.at w2) w2.2 hfr hlo hd3 hq ?_ hC hk
  intro T hTH X0
  have hpl : e.platform.magicAccessors = ({} : Platform).magicAccessors := by rw [X0.admits.platform]
  obtain ⟨mk, methM, cM, kP, vm₁, hnamed, hmethM, hcodeM, -, hlocalsM, -, hkP, -, hW₁, hstep₁⟩ := Steps.initColdArgs (tb := p.tables) (e := e) X0.here hx X0.warmed hpl hown w7 w4 (hT.at w1) (hT.at w6) hcode (f := F0 m pc lsr ((as.reverse ++ (2, r) :: st).map (mm_v bs ro))) rfl (a := bs + c) (argsL := as.map (mm_v bs ro)) (rest := st.map (mm_v bs ro)) (fun sig h => by rw [List.length_map, hna]; exact mm_lenOf w5 h)
    (by rw [List.map_append, List.map_cons, List.map_reverse, hr, mm_v2]) (by rw [hb]; exact hd3)
  refine ⟨vm₁, mk, X0.noted hW₁, hnamed, fun target h => hstep₁ target (fun acts => ?_)⟩
  have := h acts
  rw [List.map_cons, hr, mm_v2] at this
  exact this
end
