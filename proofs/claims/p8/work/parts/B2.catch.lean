/-! ===== a throw that the caller catches ===== -/
/-- a table of one entry that covers the place, and whose class fits what is thrown: it is found, and its class is noted -/
theorem mm_find1 {Q : Handler → Pre} {E : CtlPost} {e : Env} {d : Bool} {acts : List Action} {t : State} {g : JFrame} {a : Addr} {mt : Method} {cd : Code} {xe : ExceptionTableEntry} {cT : ClassId} {cell : Cell}
    (hm : t.vm.method? g.method = some mt) (hc : mt.code = some cd) (htab : cd.exceptionTable.toList = [xe]) (hcov : (decide (xe.startPc ≤ g.pc) && decide (g.pc < xe.endPc)) = true) (h0 : xe.catchType ≠ 0)
    (hl : t.vm.ClassLinks e.platform g.method.cls xe.catchType cT) (hcell : t.heap[a]? = some cell) (hobj : ∀ k, cell.vm ≠ .statics k) (hk1 : ∃ k, t.vm.classes[cell.cls]? = some k) (hk2 : ∃ k, t.vm.classes[cT]? = some k) (hfit : t.vm.assignable cell.cls cT = true) :
    wp (findHandler g a) Q E e d acts t ↔ Q (.found xe.handlerPc) d acts (t.setVm (t.vm.noted g.method.cls xe.catchType (.cls cT))) := by
  have al : t.vm.Alike (t.vm.noted g.method.cls xe.catchType (.cls cT)) := (Vm.Alike.refl t.vm).noted _ _ _
  have f2 : (t.vm.noted g.method.cls xe.catchType (.cls cT)).assignable cell.cls cT = true := by rw [al.assignable]; exact hfit
  obtain ⟨u1, v1⟩ := hk1
  obtain ⟨u2, v2⟩ := hk2
  obtain ⟨w1, y1, -⟩ := al.2.2 _ _ v1
  obtain ⟨w2, y2, -⟩ := al.2.2 _ _ v2
  have gv := (resolveClass_links e.toSetting hl).op (op := VmOp.resolveClass g.method.cls xe.catchType) rfl
  rw [W.findHandler_eq hm hc, htab]
  simp [findHandler.go, hcov, h0, gv.1, gv.2, hcell, hobj, y1, y2, f2, VmOp.dirties, VmOp.acts]
/-- from what is thrown to the handler -/
theorem mm_catch1 {p : Program} {l : Launch} {e : Env} {R : Room} {s : State} {m : MethodId} {args : Array Value} {below : List Frame} {meth : Method} {c : Code} {T : State} {locs : List Loc} {cells slots : Nat} {own name : String} {g : JFrame} {a : Addr} {xe : ExceptionTableEntry} {cT : ClassId} {cell : Cell}
    (X : Stand p l e R s m args below meth c T locs cells slots) (hg : g.method = m) (hown : s.vm.findClass own = some m.cls) (htab : c.exceptionTable.toList = [xe]) (hcov : (decide (xe.startPc ≤ g.pc) && decide (g.pc < xe.endPc)) = true) (h0 : xe.catchType ≠ 0)
    (hlink : (Cond.classLink own xe.catchType name).before args s = true) (hcT : s.vm.findClass name = some cT) (hcell : T.heap[a]? = some cell) (hobj : ∀ k, cell.vm ≠ .statics k) (hfit : s.vm.assignable cell.cls cT = true) (hin : ∃ k, s.vm.classes[cell.cls]? = some k) :
    ∃ vm', Stand p l e R s m args below meth c (T.setVm vm') locs cells slots ∧ ∀ target, Steps p.tables e below ((T.setVm vm').setTop { g with pc := xe.handlerPc, stack := [.ref a] }) target → Steps p.tables e below ((T.setTop g).pushFrame (.throwing a)) target := by
  subst hg
  obtain ⟨c1, e1, cl⟩ := Cond.classLink_spec hown hlink e.platform (by rw [X.admits.platform])
  have e2 : cT = c1 := Option.some.inj (hcT.symm.trans e1)
  subst e2
  obtain ⟨dk, _, _, kt, hd, _, _, _, _, hkt, _, hopen⟩ := cl.here
  obtain ⟨k2, hk2, -⟩ := X.warmed.alike.2.2 _ _ hkt
  obtain ⟨k0, hk0⟩ := hin
  obtain ⟨k1, hk1, -⟩ := X.warmed.alike.2.2 _ _ hk0
  refine ⟨T.vm.noted g.method.cls xe.catchType (.cls cT), X.noted (X.warmed.noted hd hopen (State.rightAt_cls cl)), fun target go => ?_⟩
  have at0 := X.here
  obtain ⟨g0, hfr⟩ := X.frames_eq
  refine Steps.head (at0.throwing a).1 (at0.throwing a).2 ?_
  have hfT : T.vm.assignable cell.cls cT = true := by rw [X.warmed.alike.assignable]; exact hfit
  have hfd : ∀ (Q : Handler → Pre) (E : CtlPost) (d : Bool) (acts : List Action), wp (findHandler g a) Q E e d acts ((T.setTop g).pushFrame (.throwing a)) ↔ Q (.found xe.handlerPc) d acts (((T.setTop g).pushFrame (.throwing a)).setVm (T.vm.noted g.method.cls xe.catchType (.cls cT))) :=
    fun Q E d acts => mm_find1 (t := (T.setTop g).pushFrame (.throwing a)) X.method' X.code htab hcov h0 (X.warmed.classLinks cl) hcell hobj ⟨k1, hk1⟩ ⟨k2, hk2⟩ hfT
  have hst : (stepThrowing e ((T.setTop g).pushFrame (.throwing a)) a (.java g :: below)).Is ((((T.setTop g).pushFrame (.throwing a)).setVm (T.vm.noted g.method.cls xe.catchType (.cls cT))).setFrames (.java { g with pc := xe.handlerPc, stack := [.ref a] } :: below)) [] := by
    simp only [stepThrowing, searchFrame, vmDo]
    generalize hr : Sem.go _ e false [] ((T.setTop g).pushFrame (.throwing a)) = res
    obtain ⟨as, rfl, ha⟩ := Sem.eq_ok_of hr (a := Handler.found xe.handlerPc) (s' := ((T.setTop g).pushFrame (.throwing a)).setVm (T.vm.noted g.method.cls xe.catchType (.cls cT))) (acts' := [])
      (by simp [hfd])
    exact ⟨rfl, ha⟩
  have hF : ((T.setTop g).pushFrame (.throwing a)).frames = .throwing a :: .java g :: below := by rw [frames_entered at0.top, hfr]; rfl
  rw [stepThread_throwing hF, hst.1]
  have hfr' : (T.setVm (T.vm.noted g.method.cls xe.catchType (.cls cT))).frames = .java g0 :: below := hfr
  rw [State.setTop_of_frames _ hfr'] at go
  have hsv : ∀ (F G : List Frame) (v : Vm), ((T.setFrames F).setVm v).setFrames G = (T.setVm v).setFrames G := by
    intro F G v
    show ((T.setVm v).setFrames F).setFrames G = _
    rw [State.setFrames_setFrames]
  rw [State.setTop_of_frames _ hfr, State.pushFrame, State.setFrames_setFrames, hsv]
  exact go
/-- what a call within a try leads to: what is thrown is caught at hp -/
def mm_Kh (X : mm_X) (Y : mm_Y) (n0 n1 n' q hp : Nat) (ls st : List mm_V) (Φ : mm_V → mm_M → Prop) (r : mm_V) (M' : mm_M) : Prop := match r.1 with
  | 0 => mm_J X Y n0 n1 n' q ls (r :: st) M' Φ
  | 1 => mm_J X Y n0 n1 n' q ls (r :: st) M' Φ
  | 2 => mm_J X Y n0 n1 n' q ls (r :: st) M' Φ
  | 3 => mm_J X Y n0 n1 n' q ls st M' Φ
  | 4 => r.2 = 185 ∧ mm_J X Y n0 n1 n' hp ls [(2, 185)] M' Φ
  | _ => False
set_option maxHeartbeats 1000000 in
theorem mm_callh {X : mm_X} {Y Y' : mm_Y} {n0 n1 n n' pc q sp ep hp ct : Nat} {ls st as : List mm_V} {M : mm_M} {Φ Ψ : mm_V → mm_M → Prop}
    {p : Program} {l : Launch} {e : Env} {R : Room} {s : State} {m : MethodId} {args : Array Value} {below : List Frame} {meth : Method} {c : Code} {D : va_G} {cA : Nat → ClassId} {bs : Nat} {ro : Nat → Nat} {H : Heap} {locs : List Loc} {lsr : Array Slot} {rst : List Value} {ig : Instr}
    (Cx : mm_Cx X Y n0 n1 p R s m args meth c D cA bs ro) (hP : mm_Wd D cA bs ro n M H) (hS : va_S (fun q => bs ≤ q) s.heap H locs) (hL : mm_L bs ro Y.2.2.1 lsr ls)
    (hn : mm_le n0 n n' n1) (hpl : plainName Y'.1.cls = true) (h9 : ∀ v ∈ as, v.1 ≠ 9) (hpad : (mm_dbl as).length ≤ Y'.2.2.1) (hcw : (mm_cw Y').before args s = true) (hgw : goodWord (mm_cw Y') = true)
    (hfr : Y'.2.2.2.2.1 + 1 ≤ Y.2.2.2.2.1) (hlo : mm_wd st + (Y'.2.2.1 + 11) + Y'.2.2.2.2.2.1 ≤ Y.2.2.2.2.2.1)
    (hd : decode Y.2.1 pc = .ok (ig, 3)) (hq : pc + 3 = q)
    (hlk : ∀ T : State, T.heap = H → Stand p l e R s m args below meth c T locs (n - n0) (mm_sz n - mm_sz n0) → ∃ vm₁ mk, Stand p l e R s m args below meth c (T.setVm vm₁) locs (n - n0) (mm_sz n - mm_sz n0) ∧ s.methodNamed? Y'.1 = some mk ∧
      ∀ target, (∀ acts, Steps p.tables e below (doInvoke e ((T.setVm vm₁).setTop (F0 m pc lsr (st.map (mm_v bs ro)))) acts mk (as.map (mm_v bs ro)).toArray).1 target) → Steps p.tables e below (T.setTop (F0 m pc lsr rst)) target)
    (hC : mm_C X Y' n n' as M Ψ) (hh : Y.2.2.2.2.2.2 = [(sp, ep, hp, ct)]) (hsp : sp ≤ pc ∧ pc < ep ∧ ct ≠ 0) (hcl : mm_Wk (.classLink Y.1.cls ct RX12)) (h184 : 184 < n') (hk : ∀ r M', Ψ r M' → mm_Kh X Y n0 n1 n' q hp ls st Φ r M') :
    W p l e R s m args below meth c H locs (n - n0) (mm_sz n - mm_sz n0) (mm_E D cA bs ro n0 n1 Φ below s) (F0 m pc lsr rst) := by
  subst hq
  intro T hT X0
  obtain ⟨vm₁, mk, X1, hnamed, hst⟩ := hlk T hT X0
  obtain ⟨hx, hb, hrt, hml, hown, hTb, hlocks, hname, hHd, hRf, hRl, hRc, hRs, hK, hRo, hsz⟩ := id Cx
  obtain ⟨mk', methk, ck, g1, g2, g3, g4, g5, g6, g7, g8, g9⟩ := mm_cw_spec hcw
  cases hnamed.symm.trans g1
  have hW1 := X1.warmed
  have hmk : (T.setVm vm₁).vm.method? mk = some methk := by
    have := hW1.alike.method? mk
    rw [this]; exact g2
  have hplk : (T.setVm vm₁).plainMethod mk := by
    refine State.plainMethod.of_name ?_
    intro k hk1
    obtain ⟨k', hk', hn'⟩ := className_of_methodNamed (X1.named hnamed)
    cases hk1.symm.trans hk'
    rw [hn']; exact hpl
  have hdg : decode c.code (F0 m pc lsr (st.map (mm_v bs ro))).pc = .ok (ig, 3) := by rw [hb]; exact hd
  have hsize : (F0 m pc lsr (st.map (mm_v bs ro))).locals.size = c.maxLocals := by rw [hml]; exact hL.1
  obtain ⟨q1, q2, q3, q4, q5, q6⟩ := id hn
  obtain ⟨XI, hin⟩ := X1.into (g := F0 m pc lsr (st.map (mm_v bs ro))) rfl hsize hdg (as.map (mm_v bs ro)).toArray (R' := mm_rm Y' n n') hmk g3 g8 hplk
    (by show Y'.2.2.2.2.1 + 1 ≤ R.frames; omega) (by
      show 2 * 0 + ((st.map (mm_v bs ro)).map fun v => v.category).sum + (ck.maxLocals + 11) + Y'.2.2.2.2.2.1 ≤ R.locals
      rw [mm_wd_eq, g5]; omega) (by show n - n0 + (n' - n) ≤ R.cells; omega) (by show mm_sz n - mm_sz n0 + (mm_sz n' - mm_sz n) ≤ R.slots; omega)
  rw [g5] at XI
  have hin : ∀ acts, (doInvoke e ((T.setVm vm₁).setTop (F0 m pc lsr (st.map (mm_v bs ro)))) acts mk (as.map (mm_v bs ro)).toArray).1 = _ := fun acts => by rw [hin acts, g5]
  have hWc : s.WarmedH ((T.setVm vm₁).calling (F0 m pc lsr (st.map (mm_v bs ro))) mk (as.map (mm_v bs ro)).toArray).vm := hW1
  have hhc : ((T.setVm vm₁).calling (F0 m pc lsr (st.map (mm_v bs ro))) mk (as.map (mm_v bs ro)).toArray).heap = H := hT
  have hfn : ((T.setVm vm₁).calling (F0 m pc lsr (st.map (mm_v bs ro))) mk (as.map (mm_v bs ro)).toArray).methodNamed? Y'.1 = some mk := X1.named hnamed
  have CxI : mm_Cx X Y' n n' p (mm_rm Y' n n') ((T.setVm vm₁).calling (F0 m pc lsr (st.map (mm_v bs ro))) mk (as.map (mm_v bs ro)).toArray) mk (as.map (mm_v bs ro)).toArray methk ck D cA bs ro := by
    refine ⟨hx, g4, g7, g5, findClass_of_methodNamed hfn, hTb.on hWc, g8, (name_of_methodNamed hfn hmk).1, g6, Nat.le_refl _, Nat.le_refl _, Nat.le_refl _, Nat.le_refl _, va_K.moved hWc.alike hK, hRo.on hWc (fun a h1 h2 => ?_), ?_⟩
    · rw [hhc]; exact hS.2.1 a h1 h2
    · rw [hhc]; exact hP.1
  have key := hC p l e (mm_rm Y' n n') _ mk _ (.java (F0 m pc lsr (st.map (mm_v bs ro))) :: below) methk ck D cA bs ro H [] _ CxI hP (by rw [hhc]; exact va_S.rf) (mm_entry bs ro as h9 hpad)
  rw [List.map_nil, ← lg_entry_eq, Nat.sub_self, Nat.sub_self] at key
  obtain ⟨t, ht, o, r, M', L, k1, k2, k3, k4, k5, k6, k7, k8, k9⟩ := (fun hh => key _ hh XI) hT
  have hsteps : Steps p.tables e below (T.setTop (F0 m pc lsr rst)) t := hst t (fun acts => by
    rw [hin acts]
    exact mm_weaken (mid := [.java (F0 m pc lsr (st.map (mm_v bs ro)))]) ht)
  have hS' : ∀ T' : State, T'.heap = t.heap → va_S (fun q => bs ≤ q) s.heap T'.heap (locs ++ L) := by
    intro T' e'
    have hF : va_F (fun q => bs ≤ q) ((T.setVm vm₁).calling (F0 m pc lsr (st.map (mm_v bs ro))) mk (as.map (mm_v bs ro)).toArray) t := k6
    obtain ⟨f1, f2⟩ := hF
    rw [hhc] at f1 f2
    refine ⟨by rw [e']; exact Nat.le_trans hS.1 f1, fun a h1 h2 => ?_, fun a ha => ?_⟩
    · rw [e', f2 a (Nat.lt_of_lt_of_le h1 hS.1) h2]
      exact hS.2.1 a h1 h2
    · rcases List.mem_append.mp ha with h | h
      · exact hS.2.2 a h
      · exact k9 a h
  have hcnt : n - n0 + (n' - n) = n' - n0 := by omega
  have hcns : mm_sz n - mm_sz n0 + (mm_sz n' - mm_sz n) = mm_sz n' - mm_sz n0 := by omega
  have hkk := hk r M' k4
  obtain ⟨tag, x⟩ := r
  have ret : ∀ (v : Option Value) (st' : List mm_V), o = .returned v → v.toList ++ st.map (mm_v bs ro) = st'.map (mm_v bs ro) → mm_J X Y n0 n1 n' (pc + 3) ls st' M' Φ → ∃ t, Steps p.tables e below (T.setTop (F0 m pc lsr rst)) t ∧ mm_E D cA bs ro n0 n1 Φ below s t := by
    intro v st' ho hv hJ
    subst ho
    obtain ⟨T', X', -, -, hte⟩ := X1.outOf rfl hdg k2 k7 k8
    have hheap : T'.heap = t.heap := by rw [hte]; rfl
    rw [hcnt, hcns] at X'
    have hPT : mm_Wd D cA bs ro n' M' T'.heap := by rw [hheap]; exact k5
    obtain ⟨t2, a1, b1⟩ := hJ p l e R s m args below meth c D cA bs ro T'.heap (locs ++ L) lsr Cx hPT (hS' T' hheap) hL T' rfl X'
    refine ⟨t2, hsteps.trans ?_, b1⟩
    rw [hte]
    rw [← hv] at a1
    exact a1
  match tag, hkk, k3 with
  | 0, hkk, k3 => exact ret _ ((0, x) :: st) k3 rfl hkk
  | 1, hkk, k3 => exact ret _ ((1, x) :: st) k3 rfl hkk
  | 2, hkk, k3 => exact ret _ ((2, x) :: st) k3 rfl hkk
  | 3, hkk, k3 => exact ret _ st k3 rfl hkk
  | 4, hkk, k3 =>
    obtain ⟨h1, h3⟩ := hkk
    have k3 : o = .threw (mm_ad bs ro x) := k3
    subst k3
    have h1 : x = 185 := h1
    subst h1
    obtain ⟨T', X', -, -, hte⟩ := X1.outOfThrown rfl k2 k7 k8
    have hheap : T'.heap = t.heap := by rw [hte]; rfl
    rw [hcnt, hcns] at X'
    have hPT : mm_Wd D cA bs ro n' M' T'.heap := by rw [hheap]; exact k5
    obtain ⟨cell, q1, q2, q3, q4⟩ := (hPT.2 184 h184).obj (ci := 12) rfl
    obtain ⟨hS1, hfc, kC, hkC, hkind⟩ := hK.1 12 (RX12, TX12, 6) rfl
    obtain ⟨xe, hxe, hxf⟩ : ∃ xe, c.exceptionTable.toList = [xe] ∧ (xe.startPc, xe.endPc, xe.handlerPc, xe.catchType) = (sp, ep, hp, ct) := by
      have h := hHd
      unfold mm_Hd at h
      rw [hh] at h
      match hc : c.exceptionTable.toList, h with
      | [xe], h => exact ⟨xe, rfl, by simpa using h⟩
    simp only [Prod.mk.injEq] at hxf
    obtain ⟨x1, x2, x3, x4⟩ := hxf
    have hfit : s.vm.assignable cell.cls (D.1 12) = true := by
      rw [q2]
      show s.vm.assignableAux (255 + 1) _ _ = true
      rw [Vm.assignableAux]
      simp
    have hin : ∃ k, s.vm.classes[cell.cls]? = some k := ⟨kC, by rw [q2]; exact hkC⟩
    obtain ⟨vm', XV, st4⟩ := mm_catch1 (a := mm_ad bs ro 185) (g := F0 m pc lsr (st.map (mm_v bs ro))) X' rfl hown hxe
      (by show (decide (xe.startPc ≤ pc) && decide (pc < xe.endPc)) = true; rw [x1, x2, decide_eq_true hsp.1, decide_eq_true hsp.2.1]; rfl) (by rw [x4]; exact hsp.2.2) (name := RX12) (by rw [x4]; exact hTb.at hcl) (cT := D.1 12) (cell := cell) hfc q1 (by intro k; rw [q3]; exact fun z => by cases z) hfit hin
    have hJ : mm_J X Y n0 n1 n' hp ls [(2, 185)] M' Φ := h3
    obtain ⟨t2, a1, b1⟩ := hJ p l e R s m args below meth c D cA bs ro T'.heap (locs ++ L) lsr Cx hPT (hS' T' hheap) hL (T'.setVm vm') rfl XV
    refine ⟨t2, hsteps.trans ?_, b1⟩
    rw [hte]
    refine st4 t2 ?_
    rw [x3]
    exact a1
section
variable {X : mm_X} {Y Y' : mm_Y} {n0 n1 n n' pc q ci c idx na sp ep hp ct : Nat} {ls st stk as : List mm_V} {M : mm_M} {Φ Ψ : mm_V → mm_M → Prop} {r : Int}
theorem mm_callVh (hd : mm_D Y.2.1 pc q (.invokevirtual idx)) (hq : pc + 3 = q) (hw : mm_LV Y.1.cls idx Y' ci na) (hr : r = (c : Int) + 1) (hc : c < n) (hs : mm_sh c = (0, ci)) (hna : as.length = na) (hst : stk = as.reverse ++ (2, r) :: st)
    (hn : mm_le n0 n n' n1) (h9 : ∀ v ∈ as, v.1 ≠ 9) (hpad : (mm_dbl ((2, r) :: as)).length ≤ Y'.2.2.1) (hfr : Y'.2.2.2.2.1 + 1 ≤ Y.2.2.2.2.1) (hlo : mm_wd st + (Y'.2.2.1 + 11) + Y'.2.2.2.2.2.1 ≤ Y.2.2.2.2.2.1)
    (hC : mm_C X Y' n n' ((2, r) :: as) M Ψ) (hh : Y.2.2.2.2.2.2 = [(sp, ep, hp, ct)]) (hsp : sp ≤ pc ∧ pc < ep ∧ ct ≠ 0) (hcl : mm_Wk (.classLink Y.1.cls ct RX12)) (h184 : 184 < n') (hk : ∀ r M', Ψ r M' → mm_Kh X Y n0 n1 n' q hp ls st Φ r M') : mm_J X Y n0 n1 n pc ls stk M Φ := by
  subst hst
  intro p l e R s m args below meth cd D cA bs ro H locs lsr Cx hP hS hL
  obtain ⟨hx, hb, -, hml, hown, hT, -, -, -, -, -, -, -, hK, hRo, -⟩ := id Cx
  obtain ⟨⟨w1, w2, w3, w4, w5⟩, w6, C, T0, N, w7, w8⟩ := hw
  have h9' : ∀ v ∈ (2, r) :: as, v.1 ≠ 9 := by
    intro v hv
    rcases List.mem_cons.mp hv with rfl | hv
    · show (2 : Nat) ≠ 9
      decide
    · exact h9 v hv
  have hd3 : decode Y.2.1 pc = .ok (.invokevirtual idx, 3) := by
    have := hd.1
    rw [← hq] at this
    simpa using this
  refine mm_callh (ig := .invokevirtual idx) Cx hP hS hL hn w3 h9' hpad (hT.at w2) w2.2 hfr hlo hd3 hq ?_ hC hh hsp hcl h184 hk
  intro T hTH X0
  obtain ⟨cell, q1, q2, q3, q4⟩ := (hP.2 c hc).obj hs
  obtain ⟨hS1, hfc, kC, hkC, hkind⟩ := hK.1 ci _ w7
  have hcls : s.vm.findClass C = some cell.cls := by rw [q2]; exact hfc
  obtain ⟨mk, methM, hnamed, hmethM, hstM, habM⟩ := Cond.instanceMethod_spec (hT.at w6)
  obtain ⟨mk2, methM', cM, hn2, hmethM', -, -, -, -, -, -, hsigM⟩ := mm_cw_spec (hT.at w2)
  cases hnamed.symm.trans hn2
  cases hmethM.symm.trans hmethM'
  obtain ⟨c2, r2, m2, z1, z2, z3, z4, kP, hkP, hkPi⟩ := Cond.selects_spec (hT.at w8)
  cases hcls.symm.trans z1
  cases (State.methodFound?_of_named hnamed w4).symm.trans z2
  cases hnamed.symm.trans z3
  have hselP : selectMethod e.platform s.vm cell.cls mk = .method mk := by rw [Launch.admits_selectMethod X0.admits]; exact z4
  obtain ⟨vm₁, X₁, hstep₁⟩ := X0.invokevirtual hx hown (hT.at w1) hnamed hmethM hstM hkP hkPi w4 (a := bs + c) (cell := cell) (by rw [hTH]; exact q1)
    (fun z h => by rw [q3] at h; cases h) hselP hmethM habM hkP hkPi (g := F0 m pc lsr ((as.reverse ++ (2, r) :: st).map (mm_v bs ro))) rfl (argsL := as.map (mm_v bs ro)) (rest := st.map (mm_v bs ro)) (by rw [List.length_map, hna]; exact mm_lenOf w5 hsigM)
    (by rw [List.map_append, List.map_cons, List.map_reverse, hr, mm_v2]) (by rw [hb]; exact hd3)
  refine ⟨vm₁, mk, X₁, hnamed, fun target h => hstep₁ target (fun acts => ?_)⟩
  have := h acts
  rw [List.map_cons, hr, mm_v2] at this
  exact this
theorem mm_V0h (hd : mm_D Y.2.1 pc q (.invokevirtual idx)) (hq : pc + 3 = q) (hw : mm_LV Y.1.cls idx Y' ci 0) (hr : r = (c : Int) + 1) (hc : c < n) (hs : mm_sh c = (0, ci)) (hpad : Nat.ble (mm_dbl [(2, r)]).length Y'.2.2.1 = true) (hfr : Nat.ble (Y'.2.2.2.2.1 + 1) Y.2.2.2.2.1 = true) (hlo : Nat.ble (mm_wd st + (Y'.2.2.1 + 11) + Y'.2.2.2.2.2.1) Y.2.2.2.2.2.1 = true)
    (hh : Y.2.2.2.2.2.2 = [(sp, ep, hp, ct)]) (hsp : sp ≤ pc ∧ pc < ep ∧ ct ≠ 0) (hcl : mm_Wk (.classLink Y.1.cls ct RX12)) (h184 : 184 < n) (hC : mm_C X Y' n n [(2, r)] M Ψ) (k : ∀ r M1, Ψ r M1 → mm_Kh X Y n n n q hp ls st Φ r M1) : mm_J X Y n n n pc ls ((2, r) :: st) M Φ :=
  mm_callVh hd hq hw hr hc hs (as := []) rfl rfl (mm_le_rf n) (by simp) (Nat.le_of_ble_eq_true hpad) (Nat.le_of_ble_eq_true hfr) (Nat.le_of_ble_eq_true hlo) hC hh hsp hcl h184 k
end
theorem cl_X13_237 : mm_Wk (.classLink RX13 237 RX12) := mm_w1 5 118 rfl rfl

