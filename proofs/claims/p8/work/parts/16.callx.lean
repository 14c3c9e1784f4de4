/-- what a call may lead to: nothing, a value, or what was thrown (and no handler) -/
def mm_Kc (X : mm_X) (Y : mm_Y) (n0 n1 n' q : Nat) (ls st : List mm_V) (Φ : mm_V → mm_M → Prop) (r : mm_V) (M' : mm_M) : Prop := match r.1 with
  | 0 => mm_J X Y n0 n1 n' q ls (r :: st) M' Φ
  | 1 => mm_J X Y n0 n1 n' q ls (r :: st) M' Φ
  | 2 => mm_J X Y n0 n1 n' q ls (r :: st) M' Φ
  | 3 => mm_J X Y n0 n1 n' q ls st M' Φ
  | 4 => Y.2.2.2.2.2.2 = [] ∧ n' = n1 ∧ Φ r M'
  | _ => False
def mm_le (n0 n n' n1 : Nat) : Prop := n0 ≤ n ∧ n ≤ n' ∧ n' ≤ n1 ∧ mm_sz n0 ≤ mm_sz n ∧ mm_sz n ≤ mm_sz n' ∧ mm_sz n' ≤ mm_sz n1
theorem mm_le_rf (n : Nat) : mm_le n n n n := ⟨Nat.le_refl _, Nat.le_refl _, Nat.le_refl _, Nat.le_refl _, Nat.le_refl _, Nat.le_refl _⟩
/-- the room that a method of the system wants -/
def mm_rm (Y : mm_Y) (n0 n1 : Nat) : Room := { frames := Y.2.2.2.2.1, cells := n1 - n0, slots := mm_sz n1 - mm_sz n0, locals := Y.2.2.2.2.2.1 }
set_option maxHeartbeats 1000000 in
theorem mm_callx {X : mm_X} {Y Y' : mm_Y} {n0 n1 n n' pc q : Nat} {ls st as : List mm_V} {M : mm_M} {Φ Ψ : mm_V → mm_M → Prop}
    {p : Program} {l : Launch} {e : Env} {R : Room} {s : State} {m : MethodId} {args : Array Value} {below : List Frame} {meth : Method} {c : Code} {D : va_G} {cA : Nat → ClassId} {bs : Nat} {ro : Nat → Nat} {H : Heap} {locs : List Loc} {lsr : Array Slot} {rst : List Value} {ig : Instr}
    (Cx : mm_Cx X Y n0 n1 p R s m args meth c D cA bs ro) (hP : mm_Wd D cA bs ro n M H) (hS : va_S (fun q => bs ≤ q) s.heap H locs) (hL : mm_L bs ro Y.2.2.1 lsr ls)
    (hn : mm_le n0 n n' n1) (hpl : plainName Y'.1.cls = true) (h9 : ∀ v ∈ as, v.1 ≠ 9) (hpad : (mm_dbl as).length ≤ Y'.2.2.1) (hcw : (mm_cw Y').before args s = true) (hgw : goodWord (mm_cw Y') = true)
    (hfr : Y'.2.2.2.2.1 + 1 ≤ Y.2.2.2.2.1) (hlo : mm_wd st + (Y'.2.2.1 + 11) + Y'.2.2.2.2.2.1 ≤ Y.2.2.2.2.2.1)
    (hd : decode Y.2.1 pc = .ok (ig, 3)) (hq : pc + 3 = q)
    (hlk : ∀ T : State, T.heap = H → Stand p l e R s m args below meth c T locs (n - n0) (mm_sz n - mm_sz n0) → ∃ vm₁ mk, Stand p l e R s m args below meth c (T.setVm vm₁) locs (n - n0) (mm_sz n - mm_sz n0) ∧ s.methodNamed? Y'.1 = some mk ∧
      ∀ target, (∀ acts, Steps p.tables e below (doInvoke e ((T.setVm vm₁).setTop (F0 m pc lsr (st.map (mm_v bs ro)))) acts mk (as.map (mm_v bs ro)).toArray).1 target) → Steps p.tables e below (T.setTop (F0 m pc lsr rst)) target)
    (hC : mm_C X Y' n n' as M Ψ) (hk : ∀ r M', Ψ r M' → mm_Kc X Y n0 n1 n' q ls st Φ r M') :
    W p l e R s m args below meth c H locs (n - n0) (mm_sz n - mm_sz n0) (mm_E D cA bs ro n0 n1 Φ below s) (F0 m pc lsr rst) := by
  subst hq
  intro T hT X0
  obtain ⟨vm₁, mk, X1, hnamed, hst⟩ := hlk T hT X0
  obtain ⟨hx, hb, hrt, hml, hown, hTb, hlocks, hname, hHd, hRf, hRl, hRc, hRs, hK, hRo, hsz⟩ := id Cx
  obtain ⟨mk', methk, ck, g1, g2, g3, g4, g5, g6, g7, g8, g9⟩ := mm_cw_spec hcw
  cases hnamed.symm.trans g1
  have hW1 := X1.warmed
  have hmk : (T.setVm vm₁).vm.method? mk = some methk := by
    have := hW1.alike.method? mk
    rw [this]; exact g2
  have hplk : (T.setVm vm₁).plainMethod mk := by
    refine State.plainMethod.of_name ?_
    intro k hk1
    obtain ⟨k', hk', hn'⟩ := className_of_methodNamed (X1.named hnamed)
    cases hk1.symm.trans hk'
    rw [hn']; exact hpl
  have hdg : decode c.code (F0 m pc lsr (st.map (mm_v bs ro))).pc = .ok (ig, 3) := by rw [hb]; exact hd
  have hsize : (F0 m pc lsr (st.map (mm_v bs ro))).locals.size = c.maxLocals := by rw [hml]; exact hL.1
  obtain ⟨q1, q2, q3, q4, q5, q6⟩ := id hn
  obtain ⟨XI, hin⟩ := X1.into (g := F0 m pc lsr (st.map (mm_v bs ro))) rfl hsize hdg (as.map (mm_v bs ro)).toArray (R' := mm_rm Y' n n') hmk g3 g8 hplk
    (by show Y'.2.2.2.2.1 + 1 ≤ R.frames; omega) (by
      show 2 * 0 + ((st.map (mm_v bs ro)).map fun v => v.category).sum + (ck.maxLocals + 11) + Y'.2.2.2.2.2.1 ≤ R.locals
      rw [mm_wd_eq, g5]; omega) (by show n - n0 + (n' - n) ≤ R.cells; omega) (by show mm_sz n - mm_sz n0 + (mm_sz n' - mm_sz n) ≤ R.slots; omega)
  rw [g5] at XI
  have hin : ∀ acts, (doInvoke e ((T.setVm vm₁).setTop (F0 m pc lsr (st.map (mm_v bs ro)))) acts mk (as.map (mm_v bs ro)).toArray).1 = _ := fun acts => by rw [hin acts, g5]
  have hWc : s.WarmedH ((T.setVm vm₁).calling (F0 m pc lsr (st.map (mm_v bs ro))) mk (as.map (mm_v bs ro)).toArray).vm := hW1
  have hhc : ((T.setVm vm₁).calling (F0 m pc lsr (st.map (mm_v bs ro))) mk (as.map (mm_v bs ro)).toArray).heap = H := hT
  have hfn : ((T.setVm vm₁).calling (F0 m pc lsr (st.map (mm_v bs ro))) mk (as.map (mm_v bs ro)).toArray).methodNamed? Y'.1 = some mk := X1.named hnamed
  have CxI : mm_Cx X Y' n n' p (mm_rm Y' n n') ((T.setVm vm₁).calling (F0 m pc lsr (st.map (mm_v bs ro))) mk (as.map (mm_v bs ro)).toArray) mk (as.map (mm_v bs ro)).toArray methk ck D cA bs ro := by
    refine ⟨hx, g4, g7, g5, findClass_of_methodNamed hfn, hTb.on hWc, g8, (name_of_methodNamed hfn hmk).1, g6, Nat.le_refl _, Nat.le_refl _, Nat.le_refl _, Nat.le_refl _, va_K.moved hWc.alike hK, hRo.on hWc (fun a h1 h2 => ?_), ?_⟩
    · rw [hhc]; exact hS.2.1 a h1 h2
    · rw [hhc]; exact hP.1
  have key := hC p l e (mm_rm Y' n n') _ mk _ (.java (F0 m pc lsr (st.map (mm_v bs ro))) :: below) methk ck D cA bs ro H [] _ CxI hP (by rw [hhc]; exact va_S.rf) (mm_entry bs ro as h9 hpad)
  rw [List.map_nil, ← lg_entry_eq, Nat.sub_self, Nat.sub_self] at key
  obtain ⟨t, ht, o, r, M', L, k1, k2, k3, k4, k5, k6, k7, k8, k9⟩ := (fun hh => key _ hh XI) hT
  have hsteps : Steps p.tables e below (T.setTop (F0 m pc lsr rst)) t := hst t (fun acts => by
    rw [hin acts]
    exact mm_weaken (mid := [.java (F0 m pc lsr (st.map (mm_v bs ro)))]) ht)
  have hS' : ∀ T' : State, T'.heap = t.heap → va_S (fun q => bs ≤ q) s.heap T'.heap (locs ++ L) := by
    intro T' e'
    have hF : va_F (fun q => bs ≤ q) ((T.setVm vm₁).calling (F0 m pc lsr (st.map (mm_v bs ro))) mk (as.map (mm_v bs ro)).toArray) t := k6
    obtain ⟨f1, f2⟩ := hF
    rw [hhc] at f1 f2
    refine ⟨by rw [e']; exact Nat.le_trans hS.1 f1, fun a h1 h2 => ?_, fun a ha => ?_⟩
    · rw [e', f2 a (Nat.lt_of_lt_of_le h1 hS.1) h2]
      exact hS.2.1 a h1 h2
    · rcases List.mem_append.mp ha with h | h
      · exact hS.2.2 a h
      · exact k9 a h
  have hcnt : n - n0 + (n' - n) = n' - n0 := by omega
  have hcns : mm_sz n - mm_sz n0 + (mm_sz n' - mm_sz n) = mm_sz n' - mm_sz n0 := by omega
  have hkk := hk r M' k4
  obtain ⟨tag, x⟩ := r
  have ret : ∀ (v : Option Value) (st' : List mm_V), o = .returned v → v.toList ++ st.map (mm_v bs ro) = st'.map (mm_v bs ro) → mm_J X Y n0 n1 n' (pc + 3) ls st' M' Φ → ∃ t, Steps p.tables e below (T.setTop (F0 m pc lsr rst)) t ∧ mm_E D cA bs ro n0 n1 Φ below s t := by
    intro v st' ho hv hJ
    subst ho
    obtain ⟨T', X', -, -, hte⟩ := X1.outOf rfl hdg k2 k7 k8
    have hheap : T'.heap = t.heap := by rw [hte]; rfl
    rw [hcnt, hcns] at X'
    have hPT : mm_Wd D cA bs ro n' M' T'.heap := by rw [hheap]; exact k5
    obtain ⟨t2, a1, b1⟩ := hJ p l e R s m args below meth c D cA bs ro T'.heap (locs ++ L) lsr Cx hPT (hS' T' hheap) hL T' rfl X'
    refine ⟨t2, hsteps.trans ?_, b1⟩
    rw [hte]
    rw [← hv] at a1
    exact a1
  match tag, hkk, k3 with
  | 0, hkk, k3 => exact ret _ ((0, x) :: st) k3 rfl hkk
  | 1, hkk, k3 => exact ret _ ((1, x) :: st) k3 rfl hkk
  | 2, hkk, k3 => exact ret _ ((2, x) :: st) k3 rfl hkk
  | 3, hkk, k3 => exact ret _ st k3 rfl hkk
  | 4, hkk, k3 =>
    obtain ⟨h1, rfl, h3⟩ := hkk
    have k3 : o = .threw (mm_ad bs ro x) := k3
    subst k3
    obtain ⟨T', X', -, -, hte⟩ := X1.outOfThrown rfl k2 k7 k8
    have hheap : T'.heap = t.heap := by rw [hte]; rfl
    rw [hcnt, hcns] at X'
    have hno : ∀ y ∈ c.exceptionTable.toList, covers y (F0 m pc lsr (st.map (mm_v bs ro))).pc = false := by
      have : c.exceptionTable.toList = [] := by
        have h := hHd
        unfold mm_Hd at h
        rw [h1] at h
        exact List.map_eq_nil_iff.mp h
      rw [this]
      intro y hy
      cases hy
    obtain ⟨u1, u2, u3, u4, u5⟩ := X'.leaveThrown (mm_ad bs ro x) (g := F0 m pc lsr (st.map (mm_v bs ro))) rfl rfl rfl hno hlocks
    refine ⟨_, hsteps.trans (by rw [hte]; exact u1), .threw (mm_ad bs ro x), (4, x), M', locs ++ L, u2, u3, rfl, h3, ?_, ?_, u4, u5, ?_⟩
    · show mm_Wd D cA bs ro n' M' T'.heap
      rw [hheap]; exact k5
    · exact va_S.F (H := T'.heap) (hS' T' hheap) rfl
    · exact (hS' T' hheap).2.2
