/-! ===== the claim's own words (the skeleton's), and the law from its entry ===== -/
def R_law : String := "KitePowerLaw"
def lw_P (b : Addr) (xs : List Int32) (args : Array Value) (s : State) : Prop := args = #[.ref b] ∧ s.IntsAt b xs ∧ xs.length ≤ 3584 ∧ (Jvm.Cond.and given_1 narrow_1).before args s = true
def lw_Q (_ : Array Value) (s : State) (o : Outcome) (t : State) : Prop := o = .returned (some (.int 1)) ∧ Framed s o t [] 601024 7293034
def lw_Z (below : List Frame) (a : Array Value) (s : State) : State → Prop := fun t => ∃ o, t.status = .running ∧ Ended t below o ∧ lw_Q a s o t
/-- the law's own end, with 1 on the stack, nothing written that was there before, its room as the claim has it -/
theorem lw_ret {p : Program} {l : Launch} {e : Env} {s : State} {m : MethodId} {below : List Frame} {meth : Method} {c : Code} {b : Nat} (hx : p.tables.exec = Jvm.exec) (hb : c.code = code) (hr : meth.sig.returnType = ret) (hlocks : meth.locks = false) {pc : Nat} {H : Heap} {ls : Array Slot} (hdg : decode code pc = .ok (.ireturn, 1)) : W p l e room_1 s m #[Value.ref b] below meth c H [] 601024 7293034 (lw_Z below #[Value.ref b] s) (F0 m pc ls [.int 1]) := by
  intro T hT X
  obtain ⟨fs, hret, hrun, hended, hW, hframe⟩ := X.leave (v := some (.int 1)) (hlocks := hlocks) (fun h => by rw [hr] at h; cases h)
  have hmeth' : T.vm.method? m = some meth := X.method'
  refine ⟨T.setFrames fs, ?_, .returned (some (.int 1)), hrun, hended, rfl, ⟨_, rfl⟩, hW, hframe⟩
  jvm_step X.here [X.here.top, hx, hb, hdg, hmeth', hr, ret, narrow_b1]
  (try refine ⟨rfl, ?_⟩); (try refine ⟨rfl, ?_⟩)
  first | (intro acts; rw [hret _ acts rfl rfl rfl]) | rw [hret _ _ rfl rfl rfl]
  exact Steps.refl _
/-- what holds at the law's entry: the machine, the code, the tables' words (any of lw_tbl by 'hts w (by decide +kernel)'), the script of L ints xs at the cell b, what the Statement gives of the start (any of its parts by flat_of_before) -/
def lw_At (p : Program) (s : State) (m : MethodId) (meth : Method) (c : Code) (b L : Nat) (xs : Nat → Int32) : Prop :=
  p.tables.exec = Jvm.exec ∧ c.code = code ∧ meth.sig.returnType = ret ∧ c.maxLocals = 4 ∧ s.vm.findClass R_law = some m.cls ∧ (∀ w ∈ lw_tbl, w.before #[Value.ref b] s = true) ∧ va_X b L xs s s.heap ∧ b < s.heap.size ∧ meth.locks = false ∧ (Jvm.Cond.and given_1 narrow_1).before #[Value.ref b] s = true
theorem kL_whole (H : ∀ X : mm_X, (∀ i, mm_R (X.2 i)) → X.1 ≤ 3584 → ∀ (j : Nat) M, 7 * j + 7 ≤ X.1 → kR M → (j = 0 → kx_C0 M) → kAt X M) {p : Program} {e : Env} {s : State} {m : MethodId} {below : List Frame} {meth : Method} {c : Code} (l : Launch) {b L : Nat} {xs : Nat → Int32} (hL : L ≤ 3584) (C0 : lw_At p s m meth c b L xs) : W p l e room_1 s m #[Value.ref b] below meth c s.heap [] 0 0 (lw_Z below #[Value.ref b] s) (entryFrame m ([Value.ref b] : List Value).toArray 4) := by
  obtain ⟨hx, hb, hr, hml, hown, hts, hX, hbl, hlocks, hgv⟩ := id C0
  obtain ⟨D, cA, hK⟩ := kS_k hts
  obtain ⟨ro, hro, hRo⟩ := kS_ro hts hX hbl hgv
  obtain ⟨X, hXe⟩ : ∃ X : mm_X, X = (L, fun j => (xs j).toInt) := ⟨_, rfl⟩
  rw [← hXe] at hRo
  have hXR : ∀ i, mm_R (X.2 i) := by
    intro i
    rw [hXe]
    have h1 := Int32.le_toInt (xs i)
    have h2 := Int32.toInt_lt (xs i)
    show mm_R ((xs i).toInt)
    unfold mm_R
    omega
  have hXL : X.1 ≤ 3584 := by rw [hXe]; exact hL
  obtain ⟨hs, hhs⟩ : ∃ hs, hs = c.exceptionTable.toList.map (fun h => (h.startPc, h.endPc, h.handlerPc, h.catchType)) := ⟨_, rfl⟩
  have hJ := kL_start (X := X) (nm := meth.name) (hs := hs) (M := fun _ _ => 0) hXR (by omega) (H X hXR hXL)
  have Cx : mm_Cx X (Y_L meth.name hs) 0 243 p room_1 s m #[Value.ref b] meth c D cA s.heap.size ro := by
    refine ⟨hx, hb, hr, hml, hown, fun w hw _ => hts w hw, hlocks, rfl, hhs.symm, Nat.le_of_ble_eq_true rfl, Nat.le_of_ble_eq_true rfl, by decide, by decide +kernel, hK, hRo, rfl⟩
  have hP : mm_Wd D cA s.heap.size ro 0 (fun _ _ => 0) s.heap := ⟨rfl, fun c hc => absurd hc (by omega)⟩
  have key := hJ p l e room_1 s m #[Value.ref b] below meth c D cA s.heap.size ro s.heap [] _ Cx hP va_S.rf (mm_entry s.heap.size ro [(2, -1)] (by simp) (Nat.le_of_ble_eq_true rfl))
  have ev : ([(2, -1)] : List mm_V).map (mm_v s.heap.size ro) = [.ref b] := by
    show [mm_rf s.heap.size ro (-1)] = _
    unfold mm_rf mm_ad
    rw [if_neg (by decide), if_neg (by decide)]
    show [Value.ref (ro 1)] = _
    rw [hro]
  rw [ev, List.map_nil, ← lg_entry_eq] at key
  refine mm_mono key ?_
  rintro t ⟨o, r, M', Lc, k1, k2, k3, k4, k5, k6, k7, k8, k9⟩
  have k4 : r = (0, 1) := k4
  subst k4
  have ho : o = .returned (some (.int 1)) := k3
  subst ho
  refine ⟨_, k1, k2, rfl, ⟨_, rfl⟩, k7, ?_⟩
  obtain ⟨z1, z2, z3, z4, z5, z6⟩ := k8
  refine ⟨z1, z2, Nat.le_trans z3 (by omega), z4, Nat.le_trans z5 (by decide +kernel), ?_⟩
  intro a cl ha
  obtain ⟨c', y1, y2, y3, y4⟩ := z6 a cl ha
  refine ⟨c', y1, y2, y3, fun i _ => y4 i (fun hin => ?_)⟩
  have hlt : a < s.heap.size := (Array.getElem?_eq_some_iff.mp ha).1
  exact absurd (k9 _ hin) (Nat.not_le.mpr hlt)
