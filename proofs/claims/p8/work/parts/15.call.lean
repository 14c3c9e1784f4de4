/-! ===== calls ===== -/
def mm_dbl : List mm_V → List mm_V
  | [] => []
  | v :: vs => if v.1 = 1 then v :: (9, 0) :: mm_dbl vs else v :: mm_dbl vs
/-- the locals with which a method begins -/
def mm_pad (n : Nat) (as : List mm_V) : List mm_V := mm_dbl as ++ List.replicate (n - (mm_dbl as).length) (9, 0)
/-- the method Y, called with these values on this memory with n0 cells, comes back with n1 cells so that Ψ -/
def mm_C (X : mm_X) (Y : mm_Y) (n0 n1 : Nat) (as : List mm_V) (M : mm_M) (Ψ : mm_V → mm_M → Prop) : Prop := mm_J X Y n0 n1 n0 0 (mm_pad Y.2.2.1 as) [] M Ψ
def mm_wd : List mm_V → Nat
  | [] => 0
  | v :: vs => (if v.1 = 1 then 2 else 1) + mm_wd vs
/-- the word that pins a method's code -/
def mm_cw (Y : mm_Y) : Jvm.Cond := match Y.2.2.2.2.2.2 with
  | [] => .code Y.1 Y.2.1 Y.2.2.1 Y.2.2.2.1
  | h :: hs => .codeWith Y.1 Y.2.1 Y.2.2.1 Y.2.2.2.1 (h :: hs)
theorem mm_cw_spec {Y : mm_Y} {args : Array Value} {s : State} (h : (mm_cw Y).before args s = true) : ∃ m meth c, s.methodNamed? Y.1 = some m ∧ s.vm.method? m = some meth ∧ meth.code = some c ∧ c.code = Y.2.1 ∧ c.maxLocals = Y.2.2.1 ∧ mm_Hd c Y.2.2.2.2.2.2 ∧ meth.sig.returnType = Y.2.2.2.1 ∧ meth.locks = false ∧ parseMethodDescriptor Y.1.desc = some meth.sig := by
  unfold mm_cw at h
  split at h
  · next e =>
    obtain ⟨m, hn⟩ := Cond.code_named h
    obtain ⟨meth, c, h1, h2, h3, h4, h5, h6, h7, h8⟩ := Cond.code_spec hn h
    refine ⟨m, meth, c, hn, h1, h2, h3, h4, ?_, h5, h6, h8⟩
    unfold mm_Hd
    rw [e]
    have : c.exceptionTable = #[] := by simpa using h7
    rw [this]
    rfl
  · next a b e =>
    obtain ⟨m, meth, c, h1, h2, h3, h4, h5, h6, h7, h8, h9⟩ := Cond.codeWith_spec h
    exact ⟨m, meth, c, h1, h2, h3, h4, h5, by unfold mm_Hd; rw [e]; exact h6, h7, h8, h9⟩
theorem mm_cat (bs : Nat) (ro : Nat → Nat) (v : mm_V) : (mm_v bs ro v).category = if v.1 = 1 then 2 else 1 := by
  by_cases h : v.1 = 1
  · obtain ⟨t, x⟩ := v
    cases h
    rfl
  · rw [mm_cat1 h, if_neg h]
theorem mm_wd_eq (bs : Nat) (ro : Nat → Nat) (st : List mm_V) : ((st.map (mm_v bs ro)).map fun v => v.category).sum = mm_wd st := by
  induction st with
  | nil => rfl
  | cons v vs ih => rw [List.map_cons, List.map_cons, List.sum_cons, ih, mm_cat]; rfl
def mm_slot (bs : Nat) (ro : Nat → Nat) (v : mm_V) : Slot := if v.1 = 9 then .second else .val (mm_v bs ro v)
theorem mm_sl_eq (bs : Nat) (ro : Nat → Nat) (as : List mm_V) (h : ∀ v ∈ as, v.1 ≠ 9) : lg_sl (as.map (mm_v bs ro)) = (mm_dbl as).map (mm_slot bs ro) := by
  induction as with
  | nil => rfl
  | cons v vs ih =>
    have h9 : v.1 ≠ 9 := h v List.mem_cons_self
    have ih := ih (fun w hw => h w (List.mem_cons_of_mem _ hw))
    have e : lg_sl ((v :: vs).map (mm_v bs ro)) = (if (mm_v bs ro v).category = 2 then [Slot.val (mm_v bs ro v), .second] else [.val (mm_v bs ro v)]) ++ lg_sl (vs.map (mm_v bs ro)) := by
      simp only [lg_sl, List.map_cons, List.flatMap_cons]
    rw [e, ih]
    by_cases h1 : v.1 = 1
    · rw [mm_cat, if_pos h1, if_pos rfl]
      simp only [mm_dbl, if_pos h1, List.map_cons, mm_slot, if_neg h9]
      rfl
    · rw [mm_cat, if_neg h1, if_neg (by decide)]
      simp only [mm_dbl, if_neg h1, List.map_cons, mm_slot, if_neg h9]
      rfl
theorem mm_entry (bs : Nat) (ro : Nat → Nat) (as : List mm_V) {n : Nat} (h : ∀ v ∈ as, v.1 ≠ 9) (hn : (mm_dbl as).length ≤ n) : mm_L bs ro n ((lg_sl (as.map (mm_v bs ro)) ++ List.replicate (n - (lg_sl (as.map (mm_v bs ro))).length) Slot.unset).toArray) (mm_pad n as) := by
  have hl : (lg_sl (as.map (mm_v bs ro))).length = (mm_dbl as).length := by rw [mm_sl_eq bs ro as h, List.length_map]
  have he := lv_entry (as.map (mm_v bs ro)) (n := n) (by rw [hl]; exact hn)
  refine ⟨he.1, he.2.1, fun i v hi hv => ?_⟩
  rw [hl, mm_sl_eq bs ro as h, List.getElem?_toArray]
  unfold mm_pad at hi
  rcases Nat.lt_or_ge i (mm_dbl as).length with q | q
  · rw [List.getElem?_append_left q] at hi
    rw [List.getElem?_append_left (by rw [List.length_map]; exact q), List.getElem?_map, hi]
    show some (mm_slot bs ro v) = _
    unfold mm_slot
    rw [if_neg hv]
  · rw [List.getElem?_append_right q] at hi
    have : v = (9, 0) := by
      have := List.mem_of_getElem? hi
      exact (List.mem_replicate.mp this).2
    rw [this] at hv
    exact absurd rfl hv
theorem mm_weaken {tb : Tables} {e : Env} {mid below : List Frame} {a b : State} (h : Steps tb e (mid ++ below) a b) : Steps tb e below a b := by
  obtain ⟨n, hn, hw⟩ := h
  exact ⟨n, hn, fun k hk => (hw k hk).weaken⟩
theorem mm_T.on {args a' : Array Value} {s U : State} (h : mm_T args s) (hW : s.WarmedH U.vm) : mm_T a' U := fun w hw hg => word_at hW (good_of_word hg) (h w hw hg)
theorem mm_Ro.on {X : mm_X} {bs : Nat} {ro : Nat → Nat} {s U : State} (h : mm_Ro X bs ro s) (hW : s.WarmedH U.vm) (hq : ∀ a : Nat, a < s.heap.size → ¬ bs ≤ a → U.heap[a]? = s.heap[a]?) : mm_Ro X bs ro U := by
  have hv := hW.alike
  refine ⟨(h.1.moved hv).kept hq, fun k hk => ⟨((h.2.1 k hk).1.moved hv).kept hq, ((h.2.1 k hk).2.moved hv).kept hq⟩, (h.2.2.1.moved hv).kept hq, fun k hk => ?_, fun q hq => va_Nw.warmM hW (h.2.2.2.2.1 q hq), va_AO.moved hv h.2.2.2.2.2.1, fun j hj => (h.2.2.2.2.2.2 j hj).imp (fun z => (z.moved hv).kept hq) (fun z => (z.moved hv).kept hq)⟩
  obtain ⟨h1, h2, h3, h4, h5⟩ := h.2.2.2.1 k hk
  exact ⟨h1.warm hW, (h2.moved hv).kept hq, (h3.moved hv).kept hq, (h4.moved hv).kept hq, (h5.moved hv).kept hq⟩
