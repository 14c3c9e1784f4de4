/-! ===== locals that are stored, fields, arrays, returns ===== -/
theorem mm_mono {p : Program} {l : Launch} {e : Env} {R : Room} {s : State} {m : MethodId} {args : Array Value} {below : List Frame} {meth : Method} {c : Code} {H : Heap} {locs : List Loc} {cells slots : Nat} {Q Q' : State → Prop} {g : JFrame}
    (k : W p l e R s m args below meth c H locs cells slots Q g) (h : ∀ t, Q t → Q' t) : W p l e R s m args below meth c H locs cells slots Q' g := by
  intro T hT X
  obtain ⟨t, a, b⟩ := k T hT X
  exact ⟨t, a, h t b⟩
def mm_as (bs : Nat) (ro : Nat → Nat) (ls : List mm_V) : List (Nat × Value) := (List.range ls.length).filterMap (fun i => if (ls.getD i (9, 0)).1 = 9 then none else some (i, mm_v bs ro (ls.getD i (9, 0))))
theorem mm_as_mem {bs : Nat} {ro : Nat → Nat} {ls : List mm_V} {i : Nat} {w : Value} : (i, w) ∈ mm_as bs ro ls ↔ ∃ v, ls[i]? = some v ∧ v.1 ≠ 9 ∧ w = mm_v bs ro v := by
  unfold mm_as
  rw [List.mem_filterMap]
  constructor
  · rintro ⟨j, hj, h⟩
    rw [List.mem_range] at hj
    split at h
    · cases h
    · simp only [Option.some.injEq, Prod.mk.injEq] at h
      obtain ⟨rfl, rfl⟩ := h
      have e : ls[j]? = some (ls.getD j (9, 0)) := by simp [hj]
      exact ⟨_, e, by assumption, rfl⟩
  · rintro ⟨v, h1, h2, rfl⟩
    have hj : i < ls.length := (List.getElem?_eq_some_iff.mp h1).1
    have e : ls.getD i (9, 0) = v := by simp [h1]
    exact ⟨i, List.mem_range.mpr hj, by rw [e, if_neg h2]⟩
theorem mm_L.has {bs : Nat} {ro : Nat → Nat} {nL : Nat} {lsr : Array Slot} {ls : List mm_V} (h : mm_L bs ro nL lsr ls) : lv_has lsr nL (mm_as bs ro ls) := by
  refine ⟨h.1, h.2.1, fun q hq => ?_⟩
  obtain ⟨i, w⟩ := q
  obtain ⟨v, h1, h2, rfl⟩ := mm_as_mem.mp hq
  exact h.2.2 i v h1 h2
/-- no long stands right ahead of the place -/
def mm_c1 (ls : List mm_V) (i : Nat) : Bool := i == 0 || (ls.getD (i - 1) (9, 0)).1 != 1
theorem mm_L.st1 {bs : Nat} {ro : Nat → Nat} {nL i : Nat} {lsr : Array Slot} {ls : List mm_V} {v : mm_V} (hv : v.1 ≠ 9) (hc : mm_c1 ls i = true)
    (h : lv_has lsr nL ((i, mm_v bs ro v) :: (mm_as bs ro ls).filter (fun q => !(q.1 == i) && !(q.1 + 1 == i && q.2.category == 2)))) : mm_L bs ro nL lsr (ls.set i v) := by
  refine ⟨h.1, h.2.1, fun j w hj hw => ?_⟩
  by_cases hji : j = i
  · subst hji
    rw [List.getElem?_set] at hj
    split at hj
    · split at hj
      · cases hj
        exact h.2.2 (j, _) List.mem_cons_self
      · cases hj
    · rename_i q; exact absurd rfl q
  · rw [List.getElem?_set_ne (fun q => hji q.symm)] at hj
    refine h.2.2 (j, mm_v bs ro w) (List.mem_cons_of_mem _ (List.mem_filter.mpr ⟨mm_as_mem.mpr ⟨w, hj, hw, rfl⟩, ?_⟩))
    simp only [Bool.and_eq_true, Bool.not_eq_true', beq_eq_false_iff_ne, Bool.and_eq_false_iff, beq_eq_false_iff_ne]
    refine ⟨hji, ?_⟩
    by_cases h1 : j + 1 = i
    · right
      have e : (ls.getD (i - 1) (9, 0)) = w := by
        have : i - 1 = j := by omega
        rw [this]; simp [hj]
      have : w.1 ≠ 1 := by
        unfold mm_c1 at hc
        rw [e] at hc
        simpa [show i ≠ 0 by omega] using hc
      rw [mm_cat1 this]
      decide
    · exact Or.inl h1
theorem mm_L.st2 {bs : Nat} {ro : Nat → Nat} {nL i : Nat} {lsr : Array Slot} {ls : List mm_V} {x : Int} (hc : mm_c1 ls i = true)
    (h : lv_has lsr nL ((i, mm_v bs ro (1, x)) :: (mm_as bs ro ls).filter (fun q => !(q.1 == i) && (!(q.1 == i + 1) && !(q.1 + 1 == i && q.2.category == 2))))) : mm_L bs ro nL lsr ((ls.set i (1, x)).set (i + 1) (9, 0)) := by
  refine ⟨h.1, h.2.1, fun j w hj hw => ?_⟩
  by_cases hj1 : j = i + 1
  · subst hj1
    rw [List.getElem?_set] at hj
    split at hj
    · split at hj
      · cases hj
        exact absurd rfl hw
      · cases hj
    · rename_i q; exact absurd rfl q
  · rw [List.getElem?_set_ne (fun q => hj1 q.symm)] at hj
    by_cases hji : j = i
    · subst hji
      rw [List.getElem?_set] at hj
      split at hj
      · split at hj
        · cases hj
          exact h.2.2 (j, _) List.mem_cons_self
        · cases hj
      · rename_i q; exact absurd rfl q
    · rw [List.getElem?_set_ne (fun q => hji q.symm)] at hj
      refine h.2.2 (j, mm_v bs ro w) (List.mem_cons_of_mem _ (List.mem_filter.mpr ⟨mm_as_mem.mpr ⟨w, hj, hw, rfl⟩, ?_⟩))
      simp only [Bool.and_eq_true, Bool.not_eq_true', beq_eq_false_iff_ne, Bool.and_eq_false_iff, beq_eq_false_iff_ne]
      refine ⟨hji, hj1, ?_⟩
      by_cases h1 : j + 1 = i
      · right
        have e : (ls.getD (i - 1) (9, 0)) = w := by
          have : i - 1 = j := by omega
          rw [this]; simp [hj]
        have : w.1 ≠ 1 := by
          unfold mm_c1 at hc
          rw [e] at hc
          simpa [show i ≠ 0 by omega] using hc
        rw [mm_cat1 this]
        decide
      · exact Or.inl h1
section
variable {X : mm_X} {Y : mm_Y} {n0 n1 n pc q t : Nat} {ls st : List mm_V} {M : mm_M} {Φ : mm_V → mm_M → Prop} {x y : Int}
theorem mm_istore_n {a : Fin 4} (hd : mm_D Y.2.1 pc q (.istore_n a)) (hq : pc + 1 = q) (ha : (a : Nat) < Y.2.2.1) (hc : mm_c1 ls a = true) (k : mm_J X Y n0 n1 n q (ls.set a (0, x)) st M Φ) : mm_J X Y n0 n1 n pc ls ((0, x) :: st) M Φ := by
  subst hq
  intro p l e R s m args below meth c D cA bs ro H locs lsr C hP hS hL
  exact lv_istore_n C.1 C.2.1 (by simpa using hd.1) rfl hL.has ha rfl (fun ls' h => k p l e R s m args below meth c D cA bs ro H locs ls' C hP hS (mm_L.st1 (v := (0, x)) (show (0 : Nat) ≠ 9 by decide) hc h))
theorem mm_istore {a : Nat} (hd : mm_D Y.2.1 pc q (.istore a)) (hq : pc + 2 = q) (ha : a < Y.2.2.1) (hc : mm_c1 ls a = true) (k : mm_J X Y n0 n1 n q (ls.set a (0, x)) st M Φ) : mm_J X Y n0 n1 n pc ls ((0, x) :: st) M Φ := by
  subst hq
  intro p l e R s m args below meth c D cA bs ro H locs lsr C hP hS hL
  exact lv_istore C.1 C.2.1 (by simpa using hd.1) hL.has ha rfl (fun ls' h => k p l e R s m args below meth c D cA bs ro H locs ls' C hP hS (mm_L.st1 (v := (0, x)) (show (0 : Nat) ≠ 9 by decide) hc h))
theorem mm_lstore_n {a : Fin 4} (hd : mm_D Y.2.1 pc q (.lstore_n a)) (hq : pc + 1 = q) (ha : (a : Nat) + 1 < Y.2.2.1) (hc : mm_c1 ls a = true) (k : mm_J X Y n0 n1 n q ((ls.set a (1, x)).set (a + 1) (9, 0)) st M Φ) : mm_J X Y n0 n1 n pc ls ((1, x) :: st) M Φ := by
  subst hq
  intro p l e R s m args below meth c D cA bs ro H locs lsr C hP hS hL
  exact lv_lstore_n C.1 C.2.1 (by simpa using hd.1) rfl hL.has ha rfl (fun ls' h => k p l e R s m args below meth c D cA bs ro H locs ls' C hP hS (mm_L.st2 hc h))
theorem mm_lstore {a : Nat} (hd : mm_D Y.2.1 pc q (.lstore a)) (hq : pc + 2 = q) (ha : a + 1 < Y.2.2.1) (hc : mm_c1 ls a = true) (k : mm_J X Y n0 n1 n q ((ls.set a (1, x)).set (a + 1) (9, 0)) st M Φ) : mm_J X Y n0 n1 n pc ls ((1, x) :: st) M Φ := by
  subst hq
  intro p l e R s m args below meth c D cA bs ro H locs lsr C hP hS hL
  exact lv_lstore C.1 C.2.1 (by simpa using hd.1) hL.has ha rfl (fun ls' h => k p l e R s m args below meth c D cA bs ro H locs ls' C hP hS (mm_L.st2 hc h))
theorem mm_astore_n {a : Fin 4} (hd : mm_D Y.2.1 pc q (.astore_n a)) (hq : pc + 1 = q) (ha : (a : Nat) < Y.2.2.1) (hc : mm_c1 ls a = true) (k : mm_J X Y n0 n1 n q (ls.set a (2, x)) st M Φ) : mm_J X Y n0 n1 n pc ls ((2, x) :: st) M Φ := by
  subst hq
  intro p l e R s m args below meth c D cA bs ro H locs lsr C hP hS hL
  have kk := fun ls' (h : lv_has ls' Y.2.2.1 (((a : Nat), mm_v bs ro (2, x)) :: (mm_as bs ro ls).filter (fun q => !(q.1 == (a : Nat)) && !(q.1 + 1 == (a : Nat) && q.2.category == 2)))) => k p l e R s m args below meth c D cA bs ro H locs ls' C hP hS (mm_L.st1 (v := (2, x)) (show (2 : Nat) ≠ 9 by decide) hc h)
  rw [List.map_cons]
  rcases mm_v2or bs ro x with h | ⟨w, h⟩
  · rw [h] at kk ⊢
    exact lv_astore_nN C.1 C.2.1 (by simpa using hd.1) rfl hL.has ha rfl kk
  · rw [h] at kk ⊢
    exact lv_astore_n C.1 C.2.1 (by simpa using hd.1) rfl hL.has ha rfl kk
theorem mm_astore {a : Nat} (hd : mm_D Y.2.1 pc q (.astore a)) (hq : pc + 2 = q) (ha : a < Y.2.2.1) (hc : mm_c1 ls a = true) (k : mm_J X Y n0 n1 n q (ls.set a (2, x)) st M Φ) : mm_J X Y n0 n1 n pc ls ((2, x) :: st) M Φ := by
  subst hq
  intro p l e R s m args below meth c D cA bs ro H locs lsr C hP hS hL
  have kk := fun ls' (h : lv_has ls' Y.2.2.1 ((a, mm_v bs ro (2, x)) :: (mm_as bs ro ls).filter (fun q => !(q.1 == a) && !(q.1 + 1 == a && q.2.category == 2)))) => k p l e R s m args below meth c D cA bs ro H locs ls' C hP hS (mm_L.st1 (v := (2, x)) (show (2 : Nat) ≠ 9 by decide) hc h)
  rw [List.map_cons]
  rcases mm_v2or bs ro x with h | ⟨w, h⟩
  · rw [h] at kk ⊢
    exact lv_astoreN C.1 C.2.1 (by simpa using hd.1) hL.has ha rfl kk
  · rw [h] at kk ⊢
    exact lv_astore C.1 C.2.1 (by simpa using hd.1) hL.has ha rfl kk
theorem mm_iinc {a : Nat} {b : Int} (hd : mm_D Y.2.1 pc q (.iinc a b)) (hq : pc + 3 = q) (hl : ls[a]? = some (0, x)) (ha : a < Y.2.2.1) (hc : mm_c1 ls a = true) (k : mm_J X Y n0 n1 n q (ls.set a (0, x + b)) st M Φ) : mm_J X Y n0 n1 n pc ls st M Φ := by
  subst hq
  intro p l e R s m args below meth c D cA bs ro H locs lsr C hP hS hL
  have hm : (a, mm_v bs ro (0, x)) ∈ mm_as bs ro ls := mm_as_mem.mpr ⟨_, hl, show (0 : Nat) ≠ 9 by decide, rfl⟩
  obtain ⟨j, hj⟩ := List.getElem?_of_mem hm
  exact lv_iinc C.1 C.2.1 (v := mm_i (x + b)) (by simpa using hd.1) hL.has hj (mm_i_add x b) ha rfl (fun ls' h => k p l e R s m args below meth c D cA bs ro H locs ls' C hP hS (mm_L.st1 (v := (0, x + b)) (show (0 : Nat) ≠ 9 by decide) hc h))
end
