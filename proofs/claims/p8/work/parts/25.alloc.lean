/-! ===== cells that are made; constructors ===== -/
/-- the memory with a new cell -/
def mm_z (M : mm_M) (n : Nat) : mm_M := fun a b => if a = n then 0 else M a b
theorem mm_z_n {M : mm_M} {n a : Nat} (h : a ≠ n) : mm_z M n a = M a := by funext b; unfold mm_z; rw [if_neg h]
theorem mm_z_0 (M : mm_M) (n b : Nat) : mm_z M n n b = 0 := by unfold mm_z; rw [if_pos rfl]
theorem mm_Wd.push {D : va_G} {cA : Nat → ClassId} {bs n : Nat} {ro : Nat → Nat} {M : mm_M} {H H' : Heap} (h : mm_Wd D cA bs ro n M H) (z : H'.size = bs + n + 1) (oq : ∀ q, q < bs + n → H'[q]? = H[q]?) (hc : mm_ce D cA bs ro (mm_z M n) n H') : mm_Wd D cA bs ro (n + 1) (mm_z M n) H' := by
  refine ⟨by rw [z]; omega, fun a ha => ?_⟩
  by_cases e : a = n
  · subst e; exact hc
  · exact (h.2 a (by omega)).keep (mm_z_n e) (oq _ (by omega))
theorem mm_S.push {bs : Nat} {H0 H H' : Heap} {locs : List Loc} {n : Nat} (h : va_S (fun q => bs ≤ q) H0 H locs) (hs : H.size = bs + n) (z : H'.size = bs + n + 1) (oq : ∀ q, q < bs + n → H'[q]? = H[q]?) : va_S (fun q => bs ≤ q) H0 H' locs :=
  ⟨by rw [z]; have := h.1; omega, fun q h1 h2 => by rw [oq q (by have := h.1; omega)]; exact h.2.1 q h1 h2, h.2.2⟩
/-- what a fresh field of a class holds -/
def mm_dv (k : Nat) : Value := match k with
  | 0 => .int 0
  | 1 => .long 0
  | _ => .null
theorem mm_dv_eq (bs : Nat) (ro : Nat → Nat) (k : Nat) : mm_v bs ro (k, 0) = mm_dv k := by
  match k with
  | 0 => rfl
  | 1 => rfl
  | k + 2 => rfl
theorem mm_RAfind {cA : Nat → ClassId} {s : State} {t : Nat} (ht : t < 4) (h : va_RA s (cA t) (mm_et t)) : s.vm.findClass ("[" ++ (mm_et t).toString) = some (cA t) := by
  have h4 : t = 0 ∨ t = 1 ∨ t = 2 ∨ t = 3 := by omega
  rcases h4 with rfl | rfl | rfl | rfl
  · simp only [va_RA, mm_et] at h ⊢; exact h
  · simp only [va_RA, mm_et] at h ⊢; exact h
  · simp only [va_RA, mm_et] at h ⊢; exact h
  · simp only [va_RA, mm_et] at h ⊢; exact h
theorem mm_dvt {t : Nat} (ht : t < 4) : defaultValue (mm_et t) = mm_dv (mm_ek t) ∧ componentBytes (mm_et t) ≤ 8 := by
  match t, ht with
  | 0, _ => exact ⟨rfl, by decide⟩
  | 1, _ => exact ⟨rfl, by decide⟩
  | 2, _ => exact ⟨rfl, by decide⟩
  | 3, _ => exact ⟨rfl, by decide⟩
section
variable {X : mm_X} {Y Y' : mm_Y} {n0 n1 n n' pc q idx ci c i len : Nat} {ls st : List mm_V} {M : mm_M} {Φ Ψ : mm_V → mm_M → Prop} {x r : Int}
theorem mm_new {C : String} {T : u_T} {N : Nat} {ty : Nat → FieldType} (hd : mm_D Y.2.1 pc q (.new idx)) (hq : pc + 3 = q) (hs : mm_sh n = (0, ci)) (hcl : mm_Cl ci C T N ty) (hw1 : mm_Wk (.classLink Y.1.cls idx C)) (hw2 : mm_Wk (.instantiable C N)) (hw3 : mm_Wk (.initialized C))
    (hdv : ∀ i, i < N → defaultValue (ty i) = mm_dv (mm_fk ci i)) (hn : n0 ≤ n ∧ n + 1 ≤ n1 ∧ mm_sz n0 ≤ mm_sz n ∧ mm_sz (n + 1) = mm_sz n + N ∧ mm_sz (n + 1) ≤ mm_sz n1)
    (k : mm_J X Y n0 n1 (n + 1) q ls ((2, (n : Int) + 1) :: st) (mm_z M n) Φ) : mm_J X Y n0 n1 n pc ls st M Φ := by
  subst hq
  intro p l e R s m args below meth cd D cA bs ro H locs lsr Cx hP hS hL
  obtain ⟨hx, hb, -, -, hown, hT, -, -, -, -, -, hRc, hRs, hK, hRo, -⟩ := id Cx
  obtain ⟨h1, h2, h3, h4, h5⟩ := hcl
  obtain ⟨q1, q2, q3, q4, q5⟩ := hn
  have hKn := hK.1 ci _ h1
  have hts : ∀ w ∈ u_ws C T N, w.before args s = true := fun w hw' => hT.at (h3 w hw')
  refine W.newcK hx hb hown (hT.at hw1) (hT.at hw2) (hT.at hw3) rfl (by simpa using hd.1) (by omega) (by omega) hKn.2.1 hP.1 fun H1 kC hkC e1 z1 o1 => ?_
  have hce : mm_ce D cA bs ro (mm_z M n) n H1 := by
    refine mm_ce.of_obj hs ?_
    rw [h2]
    refine (u_born ty hts (fun _ h => h) hKn hkC e1 h4).to (fun i hi => ?_)
    rw [hdv i hi, mm_z_0, mm_dv_eq]
  have kk := k p l e R s m args below meth cd D cA bs ro H1 locs lsr Cx (hP.push z1 o1 hce) (mm_S.push hS hP.1 z1 o1) hL
  rw [List.map_cons, mm_v2, show n + 1 - n0 = n - n0 + 1 by omega, show mm_sz (n + 1) - mm_sz n0 = mm_sz n - mm_sz n0 + N by omega] at kk
  exact kk
theorem mm_newarr {t : Nat} {at' : ArrayType} (hd : mm_D Y.2.1 pc q (.newarray at')) (hq : pc + 2 = q) (hs : mm_sh n = (t + 1, len)) (ht : t < 4) (hat : newarray.typeOf at' = mm_et t) (hx0 : x = (len : Int)) (hw : mm_Wk (.arrayClass (mm_et t)))
    (hn : n0 ≤ n ∧ n + 1 ≤ n1 ∧ mm_sz n0 ≤ mm_sz n ∧ mm_sz (n + 1) = mm_sz n + len ∧ mm_sz (n + 1) ≤ mm_sz n1)
    (k : mm_J X Y n0 n1 (n + 1) q ls ((2, (n : Int) + 1) :: st) (mm_z M n) Φ) : mm_J X Y n0 n1 n pc ls ((0, x) :: st) M Φ := by
  subst hq; subst hx0
  intro p l e R s m args below meth cd D cA bs ro H locs lsr Cx hP hS hL
  obtain ⟨hx, hb, -, -, hown, hT, -, -, -, -, -, hRc, hRs, hK, hRo, -⟩ := id Cx
  obtain ⟨q1, q2, q3, q4, q5⟩ := hn
  have hl := (mm_shA n hs).1
  have hN : (mm_i (len : Int)).toNatClampNeg = len := by rw [mm_i_clamp (by omega) (by omega)]; omega
  have hcb := (mm_dvt ht).2
  have hbytes : len * componentBytes (newarray.typeOf at') ≤ 536870912 := by
    rw [hat]
    exact Nat.le_trans (Nat.mul_le_mul hl hcb) (by decide)
  have hfind := mm_RAfind ht (hK.2 t _ (mm_ty_at cA (by omega))).2
  refine W.newa hx hb (atype := at') (by rw [hat]; exact hT.at hw) rfl (by simpa using hd.1) (n := mm_i (len : Int)) (rest := st.map (mm_v bs ro)) rfl (fun h => mm_i_in (x := (len : Int)) (n := len + 1) (by omega) (by omega) (by omega) (Or.inl h)) (by rw [hN]; exact hbytes) (by omega) (by rw [hN]; omega) fun cA' kA comp f1 f2 f3 => ?_
  rw [hat, hfind] at f1
  cases f1
  rw [hN, hat]
  generalize hH1 : H.push ({ cls := cA t, slots := Array.replicate len (defaultValue (mm_et t)), vm := .none } : Cell) = H1
  have z1 : H1.size = bs + n + 1 := by rw [← hH1, Array.size_push, hP.1]
  have e1 : H1[bs + n]? = some (arrV (cA t) len (fun _ => defaultValue (mm_et t))) := by rw [← hH1, ← hP.1, Array.getElem?_push_size, ← arrV_new]
  have o1 : ∀ q : Nat, q < bs + n → H1[q]? = H[q]? := fun q hq => by rw [← hH1, Array.getElem?_push, if_neg (by rw [hP.1]; omega)]
  have hce : mm_ce D cA bs ro (mm_z M n) n H1 := by
    refine mm_ce.of_arr hs ?_
    rw [e1]
    congr 2
    funext j
    rw [mm_z_0, mm_dv_eq]
    exact (mm_dvt ht).1
  have kk := k p l e R s m args below meth cd D cA bs ro H1 locs lsr Cx (hP.push z1 o1 hce) (mm_S.push hS hP.1 z1 o1) hL
  rw [List.map_cons, mm_v2, show n + 1 - n0 = n - n0 + 1 by omega, show mm_sz (n + 1) - mm_sz n0 = mm_sz n - mm_sz n0 + len by omega] at kk
  rw [hP.1]
  exact kk
theorem mm_anew (hd : mm_D Y.2.1 pc q (.anewarray idx)) (hq : pc + 3 = q) (hs : mm_sh n = (5, len)) (hx0 : x = (len : Int)) (hw : mm_Wk (.classLink Y.1.cls idx "KitePower$Row"))
    (hn : n0 ≤ n ∧ n + 1 ≤ n1 ∧ mm_sz n0 ≤ mm_sz n ∧ mm_sz (n + 1) = mm_sz n + len ∧ mm_sz (n + 1) ≤ mm_sz n1)
    (k : mm_J X Y n0 n1 (n + 1) q ls ((2, (n : Int) + 1) :: st) (mm_z M n) Φ) : mm_J X Y n0 n1 n pc ls ((0, x) :: st) M Φ := by
  subst hq; subst hx0
  intro p l e R s m args below meth cd D cA bs ro H locs lsr Cx hP hS hL
  obtain ⟨hx, hb, -, -, hown, hT, -, -, -, -, -, hRc, hRs, hK, hRo, -⟩ := id Cx
  obtain ⟨q1, q2, q3, q4, q5⟩ := hn
  have hl := (mm_shA n hs).1
  have hN : (mm_i (len : Int)).toNatClampNeg = len := by rw [mm_i_clamp (by omega) (by omega)]; omega
  refine W.anew hx hb hown (hT.at hw) (va_AO.use hRo.2.2.2.2.2.1) rfl (by simpa using hd.1) (n := mm_i (len : Int)) (rest := st.map (mm_v bs ro)) rfl (fun h => mm_i_in (x := (len : Int)) (n := len + 1) (by omega) (by omega) (by omega) (Or.inl h)) (by rw [hN]; omega) (by omega) (by rw [hN]; omega) fun cA' kA comp f1 f2 f3 f4 => ?_
  obtain ⟨kA2, comp2, g1, g2, g3, g4⟩ := (hK.2 4 _ rfl).2
  cases f1.symm.trans g4
  rw [hN]
  generalize hH1 : H.push ({ cls := cA 4, slots := Array.replicate len .null, vm := .none } : Cell) = H1
  have z1 : H1.size = bs + n + 1 := by rw [← hH1, Array.size_push, hP.1]
  have e1 : H1[bs + n]? = some (arrV (cA 4) len (fun _ => .null)) := by rw [← hH1, ← hP.1, Array.getElem?_push_size, ← arrV_new]
  have o1 : ∀ q : Nat, q < bs + n → H1[q]? = H[q]? := fun q hq => by rw [← hH1, Array.getElem?_push, if_neg (by rw [hP.1]; omega)]
  have hce : mm_ce D cA bs ro (mm_z M n) n H1 := by
    refine mm_ce.of_arr (t := 4) hs ?_
    rw [e1]
    congr 2
    funext j
    rw [mm_z_0, mm_dv_eq]
    rfl
  have kk := k p l e R s m args below meth cd D cA bs ro H1 locs lsr Cx (hP.push z1 o1 hce) (mm_S.push hS hP.1 z1 o1) hL
  rw [List.map_cons, mm_v2, show n + 1 - n0 = n - n0 + 1 by omega, show mm_sz (n + 1) - mm_sz n0 = mm_sz n - mm_sz n0 + len by omega] at kk
  rw [hP.1]
  exact kk
/-- a row's reference into an array of rows -/
theorem mm_aast {j : Int} {d : Nat} (hd : mm_D Y.2.1 pc q .aastore) (hq : pc + 1 = q) (hr : r = (c : Int) + 1) (hc : c < n) (hs : mm_sh c = (5, len)) (hx0 : x = (d : Int) + 1) (hdn : d < n) (hsd : mm_sh d = (0, 8)) (h0 : 0 ≤ j) (h1 : j < len)
    (k : mm_J X Y n0 n1 n q ls st (mm_up M c j.toNat x) Φ) : mm_J X Y n0 n1 n pc ls ((2, x) :: (0, j) :: (2, r) :: st) M Φ := by
  subst hq; subst hr; subst hx0
  intro p l e R s m args below meth cd D cA bs ro H locs lsr Cx hP hS hL
  obtain ⟨hx, hb, -, -, hown, hT, -, -, -, -, -, hRc, hRs, hK, hRo, -⟩ := id Cx
  have ha := (hP.2 c hc).arr hs
  have hl := (mm_shA c hs).1
  obtain ⟨cell, g1, g2, g3, g4⟩ := (hP.2 d hdn).obj hsd
  obtain ⟨kA, comp, f1, f2, f3, f4⟩ := (hK.2 4 _ rfl).2
  obtain ⟨hS1, hfc, kC, hkC, hkind⟩ := hK.1 8 _ rfl
  have hcomp : comp = D.1 8 := Option.some.inj (f3.symm.trans hfc)
  rw [List.map_cons, List.map_cons, List.map_cons, mm_v2, mm_v2]
  have hin := mm_i_in h0 h1 (by omega)
  refine W.aast hx hb ha (fun _ h => by cases h) (fun h => by cases h) f1 f2 rfl (by rw [hcomp]; exact hkC) ⟨fun h => hin (Or.inl h), by rw [arrV_size]; exact Nat.not_le.mp (fun h => hin (Or.inr h))⟩ g1 (fun _ h => by rw [g3] at h; cases h) (by rw [g2]; exact hkC) (by rw [g2, hcomp]; exact va_assign ⟨hfc, kC, hkC, hkind⟩) rfl rfl (by simpa using hd.1) fun H' e1 e2 e3 => ?_
  rw [mm_i_clamp h0 (by omega)] at e1 ⊢
  exact k p l e R s m args below meth cd D cA bs ro H' _ lsr Cx (mm_arr_put (t := 4) hs hP (by rw [← mm_v2 bs ro d]; rfl) e1 e2 e3) (hS.put e2 e3 (Nat.le_add_right bs c)) hL
end
