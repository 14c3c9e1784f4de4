/-! ===== fields and arrays ===== -/
def mm_Wk (w : Jvm.Cond) : Prop := w ∈ lw_tbl ∧ goodWord w = true
theorem mm_T.at {args : Array Value} {s : State} (h : mm_T args s) {w : Jvm.Cond} (hw : mm_Wk w) : w.before args s = true := h w hw.1 hw.2
/-- a class of the world: its fields stand in the tables -/
def mm_Cl (ci : Nat) (C : String) (T : u_T) (N : Nat) (ty : Nat → FieldType) : Prop :=
  vwCl[ci]? = some (C, T, N) ∧ mm_nf ci = N ∧ (∀ w ∈ u_ws C T N, mm_Wk w) ∧ (∀ k, k < N → parseFieldDescriptor (T k).2.2.1 = some (ty k)) ∧ (∀ a, a < N → ∀ b, b < N → a ≠ b → (T a).2.1 ≠ (T b).2.1)
/-- the entry idx of the class own is the field i of the class ci -/
def mm_F (own : String) (idx ci i : Nat) (fin : Bool) (t : FieldType) : Prop :=
  ∃ (C : String) (T : u_T) (N : Nat) (ty : Nat → FieldType), mm_Cl ci C T N ty ∧ i < N ∧ mm_Wk (.fieldLink own idx (T i).1 (T i).2.1 (T i).2.2.1) ∧ (T i).2.2.2 = fin ∧ ty i = t
def mm_up (M : mm_M) (c i : Nat) (v : Int) : mm_M := fun a b => if a = c ∧ b = i then v else M a b
theorem mm_up_s (M : mm_M) (c i : Nat) (v : Int) : mm_up M c i v c i = v := by simp [mm_up]
theorem mm_up_n {M : mm_M} {c i a b : Nat} {v : Int} (h : ¬ (a = c ∧ b = i)) : mm_up M c i v a b = M a b := by simp [mm_up, h]
theorem mm_up_c {M : mm_M} {c i a b : Nat} {v : Int} (h : a ≠ c) : mm_up M c i v a b = M a b := mm_up_n (fun q => h q.1)
theorem mm_up_i {M : mm_M} {c i a b : Nat} {v : Int} (h : b ≠ i) : mm_up M c i v a b = M a b := mm_up_n (fun q => h q.2)
section
variable {D : va_G} {cA : Nat → ClassId} {bs n : Nat} {ro : Nat → Nat} {M M' : mm_M} {H H' : Heap} {c : Nat}
theorem mm_ce.obj {ci : Nat} (hs : mm_sh c = (0, ci)) (h : mm_ce D cA bs ro M c H) : t_OB (bs + c) (D.1 ci) (mm_nf ci) (D.2 ci) H (fun i => mm_v bs ro (mm_fk ci i, M c i)) := by
  unfold mm_ce at h
  rw [hs] at h
  exact h
theorem mm_ce.arr {t len : Nat} (hs : mm_sh c = (t + 1, len)) (h : mm_ce D cA bs ro M c H) : H[bs + c]? = some (arrV (cA t) len (fun j => mm_v bs ro (mm_ek t, M c j))) := by
  unfold mm_ce at h
  rw [hs] at h
  exact h
theorem mm_ce.of_obj {ci : Nat} (hs : mm_sh c = (0, ci)) (h : t_OB (bs + c) (D.1 ci) (mm_nf ci) (D.2 ci) H (fun i => mm_v bs ro (mm_fk ci i, M c i))) : mm_ce D cA bs ro M c H := by
  unfold mm_ce
  rw [hs]
  exact h
theorem mm_ce.of_arr {t len : Nat} (hs : mm_sh c = (t + 1, len)) (h : H[bs + c]? = some (arrV (cA t) len (fun j => mm_v bs ro (mm_ek t, M c j)))) : mm_ce D cA bs ro M c H := by
  unfold mm_ce
  rw [hs]
  exact h
theorem mm_ce.keep (h : mm_ce D cA bs ro M c H) (hM : M' c = M c) (hH : H'[bs + c]? = H[bs + c]?) : mm_ce D cA bs ro M' c H' := by
  unfold mm_ce at h ⊢
  split
  · next ci e =>
    rw [e] at h
    rw [hM]
    exact t_OB.kept h hH
  · next t len e =>
    rw [e] at h
    rw [hM, hH]
    exact h
theorem mm_Wd.put (h : mm_Wd D cA bs ro n M H) (z : H'.size = H.size) (oq : ∀ q, q ≠ bs + c → H'[q]? = H[q]?) (hM : ∀ a, a ≠ c → M' a = M a) (hc : mm_ce D cA bs ro M' c H') : mm_Wd D cA bs ro n M' H' := by
  refine ⟨z.trans h.1, fun a ha => ?_⟩
  by_cases e : a = c
  · subst e; exact hc
  · exact (h.2 a ha).keep (hM a e) (oq _ (by omega))
theorem mm_up_row {i a : Nat} {v : Int} (h : a ≠ c) : mm_up M c i v a = M a := by
  funext b
  exact mm_up_c h
end
theorem mm_shA (c : Nat) {t len : Nat} (h : mm_sh c = (t + 1, len)) : len ≤ 100000 ∧ t < 5 := by
  have hc : c < mm_sl.length := by
    rcases Nat.lt_or_ge c mm_sl.length with q | q
    · exact q
    · have e : mm_sh c = (0, 99) := by simp [mm_sh, List.getD, List.getElem?_eq_none q]
      rw [e] at h
      simp only [Prod.mk.injEq] at h
      exfalso
      omega
  have key : ∀ c, c < mm_sl.length → (mm_sh c).2 ≤ 100000 ∧ (mm_sh c).1 < 6 := by decide +kernel
  have := key c hc
  rw [h] at this
  omega
section
variable {X : mm_X} {Y : mm_Y} {n0 n1 n pc q t c ci i idx len kd : Nat} {ls st : List mm_V} {M : mm_M} {Φ : mm_V → mm_M → Prop} {x y r j : Int}
theorem mm_get {fin : Bool} {ty : FieldType} (hd : mm_D Y.2.1 pc q (.getfield idx)) (hq : pc + 3 = q) (hf : mm_F Y.1.cls idx ci i fin ty) (hr : r = (c : Int) + 1) (hc : c < n) (hs : mm_sh c = (0, ci)) (hk : mm_fk ci i = kd)
    (k : mm_J X Y n0 n1 n q ls ((kd, M c i) :: st) M Φ) : mm_J X Y n0 n1 n pc ls ((2, r) :: st) M Φ := by
  subst hq; subst hr; subst hk
  intro p l e R s m args below meth cd D cA bs ro H locs lsr Cx hP hS hL
  obtain ⟨hx, hb, -, -, hown, hT, -, -, -, -, -, -, -, hK, -, -⟩ := id Cx
  obtain ⟨C, T, N, ty0, ⟨h1, h2, h3, h4, h5⟩, hi, hw, -, -⟩ := hf
  obtain ⟨cell, q1, q2, q3, q4⟩ := (hP.2 c hc).obj hs
  obtain ⟨hS1, hfc, kC, hkC, hkind⟩ := hK.1 ci _ h1
  obtain ⟨cf, kf, fi, f, hfi, hsl⟩ := hS1 i hi
  have hts : ∀ w ∈ u_ws C T N, w.before args s = true := fun w hw' => hT.at (h3 w hw')
  rw [List.map_cons, mm_v2]
  refine W.getf hx hb hown (hT.at hw) hfi (u_facts hfc hkC (u_lays hts (fun _ h => h) hi) hfi).1 q1 (by rw [q3]; exact fun h => by cases h) (v := mm_v bs ro (mm_fk ci i, M c i)) ?_ rfl rfl (by simpa using hd.1) (k p l e R s m args below meth cd D cA bs ro H locs lsr Cx hP hS hL)
  rw [hsl, q4 i (by rw [h2]; exact hi)]
theorem mm_put {ty : FieldType} (hd : mm_D Y.2.1 pc q (.putfield idx)) (hq : pc + 3 = q) (hf : mm_F Y.1.cls idx ci i false ty) (hr : r = (c : Int) + 1) (hc : c < n) (hs : mm_sh c = (0, ci)) (hk : mm_fk ci i = kd)
    (hn : ∀ bs ro, narrow ty (mm_v bs ro (kd, x)) = mm_v bs ro (kd, x) ∧ fits ty (mm_v bs ro (kd, x)) = true)
    (k : mm_J X Y n0 n1 n q ls st (mm_up M c i x) Φ) : mm_J X Y n0 n1 n pc ls ((kd, x) :: (2, r) :: st) M Φ := by
  subst hq; subst hr
  intro p l e R s m args below meth cd D cA bs ro H locs lsr Cx hP hS hL
  obtain ⟨hx, hb, -, -, hown, hT, -, -, -, -, -, -, -, hK, -, -⟩ := id Cx
  obtain ⟨C, T, N, ty0, ⟨h1, h2, h3, h4, h5⟩, hi, hw, hfin, rfl⟩ := hf
  obtain ⟨cell, q1, q2, q3, q4⟩ := (hP.2 c hc).obj hs
  obtain ⟨hS1, hfc, kC, hkC, hkind⟩ := hK.1 ci _ h1
  obtain ⟨cf, kf, fi, f, hfi, hsl⟩ := hS1 i hi
  have hts : ∀ w ∈ u_ws C T N, w.before args s = true := fun w hw' => hT.at (h3 w hw')
  have hap := va_apart (own := Y.1.cls) hts (fun _ h => h) ty0 h4 h5 hK h1
  have hlay := hts _ (u_in_lay hi)
  unfold u_lay at hlay
  rw [if_neg (by rw [hfin]; decide)] at hlay
  have hst := (u_facts hfc hkC (u_lays hts (fun _ h => h) hi) hfi).1
  obtain ⟨hn1, hn2⟩ := hn bs ro
  have h6 := u_store hfc hkC hkind hlay hfi (h4 i hi) hn1 hn2
  have hi' : i < mm_nf ci := by rw [h2]; exact hi
  rw [List.map_cons, List.map_cons, mm_v2]
  refine W.putK hx hb (f := f) ⟨hown, hT.at hw, ⟨_, _, _, hfi⟩, hst⟩ (by rw [q2]; exact h6) q1 q3 (by rw [hsl]; exact k2_hasslot (q4 i hi')) rfl rfl (by simpa using hd.1) fun H' e1 e2 e3 => ?_
  rw [hsl] at e1 ⊢
  refine k p l e R s m args below meth cd D cA bs ro H' _ lsr Cx (hP.put e2 e3 (fun a ha => mm_up_row ha) (mm_ce.of_obj hs ⟨_, e1, q2, q3, fun a ha => ?_⟩)) (hS.put e2 e3 (Nat.le_add_right bs c)) hL
  have := t_set q4 (by rw [h2]; exact hap) hi' (mm_v bs ro (kd, x)) a ha
  rw [this]
  congr 1
  unfold updV
  by_cases ea : a = i
  · subst ea; rw [if_pos rfl]; show _ = mm_v bs ro (_, mm_up M c a x c a); rw [mm_up_s, hk]
  · rw [if_neg ea]; show _ = mm_v bs ro (_, mm_up M c i x c a); rw [mm_up_i ea]
/-- a load from an array of the world -/
theorem mm_aln (hd : mm_D Y.2.1 pc q .arraylength) (hq : pc + 1 = q) (hr : r = (c : Int) + 1) (hc : c < n) (hs : mm_sh c = (t + 1, len)) (k : mm_J X Y n0 n1 n q ls ((0, (len : Int)) :: st) M Φ) : mm_J X Y n0 n1 n pc ls ((2, r) :: st) M Φ := by
  subst hq; subst hr
  intro p l e R s m args below meth cd D cA bs ro H locs lsr Cx hP hS hL
  obtain ⟨hx, hb, -, -, hown, hT, -, -, -, -, -, -, -, hK, -, -⟩ := id Cx
  have ha := (hP.2 c hc).arr hs
  rw [List.map_cons, mm_v2]
  refine W.alen hx hb (n := mm_i (len : Int)) ha ((hK.2 t _ (mm_ty_at cA (mm_shA c hs).2)).1 len _) ?_ rfl rfl (by simpa using hd.1) (k p l e R s m args below meth cd D cA bs ro H locs lsr Cx hP hS hL)
  rw [arrV_size]
  exact (Int32.ofInt_eq_ofNat).symm
theorem mm_iald (hd : mm_D Y.2.1 pc q .iaload) (hq : pc + 1 = q) (hr : r = (c : Int) + 1) (hc : c < n) (hs : mm_sh c = (1, len)) (h0 : 0 ≤ j) (h1 : j < len) (k : mm_J X Y n0 n1 n q ls ((0, M c j.toNat) :: st) M Φ) : mm_J X Y n0 n1 n pc ls ((0, j) :: (2, r) :: st) M Φ := by
  subst hq; subst hr
  intro p l e R s m args below meth cd D cA bs ro H locs lsr Cx hP hS hL
  obtain ⟨hx, hb, -, -, hown, hT, -, -, -, -, -, -, -, hK, -, -⟩ := id Cx
  have ha := (hP.2 c hc).arr hs
  have hl := (mm_shA c hs).1
  rw [List.map_cons, List.map_cons, mm_v2]
  refine W.iald hx hb (v := mm_v bs ro (0, M c j.toNat)) ha ((hK.2 0 _ rfl).1 len _) (fun h => by cases h) (by rw [arrV_size]; exact mm_i_in h0 h1 (by omega)) ?_ rfl rfl (by simpa using hd.1) (k p l e R s m args below meth cd D cA bs ro H locs lsr Cx hP hS hL)
  rw [mm_i_clamp h0 (by omega), arrV_read _ _ (by omega)]
  rfl
theorem mm_bald (hd : mm_D Y.2.1 pc q .baload) (hq : pc + 1 = q) (hr : r = (c : Int) + 1) (hc : c < n) (hs : mm_sh c = (2, len)) (h0 : 0 ≤ j) (h1 : j < len) (k : mm_J X Y n0 n1 n q ls ((0, M c j.toNat) :: st) M Φ) : mm_J X Y n0 n1 n pc ls ((0, j) :: (2, r) :: st) M Φ := by
  subst hq; subst hr
  intro p l e R s m args below meth cd D cA bs ro H locs lsr Cx hP hS hL
  obtain ⟨hx, hb, -, -, hown, hT, -, -, -, -, -, -, -, hK, -, -⟩ := id Cx
  have ha := (hP.2 c hc).arr hs
  have hl := (mm_shA c hs).1
  rw [List.map_cons, List.map_cons, mm_v2]
  refine W.bald hx hb (v := mm_v bs ro (0, M c j.toNat)) ha ((hK.2 1 _ rfl).1 len _) (fun h => by cases h) (by rw [arrV_size]; exact mm_i_in h0 h1 (by omega)) ?_ rfl rfl (by simpa using hd.1) (k p l e R s m args below meth cd D cA bs ro H locs lsr Cx hP hS hL)
  rw [mm_i_clamp h0 (by omega), arrV_read _ _ (by omega)]
  rfl
theorem mm_zald (hd : mm_D Y.2.1 pc q .baload) (hq : pc + 1 = q) (hr : r = (c : Int) + 1) (hc : c < n) (hs : mm_sh c = (3, len)) (h0 : 0 ≤ j) (h1 : j < len) (k : mm_J X Y n0 n1 n q ls ((0, M c j.toNat) :: st) M Φ) : mm_J X Y n0 n1 n pc ls ((0, j) :: (2, r) :: st) M Φ := by
  subst hq; subst hr
  intro p l e R s m args below meth cd D cA bs ro H locs lsr Cx hP hS hL
  obtain ⟨hx, hb, -, -, hown, hT, -, -, -, -, -, -, -, hK, -, -⟩ := id Cx
  have ha := (hP.2 c hc).arr hs
  have hl := (mm_shA c hs).1
  rw [List.map_cons, List.map_cons, mm_v2]
  refine W.zald hx hb (v := mm_v bs ro (0, M c j.toNat)) ha ((hK.2 2 _ rfl).1 len _) (fun h => by cases h) (by rw [arrV_size]; exact mm_i_in h0 h1 (by omega)) ?_ rfl rfl (by simpa using hd.1) (k p l e R s m args below meth cd D cA bs ro H locs lsr Cx hP hS hL)
  rw [mm_i_clamp h0 (by omega), arrV_read _ _ (by omega)]
  rfl
theorem mm_lald (hd : mm_D Y.2.1 pc q .laload) (hq : pc + 1 = q) (hr : r = (c : Int) + 1) (hc : c < n) (hs : mm_sh c = (4, len)) (h0 : 0 ≤ j) (h1 : j < len) (k : mm_J X Y n0 n1 n q ls ((1, M c j.toNat) :: st) M Φ) : mm_J X Y n0 n1 n pc ls ((0, j) :: (2, r) :: st) M Φ := by
  subst hq; subst hr
  intro p l e R s m args below meth cd D cA bs ro H locs lsr Cx hP hS hL
  obtain ⟨hx, hb, -, -, hown, hT, -, -, -, -, -, -, -, hK, -, -⟩ := id Cx
  have ha := (hP.2 c hc).arr hs
  have hl := (mm_shA c hs).1
  rw [List.map_cons, List.map_cons, mm_v2]
  refine W.lald hx hb (v := mm_v bs ro (1, M c j.toNat)) ha ((hK.2 3 _ rfl).1 len _) (fun h => by cases h) (by rw [arrV_size]; exact mm_i_in h0 h1 (by omega)) ?_ rfl rfl (by simpa using hd.1) (k p l e R s m args below meth cd D cA bs ro H locs lsr Cx hP hS hL)
  rw [mm_i_clamp h0 (by omega), arrV_read _ _ (by omega)]
  rfl
theorem mm_aald (hd : mm_D Y.2.1 pc q .aaload) (hq : pc + 1 = q) (hr : r = (c : Int) + 1) (hc : c < n) (hs : mm_sh c = (5, len)) (h0 : 0 ≤ j) (h1 : j < len) (k : mm_J X Y n0 n1 n q ls ((2, M c j.toNat) :: st) M Φ) : mm_J X Y n0 n1 n pc ls ((0, j) :: (2, r) :: st) M Φ := by
  subst hq; subst hr
  intro p l e R s m args below meth cd D cA bs ro H locs lsr Cx hP hS hL
  obtain ⟨hx, hb, -, -, hown, hT, -, -, -, -, -, -, -, hK, -, -⟩ := id Cx
  have ha := (hP.2 c hc).arr hs
  have hl := (mm_shA c hs).1
  rw [List.map_cons, List.map_cons, mm_v2]
  refine W.aald hx hb (v := mm_v bs ro (2, M c j.toNat)) ha ((hK.2 4 _ rfl).1 len _) rfl (fun h => by cases h) (by rw [arrV_size]; exact mm_i_in h0 h1 (by omega)) ?_ rfl rfl (by simpa using hd.1) (k p l e R s m args below meth cd D cA bs ro H locs lsr Cx hP hS hL)
  rw [mm_i_clamp h0 (by omega), arrV_read _ _ (by omega)]
  rfl
end
