/-! ===== stores into arrays, what is only read, returns ===== -/
section
variable {X : mm_X} {Y : mm_Y} {n0 n1 n pc q t c ci i idx len kd : Nat} {ls st : List mm_V} {M : mm_M} {Φ : mm_V → mm_M → Prop} {x y r j : Int}
theorem mm_arr_put {D : va_G} {cA : Nat → ClassId} {bs : Nat} {ro : Nat → Nat} {H H' : Heap} {a : Nat} {v : Value} (hs : mm_sh c = (t + 1, len)) (hP : mm_Wd D cA bs ro n M H) (hv : v = mm_v bs ro (mm_ek t, x))
    (e1 : H'[bs + c]? = some ((arrV (cA t) len (fun j => mm_v bs ro (mm_ek t, M c j))).setSlot a v)) (e2 : H'.size = H.size) (e3 : ∀ q, q ≠ bs + c → H'[q]? = H[q]?) : mm_Wd D cA bs ro n (mm_up M c a x) H' := by
  refine hP.put e2 e3 (fun b hb => mm_up_row hb) (mm_ce.of_arr hs ?_)
  rw [e1, arrV_store, hv]
  congr 2
  funext b
  unfold updV
  by_cases eb : b = a
  · subst eb; rw [if_pos rfl, mm_up_s]
  · rw [if_neg eb, mm_up_i eb]
theorem mm_iast (hd : mm_D Y.2.1 pc q .iastore) (hq : pc + 1 = q) (hr : r = (c : Int) + 1) (hc : c < n) (hs : mm_sh c = (1, len)) (h0 : 0 ≤ j) (h1 : j < len) (k : mm_J X Y n0 n1 n q ls st (mm_up M c j.toNat x) Φ) : mm_J X Y n0 n1 n pc ls ((0, x) :: (0, j) :: (2, r) :: st) M Φ := by
  subst hq; subst hr
  intro p l e R s m args below meth cd D cA bs ro H locs lsr Cx hP hS hL
  obtain ⟨hx, hb, -, -, hown, hT, -, -, -, -, -, -, -, hK, -, -⟩ := id Cx
  have ha := (hP.2 c hc).arr hs
  have hl := (mm_shA c hs).1
  rw [List.map_cons, List.map_cons, List.map_cons, mm_v2]
  refine W.iast hx hb ha ((hK.2 0 _ rfl).1 len _) (fun h => by cases h) (by rw [arrV_size]; exact mm_i_in h0 h1 (by omega)) rfl rfl (by simpa using hd.1) fun H' e1 e2 e3 => ?_
  rw [mm_i_clamp h0 (by omega)] at e1 ⊢
  exact k p l e R s m args below meth cd D cA bs ro H' _ lsr Cx (mm_arr_put (t := 0) hs hP rfl e1 e2 e3) (hS.put e2 e3 (Nat.le_add_right bs c)) hL
theorem mm_bast (hd : mm_D Y.2.1 pc q .bastore) (hq : pc + 1 = q) (hr : r = (c : Int) + 1) (hc : c < n) (hs : mm_sh c = (2, len)) (h0 : 0 ≤ j) (h1 : j < len) (hb0 : -128 ≤ x ∧ x ≤ 127) (k : mm_J X Y n0 n1 n q ls st (mm_up M c j.toNat x) Φ) : mm_J X Y n0 n1 n pc ls ((0, x) :: (0, j) :: (2, r) :: st) M Φ := by
  subst hq; subst hr
  intro p l e R s m args below meth cd D cA bs ro H locs lsr Cx hP hS hL
  obtain ⟨hx, hb, -, -, hown, hT, -, -, -, -, -, -, -, hK, -, -⟩ := id Cx
  have ha := (hP.2 c hc).arr hs
  have hl := (mm_shA c hs).1
  rw [List.map_cons, List.map_cons, List.map_cons, mm_v2]
  refine W.bast hx hb ha ((hK.2 1 _ rfl).1 len _) (fun h => by cases h) (by rw [arrV_size]; exact mm_i_in h0 h1 (by omega)) rfl rfl (by simpa using hd.1) fun H' e1 e2 e3 => ?_
  rw [mm_i_clamp h0 (by omega)] at e1 ⊢
  refine k p l e R s m args below meth cd D cA bs ro H' _ lsr Cx (mm_arr_put (t := 1) hs hP ?_ e1 e2 e3) (hS.put e2 e3 (Nat.le_add_right bs c)) hL
  show Value.int (mm_i x).toInt8.toInt32 = Value.int (mm_i x)
  congr 1
  rw [← Int32.toInt_inj, Int8.toInt_toInt32, Int32.toInt_toInt8, mm_i_to (by omega)]
  exact Int.bmod_eq_of_le (by omega) (by omega)
theorem mm_zast (hd : mm_D Y.2.1 pc q .bastore) (hq : pc + 1 = q) (hr : r = (c : Int) + 1) (hc : c < n) (hs : mm_sh c = (3, len)) (h0 : 0 ≤ j) (h1 : j < len) (hb0 : x = 0 ∨ x = 1) (k : mm_J X Y n0 n1 n q ls st (mm_up M c j.toNat x) Φ) : mm_J X Y n0 n1 n pc ls ((0, x) :: (0, j) :: (2, r) :: st) M Φ := by
  subst hq; subst hr
  intro p l e R s m args below meth cd D cA bs ro H locs lsr Cx hP hS hL
  obtain ⟨hx, hb, -, -, hown, hT, -, -, -, -, -, -, -, hK, -, -⟩ := id Cx
  have ha := (hP.2 c hc).arr hs
  have hl := (mm_shA c hs).1
  rw [List.map_cons, List.map_cons, List.map_cons, mm_v2]
  refine W.zast hx hb ha ((hK.2 2 _ rfl).1 len _) (fun h => by cases h) (by rw [arrV_size]; exact mm_i_in h0 h1 (by omega)) rfl rfl (by simpa using hd.1) fun H' e1 e2 e3 => ?_
  rw [mm_i_clamp h0 (by omega)] at e1 ⊢
  refine k p l e R s m args below meth cd D cA bs ro H' _ lsr Cx (mm_arr_put (t := 2) hs hP ?_ e1 e2 e3) (hS.put e2 e3 (Nat.le_add_right bs c)) hL
  rcases hb0 with rfl | rfl <;> rfl
theorem mm_last (hd : mm_D Y.2.1 pc q .lastore) (hq : pc + 1 = q) (hr : r = (c : Int) + 1) (hc : c < n) (hs : mm_sh c = (4, len)) (h0 : 0 ≤ j) (h1 : j < len) (k : mm_J X Y n0 n1 n q ls st (mm_up M c j.toNat x) Φ) : mm_J X Y n0 n1 n pc ls ((1, x) :: (0, j) :: (2, r) :: st) M Φ := by
  subst hq; subst hr
  intro p l e R s m args below meth cd D cA bs ro H locs lsr Cx hP hS hL
  obtain ⟨hx, hb, -, -, hown, hT, -, -, -, -, -, -, -, hK, -, -⟩ := id Cx
  have ha := (hP.2 c hc).arr hs
  have hl := (mm_shA c hs).1
  rw [List.map_cons, List.map_cons, List.map_cons, mm_v2]
  refine W.last hx hb ha ((hK.2 3 _ rfl).1 len _) (fun h => by cases h) (by rw [arrV_size]; exact mm_i_in h0 h1 (by omega)) rfl rfl (by simpa using hd.1) fun H' e1 e2 e3 => ?_
  rw [mm_i_clamp h0 (by omega)] at e1 ⊢
  exact k p l e R s m args below meth cd D cA bs ro H' _ lsr Cx (mm_arr_put (t := 3) hs hP rfl e1 e2 e3) (hS.put e2 e3 (Nat.le_add_right bs c)) hL
/-- a load from the script, or from a constant table -/
theorem mm_roT {bs : Nat} {ro : Nat → Nat} {s : State} {k : Nat} (h : mm_Ro X bs ro s) (hk : 1 ≤ k ∧ k ≤ 7) : va_T .int (ro k) (mm_rc X k).1 (fun j => .int (mm_i ((mm_rc X k).2 j))) (fun q => bs ≤ q) s s.heap := by
  rcases Nat.eq_or_lt_of_le hk.1 with e | e
  · subst e; exact h.1
  · have := (h.2.1 (k - 2) (by omega)).2
    have e2 : k - 2 + 2 = k := by omega
    rw [e2] at this
    have e3 : (mm_rc X k).1 = 10 := by
      unfold mm_rc
      split
      · omega
      · rfl
    rw [e3]
    exact this
theorem mm_iaro {k0 : Nat} (hd : mm_D Y.2.1 pc q .iaload) (hq : pc + 1 = q) (hr : r = -(k0 : Int)) (hk : 1 ≤ k0 ∧ k0 ≤ 7) (h0 : 0 ≤ j) (h1 : j < ((mm_rc X k0).1 : Int)) (hlt : (mm_rc X k0).1 ≤ 2147483647) (k : mm_J X Y n0 n1 n q ls ((0, (mm_rc X k0).2 j.toNat) :: st) M Φ) : mm_J X Y n0 n1 n pc ls ((0, j) :: (2, r) :: st) M Φ := by
  subst hq; subst hr
  intro p l e R s m args below meth cd D cA bs ro H locs lsr Cx hP hS hL
  obtain ⟨hx, hb, -, -, hown, hT, -, -, -, -, -, -, -, hK, hRo, -⟩ := id Cx
  obtain ⟨cell, g1, g2, g3, g4, g5, g6, g7⟩ := mm_roT hRo hk
  have hb2 : ro k0 < s.heap.size := (Array.getElem?_eq_some_iff.mp g1).1
  rw [List.map_cons, List.map_cons, mm_v2n _ _ _ (by omega)]
  refine W.iald hx hb (v := .int (mm_i ((mm_rc X k0).2 j.toNat))) (by rw [hS.2.1 _ hb2 g7]; exact g1) g2 g3 ?_ ?_ rfl rfl (by simpa using hd.1) (k p l e R s m args below meth cd D cA bs ro H locs lsr Cx hP hS hL)
  · have := mm_i_in h0 h1 hlt
    intro h
    apply this
    rcases h with h | h
    · exact Or.inl h
    · exact Or.inr (Nat.le_trans g4 h)
  · rw [mm_i_clamp h0 (by omega)]
    exact g6 _ (by omega)
theorem mm_alro {k0 : Nat} (hd : mm_D Y.2.1 pc q .arraylength) (hq : pc + 1 = q) (hr : r = -(k0 : Int)) (hk : 1 ≤ k0 ∧ k0 ≤ 7) (k : mm_J X Y n0 n1 n q ls ((0, ((mm_rc X k0).1 : Int)) :: st) M Φ) : mm_J X Y n0 n1 n pc ls ((2, r) :: st) M Φ := by
  subst hq; subst hr
  intro p l e R s m args below meth cd D cA bs ro H locs lsr Cx hP hS hL
  obtain ⟨hx, hb, -, -, hown, hT, -, -, -, -, -, -, -, hK, hRo, -⟩ := id Cx
  obtain ⟨cell, g1, g2, g3, g4, g5, g6, g7⟩ := mm_roT hRo hk
  have hb2 : ro k0 < s.heap.size := (Array.getElem?_eq_some_iff.mp g1).1
  rw [List.map_cons, mm_v2n _ _ _ (by omega)]
  refine W.alen hx hb (n := mm_i (((mm_rc X k0).1 : Nat) : Int)) (by rw [hS.2.1 _ hb2 g7]; exact g1) g2 ?_ rfl rfl (by simpa using hd.1) (k p l e R s m args below meth cd D cA bs ro H locs lsr Cx hP hS hL)
  rw [g5]
  exact (Int32.ofInt_eq_ofNat).symm
/-- a constant table, by its static field -/
theorem mm_gets {k0 : Nat} (hd : mm_D Y.2.1 pc q (.getstatic idx)) (hq : pc + 3 = q) (hk : k0 < 6) (hw : mm_Wk (.fieldLink Y.1.cls idx (mm_ct.getD k0 ("", "", [])).1 (mm_ct.getD k0 ("", "", [])).2.1 "[I")) (k : mm_J X Y n0 n1 n q ls ((2, -((k0 + 2 : Nat) : Int)) :: st) M Φ) : mm_J X Y n0 n1 n pc ls st M Φ := by
  subst hq
  intro p l e R s m args below meth cd D cA bs ro H locs lsr Cx hP hS hL
  obtain ⟨hx, hb, -, -, hown, hT, -, -, -, -, -, -, -, hK, hRo, -⟩ := id Cx
  have kk := k p l e R s m args below meth cd D cA bs ro H locs lsr Cx hP hS hL
  rw [List.map_cons, mm_v2n _ _ _ (by omega)] at kk
  exact va_gets hx hb (hRo.2.1 k0 hk).1 hS hown (hT.at hw) (fun _ h => h) (by simpa using hd.1) kk
/-- the constants of the pool -/
theorem mm_ldc {v : Int} (hd : mm_D Y.2.1 pc q (.ldc idx)) (hq : pc + 2 = q) (hw : mm_Wk (.constant Y.1.cls idx (mm_i v))) (k : mm_J X Y n0 n1 n q ls ((0, v) :: st) M Φ) : mm_J X Y n0 n1 n pc ls st M Φ := by
  subst hq
  intro p l e R s m args below meth cd D cA bs ro H locs lsr Cx hP hS hL
  obtain ⟨hx, hb, -, -, hown, hT, -, -, -, -, -, -, -, hK, hRo, -⟩ := id Cx
  exact lv_ldc hx hb hown (hT.at hw) (by simpa using hd.1) (k p l e R s m args below meth cd D cA bs ro H locs lsr Cx hP hS hL)
theorem mm_ldcw {v : Int} (hd : mm_D Y.2.1 pc q (.ldc_w idx)) (hq : pc + 3 = q) (hw : mm_Wk (.constant Y.1.cls idx (mm_i v))) (k : mm_J X Y n0 n1 n q ls ((0, v) :: st) M Φ) : mm_J X Y n0 n1 n pc ls st M Φ := by
  subst hq
  intro p l e R s m args below meth cd D cA bs ro H locs lsr Cx hP hS hL
  obtain ⟨hx, hb, -, -, hown, hT, -, -, -, -, -, -, -, hK, hRo, -⟩ := id Cx
  exact lv_ldcw hx hb hown (hT.at hw) (by simpa using hd.1) (k p l e R s m args below meth cd D cA bs ro H locs lsr Cx hP hS hL)
theorem mm_ldc2 {v : Int} (hd : mm_D Y.2.1 pc q (.ldc2_w idx)) (hq : pc + 3 = q) (hw : mm_Wk (.constantLong Y.1.cls idx (mm_l v))) (k : mm_J X Y n0 n1 n q ls ((1, v) :: st) M Φ) : mm_J X Y n0 n1 n pc ls st M Φ := by
  subst hq
  intro p l e R s m args below meth cd D cA bs ro H locs lsr Cx hP hS hL
  obtain ⟨hx, hb, -, -, hown, hT, -, -, -, -, -, -, -, hK, hRo, -⟩ := id Cx
  exact lv_ldc2 hx hb hown (hT.at hw) (by simpa using hd.1) (k p l e R s m args below meth cd D cA bs ro H locs lsr Cx hP hS hL)
/-- the ends -/
theorem mm_end {p : Program} {R : Room} {s : State} {m : MethodId} {args : Array Value} {below : List Frame} {meth : Method} {cd : Code} {D : va_G} {cA : Nat → ClassId} {bs : Nat} {ro : Nat → Nat} {H : Heap} {locs : List Loc} {rv : mm_V} {o : Outcome} (ho : mm_oc bs ro rv o) (hP : mm_Wd D cA bs ro n1 M H) (hS : va_S (fun q => bs ≤ q) s.heap H locs) (hΦ : Φ rv M) :
    ∀ t : State, MQ below (fun _ _ o' t => o' = o ∧ t.heap = H) args s (n1 - n0) (mm_sz n1 - mm_sz n0) (fun q => bs ≤ q) t → mm_E D cA bs ro n0 n1 Φ below s t := by
  rintro t ⟨o', h1, h2, ⟨rfl, h4⟩, L, ⟨-, h6, h7⟩, h8⟩
  exact ⟨o', rv, M, L, h1, h2, ho, hΦ, by rw [h4]; exact hP, hS.F h4, h6, h7, h8⟩
theorem mm_iret (hd : mm_D Y.2.1 pc q .ireturn) (hq : pc + 1 = q) (hr : Y.2.2.2.1 = some .int) (hΦ : Φ (0, x) M) : mm_J X Y n0 n n pc ls [(0, x)] M Φ := by
  subst hq
  intro p l e R s m args below meth cd D cA bs ro H locs lsr Cx hP hS hL
  obtain ⟨hx, hb, hrt, -, hown, hT, hlk, -, -, -, -, -, -, hK, hRo, -⟩ := id Cx
  refine mm_mono (W.iret (Qc := fun _ _ o' t => o' = .returned (some (.int (mm_i x))) ∧ t.heap = H) (free := fun q => bs ≤ q) hx hb (hrt.trans hr) (fun t h1 h2 => ⟨rfl, h1⟩) hS.2.2 (by simpa using hd.1) hlk) (mm_end (p := p) (R := R) (m := m) (meth := meth) (cd := cd) (rv := (0, x)) rfl hP hS hΦ)
theorem mm_zret (hd : mm_D Y.2.1 pc q .ireturn) (hq : pc + 1 = q) (hr : Y.2.2.2.1 = some .boolean) (hz : x = 0 ∨ x = 1) (hΦ : Φ (0, x) M) : mm_J X Y n0 n n pc ls [(0, x)] M Φ := by
  subst hq
  intro p l e R s m args below meth cd D cA bs ro H locs lsr Cx hP hS hL
  obtain ⟨hx, hb, hrt, -, hown, hT, hlk, -, -, -, -, -, -, hK, hRo, -⟩ := id Cx
  refine mm_mono (W.zret (Qc := fun _ _ o' t => o' = .returned (some (.int (mm_i x))) ∧ t.heap = H) (free := fun q => bs ≤ q) hx hb (hrt.trans hr) (by rcases hz with rfl | rfl <;> rfl) (fun t h1 h2 => ⟨rfl, h1⟩) hS.2.2 (by simpa using hd.1) hlk) (mm_end (p := p) (R := R) (m := m) (meth := meth) (cd := cd) (rv := (0, x)) rfl hP hS hΦ)
theorem mm_lret (hd : mm_D Y.2.1 pc q .lreturn) (hq : pc + 1 = q) (hr : Y.2.2.2.1 = some .long) (hΦ : Φ (1, x) M) : mm_J X Y n0 n n pc ls [(1, x)] M Φ := by
  subst hq
  intro p l e R s m args below meth cd D cA bs ro H locs lsr Cx hP hS hL
  obtain ⟨hx, hb, hrt, -, hown, hT, hlk, -, -, -, -, -, -, hK, hRo, -⟩ := id Cx
  refine mm_mono (W.lret (Qc := fun _ _ o' t => o' = .returned (some (.long (mm_l x))) ∧ t.heap = H) (free := fun q => bs ≤ q) hx hb (hrt.trans hr) (fun t h1 h2 => ⟨rfl, h1⟩) hS.2.2 (by simpa using hd.1) hlk) (mm_end (p := p) (R := R) (m := m) (meth := meth) (cd := cd) (rv := (1, x)) rfl hP hS hΦ)
theorem mm_vret (hd : mm_D Y.2.1 pc q .return_) (hq : pc + 1 = q) (hr : Y.2.2.2.1 = none) (hΦ : Φ (3, 0) M) : mm_J X Y n0 n n pc ls [] M Φ := by
  subst hq
  intro p l e R s m args below meth cd D cA bs ro H locs lsr Cx hP hS hL
  obtain ⟨hx, hb, hrt, -, hown, hT, hlk, -, -, -, -, -, -, hK, hRo, -⟩ := id Cx
  refine mm_mono (W.vret (Qc := fun _ _ o' t => o' = .returned none ∧ t.heap = H) (free := fun q => bs ≤ q) hx hb (hrt.trans hr) (fun t h1 h2 => ⟨rfl, h1⟩) hS.2.2 (by simpa using hd.1) hlk) (mm_end (p := p) (R := R) (m := m) (meth := meth) (cd := cd) (rv := (3, 0)) rfl hP hS hΦ)
theorem mm_aret {rt : FieldType} (hd : mm_D Y.2.1 pc q .areturn) (hq : pc + 1 = q) (hr : Y.2.2.2.1 = some rt) (hrt2 : (∃ n, rt = .object n) ∨ ∃ t, rt = .array t) (hΦ : Φ (2, x) M) : mm_J X Y n0 n n pc ls [(2, x)] M Φ := by
  subst hq
  intro p l e R s m args below meth cd D cA bs ro H locs lsr Cx hP hS hL
  obtain ⟨hx, hb, hrt, -, hown, hT, hlk, -, -, -, -, -, -, hK, hRo, -⟩ := id Cx
  refine mm_mono (W.aret (v := mm_v bs ro (2, x)) (Qc := fun _ _ o' t => o' = .returned (some (mm_v bs ro (2, x))) ∧ t.heap = H) (free := fun q => bs ≤ q) hx hb (hrt.trans hr) hrt2 (mm_v2or bs ro x) (fun t h1 h2 => ⟨rfl, h1⟩) hS.2.2 (by simpa using hd.1) hlk) (mm_end (p := p) (R := R) (m := m) (meth := meth) (cd := cd) (rv := (2, x)) rfl hP hS hΦ)
end
