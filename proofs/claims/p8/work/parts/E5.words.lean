/-! ===== words of the premises ===== -/
theorem mm_wq {w : Jvm.Cond} (k i : Nat) (h : ([tables_1_1, tables_1_2, tables_1_3, tables_1_4, tables_1_5, tables_1_6, tables_1_7, tables_1_8, tables_1_9, tables_1_10].getD k [])[i]? = some w) : w ∈ lw_tbl ∧ True := ⟨List.mem_append_right _ (mm_chunk k (List.mem_of_getElem? h)), trivial⟩
abbrev kS_tm (k : Nat) : Term := .string (mm_sc.getD k mm_sd).1 (mm_sc.getD k mm_sd).2.1
abbrev kS_fl : List Cond := flatC (Jvm.Cond.and given_1 narrow_1)
/-- the words of E stand in L, in this order -/
def kS_sub : List Cond → List Cond → Bool
  | [], E => E.isEmpty
  | b :: l, E => match E with
    | [] => true
    | a :: e => bif decide (a = b) then kS_sub l e else kS_sub l (a :: e)
theorem kS_sub_mem : ∀ (L E : List Cond), kS_sub L E = true → ∀ w ∈ E, w ∈ L
  | [], [], _, w, hw => absurd hw (List.not_mem_nil)
  | [], a :: e, h, w, hw => absurd (show false = true from h) Bool.false_ne_true
  | b :: l, [], _, w, hw => absurd hw (List.not_mem_nil)
  | b :: l, a :: e, h, w, hw => by
    have h' : (bif decide (a = b) then kS_sub l e else kS_sub l (a :: e)) = true := h
    rcases Classical.em (a = b) with g | g
    · rw [decide_eq_true g] at h'
      have h2 : kS_sub l e = true := h'
      rcases List.mem_cons.mp hw with r | r
      · rw [r, g]; exact .head _
      · exact .tail _ (kS_sub_mem l e h2 w r)
    · rw [decide_eq_false g] at h'
      have h2 : kS_sub l (a :: e) = true := h'
      exact .tail _ (kS_sub_mem l (a :: e) h2 w hw)
def kS_E (k : Nat) : List Cond :=
  Cond.exactly (kS_tm k) "java/lang/String" :: Cond.eq (.field (kS_tm k) "java/lang/String" "coder" "B") (.int 0) :: Cond.arrayOf (.field (kS_tm k) "java/lang/String" "value" "[B") .byte ::
    Cond.eq (.length (.field (kS_tm k) "java/lang/String" "value" "[B")) (.int (Int32.ofNat (mm_sc.getD k mm_sd).2.2.2.length)) ::
    (List.range (mm_sc.getD k mm_sd).2.2.2.length).map (fun j => Cond.eq (.elem (.field (kS_tm k) "java/lang/String" "value" "[B") (.int (Int32.ofNat j))) (.int (mm_i ((mm_sc.getD k mm_sd).2.2.2.getD j 0))))
theorem kS_all : kS_sub kS_fl ((List.range 37).flatMap kS_E) = true := by decide +kernel
theorem kS_in {k : Nat} (hk : k < 37) {w : Cond} (h : w ∈ kS_E k) : w ∈ kS_fl := kS_sub_mem _ _ kS_all w (List.mem_flatMap.mpr ⟨k, List.mem_range.mpr hk, h⟩)
theorem kS_1 : ∀ k, k < 37 → Cond.exactly (kS_tm k) "java/lang/String" ∈ kS_fl := fun _ hk => kS_in hk (.head _)
theorem kS_2 : ∀ k, k < 37 → Cond.eq (.field (kS_tm k) "java/lang/String" "coder" "B") (.int 0) ∈ kS_fl := fun _ hk => kS_in hk (.tail _ (.head _))
theorem kS_3 : ∀ k, k < 37 → Cond.arrayOf (.field (kS_tm k) "java/lang/String" "value" "[B") .byte ∈ kS_fl := fun _ hk => kS_in hk (.tail _ (.tail _ (.head _)))
theorem kS_4 : ∀ k, k < 37 → Cond.eq (.length (.field (kS_tm k) "java/lang/String" "value" "[B")) (.int (Int32.ofNat (mm_sc.getD k mm_sd).2.2.2.length)) ∈ kS_fl := fun _ hk => kS_in hk (.tail _ (.tail _ (.tail _ (.head _))))
theorem kS_5 : ∀ k, k < 37 → ∀ j, j < (mm_sc.getD k mm_sd).2.2.2.length → Cond.eq (.elem (.field (kS_tm k) "java/lang/String" "value" "[B") (.int (Int32.ofNat j))) (.int (mm_i ((mm_sc.getD k mm_sd).2.2.2.getD j 0))) ∈ kS_fl :=
  fun _ hk j hj => kS_in hk (.tail _ (.tail _ (.tail _ (.tail _ (List.mem_map.mpr ⟨j, List.mem_range.mpr hj, rfl⟩)))))
theorem kS_6 : ∀ k, k < 37 → (mm_sc.getD k mm_sd).2.2.2.length < 2 ^ 31 := by decide +kernel
abbrev kS_ar (k : Nat) : Term := .static (mm_ct.getD k ("", "", [])).1 (mm_ct.getD k ("", "", [])).2.1 "[I"
def kS_A (k : Nat) : List Cond :=
  Cond.arrayOf (kS_ar k) .int :: Cond.eq (.length (kS_ar k)) (.int (Int32.ofNat 10)) :: (List.range 10).map (fun j => Cond.eq (.elem (kS_ar k) (.int (Int32.ofNat j))) (.int (mm_i (((mm_ct.getD k ("", "", [])).2.2).getD j 0))))
theorem kS_aa : ∀ k, k < 6 → kS_sub kS_fl (kS_A k) = true := by decide +kernel
theorem kS_7 : ∀ k, k < 6 → Cond.arrayOf (kS_ar k) .int ∈ kS_fl := fun k hk => kS_sub_mem _ _ (kS_aa k hk) _ (.head _)
theorem kS_8 : ∀ k, k < 6 → Cond.eq (.length (kS_ar k)) (.int (Int32.ofNat 10)) ∈ kS_fl := fun k hk => kS_sub_mem _ _ (kS_aa k hk) _ (.tail _ (.head _))
theorem kS_9 : ∀ k, k < 6 → ∀ j, j < 10 → Cond.eq (.elem (kS_ar k) (.int (Int32.ofNat j))) (.int (mm_i (((mm_ct.getD k ("", "", [])).2.2).getD j 0))) ∈ kS_fl := fun k hk j hj => kS_sub_mem _ _ (kS_aa k hk) _ (.tail _ (.tail _ (List.mem_map.mpr ⟨j, List.mem_range.mpr hj, rfl⟩)))
theorem kS_10 : Cond.eq (.static "java/lang/String" "COMPACT_STRINGS" "Z") (.int 1) ∈ kS_fl := by decide +kernel
theorem kS_11 : ∀ j, j < 3 → Cond.isRef (.static (mm_zq.getD j ("", "", "")).1 (mm_zq.getD j ("", "", "")).2.1 (mm_zq.getD j ("", "", "")).2.2) ∈ kS_fl := by decide +kernel
theorem kS_w1 : ∀ k, k < 37 → Cond.stringRef (mm_sc.getD k mm_sd).1 (mm_sc.getD k mm_sd).2.1 (mm_sc.getD k mm_sd).2.2.1 ∈ lw_tbl := by
  intro k hk
  match k, hk with
  | 0, _ => exact (mm_wq 2 129 rfl).1
  | 1, _ => exact (mm_wq 3 2 rfl).1
  | 2, _ => exact (mm_wq 3 13 rfl).1
  | 3, _ => exact (mm_wq 3 14 rfl).1
  | 4, _ => exact (mm_wq 3 17 rfl).1
  | 5, _ => exact (mm_wq 3 26 rfl).1
  | 6, _ => exact (mm_wq 3 27 rfl).1
  | 7, _ => exact (mm_wq 7 85 rfl).1
  | 8, _ => exact (mm_wq 7 92 rfl).1
  | 9, _ => exact (mm_wq 7 93 rfl).1
  | 10, _ => exact (mm_wq 7 94 rfl).1
  | 11, _ => exact (mm_wq 7 95 rfl).1
  | 12, _ => exact (mm_wq 7 96 rfl).1
  | 13, _ => exact (mm_wq 7 97 rfl).1
  | 14, _ => exact (mm_wq 7 98 rfl).1
  | 15, _ => exact (mm_wq 7 99 rfl).1
  | 16, _ => exact (mm_wq 7 100 rfl).1
  | 17, _ => exact (mm_wq 7 101 rfl).1
  | 18, _ => exact (mm_wq 7 102 rfl).1
  | 19, _ => exact (mm_wq 7 139 rfl).1
  | 20, _ => exact (mm_wq 7 148 rfl).1
  | 21, _ => exact (mm_wq 7 149 rfl).1
  | 22, _ => exact (mm_wq 7 150 rfl).1
  | 23, _ => exact (mm_wq 7 151 rfl).1
  | 24, _ => exact (mm_wq 7 152 rfl).1
  | 25, _ => exact (mm_wq 7 153 rfl).1
  | 26, _ => exact (mm_wq 7 154 rfl).1
  | 27, _ => exact (mm_wq 7 156 rfl).1
  | 28, _ => exact (mm_wq 7 157 rfl).1
  | 29, _ => exact (mm_wq 7 162 rfl).1
  | 30, _ => exact (mm_wq 7 163 rfl).1
  | 31, _ => exact (mm_wq 7 164 rfl).1
  | 32, _ => exact (mm_wq 7 165 rfl).1
  | 33, _ => exact (mm_wq 7 166 rfl).1
  | 34, _ => exact (mm_wq 7 171 rfl).1
  | 35, _ => exact (mm_wq 7 172 rfl).1
  | 36, _ => exact (mm_wq 7 173 rfl).1
  | k + 37, h => exact absurd h (by omega)
theorem kS_w2 : ∀ k, k < 6 → Cond.laysStatic (mm_ct.getD k ("", "", [])).1 (mm_ct.getD k ("", "", [])).2.1 "[I" ∈ lw_tbl := by
  intro k hk
  match k, hk with
  | 0, _ => exact (mm_wq 2 207 rfl).1
  | 1, _ => exact (mm_wq 2 209 rfl).1
  | 2, _ => exact (mm_wq 0 82 rfl).1
  | 3, _ => exact (mm_wq 5 183 rfl).1
  | 4, _ => exact (mm_wq 7 120 rfl).1
  | 5, _ => exact (mm_wq 7 122 rfl).1
  | k + 6, h => exact absurd h (by omega)
theorem kS_w3 : ∀ k, k < 6 → Cond.initialized (mm_ct.getD k ("", "", [])).1 ∈ lw_tbl := by
  intro k hk
  match k, hk with
  | 0, _ => exact (mm_wq 0 3 rfl).1
  | 1, _ => exact (mm_wq 0 3 rfl).1
  | 2, _ => exact (mm_wq 0 3 rfl).1
  | 3, _ => exact (mm_wq 0 16 rfl).1
  | 4, _ => exact (mm_wq 0 16 rfl).1
  | 5, _ => exact (mm_wq 0 16 rfl).1
  | k + 6, h => exact absurd h (by omega)
theorem kS_w4 : ∀ k, k < 3 → Cond.laysStatic (mm_zq.getD k ("", "", "")).1 (mm_zq.getD k ("", "", "")).2.1 (mm_zq.getD k ("", "", "")).2.2 ∈ lw_tbl := by
  intro k hk
  match k, hk with
  | 0, _ => exact (mm_wq 2 159 rfl).1
  | 1, _ => exact (mm_wq 5 145 rfl).1
  | 2, _ => exact (mm_wq 5 143 rfl).1
  | k + 3, h => exact absurd h (by omega)
theorem kS_w5 : ∀ k, k < 3 → Cond.initialized (mm_zq.getD k ("", "", "")).1 ∈ lw_tbl := by
  intro k hk
  match k, hk with
  | 0, _ => exact (mm_wq 0 22 rfl).1
  | 1, _ => exact (mm_wq 0 17 rfl).1
  | 2, _ => exact (mm_wq 0 17 rfl).1
  | k + 3, h => exact absurd h (by omega)
theorem kS_w6 : ∀ q ∈ mm_nw, Cond.methodLinkNest q.1 q.2.1 q.2.2.1 q.2.2.2 ∈ lw_tbl := by
  intro q hq
  unfold mm_nw at hq
  simp only [List.mem_cons, List.mem_nil_iff, or_false] at hq
  rcases hq with rfl | rfl | rfl | rfl
  · exact List.mem_append_right _ (mm_chunk 3 (List.mem_of_getElem? (i := 41) rfl))
  · exact List.mem_append_right _ (mm_chunk 5 (List.mem_of_getElem? (i := 85) rfl))
  · exact List.mem_append_right _ (mm_chunk 2 (List.mem_of_getElem? (i := 203) rfl))
  · exact List.mem_append_right _ (mm_chunk 0 (List.mem_of_getElem? (i := 35) rfl))
theorem kS_w7 : Cond.arrayOver (.object "KitePower$Row") ∈ lw_tbl := List.mem_append_right _ (mm_chunk 0 (List.mem_of_getElem? (i := 212) rfl))

