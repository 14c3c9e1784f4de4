/-! ===== words of the premises ===== -/
theorem mm_wq {w : Jvm.Cond} (k i : Nat) (h : ([tables_1_1, tables_1_2, tables_1_3, tables_1_4, tables_1_5, tables_1_6, tables_1_7, tables_1_8, tables_1_9, tables_1_10].getD k [])[i]? = some w) : w ∈ lw_tbl ∧ True := ⟨List.mem_append_right _ (mm_chunk k (List.mem_of_getElem? h)), trivial⟩
abbrev kS_tm (k : Nat) : Term := .string (mm_sc.getD k mm_sd).1 (mm_sc.getD k mm_sd).2.1
abbrev kS_fl : List Cond := flatC (Jvm.Cond.and given_1 narrow_1)
theorem kS_1 : ∀ k, k < 37 → Cond.exactly (kS_tm k) "java/lang/String" ∈ kS_fl := by decide +kernel
theorem kS_2 : ∀ k, k < 37 → Cond.eq (.field (kS_tm k) "java/lang/String" "coder" "B") (.int 0) ∈ kS_fl := by decide +kernel
theorem kS_3 : ∀ k, k < 37 → Cond.arrayOf (.field (kS_tm k) "java/lang/String" "value" "[B") .byte ∈ kS_fl := by decide +kernel
theorem kS_4 : ∀ k, k < 37 → Cond.eq (.length (.field (kS_tm k) "java/lang/String" "value" "[B")) (.int (Int32.ofNat (mm_sc.getD k mm_sd).2.2.2.length)) ∈ kS_fl := by decide +kernel
theorem kS_5_0 : ∀ j, j < (mm_sc.getD 0 mm_sd).2.2.2.length → Cond.eq (.elem (.field (kS_tm 0) "java/lang/String" "value" "[B") (.int (Int32.ofNat j))) (.int (mm_i ((mm_sc.getD 0 mm_sd).2.2.2.getD j 0))) ∈ kS_fl := by decide +kernel
theorem kS_5_1 : ∀ j, j < (mm_sc.getD 1 mm_sd).2.2.2.length → Cond.eq (.elem (.field (kS_tm 1) "java/lang/String" "value" "[B") (.int (Int32.ofNat j))) (.int (mm_i ((mm_sc.getD 1 mm_sd).2.2.2.getD j 0))) ∈ kS_fl := by decide +kernel
theorem kS_5_2 : ∀ j, j < (mm_sc.getD 2 mm_sd).2.2.2.length → Cond.eq (.elem (.field (kS_tm 2) "java/lang/String" "value" "[B") (.int (Int32.ofNat j))) (.int (mm_i ((mm_sc.getD 2 mm_sd).2.2.2.getD j 0))) ∈ kS_fl := by decide +kernel
theorem kS_5_3 : ∀ j, j < (mm_sc.getD 3 mm_sd).2.2.2.length → Cond.eq (.elem (.field (kS_tm 3) "java/lang/String" "value" "[B") (.int (Int32.ofNat j))) (.int (mm_i ((mm_sc.getD 3 mm_sd).2.2.2.getD j 0))) ∈ kS_fl := by decide +kernel
theorem kS_5_4 : ∀ j, j < (mm_sc.getD 4 mm_sd).2.2.2.length → Cond.eq (.elem (.field (kS_tm 4) "java/lang/String" "value" "[B") (.int (Int32.ofNat j))) (.int (mm_i ((mm_sc.getD 4 mm_sd).2.2.2.getD j 0))) ∈ kS_fl := by decide +kernel
theorem kS_5_5 : ∀ j, j < (mm_sc.getD 5 mm_sd).2.2.2.length → Cond.eq (.elem (.field (kS_tm 5) "java/lang/String" "value" "[B") (.int (Int32.ofNat j))) (.int (mm_i ((mm_sc.getD 5 mm_sd).2.2.2.getD j 0))) ∈ kS_fl := by decide +kernel
theorem kS_5_6 : ∀ j, j < (mm_sc.getD 6 mm_sd).2.2.2.length → Cond.eq (.elem (.field (kS_tm 6) "java/lang/String" "value" "[B") (.int (Int32.ofNat j))) (.int (mm_i ((mm_sc.getD 6 mm_sd).2.2.2.getD j 0))) ∈ kS_fl := by decide +kernel
theorem kS_5_7 : ∀ j, j < (mm_sc.getD 7 mm_sd).2.2.2.length → Cond.eq (.elem (.field (kS_tm 7) "java/lang/String" "value" "[B") (.int (Int32.ofNat j))) (.int (mm_i ((mm_sc.getD 7 mm_sd).2.2.2.getD j 0))) ∈ kS_fl := by decide +kernel
theorem kS_5_8 : ∀ j, j < (mm_sc.getD 8 mm_sd).2.2.2.length → Cond.eq (.elem (.field (kS_tm 8) "java/lang/String" "value" "[B") (.int (Int32.ofNat j))) (.int (mm_i ((mm_sc.getD 8 mm_sd).2.2.2.getD j 0))) ∈ kS_fl := by decide +kernel
theorem kS_5_9 : ∀ j, j < (mm_sc.getD 9 mm_sd).2.2.2.length → Cond.eq (.elem (.field (kS_tm 9) "java/lang/String" "value" "[B") (.int (Int32.ofNat j))) (.int (mm_i ((mm_sc.getD 9 mm_sd).2.2.2.getD j 0))) ∈ kS_fl := by decide +kernel
theorem kS_5_10 : ∀ j, j < (mm_sc.getD 10 mm_sd).2.2.2.length → Cond.eq (.elem (.field (kS_tm 10) "java/lang/String" "value" "[B") (.int (Int32.ofNat j))) (.int (mm_i ((mm_sc.getD 10 mm_sd).2.2.2.getD j 0))) ∈ kS_fl := by decide +kernel
theorem kS_5_11 : ∀ j, j < (mm_sc.getD 11 mm_sd).2.2.2.length → Cond.eq (.elem (.field (kS_tm 11) "java/lang/String" "value" "[B") (.int (Int32.ofNat j))) (.int (mm_i ((mm_sc.getD 11 mm_sd).2.2.2.getD j 0))) ∈ kS_fl := by decide +kernel
theorem kS_5_12 : ∀ j, j < (mm_sc.getD 12 mm_sd).2.2.2.length → Cond.eq (.elem (.field (kS_tm 12) "java/lang/String" "value" "[B") (.int (Int32.ofNat j))) (.int (mm_i ((mm_sc.getD 12 mm_sd).2.2.2.getD j 0))) ∈ kS_fl := by decide +kernel
theorem kS_5_13 : ∀ j, j < (mm_sc.getD 13 mm_sd).2.2.2.length → Cond.eq (.elem (.field (kS_tm 13) "java/lang/String" "value" "[B") (.int (Int32.ofNat j))) (.int (mm_i ((mm_sc.getD 13 mm_sd).2.2.2.getD j 0))) ∈ kS_fl := by decide +kernel
theorem kS_5_14 : ∀ j, j < (mm_sc.getD 14 mm_sd).2.2.2.length → Cond.eq (.elem (.field (kS_tm 14) "java/lang/String" "value" "[B") (.int (Int32.ofNat j))) (.int (mm_i ((mm_sc.getD 14 mm_sd).2.2.2.getD j 0))) ∈ kS_fl := by decide +kernel
theorem kS_5_15 : ∀ j, j < (mm_sc.getD 15 mm_sd).2.2.2.length → Cond.eq (.elem (.field (kS_tm 15) "java/lang/String" "value" "[B") (.int (Int32.ofNat j))) (.int (mm_i ((mm_sc.getD 15 mm_sd).2.2.2.getD j 0))) ∈ kS_fl := by decide +kernel
theorem kS_5_16 : ∀ j, j < (mm_sc.getD 16 mm_sd).2.2.2.length → Cond.eq (.elem (.field (kS_tm 16) "java/lang/String" "value" "[B") (.int (Int32.ofNat j))) (.int (mm_i ((mm_sc.getD 16 mm_sd).2.2.2.getD j 0))) ∈ kS_fl := by decide +kernel
theorem kS_5_17 : ∀ j, j < (mm_sc.getD 17 mm_sd).2.2.2.length → Cond.eq (.elem (.field (kS_tm 17) "java/lang/String" "value" "[B") (.int (Int32.ofNat j))) (.int (mm_i ((mm_sc.getD 17 mm_sd).2.2.2.getD j 0))) ∈ kS_fl := by decide +kernel
theorem kS_5_18 : ∀ j, j < (mm_sc.getD 18 mm_sd).2.2.2.length → Cond.eq (.elem (.field (kS_tm 18) "java/lang/String" "value" "[B") (.int (Int32.ofNat j))) (.int (mm_i ((mm_sc.getD 18 mm_sd).2.2.2.getD j 0))) ∈ kS_fl := by decide +kernel
theorem kS_5_19 : ∀ j, j < (mm_sc.getD 19 mm_sd).2.2.2.length → Cond.eq (.elem (.field (kS_tm 19) "java/lang/String" "value" "[B") (.int (Int32.ofNat j))) (.int (mm_i ((mm_sc.getD 19 mm_sd).2.2.2.getD j 0))) ∈ kS_fl := by decide +kernel
theorem kS_5_20 : ∀ j, j < (mm_sc.getD 20 mm_sd).2.2.2.length → Cond.eq (.elem (.field (kS_tm 20) "java/lang/String" "value" "[B") (.int (Int32.ofNat j))) (.int (mm_i ((mm_sc.getD 20 mm_sd).2.2.2.getD j 0))) ∈ kS_fl := by decide +kernel
theorem kS_5_21 : ∀ j, j < (mm_sc.getD 21 mm_sd).2.2.2.length → Cond.eq (.elem (.field (kS_tm 21) "java/lang/String" "value" "[B") (.int (Int32.ofNat j))) (.int (mm_i ((mm_sc.getD 21 mm_sd).2.2.2.getD j 0))) ∈ kS_fl := by decide +kernel
theorem kS_5_22 : ∀ j, j < (mm_sc.getD 22 mm_sd).2.2.2.length → Cond.eq (.elem (.field (kS_tm 22) "java/lang/String" "value" "[B") (.int (Int32.ofNat j))) (.int (mm_i ((mm_sc.getD 22 mm_sd).2.2.2.getD j 0))) ∈ kS_fl := by decide +kernel
theorem kS_5_23 : ∀ j, j < (mm_sc.getD 23 mm_sd).2.2.2.length → Cond.eq (.elem (.field (kS_tm 23) "java/lang/String" "value" "[B") (.int (Int32.ofNat j))) (.int (mm_i ((mm_sc.getD 23 mm_sd).2.2.2.getD j 0))) ∈ kS_fl := by decide +kernel
theorem kS_5_24 : ∀ j, j < (mm_sc.getD 24 mm_sd).2.2.2.length → Cond.eq (.elem (.field (kS_tm 24) "java/lang/String" "value" "[B") (.int (Int32.ofNat j))) (.int (mm_i ((mm_sc.getD 24 mm_sd).2.2.2.getD j 0))) ∈ kS_fl := by decide +kernel
theorem kS_5_25 : ∀ j, j < (mm_sc.getD 25 mm_sd).2.2.2.length → Cond.eq (.elem (.field (kS_tm 25) "java/lang/String" "value" "[B") (.int (Int32.ofNat j))) (.int (mm_i ((mm_sc.getD 25 mm_sd).2.2.2.getD j 0))) ∈ kS_fl := by decide +kernel
theorem kS_5_26 : ∀ j, j < (mm_sc.getD 26 mm_sd).2.2.2.length → Cond.eq (.elem (.field (kS_tm 26) "java/lang/String" "value" "[B") (.int (Int32.ofNat j))) (.int (mm_i ((mm_sc.getD 26 mm_sd).2.2.2.getD j 0))) ∈ kS_fl := by decide +kernel
theorem kS_5_27 : ∀ j, j < (mm_sc.getD 27 mm_sd).2.2.2.length → Cond.eq (.elem (.field (kS_tm 27) "java/lang/String" "value" "[B") (.int (Int32.ofNat j))) (.int (mm_i ((mm_sc.getD 27 mm_sd).2.2.2.getD j 0))) ∈ kS_fl := by decide +kernel
theorem kS_5_28 : ∀ j, j < (mm_sc.getD 28 mm_sd).2.2.2.length → Cond.eq (.elem (.field (kS_tm 28) "java/lang/String" "value" "[B") (.int (Int32.ofNat j))) (.int (mm_i ((mm_sc.getD 28 mm_sd).2.2.2.getD j 0))) ∈ kS_fl := by decide +kernel
theorem kS_5_29 : ∀ j, j < (mm_sc.getD 29 mm_sd).2.2.2.length → Cond.eq (.elem (.field (kS_tm 29) "java/lang/String" "value" "[B") (.int (Int32.ofNat j))) (.int (mm_i ((mm_sc.getD 29 mm_sd).2.2.2.getD j 0))) ∈ kS_fl := by decide +kernel
theorem kS_5_30 : ∀ j, j < (mm_sc.getD 30 mm_sd).2.2.2.length → Cond.eq (.elem (.field (kS_tm 30) "java/lang/String" "value" "[B") (.int (Int32.ofNat j))) (.int (mm_i ((mm_sc.getD 30 mm_sd).2.2.2.getD j 0))) ∈ kS_fl := by decide +kernel
theorem kS_5_31 : ∀ j, j < (mm_sc.getD 31 mm_sd).2.2.2.length → Cond.eq (.elem (.field (kS_tm 31) "java/lang/String" "value" "[B") (.int (Int32.ofNat j))) (.int (mm_i ((mm_sc.getD 31 mm_sd).2.2.2.getD j 0))) ∈ kS_fl := by decide +kernel
theorem kS_5_32 : ∀ j, j < (mm_sc.getD 32 mm_sd).2.2.2.length → Cond.eq (.elem (.field (kS_tm 32) "java/lang/String" "value" "[B") (.int (Int32.ofNat j))) (.int (mm_i ((mm_sc.getD 32 mm_sd).2.2.2.getD j 0))) ∈ kS_fl := by decide +kernel
theorem kS_5_33 : ∀ j, j < (mm_sc.getD 33 mm_sd).2.2.2.length → Cond.eq (.elem (.field (kS_tm 33) "java/lang/String" "value" "[B") (.int (Int32.ofNat j))) (.int (mm_i ((mm_sc.getD 33 mm_sd).2.2.2.getD j 0))) ∈ kS_fl := by decide +kernel
theorem kS_5_34 : ∀ j, j < (mm_sc.getD 34 mm_sd).2.2.2.length → Cond.eq (.elem (.field (kS_tm 34) "java/lang/String" "value" "[B") (.int (Int32.ofNat j))) (.int (mm_i ((mm_sc.getD 34 mm_sd).2.2.2.getD j 0))) ∈ kS_fl := by decide +kernel
theorem kS_5_35 : ∀ j, j < (mm_sc.getD 35 mm_sd).2.2.2.length → Cond.eq (.elem (.field (kS_tm 35) "java/lang/String" "value" "[B") (.int (Int32.ofNat j))) (.int (mm_i ((mm_sc.getD 35 mm_sd).2.2.2.getD j 0))) ∈ kS_fl := by decide +kernel
theorem kS_5_36 : ∀ j, j < (mm_sc.getD 36 mm_sd).2.2.2.length → Cond.eq (.elem (.field (kS_tm 36) "java/lang/String" "value" "[B") (.int (Int32.ofNat j))) (.int (mm_i ((mm_sc.getD 36 mm_sd).2.2.2.getD j 0))) ∈ kS_fl := by decide +kernel
theorem kS_5 : ∀ k, k < 37 → ∀ j, j < (mm_sc.getD k mm_sd).2.2.2.length → Cond.eq (.elem (.field (kS_tm k) "java/lang/String" "value" "[B") (.int (Int32.ofNat j))) (.int (mm_i ((mm_sc.getD k mm_sd).2.2.2.getD j 0))) ∈ kS_fl := by
  intro k hk
  match k, hk with
  | 0, _ => exact kS_5_0
  | 1, _ => exact kS_5_1
  | 2, _ => exact kS_5_2
  | 3, _ => exact kS_5_3
  | 4, _ => exact kS_5_4
  | 5, _ => exact kS_5_5
  | 6, _ => exact kS_5_6
  | 7, _ => exact kS_5_7
  | 8, _ => exact kS_5_8
  | 9, _ => exact kS_5_9
  | 10, _ => exact kS_5_10
  | 11, _ => exact kS_5_11
  | 12, _ => exact kS_5_12
  | 13, _ => exact kS_5_13
  | 14, _ => exact kS_5_14
  | 15, _ => exact kS_5_15
  | 16, _ => exact kS_5_16
  | 17, _ => exact kS_5_17
  | 18, _ => exact kS_5_18
  | 19, _ => exact kS_5_19
  | 20, _ => exact kS_5_20
  | 21, _ => exact kS_5_21
  | 22, _ => exact kS_5_22
  | 23, _ => exact kS_5_23
  | 24, _ => exact kS_5_24
  | 25, _ => exact kS_5_25
  | 26, _ => exact kS_5_26
  | 27, _ => exact kS_5_27
  | 28, _ => exact kS_5_28
  | 29, _ => exact kS_5_29
  | 30, _ => exact kS_5_30
  | 31, _ => exact kS_5_31
  | 32, _ => exact kS_5_32
  | 33, _ => exact kS_5_33
  | 34, _ => exact kS_5_34
  | 35, _ => exact kS_5_35
  | 36, _ => exact kS_5_36
  | k + 37, h => exact absurd h (by omega)
theorem kS_6 : ∀ k, k < 37 → (mm_sc.getD k mm_sd).2.2.2.length < 2 ^ 31 := by decide +kernel
abbrev kS_ar (k : Nat) : Term := .static (mm_ct.getD k ("", "", [])).1 (mm_ct.getD k ("", "", [])).2.1 "[I"
theorem kS_7 : ∀ k, k < 6 → Cond.arrayOf (kS_ar k) .int ∈ kS_fl := by decide +kernel
theorem kS_8 : ∀ k, k < 6 → Cond.eq (.length (kS_ar k)) (.int (Int32.ofNat 10)) ∈ kS_fl := by decide +kernel
theorem kS_9 : ∀ k, k < 6 → ∀ j, j < 10 → Cond.eq (.elem (kS_ar k) (.int (Int32.ofNat j))) (.int (mm_i (((mm_ct.getD k ("", "", [])).2.2).getD j 0))) ∈ kS_fl := by decide +kernel
theorem kS_10 : Cond.eq (.static "java/lang/String" "COMPACT_STRINGS" "Z") (.int 1) ∈ kS_fl := by decide +kernel
theorem kS_11 : ∀ j, j < 3 → Cond.isRef (.static (mm_zq.getD j ("", "", "")).1 (mm_zq.getD j ("", "", "")).2.1 (mm_zq.getD j ("", "", "")).2.2) ∈ kS_fl := by decide +kernel
theorem kS_w1 : ∀ k, k < 37 → Cond.stringRef (mm_sc.getD k mm_sd).1 (mm_sc.getD k mm_sd).2.1 (mm_sc.getD k mm_sd).2.2.1 ∈ lw_tbl := by
  intro k hk
  match k, hk with
  | 0, _ => exact (mm_wq 2 129 rfl).1
  | 1, _ => exact (mm_wq 3 2 rfl).1
  | 2, _ => exact (mm_wq 3 13 rfl).1
  | 3, _ => exact (mm_wq 3 14 rfl).1
  | 4, _ => exact (mm_wq 3 17 rfl).1
  | 5, _ => exact (mm_wq 3 26 rfl).1
  | 6, _ => exact (mm_wq 3 27 rfl).1
  | 7, _ => exact (mm_wq 7 85 rfl).1
  | 8, _ => exact (mm_wq 7 92 rfl).1
  | 9, _ => exact (mm_wq 7 93 rfl).1
  | 10, _ => exact (mm_wq 7 94 rfl).1
  | 11, _ => exact (mm_wq 7 95 rfl).1
  | 12, _ => exact (mm_wq 7 96 rfl).1
  | 13, _ => exact (mm_wq 7 97 rfl).1
  | 14, _ => exact (mm_wq 7 98 rfl).1
  | 15, _ => exact (mm_wq 7 99 rfl).1
  | 16, _ => exact (mm_wq 7 100 rfl).1
  | 17, _ => exact (mm_wq 7 101 rfl).1
  | 18, _ => exact (mm_wq 7 102 rfl).1
  | 19, _ => exact (mm_wq 7 139 rfl).1
  | 20, _ => exact (mm_wq 7 148 rfl).1
  | 21, _ => exact (mm_wq 7 149 rfl).1
  | 22, _ => exact (mm_wq 7 150 rfl).1
  | 23, _ => exact (mm_wq 7 151 rfl).1
  | 24, _ => exact (mm_wq 7 152 rfl).1
  | 25, _ => exact (mm_wq 7 153 rfl).1
  | 26, _ => exact (mm_wq 7 154 rfl).1
  | 27, _ => exact (mm_wq 7 156 rfl).1
  | 28, _ => exact (mm_wq 7 157 rfl).1
  | 29, _ => exact (mm_wq 7 162 rfl).1
  | 30, _ => exact (mm_wq 7 163 rfl).1
  | 31, _ => exact (mm_wq 7 164 rfl).1
  | 32, _ => exact (mm_wq 7 165 rfl).1
  | 33, _ => exact (mm_wq 7 166 rfl).1
  | 34, _ => exact (mm_wq 7 171 rfl).1
  | 35, _ => exact (mm_wq 7 172 rfl).1
  | 36, _ => exact (mm_wq 7 173 rfl).1
  | k + 37, h => exact absurd h (by omega)
theorem kS_w2 : ∀ k, k < 6 → Cond.laysStatic (mm_ct.getD k ("", "", [])).1 (mm_ct.getD k ("", "", [])).2.1 "[I" ∈ lw_tbl := by
  intro k hk
  match k, hk with
  | 0, _ => exact (mm_wq 2 207 rfl).1
  | 1, _ => exact (mm_wq 2 209 rfl).1
  | 2, _ => exact (mm_wq 0 82 rfl).1
  | 3, _ => exact (mm_wq 5 183 rfl).1
  | 4, _ => exact (mm_wq 7 120 rfl).1
  | 5, _ => exact (mm_wq 7 122 rfl).1
  | k + 6, h => exact absurd h (by omega)
theorem kS_w3 : ∀ k, k < 6 → Cond.initialized (mm_ct.getD k ("", "", [])).1 ∈ lw_tbl := by
  intro k hk
  match k, hk with
  | 0, _ => exact (mm_wq 0 3 rfl).1
  | 1, _ => exact (mm_wq 0 3 rfl).1
  | 2, _ => exact (mm_wq 0 3 rfl).1
  | 3, _ => exact (mm_wq 0 16 rfl).1
  | 4, _ => exact (mm_wq 0 16 rfl).1
  | 5, _ => exact (mm_wq 0 16 rfl).1
  | k + 6, h => exact absurd h (by omega)
theorem kS_w4 : ∀ k, k < 3 → Cond.laysStatic (mm_zq.getD k ("", "", "")).1 (mm_zq.getD k ("", "", "")).2.1 (mm_zq.getD k ("", "", "")).2.2 ∈ lw_tbl := by
  intro k hk
  match k, hk with
  | 0, _ => exact (mm_wq 2 159 rfl).1
  | 1, _ => exact (mm_wq 5 145 rfl).1
  | 2, _ => exact (mm_wq 5 143 rfl).1
  | k + 3, h => exact absurd h (by omega)
theorem kS_w5 : ∀ k, k < 3 → Cond.initialized (mm_zq.getD k ("", "", "")).1 ∈ lw_tbl := by
  intro k hk
  match k, hk with
  | 0, _ => exact (mm_wq 0 22 rfl).1
  | 1, _ => exact (mm_wq 0 17 rfl).1
  | 2, _ => exact (mm_wq 0 17 rfl).1
  | k + 3, h => exact absurd h (by omega)
theorem kS_w6 : ∀ q ∈ mm_nw, Cond.methodLinkNest q.1 q.2.1 q.2.2.1 q.2.2.2 ∈ lw_tbl := by
  intro q hq
  unfold mm_nw at hq
  simp only [List.mem_cons, List.mem_nil_iff, or_false] at hq
  rcases hq with rfl | rfl | rfl | rfl
  · exact List.mem_append_right _ (mm_chunk 3 (List.mem_of_getElem? (i := 41) rfl))
  · exact List.mem_append_right _ (mm_chunk 5 (List.mem_of_getElem? (i := 85) rfl))
  · exact List.mem_append_right _ (mm_chunk 2 (List.mem_of_getElem? (i := 203) rfl))
  · exact List.mem_append_right _ (mm_chunk 0 (List.mem_of_getElem? (i := 35) rfl))
theorem kS_w7 : Cond.arrayOver (.object "KitePower$Row") ∈ lw_tbl := List.mem_append_right _ (mm_chunk 0 (List.mem_of_getElem? (i := 212) rfl))

