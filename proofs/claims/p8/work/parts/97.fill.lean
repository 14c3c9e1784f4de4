/-! ===== Arrays.fill, on any row of the world, with any number of cells ===== -/
theorem kf_off_at {M : mm_M} {c o n a b : Nat} {f : Nat → Int} : kf_off M c o f n a b = if a = c ∧ o ≤ b ∧ b < o + n then f (b - o) else M a b := rfl
section
variable {X : mm_X} {M : mm_M} {n c len : Nat} {x y v : Int}
theorem c_J7_rangeCheck (hx : 0 ≤ x ∧ x ≤ y) (hy : y ≤ (len : Int)) (hl : len ≤ 100000) : mm_Fn X Y_J7_rangeCheck_23922 n [(0, (len : Int)), (0, x), (0, y)] M (3, 0) M := by
  refine mm_startF (ls := [(0, (len : Int)), (0, x), (0, y)]) rfl ?_
  refine mm_iload_n dJ7_rangeCheck_23922_0 rfl rfl ?_
  refine mm_iload_n dJ7_rangeCheck_23922_1 rfl rfl ?_
  refine mm_icle dJ7_rangeCheck_23922_2 (by omega) (by omega) (fun _ => ?_) (fun h => ?_)
  · refine mm_iload_n dJ7_rangeCheck_23922_46 rfl rfl ?_
    refine mm_ifge dJ7_rangeCheck_23922_47 (by omega) (fun _ => ?_) (fun h => ?_)
    · refine mm_iload_n dJ7_rangeCheck_23922_59 rfl rfl ?_
      refine mm_iload_n dJ7_rangeCheck_23922_60 rfl rfl ?_
      refine mm_icle dJ7_rangeCheck_23922_61 (by omega) (by omega) (fun _ => ?_) (fun h => ?_)
      · refine mm_vret dJ7_rangeCheck_23922_73 rfl rfl ?_
        exact ⟨rfl, rfl⟩
      · exfalso; omega
    · exfalso; omega
  · exfalso; omega
theorem c_J7_fill4 (hc : c < n) (hs : mm_sh c = (1, len)) (hx : 0 ≤ x ∧ x ≤ y) (hy : y ≤ (len : Int)) : mm_Fn X Y_J7_fill_fda19 n [(2, (c : Int) + 1), (0, x), (0, y), (0, v)] M (3, 0) (kf_off M c x.toNat (fun _ => v) (y - x).toNat) := by
  have hl := (mm_shA c hs).1
  refine mm_startF (ls := [(2, (c : Int) + 1), (0, x), (0, y), (0, v), (9, 0)]) rfl ?_
  have loop : ∀ i : Nat, i ≤ (y - x).toNat → mm_J X Y_J7_fill_fda19 n n n 10 [(2, (c : Int) + 1), (0, x), (0, y), (0, v), (0, x + (i : Int))] [] (kf_off M c x.toNat (fun _ => v) i) (fun r' M'' => r' = (3, 0) ∧ M'' = kf_off M c x.toNat (fun _ => v) (y - x).toNat) := by
    refine mm_lp ?_
    intro i hi ih
    by_cases hlt : i < (y - x).toNat
    · refine mm_iload dJ7_fill_fda19_10 rfl rfl ?_
      refine mm_iload_n dJ7_fill_fda19_12 rfl rfl ?_
      refine mm_icge dJ7_fill_fda19_13 (by omega) (by omega) (fun h13 => ?_) (fun h13 => ?_)
      · exfalso; omega
      · refine mm_aload_n dJ7_fill_fda19_16 rfl rfl ?_
        refine mm_iload dJ7_fill_fda19_17 rfl rfl ?_
        refine mm_iload_n dJ7_fill_fda19_19 rfl rfl ?_
        refine mm_istk (k0 := (x.toNat + i)) dJ7_fill_fda19_20 rfl (c := c) rfl hc hs (by omega) (by omega) (fun M20 hM20 => ?_)
        refine mm_iinc dJ7_fill_fda19_21 rfl rfl (Nat.le_of_ble_eq_true rfl) rfl ?_
        refine mm_goto dJ7_fill_fda19_24 ?_
        have e : M20 = kf_off M c x.toNat (fun _ => v) (i + 1) := by rw [hM20]; exact kf_off_s
        rw [e, show x + (i : Int) + 1 = x + ((i + 1 : Nat) : Int) by omega]
        exact ih hlt
    · have ei : i = (y - x).toNat := by omega
      refine mm_iload dJ7_fill_fda19_10 rfl rfl ?_
      refine mm_iload_n dJ7_fill_fda19_12 rfl rfl ?_
      refine mm_icge dJ7_fill_fda19_13 (by omega) (by omega) (fun h13 => ?_) (fun h13 => ?_)
      · refine mm_vret dJ7_fill_fda19_27 rfl rfl ?_
        exact ⟨rfl, by rw [ei]⟩
      · exfalso; omega
  refine mm_aload_n dJ7_fill_fda19_0 rfl rfl ?_
  refine mm_aln dJ7_fill_fda19_1 rfl (c := c) rfl hc hs ?_
  refine mm_iload_n dJ7_fill_fda19_2 rfl rfl ?_
  refine mm_iload_n dJ7_fill_fda19_3 rfl rfl ?_
  refine mm_S3v dJ7_fill_fda19_4 rfl lk_J7_13 (by simp) (by simp) (by simp) rfl rfl rfl (c_J7_rangeCheck hx hy (by omega)) ?_
  refine mm_iload_n dJ7_fill_fda19_7 rfl rfl ?_
  refine mm_istore dJ7_fill_fda19_8 rfl (Nat.le_of_ble_eq_true rfl) rfl ?_
  have := loop 0 (Nat.zero_le _)
  rw [kf_off_0, show x + ((0 : Nat) : Int) = x by omega] at this
  exact this
theorem c_J7_fill2 (hc : c < n) (hs : mm_sh c = (1, len)) : mm_Fn X Y_J7_fill_53178 n [(2, (c : Int) + 1), (0, v)] M (3, 0) (kf_mem M c (fun _ => v) len) := by
  have hl := (mm_shA c hs).1
  refine mm_startF (ls := [(2, (c : Int) + 1), (0, v), (9, 0), (9, 0)]) rfl ?_
  have loop : ∀ i : Nat, i ≤ len → mm_J X Y_J7_fill_53178 n n n 5 [(2, (c : Int) + 1), (0, v), (0, (i : Int)), (0, (len : Int))] [] (kf_mem M c (fun _ => v) i) (fun r' M'' => r' = (3, 0) ∧ M'' = kf_mem M c (fun _ => v) len) := by
    refine mm_lp ?_
    intro i hi ih
    by_cases hlt : i < len
    · refine mm_iload_n dJ7_fill_53178_5 rfl rfl ?_
      refine mm_iload_n dJ7_fill_53178_6 rfl rfl ?_
      refine mm_icge dJ7_fill_53178_7 (by omega) (by omega) (fun h7 => ?_) (fun h7 => ?_)
      · exfalso; omega
      · refine mm_aload_n dJ7_fill_53178_10 rfl rfl ?_
        refine mm_iload_n dJ7_fill_53178_11 rfl rfl ?_
        refine mm_iload_n dJ7_fill_53178_12 rfl rfl ?_
        refine mm_istk (k0 := i) dJ7_fill_53178_13 rfl (c := c) rfl hc hs (by omega) (by omega) (fun M13 hM13 => ?_)
        refine mm_iinc dJ7_fill_53178_14 rfl rfl (Nat.le_of_ble_eq_true rfl) rfl ?_
        refine mm_goto dJ7_fill_53178_17 ?_
        have e : M13 = kf_mem M c (fun _ => v) (i + 1) := by rw [hM13]; exact kf_mem_s
        rw [e]
        exact ih hlt
    · have ei : i = len := by omega
      refine mm_iload_n dJ7_fill_53178_5 rfl rfl ?_
      refine mm_iload_n dJ7_fill_53178_6 rfl rfl ?_
      refine mm_icge dJ7_fill_53178_7 (by omega) (by omega) (fun h7 => ?_) (fun h7 => ?_)
      · refine mm_vret dJ7_fill_53178_20 rfl rfl ?_
        exact ⟨rfl, by rw [ei]⟩
      · exfalso; omega
  refine mm_iconst dJ7_fill_53178_0 rfl ?_
  refine mm_istore_n dJ7_fill_53178_1 rfl (Nat.le_of_ble_eq_true rfl) rfl ?_
  refine mm_aload_n dJ7_fill_53178_2 rfl rfl ?_
  refine mm_aln dJ7_fill_53178_3 rfl (c := c) rfl hc hs ?_
  refine mm_istore_n dJ7_fill_53178_4 rfl (Nat.le_of_ble_eq_true rfl) rfl ?_
  have := loop 0 (Nat.zero_le _)
  rw [kf_mem_0] at this
  exact this
end

