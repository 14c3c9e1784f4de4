/-! ===== constructors: rows, laws, air ===== -/
section
variable {X : mm_X} {M : mm_M} {c len : Nat}
theorem c_X8_init (h0 : mm_sh c = (0, 8)) (h1 : mm_sh (c + 1) = (1, len)) (h2 : mm_sh (c + 1 + 1) = (1, len)) (hl : 1 ≤ len ∧ len ≤ 288) (hs1 : mm_sz (c + 1 + 1) = mm_sz (c + 1) + len) (hs2 : mm_sz (c + 1 + 1 + 1) = mm_sz (c + 1 + 1) + len) :
    mm_C X Y_X8_init (c + 1) (c + 1 + 1 + 1) [(2, (c : Int) + 1), (0, (len : Int))] M (fun r M' => r = (3, 0) ∧ (∀ a, a < c → M' a = M a) ∧ (∀ b, M' c b = if b = 0 then (c : Int) + 2 else if b = 1 then (c : Int) + 3 else M c b) ∧ (∀ b, M' (c + 1) b = 0) ∧ (∀ b, M' (c + 2) b = 0)) := by
  refine mm_start (ls := [(2, (c : Int) + 1), (0, (len : Int)), (9, 0)]) rfl ?_
  refine mm_aload_n dX8_init_0 rfl rfl ?_
  refine mm_oinit' (c := c) dX8_init_1 rfl oi_X8_1 rfl rfl rfl ?_
  refine mm_iload_n dX8_init_4 rfl rfl ?_
  refine mm_iconst dX8_init_5 rfl ?_
  refine mm_max dX8_init_6 rfl lm_X8_7 rfl rfl (by simp; omega) (by omega) (by omega) ?_
  rw [show max (len : Int) 1 = (len : Int) by omega]
  refine mm_istore_n dX8_init_9 rfl (Nat.le_of_ble_eq_true rfl) rfl ?_
  refine mm_aload_n dX8_init_10 rfl rfl ?_
  refine mm_iload_n dX8_init_11 rfl rfl ?_
  refine mm_newarr' (n := c+1) (t := 0) dX8_init_12 rfl h1 (by decide) rfl rfl ac_0 ⟨by omega, by omega, by omega, hs1, by omega⟩ (fun M12 hM12 => ?_)
  refine mm_putr' dX8_init_14 rfl fl_X8_13 (by first | exact Or.inl ⟨_, rfl⟩ | exact Or.inr ⟨_, rfl⟩) rfl fr_X8 (c := c) rfl (by omega)   h0 rfl (fun M14 hM14 => ?_)
  refine mm_aload_n dX8_init_17 rfl rfl ?_
  refine mm_iload_n dX8_init_18 rfl rfl ?_
  refine mm_newarr' (n := c+1 + 1) (t := 0) dX8_init_19 rfl h2 (by decide) rfl rfl ac_0 ⟨by omega, by omega, by omega, hs2, by omega⟩ (fun M19 hM19 => ?_)
  refine mm_putr' dX8_init_21 rfl fl_X8_19 (by first | exact Or.inl ⟨_, rfl⟩ | exact Or.inr ⟨_, rfl⟩) rfl fr_X8 (c := c) rfl (by omega)   h0 rfl (fun M21 hM21 => ?_)
  refine mm_vret dX8_init_24 rfl rfl ?_
  refine ⟨rfl, ?_, ?_, ?_, ?_⟩
  · intro a ha
    have e0 : a ≠ c := by omega
    have e1 : a ≠ c + 1 := by omega
    have e2 : a ≠ c + 1 + 1 := by omega
    funext b; simp [hM21, hM19, hM14, hM12, mm_up, mm_z, e0, e1, e2]
  · intro b
    by_cases q0 : b = 0
    · subst q0; simp [hM21, hM19, hM14, hM12, mm_up, mm_z]; omega
    · by_cases q1 : b = 1
      · subst q1; simp [hM21, hM19, hM14, hM12, mm_up, mm_z]; omega
      · simp [hM21, hM19, hM14, hM12, mm_up, mm_z, q0, q1]; omega
  · intro b; simp [hM21, hM19, hM14, hM12, mm_up, mm_z]
  · intro b; simp [hM21, hM19, hM14, hM12, mm_up, mm_z]
end

