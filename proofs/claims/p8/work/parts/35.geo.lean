/-! ===== a state's number and its place ===== -/
def ks_f (K : Nat → Int) (c r p : Int) : Int := c + K 0 * (r + K 1 * p)
theorem ks_f_dec {K : Nat → Int} (h : mm_KV K) {c r p : Int} (hc : 0 ≤ c ∧ c < K 0) (hr : 0 ≤ r ∧ r < K 1) : ks_col K (ks_f K c r p) = c ∧ ks_row K (ks_f K c r p) = r ∧ ks_rope K (ks_f K c r p) = p := by
  obtain ⟨h0, h1, -⟩ := h
  have e0 : (c + K 0 * (r + K 1 * p)) / K 0 = r + K 1 * p := by
    rw [Int.add_mul_ediv_left _ _ (by omega), Int.ediv_eq_zero_of_lt hc.1 hc.2, Int.zero_add]
  refine ⟨?_, ?_, ?_⟩
  · unfold ks_col ks_f
    rw [Int.add_mul_emod_self_left, Int.emod_eq_of_lt hc.1 hc.2]
  · unfold ks_row ks_f
    rw [e0, Int.add_mul_emod_self_left, Int.emod_eq_of_lt hr.1 hr.2]
  · unfold ks_rope ks_f
    rw [e0, Int.add_mul_ediv_left _ _ (by omega), Int.ediv_eq_zero_of_lt hr.1 hr.2, Int.zero_add]
theorem ks_f_st {K : Nat → Int} (h : mm_KV K) {c r p : Int} (hc : 0 ≤ c ∧ c < K 0) (hr : 0 ≤ r ∧ r < K 1) (hp : 0 ≤ p ∧ p < K 2) : ks_st K (ks_f K c r p) := by
  obtain ⟨h0, h1, h2, -⟩ := h
  unfold ks_st ks_f ks_n
  have a : 0 ≤ K 1 * p := Int.mul_nonneg (by omega) hp.1
  have b : K 1 * p ≤ K 1 * (K 2 - 1) := Int.mul_le_mul_of_nonneg_left (by omega) (by omega)
  have c1 : 0 ≤ K 0 * (r + K 1 * p) := Int.mul_nonneg (by omega) (by omega)
  have d : r + K 1 * p ≤ K 1 * K 2 - 1 := by
    rw [Int.mul_sub, Int.mul_one] at b
    omega
  have e : K 0 * (r + K 1 * p) ≤ K 0 * (K 1 * K 2 - 1) := Int.mul_le_mul_of_nonneg_left d (by omega)
  rw [Int.mul_sub, Int.mul_one, ← Int.mul_assoc] at e
  omega
theorem ks_f_of {K : Nat → Int} (s : Int) : ks_f K (ks_col K s) (ks_row K s) (ks_rope K s) = s := by
  unfold ks_f ks_col ks_row ks_rope
  rw [Int.emod_add_mul_ediv, Int.emod_add_mul_ediv]
theorem ks_to_f {K : Nat → Int} (s a : Int) : ks_to K s a = ks_f K (ks_col K s + (if ks_mv a = 1 then -1 else if ks_mv a = 2 then 1 else 0)) (ks_row K s + (if ks_mv a = 3 then 1 else if ks_mv a = 4 then -1 else 0)) (ks_rope K s + (if ks_dr a = 1 then 1 else if ks_dr a = 2 then -1 else 0)) := by
  have e := ks_f_of (K := K) s
  unfold ks_to ks_ms ks_ds
  unfold ks_f at e ⊢
  generalize ks_col K s = c at e ⊢
  generalize ks_row K s = r at e ⊢
  generalize ks_rope K s = p at e ⊢
  rw [← e]
  have key : ∀ u v w : Int, c + u + K 0 * (r + v + K 1 * (p + w)) = c + K 0 * (r + K 1 * p) + u + K 0 * v + K 0 * K 1 * w := by
    intro u v w
    simp only [Int.mul_add, Int.mul_assoc]
    omega
  rw [key]
  generalize c + K 0 * (r + K 1 * p) = z
  generalize K 0 * K 1 = y
  generalize K 0 = k
  by_cases h1 : ks_mv a = 1
  · simp only [h1]
    by_cases d1 : ks_dr a = 1
    · simp [d1]
    · by_cases d2 : ks_dr a = 2
      · simp [d2]
      · simp [d1, d2]
  · by_cases h2 : ks_mv a = 2
    · simp only [h2]
      by_cases d1 : ks_dr a = 1
      · simp [d1]
      · by_cases d2 : ks_dr a = 2
        · simp [d2]
        · simp [d1, d2]
    · by_cases h3 : ks_mv a = 3
      · simp only [h3]
        by_cases d1 : ks_dr a = 1
        · simp [d1]
        · by_cases d2 : ks_dr a = 2
          · simp [d2]
          · simp [d1, d2]
      · by_cases h4 : ks_mv a = 4
        · simp only [h4]
          by_cases d1 : ks_dr a = 1
          · simp [d1]
          · by_cases d2 : ks_dr a = 2
            · simp [d2]
            · simp [d1, d2]
        · simp only [h1, h2, h3, h4, if_false]
          by_cases d1 : ks_dr a = 1
          · simp [d1]
          · by_cases d2 : ks_dr a = 2
            · simp [d2]
            · simp [d1, d2]
theorem ks_to_st {K : Nat → Int} (h : mm_KV K) {s a : Int} (hs : ks_st K s) (hc : ks_can K s a) : ks_st K (ks_to K s a) := by
  rw [ks_to_f]
  have c1 := ks_colb h s
  have c2 := ks_rowb h s
  have c3 := ks_ropeb h hs
  obtain ⟨⟨m1, m2, m3, m4⟩, d1, d2⟩ := hc
  refine ks_f_st h ?_ ?_ ?_
  · split
    · have := m1 (by assumption); omega
    · split
      · have := m2 (by assumption); omega
      · omega
  · split
    · have := m3 (by assumption); omega
    · split
      · have := m4 (by assumption); omega
      · omega
  · split
    · have := d1 (by assumption); omega
    · split
      · have := d2 (by assumption); omega
      · omega

