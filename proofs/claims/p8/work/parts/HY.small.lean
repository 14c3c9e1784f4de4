/-! ===== few means: the search is not cut ===== -/
section
variable {Q : mm_M} {n : Nat}
/-- means rise: told as two numbers each -/
theorem kv_ch.seq : ∀ {i : Nat} {S C : Int}, kv_ch Q n i S C → ∃ s c : Nat → Int, s i = S ∧ c i = C ∧ (∀ j, j ≤ i → 1 ≤ c j) ∧ (∀ j, 1 ≤ j → j ≤ i → ∃ q r m, kv_B Q n q r m ∧ s j = ka_sum (fun j => Q 34 (r j)) m ∧ c j = (m : Int)) ∧ ∀ j, j < i → s j * c (j + 1) < s (j + 1) * c j
  | 0, S, C, ⟨h1, h2⟩ => ⟨fun _ => S, fun _ => C, rfl, rfl, fun j _ => by show 1 ≤ C; omega, fun j a b => by omega, fun j a => by omega⟩
  | i + 1, S', C', ⟨S, C, h, q, r, m, h1, h2, h3, h4⟩ => by
    obtain ⟨s, c, e1, e2, e3, e4, e5⟩ := kv_ch.seq h
    have m1 := h1.1
    refine ⟨fun j => if j ≤ i then s j else S', fun j => if j ≤ i then c j else C', by show (if i + 1 ≤ i then s (i + 1) else S') = S'; rw [if_neg (by omega)], by show (if i + 1 ≤ i then c (i + 1) else C') = C'; rw [if_neg (by omega)], fun j hj => ?_, fun j j1 j2 => ?_, fun j hj => ?_⟩
    · show 1 ≤ (if j ≤ i then c j else C')
      by_cases z : j ≤ i
      · rw [if_pos z]; exact e3 j z
      · rw [if_neg z, h3]; omega
    · show ∃ q r m, kv_B Q n q r m ∧ (if j ≤ i then s j else S') = _ ∧ (if j ≤ i then c j else C') = _
      by_cases z : j ≤ i
      · rw [if_pos z, if_pos z]; exact e4 j j1 z
      · rw [if_neg z, if_neg z]; exact ⟨q, r, m, h1, h2, h3⟩
    · show (if j ≤ i then s j else S') * (if j + 1 ≤ i then c (j + 1) else C') < (if j + 1 ≤ i then s (j + 1) else S') * (if j ≤ i then c j else C')
      rw [if_pos (show j ≤ i by omega), if_pos (show j ≤ i by omega)]
      by_cases z : j + 1 ≤ i
      · rw [if_pos z, if_pos z]; exact e5 j (by omega)
      · rw [if_neg z, if_neg z]
        have : j = i := by omega
        rw [this, e1, e2, h3, h2, Int.mul_comm _ C]
        exact h4
/-- a later mean is greater -/
theorem fr_rise {s c : Nat → Int} {i : Nat} (hc : ∀ j, j ≤ i → 1 ≤ c j) (hs : ∀ j, j < i → s j * c (j + 1) < s (j + 1) * c j) : ∀ d j : Nat, j + d + 1 ≤ i → s j * c (j + d + 1) < s (j + d + 1) * c j
  | 0, j, hj => hs j (by omega)
  | d + 1, j, hj => by
    have a := fr_rise hc hs d j (by omega)
    have b := hs (j + d + 1) (by omega)
    have c0 := hc j (by omega)
    have c1 := hc (j + d + 1) (by omega)
    have c2 := hc (j + d + 1 + 1) (by omega)
    rw [show j + (d + 1) + 1 = j + d + 1 + 1 by omega]
    generalize s j = x at *
    generalize c j = p at *
    generalize s (j + d + 1) = y at *
    generalize c (j + d + 1) = q at *
    generalize s (j + d + 1 + 1) = z at *
    generalize c (j + d + 1 + 1) = r at *
    -- x / p < y / q < z / r
    have h1 : x * q * r < y * p * r := Int.mul_lt_mul_of_pos_right a (by omega)
    have h2 : y * r * p < z * q * p := Int.mul_lt_mul_of_pos_right b (by omega)
    have e1 : y * p * r = y * r * p := by rw [Int.mul_assoc, Int.mul_comm p, Int.mul_assoc]
    have e2 : x * q * r = x * r * q := by rw [Int.mul_assoc, Int.mul_comm q, Int.mul_assoc]
    have e3 : z * q * p = z * p * q := by rw [Int.mul_assoc, Int.mul_comm q, Int.mul_assoc]
    have h3 : x * r * q < z * p * q := by omega
    exact Int.lt_of_mul_lt_mul_right h3 (by omega)
/-- sums of small multiples of 100 -/
theorem ka_sum_100 {f : Nat → Int} : ∀ {m : Nat}, (∀ j, j < m → ∃ k : Int, f j = 100 * k ∧ -15 ≤ k ∧ k ≤ 15) → ∃ k : Int, ka_sum f m = 100 * k ∧ -15 * (m : Int) ≤ k ∧ k ≤ 15 * (m : Int)
  | 0, _ => ⟨0, rfl, by omega, by omega⟩
  | m + 1, h => by
    obtain ⟨k, k1, k2, k3⟩ := ka_sum_100 (m := m) (fun j hj => h j (by omega))
    obtain ⟨l, l1, l2, l3⟩ := h m (by omega)
    exact ⟨k + l, by show ka_sum f m + f m = _; omega, by omega, by omega⟩
end
/-- where acts give small multiples of 100, and there are few states, no search is cut -/
theorem kX_small {K Lo Hi : Nat → Int} {h : Int} {n : Nat} (hn : n ≤ 120) (hg : ∀ s a, ks_safe K Lo Hi s a h → ks_ac K a → ∃ k : Int, ks_sure K Lo Hi s a h = 100 * k ∧ -15 ≤ k ∧ k ≤ 15) : ¬ kX_cut K Lo Hi h n := by
  rintro ⟨Q, S, C, hP, hc⟩
  obtain ⟨s, c, -, -, e3, e4, e5⟩ := hc.seq
  have key : ∀ j, 1 ≤ j → j ≤ 1000000 → ∃ k : Int, s j = 100 * k ∧ -15 * c j ≤ k ∧ k ≤ 15 * c j ∧ 1 ≤ c j ∧ c j ≤ 120 := by
    intro j j1 j2
    obtain ⟨q, r, m, b1, b2, b3⟩ := e4 j j1 j2
    obtain ⟨k, k1, k2, k3⟩ := ka_sum_100 (f := fun j => Q 34 (r j)) (m := m) (fun i hi => by
      obtain ⟨z1, z2, z3, z4⟩ := hP.at (b1.2.2.2 i hi)
      show ∃ k : Int, Q 34 (r i) = 100 * k ∧ _
      rw [z4]
      exact hg _ _ z2 z1)
    have := b1.1
    have := b1.2.1
    exact ⟨k, by rw [b2]; exact k1, by rw [b3]; exact k2, by rw [b3]; exact k3, by omega, by omega⟩
  obtain ⟨i, j, i1, i2, i3⟩ := gz_pig 500000 (fun i => (4000 * c (i + 1) + (s (i + 1) / 100 + 15 * c (i + 1))).toNat) (fun i hi => by
    obtain ⟨k, k1, k2, k3, k4, k5⟩ := key (i + 1) (by omega) (by omega)
    show (4000 * c (i + 1) + (s (i + 1) / 100 + 15 * c (i + 1))).toNat < 500000
    omega)
  have i3 : (4000 * c (i + 1) + (s (i + 1) / 100 + 15 * c (i + 1))).toNat = (4000 * c (j + 1) + (s (j + 1) / 100 + 15 * c (j + 1))).toNat := i3
  obtain ⟨k, k1, k2, k3, k4, k5⟩ := key (i + 1) (by omega) (by omega)
  obtain ⟨l, l1, l2, l3, l4, l5⟩ := key (j + 1) (by omega) (by omega)
  have ec : c (i + 1) = c (j + 1) := by omega
  have es : s (i + 1) = s (j + 1) := by omega
  have := fr_rise e3 e5 (j - i - 1) (i + 1) (by omega)
  rw [show i + 1 + (j - i - 1) + 1 = j + 1 by omega, ec, es] at this
  omega

