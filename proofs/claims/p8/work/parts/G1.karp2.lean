/-! ===== Karp's theorem ===== -/
section
variable {e : Nat → Nat → Int → Prop} {N : Nat} {p q : Nat → Nat} {f g : Nat → Int} {m n : Nat}
/-- what a walk gives above s / c -/
def gS (s c : Int) (g : Nat → Int) (n : Nat) : Int := c * ka_sum g n - s * n
theorem gS_add (s c : Int) (g : Nat → Int) (a b : Nat) : gS s c g (a + b) = gS s c g a + gS s c (fun t => g (a + t)) b := by
  unfold gS
  rw [ka_sum_add, Int.mul_add, show ((a + b : Nat) : Int) = (a : Int) + b by omega, Int.mul_add]
  omega
theorem gS_app (s c : Int) (f g : Nat → Int) (n m : Nat) : gS s c (gJg f g n) (n + m) = gS s c f n + gS s c g m := by
  unfold gS
  rw [gJg_sum, Int.mul_add, show ((n + m : Nat) : Int) = (n : Int) + m by omega, Int.mul_add]
  omega
/-- a walk of less than N edges that gives no less -/
theorem gB.short (hN : ∀ u v w, e u v w → u < N ∧ v < N) {s c : Int} (hb : gB e s c) : ∀ (k : Nat) (p : Nat → Nat) (g : Nat → Int) (n : Nat), n ≤ k → gW e p g n → p n < N → ∃ q f m, gW e q f m ∧ q m = p n ∧ m < N ∧ gS s c g n ≤ gS s c f m := by
  intro k
  induction k with
  | zero =>
    intro p g n hn hW hp
    exact ⟨p, g, n, hW, rfl, by omega, Int.le_refl _⟩
  | succ k ih =>
    intro p g n hn hW hp
    by_cases c1 : n < N
    · exact ⟨p, g, n, hW, rfl, c1, Int.le_refl _⟩
    · obtain ⟨i, j, hij, hj, hpp⟩ := gz_pig N p (fun i hi => by
        by_cases c2 : i < n
        · exact (hN _ _ _ (hW i c2)).1
        · have : i = n := by omega
          rw [this]; exact hp)
      obtain ⟨l1, q, f, w1, w2, w3, w4⟩ := hW.cut hij (by omega) hpp
      obtain ⟨q', f', m', v1, v2, v3, v4⟩ := ih q f (n - (j - i)) (by omega) w1 (by rw [w3]; exact hp)
      refine ⟨q', f', m', v1, by rw [v2, w3], v3, ?_⟩
      have a := hb _ _ _ l1
      refine Int.le_trans ?_ v4
      unfold gS
      rw [w4, Int.mul_add]
      have e1 : s * (n : Int) = s * ((n - (j - i) : Nat) : Int) + s * ((j - i : Nat) : Int) := by
        rw [← Int.mul_add]; congr 1; omega
      omega
/-- a walk of N edges gives no more above s / c than a shorter one to the same place -/
theorem karp_up (hN : ∀ u v w, e u v w → u < N ∧ v < N) {s c : Int} (hb : gB e s c) (hW : gW e p g N) (hp : p N < N) : ∃ q f k, gW e q f k ∧ q k = p N ∧ k < N ∧ c * (ka_sum g N - ka_sum f k) ≤ s * ((N : Int) - k) := by
  obtain ⟨q, f, k, w1, w2, w3, w4⟩ := hb.short hN N p g N (Nat.le_refl N) hW hp
  refine ⟨q, f, k, w1, w2, w3, ?_⟩
  unfold gS at w4
  rw [Int.mul_sub, Int.mul_sub]
  omega
theorem gl_walk (hL : gL e p g n) : ∀ k, gW e (fun t => p (t % n)) (fun t => g (t % n)) k := by
  intro k j _
  have hn := hL.2.1
  have hlt := Nat.mod_lt j (show 0 < n by omega)
  have := hL.1 (j % n) hlt
  show e (p (j % n)) (p ((j + 1) % n)) (g (j % n))
  by_cases c1 : j % n + 1 < n
  · have h1 : (j + 1) % n = j % n + 1 := by
      have := Nat.div_add_mod j n
      rw [show j + 1 = n * (j / n) + (j % n + 1) by omega, Nat.mul_add_mod, Nat.mod_eq_of_lt c1]
    rw [h1]
    exact this
  · have h0 : (j + 1) % n = 0 := by
      have e1 : j % n + 1 = n := by omega
      have := Nat.div_add_mod j n
      rw [show j + 1 = n * (j / n + 1) by rw [Nat.mul_add]; omega]
      exact Nat.mul_mod_right _ _
    rw [h0, ← hL.2.2]
    rw [show j % n + 1 = n by omega] at this
    exact this
theorem gl_zero {s c : Int} (hn : 1 ≤ n) (h0 : gS s c g n = 0) : ∀ z, gS s c (fun t => g (t % n)) (n * z) = 0
  | 0 => by unfold gS; show c * 0 - s * 0 = 0; omega
  | z + 1 => by
    rw [show n * (z + 1) = n * z + n by rw [Nat.mul_add]; omega, gS_add, gl_zero hn h0 z]
    have : gS s c (fun t => g ((n * z + t) % n)) n = gS s c g n := by
      unfold gS
      rw [ka_sum_congr (f := fun t => g ((n * z + t) % n)) (g := g) (fun i hi => by rw [Nat.mul_add_mod, Nat.mod_eq_of_lt hi])]
    rw [this, h0]
    rfl
/-- if a loop just gives s / c, some place is reached by a walk of N edges that gives no less above it than any walk there -/
theorem karp_down (hN : ∀ u v w, e u v w → u < N ∧ v < N) {B : Int} (hB : ∀ u v w, e u v w → -B ≤ w ∧ w ≤ B) {s c : Int} (hc : 0 < c) (hb : gB e s c) (hL : gL e p g n) (h0 : c * ka_sum g n = s * n) :
    ∃ q f, gW e q f N ∧ q N < N ∧ ∀ q' f' k, gW e q' f' k → q' k = q N → s * ((N : Int) - k) ≤ c * (ka_sum f N - ka_sum f' k) := by
  have hn := hL.2.1
  have hw : p 0 < N := (hN _ _ _ (hL.1 0 (by omega))).1
  have hz : gS s c g n = 0 := by unfold gS; omega
  -- the best walk to p 0
  obtain ⟨x, ⟨P, F, k0, a1, a2, a3, a4⟩, hmax⟩ := gz_max' (P := fun x => ∃ P F k, gW e P F k ∧ P k = p 0 ∧ k < N ∧ gS s c F k = x) (B := c * ((B.natAbs : Int) * N) + (s.natAbs : Int) * N) (by
    rintro x ⟨P, F, k, b1, b2, b3, rfl⟩
    have u := (ka_sumb (f := F) (B := (B.natAbs : Int)) (n := k) (fun i hi => by have := hB _ _ _ (b1 i hi); omega)).2
    have u2 : (B.natAbs : Int) * k ≤ (B.natAbs : Int) * N := Int.mul_le_mul_of_nonneg_left (by omega) (by omega)
    have u3 := Int.mul_le_mul_of_nonneg_left (Int.le_trans u u2) (show 0 ≤ c by omega)
    have u4 : -s * (k : Int) ≤ (s.natAbs : Int) * k := Int.mul_le_mul_of_nonneg_right (by omega) (by omega)
    have u5 : (s.natAbs : Int) * k ≤ (s.natAbs : Int) * N := Int.mul_le_mul_of_nonneg_left (by omega) (by omega)
    rw [Int.neg_mul] at u4
    unfold gS
    omega) ⟨_, fun _ => p 0, fun _ => 0, 0, (fun j hj => absurd hj (by omega)), rfl, by omega, rfl⟩
  have best : ∀ q' f' k', gW e q' f' k' → q' k' = p 0 → gS s c f' k' ≤ x := by
    intro q' f' k' b1 b2
    obtain ⟨Q, G, j, d1, d2, d3, d4⟩ := hb.short hN k' q' f' k' (Nat.le_refl _) b1 (by rw [b2]; exact hw)
    exact Int.le_trans d4 (hmax _ ⟨Q, G, j, d1, by rw [d2, b2], d3, rfl⟩)
  -- along the loop
  have cw := gl_walk hL
  obtain ⟨t, ht⟩ : ∃ t, t = N - k0 := ⟨_, rfl⟩
  have hj : P k0 = (fun t => p (t % n)) 0 := by show P k0 = p (0 % n); rw [Nat.zero_mod]; exact a2
  have wQ := a1.app (cw t) hj
  rw [show k0 + t = N by omega] at wQ
  have eQ : gJp P (fun t => p (t % n)) k0 N = p (t % n) := by
    have := gJp_end P (fun t => p (t % n)) k0 t hj
    rw [show k0 + t = N by omega] at this
    exact this
  have sQ : gS s c (gJg F (fun t => g (t % n)) k0) N = x + gS s c (fun t => g (t % n)) t := by
    have := gS_app s c F (fun t => g (t % n)) k0 t
    rw [show k0 + t = N by omega, a4] at this
    exact this
  refine ⟨_, _, wQ, ?_, ?_⟩
  · rw [eQ]
    exact (hN _ _ _ (hL.1 (t % n) (Nat.mod_lt t (by omega)))).1
  · intro q' f' k b1 b2
    rw [eQ] at b2
    -- on from there to the loop's beginning
    obtain ⟨r, hr⟩ : ∃ r, t + r = n * (t / n + 1) := ⟨n * (t / n + 1) - t, by
      have := Nat.div_add_mod t n
      have := Nat.mod_lt t (show 0 < n by omega)
      rw [Nat.mul_add]
      omega⟩
    have cw2 := (cw (t + r)).from (i := t) (k := r) (Nat.le_refl _)
    have w2 := b1.app cw2 (by show q' k = p ((t + 0) % n); rw [Nat.add_zero]; exact b2)
    have e2 : gJp q' (fun j => p ((t + j) % n)) k (k + r) = p 0 := by
      rw [gJp_end q' (fun j => p ((t + j) % n)) k r (by show q' k = p ((t + 0) % n); rw [Nat.add_zero]; exact b2)]
      show p ((t + r) % n) = p 0
      rw [hr, Nat.mul_mod_right]
    have s2 := best _ _ _ w2 e2
    rw [gS_app] at s2
    have s3 := gS_add s c (fun t => g (t % n)) t r
    rw [hr, gl_zero hn hz] at s3
    have fin : gS s c f' k ≤ gS s c (gJg F (fun t => g (t % n)) k0) N := by
      rw [sQ]
      have s4 : gS s c (fun j => g ((t + j) % n)) r = gS s c (fun t_1 => (fun t => g (t % n)) (t + t_1)) r := rfl
      omega
    unfold gS at fin
    rw [Int.mul_sub, Int.mul_sub]
    omega
end

