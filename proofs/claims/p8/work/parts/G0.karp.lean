/-! ===== walks and loops of a graph: the greatest mean ===== -/
theorem gz_pig : ∀ (N : Nat) (f : Nat → Nat), (∀ i, i ≤ N → f i < N) → ∃ i j, i < j ∧ j ≤ N ∧ f i = f j
  | 0, f, h => absurd (h 0 (Nat.le_refl 0)) (Nat.not_lt_zero _)
  | N + 1, f, h => by
    by_cases q : ∃ i, i < N + 1 ∧ f i = f (N + 1)
    · obtain ⟨i, hi, e⟩ := q
      exact ⟨i, N + 1, hi, Nat.le_refl _, e⟩
    · have hne : ∀ i, i < N + 1 → f i ≠ f (N + 1) := fun i hi e => q ⟨i, hi, e⟩
      have hl := h (N + 1) (Nat.le_refl _)
      obtain ⟨i, j, hij, hj, e⟩ := gz_pig N (fun i => if f i < f (N + 1) then f i else f i - 1) (by
        intro i hi
        have h1 := hne i (by omega)
        have h2 := h i (by omega)
        show (if f i < f (N + 1) then f i else f i - 1) < N
        split <;> omega)
      refine ⟨i, j, hij, by omega, ?_⟩
      have h1 := hne i (by omega)
      have h2 := hne j (by omega)
      have e' : (if f i < f (N + 1) then f i else f i - 1) = (if f j < f (N + 1) then f j else f j - 1) := e
      split at e' <;> split at e' <;> omega
theorem gz_max {P : Int → Prop} {B : Int} (hb : ∀ x, P x → x ≤ B) : ∀ (k : Nat) (x : Int), P x → B - x ≤ k → ∃ y, P y ∧ ∀ z, P z → z ≤ y
  | 0, x, hx, hk => ⟨x, hx, fun z hz => by have := hb z hz; omega⟩
  | k + 1, x, hx, hk => by
    by_cases q : ∃ y, P y ∧ x < y
    · obtain ⟨y, hy, hxy⟩ := q
      exact gz_max hb k y hy (by omega)
    · exact ⟨x, hx, fun z hz => by
        by_cases w : z ≤ x
        · exact w
        · exact absurd ⟨z, hz, by omega⟩ q⟩
theorem gz_max' {P : Int → Prop} {B : Int} (hb : ∀ x, P x → x ≤ B) (h : ∃ x, P x) : ∃ y, P y ∧ ∀ z, P z → z ≤ y := by
  obtain ⟨x, hx⟩ := h
  exact gz_max hb (B - x).toNat x hx (by omega)
/-- a walk of n edges: places p, what each gives g -/
def gW (e : Nat → Nat → Int → Prop) (p : Nat → Nat) (g : Nat → Int) (n : Nat) : Prop := ∀ j, j < n → e (p j) (p (j + 1)) (g j)
/-- a loop -/
def gL (e : Nat → Nat → Int → Prop) (p : Nat → Nat) (g : Nat → Int) (n : Nat) : Prop := gW e p g n ∧ 1 ≤ n ∧ p n = p 0
section
variable {e : Nat → Nat → Int → Prop} {N : Nat} {p q : Nat → Nat} {f g : Nat → Int} {m n : Nat}
theorem ka_sum_add (f : Nat → Int) (a : Nat) : ∀ b, ka_sum f (a + b) = ka_sum f a + ka_sum (fun t => f (a + t)) b
  | 0 => by show ka_sum f a = ka_sum f a + 0; omega
  | b + 1 => by
    show ka_sum f (a + b) + f (a + b) = ka_sum f a + (ka_sum (fun t => f (a + t)) b + f (a + b))
    rw [ka_sum_add f a b]; omega
theorem ka_sum_lin (s c : Int) (g : Nat → Int) : ∀ n, ka_sum (fun t => c * g t - s) n = c * ka_sum g n - s * n
  | 0 => by show (0 : Int) = c * 0 - s * 0; omega
  | n + 1 => by
    show ka_sum (fun t => c * g t - s) n + (c * g n - s) = c * (ka_sum g n + g n) - s * ((n + 1 : Nat) : Int)
    rw [ka_sum_lin s c g n, Int.mul_add, show ((n + 1 : Nat) : Int) = (n : Int) + 1 by omega, Int.mul_add]; omega
/-- the part of a walk from i on -/
theorem gW.from (h : gW e p g n) {i k : Nat} (hk : i + k ≤ n) : gW e (fun t => p (i + t)) (fun t => g (i + t)) k := by
  intro j hj
  have := h (i + j) (by omega)
  show e (p (i + j)) (p (i + (j + 1))) (g (i + j))
  exact this
theorem gW.to (h : gW e p g n) {k : Nat} (hk : k ≤ n) : gW e p g k := fun j hj => h j (by omega)
/-- one walk behind another -/
def gJp (p q : Nat → Nat) (n : Nat) : Nat → Nat := fun t => if t ≤ n then p t else q (t - n)
def gJg (f g : Nat → Int) (n : Nat) : Nat → Int := fun t => if t < n then f t else g (t - n)
theorem gW.app (h1 : gW e p f n) (h2 : gW e q g m) (hj : p n = q 0) : gW e (gJp p q n) (gJg f g n) (n + m) := by
  intro j hj'
  unfold gJp gJg
  by_cases c : j < n
  · rw [if_pos (by omega), if_pos (by omega), if_pos c]
    exact h1 j c
  · rw [if_neg (show ¬ j + 1 ≤ n by omega), if_neg c]
    have := h2 (j - n) (by omega)
    by_cases c2 : j ≤ n
    · have ej : j = n := by omega
      subst ej
      rw [if_pos c2, hj]
      rw [Nat.sub_self] at this ⊢
      rw [show j + 1 - j = 0 + 1 by omega]
      exact this
    · rw [if_neg c2, show j + 1 - n = j - n + 1 by omega]
      exact this
theorem gJg_sum (f g : Nat → Int) (n m : Nat) : ka_sum (gJg f g n) (n + m) = ka_sum f n + ka_sum g m := by
  rw [ka_sum_add]
  congr 1
  · exact ka_sum_congr (fun i hi => by unfold gJg; rw [if_pos hi])
  · exact ka_sum_congr (fun i _ => by unfold gJg; rw [if_neg (by omega), Nat.add_sub_cancel_left])
theorem gJp_end (p q : Nat → Nat) (n m : Nat) (hj : p n = q 0) : gJp p q n (n + m) = q m := by
  unfold gJp
  by_cases c : m = 0
  · subst c; rw [if_pos (by omega), Nat.add_zero, hj]
  · rw [if_neg (by omega), Nat.add_sub_cancel_left]
theorem gJp_0 (p q : Nat → Nat) (n : Nat) : gJp p q n 0 = p 0 := by unfold gJp; rw [if_pos (by omega)]
/-- a walk that comes twice to a place: a loop, and a shorter walk -/
theorem gW.cut (h : gW e p g n) {i j : Nat} (hij : i < j) (hj : j ≤ n) (hp : p i = p j) :
    gL e (fun t => p (i + t)) (fun t => g (i + t)) (j - i) ∧ ∃ q f, gW e q f (n - (j - i)) ∧ q 0 = p 0 ∧ q (n - (j - i)) = p n ∧ ka_sum g n = ka_sum f (n - (j - i)) + ka_sum (fun t => g (i + t)) (j - i) := by
  refine ⟨⟨h.from (by omega), by omega, ?_⟩, gJp p (fun t => p (j + t)) i, gJg g (fun t => g (j + t)) i, ?_, ?_, ?_, ?_⟩
  · show p (i + (j - i)) = p (i + 0)
    rw [show i + (j - i) = j by omega, Nat.add_zero, hp]
  · have := (h.to (k := i) (by omega)).app (h.from (i := j) (k := n - j) (by omega)) (show p i = p (j + 0) by rw [Nat.add_zero]; exact hp)
    rw [show i + (n - j) = n - (j - i) by omega] at this
    exact this
  · exact gJp_0 _ _ _
  · rw [show n - (j - i) = i + (n - j) by omega, gJp_end _ _ _ _ (show p i = p (j + 0) by rw [Nat.add_zero]; exact hp), show j + (n - j) = n by omega]
  · rw [show n - (j - i) = i + (n - j) by omega, gJg_sum]
    have e1 := ka_sum_add g i (j - i)
    have e2 := ka_sum_add g j (n - j)
    rw [show i + (j - i) = j by omega] at e1
    rw [show j + (n - j) = n by omega] at e2
    omega
/-- no loop gives more than s / c in the mean -/
def gB (e : Nat → Nat → Int → Prop) (s c : Int) : Prop := ∀ p g n, gL e p g n → c * ka_sum g n ≤ s * n
theorem gB_of (hN : ∀ u v w, e u v w → u < N ∧ v < N) {s c : Int} (h : ∀ p g n, n ≤ N → gL e p g n → c * ka_sum g n ≤ s * n) : gB e s c := by
  have key : ∀ k p g n, n ≤ k → gL e p g n → c * ka_sum g n ≤ s * n := by
    intro k
    induction k with
    | zero => intro p g n hn hL; exact absurd hL.2.1 (by omega)
    | succ k ih =>
      intro p g n hn hL
      by_cases c1 : n ≤ N
      · exact h p g n c1 hL
      · obtain ⟨i, j, hij, hj, hp⟩ := gz_pig N p (fun i hi => by
          have := hL.1 i (by omega)
          exact (hN _ _ _ this).1)
        obtain ⟨l1, q, f, w1, w2, w3, w4⟩ := hL.1.cut hij (by omega) hp
        have a := ih _ _ (j - i) (by omega) l1
        have b := ih q f (n - (j - i)) (by omega) ⟨w1, by omega, by rw [w3, w2]; exact hL.2.2⟩
        rw [w4, Int.mul_add]
        have e1 : s * (n : Int) = s * ((n - (j - i) : Nat) : Int) + s * ((j - i : Nat) : Int) := by
          rw [← Int.mul_add]; congr 1; omega
        omega
  exact fun p g n hL => key n p g n (Nat.le_refl n) hL
/-- if there is a loop, there is one with the greatest mean, of at most N edges -/
theorem gB_ex (hN : ∀ u v w, e u v w → u < N ∧ v < N) {B : Int} (hB : ∀ u v w, e u v w → -B ≤ w ∧ w ≤ B) (hx : ∃ p g n, gL e p g n) : ∃ p g n, gL e p g n ∧ n ≤ N ∧ gB e (ka_sum g n) n := by
  have hb : ∀ p g n, gW e p g n → ka_sum g n ≤ B * n := fun p g n h => (ka_sumb (f := g) (B := B) (fun i hi => hB _ _ _ (h i hi))).2
  -- the best of at most k edges
  have key : ∀ k, (∃ p g n, n ≤ k ∧ gL e p g n) → ∃ p g n, gL e p g n ∧ n ≤ k ∧ ∀ p' g' n', n' ≤ k → gL e p' g' n' → (n : Int) * ka_sum g' n' ≤ ka_sum g n * n' := by
    intro k
    induction k with
    | zero =>
      rintro ⟨p, g, n, hn, hL⟩
      exact absurd hL.2.1 (by omega)
    | succ k ih =>
      rintro ⟨p0, g0, n0, hn0, hL0⟩
      by_cases c1 : ∃ p g, gL e p g (k + 1)
      · obtain ⟨x, ⟨p1, g1, hx, hL1⟩, hmax⟩ := gz_max' (P := fun x => ∃ p g, ka_sum g (k + 1) = x ∧ gL e p g (k + 1)) (B := B * ((k + 1 : Nat) : Int)) (by
          rintro x ⟨p, g, rfl, hL⟩
          exact hb p g (k + 1) hL.1) (by
          obtain ⟨p, g, hL⟩ := c1
          exact ⟨_, p, g, rfl, hL⟩)
        by_cases c2 : ∃ p g n, n ≤ k ∧ gL e p g n
        · obtain ⟨p2, g2, n2, hL2, hn2, hm2⟩ := ih c2
          by_cases c3 : (n2 : Int) * x ≤ ka_sum g2 n2 * ((k + 1 : Nat) : Int)
          · refine ⟨p2, g2, n2, hL2, by omega, ?_⟩
            intro p' g' n' hn' hL'
            by_cases c4 : n' ≤ k
            · exact hm2 p' g' n' c4 hL'
            · have e' : n' = k + 1 := by omega
              subst e'
              have := hmax _ ⟨p', g', rfl, hL'⟩
              exact Int.le_trans (Int.mul_le_mul_of_nonneg_left this (by omega)) c3
          · refine ⟨p1, g1, k + 1, hL1, Nat.le_refl _, ?_⟩
            intro p' g' n' hn' hL'
            rw [hx]
            by_cases c4 : n' ≤ k
            · have a := hm2 p' g' n' c4 hL'
              have hpos : (0 : Int) < n2 := by have := hL2.2.1; omega
              -- (k+1) s' <= x n', out of n2 s' <= s2 n' and s2 (k+1) < n2 x
              have c3' : ka_sum g2 n2 * ((k + 1 : Nat) : Int) ≤ (n2 : Int) * x := by omega
              have t1 : (n2 : Int) * (((k + 1 : Nat) : Int) * ka_sum g' n') ≤ (n2 : Int) * (x * n') := by
                have u1 := Int.mul_le_mul_of_nonneg_left a (show (0 : Int) ≤ ((k + 1 : Nat) : Int) by omega)
                have u2 := Int.mul_le_mul_of_nonneg_right c3' (show (0 : Int) ≤ (n' : Int) by omega)
                have r1 : ((k + 1 : Nat) : Int) * ((n2 : Int) * ka_sum g' n') = (n2 : Int) * (((k + 1 : Nat) : Int) * ka_sum g' n') := by rw [← Int.mul_assoc, ← Int.mul_assoc, Int.mul_comm ((k + 1 : Nat) : Int) (n2 : Int)]
                have r2 : ((k + 1 : Nat) : Int) * (ka_sum g2 n2 * n') = ka_sum g2 n2 * ((k + 1 : Nat) : Int) * n' := by rw [← Int.mul_assoc, Int.mul_comm ((k + 1 : Nat) : Int)]
                have r3 : (n2 : Int) * x * n' = (n2 : Int) * (x * n') := Int.mul_assoc _ _ _
                omega
              exact Int.le_of_mul_le_mul_left t1 hpos
            · have e' : n' = k + 1 := by omega
              subst e'
              have := hmax _ ⟨p', g', rfl, hL'⟩
              rw [Int.mul_comm x]
              exact Int.mul_le_mul_of_nonneg_left this (by omega)
        · refine ⟨p1, g1, k + 1, hL1, Nat.le_refl _, ?_⟩
          intro p' g' n' hn' hL'
          rw [hx]
          by_cases c4 : n' ≤ k
          · exact absurd ⟨p', g', n', c4, hL'⟩ c2
          · have e' : n' = k + 1 := by omega
            subst e'
            have := hmax _ ⟨p', g', rfl, hL'⟩
            rw [Int.mul_comm x]
            exact Int.mul_le_mul_of_nonneg_left this (by omega)
      · have c2 : ∃ p g n, n ≤ k ∧ gL e p g n := by
          by_cases c4 : n0 ≤ k
          · exact ⟨p0, g0, n0, c4, hL0⟩
          · have e' : n0 = k + 1 := by omega
            subst e'
            exact absurd ⟨p0, g0, hL0⟩ c1
        obtain ⟨p2, g2, n2, hL2, hn2, hm2⟩ := ih c2
        refine ⟨p2, g2, n2, hL2, by omega, ?_⟩
        intro p' g' n' hn' hL'
        by_cases c4 : n' ≤ k
        · exact hm2 p' g' n' c4 hL'
        · have e' : n' = k + 1 := by omega
          subst e'
          exact absurd ⟨p', g', hL'⟩ c1
  -- some loop has at most N edges
  have small : ∃ p g n, n ≤ N ∧ gL e p g n := by
    obtain ⟨p, g, n, hL⟩ := hx
    by_cases c1 : n ≤ N
    · exact ⟨p, g, n, c1, hL⟩
    · obtain ⟨i, j, hij, hj, hp⟩ := gz_pig N p (fun i hi => (hN _ _ _ (hL.1 i (by omega))).1)
      exact ⟨_, _, j - i, by omega, (hL.1.cut hij (by omega) hp).1⟩
  obtain ⟨p, g, n, hL, hn, hm⟩ := key N small
  exact ⟨p, g, n, hL, hn, gB_of hN (fun p' g' n' hn' hL' => hm p' g' n' hn' hL')⟩
end

