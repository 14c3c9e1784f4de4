/-! ===== the reference: the greatest mean of a loop ===== -/
theorem fr_trans {a b c d e f : Int} (hb : 0 ≤ b) (hd : 0 < d) (hf : 0 ≤ f) (h1 : a * d ≤ c * b) (h2 : c * f ≤ e * d) : a * f ≤ e * b := by
  have q1 := Int.mul_le_mul_of_nonneg_right h1 hf
  have q2 := Int.mul_le_mul_of_nonneg_right h2 hb
  refine Int.le_of_mul_le_mul_right (a := d) ?_ hd
  rw [show a * f * d = a * d * f by rw [Int.mul_assoc, Int.mul_comm f d, ← Int.mul_assoc], show e * b * d = e * d * b by rw [Int.mul_assoc, Int.mul_comm b d, ← Int.mul_assoc]]
  rw [show c * b * f = c * f * b by rw [Int.mul_assoc, Int.mul_comm b f, ← Int.mul_assoc]] at q1
  exact Int.le_trans q1 q2
theorem mm_mulB {a b A B : Int} (h1 : -A ≤ a) (h2 : a ≤ A) (h3 : 0 ≤ b) (h4 : b ≤ B) : -(A * B) ≤ a * b ∧ a * b ≤ A * B := by
  have q1 := Int.mul_le_mul_of_nonneg_right h2 h3
  have q2 := Int.mul_le_mul_of_nonneg_right h1 h3
  have q3 := Int.mul_le_mul_of_nonneg_left h4 (show 0 ≤ A by omega)
  rw [Int.neg_mul] at q2
  omega
/-- the least of what is left above the parts, as a fraction -/
def kw_N (A : Int) (part : Nat → Int) (n k0 : Nat) (S C : Int) : Prop := (C = 0 ∧ ∀ k, k < k0 → part k = -4000000000000000000) ∨ (1 ≤ C ∧ (∃ k, k < k0 ∧ part k ≠ -4000000000000000000 ∧ S = A - part k ∧ C = (n : Int) - k) ∧ ∀ k, k < k0 → part k ≠ -4000000000000000000 → S * ((n : Int) - k) ≤ (A - part k) * C)
theorem kw_N.no {A S C : Int} {part : Nat → Int} {n k : Nat} (h : kw_N A part n k S C) (hn : part k = -4000000000000000000) : kw_N A part n (k + 1) S C := by
  rcases h with ⟨h1, h2⟩ | ⟨h1, ⟨i, i1, i2, i3⟩, h2⟩
  · refine Or.inl ⟨h1, fun i hi => ?_⟩
    by_cases e : i = k
    · rw [e]; exact hn
    · exact h2 i (by omega)
  · refine Or.inr ⟨h1, ⟨i, by omega, i2, i3⟩, fun i hi => ?_⟩
    by_cases e : i = k
    · rw [e]; exact fun z => absurd hn z
    · exact h2 i (by omega)
theorem kw_N.old {A S C : Int} {part : Nat → Int} {n k : Nat} (h : kw_N A part n k S C) (hC : 0 < C) (hn : S * ((n : Int) - k) ≤ (A - part k) * C) : kw_N A part n (k + 1) S C := by
  rcases h with ⟨h1, h2⟩ | ⟨h1, ⟨i, i1, i2, i3⟩, h2⟩
  · exfalso; omega
  · refine Or.inr ⟨h1, ⟨i, by omega, i2, i3⟩, fun i hi => ?_⟩
    by_cases e : i = k
    · rw [e]; exact fun _ => hn
    · exact h2 i (by omega)
theorem kw_N.new {A S C : Int} {part : Nat → Int} {n k : Nat} (h : kw_N A part n k S C) (hk : k < n) (hp : part k ≠ -4000000000000000000) (hn : C ≤ 0 ∨ (A - part k) * C < S * ((n : Int) - k)) : kw_N A part n (k + 1) (A - part k) ((n : Int) - k) := by
  refine Or.inr ⟨by omega, ⟨k, by omega, hp, rfl, rfl⟩, fun i hi hq => ?_⟩
  by_cases e : i = k
  · rw [e]; exact Int.le_refl _
  · rcases h with ⟨h1, h2⟩ | ⟨h1, -, h2⟩
    · exact absurd (h2 i (by omega)) hq
    · have q := h2 i (by omega) hq
      rcases hn with hn | hn
      · exfalso; omega
      · exact fr_trans (d := C) (c := S) (by omega) (by omega) (by omega) (by omega) q
/-- the greatest of these over the states -/
def kw_O (V : Nat → Nat → Int) (n s0 : Nat) (S C : Int) : Prop := (C = 0 ∧ ∀ s, s < s0 → V n s = -4000000000000000000) ∨ (1 ≤ C ∧ (∃ s, s < s0 ∧ V n s ≠ -4000000000000000000 ∧ kw_N (V n s) (fun k => V k s) n n S C) ∧ ∀ s, s < s0 → V n s ≠ -4000000000000000000 → ∃ a b, 1 ≤ b ∧ kw_N (V n s) (fun k => V k s) n n a b ∧ a * C ≤ S * b)
theorem kw_O.no {V : Nat → Nat → Int} {n s : Nat} {S C : Int} (h : kw_O V n s S C) (hn : V n s = -4000000000000000000) : kw_O V n (s + 1) S C := by
  rcases h with ⟨h1, h2⟩ | ⟨h1, ⟨i, i1, i2⟩, h2⟩
  · refine Or.inl ⟨h1, fun i hi => ?_⟩
    by_cases e : i = s
    · rw [e]; exact hn
    · exact h2 i (by omega)
  · refine Or.inr ⟨h1, ⟨i, by omega, i2⟩, fun i hi => ?_⟩
    by_cases e : i = s
    · rw [e]; exact fun z => absurd hn z
    · exact h2 i (by omega)
theorem kw_O.old {V : Nat → Nat → Int} {n s : Nat} {S C a b : Int} (h : kw_O V n s S C) (hC : 0 < C) (hN : kw_N (V n s) (fun k => V k s) n n a b) (hb : 1 ≤ b) (hn : a * C ≤ S * b) : kw_O V n (s + 1) S C := by
  rcases h with ⟨h1, h2⟩ | ⟨h1, ⟨i, i1, i2⟩, h2⟩
  · exfalso; omega
  · refine Or.inr ⟨h1, ⟨i, by omega, i2⟩, fun i hi => ?_⟩
    by_cases e : i = s
    · rw [e]; exact fun _ => ⟨a, b, hb, hN, hn⟩
    · exact h2 i (by omega)
theorem kw_O.new {V : Nat → Nat → Int} {n s : Nat} {S C a b : Int} (h : kw_O V n s S C) (hp : V n s ≠ -4000000000000000000) (hN : kw_N (V n s) (fun k => V k s) n n a b) (hb : 1 ≤ b) (hn : C ≤ 0 ∨ S * b < a * C) : kw_O V n (s + 1) a b := by
  refine Or.inr ⟨hb, ⟨s, by omega, hp, hN⟩, fun i hi hq => ?_⟩
  by_cases e : i = s
  · rw [e]; exact ⟨a, b, hb, hN, Int.le_refl _⟩
  · rcases h with ⟨h1, h2⟩ | ⟨h1, -, h2⟩
    · exact absurd (h2 i (by omega)) hq
    · obtain ⟨c, d, q1, q2, q3⟩ := h2 i (by omega) hq
      rcases hn with hn | hn
      · exfalso; omega
      · exact ⟨c, d, q1, q2, fr_trans (d := C) (c := S) (by omega) (by omega) (by omega) q3 (by omega)⟩
/-- s / c is the greatest mean of a loop -/
def kw_mean (e : Nat → Nat → Int → Prop) (S C : Int) : Prop := 1 ≤ C ∧ gB e S C ∧ ∃ p g m, gL e p g m ∧ C * ka_sum g m = S * m
theorem kw_loop {e : Nat → Nat → Int → Prop} {n : Nat} {p : Nat → Nat} {g : Nat → Int} (hN : ∀ u v w, e u v w → u < n ∧ v < n) (hn : 1 ≤ n) (hW : gW e p g n) : ∃ p g m, gL e p g m := by
  obtain ⟨i, j, hij, hj, he⟩ := gz_pig n p (fun i hi => by
    by_cases c : i < n
    · exact (hN _ _ _ (hW i c)).1
    · have := (hN _ _ _ (hW (i - 1) (by omega))).2
      rw [show i - 1 + 1 = i by omega] at this
      exact this)
  refine ⟨_, _, j - i, hW.from (i := i) (k := j - i) (by omega), by omega, ?_⟩
  show p (i + (j - i)) = p (i + 0)
  rw [show i + (j - i) = j by omega, Nat.add_zero]
  exact he.symm
theorem kw_karp {e : Nat → Nat → Int → Prop} {n : Nat} {V : Nat → Nat → Int} {S C : Int} (hN : ∀ u v w, e u v w → u < n ∧ v < n) (hB : ∀ u v w, e u v w → -5800000 ≤ w ∧ w ≤ 5800000) (hn : 1 ≤ n) (hn2 : n ≤ 288)
    (hV : ∀ k, k ≤ n → ∀ v, v < n → kw_V e k v (V k v)) (hO : kw_O V n n S C) : (C = 0 ∧ ¬ ∃ p g m, gL e p g m) ∨ (kw_mean e S C) := by
  have vb : ∀ k, k ≤ n → ∀ v, v < n → V k v ≠ -4000000000000000000 → (∃ p g, gW e p g k ∧ p k = v ∧ ka_sum g k = V k v) ∧ ∀ p g, gW e p g k → p k = v → ka_sum g k ≤ V k v := by
    intro k hk v hv hne
    rcases hV k hk v hv with ⟨q, -⟩ | q
    · exact absurd q hne
    · exact q
  have vx : ∀ k, k ≤ n → ∀ v, v < n → ∀ p g, gW e p g k → p k = v → V k v ≠ -4000000000000000000 ∧ ka_sum g k ≤ V k v := by
    intro k hk v hv p g w hp
    have b := (hV k hk v hv).b hB
    rcases hV k hk v hv with ⟨-, q⟩ | ⟨-, q⟩
    · exact absurd hp (q p g w)
    · have u := q p g w hp
      have := ka_sumb (B := 5800000) (n := k) (f := g) (fun i hi => by have := hB _ _ _ (w i hi); omega)
      exact ⟨by omega, u⟩
  rcases hO with ⟨h1, h2⟩ | ⟨h1, ⟨s0, s1, s2, s3⟩, h2⟩
  · refine Or.inl ⟨h1, ?_⟩
    rintro ⟨p, g, m, hL⟩
    have w := gl_walk hL n
    have hv : p (n % m) < n := (hN _ _ _ (hL.1 (n % m) (Nat.mod_lt n hL.2.1))).1
    exact (vx n (Nat.le_refl n) _ hv _ _ w rfl).1 (h2 _ hv)
  · obtain ⟨p0, g0, w0, e0, a0⟩ := (vb n (Nat.le_refl n) s0 s1 s2).1
    obtain ⟨p, g, m, hL, hm, hb⟩ := gB_ex hN (B := 5800000) hB (kw_loop hN hn w0)
    have hm1 := hL.2.1
    -- the answer is no greater than the greatest mean
    have up : S * (m : Int) ≤ ka_sum g m * C := by
      obtain ⟨q, f, k, w1, w2, w3, w4⟩ := karp_up hN hb w0 (by rw [e0]; exact s1)
      rw [e0] at w2
      obtain ⟨x1, x2⟩ := vx k (by omega) s0 s1 q f w1 w2
      rcases s3 with ⟨z, -⟩ | ⟨-, -, z⟩
      · exfalso; omega
      · have y := z k w3 x1
        have y1 : (V n s0 - V k s0) * (m : Int) ≤ ka_sum g m * ((n : Int) - k) := by
          refine Int.le_trans ?_ w4
          rw [Int.mul_comm]
          exact Int.mul_le_mul_of_nonneg_left (by omega) (by omega)
        exact fr_trans (d := (n : Int) - k) (c := V n s0 - V k s0) (by omega) (by omega) (by omega) y y1
    have dn : ka_sum g m * C ≤ S * (m : Int) := by
      obtain ⟨q, f, w1, w2, w3⟩ := karp_down hN (B := 5800000) hB (s := ka_sum g m) (c := m) (by omega) hb hL (Int.mul_comm _ _)
      obtain ⟨x1, x2⟩ := vx n (Nat.le_refl n) (q n) w2 q f w1 rfl
      obtain ⟨a, b, q1, q2, q3⟩ := h2 (q n) w2 x1
      rcases q2 with ⟨z, -⟩ | ⟨-, ⟨k, k1, k2, k3, k4⟩, -⟩
      · exfalso; omega
      · obtain ⟨p', g', u1, u2, u3⟩ := (vb k (by omega) (q n) w2 k2).1
        have y := w3 p' g' k u1 u2
        have y1 : ka_sum g m * b ≤ a * (m : Int) := by
          rw [k4]
          refine Int.le_trans y ?_
          rw [Int.mul_comm a, k3, u3]
          exact Int.mul_le_mul_of_nonneg_left (by show ka_sum f n - V k (q n) ≤ V n (q n) - V k (q n); omega) (by omega)
        exact fr_trans (d := b) (c := a) (by omega) (by omega) (by omega) y1 q3
    refine Or.inr ⟨h1, ?_, p, g, m, hL, by rw [Int.mul_comm]; omega⟩
    intro p' g' m' hL'
    have y := hb p' g' m' hL'
    rw [Int.mul_comm C, ]
    exact fr_trans (b := (m' : Int)) (d := (m : Int)) (c := ka_sum g m) (by omega) (by omega) (by omega) (by rw [Int.mul_comm]; exact y) dn

