/-! ===== rounds: from the beginning and to the goal ===== -/
/-- by d steps from b to v -/
def kd_R (t : Nat → Nat → Prop) (b : Nat) : Nat → Nat → Prop
  | 0, v => v = b
  | d + 1, v => ∃ u, kd_R t b d u ∧ t u v
theorem kd_RD {t : Nat → Nat → Prop} {b g : Nat} : ∀ (d k v : Nat), kd_R t b d v → kd_D t g k v → kd_D t g (d + k) b
  | 0, k, v, h1, h2 => by
    have e : v = b := h1
    rw [← e, Nat.zero_add]
    exact h2
  | d + 1, k, v, ⟨u, h1, h2⟩, h3 => by
    have := kd_RD d (k + 1) u h1 ⟨v, h2, h3⟩
    rw [show d + 1 + k = d + (k + 1) by omega]
    exact this
theorem kd_DR {t : Nat → Nat → Prop} {b g : Nat} : ∀ (k d v : Nat), kd_R t b d v → kd_D t g (k + 1) v → ∃ u, kd_R t b (d + k) u ∧ t u g
  | 0, d, v, h1, ⟨u, h2, h3⟩ => by
    have e : u = g := h3
    exact ⟨v, h1, by rw [← e]; exact h2⟩
  | k + 1, d, v, h1, ⟨u, h2, h3⟩ => by
    obtain ⟨w, w1, w2⟩ := kd_DR k (d + 1) u ⟨v, h1, h2⟩ h3
    exact ⟨w, by rw [show d + (k + 1) = d + 1 + k by omega]; exact w1, w2⟩
/-- a round through b: the last step comes from a state that is reached -/
theorem kd_round {t : Nat → Nat → Prop} {b l : Nat} : kd_D t b (l + 1) b ↔ ∃ u, kd_R t b l u ∧ t u b := by
  constructor
  · intro h
    have := kd_DR l 0 b rfl h
    rw [Nat.zero_add] at this
    exact this
  · rintro ⟨u, h1, h2⟩
    exact kd_RD l 1 u h1 ⟨b, h2, rfl⟩

