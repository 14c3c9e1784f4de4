/-! ===== how far it is to the goal ===== -/
/-- by d steps from v to the goal -/
def kd_D (t : Nat → Nat → Prop) (g : Nat) : Nat → Nat → Prop
  | 0, v => v = g
  | d + 1, v => ∃ u, t v u ∧ kd_D t g d u
/-- distances up to r are told -/
def kd_F (t : Nat → Nat → Prop) (g n r : Nat) (f : Nat → Int) : Prop := ∀ v, v < n → (f v = 1000000 ∧ ∀ d, 1 ≤ d → d ≤ r → ¬ kd_D t g d v) ∨ ∃ d : Nat, f v = (d : Int) ∧ 1 ≤ d ∧ d ≤ r ∧ kd_D t g d v ∧ ∀ d', 1 ≤ d' → d' < d → ¬ kd_D t g d' v
/-- it leads on in round r + 1 -/
def kd_L (t : Nat → Nat → Prop) (g r : Nat) (f : Nat → Int) (v : Nat) : Prop := if r = 0 then t v g else ∃ u, t v u ∧ f u = (r : Int)
theorem kd_F.zero {t : Nat → Nat → Prop} {g n : Nat} {f : Nat → Int} (h : ∀ v, v < n → f v = 1000000) : kd_F t g n 0 f := fun v hv => Or.inl ⟨h v hv, fun d a b => by omega⟩
theorem kd_F.step {t : Nat → Nat → Prop} {g n r : Nat} {f f' : Nat → Int} (hr : r < 1000000) (hN : ∀ u v, t u v → v < n) (h : kd_F t g n r f)
    (h1 : ∀ v, v < n → f v = 1000000 → kd_L t g r f v → f' v = ((r + 1 : Nat) : Int)) (h2 : ∀ v, v < n → ¬ (f v = 1000000 ∧ kd_L t g r f v) → f' v = f v) : kd_F t g n (r + 1) f' := by
  have key : ∀ v, v < n → (∀ d, 1 ≤ d → d ≤ r → ¬ kd_D t g d v) → (kd_D t g (r + 1) v ↔ kd_L t g r f v) := by
    intro v hv hno
    unfold kd_L
    by_cases r0 : r = 0
    · rw [if_pos r0, r0]
      constructor
      · rintro ⟨u, u1, u2⟩
        have u2 : u = g := u2
        rw [← u2]; exact u1
      · exact fun q => ⟨g, q, rfl⟩
    · rw [if_neg r0]
      constructor
      · rintro ⟨u, u1, u2⟩
        refine ⟨u, u1, ?_⟩
        rcases h u (hN _ _ u1) with ⟨-, q⟩ | ⟨d, d1, d2, d3, d4, d5⟩
        · exact absurd u2 (q r (by omega) (Nat.le_refl r))
        · by_cases c : d = r
          · rw [d1, c]
          · exact absurd ⟨u, u1, d4⟩ (hno (d + 1) (by omega) (by omega))
      · rintro ⟨u, u1, u2⟩
        refine ⟨u, u1, ?_⟩
        rcases h u (hN _ _ u1) with ⟨q, -⟩ | ⟨d, d1, d2, d3, d4, d5⟩
        · exfalso; omega
        · have : d = r := by omega
          rw [← this]; exact d4
  intro v hv
  rcases h v hv with ⟨q1, q2⟩ | ⟨d, d1, d2, d3, d4, d5⟩
  · by_cases c : kd_L t g r f v
    · right
      exact ⟨r + 1, h1 v hv q1 c, by omega, Nat.le_refl _, (key v hv q2).mpr c, fun d' a b => q2 d' a (by omega)⟩
    · left
      refine ⟨by rw [h2 v hv (fun z => c z.2)]; exact q1, fun d a b => ?_⟩
      by_cases e : d = r + 1
      · rw [e]; exact fun z => c ((key v hv q2).mp z)
      · exact q2 d a (by omega)
  · right
    exact ⟨d, by rw [h2 v hv (fun z => by have := z.1; omega)]; exact d1, d2, by omega, d4, d5⟩
/-- distances on the way: the next state is one nearer -/
theorem kd_F.next {t : Nat → Nat → Prop} {g n r : Nat} {f : Nat → Int} (hN : ∀ u v, t u v → v < n) (h : kd_F t g n r f) {v d : Nat} (hd : 1 ≤ d) (hdr : d ≤ r) (hr : r + 1 < 1000000) (hv : v < n) (hf : f v = ((d + 1 : Nat) : Int)) : ∃ u, t v u ∧ f u = (d : Int) := by
  rcases h v hv with ⟨q, -⟩ | ⟨e, e1, e2, e3, e4, e5⟩
  · exfalso; omega
  · have ed : e = d + 1 := by omega
    subst ed
    obtain ⟨u, u1, u2⟩ := e4
    refine ⟨u, u1, ?_⟩
    rcases h u (hN _ _ u1) with ⟨-, q⟩ | ⟨k, k1, k2, k3, k4, k5⟩
    · exact absurd u2 (q d hd hdr)
    · by_cases c : k = d
      · rw [k1, c]
      · by_cases c2 : k < d
        · exact absurd ⟨u, u1, k4⟩ (e5 (k + 1) (by omega) (by omega))
        · exact absurd u2 (k5 d hd (by omega))

