/-! ===== rounds are short; told steps and acts ===== -/
section
variable {t : Nat → Nat → Prop}
theorem kd_walk {g : Nat} : ∀ (d v : Nat), kd_D t g d v → ∃ p : Nat → Nat, p 0 = v ∧ p d = g ∧ ∀ i, i < d → t (p i) (p (i + 1))
  | 0, v, h => ⟨fun _ => v, rfl, h, fun i hi => absurd hi (by omega)⟩
  | d + 1, v, ⟨u, h1, h2⟩ => by
    obtain ⟨p, p1, p2, p3⟩ := kd_walk d u h2
    refine ⟨fun i => if i = 0 then v else p (i - 1), rfl, ?_, ?_⟩
    · show (if d + 1 = 0 then v else p (d + 1 - 1)) = g
      rw [if_neg (by omega)]; exact p2
    · intro i hi
      show t (if i = 0 then v else p (i - 1)) (if i + 1 = 0 then v else p (i + 1 - 1))
      rw [if_neg (show ¬ i + 1 = 0 by omega), show i + 1 - 1 = i by omega]
      by_cases c : i = 0
      · rw [if_pos c, c, p1]; exact h1
      · rw [if_neg c]
        have := p3 (i - 1) (by omega)
        rw [show i - 1 + 1 = i by omega] at this
        exact this
theorem kd_Rof {p : Nat → Nat} : ∀ k : Nat, (∀ i, i < k → t (p i) (p (i + 1))) → kd_R t (p 0) k (p k)
  | 0, _ => rfl
  | k + 1, h => ⟨p k, kd_Rof k (fun i hi => h i (by omega)), h k (by omega)⟩
/-- the shortest round is no longer than there are states -/
theorem kd_short {n b : Nat} (hN : ∀ u v, t u v → u < n) {m : Nat} (hm : 1 ≤ m) (h : kd_D t b m b) : ∃ l, 1 ≤ l ∧ l ≤ n ∧ l ≤ m ∧ kd_D t b l b := by
  induction m using Nat.strongRecOn with
  | ind m ih =>
    by_cases c : m ≤ n
    · exact ⟨m, hm, c, Nat.le_refl m, h⟩
    · obtain ⟨p, p1, p2, p3⟩ := kd_walk m b h
      obtain ⟨i, j, i1, i2, i3⟩ := gz_pig n p (fun i hi => hN _ _ (p3 i (by omega)))
      have a := kd_Rof (t := t) (p := p) i (fun x hx => p3 x (by omega))
      have z := kd_Dof (t := t) (p := p) (m - j) j (fun x hx => p3 x (by omega))
      rw [show j + (m - j) = m by omega, p2, ← i3] at z
      rw [p1] at a
      have d := kd_RD i (m - j) (p i) a z
      obtain ⟨l, l1, l2, l3, l4⟩ := ih (i + (m - j)) (by omega) (by omega) d
      exact ⟨l, l1, l2, by omega, l4⟩
end
section
variable {K Lo Hi F G H : Nat → Int} {h S C : Int} {n : Nat}
theorem ke_P_act {s : Int} {x L : Nat} {f v : Int} (hK : mm_KV K) (hL : L = (K 10).toNat) (hx : x < 15) (hP : ke_P K Lo Hi h s x L f v) :
    (∀ a, ks_ac K a → a % 15 = (x : Int) → ks_safe K Lo Hi s a h → f = 1 ∧ ks_sure K Lo Hi s a h ≤ v) ∧ (f = 1 → ∃ a, ks_ac K a ∧ a % 15 = (x : Int) ∧ ks_safe K Lo Hi s a h ∧ ks_sure K Lo Hi s a h = v) := by
  have h10 : 1 ≤ K 10 ∧ K 10 ≤ 3 := by
    obtain ⟨-, -, -, -, -, -, -, -, -, -, q, -⟩ := hK
    exact q
  constructor
  · intro a ha hax hs
    obtain ⟨i, hi⟩ : ∃ i : Nat, a = 15 * (i : Int) + x := ⟨(a / 15).toNat, by omega⟩
    have iL : i < L := by omega
    rw [hi] at hs ⊢
    rcases hP with ⟨q1, q2⟩ | ⟨q1, q2, q3⟩
    · exact absurd hs (q2 i iL)
    · exact ⟨q1, q3 i iL hs⟩
  · intro hf
    rcases hP with ⟨q1, q2⟩ | ⟨q1, ⟨i, i1, i2, i3⟩, q3⟩
    · omega
    · exact ⟨15 * (i : Int) + x, ⟨by omega, by omega⟩, by omega, i2, i3⟩
theorem ks_to_m {s a : Int} {x : Nat} (ha : ks_ac K a) (hx : a % 15 = (x : Int)) : ks_to K s a = ks_to K s (x : Int) := by
  have e : a = 15 * (a / 15) + x := by omega
  rw [e, ks_to_15]
/-- no act leads higher -/
theorem ke_up (hK : mm_KV K) (hn : ks_n K = (n : Int)) (hC : 0 < C) (hP : ∀ x, x < 15 * n → ke_P K Lo Hi h ((x / 15 : Nat) : Int) (x % 15) (K 10).toNat (F x) (G x)) (hS : ke_S K n F G)
    (hk : ∀ i, i < 15 * n → F i = 1 → H (i / 15) + (C * G i - S) ≤ H (ke_T K i)) : ∀ u v w, kb_E K Lo Hi h u v w → H u + (C * w - S) ≤ H v := by
  rintro u v w ⟨hu, a, a1, a2, a3, a4⟩
  obtain ⟨x, hx⟩ : ∃ x : Nat, a % 15 = (x : Int) := ⟨(a % 15).toNat, by omega⟩
  have hun : u < n := by have := hu.2; omega
  have e1 : (15 * u + x) / 15 = u := by omega
  have e2 : (15 * u + x) % 15 = x := by omega
  have p := hP (15 * u + x) (by omega)
  rw [e1, e2] at p
  obtain ⟨f1, f2⟩ := (ke_P_act hK rfl (by omega) p).1 a a1 hx a2
  have q := hk (15 * u + x) (by omega) f1
  have st := (hS.t (i := 15 * u + x) (by omega) f1).1
  rw [e1] at q
  rw [e1, e2, ← ks_to_m a1 hx, a3] at st
  have ev : ke_T K (15 * u + x) = v := by omega
  rw [ev] at q
  have := Int.mul_le_mul_of_nonneg_left f2 (by omega : 0 ≤ C)
  rw [a4]
  omega
/-- acts that keep the level are of steps that keep it -/
theorem ke_tt (hK : mm_KV K) (hn : ks_n K = (n : Int)) (hC : 0 < C) (hP : ∀ x, x < 15 * n → ke_P K Lo Hi h ((x / 15 : Nat) : Int) (x % 15) (K 10).toNat (F x) (G x)) (hS : ke_S K n F G)
    (hk : ∀ i, i < 15 * n → F i = 1 → H (i / 15) + (C * G i - S) ≤ H (ke_T K i)) (u v : Nat) :
    kb_t K Lo Hi h H S C u v ↔ u < n ∧ ∃ i, 15 * u ≤ i ∧ i < 15 * u + 15 ∧ (F i = 1 ∧ H (i / 15) + (C * G i - S) = H (ke_T K i)) ∧ v = ke_T K i := by
  constructor
  · rintro ⟨hu, a, ⟨a1, a2, a3⟩, a4⟩
    obtain ⟨x, hx⟩ : ∃ x : Nat, a % 15 = (x : Int) := ⟨(a % 15).toNat, by omega⟩
    have hun : u < n := by have := hu.2; omega
    have e1 : (15 * u + x) / 15 = u := by omega
    have e2 : (15 * u + x) % 15 = x := by omega
    have p := hP (15 * u + x) (by omega)
    rw [e1, e2] at p
    obtain ⟨f1, f2⟩ := (ke_P_act hK rfl (by omega) p).1 a a1 hx a2
    have q := hk (15 * u + x) (by omega) f1
    have st := (hS.t (i := 15 * u + x) (by omega) f1).1
    rw [e1] at q
    rw [e1, e2, ← ks_to_m a1 hx, a4] at st
    have ev : ke_T K (15 * u + x) = v := by omega
    have := Int.mul_le_mul_of_nonneg_left f2 (by omega : 0 ≤ C)
    rw [a4, show ((u : Int)).toNat = u by omega, show ((v : Int)).toNat = v by omega] at a3
    refine ⟨hun, 15 * u + x, by omega, by omega, ⟨f1, ?_⟩, ev.symm⟩
    rw [e1, ev]
    rw [ev] at q
    omega
  · rintro ⟨hun, i, i1, i2, ⟨i3, i4⟩, i5⟩
    have e1 : i / 15 = u := by omega
    have p := hP i (by omega)
    rw [e1] at p
    obtain ⟨a, a1, a2, a3, a4⟩ := (ke_P_act hK rfl (by omega) p).2 i3
    have st := (hS.t (i := i) (by omega) i3).1
    rw [e1, ← ks_to_m a1 a2] at st
    rw [e1] at i4
    refine ⟨⟨by omega, by omega⟩, a, ⟨a1, a3, ?_⟩, by omega⟩
    rw [a4, ← st, show ((u : Int)).toNat = u by omega, show (((ke_T K i : Nat)) : Int).toNat = ke_T K i by omega]
    exact i4
/-- the greatest mean is that of a short round -/
theorem ke_round (hK : mm_KV K) (hn : ks_n K = (n : Int)) (hC : 0 < C) (hP : ∀ x, x < 15 * n → ke_P K Lo Hi h ((x / 15 : Nat) : Int) (x % 15) (K 10).toNat (F x) (G x)) (hS : ke_S K n F G)
    (hk : ∀ i, i < 15 * n → F i = 1 → H (i / 15) + (C * G i - S) ≤ H (ke_T K i)) (hm : kw_mean (ke_E K n F G) S C) : ∃ b l : Nat, b < n ∧ 1 ≤ l ∧ l ≤ n ∧ kd_D (kb_t K Lo Hi h H S C) b l b := by
  obtain ⟨-, -, p, g, m, hL, hg⟩ := hm
  have hup : ∀ u v w, ke_E K n F G u v w → H u + (C * w - S) ≤ H v := by
    rintro u v w ⟨i, i1, i2, i3, i4, i5⟩
    rw [i3, i4, i5]
    exact hk i i1 i2
  have tight := (kz_loop hup hL).mp hg
  have ts : ∀ j, j < m → kb_t K Lo Hi h H S C (p j) (p (j + 1)) := by
    intro j hj
    obtain ⟨i, i1, i2, i3, i4, i5⟩ := hL.1 j hj
    have q := tight j hj
    rw [i3, i4, i5] at q
    exact (ke_tt hK hn hC hP hS hk _ _).mpr ⟨by omega, i, by omega, by omega, ⟨i2, q⟩, i4⟩
  have d := kd_Dof (t := kb_t K Lo Hi h H S C) (p := p) m 0 (fun i hi => ts i (by omega))
  rw [Nat.zero_add, hL.2.2] at d
  obtain ⟨l, l1, l2, -, l4⟩ := kd_short (n := n) (fun u v z => ((ke_tt hK hn hC hP hS hk u v).mp z).1) hL.2.1 d
  have := ((ke_tt hK hn hC hP hS hk _ _).mp (ts 0 (by have := hL.2.1; omega))).1
  exact ⟨p 0, l, this, l1, l2, l4⟩
end

