/-! ===== KitePower$LoopFinder: levels, and which path raised a state ===== -/
/-- a path by its number, from u to v -/
def kv_p (N : mm_M) (n p u v : Nat) : Prop := p < 4320 ∧ u < n ∧ v < n ∧ N 31 u ≤ (p : Int) ∧ (p : Int) < N 31 (u + 1) ∧ N 32 p = (u : Int) ∧ N 33 p = (v : Int)
/-- what a path adds to a level -/
def kv_w (N : mm_M) (S C : Int) (p : Nat) : Int := N 34 p * C - S
/-- states that raised one another in a ring: r j leads from q j to q (j + 1) -/
def kv_R (N : mm_M) (n : Nat) (q r : Nat → Nat) (m : Nat) : Prop := 1 ≤ m ∧ q m = q 0 ∧ ∀ j, j < m → N 37 (q (j + 1)) = (r j : Int) ∧ kv_p N n (r j) (q j) (q (j + 1))
/-- levels of sweep t; T: when a state was raised latest -/
def kv_A (N : mm_M) (n : Nat) (S C : Int) (T : Nat → Nat) (t : Nat) (B : Int) : Prop :=
  (∀ v, v < n → 0 ≤ N 36 v ∧ N 36 v ≤ B) ∧
  (∀ v, v < n → (N 37 v = -1 ∧ T v = 0) ∨ ∃ p u : Nat, N 37 v = (p : Int) ∧ kv_p N n p u v ∧ 1 ≤ T v ∧ T v ≤ T u + 1 ∧ N 36 v ≤ N 36 u + kv_w N S C p) ∧
  (∀ q r m, kv_R N n q r m → ∃ j, j < m ∧ N 36 (q (j + 1)) < N 36 (q j) + kv_w N S C (r j)) ∧
  (∀ v, v < n → T v ≤ t) ∧ ∀ v, v < n → N 38 v = 0 ∨ N 38 v = 1
/-- no path from y raises -/
def kv_S (N : mm_M) (n : Nat) (S C : Int) (y : Nat) : Prop := ∀ p v : Nat, kv_p N n p y v → N 36 y + kv_w N S C p ≤ N 36 v
/-- a path has raised a state -/
def kv_up (N : mm_M) (v p : Nat) (x : Int) : mm_M := mm_up (mm_up (mm_up N 36 v x) 37 v (p : Int)) 38 v 1
section
variable {N : mm_M} {n : Nat} {S C B : Int} {T : Nat → Nat} {t : Nat}
theorem kv_up_row {v p a : Nat} {x : Int} (h1 : a ≠ 36) (h2 : a ≠ 37) (h3 : a ≠ 38) : kv_up N v p x a = N a := by
  unfold kv_up
  rw [mm_up_row h3, mm_up_row h2, mm_up_row h1]
theorem kv_up_36 {v p : Nat} {x : Int} : kv_up N v p x 36 v = x := by
  unfold kv_up
  rw [mm_up_c (by decide), mm_up_c (by decide), mm_up_s]
theorem kv_up_37 {v p : Nat} {x : Int} : kv_up N v p x 37 v = (p : Int) := by
  unfold kv_up
  rw [mm_up_c (by decide), mm_up_s]
theorem kv_up_38 {v p : Nat} {x : Int} : kv_up N v p x 38 v = 1 := by
  unfold kv_up
  rw [mm_up_s]
theorem kv_up_i {v p a y : Nat} {x : Int} (h : y ≠ v) : kv_up N v p x a y = N a y := by
  unfold kv_up
  rw [mm_up_n (fun q => h q.2), mm_up_n (fun q => h q.2), mm_up_n (fun q => h q.2)]
theorem kv_p.up {v p a u w : Nat} {x : Int} : kv_p (kv_up N v p x) n a u w ↔ kv_p N n a u w := by
  unfold kv_p
  rw [kv_up_row (by decide) (by decide) (by decide), kv_up_row (by decide) (by decide) (by decide), kv_up_row (by decide) (by decide) (by decide)]
theorem kv_w.up {v p a : Nat} {x : Int} : kv_w (kv_up N v p x) S C a = kv_w N S C a := by
  unfold kv_w
  rw [kv_up_row (by decide) (by decide) (by decide)]
theorem kv_up_ge {v p : Nat} {x : Int} (hx : N 36 v ≤ x) (y : Nat) : N 36 y ≤ kv_up N v p x 36 y := by
  by_cases c : y = v
  · rw [c, kv_up_36]; exact hx
  · rw [kv_up_i c]; exact Int.le_refl _
theorem kv_A.raise (h : kv_A N n S C T t B) {p u v : Nat} {lv x B' : Int} (hp : kv_p N n p u v) (hlv : lv ≤ N 36 u) (hx : x = lv + kv_w N S C p) (hr : N 36 v < x) (hB : x ≤ B') (hB2 : B ≤ B') (ht : t ≤ T u + 1) (h1 : 1 ≤ t) :
    kv_A (kv_up N v p x) n S C (fun y => if y = v then t else T y) t B' := by
  obtain ⟨a1, a2, a3, a4, a5⟩ := h
  have ge := kv_up_ge (N := N) (v := v) (p := p) (x := x) (by omega)
  have vn : v < n := hp.2.2.1
  have un : u < n := hp.2.1
  have Tge : ∀ y, y < n → T y ≤ (if y = v then t else T y) := fun y hy => by
    by_cases c : y = v
    · rw [if_pos c, c]; exact a4 v vn
    · rw [if_neg c]; exact Nat.le_refl _
  refine ⟨fun y hy => ?_, fun y hy => ?_, fun q r m hR => ?_, fun y hy => ?_, fun y hy => ?_⟩
  · by_cases c : y = v
    · rw [c, kv_up_36]
      have := (a1 v vn).1
      exact ⟨by omega, hB⟩
    · rw [kv_up_i c]
      have := a1 y hy
      exact ⟨this.1, by omega⟩
  · show (_ ∧ (if y = v then t else T y) = 0) ∨ _
    by_cases c : y = v
    · right
      refine ⟨p, u, by rw [c, kv_up_37], by rw [c]; exact kv_p.up.mpr hp, ?_, ?_, ?_⟩
      · show 1 ≤ (if y = v then t else T y); rw [if_pos c]; exact h1
      · show (if y = v then t else T y) ≤ (if u = v then t else T u) + 1
        rw [if_pos c]
        have := Tge u un
        omega
      · rw [c, kv_up_36, kv_w.up]
        have := ge u
        omega
    · rw [if_neg c]
      rcases a2 y hy with q | ⟨p', u', q1, q2, q3, q4, q5⟩
      · left
        rw [kv_up_i c]; exact q
      · right
        refine ⟨p', u', by rw [kv_up_i c]; exact q1, kv_p.up.mpr q2, ?_, ?_, ?_⟩
        · show 1 ≤ (if y = v then t else T y); rw [if_neg c]; exact q3
        · show (if y = v then t else T y) ≤ (if u' = v then t else T u') + 1
          rw [if_neg c]
          have := Tge u' q2.2.1
          omega
        · rw [kv_up_i c, kv_w.up]
          have := ge u'
          omega
  · obtain ⟨r1, r2, r3⟩ := hR
    by_cases c : ∃ i, i < m ∧ q i = v
    · obtain ⟨i, i1, i2⟩ := c
      obtain ⟨e1, e2⟩ := r3 i i1
      have e2 := kv_p.up.mp e2
      refine ⟨i, i1, ?_⟩
      by_cases z : q (i + 1) = v
      · rw [z, kv_up_37] at e1
        have ep : r i = p := by omega
        have eu : u = v := by
          have a := hp.2.2.2.2.2.1
          have b := e2.2.2.2.2.2.1
          rw [ep] at b
          omega
        rw [z, i2, kv_up_36, kv_w.up, ep]
        rw [eu] at hlv
        omega
      · rw [i2, kv_up_i z, kv_up_36, kv_w.up]
        rw [kv_up_i z] at e1
        have zn := e2.2.2.1
        rcases a2 (q (i + 1)) zn with y | ⟨p', u', y1, y2, y3, y4, y5⟩
        · omega
        · have ep : r i = p' := by omega
          have eu : u' = v := by
            have a := y2.2.2.2.2.2.1
            have b := e2.2.2.2.2.2.1
            rw [ep, i2] at b
            omega
          rw [eu, ← ep] at y5
          omega
    · have old : kv_R N n q r m := ⟨r1, r2, fun j hj => by
        obtain ⟨e1, e2⟩ := r3 j hj
        have ne : q (j + 1) ≠ v := by
          intro z
          by_cases cj : j + 1 = m
          · rw [cj, r2] at z; exact c ⟨0, by omega, z⟩
          · exact c ⟨j + 1, by omega, z⟩
        rw [kv_up_i ne] at e1
        exact ⟨e1, kv_p.up.mp e2⟩⟩
      obtain ⟨j, j1, j2⟩ := a3 q r m old
      refine ⟨j, j1, ?_⟩
      have ne : q (j + 1) ≠ v := by
        intro z
        by_cases cj : j + 1 = m
        · rw [cj, r2] at z; exact c ⟨0, by omega, z⟩
        · exact c ⟨j + 1, by omega, z⟩
      have ne2 : q j ≠ v := fun z => c ⟨j, j1, z⟩
      rw [kv_up_i ne, kv_up_i ne2, kv_w.up]
      exact j2
  · show (if y = v then t else T y) ≤ t
    by_cases c : y = v
    · rw [if_pos c]; exact Nat.le_refl _
    · rw [if_neg c]; exact a4 y hy
  · by_cases c : y = v
    · rw [c, kv_up_38]; exact Or.inr rfl
    · rw [kv_up_i c]; exact a5 y hy
/-- a ring gives more than the mean -/
theorem kv_A.ring (h : kv_A N n S C T t B) {q r : Nat → Nat} {m : Nat} (hR : kv_R N n q r m) : S * m < C * ka_sum (fun j => N 34 (r j)) m := by
  obtain ⟨a1, a2, a3, -⟩ := h
  have sl : ∀ j, j < m → N 36 (q (j + 1)) ≤ N 36 (q j) + kv_w N S C (r j) := by
    intro j hj
    obtain ⟨e1, e2⟩ := hR.2.2 j hj
    rcases a2 (q (j + 1)) e2.2.2.1 with y | ⟨p', u', y1, y2, y3, y4, y5⟩
    · omega
    · have ep : r j = p' := by omega
      have eu : u' = q j := by
        have a := y2.2.2.2.2.2.1
        have b := e2.2.2.2.2.2.1
        rw [ep] at b
        omega
      rw [eu, ← ep] at y5
      exact y5
  have tele : ∀ k, ka_sum (fun j => N 36 (q (j + 1)) - N 36 (q j)) k = N 36 (q k) - N 36 (q 0) := by
    intro k
    induction k with
    | zero => show (0 : Int) = _; omega
    | succ k ih => show ka_sum _ k + (N 36 (q (k + 1)) - N 36 (q k)) = _; rw [ih]; omega
  have lt := ka_sum_plt (f := fun j => N 36 (q (j + 1)) - N 36 (q j)) (g := fun j => C * N 34 (r j) - S) m (fun j hj => by
    have := sl j hj
    unfold kv_w at this
    rw [Int.mul_comm] at this
    show N 36 (q (j + 1)) - N 36 (q j) ≤ C * N 34 (r j) - S
    omega) (by
    obtain ⟨j, j1, j2⟩ := a3 q r m hR
    refine ⟨j, j1, ?_⟩
    unfold kv_w at j2
    rw [Int.mul_comm] at j2
    show N 36 (q (j + 1)) - N 36 (q j) < C * N 34 (r j) - S
    omega)
  rw [tele, hR.2.1, ka_sum_lin] at lt
  omega
end

