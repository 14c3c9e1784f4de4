/-! ===== loops of the greatest mean keep the level ===== -/
section
variable {e : Nat → Nat → Int → Prop} {p : Nat → Nat} {g : Nat → Int} {m : Nat} {H : Nat → Int} {S C : Int}
theorem kz_tele (k : Nat) : gS S C g k + ka_sum (fun j => H (p (j + 1)) - H (p j) - (C * g j - S)) k = H (p k) - H (p 0) := by
  induction k with
  | zero => unfold gS; show C * 0 - S * 0 + 0 = H (p 0) - H (p 0); omega
  | succ k ih =>
    unfold gS at ih ⊢
    show C * (ka_sum g k + g k) - S * ((k + 1 : Nat) : Int) + (ka_sum (fun j => H (p (j + 1)) - H (p j) - (C * g j - S)) k + (H (p (k + 1)) - H (p k) - (C * g k - S))) = H (p (k + 1)) - H (p 0)
    rw [Int.mul_add, show ((k + 1 : Nat) : Int) = (k : Int) + 1 by omega, Int.mul_add, Int.mul_one]
    omega
theorem kz_loop (hK : ∀ u v w, e u v w → H u + (C * w - S) ≤ H v) (hL : gL e p g m) : C * ka_sum g m = S * m ↔ ∀ j, j < m → H (p j) + (C * g j - S) = H (p (j + 1)) := by
  have t := kz_tele (S := S) (C := C) (g := g) (H := H) (p := p) m
  rw [hL.2.2] at t
  unfold gS at t
  have pos : ∀ j, j < m → 0 ≤ H (p (j + 1)) - H (p j) - (C * g j - S) := fun j hj => by
    have := hK _ _ _ (hL.1 j hj)
    omega
  have z : ∀ k, ka_sum (fun _ => (0 : Int)) k = 0 := by
    intro k
    induction k with
    | zero => rfl
    | succ k ih => show ka_sum (fun _ => (0 : Int)) k + 0 = 0; omega
  constructor
  · intro q j hj
    by_cases c : H (p j) + (C * g j - S) = H (p (j + 1))
    · exact c
    · have a := ka_sum_plt (f := fun _ => (0 : Int)) (g := fun j => H (p (j + 1)) - H (p j) - (C * g j - S)) m pos ⟨j, hj, by
        have := pos j hj
        show (0 : Int) < H (p (j + 1)) - H (p j) - (C * g j - S)
        omega⟩
      rw [z] at a
      exfalso; omega
  · intro q
    have a := ka_sum_ple (g := fun _ => (0 : Int)) (f := fun j => H (p (j + 1)) - H (p j) - (C * g j - S)) m (fun j hj => by
      have := q j hj
      show H (p (j + 1)) - H (p j) - (C * g j - S) ≤ 0
      omega)
    have b := ka_sum_ple (f := fun _ => (0 : Int)) (g := fun j => H (p (j + 1)) - H (p j) - (C * g j - S)) m pos
    rw [z] at a b
    omega
end

