/-! ===== hours to land and to fly ===== -/
/-- what a flown hour gives -/
def kP_g (K Lo Hi : Nat → Int) (h each fall x : Int) : Prop := ((∀ s B m, ¬ kb_lp K Lo Hi h s B m) ∧ x = -fall) ∨ ∃ S C : Int, 1 ≤ C ∧ (∀ s B m, kb_lp K Lo Hi h s B m → C * kb_sm K Lo Hi h s B m ≤ S * m) ∧ (∃ s B m, kb_lp K Lo Hi h s B m ∧ C * kb_sm K Lo Hi h s B m = S * m) ∧ x = (each * S).tdiv C
theorem tdiv_eq {a b c d : Int} (hb : 0 < b) (hd : 0 < d) (h : a * d = c * b) : a.tdiv b = c.tdiv d := by
  have e1 : (a * d).tdiv (b * d) = a.tdiv b := Int.mul_tdiv_mul_of_pos_left a b hd
  have e2 : (c * b).tdiv (d * b) = c.tdiv d := Int.mul_tdiv_mul_of_pos_left c d hb
  rw [← e1, ← e2, h, Int.mul_comm b d]
theorem kP_g.one {K Lo Hi : Nat → Int} {h each fall x y : Int} (q1 : kP_g K Lo Hi h each fall x) (q2 : kP_g K Lo Hi h each fall y) : x = y := by
  rcases q1 with ⟨a1, a2⟩ | ⟨S, C, a1, a2, ⟨s, B, m, a3, a4⟩, a5⟩
  · rcases q2 with ⟨b1, b2⟩ | ⟨S', C', b1, b2, ⟨s', B', m', b3, b4⟩, b5⟩
    · rw [a2, b2]
    · exact absurd b3 (a1 _ _ _)
  · rcases q2 with ⟨b1, b2⟩ | ⟨S', C', b1, b2, ⟨s', B', m', b3, b4⟩, b5⟩
    · exact absurd a3 (b1 _ _ _)
    · have x1 := b2 _ _ _ a3
      have x2 := a2 _ _ _ b3
      have m1 := a3.1
      have m2 := b3.1
      -- S / C = sm / m <= S' / C', and back
      have l1 : S * C' ≤ S' * C := fr_trans (b := C) (c := kb_sm K Lo Hi h s B m) (d := (m : Int)) (e := S') (f := C') (by omega) (by omega) (by omega) (by rw [← a4, Int.mul_comm]; exact Int.le_refl _) (by rw [Int.mul_comm]; exact x1)
      have l2 : S' * C ≤ S * C' := fr_trans (b := C') (c := kb_sm K Lo Hi h s' B' m') (d := (m' : Int)) (e := S) (f := C) (by omega) (by omega) (by omega) (by rw [← b4, Int.mul_comm]; exact Int.le_refl _) (by rw [Int.mul_comm]; exact x2)
      rw [a5, b5]
      refine tdiv_eq (by omega) (by omega) ?_
      rw [Int.mul_assoc, Int.mul_assoc, show S * C' = S' * C by omega]
/-- what hours behind one give at most: landed, and flown ahead of it -/
def kP_d (g : Nat → Int) (la ld : Int) (to : Nat) : Nat → Int × Int
  | 0 => (0, -ld)
  | k + 1 => (max (kP_d g la ld to k).1 (g (to - k) - la + (kP_d g la ld to k).2), max ((kP_d g la ld to k).1 - ld) (g (to - k) + (kP_d g la ld to k).2))
def kP_L (g : Nat → Int) (la ld : Int) (to h : Nat) : Int := (kP_d g la ld to (to + 1 - h)).1
def kP_F (g : Nat → Int) (la ld : Int) (to h : Nat) : Int := (kP_d g la ld to (to + 1 - h)).2
/-- whether one is up behind so many hours -/
def kP_u (g : Nat → Int) (la ld : Int) (to from' : Nat) : Nat → Int
  | 0 => 0
  | k + 1 => if kP_L g la ld to (from' + k + 1) - (if kP_u g la ld to from' k = 1 then ld else 0) < (if kP_u g la ld to from' k = 1 then kP_F g la ld to (from' + k) else kP_L g la ld to (from' + k)) then 1 else 0
theorem ite01 (P : Prop) [Decidable P] : (if P then (1 : Int) else 0) = 0 ∨ (if P then (1 : Int) else 0) = 1 := by
  by_cases c : P
  · rw [if_pos c]; exact Or.inr rfl
  · rw [if_neg c]; exact Or.inl rfl
theorem kP_u.b {g : Nat → Int} {la ld : Int} {to from' : Nat} : ∀ k, kP_u g la ld to from' k = 0 ∨ kP_u g la ld to from' k = 1
  | 0 => Or.inl rfl
  | k + 1 => ite01 _
section
variable {g : Nat → Int} {la ld : Int} {to : Nat}
theorem kP_d.b (hg : ∀ h, -60000000 ≤ g h ∧ g h ≤ 85536000) (hla : 0 ≤ la ∧ la ≤ 1000000) (hld : 0 ≤ ld ∧ ld ≤ 1000000) : ∀ k : Nat, (0 ≤ (kP_d g la ld to k).1 ∧ (kP_d g la ld to k).1 ≤ 85536000 * (k : Int)) ∧ -1000000 ≤ (kP_d g la ld to k).2 ∧ (kP_d g la ld to k).2 ≤ 85536000 * (k : Int)
  | 0 => by
    show (0 ≤ (0 : Int) ∧ (0 : Int) ≤ _) ∧ -1000000 ≤ -ld ∧ -ld ≤ _
    omega
  | k + 1 => by
    have := kP_d.b hg hla hld k
    have := hg (to - k)
    show (0 ≤ max (kP_d g la ld to k).1 (g (to - k) - la + (kP_d g la ld to k).2) ∧ max (kP_d g la ld to k).1 (g (to - k) - la + (kP_d g la ld to k).2) ≤ _) ∧ -1000000 ≤ max ((kP_d g la ld to k).1 - ld) (g (to - k) + (kP_d g la ld to k).2) ∧ max ((kP_d g la ld to k).1 - ld) (g (to - k) + (kP_d g la ld to k).2) ≤ _
    omega
theorem kP_step {h : Nat} (hh : h ≤ to) : kP_L g la ld to h = max (kP_L g la ld to (h + 1)) (g h - la + kP_F g la ld to (h + 1)) ∧ kP_F g la ld to h = max (kP_L g la ld to (h + 1) - ld) (g h + kP_F g la ld to (h + 1)) := by
  unfold kP_L kP_F
  have e : to + 1 - h = (to + 1 - (h + 1)) + 1 := by omega
  rw [e]
  have e2 : to - (to + 1 - (h + 1)) = h := by omega
  constructor
  · show max _ (g (to - (to + 1 - (h + 1))) - la + _) = _
    rw [e2]
  · show max _ (g (to - (to + 1 - (h + 1))) + _) = _
    rw [e2]
theorem kP_end : kP_L g la ld to (to + 1) = 0 ∧ kP_F g la ld to (to + 1) = -ld := by
  unfold kP_L kP_F
  rw [Nat.sub_self]
  exact ⟨rfl, rfl⟩
theorem kP_cg {g' : Nat → Int} {from' : Nat} (hg : ∀ h, from' ≤ h → h ≤ to → g' h = g h) : ∀ k : Nat, k ≤ to + 1 - from' → kP_d g' la ld to k = kP_d g la ld to k
  | 0, _ => rfl
  | k + 1, hk => by
    have := kP_cg hg k (by omega)
    unfold kP_d
    rw [this, hg (to - k) (by omega) (by omega)]
end
theorem kb_lp.sb {K Lo Hi : Nat → Int} {h s : Int} {A : Nat → Int} {n : Nat} (hK : mm_KV K) (hw : ∀ s, ks_st K s → (0 ≤ ks_wi Lo K s h ∧ ks_wi Lo K s h ≤ 60) ∧ (0 ≤ ks_wi Hi K s h ∧ ks_wi Hi K s h ≤ 60)) (hl : kb_lp K Lo Hi h s A n) : -1000000 * (n : Int) ≤ kb_sm K Lo Hi h s A n ∧ kb_sm K Lo Hi h s A n ≤ 1425600 * (n : Int) := by
  have st := hl.st hK
  have key : ∀ j, j < n → -1000000 ≤ kj_g K Lo Hi s h A j ∧ kj_g K Lo Hi s h A j ≤ 1425600 := by
    intro j hj
    obtain ⟨q1, q2⟩ := hl.2.2.1 j hj
    have w := hw _ (st j (by omega))
    have a := ks_low hK q1 q2 w
    have b := ks_high hK q1 w
    exact ⟨by show -1000000 ≤ ks_sure K Lo Hi (kf_run K s A j) (A j) h; omega, b⟩
  have c : ∀ (x : Int) (k : Nat), ka_sum (fun _ => x) k = x * (k : Int) := by
    intro x k
    induction k with
    | zero => show (0 : Int) = _; omega
    | succ k ih => show ka_sum (fun _ => x) k + x = _; rw [ih, show ((k + 1 : Nat) : Int) = (k : Int) + 1 by omega, Int.mul_add, Int.mul_one]
  have l := ka_sum_ple (f := fun _ => (-1000000 : Int)) (g := kj_g K Lo Hi s h A) n (fun j hj => (key j hj).1)
  have u := ka_sum_ple (f := kj_g K Lo Hi s h A) (g := fun _ => (1425600 : Int)) n (fun j hj => (key j hj).2)
  rw [c] at l u
  exact ⟨l, u⟩
theorem tdivb {a b A B : Int} (hb : 0 < b) (hA : 0 ≤ A) (hB : 0 ≤ B) (h1 : -(A * b) ≤ a) (h2 : a ≤ B * b) : -A ≤ a.tdiv b ∧ a.tdiv b ≤ B := by
  by_cases c : 0 ≤ a
  · rw [Int.tdiv_eq_ediv_of_nonneg c]
    have x1 := Int.ediv_nonneg c (show 0 ≤ b by omega)
    have x2 : a / b ≤ B := by
      have := Int.ediv_le_ediv hb h2
      rw [Int.mul_ediv_cancel _ (by omega)] at this
      exact this
    omega
  · have e : a.tdiv b = -((-a) / b) := by
      rw [← Int.tdiv_eq_ediv_of_nonneg (show 0 ≤ -a by omega), Int.neg_tdiv, Int.neg_neg]
    rw [e]
    have x1 := Int.ediv_nonneg (show 0 ≤ -a by omega) (show 0 ≤ b by omega)
    have x2 : -a / b ≤ A := by
      have := Int.ediv_le_ediv hb (show -a ≤ A * b by omega)
      rw [Int.mul_ediv_cancel _ (by omega)] at this
      exact this
    omega
theorem kP_g.b {K Lo Hi : Nat → Int} {h each fall x : Int} (hK : mm_KV K) (hw : ∀ s, ks_st K s → (0 ≤ ks_wi Lo K s h ∧ ks_wi Lo K s h ≤ 60) ∧ (0 ≤ ks_wi Hi K s h ∧ ks_wi Hi K s h ≤ 60)) (he : 1 ≤ each ∧ each ≤ 60) (hf : 0 ≤ fall ∧ fall ≤ 1000000) (q : kP_g K Lo Hi h each fall x) : -60000000 ≤ x ∧ x ≤ 85536000 := by
  rcases q with ⟨-, q⟩ | ⟨S, C, a1, a2, ⟨s, B, m, a3, a4⟩, a5⟩
  · omega
  · have sb := a3.sb hK hw
    have m1 := a3.1
    have e : (each * S).tdiv C = (each * kb_sm K Lo Hi h s B m).tdiv (m : Int) := by
      refine tdiv_eq (by omega) (by omega) ?_
      rw [Int.mul_assoc, ← a4, Int.mul_assoc, Int.mul_comm C]
    rw [a5, e]
    obtain ⟨w, hw0⟩ : ∃ w, w = kb_sm K Lo Hi h s B m := ⟨_, rfl⟩
    rw [← hw0] at sb ⊢
    have l := Int.mul_le_mul_of_nonneg_left sb.1 (by omega : 0 ≤ each)
    have u := Int.mul_le_mul_of_nonneg_left sb.2 (by omega : 0 ≤ each)
    have b1 : each * (1000000 * (m : Int)) ≤ 60 * (1000000 * (m : Int)) := Int.mul_le_mul_of_nonneg_right he.2 (by omega)
    have b2 : each * (1425600 * (m : Int)) ≤ 60 * (1425600 * (m : Int)) := Int.mul_le_mul_of_nonneg_right he.2 (by omega)
    have e3 : each * (-1000000 * (m : Int)) = -(each * (1000000 * (m : Int))) := by rw [show -1000000 * (m : Int) = -(1000000 * (m : Int)) by omega, Int.mul_neg]
    exact tdivb (by omega) (by omega) (by omega) (by omega) (by omega)
theorem kP_g.is {K Lo Hi : Nat → Int} {h each fall len w : Int} {A T : Nat → Int} (hK : mm_KV K) (q : kb_is K Lo Hi h len w A T) : kP_g K Lo Hi h each fall (if 0 < len then (each * w).tdiv len else -fall) := by
  rcases q with ⟨q1, q2⟩ | ⟨n, q1, q2, q3, q4, q5, q6⟩
  · rw [if_neg (by omega)]
    exact Or.inl ⟨q2, rfl⟩
  · have n1 := q3.1
    rw [if_pos (by omega), q1]
    refine Or.inr ⟨w, (n : Int), by omega, fun s B m hB => ?_, ⟨_, _, n, q3, by rw [← q4, Int.mul_comm]⟩, rfl⟩
    have := q6 s B m hB
    rw [Int.mul_comm]
    rcases this with z | ⟨z, -⟩ <;> omega

