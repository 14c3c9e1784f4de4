/-! ===== calls side by side: kites that must not meet ===== -/
section
variable {d d' : Nat → Int} {N N' : Nat}
theorem kn_le : ∀ {N t : Nat}, t < N → kn d N ≤ d t
  | 0, t, h => absurd h (Nat.not_lt_zero t)
  | N + 1, t, h => by
    unfold kn
    by_cases q : t = N
    · rw [q]; omega
    · have := kn_le (N := N) (t := t) (by omega)
      omega
theorem kn_ge {v : Int} (hv : v ≤ 1000) : ∀ {N : Nat}, (∀ t, t < N → v ≤ d t) → v ≤ kn d N
  | 0, _ => by unfold kn; exact hv
  | N + 1, h => by
    unfold kn
    have a := kn_ge hv (N := N) (fun t ht => h t (by omega))
    have b := h N (by omega)
    omega
theorem kn_1000 : ∀ {N : Nat}, kn d N ≤ 1000
  | 0 => by unfold kn; omega
  | N + 1 => by unfold kn; have := kn_1000 (N := N); omega
theorem kn_sub (h : ∀ t, t < N → ∃ t', t' < N' ∧ d' t' = d t) : kn d' N' ≤ kn d N := by
  refine kn_ge kn_1000 ?_
  intro t ht
  obtain ⟨t', h1, h2⟩ := h t ht
  rw [← h2]
  exact kn_le h1
theorem kn_eq (hd : ∀ t, d t ≤ 1000) : ∀ {N : Nat}, 1 ≤ N → kn_a 1000000 d N = kn d N
  | 0, h => absurd h (by omega)
  | 1, _ => by
    show min 1000000 (d 0) = min 1000 (d 0)
    have := hd 0
    omega
  | N + 2, _ => by
    have := kn_eq hd (N := N + 1) (by omega)
    show min (kn_a 1000000 d (N + 1)) (d (N + 1)) = min (kn d (N + 1)) (d (N + 1))
    rw [this]
end
theorem kz_bez : ∀ l m : Nat, ∃ x y : Int, (l : Int) * x + (m : Int) * y = (Nat.gcd l m : Int) := by
  intro l m
  induction l, m using Nat.gcd.induction with
  | H0 n => exact ⟨0, 1, by rw [Nat.gcd_zero_left]; omega⟩
  | H1 m n hm ih =>
    obtain ⟨x, y, h⟩ := ih
    refine ⟨y - (n / m : Nat) * x, x, ?_⟩
    rw [Nat.gcd_rec m n, ← h]
    have e : (n : Int) = (m : Int) * ((n / m : Nat) : Int) + ((n % m : Nat) : Int) := by
      have := Nat.div_add_mod n m
      exact_mod_cast this.symm
    rw [Int.mul_sub]
    have e2 : (n : Int) * x = (m : Int) * (((n / m : Nat) : Int) * x) + ((n % m : Nat) : Int) * x := by
      conv => lhs; rw [e]
      rw [Int.add_mul, Int.mul_assoc]
    omega
theorem kz_step {l m : Nat} (hm : 0 < m) : ∃ x : Nat, (l * x) % m = Nat.gcd l m % m := by
  obtain ⟨x, y, h⟩ := kz_bez l m
  refine ⟨(x % (m : Int)).toNat, ?_⟩
  have hm' : (m : Int) ≠ 0 := by omega
  have hx : ((x % (m : Int)).toNat : Int) = x % (m : Int) := Int.toNat_of_nonneg (Int.emod_nonneg _ hm')
  have : ((l * (x % (m : Int)).toNat % m : Nat) : Int) = ((Nat.gcd l m % m : Nat) : Int) := by
    rw [Int.natCast_emod, Int.natCast_mul, hx, Int.natCast_emod, ← h, Int.mul_emod, Int.emod_emod_of_dvd x (Int.dvd_refl _), ← Int.mul_emod, Int.add_mul_emod_self_left]
  exact_mod_cast this
/-- what depends on the places in two loops alone -/
def kz_f (D : Nat → Nat → Int) (l m k t : Nat) : Int := D (t % l) ((k + t) % m)
section
variable {D : Nat → Nat → Int} {l m k : Nat}
theorem kz_mod {L t : Nat} (h1 : l ∣ L) (h2 : m ∣ L) : kz_f D l m k (t % L) = kz_f D l m k t := by
  unfold kz_f
  rw [Nat.mod_mod_of_dvd t h1]
  congr 1
  rw [Nat.add_mod, Nat.mod_mod_of_dvd t h2, ← Nat.add_mod]
theorem kz_lcm (hl : 0 < l) (hm : 0 < m) : l ∣ l * m / Nat.gcd l m ∧ m ∣ l * m / Nat.gcd l m ∧ 0 < l * m / Nat.gcd l m ∧ l * m / Nat.gcd l m ≤ l * m := by
  have e : l * m / Nat.gcd l m = Nat.lcm l m := rfl
  rw [e]
  exact ⟨Nat.dvd_lcm_left l m, Nat.dvd_lcm_right l m, Nat.lcm_pos hl hm, Nat.le_of_dvd (Nat.mul_pos hl hm) (Nat.lcm_dvd_mul l m)⟩
theorem kz_per (hl : 0 < l) (hm : 0 < m) : kn (kz_f D l m k) (l * m) = kn (kz_f D l m k) (l * m / Nat.gcd l m) := by
  obtain ⟨d1, d2, d3, d4⟩ := kz_lcm hl hm
  apply Int.le_antisymm
  · exact kn_sub (fun t ht => ⟨t, by omega, rfl⟩)
  · exact kn_sub (fun t _ => ⟨t % (l * m / Nat.gcd l m), Nat.mod_lt _ d3, kz_mod d1 d2⟩)
theorem kz_shift (hl : 0 < l) (hm : 0 < m) : kn (kz_f D l m (k + Nat.gcd l m)) (l * m / Nat.gcd l m) = kn (kz_f D l m k) (l * m / Nat.gcd l m) := by
  obtain ⟨d1, d2, d3, d4⟩ := kz_lcm hl hm
  obtain ⟨x, hx⟩ := kz_step (l := l) hm
  have hg : Nat.gcd l m ∣ m := Nat.gcd_dvd_right l m
  -- a place of k + g is a place of k, and the other way round
  have f1 : ∀ t, kz_f D l m k (t + l * x) = kz_f D l m (k + Nat.gcd l m) t := by
    intro t
    unfold kz_f
    rw [Nat.add_mul_mod_self_left]
    congr 1
    rw [← Nat.add_assoc, Nat.add_mod (k + t) (l * x), hx, ← Nat.add_mod]
    congr 1
    omega
  have f2 : ∀ t, kz_f D l m (k + Nat.gcd l m) (t + l * (x * (m - 1))) = kz_f D l m k t := by
    intro t
    unfold kz_f
    rw [Nat.add_mul_mod_self_left]
    congr 1
    have e1 : (l * (x * (m - 1))) % m = (Nat.gcd l m * (m - 1)) % m := by
      rw [← Nat.mul_assoc, Nat.mul_mod (l * x), hx, ← Nat.mul_mod]
    rw [show k + Nat.gcd l m + (t + l * (x * (m - 1))) = (k + t + Nat.gcd l m) + l * (x * (m - 1)) by omega, Nat.add_mod, e1, ← Nat.add_mod]
    have e2 : k + t + Nat.gcd l m + Nat.gcd l m * (m - 1) = k + t + m * Nat.gcd l m := by
      have : Nat.gcd l m * (m - 1) + Nat.gcd l m = m * Nat.gcd l m := by
        rw [← Nat.mul_succ, show (m - 1).succ = m by omega, Nat.mul_comm]
      omega
    rw [e2, Nat.add_mul_mod_self_left]
  apply Int.le_antisymm
  · refine kn_sub (fun t _ => ⟨(t + l * (x * (m - 1))) % (l * m / Nat.gcd l m), Nat.mod_lt _ d3, ?_⟩)
    rw [kz_mod d1 d2, f2]
  · refine kn_sub (fun t _ => ⟨(t + l * x) % (l * m / Nat.gcd l m), Nat.mod_lt _ d3, ?_⟩)
    rw [kz_mod d1 d2, f1]
theorem kz_res (hl : 0 < l) (hm : 0 < m) : ∀ j r : Nat, kn (kz_f D l m (r + j * Nat.gcd l m)) (l * m / Nat.gcd l m) = kn (kz_f D l m r) (l * m / Nat.gcd l m)
  | 0, r => by rw [Nat.zero_mul, Nat.add_zero]
  | j + 1, r => by rw [Nat.succ_mul, ← Nat.add_assoc, kz_shift hl hm, kz_res hl hm j r]
end
theorem kb_best_ge {f : Nat → Int} : ∀ {n i : Nat}, i < n → f i ≤ (kb_best f n).2
  | 0, i, h => absurd h (Nat.not_lt_zero i)
  | n + 1, i, h => by
    unfold kb_best
    by_cases q : i = n
    · subst q
      split
      · exact Int.le_refl _
      · omega
    · have := kb_best_ge (f := f) (n := n) (i := i) (by omega)
      split
      · show f i ≤ f n
        omega
      · exact this
theorem kb_best_per {f : Nat → Int} {g : Nat} (hg : 0 < g) (hf : ∀ k, f k = f (k % g)) : ∀ j, kb_best f (g + j) = kb_best f g
  | 0 => rfl
  | j + 1 => by
    have ih := kb_best_per hg hf j
    show (if (kb_best f (g + j)).2 < f (g + j) then (((g + j : Nat) : Int), f (g + j)) else kb_best f (g + j)) = _
    rw [ih, hf (g + j), if_neg]
    have := kb_best_ge (f := f) (n := g) (Nat.mod_lt (g + j) hg)
    omega
theorem kb_best_0 {f : Nat → Int} (hf : ∀ k, 0 ≤ f k) : ∀ {n : Nat}, 0 < n → 0 ≤ (kb_best f n).1
  | 0, h => absurd h (by omega)
  | 1, _ => by
    show 0 ≤ (if (-1 : Int) < f 0 then (((0 : Nat) : Int), f 0) else ((-1 : Int), (-1 : Int))).1
    rw [if_pos (by have := hf 0; omega)]
    exact Int.le_refl 0
  | n + 2, _ => by
    have ih := kb_best_0 hf (n := n + 1) (by omega)
    show 0 ≤ (if (kb_best f (n + 1)).2 < f (n + 1) then (((n + 1 : Nat) : Int), f (n + 1)) else kb_best f (n + 1)).1
    split
    · show (0 : Int) ≤ ((n + 1 : Nat) : Int)
      omega
    · exact ih
section
variable {M : mm_M}
/-- how far two places are apart -/
def kz_D (K S T : Nat → Int) (w : Int) (i j : Nat) : Int := ((w + ks_col K (T j) - ks_col K (S i)).natAbs : Int) + ((ks_row K (T j) - ks_row K (S i)).natAbs : Int)
theorem kz_Db {K S T : Nat → Int} (hK : mm_KV K) {w : Int} (hw : -40 ≤ w ∧ w ≤ 40) (i j : Nat) : 0 ≤ kz_D K S T w i j ∧ kz_D K S T w i j ≤ 1000 := by
  have a := ks_colb hK (T j)
  have b := ks_colb hK (S i)
  have c := ks_rowb hK (T j)
  have d := ks_rowb hK (S i)
  obtain ⟨k0, k1, -⟩ := id hK
  unfold kz_D
  omega
theorem kz_C (K S T : Nat → Int) (l m k : Nat) (w : Int) : kn_d K S T l m k w = kz_f (kz_D K S T w) l m k := rfl
theorem kn_cg {d d' : Nat → Int} : ∀ {N : Nat}, (∀ t, t < N → d t = d' t) → kn d N = kn d' N
  | 0, _ => rfl
  | N + 1, h => by unfold kn; rw [kn_cg (fun t ht => h t (by omega)), h N (by omega)]
theorem kn_a_cg {a : Int} {d d' : Nat → Int} : ∀ {N : Nat}, (∀ t, t < N → d t = d' t) → kn_a a d N = kn_a a d' N
  | 0, _ => rfl
  | N + 1, h => by unfold kn_a; rw [kn_a_cg (fun t ht => h t (by omega)), h N (by omega)]
/-- the least that the reference finds is the class's -/
theorem kz_same (h3 : kR3 M) {S T S' T' : Nat → Int} {l m k : Nat} {y v : Int} (hl : 0 < l) (hm : 0 < m) (hS : ∀ i, i < l → S' i = S i) (hT : ∀ i, i < m → T' i = T i) (hy : 0 ≤ y ∧ y ≤ 40) (hv : 0 ≤ v ∧ v ≤ 40) :
    kn_a 1000000 (kn_e (mm_rk M) S' T' l m k y v) (l * m) = kn (kn_d (M 4) S T l m k (v - y)) (l * m / Nat.gcd l m) := by
  have e : ∀ t, kn_e (mm_rk M) S' T' l m k y v t = kz_f (kz_D (M 4) S T (v - y)) l m k t := by
    intro t
    unfold kn_e kz_f kz_D
    have c : ∀ s, ks_col (mm_rk M) s = ks_col (M 4) s := fun s => h3.w (fun K => ks_col K s) (fun _ _ => rfl)
    have r : ∀ s, ks_row (mm_rk M) s = ks_row (M 4) s := fun s => h3.w (fun K => ks_row K s) (fun _ _ => rfl)
    rw [hS _ (Nat.mod_lt t hl), hT _ (Nat.mod_lt (t + k) hm), c, c, r, r, Nat.add_comm t k]
    omega
  rw [kn_a_cg (fun t _ => e t), kz_C, ← kz_per hl hm]
  exact kn_eq (fun t => (kz_Db h3.1.1 (by omega) _ _).2) (Nat.mul_pos hl hm)
end
section
variable {X : mm_X}
theorem kf_apart : kF5 X Y_X11_apart Y_X13_apart := by
  intro M hR x y u v k hx hy hu hv hk
  obtain ⟨hRf, h1, h2, h3, h4, h5, h6, h7, h8, h9, h10, h11, h12, h13, h14, h15, h16⟩ := id hR
  have c1 := c_X11_apart (X := X) hRf h3.1 hx hy hu hv hk (fun k hk => (h9 k hk).1) (fun k hk i hi => ((h9 k hk).2.2.2.2 i hi).2.2.2)
  by_cases q : (((0 ≤ x ∧ x ≤ 5) ∧ (0 ≤ y ∧ y ≤ 40) ∧ (0 ≤ u ∧ u ≤ 5) ∧ (0 ≤ v ∧ v ≤ 40)) ∧ 0 ≤ k ∧ k ≤ 99) ∧ 0 < M 216 x.toNat ∧ 0 < M 216 u.toNat
  · have hxn : x.toNat < 6 := by omega
    have hun : u.toNat < 6 := by omega
    obtain ⟨a1, a2, a3, a4, a5⟩ := h9 x.toNat hxn
    obtain ⟨b1, b2, b3, b4, b5⟩ := h9 u.toNat hun
    have q2 := q.2
    rw [a2, b2] at q2
    rw [if_pos q.1, if_pos q2] at c1
    refine mm_C.mono c1 ?_
    rintro r M1 ⟨rfl, rfl⟩
    refine ⟨_, rfl, mm_C.mono (c_X13_apart1 (X := X) hRf h3.2.1 q.1 (fun k hk => h9.ok h3 hk) q.2) ?_⟩
    rintro r2 M2 ⟨rfl, hRf2, -, t⟩
    refine ⟨?_, ?_⟩
    · rw [a2, b2]
      congr 1
      exact kz_same h3 (by omega) (by omega) (fun i hi => h9.S h3 hxn (by omega)) (fun i hi => h9.S h3 hun (by omega)) (by omega) (by omega)
    · have e : ∀ a b, ¬ (a = 226 ∨ a = 227) → M2 a b = M1 a b := fun a b z => by rw [t a (by omega) (by omega)]
      exact ⟨hRf2, h1.fr (fun a b q => e a b (by omega)), h2.fr (fun a b q => e a b (by omega)), h3.fr (fun a b q => e a b (by omega)), h4.fr (fun a b q => e a b (by omega)), h5.fr (fun a b q => e a b (by omega)), h6.fr (fun a b q => e a b (by omega)), h7.fr (fun a b q => e a b (by omega)), h8.fr (fun a b q => e a b (by omega)), h9.fr (fun a b q => e a b (by omega)), h10.fr (fun a b q => e a b (by omega)), h11.fr (fun a b q => e a b (by omega)), h12.fr (fun a b q => e a b (by omega)), h13.fr (fun a b q => e a b (by omega)), h14.fr (fun a b q => e a b (by omega)), h15.fr (fun a b q => e a b (by omega)), h16.fr (fun a b q => e a b (by omega))⟩
  · have c2 := c_X13_apart0 (X := X) hRf hx hy hu hv hk (fun k hk => h9.ok h3 hk) q
    refine kk_no c1 c2 ?_ hR
    by_cases w : ((0 ≤ x ∧ x ≤ 5) ∧ (0 ≤ y ∧ y ≤ 40) ∧ (0 ≤ u ∧ u ≤ 5) ∧ (0 ≤ v ∧ v ≤ 40)) ∧ 0 ≤ k ∧ k ≤ 99
    · rw [if_pos w, if_pos w, if_neg]
      intro z
      exact q ⟨w, by rw [(h9 x.toNat (by omega)).2.1, (h9 u.toNat (by omega)).2.1]; exact z⟩
    · rw [if_neg w, if_neg w]
theorem kf_shift : kF4 X Y_X11_shift Y_X13_shift := by
  intro M hR x y u v hx hy hu hv
  obtain ⟨hRf, h1, h2, h3, h4, h5, h6, h7, h8, h9, h10, h11, h12, h13, h14, h15, h16⟩ := id hR
  have c1 := c_X11_shift (X := X) hRf h3.1 hx hy hu hv (fun k hk => (h9 k hk).1) (fun k hk i hi => ((h9 k hk).2.2.2.2 i hi).2.2.2)
  by_cases q : ((0 ≤ x ∧ x ≤ 5) ∧ (0 ≤ y ∧ y ≤ 40) ∧ (0 ≤ u ∧ u ≤ 5) ∧ (0 ≤ v ∧ v ≤ 40)) ∧ 0 < M 216 x.toNat ∧ 0 < M 216 u.toNat
  · have hxn : x.toNat < 6 := by omega
    have hun : u.toNat < 6 := by omega
    obtain ⟨a1, a2, a3, a4, a5⟩ := h9 x.toNat hxn
    obtain ⟨b1, b2, b3, b4, b5⟩ := h9 u.toNat hun
    have q2 := q.2
    rw [a2, b2] at q2
    rw [if_pos q.1, if_pos q2] at c1
    refine mm_C.mono c1 ?_
    rintro r M1 ⟨rfl, rfl⟩
    refine ⟨_, rfl, mm_C.mono (c_X13_shift1 (X := X) hRf h3.2.1 q.1 (fun k hk => h9.ok h3 hk) q.2) ?_⟩
    rintro r2 M2 ⟨rfl, hRf2, -, t⟩
    refine ⟨?_, ?_⟩
    · rw [a2, b2]
      obtain ⟨l, hl⟩ : ∃ l, l = (M1 (121 + 3 * x.toNat) 2).toNat := ⟨_, rfl⟩
      obtain ⟨m, hm⟩ : ∃ m, m = (M1 (121 + 3 * u.toNat) 2).toNat := ⟨_, rfl⟩
      rw [← hl, ← hm]
      have ef : (fun k => kn_a 1000000 (kn_e (mm_rk M1) (kl_S M1 x.toNat) (kl_S M1 u.toNat) l m k y v) (l * m)) = (fun k => kn (kn_d (M1 4) (M1 (121 + 3 * x.toNat + 2)) (M1 (121 + 3 * u.toNat + 2)) l m k (v - y)) (l * m / Nat.gcd l m)) := by
        funext k
        exact kz_same h3 (by omega) (by omega) (fun i hi => h9.S h3 hxn (by omega)) (fun i hi => h9.S h3 hun (by omega)) (by omega) (by omega)
      rw [ef]
      obtain ⟨f, hf⟩ : ∃ f : Nat → Int, f = (fun k => kn (kn_d (M1 4) (M1 (121 + 3 * x.toNat + 2)) (M1 (121 + 3 * u.toNat + 2)) l m k (v - y)) (l * m / Nat.gcd l m)) := ⟨_, rfl⟩
      rw [← hf]
      have hg : 0 < Nat.gcd l m := Nat.gcd_pos_of_pos_left m (by omega)
      have f0 : ∀ k, 0 ≤ f k := by
        intro k
        rw [hf]
        exact kn_ge (by omega) (fun t _ => (kz_Db h3.1.1 (by omega) _ _).1)
      have fp : ∀ k, f k = f (k % Nat.gcd l m) := by
        intro k
        rw [hf]
        have := kz_res (D := kz_D (M1 4) (M1 (121 + 3 * x.toNat + 2)) (M1 (121 + 3 * u.toNat + 2)) (v - y)) (l := l) (m := m) (by omega) (by omega) (k / Nat.gcd l m) (k % Nat.gcd l m)
        rw [Nat.mul_comm (k / Nat.gcd l m), Nat.mod_add_div] at this
        exact this
      have hle : Nat.gcd l m ≤ m := Nat.le_of_dvd (by omega) (Nat.gcd_dvd_right l m)
      have e1 := kb_best_per hg fp (m - Nat.gcd l m)
      rw [show Nat.gcd l m + (m - Nat.gcd l m) = m by omega] at e1
      rw [e1]
      congr 1
      have := kb_best_0 f0 hg
      omega
    · have e : ∀ a b, ¬ (a = 226 ∨ a = 227) → M2 a b = M1 a b := fun a b z => by rw [t a (by omega) (by omega)]
      exact ⟨hRf2, h1.fr (fun a b q => e a b (by omega)), h2.fr (fun a b q => e a b (by omega)), h3.fr (fun a b q => e a b (by omega)), h4.fr (fun a b q => e a b (by omega)), h5.fr (fun a b q => e a b (by omega)), h6.fr (fun a b q => e a b (by omega)), h7.fr (fun a b q => e a b (by omega)), h8.fr (fun a b q => e a b (by omega)), h9.fr (fun a b q => e a b (by omega)), h10.fr (fun a b q => e a b (by omega)), h11.fr (fun a b q => e a b (by omega)), h12.fr (fun a b q => e a b (by omega)), h13.fr (fun a b q => e a b (by omega)), h14.fr (fun a b q => e a b (by omega)), h15.fr (fun a b q => e a b (by omega)), h16.fr (fun a b q => e a b (by omega))⟩
  · have c2 := c_X13_shift0 (X := X) hRf hx hy hu hv (fun k hk => h9.ok h3 hk) q
    refine kk_no c1 c2 ?_ hR
    by_cases w : (0 ≤ x ∧ x ≤ 5) ∧ (0 ≤ y ∧ y ≤ 40) ∧ (0 ≤ u ∧ u ≤ 5) ∧ (0 ≤ v ∧ v ≤ 40)
    · rw [if_pos w, if_pos w, if_neg]
      intro z
      exact q ⟨w, by rw [(h9 x.toNat (by omega)).2.1, (h9 u.toNat (by omega)).2.1]; exact z⟩
    · rw [if_neg w, if_neg w]
end

