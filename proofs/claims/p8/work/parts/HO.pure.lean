/-! ===== KitePower$LoopFinder: what paths, kept paths and rounds mean ===== -/
section
variable {K Lo Hi : Nat → Int} {M M2 P : mm_M} {h S C : Int} {n : Nat}
/-- a path is a safe act -/
theorem kx_P.at (hP : kx_P K Lo Hi M h n) {p u v : Nat} (hp : kv_p M n p u v) : ks_ac K (M 35 p) ∧ ks_safe K Lo Hi (u : Int) (M 35 p) h ∧ ks_to K (u : Int) (M 35 p) = (v : Int) ∧ M 34 p = ks_sure K Lo Hi (u : Int) (M 35 p) h := by
  obtain ⟨c0, c1, g1, g2, g3, g4, g5, -⟩ := hP u hp.2.1
  have a := hp.2.2.2.1
  have b := hp.2.2.2.2.1
  obtain ⟨z1, z2, z3, z4, z5⟩ := g5 p (by omega) (by omega)
  exact ⟨z2, z3, by rw [← z4]; exact hp.2.2.2.2.2.2, z5⟩
/-- every safe act has a path that gives no less -/
theorem kx_P.of (hP : kx_P K Lo Hi M h n) (hK : mm_KV K) (hn : ks_n K = (n : Int)) {u : Nat} {a : Int} (hu : u < n) (ha : ks_ac K a) (hs : ks_safe K Lo Hi (u : Int) a h) : ∃ p v : Nat, kv_p M n p u v ∧ ks_to K (u : Int) a = (v : Int) ∧ ks_sure K Lo Hi (u : Int) a h ≤ M 34 p ∧ (ks_sure K Lo Hi (u : Int) a h = M 34 p → M 35 p ≤ a) := by
  obtain ⟨c0, c1, g1, g2, g3, g4, g5, g6⟩ := hP u hu
  obtain ⟨p, p1, p2, p3, p4, p5⟩ := g6 a ha hs (by omega)
  obtain ⟨z1, z2, z3, z4, z5⟩ := g5 p p1 p2
  have st : ks_st K (u : Int) := ⟨by omega, by omega⟩
  have tst := ks_to_st hK st hs.1
  obtain ⟨x, hx⟩ : ∃ x : Nat, a % 15 = (x : Int) := ⟨(a % 15).toNat, by omega⟩
  have e1 := ks_to_m (s := (u : Int)) ha hx
  have e2 := ks_to_m (s := (u : Int)) z2 (by rw [p3]; exact hx)
  have et : ks_to K (u : Int) a = M 33 p := by rw [z4, e1, e2]
  obtain ⟨v, hv⟩ : ∃ v : Nat, ks_to K (u : Int) a = (v : Int) := ⟨(ks_to K (u : Int) a).toNat, by omega⟩
  exact ⟨p, v, ⟨by omega, hu, by omega, by omega, by omega, z1, by omega⟩, hv, p4, p5⟩
theorem kx_P.G (hP : kx_P K Lo Hi M h n) (hK : mm_KV K) (hn : ks_n K = (n : Int)) (hw : ∀ s, ks_st K s → (0 ≤ ks_wi Lo K s h ∧ ks_wi Lo K s h ≤ 60) ∧ (0 ≤ ks_wi Hi K s h ∧ ks_wi Hi K s h ≤ 60)) : kv_G M n := by
  intro u hu
  obtain ⟨c0, c1, g1, g2, g3, g4, g5, -⟩ := hP u hu
  refine ⟨c0, c1, g1, g2, g4, g3, fun p p1 p2 => ?_⟩
  obtain ⟨z1, z2, z3, z4, z5⟩ := g5 p p1 p2
  have st : ks_st K (u : Int) := ⟨by omega, by omega⟩
  have tst := ks_to_st hK st z3.1
  have gb := ks_sureb (Lo := Lo) (Hi := Hi) (s := (u : Int)) (hr := h) hK z2 (hw _ st).1 (hw _ st).2
  refine ⟨z1, ⟨(M 33 p).toNat, by rw [z4]; omega, by rw [z4]; omega⟩, by rw [z5]; exact gb.1, by rw [z5]; exact gb.2⟩
/-- levels that no path raises: no act leads higher -/
theorem kx_P.up (hP : kx_P K Lo Hi M h n) (hK : mm_KV K) (hn : ks_n K = (n : Int)) (hC : 0 < C) (hS : ∀ y, y < n → kv_S M n S C y) : ∀ u v w, kb_E K Lo Hi h u v w → M 36 u + (C * w - S) ≤ M 36 v := by
  rintro u v w ⟨hu, a, a1, a2, a3, a4⟩
  have hun : u < n := by have := hu.2; omega
  obtain ⟨p, v', p1, p2, p3, p4⟩ := hP.of hK hn hun a1 a2
  have ev : v' = v := by omega
  have q := hS u hun p v' p1
  unfold kv_w at q
  have := Int.mul_le_mul_of_nonneg_left p3 (by omega : 0 ≤ C)
  rw [Int.mul_comm (M 34 p)] at q
  rw [a4, ← ev]
  omega
/-- a round of paths is a loop of acts -/
theorem kv_B.gl (hP : kx_P K Lo Hi M h n) (hn : ks_n K = (n : Int)) {q r : Nat → Nat} {m : Nat} (hB : kv_B M n q r m) : gL (kb_E K Lo Hi h) q (fun j => M 34 (r j)) m := by
  refine ⟨fun j hj => ?_, hB.1, hB.2.2.1⟩
  have hp := hB.2.2.2 j hj
  obtain ⟨z1, z2, z3, z4⟩ := hP.at hp
  exact ⟨⟨by omega, by have := hp.2.1; omega⟩, M 35 (r j), z1, z2, z3, z4⟩
/-- what a safe act gives at least -/
theorem ks_low {s a : Int} (hK : mm_KV K) (ha : ks_ac K a) (hs : ks_safe K Lo Hi s a h) (hw : (0 ≤ ks_wi Lo K s h ∧ ks_wi Lo K s h ≤ 60) ∧ (0 ≤ ks_wi Hi K s h ∧ ks_wi Hi K s h ≤ 60)) : -1000000 < ks_sure K Lo Hi s a h := by
  have p1 := ks_pw hK (s := s) ha hw.1
  have p2 := ks_pw hK (s := s) ha hw.2
  have hb := hs.2.2
  obtain ⟨-, -, -, -, h4, h5, h6, h7, -⟩ := hK
  have m := mm_mulb (a := ks_p K s a (ks_wi Hi K s h)) (b := K 7) (A := 99999) (B := 400) p2.1 (by omega) h7.1 h7.2
  unfold ks_sure ks_w
  by_cases c1 : ks_dr a = 1
  · rw [if_pos c1, if_neg (by omega)]; omega
  · rw [if_neg c1]
    by_cases c2 : ks_dr a = 2
    · rw [if_pos c2, if_pos c2]
      have : ks_p K s a (ks_wi Hi K s h) * K 7 / 100 ≤ 99999 * 400 / 100 := Int.ediv_le_ediv (by omega) m.2
      omega
    · rw [if_neg c2]; omega
/-- what an act gives at most -/
theorem ks_high (hK : mm_KV K) {s a : Int} (ha : ks_ac K a) (hw : (0 ≤ ks_wi Lo K s h ∧ ks_wi Lo K s h ≤ 60) ∧ (0 ≤ ks_wi Hi K s h ∧ ks_wi Hi K s h ≤ 60)) : ks_sure K Lo Hi s a h ≤ 1425600 := by
  have p1 := ks_pw hK (s := s) ha hw.1
  have p2 := ks_pw hK (s := s) ha hw.2
  obtain ⟨-, -, -, -, h4, h5, h6, h7, -⟩ := hK
  have m := mm_mulb (a := ks_p K s a (ks_wi Hi K s h)) (b := K 7) (A := 1425600) (B := 400) p2.1 p2.2 h7.1 h7.2
  unfold ks_sure ks_w
  by_cases c1 : ks_dr a = 1
  · rw [if_pos c1, if_neg (by omega)]; omega
  · rw [if_neg c1]
    by_cases c2 : ks_dr a = 2
    · rw [if_pos c2, if_pos c2]
      have := Int.ediv_nonneg m.1 (show (0 : Int) ≤ 100 by omega)
      omega
    · rw [if_neg c2]; omega
/-- no loop, where the mean is still below all acts -/
theorem kx_no_loop (hK : mm_KV K) (hw : ∀ s, ks_st K s → (0 ≤ ks_wi Lo K s h ∧ ks_wi Lo K s h ≤ 60) ∧ (0 ≤ ks_wi Hi K s h ∧ ks_wi Hi K s h ≤ 60)) {H : Nat → Int} (hup : ∀ u v w, kb_E K Lo Hi h u v w → H u + (1 * w - (-1000000)) ≤ H v) : ¬ ∃ p g m, gL (kb_E K Lo Hi h) p g m := by
  rintro ⟨p, g, m, hL⟩
  have a := kz_le (S := -1000000) (C := 1) hup hL
  have b := ka_sum_ple (f := fun _ => (-999999 : Int)) (g := g) m (fun j hj => by
    obtain ⟨hu, x, x1, x2, x3, x4⟩ := hL.1 j hj
    have := ks_low hK x1 x2 (hw _ hu)
    rw [x4]
    show (-999999 : Int) ≤ _
    omega)
  have c : ∀ k : Nat, ka_sum (fun _ => (-999999 : Int)) k = -999999 * (k : Int) := by
    intro k
    induction k with
    | zero => rfl
    | succ k ih => show ka_sum (fun _ => (-999999 : Int)) k + -999999 = _; rw [ih]; omega
  rw [c] at b
  have := hL.2.1
  omega
/-- a kept path is an act that keeps the level -/
theorem kt_K.at (hP : kx_P K Lo Hi M h n) (hk : kt_K M P n S C) {u x : Nat} (hu : u < n) (h1 : P 31 u ≤ (x : Int)) (h2 : (x : Int) < P 31 (u + 1)) : kb_T K Lo Hi h (M 36) S C (u : Int) (P 35 x) ∧ (∃ v : Nat, v < n ∧ P 33 x = (v : Int)) ∧ P 33 x = ks_to K (u : Int) (P 35 x) ∧ P 34 x = ks_sure K Lo Hi (u : Int) (P 35 x) h := by
  obtain ⟨c0, c1, g1, g2, g3, g4, g5, -⟩ := hk u hu
  obtain ⟨p', v, p1, p2, p3, p4, p5⟩ := g5 x (by omega) (by omega)
  obtain ⟨z1, z2, z3, z4⟩ := hP.at p2.1
  have t := p2.2
  unfold kv_w at t
  rw [p5]
  refine ⟨⟨z1, z2, ?_⟩, ⟨v, p2.1.2.2.1, p3⟩, by rw [p3, z3], by rw [p4, z4]⟩
  rw [z3, ← z4, show ((u : Int)).toNat = u by omega, show ((v : Int)).toNat = v by omega, Int.mul_comm C]
  exact t
/-- every act that keeps the level has a kept path, its act no greater -/
theorem kt_K.of (hP : kx_P K Lo Hi M h n) (hK : mm_KV K) (hn : ks_n K = (n : Int)) (hC : 0 < C) (hS : ∀ y, y < n → kv_S M n S C y) (hk : kt_K M P n S C) {u : Nat} {a : Int} (hu : u < n) (hT : kb_T K Lo Hi h (M 36) S C (u : Int) a) : ∃ x : Nat, P 31 u ≤ (x : Int) ∧ (x : Int) < P 31 (u + 1) ∧ P 33 x = ks_to K (u : Int) a ∧ P 35 x ≤ a := by
  obtain ⟨t1, t2, t3⟩ := hT
  obtain ⟨p, v, p1, p2, p3, p4⟩ := hP.of hK hn hu t1 t2
  have q := hS u hu p v p1
  unfold kv_w at q
  rw [p2, show ((u : Int)).toNat = u by omega, show ((v : Int)).toNat = v by omega] at t3
  rw [Int.mul_comm (M 34 p)] at q
  have m1 := Int.mul_le_mul_of_nonneg_left p3 (by omega : 0 ≤ C)
  have eC : C * ks_sure K Lo Hi (u : Int) a h = C * M 34 p := by omega
  have eq : ks_sure K Lo Hi (u : Int) a h = M 34 p := Int.eq_of_mul_eq_mul_left (by omega) eC
  obtain ⟨c0, c1, g1, g2, g3, g4, -, g6⟩ := hk u hu
  obtain ⟨x, x1, x2, x3, x4, x5⟩ := g6 p v p1.1 ⟨p1, by unfold kv_w; rw [Int.mul_comm (M 34 p)]; omega⟩
  exact ⟨x, by omega, by omega, by rw [x3, p2], by rw [x5]; exact p4 eq⟩
theorem kt_K.W (hP : kx_P K Lo Hi M h n) (hK : mm_KV K) (hw : ∀ s, ks_st K s → (0 ≤ ks_wi Lo K s h ∧ ks_wi Lo K s h ≤ 60) ∧ (0 ≤ ks_wi Hi K s h ∧ ks_wi Hi K s h ≤ 60)) (hn : ks_n K = (n : Int)) (hk : kt_K M P n S C) : kW_G P n := by
  intro u hu
  obtain ⟨c0, c1, g1, g2, g3, g4⟩ := hk u hu
  refine ⟨c0, c1, g1, g2, g4.1, g3, fun x x1 x2 => ?_⟩
  obtain ⟨⟨z1, z2, -⟩, z3, z4, z5⟩ := hk.at hP hu (x := x) (by omega) (by omega)
  have st : ks_st K (u : Int) := ⟨by omega, by omega⟩
  have gb := ks_sureb (Lo := Lo) (Hi := Hi) (s := (u : Int)) (hr := h) hK z1 (hw _ st).1 (hw _ st).2
  have h10 : 1 ≤ K 10 ∧ K 10 ≤ 3 := by
    obtain ⟨-, -, -, -, -, -, -, -, -, -, q, -⟩ := hK
    exact q
  exact ⟨z3, by rw [z5]; exact gb, z1.1, by have := z1.2; omega⟩
theorem kt_K.t (hP : kx_P K Lo Hi M h n) (hK : mm_KV K) (hn : ks_n K = (n : Int)) (hC : 0 < C) (hS : ∀ y, y < n → kv_S M n S C y) (hk : kt_K M P n S C) : kU_t P n = kb_t K Lo Hi h (M 36) S C := by
  funext u v
  apply propext
  constructor
  · rintro ⟨hu, x, x1, x2, x3⟩
    obtain ⟨z1, -, z3, -⟩ := hk.at hP hu x1 x2
    exact ⟨⟨by omega, by omega⟩, P 35 x, z1, by rw [← z3, x3]⟩
  · rintro ⟨hu, a, a1, a2⟩
    have hun : u < n := by have := hu.2; omega
    obtain ⟨x, x1, x2, x3, -⟩ := hk.of hP hK hn hC hS hun a1
    exact ⟨hun, x, x1, x2, by rw [x3, a2]⟩
end
section
variable {t : Nat → Nat → Prop} {n : Nat}
theorem kd_mono {t t' : Nat → Nat → Prop} {g : Nat} (h : ∀ u v, t u v → t' u v) : ∀ {d v : Nat}, kd_D t g d v → kd_D t' g d v
  | 0, _, q => q
  | _ + 1, _, ⟨u, q1, q2⟩ => ⟨u, h _ _ q1, kd_mono h q2⟩
/-- a round goes through each of its states -/
theorem kd_rot {b l : Nat} {p : Nat → Nat} (p0 : p 0 = b) (pl : p l = b) (hp : ∀ i, i < l → t (p i) (p (i + 1))) {i : Nat} (hi : i ≤ l) : kd_D t (p i) l (p i) := by
  have a := kd_Dof (t := t) (p := p) i 0 (fun x hx => hp x (by omega))
  rw [Nat.zero_add, p0] at a
  have r := kd_Rof (t := t) (p := fun x => p (i + x)) (l - i) (fun x hx => by
    have := hp (i + x) (by omega)
    exact this)
  have r : kd_R t (p (i + 0)) (l - i) (p (i + (l - i))) := r
  rw [Nat.add_zero, show i + (l - i) = l by omega, pl] at r
  have := kd_RD (l - i) i b r a
  rw [show l - i + i = l by omega] at this
  exact this
/-- the shortest round of the states below s, and the least of those -/
def kU_B (t : Nat → Nat → Prop) (n s : Nat) (st sh : Int) : Prop := (st = -1 ∧ sh = (n : Int) + 1 ∧ ∀ u, u < s → ∀ l : Nat, 1 ≤ l → ¬ kd_D t u l u) ∨ ∃ B L : Nat, st = (B : Int) ∧ sh = (L : Int) ∧ B < s ∧ 1 ≤ L ∧ L ≤ n ∧ kd_D t B L B ∧ ∀ u, u < s → ∀ l : Nat, 1 ≤ l → kd_D t u l u → L < l ∨ (L = l ∧ B ≤ u)
theorem kU_B.in {s : Nat} {st sh : Int} (h : kU_B t n s st sh) {l : Nat} (h1 : 1 ≤ l) (hl : (l : Int) < sh) (hD : kd_D t s l s) : kd_D (fun u v => t u v ∧ s ≤ v) s l s := by
  obtain ⟨p, p0, pl, hp⟩ := kd_walk l s hD
  have ge : ∀ i, i ≤ l → s ≤ p i := by
    intro i hi
    by_cases c : s ≤ p i
    · exact c
    · exfalso
      have r := kd_rot p0 pl hp hi
      rcases h with ⟨-, -, q⟩ | ⟨B, L, q1, q2, q3, q4, q5, q6, q7⟩
      · exact q (p i) (by omega) l h1 r
      · rcases q7 (p i) (by omega) l h1 r with z | z <;> omega
  have := kd_Dof (t := fun u v => t u v ∧ s ≤ v) (p := p) l 0 (fun i hi => ⟨hp i (by omega), ge (i + 1) (by omega)⟩)
  rw [Nat.zero_add, pl, p0] at this
  exact this
theorem kU_B.no {s : Nat} {st sh : Int} (hN : ∀ u v, t u v → u < n) (h : kU_B t n s st sh) (hx : ∀ l : Nat, 1 ≤ l → (l : Int) < sh → ¬ kd_D (fun u v => t u v ∧ s ≤ v) s l s) : kU_B t n (s + 1) st sh := by
  have hx' : ∀ l : Nat, 1 ≤ l → (l : Int) < sh → ¬ kd_D t s l s := fun l l1 l2 q => hx l l1 l2 (h.in l1 l2 q)
  rcases h with ⟨q1, q2, q3⟩ | ⟨B, L, q1, q2, q3, q4, q5, q6, q7⟩
  · refine Or.inl ⟨q1, q2, fun u hu l l1 hD => ?_⟩
    by_cases c : u = s
    · rw [c] at hD
      obtain ⟨l', y1, y2, y3, y4⟩ := kd_short hN l1 hD
      exact hx' l' y1 (by omega) y4
    · exact q3 u (by omega) l l1 hD
  · refine Or.inr ⟨B, L, q1, q2, by omega, q4, q5, q6, fun u hu l l1 hD => ?_⟩
    by_cases c : u = s
    · rw [c] at hD ⊢
      have : ¬ (l : Int) < sh := fun z => hx' l l1 z hD
      omega
    · exact q7 u (by omega) l l1 hD
theorem kU_B.new {s l0 : Nat} {st sh : Int} (h : kU_B t n s st sh) (h1 : 1 ≤ l0) (hl : (l0 : Int) < sh) (hn : l0 ≤ n) (hD : kd_D (fun u v => t u v ∧ s ≤ v) s l0 s) (hm : ∀ l : Nat, 1 ≤ l → l < l0 → ¬ kd_D (fun u v => t u v ∧ s ≤ v) s l s) : kU_B t n (s + 1) (s : Int) (l0 : Int) := by
  refine Or.inr ⟨s, l0, rfl, rfl, by omega, h1, hn, kd_mono (fun _ _ q => q.1) hD, fun u hu l l1 hDu => ?_⟩
  by_cases c : u = s
  · rw [c] at hDu ⊢
    have : ¬ l < l0 := fun z => hm l l1 z (h.in l1 (by omega) hDu)
    omega
  · rcases h with ⟨q1, q2, q3⟩ | ⟨B, L, q1, q2, q3, q4, q5, q6, q7⟩
    · exact absurd hDu (q3 u (by omega) l l1)
    · rcases q7 u (by omega) l l1 hDu with z | z <;> omega
end

