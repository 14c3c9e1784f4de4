/-! ===== the queue of a round ===== -/
def kQ_d (b : Nat) (f : Nat → Int) (v : Nat) : Int := if v = b then 0 else f v
def kQ_I (t : Nat → Nat → Prop) (n b k e : Nat) (f q : Nat → Int) : Prop :=
  (1 ≤ e) ∧
  (e ≤ n) ∧
  (k ≤ e) ∧
  (f b = 1000000) ∧
  ((q 0).toNat = b) ∧
  (∀ i, i < e → q i = ((q i).toNat : Int) ∧ (q i).toNat < n) ∧
  (∀ i j, i < j → j < e → (q i).toNat ≠ (q j).toNat) ∧
  (∀ i j, i < j → j < e → kQ_d b f (q i).toNat ≤ kQ_d b f (q j).toNat) ∧
  (∀ i, i < e → kQ_d b f (q i).toNat ≤ (i : Int)) ∧
  (∀ v, v < n → f v = 1000000 ∨ ∃ d : Nat, f v = (d : Int) ∧ 1 ≤ d ∧ d ≤ n ∧ v ≠ b ∧ kd_R t b d v ∧ ∃ i, i < e ∧ (q i).toNat = v) ∧
  (∀ i, 1 ≤ i → i < e → f (q i).toNat < 1000000) ∧
  (∀ i, i < k → ∀ v, t (q i).toNat v → v ≠ b ∧ f v ≤ kQ_d b f (q i).toNat + 1 ∧ f v < 1000000) ∧
  (k < e → ∀ i, i < e → kQ_d b f (q i).toNat ≤ kQ_d b f (q k).toNat + 1)
section
variable {t : Nat → Nat → Prop} {n b k e : Nat} {f q f' q' : Nat → Int}
theorem kQ_I.e1 (h : kQ_I t n b k e f q) : 1 ≤ e := h.1
theorem kQ_I.en (h : kQ_I t n b k e f q) : e ≤ n := h.2.1
theorem kQ_I.ke (h : kQ_I t n b k e f q) : k ≤ e := h.2.2.1
theorem kQ_I.fb (h : kQ_I t n b k e f q) : f b = 1000000 := h.2.2.2.1
theorem kQ_I.q0 (h : kQ_I t n b k e f q) : (q 0).toNat = b := h.2.2.2.2.1
theorem kQ_I.qn (h : kQ_I t n b k e f q) : ∀ i, i < e → q i = ((q i).toNat : Int) ∧ (q i).toNat < n := h.2.2.2.2.2.1
theorem kQ_I.ne (h : kQ_I t n b k e f q) : ∀ i j, i < j → j < e → (q i).toNat ≠ (q j).toNat := h.2.2.2.2.2.2.1
theorem kQ_I.so (h : kQ_I t n b k e f q) : ∀ i j, i < j → j < e → kQ_d b f (q i).toNat ≤ kQ_d b f (q j).toNat := h.2.2.2.2.2.2.2.1
theorem kQ_I.di (h : kQ_I t n b k e f q) : ∀ i, i < e → kQ_d b f (q i).toNat ≤ (i : Int) := h.2.2.2.2.2.2.2.2.1
theorem kQ_I.fv (h : kQ_I t n b k e f q) : ∀ v, v < n → f v = 1000000 ∨ ∃ d : Nat, f v = (d : Int) ∧ 1 ≤ d ∧ d ≤ n ∧ v ≠ b ∧ kd_R t b d v ∧ ∃ i, i < e ∧ (q i).toNat = v := h.2.2.2.2.2.2.2.2.2.1
theorem kQ_I.fq (h : kQ_I t n b k e f q) : ∀ i, 1 ≤ i → i < e → f (q i).toNat < 1000000 := h.2.2.2.2.2.2.2.2.2.2.1
theorem kQ_I.go (h : kQ_I t n b k e f q) : ∀ i, i < k → ∀ v, t (q i).toNat v → v ≠ b ∧ f v ≤ kQ_d b f (q i).toNat + 1 ∧ f v < 1000000 := h.2.2.2.2.2.2.2.2.2.2.2.1
theorem kQ_I.up (h : kQ_I t n b k e f q) : k < e → ∀ i, i < e → kQ_d b f (q i).toNat ≤ kQ_d b f (q k).toNat + 1 := h.2.2.2.2.2.2.2.2.2.2.2.2
theorem kQ_I.mk (e1 : 1 ≤ e) (en : e ≤ n) (ke : k ≤ e) (fb : f b = 1000000) (q0 : (q 0).toNat = b) (qn : ∀ i, i < e → q i = ((q i).toNat : Int) ∧ (q i).toNat < n) (ne : ∀ i j, i < j → j < e → (q i).toNat ≠ (q j).toNat) (so : ∀ i j, i < j → j < e → kQ_d b f (q i).toNat ≤ kQ_d b f (q j).toNat) (di : ∀ i, i < e → kQ_d b f (q i).toNat ≤ (i : Int)) (fv : ∀ v, v < n → f v = 1000000 ∨ ∃ d : Nat, f v = (d : Int) ∧ 1 ≤ d ∧ d ≤ n ∧ v ≠ b ∧ kd_R t b d v ∧ ∃ i, i < e ∧ (q i).toNat = v) (fq : ∀ i, 1 ≤ i → i < e → f (q i).toNat < 1000000) (go : ∀ i, i < k → ∀ v, t (q i).toNat v → v ≠ b ∧ f v ≤ kQ_d b f (q i).toNat + 1 ∧ f v < 1000000) (up : k < e → ∀ i, i < e → kQ_d b f (q i).toNat ≤ kQ_d b f (q k).toNat + 1) : kQ_I t n b k e f q := ⟨e1, en, ke, fb, q0, qn, ne, so, di, fv, fq, go, up⟩
theorem kQ_I.zero (hb : b < n) (h1 : ∀ v, v < n → f v = 1000000) (h2 : q 0 = (b : Int)) : kQ_I t n b 0 1 f q := kQ_I.mk
  (e1 := Nat.le_refl 1)
  (en := by omega)
  (ke := by omega)
  (fb := h1 b hb)
  (q0 := by rw [h2]; rfl)
  (qn := fun i hi => by
    have : i = 0 := by omega
    rw [this, h2]
    exact ⟨rfl, hb⟩)
  (ne := fun i j a c => by omega)
  (so := fun i j a c => by omega)
  (di := fun i hi => by
    have : i = 0 := by omega
    rw [this, h2]
    unfold kQ_d
    rw [if_pos (by omega)]
    exact Int.le_refl 0)
  (fv := fun v hv => Or.inl (h1 v hv))
  (fq := fun i a c => by omega)
  (go := fun i hi => by omega)
  (up := fun _ i hi => by
    have : i = 0 := by omega
    rw [this]
    omega)
theorem kQ_I.dge (h : kQ_I t n b k e f q) {i : Nat} (hi : i < e) : 0 ≤ kQ_d b f (q i).toNat := by
  unfold kQ_d
  by_cases c : (q i).toNat = b
  · rw [if_pos c]; exact Int.le_refl 0
  · rw [if_neg c]
    rcases h.fv _ (h.qn i hi).2 with z | ⟨d, d1, -⟩ <;> omega
theorem kQ_I.room (h : kQ_I t n b k e f q) {v : Nat} (hv : v < n) (hb : v ≠ b) (hf : f v = 1000000) : (∀ i, i < e → (q i).toNat ≠ v) ∧ e < n := by
  have no : ∀ i, i < e → (q i).toNat ≠ v := by
    intro i hi c
    by_cases i0 : i = 0
    · rw [i0, h.q0] at c; exact hb c.symm
    · have := h.fq i (by omega) hi
      rw [c] at this
      omega
  refine ⟨no, ?_⟩
  have hen := h.en
  by_cases c : e < n
  · exact c
  · exfalso
    have een : e = n := by omega
    obtain ⟨i, j, h1, h2, h3⟩ := gz_pig n (fun i => if i < e then (q i).toNat else v) (fun i _ => by
      show (if i < e then (q i).toNat else v) < n
      by_cases c : i < e
      · rw [if_pos c]; exact (h.qn i c).2
      · rw [if_neg c]; exact hv)
    have h3 : (if i < e then (q i).toNat else v) = (if j < e then (q j).toNat else v) := h3
    rw [if_pos (by omega)] at h3
    by_cases cj : j < e
    · rw [if_pos cj] at h3
      exact h.ne i j h1 cj h3
    · rw [if_neg cj] at h3
      exact no i (by omega) h3
theorem kQ_I.push (h : kQ_I t n b k e f q) (hk : k < e) {v : Nat} (hv : v < n) (hb : v ≠ b) (hf : f v = 1000000) (hn : n ≤ 1000) (ht : t (q k).toNat v)
    (f1 : f' v = kQ_d b f (q k).toNat + 1) (f2 : ∀ u, u ≠ v → f' u = f u) (q1 : q' e = (v : Int)) (q2 : ∀ i, i ≠ e → q' i = q i) :
    kQ_I t n b k (e + 1) f' q' ∧ kQ_d b f' (q' k).toNat = kQ_d b f (q k).toNat := by
  obtain ⟨no, hen⟩ := h.room hv hb hf
  have dq : ∀ i, i < e → kQ_d b f' (q' i).toNat = kQ_d b f (q i).toNat := by
    intro i hi
    rw [q2 i (by omega)]
    unfold kQ_d
    rw [f2 _ (no i hi)]
  have de : kQ_d b f' (q' e).toNat = kQ_d b f (q k).toNat + 1 := by
    rw [q1]
    unfold kQ_d
    rw [if_neg (by omega), show ((v : Int)).toNat = v by omega, f1]
    rfl
  have dk := h.dge hk
  have dk2 := h.di k hk
  have hq0 : (q' 0).toNat = b := by rw [q2 0 (by have := h.e1; omega)]; exact h.q0
  refine ⟨kQ_I.mk (by omega) hen (by omega) (by rw [f2 b (fun z => hb z.symm)]; exact h.fb) hq0 ?_ ?_ ?_ ?_ ?_ ?_ ?_ ?_, dq k hk⟩
  · intro i hi
    by_cases c : i = e
    · rw [c, q1]; exact ⟨by omega, by omega⟩
    · rw [q2 i c]; exact h.qn i (by omega)
  · intro i j a c
    by_cases cj : j = e
    · rw [cj, q1, q2 i (by omega)]
      have := no i (by omega)
      omega
    · rw [q2 j cj, q2 i (by omega)]
      exact h.ne i j a (by omega)
  · intro i j a c
    by_cases cj : j = e
    · rw [cj, de, dq i (by omega)]
      exact h.up hk i (by omega)
    · rw [dq j (by omega), dq i (by omega)]
      exact h.so i j a (by omega)
  · intro i hi
    by_cases c : i = e
    · rw [c, de]; omega
    · rw [dq i (by omega)]; exact h.di i (by omega)
  · intro u hu
    by_cases c : u = v
    · right
      refine ⟨(kQ_d b f (q k).toNat + 1).toNat, by rw [c, f1]; omega, by omega, by omega, by rw [c]; exact hb, ?_, e, by omega, by rw [q1, c]; omega⟩
      have ek : (kQ_d b f (q k).toNat + 1).toNat = (kQ_d b f (q k).toNat).toNat + 1 := by omega
      rw [ek]
      refine ⟨(q k).toNat, ?_, by rw [c]; exact ht⟩
      by_cases cb : (q k).toNat = b
      · have e0 : kQ_d b f (q k).toNat = 0 := by unfold kQ_d; rw [if_pos cb]
        rw [e0]
        exact cb
      · rcases h.fv _ (h.qn k hk).2 with z | ⟨d, d1, d2, d3, d4, d5, -⟩
        · exfalso
          have : kQ_d b f (q k).toNat = 1000000 := by unfold kQ_d; rw [if_neg cb]; exact z
          omega
        · have : kQ_d b f (q k).toNat = (d : Int) := by unfold kQ_d; rw [if_neg cb]; exact d1
          rw [this]
          exact d5
    · rw [f2 u c]
      rcases h.fv u hu with z | ⟨d, d1, d2, d3, d4, d5, i, i1, i2⟩
      · exact Or.inl z
      · exact Or.inr ⟨d, d1, d2, d3, d4, d5, i, by omega, by rw [q2 i (by omega)]; exact i2⟩
  · intro i i1 hi
    by_cases c : i = e
    · rw [c, q1, show ((v : Int)).toNat = v by omega, f1]
      omega
    · rw [q2 i c, f2 _ (no i (by omega))]
      exact h.fq i i1 (by omega)
  · intro i hi u hu
    rw [q2 i (by omega)] at hu
    obtain ⟨g1, g2, g3⟩ := h.go i hi u hu
    have : u ≠ v := fun z => by rw [z] at g3; omega
    rw [f2 u this, dq i (by omega)]
    exact ⟨g1, g2, g3⟩
  · intro _ i hi
    rw [dq k hk]
    by_cases c : i = e
    · rw [c, de]; exact Int.le_refl _
    · rw [dq i (by omega)]; exact h.up hk i (by omega)
theorem kQ_I.next (h : kQ_I t n b k e f q) (hk : k < e) (hg : ∀ v, t (q k).toNat v → v ≠ b ∧ f v ≤ kQ_d b f (q k).toNat + 1 ∧ f v < 1000000) : kQ_I t n b (k + 1) e f q := kQ_I.mk
  (e1 := h.e1)
  (en := h.en)
  (ke := by omega)
  (fb := h.fb)
  (q0 := h.q0)
  (qn := h.qn)
  (ne := h.ne)
  (so := h.so)
  (di := h.di)
  (fv := h.fv)
  (fq := h.fq)
  (go := fun i hi => by
    by_cases c : i = k
    · rw [c]; exact hg
    · exact h.go i (by omega))
  (up := fun hk2 i hi => by
    have := h.up hk i hi
    have := h.so k (k + 1) (by omega) hk2
    omega)
/-- what is reached in fewer steps is done -/
theorem kQ_I.done (h : kQ_I t n b k e f q) (hN : ∀ u v, t u v → v < n) (m : Nat) (hm : k = e ∨ (k < e ∧ (m : Int) ≤ kQ_d b f (q k).toNat)) : ∀ j : Nat, j < m → ∀ u, kd_R t b j u → ∃ i, i < k ∧ (q i).toNat = u ∧ kQ_d b f u ≤ (j : Int) := by
  have he := h.e1
  have lt : ∀ (j i : Nat), j < m → i < e → kQ_d b f (q i).toNat ≤ (j : Int) → i < k := by
    intro j i hj hi hd
    rcases hm with c | ⟨c1, c2⟩
    · omega
    · by_cases c : i < k
      · exact c
      · by_cases c3 : i = k
        · rw [c3] at hd; omega
        · have := h.so k i (by omega) hi
          omega
  intro j
  induction j with
  | zero =>
    intro hj u hu
    have hu : u = b := hu
    have e0 : kQ_d b f (q 0).toNat = 0 := by unfold kQ_d; rw [if_pos h.q0]
    exact ⟨0, lt 0 0 hj (by omega) (by rw [e0]; omega), by rw [h.q0, hu], by have e1 := e0; rw [h.q0] at e1; rw [hu, e1]; omega⟩
  | succ j ih =>
    rintro hj u ⟨w, w1, w2⟩
    obtain ⟨i, i1, i2, i3⟩ := ih (by omega) w w1
    obtain ⟨g1, g2, g3⟩ := h.go i i1 u (by rw [i2]; exact w2)
    rw [i2] at g2
    have du : kQ_d b f u = f u := by unfold kQ_d; rw [if_neg g1]
    rcases h.fv u (hN _ _ w2) with z | ⟨d, d1, d2, d3, d4, d5, x, x1, x2⟩
    · omega
    · refine ⟨x, lt (j + 1) x hj x1 ?_, x2, ?_⟩
      · rw [x2, du]; omega
      · rw [du]; omega
theorem kQ_I.none (h : kQ_I t n b k e f q) (hN : ∀ u v, t u v → v < n) (m : Nat) (hm : k = e ∨ (k < e ∧ (m : Int) ≤ kQ_d b f (q k).toNat)) : ∀ l : Nat, l < m → ¬ kd_D t b (l + 1) b := by
  intro l hl hD
  obtain ⟨u, u1, u2⟩ := kd_round.mp hD
  obtain ⟨i, i1, i2, -⟩ := h.done hN m hm l hl u u1
  exact (h.go i i1 b (by rw [i2]; exact u2)).1 rfl
/-- a step that closes the round -/
theorem kQ_I.close (h : kQ_I t n b k e f q) (hk : k < e) (ht : t (q k).toNat b) : ∃ d : Nat, kQ_d b f (q k).toNat = (d : Int) ∧ kd_D t b (d + 1) b := by
  by_cases cb : (q k).toNat = b
  · refine ⟨0, by unfold kQ_d; rw [if_pos cb]; rfl, kd_round.mpr ⟨b, rfl, by rw [cb] at ht; exact ht⟩⟩
  · have dk := h.di k hk
    have hen := h.en
    rcases h.fv _ (h.qn k hk).2 with z | ⟨d, d1, d2, d3, d4, d5, -⟩
    · exfalso
      have := h.fq k (by
        by_cases k0 : k = 0
        · rw [k0, h.q0] at cb; exact absurd rfl cb
        · omega) hk
      omega
    · exact ⟨d, by unfold kQ_d; rw [if_neg cb]; exact d1, kd_round.mpr ⟨_, d5, ht⟩⟩
end

