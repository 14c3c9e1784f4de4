/-! ===== which loop is the best ===== -/
/-- a safe act is a step with what it surely gives -/
def kb_E (K Lo Hi : Nat → Int) (h : Int) (u v : Nat) (w : Int) : Prop := ks_st K (u : Int) ∧ ∃ a, ks_ac K a ∧ ks_safe K Lo Hi (u : Int) a h ∧ ks_to K (u : Int) a = (v : Int) ∧ w = ks_sure K Lo Hi (u : Int) a h
/-- an act that keeps the level -/
def kb_T (K Lo Hi : Nat → Int) (h : Int) (H : Nat → Int) (S C s a : Int) : Prop := ks_ac K a ∧ ks_safe K Lo Hi s a h ∧ H s.toNat + (C * ks_sure K Lo Hi s a h - S) = H (ks_to K s a).toNat
def kb_t (K Lo Hi : Nat → Int) (h : Int) (H : Nat → Int) (S C : Int) (u v : Nat) : Prop := ks_st K (u : Int) ∧ ∃ a, kb_T K Lo Hi h H S C (u : Int) a ∧ ks_to K (u : Int) a = (v : Int)
section
variable {K Lo Hi H A : Nat → Int} {h S C : Int} {m : Nat}
theorem kb_lp.gl (hK : mm_KV K) {s : Int} (hl : kb_lp K Lo Hi h s A m) : gL (kb_E K Lo Hi h) (fun j => (kf_run K s A j).toNat) (kj_g K Lo Hi s h A) m := by
  have st := hl.st hK
  refine ⟨fun j hj => ?_, hl.1, ?_⟩
  · have q := st j (by omega)
    have q2 := st (j + 1) (by omega)
    have e : (((kf_run K s A j).toNat : Nat) : Int) = kf_run K s A j := by have := q.1; omega
    have e2 : (((kf_run K s A (j + 1)).toNat : Nat) : Int) = kf_run K s A (j + 1) := by have := q2.1; omega
    refine ⟨by rw [e]; exact q, A j, (hl.2.2.1 j hj).1, by rw [e]; exact (hl.2.2.1 j hj).2, by rw [e, e2]; rfl, by rw [e]; rfl⟩
  · show (kf_run K s A m).toNat = (kf_run K s A 0).toNat
    rw [hl.2.2.2]; rfl
theorem kz_le {e : Nat → Nat → Int → Prop} {p : Nat → Nat} {g : Nat → Int} (hK : ∀ u v w, e u v w → H u + (C * w - S) ≤ H v) (hL : gL e p g m) : C * ka_sum g m ≤ S * m := by
  have t := kz_tele (S := S) (C := C) (g := g) (H := H) (p := p) m
  rw [hL.2.2] at t
  unfold gS at t
  have z : ∀ k, ka_sum (fun _ => (0 : Int)) k = 0 := by
    intro k
    induction k with
    | zero => rfl
    | succ k ih => show ka_sum (fun _ => (0 : Int)) k + 0 = 0; omega
  have b := ka_sum_ple (f := fun _ => (0 : Int)) (g := fun j => H (p (j + 1)) - H (p j) - (C * g j - S)) m (fun j hj => by
    have := hK _ _ _ (hL.1 j hj)
    show (0 : Int) ≤ H (p (j + 1)) - H (p j) - (C * g j - S)
    omega)
  rw [z] at b
  omega
theorem kd_Dof {t : Nat → Nat → Prop} {p : Nat → Nat} : ∀ (k j : Nat), (∀ i, i < j + k → t (p i) (p (i + 1))) → kd_D t (p (j + k)) k (p j)
  | 0, j, _ => rfl
  | k + 1, j, h => ⟨p (j + 1), h j (by omega), by
      have := kd_Dof k (j + 1) (fun i hi => h i (by omega))
      rw [show j + 1 + k = j + (k + 1) by omega] at this
      exact this⟩
theorem kb_diff {A B : Nat → Int} : ∀ n : Nat, (∀ j, j < n → A j = B j) ∨ ∃ j, j < n ∧ (∀ i, i < j → A i = B i) ∧ A j ≠ B j
  | 0 => Or.inl (fun j hj => absurd hj (by omega))
  | n + 1 => by
    rcases kb_diff (A := A) (B := B) n with q | ⟨j, j1, j2, j3⟩
    · by_cases c : A n = B n
      · refine Or.inl (fun j hj => ?_)
        by_cases e : j = n
        · rw [e]; exact c
        · exact q j (by omega)
      · exact Or.inr ⟨n, by omega, q, c⟩
    · exact Or.inr ⟨j, by omega, j2, j3⟩
/-- a loop along acts that keep the level, of the greatest mean -/
theorem kb_lp.tight (hK : mm_KV K) (hup : ∀ u v w, kb_E K Lo Hi h u v w → H u + (C * w - S) ≤ H v) {s : Int} (hl : kb_lp K Lo Hi h s A m) : C * kb_sm K Lo Hi h s A m = S * m ↔ ∀ j, j < m → kb_T K Lo Hi h H S C (kf_run K s A j) (A j) := by
  have st := hl.st hK
  unfold kb_sm
  rw [kz_loop hup (hl.gl hK)]
  constructor
  · intro q j hj
    have := q j hj
    exact ⟨(hl.2.2.1 j hj).1, (hl.2.2.1 j hj).2, this⟩
  · intro q j hj
    exact (q j hj).2.2
theorem kb_lp.tt (hK : mm_KV K) {s : Int} (hl : kb_lp K Lo Hi h s A m) (ht : ∀ j, j < m → kb_T K Lo Hi h H S C (kf_run K s A j) (A j)) : ∀ j, j < m → kb_t K Lo Hi h H S C (kf_run K s A j).toNat (kf_run K s A (j + 1)).toNat := by
  intro j hj
  have st := hl.st hK
  have q := st j (by omega)
  have q2 := st (j + 1) (by omega)
  have e : (((kf_run K s A j).toNat : Nat) : Int) = kf_run K s A j := by have := q.1; omega
  have e2 : (((kf_run K s A (j + 1)).toNat : Nat) : Int) = kf_run K s A (j + 1) := by have := q2.1; omega
  exact ⟨by rw [e]; exact q, A j, by rw [e]; exact ht j hj, by rw [e, e2]; rfl⟩
theorem kb_lp.dd (hK : mm_KV K) {s : Int} (hl : kb_lp K Lo Hi h s A m) (ht : ∀ j, j < m → kb_T K Lo Hi h H S C (kf_run K s A j) (A j)) {j : Nat} (hj : j ≤ m) : kd_D (kb_t K Lo Hi h H S C) s.toNat (m - j) (kf_run K s A j).toNat := by
  have := kd_Dof (t := kb_t K Lo Hi h H S C) (p := fun j => (kf_run K s A j).toNat) (m - j) j (fun i hi => hl.tt hK ht i (by omega))
  rw [show j + (m - j) = m by omega] at this
  have this : kd_D (kb_t K Lo Hi h H S C) (kf_run K s A m).toNat (m - j) (kf_run K s A j).toNat := this
  rw [hl.2.2.2] at this
  exact this
theorem kb_of (hK : mm_KV K) (hC : 0 < C) (hup : ∀ u v w, kb_E K Lo Hi h u v w → H u + (C * w - S) ≤ H v) {b N : Nat} (hb : ks_st K (b : Int)) (h1 : 1 ≤ N) (h2 : N ≤ 288)
    (hs : ∀ j, j < N → kb_T K Lo Hi h H S C (kf_run K (b : Int) A j) (A j) ∧ ∀ a, kb_T K Lo Hi h H S C (kf_run K (b : Int) A j) a → kd_D (kb_t K Lo Hi h H S C) b (N - j - 1) (ks_to K (kf_run K (b : Int) A j) a).toNat → A j ≤ a)
    (he : kf_run K (b : Int) A N = (b : Int)) (hmin : ∀ s : Nat, ks_st K (s : Int) → ∀ l : Nat, 1 ≤ l → kd_D (kb_t K Lo Hi h H S C) s l s → N < l ∨ (N = l ∧ b ≤ s))
    {T : Nat → Int} (hT : ∀ j, j < N → T j = kf_run K (b : Int) A j) : kb_is K Lo Hi h (N : Int) (kb_sm K Lo Hi h (b : Int) A N) A T := by
  have T0 : T 0 = (b : Int) := hT 0 (by omega)
  have hl : kb_lp K Lo Hi h (b : Int) A N := ⟨h1, hb, fun j hj => ⟨(hs j hj).1.1, (hs j hj).1.2.1⟩, he⟩
  have hw := (hl.tight hK hup).mpr (fun j hj => (hs j hj).1)
  refine Or.inr ⟨N, rfl, h2, by rw [T0]; exact hl, by rw [T0], by rw [T0]; exact hT, ?_⟩
  intro s B m hB
  have hBg := kz_le hup (hB.gl hK)
  have hm1 := hB.1
  obtain ⟨x, hx⟩ : ∃ x, x = kb_sm K Lo Hi h s B m := ⟨_, rfl⟩
  obtain ⟨w, hw0⟩ : ∃ w, w = kb_sm K Lo Hi h (b : Int) A N := ⟨_, rfl⟩
  rw [T0, ← hx, ← hw0]
  rw [← hw0] at hw
  have hBg : C * x ≤ S * m := by rw [hx]; exact hBg
  have u1 : x * N ≤ w * m := fr_trans (b := (m : Int)) (c := S) (d := C) (f := (N : Int)) (by omega) hC (by omega) (by rw [Int.mul_comm]; exact hBg) (by rw [Int.mul_comm w, hw]; exact Int.le_refl _)
  by_cases c : x * N < w * m
  · exact Or.inl c
  · right
    have eq : x * N = w * m := by omega
    refine ⟨eq, ?_⟩
    have u2 : S * m ≤ x * C := fr_trans (b := C) (c := w) (d := (N : Int)) (f := (m : Int)) (by omega) (by omega) (by omega) (by rw [Int.mul_comm w, hw]; exact Int.le_refl _) (by omega)
    have hx2 : C * kb_sm K Lo Hi h s B m = S * m := by rw [← hx]; rw [Int.mul_comm x C] at u2; omega
    have tB := (hB.tight hK hup).mp hx2
    have d0 := hB.dd hK tB (Nat.zero_le m)
    have s0 := hB.2.1
    have es : ((s.toNat : Nat) : Int) = s := by omega
    rcases hmin s.toNat (by rw [es]; exact s0) m hm1 (by
      have d1 := d0
      rw [Nat.sub_zero] at d1
      exact d1) with q | ⟨q1, q2⟩
    · exact Or.inl q
    · refine Or.inr ⟨q1, ?_⟩
      by_cases cs : (b : Int) < s
      · exact Or.inl cs
      · right
        have bs : (b : Int) = s := by omega
        refine ⟨bs, ?_⟩
        subst q1
        rcases kb_diff (A := A) (B := B) N with z | ⟨j, j1, j2, j3⟩
        · exact Or.inl z
        · right
          refine ⟨j, j1, j2, ?_⟩
          have er : kf_run K s B j = kf_run K (b : Int) A j := kf_run_congr bs.symm (fun i hi => (j2 i hi).symm)
          have tj := tB j j1
          have dj := hB.dd hK tB (show j + 1 ≤ N by omega)
          rw [show N - (j + 1) = N - j - 1 by omega, ← bs] at dj
          have e2 : kf_run K (b : Int) B (j + 1) = ks_to K (kf_run K (b : Int) A j) (B j) := by
            show ks_to K (kf_run K (b : Int) B j) (B j) = _
            rw [bs, er, bs]
          rw [e2, show ((b : Int)).toNat = b by omega] at dj
          rw [er] at tj
          have := (hs j j1).2 (B j) tj dj
          omega
/-- there is no loop -/
theorem kb_none {len worth : Int} {T : Nat → Int} (h0 : len = 0) (h1 : ¬ ∃ p g m, gL (kb_E K Lo Hi h) p g m) (hK : mm_KV K) : kb_is K Lo Hi h len worth A T :=
  Or.inl ⟨h0, fun s B n q => h1 ⟨_, _, _, q.gl hK⟩⟩
end

