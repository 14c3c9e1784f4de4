/-! ===== how the class and the reference stand to one another ===== -/
/-- the tape -/
def kR1 (M : mm_M) : Prop := M 183 2 = M 1 1 ∧ (0 ≤ M 1 1 ∧ M 1 1 ≤ 800) ∧ M 185 = M 2 ∧ ∀ k : Nat, k < 800 → -128 ≤ M 2 k ∧ M 2 k ≤ 127
theorem kR1.fr {M N : mm_M} (h : kR1 M) (e : ∀ a b, (a = 1 ∧ b = 1) ∨ a = 2 ∨ (a = 183 ∧ b = 2) ∨ a = 185 → N a b = M a b) : kR1 N := by
  have e2 : N 2 = M 2 := funext fun b => e 2 b (by omega)
  have e3 : N 185 = M 185 := funext fun b => e 185 b (by omega)
  unfold kR1 at h ⊢
  rw [e 1 1 (by omega), e 183 2 (by omega), e2, e3]
  exact h
/-- the fault -/
def kR2 (M : mm_M) : Prop := M 183 8 = M 1 2 ∧ M 183 9 = M 1 3
theorem kR2.fr {M N : mm_M} (h : kR2 M) (e : ∀ a b, (a = 1 ∧ 2 ≤ b ∧ b ≤ 3) ∨ (a = 183 ∧ 8 ≤ b ∧ b ≤ 9) → N a b = M a b) : kR2 N := by
  unfold kR2 at h ⊢
  rw [e 1 2 (by omega), e 1 3 (by omega), e 183 8 (by omega), e 183 9 (by omega)]
  exact h
/-- the places of the kites -/
abbrev kS3 (a b : Nat) : Prop := (3 ≤ a ∧ a ≤ 10) ∨ (a = 183 ∧ b = 16) ∨ a = 186 ∨ a = 188 ∨ a = 189 ∨ a = 190
theorem mm_rk.fr {M N : mm_M} (e : ∀ a b, kS3 a b → N a b = M a b) : mm_rk N = mm_rk M := by
  funext i
  unfold mm_rk
  rw [e 183 16 (by omega)]
  by_cases q1 : i < 10
  · rw [if_pos q1, if_pos q1]; exact e _ _ (by omega)
  · rw [if_neg q1, if_neg q1]
    by_cases q2 : i < 20
    · rw [if_pos q2, if_pos q2]
    · rw [if_neg q2, if_neg q2]
      by_cases q3 : i < 30
      · rw [if_pos q3, if_pos q3]; exact e _ _ (by omega)
      · rw [if_neg q3, if_neg q3]; exact e _ _ (by omega)
/-- the kite -/
def kR3 (M : mm_M) : Prop := mm_CK M ∧ mm_KV (mm_rk M) ∧ nK (mm_rk M) = nK (M 4) ∧ mm_KV (M 5) ∧ kq_bd M
theorem kS3.row {M N : mm_M} (e : ∀ a b, kS3 a b → N a b = M a b) (a : Nat) (h : 3 ≤ a ∧ a ≤ 10) : N a = M a := funext fun b => e a b (Or.inl h)
theorem kR3.fr {M N : mm_M} (h : kR3 M) (e : ∀ a b, kS3 a b → N a b = M a b) : kR3 N := by
  obtain ⟨h1, h2, h3, h4, h5⟩ := h
  refine ⟨kx_ck (fun a a1 a2 => kS3.row e a ⟨a1, a2⟩) h1, ?_, ?_, ?_, ?_⟩
  · rw [mm_rk.fr e]; exact h2
  · rw [mm_rk.fr e, kS3.row e 4 (by omega)]; exact h3
  · rw [kS3.row e 5 (by omega)]; exact h4
  · exact h5.fr (funext fun b => e 189 b (by omega))
theorem kR3.k {M : mm_M} (h : kR3 M) {i : Nat} (hi : i < 11) : mm_rk M i = M 4 i := by
  have := congrFun h.2.2.1 i
  rw [nK_lt hi, nK_lt hi] at this
  exact this
/-- a word of the kite that is the same for the numbers that count -/
theorem kR3.w {α : Type} {M : mm_M} (h : kR3 M) (f : (Nat → Int) → α) (hf : ∀ K, mm_KV K → f (nK K) = f K) : f (mm_rk M) = f (M 4) := by
  rw [← hf _ h.2.1, h.2.2.1, hf _ h.1.1]
theorem kR3.n {M : mm_M} (h : kR3 M) : ks_n (mm_rk M) = ks_n (M 4) := h.w ks_n (fun _ _ => rfl)
theorem kR3.st {M : mm_M} (h : kR3 M) (s : Int) : ks_st (mm_rk M) s ↔ ks_st (M 4) s := by
  unfold ks_st; rw [h.n]
theorem kR3.ac {M : mm_M} (h : kR3 M) (a : Int) : ks_ac (mm_rk M) a ↔ ks_ac (M 4) a := by
  unfold ks_ac; rw [h.k (by decide)]
theorem kR3.to {M : mm_M} (h : kR3 M) (s a : Int) : ks_to (mm_rk M) s a = ks_to (M 4) s a := h.w (fun K => ks_to K s a) (fun _ _ => rfl)
theorem kR3.run {M : mm_M} (h : kR3 M) (s : Int) (A : Nat → Int) (k : Nat) : kf_run (mm_rk M) s A k = kf_run (M 4) s A k := h.w (fun K => kf_run K s A k) (fun _ _ => nk_run k)
/-- the rules of flying -/
def kR4 (M : mm_M) : Prop := mm_CR M ∧ mm_RR M ∧ M 183 20 = M 18 1 ∧ ∀ l : Nat, (l : Int) < M 18 1 → kq_C M l = kc_C M l ∧ (∀ c : Nat, (c : Int) < kc_C M l → kq_Q M l c = kc_Q M l c ∧ kq_H M l c = kc_H M l c ∧ kq_B M l c = kc_B M l c) ∧ kq_D M l = kc_D M l
abbrev kS4 (a b : Nat) : Prop := (a = 18 ∧ b = 1) ∨ a = 19 ∨ (a = 183 ∧ b = 20) ∨ (193 ≤ a ∧ a ≤ 197) ∨ kS3 a b
theorem kR4.fr {M N : mm_M} (h : kR4 M) (e : ∀ a b, kS4 a b → N a b = M a b) : kR4 N := by
  have rk : mm_rk N = mm_rk M := mm_rk.fr (fun a b q => e a b (Or.inr (Or.inr (Or.inr (Or.inr q)))))
  have r : ∀ a, (a = 4 ∨ a = 19 ∨ (193 ≤ a ∧ a ≤ 197)) → N a = M a := fun a ha => funext fun b => e a b (by omega)
  unfold kR4 mm_CR mm_RR kq_C kq_Q kq_H kq_B kq_D kc_C kc_Q kc_H kc_B kc_D at h ⊢
  rw [rk, r 4 (by omega), r 19 (by omega), r 193 (by omega), r 194 (by omega), r 195 (by omega), r 196 (by omega), r 197 (by omega), e 18 1 (by omega), e 183 20 (by omega)]
  exact h
/-- the winds -/
def kR5 (M : mm_M) : Prop := (M 183 27 = M 11 1 ∧ 0 ≤ M 11 1 ∧ M 11 1 ≤ 200) ∧ (M 183 28 = M 11 2 ∧ 0 ≤ M 11 2 ∧ M 11 2 ≤ 999) ∧ (M 203 = M 16 ∧ M 204 = M 17) ∧ mm_CA M ∧ (∀ i, i < 200 → mm_R (M 13 i) ∧ mm_R (M 12 i)) ∧ (∀ i, i < 200 → mm_R (M 198 i) ∧ mm_R (M 199 i) ∧ mm_R (M 202 i)) ∧
  ∀ i : Nat, (i : Int) < M 11 1 → M 13 i = M 198 i * 5 + M 199 i ∧ (0 ≤ M 199 i ∧ M 199 i ≤ 4) ∧ M 202 i = M 12 i ∧ M 200 i = M 14 i ∧ M 201 i = M 15 i
abbrev kS5 (a b : Nat) : Prop := (a = 11 ∧ 1 ≤ b ∧ b ≤ 2) ∨ (12 ≤ a ∧ a ≤ 17) ∨ (a = 183 ∧ 27 ≤ b ∧ b ≤ 28) ∨ (198 ≤ a ∧ a ≤ 204)
theorem kR5.fr {M N : mm_M} (h : kR5 M) (e : ∀ a b, kS5 a b → N a b = M a b) : kR5 N := by
  have r : ∀ a, ((12 ≤ a ∧ a ≤ 17) ∨ (198 ≤ a ∧ a ≤ 204)) → N a = M a := fun a ha => funext fun b => e a b (by omega)
  unfold kR5 mm_CA at h ⊢
  rw [r 12 (by omega), r 13 (by omega), r 14 (by omega), r 15 (by omega), r 16 (by omega), r 17 (by omega), r 198 (by omega), r 199 (by omega), r 200 (by omega), r 201 (by omega), r 202 (by omega), r 203 (by omega), r 204 (by omega), e 11 1 (by omega), e 11 2 (by omega), e 183 27 (by omega), e 183 28 (by omega)]
  exact h
theorem kR5.ra {M : mm_M} (h : kR5 M) : mm_RA M := by
  obtain ⟨-, -, ⟨h1, h2⟩, h3, -⟩ := h
  unfold mm_RA
  rw [h1, h2]
  exact h3
/-- what may be where best, looped, plan and planned aren't held side by side: never, in whole -/
def kZ : Prop := True
/-- the latest best loop -/
def kR6 (M : mm_M) : Prop := (0 ≤ M 114 2 ∧ M 114 2 ≤ 288) ∧ (0 ≤ M 183 50 ∧ M 183 50 ≤ 288) ∧ (M 183 54 = 0 ∨ M 183 54 = 1) ∧ (kZ ∨ (M 114 2 = 0 ∧ M 183 54 = 0) ∨ (0 < M 114 2 ∧ M 183 54 = 1 ∧ M 183 50 = M 114 2 ∧ M 183 51 = M 114 3 ∧ M 183 52 = M 116 0 ∧ ∀ i : Nat, (i : Int) < M 114 2 → M 214 i = M 115 i))
abbrev kS6 (a b : Nat) : Prop := (a = 114 ∧ 2 ≤ b ∧ b ≤ 3) ∨ a = 115 ∨ a = 116 ∨ (a = 183 ∧ 50 ≤ b ∧ b ≤ 54) ∨ a = 214
theorem kR6.fr {M N : mm_M} (h : kR6 M) (e : ∀ a b, kS6 a b → N a b = M a b) : kR6 N := by
  have r : ∀ a, (a = 115 ∨ a = 116 ∨ a = 214) → N a = M a := fun a ha => funext fun b => e a b (by omega)
  unfold kR6 at h ⊢
  rw [r 115 (by omega), r 116 (by omega), r 214 (by omega), e 114 2 (by omega), e 114 3 (by omega), e 183 50 (by omega), e 183 51 (by omega), e 183 52 (by omega), e 183 54 (by omega)]
  exact h
/-- a loop at an hour: n safe acts A from s back to it -/
def kb_lp (K Lo Hi : Nat → Int) (h s : Int) (A : Nat → Int) (n : Nat) : Prop := 1 ≤ n ∧ ks_st K s ∧ (∀ j, j < n → ks_ac K (A j) ∧ ks_safe K Lo Hi (kf_run K s A j) (A j) h) ∧ kf_run K s A n = s
/-- what it surely gives -/
def kb_sm (K Lo Hi : Nat → Int) (h s : Int) (A : Nat → Int) (n : Nat) : Int := ka_sum (kj_g K Lo Hi s h A) n
/-- the first row of acts is not behind the second -/
def kb_lex (A B : Nat → Int) (n : Nat) : Prop := (∀ j, j < n → A j = B j) ∨ ∃ j, j < n ∧ (∀ i, i < j → A i = B i) ∧ A j < B j
/-- the first loop is not behind the second -/
def kb_le (w : Int) (n : Nat) (s : Int) (A : Nat → Int) (w' : Int) (n' : Nat) (s' : Int) (A' : Nat → Int) : Prop :=
  w' * n < w * n' ∨ (w' * n = w * n' ∧ (n < n' ∨ (n = n' ∧ (s < s' ∨ (s = s' ∧ kb_lex A A' n)))))
/-- the best loop of an hour, as a row has it; length 0: there is none -/
def kb_is (K Lo Hi : Nat → Int) (h : Int) (len worth : Int) (A S : Nat → Int) : Prop :=
  (len = 0 ∧ ∀ s B n, ¬ kb_lp K Lo Hi h s B n) ∨ ∃ n : Nat, len = (n : Int) ∧ n ≤ 288 ∧ kb_lp K Lo Hi h (S 0) A n ∧ worth = kb_sm K Lo Hi h (S 0) A n ∧ (∀ j, j < n → S j = kf_run K (S 0) A j) ∧
    ∀ s B m, kb_lp K Lo Hi h s B m → kb_le worth n (S 0) A (kb_sm K Lo Hi h s B m) m s B
/-- the loops that are found are the best ones -/
def kR7 (M : mm_M) : Prop := ∀ h : Nat, h < 24 → (M 23 h = 0 ∨ M 23 h = 1) ∧ (0 ≤ M (42 + 3 * h) 2 ∧ M (42 + 3 * h) 2 ≤ 288) ∧ (M 23 h = 1 → (-1000000 * M (42 + 3 * h) 2 ≤ M (42 + 3 * h) 3 ∧ M (42 + 3 * h) 3 ≤ 1425600 * M (42 + 3 * h) 2 ∨ M (42 + 3 * h) 2 = 0) ∧ (kZ ∨ kb_is (M 4) (M 16) (M 17) h (M (42 + 3 * h) 2) (M (42 + 3 * h) 3) (M (42 + 3 * h + 1)) (M (42 + 3 * h + 2))))
abbrev kS7 (a _b : Nat) : Prop := a = 4 ∨ a = 16 ∨ a = 17 ∨ a = 23 ∨ (42 ≤ a ∧ a ≤ 113)
theorem kR7.fr {M N : mm_M} (h : kR7 M) (e : ∀ a b, kS7 a b → N a b = M a b) : kR7 N := by
  have r : ∀ a, (a = 4 ∨ a = 16 ∨ a = 17 ∨ a = 23 ∨ (42 ≤ a ∧ a ≤ 113)) → N a = M a := fun a ha => funext fun b => e a b (by omega)
  intro k hk
  have := h k hk
  rw [r 4 (by omega), r 16 (by omega), r 17 (by omega), r 23 (by omega), r (42 + 3 * k) (by omega), r (42 + 3 * k + 1) (by omega), r (42 + 3 * k + 2) (by omega)]
  exact this
/-- the row that was judged latest -/
def kR8 (M : mm_M) : Prop := (0 ≤ M 117 2 ∧ M 117 2 ≤ 100) ∧ (M 117 9 = 0 ∨ M 117 9 = 1) ∧ (M 0 12 = 0 ∨ M 0 12 = 1) ∧ (M 183 61 = 0 ∨ M 183 61 = 1) ∧ (M 183 68 = 0 ∨ M 183 68 = 1) ∧ (M 183 62 = 0 ∨ M 183 62 = 1) ∧ (0 ≤ M 183 59 ∧ M 183 59 ≤ 100) ∧ mm_R (M 183 56 - M 183 57) ∧ (M 117 2 = 0 ↔ M 183 61 = 0) ∧
  (M 117 2 ≠ 0 → M 183 55 = M 117 5 ∧ M 183 56 = M 117 6 ∧ M 183 57 = M 117 7 ∧ M 183 58 = M 117 8 ∧ M 183 68 = M 117 9) ∧ (M 183 62 = 1 ↔ M 0 12 = 1 ∧ M 117 9 = 1) ∧
  (M 183 62 = 1 → 1 ≤ M 117 2 ∧ M 183 59 = M 117 2 ∧ M 117 3 = M 183 56 - M 183 57 ∧ (-75000000 ≤ M 117 3 ∧ M 117 3 ≤ 75000000) ∧ ks_st (M 4) (M 183 60) ∧ ∀ j : Nat, (j : Int) < M 117 2 → M 215 j = M 118 j ∧ ks_ac (M 4) (M 118 j) ∧ M 119 j = kf_run (M 4) (M 183 60) (M 118) j ∧ ks_st (M 4) (M 119 j))
abbrev kS8 (a b : Nat) : Prop := a = 4 ∨ (a = 0 ∧ b = 12) ∨ (117 ≤ a ∧ a ≤ 119) ∨ (a = 183 ∧ 55 ≤ b ∧ b ≤ 62) ∨ (a = 183 ∧ b = 68) ∨ a = 215
theorem kR8.fr {M N : mm_M} (h : kR8 M) (e : ∀ a b, kS8 a b → N a b = M a b) : kR8 N := by
  have r : ∀ a, (a = 4 ∨ (117 ≤ a ∧ a ≤ 119) ∨ a = 215) → N a = M a := fun a ha => funext fun b => e a b (by omega)
  unfold kR8 at h ⊢
  rw [r 4 (by omega), r 117 (by omega), r 118 (by omega), r 119 (by omega), r 215 (by omega), e 0 12 (by omega), e 183 55 (by omega), e 183 56 (by omega), e 183 57 (by omega), e 183 58 (by omega), e 183 59 (by omega), e 183 60 (by omega), e 183 61 (by omega), e 183 62 (by omega), e 183 68 (by omega)]
  exact h
/-- the kept loops -/
def kR9 (M : mm_M) : Prop := ∀ k : Nat, k < 6 → (0 ≤ M (121 + 3 * k) 2 ∧ M (121 + 3 * k) 2 ≤ 100) ∧ M 216 k = M (121 + 3 * k) 2 ∧ mm_R (M 217 k) ∧
  (0 < M (121 + 3 * k) 2 → M 218 k = M (121 + 3 * k) 3 ∧ (-75000000 ≤ M (121 + 3 * k) 3 ∧ M (121 + 3 * k) 3 ≤ 75000000) ∧ ks_st (M 4) (M 217 k)) ∧
  ∀ i : Nat, (i : Int) < M (121 + 3 * k) 2 → M 219 (100 * k + i) = M (121 + 3 * k + 1) i ∧ ks_ac (M 4) (M (121 + 3 * k + 1) i) ∧ M (121 + 3 * k + 2) i = kf_run (M 4) (M 217 k) (fun i => M 219 (100 * k + i)) i ∧ ks_st (M 4) (M (121 + 3 * k + 2) i)
abbrev kS9 (a b : Nat) : Prop := a = 4 ∨ (121 ≤ a ∧ a ≤ 138) ∨ (216 ≤ a ∧ a ≤ 218 ∧ b < 6) ∨ (a = 219 ∧ b < 600)
theorem kf_run_cg {K : Nat → Int} {s : Int} {A B : Nat → Int} : ∀ {n : Nat}, (∀ j, j < n → A j = B j) → kf_run K s A n = kf_run K s B n
  | 0, _ => rfl
  | n + 1, h => by unfold kf_run; rw [kf_run_cg (fun j hj => h j (by omega)), h n (by omega)]
theorem kR9.fr {M N : mm_M} (h : kR9 M) (e : ∀ a b, kS9 a b → N a b = M a b) : kR9 N := by
  have r : ∀ a, (a = 4 ∨ (121 ≤ a ∧ a ≤ 138)) → N a = M a := fun a ha => funext fun b => e a b (by omega)
  intro k hk
  obtain ⟨h1, h2, h3, h4, h5⟩ := h k hk
  rw [r 4 (by omega), r (121 + 3 * k) (by omega), r (121 + 3 * k + 1) (by omega), r (121 + 3 * k + 2) (by omega), e 216 k (by omega), e 217 k (by omega), e 218 k (by omega)]
  refine ⟨h1, h2, h3, h4, ?_⟩
  intro i hi
  obtain ⟨q1, q2, q3, q4⟩ := h5 i hi
  refine ⟨by rw [e 219 _ (by omega)]; exact q1, q2, ?_, q4⟩
  rw [q3]
  exact kf_run_cg (fun j hj => (e 219 _ (by omega)).symm)
/-- the latest flight -/
def kR10 (M : mm_M) : Prop := (M 139 3 = 0 ∨ M 139 3 = 1) ∧ (0 ≤ M 139 4 ∧ M 139 4 ≤ 500) ∧ M 183 75 = M 139 3 ∧ (0 ≤ M 183 72 ∧ M 183 72 ≤ 500) ∧ (M 139 3 = 1 → M 183 69 = M 139 5 ∧ M 183 70 = M 139 6 ∧ M 183 71 = M 139 7 ∧ M 183 72 = M 139 4 ∧ ∀ i : Nat, (i : Int) < M 139 4 → M 220 i = M 140 i)
abbrev kS10 (a b : Nat) : Prop := (a = 139 ∧ 3 ≤ b ∧ b ≤ 7) ∨ a = 140 ∨ (a = 183 ∧ 69 ≤ b ∧ b ≤ 75) ∨ a = 220
theorem kR10.fr {M N : mm_M} (h : kR10 M) (e : ∀ a b, kS10 a b → N a b = M a b) : kR10 N := by
  have r : ∀ a, (a = 140 ∨ a = 220) → N a = M a := fun a ha => funext fun b => e a b (by omega)
  unfold kR10 at h ⊢
  rw [r 140 (by omega), r 220 (by omega), e 139 3 (by omega), e 139 4 (by omega), e 139 5 (by omega), e 139 6 (by omega), e 139 7 (by omega), e 183 69 (by omega), e 183 70 (by omega), e 183 71 (by omega), e 183 72 (by omega), e 183 75 (by omega)]
  exact h
/-- how tired -/
def kR11 (M : mm_M) : Prop := M 183 79 = M 0 13 ∧ 0 ≤ M 0 13 ∧ M 0 13 ≤ 1000000
theorem kR11.fr {M N : mm_M} (h : kR11 M) (e : ∀ a b, (a = 0 ∧ b = 13) ∨ (a = 183 ∧ b = 79) → N a b = M a b) : kR11 N := by
  unfold kR11 at h ⊢
  rw [e 0 13 (by omega), e 183 79 (by omega)]
  exact h
/-- the latest plan -/
def kR12 (M : mm_M) : Prop := (0 ≤ M 21 8 ∧ M 21 8 ≤ 23) ∧ (-1 ≤ M 21 9 ∧ M 21 9 ≤ 23) ∧ ((M 183 84 = -1 ∨ 0 ≤ M 183 84 ∧ M 183 84 ≤ 23) ∧ 0 ≤ M 183 85 ∧ M 183 85 ≤ 23) ∧ (kZ ∨ (M 183 84 = -1 ∧ M 183 85 = 0 ∧ M 21 9 < M 21 8) ∨ (M 183 84 = M 21 8 ∧ M 183 85 = M 21 9 ∧ ∀ x : Int, M 21 8 ≤ x → x ≤ M 21 9 → M 223 x.toNat = M 27 x.toNat))
abbrev kS12 (a b : Nat) : Prop := (a = 21 ∧ 8 ≤ b ∧ b ≤ 9) ∨ a = 27 ∨ (a = 183 ∧ 84 ≤ b ∧ b ≤ 85) ∨ a = 223
theorem kR12.fr {M N : mm_M} (h : kR12 M) (e : ∀ a b, kS12 a b → N a b = M a b) : kR12 N := by
  have r : ∀ a, (a = 27 ∨ a = 223) → N a = M a := fun a ha => funext fun b => e a b (by omega)
  unfold kR12 at h ⊢
  rw [r 27 (by omega), r 223 (by omega), e 21 8 (by omega), e 21 9 (by omega), e 183 84 (by omega), e 183 85 (by omega)]
  exact h
/-- the laws -/
def kR14 (M : mm_M) : Prop := (M 183 92 = M 172 0 ∧ 0 ≤ M 172 0 ∧ M 172 0 ≤ 10) ∧ (∀ i, i < 24 → mm_R (M 173 i)) ∧ kl_R M (M 173) ∧ ∀ i : Nat, i < 10 → mm_R (M 230 i) ∧ mm_R (M 231 i) ∧ mm_R (M 232 i)
abbrev kS14 (a b : Nat) : Prop := (a = 172 ∧ b = 0) ∨ a = 173 ∨ (a = 183 ∧ b = 92) ∨ (230 ≤ a ∧ a ≤ 232)
theorem kR14.fr {M N : mm_M} (h : kR14 M) (e : ∀ a b, kS14 a b → N a b = M a b) : kR14 N := by
  have r : ∀ a, (a = 173 ∨ (230 ≤ a ∧ a ≤ 232)) → N a = M a := fun a ha => funext fun b => e a b (by omega)
  unfold kR14 kl_R kl_one at h ⊢
  rw [r 173 (by omega), r 230 (by omega), r 231 (by omega), r 232 (by omega), e 172 0 (by omega), e 183 92 (by omega)]
  exact h
/-- the hidden share -/
def kR15 (M : mm_M) : Prop := M 183 96 = M 0 14 ∧ 0 ≤ M 0 14 ∧ M 0 14 ≤ 20
theorem kR15.fr {M N : mm_M} (h : kR15 M) (e : ∀ a b, (a = 0 ∧ b = 14) ∨ (a = 183 ∧ b = 96) → N a b = M a b) : kR15 N := by
  unfold kR15 at h ⊢
  rw [e 0 14 (by omega), e 183 96 (by omega)]
  exact h
/-- the readings -/
def kR16 (M : mm_M) : Prop := mm_CG M ∧ mm_RG M ∧ M 183 97 = M 174 2 ∧ M 183 98 = M 174 3 ∧ (M 183 99 = M 174 4 ∧ 0 ≤ M 174 4 ∧ M 174 4 ≤ 999) ∧
  (∀ k : Nat, (k : Int) < M 174 2 → M 233 k = M 176 k ∧ M 234 k = M 177 k ∧ M 235 k = M 178 k ∧ M 236 k = M 179 k ∧ M 237 k = M 180 k ∧ M 238 k = M 175 k) ∧
  ∀ i : Nat, (i : Int) < M 174 3 → M 239 i = M 182 i ∧ M 240 i = M 179 (30 + i) ∧ M 241 i = M 180 (30 + i) ∧ M 242 i = M 181 i
abbrev kS16 (a b : Nat) : Prop := (a = 174 ∧ 2 ≤ b ∧ b ≤ 4) ∨ (175 ≤ a ∧ a ≤ 182) ∨ (a = 183 ∧ 97 ≤ b ∧ b ≤ 99) ∨ (233 ≤ a ∧ a ≤ 242) ∨ kS3 a b
theorem kR16.fr {M N : mm_M} (h : kR16 M) (e : ∀ a b, kS16 a b → N a b = M a b) : kR16 N := by
  have rk : mm_rk N = mm_rk M := mm_rk.fr (fun a b q => e a b (Or.inr (Or.inr (Or.inr (Or.inr q)))))
  have r : ∀ a, (a = 4 ∨ (175 ≤ a ∧ a ≤ 182) ∨ (233 ≤ a ∧ a ≤ 242)) → N a = M a := fun a ha => funext fun b => e a b (by omega)
  unfold kR16 mm_CG mm_RG at h ⊢
  rw [rk, r 4 (by omega), r 175 (by omega), r 176 (by omega), r 177 (by omega), r 178 (by omega), r 179 (by omega), r 180 (by omega), r 181 (by omega), r 182 (by omega), r 233 (by omega), r 234 (by omega), r 235 (by omega), r 236 (by omega), r 237 (by omega), r 238 (by omega), r 239 (by omega), r 240 (by omega), r 241 (by omega), r 242 (by omega), e 174 2 (by omega), e 174 3 (by omega), e 174 4 (by omega), e 183 97 (by omega), e 183 98 (by omega), e 183 99 (by omega)]
  exact h

