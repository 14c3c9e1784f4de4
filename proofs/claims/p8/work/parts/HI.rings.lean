/-! ===== KitePower$LoopFinder: takeBestRing ===== -/
/-- what raised a state, and what raised that, and so on: it ends behind d steps -/
def kv_e (N : mm_M) (n : Nat) : Nat → Nat → Prop
  | 0, v => N 37 v = -1
  | d + 1, v => ∃ p u : Nat, N 37 v = (p : Int) ∧ kv_p N n p u v ∧ kv_e N n d u
theorem kv_C.end {N : mm_M} {n k : Nat} {c r : Nat → Nat} (h : kv_C N n c r k) {d : Nat} (he : kv_e N n d (c k)) : ∀ i : Nat, i ≤ k → kv_e N n (d + i) (c (k - i)) := by
  intro i
  induction i with
  | zero => intro _; exact he
  | succ i ih =>
    intro hi
    have := h (k - (i + 1)) (by omega)
    rw [show k - (i + 1) + 1 = k - i by omega] at this
    exact ⟨r (k - (i + 1)), c (k - i), this.1, this.2, ih (by omega)⟩
def kv_h (M N : mm_M) : Prop := mm_Rf N ∧ (∀ a, a ≠ 28 → a ≠ 39 → N a = M a) ∧ ∀ b, b ≠ 16 → b ≠ 17 → N 28 b = M 28 b
theorem kv_h.p {M N : mm_M} (f : kv_h M N) {n p u v : Nat} : kv_p N n p u v ↔ kv_p M n p u v := by
  unfold kv_p
  rw [f.2.1 31 (by decide) (by decide), f.2.1 32 (by decide) (by decide), f.2.1 33 (by decide) (by decide)]
theorem kv_h.G {M N : mm_M} (f : kv_h M N) {n : Nat} (h : kv_G M n) : kv_G N n := by
  unfold kv_G at h ⊢
  rw [f.2.1 31 (by decide) (by decide), f.2.1 32 (by decide) (by decide), f.2.1 33 (by decide) (by decide), f.2.1 34 (by decide) (by decide)]
  exact h
theorem kv_h.C {M N : mm_M} (f : kv_h M N) {n k : Nat} {c r : Nat → Nat} (h : kv_C M n c r k) : kv_C N n c r k := fun j hj => by
  rw [f.2.1 37 (by decide) (by decide)]
  exact ⟨(h j hj).1, f.p.mpr (h j hj).2⟩
/-- the mean as it stands: that of a ring, or as it was -/
def kv_Q (M N : mm_M) (n : Nat) (S C b : Int) (P : Prop) : Prop := (b = 0 ∧ N 28 16 = S ∧ N 28 17 = C ∧ P) ∨ (b = 1 ∧ ∃ q r m, kv_R M n q r m ∧ m ≤ n ∧ N 28 16 = ka_sum (fun j => M 34 (r j)) m ∧ N 28 17 = (m : Int))
theorem kv_Q.b {M N : mm_M} {n : Nat} {S C b : Int} {P : Prop} (h : kv_Q M N n S C b P) (hG : kv_G M n) (hn2 : n ≤ 288) (hSb : -2000000000 ≤ S ∧ S ≤ 2000000000) (hCb : 1 ≤ C ∧ C ≤ 288) : (-2000000000 ≤ N 28 16 ∧ N 28 16 ≤ 2000000000) ∧ 1 ≤ N 28 17 ∧ N 28 17 ≤ 288 := by
  rcases h with ⟨-, q1, q2, -⟩ | ⟨-, q, r, m, r1, r2, r3, r4⟩
  · rw [q1, q2]; exact ⟨hSb, hCb⟩
  · have := ka_sumb (f := fun j => M 34 (r j)) (B := 5800000) (n := m) (fun j hj => hG.w (r1.2.2 j hj).2)
    have h1 := r1.1
    rw [r3, r4]
    omega
section
variable {X : mm_X} {M : mm_M} {n : Nat}
theorem c_X6_takeBestRing {t : Nat} {S C B : Int} {T : Nat → Nat} (hR : mm_Rf M) (hG : kv_G M n) (hn : M 3 2 = (n : Int)) (hn2 : n ≤ 288) (hS : M 28 16 = S) (hC : M 28 17 = C) (hSb : -2000000000 ≤ S ∧ S ≤ 2000000000) (hCb : 1 ≤ C ∧ C ≤ 288) (hA : kv_A M n S C T t B) :
    mm_C X Y_X6_takeBestRing 243 243 [(2, 29)] M (fun r M' => ∃ x, r = (0, x) ∧ mm_Rf M' ∧ kv_h M M' ∧ kv_Q M M' n S C x (∀ v, v < n → ∃ d, kv_e M n d v)) := by
  obtain ⟨Φ, hΦ⟩ : ∃ Φ : mm_V → mm_M → Prop, Φ = (fun r M' => ∃ x, r = (0, x) ∧ mm_Rf M' ∧ kv_h M M' ∧ kv_Q M M' n S C x (∀ v, v < n → ∃ d, kv_e M n d v)) := ⟨_, rfl⟩
  rw [← hΦ]
  -- marks, ahead of state s
  obtain ⟨J, hJ⟩ : ∃ J : mm_M → Int → Nat → Prop, J = (fun N b s => kv_h M N ∧ (∀ v, v < n → N 39 v = -1 ∨ ∃ a : Nat, a < s ∧ N 39 v = (a : Int)) ∧ kv_Q M N n S C b ((∀ v, v < n → N 39 v ≠ -1 → ∃ d, kv_e M n d v) ∧ ∀ v, v < s → N 39 v ≠ -1 ∨ M 37 v = -1)) := ⟨_, rfl⟩
  have par : ∀ v, v < n → M 37 v ≠ -1 → ∃ p u : Nat, M 37 v = (p : Int) ∧ kv_p M n p u v := by
    intro v hv hne
    rcases hA.2.1 v hv with q | ⟨p, u, q1, q2, -⟩
    · exact absurd q.1 hne
    · exact ⟨p, u, q1, q2⟩
  have m37 : ∀ v, v < n → -1 ≤ M 37 v ∧ M 37 v ≤ 4320 := by
    intro v hv
    rcases hA.2.1 v hv with q | ⟨p, u, q1, q2, -⟩
    · omega
    · have := q2.1; omega
  -- one walk
  have walk : ∀ s : Nat, s < n → ∀ b N0, J N0 b s →
      (∀ N b', J N b' (s + 1) → mm_J X Y_X6_takeBestRing 243 243 243 12 [(2, 29), (0, b'), (0, (s : Int) + 1), (9, 0), (9, 0)] [] N Φ) →
      ∀ i : Nat, i ≤ n → ∀ N (c r : Nat → Nat), kv_h M N → N 28 = N0 28 → c 0 = s → c i < n → kv_C M n c r i → (∀ j, j < i → c j < n ∧ N 39 (c j) = (s : Int)) → (∀ j j', j < j' → j' < i → c j ≠ c j') → (∀ v, (∀ j, j < i → c j ≠ v) → N 39 v = N0 39 v) →
      mm_J X Y_X6_takeBestRing 243 243 243 28 [(2, 29), (0, b), (0, (s : Int)), (0, (c i : Int)), (0, (i : Int))] [] N Φ := by
    intro s hs b N0 h0 out
    rw [hJ] at h0
    obtain ⟨j1, j2, j3⟩ := h0
    have hb01 : b = 0 ∨ b = 1 := j3.imp And.left And.left
    refine mm_lp ?_
    intro i hi ih N c r hh h28 hc0 hci hC1 hmk hdi hot
    have hRN := hh.1
    have est : N 3 2 = (n : Int) := by rw [hh.2.1 3 (by decide) (by decide)]; exact hn
    have e37 : N 37 = M 37 := hh.2.1 37 (by decide) (by decide)
    have e32 : N 32 = M 32 := hh.2.1 32 (by decide) (by decide)
    -- what is marked now was marked before, or in this walk
    have mkb : ∀ v, v < n → -1 ≤ N 39 v ∧ N 39 v ≤ (s : Int) := by
      intro v hv
      by_cases c1 : ∃ j, j < i ∧ c j = v
      · obtain ⟨j, a1, a2⟩ := c1
        rw [← a2, (hmk j a1).2]; omega
      · rw [hot v (fun j hj e => c1 ⟨j, hj, e⟩)]
        rcases j2 v hv with q | ⟨a, a1, a2⟩ <;> omega
    have mks : ∀ v, v < n → N 39 v = (s : Int) → ∃ j, j < i ∧ c j = v := by
      intro v hv e
      by_cases c1 : ∃ j, j < i ∧ c j = v
      · exact c1
      · exfalso
        rw [hot v (fun j hj e => c1 ⟨j, hj, e⟩)] at e
        rcases j2 v hv with q | ⟨a, a1, a2⟩ <;> omega
    -- the walk is over
    have over : (i = n ∨ N 39 (c i) ≠ -1 ∨ M 37 (c i) = -1) → mm_J X Y_X6_takeBestRing 243 243 243 85 [(2, 29), (0, b), (0, (s : Int)), (0, (c i : Int)), (9, 0)] [] N Φ := by
      intro stop
      have mb := mkb (c i) hci
      have J2 : ∀ P : mm_M, P 39 = N 39 → ∀ v, v < n → P 39 v = -1 ∨ ∃ a : Nat, a < s + 1 ∧ P 39 v = (a : Int) := by
        intro P hP v hv
        have := mkb v hv
        rw [hP]
        by_cases q : N 39 v = -1
        · exact Or.inl q
        · exact Or.inr ⟨(N 39 v).toNat, by omega, by omega⟩
      by_cases hit : N 39 (c i) = (s : Int)
      · obtain ⟨j0, a1, a2⟩ := mks (c i) hci hit
        have hC2 : kv_C M n (fun j => c (j0 + j)) (fun j => r (j0 + j)) (i - j0) := fun j hj => hC1 (j0 + j) (by omega)
        have hring := hC2.ring (by omega) (by show c (j0 + (i - j0)) = c (j0 + 0); rw [show j0 + (i - j0) = i by omega]; exact a2.symm)
        have big := hA.ring hring
        have er : ka_sum (fun j => M 34 (r (j0 + (i - j0 - 1 - j)))) (i - j0) = ka_sum (fun j => M 34 (r (j0 + j))) (i - j0) := ka_sum_rev (fun j => M 34 (r (j0 + j))) (i - j0)
        have big : S * ((i - j0 : Nat) : Int) < C * ka_sum (fun j => M 34 (r (j0 + j))) (i - j0) := by rw [← er]; exact big
        have qb := j3.b hG hn2 hSb hCb
        rw [← h28] at qb
        have ct := c_X6_takeRing (X := X) (M := N) (n := n) (c := fun j => c (j0 + j)) (r := fun j => r (j0 + j)) (m := i - j0) (S := N 28 16) (C := N 28 17) hRN (hh.G hG) est hn2 rfl rfl qb.1 qb.2 (hh.C hC2) (by omega) (by omega) (by show c (j0 + (i - j0)) = c (j0 + 0); rw [show j0 + (i - j0) = i by omega]; exact a2.symm) (fun j x1 x2 => by
          show c (j0 + j) ≠ c (j0 + 0)
          exact fun e => hdi (j0 + 0) (j0 + j) (by omega) (by omega) e.symm)
        have ct2 : mm_C X Y_X6_takeRing 243 243 [(2, 29), (0, (c i : Int))] N (fun r' M' => ∃ x, r' = (0, x) ∧ mm_Rf M' ∧ (x = 0 ∨ x = 1) ∧ ∀ b', ((b' = 1 ∧ (x ≠ 0 ∨ b ≠ 0)) ∨ (b' = 0 ∧ x = 0 ∧ b = 0)) → J M' b' (s + 1)) := by
          have e0 : c (j0 + 0) = c i := by rw [Nat.add_zero]; exact a2
          rw [← e0]
          refine mm_C.mono ct ?_
          rintro r' P ⟨x, x1, x2, x3⟩
          have e34 : N 34 = M 34 := hh.2.1 34 (by decide) (by decide)
          rw [e34] at x3
          rcases x3 with ⟨y1, y2, y3⟩ | ⟨y1, y2, y3⟩
          · refine ⟨x, x1, x2, Or.inl y1, fun b' hb' => ?_⟩
            rw [hJ, y2]
            refine ⟨hh, J2 N rfl, ?_⟩
            rcases j3 with ⟨z1, z2, z3, z4⟩ | ⟨z1, z2⟩
            · exfalso
              rw [h28, z2, z3] at y3
              omega
            · right
              rw [h28]
              exact ⟨by omega, z2⟩
          · refine ⟨x, x1, x2, Or.inr y1, fun b' hb' => ?_⟩
            rw [hJ]
            refine ⟨⟨x2, fun a a1' a2' => by rw [y3, mm_up_row a1', mm_up_row a1']; exact hh.2.1 a a1' a2', fun b b1 b2 => by rw [y3, mm_up_i b2, mm_up_i b1]; exact hh.2.2 b b1 b2⟩, J2 P (by rw [y3, mm_up_row (by decide), mm_up_row (by decide)]), Or.inr ⟨by omega, _, _, i - j0, hring, by omega, ?_, by rw [y3, mm_up_s]⟩⟩
            rw [y3, mm_up_i (by decide), mm_up_s]
            exact er.symm
        refine mm_aload_n dX6_takeBestRing_85 rfl rfl ?_
        refine mm_getr dX6_takeBestRing_86 rfl fl_X6_46 (c := 28) rfl (by decide) rfl rfl (hRN.at (c := 28) (i := 12) (v := 40) rfl (by decide)) ?_
        refine mm_iload_n dX6_takeBestRing_89 rfl rfl ?_
        refine mm_ialk (k0 := c i) dX6_takeBestRing_90 rfl (c := 39) rfl (by decide) rfl (by omega) (by omega) ?_
        rw [hit]
        refine mm_iload_n dX6_takeBestRing_91 rfl rfl ?_
        refine mm_icne dX6_takeBestRing_92 (by omega) (by omega) (fun h92 => ?_) (fun h92 => ?_)
        · exfalso; omega
        · refine mm_aload_n dX6_takeBestRing_95 rfl rfl ?_
          refine mm_iload_n dX6_takeBestRing_96 rfl rfl ?_
          refine mm_V1g (M1 := N) dX6_takeBestRing_97 rfl lk_X6_186 (c := 28) rfl (by decide) rfl (by simp) rfl rfl rfl (ct2) ?_
          rintro _ N97 ⟨x97, rfl, p97⟩
          change mm_J _ _ _ _ _ _ _ _ _ _
          have hR97 : mm_Rf N97 := p97.1
          have hx97 := p97.2.1
          refine mm_ifne dX6_takeBestRing_100 (by omega) (fun h100 => ?_) (fun h100 => ?_)
          · refine mm_iconst dX6_takeBestRing_107 rfl ?_
            refine mm_goto dX6_takeBestRing_108 ?_
            refine mm_istore_n dX6_takeBestRing_112 rfl (Nat.le_of_ble_eq_true rfl) rfl ?_
            refine mm_iinc dX6_takeBestRing_113 rfl rfl (Nat.le_of_ble_eq_true rfl) rfl ?_
            refine mm_goto dX6_takeBestRing_116 ?_
            first
            | exact mm_drop (by repeat (first | exact trivial | refine And.intro (Or.inl rfl) ?_ | refine And.intro (Or.inr rfl) ?_)) (out N97 1 (p97.2.2 1 (by omega)))
            | exact mm_drop (by repeat (first | exact trivial | refine And.intro (Or.inl rfl) ?_ | refine And.intro (Or.inr rfl) ?_)) (out N97 0 (p97.2.2 0 (by omega)))
          · refine mm_iload_n dX6_takeBestRing_103 rfl rfl ?_
            refine mm_ifeq dX6_takeBestRing_104 (by omega) (fun h104 => ?_) (fun h104 => ?_)
            · refine mm_iconst dX6_takeBestRing_111 rfl ?_
              refine mm_istore_n dX6_takeBestRing_112 rfl (Nat.le_of_ble_eq_true rfl) rfl ?_
              refine mm_iinc dX6_takeBestRing_113 rfl rfl (Nat.le_of_ble_eq_true rfl) rfl ?_
              refine mm_goto dX6_takeBestRing_116 ?_
              first
              | exact mm_drop (by repeat (first | exact trivial | refine And.intro (Or.inl rfl) ?_ | refine And.intro (Or.inr rfl) ?_)) (out N97 1 (p97.2.2 1 (by omega)))
              | exact mm_drop (by repeat (first | exact trivial | refine And.intro (Or.inl rfl) ?_ | refine And.intro (Or.inr rfl) ?_)) (out N97 0 (p97.2.2 0 (by omega)))
            · refine mm_iconst dX6_takeBestRing_107 rfl ?_
              refine mm_goto dX6_takeBestRing_108 ?_
              refine mm_istore_n dX6_takeBestRing_112 rfl (Nat.le_of_ble_eq_true rfl) rfl ?_
              refine mm_iinc dX6_takeBestRing_113 rfl rfl (Nat.le_of_ble_eq_true rfl) rfl ?_
              refine mm_goto dX6_takeBestRing_116 ?_
              first
              | exact mm_drop (by repeat (first | exact trivial | refine And.intro (Or.inl rfl) ?_ | refine And.intro (Or.inr rfl) ?_)) (out N97 1 (p97.2.2 1 (by omega)))
              | exact mm_drop (by repeat (first | exact trivial | refine And.intro (Or.inl rfl) ?_ | refine And.intro (Or.inr rfl) ?_)) (out N97 0 (p97.2.2 0 (by omega)))
      · have go : J N b (s + 1) := by
          rw [hJ]
          refine ⟨hh, J2 N rfl, ?_⟩
          rcases j3 with ⟨z1, z2, z3, z4, z5⟩ | ⟨z1, z2⟩
          · left
            have ends : ∃ d, kv_e M n d (c i) := by
              by_cases q1 : M 37 (c i) = -1
              · exact ⟨0, q1⟩
              · by_cases q2 : N 39 (c i) = -1
                · exfalso
                  have ei : i = n := by
                    rcases stop with q | q | q
                    · exact q
                    · exact absurd q2 q
                    · exact absurd q q1
                  obtain ⟨x, y, x1, x2, x3⟩ := gz_pig n c (fun k hk => by
                    by_cases ck : k = i
                    · rw [ck]; exact hci
                    · exact (hmk k (by omega)).1)
                  by_cases cy : y = i
                  · rw [cy] at x3
                    have := (hmk x (by omega)).2
                    rw [x3] at this
                    omega
                  · exact hdi x y x1 (by omega) x3
                · have ne : ∀ j, j < i → c j ≠ c i := fun j hj e => hit (by rw [← e]; exact (hmk j hj).2)
                  have old := hot (c i) ne
                  exact z4 (c i) hci (by rw [← old]; exact q2)
            obtain ⟨d, hd⟩ := ends
            refine ⟨z1, by rw [h28]; exact z2, by rw [h28]; exact z3, fun v hv hm => ?_, fun v hv => ?_⟩
            · by_cases c1 : ∃ j, j < i ∧ c j = v
              · obtain ⟨j, a1, a2⟩ := c1
                have := hC1.end hd (i - j) (by omega)
                rw [show i - (i - j) = j by omega, a2] at this
                exact ⟨_, this⟩
              · rw [hot v (fun j hj e => c1 ⟨j, hj, e⟩)] at hm
                exact z4 v hv hm
            · by_cases cv : v = s
              · rw [cv]
                by_cases i0 : i = 0
                · rw [i0, hc0] at stop
                  rcases stop with q | q | q
                  · omega
                  · exact Or.inl q
                  · exact Or.inr q
                · left
                  have := (hmk 0 (by omega)).2
                  rw [hc0] at this
                  rw [this]; omega
              · by_cases c1 : ∃ j, j < i ∧ c j = v
                · obtain ⟨j, a1, a2⟩ := c1
                  left
                  rw [← a2, (hmk j a1).2]; omega
                · rw [hot v (fun j hj e => c1 ⟨j, hj, e⟩)]
                  exact z5 v (by omega)
          · right
            rw [h28]
            exact ⟨z1, z2⟩
        have go2 := out N b go
        refine mm_aload_n dX6_takeBestRing_85 rfl rfl ?_
        refine mm_getr dX6_takeBestRing_86 rfl fl_X6_46 (c := 28) rfl (by decide) rfl rfl (hRN.at (c := 28) (i := 12) (v := 40) rfl (by decide)) ?_
        refine mm_iload_n dX6_takeBestRing_89 rfl rfl ?_
        refine mm_ialk (k0 := c i) dX6_takeBestRing_90 rfl (c := 39) rfl (by decide) rfl (by omega) (by omega) ?_
        refine mm_iload_n dX6_takeBestRing_91 rfl rfl ?_
        refine mm_icne dX6_takeBestRing_92 (by omega) (by omega) (fun h92 => ?_) (fun h92 => ?_)
        · refine mm_iinc dX6_takeBestRing_113 rfl rfl (Nat.le_of_ble_eq_true rfl) rfl ?_
          refine mm_goto dX6_takeBestRing_116 ?_
          exact mm_drop (by repeat (first | exact trivial | refine And.intro (Or.inl rfl) ?_ | refine And.intro (Or.inr rfl) ?_)) go2
        · exact absurd (by omega) hit
    have mb := mkb (c i) hci
    have mq := m37 (c i) hci
    by_cases hlt : i < n ∧ N 39 (c i) = -1 ∧ M 37 (c i) ≠ -1
    · obtain ⟨l1, l2, l3⟩ := hlt
      obtain ⟨p, u, p1, p2⟩ := par (c i) hci l3
      have p3 := p2.1
      have un := p2.2.1
      have p4 := p2.2.2.2.2.2.1
      have nw : ∀ j, j < i → c j ≠ c i := fun j hj e => by
        have := (hmk j hj).2
        rw [e] at this
        omega
      have go : ∀ P, mm_Rf P → P = mm_up N 39 (c i) (s : Int) → mm_J X Y_X6_takeBestRing 243 243 243 28 [(2, 29), (0, b), (0, (s : Int)), (0, (u : Int)), (0, (i : Int) + 1)] [] P Φ := by
        intro P hRP hP
        have ec : ∀ j, j ≤ i → (if j ≤ i then c j else u) = c j := fun j hj => if_pos hj
        have g := ih l1 P (fun j => if j ≤ i then c j else u) (fun j => if j < i then r j else p) ⟨hRP, fun a a1 a2 => by rw [hP, mm_up_row a2]; exact hh.2.1 a a1 a2, fun b b1 b2 => by rw [hP, mm_up_c (by decide)]; exact hh.2.2 b b1 b2⟩ (by rw [hP, mm_up_row (by decide)]; exact h28) (by show (if 0 ≤ i then c 0 else u) = s; rw [ec 0 (by omega)]; exact hc0) (by show (if i + 1 ≤ i then c (i + 1) else u) < n; rw [if_neg (by omega)]; exact un) (fun j hj => by
          show M 37 (if j ≤ i then c j else u) = ((if j < i then r j else p : Nat) : Int) ∧ kv_p M n (if j < i then r j else p) (if j + 1 ≤ i then c (j + 1) else u) (if j ≤ i then c j else u)
          rw [ec j (by omega)]
          by_cases cj : j = i
          · rw [cj, if_neg (by omega), if_neg (by omega)]
            exact ⟨p1, p2⟩
          · rw [if_pos (by omega), if_pos (by omega)]
            exact hC1 j (by omega)) (fun j hj => by
          show (if j ≤ i then c j else u) < n ∧ P 39 (if j ≤ i then c j else u) = (s : Int)
          rw [ec j (by omega), hP]
          by_cases cj : j = i
          · rw [cj, mm_up_s]; exact ⟨hci, rfl⟩
          · rw [mm_up_i (nw j (by omega))]
            exact hmk j (by omega)) (fun j j' x1 x2 => by
          show (if j ≤ i then c j else u) ≠ (if j' ≤ i then c j' else u)
          rw [ec j (by omega), ec j' (by omega)]
          by_cases cj : j' = i
          · rw [cj]; exact nw j (by omega)
          · exact hdi j j' x1 (by omega)) (fun v hv => by
          have h1 := hv i (by omega)
          have h1 : (if i ≤ i then c i else u) ≠ v := h1
          rw [ec i (Nat.le_refl i)] at h1
          rw [hP, mm_up_i (fun e => h1 e.symm)]
          exact hot v (fun j hj => by
            have h2 : (if j ≤ i then c j else u) ≠ v := hv j (by omega)
            rw [ec j (by omega)] at h2
            exact h2))
        have e1 : (if i + 1 ≤ i then c (i + 1) else u) = u := if_neg (by omega)
        have g : mm_J X Y_X6_takeBestRing 243 243 243 28 [(2, 29), (0, b), (0, (s : Int)), (0, ((if i + 1 ≤ i then c (i + 1) else u : Nat) : Int)), (0, ((i + 1 : Nat) : Int))] [] P Φ := g
        rw [e1, show ((i + 1 : Nat) : Int) = (i : Int) + 1 by omega] at g
        exact g
      refine mm_iload dX6_takeBestRing_28 rfl rfl ?_
      refine mm_aload_n dX6_takeBestRing_30 rfl rfl ?_
      refine mm_getr dX6_takeBestRing_31 rfl fl_X6_55 (c := 28) rfl (by decide) rfl rfl (hRN.at (c := 28) (i := 0) (v := 4) rfl (by decide)) ?_
      refine mm_get (kd := 0) dX6_takeBestRing_34 rfl fl_X6_102 (c := 3) rfl (by decide) rfl rfl ?_
      rw [est]
      refine mm_icge dX6_takeBestRing_37 (by omega) (by omega) (fun h37 => ?_) (fun h37 => ?_)
      · exfalso; omega
      · refine mm_aload_n dX6_takeBestRing_40 rfl rfl ?_
        refine mm_getr dX6_takeBestRing_41 rfl fl_X6_46 (c := 28) rfl (by decide) rfl rfl (hRN.at (c := 28) (i := 12) (v := 40) rfl (by decide)) ?_
        refine mm_iload_n dX6_takeBestRing_44 rfl rfl ?_
        refine mm_ialk (k0 := c i) dX6_takeBestRing_45 rfl (c := 39) rfl (by decide) rfl (by omega) (by omega) ?_
        refine mm_iconst dX6_takeBestRing_46 rfl ?_
        refine mm_icne dX6_takeBestRing_47 (by omega) (by omega) (fun h47 => ?_) (fun h47 => ?_)
        · exfalso; omega
        · refine mm_aload_n dX6_takeBestRing_50 rfl rfl ?_
          refine mm_getr dX6_takeBestRing_51 rfl fl_X6_39 (c := 28) rfl (by decide) rfl rfl (hRN.at (c := 28) (i := 10) (v := 38) rfl (by decide)) ?_
          refine mm_iload_n dX6_takeBestRing_54 rfl rfl ?_
          refine mm_ialk (k0 := c i) dX6_takeBestRing_55 rfl (c := 37) rfl (by decide) rfl (by omega) (by omega) ?_
          rw [e37]
          refine mm_iconst dX6_takeBestRing_56 rfl ?_
          refine mm_iceq dX6_takeBestRing_57 (by omega) (by omega) (fun h57 => ?_) (fun h57 => ?_)
          · exfalso; omega
          · refine mm_aload_n dX6_takeBestRing_60 rfl rfl ?_
            refine mm_getr dX6_takeBestRing_61 rfl fl_X6_46 (c := 28) rfl (by decide) rfl rfl (hRN.at (c := 28) (i := 12) (v := 40) rfl (by decide)) ?_
            refine mm_iload_n dX6_takeBestRing_64 rfl rfl ?_
            refine mm_iload_n dX6_takeBestRing_65 rfl rfl ?_
            refine mm_istk (k0 := c i) dX6_takeBestRing_66 rfl (c := 39) rfl (by decide) rfl (by omega) (by omega) (fun M66 hM66 => ?_)
            have hR66 : mm_Rf M66 := by rw [hM66]; exact hRN.up (mm_rt_ar (t := 0) rfl (by decide))
            refine mm_aload_n dX6_takeBestRing_67 rfl rfl ?_
            refine mm_getr dX6_takeBestRing_68 rfl fl_X6_23 (c := 28) rfl (by decide) rfl rfl (hR66.at (c := 28) (i := 5) (v := 33) rfl (by decide)) ?_
            refine mm_aload_n dX6_takeBestRing_71 rfl rfl ?_
            refine mm_getr dX6_takeBestRing_72 rfl fl_X6_39 (c := 28) rfl (by decide) rfl rfl (hR66.at (c := 28) (i := 10) (v := 38) rfl (by decide)) ?_
            refine mm_iload_n dX6_takeBestRing_75 rfl rfl ?_
            refine mm_ialk (k0 := c i) dX6_takeBestRing_76 rfl (c := 37) rfl (by decide) rfl (by omega) (by omega) ?_
            rw [show M66 37 = M 37 by rw [hM66, mm_up_row (by decide), e37], p1]
            refine mm_ialk (k0 := p) dX6_takeBestRing_77 rfl (c := 32) rfl (by decide) rfl (by omega) (by omega) ?_
            rw [show M66 32 = M 32 by rw [hM66, mm_up_row (by decide), e32], p4]
            refine mm_istore_n dX6_takeBestRing_78 rfl (Nat.le_of_ble_eq_true rfl) rfl ?_
            refine mm_iinc dX6_takeBestRing_79 rfl rfl (Nat.le_of_ble_eq_true rfl) rfl ?_
            refine mm_goto dX6_takeBestRing_82 ?_
            exact go _ hR66 hM66
    · have stop : i = n ∨ N 39 (c i) ≠ -1 ∨ M 37 (c i) = -1 := by omega
      have go := over stop
      refine mm_iload dX6_takeBestRing_28 rfl rfl ?_
      refine mm_aload_n dX6_takeBestRing_30 rfl rfl ?_
      refine mm_getr dX6_takeBestRing_31 rfl fl_X6_55 (c := 28) rfl (by decide) rfl rfl (hRN.at (c := 28) (i := 0) (v := 4) rfl (by decide)) ?_
      refine mm_get (kd := 0) dX6_takeBestRing_34 rfl fl_X6_102 (c := 3) rfl (by decide) rfl rfl ?_
      rw [est]
      refine mm_icge dX6_takeBestRing_37 (by omega) (by omega) (fun h37 => ?_) (fun h37 => ?_)
      · exact mm_drop (by repeat (first | exact trivial | refine And.intro (Or.inl rfl) ?_ | refine And.intro (Or.inr rfl) ?_)) go
      · refine mm_aload_n dX6_takeBestRing_40 rfl rfl ?_
        refine mm_getr dX6_takeBestRing_41 rfl fl_X6_46 (c := 28) rfl (by decide) rfl rfl (hRN.at (c := 28) (i := 12) (v := 40) rfl (by decide)) ?_
        refine mm_iload_n dX6_takeBestRing_44 rfl rfl ?_
        refine mm_ialk (k0 := c i) dX6_takeBestRing_45 rfl (c := 39) rfl (by decide) rfl (by omega) (by omega) ?_
        refine mm_iconst dX6_takeBestRing_46 rfl ?_
        refine mm_icne dX6_takeBestRing_47 (by omega) (by omega) (fun h47 => ?_) (fun h47 => ?_)
        · exact mm_drop (by repeat (first | exact trivial | refine And.intro (Or.inl rfl) ?_ | refine And.intro (Or.inr rfl) ?_)) go
        · refine mm_aload_n dX6_takeBestRing_50 rfl rfl ?_
          refine mm_getr dX6_takeBestRing_51 rfl fl_X6_39 (c := 28) rfl (by decide) rfl rfl (hRN.at (c := 28) (i := 10) (v := 38) rfl (by decide)) ?_
          refine mm_iload_n dX6_takeBestRing_54 rfl rfl ?_
          refine mm_ialk (k0 := c i) dX6_takeBestRing_55 rfl (c := 37) rfl (by decide) rfl (by omega) (by omega) ?_
          rw [e37]
          refine mm_iconst dX6_takeBestRing_56 rfl ?_
          refine mm_iceq dX6_takeBestRing_57 (by omega) (by omega) (fun h57 => ?_) (fun h57 => ?_)
          · exact mm_drop (by repeat (first | exact trivial | refine And.intro (Or.inl rfl) ?_ | refine And.intro (Or.inr rfl) ?_)) go
          · exfalso; omega
  have loop : ∀ s : Nat, s ≤ n → ∀ N b, J N b s → mm_J X Y_X6_takeBestRing 243 243 243 12 [(2, 29), (0, b), (0, (s : Int)), (9, 0), (9, 0)] [] N Φ := by
    refine mm_lp ?_
    intro s hs ih N b hJN
    have h0 := hJN
    rw [hJ] at h0
    obtain ⟨j1, j2, j3⟩ := h0
    have hRN := j1.1
    have est : N 3 2 = (n : Int) := by rw [j1.2.1 3 (by decide) (by decide)]; exact hn
    by_cases hlt : s < n
    · have go := walk s hlt b N hJN (fun P b' hP => by
        have := ih hlt P b' hP
        rw [show ((s + 1 : Nat) : Int) = (s : Int) + 1 by omega] at this
        exact this) 0 (Nat.zero_le _) N (fun _ => s) (fun _ => 0) j1 rfl rfl hlt (fun j hj => absurd hj (by omega)) (fun j hj => absurd hj (by omega)) (fun j j' x1 x2 => absurd x2 (by omega)) (fun v _ => rfl)
      refine mm_iload_n dX6_takeBestRing_12 rfl rfl ?_
      refine mm_aload_n dX6_takeBestRing_13 rfl rfl ?_
      refine mm_getr dX6_takeBestRing_14 rfl fl_X6_55 (c := 28) rfl (by decide) rfl rfl (hRN.at (c := 28) (i := 0) (v := 4) rfl (by decide)) ?_
      refine mm_get (kd := 0) dX6_takeBestRing_17 rfl fl_X6_102 (c := 3) rfl (by decide) rfl rfl ?_
      rw [est]
      refine mm_icge dX6_takeBestRing_20 (by omega) (by omega) (fun h20 => ?_) (fun h20 => ?_)
      · exfalso; omega
      · refine mm_iload_n dX6_takeBestRing_23 rfl rfl ?_
        refine mm_istore_n dX6_takeBestRing_24 rfl (Nat.le_of_ble_eq_true rfl) rfl ?_
        refine mm_iconst dX6_takeBestRing_25 rfl ?_
        refine mm_istore dX6_takeBestRing_26 rfl (Nat.le_of_ble_eq_true rfl) rfl ?_
        exact go
    · have es : s = n := by omega
      subst es
      refine mm_iload_n dX6_takeBestRing_12 rfl rfl ?_
      refine mm_aload_n dX6_takeBestRing_13 rfl rfl ?_
      refine mm_getr dX6_takeBestRing_14 rfl fl_X6_55 (c := 28) rfl (by decide) rfl rfl (hRN.at (c := 28) (i := 0) (v := 4) rfl (by decide)) ?_
      refine mm_get (kd := 0) dX6_takeBestRing_17 rfl fl_X6_102 (c := 3) rfl (by decide) rfl rfl ?_
      rw [est]
      refine mm_icge dX6_takeBestRing_20 (by omega) (by omega) (fun h20 => ?_) (fun h20 => ?_)
      · refine mm_iload_n dX6_takeBestRing_119 rfl rfl ?_
        refine mm_zret dX6_takeBestRing_120 rfl rfl (j3.imp And.left And.left) ?_
        rw [hΦ]; refine ⟨b, rfl, hRN, j1, ?_⟩
        rcases j3 with ⟨z1, z2, z3, z4, z5⟩ | z
        · refine Or.inl ⟨z1, z2, z3, fun v hv => ?_⟩
          rcases z5 v hv with q | q
          · exact z4 v hv q
          · exact ⟨0, q⟩
        · exact Or.inr z
      · exfalso; omega
  obtain ⟨N5, hN5⟩ : ∃ Z, Z = kf_mem M 39 (fun _ => -1) 288 := ⟨_, rfl⟩
  have hR5 : mm_Rf N5 := by rw [hN5]; exact hR.fm (len := 288) rfl
  have cf := c_J7_fill2 (X := X) (M := M) (n := 243) (c := 39) (len := 288) (v := -1) (by decide) rfl
  rw [← hN5] at cf
  have hh5 : kv_h M N5 := ⟨hR5, fun a _ a2 => by rw [hN5, kf_mem_n a2], fun b _ _ => by rw [hN5, kf_mem_n (by decide)]⟩
  have m5 : ∀ v, v < n → N5 39 v = -1 := fun v hv => by rw [hN5, kf_mem_lt (by omega)]
  have J0 : J N5 0 0 := by
    rw [hJ]
    exact ⟨hh5, fun v hv => Or.inl (m5 v hv), Or.inl ⟨rfl, by rw [hN5, kf_mem_n (by decide)]; exact hS, by rw [hN5, kf_mem_n (by decide)]; exact hC, fun v hv q => absurd (m5 v hv) q, fun v hv => absurd hv (by omega)⟩⟩
  refine mm_start (ls := [(2, 29), (9, 0), (9, 0), (9, 0), (9, 0)]) rfl ?_
  refine mm_aload_n dX6_takeBestRing_0 rfl rfl ?_
  refine mm_getr dX6_takeBestRing_1 rfl fl_X6_46 (c := 28) rfl (by decide) rfl rfl (hR.at (c := 28) (i := 12) (v := 40) rfl (by decide)) ?_
  refine mm_iconst dX6_takeBestRing_4 rfl ?_
  refine mm_S2v dX6_takeBestRing_5 rfl lk_X6_93 (by simp) (by simp) rfl rfl rfl (cf) ?_
  refine mm_iconst dX6_takeBestRing_8 rfl ?_
  refine mm_istore_n dX6_takeBestRing_9 rfl (Nat.le_of_ble_eq_true rfl) rfl ?_
  refine mm_iconst dX6_takeBestRing_10 rfl ?_
  refine mm_istore_n dX6_takeBestRing_11 rfl (Nat.le_of_ble_eq_true rfl) rfl ?_
  exact loop 0 (Nat.zero_le _) N5 0 J0
end

