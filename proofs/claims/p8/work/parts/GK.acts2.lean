/-! ===== the reference: findActs ===== -/
/-- the shortest round of the states up to s0 -/
def kz_B (t : Nat → Nat → Prop) (n s0 : Nat) (b m : Int) : Prop := (b = -1 ∧ m = 1000000 ∧ ∀ s, s < s0 → ∀ l : Nat, 1 ≤ l → (l : Int) < 1000000 → ¬ kd_D t s l s) ∨ ∃ B N : Nat, b = (B : Int) ∧ m = (N : Int) ∧ B < s0 ∧ 1 ≤ N ∧ N ≤ n ∧ kd_D t B N B ∧ ∀ s, s < s0 → ∀ l : Nat, 1 ≤ l → kd_D t s l s → N < l ∨ (N = l ∧ B ≤ s)
theorem kz_B.b {t : Nat → Nat → Prop} {n s0 : Nat} {b m : Int} (hn : n ≤ 288) (h : kz_B t n s0 b m) : 1 ≤ m ∧ m ≤ 1000000 := by
  rcases h with ⟨-, q, -⟩ | ⟨B, N, q1, q2, q3, q4, q5, -⟩ <;> omega
theorem kz_B.step {t : Nat → Nat → Prop} {n s0 : Nat} {b m x : Int} (hn : n ≤ 288) (h : kz_B t n s0 b m) (hx : kQ_A t n s0 m x) : kz_B t n (s0 + 1) (if x < m then (s0 : Int) else b) (if x < m then x else m) := by
  have hb := h.b hn
  rcases hx with ⟨x1, x2⟩ | ⟨l, x1, x2, x3, x4, x5, x6⟩
  · rw [if_neg (by omega), if_neg (by omega)]
    rcases h with ⟨q1, q2, q3⟩ | ⟨B, N, q1, q2, q3, q4, q5, q6, q7⟩
    · refine Or.inl ⟨q1, q2, fun s hs l l1 l2 => ?_⟩
      by_cases c : s = s0
      · rw [c]; exact x2 l l1 (by omega)
      · exact q3 s (by omega) l l1 l2
    · refine Or.inr ⟨B, N, q1, q2, by omega, q4, q5, q6, fun s hs l l1 hD => ?_⟩
      by_cases c : s = s0
      · rw [c] at hD ⊢
        have : ¬ (l : Int) < m := fun z => x2 l l1 z hD
        omega
      · exact q7 s (by omega) l l1 hD
  · rw [if_pos (by omega), if_pos (by omega)]
    refine Or.inr ⟨s0, l, rfl, x1, by omega, x2, x4, x5, fun s hs l' l1 hD => ?_⟩
    by_cases c : s = s0
    · rw [c] at hD ⊢
      have : ¬ l' < l := fun z => x6 l' l1 z hD
      omega
    · rcases h with ⟨q1, q2, q3⟩ | ⟨B, N, q1, q2, q3, q4, q5, q6, q7⟩
      · have : ¬ (l' : Int) < 1000000 := fun z => q3 s (by omega) l' l1 z hD
        omega
      · rcases q7 s (by omega) l' l1 hD with z | z <;> omega
section
variable {X : mm_X} {M : mm_M} {h : Int} {n : Nat}
/-- the acts are written: what was there else is as it was -/
def kz_G (Q P : mm_M) : Prop := mm_Rf P ∧ (∀ a, a ≠ 183 → a ≠ 213 → P a = Q a) ∧ ∀ b, b ≠ 46 → b ≠ 47 → b ≠ 48 → P 183 b = Q 183 b
theorem kz_G.k {Q P : mm_M} (g : kz_G Q P) : mm_rk P = mm_rk Q := mm_rk.fr (fun a b q => by
  by_cases c : a = 183
  · rw [c]; exact g.2.2 b (by omega) (by omega) (by omega)
  · rw [g.2.1 a c (by omega)])
theorem kz_acts {Q : mm_M} {K Lo Hi H f : Nat → Int} {S C : Int} {b N : Nat} (hK : mm_KV K) (hh : ks_hr h) (hn : ks_n K = (n : Int)) (hn2 : n ≤ 288)
    (eK : mm_rk Q = K) (eL : Q 203 = Lo) (eU : Q 204 = Hi) (eH : Q 208 = H) (eS : Q 183 39 = S) (eC : Q 183 40 = C) (eF : Q 211 = f) (hA : mm_RA Q) (hB : ky_B Q n)
    (hup : ∀ u v w, kb_E K Lo Hi h u v w → H u + (C * w - S) ≤ H v) (hb : b < n) (h1 : 1 ≤ N) (h2 : N ≤ 288) (hD : kd_D (kb_t K Lo Hi h H S C) b N b) (hno : ∀ l : Nat, 1 ≤ l → l < N → ¬ kd_D (kb_t K Lo Hi h H S C) b l b)
    (hF : kd_F (kb_t K Lo Hi h H S C) b n N f) {Φ : mm_V → mm_M → Prop}
    (out : ∀ P, kz_G Q P → P 183 46 = kb_sm K Lo Hi h (b : Int) (P 213) N → P 183 47 = (b : Int) → P 183 48 = (N : Int) → (∀ j, j < N → kb_T K Lo Hi h H S C (kf_run K (b : Int) (P 213) j) (P 213 j) ∧ ∀ a, kb_T K Lo Hi h H S C (kf_run K (b : Int) (P 213) j) a → kd_D (kb_t K Lo Hi h H S C) b (N - j - 1) (ks_to K (kf_run K (b : Int) (P 213) j) a).toNat → P 213 j ≤ a) → kf_run K (b : Int) (P 213) N = (b : Int) → Φ (3, 0) P) :
    ∀ P, kz_G Q P → P 183 46 = 0 → P 183 47 = (b : Int) → P 183 48 = (N : Int) → mm_J X Y_X13_findActs 243 243 243 83 [(2, 184), (0, h), (0, (b : Int)), (0, (N : Int)), (0, (b : Int)), (0, (0 : Int)), (9, 0)] [] P Φ := by
  have h10 : 1 ≤ K 10 ∧ K 10 ≤ 3 := by
    obtain ⟨-, -, -, -, -, -, -, -, -, -, q, -⟩ := hK
    exact q
  have hfb : ∀ v, v < n → 0 ≤ f v ∧ f v ≤ 1000000 := by
    intro v hv
    rcases hF v hv with q | ⟨d, d1, d2, d3, -⟩ <;> omega
  have hlt : ∀ u v, kb_t K Lo Hi h H S C u v → v < n := by
    rintro u v ⟨hu, a, ⟨a1, a2, -⟩, a4⟩
    have := ks_to_st hK hu a2.1
    rw [a4] at this
    omega
  have main : ∀ k : Nat, k ≤ N → ∀ P, kz_G Q P → P 183 46 = kb_sm K Lo Hi h (b : Int) (P 213) k → P 183 47 = (b : Int) → P 183 48 = (N : Int) →
      (∀ j, j < k → kb_T K Lo Hi h H S C (kf_run K (b : Int) (P 213) j) (P 213 j) ∧ ∀ a, kb_T K Lo Hi h H S C (kf_run K (b : Int) (P 213) j) a → kd_D (kb_t K Lo Hi h H S C) b (N - j - 1) (ks_to K (kf_run K (b : Int) (P 213) j) a).toNat → P 213 j ≤ a) →
      ∀ u : Nat, (u : Int) = kf_run K (b : Int) (P 213) k → u < n → kd_R (kb_t K Lo Hi h H S C) b k u → kd_D (kb_t K Lo Hi h H S C) b (N - k) u →
      mm_J X Y_X13_findActs 243 243 243 83 [(2, 184), (0, h), (0, (b : Int)), (0, (N : Int)), (0, (u : Int)), (0, (k : Int)), (9, 0)] [] P Φ := by
    refine mm_lp ?_
    intro k hk ih P hG w1 w2 w3 w4 u hu hun hRk hDk
    have hRP := hG.1
    by_cases hlt2 : k < N
    · obtain ⟨left, hleft⟩ : ∃ left, left = N - k - 1 := ⟨_, rfl⟩
      have hst : ks_st K (u : Int) := ⟨by omega, by omega⟩
      have ePK : mm_rk P = K := by rw [hG.k, eK]
      have ePL : P 203 = Lo := by rw [hG.2.1 203 (by decide) (by decide), eL]
      have ePU : P 204 = Hi := by rw [hG.2.1 204 (by decide) (by decide), eU]
      have ePH : P 208 = H := by rw [hG.2.1 208 (by decide) (by decide), eH]
      have ePF : P 211 = f := by rw [hG.2.1 211 (by decide) (by decide), eF]
      have ePS : P 183 39 = S := by rw [hG.2.2 39 (by decide) (by decide) (by decide), eS]
      have ePC : P 183 40 = C := by rw [hG.2.2 40 (by decide) (by decide) (by decide), eC]
      have hAP : mm_RA P := by unfold mm_RA; rw [ePL, ePU, ← eL, ← eU]; exact hA
      have hBP : ky_B P n := by unfold ky_B; rw [ePS, ePC, ePH, ← eS, ← eC, ← eH]; exact hB
      -- an act goes on just when it keeps the level and leads to where the round is closed in what is left
      have iff2 : ∀ a, ks_ac K a → (ky_n P h u a (left : Int) (b : Int) ↔ kb_T K Lo Hi h H S C (u : Int) a ∧ kd_D (kb_t K Lo Hi h H S C) b left (ks_to K (u : Int) a).toNat) := by
        intro a a1
        unfold ky_n
        rw [ePK, ePL, ePU, ePH, ePF, ePS, ePC]
        have far : ks_safe K Lo Hi (u : Int) a h → H u + (C * ks_sure K Lo Hi (u : Int) a h - S) = H (ks_to K (u : Int) a).toNat → ((if (left : Int) = 0 then ks_to K (u : Int) a = (b : Int) else f (ks_to K (u : Int) a).toNat = (left : Int)) ↔ kd_D (kb_t K Lo Hi h H S C) b left (ks_to K (u : Int) a).toNat) := by
          intro a2 a3
          have tst := ks_to_st hK hst a2.1
          obtain ⟨v, hv⟩ : ∃ v : Nat, ks_to K (u : Int) a = (v : Int) := ⟨(ks_to K (u : Int) a).toNat, by omega⟩
          have hvn : v < n := by omega
          have htt : kb_t K Lo Hi h H S C u v := ⟨hst, a, ⟨a1, a2, a3⟩, hv⟩
          rw [hv, show ((v : Int)).toNat = v by omega]
          by_cases l0 : left = 0
          · rw [if_pos (by omega), l0]
            constructor
            · intro q
              show v = b
              omega
            · intro q
              have q : v = b := q
              omega
          · rw [if_neg (by omega)]
            constructor
            · intro q
              rcases hF v hvn with ⟨z, -⟩ | ⟨d, d1, d2, d3, d4, -⟩
              · omega
              · have : d = left := by omega
                rw [← this]; exact d4
            · intro q
              rcases hF v hvn with ⟨-, z⟩ | ⟨d, d1, d2, d3, d4, d5⟩
              · exact absurd q (z left (by omega) (by omega))
              · by_cases c : d = left
                · rw [d1, c]
                · exfalso
                  have dl : d < left := by
                    by_cases c2 : d < left
                    · exact c2
                    · exact absurd q (d5 left (by omega) (by omega))
                  have rr : kd_R (kb_t K Lo Hi h H S C) b (k + 1) v := ⟨u, hRk, htt⟩
                  exact hno (k + 1 + d) (by omega) (by omega) (kd_RD (k + 1) d v rr d4)
        constructor
        · rintro ⟨a2, a3, a4⟩
          exact ⟨⟨a1, a2, a3⟩, (far a2 a3).mp a4⟩
        · rintro ⟨⟨-, a2, a3⟩, a4⟩
          exact ⟨a2, a3, (far a2 a3).mpr a4⟩
      obtain ⟨x, hx1, hx2⟩ : ∃ x : Nat, ks_ac K (x : Int) ∧ ky_n P h u (x : Int) (left : Int) (b : Int) := by
        have e : N - k = left + 1 := by omega
        rw [e] at hDk
        obtain ⟨v, ⟨-, a, a1, a2⟩, v2⟩ := hDk
        have ha := a1.1
        refine ⟨a.toNat, ⟨by omega, by omega⟩, ?_⟩
        rw [show ((a.toNat : Nat) : Int) = a by omega]
        exact (iff2 a ha).mpr ⟨a1, by rw [a2, show ((v : Int)).toNat = v by omega]; exact v2⟩
      have inner : ∀ a : Nat, a ≤ x → (∀ i : Nat, i < a → ¬ ky_n P h u (i : Int) (left : Int) (b : Int)) → mm_J X Y_X13_findActs 243 243 243 92 [(2, 184), (0, h), (0, (b : Int)), (0, (N : Int)), (0, (u : Int)), (0, (k : Int)), (0, (a : Int))] [] P Φ := by
        refine mm_lp ?_
        intro a hax ih2 hq
        have ha : ks_ac K (a : Int) := ⟨by omega, by have := hx1.2; omega⟩
        have haP : ks_ac (mm_rk P) (a : Int) := by rw [ePK]; exact ha
        have cc := fun z hz => c_X13_isNext (X := X) (M := P) (n := n) (s := u) (a := (a : Int)) (h := h) (left := (left : Int)) (goal := (b : Int)) (b := z) hRP (by rw [ePK]; exact hK) hAP hh (by rw [ePK]; exact hn) hBP hun haP (by omega) (by unfold mm_R; omega) (by rw [ePF]; exact hfb) hz
        have el : (left : Int) = (N : Int) - (k : Int) - 1 := by omega
        by_cases hy : ky_n P h u (a : Int) (left : Int) (b : Int)
        · have c1 := cc 1 (Or.inl ⟨rfl, hy⟩)
          rw [el] at c1
          obtain ⟨hT, hTD⟩ := (iff2 _ ha).mp hy
          have tst := ks_to_st hK hst hT.2.1.1
          obtain ⟨v, hv⟩ : ∃ v : Nat, ks_to K (u : Int) (a : Int) = (v : Int) := ⟨(ks_to K (u : Int) (a : Int)).toNat, by omega⟩
          have hvn : v < n := by omega
          have htt : kb_t K Lo Hi h H S C u v := ⟨hst, (a : Int), hT, hv⟩
          have gb := ks_sureb (Lo := Lo) (Hi := Hi) (s := (u : Int)) (hr := h) hK ha (by have := (hAP.wi (by rw [ePK]; exact hK) (by rw [ePK]; exact hst) hh).1; rw [ePL, ePK] at this; exact this) (by have := (hAP.wi (by rw [ePK]; exact hK) (by rw [ePK]; exact hst) hh).2; rw [ePU, ePK] at this; exact this)
          have smb : -5800000 * (k : Int) ≤ kb_sm K Lo Hi h (b : Int) (P 213) k ∧ kb_sm K Lo Hi h (b : Int) (P 213) k ≤ 5800000 * (k : Int) := by
            have := ka_sumb (f := kj_g K Lo Hi (b : Int) h (P 213)) (B := 5800000) (n := k) (fun j hj => by
              have q := (w4 j hj).1
              have sj : ks_st K (kf_run K (b : Int) (P 213) j) := by
                clear ih ih2 w1 w2 w3 iff2 hq cc c1
                induction j with
                | zero => exact ⟨by show (0 : Int) ≤ (b : Int); omega, by show (b : Int) < _; omega⟩
                | succ j jh => exact ks_to_st hK (jh (by omega) (w4 j (by omega)).1) (w4 j (by omega)).1.2.1.1
              have sP : ks_st (mm_rk P) (kf_run K (b : Int) (P 213) j) := by rw [ePK]; exact sj
              have z := hAP.wi (by rw [ePK]; exact hK) sP hh
              rw [ePL, ePU, ePK] at z
              have := ks_sureb (Lo := Lo) (Hi := Hi) (hr := h) hK q.1 z.1 z.2
              exact this)
            unfold kb_sm
            omega
          refine mm_aload_n dX13_findActs_92 rfl rfl ?_
          refine mm_iload dX13_findActs_93 rfl rfl ?_
          refine mm_iload dX13_findActs_95 rfl rfl ?_
          refine mm_iload_n dX13_findActs_97 rfl rfl ?_
          refine mm_iload_n dX13_findActs_98 rfl rfl ?_
          refine mm_iload dX13_findActs_99 rfl rfl ?_
          refine mm_isub dX13_findActs_101 rfl ?_
          refine mm_iconst dX13_findActs_102 rfl ?_
          refine mm_isub dX13_findActs_103 rfl ?_
          refine mm_iload_n dX13_findActs_104 rfl rfl ?_
          refine mm_V5i dX13_findActs_105 rfl lk_X13_579 (c := 183) rfl (by decide) rfl (by simp) (by simp) (by simp) (by simp) (by simp) rfl rfl rfl (c1) ?_
          refine mm_ifne dX13_findActs_108 (by omega) (fun _ => ?_) (fun h => absurd h (by decide))
          refine mm_aload_n dX13_findActs_117 rfl rfl ?_
          refine mm_getr dX13_findActs_118 rfl fl_X13_286 (c := 183) rfl (by decide) rfl rfl (hRP.at (c := 183) (i := 49) (v := 214) rfl (by decide)) ?_
          refine mm_iload dX13_findActs_121 rfl rfl ?_
          refine mm_iload dX13_findActs_123 rfl rfl ?_
          refine mm_istk (k0 := k) dX13_findActs_125 rfl (c := 213) rfl (by decide) rfl (by omega) (by omega) (fun M125 hM125 => ?_)
          have hR125 : mm_Rf M125 := by rw [hM125]; exact hRP.up (mm_rt_ar (t := 0) rfl (by decide))
          refine mm_aload_n dX13_findActs_126 rfl rfl ?_
          refine mm_dup dX13_findActs_127 rfl (by simp) ?_
          refine mm_get (kd := 0) dX13_findActs_128 rfl fl_X13_570 (c := 183) rfl (by decide) rfl rfl ?_
          refine mm_aload_n dX13_findActs_131 rfl rfl ?_
          refine mm_iload dX13_findActs_132 rfl rfl ?_
          refine mm_iload dX13_findActs_134 rfl rfl ?_
          refine mm_iload_n dX13_findActs_136 rfl rfl ?_
          refine mm_V3i dX13_findActs_137 rfl lk_X13_514 (c := 183) rfl (by decide) rfl (by simp) (by simp) (by simp) rfl rfl rfl ((by have e1 : mm_rk M125 = mm_rk P := mm_rk.fr (fun x y q => by rw [hM125, mm_up_row (by omega)]); have e2 : mm_RA M125 := (by unfold mm_RA at hAP ⊢; rw [hM125, mm_up_row (by decide), mm_up_row (by decide)]; exact hAP); have := c_X13_surely (X := X) (M := M125) (s := (u : Int)) (a := (a : Int)) (h := h) hR125 (by rw [e1, ePK]; exact hK) e2 (by rw [e1, ePK]; exact hst) (by rw [e1, ePK]; exact ha) hh; rw [e1, ePK, show M125 203 = Lo by rw [hM125, mm_up_row (by decide), ePL], show M125 204 = Hi by rw [hM125, mm_up_row (by decide), ePU]] at this; exact this)) ?_
          refine mm_iadd dX13_findActs_140 rfl ?_
          refine mm_puti dX13_findActs_141 rfl fl_X13_570 (c := 183) rfl (by decide) rfl rfl (fun M141 hM141 => ?_)
          have hR141 : mm_Rf M141 := by rw [hM141]; exact hR125.up rfl
          refine mm_aload_n dX13_findActs_144 rfl rfl ?_
          refine mm_iload dX13_findActs_145 rfl rfl ?_
          refine mm_iload dX13_findActs_147 rfl rfl ?_
          refine mm_V2i dX13_findActs_149 rfl lk_X13_476 (c := 183) rfl (by decide) rfl (by simp) (by simp) rfl rfl rfl ((by have e1 : mm_rk M141 = mm_rk P := mm_rk.fr (fun x y q => by rw [hM141, mm_up_n (by omega), hM125, mm_up_row (by omega)]); have := c_X13_after (X := X) (M := M141) (s := (u : Int)) (a := (a : Int)) hR141 (by omega); rw [e1, ePK, hv] at this; exact this)) ?_
          refine mm_istore dX13_findActs_152 rfl (Nat.le_of_ble_eq_true rfl) rfl ?_
          refine mm_iinc dX13_findActs_154 rfl rfl (Nat.le_of_ble_eq_true rfl) rfl ?_
          refine mm_goto dX13_findActs_157 ?_
          have eA : M141 213 k = (a : Int) := by rw [hM141, mm_up_row (by decide), hM125, mm_up_s]
          have eA2 : ∀ j, j ≠ k → M141 213 j = P 213 j := fun j hj => by rw [hM141, mm_up_row (by decide), hM125, mm_up_i hj]
          have er : ∀ j, j ≤ k → kf_run K (b : Int) (M141 213) j = kf_run K (b : Int) (P 213) j := fun j hj => kf_run_congr rfl (fun i hi => eA2 i (by omega))
          have es : kb_sm K Lo Hi h (b : Int) (M141 213) (k + 1) = kb_sm K Lo Hi h (b : Int) (P 213) k + ks_sure K Lo Hi (u : Int) (a : Int) h := by
            show ka_sum (kj_g K Lo Hi (b : Int) h (M141 213)) k + kj_g K Lo Hi (b : Int) h (M141 213) k = _
            rw [ka_sum_congr (g := kj_g K Lo Hi (b : Int) h (P 213)) (fun j hj => by unfold kj_g; rw [er j (by omega), eA2 j (by omega)])]
            unfold kj_g
            rw [er k (Nat.le_refl k), eA, ← hu]
            rfl
          have run1 : kf_run K (b : Int) (M141 213) (k + 1) = (v : Int) := by
            show ks_to K (kf_run K (b : Int) (M141 213) k) (M141 213 k) = _
            rw [er k (Nat.le_refl k), eA, ← hu, hv]
          have go := ih hlt2 M141 ⟨hR141, fun x x1 x2 => by rw [hM141, mm_up_row x1, hM125, mm_up_row x2]; exact hG.2.1 x x1 x2, fun x x1 x2 x3 => by rw [hM141, mm_up_i x1, hM125, mm_up_row (by decide)]; exact hG.2.2 x x1 x2 x3⟩ (by rw [es, hM141, mm_up_s, hM125, mm_up_row (by decide), ← w1]) (by rw [hM141, mm_up_i (by decide), hM125, mm_up_row (by decide)]; exact w2) (by rw [hM141, mm_up_i (by decide), hM125, mm_up_row (by decide)]; exact w3) (fun j hj => by
            rw [er j (by omega)]
            by_cases cj : j = k
            · rw [cj, eA, ← hu]
              refine ⟨hT, fun a' t1 t2 => ?_⟩
              by_cases ca : (a : Int) ≤ a'
              · exact ca
              · exfalso
                have t0 := t1.1.1
                have e3 : ((a'.toNat : Nat) : Int) = a' := by omega
                have nq := hq a'.toNat (by omega)
                rw [e3] at nq
                exact nq ((iff2 a' t1.1).mpr ⟨t1, by rw [hleft]; exact t2⟩)
            · rw [eA2 j cj]
              exact w4 j (by omega)) v run1.symm hvn ⟨u, hRk, htt⟩ (by rw [show N - (k + 1) = left by omega]; rw [hv] at hTD; exact hTD)
          rw [show ((k + 1 : Nat) : Int) = (k : Int) + 1 by omega] at go
          exact mm_drop (by repeat (first | exact trivial | refine And.intro (Or.inl rfl) ?_ | refine And.intro (Or.inr rfl) ?_)) go
        · have c0 := cc 0 (Or.inr ⟨rfl, hy⟩)
          rw [el] at c0
          have go := ih2 (by
            by_cases c : a = x
            · rw [c] at hy; exact absurd hx2 hy
            · omega) (fun i hi => by
            by_cases c : i = a
            · rw [c]; exact hy
            · exact hq i (by omega))
          rw [show ((a + 1 : Nat) : Int) = (a : Int) + 1 by omega] at go
          refine mm_aload_n dX13_findActs_92 rfl rfl ?_
          refine mm_iload dX13_findActs_93 rfl rfl ?_
          refine mm_iload dX13_findActs_95 rfl rfl ?_
          refine mm_iload_n dX13_findActs_97 rfl rfl ?_
          refine mm_iload_n dX13_findActs_98 rfl rfl ?_
          refine mm_iload dX13_findActs_99 rfl rfl ?_
          refine mm_isub dX13_findActs_101 rfl ?_
          refine mm_iconst dX13_findActs_102 rfl ?_
          refine mm_isub dX13_findActs_103 rfl ?_
          refine mm_iload_n dX13_findActs_104 rfl rfl ?_
          refine mm_V5i dX13_findActs_105 rfl lk_X13_579 (c := 183) rfl (by decide) rfl (by simp) (by simp) (by simp) (by simp) (by simp) rfl rfl rfl (c0) ?_
          refine mm_ifne dX13_findActs_108 (by omega) (fun h => absurd h (by decide)) (fun _ => ?_)
          refine mm_iinc dX13_findActs_111 rfl rfl (Nat.le_of_ble_eq_true rfl) rfl ?_
          refine mm_goto dX13_findActs_114 ?_
          exact go
      have go := inner 0 (Nat.zero_le _) (fun i hi => absurd hi (by omega))
      refine mm_iload dX13_findActs_83 rfl rfl ?_
      refine mm_iload_n dX13_findActs_85 rfl rfl ?_
      refine mm_icge dX13_findActs_86 (by omega) (by omega) (fun h86 => ?_) (fun h86 => ?_)
      · exfalso; omega
      · refine mm_iconst dX13_findActs_89 rfl ?_
        refine mm_istore dX13_findActs_90 rfl (Nat.le_of_ble_eq_true rfl) rfl ?_
        exact go
    · have ek : k = N := by omega
      subst ek
      have e0 : kf_run K (b : Int) (P 213) k = (b : Int) := by
        rw [Nat.sub_self] at hDk
        have hDk : u = b := hDk
        rw [← hu, hDk]
      refine mm_iload dX13_findActs_83 rfl rfl ?_
      refine mm_iload_n dX13_findActs_85 rfl rfl ?_
      refine mm_icge dX13_findActs_86 (by omega) (by omega) (fun h86 => ?_) (fun h86 => ?_)
      · refine mm_vret dX13_findActs_160 rfl rfl ?_
        exact out P hG w1 w2 w3 w4 e0
      · exfalso; omega
  intro P hG w1 w2 w3
  exact main 0 (Nat.zero_le _) P hG w1 w2 w3 (fun j hj => absurd hj (by omega)) b rfl hb rfl hD
/-- what findActs leaves -/
def kz_A (M N : mm_M) (h : Int) : Prop := mm_Rf N ∧ (∀ a, a ≠ 183 → a ≠ 208 → a ≠ 209 → a ≠ 210 → a ≠ 211 → a ≠ 212 → a ≠ 213 → N a = M a) ∧ (∀ b, b ≠ 46 → b ≠ 47 → b ≠ 48 → N 183 b = M 183 b) ∧ 1 ≤ N 183 48 ∧
  kb_is (mm_rk M) (M 203) (M 204) h (N 183 48) (N 183 46) (N 213) (fun j => kf_run (mm_rk M) (N 183 47) (N 213) j)
theorem c_X13_findActs (hR : mm_Rf M) (hK : mm_KV (mm_rk M)) (hA : mm_RA M) (hh : ks_hr h) (hn : ks_n (mm_rk M) = (n : Int))
    (hP : ∀ x, x < 15 * n → ke_P (mm_rk M) (M 203) (M 204) h ((x / 15 : Nat) : Int) (x % 15) (mm_rk M 10).toNat (M 205 x) (M 206 x))
    (hS : ke_S (mm_rk M) n (M 205) (M 206)) (hbd : kw_bd n (M 183 39) (M 183 40)) (hm : kw_mean (ke_E (mm_rk M) n (M 205) (M 206)) (M 183 39) (M 183 40)) :
    mm_C X Y_X13_findActs 243 243 [(2, 184), (0, h)] M (fun r M' => r = (3, 0) ∧ mm_Rf M' ∧ kz_A M M' h) := by
  obtain ⟨Φ, hΦ⟩ : ∃ Φ : mm_V → mm_M → Prop, Φ = (fun r M' => r = (3, 0) ∧ mm_Rf M' ∧ kz_A M M' h) := ⟨_, rfl⟩
  rw [← hΦ]
  have hnb := ks_nb hK
  have hn1 : 1 ≤ n := by omega
  have hn2 : n ≤ 288 := by omega
  have hC : 0 < M 183 40 := by have := hm.1; omega
  obtain ⟨K, eK⟩ : ∃ K, K = mm_rk M := ⟨_, rfl⟩
  -- the rest, once levels and told steps stand
  have tail : ∀ Q, mm_Rf Q → (∀ a, a ≠ 208 → a ≠ 209 → a ≠ 210 → Q a = M a) → ky_B Q n → kz_K M Q (15 * n) → (∀ s, s < n → ky_Q Q Q s 15) → mm_J X Y_X13_findActs 243 243 243 17 [(2, 184), (0, h), (0, -1), (0, 1000000), (0, (0 : Int)), (9, 0), (9, 0)] [] Q Φ := by
    intro Q hRQ fQ hBQ hkQ hQQ
    obtain ⟨H, eH⟩ : ∃ H, H = Q 208 := ⟨_, rfl⟩
    have rkQ : mm_rk Q = mm_rk M := mm_rk.fr (fun a b q => by rw [fQ a (by omega) (by omega) (by omega)])
    have e183 : Q 183 = M 183 := fQ 183 (by decide) (by decide) (by decide)
    have e203 : Q 203 = M 203 := fQ 203 (by decide) (by decide) (by decide)
    have e204 : Q 204 = M 204 := fQ 204 (by decide) (by decide) (by decide)
    have e205 : Q 205 = M 205 := fQ 205 (by decide) (by decide) (by decide)
    have e206 : Q 206 = M 206 := fQ 206 (by decide) (by decide) (by decide)
    have hk : ∀ i, i < 15 * n → M 205 i = 1 → H (i / 15) + (M 183 40 * M 206 i - M 183 39) ≤ H (ke_T (mm_rk M) i) := by rw [eH]; exact hkQ
    obtain ⟨t, et⟩ : ∃ t, t = kb_t (mm_rk M) (M 203) (M 204) h H (M 183 39) (M 183 40) := ⟨_, rfl⟩
    have hMQ : ky_M Q n := by
      intro s hs
      obtain ⟨c, c1, c2, c3, -⟩ := hQQ s hs
      refine ⟨c, c1, c2, fun j hj => ?_⟩
      obtain ⟨i, i1, i2, i3, i4⟩ := c3 j hj
      have i3 := i3.1
      rw [e205] at i3
      refine ⟨ke_T (mm_rk Q) i, ?_, i4⟩
      rw [rkQ]
      exact (hS.t (i := i) (by omega) i3).2
    have tq : ky_r Q n = t := by
      funext u v
      apply propext
      rw [et, ke_tt hK hn hC hP hS hk]
      unfold ky_r
      constructor
      · rintro ⟨hu, j, j1, j2⟩
        obtain ⟨c, c1, c2, c3, c4⟩ := hQQ u hu
        obtain ⟨i, i1, i2, ⟨i3, i4⟩, i5⟩ := c3 j (by omega)
        rw [e205] at i3
        rw [e183, e206, rkQ, ← eH] at i4
        rw [rkQ] at i5
        exact ⟨hu, i, i1, i2, ⟨i3, i4⟩, by omega⟩
      · rintro ⟨hu, i, i1, i2, ⟨i3, i4⟩, i5⟩
        obtain ⟨c, c1, c2, c3, c4⟩ := hQQ u hu
        obtain ⟨j, j1, j2⟩ := c4 i i1 i2 ⟨by rw [e205]; exact i3, by rw [e183, e206, rkQ, ← eH]; exact i4⟩
        rw [rkQ, ← i5] at j2
        exact ⟨hu, j, by omega, j2⟩
    have htn : ∀ u v, t u v → u < n ∧ v < n := by
      intro u v q
      rw [← tq] at q
      exact ⟨q.1, ky_M_lt hMQ _ _ q⟩
    obtain ⟨rb, rl, r1, r2, r3, r4⟩ := ke_round hK hn hC hP hS hk hm
    rw [← et] at r4
    have search : ∀ s : Nat, s ≤ n → ∀ P b m, ky_I Q P → kz_B t n s b m → mm_J X Y_X13_findActs 243 243 243 17 [(2, 184), (0, h), (0, b), (0, m), (0, (s : Int)), (9, 0), (9, 0)] [] P Φ := by
      refine mm_lp ?_
      intro s hs ih P b m hI hZ
      have hRP := hI.1
      have rkP : mm_rk P = mm_rk M := by rw [← rkQ]; exact mm_rk.fr (fun a b q => by rw [hI.2 a (by omega) (by omega)])
      have cn := c_X13_states (X := X) hRP
      rw [rkP, hn] at cn
      have hmb := hZ.b hn2
      by_cases hlt : s < n
      · have hMP : ky_M P n := by unfold ky_M; rw [hI.2 209 (by decide) (by decide), hI.2 210 (by decide) (by decide)]; exact hMQ
        have tP : ky_r P n = t := by rw [← tq]; unfold ky_r; rw [hI.2 209 (by decide) (by decide), hI.2 210 (by decide) (by decide)]
        have cr := c_X13_roundOf (X := X) (b := s) (m := m) hRP (by rw [rkP]; exact hn) hn2 hMP hlt hmb
        rw [tP] at cr
        refine mm_iload dX13_findActs_17 rfl rfl ?_
        refine mm_aload_n dX13_findActs_19 rfl rfl ?_
        refine mm_V0i dX13_findActs_20 rfl lk_X13_458 (c := 183) rfl (by decide) rfl  rfl rfl rfl (cn) ?_
        refine mm_icge dX13_findActs_23 (by omega) (by omega) (fun h23 => ?_) (fun h23 => ?_)
        · exfalso; omega
        · refine mm_aload_n dX13_findActs_26 rfl rfl ?_
          refine mm_iload dX13_findActs_27 rfl rfl ?_
          refine mm_iload_n dX13_findActs_29 rfl rfl ?_
          refine mm_V2g (M1 := P) dX13_findActs_30 rfl lk_X13_563 (c := 183) rfl (by decide) rfl (by simp) (by simp) rfl rfl rfl (cr) ?_
          rintro _ N30 ⟨x30, rfl, p30⟩
          change mm_J _ _ _ _ _ _ _ _ _ _
          have hR30 : mm_Rf N30 := p30.1
          have hx30 : 0 ≤ x30 ∧ x30 ≤ 1000000 := by rcases p30.2.2 with ⟨q, -⟩ | ⟨l, q, -, -, q2, -⟩ <;> omega
          refine mm_istore dX13_findActs_33 rfl (Nat.le_of_ble_eq_true rfl) rfl ?_
          refine mm_iload dX13_findActs_35 rfl rfl ?_
          refine mm_iload_n dX13_findActs_37 rfl rfl ?_
          refine mm_iclt dX13_findActs_38 (by omega) (by omega) (fun h38 => ?_) (fun h38 => ?_)
          · refine mm_iload dX13_findActs_44 rfl rfl ?_
            refine mm_istore_n dX13_findActs_46 rfl (Nat.le_of_ble_eq_true rfl) rfl ?_
            refine mm_iload dX13_findActs_47 rfl rfl ?_
            refine mm_istore_n dX13_findActs_49 rfl (Nat.le_of_ble_eq_true rfl) rfl ?_
            refine mm_iinc dX13_findActs_50 rfl rfl (Nat.le_of_ble_eq_true rfl) rfl ?_
            refine mm_goto dX13_findActs_53 ?_
            first
            | (have go := ih hlt N30 _ _ ⟨hR30, fun a a1 a2 => by rw [p30.2.1.2 a a1 a2]; exact hI.2 a a1 a2⟩ (hZ.step hn2 p30.2.2)
               rw [if_pos (by omega), if_pos (by omega), show ((s + 1 : Nat) : Int) = (s : Int) + 1 by omega] at go
               exact mm_drop (by repeat (first | exact trivial | refine And.intro (Or.inl rfl) ?_ | refine And.intro (Or.inr rfl) ?_)) go)
            | (have go := ih hlt N30 _ _ ⟨hR30, fun a a1 a2 => by rw [p30.2.1.2 a a1 a2]; exact hI.2 a a1 a2⟩ (hZ.step hn2 p30.2.2)
               rw [if_neg (by omega), if_neg (by omega), show ((s + 1 : Nat) : Int) = (s : Int) + 1 by omega] at go
               exact mm_drop (by repeat (first | exact trivial | refine And.intro (Or.inl rfl) ?_ | refine And.intro (Or.inr rfl) ?_)) go)
          · refine mm_goto dX13_findActs_41 ?_
            refine mm_iinc dX13_findActs_50 rfl rfl (Nat.le_of_ble_eq_true rfl) rfl ?_
            refine mm_goto dX13_findActs_53 ?_
            first
            | (have go := ih hlt N30 _ _ ⟨hR30, fun a a1 a2 => by rw [p30.2.1.2 a a1 a2]; exact hI.2 a a1 a2⟩ (hZ.step hn2 p30.2.2)
               rw [if_pos (by omega), if_pos (by omega), show ((s + 1 : Nat) : Int) = (s : Int) + 1 by omega] at go
               exact mm_drop (by repeat (first | exact trivial | refine And.intro (Or.inl rfl) ?_ | refine And.intro (Or.inr rfl) ?_)) go)
            | (have go := ih hlt N30 _ _ ⟨hR30, fun a a1 a2 => by rw [p30.2.1.2 a a1 a2]; exact hI.2 a a1 a2⟩ (hZ.step hn2 p30.2.2)
               rw [if_neg (by omega), if_neg (by omega), show ((s + 1 : Nat) : Int) = (s : Int) + 1 by omega] at go
               exact mm_drop (by repeat (first | exact trivial | refine And.intro (Or.inl rfl) ?_ | refine And.intro (Or.inr rfl) ?_)) go)
      · have es : s = n := by omega
        subst es
        rcases hZ with ⟨-, -, q⟩ | ⟨B, N, q1, q2, q3, q4, q5, q6, q7⟩
        · exact absurd r4 (q rb r1 rl r2 (by omega))
        · have hMP : ky_M P s := by unfold ky_M; rw [hI.2 209 (by decide) (by decide), hI.2 210 (by decide) (by decide)]; exact hMQ
          have tP : ky_r P s = t := by rw [← tq]; unfold ky_r; rw [hI.2 209 (by decide) (by decide), hI.2 210 (by decide) (by decide)]
          have cf := c_X13_findFar (X := X) (g := B) (m := N) hRP (by rw [rkP]; exact hn) hn2 hMP q3 (by omega)
          rw [tP] at cf
          rw [q1, q2]
          have fin : ∀ U, mm_Rf U → (∀ a, a ≠ 183 → a ≠ 211 → a ≠ 212 → U a = Q a) → (∀ b, b ≠ 46 → b ≠ 47 → b ≠ 48 → U 183 b = Q 183 b) → kd_F t B s N (U 211) → U 183 46 = 0 → U 183 47 = (B : Int) → U 183 48 = (N : Int) → mm_J X Y_X13_findActs 243 243 243 83 [(2, 184), (0, h), (0, (B : Int)), (0, (N : Int)), (0, (B : Int)), (0, (0 : Int)), (9, 0)] [] U Φ := by
            intro U hRU f1 f2 hF u1 u2 u3
            have rkU : mm_rk U = mm_rk M := by
              rw [← rkQ]
              exact mm_rk.fr (fun a b q => by
                by_cases c : a = 183
                · rw [c]; exact f2 b (by omega) (by omega) (by omega)
                · rw [f1 a c (by omega) (by omega)])
            rw [et] at hF q6 q7
            refine kz_acts (Q := U) (K := mm_rk M) (Lo := M 203) (Hi := M 204) (H := H) (f := U 211) (S := M 183 39) (C := M 183 40) (n := s) hK hh hn hn2 rkU (by rw [f1 203 (by decide) (by decide) (by decide), e203]) (by rw [f1 204 (by decide) (by decide) (by decide), e204]) (by rw [f1 208 (by decide) (by decide) (by decide), eH]) (by rw [f2 39 (by decide) (by decide) (by decide), e183]) (by rw [f2 40 (by decide) (by decide) (by decide), e183]) rfl ?_ ?_
              (ke_up hK hn hC hP hS hk) q3 q4 (by omega) q6 (fun l l1 l2 z => by rcases q7 B q3 l l1 z with w | w <;> omega) hF ?_ U ⟨hRU, fun _ _ _ => rfl, fun _ _ _ _ => rfl⟩ u1 u2 u3
            · unfold mm_RA at hA ⊢
              rw [f1 203 (by decide) (by decide) (by decide), e203, f1 204 (by decide) (by decide) (by decide), e204]
              exact hA
            · unfold ky_B at hBQ ⊢
              rw [f2 39 (by decide) (by decide) (by decide), f2 40 (by decide) (by decide) (by decide), f1 208 (by decide) (by decide) (by decide)]
              exact hBQ
            · intro P hG p1 p2 p3 p4 p5
              rw [hΦ]
              refine ⟨rfl, hG.1, hG.1, ?_, ?_, by rw [p3]; omega, ?_⟩
              · intro a a1 a2 a3 a4 a5 a6 a7
                rw [hG.2.1 a a1 a7, f1 a a1 a5 a6, fQ a a2 a3 a4]
              · intro b b1 b2 b3
                rw [hG.2.2 b b1 b2 b3, f2 b b1 b2 b3, e183]
              · rw [p1, p3]
                exact kb_of hK hC (ke_up hK hn hC hP hS hk) ⟨by omega, by omega⟩ q4 (by omega) p4 p5 (fun z z1 l l1 zD => q7 z (by have := z1.2; omega) l l1 zD) (fun j _ => by rw [p2])
          refine mm_iload dX13_findActs_17 rfl rfl ?_
          refine mm_aload_n dX13_findActs_19 rfl rfl ?_
          refine mm_V0i dX13_findActs_20 rfl lk_X13_458 (c := 183) rfl (by decide) rfl  rfl rfl rfl (cn) ?_
          refine mm_icge dX13_findActs_23 (by omega) (by omega) (fun h23 => ?_) (fun h23 => ?_)
          · refine mm_aload_n dX13_findActs_56 rfl rfl ?_
            refine mm_iload_n dX13_findActs_57 rfl rfl ?_
            refine mm_iload_n dX13_findActs_58 rfl rfl ?_
            refine mm_V2g (M1 := P) dX13_findActs_59 rfl lk_X13_566 (c := 183) rfl (by decide) rfl (by simp) (by simp) rfl rfl rfl (cf) ?_
            rintro _ N59 ⟨rfl, p59⟩
            change mm_J _ _ _ _ _ _ _ _ _ _
            have hR59 : mm_Rf N59 := p59.1
            refine mm_aload_n dX13_findActs_62 rfl rfl ?_
            refine mm_iconst dX13_findActs_63 rfl ?_
            refine mm_puti dX13_findActs_64 rfl fl_X13_570 (c := 183) rfl (by decide) rfl rfl (fun M64 hM64 => ?_)
            have hR64 : mm_Rf M64 := by rw [hM64]; exact hR59.up rfl
            refine mm_aload_n dX13_findActs_67 rfl rfl ?_
            refine mm_iload_n dX13_findActs_68 rfl rfl ?_
            refine mm_puti dX13_findActs_69 rfl fl_X13_573 (c := 183) rfl (by decide) rfl rfl (fun M69 hM69 => ?_)
            have hR69 : mm_Rf M69 := by rw [hM69]; exact hR64.up rfl
            refine mm_aload_n dX13_findActs_72 rfl rfl ?_
            refine mm_iload_n dX13_findActs_73 rfl rfl ?_
            refine mm_puti dX13_findActs_74 rfl fl_X13_576 (c := 183) rfl (by decide) rfl rfl (fun M74 hM74 => ?_)
            have hR74 : mm_Rf M74 := by rw [hM74]; exact hR69.up rfl
            refine mm_iload_n dX13_findActs_77 rfl rfl ?_
            refine mm_istore dX13_findActs_78 rfl (Nat.le_of_ble_eq_true rfl) rfl ?_
            refine mm_iconst dX13_findActs_80 rfl ?_
            refine mm_istore dX13_findActs_81 rfl (Nat.le_of_ble_eq_true rfl) rfl ?_
            refine fin _ hR74 ?_ ?_ ?_ ?_ ?_ ?_
            · intro a a1 a2 a3
              rw [hM74, mm_up_row a1, hM69, mm_up_row a1, hM64, mm_up_row a1, p59.2.1.2 a a2 a3, hI.2 a a2 a3]
            · intro b b1 b2 b3
              rw [hM74, mm_up_i b3, hM69, mm_up_i b2, hM64, mm_up_i b1, p59.2.1.2 183 (by decide) (by decide), hI.2 183 (by decide) (by decide)]
            · rw [hM74, mm_up_row (by decide), hM69, mm_up_row (by decide), hM64, mm_up_row (by decide)]; exact p59.2.2
            · rw [hM74, mm_up_i (by decide), hM69, mm_up_i (by decide), hM64, mm_up_s]
            · rw [hM74, mm_up_i (by decide), hM69, mm_up_s]
            · rw [hM74, mm_up_s]
          · exfalso; omega
    exact search 0 (Nat.zero_le _) Q (-1) 1000000 ⟨hRQ, fun _ _ _ => rfl⟩ (Or.inl ⟨rfl, rfl, fun s hs => absurd hs (by omega)⟩)
  refine mm_start (ls := [(2, 184), (0, h), (9, 0), (9, 0), (9, 0), (9, 0), (9, 0)]) rfl ?_
  refine mm_aload_n dX13_findActs_0 rfl rfl ?_
  refine mm_V0g (M1 := M) dX13_findActs_1 rfl lk_X13_557 (c := 183) rfl (by decide) rfl  rfl rfl rfl (c_X13_findHigh hR hn hn1 hn2 hS hbd hm) ?_
  rintro _ N1 ⟨rfl, p1⟩
  change mm_J _ _ _ _ _ _ _ _ _ _
  have hR1 : mm_Rf N1 := p1.1
  have f1 : ∀ a, a ≠ 208 → N1 a = M a := p1.2.1.2.1
  have rk1 : mm_rk N1 = mm_rk M := mm_rk.fr (fun a b q => by rw [f1 a (by omega)])
  have hS1 : ke_S (mm_rk N1) n (N1 205) (N1 206) := by rw [rk1, f1 205 (by decide), f1 206 (by decide)]; exact hS
  have hB1 : ky_B N1 n := by
    refine ⟨by rw [f1 183 (by decide)]; exact hbd, by rw [f1 183 (by decide)]; exact hC, fun v hv => ?_⟩
    obtain ⟨z1, pp, gg, mm, z2, z3, z4⟩ := p1.2.1.2.2 v hv
    exact ⟨z1, by rw [← z4]; exact kz_bd hS.n hS.b hn2 hbd hm z2 (by rw [z3]; exact hv)⟩
  refine mm_aload_n dX13_findActs_4 rfl rfl ?_
  refine mm_V0g (M1 := N1) dX13_findActs_5 rfl lk_X13_560 (c := 183) rfl (by decide) rfl  rfl rfl rfl (c_X13_findTight hR1 (by rw [rk1]; exact hn) hn2 hS1 hB1) ?_
  rintro _ N5 ⟨rfl, p5⟩
  change mm_J _ _ _ _ _ _ _ _ _ _
  have hR5 : mm_Rf N5 := p5.1
  refine mm_iconst dX13_findActs_8 rfl ?_
  refine mm_istore_n dX13_findActs_9 rfl (Nat.le_of_ble_eq_true rfl) rfl ?_
  refine mm_ldcw dX13_findActs_10 rfl kc_X13_543 ?_
  refine mm_istore_n dX13_findActs_13 rfl (Nat.le_of_ble_eq_true rfl) rfl ?_
  refine mm_iconst dX13_findActs_14 rfl ?_
  refine mm_istore dX13_findActs_15 rfl (Nat.le_of_ble_eq_true rfl) rfl ?_
  refine mm_drop (by repeat (first | exact trivial | refine And.intro (Or.inl rfl) ?_ | refine And.intro (Or.inr rfl) ?_)) (tail N5 hR5 ?_ ?_ ?_ ?_)
  · intro a a1 a2 a3; rw [p5.2.2.1 a a2 a3]; exact f1 a a1
  · unfold ky_B at hB1 ⊢
    rw [p5.2.2.1 183 (by decide) (by decide), p5.2.2.1 208 (by decide) (by decide)]; exact hB1
  · have := p1.2.2
    unfold kz_K at this ⊢
    rw [p5.2.2.1 208 (by decide) (by decide)]; exact this
  · intro s hs
    obtain ⟨c, c1, c2, c3, c4⟩ := p5.2.2.2 s hs
    have tf := ky_t.fr p5.2.2.1
    refine ⟨c, c1, c2, fun j hj => ?_, fun i i1 i2 i3 => ?_⟩
    · obtain ⟨i, i1, i2, i3, i4⟩ := c3 j hj
      exact ⟨i, i1, i2, (tf.2 i).mpr i3, by rw [tf.1]; exact i4⟩
    · rw [tf.1]
      exact c4 i i1 i2 ((tf.2 i).mp i3)
end

