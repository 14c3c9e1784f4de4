/-! GK.acts2 -/
section
/-! ===== the reference: findActs ===== -/
/-- the shortest round of the states up to s0 -/
def kz_B (t : Nat → Nat → Prop) (n s0 : Nat) (b m : Int) : Prop := (b = -1 ∧ m = 1000000 ∧ ∀ s, s < s0 → ∀ l : Nat, 1 ≤ l → (l : Int) < 1000000 → ¬ kd_D t s l s) ∨ ∃ B N : Nat, b = (B : Int) ∧ m = (N : Int) ∧ B < s0 ∧ 1 ≤ N ∧ N ≤ n ∧ kd_D t B N B ∧ ∀ s, s < s0 → ∀ l : Nat, 1 ≤ l → kd_D t s l s → N < l ∨ (N = l ∧ B ≤ s)
theorem kz_B.b {t : Nat → Nat → Prop} {n s0 : Nat} {b m : Int} (hn : n ≤ 288) (h : kz_B t n s0 b m) : 1 ≤ m ∧ m ≤ 1000000 := by
  rcases h with ⟨-, q, -⟩ | ⟨B, N, q1, q2, q3, q4, q5, -⟩ <;> omega
theorem kz_B.step {t : Nat → Nat → Prop} {n s0 : Nat} {b m x : Int} (hn : n ≤ 288) (h : kz_B t n s0 b m) (hx : kQ_A t n s0 m x) : kz_B t n (s0 + 1) (if x < m then (s0 : Int) else b) (if x < m then x else m) := by
  have hb := h.b hn
  rcases hx with ⟨x1, x2⟩ | ⟨l, x1, x2, x3, x4, x5, x6⟩
  · rw [if_neg (by omega), if_neg (by omega)]
    rcases h with ⟨q1, q2, q3⟩ | ⟨B, N, q1, q2, q3, q4, q5, q6, q7⟩
    · refine Or.inl ⟨q1, q2, fun s hs l l1 l2 => ?_⟩
      by_cases c : s = s0
      · rw [c]; exact x2 l l1 (by omega)
      · exact q3 s (by omega) l l1 l2
    · refine Or.inr ⟨B, N, q1, q2, by omega, q4, q5, q6, fun s hs l l1 hD => ?_⟩
      by_cases c : s = s0
      · rw [c] at hD ⊢
        have : ¬ (l : Int) < m := fun z => x2 l l1 z hD
        omega
      · exact q7 s (by omega) l l1 hD
  · rw [if_pos (by omega), if_pos (by omega)]
    refine Or.inr ⟨s0, l, rfl, x1, by omega, x2, x4, x5, fun s hs l' l1 hD => ?_⟩
    by_cases c : s = s0
    · rw [c] at hD ⊢
      have : ¬ l' < l := fun z => x6 l' l1 z hD
      omega
    · rcases h with ⟨q1, q2, q3⟩ | ⟨B, N, q1, q2, q3, q4, q5, q6, q7⟩
      · have : ¬ (l' : Int) < 1000000 := fun z => q3 s (by omega) l' l1 z hD
        omega
      · rcases q7 s (by omega) l' l1 hD with z | z <;> omega
section
variable {X : mm_X} {M : mm_M} {h : Int} {n : Nat}
/-- the acts are written: what was there else is as it was -/
def kz_G (Q P : mm_M) : Prop := mm_Rf P ∧ (∀ a, a ≠ 183 → a ≠ 213 → P a = Q a) ∧ ∀ b, b ≠ 46 → b ≠ 47 → b ≠ 48 → P 183 b = Q 183 b
theorem kz_G.k {Q P : mm_M} (g : kz_G Q P) : mm_rk P = mm_rk Q := mm_rk.fr (fun a b q => by
  by_cases c : a = 183
  · rw [c]; exact g.2.2 b (by omega) (by omega) (by omega)
  · rw [g.2.1 a c (by omega)])
theorem kz_acts {Q : mm_M} {K Lo Hi H f : Nat → Int} {S C : Int} {b N : Nat} (hK : mm_KV K) (hh : ks_hr h) (hn : ks_n K = (n : Int)) (hn2 : n ≤ 288)
    (eK : mm_rk Q = K) (eL : Q 203 = Lo) (eU : Q 204 = Hi) (eH : Q 208 = H) (eS : Q 183 39 = S) (eC : Q 183 40 = C) (eF : Q 211 = f) (hA : mm_RA Q) (hB : ky_B Q n)
    (hup : ∀ u v w, kb_E K Lo Hi h u v w → H u + (C * w - S) ≤ H v) (hb : b < n) (h1 : 1 ≤ N) (h2 : N ≤ 288) (hD : kd_D (kb_t K Lo Hi h H S C) b N b) (hno : ∀ l : Nat, 1 ≤ l → l < N → ¬ kd_D (kb_t K Lo Hi h H S C) b l b)
    (hF : kd_F (kb_t K Lo Hi h H S C) b n N f) {Φ : mm_V → mm_M → Prop}
    (out : ∀ P, kz_G Q P → P 183 46 = kb_sm K Lo Hi h (b : Int) (P 213) N → P 183 47 = (b : Int) → P 183 48 = (N : Int) → (∀ j, j < N → kb_T K Lo Hi h H S C (kf_run K (b : Int) (P 213) j) (P 213 j) ∧ ∀ a, kb_T K Lo Hi h H S C (kf_run K (b : Int) (P 213) j) a → kd_D (kb_t K Lo Hi h H S C) b (N - j - 1) (ks_to K (kf_run K (b : Int) (P 213) j) a).toNat → P 213 j ≤ a) → kf_run K (b : Int) (P 213) N = (b : Int) → Φ (3, 0) P) :
    ∀ P, kz_G Q P → P 183 46 = 0 → P 183 47 = (b : Int) → P 183 48 = (N : Int) → mm_J X Y_X13_findActs 243 243 243 83 [(2, 184), (0, h), (0, (b : Int)), (0, (N : Int)), (0, (b : Int)), (0, (0 : Int)), (9, 0)] [] P Φ := by
  have h10 : 1 ≤ K 10 ∧ K 10 ≤ 3 := by
    obtain ⟨-, -, -, -, -, -, -, -, -, -, q, -⟩ := hK
    exact q
  have hfb : ∀ v, v < n → 0 ≤ f v ∧ f v ≤ 1000000 := by
    intro v hv
    rcases hF v hv with q | ⟨d, d1, d2, d3, -⟩ <;> omega
  have hlt : ∀ u v, kb_t K Lo Hi h H S C u v → v < n := by
    rintro u v ⟨hu, a, ⟨a1, a2, -⟩, a4⟩
    have := ks_to_st hK hu a2.1
    rw [a4] at this
    omega
  have main : ∀ k : Nat, k ≤ N → ∀ P, kz_G Q P → P 183 46 = kb_sm K Lo Hi h (b : Int) (P 213) k → P 183 47 = (b : Int) → P 183 48 = (N : Int) →
      (∀ j, j < k → kb_T K Lo Hi h H S C (kf_run K (b : Int) (P 213) j) (P 213 j) ∧ ∀ a, kb_T K Lo Hi h H S C (kf_run K (b : Int) (P 213) j) a → kd_D (kb_t K Lo Hi h H S C) b (N - j - 1) (ks_to K (kf_run K (b : Int) (P 213) j) a).toNat → P 213 j ≤ a) →
      ∀ u : Nat, (u : Int) = kf_run K (b : Int) (P 213) k → u < n → kd_R (kb_t K Lo Hi h H S C) b k u → kd_D (kb_t K Lo Hi h H S C) b (N - k) u →
      mm_J X Y_X13_findActs 243 243 243 83 [(2, 184), (0, h), (0, (b : Int)), (0, (N : Int)), (0, (u : Int)), (0, (k : Int)), (9, 0)] [] P Φ := by
    refine mm_lp ?_
    intro k hk ih P hG w1 w2 w3 w4 u hu hun hRk hDk
    have hRP := hG.1
    by_cases hlt2 : k < N
    · obtain ⟨left, hleft⟩ : ∃ left, left = N - k - 1 := ⟨_, rfl⟩
      have hst : ks_st K (u : Int) := ⟨by omega, by omega⟩
      have ePK : mm_rk P = K := by rw [hG.k, eK]
      have ePL : P 203 = Lo := by rw [hG.2.1 203 (by decide) (by decide), eL]
      have ePU : P 204 = Hi := by rw [hG.2.1 204 (by decide) (by decide), eU]
      have ePH : P 208 = H := by rw [hG.2.1 208 (by decide) (by decide), eH]
      have ePF : P 211 = f := by rw [hG.2.1 211 (by decide) (by decide), eF]
      have ePS : P 183 39 = S := by rw [hG.2.2 39 (by decide) (by decide) (by decide), eS]
      have ePC : P 183 40 = C := by rw [hG.2.2 40 (by decide) (by decide) (by decide), eC]
      have hAP : mm_RA P := by unfold mm_RA; rw [ePL, ePU, ← eL, ← eU]; exact hA
      have hBP : ky_B P n := by unfold ky_B; rw [ePS, ePC, ePH, ← eS, ← eC, ← eH]; exact hB
      -- an act goes on just when it keeps the level and leads to where the round is closed in what is left
      have iff2 : ∀ a, ks_ac K a → (ky_n P h u a (left : Int) (b : Int) ↔ kb_T K Lo Hi h H S C (u : Int) a ∧ kd_D (kb_t K Lo Hi h H S C) b left (ks_to K (u : Int) a).toNat) := by
        intro a a1
        unfold ky_n
        rw [ePK, ePL, ePU, ePH, ePF, ePS, ePC]
        have far : ks_safe K Lo Hi (u : Int) a h → H u + (C * ks_sure K Lo Hi (u : Int) a h - S) = H (ks_to K (u : Int) a).toNat → ((if (left : Int) = 0 then ks_to K (u : Int) a = (b : Int) else f (ks_to K (u : Int) a).toNat = (left : Int)) ↔ kd_D (kb_t K Lo Hi h H S C) b left (ks_to K (u : Int) a).toNat) := by
          intro a2 a3
          have tst := ks_to_st hK hst a2.1
          obtain ⟨v, hv⟩ : ∃ v : Nat, ks_to K (u : Int) a = (v : Int) := ⟨(ks_to K (u : Int) a).toNat, by omega⟩
          have hvn : v < n := by omega
          have htt : kb_t K Lo Hi h H S C u v := ⟨hst, a, ⟨a1, a2, a3⟩, hv⟩
          rw [hv, show ((v : Int)).toNat = v by omega]
          by_cases l0 : left = 0
          · rw [if_pos (by omega), l0]
            constructor
            · intro q
              show v = b
              omega
            · intro q
              have q : v = b := q
              omega
          · rw [if_neg (by omega)]
            constructor
            · intro q
              rcases hF v hvn with ⟨z, -⟩ | ⟨d, d1, d2, d3, d4, -⟩
              · omega
              · have : d = left := by omega
                rw [← this]; exact d4
            · intro q
              rcases hF v hvn with ⟨-, z⟩ | ⟨d, d1, d2, d3, d4, d5⟩
              · exact absurd q (z left (by omega) (by omega))
              · by_cases c : d = left
                · rw [d1, c]
                · exfalso
                  have dl : d < left := by
                    by_cases c2 : d < left
                    · exact c2
                    · exact absurd q (d5 left (by omega) (by omega))
                  have rr : kd_R (kb_t K Lo Hi h H S C) b (k + 1) v := ⟨u, hRk, htt⟩
                  exact hno (k + 1 + d) (by omega) (by omega) (kd_RD (k + 1) d v rr d4)
        constructor
        · rintro ⟨a2, a3, a4⟩
          exact ⟨⟨a1, a2, a3⟩, (far a2 a3).mp a4⟩
        · rintro ⟨⟨-, a2, a3⟩, a4⟩
          exact ⟨a2, a3, (far a2 a3).mpr a4⟩
      obtain ⟨x, hx1, hx2⟩ : ∃ x : Nat, ks_ac K (x : Int) ∧ ky_n P h u (x : Int) (left : Int) (b : Int) := by
        have e : N - k = left + 1 := by omega
        rw [e] at hDk
        obtain ⟨v, ⟨-, a, a1, a2⟩, v2⟩ := hDk
        have ha := a1.1
        refine ⟨a.toNat, ⟨by omega, by omega⟩, ?_⟩
        rw [show ((a.toNat : Nat) : Int) = a by omega]
        exact (iff2 a ha).mpr ⟨a1, by rw [a2, show ((v : Int)).toNat = v by omega]; exact v2⟩
      have inner : ∀ a : Nat, a ≤ x → (∀ i : Nat, i < a → ¬ ky_n P h u (i : Int) (left : Int) (b : Int)) → mm_J X Y_X13_findActs 243 243 243 92 [(2, 184), (0, h), (0, (b : Int)), (0, (N : Int)), (0, (u : Int)), (0, (k : Int)), (0, (a : Int))] [] P Φ := by
        refine mm_lp ?_
        intro a hax ih2 hq
        have ha : ks_ac K (a : Int) := ⟨by omega, by have := hx1.2; omega⟩
        have haP : ks_ac (mm_rk P) (a : Int) := by rw [ePK]; exact ha
        have cc := fun z hz => c_X13_isNext (X := X) (M := P) (n := n) (s := u) (a := (a : Int)) (h := h) (left := (left : Int)) (goal := (b : Int)) (b := z) hRP (by rw [ePK]; exact hK) hAP hh (by rw [ePK]; exact hn) hBP hun haP (by omega) (by unfold mm_R; omega) (by rw [ePF]; exact hfb) hz
        have el : (left : Int) = (N : Int) - (k : Int) - 1 := by omega
        by_cases hy : ky_n P h u (a : Int) (left : Int) (b : Int)
        · have c1 := cc 1 (Or.inl ⟨rfl, hy⟩)
          rw [el] at c1
          obtain ⟨hT, hTD⟩ := (iff2 _ ha).mp hy
          have tst := ks_to_st hK hst hT.2.1.1
          obtain ⟨v, hv⟩ : ∃ v : Nat, ks_to K (u : Int) (a : Int) = (v : Int) := ⟨(ks_to K (u : Int) (a : Int)).toNat, by omega⟩
          have hvn : v < n := by omega
          have htt : kb_t K Lo Hi h H S C u v := ⟨hst, (a : Int), hT, hv⟩
          have gb := ks_sureb (Lo := Lo) (Hi := Hi) (s := (u : Int)) (hr := h) hK ha (by have := (hAP.wi (by rw [ePK]; exact hK) (by rw [ePK]; exact hst) hh).1; rw [ePL, ePK] at this; exact this) (by have := (hAP.wi (by rw [ePK]; exact hK) (by rw [ePK]; exact hst) hh).2; rw [ePU, ePK] at this; exact this)
          have smb : -5800000 * (k : Int) ≤ kb_sm K Lo Hi h (b : Int) (P 213) k ∧ kb_sm K Lo Hi h (b : Int) (P 213) k ≤ 5800000 * (k : Int) := by
            have := ka_sumb (f := kj_g K Lo Hi (b : Int) h (P 213)) (B := 5800000) (n := k) (fun j hj => by
              have q := (w4 j hj).1
              have sj : ks_st K (kf_run K (b : Int) (P 213) j) := by
                clear ih ih2 w1 w2 w3 iff2 hq cc c1
                induction j with
                | zero => exact ⟨by show (0 : Int) ≤ (b : Int); omega, by show (b : Int) < _; omega⟩
                | succ j jh => exact ks_to_st hK (jh (by omega) (w4 j (by omega)).1) (w4 j (by omega)).1.2.1.1
              have sP : ks_st (mm_rk P) (kf_run K (b : Int) (P 213) j) := by rw [ePK]; exact sj
              have z := hAP.wi (by rw [ePK]; exact hK) sP hh
              rw [ePL, ePU, ePK] at z
              have := ks_sureb (Lo := Lo) (Hi := Hi) (hr := h) hK q.1 z.1 z.2
              exact this)
            unfold kb_sm
            omega
          refine mm_aload_n dX13_findActs_92 rfl rfl ?_
          refine mm_iload dX13_findActs_93 rfl rfl ?_
          refine mm_iload dX13_findActs_95 rfl rfl ?_
          refine mm_iload_n dX13_findActs_97 rfl rfl ?_
          refine mm_iload_n dX13_findActs_98 rfl rfl ?_
          refine mm_iload dX13_findActs_99 rfl rfl ?_
          refine mm_isub dX13_findActs_101 rfl ?_
          refine mm_iconst dX13_findActs_102 rfl ?_
          refine mm_isub dX13_findActs_103 rfl ?_
          refine mm_iload_n dX13_findActs_104 rfl rfl ?_
          refine mm_V5i dX13_findActs_105 rfl lk_X13_579 (c := 183) rfl (by decide) rfl (by simp) (by simp) (by simp) (by simp) (by simp) rfl rfl rfl (c1) ?_
          refine mm_ifne dX13_findActs_108 (by omega) (fun _ => ?_) (fun h => absurd h (by decide))
          refine mm_aload_n dX13_findActs_117 rfl rfl ?_
          refine mm_getr dX13_findActs_118 rfl fl_X13_286 (c := 183) rfl (by decide) rfl rfl (hRP.at (c := 183) (i := 49) (v := 214) rfl (by decide)) ?_
          refine mm_iload dX13_findActs_121 rfl rfl ?_
          refine mm_iload dX13_findActs_123 rfl rfl ?_
          refine mm_istk (k0 := k) dX13_findActs_125 rfl (c := 213) rfl (by decide) rfl (by omega) (by omega) (fun M125 hM125 => ?_)
          have hR125 : mm_Rf M125 := by rw [hM125]; exact hRP.up (mm_rt_ar (t := 0) rfl (by decide))
          refine mm_aload_n dX13_findActs_126 rfl rfl ?_
          refine mm_dup dX13_findActs_127 rfl (by simp) ?_
          refine mm_get (kd := 0) dX13_findActs_128 rfl fl_X13_570 (c := 183) rfl (by decide) rfl rfl ?_
          refine mm_aload_n dX13_findActs_131 rfl rfl ?_
          refine mm_iload dX13_findActs_132 rfl rfl ?_
          refine mm_iload dX13_findActs_134 rfl rfl ?_
          refine mm_iload_n dX13_findActs_136 rfl rfl ?_
          refine mm_V3i dX13_findActs_137 rfl lk_X13_514 (c := 183) rfl (by decide) rfl (by simp) (by simp) (by simp) rfl rfl rfl ((by have e1 : mm_rk M125 = mm_rk P := mm_rk.fr (fun x y q => by rw [hM125, mm_up_row (by omega)]); have e2 : mm_RA M125 := (by unfold mm_RA at hAP ⊢; rw [hM125, mm_up_row (by decide), mm_up_row (by decide)]; exact hAP); have := c_X13_surely (X := X) (M := M125) (s := (u : Int)) (a := (a : Int)) (h := h) hR125 (by rw [e1, ePK]; exact hK) e2 (by rw [e1, ePK]; exact hst) (by rw [e1, ePK]; exact ha) hh; rw [e1, ePK, show M125 203 = Lo by rw [hM125, mm_up_row (by decide), ePL], show M125 204 = Hi by rw [hM125, mm_up_row (by decide), ePU]] at this; exact this)) ?_
          refine mm_iadd dX13_findActs_140 rfl ?_
          refine mm_puti dX13_findActs_141 rfl fl_X13_570 (c := 183) rfl (by decide) rfl rfl (fun M141 hM141 => ?_)
          have hR141 : mm_Rf M141 := by rw [hM141]; exact hR125.up rfl
          refine mm_aload_n dX13_findActs_144 rfl rfl ?_
          refine mm_iload dX13_findActs_145 rfl rfl ?_
          refine mm_iload dX13_findActs_147 rfl rfl ?_
          refine mm_V2i dX13_findActs_149 rfl lk_X13_476 (c := 183) rfl (by decide) rfl (by simp) (by simp) rfl rfl rfl ((by have e1 : mm_rk M141 = mm_rk P := mm_rk.fr (fun x y q => by rw [hM141, mm_up_n (by omega), hM125, mm_up_row (by omega)]); have := c_X13_after (X := X) (M := M141) (s := (u : Int)) (a := (a : Int)) hR141 (by omega); rw [e1, ePK, hv] at this; exact this)) ?_
          refine mm_istore dX13_findActs_152 rfl (Nat.le_of_ble_eq_true rfl) rfl ?_
          refine mm_iinc dX13_findActs_154 rfl rfl (Nat.le_of_ble_eq_true rfl) rfl ?_
          refine mm_goto dX13_findActs_157 ?_
          have eA : M141 213 k = (a : Int) := by rw [hM141, mm_up_row (by decide), hM125, mm_up_s]
          have eA2 : ∀ j, j ≠ k → M141 213 j = P 213 j := fun j hj => by rw [hM141, mm_up_row (by decide), hM125, mm_up_i hj]
          have er : ∀ j, j ≤ k → kf_run K (b : Int) (M141 213) j = kf_run K (b : Int) (P 213) j := fun j hj => kf_run_congr rfl (fun i hi => eA2 i (by omega))
          have es : kb_sm K Lo Hi h (b : Int) (M141 213) (k + 1) = kb_sm K Lo Hi h (b : Int) (P 213) k + ks_sure K Lo Hi (u : Int) (a : Int) h := by
            show ka_sum (kj_g K Lo Hi (b : Int) h (M141 213)) k + kj_g K Lo Hi (b : Int) h (M141 213) k = _
            rw [ka_sum_congr (g := kj_g K Lo Hi (b : Int) h (P 213)) (fun j hj => by unfold kj_g; rw [er j (by omega), eA2 j (by omega)])]
            unfold kj_g
            rw [er k (Nat.le_refl k), eA, ← hu]
            rfl
          have run1 : kf_run K (b : Int) (M141 213) (k + 1) = (v : Int) := by
            show ks_to K (kf_run K (b : Int) (M141 213) k) (M141 213 k) = _
            rw [er k (Nat.le_refl k), eA, ← hu, hv]
          have go := ih hlt2 M141 ⟨hR141, fun x x1 x2 => by rw [hM141, mm_up_row x1, hM125, mm_up_row x2]; exact hG.2.1 x x1 x2, fun x x1 x2 x3 => by rw [hM141, mm_up_i x1, hM125, mm_up_row (by decide)]; exact hG.2.2 x x1 x2 x3⟩ (by rw [es, hM141, mm_up_s, hM125, mm_up_row (by decide), ← w1]) (by rw [hM141, mm_up_i (by decide), hM125, mm_up_row (by decide)]; exact w2) (by rw [hM141, mm_up_i (by decide), hM125, mm_up_row (by decide)]; exact w3) (fun j hj => by
            rw [er j (by omega)]
            by_cases cj : j = k
            · rw [cj, eA, ← hu]
              refine ⟨hT, fun a' t1 t2 => ?_⟩
              by_cases ca : (a : Int) ≤ a'
              · exact ca
              · exfalso
                have t0 := t1.1.1
                have e3 : ((a'.toNat : Nat) : Int) = a' := by omega
                have nq := hq a'.toNat (by omega)
                rw [e3] at nq
                exact nq ((iff2 a' t1.1).mpr ⟨t1, by rw [hleft]; exact t2⟩)
            · rw [eA2 j cj]
              exact w4 j (by omega)) v run1.symm hvn ⟨u, hRk, htt⟩ (by rw [show N - (k + 1) = left by omega]; rw [hv] at hTD; exact hTD)
          rw [show ((k + 1 : Nat) : Int) = (k : Int) + 1 by omega] at go
          exact mm_drop (by repeat (first | exact trivial | refine And.intro (Or.inl rfl) ?_ | refine And.intro (Or.inr rfl) ?_)) go
        · have c0 := cc 0 (Or.inr ⟨rfl, hy⟩)
          rw [el] at c0
          have go := ih2 (by
            by_cases c : a = x
            · rw [c] at hy; exact absurd hx2 hy
            · omega) (fun i hi => by
            by_cases c : i = a
            · rw [c]; exact hy
            · exact hq i (by omega))
          rw [show ((a + 1 : Nat) : Int) = (a : Int) + 1 by omega] at go
          refine mm_aload_n dX13_findActs_92 rfl rfl ?_
          refine mm_iload dX13_findActs_93 rfl rfl ?_
          refine mm_iload dX13_findActs_95 rfl rfl ?_
          refine mm_iload_n dX13_findActs_97 rfl rfl ?_
          refine mm_iload_n dX13_findActs_98 rfl rfl ?_
          refine mm_iload dX13_findActs_99 rfl rfl ?_
          refine mm_isub dX13_findActs_101 rfl ?_
          refine mm_iconst dX13_findActs_102 rfl ?_
          refine mm_isub dX13_findActs_103 rfl ?_
          refine mm_iload_n dX13_findActs_104 rfl rfl ?_
          refine mm_V5i dX13_findActs_105 rfl lk_X13_579 (c := 183) rfl (by decide) rfl (by simp) (by simp) (by simp) (by simp) (by simp) rfl rfl rfl (c0) ?_
          refine mm_ifne dX13_findActs_108 (by omega) (fun h => absurd h (by decide)) (fun _ => ?_)
          refine mm_iinc dX13_findActs_111 rfl rfl (Nat.le_of_ble_eq_true rfl) rfl ?_
          refine mm_goto dX13_findActs_114 ?_
          exact go
      have go := inner 0 (Nat.zero_le _) (fun i hi => absurd hi (by omega))
      refine mm_iload dX13_findActs_83 rfl rfl ?_
      refine mm_iload_n dX13_findActs_85 rfl rfl ?_
      refine mm_icge dX13_findActs_86 (by omega) (by omega) (fun h86 => ?_) (fun h86 => ?_)
      · exfalso; omega
      · refine mm_iconst dX13_findActs_89 rfl ?_
        refine mm_istore dX13_findActs_90 rfl (Nat.le_of_ble_eq_true rfl) rfl ?_
        exact go
    · have ek : k = N := by omega
      subst ek
      have e0 : kf_run K (b : Int) (P 213) k = (b : Int) := by
        rw [Nat.sub_self] at hDk
        have hDk : u = b := hDk
        rw [← hu, hDk]
      refine mm_iload dX13_findActs_83 rfl rfl ?_
      refine mm_iload_n dX13_findActs_85 rfl rfl ?_
      refine mm_icge dX13_findActs_86 (by omega) (by omega) (fun h86 => ?_) (fun h86 => ?_)
      · refine mm_vret dX13_findActs_160 rfl rfl ?_
        exact out P hG w1 w2 w3 w4 e0
      · exfalso; omega
  intro P hG w1 w2 w3
  exact main 0 (Nat.zero_le _) P hG w1 w2 w3 (fun j hj => absurd hj (by omega)) b rfl hb rfl hD
/-- what findActs leaves -/
def kz_A (M N : mm_M) (h : Int) : Prop := mm_Rf N ∧ (∀ a, a ≠ 183 → a ≠ 208 → a ≠ 209 → a ≠ 210 → a ≠ 211 → a ≠ 212 → a ≠ 213 → N a = M a) ∧ (∀ b, b ≠ 46 → b ≠ 47 → b ≠ 48 → N 183 b = M 183 b) ∧ 1 ≤ N 183 48 ∧
  kb_is (mm_rk M) (M 203) (M 204) h (N 183 48) (N 183 46) (N 213) (fun j => kf_run (mm_rk M) (N 183 47) (N 213) j)
theorem c_X13_findActs (hR : mm_Rf M) (hK : mm_KV (mm_rk M)) (hA : mm_RA M) (hh : ks_hr h) (hn : ks_n (mm_rk M) = (n : Int))
    (hP : ∀ x, x < 15 * n → ke_P (mm_rk M) (M 203) (M 204) h ((x / 15 : Nat) : Int) (x % 15) (mm_rk M 10).toNat (M 205 x) (M 206 x))
    (hS : ke_S (mm_rk M) n (M 205) (M 206)) (hbd : kw_bd n (M 183 39) (M 183 40)) (hm : kw_mean (ke_E (mm_rk M) n (M 205) (M 206)) (M 183 39) (M 183 40)) :
    mm_C X Y_X13_findActs 243 243 [(2, 184), (0, h)] M (fun r M' => r = (3, 0) ∧ mm_Rf M' ∧ kz_A M M' h) := by
  obtain ⟨Φ, hΦ⟩ : ∃ Φ : mm_V → mm_M → Prop, Φ = (fun r M' => r = (3, 0) ∧ mm_Rf M' ∧ kz_A M M' h) := ⟨_, rfl⟩
  rw [← hΦ]
  have hnb := ks_nb hK
  have hn1 : 1 ≤ n := by omega
  have hn2 : n ≤ 288 := by omega
  have hC : 0 < M 183 40 := by have := hm.1; omega
  obtain ⟨K, eK⟩ : ∃ K, K = mm_rk M := ⟨_, rfl⟩
  -- the rest, once levels and told steps stand
  have tail : ∀ Q, mm_Rf Q → (∀ a, a ≠ 208 → a ≠ 209 → a ≠ 210 → Q a = M a) → ky_B Q n → kz_K M Q (15 * n) → (∀ s, s < n → ky_Q Q Q s 15) → mm_J X Y_X13_findActs 243 243 243 17 [(2, 184), (0, h), (0, -1), (0, 1000000), (0, (0 : Int)), (9, 0), (9, 0)] [] Q Φ := by
    intro Q hRQ fQ hBQ hkQ hQQ
    obtain ⟨H, eH⟩ : ∃ H, H = Q 208 := ⟨_, rfl⟩
    have rkQ : mm_rk Q = mm_rk M := mm_rk.fr (fun a b q => by rw [fQ a (by omega) (by omega) (by omega)])
    have e183 : Q 183 = M 183 := fQ 183 (by decide) (by decide) (by decide)
    have e203 : Q 203 = M 203 := fQ 203 (by decide) (by decide) (by decide)
    have e204 : Q 204 = M 204 := fQ 204 (by decide) (by decide) (by decide)
    have e205 : Q 205 = M 205 := fQ 205 (by decide) (by decide) (by decide)
    have e206 : Q 206 = M 206 := fQ 206 (by decide) (by decide) (by decide)
    have hk : ∀ i, i < 15 * n → M 205 i = 1 → H (i / 15) + (M 183 40 * M 206 i - M 183 39) ≤ H (ke_T (mm_rk M) i) := by rw [eH]; exact hkQ
    obtain ⟨t, et⟩ : ∃ t, t = kb_t (mm_rk M) (M 203) (M 204) h H (M 183 39) (M 183 40) := ⟨_, rfl⟩
    have hMQ : ky_M Q n := by
      intro s hs
      obtain ⟨c, c1, c2, c3, -⟩ := hQQ s hs
      refine ⟨c, c1, c2, fun j hj => ?_⟩
      obtain ⟨i, i1, i2, i3, i4⟩ := c3 j hj
      have i3 := i3.1
      rw [e205] at i3
      refine ⟨ke_T (mm_rk Q) i, ?_, i4⟩
      rw [rkQ]
      exact (hS.t (i := i) (by omega) i3).2
    have tq : ky_r Q n = t := by
      funext u v
      apply propext
      rw [et, ke_tt hK hn hC hP hS hk]
      unfold ky_r
      constructor
      · rintro ⟨hu, j, j1, j2⟩
        obtain ⟨c, c1, c2, c3, c4⟩ := hQQ u hu
        obtain ⟨i, i1, i2, ⟨i3, i4⟩, i5⟩ := c3 j (by omega)
        rw [e205] at i3
        rw [e183, e206, rkQ, ← eH] at i4
        rw [rkQ] at i5
        exact ⟨hu, i, i1, i2, ⟨i3, i4⟩, by omega⟩
      · rintro ⟨hu, i, i1, i2, ⟨i3, i4⟩, i5⟩
        obtain ⟨c, c1, c2, c3, c4⟩ := hQQ u hu
        obtain ⟨j, j1, j2⟩ := c4 i i1 i2 ⟨by rw [e205]; exact i3, by rw [e183, e206, rkQ, ← eH]; exact i4⟩
        rw [rkQ, ← i5] at j2
        exact ⟨hu, j, by omega, j2⟩
    have htn : ∀ u v, t u v → u < n ∧ v < n := by
      intro u v q
      rw [← tq] at q
      exact ⟨q.1, ky_M_lt hMQ _ _ q⟩
    obtain ⟨rb, rl, r1, r2, r3, r4⟩ := ke_round hK hn hC hP hS hk hm
    rw [← et] at r4
    have search : ∀ s : Nat, s ≤ n → ∀ P b m, ky_I Q P → kz_B t n s b m → mm_J X Y_X13_findActs 243 243 243 17 [(2, 184), (0, h), (0, b), (0, m), (0, (s : Int)), (9, 0), (9, 0)] [] P Φ := by
      refine mm_lp ?_
      intro s hs ih P b m hI hZ
      have hRP := hI.1
      have rkP : mm_rk P = mm_rk M := by rw [← rkQ]; exact mm_rk.fr (fun a b q => by rw [hI.2 a (by omega) (by omega)])
      have cn := c_X13_states (X := X) hRP
      rw [rkP, hn] at cn
      have hmb := hZ.b hn2
      by_cases hlt : s < n
      · have hMP : ky_M P n := by unfold ky_M; rw [hI.2 209 (by decide) (by decide), hI.2 210 (by decide) (by decide)]; exact hMQ
        have tP : ky_r P n = t := by rw [← tq]; unfold ky_r; rw [hI.2 209 (by decide) (by decide), hI.2 210 (by decide) (by decide)]
        have cr := c_X13_roundOf (X := X) (b := s) (m := m) hRP (by rw [rkP]; exact hn) hn2 hMP hlt hmb
        rw [tP] at cr
        refine mm_iload dX13_findActs_17 rfl rfl ?_
        refine mm_aload_n dX13_findActs_19 rfl rfl ?_
        refine mm_V0i dX13_findActs_20 rfl lk_X13_458 (c := 183) rfl (by decide) rfl  rfl rfl rfl (cn) ?_
        refine mm_icge dX13_findActs_23 (by omega) (by omega) (fun h23 => ?_) (fun h23 => ?_)
        · exfalso; omega
        · refine mm_aload_n dX13_findActs_26 rfl rfl ?_
          refine mm_iload dX13_findActs_27 rfl rfl ?_
          refine mm_iload_n dX13_findActs_29 rfl rfl ?_
          refine mm_V2g (M1 := P) dX13_findActs_30 rfl lk_X13_563 (c := 183) rfl (by decide) rfl (by simp) (by simp) rfl rfl rfl (cr) ?_
          rintro _ N30 ⟨x30, rfl, p30⟩
          change mm_J _ _ _ _ _ _ _ _ _ _
          have hR30 : mm_Rf N30 := p30.1
          have hx30 : 0 ≤ x30 ∧ x30 ≤ 1000000 := by rcases p30.2.2 with ⟨q, -⟩ | ⟨l, q, -, -, q2, -⟩ <;> omega
          refine mm_istore dX13_findActs_33 rfl (Nat.le_of_ble_eq_true rfl) rfl ?_
          refine mm_iload dX13_findActs_35 rfl rfl ?_
          refine mm_iload_n dX13_findActs_37 rfl rfl ?_
          refine mm_iclt dX13_findActs_38 (by omega) (by omega) (fun h38 => ?_) (fun h38 => ?_)
          · refine mm_iload dX13_findActs_44 rfl rfl ?_
            refine mm_istore_n dX13_findActs_46 rfl (Nat.le_of_ble_eq_true rfl) rfl ?_
            refine mm_iload dX13_findActs_47 rfl rfl ?_
            refine mm_istore_n dX13_findActs_49 rfl (Nat.le_of_ble_eq_true rfl) rfl ?_
            refine mm_iinc dX13_findActs_50 rfl rfl (Nat.le_of_ble_eq_true rfl) rfl ?_
            refine mm_goto dX13_findActs_53 ?_
            first
            | (have go := ih hlt N30 _ _ ⟨hR30, fun a a1 a2 => by rw [p30.2.1.2 a a1 a2]; exact hI.2 a a1 a2⟩ (hZ.step hn2 p30.2.2)
               rw [if_pos (by omega), if_pos (by omega), show ((s + 1 : Nat) : Int) = (s : Int) + 1 by omega] at go
               exact mm_drop (by repeat (first | exact trivial | refine And.intro (Or.inl rfl) ?_ | refine And.intro (Or.inr rfl) ?_)) go)
            | (have go := ih hlt N30 _ _ ⟨hR30, fun a a1 a2 => by rw [p30.2.1.2 a a1 a2]; exact hI.2 a a1 a2⟩ (hZ.step hn2 p30.2.2)
               rw [if_neg (by omega), if_neg (by omega), show ((s + 1 : Nat) : Int) = (s : Int) + 1 by omega] at go
               exact mm_drop (by repeat (first | exact trivial | refine And.intro (Or.inl rfl) ?_ | refine And.intro (Or.inr rfl) ?_)) go)
          · refine mm_goto dX13_findActs_41 ?_
            refine mm_iinc dX13_findActs_50 rfl rfl (Nat.le_of_ble_eq_true rfl) rfl ?_
            refine mm_goto dX13_findActs_53 ?_
            first
            | (have go := ih hlt N30 _ _ ⟨hR30, fun a a1 a2 => by rw [p30.2.1.2 a a1 a2]; exact hI.2 a a1 a2⟩ (hZ.step hn2 p30.2.2)
               rw [if_pos (by omega), if_pos (by omega), show ((s + 1 : Nat) : Int) = (s : Int) + 1 by omega] at go
               exact mm_drop (by repeat (first | exact trivial | refine And.intro (Or.inl rfl) ?_ | refine And.intro (Or.inr rfl) ?_)) go)
            | (have go := ih hlt N30 _ _ ⟨hR30, fun a a1 a2 => by rw [p30.2.1.2 a a1 a2]; exact hI.2 a a1 a2⟩ (hZ.step hn2 p30.2.2)
               rw [if_neg (by omega), if_neg (by omega), show ((s + 1 : Nat) : Int) = (s : Int) + 1 by omega] at go
               exact mm_drop (by repeat (first | exact trivial | refine And.intro (Or.inl rfl) ?_ | refine And.intro (Or.inr rfl) ?_)) go)
      · have es : s = n := by omega
        subst es
        rcases hZ with ⟨-, -, q⟩ | ⟨B, N, q1, q2, q3, q4, q5, q6, q7⟩
        · exact absurd r4 (q rb r1 rl r2 (by omega))
        · have hMP : ky_M P s := by unfold ky_M; rw [hI.2 209 (by decide) (by decide), hI.2 210 (by decide) (by decide)]; exact hMQ
          have tP : ky_r P s = t := by rw [← tq]; unfold ky_r; rw [hI.2 209 (by decide) (by decide), hI.2 210 (by decide) (by decide)]
          have cf := c_X13_findFar (X := X) (g := B) (m := N) hRP (by rw [rkP]; exact hn) hn2 hMP q3 (by omega)
          rw [tP] at cf
          rw [q1, q2]
          have fin : ∀ U, mm_Rf U → (∀ a, a ≠ 183 → a ≠ 211 → a ≠ 212 → U a = Q a) → (∀ b, b ≠ 46 → b ≠ 47 → b ≠ 48 → U 183 b = Q 183 b) → kd_F t B s N (U 211) → U 183 46 = 0 → U 183 47 = (B : Int) → U 183 48 = (N : Int) → mm_J X Y_X13_findActs 243 243 243 83 [(2, 184), (0, h), (0, (B : Int)), (0, (N : Int)), (0, (B : Int)), (0, (0 : Int)), (9, 0)] [] U Φ := by
            intro U hRU f1 f2 hF u1 u2 u3
            have rkU : mm_rk U = mm_rk M := by
              rw [← rkQ]
              exact mm_rk.fr (fun a b q => by
                by_cases c : a = 183
                · rw [c]; exact f2 b (by omega) (by omega) (by omega)
                · rw [f1 a c (by omega) (by omega)])
            rw [et] at hF q6 q7
            refine kz_acts (Q := U) (K := mm_rk M) (Lo := M 203) (Hi := M 204) (H := H) (f := U 211) (S := M 183 39) (C := M 183 40) (n := s) hK hh hn hn2 rkU (by rw [f1 203 (by decide) (by decide) (by decide), e203]) (by rw [f1 204 (by decide) (by decide) (by decide), e204]) (by rw [f1 208 (by decide) (by decide) (by decide), eH]) (by rw [f2 39 (by decide) (by decide) (by decide), e183]) (by rw [f2 40 (by decide) (by decide) (by decide), e183]) rfl ?_ ?_
              (ke_up hK hn hC hP hS hk) q3 q4 (by omega) q6 (fun l l1 l2 z => by rcases q7 B q3 l l1 z with w | w <;> omega) hF ?_ U ⟨hRU, fun _ _ _ => rfl, fun _ _ _ _ => rfl⟩ u1 u2 u3
            · unfold mm_RA at hA ⊢
              rw [f1 203 (by decide) (by decide) (by decide), e203, f1 204 (by decide) (by decide) (by decide), e204]
              exact hA
            · unfold ky_B at hBQ ⊢
              rw [f2 39 (by decide) (by decide) (by decide), f2 40 (by decide) (by decide) (by decide), f1 208 (by decide) (by decide) (by decide)]
              exact hBQ
            · intro P hG p1 p2 p3 p4 p5
              rw [hΦ]
              refine ⟨rfl, hG.1, hG.1, ?_, ?_, by rw [p3]; omega, ?_⟩
              · intro a a1 a2 a3 a4 a5 a6 a7
                rw [hG.2.1 a a1 a7, f1 a a1 a5 a6, fQ a a2 a3 a4]
              · intro b b1 b2 b3
                rw [hG.2.2 b b1 b2 b3, f2 b b1 b2 b3, e183]
              · rw [p1, p3]
                exact kb_of hK hC (ke_up hK hn hC hP hS hk) ⟨by omega, by omega⟩ q4 (by omega) p4 p5 (fun z z1 l l1 zD => q7 z (by have := z1.2; omega) l l1 zD) (fun j _ => by rw [p2])
          refine mm_iload dX13_findActs_17 rfl rfl ?_
          refine mm_aload_n dX13_findActs_19 rfl rfl ?_
          refine mm_V0i dX13_findActs_20 rfl lk_X13_458 (c := 183) rfl (by decide) rfl  rfl rfl rfl (cn) ?_
          refine mm_icge dX13_findActs_23 (by omega) (by omega) (fun h23 => ?_) (fun h23 => ?_)
          · refine mm_aload_n dX13_findActs_56 rfl rfl ?_
            refine mm_iload_n dX13_findActs_57 rfl rfl ?_
            refine mm_iload_n dX13_findActs_58 rfl rfl ?_
            refine mm_V2g (M1 := P) dX13_findActs_59 rfl lk_X13_566 (c := 183) rfl (by decide) rfl (by simp) (by simp) rfl rfl rfl (cf) ?_
            rintro _ N59 ⟨rfl, p59⟩
            change mm_J _ _ _ _ _ _ _ _ _ _
            have hR59 : mm_Rf N59 := p59.1
            refine mm_aload_n dX13_findActs_62 rfl rfl ?_
            refine mm_iconst dX13_findActs_63 rfl ?_
            refine mm_puti dX13_findActs_64 rfl fl_X13_570 (c := 183) rfl (by decide) rfl rfl (fun M64 hM64 => ?_)
            have hR64 : mm_Rf M64 := by rw [hM64]; exact hR59.up rfl
            refine mm_aload_n dX13_findActs_67 rfl rfl ?_
            refine mm_iload_n dX13_findActs_68 rfl rfl ?_
            refine mm_puti dX13_findActs_69 rfl fl_X13_573 (c := 183) rfl (by decide) rfl rfl (fun M69 hM69 => ?_)
            have hR69 : mm_Rf M69 := by rw [hM69]; exact hR64.up rfl
            refine mm_aload_n dX13_findActs_72 rfl rfl ?_
            refine mm_iload_n dX13_findActs_73 rfl rfl ?_
            refine mm_puti dX13_findActs_74 rfl fl_X13_576 (c := 183) rfl (by decide) rfl rfl (fun M74 hM74 => ?_)
            have hR74 : mm_Rf M74 := by rw [hM74]; exact hR69.up rfl
            refine mm_iload_n dX13_findActs_77 rfl rfl ?_
            refine mm_istore dX13_findActs_78 rfl (Nat.le_of_ble_eq_true rfl) rfl ?_
            refine mm_iconst dX13_findActs_80 rfl ?_
            refine mm_istore dX13_findActs_81 rfl (Nat.le_of_ble_eq_true rfl) rfl ?_
            refine fin _ hR74 ?_ ?_ ?_ ?_ ?_ ?_
            · intro a a1 a2 a3
              rw [hM74, mm_up_row a1, hM69, mm_up_row a1, hM64, mm_up_row a1, p59.2.1.2 a a2 a3, hI.2 a a2 a3]
            · intro b b1 b2 b3
              rw [hM74, mm_up_i b3, hM69, mm_up_i b2, hM64, mm_up_i b1, p59.2.1.2 183 (by decide) (by decide), hI.2 183 (by decide) (by decide)]
            · rw [hM74, mm_up_row (by decide), hM69, mm_up_row (by decide), hM64, mm_up_row (by decide)]; exact p59.2.2
            · rw [hM74, mm_up_i (by decide), hM69, mm_up_i (by decide), hM64, mm_up_s]
            · rw [hM74, mm_up_i (by decide), hM69, mm_up_s]
            · rw [hM74, mm_up_s]
          · exfalso; omega
    exact search 0 (Nat.zero_le _) Q (-1) 1000000 ⟨hRQ, fun _ _ _ => rfl⟩ (Or.inl ⟨rfl, rfl, fun s hs => absurd hs (by omega)⟩)
  refine mm_start (ls := [(2, 184), (0, h), (9, 0), (9, 0), (9, 0), (9, 0), (9, 0)]) rfl ?_
  refine mm_aload_n dX13_findActs_0 rfl rfl ?_
  refine mm_V0g (M1 := M) dX13_findActs_1 rfl lk_X13_557 (c := 183) rfl (by decide) rfl  rfl rfl rfl (c_X13_findHigh hR hn hn1 hn2 hS hbd hm) ?_
  rintro _ N1 ⟨rfl, p1⟩
  change mm_J _ _ _ _ _ _ _ _ _ _
  have hR1 : mm_Rf N1 := p1.1
  have f1 : ∀ a, a ≠ 208 → N1 a = M a := p1.2.1.2.1
  have rk1 : mm_rk N1 = mm_rk M := mm_rk.fr (fun a b q => by rw [f1 a (by omega)])
  have hS1 : ke_S (mm_rk N1) n (N1 205) (N1 206) := by rw [rk1, f1 205 (by decide), f1 206 (by decide)]; exact hS
  have hB1 : ky_B N1 n := by
    refine ⟨by rw [f1 183 (by decide)]; exact hbd, by rw [f1 183 (by decide)]; exact hC, fun v hv => ?_⟩
    obtain ⟨z1, pp, gg, mm, z2, z3, z4⟩ := p1.2.1.2.2 v hv
    exact ⟨z1, by rw [← z4]; exact kz_bd hS.n hS.b hn2 hbd hm z2 (by rw [z3]; exact hv)⟩
  refine mm_aload_n dX13_findActs_4 rfl rfl ?_
  refine mm_V0g (M1 := N1) dX13_findActs_5 rfl lk_X13_560 (c := 183) rfl (by decide) rfl  rfl rfl rfl (c_X13_findTight hR1 (by rw [rk1]; exact hn) hn2 hS1 hB1) ?_
  rintro _ N5 ⟨rfl, p5⟩
  change mm_J _ _ _ _ _ _ _ _ _ _
  have hR5 : mm_Rf N5 := p5.1
  refine mm_iconst dX13_findActs_8 rfl ?_
  refine mm_istore_n dX13_findActs_9 rfl (Nat.le_of_ble_eq_true rfl) rfl ?_
  refine mm_ldcw dX13_findActs_10 rfl kc_X13_543 ?_
  refine mm_istore_n dX13_findActs_13 rfl (Nat.le_of_ble_eq_true rfl) rfl ?_
  refine mm_iconst dX13_findActs_14 rfl ?_
  refine mm_istore dX13_findActs_15 rfl (Nat.le_of_ble_eq_true rfl) rfl ?_
  refine mm_drop (by repeat (first | exact trivial | refine And.intro (Or.inl rfl) ?_ | refine And.intro (Or.inr rfl) ?_)) (tail N5 hR5 ?_ ?_ ?_ ?_)
  · intro a a1 a2 a3; rw [p5.2.2.1 a a2 a3]; exact f1 a a1
  · unfold ky_B at hB1 ⊢
    rw [p5.2.2.1 183 (by decide) (by decide), p5.2.2.1 208 (by decide) (by decide)]; exact hB1
  · have := p1.2.2
    unfold kz_K at this ⊢
    rw [p5.2.2.1 208 (by decide) (by decide)]; exact this
  · intro s hs
    obtain ⟨c, c1, c2, c3, c4⟩ := p5.2.2.2 s hs
    have tf := ky_t.fr p5.2.2.1
    refine ⟨c, c1, c2, fun j hj => ?_, fun i i1 i2 i3 => ?_⟩
    · obtain ⟨i, i1, i2, i3, i4⟩ := c3 j hj
      exact ⟨i, i1, i2, (tf.2 i).mpr i3, by rw [tf.1]; exact i4⟩
    · rw [tf.1]
      exact c4 i i1 i2 ((tf.2 i).mp i3)
end
end
/-! GL.rbest -/
section
/-! ===== the reference: best ===== -/
section
variable {X : mm_X} {M : mm_M} {h : Int} {n : Nat}
/-- a loop of acts is a loop of steps -/
theorem ke_of_lp {K Lo Hi F G : Nat → Int} (hK : mm_KV K) (hn : ks_n K = (n : Int)) (hP : ∀ x, x < 15 * n → ke_P K Lo Hi h ((x / 15 : Nat) : Int) (x % 15) (K 10).toNat (F x) (G x)) (hS : ke_S K n F G)
    {s : Int} {B : Nat → Int} {m : Nat} (hl : kb_lp K Lo Hi h s B m) : ∃ p g m, gL (ke_E K n F G) p g m := by
  have st := hl.st hK
  refine ⟨fun j => (kf_run K s B j).toNat, fun j => G (15 * (kf_run K s B j).toNat + (B j % 15).toNat), m, fun j hj => ?_, hl.1, ?_⟩
  · have q := st j (by omega)
    have q2 := st (j + 1) (by omega)
    obtain ⟨a1, a2⟩ := hl.2.2.1 j hj
    obtain ⟨u, hu⟩ : ∃ u : Nat, kf_run K s B j = (u : Int) := ⟨(kf_run K s B j).toNat, by have := q.1; omega⟩
    obtain ⟨x, hx⟩ : ∃ x : Nat, B j % 15 = (x : Int) := ⟨(B j % 15).toNat, by omega⟩
    have hun : u < n := by have := q.2; omega
    have e1 : (15 * u + x) / 15 = u := by omega
    have e2 : (15 * u + x) % 15 = x := by omega
    have p := hP (15 * u + x) (by omega)
    rw [e1, e2] at p
    rw [hu] at a2
    obtain ⟨f1, -⟩ := (ke_P_act hK rfl (by omega) p).1 (B j) a1 hx a2
    have stt := (hS.t (i := 15 * u + x) (by omega) f1).1
    rw [e1, e2, ← ks_to_m a1 hx] at stt
    have er : kf_run K s B (j + 1) = ks_to K (u : Int) (B j) := by show ks_to K (kf_run K s B j) (B j) = _; rw [hu]
    refine ⟨15 * u + x, by omega, f1, ?_, ?_, ?_⟩
    · show (kf_run K s B j).toNat = _
      rw [hu, e1]; omega
    · show (kf_run K s B (j + 1)).toNat = _
      rw [er, ← stt]; omega
    · show G (15 * (kf_run K s B j).toNat + (B j % 15).toNat) = _
      rw [hu, hx, show ((u : Int)).toNat = u by omega, show ((x : Int)).toNat = x by omega]
  · show (kf_run K s B m).toNat = (kf_run K s B 0).toNat
    rw [hl.2.2.2]; rfl
theorem kb_lp.acts {K Lo Hi : Nat → Int} {h s : Int} {A A' : Nat → Int} {n : Nat} (hA : ∀ j, j < n → A' j = A j) (hl : kb_lp K Lo Hi h s A n) : kb_lp K Lo Hi h s A' n ∧ kb_sm K Lo Hi h s A' n = kb_sm K Lo Hi h s A n := by
  have er : ∀ j, j ≤ n → kf_run K s A' j = kf_run K s A j := fun j hj => kf_run_congr rfl (fun i hi => hA i (by omega))
  refine ⟨⟨hl.1, hl.2.1, fun j hj => by rw [er j (by omega), hA j hj]; exact hl.2.2.1 j hj, by rw [er n (Nat.le_refl n)]; exact hl.2.2.2⟩, ?_⟩
  unfold kb_sm
  exact ka_sum_congr (fun j hj => by unfold kj_g; rw [er j (by omega), hA j hj])
theorem kb_is.acts {K Lo Hi : Nat → Int} {h w : Int} {N : Nat} {A A' T T' : Nat → Int} (q : kb_is K Lo Hi h (N : Int) w A T) (hA : ∀ j, j < N → A' j = A j) (hT : ∀ j, j < N → T' j = T j) : kb_is K Lo Hi h (N : Int) w A' T' := by
  rcases q with q | ⟨n, e, n2, l, w1, s1, m1⟩
  · exact Or.inl q
  · have en : N = n := by omega
    subst en
    have T0 : T' 0 = T 0 := hT 0 (by have := l.1; omega)
    obtain ⟨l2, w2⟩ := l.acts hA
    refine Or.inr ⟨N, rfl, n2, by rw [T0]; exact l2, by rw [T0, w2]; exact w1, fun j hj => ?_, fun s B m hB => ?_⟩
    · rw [T0, hT j hj, s1 j hj]
      exact (kf_run_congr rfl (fun i hi => hA i (by omega))).symm
    · have := m1 s B m hB
      unfold kb_le at this ⊢
      rw [T0]
      rcases this with z | ⟨z1, z2 | ⟨z2, z3 | ⟨z3, z4⟩⟩⟩
      · exact Or.inl z
      · exact Or.inr ⟨z1, Or.inl z2⟩
      · exact Or.inr ⟨z1, Or.inr ⟨z2, Or.inl z3⟩⟩
      · refine Or.inr ⟨z1, Or.inr ⟨z2, Or.inr ⟨z3, ?_⟩⟩⟩
        rcases z4 with y | ⟨j, y1, y2, y3⟩
        · exact Or.inl (fun j hj => by rw [hA j hj]; exact y j hj)
        · exact Or.inr ⟨j, y1, fun i hi => by rw [hA i (by omega)]; exact y2 i hi, by rw [hA j y1]; exact y3⟩
/-- what best leaves: only the cells of the search and of the best loop change -/
def kz_V (M N : mm_M) : Prop := mm_Rf N ∧ (∀ a, a ≠ 183 → ¬ (205 ≤ a ∧ a ≤ 214) → N a = M a) ∧ ∀ b, b ≠ 39 → b ≠ 40 → ¬ (46 ≤ b ∧ b ≤ 54) → N 183 b = M 183 b
theorem c_X13_best (hR : mm_Rf M) (hK : mm_KV (mm_rk M)) (hA : mm_RA M) (hr : mm_R h) (hn : ks_n (mm_rk M) = (n : Int)) :
    mm_C X Y_X13_best 243 243 [(2, 184), (0, h)] M (fun r M' => ∃ x, r = (0, x) ∧ mm_Rf M' ∧ kz_V M M' ∧
      ((¬ ks_hr h ∧ x = -2 ∧ (∀ b, 50 ≤ b → M' 183 b = M 183 b) ∧ M' 214 = M 214) ∨ (ks_hr h ∧ x = -1 ∧ (∀ b, 50 ≤ b → M' 183 b = M 183 b) ∧ M' 214 = M 214 ∧ ∀ s B m, ¬ kb_lp (mm_rk M) (M 203) (M 204) h s B m) ∨
       (ks_hr h ∧ x = M' 183 50 ∧ 1 ≤ x ∧ M' 183 54 = 1 ∧ kb_is (mm_rk M) (M 203) (M 204) h (M' 183 50) (M' 183 51) (M' 214) (fun j => kf_run (mm_rk M) (M' 183 52) (M' 214) j)))) := by
  obtain ⟨Ψ, hΨ⟩ : ∃ Ψ : Int → mm_M → Prop, Ψ = (fun x M' => kz_V M M' ∧
      ((¬ ks_hr h ∧ x = -2 ∧ (∀ b, 50 ≤ b → M' 183 b = M 183 b) ∧ M' 214 = M 214) ∨ (ks_hr h ∧ x = -1 ∧ (∀ b, 50 ≤ b → M' 183 b = M 183 b) ∧ M' 214 = M 214 ∧ ∀ s B m, ¬ kb_lp (mm_rk M) (M 203) (M 204) h s B m) ∨
       (ks_hr h ∧ x = M' 183 50 ∧ 1 ≤ x ∧ M' 183 54 = 1 ∧ kb_is (mm_rk M) (M 203) (M 204) h (M' 183 50) (M' 183 51) (M' 214) (fun j => kf_run (mm_rk M) (M' 183 52) (M' 214) j)))) := ⟨_, rfl⟩
  obtain ⟨Φ, hΦ⟩ : ∃ Φ : mm_V → mm_M → Prop, Φ = (fun r M' => ∃ x, r = (0, x) ∧ mm_Rf M' ∧ Ψ x M') := ⟨_, rfl⟩
  have hgoal : (fun r M' => ∃ x, r = (0, x) ∧ mm_Rf M' ∧ kz_V M M' ∧
      ((¬ ks_hr h ∧ x = -2 ∧ (∀ b, 50 ≤ b → M' 183 b = M 183 b) ∧ M' 214 = M 214) ∨ (ks_hr h ∧ x = -1 ∧ (∀ b, 50 ≤ b → M' 183 b = M 183 b) ∧ M' 214 = M 214 ∧ ∀ s B m, ¬ kb_lp (mm_rk M) (M 203) (M 204) h s B m) ∨
       (ks_hr h ∧ x = M' 183 50 ∧ 1 ≤ x ∧ M' 183 54 = 1 ∧ kb_is (mm_rk M) (M 203) (M 204) h (M' 183 50) (M' 183 51) (M' 214) (fun j => kf_run (mm_rk M) (M' 183 52) (M' 214) j)))) = Φ := by rw [hΦ, hΨ]
  rw [hgoal]
  have hnb := ks_nb hK
  have hn2 : n ≤ 288 := by omega
  -- the acts are told again
  have copy : ∀ Q, kz_V M Q → 1 ≤ Q 183 50 → Q 183 50 ≤ 288 → Q 183 48 = Q 183 50 → kb_is (mm_rk M) (M 203) (M 204) h (Q 183 50) (Q 183 51) (Q 213) (fun j => kf_run (mm_rk M) (Q 183 52) (Q 213) j) → ks_hr h →
      ∀ k : Nat, (k : Int) ≤ Q 183 50 → ∀ P, mm_Rf P → (∀ a, a ≠ 214 → P a = Q a) → (∀ j, j < k → P 214 j = Q 213 j) → mm_J X Y_X13_best 243 243 243 51 [(2, 184), (0, h), (0, (k : Int))] [] P Φ := by
    intro Q hQ q1 q2 q3 q4 hh
    obtain ⟨N, hN⟩ : ∃ N : Nat, Q 183 50 = (N : Int) := ⟨(Q 183 50).toNat, by omega⟩
    have main : ∀ k : Nat, k ≤ N → ∀ P, mm_Rf P → (∀ a, a ≠ 214 → P a = Q a) → (∀ j, j < k → P 214 j = Q 213 j) → mm_J X Y_X13_best 243 243 243 51 [(2, 184), (0, h), (0, (k : Int))] [] P Φ := by
      refine mm_lp ?_
      intro k hk ih P hRP f1 f2
      have e48 : P 183 48 = (N : Int) := by rw [f1 183 (by decide), q3, hN]
      have e50 : P 183 50 = (N : Int) := by rw [f1 183 (by decide), hN]
      by_cases hlt : k < N
      · refine mm_iload_n dX13_best_51 rfl rfl ?_
        refine mm_aload_n dX13_best_52 rfl rfl ?_
        refine mm_get (kd := 0) dX13_best_53 rfl fl_X13_576 (c := 183) rfl (by decide) rfl rfl ?_
        rw [e48]
        refine mm_icge dX13_best_56 (by omega) (by omega) (fun h56 => ?_) (fun h56 => ?_)
        · exfalso; omega
        · refine mm_aload_n dX13_best_59 rfl rfl ?_
          refine mm_getr dX13_best_60 rfl fl_X13_289 (c := 183) rfl (by decide) rfl rfl (hRP.at (c := 183) (i := 53) (v := 215) rfl (by decide)) ?_
          refine mm_iload_n dX13_best_63 rfl rfl ?_
          refine mm_aload_n dX13_best_64 rfl rfl ?_
          refine mm_getr dX13_best_65 rfl fl_X13_286 (c := 183) rfl (by decide) rfl rfl (hRP.at (c := 183) (i := 49) (v := 214) rfl (by decide)) ?_
          refine mm_iload_n dX13_best_68 rfl rfl ?_
          refine mm_ialk (k0 := k) dX13_best_69 rfl (c := 213) rfl (by decide) rfl (by omega) (by omega) ?_
          refine mm_istk (k0 := k) dX13_best_70 rfl (c := 214) rfl (by decide) rfl (by omega) (by omega) (fun M70 hM70 => ?_)
          have hR70 : mm_Rf M70 := by rw [hM70]; exact hRP.up (mm_rt_ar (t := 0) rfl (by decide))
          refine mm_iinc dX13_best_71 rfl rfl (Nat.le_of_ble_eq_true rfl) rfl ?_
          refine mm_goto dX13_best_74 ?_
          have go := ih hlt _ hR70 (fun a a1 => by rw [hM70, mm_up_row a1]; exact f1 a a1) (fun j hj => by
            by_cases c : j = k
            · rw [c, hM70, mm_up_s, f1 213 (by decide)]
            · rw [hM70, mm_up_i c]; exact f2 j (by omega))
          rw [show ((k + 1 : Nat) : Int) = (k : Int) + 1 by omega] at go
          exact go
      · have ek : k = N := by omega
        subst ek
        refine mm_iload_n dX13_best_51 rfl rfl ?_
        refine mm_aload_n dX13_best_52 rfl rfl ?_
        refine mm_get (kd := 0) dX13_best_53 rfl fl_X13_576 (c := 183) rfl (by decide) rfl rfl ?_
        rw [e48]
        refine mm_icge dX13_best_56 (by omega) (by omega) (fun h56 => ?_) (fun h56 => ?_)
        · refine mm_aload_n dX13_best_77 rfl rfl ?_
          refine mm_iconst dX13_best_78 rfl ?_
          refine mm_putz dX13_best_79 rfl fl_X13_598 (c := 183) rfl (by decide) rfl rfl (Or.inr rfl) (fun M79 hM79 => ?_)
          have hR79 : mm_Rf M79 := by rw [hM79]; exact hRP.up rfl
          refine mm_aload_n dX13_best_82 rfl rfl ?_
          refine mm_get (kd := 0) dX13_best_83 rfl fl_X13_589 (c := 183) rfl (by decide) rfl rfl ?_
          refine mm_iret dX13_best_86 rfl rfl ?_
          rw [hΦ]; refine ⟨_, rfl, hR79, ?_⟩
          rw [hΨ]
          have g1 : ∀ a, a ≠ 183 → a ≠ 214 → M79 a = Q a := fun a a1 a2 => by rw [hM79, mm_up_row a1]; exact f1 a a2
          have g2 : ∀ b, b ≠ 54 → M79 183 b = Q 183 b := fun b b1 => by rw [hM79, mm_up_i b1, f1 183 (by decide)]
          have g3 : M79 214 = P 214 := by rw [hM79, mm_up_row (by decide)]
          refine ⟨⟨hR79, fun a a1 a2 => by rw [g1 a a1 (by omega)]; exact hQ.2.1 a a1 a2, fun b b1 b2 b3 => by rw [g2 b (by omega)]; exact hQ.2.2 b b1 b2 b3⟩, Or.inr (Or.inr ⟨hh, rfl, by rw [g2 50 (by decide), hN]; omega, by rw [hM79, mm_up_s], ?_⟩)⟩
          rw [g2 50 (by decide), g2 51 (by decide), g2 52 (by decide), g3, hN]
          rw [hN] at q4
          refine kb_is.acts q4 (fun j hj => f2 j (by omega)) (fun j hj => kf_run_congr rfl (fun i hi => f2 i (by omega)))
        · exfalso; omega
    intro k hk
    exact main k (by omega)
  refine mm_start (ls := [(2, 184), (0, h), (9, 0)]) rfl ?_
  by_cases hh : ks_hr h
  · have ch := c_X13_isHour (X := X) (M := M) (x := h) hr
    rw [mm_b_t hh] at ch
    have cl := c_X13_findLoop (X := X) hR hK hA hh hn
    have zl : mm_C X Y_X13_findLoop 243 243 [(2, 184), (0, h)] M (fun r M' => ∃ x, r = (0, x) ∧ mm_Rf M' ∧ kw_L M M' h n ∧ ((x = 0 ∧ M' 183 40 = 0 ∧ ¬ ∃ p g m, gL (ke_E (mm_rk M) n (M' 205) (M' 206)) p g m) ∨ (x = 1 ∧ kw_mean (ke_E (mm_rk M) n (M' 205) (M' 206)) (M' 183 39) (M' 183 40)))) := by
      refine mm_C.mono cl ?_
      rintro r N ⟨q1, ⟨q2, q3⟩ | ⟨q2, q3⟩⟩
      · exact ⟨0, q2, q1.1, q1, Or.inl ⟨rfl, q3⟩⟩
      · exact ⟨1, q2, q1.1, q1, Or.inr ⟨rfl, q3⟩⟩
    have two : ∀ N, kw_L M N h n → kw_mean (ke_E (mm_rk M) n (N 205) (N 206)) (N 183 39) (N 183 40) → mm_C X Y_X13_findActs 243 243 [(2, 184), (0, h)] N (fun r M' => r = (3, 0) ∧ mm_Rf M' ∧ kz_A N M' h) := by
      rintro N ⟨l1, l2, l3, l4, l5, l6⟩ hm
      have rk : mm_rk N = mm_rk M := mm_rk.fr (fun a b q => by
        by_cases c : a = 183
        · rw [c]; exact l3 b (by omega) (by omega)
        · rw [l2 a c (by omega) (by omega) (by omega)])
      have e3 : N 203 = M 203 := l2 203 (by decide) (by decide) (by decide) (by decide)
      have e4 : N 204 = M 204 := l2 204 (by decide) (by decide) (by decide) (by decide)
      exact c_X13_findActs l1 (by rw [rk]; exact hK) (by unfold mm_RA at hA ⊢; rw [e3, e4]; exact hA) hh (by rw [rk]; exact hn) (by rw [rk, e3, e4]; exact l4) (by rw [rk]; exact l5) l6 (by rw [rk]; exact hm)
    refine mm_iload_n dX13_best_0 rfl rfl ?_
    refine mm_S1i dX13_best_1 rfl lk_X13_486 (by simp) rfl rfl rfl (ch) ?_
    refine mm_ifne dX13_best_4 (by omega) (fun _ => ?_) (fun h => absurd h (by decide))
    refine mm_aload_n dX13_best_10 rfl rfl ?_
    refine mm_iload_n dX13_best_11 rfl rfl ?_
    refine mm_V1g (M1 := M) dX13_best_12 rfl lk_X13_583 (c := 183) rfl (by decide) rfl (by simp) rfl rfl rfl (zl) ?_
    rintro _ N12 ⟨x12, rfl, p12⟩
    change mm_J _ _ _ _ _ _ _ _ _ _
    have hR12 : mm_Rf N12 := p12.1
    have hx12 : x12 = 0 ∨ x12 = 1 := by rcases p12.2.2 with ⟨z, -⟩ | ⟨z, -⟩ <;> omega
    refine mm_ifne dX13_best_15 (by omega) (fun h15 => ?_) (fun h15 => ?_)
    · refine mm_aload_n dX13_best_20 rfl rfl ?_
      refine mm_iload_n dX13_best_21 rfl rfl ?_
      refine mm_V1g (M1 := N12) dX13_best_22 rfl lk_X13_586 (c := 183) rfl (by decide) rfl (by simp) rfl rfl rfl (two N12 p12.2.1 (by rcases p12.2.2 with ⟨z, -⟩ | ⟨-, z⟩ <;> first | exact absurd z h15 | exact z)) ?_
      rintro _ N22 ⟨rfl, p22⟩
      change mm_J _ _ _ _ _ _ _ _ _ _
      have hR22 : mm_Rf N22 := p22.1
      refine mm_aload_n dX13_best_25 rfl rfl ?_
      refine mm_aload_n dX13_best_26 rfl rfl ?_
      refine mm_get (kd := 0) dX13_best_27 rfl fl_X13_576 (c := 183) rfl (by decide) rfl rfl ?_
      refine mm_puti dX13_best_30 rfl fl_X13_589 (c := 183) rfl (by decide) rfl rfl (fun M30 hM30 => ?_)
      have hR30 : mm_Rf M30 := by rw [hM30]; exact hR22.up rfl
      refine mm_aload_n dX13_best_33 rfl rfl ?_
      refine mm_aload_n dX13_best_34 rfl rfl ?_
      refine mm_get (kd := 0) dX13_best_35 rfl fl_X13_570 (c := 183) rfl (by decide) rfl rfl ?_
      refine mm_puti dX13_best_38 rfl fl_X13_592 (c := 183) rfl (by decide) rfl rfl (fun M38 hM38 => ?_)
      have hR38 : mm_Rf M38 := by rw [hM38]; exact hR30.up rfl
      refine mm_aload_n dX13_best_41 rfl rfl ?_
      refine mm_aload_n dX13_best_42 rfl rfl ?_
      refine mm_get (kd := 0) dX13_best_43 rfl fl_X13_573 (c := 183) rfl (by decide) rfl rfl ?_
      refine mm_puti dX13_best_46 rfl fl_X13_595 (c := 183) rfl (by decide) rfl rfl (fun M46 hM46 => ?_)
      have hR46 : mm_Rf M46 := by rw [hM46]; exact hR38.up rfl
      refine mm_iconst dX13_best_49 rfl ?_
      refine mm_istore_n dX13_best_50 rfl (Nat.le_of_ble_eq_true rfl) rfl ?_
      obtain ⟨l1, l2, l3, l4, l5, l6⟩ := p12.2.1
      obtain ⟨a1, a2, a3, a4, a5⟩ := p22.2
      have rk : mm_rk N12 = mm_rk M := mm_rk.fr (fun a b q => by
        by_cases c : a = 183
        · rw [c]; exact l3 b (by omega) (by omega)
        · rw [l2 a c (by omega) (by omega) (by omega)])
      rw [rk, l2 203 (by decide) (by decide) (by decide) (by decide), l2 204 (by decide) (by decide) (by decide) (by decide)] at a5
      have e50 : M46 183 50 = N22 183 48 := by rw [hM46, mm_up_i (by decide), hM38, mm_up_i (by decide), hM30, mm_up_s]
      have e51 : M46 183 51 = N22 183 46 := by rw [hM46, mm_up_i (by decide), hM38, mm_up_s, hM30, mm_up_i (by decide)]
      have e52 : M46 183 52 = N22 183 47 := by rw [hM46, mm_up_s, hM38, mm_up_i (by decide), hM30, mm_up_i (by decide)]
      have e48 : M46 183 48 = N22 183 48 := by rw [hM46, mm_up_i (by decide), hM38, mm_up_i (by decide), hM30, mm_up_i (by decide)]
      have eA : M46 213 = N22 213 := by rw [hM46, mm_up_row (by decide), hM38, mm_up_row (by decide), hM30, mm_up_row (by decide)]
      have len : N22 183 48 ≤ 288 := by
        rcases a5 with ⟨z, -⟩ | ⟨z, z1, z2, -⟩ <;> omega
      exact copy M46 ⟨hR46, fun a b1 b2 => by rw [hM46, mm_up_row b1, hM38, mm_up_row b1, hM30, mm_up_row b1, a2 a b1 (by omega) (by omega) (by omega) (by omega) (by omega) (by omega)]; exact l2 a b1 (by omega) (by omega) (by omega), fun b b1 b2 b3 => by rw [hM46, mm_up_i (by omega), hM38, mm_up_i (by omega), hM30, mm_up_i (by omega), a3 b (by omega) (by omega) (by omega)]; exact l3 b b1 b2⟩ (by rw [e50]; exact a4) (by rw [e50]; exact len) (by rw [e50, e48]) (by rw [e50, e51, e52, eA]; exact a5) hh 0 (by rw [e50]; omega) M46 hR46 (fun _ _ => rfl) (fun j hj => absurd hj (by omega))
    · refine mm_iconst dX13_best_18 rfl ?_
      refine mm_iret dX13_best_19 rfl rfl ?_
      have hno : ¬ ∃ p g m, gL (ke_E (mm_rk M) n (N12 205) (N12 206)) p g m := by
        rcases p12.2.2 with ⟨-, -, z⟩ | ⟨z, -⟩
        · exact z
        · exfalso; omega
      rw [hΦ]; refine ⟨_, rfl, hR12, ?_⟩
      rw [hΨ]
      obtain ⟨l1, l2, l3, l4, l5, l6⟩ := p12.2.1
      refine ⟨⟨l1, fun a a1 a2 => l2 a a1 (by omega) (by omega) (by omega), fun b b1 b2 _ => l3 b b1 b2⟩, Or.inr (Or.inl ⟨hh, rfl, fun b hb => l3 b (by omega) (by omega), l2 214 (by decide) (by decide) (by decide) (by decide), fun s B m q => hno (ke_of_lp hK hn l4 l5 q)⟩)⟩
  · have ch := c_X13_isHour (X := X) (M := M) (x := h) hr
    rw [mm_b_f hh] at ch
    refine mm_iload_n dX13_best_0 rfl rfl ?_
    refine mm_S1i dX13_best_1 rfl lk_X13_486 (by simp) rfl rfl rfl (ch) ?_
    refine mm_ifne dX13_best_4 (by omega) (fun h => absurd h (by decide)) (fun _ => ?_)
    refine mm_bipush dX13_best_7 rfl (by decide) ?_
    refine mm_iret dX13_best_9 rfl rfl ?_
    rw [hΦ]; refine ⟨_, rfl, hR, ?_⟩
    rw [hΨ]
    exact ⟨⟨hR, fun _ _ _ => rfl, fun _ _ _ _ => rfl⟩, Or.inl ⟨hh, rfl, fun _ _ => rfl, rfl⟩⟩
end
end
/-! HA.weigh -/
section
/-! ===== KitePower$LoopFinder: what slants give ===== -/
theorem ks_pa60 {K : Nat → Int} (h : mm_KV K) {sl c w : Int} {sw : Prop} [Decidable sw] (hs : 0 ≤ sl ∧ sl < 3) (hc : 0 ≤ c ∧ c < 6) (hw : 0 ≤ w ∧ w ≤ 60) : 0 ≤ ks_pa K sl c sw w ∧ ks_pa K sl c sw w ≤ 1425600 := by
  obtain ⟨-, -, -, -, -, -, -, -, h8, -, -, hl, hv⟩ := h
  have a := hl sl.toNat (by omega)
  have b := hv c.toNat (by omega)
  unfold ks_pa
  generalize K (20 + sl.toNat) = u at a ⊢
  generalize K (30 + c.toNat) = v at b ⊢
  have c1 := mm_mulb (a := u) (b := w) (A := 99) (B := 60) a.1 a.2 hw.1 hw.2
  have c2 := mm_mulb (a := u * w) (b := w) (A := 99 * 60) (B := 60) c1.1 c1.2 hw.1 hw.2
  have c3 := mm_mulb (a := u * w * w) (b := v) (A := 99 * 60 * 60) (B := 100) c2.1 c2.2 b.1 b.2
  have c4 : 0 ≤ u * w * w * v / 100 ∧ u * w * w * v / 100 ≤ 356400 := by omega
  have c5 := mm_mulb (a := u * w * w * v / 100) (b := K 8) (A := 356400) (B := 400) c4.1 c4.2 (by omega) h8.2
  split <;> omega
/-- what the first l slants tell of an option: the first of those that give most, and what -/
def kx_B (K : Nat → Int) (c : Int) (P : Prop) [Decidable P] (lo hi : Int) (i : Int) : Prop := ks_bears K (ks_pa K i c P lo) (ks_pa K i c P hi)
def kx_g (K : Nat → Int) (c : Int) (P : Prop) [Decidable P] (lo hi d : Int) (i : Int) : Int := ks_w K d (ks_pa K i c P (if d = 2 then hi else lo))
theorem kx_gb {K : Nat → Int} {c : Nat} {P : Prop} [Decidable P] {lo hi d : Int} {j : Nat} (hV : mm_KV K) (hc : c < 6) (hj : j < 3) (hlo : 0 ≤ lo ∧ lo ≤ 60) (hhi : 0 ≤ hi ∧ hi ≤ 60) : -5800000 ≤ kx_g K c P lo hi d j ∧ kx_g K c P lo hi d j ≤ 5800000 := by
  obtain ⟨w, hw⟩ : ∃ w, w = (if d = 2 then hi else lo) := ⟨_, rfl⟩
  have hwb : 0 ≤ w ∧ w ≤ 60 := by rw [hw]; split <;> omega
  have hp := ks_pa60 (sw := P) hV (sl := (j : Int)) (c := (c : Int)) ⟨by omega, by omega⟩ ⟨by omega, by omega⟩ hwb
  unfold kx_g
  rw [← hw]
  unfold ks_w
  obtain ⟨-, -, -, -, -, -, h6, h7, -⟩ := hV
  have := mm_mulb (a := ks_pa K j c P w) (b := K 7) (A := 1425600) (B := 400) hp.1 hp.2 h7.1 h7.2
  have e1 := Int.ediv_nonneg this.1 (show (0 : Int) ≤ 100 by omega)
  split
  · omega
  · split <;> omega
def kx_S (B : Int → Prop) (G : Int → Int) (l : Nat) (sl g : Int) : Prop := (sl = -1 ∧ ∀ i : Nat, i < l → ¬ B i) ∨ ∃ j : Nat, j < l ∧ sl = (j : Int) ∧ B j ∧ g = G j ∧ ∀ i : Nat, i < l → B i → G i ≤ g ∧ (G i = g → j ≤ i)
theorem kx_S.no {B : Int → Prop} {G : Int → Int} {l : Nat} {sl g : Int} (h : kx_S B G l sl g) (hn : ¬ B l) : kx_S B G (l + 1) sl g := by
  rcases h with ⟨q1, q2⟩ | ⟨j, j1, j2, j3, j4, j5⟩
  · refine Or.inl ⟨q1, fun i hi => ?_⟩
    by_cases c : i = l
    · rw [c]; exact hn
    · exact q2 i (by omega)
  · refine Or.inr ⟨j, by omega, j2, j3, j4, fun i hi hB => ?_⟩
    by_cases c : i = l
    · rw [c] at hB; exact absurd hB hn
    · exact j5 i (by omega) hB
theorem kx_S.old {B : Int → Prop} {G : Int → Int} {l : Nat} {sl g : Int} (h : kx_S B G l sl g) (h1 : sl ≠ -1) (h2 : G l ≤ g) : kx_S B G (l + 1) sl g := by
  rcases h with ⟨q1, q2⟩ | ⟨j, j1, j2, j3, j4, j5⟩
  · exact absurd q1 h1
  · refine Or.inr ⟨j, by omega, j2, j3, j4, fun i hi hB => ?_⟩
    by_cases c : i = l
    · rw [c]; exact ⟨h2, fun _ => by omega⟩
    · exact j5 i (by omega) hB
theorem kx_S.new {B : Int → Prop} {G : Int → Int} {l : Nat} {sl g : Int} (h : kx_S B G l sl g) (hB : B l) (h2 : sl = -1 ∨ g < G l) : kx_S B G (l + 1) (l : Int) (G l) := by
  refine Or.inr ⟨l, by omega, rfl, hB, rfl, fun i hi hBi => ?_⟩
  by_cases c : i = l
  · rw [c]; exact ⟨Int.le_refl _, fun _ => Nat.le_refl l⟩
  · rcases h with ⟨q1, q2⟩ | ⟨j, j1, j2, j3, j4, j5⟩
    · exact absurd hBi (q2 i (by omega))
    · have := (j5 i (by omega) hBi).1
      rcases h2 with z | z
      · omega
      · exact ⟨by omega, fun y => by omega⟩
/-- only slants and gains of an option change -/
def kx_OO (M N : mm_M) (o : Nat) : Prop := mm_Rf N ∧ (∀ a, a ≠ 29 → a ≠ 30 → N a = M a) ∧ ∀ i, i < o ∨ o + 3 ≤ i → N 29 i = M 29 i ∧ N 30 i = M 30 i
section
variable {X : mm_X} {M : mm_M}
theorem c_X6_optionOf {b c : Nat} {P : Prop} [Decidable P] (hb : b < 5) (hc : c < 6) : mm_Fn X Y_X6_optionOf 243 [(0, (b : Int)), (0, (c : Int)), (0, mm_b P)] M (0, (((b * 6 + c) * 2 + (if P then 1 else 0)) * 3 : Nat)) M := by
  refine mm_startF (ls := [(0, (b : Int)), (0, (c : Int)), (0, mm_b P)]) rfl ?_
  by_cases hP : P
  · rw [mm_b_t hP, if_pos hP]
    refine mm_iload_n dX6_optionOf_0 rfl rfl ?_
    refine mm_bipush dX6_optionOf_1 rfl (by decide) ?_
    refine mm_imul dX6_optionOf_3 rfl ?_
    refine mm_iload_n dX6_optionOf_4 rfl rfl ?_
    refine mm_iadd dX6_optionOf_5 rfl ?_
    refine mm_iconst dX6_optionOf_6 rfl ?_
    refine mm_imul dX6_optionOf_7 rfl ?_
    refine mm_iload_n dX6_optionOf_8 rfl rfl ?_
    refine mm_ifeq dX6_optionOf_9 (by omega) (fun h => absurd h (by decide)) (fun _ => ?_)
    refine mm_iconst dX6_optionOf_12 rfl ?_
    refine mm_goto dX6_optionOf_13 ?_
    refine mm_iadd dX6_optionOf_17 rfl ?_
    refine mm_iconst dX6_optionOf_18 rfl ?_
    refine mm_imul dX6_optionOf_19 rfl ?_
    refine mm_iret dX6_optionOf_20 rfl rfl ?_
    exact mm_fin (by omega) rfl
  · rw [mm_b_f hP, if_neg hP]
    refine mm_iload_n dX6_optionOf_0 rfl rfl ?_
    refine mm_bipush dX6_optionOf_1 rfl (by decide) ?_
    refine mm_imul dX6_optionOf_3 rfl ?_
    refine mm_iload_n dX6_optionOf_4 rfl rfl ?_
    refine mm_iadd dX6_optionOf_5 rfl ?_
    refine mm_iconst dX6_optionOf_6 rfl ?_
    refine mm_imul dX6_optionOf_7 rfl ?_
    refine mm_iload_n dX6_optionOf_8 rfl rfl ?_
    refine mm_ifeq dX6_optionOf_9 (by omega) (fun _ => ?_) (fun h => absurd (by decide) h)
    refine mm_iconst dX6_optionOf_16 rfl ?_
    refine mm_iadd dX6_optionOf_17 rfl ?_
    refine mm_iconst dX6_optionOf_18 rfl ?_
    refine mm_imul dX6_optionOf_19 rfl ?_
    refine mm_iret dX6_optionOf_20 rfl rfl ?_
    exact mm_fin (by omega) rfl
theorem c_X6_weighOption {o c : Nat} {P : Prop} [Decidable P] {lo hi : Int} (hR : mm_Rf M) (hK : mm_CK M) (ho : o + 3 ≤ 180) (hc : c < 6) (hlo : 0 ≤ lo ∧ lo ≤ 60) (hhi : 0 ≤ hi ∧ hi ≤ 60) (h0 : ∀ d, d < 3 → M 29 (o + d) = -1) :
    mm_C X Y_X6_weighOption 243 243 [(2, 29), (0, (o : Int)), (0, (c : Int)), (0, mm_b P), (0, lo), (0, hi)] M (fun r M' => r = (3, 0) ∧ mm_Rf M' ∧ kx_OO M M' o ∧ ∀ d : Nat, d < 3 → kx_S (kx_B (M 4) c P lo hi) (kx_g (M 4) c P lo hi d) (M 4 10).toNat (M' 29 (o + d)) (M' 30 (o + d))) := by
  obtain ⟨Φ, hΦ⟩ : ∃ Φ : mm_V → mm_M → Prop, Φ = (fun r M' => r = (3, 0) ∧ mm_Rf M' ∧ kx_OO M M' o ∧ ∀ d : Nat, d < 3 → kx_S (kx_B (M 4) c P lo hi) (kx_g (M 4) c P lo hi d) (M 4 10).toNat (M' 29 (o + d)) (M' 30 (o + d))) := ⟨_, rfl⟩
  rw [← hΦ]
  have hV := hK.1
  have h10 : 1 ≤ M 4 10 ∧ M 4 10 ≤ 3 := by
    obtain ⟨-, -, -, -, -, -, -, -, -, -, q, -⟩ := hV
    exact q
  obtain ⟨L, hL⟩ : ∃ L, L = (M 4 10).toNat := ⟨_, rfl⟩
  have hLi : M 4 10 = (L : Int) := by omega
  have e4 : ∀ N, kx_OO M N o → N 4 = M 4 := fun N h => h.2.1 4 (by decide) (by decide)
  have ck : ∀ N, kx_OO M N o → mm_CK N := fun N h => kx_ck (fun a a1 a2 => h.2.1 a (by omega) (by omega)) hK
  -- the drums
  have inner : ∀ l : Nat, l < L → kx_B (M 4) c P lo hi l →
      (∀ N, kx_OO M N o → (∀ d : Nat, d < 3 → kx_S (kx_B (M 4) c P lo hi) (kx_g (M 4) c P lo hi d) (l + 1) (N 29 (o + d)) (N 30 (o + d))) → mm_J X Y_X6_weighOption 243 243 243 147 [(2, 29), (0, (o : Int)), (0, (c : Int)), (0, mm_b P), (0, lo), (0, hi), (0, (l : Int)), (9, 0), (9, 0), (9, 0), (9, 0)] [] N Φ) →
      ∀ d : Nat, d ≤ 3 → ∀ N, kx_OO M N o → (∀ e : Nat, e < d → kx_S (kx_B (M 4) c P lo hi) (kx_g (M 4) c P lo hi e) (l + 1) (N 29 (o + e)) (N 30 (o + e))) → (∀ e : Nat, d ≤ e → e < 3 → kx_S (kx_B (M 4) c P lo hi) (kx_g (M 4) c P lo hi e) l (N 29 (o + e)) (N 30 (o + e))) →
      mm_J X Y_X6_weighOption 243 243 243 62 [(2, 29), (0, (o : Int)), (0, (c : Int)), (0, mm_b P), (0, lo), (0, hi), (0, (l : Int)), (0, ks_pa (M 4) l c P lo), (0, ks_pa (M 4) l c P hi), (0, (d : Int)), (9, 0)] [] N Φ := by
    intro l hl hB out
    have p1 := ks_pa60 (sw := P) hV (sl := (l : Int)) (c := (c : Int)) ⟨by omega, by omega⟩ ⟨by omega, by omega⟩ hlo
    have p2 := ks_pa60 (sw := P) hV (sl := (l : Int)) (c := (c : Int)) ⟨by omega, by omega⟩ ⟨by omega, by omega⟩ hhi
    refine mm_lp ?_
    intro d hd ih N hO w1 w2
    have hRN := hO.1
    by_cases hlt : d < 3
    · have hw := w2 d (Nat.le_refl d) hlt
      obtain ⟨p, hp⟩ : ∃ p, p = (if (d : Int) = 2 then ks_pa (M 4) l c P hi else ks_pa (M 4) l c P lo) := ⟨_, rfl⟩
      have hpb : 0 ≤ p ∧ p ≤ 1425600 := by rw [hp]; split <;> assumption
      have cw := c_X4_workOf (X := X) (M := N) (d := (d : Int)) (p := p) hRN (ck N hO) (by omega) hpb
      rw [e4 N hO] at cw
      have eg : ks_w (M 4) d p = kx_g (M 4) c P lo hi d l := by
        unfold kx_g
        rw [hp]
        split <;> rfl
      rw [eg] at cw
      have pick : ∀ U, kx_OO M U o → (∀ i, i ≠ o + d → U 29 i = N 29 i ∧ U 30 i = N 30 i) → kx_S (kx_B (M 4) c P lo hi) (kx_g (M 4) c P lo hi d) (l + 1) (U 29 (o + d)) (U 30 (o + d)) → mm_J X Y_X6_weighOption 243 243 243 62 [(2, 29), (0, (o : Int)), (0, (c : Int)), (0, mm_b P), (0, lo), (0, hi), (0, (l : Int)), (0, ks_pa (M 4) l c P lo), (0, ks_pa (M 4) l c P hi), (0, (d : Int) + 1), (9, 0)] [] U Φ := by
        intro U hU f1 f2
        have go := ih hlt U hU (fun e he => by
          by_cases ce : e = d
          · rw [ce]; exact f2
          · rw [(f1 (o + e) (by omega)).1, (f1 (o + e) (by omega)).2]; exact w1 e (by omega)) (fun e e1 e2 => by
          rw [(f1 (o + e) (by omega)).1, (f1 (o + e) (by omega)).2]; exact w2 e (by omega) e2)
        rw [show ((d + 1 : Nat) : Int) = (d : Int) + 1 by omega] at go
        exact go
      have fr : ∀ a b U, (U = mm_up (mm_up N 29 (o + d) a) 30 (o + d) b) → mm_Rf U → kx_OO M U o ∧ (∀ i, i ≠ o + d → U 29 i = N 29 i ∧ U 30 i = N 30 i) := by
        intro a b U hU hRU
        have f : ∀ i, i ≠ o + d → U 29 i = N 29 i ∧ U 30 i = N 30 i := fun i hi => ⟨by rw [hU, mm_up_c (by decide), mm_up_i hi], by rw [hU, mm_up_i hi, mm_up_c (by decide)]⟩
        refine ⟨⟨hRU, fun x x1 x2 => by rw [hU, mm_up_row x2, mm_up_row x1]; exact hO.2.1 x x1 x2, fun i hi => ?_⟩, f⟩
        have q := hO.2.2 i hi
        have q2 := f i (by omega)
        exact ⟨by rw [q2.1, q.1], by rw [q2.2, q.2]⟩
      have same : N 29 (o + d) ≠ -1 → kx_g (M 4) c P lo hi d l ≤ N 30 (o + d) → mm_J X Y_X6_weighOption 243 243 243 62 [(2, 29), (0, (o : Int)), (0, (c : Int)), (0, mm_b P), (0, lo), (0, hi), (0, (l : Int)), (0, ks_pa (M 4) l c P lo), (0, ks_pa (M 4) l c P hi), (0, (d : Int) + 1), (9, 0)] [] N Φ := fun a b => pick N hO (fun _ _ => ⟨rfl, rfl⟩) (hw.old a b)
      have news : (N 29 (o + d) = -1 ∨ N 30 (o + d) < kx_g (M 4) c P lo hi d l) → ∀ U, (U = mm_up (mm_up N 29 (o + d) (l : Int)) 30 (o + d) (kx_g (M 4) c P lo hi d l)) → mm_Rf U → mm_J X Y_X6_weighOption 243 243 243 62 [(2, 29), (0, (o : Int)), (0, (c : Int)), (0, mm_b P), (0, lo), (0, hi), (0, (l : Int)), (0, ks_pa (M 4) l c P lo), (0, ks_pa (M 4) l c P hi), (0, (d : Int) + 1), (9, 0)] [] U Φ := by
        intro a U hU hRU
        obtain ⟨f1, f2⟩ := fr _ _ U hU hRU
        refine pick U f1 f2 ?_
        rw [hU, mm_up_s, mm_up_c (by decide), mm_up_s]
        exact hw.new hB a
      have gbn : -5800000 ≤ kx_g (M 4) c P lo hi d l ∧ kx_g (M 4) c P lo hi d l ≤ 5800000 := by
        rw [← eg]
        unfold ks_w
        obtain ⟨-, -, -, -, -, -, h6, h7, -⟩ := hV
        have := mm_mulb (a := p) (b := M 4 7) (A := 1425600) (B := 400) hpb.1 hpb.2 h7.1 h7.2
        have e1 := Int.ediv_nonneg this.1 (show (0 : Int) ≤ 100 by omega)
        split
        · omega
        · split <;> omega
      have slb : -1 ≤ N 29 (o + d) ∧ N 29 (o + d) ≤ 2 := by
        rcases hw with ⟨q, -⟩ | ⟨j, j1, j2, -⟩ <;> omega
      have gb2 : N 29 (o + d) = -1 ∨ (-5800000 ≤ N 30 (o + d) ∧ N 30 (o + d) ≤ 5800000) := by
        rcases hw with ⟨q, -⟩ | ⟨j, j1, j2, j3, j4, -⟩
        · exact Or.inl q
        · right; rw [j4]; exact kx_gb hV hc (by omega) hlo hhi
      by_cases d2 : (d : Int) = 2
      · rw [if_pos d2] at hp
        rw [hp] at cw
        refine mm_iload dX6_weighOption_62 rfl rfl ?_
        refine mm_iconst dX6_weighOption_64 rfl ?_
        refine mm_icge dX6_weighOption_65 (by omega) (by omega) (fun h65 => ?_) (fun h65 => ?_)
        · exfalso; omega
        · refine mm_aload_n dX6_weighOption_68 rfl rfl ?_
          refine mm_getr dX6_weighOption_69 rfl fl_X6_55 (c := 28) rfl (by decide) rfl rfl (hRN.at (c := 28) (i := 0) (v := 4) rfl (by decide)) ?_
          refine mm_iload dX6_weighOption_72 rfl rfl ?_
          refine mm_iload dX6_weighOption_74 rfl rfl ?_
          refine mm_iconst dX6_weighOption_76 rfl ?_
          refine mm_icne dX6_weighOption_77 (by omega) (by omega) (fun h77 => ?_) (fun h77 => ?_)
          · exfalso; omega
          · refine mm_iload dX6_weighOption_80 rfl rfl ?_
            refine mm_goto dX6_weighOption_82 ?_
            refine mm_V2i dX6_weighOption_87 rfl lk_X6_147 (c := 3) rfl (by decide) rfl (by simp) (by simp) rfl rfl rfl (cw) ?_
            refine mm_istore dX6_weighOption_90 rfl (Nat.le_of_ble_eq_true rfl) rfl ?_
            refine mm_aload_n dX6_weighOption_92 rfl rfl ?_
            refine mm_getr dX6_weighOption_93 rfl fl_X6_13 (c := 28) rfl (by decide) rfl rfl (hRN.at (c := 28) (i := 2) (v := 30) rfl (by decide)) ?_
            refine mm_iload_n dX6_weighOption_96 rfl rfl ?_
            refine mm_iload dX6_weighOption_97 rfl rfl ?_
            refine mm_iadd dX6_weighOption_99 rfl ?_
            refine mm_ialk (k0 := o + d) dX6_weighOption_100 rfl (c := 29) rfl (by decide) rfl (by omega) (by omega) ?_
            refine mm_iconst dX6_weighOption_101 rfl ?_
            refine mm_iceq dX6_weighOption_102 (by omega) (by omega) (fun h102 => ?_) (fun h102 => ?_)
            · refine mm_aload_n dX6_weighOption_119 rfl rfl ?_
              refine mm_getr dX6_weighOption_120 rfl fl_X6_13 (c := 28) rfl (by decide) rfl rfl (hRN.at (c := 28) (i := 2) (v := 30) rfl (by decide)) ?_
              refine mm_iload_n dX6_weighOption_123 rfl rfl ?_
              refine mm_iload dX6_weighOption_124 rfl rfl ?_
              refine mm_iadd dX6_weighOption_126 rfl ?_
              refine mm_iload dX6_weighOption_127 rfl rfl ?_
              refine mm_istk (k0 := o + d) dX6_weighOption_129 rfl (c := 29) rfl (by decide) rfl (by omega) (by omega) (fun M129 hM129 => ?_)
              have hR129 : mm_Rf M129 := by rw [hM129]; exact hRN.up (mm_rt_ar (t := 0) rfl (by decide))
              refine mm_aload_n dX6_weighOption_130 rfl rfl ?_
              refine mm_getr dX6_weighOption_131 rfl fl_X6_17 (c := 28) rfl (by decide) rfl rfl (hR129.at (c := 28) (i := 3) (v := 31) rfl (by decide)) ?_
              refine mm_iload_n dX6_weighOption_134 rfl rfl ?_
              refine mm_iload dX6_weighOption_135 rfl rfl ?_
              refine mm_iadd dX6_weighOption_137 rfl ?_
              refine mm_iload dX6_weighOption_138 rfl rfl ?_
              refine mm_istk (k0 := o + d) dX6_weighOption_140 rfl (c := 30) rfl (by decide) rfl (by omega) (by omega) (fun M140 hM140 => ?_)
              have hR140 : mm_Rf M140 := by rw [hM140]; exact hR129.up (mm_rt_ar (t := 0) rfl (by decide))
              refine mm_iinc dX6_weighOption_141 rfl rfl (Nat.le_of_ble_eq_true rfl) rfl ?_
              refine mm_goto dX6_weighOption_144 ?_
              first
              | exact mm_drop (by repeat (first | exact trivial | refine And.intro (Or.inl rfl) ?_ | refine And.intro (Or.inr rfl) ?_)) (same (by omega) (by omega))
              | exact mm_drop (by repeat (first | exact trivial | refine And.intro (Or.inl rfl) ?_ | refine And.intro (Or.inr rfl) ?_)) (news (by omega) _ (by rw [hM140, hM129]) hR140)
            · refine mm_iload dX6_weighOption_105 rfl rfl ?_
              refine mm_aload_n dX6_weighOption_107 rfl rfl ?_
              refine mm_getr dX6_weighOption_108 rfl fl_X6_17 (c := 28) rfl (by decide) rfl rfl (hRN.at (c := 28) (i := 3) (v := 31) rfl (by decide)) ?_
              refine mm_iload_n dX6_weighOption_111 rfl rfl ?_
              refine mm_iload dX6_weighOption_112 rfl rfl ?_
              refine mm_iadd dX6_weighOption_114 rfl ?_
              refine mm_ialk (k0 := o + d) dX6_weighOption_115 rfl (c := 30) rfl (by decide) rfl (by omega) (by omega) ?_
              refine mm_icle dX6_weighOption_116 (by omega) (by omega) (fun h116 => ?_) (fun h116 => ?_)
              · refine mm_iinc dX6_weighOption_141 rfl rfl (Nat.le_of_ble_eq_true rfl) rfl ?_
                refine mm_goto dX6_weighOption_144 ?_
                first
                | exact mm_drop (by repeat (first | exact trivial | refine And.intro (Or.inl rfl) ?_ | refine And.intro (Or.inr rfl) ?_)) (same (by omega) (by omega))
                | exact mm_drop (by repeat (first | exact trivial | refine And.intro (Or.inl rfl) ?_ | refine And.intro (Or.inr rfl) ?_)) (news (by omega) _ (by rw [hM140, hM129]) hRN)
              · refine mm_aload_n dX6_weighOption_119 rfl rfl ?_
                refine mm_getr dX6_weighOption_120 rfl fl_X6_13 (c := 28) rfl (by decide) rfl rfl (hRN.at (c := 28) (i := 2) (v := 30) rfl (by decide)) ?_
                refine mm_iload_n dX6_weighOption_123 rfl rfl ?_
                refine mm_iload dX6_weighOption_124 rfl rfl ?_
                refine mm_iadd dX6_weighOption_126 rfl ?_
                refine mm_iload dX6_weighOption_127 rfl rfl ?_
                refine mm_istk (k0 := o + d) dX6_weighOption_129 rfl (c := 29) rfl (by decide) rfl (by omega) (by omega) (fun M129 hM129 => ?_)
                have hR129 : mm_Rf M129 := by rw [hM129]; exact hRN.up (mm_rt_ar (t := 0) rfl (by decide))
                refine mm_aload_n dX6_weighOption_130 rfl rfl ?_
                refine mm_getr dX6_weighOption_131 rfl fl_X6_17 (c := 28) rfl (by decide) rfl rfl (hR129.at (c := 28) (i := 3) (v := 31) rfl (by decide)) ?_
                refine mm_iload_n dX6_weighOption_134 rfl rfl ?_
                refine mm_iload dX6_weighOption_135 rfl rfl ?_
                refine mm_iadd dX6_weighOption_137 rfl ?_
                refine mm_iload dX6_weighOption_138 rfl rfl ?_
                refine mm_istk (k0 := o + d) dX6_weighOption_140 rfl (c := 30) rfl (by decide) rfl (by omega) (by omega) (fun M140 hM140 => ?_)
                have hR140 : mm_Rf M140 := by rw [hM140]; exact hR129.up (mm_rt_ar (t := 0) rfl (by decide))
                refine mm_iinc dX6_weighOption_141 rfl rfl (Nat.le_of_ble_eq_true rfl) rfl ?_
                refine mm_goto dX6_weighOption_144 ?_
                first
                | exact mm_drop (by repeat (first | exact trivial | refine And.intro (Or.inl rfl) ?_ | refine And.intro (Or.inr rfl) ?_)) (same (by omega) (by omega))
                | exact mm_drop (by repeat (first | exact trivial | refine And.intro (Or.inl rfl) ?_ | refine And.intro (Or.inr rfl) ?_)) (news (by omega) _ (by rw [hM140, hM129]) hR140)
      · rw [if_neg d2] at hp
        rw [hp] at cw
        refine mm_iload dX6_weighOption_62 rfl rfl ?_
        refine mm_iconst dX6_weighOption_64 rfl ?_
        refine mm_icge dX6_weighOption_65 (by omega) (by omega) (fun h65 => ?_) (fun h65 => ?_)
        · exfalso; omega
        · refine mm_aload_n dX6_weighOption_68 rfl rfl ?_
          refine mm_getr dX6_weighOption_69 rfl fl_X6_55 (c := 28) rfl (by decide) rfl rfl (hRN.at (c := 28) (i := 0) (v := 4) rfl (by decide)) ?_
          refine mm_iload dX6_weighOption_72 rfl rfl ?_
          refine mm_iload dX6_weighOption_74 rfl rfl ?_
          refine mm_iconst dX6_weighOption_76 rfl ?_
          refine mm_icne dX6_weighOption_77 (by omega) (by omega) (fun h77 => ?_) (fun h77 => ?_)
          · refine mm_iload dX6_weighOption_85 rfl rfl ?_
            refine mm_V2i dX6_weighOption_87 rfl lk_X6_147 (c := 3) rfl (by decide) rfl (by simp) (by simp) rfl rfl rfl (cw) ?_
            refine mm_istore dX6_weighOption_90 rfl (Nat.le_of_ble_eq_true rfl) rfl ?_
            refine mm_aload_n dX6_weighOption_92 rfl rfl ?_
            refine mm_getr dX6_weighOption_93 rfl fl_X6_13 (c := 28) rfl (by decide) rfl rfl (hRN.at (c := 28) (i := 2) (v := 30) rfl (by decide)) ?_
            refine mm_iload_n dX6_weighOption_96 rfl rfl ?_
            refine mm_iload dX6_weighOption_97 rfl rfl ?_
            refine mm_iadd dX6_weighOption_99 rfl ?_
            refine mm_ialk (k0 := o + d) dX6_weighOption_100 rfl (c := 29) rfl (by decide) rfl (by omega) (by omega) ?_
            refine mm_iconst dX6_weighOption_101 rfl ?_
            refine mm_iceq dX6_weighOption_102 (by omega) (by omega) (fun h102 => ?_) (fun h102 => ?_)
            · refine mm_aload_n dX6_weighOption_119 rfl rfl ?_
              refine mm_getr dX6_weighOption_120 rfl fl_X6_13 (c := 28) rfl (by decide) rfl rfl (hRN.at (c := 28) (i := 2) (v := 30) rfl (by decide)) ?_
              refine mm_iload_n dX6_weighOption_123 rfl rfl ?_
              refine mm_iload dX6_weighOption_124 rfl rfl ?_
              refine mm_iadd dX6_weighOption_126 rfl ?_
              refine mm_iload dX6_weighOption_127 rfl rfl ?_
              refine mm_istk (k0 := o + d) dX6_weighOption_129 rfl (c := 29) rfl (by decide) rfl (by omega) (by omega) (fun M129 hM129 => ?_)
              have hR129 : mm_Rf M129 := by rw [hM129]; exact hRN.up (mm_rt_ar (t := 0) rfl (by decide))
              refine mm_aload_n dX6_weighOption_130 rfl rfl ?_
              refine mm_getr dX6_weighOption_131 rfl fl_X6_17 (c := 28) rfl (by decide) rfl rfl (hR129.at (c := 28) (i := 3) (v := 31) rfl (by decide)) ?_
              refine mm_iload_n dX6_weighOption_134 rfl rfl ?_
              refine mm_iload dX6_weighOption_135 rfl rfl ?_
              refine mm_iadd dX6_weighOption_137 rfl ?_
              refine mm_iload dX6_weighOption_138 rfl rfl ?_
              refine mm_istk (k0 := o + d) dX6_weighOption_140 rfl (c := 30) rfl (by decide) rfl (by omega) (by omega) (fun M140 hM140 => ?_)
              have hR140 : mm_Rf M140 := by rw [hM140]; exact hR129.up (mm_rt_ar (t := 0) rfl (by decide))
              refine mm_iinc dX6_weighOption_141 rfl rfl (Nat.le_of_ble_eq_true rfl) rfl ?_
              refine mm_goto dX6_weighOption_144 ?_
              first
              | exact mm_drop (by repeat (first | exact trivial | refine And.intro (Or.inl rfl) ?_ | refine And.intro (Or.inr rfl) ?_)) (same (by omega) (by omega))
              | exact mm_drop (by repeat (first | exact trivial | refine And.intro (Or.inl rfl) ?_ | refine And.intro (Or.inr rfl) ?_)) (news (by omega) _ (by rw [hM140, hM129]) hR140)
            · refine mm_iload dX6_weighOption_105 rfl rfl ?_
              refine mm_aload_n dX6_weighOption_107 rfl rfl ?_
              refine mm_getr dX6_weighOption_108 rfl fl_X6_17 (c := 28) rfl (by decide) rfl rfl (hRN.at (c := 28) (i := 3) (v := 31) rfl (by decide)) ?_
              refine mm_iload_n dX6_weighOption_111 rfl rfl ?_
              refine mm_iload dX6_weighOption_112 rfl rfl ?_
              refine mm_iadd dX6_weighOption_114 rfl ?_
              refine mm_ialk (k0 := o + d) dX6_weighOption_115 rfl (c := 30) rfl (by decide) rfl (by omega) (by omega) ?_
              refine mm_icle dX6_weighOption_116 (by omega) (by omega) (fun h116 => ?_) (fun h116 => ?_)
              · refine mm_iinc dX6_weighOption_141 rfl rfl (Nat.le_of_ble_eq_true rfl) rfl ?_
                refine mm_goto dX6_weighOption_144 ?_
                first
                | exact mm_drop (by repeat (first | exact trivial | refine And.intro (Or.inl rfl) ?_ | refine And.intro (Or.inr rfl) ?_)) (same (by omega) (by omega))
                | exact mm_drop (by repeat (first | exact trivial | refine And.intro (Or.inl rfl) ?_ | refine And.intro (Or.inr rfl) ?_)) (news (by omega) _ (by rw [hM140, hM129]) hRN)
              · refine mm_aload_n dX6_weighOption_119 rfl rfl ?_
                refine mm_getr dX6_weighOption_120 rfl fl_X6_13 (c := 28) rfl (by decide) rfl rfl (hRN.at (c := 28) (i := 2) (v := 30) rfl (by decide)) ?_
                refine mm_iload_n dX6_weighOption_123 rfl rfl ?_
                refine mm_iload dX6_weighOption_124 rfl rfl ?_
                refine mm_iadd dX6_weighOption_126 rfl ?_
                refine mm_iload dX6_weighOption_127 rfl rfl ?_
                refine mm_istk (k0 := o + d) dX6_weighOption_129 rfl (c := 29) rfl (by decide) rfl (by omega) (by omega) (fun M129 hM129 => ?_)
                have hR129 : mm_Rf M129 := by rw [hM129]; exact hRN.up (mm_rt_ar (t := 0) rfl (by decide))
                refine mm_aload_n dX6_weighOption_130 rfl rfl ?_
                refine mm_getr dX6_weighOption_131 rfl fl_X6_17 (c := 28) rfl (by decide) rfl rfl (hR129.at (c := 28) (i := 3) (v := 31) rfl (by decide)) ?_
                refine mm_iload_n dX6_weighOption_134 rfl rfl ?_
                refine mm_iload dX6_weighOption_135 rfl rfl ?_
                refine mm_iadd dX6_weighOption_137 rfl ?_
                refine mm_iload dX6_weighOption_138 rfl rfl ?_
                refine mm_istk (k0 := o + d) dX6_weighOption_140 rfl (c := 30) rfl (by decide) rfl (by omega) (by omega) (fun M140 hM140 => ?_)
                have hR140 : mm_Rf M140 := by rw [hM140]; exact hR129.up (mm_rt_ar (t := 0) rfl (by decide))
                refine mm_iinc dX6_weighOption_141 rfl rfl (Nat.le_of_ble_eq_true rfl) rfl ?_
                refine mm_goto dX6_weighOption_144 ?_
                first
                | exact mm_drop (by repeat (first | exact trivial | refine And.intro (Or.inl rfl) ?_ | refine And.intro (Or.inr rfl) ?_)) (same (by omega) (by omega))
                | exact mm_drop (by repeat (first | exact trivial | refine And.intro (Or.inl rfl) ?_ | refine And.intro (Or.inr rfl) ?_)) (news (by omega) _ (by rw [hM140, hM129]) hR140)
          · exfalso; omega
    · have ed : d = 3 := by omega
      subst ed
      have go := out N hO w1
      refine mm_iload dX6_weighOption_62 rfl rfl ?_
      refine mm_iconst dX6_weighOption_64 rfl ?_
      refine mm_icge dX6_weighOption_65 (by omega) (by omega) (fun h65 => ?_) (fun h65 => ?_)
      · exact mm_drop (by repeat (first | exact trivial | refine And.intro (Or.inl rfl) ?_ | refine And.intro (Or.inr rfl) ?_)) go
      · exfalso; omega
  have loop : ∀ l : Nat, l ≤ L → ∀ N, kx_OO M N o → (∀ d : Nat, d < 3 → kx_S (kx_B (M 4) c P lo hi) (kx_g (M 4) c P lo hi d) l (N 29 (o + d)) (N 30 (o + d))) → mm_J X Y_X6_weighOption 243 243 243 3 [(2, 29), (0, (o : Int)), (0, (c : Int)), (0, mm_b P), (0, lo), (0, hi), (0, (l : Int)), (9, 0), (9, 0), (9, 0), (9, 0)] [] N Φ := by
    refine mm_lp ?_
    intro l hl ih N hO w
    have hRN := hO.1
    have cs := c_X4_slants (X := X) hRN
    rw [e4 N hO, hLi] at cs
    by_cases hlt : l < L
    · have p1 := ks_pa60 (sw := P) hV (sl := (l : Int)) (c := (c : Int)) ⟨by omega, by omega⟩ ⟨by omega, by omega⟩ hlo
      have p2 := ks_pa60 (sw := P) hV (sl := (l : Int)) (c := (c : Int)) ⟨by omega, by omega⟩ ⟨by omega, by omega⟩ hhi
      have c1 := c_X4_pullAt (X := X) (P := P) (M := N) (sl := (l : Int)) (c := (c : Int)) (w := lo) hRN (ck N hO) ⟨by omega, by omega⟩ ⟨by omega, by omega⟩ ⟨hlo.1, by omega⟩
      have c2 := c_X4_pullAt (X := X) (P := P) (M := N) (sl := (l : Int)) (c := (c : Int)) (w := hi) hRN (ck N hO) ⟨by omega, by omega⟩ ⟨by omega, by omega⟩ ⟨hhi.1, by omega⟩
      have c3 := c_X4_bears (X := X) (M := N) (p := ks_pa (M 4) l c P lo) (p2 := ks_pa (M 4) l c P hi) hRN (ck N hO) (by unfold mm_R; omega) (by unfold mm_R; omega)
      rw [e4 N hO] at c1 c2 c3
      have b147 : ∀ U, kx_OO M U o → (∀ d : Nat, d < 3 → kx_S (kx_B (M 4) c P lo hi) (kx_g (M 4) c P lo hi d) (l + 1) (U 29 (o + d)) (U 30 (o + d))) → mm_J X Y_X6_weighOption 243 243 243 147 [(2, 29), (0, (o : Int)), (0, (c : Int)), (0, mm_b P), (0, lo), (0, hi), (0, (l : Int)), (9, 0), (9, 0), (9, 0), (9, 0)] [] U Φ := by
        intro U hU u1
        have hRU := hU.1
        have go := ih hlt U hU u1
        rw [show ((l + 1 : Nat) : Int) = (l : Int) + 1 by omega] at go
        refine mm_iinc dX6_weighOption_147 rfl rfl (Nat.le_of_ble_eq_true rfl) rfl ?_
        refine mm_goto dX6_weighOption_150 ?_
        exact go
      by_cases hB : kx_B (M 4) c P lo hi l
      · have hB' : ks_bears (M 4) (ks_pa (M 4) l c P lo) (ks_pa (M 4) l c P hi) := hB
        rw [mm_b_t hB'] at c3
        have go := inner l hlt hB b147 0 (Nat.zero_le _) N hO (fun e he => absurd he (by omega)) (fun e _ e2 => w e e2)
        refine mm_iload dX6_weighOption_3 rfl rfl ?_
        refine mm_aload_n dX6_weighOption_5 rfl rfl ?_
        refine mm_getr dX6_weighOption_6 rfl fl_X6_55 (c := 28) rfl (by decide) rfl rfl (hRN.at (c := 28) (i := 0) (v := 4) rfl (by decide)) ?_
        refine mm_V0i dX6_weighOption_9 rfl lk_X6_137 (c := 3) rfl (by decide) rfl  rfl rfl rfl (cs) ?_
        refine mm_icge dX6_weighOption_12 (by omega) (by omega) (fun h12 => ?_) (fun h12 => ?_)
        · exfalso; omega
        · refine mm_aload_n dX6_weighOption_15 rfl rfl ?_
          refine mm_getr dX6_weighOption_16 rfl fl_X6_55 (c := 28) rfl (by decide) rfl rfl (hRN.at (c := 28) (i := 0) (v := 4) rfl (by decide)) ?_
          refine mm_iload dX6_weighOption_19 rfl rfl ?_
          refine mm_iload_n dX6_weighOption_21 rfl rfl ?_
          refine mm_iload_n dX6_weighOption_22 rfl rfl ?_
          refine mm_iload dX6_weighOption_23 rfl rfl ?_
          refine mm_V4i dX6_weighOption_25 rfl lk_X6_139 (c := 3) rfl (by decide) rfl (by simp) (by simp) (by simp) (by simp) rfl rfl rfl (c1) ?_
          refine mm_istore dX6_weighOption_28 rfl (Nat.le_of_ble_eq_true rfl) rfl ?_
          refine mm_aload_n dX6_weighOption_30 rfl rfl ?_
          refine mm_getr dX6_weighOption_31 rfl fl_X6_55 (c := 28) rfl (by decide) rfl rfl (hRN.at (c := 28) (i := 0) (v := 4) rfl (by decide)) ?_
          refine mm_iload dX6_weighOption_34 rfl rfl ?_
          refine mm_iload_n dX6_weighOption_36 rfl rfl ?_
          refine mm_iload_n dX6_weighOption_37 rfl rfl ?_
          refine mm_iload dX6_weighOption_38 rfl rfl ?_
          refine mm_V4i dX6_weighOption_40 rfl lk_X6_139 (c := 3) rfl (by decide) rfl (by simp) (by simp) (by simp) (by simp) rfl rfl rfl (c2) ?_
          refine mm_istore dX6_weighOption_43 rfl (Nat.le_of_ble_eq_true rfl) rfl ?_
          refine mm_aload_n dX6_weighOption_45 rfl rfl ?_
          refine mm_getr dX6_weighOption_46 rfl fl_X6_55 (c := 28) rfl (by decide) rfl rfl (hRN.at (c := 28) (i := 0) (v := 4) rfl (by decide)) ?_
          refine mm_iload dX6_weighOption_49 rfl rfl ?_
          refine mm_iload dX6_weighOption_51 rfl rfl ?_
          refine mm_V2i dX6_weighOption_53 rfl lk_X6_143 (c := 3) rfl (by decide) rfl (by simp) (by simp) rfl rfl rfl (c3) ?_
          refine mm_ifeq dX6_weighOption_56 (by omega) (fun h => absurd h (by decide)) (fun _ => ?_)
          refine mm_iconst dX6_weighOption_59 rfl ?_
          refine mm_istore dX6_weighOption_60 rfl (Nat.le_of_ble_eq_true rfl) rfl ?_
          exact go
      · have hB' : ¬ ks_bears (M 4) (ks_pa (M 4) l c P lo) (ks_pa (M 4) l c P hi) := hB
        rw [mm_b_f hB'] at c3
        have go := b147 N hO (fun d hd => (w d hd).no hB)
        refine mm_iload dX6_weighOption_3 rfl rfl ?_
        refine mm_aload_n dX6_weighOption_5 rfl rfl ?_
        refine mm_getr dX6_weighOption_6 rfl fl_X6_55 (c := 28) rfl (by decide) rfl rfl (hRN.at (c := 28) (i := 0) (v := 4) rfl (by decide)) ?_
        refine mm_V0i dX6_weighOption_9 rfl lk_X6_137 (c := 3) rfl (by decide) rfl  rfl rfl rfl (cs) ?_
        refine mm_icge dX6_weighOption_12 (by omega) (by omega) (fun h12 => ?_) (fun h12 => ?_)
        · exfalso; omega
        · refine mm_aload_n dX6_weighOption_15 rfl rfl ?_
          refine mm_getr dX6_weighOption_16 rfl fl_X6_55 (c := 28) rfl (by decide) rfl rfl (hRN.at (c := 28) (i := 0) (v := 4) rfl (by decide)) ?_
          refine mm_iload dX6_weighOption_19 rfl rfl ?_
          refine mm_iload_n dX6_weighOption_21 rfl rfl ?_
          refine mm_iload_n dX6_weighOption_22 rfl rfl ?_
          refine mm_iload dX6_weighOption_23 rfl rfl ?_
          refine mm_V4i dX6_weighOption_25 rfl lk_X6_139 (c := 3) rfl (by decide) rfl (by simp) (by simp) (by simp) (by simp) rfl rfl rfl (c1) ?_
          refine mm_istore dX6_weighOption_28 rfl (Nat.le_of_ble_eq_true rfl) rfl ?_
          refine mm_aload_n dX6_weighOption_30 rfl rfl ?_
          refine mm_getr dX6_weighOption_31 rfl fl_X6_55 (c := 28) rfl (by decide) rfl rfl (hRN.at (c := 28) (i := 0) (v := 4) rfl (by decide)) ?_
          refine mm_iload dX6_weighOption_34 rfl rfl ?_
          refine mm_iload_n dX6_weighOption_36 rfl rfl ?_
          refine mm_iload_n dX6_weighOption_37 rfl rfl ?_
          refine mm_iload dX6_weighOption_38 rfl rfl ?_
          refine mm_V4i dX6_weighOption_40 rfl lk_X6_139 (c := 3) rfl (by decide) rfl (by simp) (by simp) (by simp) (by simp) rfl rfl rfl (c2) ?_
          refine mm_istore dX6_weighOption_43 rfl (Nat.le_of_ble_eq_true rfl) rfl ?_
          refine mm_aload_n dX6_weighOption_45 rfl rfl ?_
          refine mm_getr dX6_weighOption_46 rfl fl_X6_55 (c := 28) rfl (by decide) rfl rfl (hRN.at (c := 28) (i := 0) (v := 4) rfl (by decide)) ?_
          refine mm_iload dX6_weighOption_49 rfl rfl ?_
          refine mm_iload dX6_weighOption_51 rfl rfl ?_
          refine mm_V2i dX6_weighOption_53 rfl lk_X6_143 (c := 3) rfl (by decide) rfl (by simp) (by simp) rfl rfl rfl (c3) ?_
          refine mm_ifeq dX6_weighOption_56 (by omega) (fun _ => ?_) (fun h => absurd (by decide) h)
          exact mm_drop (by repeat (first | exact trivial | refine And.intro (Or.inl rfl) ?_ | refine And.intro (Or.inr rfl) ?_)) go
    · have el : l = L := by omega
      subst el
      refine mm_iload dX6_weighOption_3 rfl rfl ?_
      refine mm_aload_n dX6_weighOption_5 rfl rfl ?_
      refine mm_getr dX6_weighOption_6 rfl fl_X6_55 (c := 28) rfl (by decide) rfl rfl (hRN.at (c := 28) (i := 0) (v := 4) rfl (by decide)) ?_
      refine mm_V0i dX6_weighOption_9 rfl lk_X6_137 (c := 3) rfl (by decide) rfl  rfl rfl rfl (cs) ?_
      refine mm_icge dX6_weighOption_12 (by omega) (by omega) (fun h12 => ?_) (fun h12 => ?_)
      · refine mm_vret dX6_weighOption_153 rfl rfl ?_
        rw [hΦ]; exact ⟨rfl, hRN, hO, by rw [← hL]; exact w⟩
      · exfalso; omega
  refine mm_start (ls := [(2, 29), (0, (o : Int)), (0, (c : Int)), (0, mm_b P), (0, lo), (0, hi), (9, 0), (9, 0), (9, 0), (9, 0), (9, 0)]) rfl ?_
  refine mm_iconst dX6_weighOption_0 rfl ?_
  refine mm_istore dX6_weighOption_1 rfl (Nat.le_of_ble_eq_true rfl) rfl ?_
  exact loop 0 (Nat.zero_le _) M ⟨hR, fun _ _ _ => rfl, fun _ _ => ⟨rfl, rfl⟩⟩ (fun d hd => Or.inl ⟨h0 d hd, fun i hi => absurd hi (by omega)⟩)
end
end
/-! HB.weigh2 -/
section
/-! ===== KitePower$LoopFinder: all options ===== -/
theorem ks_pa_iff {K : Nat → Int} {sl c w : Int} {P Q : Prop} [Decidable P] [Decidable Q] (h : P ↔ Q) : ks_pa K sl c P w = ks_pa K sl c Q w := by
  unfold ks_pa
  by_cases c : P
  · rw [if_pos c, if_pos (h.mp c)]
  · rw [if_neg c, if_neg (fun q => c (h.mpr q))]
/-- the option of a band and a column, sideways or not, is weighed -/
def kx_W (M N : mm_M) (h : Int) (b c sw : Nat) : Prop := ∀ d : Nat, d < 3 → kx_S (kx_B (M 4) c (sw = 1) (M 16 (ks_pl h b)) (M 17 (ks_pl h b))) (kx_g (M 4) c (sw = 1) (M 16 (ks_pl h b)) (M 17 (ks_pl h b)) d) (M 4 10).toNat (N 29 (((b * 6 + c) * 2 + sw) * 3 + d)) (N 30 (((b * 6 + c) * 2 + sw) * 3 + d))
def kx_J (M N : mm_M) (h : Int) (j : Nat) : Prop := mm_Rf N ∧ (∀ a, a ≠ 29 → a ≠ 30 → N a = M a) ∧ ∀ b c sw : Nat, b < 5 → (c : Int) < M 4 0 → sw < 2 → ((b * 6 + c) * 2 + sw < j → kx_W M N h b c sw) ∧ (j ≤ (b * 6 + c) * 2 + sw → ∀ d, d < 3 → N 29 (((b * 6 + c) * 2 + sw) * 3 + d) = -1)
theorem kx_J.step {M N U : mm_M} {h : Int} {b0 c0 s0 : Nat} (hJ : kx_J M N h ((b0 * 6 + c0) * 2 + s0)) (hb : b0 < 5) (hc : c0 < 6) (hs : s0 < 2) (hO : kx_OO N U (((b0 * 6 + c0) * 2 + s0) * 3)) (hW : kx_W M U h b0 c0 s0) (hA : M 4 0 ≤ 6) : kx_J M U h ((b0 * 6 + c0) * 2 + s0 + 1) := by
  refine ⟨hO.1, fun a a1 a2 => by rw [hO.2.1 a a1 a2]; exact hJ.2.1 a a1 a2, fun b c sw hb1 hc1 hs1 => ?_⟩
  obtain ⟨q1, q2⟩ := hJ.2.2 b c sw hb1 hc1 hs1
  have fr : (b * 6 + c) * 2 + sw ≠ (b0 * 6 + c0) * 2 + s0 → ∀ d, d < 3 → U 29 (((b * 6 + c) * 2 + sw) * 3 + d) = N 29 (((b * 6 + c) * 2 + sw) * 3 + d) ∧ U 30 (((b * 6 + c) * 2 + sw) * 3 + d) = N 30 (((b * 6 + c) * 2 + sw) * 3 + d) := fun hne d hd => hO.2.2 _ (by omega)
  constructor
  · intro hj
    by_cases e : (b * 6 + c) * 2 + sw = (b0 * 6 + c0) * 2 + s0
    · have e1 : b = b0 := by omega
      have e2 : c = c0 := by omega
      have e3 : sw = s0 := by omega
      rw [e1, e2, e3]; exact hW
    · intro d hd
      rw [(fr e d hd).1, (fr e d hd).2]
      exact q1 (by omega) d hd
  · intro hj d hd
    rw [(fr (by omega) d hd).1]
    exact q2 (by omega) d hd
theorem kx_J.skip {M N : mm_M} {h : Int} {b A : Nat} (hJ : kx_J M N h ((b * 6 + A) * 2)) (hA : M 4 0 = (A : Int)) (hA6 : A ≤ 6) : kx_J M N h ((b + 1) * 6 * 2) := by
  refine ⟨hJ.1, hJ.2.1, fun b' c sw hb1 hc1 hs1 => ?_⟩
  obtain ⟨q1, q2⟩ := hJ.2.2 b' c sw hb1 hc1 hs1
  exact ⟨fun hj => q1 (by omega), fun hj => q2 (by omega)⟩
section
variable {X : mm_X} {M : mm_M} {h : Int}
theorem c_X6_weighOptions (hR : mm_Rf M) (hK : mm_CK M) (hA : mm_CA M) (hh : ks_hr h) :
    mm_C X Y_X6_weighOptions 243 243 [(2, 29), (0, h)] M (fun r M' => r = (3, 0) ∧ mm_Rf M' ∧ kx_J M M' h 60) := by
  obtain ⟨Φ, hΦ⟩ : ∃ Φ : mm_V → mm_M → Prop, Φ = (fun r M' => r = (3, 0) ∧ mm_Rf M' ∧ kx_J M M' h 60) := ⟨_, rfl⟩
  rw [← hΦ]
  have hV := hK.1
  have h0 : 2 ≤ M 4 0 ∧ M 4 0 ≤ 6 := hV.1
  obtain ⟨A, hAi⟩ : ∃ A : Nat, M 4 0 = (A : Int) := ⟨(M 4 0).toNat, by omega⟩
  have e4 : ∀ N j, kx_J M N h j → N 4 = M 4 := fun N j h => h.2.1 4 (by decide) (by decide)
  have ck : ∀ N j, kx_J M N h j → mm_CK N := fun N j h => kx_ck (fun a a1 a2 => h.2.1 a (by omega) (by omega)) hK
  have wb : ∀ b : Nat, b < 5 → (0 ≤ M 16 (ks_pl h b) ∧ M 16 (ks_pl h b) ≤ 60) ∧ (0 ≤ M 17 (ks_pl h b) ∧ M 17 (ks_pl h b) ≤ 60) := by
    intro b hb
    have := hA (ks_pl h b) (ks_plb hh ⟨by omega, by omega⟩)
    omega
  have cols : ∀ b : Nat, b < 5 → (∀ N, kx_J M N h ((b + 1) * 6 * 2) → mm_J X Y_X6_weighOptions 243 243 243 91 [(2, 29), (0, h), (0, (b : Int)), (9, 0), (9, 0), (9, 0)] [] N Φ) →
      ∀ c : Nat, c ≤ A → ∀ N, kx_J M N h ((b * 6 + c) * 2) → mm_J X Y_X6_weighOptions 243 243 243 39 [(2, 29), (0, h), (0, (b : Int)), (0, M 16 (ks_pl h b)), (0, M 17 (ks_pl h b)), (0, (c : Int))] [] N Φ := by
    intro b hb out
    have w := wb b hb
    refine mm_lp ?_
    intro c hc ih N hJ
    have hRN := hJ.1
    have ca := c_X4_across (X := X) hRN
    rw [e4 N _ hJ, hAi] at ca
    by_cases hlt : c < A
    · have o1 := c_X6_optionOf (X := X) (M := N) (b := b) (c := c) (P := (0 : Nat) = 1) hb (by omega)
      rw [mm_b_f (by decide), if_neg (by decide)] at o1
      have w1 := c_X6_weighOption (X := X) (M := N) (o := ((b * 6 + c) * 2 + 0) * 3) (c := c) (P := (0 : Nat) = 1) (lo := M 16 (ks_pl h b)) (hi := M 17 (ks_pl h b)) hRN (ck N _ hJ) (by omega) (by omega) w.1 w.2 (fun d hd => (hJ.2.2 b c 0 hb (by omega) (by decide)).2 (by omega) d hd)
      rw [mm_b_f (by decide), e4 N _ hJ] at w1
      have o2 : ∀ U, mm_Fn X Y_X6_optionOf 243 [(0, (b : Int)), (0, (c : Int)), (0, 1)] U (0, (((b * 6 + c) * 2 + 1) * 3 : Nat)) U := by
        intro U
        have := c_X6_optionOf (X := X) (M := U) (b := b) (c := c) (P := (1 : Nat) = 1) hb (by omega)
        rw [mm_b_t (by decide), if_pos (by decide)] at this
        exact this
      have st1 : ∀ U, kx_OO N U (((b * 6 + c) * 2 + 0) * 3) → (∀ d : Nat, d < 3 → kx_S (kx_B (M 4) c ((0 : Nat) = 1) (M 16 (ks_pl h b)) (M 17 (ks_pl h b))) (kx_g (M 4) c ((0 : Nat) = 1) (M 16 (ks_pl h b)) (M 17 (ks_pl h b)) d) (M 4 10).toNat (U 29 (((b * 6 + c) * 2 + 0) * 3 + d)) (U 30 (((b * 6 + c) * 2 + 0) * 3 + d))) → kx_J M U h ((b * 6 + c) * 2 + 1) := fun U u1 u2 => kx_J.step (s0 := 0) hJ hb (by omega) (by decide) u1 u2 h0.2
      have w2 : ∀ U, kx_J M U h ((b * 6 + c) * 2 + 1) → mm_C X Y_X6_weighOption 243 243 [(2, 29), (0, ((((b * 6 + c) * 2 + 1) * 3 : Nat) : Int)), (0, (c : Int)), (0, 1), (0, M 16 (ks_pl h b)), (0, M 17 (ks_pl h b))] U (fun r M' => r = (3, 0) ∧ mm_Rf M' ∧ kx_J M M' h ((b * 6 + (c + 1)) * 2)) := by
        intro U hU
        have := c_X6_weighOption (X := X) (M := U) (o := ((b * 6 + c) * 2 + 1) * 3) (c := c) (P := (1 : Nat) = 1) (lo := M 16 (ks_pl h b)) (hi := M 17 (ks_pl h b)) hU.1 (ck U _ hU) (by omega) (by omega) w.1 w.2 (fun d hd => (hU.2.2 b c 1 hb (by omega) (by decide)).2 (by omega) d hd)
        rw [mm_b_t (by decide), e4 U _ hU] at this
        refine mm_C.mono this ?_
        rintro r V ⟨v1, v2, v3, v4⟩
        have := kx_J.step (s0 := 1) hU hb (by omega) (by decide) v3 v4 h0.2
        rw [show (b * 6 + c) * 2 + 1 + 1 = (b * 6 + (c + 1)) * 2 by omega] at this
        exact ⟨v1, v2, this⟩
      refine mm_iload dX6_weighOptions_39 rfl rfl ?_
      refine mm_aload_n dX6_weighOptions_41 rfl rfl ?_
      refine mm_getr dX6_weighOptions_42 rfl fl_X6_55 (c := 28) rfl (by decide) rfl rfl (hRN.at (c := 28) (i := 0) (v := 4) rfl (by decide)) ?_
      refine mm_V0i dX6_weighOptions_45 rfl lk_X6_125 (c := 3) rfl (by decide) rfl  rfl rfl rfl (ca) ?_
      refine mm_icge dX6_weighOptions_48 (by omega) (by omega) (fun h48 => ?_) (fun h48 => ?_)
      · exfalso; omega
      · refine mm_aload_n dX6_weighOptions_51 rfl rfl ?_
        refine mm_iload_n dX6_weighOptions_52 rfl rfl ?_
        refine mm_iload dX6_weighOptions_53 rfl rfl ?_
        refine mm_iconst dX6_weighOptions_55 rfl ?_
        refine mm_S3i dX6_weighOptions_56 rfl lk_X6_129 (by simp) (by simp) (by simp) rfl rfl rfl (o1) ?_
        refine mm_iload dX6_weighOptions_59 rfl rfl ?_
        refine mm_iconst dX6_weighOptions_61 rfl ?_
        refine mm_iload_n dX6_weighOptions_62 rfl rfl ?_
        refine mm_iload dX6_weighOptions_63 rfl rfl ?_
        refine mm_V5g (M1 := N) dX6_weighOptions_65 rfl lk_X6_133 (c := 28) rfl (by decide) rfl (by simp) (by simp) (by simp) (by simp) (by simp) rfl rfl rfl (w1) ?_
        rintro _ N65 ⟨rfl, p65⟩
        change mm_J _ _ _ _ _ _ _ _ _ _
        have hR65 : mm_Rf N65 := p65.1
        refine mm_aload_n dX6_weighOptions_68 rfl rfl ?_
        refine mm_iload_n dX6_weighOptions_69 rfl rfl ?_
        refine mm_iload dX6_weighOptions_70 rfl rfl ?_
        refine mm_iconst dX6_weighOptions_72 rfl ?_
        refine mm_S3i dX6_weighOptions_73 rfl lk_X6_129 (by simp) (by simp) (by simp) rfl rfl rfl (o2 _) ?_
        refine mm_iload dX6_weighOptions_76 rfl rfl ?_
        refine mm_iconst dX6_weighOptions_78 rfl ?_
        refine mm_iload_n dX6_weighOptions_79 rfl rfl ?_
        refine mm_iload dX6_weighOptions_80 rfl rfl ?_
        refine mm_V5g (M1 := N65) dX6_weighOptions_82 rfl lk_X6_133 (c := 28) rfl (by decide) rfl (by simp) (by simp) (by simp) (by simp) (by simp) rfl rfl rfl (w2 N65 (st1 N65 p65.2.1 p65.2.2)) ?_
        rintro _ N82 ⟨rfl, p82⟩
        change mm_J _ _ _ _ _ _ _ _ _ _
        have hR82 : mm_Rf N82 := p82.1
        refine mm_iinc dX6_weighOptions_85 rfl rfl (Nat.le_of_ble_eq_true rfl) rfl ?_
        refine mm_goto dX6_weighOptions_88 ?_
        have go := ih hlt N82 p82.2
        rw [show ((c + 1 : Nat) : Int) = (c : Int) + 1 by omega] at go
        exact go
    · have ec : c = A := by omega
      subst ec
      have go := out N (hJ.skip hAi (by omega))
      refine mm_iload dX6_weighOptions_39 rfl rfl ?_
      refine mm_aload_n dX6_weighOptions_41 rfl rfl ?_
      refine mm_getr dX6_weighOptions_42 rfl fl_X6_55 (c := 28) rfl (by decide) rfl rfl (hRN.at (c := 28) (i := 0) (v := 4) rfl (by decide)) ?_
      refine mm_V0i dX6_weighOptions_45 rfl lk_X6_125 (c := 3) rfl (by decide) rfl  rfl rfl rfl (ca) ?_
      refine mm_icge dX6_weighOptions_48 (by omega) (by omega) (fun h48 => ?_) (fun h48 => ?_)
      · exact mm_drop (by repeat (first | exact trivial | refine And.intro (Or.inl rfl) ?_ | refine And.intro (Or.inr rfl) ?_)) go
      · exfalso; omega
  have bands : ∀ b : Nat, b ≤ 5 → ∀ N, kx_J M N h (b * 6 * 2) → mm_J X Y_X6_weighOptions 243 243 243 10 [(2, 29), (0, h), (0, (b : Int)), (9, 0), (9, 0), (9, 0)] [] N Φ := by
    refine mm_lp ?_
    intro b hb ih N hJ
    have hRN := hJ.1
    by_cases hlt : b < 5
    · have b91 : ∀ U, kx_J M U h ((b + 1) * 6 * 2) → mm_J X Y_X6_weighOptions 243 243 243 91 [(2, 29), (0, h), (0, (b : Int)), (9, 0), (9, 0), (9, 0)] [] U Φ := by
        intro U hU
        have hRU := hU.1
        have go := ih hlt U hU
        rw [show ((b + 1 : Nat) : Int) = (b : Int) + 1 by omega] at go
        refine mm_iinc dX6_weighOptions_91 rfl rfl (Nat.le_of_ble_eq_true rfl) rfl ?_
        refine mm_goto dX6_weighOptions_94 ?_
        exact go
      have go := cols b hlt b91 0 (Nat.zero_le _) N (by rw [Nat.add_zero]; exact hJ)
      have l1 := c_X0_lowAt (X := X) (M := N) (h := h) (b := (b : Int)) hRN hh ⟨by omega, by omega⟩
      have l2 := c_X0_highAt (X := X) (M := N) (h := h) (b := (b : Int)) hRN hh ⟨by omega, by omega⟩
      rw [hJ.2.1 16 (by decide) (by decide)] at l1
      rw [hJ.2.1 17 (by decide) (by decide)] at l2
      refine mm_iload_n dX6_weighOptions_10 rfl rfl ?_
      refine mm_iconst dX6_weighOptions_11 rfl ?_
      refine mm_icge dX6_weighOptions_12 (by omega) (by omega) (fun h12 => ?_) (fun h12 => ?_)
      · exfalso; omega
      · refine mm_aload_n dX6_weighOptions_15 rfl rfl ?_
        refine mm_getr dX6_weighOptions_16 rfl fl_X6_59 (c := 28) rfl (by decide) rfl rfl (hRN.at (c := 28) (i := 1) (v := 12) rfl (by decide)) ?_
        refine mm_iload_n dX6_weighOptions_19 rfl rfl ?_
        refine mm_iload_n dX6_weighOptions_20 rfl rfl ?_
        refine mm_V2i dX6_weighOptions_21 rfl lk_X6_117 (c := 11) rfl (by decide) rfl (by simp) (by simp) rfl rfl rfl (l1) ?_
        refine mm_istore_n dX6_weighOptions_24 rfl (Nat.le_of_ble_eq_true rfl) rfl ?_
        refine mm_aload_n dX6_weighOptions_25 rfl rfl ?_
        refine mm_getr dX6_weighOptions_26 rfl fl_X6_59 (c := 28) rfl (by decide) rfl rfl (hRN.at (c := 28) (i := 1) (v := 12) rfl (by decide)) ?_
        refine mm_iload_n dX6_weighOptions_29 rfl rfl ?_
        refine mm_iload_n dX6_weighOptions_30 rfl rfl ?_
        refine mm_V2i dX6_weighOptions_31 rfl lk_X6_122 (c := 11) rfl (by decide) rfl (by simp) (by simp) rfl rfl rfl (l2) ?_
        refine mm_istore dX6_weighOptions_34 rfl (Nat.le_of_ble_eq_true rfl) rfl ?_
        refine mm_iconst dX6_weighOptions_36 rfl ?_
        refine mm_istore dX6_weighOptions_37 rfl (Nat.le_of_ble_eq_true rfl) rfl ?_
        exact go
    · have eb : b = 5 := by omega
      subst eb
      refine mm_iload_n dX6_weighOptions_10 rfl rfl ?_
      refine mm_iconst dX6_weighOptions_11 rfl ?_
      refine mm_icge dX6_weighOptions_12 (by omega) (by omega) (fun h12 => ?_) (fun h12 => ?_)
      · refine mm_vret dX6_weighOptions_97 rfl rfl ?_
        rw [hΦ]; exact ⟨rfl, hRN, hJ⟩
      · exfalso; omega
  obtain ⟨N5, hN5⟩ : ∃ Z, Z = kf_mem M 29 (fun _ => -1) 180 := ⟨_, rfl⟩
  have hR5 : mm_Rf N5 := by rw [hN5]; exact hR.fm (len := 180) rfl
  have cf := c_J7_fill2 (X := X) (M := M) (n := 243) (c := 29) (len := 180) (v := -1) (by decide) rfl
  rw [← hN5] at cf
  have J0 : kx_J M N5 h 0 := ⟨hR5, fun a a1 _ => by rw [hN5, kf_mem_n a1], fun b c sw b1 c1 s1 => ⟨fun z => absurd z (by omega), fun _ d hd => by rw [hN5, kf_mem_lt (by omega)]⟩⟩
  refine mm_start (ls := [(2, 29), (0, h), (9, 0), (9, 0), (9, 0), (9, 0)]) rfl ?_
  refine mm_aload_n dX6_weighOptions_0 rfl rfl ?_
  refine mm_getr dX6_weighOptions_1 rfl fl_X6_13 (c := 28) rfl (by decide) rfl rfl (hR.at (c := 28) (i := 2) (v := 30) rfl (by decide)) ?_
  refine mm_iconst dX6_weighOptions_4 rfl ?_
  refine mm_S2v dX6_weighOptions_5 rfl lk_X6_93 (by simp) (by simp) rfl rfl rfl (cf) ?_
  refine mm_iconst dX6_weighOptions_8 rfl ?_
  refine mm_istore_n dX6_weighOptions_9 rfl (Nat.le_of_ble_eq_true rfl) rfl ?_
  exact bands 0 (Nat.zero_le _) N5 J0
end
end
