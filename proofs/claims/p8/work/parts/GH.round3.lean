/-! ===== the reference: roundOf ===== -/
/-- what roundOf answers: the shortest round through b, if it is below m -/
def kQ_A (t : Nat → Nat → Prop) (n b : Nat) (m x : Int) : Prop := (x = 1000000 ∧ ∀ l : Nat, 1 ≤ l → (l : Int) < m → ¬ kd_D t b l b) ∨ ∃ l : Nat, x = (l : Int) ∧ 1 ≤ l ∧ (l : Int) < m ∧ l ≤ n ∧ kd_D t b l b ∧ ∀ l' : Nat, 1 ≤ l' → l' < l → ¬ kd_D t b l' b
section
variable {X : mm_X} {M : mm_M} {n : Nat}
theorem c_X13_roundOf {b : Nat} {m : Int} (hR : mm_Rf M) (hn : ks_n (mm_rk M) = (n : Int)) (hn2 : n ≤ 288) (hM : ky_M M n) (hb : b < n) (hm : 1 ≤ m ∧ m ≤ 1000000) :
    mm_C X Y_X13_roundOf 243 243 [(2, 184), (0, (b : Int)), (0, m)] M (fun r M' => ∃ x, r = (0, x) ∧ mm_Rf M' ∧ ky_I M M' ∧ kQ_A (ky_r M n) n b m x) := by
  obtain ⟨Φ, hΦ⟩ : ∃ Φ : mm_V → mm_M → Prop, Φ = (fun r M' => ∃ x, r = (0, x) ∧ mm_Rf M' ∧ ky_I M M' ∧ kQ_A (ky_r M n) n b m x) := ⟨_, rfl⟩
  rw [← hΦ]
  have hrk : ∀ N, ky_I M N → mm_rk N = mm_rk M := fun N h => mm_rk.fr (fun a b q => by rw [h.2 a (by omega) (by omega)])
  have hN := ky_M_lt hM
  -- the steps of a state
  have l3 : ∀ k u c : Nat, ∀ d : Int, u < n → M 210 u = (c : Int) → c ≤ 15 → 0 ≤ d → d + 1 < m → d ≤ (k : Int) → 
      (∀ N (e : Nat), ky_I M N → k < e → kQ_I (ky_r M n) n b (k + 1) e (N 211) (N 212) → mm_J X Y_X13_roundOf 243 243 243 168 [(2, 184), (0, (b : Int)), (0, m), (0, (e : Int)), (0, (k : Int)), (9, 0), (9, 0), (9, 0), (9, 0)] [] N Φ) →
      ∀ i : Nat, i ≤ c → ∀ N (e : Nat), ky_I M N → k < e → kQ_I (ky_r M n) n b k e (N 211) (N 212) → (N 212 k).toNat = u → kQ_d b (N 211) u = d →
      (∀ j : Nat, j < i → ∀ v : Nat, M 209 (15 * u + j) = (v : Int) → v ≠ b ∧ N 211 v ≤ d + 1 ∧ N 211 v < 1000000) →
      mm_J X Y_X13_roundOf 243 243 243 86 [(2, 184), (0, (b : Int)), (0, m), (0, (e : Int)), (0, (k : Int)), (0, (u : Int)), (0, d), (0, (i : Int)), (9, 0)] [] N Φ := by
    intro k u c d hu hc hc15 hd0 hdm hdk out
    refine mm_lp ?_
    intro i hi ih N e hI hke hQ hqu hqd hw
    have hRN := hI.1
    have hen := hQ.en
    have e9 : N 209 = M 209 := hI.2 209 (by decide) (by decide)
    have e10 : N 210 = M 210 := hI.2 210 (by decide) (by decide)
    have hcN : N 210 u = (c : Int) := by rw [e10]; exact hc
    by_cases hlt : i < c
    · obtain ⟨c', c1, c2, c3⟩ := hM u hu
      obtain ⟨v, hv, hve⟩ := c3 i (by omega)
      have hveN : N 209 (15 * u + i) = (v : Int) := by rw [e9]; exact hve
      have htv : ky_r M n (N 212 k).toNat v := by rw [hqu]; exact ⟨hu, i, by omega, hve⟩
      by_cases hvb : v = b
      · obtain ⟨d', d1, d2⟩ := hQ.close hke (by rw [← hvb]; exact htv)
        rw [hqu, hqd] at d1
        have hno := hQ.none hN d' (Or.inr ⟨hke, by rw [hqu, hqd, d1]; exact Int.le_refl _⟩)
        refine mm_iload dX13_roundOf_86 rfl rfl ?_
        refine mm_aload_n dX13_roundOf_88 rfl rfl ?_
        refine mm_getr dX13_roundOf_89 rfl fl_X13_277 (c := 183) rfl (by decide) rfl rfl (hRN.at (c := 183) (i := 43) (v := 211) rfl (by decide)) ?_
        refine mm_iload dX13_roundOf_92 rfl rfl ?_
        refine mm_ialk (k0 := u) dX13_roundOf_94 rfl (c := 210) rfl (by decide) rfl (by omega) (by omega) ?_
        rw [hcN]
        refine mm_icge dX13_roundOf_95 (by omega) (by omega) (fun h95 => ?_) (fun h95 => ?_)
        · exfalso; omega
        · refine mm_aload_n dX13_roundOf_98 rfl rfl ?_
          refine mm_getr dX13_roundOf_99 rfl fl_X13_274 (c := 183) rfl (by decide) rfl rfl (hRN.at (c := 183) (i := 42) (v := 210) rfl (by decide)) ?_
          refine mm_bipush dX13_roundOf_102 rfl (by decide) ?_
          refine mm_iload dX13_roundOf_104 rfl rfl ?_
          refine mm_imul dX13_roundOf_106 rfl ?_
          refine mm_iload dX13_roundOf_107 rfl rfl ?_
          refine mm_iadd dX13_roundOf_109 rfl ?_
          refine mm_ialk (k0 := 15 * u + i) dX13_roundOf_110 rfl (c := 209) rfl (by decide) rfl (by omega) (by omega) ?_
          rw [hveN]
          refine mm_istore dX13_roundOf_111 rfl (Nat.le_of_ble_eq_true rfl) rfl ?_
          refine mm_iload dX13_roundOf_113 rfl rfl ?_
          refine mm_iload_n dX13_roundOf_115 rfl rfl ?_
          refine mm_icne dX13_roundOf_116 (by omega) (by omega) (fun h116 => ?_) (fun h116 => ?_)
          · exfalso; omega
          · refine mm_iload dX13_roundOf_119 rfl rfl ?_
            refine mm_iconst dX13_roundOf_121 rfl ?_
            refine mm_iadd dX13_roundOf_122 rfl ?_
            refine mm_iret dX13_roundOf_123 rfl rfl ?_
            rw [hΦ]; exact ⟨_, rfl, hRN, hI, Or.inr ⟨d' + 1, by omega, by omega, by omega, by omega, d2, fun l' a z => by
            have := hno (l' - 1) (by omega)
            rw [show l' - 1 + 1 = l' by omega] at this
            exact this⟩⟩
      · have hfv := hQ.fv v hv
        by_cases hf : N 211 v = 1000000
        · obtain ⟨no, hroom⟩ := hQ.room hv hvb hf
          refine mm_iload dX13_roundOf_86 rfl rfl ?_
          refine mm_aload_n dX13_roundOf_88 rfl rfl ?_
          refine mm_getr dX13_roundOf_89 rfl fl_X13_277 (c := 183) rfl (by decide) rfl rfl (hRN.at (c := 183) (i := 43) (v := 211) rfl (by decide)) ?_
          refine mm_iload dX13_roundOf_92 rfl rfl ?_
          refine mm_ialk (k0 := u) dX13_roundOf_94 rfl (c := 210) rfl (by decide) rfl (by omega) (by omega) ?_
          rw [hcN]
          refine mm_icge dX13_roundOf_95 (by omega) (by omega) (fun h95 => ?_) (fun h95 => ?_)
          · exfalso; omega
          · refine mm_aload_n dX13_roundOf_98 rfl rfl ?_
            refine mm_getr dX13_roundOf_99 rfl fl_X13_274 (c := 183) rfl (by decide) rfl rfl (hRN.at (c := 183) (i := 42) (v := 210) rfl (by decide)) ?_
            refine mm_bipush dX13_roundOf_102 rfl (by decide) ?_
            refine mm_iload dX13_roundOf_104 rfl rfl ?_
            refine mm_imul dX13_roundOf_106 rfl ?_
            refine mm_iload dX13_roundOf_107 rfl rfl ?_
            refine mm_iadd dX13_roundOf_109 rfl ?_
            refine mm_ialk (k0 := 15 * u + i) dX13_roundOf_110 rfl (c := 209) rfl (by decide) rfl (by omega) (by omega) ?_
            rw [hveN]
            refine mm_istore dX13_roundOf_111 rfl (Nat.le_of_ble_eq_true rfl) rfl ?_
            refine mm_iload dX13_roundOf_113 rfl rfl ?_
            refine mm_iload_n dX13_roundOf_115 rfl rfl ?_
            refine mm_icne dX13_roundOf_116 (by omega) (by omega) (fun h116 => ?_) (fun h116 => ?_)
            · refine mm_aload_n dX13_roundOf_124 rfl rfl ?_
              refine mm_getr dX13_roundOf_125 rfl fl_X13_280 (c := 183) rfl (by decide) rfl rfl (hRN.at (c := 183) (i := 44) (v := 212) rfl (by decide)) ?_
              refine mm_iload dX13_roundOf_128 rfl rfl ?_
              refine mm_ialk (k0 := v) dX13_roundOf_130 rfl (c := 211) rfl (by decide) rfl (by omega) (by omega) ?_
              refine mm_ldcw dX13_roundOf_131 rfl kc_X13_543 ?_
              refine mm_icge dX13_roundOf_134 (by omega) (by omega) (fun h134 => ?_) (fun h134 => ?_)
              · refine mm_aload_n dX13_roundOf_140 rfl rfl ?_
                refine mm_getr dX13_roundOf_141 rfl fl_X13_280 (c := 183) rfl (by decide) rfl rfl (hRN.at (c := 183) (i := 44) (v := 212) rfl (by decide)) ?_
                refine mm_iload dX13_roundOf_144 rfl rfl ?_
                refine mm_iload dX13_roundOf_146 rfl rfl ?_
                refine mm_iconst dX13_roundOf_148 rfl ?_
                refine mm_iadd dX13_roundOf_149 rfl ?_
                refine mm_istk (k0 := v) dX13_roundOf_150 rfl (c := 211) rfl (by decide) rfl (by omega) (by omega) (fun M150 hM150 => ?_)
                have hR150 : mm_Rf M150 := by rw [hM150]; exact hRN.up (mm_rt_ar (t := 0) rfl (by decide))
                refine mm_aload_n dX13_roundOf_151 rfl rfl ?_
                refine mm_getr dX13_roundOf_152 rfl fl_X13_283 (c := 183) rfl (by decide) rfl rfl (hR150.at (c := 183) (i := 45) (v := 213) rfl (by decide)) ?_
                refine mm_iload_n dX13_roundOf_155 rfl rfl ?_
                refine mm_iload dX13_roundOf_156 rfl rfl ?_
                refine mm_istk (k0 := e) dX13_roundOf_158 rfl (c := 212) rfl (by decide) rfl (by omega) (by omega) (fun M158 hM158 => ?_)
                have hR158 : mm_Rf M158 := by rw [hM158]; exact hR150.up (mm_rt_ar (t := 0) rfl (by decide))
                refine mm_iinc dX13_roundOf_159 rfl rfl (Nat.le_of_ble_eq_true rfl) rfl ?_
                refine mm_iinc dX13_roundOf_162 rfl rfl (Nat.le_of_ble_eq_true rfl) rfl ?_
                refine mm_goto dX13_roundOf_165 ?_
                have f1 : M158 211 v = d + 1 := by rw [hM158, mm_up_row (by decide), hM150, mm_up_s]
                have f2 : ∀ w, w ≠ v → M158 211 w = N 211 w := fun w hw => by rw [hM158, mm_up_row (by decide), hM150, mm_up_i hw]
                have q1 : M158 212 e = (v : Int) := by rw [hM158, mm_up_s]
                have q2 : ∀ w, w ≠ e → M158 212 w = N 212 w := fun w hw => by rw [hM158, mm_up_i hw, hM150, mm_up_row (by decide)]
                obtain ⟨p1, p2⟩ := hQ.push hke hv hvb hf (by omega) htv (by rw [f1, hqu, hqd]) f2 q1 q2
                have go := ih hlt _ (e + 1) ⟨hR158, fun a a1 a2 => by rw [hM158, mm_up_row a2, hM150, mm_up_row a1]; exact hI.2 a a1 a2⟩ (by omega) p1 (by rw [q2 k (by omega)]; exact hqu) (by rw [hqu, hqd, q2 k (by omega), hqu] at p2; exact p2) (fun j hj w hjw => by
                  by_cases cj : j = i
                  · have wv : w = v := by rw [cj, hve] at hjw; omega
                    rw [wv, f1]
                    exact ⟨hvb, Int.le_refl _, by omega⟩
                  · obtain ⟨x1, x2, x3⟩ := hw j (by omega) w hjw
                    have wv : w ≠ v := fun z => by rw [z, hf] at x3; omega
                    rw [f2 w wv]
                    exact ⟨x1, x2, x3⟩)
                rw [show ((i + 1 : Nat) : Int) = (i : Int) + 1 by omega, show ((e + 1 : Nat) : Int) = (e : Int) + 1 by omega] at go
                exact mm_drop (by repeat (first | exact trivial | refine And.intro (Or.inl rfl) ?_ | refine And.intro (Or.inr rfl) ?_)) go
              · exfalso; omega
            · exfalso; omega
        · obtain ⟨dv, v1, v2, v3, v4, -, x, x1, x2⟩ : ∃ dv : Nat, N 211 v = (dv : Int) ∧ 1 ≤ dv ∧ dv ≤ n ∧ v ≠ b ∧ kd_R (ky_r M n) b dv v ∧ ∃ x, x < e ∧ (N 212 x).toNat = v := by
            rcases hfv with z | z
            · exact absurd z hf
            · exact z
          have vle : N 211 v ≤ d + 1 := by
            have := hQ.up hke x x1
            rw [x2, hqu, hqd] at this
            have e : kQ_d b (N 211) v = N 211 v := by unfold kQ_d; rw [if_neg hvb]
            omega
          have go := ih hlt N e hI hke hQ hqu hqd (fun j hj w hjw => by
            by_cases cj : j = i
            · have wv : w = v := by rw [cj, hve] at hjw; omega
              rw [wv]
              exact ⟨hvb, vle, by omega⟩
            · exact hw j (by omega) w hjw)
          rw [show ((i + 1 : Nat) : Int) = (i : Int) + 1 by omega] at go
          refine mm_iload dX13_roundOf_86 rfl rfl ?_
          refine mm_aload_n dX13_roundOf_88 rfl rfl ?_
          refine mm_getr dX13_roundOf_89 rfl fl_X13_277 (c := 183) rfl (by decide) rfl rfl (hRN.at (c := 183) (i := 43) (v := 211) rfl (by decide)) ?_
          refine mm_iload dX13_roundOf_92 rfl rfl ?_
          refine mm_ialk (k0 := u) dX13_roundOf_94 rfl (c := 210) rfl (by decide) rfl (by omega) (by omega) ?_
          rw [hcN]
          refine mm_icge dX13_roundOf_95 (by omega) (by omega) (fun h95 => ?_) (fun h95 => ?_)
          · exfalso; omega
          · refine mm_aload_n dX13_roundOf_98 rfl rfl ?_
            refine mm_getr dX13_roundOf_99 rfl fl_X13_274 (c := 183) rfl (by decide) rfl rfl (hRN.at (c := 183) (i := 42) (v := 210) rfl (by decide)) ?_
            refine mm_bipush dX13_roundOf_102 rfl (by decide) ?_
            refine mm_iload dX13_roundOf_104 rfl rfl ?_
            refine mm_imul dX13_roundOf_106 rfl ?_
            refine mm_iload dX13_roundOf_107 rfl rfl ?_
            refine mm_iadd dX13_roundOf_109 rfl ?_
            refine mm_ialk (k0 := 15 * u + i) dX13_roundOf_110 rfl (c := 209) rfl (by decide) rfl (by omega) (by omega) ?_
            rw [hveN]
            refine mm_istore dX13_roundOf_111 rfl (Nat.le_of_ble_eq_true rfl) rfl ?_
            refine mm_iload dX13_roundOf_113 rfl rfl ?_
            refine mm_iload_n dX13_roundOf_115 rfl rfl ?_
            refine mm_icne dX13_roundOf_116 (by omega) (by omega) (fun h116 => ?_) (fun h116 => ?_)
            · refine mm_aload_n dX13_roundOf_124 rfl rfl ?_
              refine mm_getr dX13_roundOf_125 rfl fl_X13_280 (c := 183) rfl (by decide) rfl rfl (hRN.at (c := 183) (i := 44) (v := 212) rfl (by decide)) ?_
              refine mm_iload dX13_roundOf_128 rfl rfl ?_
              refine mm_ialk (k0 := v) dX13_roundOf_130 rfl (c := 211) rfl (by decide) rfl (by omega) (by omega) ?_
              refine mm_ldcw dX13_roundOf_131 rfl kc_X13_543 ?_
              refine mm_icge dX13_roundOf_134 (by omega) (by omega) (fun h134 => ?_) (fun h134 => ?_)
              · exfalso; omega
              · refine mm_goto dX13_roundOf_137 ?_
                refine mm_iinc dX13_roundOf_162 rfl rfl (Nat.le_of_ble_eq_true rfl) rfl ?_
                refine mm_goto dX13_roundOf_165 ?_
                exact mm_drop (by repeat (first | exact trivial | refine And.intro (Or.inl rfl) ?_ | refine And.intro (Or.inr rfl) ?_)) go
            · exfalso; omega
    · have ei : i = c := by omega
      subst ei
      have go := out N e hI hke (hQ.next hke (fun v hv => by
        rw [hqu] at hv ⊢
        rw [hqd]
        obtain ⟨-, j, j1, j2⟩ := hv
        exact hw j (by omega) v j2))
      refine mm_iload dX13_roundOf_86 rfl rfl ?_
      refine mm_aload_n dX13_roundOf_88 rfl rfl ?_
      refine mm_getr dX13_roundOf_89 rfl fl_X13_277 (c := 183) rfl (by decide) rfl rfl (hRN.at (c := 183) (i := 43) (v := 211) rfl (by decide)) ?_
      refine mm_iload dX13_roundOf_92 rfl rfl ?_
      refine mm_ialk (k0 := u) dX13_roundOf_94 rfl (c := 210) rfl (by decide) rfl (by omega) (by omega) ?_
      rw [hcN]
      refine mm_icge dX13_roundOf_95 (by omega) (by omega) (fun h95 => ?_) (fun h95 => ?_)
      · exact mm_drop (by repeat (first | exact trivial | refine And.intro (Or.inl rfl) ?_ | refine And.intro (Or.inr rfl) ?_)) go
      · exfalso; omega
  -- the states of the queue
  have l2 : ∀ k : Nat, k ≤ n → ∀ N (e : Nat), ky_I M N → kQ_I (ky_r M n) n b k e (N 211) (N 212) → mm_J X Y_X13_roundOf 243 243 243 37 [(2, 184), (0, (b : Int)), (0, m), (0, (e : Int)), (0, (k : Int)), (9, 0), (9, 0), (9, 0), (9, 0)] [] N Φ := by
    refine mm_lp ?_
    intro k hk ih N e hI hQ
    have hRN := hI.1
    have hen := hQ.en
    have hke := hQ.ke
    by_cases hlt : k < e
    · obtain ⟨u, hu⟩ : ∃ u, u = (N 212 k).toNat := ⟨_, rfl⟩
      have hqn := hQ.qn k hlt
      rw [← hu] at hqn
      obtain ⟨hqu, hun⟩ := hqn
      obtain ⟨d, hd⟩ : ∃ d, d = kQ_d b (N 211) u := ⟨_, rfl⟩
      have hd0 := hQ.dge hlt
      have hdk := hQ.di k hlt
      rw [← hu, ← hd] at hd0 hdk
      obtain ⟨c, c1, c2, -⟩ := hM u hun
      have cases : d + 1 < m ∨ m ≤ d + 1 := by omega
      have hno : m ≤ d + 1 → ∀ l : Nat, 1 ≤ l → (l : Int) < m → ¬ kd_D (ky_r M n) b l b := by
        intro z l l1 l2
        have := hQ.none hN d.toNat (Or.inr ⟨hlt, by rw [← hu, ← hd]; omega⟩) (l - 1) (by omega)
        rw [show l - 1 + 1 = l by omega] at this
        exact this
      have b168 : ∀ P (e : Nat), ky_I M P → k < e → kQ_I (ky_r M n) n b (k + 1) e (P 211) (P 212) → mm_J X Y_X13_roundOf 243 243 243 168 [(2, 184), (0, (b : Int)), (0, m), (0, (e : Int)), (0, (k : Int)), (9, 0), (9, 0), (9, 0), (9, 0)] [] P Φ := by
        intro P e hP hke hPQ
        have hRP := hP.1
        have go := ih (by omega) P e hP hPQ
        rw [show ((k + 1 : Nat) : Int) = (k : Int) + 1 by omega] at go
        refine mm_iinc dX13_roundOf_168 rfl rfl (Nat.le_of_ble_eq_true rfl) rfl ?_
        refine mm_goto dX13_roundOf_171 ?_
        exact go
      have go : d + 1 < m → mm_J X Y_X13_roundOf 243 243 243 86 [(2, 184), (0, (b : Int)), (0, m), (0, (e : Int)), (0, (k : Int)), (0, (u : Int)), (0, d), (0, (0 : Int)), (9, 0)] [] N Φ := fun z => l3 k u c d hun c1 c2 hd0 z hdk b168 0 (Nat.zero_le _) N e hI hlt hQ hu.symm hd.symm (fun j hj => absurd hj (by omega))
      by_cases cb : u = b
      · have d0 : d = 0 := by rw [hd]; unfold kQ_d; rw [if_pos cb]
        rw [d0] at go hno
        refine mm_iload dX13_roundOf_37 rfl rfl ?_
        refine mm_iload_n dX13_roundOf_39 rfl rfl ?_
        refine mm_icge dX13_roundOf_40 (by omega) (by omega) (fun h40 => ?_) (fun h40 => ?_)
        · exfalso; omega
        · refine mm_aload_n dX13_roundOf_43 rfl rfl ?_
          refine mm_getr dX13_roundOf_44 rfl fl_X13_283 (c := 183) rfl (by decide) rfl rfl (hRN.at (c := 183) (i := 45) (v := 213) rfl (by decide)) ?_
          refine mm_iload dX13_roundOf_47 rfl rfl ?_
          refine mm_ialk (k0 := k) dX13_roundOf_49 rfl (c := 212) rfl (by decide) rfl (by omega) (by omega) ?_
          rw [hqu]
          refine mm_istore dX13_roundOf_50 rfl (Nat.le_of_ble_eq_true rfl) rfl ?_
          refine mm_iload dX13_roundOf_52 rfl rfl ?_
          refine mm_iload_n dX13_roundOf_54 rfl rfl ?_
          refine mm_icne dX13_roundOf_55 (by omega) (by omega) (fun h55 => ?_) (fun h55 => ?_)
          · exfalso; omega
          · refine mm_iconst dX13_roundOf_58 rfl ?_
            refine mm_goto dX13_roundOf_59 ?_
            refine mm_istore dX13_roundOf_69 rfl (Nat.le_of_ble_eq_true rfl) rfl ?_
            refine mm_iload dX13_roundOf_71 rfl rfl ?_
            refine mm_iconst dX13_roundOf_73 rfl ?_
            refine mm_iadd dX13_roundOf_74 rfl ?_
            refine mm_iload_n dX13_roundOf_75 rfl rfl ?_
            refine mm_iclt dX13_roundOf_76 (by omega) (by omega) (fun h76 => ?_) (fun h76 => ?_)
            · refine mm_iconst dX13_roundOf_83 rfl ?_
              refine mm_istore dX13_roundOf_84 rfl (Nat.le_of_ble_eq_true rfl) rfl ?_
              exact go (by omega)
            · refine mm_ldcw dX13_roundOf_79 rfl kc_X13_543 ?_
              refine mm_iret dX13_roundOf_82 rfl rfl ?_
              rw [hΦ]; exact ⟨_, rfl, hRN, hI, Or.inl ⟨rfl, hno (by omega)⟩⟩
      · have hfd : N 211 u = d := by rw [hd]; unfold kQ_d; rw [if_neg cb]
        refine mm_iload dX13_roundOf_37 rfl rfl ?_
        refine mm_iload_n dX13_roundOf_39 rfl rfl ?_
        refine mm_icge dX13_roundOf_40 (by omega) (by omega) (fun h40 => ?_) (fun h40 => ?_)
        · exfalso; omega
        · refine mm_aload_n dX13_roundOf_43 rfl rfl ?_
          refine mm_getr dX13_roundOf_44 rfl fl_X13_283 (c := 183) rfl (by decide) rfl rfl (hRN.at (c := 183) (i := 45) (v := 213) rfl (by decide)) ?_
          refine mm_iload dX13_roundOf_47 rfl rfl ?_
          refine mm_ialk (k0 := k) dX13_roundOf_49 rfl (c := 212) rfl (by decide) rfl (by omega) (by omega) ?_
          rw [hqu]
          refine mm_istore dX13_roundOf_50 rfl (Nat.le_of_ble_eq_true rfl) rfl ?_
          refine mm_iload dX13_roundOf_52 rfl rfl ?_
          refine mm_iload_n dX13_roundOf_54 rfl rfl ?_
          refine mm_icne dX13_roundOf_55 (by omega) (by omega) (fun h55 => ?_) (fun h55 => ?_)
          · refine mm_aload_n dX13_roundOf_62 rfl rfl ?_
            refine mm_getr dX13_roundOf_63 rfl fl_X13_280 (c := 183) rfl (by decide) rfl rfl (hRN.at (c := 183) (i := 44) (v := 212) rfl (by decide)) ?_
            refine mm_iload dX13_roundOf_66 rfl rfl ?_
            refine mm_ialk (k0 := u) dX13_roundOf_68 rfl (c := 211) rfl (by decide) rfl (by omega) (by omega) ?_
            rw [hfd]
            refine mm_istore dX13_roundOf_69 rfl (Nat.le_of_ble_eq_true rfl) rfl ?_
            refine mm_iload dX13_roundOf_71 rfl rfl ?_
            refine mm_iconst dX13_roundOf_73 rfl ?_
            refine mm_iadd dX13_roundOf_74 rfl ?_
            refine mm_iload_n dX13_roundOf_75 rfl rfl ?_
            refine mm_iclt dX13_roundOf_76 (by omega) (by omega) (fun h76 => ?_) (fun h76 => ?_)
            · refine mm_iconst dX13_roundOf_83 rfl ?_
              refine mm_istore dX13_roundOf_84 rfl (Nat.le_of_ble_eq_true rfl) rfl ?_
              exact go (by omega)
            · refine mm_ldcw dX13_roundOf_79 rfl kc_X13_543 ?_
              refine mm_iret dX13_roundOf_82 rfl rfl ?_
              rw [hΦ]; exact ⟨_, rfl, hRN, hI, Or.inl ⟨rfl, hno (by omega)⟩⟩
          · exfalso; omega
    · have ek : k = e := by omega
      have hno : ∀ l : Nat, 1 ≤ l → (l : Int) < m → ¬ kd_D (ky_r M n) b l b := by
        intro l l1 l2
        have := hQ.none hN l (Or.inl ek) (l - 1) (by omega)
        rw [show l - 1 + 1 = l by omega] at this
        exact this
      refine mm_iload dX13_roundOf_37 rfl rfl ?_
      refine mm_iload_n dX13_roundOf_39 rfl rfl ?_
      refine mm_icge dX13_roundOf_40 (by omega) (by omega) (fun h40 => ?_) (fun h40 => ?_)
      · refine mm_ldcw dX13_roundOf_174 rfl kc_X13_543 ?_
        refine mm_iret dX13_roundOf_177 rfl rfl ?_
        rw [hΦ]; exact ⟨_, rfl, hRN, hI, Or.inl ⟨rfl, hno⟩⟩
      · exfalso; omega
  have l1 : ∀ s : Nat, s ≤ n → ∀ N, ky_I M N → (∀ v, v < s → N 211 v = 1000000) → mm_J X Y_X13_roundOf 243 243 243 2 [(2, 184), (0, (b : Int)), (0, m), (0, (s : Int)), (9, 0), (9, 0), (9, 0), (9, 0), (9, 0)] [] N Φ := by
    refine mm_lp ?_
    intro s hs ih N hI hH
    have hRN := hI.1
    have cn := c_X13_states (X := X) hRN
    rw [hrk N hI, hn] at cn
    by_cases hlt : s < n
    · refine mm_iload_n dX13_roundOf_2 rfl rfl ?_
      refine mm_aload_n dX13_roundOf_3 rfl rfl ?_
      refine mm_V0i dX13_roundOf_4 rfl lk_X13_458 (c := 183) rfl (by decide) rfl  rfl rfl rfl (cn) ?_
      refine mm_icge dX13_roundOf_7 (by omega) (by omega) (fun h7 => ?_) (fun h7 => ?_)
      · exfalso; omega
      · refine mm_aload_n dX13_roundOf_10 rfl rfl ?_
        refine mm_getr dX13_roundOf_11 rfl fl_X13_280 (c := 183) rfl (by decide) rfl rfl (hRN.at (c := 183) (i := 44) (v := 212) rfl (by decide)) ?_
        refine mm_iload_n dX13_roundOf_14 rfl rfl ?_
        refine mm_ldcw dX13_roundOf_15 rfl kc_X13_543 ?_
        refine mm_istk (k0 := s) dX13_roundOf_18 rfl (c := 211) rfl (by decide) rfl (by omega) (by omega) (fun M18 hM18 => ?_)
        have hR18 : mm_Rf M18 := by rw [hM18]; exact hRN.up (mm_rt_ar (t := 0) rfl (by decide))
        refine mm_iinc dX13_roundOf_19 rfl rfl (Nat.le_of_ble_eq_true rfl) rfl ?_
        refine mm_goto dX13_roundOf_22 ?_
        have go := ih hlt _ ⟨hR18, ?_⟩ ?_
        · rw [show ((s + 1 : Nat) : Int) = (s : Int) + 1 by omega] at go
          exact go
        · intro a a1 a2; rw [hM18, mm_up_row a1]; exact hI.2 a a1 a2
        · intro v hv
          by_cases c : v = s
          · rw [c, hM18, mm_up_s]
          · rw [hM18, mm_up_i (by omega)]; exact hH v (by omega)
    · have es : s = n := by omega
      subst es
      refine mm_iload_n dX13_roundOf_2 rfl rfl ?_
      refine mm_aload_n dX13_roundOf_3 rfl rfl ?_
      refine mm_V0i dX13_roundOf_4 rfl lk_X13_458 (c := 183) rfl (by decide) rfl  rfl rfl rfl (cn) ?_
      refine mm_icge dX13_roundOf_7 (by omega) (by omega) (fun h7 => ?_) (fun h7 => ?_)
      · refine mm_aload_n dX13_roundOf_25 rfl rfl ?_
        refine mm_getr dX13_roundOf_26 rfl fl_X13_283 (c := 183) rfl (by decide) rfl rfl (hRN.at (c := 183) (i := 45) (v := 213) rfl (by decide)) ?_
        refine mm_iconst dX13_roundOf_29 rfl ?_
        refine mm_iload_n dX13_roundOf_30 rfl rfl ?_
        refine mm_istk (k0 := 0) dX13_roundOf_31 rfl (c := 212) rfl (by decide) rfl rfl (by decide) (fun M31 hM31 => ?_)
        have hR31 : mm_Rf M31 := by rw [hM31]; exact hRN.up (mm_rt_ar (t := 0) rfl (by decide))
        refine mm_iconst dX13_roundOf_32 rfl ?_
        refine mm_istore_n dX13_roundOf_33 rfl (Nat.le_of_ble_eq_true rfl) rfl ?_
        refine mm_iconst dX13_roundOf_34 rfl ?_
        refine mm_istore dX13_roundOf_35 rfl (Nat.le_of_ble_eq_true rfl) rfl ?_
        exact l2 0 (Nat.zero_le _) _ 1 ⟨hR31, fun a a1 a2 => by rw [hM31, mm_up_row a2]; exact hI.2 a a1 a2⟩ (kQ_I.zero hb (by rw [hM31, mm_up_row (by decide)]; exact hH) (by rw [hM31, mm_up_s]))
      · exfalso; omega
  refine mm_start (ls := [(2, 184), (0, (b : Int)), (0, m), (9, 0), (9, 0), (9, 0), (9, 0), (9, 0), (9, 0)]) rfl ?_
  refine mm_iconst dX13_roundOf_0 rfl ?_
  refine mm_istore_n dX13_roundOf_1 rfl (Nat.le_of_ble_eq_true rfl) rfl ?_
  exact l1 0 (Nat.zero_le _) M ⟨hR, fun _ _ _ => rfl⟩ (fun v hv => absurd hv (by omega))
end

