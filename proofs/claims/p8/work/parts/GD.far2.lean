/-! ===== the reference: findFar ===== -/
/-- a told step -/
def ky_r (M : mm_M) (n u v : Nat) : Prop := u < n ∧ ∃ j : Nat, (j : Int) < M 210 u ∧ M 209 (15 * u + j) = (v : Int)
section
variable {X : mm_X} {M : mm_M} {n : Nat}
theorem ky_M_lt (hM : ky_M M n) : ∀ u v, ky_r M n u v → v < n := by
  rintro u v ⟨hu, j, j1, j2⟩
  obtain ⟨c, c1, c2, c3⟩ := hM u hu
  obtain ⟨w, w1, w2⟩ := c3 j (by omega)
  omega
theorem ky_lead {N : mm_M} {v g r c : Nat} (hM : ky_M M n) (hv : v < n) (h9 : N 209 = M 209) (hc : M 210 v = (c : Int)) : kd_L (ky_r M n) g r (N 211) v ↔ ∃ j, j < c ∧ ky_c N v j (g : Int) ((r + 1 : Nat) : Int) := by
  unfold kd_L ky_c ky_r
  by_cases r0 : r = 0
  · rw [if_pos r0]
    constructor
    · rintro ⟨-, j, j1, j2⟩
      exact ⟨j, by omega, by rw [if_pos (by omega), h9]; exact j2⟩
    · rintro ⟨j, j1, j2⟩
      rw [if_pos (by omega), h9] at j2
      exact ⟨hv, j, by omega, j2⟩
  · rw [if_neg r0]
    constructor
    · rintro ⟨u, ⟨-, j, j1, j2⟩, u2⟩
      refine ⟨j, by omega, ?_⟩
      rw [if_neg (by omega), h9, j2, show ((u : Int)).toNat = u by omega, u2]
      omega
    · rintro ⟨j, j1, j2⟩
      obtain ⟨d, d1, d2, d3⟩ := hM v hv
      obtain ⟨w, w1, w2⟩ := d3 j (by omega)
      rw [if_neg (by omega), h9, w2, show ((w : Int)).toNat = w by omega] at j2
      exact ⟨w, ⟨hv, j, by omega, w2⟩, by omega⟩
def ky_I (M N : mm_M) : Prop := mm_Rf N ∧ ∀ a, a ≠ 211 → a ≠ 212 → N a = M a
theorem c_X13_findFar {g m : Nat} (hR : mm_Rf M) (hn : ks_n (mm_rk M) = (n : Int)) (hn2 : n ≤ 288) (hM : ky_M M n) (hg : g < n) (hm : m ≤ 1000) :
    mm_C X Y_X13_findFar 243 243 [(2, 184), (0, (g : Int)), (0, (m : Int))] M (fun r M' => r = (3, 0) ∧ mm_Rf M' ∧ ky_I M M' ∧ kd_F (ky_r M n) g n m (M' 211)) := by
  obtain ⟨Φ, hΦ⟩ : ∃ Φ : mm_V → mm_M → Prop, Φ = (fun r M' => r = (3, 0) ∧ mm_Rf M' ∧ ky_I M M' ∧ kd_F (ky_r M n) g n m (M' 211)) := ⟨_, rfl⟩
  rw [← hΦ]
  have hrk : ∀ N, ky_I M N → mm_rk N = mm_rk M := fun N h => mm_rk.fr (fun a b q => by rw [h.2 a (by omega) (by omega)])
  -- those that were gathered are written
  have l4 : ∀ r : Nat, r < m → ∀ f : Nat → Int, ∀ Q : Nat → Int, ∀ e : Nat, e ≤ n → (∀ k, k < e → ∃ v : Nat, v < n ∧ Q k = (v : Int)) →
      (∀ N, ky_I M N → (∀ v, v < n → (∃ k, k < e ∧ Q k = (v : Int)) → N 211 v = ((r + 1 : Nat) : Int)) → (∀ v, v < n → ¬ (∃ k, k < e ∧ Q k = (v : Int)) → N 211 v = f v) → mm_J X Y_X13_findFar 243 243 243 121 [(2, 184), (0, (g : Int)), (0, (m : Int)), (0, ((r + 1 : Nat) : Int)), (9, 0), (9, 0)] [] N Φ) →
      ∀ k : Nat, k ≤ e → ∀ N, ky_I M N → N 212 = Q → (∀ v, v < n → (∃ i, i < k ∧ Q i = (v : Int)) → N 211 v = ((r + 1 : Nat) : Int)) → (∀ v, v < n → ¬ (∃ i, i < k ∧ Q i = (v : Int)) → N 211 v = f v) →
      mm_J X Y_X13_findFar 243 243 243 95 [(2, 184), (0, (g : Int)), (0, (m : Int)), (0, ((r + 1 : Nat) : Int)), (0, (e : Int)), (0, (k : Int))] [] N Φ := by
    intro r hr f Q e he hQ out
    refine mm_lp ?_
    intro k hk ih N hI hNQ w1 w2
    have hRN := hI.1
    by_cases hlt : k < e
    · obtain ⟨v, hv, hqv⟩ := hQ k hlt
      refine mm_iload dX13_findFar_95 rfl rfl ?_
      refine mm_iload dX13_findFar_97 rfl rfl ?_
      refine mm_icge dX13_findFar_99 (by omega) (by omega) (fun h99 => ?_) (fun h99 => ?_)
      · exfalso; omega
      · refine mm_aload_n dX13_findFar_102 rfl rfl ?_
        refine mm_getr dX13_findFar_103 rfl fl_X13_280 (c := 183) rfl (by decide) rfl rfl (hRN.at (c := 183) (i := 44) (v := 212) rfl (by decide)) ?_
        refine mm_aload_n dX13_findFar_106 rfl rfl ?_
        refine mm_getr dX13_findFar_107 rfl fl_X13_283 (c := 183) rfl (by decide) rfl rfl (hRN.at (c := 183) (i := 45) (v := 213) rfl (by decide)) ?_
        refine mm_iload dX13_findFar_110 rfl rfl ?_
        refine mm_ialk (k0 := k) dX13_findFar_112 rfl (c := 212) rfl (by decide) rfl (by omega) (by omega) ?_
        rw [hNQ, hqv]
        refine mm_iload_n dX13_findFar_113 rfl rfl ?_
        refine mm_istk (k0 := v) dX13_findFar_114 rfl (c := 211) rfl (by decide) rfl (by omega) (by omega) (fun M114 hM114 => ?_)
        have hR114 : mm_Rf M114 := by rw [hM114]; exact hRN.up (mm_rt_ar (t := 0) rfl (by decide))
        refine mm_iinc dX13_findFar_115 rfl rfl (Nat.le_of_ble_eq_true rfl) rfl ?_
        refine mm_goto dX13_findFar_118 ?_
        have go := ih hlt _ ⟨hR114, ?_⟩ ?_ ?_ ?_
        · rw [show ((k + 1 : Nat) : Int) = (k : Int) + 1 by omega] at go
          exact go
        · intro a a1 a2; rw [hM114, mm_up_row a1]; exact hI.2 a a1 a2
        · rw [hM114, mm_up_row (by decide)]; exact hNQ
        · rintro u hu ⟨i, i1, i2⟩
          by_cases c : u = v
          · rw [c, hM114, mm_up_s]
          · rw [hM114, mm_up_i c]
            refine w1 u hu ⟨i, ?_, i2⟩
            by_cases ci : i = k
            · rw [ci, hqv] at i2; exfalso; omega
            · omega
        · intro u hu q
          have c : u ≠ v := fun c => q ⟨k, by omega, by rw [c]; exact hqv⟩
          rw [hM114, mm_up_i c]
          exact w2 u hu (fun ⟨i, i1, i2⟩ => q ⟨i, by omega, i2⟩)
    · have ek : k = e := by omega
      subst ek
      have go := out N hI w1 w2
      refine mm_iload dX13_findFar_95 rfl rfl ?_
      refine mm_iload dX13_findFar_97 rfl rfl ?_
      refine mm_icge dX13_findFar_99 (by omega) (by omega) (fun h99 => ?_) (fun h99 => ?_)
      · exact mm_drop (ls' := [(2, 184), (0, (g : Int)), (0, (m : Int)), (0, ((r + 1 : Nat) : Int)), (9, 0), (9, 0)]) (by repeat (first | exact trivial | refine And.intro (Or.inl rfl) ?_ | refine And.intro (Or.inr rfl) ?_)) go
      · exfalso; omega
  -- they are gathered
  have l3 : ∀ r : Nat, r < m → ∀ f : Nat → Int, kd_F (ky_r M n) g n r f →
      (∀ N (e : Nat), ky_I M N → e ≤ n → N 211 = f → (∀ k, k < e → ∃ v : Nat, v < n ∧ N 212 k = (v : Int) ∧ f v = 1000000 ∧ kd_L (ky_r M n) g r f v) → (∀ v, v < n → f v = 1000000 → kd_L (ky_r M n) g r f v → ∃ k, k < e ∧ N 212 k = (v : Int)) → mm_J X Y_X13_findFar 243 243 243 92 [(2, 184), (0, (g : Int)), (0, (m : Int)), (0, ((r + 1 : Nat) : Int)), (0, (e : Int)), (9, 0)] [] N Φ) →
      ∀ s : Nat, s ≤ n → ∀ N (e : Nat), ky_I M N → e ≤ s → N 211 = f → (∀ k, k < e → ∃ v : Nat, v < s ∧ N 212 k = (v : Int) ∧ f v = 1000000 ∧ kd_L (ky_r M n) g r f v) → (∀ v, v < s → f v = 1000000 → kd_L (ky_r M n) g r f v → ∃ k, k < e ∧ N 212 k = (v : Int)) →
      mm_J X Y_X13_findFar 243 243 243 38 [(2, 184), (0, (g : Int)), (0, (m : Int)), (0, ((r + 1 : Nat) : Int)), (0, (e : Int)), (0, (s : Int))] [] N Φ := by
    intro r hr f hF out
    have hfb : ∀ v, v < n → 0 ≤ f v ∧ f v ≤ 1000000 := by
      intro v hv
      rcases hF v hv with q | ⟨d, d1, d2, d3, -⟩ <;> omega
    refine mm_lp ?_
    intro s hs ih N e hI he hNf w1 w2
    have hRN := hI.1
    have cn := c_X13_states (X := X) hRN
    rw [hrk N hI, hn] at cn
    by_cases hlt : s < n
    · have hfs := hfb s hlt
      have e9 : N 209 = M 209 := hI.2 209 (by decide) (by decide)
      have e10 : N 210 = M 210 := hI.2 210 (by decide) (by decide)
      have hMN : ky_M N n := by unfold ky_M; rw [e9, e10]; exact hM
      obtain ⟨c, c1, -, -⟩ := hM s hlt
      have no : ¬ (f s = 1000000 ∧ kd_L (ky_r M n) g r f s) → mm_J X Y_X13_findFar 243 243 243 38 [(2, 184), (0, (g : Int)), (0, (m : Int)), (0, ((r + 1 : Nat) : Int)), (0, (e : Int)), (0, (s : Int) + 1)] [] N Φ := by
        intro q
        have go := ih hlt N e hI (by omega) hNf (fun k hk => by
          obtain ⟨v, v1, v2⟩ := w1 k hk
          exact ⟨v, by omega, v2⟩) (fun v hv a b => by
          by_cases cc : v = s
          · rw [cc] at a b; exact absurd ⟨a, b⟩ q
          · exact w2 v (by omega) a b)
        rw [show ((s + 1 : Nat) : Int) = (s : Int) + 1 by omega] at go
        exact go
      have hlead := ky_lead (N := N) (g := g) (r := r) hM hlt e9 c1
      rw [hNf] at hlead
      by_cases hL : kd_L (ky_r M n) g r f s
      · have cl := c_X13_leadsTo (X := X) (b := 1) (goal := (g : Int)) (r := ((r + 1 : Nat) : Int)) hRN hn2 hMN hlt (by rw [e10]; exact c1) (by unfold mm_R; omega) (by omega) (by rw [hNf]; exact hfb) (Or.inl ⟨rfl, hlead.mp hL⟩)
        refine mm_iload dX13_findFar_38 rfl rfl ?_
        refine mm_aload_n dX13_findFar_40 rfl rfl ?_
        refine mm_V0i dX13_findFar_41 rfl lk_X13_458 (c := 183) rfl (by decide) rfl  rfl rfl rfl (cn) ?_
        refine mm_icge dX13_findFar_44 (by omega) (by omega) (fun h44 => ?_) (fun h44 => ?_)
        · exfalso; omega
        · refine mm_aload_n dX13_findFar_47 rfl rfl ?_
          refine mm_getr dX13_findFar_48 rfl fl_X13_280 (c := 183) rfl (by decide) rfl rfl (hRN.at (c := 183) (i := 44) (v := 212) rfl (by decide)) ?_
          refine mm_iload dX13_findFar_51 rfl rfl ?_
          refine mm_ialk (k0 := s) dX13_findFar_53 rfl (c := 211) rfl (by decide) rfl (by omega) (by omega) ?_
          rw [hNf]
          refine mm_ldcw dX13_findFar_54 rfl kc_X13_543 ?_
          refine mm_iclt dX13_findFar_57 (by omega) (by omega) (fun h57 => ?_) (fun h57 => ?_)
          · refine mm_iinc dX13_findFar_86 rfl rfl (Nat.le_of_ble_eq_true rfl) rfl ?_
            refine mm_goto dX13_findFar_89 ?_
            first
            | exact no (fun q => absurd q.1 (by omega))
            | (have go := ih hlt _ (e + 1) ⟨hRN, fun a a1 a2 => by rw [hM82, mm_up_row a2]; exact hI.2 a a1 a2⟩ (by omega) (by rw [hM82, mm_up_row (by decide)]; exact hNf) (fun k hk => by
                by_cases cc : k = e
                · exact ⟨s, by omega, by rw [cc, hM82, mm_up_s], by omega, hL⟩
                · obtain ⟨v, v1, v2⟩ := w1 k (by omega)
                  exact ⟨v, by omega, by rw [hM82, mm_up_i cc]; exact v2⟩) (fun v hv a b => by
                by_cases cc : v = s
                · exact ⟨e, by omega, by rw [cc, hM82, mm_up_s]⟩
                · obtain ⟨k, k1, k2⟩ := w2 v (by omega) a b
                  exact ⟨k, by omega, by rw [hM82, mm_up_i (by omega)]; exact k2⟩)
               rw [show ((s + 1 : Nat) : Int) = (s : Int) + 1 by omega, show ((e + 1 : Nat) : Int) = (e : Int) + 1 by omega] at go
               exact go)
          · refine mm_aload_n dX13_findFar_60 rfl rfl ?_
            refine mm_iload dX13_findFar_61 rfl rfl ?_
            refine mm_iload_n dX13_findFar_63 rfl rfl ?_
            refine mm_iload_n dX13_findFar_64 rfl rfl ?_
            refine mm_V3i dX13_findFar_65 rfl lk_X13_544 (c := 183) rfl (by decide) rfl (by simp) (by simp) (by simp) rfl rfl rfl (cl) ?_
            refine mm_ifne dX13_findFar_68 (by omega) (fun _ => ?_) (fun h => absurd h (by decide))
            refine mm_aload_n dX13_findFar_74 rfl rfl ?_
            refine mm_getr dX13_findFar_75 rfl fl_X13_283 (c := 183) rfl (by decide) rfl rfl (hRN.at (c := 183) (i := 45) (v := 213) rfl (by decide)) ?_
            refine mm_iload dX13_findFar_78 rfl rfl ?_
            refine mm_iload dX13_findFar_80 rfl rfl ?_
            refine mm_istk (k0 := e) dX13_findFar_82 rfl (c := 212) rfl (by decide) rfl (by omega) (by omega) (fun M82 hM82 => ?_)
            have hR82 : mm_Rf M82 := by rw [hM82]; exact hRN.up (mm_rt_ar (t := 0) rfl (by decide))
            refine mm_iinc dX13_findFar_83 rfl rfl (Nat.le_of_ble_eq_true rfl) rfl ?_
            refine mm_iinc dX13_findFar_86 rfl rfl (Nat.le_of_ble_eq_true rfl) rfl ?_
            refine mm_goto dX13_findFar_89 ?_
            first
            | exact no (fun q => absurd q.1 (by omega))
            | (have go := ih hlt _ (e + 1) ⟨hR82, fun a a1 a2 => by rw [hM82, mm_up_row a2]; exact hI.2 a a1 a2⟩ (by omega) (by rw [hM82, mm_up_row (by decide)]; exact hNf) (fun k hk => by
                by_cases cc : k = e
                · exact ⟨s, by omega, by rw [cc, hM82, mm_up_s], by omega, hL⟩
                · obtain ⟨v, v1, v2⟩ := w1 k (by omega)
                  exact ⟨v, by omega, by rw [hM82, mm_up_i cc]; exact v2⟩) (fun v hv a b => by
                by_cases cc : v = s
                · exact ⟨e, by omega, by rw [cc, hM82, mm_up_s]⟩
                · obtain ⟨k, k1, k2⟩ := w2 v (by omega) a b
                  exact ⟨k, by omega, by rw [hM82, mm_up_i (by omega)]; exact k2⟩)
               rw [show ((s + 1 : Nat) : Int) = (s : Int) + 1 by omega, show ((e + 1 : Nat) : Int) = (e : Int) + 1 by omega] at go
               exact go)
      · have cl := c_X13_leadsTo (X := X) (b := 0) (goal := (g : Int)) (r := ((r + 1 : Nat) : Int)) hRN hn2 hMN hlt (by rw [e10]; exact c1) (by unfold mm_R; omega) (by omega) (by rw [hNf]; exact hfb) (Or.inr ⟨rfl, fun j hj q => hL (hlead.mpr ⟨j, hj, q⟩)⟩)
        refine mm_iload dX13_findFar_38 rfl rfl ?_
        refine mm_aload_n dX13_findFar_40 rfl rfl ?_
        refine mm_V0i dX13_findFar_41 rfl lk_X13_458 (c := 183) rfl (by decide) rfl  rfl rfl rfl (cn) ?_
        refine mm_icge dX13_findFar_44 (by omega) (by omega) (fun h44 => ?_) (fun h44 => ?_)
        · exfalso; omega
        · refine mm_aload_n dX13_findFar_47 rfl rfl ?_
          refine mm_getr dX13_findFar_48 rfl fl_X13_280 (c := 183) rfl (by decide) rfl rfl (hRN.at (c := 183) (i := 44) (v := 212) rfl (by decide)) ?_
          refine mm_iload dX13_findFar_51 rfl rfl ?_
          refine mm_ialk (k0 := s) dX13_findFar_53 rfl (c := 211) rfl (by decide) rfl (by omega) (by omega) ?_
          rw [hNf]
          refine mm_ldcw dX13_findFar_54 rfl kc_X13_543 ?_
          refine mm_iclt dX13_findFar_57 (by omega) (by omega) (fun h57 => ?_) (fun h57 => ?_)
          · refine mm_iinc dX13_findFar_86 rfl rfl (Nat.le_of_ble_eq_true rfl) rfl ?_
            refine mm_goto dX13_findFar_89 ?_
            exact no (fun q => hL q.2)
          · refine mm_aload_n dX13_findFar_60 rfl rfl ?_
            refine mm_iload dX13_findFar_61 rfl rfl ?_
            refine mm_iload_n dX13_findFar_63 rfl rfl ?_
            refine mm_iload_n dX13_findFar_64 rfl rfl ?_
            refine mm_V3i dX13_findFar_65 rfl lk_X13_544 (c := 183) rfl (by decide) rfl (by simp) (by simp) (by simp) rfl rfl rfl (cl) ?_
            refine mm_ifne dX13_findFar_68 (by omega) (fun h => absurd h (by decide)) (fun _ => ?_)
            refine mm_goto dX13_findFar_71 ?_
            refine mm_iinc dX13_findFar_86 rfl rfl (Nat.le_of_ble_eq_true rfl) rfl ?_
            refine mm_goto dX13_findFar_89 ?_
            exact no (fun q => hL q.2)
    · have es : s = n := by omega
      subst es
      have go := out N e hI he hNf w1 w2
      refine mm_iload dX13_findFar_38 rfl rfl ?_
      refine mm_aload_n dX13_findFar_40 rfl rfl ?_
      refine mm_V0i dX13_findFar_41 rfl lk_X13_458 (c := 183) rfl (by decide) rfl  rfl rfl rfl (cn) ?_
      refine mm_icge dX13_findFar_44 (by omega) (by omega) (fun h44 => ?_) (fun h44 => ?_)
      · exact mm_drop (ls' := [(2, 184), (0, (g : Int)), (0, (m : Int)), (0, ((r + 1 : Nat) : Int)), (0, (e : Int)), (9, 0)]) (by repeat (first | exact trivial | refine And.intro (Or.inl rfl) ?_ | refine And.intro (Or.inr rfl) ?_)) go
      · exfalso; omega
  -- the rounds
  have l2 : ∀ r : Nat, r ≤ m → ∀ N, ky_I M N → kd_F (ky_r M n) g n r (N 211) → mm_J X Y_X13_findFar 243 243 243 27 [(2, 184), (0, (g : Int)), (0, (m : Int)), (0, ((r + 1 : Nat) : Int)), (9, 0), (9, 0)] [] N Φ := by
    refine mm_lp ?_
    intro r hr ih N hI hF
    have hRN := hI.1
    by_cases hlt : r < m
    · have b121 : ∀ P, ky_I M P → kd_F (ky_r M n) g n (r + 1) (P 211) → mm_J X Y_X13_findFar 243 243 243 121 [(2, 184), (0, (g : Int)), (0, (m : Int)), (0, ((r + 1 : Nat) : Int)), (9, 0), (9, 0)] [] P Φ := by
        intro P hP hQ
        have go := ih hlt P hP hQ
        have hRP := hP.1
        rw [show ((r + 1 + 1 : Nat) : Int) = ((r + 1 : Nat) : Int) + 1 by omega] at go
        refine mm_iinc dX13_findFar_121 rfl rfl (Nat.le_of_ble_eq_true rfl) rfl ?_
        refine mm_goto dX13_findFar_124 ?_
        exact go
      have b92 : ∀ P (e : Nat), ky_I M P → e ≤ n → P 211 = N 211 → (∀ k, k < e → ∃ v : Nat, v < n ∧ P 212 k = (v : Int) ∧ N 211 v = 1000000 ∧ kd_L (ky_r M n) g r (N 211) v) → (∀ v, v < n → N 211 v = 1000000 → kd_L (ky_r M n) g r (N 211) v → ∃ k, k < e ∧ P 212 k = (v : Int)) → mm_J X Y_X13_findFar 243 243 243 92 [(2, 184), (0, (g : Int)), (0, (m : Int)), (0, ((r + 1 : Nat) : Int)), (0, (e : Int)), (9, 0)] [] P Φ := by
        intro P e hP he hPf w1 w2
        have hRP := hP.1
        have go := l4 r hlt (N 211) (P 212) e he (fun k hk => by
          obtain ⟨v, v1, v2, -⟩ := w1 k hk
          exact ⟨v, v1, v2⟩) (fun Q hQ q1 q2 => b121 Q hQ (hF.step (by omega) (ky_M_lt hM) (fun v hv a b => q1 v hv (w2 v hv a b)) (fun v hv q => q2 v hv (fun ⟨k, k1, k2⟩ => by
            obtain ⟨u, u1, u2, u3, u4⟩ := w1 k k1
            have : u = v := by omega
            rw [this] at u3 u4
            exact q ⟨u3, u4⟩)))) 0 (Nat.zero_le _) P hP rfl (fun v hv ⟨i, i1, _⟩ => absurd i1 (by omega)) (fun v hv _ => by rw [hPf])
        refine mm_iconst dX13_findFar_92 rfl ?_
        refine mm_istore dX13_findFar_93 rfl (Nat.le_of_ble_eq_true rfl) rfl ?_
        exact go
      have go := l3 r hlt (N 211) hF b92 0 (Nat.zero_le _) N 0 hI (Nat.le_refl _) rfl (fun k hk => absurd hk (by omega)) (fun v hv => absurd hv (by omega))
      refine mm_iload_n dX13_findFar_27 rfl rfl ?_
      refine mm_iload_n dX13_findFar_28 rfl rfl ?_
      refine mm_icgt dX13_findFar_29 (by omega) (by omega) (fun h29 => ?_) (fun h29 => ?_)
      · exfalso; omega
      · refine mm_iconst dX13_findFar_32 rfl ?_
        refine mm_istore dX13_findFar_33 rfl (Nat.le_of_ble_eq_true rfl) rfl ?_
        refine mm_iconst dX13_findFar_35 rfl ?_
        refine mm_istore dX13_findFar_36 rfl (Nat.le_of_ble_eq_true rfl) rfl ?_
        exact go
    · have er : r = m := by omega
      subst er
      refine mm_iload_n dX13_findFar_27 rfl rfl ?_
      refine mm_iload_n dX13_findFar_28 rfl rfl ?_
      refine mm_icgt dX13_findFar_29 (by omega) (by omega) (fun h29 => ?_) (fun h29 => ?_)
      · refine mm_vret dX13_findFar_127 rfl rfl ?_
        rw [hΦ]; exact ⟨rfl, hRN, hI, hF⟩
      · exfalso; omega
  have l1 : ∀ s : Nat, s ≤ n → ∀ N, ky_I M N → (∀ v, v < s → N 211 v = 1000000) → mm_J X Y_X13_findFar 243 243 243 2 [(2, 184), (0, (g : Int)), (0, (m : Int)), (0, (s : Int)), (9, 0), (9, 0)] [] N Φ := by
    refine mm_lp ?_
    intro s hs ih N hI hH
    have hRN := hI.1
    have cn := c_X13_states (X := X) hRN
    rw [hrk N hI, hn] at cn
    by_cases hlt : s < n
    · refine mm_iload_n dX13_findFar_2 rfl rfl ?_
      refine mm_aload_n dX13_findFar_3 rfl rfl ?_
      refine mm_V0i dX13_findFar_4 rfl lk_X13_458 (c := 183) rfl (by decide) rfl  rfl rfl rfl (cn) ?_
      refine mm_icge dX13_findFar_7 (by omega) (by omega) (fun h7 => ?_) (fun h7 => ?_)
      · exfalso; omega
      · refine mm_aload_n dX13_findFar_10 rfl rfl ?_
        refine mm_getr dX13_findFar_11 rfl fl_X13_280 (c := 183) rfl (by decide) rfl rfl (hRN.at (c := 183) (i := 44) (v := 212) rfl (by decide)) ?_
        refine mm_iload_n dX13_findFar_14 rfl rfl ?_
        refine mm_ldcw dX13_findFar_15 rfl kc_X13_543 ?_
        refine mm_istk (k0 := s) dX13_findFar_18 rfl (c := 211) rfl (by decide) rfl (by omega) (by omega) (fun M18 hM18 => ?_)
        have hR18 : mm_Rf M18 := by rw [hM18]; exact hRN.up (mm_rt_ar (t := 0) rfl (by decide))
        refine mm_iinc dX13_findFar_19 rfl rfl (Nat.le_of_ble_eq_true rfl) rfl ?_
        refine mm_goto dX13_findFar_22 ?_
        have go := ih hlt _ ⟨hR18, ?_⟩ ?_
        · rw [show ((s + 1 : Nat) : Int) = (s : Int) + 1 by omega] at go
          exact go
        · intro a a1 a2; rw [hM18, mm_up_row a1]; exact hI.2 a a1 a2
        · intro v hv
          by_cases c : v = s
          · rw [c, hM18, mm_up_s]
          · rw [hM18, mm_up_i (by omega)]; exact hH v (by omega)
    · have es : s = n := by omega
      subst es
      have go := l2 0 (Nat.zero_le _) N hI (kd_F.zero hH)
      refine mm_iload_n dX13_findFar_2 rfl rfl ?_
      refine mm_aload_n dX13_findFar_3 rfl rfl ?_
      refine mm_V0i dX13_findFar_4 rfl lk_X13_458 (c := 183) rfl (by decide) rfl  rfl rfl rfl (cn) ?_
      refine mm_icge dX13_findFar_7 (by omega) (by omega) (fun h7 => ?_) (fun h7 => ?_)
      · refine mm_iconst dX13_findFar_25 rfl ?_
        refine mm_istore_n dX13_findFar_26 rfl (Nat.le_of_ble_eq_true rfl) rfl ?_
        exact go
      · exfalso; omega
  refine mm_start (ls := [(2, 184), (0, (g : Int)), (0, (m : Int)), (9, 0), (9, 0), (9, 0)]) rfl ?_
  refine mm_iconst dX13_findFar_0 rfl ?_
  refine mm_istore_n dX13_findFar_1 rfl (Nat.le_of_ble_eq_true rfl) rfl ?_
  exact l1 0 (Nat.zero_le _) M ⟨hR, fun _ _ _ => rfl⟩ (fun v hv => absurd hv (by omega))
end

