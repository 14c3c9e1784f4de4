/-! ===== the reference: steps ===== -/
/-- fewer locals are known -/
def mm_dr : List mm_V → List mm_V → Prop
  | [], [] => True
  | a :: as, b :: bs => (b = a ∨ b.1 = 9) ∧ mm_dr as bs
  | _, _ => False
theorem mm_dr.at : ∀ {as bs : List mm_V}, mm_dr as bs → ∀ (i : Nat) (v : mm_V), bs[i]? = some v → v.1 ≠ 9 → as[i]? = some v
  | [], [], _, i, v, h, _ => by simp at h
  | a :: as, b :: bs, hd, i, v, h, hv => by
    match i with
    | 0 =>
      simp at h
      subst h
      rcases hd.1 with e | e
      · rw [e]; rfl
      · exact absurd e hv
    | i + 1 =>
      simp at h ⊢
      exact mm_dr.at hd.2 i v h hv
  | [], b :: bs, hd, _, _, _, _ => absurd hd (by unfold mm_dr; exact id)
  | a :: as, [], hd, _, _, _, _ => absurd hd (by unfold mm_dr; exact id)
theorem mm_drop {X : mm_X} {Y : mm_Y} {n0 n1 n pc : Nat} {ls ls' st : List mm_V} {M : mm_M} {Φ : mm_V → mm_M → Prop} (h : mm_dr ls ls') (k : mm_J X Y n0 n1 n pc ls' st M Φ) : mm_J X Y n0 n1 n pc ls st M Φ := by
  intro p l e R s m args below meth c D cA bs ro H locs lsr C hP hS hL
  exact k p l e R s m args below meth c D cA bs ro H locs lsr C hP hS ⟨hL.1, hL.2.1, fun i v hi hv => hL.2.2 i v (h.at i v hi hv) hv⟩
/-- what the first l slants tell of a step: whether one of them is safe, and what it gives at most -/
def ke_P (K Lo Hi : Nat → Int) (h s : Int) (t l : Nat) (f v : Int) : Prop :=
  (f = 0 ∧ ∀ i, i < l → ¬ ks_safe K Lo Hi s (15 * (i : Int) + t) h) ∨ (f = 1 ∧ (∃ i, i < l ∧ ks_safe K Lo Hi s (15 * (i : Int) + t) h ∧ ks_sure K Lo Hi s (15 * (i : Int) + t) h = v) ∧ ∀ i, i < l → ks_safe K Lo Hi s (15 * (i : Int) + t) h → ks_sure K Lo Hi s (15 * (i : Int) + t) h ≤ v)
theorem ke_P.no {K Lo Hi : Nat → Int} {h s f v : Int} {t l : Nat} (q : ke_P K Lo Hi h s t l f v) (hn : ¬ ks_safe K Lo Hi s (15 * (l : Int) + t) h) : ke_P K Lo Hi h s t (l + 1) f v := by
  rcases q with ⟨q1, q2⟩ | ⟨q1, ⟨i, i1, i2, i3⟩, q3⟩
  · refine Or.inl ⟨q1, fun i hi => ?_⟩
    by_cases e : i = l
    · rw [e]; exact hn
    · exact q2 i (by omega)
  · refine Or.inr ⟨q1, ⟨i, by omega, i2, i3⟩, fun i hi => ?_⟩
    by_cases e : i = l
    · rw [e]; exact fun z => absurd z hn
    · exact q3 i (by omega)
theorem ke_P.yes {K Lo Hi : Nat → Int} {h s f v : Int} {t l : Nat} (q : ke_P K Lo Hi h s t l f v) (hn : ks_safe K Lo Hi s (15 * (l : Int) + t) h) : ke_P K Lo Hi h s t (l + 1) 1 (if f = 0 then ks_sure K Lo Hi s (15 * (l : Int) + t) h else max v (ks_sure K Lo Hi s (15 * (l : Int) + t) h)) := by
  rcases q with ⟨q1, q2⟩ | ⟨q1, ⟨i, i1, i2, i3⟩, q3⟩
  · rw [if_pos q1]
    refine Or.inr ⟨rfl, ⟨l, by omega, hn, rfl⟩, fun i hi z => ?_⟩
    by_cases e : i = l
    · rw [e]; exact Int.le_refl _
    · exact absurd z (q2 i (by omega))
  · rw [if_neg (by omega)]
    refine Or.inr ⟨rfl, ?_, fun i hi z => ?_⟩
    · by_cases c : v ≤ ks_sure K Lo Hi s (15 * (l : Int) + t) h
      · exact ⟨l, by omega, hn, by omega⟩
      · exact ⟨i, by omega, i2, by omega⟩
    · by_cases e : i = l
      · rw [e]; omega
      · have := q3 i (by omega) z
        omega
section
variable {X : mm_X} {M : mm_M} {h : Int}
/-- so many steps are found -/
def ke_D (M N : mm_M) (h : Int) (m : Nat) : Prop := mm_Rf N ∧ (∀ a, a ≠ 205 → a ≠ 206 → N a = M a) ∧ ∀ x, x < m → ke_P (mm_rk M) (M 203) (M 204) h ((x / 15 : Nat) : Int) (x % 15) (mm_rk M 10).toNat (N 205 x) (N 206 x)
theorem ke_fr {M N : mm_M} (f : ∀ a, a ≠ 205 → a ≠ 206 → N a = M a) : mm_rk N = mm_rk M ∧ N 203 = M 203 ∧ N 204 = M 204 ∧ (mm_RA M → mm_RA N) := by
  refine ⟨mm_rk.fr (fun a b q => by rw [f a (by omega) (by omega)]), f 203 (by decide) (by decide), f 204 (by decide) (by decide), fun q => ?_⟩
  unfold mm_RA at q ⊢
  rw [f 203 (by decide) (by decide), f 204 (by decide) (by decide)]
  exact q
theorem c_X13_findSteps (hR : mm_Rf M) (hK : mm_KV (mm_rk M)) (hA : mm_RA M) (hh : ks_hr h) : mm_C X Y_X13_findSteps 243 243 [(2, 184), (0, h)] M (fun r M' => r = (3, 0) ∧ ke_D M M' h (15 * (ks_n (mm_rk M)).toNat)) := by
  obtain ⟨Φ, hΦ⟩ : ∃ Φ : mm_V → mm_M → Prop, Φ = (fun r M' => r = (3, 0) ∧ ke_D M M' h (15 * (ks_n (mm_rk M)).toNat)) := ⟨_, rfl⟩
  rw [← hΦ]
  have hnb := ks_nb hK
  obtain ⟨n, hn⟩ : ∃ n, n = (ks_n (mm_rk M)).toNat := ⟨_, rfl⟩
  have hni : ks_n (mm_rk M) = (n : Int) := by omega
  have h10 : 1 ≤ mm_rk M 10 ∧ mm_rk M 10 ≤ 3 := by
    obtain ⟨-, -, -, -, -, -, -, -, -, -, q, -⟩ := hK
    exact q
  obtain ⟨L, hL⟩ : ∃ L, L = (mm_rk M 10).toNat := ⟨_, rfl⟩
  have hLi : mm_rk M 10 = (L : Int) := by omega
  have e16 : ∀ N : mm_M, mm_rk N 10 = N 183 16 := fun N => mm_rk_n N
  -- the slants of a step
  have inner : ∀ s : Nat, s < n → ∀ t : Nat, t < 15 → (∀ N, ke_D M N h (15 * s + t + 1) → mm_J X Y_X13_findSteps 243 243 243 127 [(2, 184), (0, h), (0, (s : Int)), (0, (t : Int)), (9, 0), (9, 0), (9, 0), (9, 0)] [] N Φ) →
      ∀ l : Nat, l ≤ L → ∀ N : mm_M, ke_D M N h (15 * s + t) → ke_P (mm_rk M) (M 203) (M 204) h (s : Int) t l (N 205 (15 * s + t)) (N 206 (15 * s + t)) →
      mm_J X Y_X13_findSteps 243 243 243 37 [(2, 184), (0, h), (0, (s : Int)), (0, (t : Int)), (0, ((15 * s + t : Nat) : Int)), (0, (l : Int)), (9, 0), (9, 0)] [] N Φ := by
    intro s hs t ht out
    refine mm_lp ?_
    intro l hl ih N hD hP
    obtain ⟨hRN, f1, f2⟩ := id hD
    obtain ⟨rk, r3, r4, ra⟩ := ke_fr f1
    have el : N 183 16 = (L : Int) := (e16 N).symm.trans (by rw [rk]; exact hLi)
    by_cases hlt : l < L
    · have hst : ks_st (mm_rk N) (s : Int) := ⟨by omega, by rw [rk, hni]; omega⟩
      have hac : ks_ac (mm_rk N) (15 * (l : Int) + t) := ⟨by omega, by rw [rk, hLi]; omega⟩
      have cs := c_X13_isSafe (X := X) hRN (by rw [rk]; exact hK) (ra hA) hst hac hh
      have cg := c_X13_surely (X := X) hRN (by rw [rk]; exact hK) (ra hA) hst hac hh
      rw [rk, r3, r4] at cs cg
      have gb := ks_sureb (Lo := M 203) (Hi := M 204) (s := (s : Int)) (hr := h) hK (by rw [← rk]; exact hac) (hA.wi hK (by rw [← rk]; exact hst) hh).1 (hA.wi hK (by rw [← rk]; exact hst) hh).2
      by_cases hsf : ks_safe (mm_rk M) (M 203) (M 204) (s : Int) (15 * (l : Int) + t) h
      · rw [mm_b_t hsf] at cs
        have fin : ∀ P : mm_M, P = mm_up (mm_up N 206 (15 * s + t) (if N 205 (15 * s + t) = 0 then ks_sure (mm_rk M) (M 203) (M 204) (s : Int) (15 * (l : Int) + t) h else max (N 206 (15 * s + t)) (ks_sure (mm_rk M) (M 203) (M 204) (s : Int) (15 * (l : Int) + t) h))) 205 (15 * s + t) 1 →
            mm_J X Y_X13_findSteps 243 243 243 37 [(2, 184), (0, h), (0, (s : Int)), (0, (t : Int)), (0, ((15 * s + t : Nat) : Int)), (0, (l : Int) + 1), (9, 0), (9, 0)] [] P Φ := by
          intro P hPe
          have := ih hlt P ⟨?_, ?_, ?_⟩ ?_
          · rw [show ((l + 1 : Nat) : Int) = (l : Int) + 1 by omega] at this; exact this
          · rw [hPe]; exact (hRN.up (mm_rt_ar (t := 0) rfl (by decide))).up (mm_rt_ar (t := 2) rfl (by decide))
          · intro a a1 a2; rw [hPe, mm_up_row a1, mm_up_row a2]; exact f1 a a1 a2
          · intro x hx; rw [hPe, mm_up_i (by omega), mm_up_row (by decide), mm_up_row (by decide), mm_up_i (by omega)]; exact f2 x hx
          · rw [hPe, mm_up_s, mm_up_row (by decide), mm_up_s]; exact hP.yes hsf
        have hvb : N 205 (15 * s + t) ≠ 0 → -5800000 ≤ N 206 (15 * s + t) ∧ N 206 (15 * s + t) ≤ 5800000 := by
          intro q
          rcases hP with q1 | ⟨-, ⟨i, i1, -, i3⟩, -⟩
          · exact absurd q1.1 q
          · rw [← i3]
            exact ks_sureb hK ⟨by omega, by rw [hLi]; omega⟩ (hA.wi hK (by rw [← rk]; exact hst) hh).1 (hA.wi hK (by rw [← rk]; exact hst) hh).2
        have h01 : N 205 (15 * s + t) = 0 ∨ N 205 (15 * s + t) = 1 := by rcases hP with q | q; exact Or.inl q.1; exact Or.inr q.1
        refine mm_iload dX13_findSteps_37 rfl rfl ?_
        refine mm_aload_n dX13_findSteps_39 rfl rfl ?_
        refine mm_get (kd := 0) dX13_findSteps_40 rfl fl_X13_154 (c := 183) rfl (by decide) rfl rfl ?_
        rw [el]
        refine mm_icge dX13_findSteps_43 (by omega) (by omega) (fun h43 => ?_) (fun h43 => ?_)
        · exfalso; omega
        · refine mm_bipush dX13_findSteps_46 rfl (by decide) ?_
          refine mm_iload dX13_findSteps_48 rfl rfl ?_
          refine mm_imul dX13_findSteps_50 rfl ?_
          refine mm_iload_n dX13_findSteps_51 rfl rfl ?_
          refine mm_iadd dX13_findSteps_52 rfl ?_
          refine mm_istore dX13_findSteps_53 rfl (Nat.le_of_ble_eq_true rfl) rfl ?_
          refine mm_aload_n dX13_findSteps_55 rfl rfl ?_
          refine mm_iload_n dX13_findSteps_56 rfl rfl ?_
          refine mm_iload dX13_findSteps_57 rfl rfl ?_
          refine mm_iload_n dX13_findSteps_59 rfl rfl ?_
          refine mm_V3i dX13_findSteps_60 rfl lk_X13_510 (c := 183) rfl (by decide) rfl (by simp) (by simp) (by simp) rfl rfl rfl (cs) ?_
          refine mm_ifne dX13_findSteps_63 (by omega) (fun _ => ?_) (fun h => absurd h (by decide))
          refine mm_aload_n dX13_findSteps_69 rfl rfl ?_
          refine mm_iload_n dX13_findSteps_70 rfl rfl ?_
          refine mm_iload dX13_findSteps_71 rfl rfl ?_
          refine mm_iload_n dX13_findSteps_73 rfl rfl ?_
          refine mm_V3i dX13_findSteps_74 rfl lk_X13_514 (c := 183) rfl (by decide) rfl (by simp) (by simp) (by simp) rfl rfl rfl (cg) ?_
          refine mm_istore dX13_findSteps_77 rfl (Nat.le_of_ble_eq_true rfl) rfl ?_
          refine mm_aload_n dX13_findSteps_79 rfl rfl ?_
          refine mm_getr dX13_findSteps_80 rfl fl_X13_264 (c := 183) rfl (by decide) rfl rfl (hRN.at (c := 183) (i := 37) (v := 207) rfl (by decide)) ?_
          refine mm_iload dX13_findSteps_83 rfl rfl ?_
          refine mm_aload_n dX13_findSteps_85 rfl rfl ?_
          refine mm_getr dX13_findSteps_86 rfl fl_X13_261 (c := 183) rfl (by decide) rfl rfl (hRN.at (c := 183) (i := 36) (v := 206) rfl (by decide)) ?_
          refine mm_iload dX13_findSteps_89 rfl rfl ?_
          refine mm_zalk (k0 := 15 * s + t) dX13_findSteps_91 rfl (c := 205) rfl (by decide) rfl (by omega) (by omega) ?_
          refine mm_ifeq dX13_findSteps_92 (by omega) (fun h92 => ?_) (fun h92 => ?_)
          · refine mm_iload dX13_findSteps_110 rfl rfl ?_
            refine mm_istk (k0 := 15 * s + t) dX13_findSteps_112 rfl (c := 206) rfl (by decide) rfl (by omega) (by omega) (fun M112 hM112 => ?_)
            have hR112 : mm_Rf M112 := by rw [hM112]; exact hRN.up (mm_rt_ar (t := 0) rfl (by decide))
            refine mm_aload_n dX13_findSteps_113 rfl rfl ?_
            refine mm_getr dX13_findSteps_114 rfl fl_X13_261 (c := 183) rfl (by decide) rfl rfl (hR112.at (c := 183) (i := 36) (v := 206) rfl (by decide)) ?_
            refine mm_iload dX13_findSteps_117 rfl rfl ?_
            refine mm_iconst dX13_findSteps_119 rfl ?_
            refine mm_zstk (k0 := 15 * s + t) dX13_findSteps_120 rfl (c := 205) rfl (by decide) rfl (by omega) (by omega) (Or.inr rfl) (fun M120 hM120 => ?_)
            have hR120 : mm_Rf M120 := by rw [hM120]; exact hR112.up (mm_rt_ar (t := 2) rfl (by decide))
            refine mm_iinc dX13_findSteps_121 rfl rfl (Nat.le_of_ble_eq_true rfl) rfl ?_
            refine mm_goto dX13_findSteps_124 ?_
            refine mm_drop (ls' := [(2, 184), (0, h), (0, (s : Int)), (0, (t : Int)), (0, ((15 * s + t : Nat) : Int)), (0, (l : Int) + 1), (9, 0), (9, 0)]) (by simp [mm_dr]) (fin _ ?_)
            first
              | (rw [hM120, hM112, if_pos h92]; done)
              | (rw [hM120, hM112, if_neg h92]; done)
          · refine mm_aload_n dX13_findSteps_95 rfl rfl ?_
            refine mm_getr dX13_findSteps_96 rfl fl_X13_264 (c := 183) rfl (by decide) rfl rfl (hRN.at (c := 183) (i := 37) (v := 207) rfl (by decide)) ?_
            refine mm_iload dX13_findSteps_99 rfl rfl ?_
            refine mm_ialk (k0 := 15 * s + t) dX13_findSteps_101 rfl (c := 206) rfl (by decide) rfl (by omega) (by omega) ?_
            refine mm_iload dX13_findSteps_102 rfl rfl ?_
            refine mm_max dX13_findSteps_104 rfl lm_X13_518 rfl rfl (by simp) (by omega) (by omega) ?_
            refine mm_goto dX13_findSteps_107 ?_
            refine mm_istk (k0 := 15 * s + t) dX13_findSteps_112 rfl (c := 206) rfl (by decide) rfl (by omega) (by omega) (fun M112 hM112 => ?_)
            have hR112 : mm_Rf M112 := by rw [hM112]; exact hRN.up (mm_rt_ar (t := 0) rfl (by decide))
            refine mm_aload_n dX13_findSteps_113 rfl rfl ?_
            refine mm_getr dX13_findSteps_114 rfl fl_X13_261 (c := 183) rfl (by decide) rfl rfl (hR112.at (c := 183) (i := 36) (v := 206) rfl (by decide)) ?_
            refine mm_iload dX13_findSteps_117 rfl rfl ?_
            refine mm_iconst dX13_findSteps_119 rfl ?_
            refine mm_zstk (k0 := 15 * s + t) dX13_findSteps_120 rfl (c := 205) rfl (by decide) rfl (by omega) (by omega) (Or.inr rfl) (fun M120 hM120 => ?_)
            have hR120 : mm_Rf M120 := by rw [hM120]; exact hR112.up (mm_rt_ar (t := 2) rfl (by decide))
            refine mm_iinc dX13_findSteps_121 rfl rfl (Nat.le_of_ble_eq_true rfl) rfl ?_
            refine mm_goto dX13_findSteps_124 ?_
            refine mm_drop (ls' := [(2, 184), (0, h), (0, (s : Int)), (0, (t : Int)), (0, ((15 * s + t : Nat) : Int)), (0, (l : Int) + 1), (9, 0), (9, 0)]) (by simp [mm_dr]) (fin _ ?_)
            first
              | (rw [hM120, hM112, if_pos h92]; done)
              | (rw [hM120, hM112, if_neg h92]; done)
      · rw [mm_b_f hsf] at cs
        refine mm_iload dX13_findSteps_37 rfl rfl ?_
        refine mm_aload_n dX13_findSteps_39 rfl rfl ?_
        refine mm_get (kd := 0) dX13_findSteps_40 rfl fl_X13_154 (c := 183) rfl (by decide) rfl rfl ?_
        rw [el]
        refine mm_icge dX13_findSteps_43 (by omega) (by omega) (fun h43 => ?_) (fun h43 => ?_)
        · exfalso; omega
        · refine mm_bipush dX13_findSteps_46 rfl (by decide) ?_
          refine mm_iload dX13_findSteps_48 rfl rfl ?_
          refine mm_imul dX13_findSteps_50 rfl ?_
          refine mm_iload_n dX13_findSteps_51 rfl rfl ?_
          refine mm_iadd dX13_findSteps_52 rfl ?_
          refine mm_istore dX13_findSteps_53 rfl (Nat.le_of_ble_eq_true rfl) rfl ?_
          refine mm_aload_n dX13_findSteps_55 rfl rfl ?_
          refine mm_iload_n dX13_findSteps_56 rfl rfl ?_
          refine mm_iload dX13_findSteps_57 rfl rfl ?_
          refine mm_iload_n dX13_findSteps_59 rfl rfl ?_
          refine mm_V3i dX13_findSteps_60 rfl lk_X13_510 (c := 183) rfl (by decide) rfl (by simp) (by simp) (by simp) rfl rfl rfl (cs) ?_
          refine mm_ifne dX13_findSteps_63 (by omega) (fun h => absurd h (by decide)) (fun _ => ?_)
          refine mm_goto dX13_findSteps_66 ?_
          refine mm_iinc dX13_findSteps_121 rfl rfl (Nat.le_of_ble_eq_true rfl) rfl ?_
          refine mm_goto dX13_findSteps_124 ?_
          have go := ih hlt N hD (hP.no hsf)
          rw [show ((l + 1 : Nat) : Int) = (l : Int) + 1 by omega] at go
          exact mm_drop (ls' := [(2, 184), (0, h), (0, (s : Int)), (0, (t : Int)), (0, ((15 * s + t : Nat) : Int)), (0, (l : Int) + 1), (9, 0), (9, 0)]) (by simp [mm_dr]) go
    · have elL : l = L := by omega
      subst elL
      refine mm_iload dX13_findSteps_37 rfl rfl ?_
      refine mm_aload_n dX13_findSteps_39 rfl rfl ?_
      refine mm_get (kd := 0) dX13_findSteps_40 rfl fl_X13_154 (c := 183) rfl (by decide) rfl rfl ?_
      rw [el]
      refine mm_icge dX13_findSteps_43 (by omega) (by omega) (fun h43 => ?_) (fun h43 => ?_)
      · refine mm_drop (ls' := [(2, 184), (0, h), (0, (s : Int)), (0, (t : Int)), (9, 0), (9, 0), (9, 0), (9, 0)]) (by simp [mm_dr]) (out N ⟨hRN, f1, ?_⟩)
        intro x hx
        by_cases e : x < 15 * s + t
        · exact f2 x e
        · have ex : x = 15 * s + t := by omega
          rw [ex, show (15 * s + t) / 15 = s by omega, show (15 * s + t) % 15 = t by omega, ← hL]
          exact hP
      · exfalso; omega
  -- the steps of a state
  have middle : ∀ s : Nat, s < n → (∀ N, ke_D M N h (15 * (s + 1)) → mm_J X Y_X13_findSteps 243 243 243 133 [(2, 184), (0, h), (0, (s : Int)), (9, 0), (9, 0), (9, 0), (9, 0), (9, 0)] [] N Φ) →
      ∀ t : Nat, t ≤ 15 → ∀ N : mm_M, ke_D M N h (15 * s + t) → mm_J X Y_X13_findSteps 243 243 243 12 [(2, 184), (0, h), (0, (s : Int)), (0, (t : Int)), (9, 0), (9, 0), (9, 0), (9, 0)] [] N Φ := by
    intro s hs out
    refine mm_lp ?_
    intro t ht ih N hD
    obtain ⟨hRN, f1, f2⟩ := id hD
    by_cases hlt : t < 15
    · have back : ∀ N, ke_D M N h (15 * s + t + 1) → mm_J X Y_X13_findSteps 243 243 243 127 [(2, 184), (0, h), (0, (s : Int)), (0, (t : Int)), (9, 0), (9, 0), (9, 0), (9, 0)] [] N Φ := by
        intro P hP
        have go := ih hlt P hP
        have hRP := hP.1
        refine mm_iinc dX13_findSteps_127 rfl rfl (Nat.le_of_ble_eq_true rfl) rfl ?_
        refine mm_goto dX13_findSteps_130 ?_
        rw [show ((t + 1 : Nat) : Int) = (t : Int) + 1 by omega] at go
        exact go
      refine mm_iload_n dX13_findSteps_12 rfl rfl ?_
      refine mm_bipush dX13_findSteps_13 rfl (by decide) ?_
      refine mm_icge dX13_findSteps_15 (by omega) (by omega) (fun h15 => ?_) (fun h15 => ?_)
      · exfalso; omega
      · refine mm_bipush dX13_findSteps_18 rfl (by decide) ?_
        refine mm_iload_n dX13_findSteps_20 rfl rfl ?_
        refine mm_imul dX13_findSteps_21 rfl ?_
        refine mm_iload_n dX13_findSteps_22 rfl rfl ?_
        refine mm_iadd dX13_findSteps_23 rfl ?_
        refine mm_istore dX13_findSteps_24 rfl (Nat.le_of_ble_eq_true rfl) rfl ?_
        refine mm_aload_n dX13_findSteps_26 rfl rfl ?_
        refine mm_getr dX13_findSteps_27 rfl fl_X13_261 (c := 183) rfl (by decide) rfl rfl (hRN.at (c := 183) (i := 36) (v := 206) rfl (by decide)) ?_
        refine mm_iload dX13_findSteps_30 rfl rfl ?_
        refine mm_iconst dX13_findSteps_32 rfl ?_
        refine mm_zstk (k0 := 15 * s + t) dX13_findSteps_33 rfl (c := 205) rfl (by decide) rfl (by omega) (by omega) (Or.inl rfl) (fun M33 hM33 => ?_)
        have hR33 : mm_Rf M33 := by rw [hM33]; exact hRN.up (mm_rt_ar (t := 2) rfl (by decide))
        refine mm_iconst dX13_findSteps_34 rfl ?_
        refine mm_istore dX13_findSteps_35 rfl (Nat.le_of_ble_eq_true rfl) rfl ?_
        refine mm_drop (ls' := [(2, 184), (0, h), (0, (s : Int)), (0, (t : Int)), (0, ((15 * s + t : Nat) : Int)), (0, ((0 : Nat) : Int)), (9, 0), (9, 0)]) (by simp [mm_dr]) (inner s hs t hlt back 0 (Nat.zero_le _) _ ⟨hR33, ?_, ?_⟩ ?_)
        · intro a a1 a2; rw [hM33, mm_up_row a1]; exact f1 a a1 a2
        · intro x hx; rw [hM33, mm_up_i (by omega), mm_up_row (by decide)]; exact f2 x hx
        · exact Or.inl ⟨by rw [hM33, mm_up_s], fun i hi => absurd hi (by omega)⟩
    · have et : t = 15 := by omega
      subst et
      refine mm_iload_n dX13_findSteps_12 rfl rfl ?_
      refine mm_bipush dX13_findSteps_13 rfl (by decide) ?_
      refine mm_icge dX13_findSteps_15 (by omega) (by omega) (fun h15 => ?_) (fun h15 => ?_)
      · exact mm_drop (ls' := [(2, 184), (0, h), (0, (s : Int)), (9, 0), (9, 0), (9, 0), (9, 0), (9, 0)]) (by simp [mm_dr]) (out N (by rw [show 15 * (s + 1) = 15 * s + 15 by omega]; exact hD))
      · exfalso; omega
  have outer : ∀ s : Nat, s ≤ n → ∀ N : mm_M, ke_D M N h (15 * s) → mm_J X Y_X13_findSteps 243 243 243 2 [(2, 184), (0, h), (0, (s : Int)), (9, 0), (9, 0), (9, 0), (9, 0), (9, 0)] [] N Φ := by
    refine mm_lp ?_
    intro s hs ih N hD
    obtain ⟨hRN, f1, f2⟩ := id hD
    obtain ⟨rk, -, -, -⟩ := ke_fr f1
    have cn := c_X13_states (X := X) hRN
    rw [rk, hni] at cn
    by_cases hlt : s < n
    · have back : ∀ N, ke_D M N h (15 * (s + 1)) → mm_J X Y_X13_findSteps 243 243 243 133 [(2, 184), (0, h), (0, (s : Int)), (9, 0), (9, 0), (9, 0), (9, 0), (9, 0)] [] N Φ := by
        intro P hP
        have go := ih hlt P hP
        have hRP := hP.1
        refine mm_iinc dX13_findSteps_133 rfl rfl (Nat.le_of_ble_eq_true rfl) rfl ?_
        refine mm_goto dX13_findSteps_136 ?_
        rw [show ((s + 1 : Nat) : Int) = (s : Int) + 1 by omega] at go
        exact go
      refine mm_iload_n dX13_findSteps_2 rfl rfl ?_
      refine mm_aload_n dX13_findSteps_3 rfl rfl ?_
      refine mm_V0i dX13_findSteps_4 rfl lk_X13_458 (c := 183) rfl (by decide) rfl  rfl rfl rfl (cn) ?_
      refine mm_icge dX13_findSteps_7 (by omega) (by omega) (fun h7 => ?_) (fun h7 => ?_)
      · exfalso; omega
      · refine mm_iconst dX13_findSteps_10 rfl ?_
        refine mm_istore_n dX13_findSteps_11 rfl (Nat.le_of_ble_eq_true rfl) rfl ?_
        exact middle s hlt back 0 (Nat.zero_le _) N hD
    · have es : s = n := by omega
      subst es
      refine mm_iload_n dX13_findSteps_2 rfl rfl ?_
      refine mm_aload_n dX13_findSteps_3 rfl rfl ?_
      refine mm_V0i dX13_findSteps_4 rfl lk_X13_458 (c := 183) rfl (by decide) rfl  rfl rfl rfl (cn) ?_
      refine mm_icge dX13_findSteps_7 (by omega) (by omega) (fun h7 => ?_) (fun h7 => ?_)
      · refine mm_vret dX13_findSteps_139 rfl rfl ?_
        rw [hΦ]; exact ⟨rfl, by rw [← hn]; exact hD⟩
      · exfalso; omega
  refine mm_start (ls := [(2, 184), (0, h), (9, 0), (9, 0), (9, 0), (9, 0), (9, 0), (9, 0)]) rfl ?_
  refine mm_iconst dX13_findSteps_0 rfl ?_
  refine mm_istore_n dX13_findSteps_1 rfl (Nat.le_of_ble_eq_true rfl) rfl ?_
  exact outer 0 (Nat.zero_le _) M ⟨hR, fun _ _ _ => rfl, fun x hx => absurd hx (by omega)⟩
end

