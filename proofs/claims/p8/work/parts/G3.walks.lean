/-! ===== the reference: walks of so many steps ===== -/
/-- the greatest of the values that count, among the first m -/
def gM (ok : Nat → Prop) (val : Nat → Int) (d : Int) (m : Nat) (x : Int) : Prop := (x = d ∧ ∀ i, i < m → ¬ ok i) ∨ ((∃ i, i < m ∧ ok i ∧ val i = x) ∧ ∀ i, i < m → ok i → val i ≤ x)
theorem gM.zero {ok : Nat → Prop} {val : Nat → Int} {d : Int} : gM ok val d 0 d := Or.inl ⟨rfl, fun i hi => absurd hi (by omega)⟩
theorem gM.no {ok : Nat → Prop} {val : Nat → Int} {d x : Int} {m : Nat} (h : gM ok val d m x) (hn : ¬ ok m) : gM ok val d (m + 1) x := by
  rcases h with ⟨h1, h2⟩ | ⟨⟨i, i1, i2, i3⟩, h2⟩
  · refine Or.inl ⟨h1, fun i hi => ?_⟩
    by_cases e : i = m
    · rw [e]; exact hn
    · exact h2 i (by omega)
  · refine Or.inr ⟨⟨i, by omega, i2, i3⟩, fun i hi => ?_⟩
    by_cases e : i = m
    · rw [e]; exact fun z => absurd z hn
    · exact h2 i (by omega)
theorem gM.yes {ok : Nat → Prop} {val : Nat → Int} {d x : Int} {m : Nat} (h : gM ok val d m x) (hn : ok m) (hd : d ≤ val m) : gM ok val d (m + 1) (max x (val m)) := by
  rcases h with ⟨h1, h2⟩ | ⟨⟨i, i1, i2, i3⟩, h2⟩
  · refine Or.inr ⟨⟨m, by omega, hn, by omega⟩, fun i hi z => ?_⟩
    by_cases e : i = m
    · rw [e]; omega
    · exact absurd z (h2 i (by omega))
  · refine Or.inr ⟨?_, fun i hi z => ?_⟩
    · by_cases c : x ≤ val m
      · exact ⟨m, by omega, hn, by omega⟩
      · exact ⟨i, by omega, i2, by omega⟩
    · by_cases e : i = m
      · rw [e]; omega
      · have := h2 i (by omega) z
        omega
theorem gM.skip {ok : Nat → Prop} {val : Nat → Int} {d x : Int} {m : Nat} (h : gM ok val d m x) : ∀ k : Nat, (∀ i, m ≤ i → i < m + k → ¬ ok i) → gM ok val d (m + k) x
  | 0, _ => h
  | k + 1, q => (gM.skip h k (fun i a b => q i a (by omega))).no (q (m + k) (by omega) (by omega))
theorem gM.congr {ok ok' : Nat → Prop} {val val' : Nat → Int} {d x : Int} {m : Nat} (h : gM ok val d m x) (h1 : ∀ i, i < m → (ok' i ↔ ok i)) (h2 : ∀ i, i < m → val' i = val i) : gM ok' val' d m x := by
  rcases h with ⟨a1, a2⟩ | ⟨⟨i, i1, i2, i3⟩, a2⟩
  · exact Or.inl ⟨a1, fun i hi z => a2 i hi ((h1 i hi).mp z)⟩
  · exact Or.inr ⟨⟨i, i1, (h1 i i1).mpr i2, by rw [h2 i i1]; exact i3⟩, fun j hj z => by rw [h2 j hj]; exact a2 j hj ((h1 j hj).mp z)⟩
/-- where a step of a state leads -/
def ke_T (K : Nat → Int) (i : Nat) : Nat := (ks_to K ((i / 15 : Nat) : Int) ((i % 15 : Nat) : Int)).toNat
/-- steps as they are found -/
def ke_S (K : Nat → Int) (n : Nat) (F G : Nat → Int) : Prop := ∀ i, i < 15 * n → (F i = 0 ∨ F i = 1) ∧ (F i = 1 → (0 ≤ ks_to K ((i / 15 : Nat) : Int) ((i % 15 : Nat) : Int) ∧ ks_to K ((i / 15 : Nat) : Int) ((i % 15 : Nat) : Int) < n) ∧ -5800000 ≤ G i ∧ G i ≤ 5800000)
/-- the graph of the steps -/
def ke_E (K : Nat → Int) (n : Nat) (F G : Nat → Int) (u v : Nat) (w : Int) : Prop := ∃ i, i < 15 * n ∧ F i = 1 ∧ u = i / 15 ∧ v = ke_T K i ∧ w = G i
theorem ke_S.t {K : Nat → Int} {n : Nat} {F G : Nat → Int} (h : ke_S K n F G) {i : Nat} (hi : i < 15 * n) (hF : F i = 1) : ((ke_T K i : Nat) : Int) = ks_to K ((i / 15 : Nat) : Int) ((i % 15 : Nat) : Int) ∧ ke_T K i < n := by
  have := ((h i hi).2 hF).1
  unfold ke_T
  omega
theorem ke_S.n {K : Nat → Int} {n : Nat} {F G : Nat → Int} (h : ke_S K n F G) : ∀ u v w, ke_E K n F G u v w → u < n ∧ v < n := by
  rintro u v w ⟨i, i1, i2, rfl, rfl, rfl⟩
  exact ⟨by omega, (h.t i1 i2).2⟩
theorem ke_S.b {K : Nat → Int} {n : Nat} {F G : Nat → Int} (h : ke_S K n F G) : ∀ u v w, ke_E K n F G u v w → -5800000 ≤ w ∧ w ≤ 5800000 := by
  rintro u v w ⟨i, i1, i2, rfl, rfl, rfl⟩
  exact ((h i i1).2 i2).2
/-- the most that a walk of k steps to v gives -/
def kw_V (e : Nat → Nat → Int → Prop) (k v : Nat) (x : Int) : Prop := (x = -4000000000000000000 ∧ ∀ p g, gW e p g k → p k ≠ v) ∨ ((∃ p g, gW e p g k ∧ p k = v ∧ ka_sum g k = x) ∧ ∀ p g, gW e p g k → p k = v → ka_sum g k ≤ x)
theorem kw_V.b {e : Nat → Nat → Int → Prop} {k v : Nat} {x : Int} (hB : ∀ u v w, e u v w → -5800000 ≤ w ∧ w ≤ 5800000) (h : kw_V e k v x) : x = -4000000000000000000 ∨ (-5800000 * (k : Int) ≤ x ∧ x ≤ 5800000 * (k : Int)) := by
  rcases h with h | ⟨⟨p, g, w, -, e2⟩, -⟩
  · exact Or.inl h.1
  · have := ka_sumb (B := 5800000) (n := k) (f := g) (fun i hi => by have := hB _ _ _ (w i hi); omega)
    rw [e2] at this
    exact Or.inr ⟨by omega, by omega⟩
theorem kw_V.zero {e : Nat → Nat → Int → Prop} (v : Nat) : kw_V e 0 v 0 := Or.inr ⟨⟨fun _ => v, fun _ => 0, fun j hj => absurd hj (by omega), rfl, rfl⟩, fun _ _ _ _ => Int.le_refl 0⟩
theorem kw_step {K : Nat → Int} {n : Nat} {F G : Nat → Int} (h : ke_S K n F G) {k v : Nat} {W : Nat → Int} {x : Int} (hk : k ≤ 1000) (hW : ∀ u, u < n → kw_V (ke_E K n F G) k u (W u))
    (hM : gM (fun i => F i = 1 ∧ W (i / 15) ≠ -4000000000000000000 ∧ ke_T K i = v) (fun i => W (i / 15) + G i) (-4000000000000000000) (15 * n) x) : kw_V (ke_E K n F G) (k + 1) v x := by
  have key : ∀ p g, gW (ke_E K n F G) p g (k + 1) → p (k + 1) = v → ∃ i, i < 15 * n ∧ (F i = 1 ∧ W (i / 15) ≠ -4000000000000000000 ∧ ke_T K i = v) ∧ ka_sum g (k + 1) ≤ W (i / 15) + G i := by
    intro p g w hv
    obtain ⟨i, i1, i2, i3, i4, i5⟩ := w k (by omega)
    have wk := w.to (k := k) (by omega)
    have hu := hW (i / 15) (by omega)
    have hb := hu.b h.b
    rcases hu with ⟨-, q⟩ | ⟨-, q2⟩
    · exact absurd i3 (q p g wk)
    · have a := q2 p g wk i3
      rcases hb with hb | hb
      · exfalso
        have := ka_sumb (B := 5800000) (n := k) (f := g) (fun i hi => by have := h.b _ _ _ (wk i hi); omega)
        omega
      · refine ⟨i, i1, ⟨i2, by omega, by rw [← i4, hv]⟩, ?_⟩
        show ka_sum g k + g k ≤ _
        omega
  rcases hM with ⟨a1, a2⟩ | ⟨⟨i, i1, ⟨i2, i3, i4⟩, i5⟩, a2⟩
  · refine Or.inl ⟨a1, fun p g w hv => ?_⟩
    obtain ⟨i, i1, i2, -⟩ := key p g w hv
    exact a2 i i1 i2
  · refine Or.inr ⟨?_, fun p g w hv => ?_⟩
    · rcases hW (i / 15) (by omega) with ⟨q, -⟩ | ⟨⟨p, g, w, q1, q2⟩, -⟩
      · exact absurd q i3
      · have w1 : gW (ke_E K n F G) (fun t => if t = 0 then i / 15 else v) (fun _ => G i) 1 := by
          intro j hj
          have e0 : j = 0 := by omega
          subst e0
          exact ⟨i, i1, i2, rfl, i4.symm, rfl⟩
        refine ⟨_, _, w.app w1 q1, ?_, ?_⟩
        · rw [gJp_end _ _ _ _ q1]; rfl
        · rw [gJg_sum, q2]
          have i5' : W (i / 15) + G i = x := i5
          show W (i / 15) + (0 + G i) = x
          omega
    · obtain ⟨i, i1, i2, i3⟩ := key p g w hv
      exact Int.le_trans i3 (a2 i i1 i2)
section
variable {X : mm_X} {M : mm_M} {n : Nat}
/-- rows of walks below k are found, and of row k what the first m steps give -/
def kw_I (M N : mm_M) (n k : Nat) : Prop := mm_Rf N ∧ (∀ a, a ≠ 207 → N a = M a) ∧ ∀ i, i < k → ∀ v, v < n → kw_V (ke_E (mm_rk M) n (M 205) (M 206)) i v (N 207 (288 * i + v))
def kw_H (M N : mm_M) (n k m : Nat) : Prop := ∀ v, v < n → gM (fun i => M 205 i = 1 ∧ N 207 (288 * k + i / 15) ≠ -4000000000000000000 ∧ ke_T (mm_rk M) i = v) (fun i => N 207 (288 * k + i / 15) + M 206 i) (-4000000000000000000) m (N 207 (288 * (k + 1) + v))
theorem kw_fr {M N : mm_M} (f : ∀ a, a ≠ 207 → N a = M a) : mm_rk N = mm_rk M := mm_rk.fr (fun a b q => by rw [f a (by omega)])
theorem c_X13_findWalks (hR : mm_Rf M) (hn : ks_n (mm_rk M) = (n : Int)) (hn2 : n ≤ 288) (hS : ke_S (mm_rk M) n (M 205) (M 206)) : mm_C X Y_X13_findWalks 243 243 [(2, 184)] M (fun r M' => r = (3, 0) ∧ kw_I M M' n (n + 1)) := by
  obtain ⟨Φ, hΦ⟩ : ∃ Φ : mm_V → mm_M → Prop, Φ = (fun r M' => r = (3, 0) ∧ kw_I M M' n (n + 1)) := ⟨_, rfl⟩
  rw [← hΦ]
  obtain ⟨e, he⟩ : ∃ e, e = ke_E (mm_rk M) n (M 205) (M 206) := ⟨_, rfl⟩
  -- the steps of a state
  have l5 : ∀ k : Nat, k < n → ∀ s : Nat, s < n → ∀ w : Int, -4000000000000000000 < w →
      (∀ N, kw_I M N n (k + 1) → kw_H M N n k (15 * (s + 1)) → mm_J X Y_X13_findWalks 243 243 243 174 [(2, 184), (0, (n : Int)), (0, ((k + 1 : Nat) : Int)), (0, (s : Int)), (9, 0), (9, 0), (9, 0), (9, 0)] [] N Φ) →
      ∀ t : Nat, t ≤ 15 → ∀ N, kw_I M N n (k + 1) → kw_H M N n k (15 * s + t) → w = N 207 (288 * k + s) →
      mm_J X Y_X13_findWalks 243 243 243 86 [(2, 184), (0, (n : Int)), (0, ((k + 1 : Nat) : Int)), (0, (s : Int)), (1, w), (9, 0), (0, (t : Int)), (9, 0)] [] N Φ := by
    intro k hk s hs w hw out
    refine mm_lp ?_
    intro t ht ih N hI hH hwN
    obtain ⟨hRN, f1, f2⟩ := id hI
    have rk := kw_fr f1
    have e205 : N 205 = M 205 := f1 205 (by decide)
    have e206 : N 206 = M 206 := f1 206 (by decide)
    by_cases hlt : t < 15
    · have hwb := (f2 k (by omega) s hs).b hS.b
      rw [← hwN] at hwb
      have hix : (15 * s + t) / 15 = s := by omega
      have hix2 : (15 * s + t) % 15 = t := by omega
      by_cases hF : M 205 (15 * s + t) = 1
      · have hT := hS.t (i := 15 * s + t) (by omega) hF
        have hG := ((hS (15 * s + t) (by omega)).2 hF).2
        rw [hix, hix2] at hT
        have ca := c_X13_after (X := X) (s := (s : Int)) (a := (t : Int)) hRN (by omega)
        rw [rk, ← hT.1] at ca
        obtain ⟨T, hTe⟩ : ∃ T, T = ke_T (mm_rk M) (15 * s + t) := ⟨_, rfl⟩
        rw [← hTe] at ca hT
        have hTn := hT.2
        have hxb : mm_RL (N 207 (288 * (k + 1) + T)) := by
          rcases hH T hTn with q | ⟨⟨i, i1, ⟨i2, i3, i4⟩, i5⟩, -⟩
          · rw [q.1]; unfold mm_RL; omega
          · have q1 := (f2 k (by omega) (i / 15) (by omega)).b hS.b
            have q2 := ((hS i (by omega)).2 i2).2
            rw [← i5]
            show mm_RL (N 207 (288 * k + i / 15) + M 206 i)
            unfold mm_RL
            omega
        have fin : ∀ P : mm_M, P = mm_up N 207 (288 * (k + 1) + T) (max (N 207 (288 * (k + 1) + T)) (w + M 206 (15 * s + t))) →
            mm_J X Y_X13_findWalks 243 243 243 86 [(2, 184), (0, (n : Int)), (0, ((k + 1 : Nat) : Int)), (0, (s : Int)), (1, w), (9, 0), (0, (t : Int) + 1), (9, 0)] [] P Φ := by
          intro P hPe
          have hlow : ∀ u, u < n → ∀ i, i < k + 1 → P 207 (288 * i + u) = N 207 (288 * i + u) := by
            intro u hu i hi
            rw [hPe, mm_up_i (by omega)]
          have := ih hlt P ⟨?_, ?_, ?_⟩ ?_ ?_
          · rw [show ((t + 1 : Nat) : Int) = (t : Int) + 1 by omega] at this; exact this
          · rw [hPe]; exact hRN.up (mm_rt_ar rfl (by decide))
          · intro a a1; rw [hPe, mm_up_row a1]; exact f1 a a1
          · intro i hi v hv; rw [hlow v hv i hi]; exact f2 i hi v hv
          · intro v hv
            have hv' := hH v hv
            have cg : ∀ i, i < 15 * s + t + 1 → P 207 (288 * k + i / 15) = N 207 (288 * k + i / 15) := fun i hi => hlow (i / 15) (by omega) k (by omega)
            have go : gM (fun i => M 205 i = 1 ∧ N 207 (288 * k + i / 15) ≠ -4000000000000000000 ∧ ke_T (mm_rk M) i = v) (fun i => N 207 (288 * k + i / 15) + M 206 i) (-4000000000000000000) (15 * s + t + 1) (P 207 (288 * (k + 1) + v)) := by
              by_cases ev : v = T
              · rw [hPe, ev, mm_up_s]
                rw [ev] at hv'
                have := hv'.yes ⟨hF, by rw [hix, ← hwN]; omega, hTe.symm⟩ (by show _ ≤ N 207 (288 * k + (15 * s + t) / 15) + M 206 (15 * s + t); rw [hix, ← hwN]; omega)
                have e1 : N 207 (288 * k + (15 * s + t) / 15) + M 206 (15 * s + t) = w + M 206 (15 * s + t) := by rw [hix, ← hwN]
                rw [← e1]
                exact this
              · rw [hPe, mm_up_i (by omega)]
                exact hv'.no (fun q => ev (by rw [hTe]; exact q.2.2.symm))
            exact go.congr (fun i hi => by rw [cg i hi]) (fun i hi => by rw [cg i hi])
          · rw [hlow s hs k (by omega)]; exact hwN
        refine mm_iload dX13_findWalks_86 rfl rfl ?_
        refine mm_bipush dX13_findWalks_88 rfl (by decide) ?_
        refine mm_icge dX13_findWalks_90 (by omega) (by omega) (fun h90 => ?_) (fun h90 => ?_)
        · exfalso; omega
        · refine mm_lload dX13_findWalks_93 rfl rfl ?_
          refine mm_ldc2 dX13_findWalks_95 rfl kc_X13_521 ?_
          refine mm_lcmp dX13_findWalks_98 rfl (by omega) (by omega) ?_
          refine mm_iflec dX13_findWalks_99 (fun h99 => ?_) (fun h99 => ?_)
          · exfalso; omega
          · refine mm_aload_n dX13_findWalks_102 rfl rfl ?_
            refine mm_getr dX13_findWalks_103 rfl fl_X13_261 (c := 183) rfl (by decide) rfl rfl (hRN.at (c := 183) (i := 36) (v := 206) rfl (by decide)) ?_
            refine mm_bipush dX13_findWalks_106 rfl (by decide) ?_
            refine mm_iload_n dX13_findWalks_108 rfl rfl ?_
            refine mm_imul dX13_findWalks_109 rfl ?_
            refine mm_iload dX13_findWalks_110 rfl rfl ?_
            refine mm_iadd dX13_findWalks_112 rfl ?_
            refine mm_zalk (k0 := 15 * s + t) dX13_findWalks_113 rfl (c := 205) rfl (by decide) rfl (by omega) (by omega) ?_
            rw [e205, hF]
            refine mm_ifne dX13_findWalks_114 (by omega) (fun h114 => ?_) (fun h114 => ?_)
            · refine mm_sipush dX13_findWalks_120 rfl (by decide) ?_
              refine mm_iload_n dX13_findWalks_123 rfl rfl ?_
              refine mm_imul dX13_findWalks_124 rfl ?_
              refine mm_aload_n dX13_findWalks_125 rfl rfl ?_
              refine mm_iload_n dX13_findWalks_126 rfl rfl ?_
              refine mm_iload dX13_findWalks_127 rfl rfl ?_
              refine mm_V2i dX13_findWalks_129 rfl lk_X13_476 (c := 183) rfl (by decide) rfl (by simp) (by simp) rfl rfl rfl (ca) ?_
              refine mm_iadd dX13_findWalks_132 rfl ?_
              refine mm_istore dX13_findWalks_133 rfl (Nat.le_of_ble_eq_true rfl) rfl ?_
              refine mm_aload_n dX13_findWalks_135 rfl rfl ?_
              refine mm_getr dX13_findWalks_136 rfl fl_X13_268 (c := 183) rfl (by decide) rfl rfl (hRN.at (c := 183) (i := 38) (v := 208) rfl (by decide)) ?_
              refine mm_iload dX13_findWalks_139 rfl rfl ?_
              refine mm_aload_n dX13_findWalks_141 rfl rfl ?_
              refine mm_getr dX13_findWalks_142 rfl fl_X13_268 (c := 183) rfl (by decide) rfl rfl (hRN.at (c := 183) (i := 38) (v := 208) rfl (by decide)) ?_
              refine mm_iload dX13_findWalks_145 rfl rfl ?_
              refine mm_lalk (k0 := 288 * (k + 1) + T) dX13_findWalks_147 rfl (c := 207) rfl (by decide) rfl (by omega) (by omega) ?_
              refine mm_lload dX13_findWalks_148 rfl rfl ?_
              refine mm_aload_n dX13_findWalks_150 rfl rfl ?_
              refine mm_getr dX13_findWalks_151 rfl fl_X13_264 (c := 183) rfl (by decide) rfl rfl (hRN.at (c := 183) (i := 37) (v := 207) rfl (by decide)) ?_
              refine mm_bipush dX13_findWalks_154 rfl (by decide) ?_
              refine mm_iload_n dX13_findWalks_156 rfl rfl ?_
              refine mm_imul dX13_findWalks_157 rfl ?_
              refine mm_iload dX13_findWalks_158 rfl rfl ?_
              refine mm_iadd dX13_findWalks_160 rfl ?_
              refine mm_ialk (k0 := 15 * s + t) dX13_findWalks_161 rfl (c := 206) rfl (by decide) rfl (by omega) (by omega) ?_
              rw [e206]
              refine mm_i2l dX13_findWalks_162 rfl (by omega) ?_
              refine mm_ladd dX13_findWalks_163 rfl ?_
              refine mm_maxl dX13_findWalks_164 rfl lm_X13_523 rfl rfl (by simp) (by omega) (by omega) ?_
              refine mm_lstk (k0 := 288 * (k + 1) + T) dX13_findWalks_167 rfl (c := 207) rfl (by decide) rfl (by omega) (by omega) (fun M167 hM167 => ?_)
              have hR167 : mm_Rf M167 := by rw [hM167]; exact hRN.up (mm_rt_ar (t := 3) rfl (by decide))
              refine mm_iinc dX13_findWalks_168 rfl rfl (Nat.le_of_ble_eq_true rfl) rfl ?_
              refine mm_goto dX13_findWalks_171 ?_
              exact mm_drop (ls' := [(2, 184), (0, (n : Int)), (0, ((k + 1 : Nat) : Int)), (0, (s : Int)), (1, w), (9, 0), (0, (t : Int) + 1), (9, 0)]) (by simp [mm_dr]) (fin _ hM167)
            · exfalso; omega
      · have hF0 : M 205 (15 * s + t) = 0 := by
          rcases (hS (15 * s + t) (by omega)).1 with q | q
          · exact q
          · exact absurd q hF
        have go := ih hlt N hI (fun v hv => (hH v hv).no (fun q => hF q.1)) hwN
        rw [show ((t + 1 : Nat) : Int) = (t : Int) + 1 by omega] at go
        refine mm_iload dX13_findWalks_86 rfl rfl ?_
        refine mm_bipush dX13_findWalks_88 rfl (by decide) ?_
        refine mm_icge dX13_findWalks_90 (by omega) (by omega) (fun h90 => ?_) (fun h90 => ?_)
        · exfalso; omega
        · refine mm_lload dX13_findWalks_93 rfl rfl ?_
          refine mm_ldc2 dX13_findWalks_95 rfl kc_X13_521 ?_
          refine mm_lcmp dX13_findWalks_98 rfl (by omega) (by omega) ?_
          refine mm_iflec dX13_findWalks_99 (fun h99 => ?_) (fun h99 => ?_)
          · exfalso; omega
          · refine mm_aload_n dX13_findWalks_102 rfl rfl ?_
            refine mm_getr dX13_findWalks_103 rfl fl_X13_261 (c := 183) rfl (by decide) rfl rfl (hRN.at (c := 183) (i := 36) (v := 206) rfl (by decide)) ?_
            refine mm_bipush dX13_findWalks_106 rfl (by decide) ?_
            refine mm_iload_n dX13_findWalks_108 rfl rfl ?_
            refine mm_imul dX13_findWalks_109 rfl ?_
            refine mm_iload dX13_findWalks_110 rfl rfl ?_
            refine mm_iadd dX13_findWalks_112 rfl ?_
            refine mm_zalk (k0 := 15 * s + t) dX13_findWalks_113 rfl (c := 205) rfl (by decide) rfl (by omega) (by omega) ?_
            rw [e205, hF0]
            refine mm_ifne dX13_findWalks_114 (by omega) (fun h114 => ?_) (fun h114 => ?_)
            · exfalso; omega
            · refine mm_goto dX13_findWalks_117 ?_
              refine mm_iinc dX13_findWalks_168 rfl rfl (Nat.le_of_ble_eq_true rfl) rfl ?_
              refine mm_goto dX13_findWalks_171 ?_
              exact go
    · have et : t = 15 := by omega
      subst et
      refine mm_iload dX13_findWalks_86 rfl rfl ?_
      refine mm_bipush dX13_findWalks_88 rfl (by decide) ?_
      refine mm_icge dX13_findWalks_90 (by omega) (by omega) (fun h90 => ?_) (fun h90 => ?_)
      · exact mm_drop (ls' := [(2, 184), (0, (n : Int)), (0, ((k + 1 : Nat) : Int)), (0, (s : Int)), (9, 0), (9, 0), (9, 0), (9, 0)]) (by simp [mm_dr]) (out N hI (by rw [show 15 * (s + 1) = 15 * s + 15 by omega]; exact hH))
      · exfalso; omega
  -- the states
  have l4 : ∀ k : Nat, k < n → (∀ N, kw_I M N n (k + 2) → mm_J X Y_X13_findWalks 243 243 243 180 [(2, 184), (0, (n : Int)), (0, ((k + 1 : Nat) : Int)), (9, 0), (9, 0), (9, 0), (9, 0), (9, 0)] [] N Φ) →
      ∀ s : Nat, s ≤ n → ∀ N, kw_I M N n (k + 1) → kw_H M N n k (15 * s) → mm_J X Y_X13_findWalks 243 243 243 62 [(2, 184), (0, (n : Int)), (0, ((k + 1 : Nat) : Int)), (0, (s : Int)), (9, 0), (9, 0), (9, 0), (9, 0)] [] N Φ := by
    intro k hk out
    refine mm_lp ?_
    intro s hs ih N hI hH
    obtain ⟨hRN, f1, f2⟩ := id hI
    by_cases hlt : s < n
    · have back : ∀ N, kw_I M N n (k + 1) → kw_H M N n k (15 * (s + 1)) → mm_J X Y_X13_findWalks 243 243 243 174 [(2, 184), (0, (n : Int)), (0, ((k + 1 : Nat) : Int)), (0, (s : Int)), (9, 0), (9, 0), (9, 0), (9, 0)] [] N Φ := by
        intro P hP hQ
        have go := ih hlt P hP hQ
        have hRP := hP.1
        rw [show ((s + 1 : Nat) : Int) = (s : Int) + 1 by omega] at go
        refine mm_iinc dX13_findWalks_174 rfl rfl (Nat.le_of_ble_eq_true rfl) rfl ?_
        refine mm_goto dX13_findWalks_177 ?_
        exact go
      have hwb := (f2 k (by omega) s hlt).b hS.b
      by_cases hw : N 207 (288 * k + s) = -4000000000000000000
      · have go := back N hI (fun v hv => by
          have := (hH v hv).skip 15 (fun i a b q => q.2.1 (by rw [show i / 15 = s by omega]; exact hw))
          rw [show 15 * (s + 1) = 15 * s + 15 by omega]
          exact this)
        refine mm_iload_n dX13_findWalks_62 rfl rfl ?_
        refine mm_iload_n dX13_findWalks_63 rfl rfl ?_
        refine mm_icge dX13_findWalks_64 (by omega) (by omega) (fun h64 => ?_) (fun h64 => ?_)
        · exfalso; omega
        · refine mm_aload_n dX13_findWalks_67 rfl rfl ?_
          refine mm_getr dX13_findWalks_68 rfl fl_X13_268 (c := 183) rfl (by decide) rfl rfl (hRN.at (c := 183) (i := 38) (v := 208) rfl (by decide)) ?_
          refine mm_sipush dX13_findWalks_71 rfl (by decide) ?_
          refine mm_iload_n dX13_findWalks_74 rfl rfl ?_
          refine mm_iconst dX13_findWalks_75 rfl ?_
          refine mm_isub dX13_findWalks_76 rfl ?_
          refine mm_imul dX13_findWalks_77 rfl ?_
          refine mm_iload_n dX13_findWalks_78 rfl rfl ?_
          refine mm_iadd dX13_findWalks_79 rfl ?_
          refine mm_lalk (k0 := 288 * k + s) dX13_findWalks_80 rfl (c := 207) rfl (by decide) rfl (by omega) (by omega) ?_
          rw [hw]
          refine mm_lstore dX13_findWalks_81 rfl (Nat.le_of_ble_eq_true rfl) rfl ?_
          refine mm_iconst dX13_findWalks_83 rfl ?_
          refine mm_istore dX13_findWalks_84 rfl (Nat.le_of_ble_eq_true rfl) rfl ?_
          refine mm_iload dX13_findWalks_86 rfl rfl ?_
          refine mm_bipush dX13_findWalks_88 rfl (by decide) ?_
          refine mm_icge dX13_findWalks_90 (by omega) (by omega) (fun h90 => ?_) (fun h90 => ?_)
          · exfalso; omega
          · refine mm_lload dX13_findWalks_93 rfl rfl ?_
            refine mm_ldc2 dX13_findWalks_95 rfl kc_X13_521 ?_
            refine mm_lcmp dX13_findWalks_98 rfl (by omega) (by omega) ?_
            refine mm_iflec dX13_findWalks_99 (fun h99 => ?_) (fun h99 => ?_)
            · exact mm_drop (ls' := [(2, 184), (0, (n : Int)), (0, ((k + 1 : Nat) : Int)), (0, (s : Int)), (9, 0), (9, 0), (9, 0), (9, 0)]) (by simp [mm_dr]) go
            · exfalso; omega
      · have go := l5 k hk s hlt (N 207 (288 * k + s)) (by omega) back 0 (Nat.zero_le _) N hI hH rfl
        refine mm_iload_n dX13_findWalks_62 rfl rfl ?_
        refine mm_iload_n dX13_findWalks_63 rfl rfl ?_
        refine mm_icge dX13_findWalks_64 (by omega) (by omega) (fun h64 => ?_) (fun h64 => ?_)
        · exfalso; omega
        · refine mm_aload_n dX13_findWalks_67 rfl rfl ?_
          refine mm_getr dX13_findWalks_68 rfl fl_X13_268 (c := 183) rfl (by decide) rfl rfl (hRN.at (c := 183) (i := 38) (v := 208) rfl (by decide)) ?_
          refine mm_sipush dX13_findWalks_71 rfl (by decide) ?_
          refine mm_iload_n dX13_findWalks_74 rfl rfl ?_
          refine mm_iconst dX13_findWalks_75 rfl ?_
          refine mm_isub dX13_findWalks_76 rfl ?_
          refine mm_imul dX13_findWalks_77 rfl ?_
          refine mm_iload_n dX13_findWalks_78 rfl rfl ?_
          refine mm_iadd dX13_findWalks_79 rfl ?_
          refine mm_lalk (k0 := 288 * k + s) dX13_findWalks_80 rfl (c := 207) rfl (by decide) rfl (by omega) (by omega) ?_
          refine mm_lstore dX13_findWalks_81 rfl (Nat.le_of_ble_eq_true rfl) rfl ?_
          refine mm_iconst dX13_findWalks_83 rfl ?_
          refine mm_istore dX13_findWalks_84 rfl (Nat.le_of_ble_eq_true rfl) rfl ?_
          exact go
    · have es : s = n := by omega
      subst es
      have go := out N ⟨hRN, f1, fun i hi v hv => by
        by_cases c : i < k + 1
        · exact f2 i c v hv
        · rw [show i = k + 1 by omega]
          exact kw_step hS (W := fun u => N 207 (288 * k + u)) (by omega) (fun u hu => f2 k (by omega) u hu) (hH v hv)⟩
      refine mm_iload_n dX13_findWalks_62 rfl rfl ?_
      refine mm_iload_n dX13_findWalks_63 rfl rfl ?_
      refine mm_icge dX13_findWalks_64 (by omega) (by omega) (fun h64 => ?_) (fun h64 => ?_)
      · exact mm_drop (ls' := [(2, 184), (0, (s : Int)), (0, ((k + 1 : Nat) : Int)), (9, 0), (9, 0), (9, 0), (9, 0), (9, 0)]) (by simp [mm_dr]) go
      · exfalso; omega
  -- a row is cleared
  have l3 : ∀ k : Nat, k < n → (∀ N, kw_I M N n (k + 1) → kw_H M N n k 0 → mm_J X Y_X13_findWalks 243 243 243 60 [(2, 184), (0, (n : Int)), (0, ((k + 1 : Nat) : Int)), (9, 0), (9, 0), (9, 0), (9, 0), (9, 0)] [] N Φ) →
      ∀ s : Nat, s ≤ n → ∀ N, kw_I M N n (k + 1) → (∀ v, v < s → N 207 (288 * (k + 1) + v) = -4000000000000000000) → mm_J X Y_X13_findWalks 243 243 243 34 [(2, 184), (0, (n : Int)), (0, ((k + 1 : Nat) : Int)), (0, (s : Int)), (9, 0), (9, 0), (9, 0), (9, 0)] [] N Φ := by
    intro k hk out
    refine mm_lp ?_
    intro s hs ih N hI hH
    obtain ⟨hRN, f1, f2⟩ := id hI
    by_cases hlt : s < n
    · refine mm_iload_n dX13_findWalks_34 rfl rfl ?_
      refine mm_iload_n dX13_findWalks_35 rfl rfl ?_
      refine mm_icge dX13_findWalks_36 (by omega) (by omega) (fun h36 => ?_) (fun h36 => ?_)
      · exfalso; omega
      · refine mm_aload_n dX13_findWalks_39 rfl rfl ?_
        refine mm_getr dX13_findWalks_40 rfl fl_X13_268 (c := 183) rfl (by decide) rfl rfl (hRN.at (c := 183) (i := 38) (v := 208) rfl (by decide)) ?_
        refine mm_sipush dX13_findWalks_43 rfl (by decide) ?_
        refine mm_iload_n dX13_findWalks_46 rfl rfl ?_
        refine mm_imul dX13_findWalks_47 rfl ?_
        refine mm_iload_n dX13_findWalks_48 rfl rfl ?_
        refine mm_iadd dX13_findWalks_49 rfl ?_
        refine mm_ldc2 dX13_findWalks_50 rfl kc_X13_521 ?_
        refine mm_lstk (k0 := 288 * (k + 1) + s) dX13_findWalks_53 rfl (c := 207) rfl (by decide) rfl (by omega) (by omega) (fun M53 hM53 => ?_)
        have hR53 : mm_Rf M53 := by rw [hM53]; exact hRN.up (mm_rt_ar (t := 3) rfl (by decide))
        refine mm_iinc dX13_findWalks_54 rfl rfl (Nat.le_of_ble_eq_true rfl) rfl ?_
        refine mm_goto dX13_findWalks_57 ?_
        have go := ih hlt _ ⟨hR53, ?_, ?_⟩ ?_
        · rw [show ((s + 1 : Nat) : Int) = (s : Int) + 1 by omega] at go
          exact go
        · intro a a1; rw [hM53, mm_up_row a1]; exact f1 a a1
        · intro i hi v hv; rw [hM53, mm_up_i (by omega)]; exact f2 i hi v hv
        · intro v hv
          by_cases c : v = s
          · rw [c, hM53, mm_up_s]
          · rw [hM53, mm_up_i (by omega)]; exact hH v (by omega)
    · have es : s = n := by omega
      subst es
      have go := out N hI (fun v hv => by rw [hH v hv]; exact gM.zero)
      refine mm_iload_n dX13_findWalks_34 rfl rfl ?_
      refine mm_iload_n dX13_findWalks_35 rfl rfl ?_
      refine mm_icge dX13_findWalks_36 (by omega) (by omega) (fun h36 => ?_) (fun h36 => ?_)
      · exact mm_drop (ls' := [(2, 184), (0, (s : Int)), (0, ((k + 1 : Nat) : Int)), (9, 0), (9, 0), (9, 0), (9, 0), (9, 0)]) (by simp [mm_dr]) go
      · exfalso; omega
  -- the rows
  have l2 : ∀ k : Nat, k ≤ n → ∀ N, kw_I M N n (k + 1) → mm_J X Y_X13_findWalks 243 243 243 27 [(2, 184), (0, (n : Int)), (0, ((k + 1 : Nat) : Int)), (9, 0), (9, 0), (9, 0), (9, 0), (9, 0)] [] N Φ := by
    refine mm_lp ?_
    intro k hk ih N hI
    obtain ⟨hRN, f1, f2⟩ := id hI
    by_cases hlt : k < n
    · have b180 : ∀ N, kw_I M N n (k + 2) → mm_J X Y_X13_findWalks 243 243 243 180 [(2, 184), (0, (n : Int)), (0, ((k + 1 : Nat) : Int)), (9, 0), (9, 0), (9, 0), (9, 0), (9, 0)] [] N Φ := by
        intro P hP
        have go := ih hlt P hP
        have hRP := hP.1
        rw [show ((k + 1 + 1 : Nat) : Int) = ((k + 1 : Nat) : Int) + 1 by omega] at go
        refine mm_iinc dX13_findWalks_180 rfl rfl (Nat.le_of_ble_eq_true rfl) rfl ?_
        refine mm_goto dX13_findWalks_183 ?_
        exact go
      have b60 : ∀ N, kw_I M N n (k + 1) → kw_H M N n k 0 → mm_J X Y_X13_findWalks 243 243 243 60 [(2, 184), (0, (n : Int)), (0, ((k + 1 : Nat) : Int)), (9, 0), (9, 0), (9, 0), (9, 0), (9, 0)] [] N Φ := by
        intro P hP hQ
        have go := l4 k hlt b180 0 (Nat.zero_le _) P hP hQ
        have hRP := hP.1
        refine mm_iconst dX13_findWalks_60 rfl ?_
        refine mm_istore_n dX13_findWalks_61 rfl (Nat.le_of_ble_eq_true rfl) rfl ?_
        exact go
      have go := l3 k hlt b60 0 (Nat.zero_le _) N hI (fun v hv => absurd hv (by omega))
      refine mm_iload_n dX13_findWalks_27 rfl rfl ?_
      refine mm_iload_n dX13_findWalks_28 rfl rfl ?_
      refine mm_icgt dX13_findWalks_29 (by omega) (by omega) (fun h29 => ?_) (fun h29 => ?_)
      · exfalso; omega
      · refine mm_iconst dX13_findWalks_32 rfl ?_
        refine mm_istore_n dX13_findWalks_33 rfl (Nat.le_of_ble_eq_true rfl) rfl ?_
        exact go
    · have es : k = n := by omega
      subst es
      refine mm_iload_n dX13_findWalks_27 rfl rfl ?_
      refine mm_iload_n dX13_findWalks_28 rfl rfl ?_
      refine mm_icgt dX13_findWalks_29 (by omega) (by omega) (fun h29 => ?_) (fun h29 => ?_)
      · refine mm_vret dX13_findWalks_186 rfl rfl ?_
        rw [hΦ]; exact ⟨rfl, hI⟩
      · exfalso; omega
  -- the first row
  have l1 : ∀ s : Nat, s ≤ n → ∀ N, kw_I M N n 0 → (∀ v, v < s → N 207 v = 0) → mm_J X Y_X13_findWalks 243 243 243 7 [(2, 184), (0, (n : Int)), (0, (s : Int)), (9, 0), (9, 0), (9, 0), (9, 0), (9, 0)] [] N Φ := by
    refine mm_lp ?_
    intro s hs ih N hI hH
    obtain ⟨hRN, f1, f2⟩ := id hI
    by_cases hlt : s < n
    · refine mm_iload_n dX13_findWalks_7 rfl rfl ?_
      refine mm_iload_n dX13_findWalks_8 rfl rfl ?_
      refine mm_icge dX13_findWalks_9 (by omega) (by omega) (fun h9 => ?_) (fun h9 => ?_)
      · exfalso; omega
      · refine mm_aload_n dX13_findWalks_12 rfl rfl ?_
        refine mm_getr dX13_findWalks_13 rfl fl_X13_268 (c := 183) rfl (by decide) rfl rfl (hRN.at (c := 183) (i := 38) (v := 208) rfl (by decide)) ?_
        refine mm_iload_n dX13_findWalks_16 rfl rfl ?_
        refine mm_lconst0 dX13_findWalks_17 rfl ?_
        refine mm_lstk (k0 := s) dX13_findWalks_18 rfl (c := 207) rfl (by decide) rfl (by omega) (by omega) (fun M18 hM18 => ?_)
        have hR18 : mm_Rf M18 := by rw [hM18]; exact hRN.up (mm_rt_ar (t := 3) rfl (by decide))
        refine mm_iinc dX13_findWalks_19 rfl rfl (Nat.le_of_ble_eq_true rfl) rfl ?_
        refine mm_goto dX13_findWalks_22 ?_
        have go := ih hlt _ ⟨hR18, ?_, ?_⟩ ?_
        · rw [show ((s + 1 : Nat) : Int) = (s : Int) + 1 by omega] at go
          exact go
        · intro a a1; rw [hM18, mm_up_row a1]; exact f1 a a1
        · intro i hi; exact absurd hi (by omega)
        · intro v hv
          by_cases c : v = s
          · rw [c, hM18, mm_up_s]
          · rw [hM18, mm_up_i (by omega)]; exact hH v (by omega)
    · have es : s = n := by omega
      subst es
      have go := l2 0 (Nat.zero_le _) N ⟨hRN, f1, fun i hi v hv => by
        rw [show i = 0 by omega, show 288 * 0 + v = v by omega, hH v hv]
        exact kw_V.zero v⟩
      refine mm_iload_n dX13_findWalks_7 rfl rfl ?_
      refine mm_iload_n dX13_findWalks_8 rfl rfl ?_
      refine mm_icge dX13_findWalks_9 (by omega) (by omega) (fun h9 => ?_) (fun h9 => ?_)
      · refine mm_iconst dX13_findWalks_25 rfl ?_
        refine mm_istore_n dX13_findWalks_26 rfl (Nat.le_of_ble_eq_true rfl) rfl ?_
        exact go
      · exfalso; omega
  have cn := c_X13_states (X := X) hR
  rw [hn] at cn
  refine mm_start (ls := [(2, 184), (9, 0), (9, 0), (9, 0), (9, 0), (9, 0), (9, 0), (9, 0)]) rfl ?_
  refine mm_aload_n dX13_findWalks_0 rfl rfl ?_
  refine mm_V0i dX13_findWalks_1 rfl lk_X13_458 (c := 183) rfl (by decide) rfl  rfl rfl rfl (cn) ?_
  refine mm_istore_n dX13_findWalks_4 rfl (Nat.le_of_ble_eq_true rfl) rfl ?_
  refine mm_iconst dX13_findWalks_5 rfl ?_
  refine mm_istore_n dX13_findWalks_6 rfl (Nat.le_of_ble_eq_true rfl) rfl ?_
  exact l1 0 (Nat.zero_le _) M ⟨hR, fun _ _ => rfl, fun i hi => absurd hi (by omega)⟩ (fun v hv => absurd hv (by omega))
end

