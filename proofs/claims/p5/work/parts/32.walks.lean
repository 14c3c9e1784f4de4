/-! G3.walks -/
section
/-! ===== the reference: walks of so many steps ===== -/
/-- the greatest of the values that count, among the first m -/
def gM (ok : Nat → Prop) (val : Nat → Int) (d : Int) (m : Nat) (x : Int) : Prop := (x = d ∧ ∀ i, i < m → ¬ ok i) ∨ ((∃ i, i < m ∧ ok i ∧ val i = x) ∧ ∀ i, i < m → ok i → val i ≤ x)
theorem gM.zero {ok : Nat → Prop} {val : Nat → Int} {d : Int} : gM ok val d 0 d := Or.inl ⟨rfl, fun i hi => absurd hi (by omega)⟩
theorem gM.no {ok : Nat → Prop} {val : Nat → Int} {d x : Int} {m : Nat} (h : gM ok val d m x) (hn : ¬ ok m) : gM ok val d (m + 1) x := by
  rcases h with ⟨h1, h2⟩ | ⟨⟨i, i1, i2, i3⟩, h2⟩
  · refine Or.inl ⟨h1, fun i hi => ?_⟩
    by_cases e : i = m
    · rw [e]; exact hn
    · exact h2 i (by omega)
  · refine Or.inr ⟨⟨i, by omega, i2, i3⟩, fun i hi => ?_⟩
    by_cases e : i = m
    · rw [e]; exact fun z => absurd z hn
    · exact h2 i (by omega)
theorem gM.yes {ok : Nat → Prop} {val : Nat → Int} {d x : Int} {m : Nat} (h : gM ok val d m x) (hn : ok m) (hd : d ≤ val m) : gM ok val d (m + 1) (max x (val m)) := by
  rcases h with ⟨h1, h2⟩ | ⟨⟨i, i1, i2, i3⟩, h2⟩
  · refine Or.inr ⟨⟨m, by omega, hn, by omega⟩, fun i hi z => ?_⟩
    by_cases e : i = m
    · rw [e]; omega
    · exact absurd z (h2 i (by omega))
  · refine Or.inr ⟨?_, fun i hi z => ?_⟩
    · by_cases c : x ≤ val m
      · exact ⟨m, by omega, hn, by omega⟩
      · exact ⟨i, by omega, i2, by omega⟩
    · by_cases e : i = m
      · rw [e]; omega
      · have := h2 i (by omega) z
        omega
theorem gM.skip {ok : Nat → Prop} {val : Nat → Int} {d x : Int} {m : Nat} (h : gM ok val d m x) : ∀ k : Nat, (∀ i, m ≤ i → i < m + k → ¬ ok i) → gM ok val d (m + k) x
  | 0, _ => h
  | k + 1, q => (gM.skip h k (fun i a b => q i a (by omega))).no (q (m + k) (by omega) (by omega))
theorem gM.congr {ok ok' : Nat → Prop} {val val' : Nat → Int} {d x : Int} {m : Nat} (h : gM ok val d m x) (h1 : ∀ i, i < m → (ok' i ↔ ok i)) (h2 : ∀ i, i < m → val' i = val i) : gM ok' val' d m x := by
  rcases h with ⟨a1, a2⟩ | ⟨⟨i, i1, i2, i3⟩, a2⟩
  · exact Or.inl ⟨a1, fun i hi z => a2 i hi ((h1 i hi).mp z)⟩
  · exact Or.inr ⟨⟨i, i1, (h1 i i1).mpr i2, by rw [h2 i i1]; exact i3⟩, fun j hj z => by rw [h2 j hj]; exact a2 j hj ((h1 j hj).mp z)⟩
/-- where a step of a state leads -/
def ke_T (K : Nat → Int) (i : Nat) : Nat := (ks_to K ((i / 15 : Nat) : Int) ((i % 15 : Nat) : Int)).toNat
/-- steps as they are found -/
def ke_S (K : Nat → Int) (n : Nat) (F G : Nat → Int) : Prop := ∀ i, i < 15 * n → (F i = 0 ∨ F i = 1) ∧ (F i = 1 → (0 ≤ ks_to K ((i / 15 : Nat) : Int) ((i % 15 : Nat) : Int) ∧ ks_to K ((i / 15 : Nat) : Int) ((i % 15 : Nat) : Int) < n) ∧ -5800000 ≤ G i ∧ G i ≤ 5800000)
/-- the graph of the steps -/
def ke_E (K : Nat → Int) (n : Nat) (F G : Nat → Int) (u v : Nat) (w : Int) : Prop := ∃ i, i < 15 * n ∧ F i = 1 ∧ u = i / 15 ∧ v = ke_T K i ∧ w = G i
theorem ke_S.t {K : Nat → Int} {n : Nat} {F G : Nat → Int} (h : ke_S K n F G) {i : Nat} (hi : i < 15 * n) (hF : F i = 1) : ((ke_T K i : Nat) : Int) = ks_to K ((i / 15 : Nat) : Int) ((i % 15 : Nat) : Int) ∧ ke_T K i < n := by
  have := ((h i hi).2 hF).1
  unfold ke_T
  omega
theorem ke_S.n {K : Nat → Int} {n : Nat} {F G : Nat → Int} (h : ke_S K n F G) : ∀ u v w, ke_E K n F G u v w → u < n ∧ v < n := by
  rintro u v w ⟨i, i1, i2, rfl, rfl, rfl⟩
  exact ⟨by omega, (h.t i1 i2).2⟩
theorem ke_S.b {K : Nat → Int} {n : Nat} {F G : Nat → Int} (h : ke_S K n F G) : ∀ u v w, ke_E K n F G u v w → -5800000 ≤ w ∧ w ≤ 5800000 := by
  rintro u v w ⟨i, i1, i2, rfl, rfl, rfl⟩
  exact ((h i i1).2 i2).2
/-- the most that a walk of k steps to v gives -/
def kw_V (e : Nat → Nat → Int → Prop) (k v : Nat) (x : Int) : Prop := (x = -4000000000000000000 ∧ ∀ p g, gW e p g k → p k ≠ v) ∨ ((∃ p g, gW e p g k ∧ p k = v ∧ ka_sum g k = x) ∧ ∀ p g, gW e p g k → p k = v → ka_sum g k ≤ x)
theorem kw_V.b {e : Nat → Nat → Int → Prop} {k v : Nat} {x : Int} (hB : ∀ u v w, e u v w → -5800000 ≤ w ∧ w ≤ 5800000) (h : kw_V e k v x) : x = -4000000000000000000 ∨ (-5800000 * (k : Int) ≤ x ∧ x ≤ 5800000 * (k : Int)) := by
  rcases h with h | ⟨⟨p, g, w, -, e2⟩, -⟩
  · exact Or.inl h.1
  · have := ka_sumb (B := 5800000) (n := k) (f := g) (fun i hi => by have := hB _ _ _ (w i hi); omega)
    rw [e2] at this
    exact Or.inr ⟨by omega, by omega⟩
theorem kw_V.zero {e : Nat → Nat → Int → Prop} (v : Nat) : kw_V e 0 v 0 := Or.inr ⟨⟨fun _ => v, fun _ => 0, fun j hj => absurd hj (by omega), rfl, rfl⟩, fun _ _ _ _ => Int.le_refl 0⟩
theorem kw_step {K : Nat → Int} {n : Nat} {F G : Nat → Int} (h : ke_S K n F G) {k v : Nat} {W : Nat → Int} {x : Int} (hk : k ≤ 1000) (hW : ∀ u, u < n → kw_V (ke_E K n F G) k u (W u))
    (hM : gM (fun i => F i = 1 ∧ W (i / 15) ≠ -4000000000000000000 ∧ ke_T K i = v) (fun i => W (i / 15) + G i) (-4000000000000000000) (15 * n) x) : kw_V (ke_E K n F G) (k + 1) v x := by
  have key : ∀ p g, gW (ke_E K n F G) p g (k + 1) → p (k + 1) = v → ∃ i, i < 15 * n ∧ (F i = 1 ∧ W (i / 15) ≠ -4000000000000000000 ∧ ke_T K i = v) ∧ ka_sum g (k + 1) ≤ W (i / 15) + G i := by
    intro p g w hv
    obtain ⟨i, i1, i2, i3, i4, i5⟩ := w k (by omega)
    have wk := w.to (k := k) (by omega)
    have hu := hW (i / 15) (by omega)
    have hb := hu.b h.b
    rcases hu with ⟨-, q⟩ | ⟨-, q2⟩
    · exact absurd i3 (q p g wk)
    · have a := q2 p g wk i3
      rcases hb with hb | hb
      · exfalso
        have := ka_sumb (B := 5800000) (n := k) (f := g) (fun i hi => by have := h.b _ _ _ (wk i hi); omega)
        omega
      · refine ⟨i, i1, ⟨i2, by omega, by rw [← i4, hv]⟩, ?_⟩
        show ka_sum g k + g k ≤ _
        omega
  rcases hM with ⟨a1, a2⟩ | ⟨⟨i, i1, ⟨i2, i3, i4⟩, i5⟩, a2⟩
  · refine Or.inl ⟨a1, fun p g w hv => ?_⟩
    obtain ⟨i, i1, i2, -⟩ := key p g w hv
    exact a2 i i1 i2
  · refine Or.inr ⟨?_, fun p g w hv => ?_⟩
    · rcases hW (i / 15) (by omega) with ⟨q, -⟩ | ⟨⟨p, g, w, q1, q2⟩, -⟩
      · exact absurd q i3
      · have w1 : gW (ke_E K n F G) (fun t => if t = 0 then i / 15 else v) (fun _ => G i) 1 := by
          intro j hj
          have e0 : j = 0 := by omega
          subst e0
          exact ⟨i, i1, i2, rfl, i4.symm, rfl⟩
        refine ⟨_, _, w.app w1 q1, ?_, ?_⟩
        · rw [gJp_end _ _ _ _ q1]; rfl
        · rw [gJg_sum, q2]
          have i5' : W (i / 15) + G i = x := i5
          show W (i / 15) + (0 + G i) = x
          omega
    · obtain ⟨i, i1, i2, i3⟩ := key p g w hv
      exact Int.le_trans i3 (a2 i i1 i2)
section
variable {X : mm_X} {M : mm_M} {n : Nat}
/-- rows of walks below k are found, and of row k what the first m steps give -/
def kw_I (M N : mm_M) (n k : Nat) : Prop := mm_Rf N ∧ (∀ a, a ≠ 207 → N a = M a) ∧ ∀ i, i < k → ∀ v, v < n → kw_V (ke_E (mm_rk M) n (M 205) (M 206)) i v (N 207 (288 * i + v))
def kw_H (M N : mm_M) (n k m : Nat) : Prop := ∀ v, v < n → gM (fun i => M 205 i = 1 ∧ N 207 (288 * k + i / 15) ≠ -4000000000000000000 ∧ ke_T (mm_rk M) i = v) (fun i => N 207 (288 * k + i / 15) + M 206 i) (-4000000000000000000) m (N 207 (288 * (k + 1) + v))
theorem kw_fr {M N : mm_M} (f : ∀ a, a ≠ 207 → N a = M a) : mm_rk N = mm_rk M := mm_rk.fr (fun a b q => by rw [f a (by omega)])
theorem c_X13_findWalks (hR : mm_Rf M) (hn : ks_n (mm_rk M) = (n : Int)) (hn2 : n ≤ 288) (hS : ke_S (mm_rk M) n (M 205) (M 206)) : mm_C X Y_X13_findWalks 243 243 [(2, 184)] M (fun r M' => r = (3, 0) ∧ kw_I M M' n (n + 1)) := by
  obtain ⟨Φ, hΦ⟩ : ∃ Φ : mm_V → mm_M → Prop, Φ = (fun r M' => r = (3, 0) ∧ kw_I M M' n (n + 1)) := ⟨_, rfl⟩
  rw [← hΦ]
  obtain ⟨e, he⟩ : ∃ e, e = ke_E (mm_rk M) n (M 205) (M 206) := ⟨_, rfl⟩
  -- the steps of a state
  have l5 : ∀ k : Nat, k < n → ∀ s : Nat, s < n → ∀ w : Int, -4000000000000000000 < w →
      (∀ N, kw_I M N n (k + 1) → kw_H M N n k (15 * (s + 1)) → mm_J X Y_X13_findWalks 243 243 243 174 [(2, 184), (0, (n : Int)), (0, ((k + 1 : Nat) : Int)), (0, (s : Int)), (9, 0), (9, 0), (9, 0), (9, 0)] [] N Φ) →
      ∀ t : Nat, t ≤ 15 → ∀ N, kw_I M N n (k + 1) → kw_H M N n k (15 * s + t) → w = N 207 (288 * k + s) →
      mm_J X Y_X13_findWalks 243 243 243 86 [(2, 184), (0, (n : Int)), (0, ((k + 1 : Nat) : Int)), (0, (s : Int)), (1, w), (9, 0), (0, (t : Int)), (9, 0)] [] N Φ := by
    intro k hk s hs w hw out
    refine mm_lp ?_
    intro t ht ih N hI hH hwN
    obtain ⟨hRN, f1, f2⟩ := id hI
    have rk := kw_fr f1
    have e205 : N 205 = M 205 := f1 205 (by decide)
    have e206 : N 206 = M 206 := f1 206 (by decide)
    by_cases hlt : t < 15
    · have hwb := (f2 k (by omega) s hs).b hS.b
      rw [← hwN] at hwb
      have hix : (15 * s + t) / 15 = s := by omega
      have hix2 : (15 * s + t) % 15 = t := by omega
      by_cases hF : M 205 (15 * s + t) = 1
      · have hT := hS.t (i := 15 * s + t) (by omega) hF
        have hG := ((hS (15 * s + t) (by omega)).2 hF).2
        rw [hix, hix2] at hT
        have ca := c_X13_after (X := X) (s := (s : Int)) (a := (t : Int)) hRN (by omega)
        rw [rk, ← hT.1] at ca
        obtain ⟨T, hTe⟩ : ∃ T, T = ke_T (mm_rk M) (15 * s + t) := ⟨_, rfl⟩
        rw [← hTe] at ca hT
        have hTn := hT.2
        have hxb : mm_RL (N 207 (288 * (k + 1) + T)) := by
          rcases hH T hTn with q | ⟨⟨i, i1, ⟨i2, i3, i4⟩, i5⟩, -⟩
          · rw [q.1]; unfold mm_RL; omega
          · have q1 := (f2 k (by omega) (i / 15) (by omega)).b hS.b
            have q2 := ((hS i (by omega)).2 i2).2
            rw [← i5]
            show mm_RL (N 207 (288 * k + i / 15) + M 206 i)
            unfold mm_RL
            omega
        have fin : ∀ P : mm_M, P = mm_up N 207 (288 * (k + 1) + T) (max (N 207 (288 * (k + 1) + T)) (w + M 206 (15 * s + t))) →
            mm_J X Y_X13_findWalks 243 243 243 86 [(2, 184), (0, (n : Int)), (0, ((k + 1 : Nat) : Int)), (0, (s : Int)), (1, w), (9, 0), (0, (t : Int) + 1), (9, 0)] [] P Φ := by
          intro P hPe
          have hlow : ∀ u, u < n → ∀ i, i < k + 1 → P 207 (288 * i + u) = N 207 (288 * i + u) := by
            intro u hu i hi
            rw [hPe, mm_up_i (by omega)]
          have := ih hlt P ⟨?_, ?_, ?_⟩ ?_ ?_
          · rw [show ((t + 1 : Nat) : Int) = (t : Int) + 1 by omega] at this; exact this
          · rw [hPe]; exact hRN.up (mm_rt_ar rfl (by decide))
          · intro a a1; rw [hPe, mm_up_row a1]; exact f1 a a1
          · intro i hi v hv; rw [hlow v hv i hi]; exact f2 i hi v hv
          · intro v hv
            have hv' := hH v hv
            have cg : ∀ i, i < 15 * s + t + 1 → P 207 (288 * k + i / 15) = N 207 (288 * k + i / 15) := fun i hi => hlow (i / 15) (by omega) k (by omega)
            have go : gM (fun i => M 205 i = 1 ∧ N 207 (288 * k + i / 15) ≠ -4000000000000000000 ∧ ke_T (mm_rk M) i = v) (fun i => N 207 (288 * k + i / 15) + M 206 i) (-4000000000000000000) (15 * s + t + 1) (P 207 (288 * (k + 1) + v)) := by
              by_cases ev : v = T
              · rw [hPe, ev, mm_up_s]
                rw [ev] at hv'
                have := hv'.yes ⟨hF, by rw [hix, ← hwN]; omega, hTe.symm⟩ (by show _ ≤ N 207 (288 * k + (15 * s + t) / 15) + M 206 (15 * s + t); rw [hix, ← hwN]; omega)
                have e1 : N 207 (288 * k + (15 * s + t) / 15) + M 206 (15 * s + t) = w + M 206 (15 * s + t) := by rw [hix, ← hwN]
                rw [← e1]
                exact this
              · rw [hPe, mm_up_i (by omega)]
                exact hv'.no (fun q => ev (by rw [hTe]; exact q.2.2.symm))
            exact go.congr (fun i hi => by rw [cg i hi]) (fun i hi => by rw [cg i hi])
          · rw [hlow s hs k (by omega)]; exact hwN
        refine mm_iload dX13_findWalks_86 rfl rfl ?_
        refine mm_bipush dX13_findWalks_88 rfl (by decide) ?_
        refine mm_icge dX13_findWalks_90 (by omega) (by omega) (fun h90 => ?_) (fun h90 => ?_)
        · exfalso; omega
        · refine mm_lload dX13_findWalks_93 rfl rfl ?_
          refine mm_ldc2 dX13_findWalks_95 rfl kc_X13_521 ?_
          refine mm_lcmp dX13_findWalks_98 rfl (by omega) (by omega) ?_
          refine mm_iflec dX13_findWalks_99 (fun h99 => ?_) (fun h99 => ?_)
          · exfalso; omega
          · refine mm_aload_n dX13_findWalks_102 rfl rfl ?_
            refine mm_getr dX13_findWalks_103 rfl fl_X13_261 (c := 183) rfl (by decide) rfl rfl (hRN.at (c := 183) (i := 36) (v := 206) rfl (by decide)) ?_
            refine mm_bipush dX13_findWalks_106 rfl (by decide) ?_
            refine mm_iload_n dX13_findWalks_108 rfl rfl ?_
            refine mm_imul dX13_findWalks_109 rfl ?_
            refine mm_iload dX13_findWalks_110 rfl rfl ?_
            refine mm_iadd dX13_findWalks_112 rfl ?_
            refine mm_zalk (k0 := 15 * s + t) dX13_findWalks_113 rfl (c := 205) rfl (by decide) rfl (by omega) (by omega) ?_
            rw [e205, hF]
            refine mm_ifne dX13_findWalks_114 (by omega) (fun h114 => ?_) (fun h114 => ?_)
            · refine mm_sipush dX13_findWalks_120 rfl (by decide) ?_
              refine mm_iload_n dX13_findWalks_123 rfl rfl ?_
              refine mm_imul dX13_findWalks_124 rfl ?_
              refine mm_aload_n dX13_findWalks_125 rfl rfl ?_
              refine mm_iload_n dX13_findWalks_126 rfl rfl ?_
              refine mm_iload dX13_findWalks_127 rfl rfl ?_
              refine mm_V2i dX13_findWalks_129 rfl lk_X13_476 (c := 183) rfl (by decide) rfl (by simp) (by simp) rfl rfl rfl (ca) ?_
              refine mm_iadd dX13_findWalks_132 rfl ?_
              refine mm_istore dX13_findWalks_133 rfl (Nat.le_of_ble_eq_true rfl) rfl ?_
              refine mm_aload_n dX13_findWalks_135 rfl rfl ?_
              refine mm_getr dX13_findWalks_136 rfl fl_X13_268 (c := 183) rfl (by decide) rfl rfl (hRN.at (c := 183) (i := 38) (v := 208) rfl (by decide)) ?_
              refine mm_iload dX13_findWalks_139 rfl rfl ?_
              refine mm_aload_n dX13_findWalks_141 rfl rfl ?_
              refine mm_getr dX13_findWalks_142 rfl fl_X13_268 (c := 183) rfl (by decide) rfl rfl (hRN.at (c := 183) (i := 38) (v := 208) rfl (by decide)) ?_
              refine mm_iload dX13_findWalks_145 rfl rfl ?_
              refine mm_lalk (k0 := 288 * (k + 1) + T) dX13_findWalks_147 rfl (c := 207) rfl (by decide) rfl (by omega) (by omega) ?_
              refine mm_lload dX13_findWalks_148 rfl rfl ?_
              refine mm_aload_n dX13_findWalks_150 rfl rfl ?_
              refine mm_getr dX13_findWalks_151 rfl fl_X13_264 (c := 183) rfl (by decide) rfl rfl (hRN.at (c := 183) (i := 37) (v := 207) rfl (by decide)) ?_
              refine mm_bipush dX13_findWalks_154 rfl (by decide) ?_
              refine mm_iload_n dX13_findWalks_156 rfl rfl ?_
              refine mm_imul dX13_findWalks_157 rfl ?_
              refine mm_iload dX13_findWalks_158 rfl rfl ?_
              refine mm_iadd dX13_findWalks_160 rfl ?_
              refine mm_ialk (k0 := 15 * s + t) dX13_findWalks_161 rfl (c := 206) rfl (by decide) rfl (by omega) (by omega) ?_
              rw [e206]
              refine mm_i2l dX13_findWalks_162 rfl (by omega) ?_
              refine mm_ladd dX13_findWalks_163 rfl ?_
              refine mm_maxl dX13_findWalks_164 rfl lm_X13_523 rfl rfl (by simp) (by omega) (by omega) ?_
              refine mm_lstk (k0 := 288 * (k + 1) + T) dX13_findWalks_167 rfl (c := 207) rfl (by decide) rfl (by omega) (by omega) (fun M167 hM167 => ?_)
              have hR167 : mm_Rf M167 := by rw [hM167]; exact hRN.up (mm_rt_ar (t := 3) rfl (by decide))
              refine mm_iinc dX13_findWalks_168 rfl rfl (Nat.le_of_ble_eq_true rfl) rfl ?_
              refine mm_goto dX13_findWalks_171 ?_
              exact mm_drop (ls' := [(2, 184), (0, (n : Int)), (0, ((k + 1 : Nat) : Int)), (0, (s : Int)), (1, w), (9, 0), (0, (t : Int) + 1), (9, 0)]) (by simp [mm_dr]) (fin _ hM167)
            · exfalso; omega
      · have hF0 : M 205 (15 * s + t) = 0 := by
          rcases (hS (15 * s + t) (by omega)).1 with q | q
          · exact q
          · exact absurd q hF
        have go := ih hlt N hI (fun v hv => (hH v hv).no (fun q => hF q.1)) hwN
        rw [show ((t + 1 : Nat) : Int) = (t : Int) + 1 by omega] at go
        refine mm_iload dX13_findWalks_86 rfl rfl ?_
        refine mm_bipush dX13_findWalks_88 rfl (by decide) ?_
        refine mm_icge dX13_findWalks_90 (by omega) (by omega) (fun h90 => ?_) (fun h90 => ?_)
        · exfalso; omega
        · refine mm_lload dX13_findWalks_93 rfl rfl ?_
          refine mm_ldc2 dX13_findWalks_95 rfl kc_X13_521 ?_
          refine mm_lcmp dX13_findWalks_98 rfl (by omega) (by omega) ?_
          refine mm_iflec dX13_findWalks_99 (fun h99 => ?_) (fun h99 => ?_)
          · exfalso; omega
          · refine mm_aload_n dX13_findWalks_102 rfl rfl ?_
            refine mm_getr dX13_findWalks_103 rfl fl_X13_261 (c := 183) rfl (by decide) rfl rfl (hRN.at (c := 183) (i := 36) (v := 206) rfl (by decide)) ?_
            refine mm_bipush dX13_findWalks_106 rfl (by decide) ?_
            refine mm_iload_n dX13_findWalks_108 rfl rfl ?_
            refine mm_imul dX13_findWalks_109 rfl ?_
            refine mm_iload dX13_findWalks_110 rfl rfl ?_
            refine mm_iadd dX13_findWalks_112 rfl ?_
            refine mm_zalk (k0 := 15 * s + t) dX13_findWalks_113 rfl (c := 205) rfl (by decide) rfl (by omega) (by omega) ?_
            rw [e205, hF0]
            refine mm_ifne dX13_findWalks_114 (by omega) (fun h114 => ?_) (fun h114 => ?_)
            · exfalso; omega
            · refine mm_goto dX13_findWalks_117 ?_
              refine mm_iinc dX13_findWalks_168 rfl rfl (Nat.le_of_ble_eq_true rfl) rfl ?_
              refine mm_goto dX13_findWalks_171 ?_
              exact go
    · have et : t = 15 := by omega
      subst et
      refine mm_iload dX13_findWalks_86 rfl rfl ?_
      refine mm_bipush dX13_findWalks_88 rfl (by decide) ?_
      refine mm_icge dX13_findWalks_90 (by omega) (by omega) (fun h90 => ?_) (fun h90 => ?_)
      · exact mm_drop (ls' := [(2, 184), (0, (n : Int)), (0, ((k + 1 : Nat) : Int)), (0, (s : Int)), (9, 0), (9, 0), (9, 0), (9, 0)]) (by simp [mm_dr]) (out N hI (by rw [show 15 * (s + 1) = 15 * s + 15 by omega]; exact hH))
      · exfalso; omega
  -- the states
  have l4 : ∀ k : Nat, k < n → (∀ N, kw_I M N n (k + 2) → mm_J X Y_X13_findWalks 243 243 243 180 [(2, 184), (0, (n : Int)), (0, ((k + 1 : Nat) : Int)), (9, 0), (9, 0), (9, 0), (9, 0), (9, 0)] [] N Φ) →
      ∀ s : Nat, s ≤ n → ∀ N, kw_I M N n (k + 1) → kw_H M N n k (15 * s) → mm_J X Y_X13_findWalks 243 243 243 62 [(2, 184), (0, (n : Int)), (0, ((k + 1 : Nat) : Int)), (0, (s : Int)), (9, 0), (9, 0), (9, 0), (9, 0)] [] N Φ := by
    intro k hk out
    refine mm_lp ?_
    intro s hs ih N hI hH
    obtain ⟨hRN, f1, f2⟩ := id hI
    by_cases hlt : s < n
    · have back : ∀ N, kw_I M N n (k + 1) → kw_H M N n k (15 * (s + 1)) → mm_J X Y_X13_findWalks 243 243 243 174 [(2, 184), (0, (n : Int)), (0, ((k + 1 : Nat) : Int)), (0, (s : Int)), (9, 0), (9, 0), (9, 0), (9, 0)] [] N Φ := by
        intro P hP hQ
        have go := ih hlt P hP hQ
        have hRP := hP.1
        rw [show ((s + 1 : Nat) : Int) = (s : Int) + 1 by omega] at go
        refine mm_iinc dX13_findWalks_174 rfl rfl (Nat.le_of_ble_eq_true rfl) rfl ?_
        refine mm_goto dX13_findWalks_177 ?_
        exact go
      have hwb := (f2 k (by omega) s hlt).b hS.b
      by_cases hw : N 207 (288 * k + s) = -4000000000000000000
      · have go := back N hI (fun v hv => by
          have := (hH v hv).skip 15 (fun i a b q => q.2.1 (by rw [show i / 15 = s by omega]; exact hw))
          rw [show 15 * (s + 1) = 15 * s + 15 by omega]
          exact this)
        refine mm_iload_n dX13_findWalks_62 rfl rfl ?_
        refine mm_iload_n dX13_findWalks_63 rfl rfl ?_
        refine mm_icge dX13_findWalks_64 (by omega) (by omega) (fun h64 => ?_) (fun h64 => ?_)
        · exfalso; omega
        · refine mm_aload_n dX13_findWalks_67 rfl rfl ?_
          refine mm_getr dX13_findWalks_68 rfl fl_X13_268 (c := 183) rfl (by decide) rfl rfl (hRN.at (c := 183) (i := 38) (v := 208) rfl (by decide)) ?_
          refine mm_sipush dX13_findWalks_71 rfl (by decide) ?_
          refine mm_iload_n dX13_findWalks_74 rfl rfl ?_
          refine mm_iconst dX13_findWalks_75 rfl ?_
          refine mm_isub dX13_findWalks_76 rfl ?_
          refine mm_imul dX13_findWalks_77 rfl ?_
          refine mm_iload_n dX13_findWalks_78 rfl rfl ?_
          refine mm_iadd dX13_findWalks_79 rfl ?_
          refine mm_lalk (k0 := 288 * k + s) dX13_findWalks_80 rfl (c := 207) rfl (by decide) rfl (by omega) (by omega) ?_
          rw [hw]
          refine mm_lstore dX13_findWalks_81 rfl (Nat.le_of_ble_eq_true rfl) rfl ?_
          refine mm_iconst dX13_findWalks_83 rfl ?_
          refine mm_istore dX13_findWalks_84 rfl (Nat.le_of_ble_eq_true rfl) rfl ?_
          refine mm_iload dX13_findWalks_86 rfl rfl ?_
          refine mm_bipush dX13_findWalks_88 rfl (by decide) ?_
          refine mm_icge dX13_findWalks_90 (by omega) (by omega) (fun h90 => ?_) (fun h90 => ?_)
          · exfalso; omega
          · refine mm_lload dX13_findWalks_93 rfl rfl ?_
            refine mm_ldc2 dX13_findWalks_95 rfl kc_X13_521 ?_
            refine mm_lcmp dX13_findWalks_98 rfl (by omega) (by omega) ?_
            refine mm_iflec dX13_findWalks_99 (fun h99 => ?_) (fun h99 => ?_)
            · exact mm_drop (ls' := [(2, 184), (0, (n : Int)), (0, ((k + 1 : Nat) : Int)), (0, (s : Int)), (9, 0), (9, 0), (9, 0), (9, 0)]) (by simp [mm_dr]) go
            · exfalso; omega
      · have go := l5 k hk s hlt (N 207 (288 * k + s)) (by omega) back 0 (Nat.zero_le _) N hI hH rfl
        refine mm_iload_n dX13_findWalks_62 rfl rfl ?_
        refine mm_iload_n dX13_findWalks_63 rfl rfl ?_
        refine mm_icge dX13_findWalks_64 (by omega) (by omega) (fun h64 => ?_) (fun h64 => ?_)
        · exfalso; omega
        · refine mm_aload_n dX13_findWalks_67 rfl rfl ?_
          refine mm_getr dX13_findWalks_68 rfl fl_X13_268 (c := 183) rfl (by decide) rfl rfl (hRN.at (c := 183) (i := 38) (v := 208) rfl (by decide)) ?_
          refine mm_sipush dX13_findWalks_71 rfl (by decide) ?_
          refine mm_iload_n dX13_findWalks_74 rfl rfl ?_
          refine mm_iconst dX13_findWalks_75 rfl ?_
          refine mm_isub dX13_findWalks_76 rfl ?_
          refine mm_imul dX13_findWalks_77 rfl ?_
          refine mm_iload_n dX13_findWalks_78 rfl rfl ?_
          refine mm_iadd dX13_findWalks_79 rfl ?_
          refine mm_lalk (k0 := 288 * k + s) dX13_findWalks_80 rfl (c := 207) rfl (by decide) rfl (by omega) (by omega) ?_
          refine mm_lstore dX13_findWalks_81 rfl (Nat.le_of_ble_eq_true rfl) rfl ?_
          refine mm_iconst dX13_findWalks_83 rfl ?_
          refine mm_istore dX13_findWalks_84 rfl (Nat.le_of_ble_eq_true rfl) rfl ?_
          exact go
    · have es : s = n := by omega
      subst es
      have go := out N ⟨hRN, f1, fun i hi v hv => by
        by_cases c : i < k + 1
        · exact f2 i c v hv
        · rw [show i = k + 1 by omega]
          exact kw_step hS (W := fun u => N 207 (288 * k + u)) (by omega) (fun u hu => f2 k (by omega) u hu) (hH v hv)⟩
      refine mm_iload_n dX13_findWalks_62 rfl rfl ?_
      refine mm_iload_n dX13_findWalks_63 rfl rfl ?_
      refine mm_icge dX13_findWalks_64 (by omega) (by omega) (fun h64 => ?_) (fun h64 => ?_)
      · exact mm_drop (ls' := [(2, 184), (0, (s : Int)), (0, ((k + 1 : Nat) : Int)), (9, 0), (9, 0), (9, 0), (9, 0), (9, 0)]) (by simp [mm_dr]) go
      · exfalso; omega
  -- a row is cleared
  have l3 : ∀ k : Nat, k < n → (∀ N, kw_I M N n (k + 1) → kw_H M N n k 0 → mm_J X Y_X13_findWalks 243 243 243 60 [(2, 184), (0, (n : Int)), (0, ((k + 1 : Nat) : Int)), (9, 0), (9, 0), (9, 0), (9, 0), (9, 0)] [] N Φ) →
      ∀ s : Nat, s ≤ n → ∀ N, kw_I M N n (k + 1) → (∀ v, v < s → N 207 (288 * (k + 1) + v) = -4000000000000000000) → mm_J X Y_X13_findWalks 243 243 243 34 [(2, 184), (0, (n : Int)), (0, ((k + 1 : Nat) : Int)), (0, (s : Int)), (9, 0), (9, 0), (9, 0), (9, 0)] [] N Φ := by
    intro k hk out
    refine mm_lp ?_
    intro s hs ih N hI hH
    obtain ⟨hRN, f1, f2⟩ := id hI
    by_cases hlt : s < n
    · refine mm_iload_n dX13_findWalks_34 rfl rfl ?_
      refine mm_iload_n dX13_findWalks_35 rfl rfl ?_
      refine mm_icge dX13_findWalks_36 (by omega) (by omega) (fun h36 => ?_) (fun h36 => ?_)
      · exfalso; omega
      · refine mm_aload_n dX13_findWalks_39 rfl rfl ?_
        refine mm_getr dX13_findWalks_40 rfl fl_X13_268 (c := 183) rfl (by decide) rfl rfl (hRN.at (c := 183) (i := 38) (v := 208) rfl (by decide)) ?_
        refine mm_sipush dX13_findWalks_43 rfl (by decide) ?_
        refine mm_iload_n dX13_findWalks_46 rfl rfl ?_
        refine mm_imul dX13_findWalks_47 rfl ?_
        refine mm_iload_n dX13_findWalks_48 rfl rfl ?_
        refine mm_iadd dX13_findWalks_49 rfl ?_
        refine mm_ldc2 dX13_findWalks_50 rfl kc_X13_521 ?_
        refine mm_lstk (k0 := 288 * (k + 1) + s) dX13_findWalks_53 rfl (c := 207) rfl (by decide) rfl (by omega) (by omega) (fun M53 hM53 => ?_)
        have hR53 : mm_Rf M53 := by rw [hM53]; exact hRN.up (mm_rt_ar (t := 3) rfl (by decide))
        refine mm_iinc dX13_findWalks_54 rfl rfl (Nat.le_of_ble_eq_true rfl) rfl ?_
        refine mm_goto dX13_findWalks_57 ?_
        have go := ih hlt _ ⟨hR53, ?_, ?_⟩ ?_
        · rw [show ((s + 1 : Nat) : Int) = (s : Int) + 1 by omega] at go
          exact go
        · intro a a1; rw [hM53, mm_up_row a1]; exact f1 a a1
        · intro i hi v hv; rw [hM53, mm_up_i (by omega)]; exact f2 i hi v hv
        · intro v hv
          by_cases c : v = s
          · rw [c, hM53, mm_up_s]
          · rw [hM53, mm_up_i (by omega)]; exact hH v (by omega)
    · have es : s = n := by omega
      subst es
      have go := out N hI (fun v hv => by rw [hH v hv]; exact gM.zero)
      refine mm_iload_n dX13_findWalks_34 rfl rfl ?_
      refine mm_iload_n dX13_findWalks_35 rfl rfl ?_
      refine mm_icge dX13_findWalks_36 (by omega) (by omega) (fun h36 => ?_) (fun h36 => ?_)
      · exact mm_drop (ls' := [(2, 184), (0, (s : Int)), (0, ((k + 1 : Nat) : Int)), (9, 0), (9, 0), (9, 0), (9, 0), (9, 0)]) (by simp [mm_dr]) go
      · exfalso; omega
  -- the rows
  have l2 : ∀ k : Nat, k ≤ n → ∀ N, kw_I M N n (k + 1) → mm_J X Y_X13_findWalks 243 243 243 27 [(2, 184), (0, (n : Int)), (0, ((k + 1 : Nat) : Int)), (9, 0), (9, 0), (9, 0), (9, 0), (9, 0)] [] N Φ := by
    refine mm_lp ?_
    intro k hk ih N hI
    obtain ⟨hRN, f1, f2⟩ := id hI
    by_cases hlt : k < n
    · have b180 : ∀ N, kw_I M N n (k + 2) → mm_J X Y_X13_findWalks 243 243 243 180 [(2, 184), (0, (n : Int)), (0, ((k + 1 : Nat) : Int)), (9, 0), (9, 0), (9, 0), (9, 0), (9, 0)] [] N Φ := by
        intro P hP
        have go := ih hlt P hP
        have hRP := hP.1
        rw [show ((k + 1 + 1 : Nat) : Int) = ((k + 1 : Nat) : Int) + 1 by omega] at go
        refine mm_iinc dX13_findWalks_180 rfl rfl (Nat.le_of_ble_eq_true rfl) rfl ?_
        refine mm_goto dX13_findWalks_183 ?_
        exact go
      have b60 : ∀ N, kw_I M N n (k + 1) → kw_H M N n k 0 → mm_J X Y_X13_findWalks 243 243 243 60 [(2, 184), (0, (n : Int)), (0, ((k + 1 : Nat) : Int)), (9, 0), (9, 0), (9, 0), (9, 0), (9, 0)] [] N Φ := by
        intro P hP hQ
        have go := l4 k hlt b180 0 (Nat.zero_le _) P hP hQ
        have hRP := hP.1
        refine mm_iconst dX13_findWalks_60 rfl ?_
        refine mm_istore_n dX13_findWalks_61 rfl (Nat.le_of_ble_eq_true rfl) rfl ?_
        exact go
      have go := l3 k hlt b60 0 (Nat.zero_le _) N hI (fun v hv => absurd hv (by omega))
      refine mm_iload_n dX13_findWalks_27 rfl rfl ?_
      refine mm_iload_n dX13_findWalks_28 rfl rfl ?_
      refine mm_icgt dX13_findWalks_29 (by omega) (by omega) (fun h29 => ?_) (fun h29 => ?_)
      · exfalso; omega
      · refine mm_iconst dX13_findWalks_32 rfl ?_
        refine mm_istore_n dX13_findWalks_33 rfl (Nat.le_of_ble_eq_true rfl) rfl ?_
        exact go
    · have es : k = n := by omega
      subst es
      refine mm_iload_n dX13_findWalks_27 rfl rfl ?_
      refine mm_iload_n dX13_findWalks_28 rfl rfl ?_
      refine mm_icgt dX13_findWalks_29 (by omega) (by omega) (fun h29 => ?_) (fun h29 => ?_)
      · refine mm_vret dX13_findWalks_186 rfl rfl ?_
        rw [hΦ]; exact ⟨rfl, hI⟩
      · exfalso; omega
  -- the first row
  have l1 : ∀ s : Nat, s ≤ n → ∀ N, kw_I M N n 0 → (∀ v, v < s → N 207 v = 0) → mm_J X Y_X13_findWalks 243 243 243 7 [(2, 184), (0, (n : Int)), (0, (s : Int)), (9, 0), (9, 0), (9, 0), (9, 0), (9, 0)] [] N Φ := by
    refine mm_lp ?_
    intro s hs ih N hI hH
    obtain ⟨hRN, f1, f2⟩ := id hI
    by_cases hlt : s < n
    · refine mm_iload_n dX13_findWalks_7 rfl rfl ?_
      refine mm_iload_n dX13_findWalks_8 rfl rfl ?_
      refine mm_icge dX13_findWalks_9 (by omega) (by omega) (fun h9 => ?_) (fun h9 => ?_)
      · exfalso; omega
      · refine mm_aload_n dX13_findWalks_12 rfl rfl ?_
        refine mm_getr dX13_findWalks_13 rfl fl_X13_268 (c := 183) rfl (by decide) rfl rfl (hRN.at (c := 183) (i := 38) (v := 208) rfl (by decide)) ?_
        refine mm_iload_n dX13_findWalks_16 rfl rfl ?_
        refine mm_lconst0 dX13_findWalks_17 rfl ?_
        refine mm_lstk (k0 := s) dX13_findWalks_18 rfl (c := 207) rfl (by decide) rfl (by omega) (by omega) (fun M18 hM18 => ?_)
        have hR18 : mm_Rf M18 := by rw [hM18]; exact hRN.up (mm_rt_ar (t := 3) rfl (by decide))
        refine mm_iinc dX13_findWalks_19 rfl rfl (Nat.le_of_ble_eq_true rfl) rfl ?_
        refine mm_goto dX13_findWalks_22 ?_
        have go := ih hlt _ ⟨hR18, ?_, ?_⟩ ?_
        · rw [show ((s + 1 : Nat) : Int) = (s : Int) + 1 by omega] at go
          exact go
        · intro a a1; rw [hM18, mm_up_row a1]; exact f1 a a1
        · intro i hi; exact absurd hi (by omega)
        · intro v hv
          by_cases c : v = s
          · rw [c, hM18, mm_up_s]
          · rw [hM18, mm_up_i (by omega)]; exact hH v (by omega)
    · have es : s = n := by omega
      subst es
      have go := l2 0 (Nat.zero_le _) N ⟨hRN, f1, fun i hi v hv => by
        rw [show i = 0 by omega, show 288 * 0 + v = v by omega, hH v hv]
        exact kw_V.zero v⟩
      refine mm_iload_n dX13_findWalks_7 rfl rfl ?_
      refine mm_iload_n dX13_findWalks_8 rfl rfl ?_
      refine mm_icge dX13_findWalks_9 (by omega) (by omega) (fun h9 => ?_) (fun h9 => ?_)
      · refine mm_iconst dX13_findWalks_25 rfl ?_
        refine mm_istore_n dX13_findWalks_26 rfl (Nat.le_of_ble_eq_true rfl) rfl ?_
        exact go
      · exfalso; omega
  have cn := c_X13_states (X := X) hR
  rw [hn] at cn
  refine mm_start (ls := [(2, 184), (9, 0), (9, 0), (9, 0), (9, 0), (9, 0), (9, 0), (9, 0)]) rfl ?_
  refine mm_aload_n dX13_findWalks_0 rfl rfl ?_
  refine mm_V0i dX13_findWalks_1 rfl lk_X13_458 (c := 183) rfl (by decide) rfl  rfl rfl rfl (cn) ?_
  refine mm_istore_n dX13_findWalks_4 rfl (Nat.le_of_ble_eq_true rfl) rfl ?_
  refine mm_iconst dX13_findWalks_5 rfl ?_
  refine mm_istore_n dX13_findWalks_6 rfl (Nat.le_of_ble_eq_true rfl) rfl ?_
  exact l1 0 (Nat.zero_le _) M ⟨hR, fun _ _ => rfl, fun i hi => absurd hi (by omega)⟩ (fun v hv => absurd hv (by omega))
end
end
/-! G4.mean -/
section
/-! ===== the reference: the greatest mean of a loop ===== -/
theorem fr_trans {a b c d e f : Int} (hb : 0 ≤ b) (hd : 0 < d) (hf : 0 ≤ f) (h1 : a * d ≤ c * b) (h2 : c * f ≤ e * d) : a * f ≤ e * b := by
  have q1 := Int.mul_le_mul_of_nonneg_right h1 hf
  have q2 := Int.mul_le_mul_of_nonneg_right h2 hb
  refine Int.le_of_mul_le_mul_right (a := d) ?_ hd
  rw [show a * f * d = a * d * f by rw [Int.mul_assoc, Int.mul_comm f d, ← Int.mul_assoc], show e * b * d = e * d * b by rw [Int.mul_assoc, Int.mul_comm b d, ← Int.mul_assoc]]
  rw [show c * b * f = c * f * b by rw [Int.mul_assoc, Int.mul_comm b f, ← Int.mul_assoc]] at q1
  exact Int.le_trans q1 q2
theorem mm_mulB {a b A B : Int} (h1 : -A ≤ a) (h2 : a ≤ A) (h3 : 0 ≤ b) (h4 : b ≤ B) : -(A * B) ≤ a * b ∧ a * b ≤ A * B := by
  have q1 := Int.mul_le_mul_of_nonneg_right h2 h3
  have q2 := Int.mul_le_mul_of_nonneg_right h1 h3
  have q3 := Int.mul_le_mul_of_nonneg_left h4 (show 0 ≤ A by omega)
  rw [Int.neg_mul] at q2
  omega
/-- the least of what is left above the parts, as a fraction -/
def kw_N (A : Int) (part : Nat → Int) (n k0 : Nat) (S C : Int) : Prop := (C = 0 ∧ ∀ k, k < k0 → part k = -4000000000000000000) ∨ (1 ≤ C ∧ (∃ k, k < k0 ∧ part k ≠ -4000000000000000000 ∧ S = A - part k ∧ C = (n : Int) - k) ∧ ∀ k, k < k0 → part k ≠ -4000000000000000000 → S * ((n : Int) - k) ≤ (A - part k) * C)
theorem kw_N.no {A S C : Int} {part : Nat → Int} {n k : Nat} (h : kw_N A part n k S C) (hn : part k = -4000000000000000000) : kw_N A part n (k + 1) S C := by
  rcases h with ⟨h1, h2⟩ | ⟨h1, ⟨i, i1, i2, i3⟩, h2⟩
  · refine Or.inl ⟨h1, fun i hi => ?_⟩
    by_cases e : i = k
    · rw [e]; exact hn
    · exact h2 i (by omega)
  · refine Or.inr ⟨h1, ⟨i, by omega, i2, i3⟩, fun i hi => ?_⟩
    by_cases e : i = k
    · rw [e]; exact fun z => absurd hn z
    · exact h2 i (by omega)
theorem kw_N.old {A S C : Int} {part : Nat → Int} {n k : Nat} (h : kw_N A part n k S C) (hC : 0 < C) (hn : S * ((n : Int) - k) ≤ (A - part k) * C) : kw_N A part n (k + 1) S C := by
  rcases h with ⟨h1, h2⟩ | ⟨h1, ⟨i, i1, i2, i3⟩, h2⟩
  · exfalso; omega
  · refine Or.inr ⟨h1, ⟨i, by omega, i2, i3⟩, fun i hi => ?_⟩
    by_cases e : i = k
    · rw [e]; exact fun _ => hn
    · exact h2 i (by omega)
theorem kw_N.new {A S C : Int} {part : Nat → Int} {n k : Nat} (h : kw_N A part n k S C) (hk : k < n) (hp : part k ≠ -4000000000000000000) (hn : C ≤ 0 ∨ (A - part k) * C < S * ((n : Int) - k)) : kw_N A part n (k + 1) (A - part k) ((n : Int) - k) := by
  refine Or.inr ⟨by omega, ⟨k, by omega, hp, rfl, rfl⟩, fun i hi hq => ?_⟩
  by_cases e : i = k
  · rw [e]; exact Int.le_refl _
  · rcases h with ⟨h1, h2⟩ | ⟨h1, -, h2⟩
    · exact absurd (h2 i (by omega)) hq
    · have q := h2 i (by omega) hq
      rcases hn with hn | hn
      · exfalso; omega
      · exact fr_trans (d := C) (c := S) (by omega) (by omega) (by omega) (by omega) q
/-- the greatest of these over the states -/
def kw_O (V : Nat → Nat → Int) (n s0 : Nat) (S C : Int) : Prop := (C = 0 ∧ ∀ s, s < s0 → V n s = -4000000000000000000) ∨ (1 ≤ C ∧ (∃ s, s < s0 ∧ V n s ≠ -4000000000000000000 ∧ kw_N (V n s) (fun k => V k s) n n S C) ∧ ∀ s, s < s0 → V n s ≠ -4000000000000000000 → ∃ a b, 1 ≤ b ∧ kw_N (V n s) (fun k => V k s) n n a b ∧ a * C ≤ S * b)
theorem kw_O.no {V : Nat → Nat → Int} {n s : Nat} {S C : Int} (h : kw_O V n s S C) (hn : V n s = -4000000000000000000) : kw_O V n (s + 1) S C := by
  rcases h with ⟨h1, h2⟩ | ⟨h1, ⟨i, i1, i2⟩, h2⟩
  · refine Or.inl ⟨h1, fun i hi => ?_⟩
    by_cases e : i = s
    · rw [e]; exact hn
    · exact h2 i (by omega)
  · refine Or.inr ⟨h1, ⟨i, by omega, i2⟩, fun i hi => ?_⟩
    by_cases e : i = s
    · rw [e]; exact fun z => absurd hn z
    · exact h2 i (by omega)
theorem kw_O.old {V : Nat → Nat → Int} {n s : Nat} {S C a b : Int} (h : kw_O V n s S C) (hC : 0 < C) (hN : kw_N (V n s) (fun k => V k s) n n a b) (hb : 1 ≤ b) (hn : a * C ≤ S * b) : kw_O V n (s + 1) S C := by
  rcases h with ⟨h1, h2⟩ | ⟨h1, ⟨i, i1, i2⟩, h2⟩
  · exfalso; omega
  · refine Or.inr ⟨h1, ⟨i, by omega, i2⟩, fun i hi => ?_⟩
    by_cases e : i = s
    · rw [e]; exact fun _ => ⟨a, b, hb, hN, hn⟩
    · exact h2 i (by omega)
theorem kw_O.new {V : Nat → Nat → Int} {n s : Nat} {S C a b : Int} (h : kw_O V n s S C) (hp : V n s ≠ -4000000000000000000) (hN : kw_N (V n s) (fun k => V k s) n n a b) (hb : 1 ≤ b) (hn : C ≤ 0 ∨ S * b < a * C) : kw_O V n (s + 1) a b := by
  refine Or.inr ⟨hb, ⟨s, by omega, hp, hN⟩, fun i hi hq => ?_⟩
  by_cases e : i = s
  · rw [e]; exact ⟨a, b, hb, hN, Int.le_refl _⟩
  · rcases h with ⟨h1, h2⟩ | ⟨h1, -, h2⟩
    · exact absurd (h2 i (by omega)) hq
    · obtain ⟨c, d, q1, q2, q3⟩ := h2 i (by omega) hq
      rcases hn with hn | hn
      · exfalso; omega
      · exact ⟨c, d, q1, q2, fr_trans (d := C) (c := S) (by omega) (by omega) (by omega) q3 (by omega)⟩
/-- s / c is the greatest mean of a loop -/
def kw_mean (e : Nat → Nat → Int → Prop) (S C : Int) : Prop := 1 ≤ C ∧ gB e S C ∧ ∃ p g m, gL e p g m ∧ C * ka_sum g m = S * m
theorem kw_loop {e : Nat → Nat → Int → Prop} {n : Nat} {p : Nat → Nat} {g : Nat → Int} (hN : ∀ u v w, e u v w → u < n ∧ v < n) (hn : 1 ≤ n) (hW : gW e p g n) : ∃ p g m, gL e p g m := by
  obtain ⟨i, j, hij, hj, he⟩ := gz_pig n p (fun i hi => by
    by_cases c : i < n
    · exact (hN _ _ _ (hW i c)).1
    · have := (hN _ _ _ (hW (i - 1) (by omega))).2
      rw [show i - 1 + 1 = i by omega] at this
      exact this)
  refine ⟨_, _, j - i, hW.from (i := i) (k := j - i) (by omega), by omega, ?_⟩
  show p (i + (j - i)) = p (i + 0)
  rw [show i + (j - i) = j by omega, Nat.add_zero]
  exact he.symm
theorem kw_karp {e : Nat → Nat → Int → Prop} {n : Nat} {V : Nat → Nat → Int} {S C : Int} (hN : ∀ u v w, e u v w → u < n ∧ v < n) (hB : ∀ u v w, e u v w → -5800000 ≤ w ∧ w ≤ 5800000) (hn : 1 ≤ n) (hn2 : n ≤ 288)
    (hV : ∀ k, k ≤ n → ∀ v, v < n → kw_V e k v (V k v)) (hO : kw_O V n n S C) : (C = 0 ∧ ¬ ∃ p g m, gL e p g m) ∨ (kw_mean e S C) := by
  have vb : ∀ k, k ≤ n → ∀ v, v < n → V k v ≠ -4000000000000000000 → (∃ p g, gW e p g k ∧ p k = v ∧ ka_sum g k = V k v) ∧ ∀ p g, gW e p g k → p k = v → ka_sum g k ≤ V k v := by
    intro k hk v hv hne
    rcases hV k hk v hv with ⟨q, -⟩ | q
    · exact absurd q hne
    · exact q
  have vx : ∀ k, k ≤ n → ∀ v, v < n → ∀ p g, gW e p g k → p k = v → V k v ≠ -4000000000000000000 ∧ ka_sum g k ≤ V k v := by
    intro k hk v hv p g w hp
    have b := (hV k hk v hv).b hB
    rcases hV k hk v hv with ⟨-, q⟩ | ⟨-, q⟩
    · exact absurd hp (q p g w)
    · have u := q p g w hp
      have := ka_sumb (B := 5800000) (n := k) (f := g) (fun i hi => by have := hB _ _ _ (w i hi); omega)
      exact ⟨by omega, u⟩
  rcases hO with ⟨h1, h2⟩ | ⟨h1, ⟨s0, s1, s2, s3⟩, h2⟩
  · refine Or.inl ⟨h1, ?_⟩
    rintro ⟨p, g, m, hL⟩
    have w := gl_walk hL n
    have hv : p (n % m) < n := (hN _ _ _ (hL.1 (n % m) (Nat.mod_lt n hL.2.1))).1
    exact (vx n (Nat.le_refl n) _ hv _ _ w rfl).1 (h2 _ hv)
  · obtain ⟨p0, g0, w0, e0, a0⟩ := (vb n (Nat.le_refl n) s0 s1 s2).1
    obtain ⟨p, g, m, hL, hm, hb⟩ := gB_ex hN (B := 5800000) hB (kw_loop hN hn w0)
    have hm1 := hL.2.1
    -- the answer is no greater than the greatest mean
    have up : S * (m : Int) ≤ ka_sum g m * C := by
      obtain ⟨q, f, k, w1, w2, w3, w4⟩ := karp_up hN hb w0 (by rw [e0]; exact s1)
      rw [e0] at w2
      obtain ⟨x1, x2⟩ := vx k (by omega) s0 s1 q f w1 w2
      rcases s3 with ⟨z, -⟩ | ⟨-, -, z⟩
      · exfalso; omega
      · have y := z k w3 x1
        have y1 : (V n s0 - V k s0) * (m : Int) ≤ ka_sum g m * ((n : Int) - k) := by
          refine Int.le_trans ?_ w4
          rw [Int.mul_comm]
          exact Int.mul_le_mul_of_nonneg_left (by omega) (by omega)
        exact fr_trans (d := (n : Int) - k) (c := V n s0 - V k s0) (by omega) (by omega) (by omega) y y1
    have dn : ka_sum g m * C ≤ S * (m : Int) := by
      obtain ⟨q, f, w1, w2, w3⟩ := karp_down hN (B := 5800000) hB (s := ka_sum g m) (c := m) (by omega) hb hL (Int.mul_comm _ _)
      obtain ⟨x1, x2⟩ := vx n (Nat.le_refl n) (q n) w2 q f w1 rfl
      obtain ⟨a, b, q1, q2, q3⟩ := h2 (q n) w2 x1
      rcases q2 with ⟨z, -⟩ | ⟨-, ⟨k, k1, k2, k3, k4⟩, -⟩
      · exfalso; omega
      · obtain ⟨p', g', u1, u2, u3⟩ := (vb k (by omega) (q n) w2 k2).1
        have y := w3 p' g' k u1 u2
        have y1 : ka_sum g m * b ≤ a * (m : Int) := by
          rw [k4]
          refine Int.le_trans y ?_
          rw [Int.mul_comm a, k3, u3]
          exact Int.mul_le_mul_of_nonneg_left (by show ka_sum f n - V k (q n) ≤ V n (q n) - V k (q n); omega) (by omega)
        exact fr_trans (d := b) (c := a) (by omega) (by omega) (by omega) y1 q3
    refine Or.inr ⟨h1, ?_, p, g, m, hL, by rw [Int.mul_comm]; omega⟩
    intro p' g' m' hL'
    have y := hb p' g' m' hL'
    rw [Int.mul_comm C, ]
    exact fr_trans (b := (m' : Int)) (d := (m : Int)) (c := ka_sum g m) (by omega) (by omega) (by omega) (by rw [Int.mul_comm]; exact y) dn
end
/-! G5.mean2 -/
section
/-! ===== the reference: findMean ===== -/
def kw_bd (n : Nat) (S C : Int) : Prop := 0 ≤ C ∧ C ≤ n ∧ (0 < C → -3340800000 ≤ S ∧ S ≤ 3340800000)
section
variable {X : mm_X} {M : mm_M} {n : Nat}
/-- what findMean leaves -/
def kw_F (M N : mm_M) : Prop := mm_Rf N ∧ (∀ a, a ≠ 183 → N a = M a) ∧ ∀ b, b ≠ 39 → b ≠ 40 → N 183 b = M 183 b
theorem c_X13_findMean (hR : mm_Rf M) (hn : ks_n (mm_rk M) = (n : Int)) (hn1 : 1 ≤ n) (hn2 : n ≤ 288) {e : Nat → Nat → Int → Prop} (hN : ∀ u v w, e u v w → u < n ∧ v < n) (hB : ∀ u v w, e u v w → -5800000 ≤ w ∧ w ≤ 5800000)
    (hV : ∀ k, k ≤ n → ∀ v, v < n → kw_V e k v (M 207 (288 * k + v))) :
    mm_C X Y_X13_findMean 243 243 [(2, 184)] M (fun r M' => kw_F M M' ∧ kw_bd n (M' 183 39) (M' 183 40) ∧ ((r = (0, 0) ∧ M' 183 40 = 0 ∧ ¬ ∃ p g m, gL e p g m) ∨ (r = (0, 1) ∧ kw_mean e (M' 183 39) (M' 183 40)))) := by
  obtain ⟨Φ, hΦ⟩ : ∃ Φ : mm_V → mm_M → Prop, Φ = (fun r M' => kw_F M M' ∧ kw_bd n (M' 183 39) (M' 183 40) ∧ ((r = (0, 0) ∧ M' 183 40 = 0 ∧ ¬ ∃ p g m, gL e p g m) ∨ (r = (0, 1) ∧ kw_mean e (M' 183 39) (M' 183 40)))) := ⟨_, rfl⟩
  rw [← hΦ]
  obtain ⟨V, hVd⟩ : ∃ V : Nat → Nat → Int, V = fun k s => M 207 (288 * k + s) := ⟨_, rfl⟩
  have hVe : ∀ k s, M 207 (288 * k + s) = V k s := fun k s => by rw [hVd]
  have hVb : ∀ k, k ≤ n → ∀ s, s < n → V k s = -4000000000000000000 ∨ (-1670400000 ≤ V k s ∧ V k s ≤ 1670400000) := by
    intro k hk s hs
    have := (hV k hk s hs).b hB
    rw [hVe] at this
    omega
  -- the parts of a state
  have inner : ∀ s : Nat, s < n → ∀ N : mm_M, kw_F M N → V n s ≠ -4000000000000000000 →
      (∀ S C, kw_N (V n s) (fun k => V k s) n n S C → kw_bd n S C → mm_J X Y_X13_findMean 243 243 243 131 [(2, 184), (0, (n : Int)), (0, (s : Int)), (9, 0), (9, 0), (1, S), (9, 0), (1, C), (9, 0), (9, 0), (9, 0), (9, 0)] [] N Φ) →
      ∀ k : Nat, k ≤ n → ∀ S C, kw_N (V n s) (fun k => V k s) n k S C → kw_bd n S C →
      mm_J X Y_X13_findMean 243 243 243 50 [(2, 184), (0, (n : Int)), (0, (s : Int)), (1, V n s), (9, 0), (1, S), (9, 0), (1, C), (9, 0), (0, (k : Int)), (9, 0), (9, 0)] [] N Φ := by
    intro s hs N hF hA out
    obtain ⟨hRN, f1, f2⟩ := id hF
    have e207 : N 207 = M 207 := f1 207 (by decide)
    have hAb := hVb n (Nat.le_refl n) s hs
    refine mm_lp ?_
    intro k hk ih S C hNN hbd
    obtain ⟨b1, b2, b3⟩ := id hbd
    by_cases hlt : k < n
    · have hpb := hVb k hk s hs
      by_cases hp : V k s = -4000000000000000000
      · have go := ih hlt S C (hNN.no hp) hbd
        rw [show ((k + 1 : Nat) : Int) = (k : Int) + 1 by omega] at go
        refine mm_iload dX13_findMean_50 rfl rfl ?_
        refine mm_iload_n dX13_findMean_52 rfl rfl ?_
        refine mm_icge dX13_findMean_53 (by omega) (by omega) (fun h53 => ?_) (fun h53 => ?_)
        · exfalso; omega
        · refine mm_aload_n dX13_findMean_56 rfl rfl ?_
          refine mm_getr dX13_findMean_57 rfl fl_X13_268 (c := 183) rfl (by decide) rfl rfl (hRN.at (c := 183) (i := 38) (v := 208) rfl (by decide)) ?_
          refine mm_sipush dX13_findMean_60 rfl (by decide) ?_
          refine mm_iload dX13_findMean_63 rfl rfl ?_
          refine mm_imul dX13_findMean_65 rfl ?_
          refine mm_iload_n dX13_findMean_66 rfl rfl ?_
          refine mm_iadd dX13_findMean_67 rfl ?_
          refine mm_lalk (k0 := 288 * k + s) dX13_findMean_68 rfl (c := 207) rfl (by decide) rfl (by omega) (by omega) ?_
          rw [e207, hVe]
          refine mm_lstore dX13_findMean_69 rfl (Nat.le_of_ble_eq_true rfl) rfl ?_
          refine mm_lload dX13_findMean_71 rfl rfl ?_
          refine mm_ldc2 dX13_findMean_73 rfl kc_X13_521 ?_
          refine mm_lcmp dX13_findMean_76 rfl (by omega) (by omega) ?_
          refine mm_ifgtc dX13_findMean_77 (fun h77 => ?_) (fun h77 => ?_)
          · exfalso; omega
          · refine mm_goto dX13_findMean_80 ?_
            refine mm_iinc dX13_findMean_125 rfl rfl (Nat.le_of_ble_eq_true rfl) rfl ?_
            refine mm_goto dX13_findMean_128 ?_
            exact mm_drop (ls' := [(2, 184), (0, (n : Int)), (0, (s : Int)), (1, V n s), (9, 0), (1, S), (9, 0), (1, C), (9, 0), (0, (k : Int) + 1), (9, 0), (9, 0)]) (by simp [mm_dr]) go
      · have new : (C ≤ 0 ∨ (V n s - V k s) * C < S * ((n : Int) - k)) → mm_J X Y_X13_findMean 243 243 243 50 [(2, 184), (0, (n : Int)), (0, (s : Int)), (1, V n s), (9, 0), (1, V n s - V k s), (9, 0), (1, (n : Int) - k), (9, 0), (0, (k : Int) + 1), (9, 0), (9, 0)] [] N Φ := by
          intro q
          have go := ih hlt _ _ (hNN.new hlt hp q) ⟨by omega, by omega, fun _ => by omega⟩
          rw [show ((k + 1 : Nat) : Int) = (k : Int) + 1 by omega] at go
          exact go
        have old : 0 < C → S * ((n : Int) - k) ≤ (V n s - V k s) * C → mm_J X Y_X13_findMean 243 243 243 50 [(2, 184), (0, (n : Int)), (0, (s : Int)), (1, V n s), (9, 0), (1, S), (9, 0), (1, C), (9, 0), (0, (k : Int) + 1), (9, 0), (9, 0)] [] N Φ := by
          intro q1 q2
          have go := ih hlt _ _ (hNN.old q1 q2) hbd
          rw [show ((k + 1 : Nat) : Int) = (k : Int) + 1 by omega] at go
          exact go
        have m1 := mm_mulB (a := V n s - V k s) (b := C) (A := 3340800000) (B := 288) (by omega) (by omega) b1 (by omega)
        have m2 : 0 < C → -(3340800000 * 288) ≤ S * ((n : Int) - k) ∧ S * ((n : Int) - k) ≤ 3340800000 * 288 := fun q => mm_mulB (a := S) (b := (n : Int) - k) (A := 3340800000) (B := 288) (b3 q).1 (b3 q).2 (by omega) (by omega)
        refine mm_iload dX13_findMean_50 rfl rfl ?_
        refine mm_iload_n dX13_findMean_52 rfl rfl ?_
        refine mm_icge dX13_findMean_53 (by omega) (by omega) (fun h53 => ?_) (fun h53 => ?_)
        · exfalso; omega
        · refine mm_aload_n dX13_findMean_56 rfl rfl ?_
          refine mm_getr dX13_findMean_57 rfl fl_X13_268 (c := 183) rfl (by decide) rfl rfl (hRN.at (c := 183) (i := 38) (v := 208) rfl (by decide)) ?_
          refine mm_sipush dX13_findMean_60 rfl (by decide) ?_
          refine mm_iload dX13_findMean_63 rfl rfl ?_
          refine mm_imul dX13_findMean_65 rfl ?_
          refine mm_iload_n dX13_findMean_66 rfl rfl ?_
          refine mm_iadd dX13_findMean_67 rfl ?_
          refine mm_lalk (k0 := 288 * k + s) dX13_findMean_68 rfl (c := 207) rfl (by decide) rfl (by omega) (by omega) ?_
          rw [e207, hVe]
          refine mm_lstore dX13_findMean_69 rfl (Nat.le_of_ble_eq_true rfl) rfl ?_
          refine mm_lload dX13_findMean_71 rfl rfl ?_
          refine mm_ldc2 dX13_findMean_73 rfl kc_X13_521 ?_
          refine mm_lcmp dX13_findMean_76 rfl (by omega) (by omega) ?_
          refine mm_ifgtc dX13_findMean_77 (fun h77 => ?_) (fun h77 => ?_)
          · refine mm_lload dX13_findMean_83 rfl rfl ?_
            refine mm_lconst0 dX13_findMean_85 rfl ?_
            refine mm_lcmp dX13_findMean_86 rfl (by omega) (by omega) ?_
            refine mm_iflec dX13_findMean_87 (fun h87 => ?_) (fun h87 => ?_)
            · refine mm_lload_n dX13_findMean_112 rfl rfl ?_
              refine mm_lload dX13_findMean_113 rfl rfl ?_
              refine mm_lsub dX13_findMean_115 rfl ?_
              refine mm_lstore dX13_findMean_116 rfl (Nat.le_of_ble_eq_true rfl) rfl ?_
              refine mm_iload_n dX13_findMean_118 rfl rfl ?_
              refine mm_iload dX13_findMean_119 rfl rfl ?_
              refine mm_isub dX13_findMean_121 rfl ?_
              refine mm_i2l dX13_findMean_122 rfl (by omega) ?_
              refine mm_lstore dX13_findMean_123 rfl (Nat.le_of_ble_eq_true rfl) rfl ?_
              refine mm_iinc dX13_findMean_125 rfl rfl (Nat.le_of_ble_eq_true rfl) rfl ?_
              refine mm_goto dX13_findMean_128 ?_
              first
              | exact mm_drop (ls' := [(2, 184), (0, (n : Int)), (0, (s : Int)), (1, V n s), (9, 0), (1, S), (9, 0), (1, C), (9, 0), (0, (k : Int) + 1), (9, 0), (9, 0)]) (by simp [mm_dr]) (old (by omega) (by omega))
              | exact mm_drop (ls' := [(2, 184), (0, (n : Int)), (0, (s : Int)), (1, V n s), (9, 0), (1, V n s - V k s), (9, 0), (1, (n : Int) - k), (9, 0), (0, (k : Int) + 1), (9, 0), (9, 0)]) (by simp [mm_dr]) (new (Or.inr (by omega)))
              | exact mm_drop (ls' := [(2, 184), (0, (n : Int)), (0, (s : Int)), (1, V n s), (9, 0), (1, V n s - V k s), (9, 0), (1, (n : Int) - k), (9, 0), (0, (k : Int) + 1), (9, 0), (9, 0)]) (by simp [mm_dr]) (new (Or.inl (by omega)))
            · refine mm_lload_n dX13_findMean_90 rfl rfl ?_
              refine mm_lload dX13_findMean_91 rfl rfl ?_
              refine mm_lsub dX13_findMean_93 rfl ?_
              refine mm_lload dX13_findMean_94 rfl rfl ?_
              refine mm_lmul dX13_findMean_96 rfl ?_
              refine mm_lload dX13_findMean_97 rfl rfl ?_
              refine mm_iload_n dX13_findMean_99 rfl rfl ?_
              refine mm_iload dX13_findMean_100 rfl rfl ?_
              refine mm_isub dX13_findMean_102 rfl ?_
              refine mm_i2l dX13_findMean_103 rfl (by omega) ?_
              refine mm_lmul dX13_findMean_104 rfl ?_
              have m3 := m2 (by omega)
              refine mm_lcmp dX13_findMean_105 rfl (by omega) (by omega) ?_
              refine mm_ifltc dX13_findMean_106 (fun h106 => ?_) (fun h106 => ?_)
              · refine mm_lload_n dX13_findMean_112 rfl rfl ?_
                refine mm_lload dX13_findMean_113 rfl rfl ?_
                refine mm_lsub dX13_findMean_115 rfl ?_
                refine mm_lstore dX13_findMean_116 rfl (Nat.le_of_ble_eq_true rfl) rfl ?_
                refine mm_iload_n dX13_findMean_118 rfl rfl ?_
                refine mm_iload dX13_findMean_119 rfl rfl ?_
                refine mm_isub dX13_findMean_121 rfl ?_
                refine mm_i2l dX13_findMean_122 rfl (by omega) ?_
                refine mm_lstore dX13_findMean_123 rfl (Nat.le_of_ble_eq_true rfl) rfl ?_
                refine mm_iinc dX13_findMean_125 rfl rfl (Nat.le_of_ble_eq_true rfl) rfl ?_
                refine mm_goto dX13_findMean_128 ?_
                first
                | exact mm_drop (ls' := [(2, 184), (0, (n : Int)), (0, (s : Int)), (1, V n s), (9, 0), (1, S), (9, 0), (1, C), (9, 0), (0, (k : Int) + 1), (9, 0), (9, 0)]) (by simp [mm_dr]) (old (by omega) (by omega))
                | exact mm_drop (ls' := [(2, 184), (0, (n : Int)), (0, (s : Int)), (1, V n s), (9, 0), (1, V n s - V k s), (9, 0), (1, (n : Int) - k), (9, 0), (0, (k : Int) + 1), (9, 0), (9, 0)]) (by simp [mm_dr]) (new (Or.inr (by omega)))
                | exact mm_drop (ls' := [(2, 184), (0, (n : Int)), (0, (s : Int)), (1, V n s), (9, 0), (1, V n s - V k s), (9, 0), (1, (n : Int) - k), (9, 0), (0, (k : Int) + 1), (9, 0), (9, 0)]) (by simp [mm_dr]) (new (Or.inl (by omega)))
              · refine mm_goto dX13_findMean_109 ?_
                refine mm_iinc dX13_findMean_125 rfl rfl (Nat.le_of_ble_eq_true rfl) rfl ?_
                refine mm_goto dX13_findMean_128 ?_
                first
                | exact mm_drop (ls' := [(2, 184), (0, (n : Int)), (0, (s : Int)), (1, V n s), (9, 0), (1, S), (9, 0), (1, C), (9, 0), (0, (k : Int) + 1), (9, 0), (9, 0)]) (by simp [mm_dr]) (old (by omega) (by omega))
                | exact mm_drop (ls' := [(2, 184), (0, (n : Int)), (0, (s : Int)), (1, V n s), (9, 0), (1, V n s - V k s), (9, 0), (1, (n : Int) - k), (9, 0), (0, (k : Int) + 1), (9, 0), (9, 0)]) (by simp [mm_dr]) (new (Or.inr (by omega)))
                | exact mm_drop (ls' := [(2, 184), (0, (n : Int)), (0, (s : Int)), (1, V n s), (9, 0), (1, V n s - V k s), (9, 0), (1, (n : Int) - k), (9, 0), (0, (k : Int) + 1), (9, 0), (9, 0)]) (by simp [mm_dr]) (new (Or.inl (by omega)))
          · exfalso; omega
    · have ek : k = n := by omega
      subst ek
      have go := out S C hNN hbd
      refine mm_iload dX13_findMean_50 rfl rfl ?_
      refine mm_iload_n dX13_findMean_52 rfl rfl ?_
      refine mm_icge dX13_findMean_53 (by omega) (by omega) (fun h53 => ?_) (fun h53 => ?_)
      · exact mm_drop (ls' := [(2, 184), (0, (k : Int)), (0, (s : Int)), (9, 0), (9, 0), (1, S), (9, 0), (1, C), (9, 0), (9, 0), (9, 0), (9, 0)]) (by simp [mm_dr]) go
      · exfalso; omega
  have outer : ∀ s : Nat, s ≤ n → ∀ N : mm_M, kw_F M N → kw_bd n (N 183 39) (N 183 40) → kw_O V n s (N 183 39) (N 183 40) →
      mm_J X Y_X13_findMean 243 243 243 12 [(2, 184), (0, (n : Int)), (0, (s : Int)), (9, 0), (9, 0), (9, 0), (9, 0), (9, 0), (9, 0), (9, 0), (9, 0), (9, 0)] [] N Φ := by
    refine mm_lp ?_
    intro s hs ih N hF hbd hO
    obtain ⟨hRN, f1, f2⟩ := id hF
    have e207 : N 207 = M 207 := f1 207 (by decide)
    by_cases hlt : s < n
    · have hAb := hVb n (Nat.le_refl n) s hlt
      by_cases hA : V n s = -4000000000000000000
      · have go := ih hlt N hF hbd (hO.no hA)
        rw [show ((s + 1 : Nat) : Int) = (s : Int) + 1 by omega] at go
        refine mm_iload_n dX13_findMean_12 rfl rfl ?_
        refine mm_iload_n dX13_findMean_13 rfl rfl ?_
        refine mm_icge dX13_findMean_14 (by omega) (by omega) (fun h14 => ?_) (fun h14 => ?_)
        · exfalso; omega
        · refine mm_aload_n dX13_findMean_17 rfl rfl ?_
          refine mm_getr dX13_findMean_18 rfl fl_X13_268 (c := 183) rfl (by decide) rfl rfl (hRN.at (c := 183) (i := 38) (v := 208) rfl (by decide)) ?_
          refine mm_sipush dX13_findMean_21 rfl (by decide) ?_
          refine mm_iload_n dX13_findMean_24 rfl rfl ?_
          refine mm_imul dX13_findMean_25 rfl ?_
          refine mm_iload_n dX13_findMean_26 rfl rfl ?_
          refine mm_iadd dX13_findMean_27 rfl ?_
          refine mm_lalk (k0 := 288 * n + s) dX13_findMean_28 rfl (c := 207) rfl (by decide) rfl (by omega) (by omega) ?_
          rw [e207, hVe]
          refine mm_lstore_n dX13_findMean_29 rfl (Nat.le_of_ble_eq_true rfl) rfl ?_
          refine mm_lload_n dX13_findMean_30 rfl rfl ?_
          refine mm_ldc2 dX13_findMean_31 rfl kc_X13_521 ?_
          refine mm_lcmp dX13_findMean_34 rfl (by omega) (by omega) ?_
          refine mm_ifgtc dX13_findMean_35 (fun h35 => ?_) (fun h35 => ?_)
          · exfalso; omega
          · refine mm_goto dX13_findMean_38 ?_
            refine mm_iinc dX13_findMean_173 rfl rfl (Nat.le_of_ble_eq_true rfl) rfl ?_
            refine mm_goto dX13_findMean_176 ?_
            exact mm_drop (ls' := [(2, 184), (0, (n : Int)), (0, (s : Int) + 1), (9, 0), (9, 0), (9, 0), (9, 0), (9, 0), (9, 0), (9, 0), (9, 0), (9, 0)]) (by repeat (first | exact trivial | refine And.intro (Or.inl rfl) ?_ | refine And.intro (Or.inr rfl) ?_)) go
      · obtain ⟨c1, c2, c3⟩ := id hbd
        have out : ∀ S C, kw_N (V n s) (fun k => V k s) n n S C → kw_bd n S C → mm_J X Y_X13_findMean 243 243 243 131 [(2, 184), (0, (n : Int)), (0, (s : Int)), (9, 0), (9, 0), (1, S), (9, 0), (1, C), (9, 0), (9, 0), (9, 0), (9, 0)] [] N Φ := by
          intro S C hNN hb2
          obtain ⟨b1, b2, b3⟩ := id hb2
          have hC : 1 ≤ C := by
            rcases hNN with ⟨-, q⟩ | ⟨q, -⟩
            · exfalso
              have q0 := q 0 (by omega)
              have := hV 0 (Nat.zero_le _) s hlt
              rw [hVe] at this
              rcases this with ⟨-, z⟩ | ⟨-, z⟩
              · exact z (fun _ => s) (fun _ => 0) (fun j hj => absurd hj (by omega)) rfl
              · have := z (fun _ => s) (fun _ => 0) (fun j hj => absurd hj (by omega)) rfl
                have q0' : V 0 s = -4000000000000000000 := q0
                have : (0 : Int) ≤ V 0 s := this
                omega
            · exact q
          have b3 := b3 (by omega)
          have m1 := mm_mulB (a := S) (b := N 183 40) (A := 3340800000) (B := 288) b3.1 b3.2 c1 (by omega)
          have m2 : 0 < N 183 40 → -(3340800000 * 288) ≤ N 183 39 * C ∧ N 183 39 * C ≤ 3340800000 * 288 := fun q => mm_mulB (a := N 183 39) (b := C) (A := 3340800000) (B := 288) (c3 q).1 (c3 q).2 (by omega) (by omega)
          have old : 0 < N 183 40 → S * N 183 40 ≤ N 183 39 * C → mm_J X Y_X13_findMean 243 243 243 12 [(2, 184), (0, (n : Int)), (0, (s : Int) + 1), (9, 0), (9, 0), (9, 0), (9, 0), (9, 0), (9, 0), (9, 0), (9, 0), (9, 0)] [] N Φ := by
            intro q1 q2
            have go := ih hlt N hF hbd (hO.old q1 hNN hC q2)
            rw [show ((s + 1 : Nat) : Int) = (s : Int) + 1 by omega] at go
            exact go
          have new : (N 183 40 ≤ 0 ∨ N 183 39 * C < S * N 183 40) → ∀ P : mm_M, P = mm_up (mm_up N 183 39 S) 183 40 C → mm_Rf P → mm_J X Y_X13_findMean 243 243 243 12 [(2, 184), (0, (n : Int)), (0, (s : Int) + 1), (9, 0), (9, 0), (9, 0), (9, 0), (9, 0), (9, 0), (9, 0), (9, 0), (9, 0)] [] P Φ := by
            intro q P hP hRP
            have p39 : P 183 39 = S := by rw [hP, mm_up_i (by decide), mm_up_s]
            have p40 : P 183 40 = C := by rw [hP, mm_up_s]
            have go := ih hlt P ⟨hRP, fun a ha => by rw [hP, mm_up_row ha, mm_up_row ha]; exact f1 a ha, fun b h1 h2 => by rw [hP, mm_up_i (fun q => h2 q), mm_up_i (fun q => h1 q)]; exact f2 b h1 h2⟩ (by rw [p39, p40]; exact hb2) (by rw [p39, p40]; exact hO.new hA hNN hC q)
            rw [show ((s + 1 : Nat) : Int) = (s : Int) + 1 by omega] at go
            exact go
          refine mm_aload_n dX13_findMean_131 rfl rfl ?_
          refine mm_get (kd := 1) dX13_findMean_132 rfl fl_X13_526 (c := 183) rfl (by decide) rfl rfl ?_
          refine mm_lconst0 dX13_findMean_135 rfl ?_
          refine mm_lcmp dX13_findMean_136 rfl (by omega) (by omega) ?_
          refine mm_iflec dX13_findMean_137 (fun h137 => ?_) (fun h137 => ?_)
          · refine mm_aload_n dX13_findMean_161 rfl rfl ?_
            refine mm_lload dX13_findMean_162 rfl rfl ?_
            refine mm_putl dX13_findMean_164 rfl fl_X13_530 (c := 183) rfl (by decide) rfl rfl (fun M164 hM164 => ?_)
            have hR164 : mm_Rf M164 := by rw [hM164]; exact hRN.up rfl
            refine mm_aload_n dX13_findMean_167 rfl rfl ?_
            refine mm_lload dX13_findMean_168 rfl rfl ?_
            refine mm_putl dX13_findMean_170 rfl fl_X13_526 (c := 183) rfl (by decide) rfl rfl (fun M170 hM170 => ?_)
            have hR170 : mm_Rf M170 := by rw [hM170]; exact hR164.up rfl
            refine mm_iinc dX13_findMean_173 rfl rfl (Nat.le_of_ble_eq_true rfl) rfl ?_
            refine mm_goto dX13_findMean_176 ?_
            first
            | exact mm_drop (ls' := [(2, 184), (0, (n : Int)), (0, (s : Int) + 1), (9, 0), (9, 0), (9, 0), (9, 0), (9, 0), (9, 0), (9, 0), (9, 0), (9, 0)]) (by simp [mm_dr]) (old (by omega) (by omega))
            | exact mm_drop (ls' := [(2, 184), (0, (n : Int)), (0, (s : Int) + 1), (9, 0), (9, 0), (9, 0), (9, 0), (9, 0), (9, 0), (9, 0), (9, 0), (9, 0)]) (by simp [mm_dr]) (new (Or.inr (by omega)) _ (by rw [hM170, hM164]) hR170)
            | exact mm_drop (ls' := [(2, 184), (0, (n : Int)), (0, (s : Int) + 1), (9, 0), (9, 0), (9, 0), (9, 0), (9, 0), (9, 0), (9, 0), (9, 0), (9, 0)]) (by simp [mm_dr]) (new (Or.inl (by omega)) _ (by rw [hM170, hM164]) hR170)
          · refine mm_lload dX13_findMean_140 rfl rfl ?_
            refine mm_aload_n dX13_findMean_142 rfl rfl ?_
            refine mm_get (kd := 1) dX13_findMean_143 rfl fl_X13_526 (c := 183) rfl (by decide) rfl rfl ?_
            refine mm_lmul dX13_findMean_146 rfl ?_
            refine mm_aload_n dX13_findMean_147 rfl rfl ?_
            refine mm_get (kd := 1) dX13_findMean_148 rfl fl_X13_530 (c := 183) rfl (by decide) rfl rfl ?_
            refine mm_lload dX13_findMean_151 rfl rfl ?_
            refine mm_lmul dX13_findMean_153 rfl ?_
            have m3 := m2 (by omega)
            refine mm_lcmp dX13_findMean_154 rfl (by omega) (by omega) ?_
            refine mm_ifgtc dX13_findMean_155 (fun h155 => ?_) (fun h155 => ?_)
            · refine mm_aload_n dX13_findMean_161 rfl rfl ?_
              refine mm_lload dX13_findMean_162 rfl rfl ?_
              refine mm_putl dX13_findMean_164 rfl fl_X13_530 (c := 183) rfl (by decide) rfl rfl (fun M164 hM164 => ?_)
              have hR164 : mm_Rf M164 := by rw [hM164]; exact hRN.up rfl
              refine mm_aload_n dX13_findMean_167 rfl rfl ?_
              refine mm_lload dX13_findMean_168 rfl rfl ?_
              refine mm_putl dX13_findMean_170 rfl fl_X13_526 (c := 183) rfl (by decide) rfl rfl (fun M170 hM170 => ?_)
              have hR170 : mm_Rf M170 := by rw [hM170]; exact hR164.up rfl
              refine mm_iinc dX13_findMean_173 rfl rfl (Nat.le_of_ble_eq_true rfl) rfl ?_
              refine mm_goto dX13_findMean_176 ?_
              first
              | exact mm_drop (ls' := [(2, 184), (0, (n : Int)), (0, (s : Int) + 1), (9, 0), (9, 0), (9, 0), (9, 0), (9, 0), (9, 0), (9, 0), (9, 0), (9, 0)]) (by simp [mm_dr]) (old (by omega) (by omega))
              | exact mm_drop (ls' := [(2, 184), (0, (n : Int)), (0, (s : Int) + 1), (9, 0), (9, 0), (9, 0), (9, 0), (9, 0), (9, 0), (9, 0), (9, 0), (9, 0)]) (by simp [mm_dr]) (new (Or.inr (by omega)) _ (by rw [hM170, hM164]) hR170)
              | exact mm_drop (ls' := [(2, 184), (0, (n : Int)), (0, (s : Int) + 1), (9, 0), (9, 0), (9, 0), (9, 0), (9, 0), (9, 0), (9, 0), (9, 0), (9, 0)]) (by simp [mm_dr]) (new (Or.inl (by omega)) _ (by rw [hM170, hM164]) hR170)
            · refine mm_goto dX13_findMean_158 ?_
              refine mm_iinc dX13_findMean_173 rfl rfl (Nat.le_of_ble_eq_true rfl) rfl ?_
              refine mm_goto dX13_findMean_176 ?_
              first
              | exact mm_drop (ls' := [(2, 184), (0, (n : Int)), (0, (s : Int) + 1), (9, 0), (9, 0), (9, 0), (9, 0), (9, 0), (9, 0), (9, 0), (9, 0), (9, 0)]) (by simp [mm_dr]) (old (by omega) (by omega))
              | exact mm_drop (ls' := [(2, 184), (0, (n : Int)), (0, (s : Int) + 1), (9, 0), (9, 0), (9, 0), (9, 0), (9, 0), (9, 0), (9, 0), (9, 0), (9, 0)]) (by simp [mm_dr]) (new (Or.inr (by omega)) _ (by rw [hM170, hM164]) hRN)
              | exact mm_drop (ls' := [(2, 184), (0, (n : Int)), (0, (s : Int) + 1), (9, 0), (9, 0), (9, 0), (9, 0), (9, 0), (9, 0), (9, 0), (9, 0), (9, 0)]) (by simp [mm_dr]) (new (Or.inl (by omega)) _ (by rw [hM170, hM164]) hRN)
        have go := inner s hlt N hF hA out 0 (Nat.zero_le _) 0 0 (Or.inl ⟨rfl, fun k hk => absurd hk (by omega)⟩) ⟨by omega, by omega, fun q => by omega⟩
        refine mm_iload_n dX13_findMean_12 rfl rfl ?_
        refine mm_iload_n dX13_findMean_13 rfl rfl ?_
        refine mm_icge dX13_findMean_14 (by omega) (by omega) (fun h14 => ?_) (fun h14 => ?_)
        · exfalso; omega
        · refine mm_aload_n dX13_findMean_17 rfl rfl ?_
          refine mm_getr dX13_findMean_18 rfl fl_X13_268 (c := 183) rfl (by decide) rfl rfl (hRN.at (c := 183) (i := 38) (v := 208) rfl (by decide)) ?_
          refine mm_sipush dX13_findMean_21 rfl (by decide) ?_
          refine mm_iload_n dX13_findMean_24 rfl rfl ?_
          refine mm_imul dX13_findMean_25 rfl ?_
          refine mm_iload_n dX13_findMean_26 rfl rfl ?_
          refine mm_iadd dX13_findMean_27 rfl ?_
          refine mm_lalk (k0 := 288 * n + s) dX13_findMean_28 rfl (c := 207) rfl (by decide) rfl (by omega) (by omega) ?_
          rw [e207, hVe]
          refine mm_lstore_n dX13_findMean_29 rfl (Nat.le_of_ble_eq_true rfl) rfl ?_
          refine mm_lload_n dX13_findMean_30 rfl rfl ?_
          refine mm_ldc2 dX13_findMean_31 rfl kc_X13_521 ?_
          refine mm_lcmp dX13_findMean_34 rfl (by omega) (by omega) ?_
          refine mm_ifgtc dX13_findMean_35 (fun h35 => ?_) (fun h35 => ?_)
          · refine mm_lconst0 dX13_findMean_41 rfl ?_
            refine mm_lstore dX13_findMean_42 rfl (Nat.le_of_ble_eq_true rfl) rfl ?_
            refine mm_lconst0 dX13_findMean_44 rfl ?_
            refine mm_lstore dX13_findMean_45 rfl (Nat.le_of_ble_eq_true rfl) rfl ?_
            refine mm_iconst dX13_findMean_47 rfl ?_
            refine mm_istore dX13_findMean_48 rfl (Nat.le_of_ble_eq_true rfl) rfl ?_
            exact go
          · exfalso; omega
    · have es : s = n := by omega
      subst es
      have fin := kw_karp hN hB hn1 hn2 (V := V) (fun k hk v hv => by rw [← hVe]; exact hV k hk v hv) hO
      obtain ⟨c1, c2, c3⟩ := id hbd
      refine mm_iload_n dX13_findMean_12 rfl rfl ?_
      refine mm_iload_n dX13_findMean_13 rfl rfl ?_
      refine mm_icge dX13_findMean_14 (by omega) (by omega) (fun h14 => ?_) (fun h14 => ?_)
      · refine mm_aload_n dX13_findMean_179 rfl rfl ?_
        refine mm_get (kd := 1) dX13_findMean_180 rfl fl_X13_526 (c := 183) rfl (by decide) rfl rfl ?_
        refine mm_lconst0 dX13_findMean_183 rfl ?_
        refine mm_lcmp dX13_findMean_184 rfl (by omega) (by omega) ?_
        refine mm_iflec dX13_findMean_185 (fun h185 => ?_) (fun h185 => ?_)
        · refine mm_iconst dX13_findMean_192 rfl ?_
          refine mm_zret dX13_findMean_193 rfl rfl (Or.inl rfl) ?_
          rw [hΦ]
          refine ⟨hF, hbd, ?_⟩
          rcases fin with ⟨q1, q2⟩ | q
          · first
              | exact Or.inl ⟨rfl, q1, q2⟩
              | (exfalso; omega)
          · have := q.1
            first
              | exact Or.inr ⟨rfl, q⟩
              | (exfalso; omega)
        · refine mm_iconst dX13_findMean_188 rfl ?_
          refine mm_goto dX13_findMean_189 ?_
          refine mm_zret dX13_findMean_193 rfl rfl (Or.inr rfl) ?_
          rw [hΦ]
          refine ⟨hF, hbd, ?_⟩
          rcases fin with ⟨q1, q2⟩ | q
          · first
              | exact Or.inl ⟨rfl, q1, q2⟩
              | (exfalso; omega)
          · have := q.1
            first
              | exact Or.inr ⟨rfl, q⟩
              | (exfalso; omega)
      · exfalso; omega
  have cn := c_X13_states (X := X) hR
  rw [hn] at cn
  refine mm_start (ls := [(2, 184), (9, 0), (9, 0), (9, 0), (9, 0), (9, 0), (9, 0), (9, 0), (9, 0), (9, 0), (9, 0), (9, 0)]) rfl ?_
  refine mm_aload_n dX13_findMean_0 rfl rfl ?_
  refine mm_V0i dX13_findMean_1 rfl lk_X13_458 (c := 183) rfl (by decide) rfl  rfl rfl rfl (cn) ?_
  refine mm_istore_n dX13_findMean_4 rfl (Nat.le_of_ble_eq_true rfl) rfl ?_
  refine mm_aload_n dX13_findMean_5 rfl rfl ?_
  refine mm_lconst0 dX13_findMean_6 rfl ?_
  refine mm_putl dX13_findMean_7 rfl fl_X13_526 (c := 183) rfl (by decide) rfl rfl (fun M7 hM7 => ?_)
  have hR7 : mm_Rf M7 := by rw [hM7]; exact hR.up rfl
  refine mm_iconst dX13_findMean_10 rfl ?_
  refine mm_istore_n dX13_findMean_11 rfl (Nat.le_of_ble_eq_true rfl) rfl ?_
  refine outer 0 (Nat.zero_le _) _ ⟨hR7, ?_, ?_⟩ ?_ ?_
  · intro a ha; rw [hM7, mm_up_row ha]
  · intro b h1 h2; rw [hM7, mm_up_i (fun q => h2 q)]
  · rw [hM7, mm_up_s]; exact ⟨by omega, by omega, fun q => absurd q (by omega)⟩
  · rw [hM7, mm_up_s]; exact Or.inl ⟨rfl, fun s hs => absurd hs (by omega)⟩
end
end
/-! G6.loop -/
section
/-! ===== the reference: findLoop ===== -/
theorem ks_to_15 (K : Nat → Int) (s : Int) (l : Int) (t : Nat) : ks_to K s (15 * l + t) = ks_to K s t := by
  unfold ks_to ks_mv ks_dr
  rw [show (15 * l + (t : Int)) / 3 % 5 = (t : Int) / 3 % 5 by omega, show (15 * l + (t : Int)) % 3 = (t : Int) % 3 by omega]
/-- what is told of the steps makes a graph -/
theorem ke_S_of {K Lo Hi F G : Nat → Int} {h : Int} {n : Nat} (hK : mm_KV K) (hn : ks_n K = (n : Int)) (hw : ∀ s, ks_st K s → (0 ≤ ks_wi Lo K s h ∧ ks_wi Lo K s h ≤ 60) ∧ (0 ≤ ks_wi Hi K s h ∧ ks_wi Hi K s h ≤ 60))
    (hP : ∀ x, x < 15 * n → ke_P K Lo Hi h ((x / 15 : Nat) : Int) (x % 15) (K 10).toNat (F x) (G x)) : ke_S K n F G := by
  intro i hi
  have hs : ks_st K ((i / 15 : Nat) : Int) := ⟨by omega, by rw [hn]; omega⟩
  rcases hP i hi with ⟨q, -⟩ | ⟨q, ⟨l, l1, l2, l3⟩, -⟩
  · exact ⟨Or.inl q, fun z => absurd z (by omega)⟩
  · refine ⟨Or.inr q, fun _ => ⟨?_, ?_⟩⟩
    · have a := ks_to_st hK hs l2.1
      rw [ks_to_15] at a
      exact ⟨a.1, by rw [← hn]; exact a.2⟩
    · rw [← l3]
      exact ks_sureb hK ⟨by omega, by omega⟩ (hw _ hs).1 (hw _ hs).2
section
variable {X : mm_X} {M : mm_M} {h : Int} {n : Nat}
/-- what findLoop leaves: the steps of the hour, the walks and the mean -/
def kw_L (M N : mm_M) (h : Int) (n : Nat) : Prop := mm_Rf N ∧ (∀ a, a ≠ 183 → a ≠ 205 → a ≠ 206 → a ≠ 207 → N a = M a) ∧ (∀ b, b ≠ 39 → b ≠ 40 → N 183 b = M 183 b) ∧ (∀ x, x < 15 * n → ke_P (mm_rk M) (M 203) (M 204) h ((x / 15 : Nat) : Int) (x % 15) (mm_rk M 10).toNat (N 205 x) (N 206 x)) ∧ ke_S (mm_rk M) n (N 205) (N 206) ∧ kw_bd n (N 183 39) (N 183 40)
theorem c_X13_findLoop (hR : mm_Rf M) (hK : mm_KV (mm_rk M)) (hA : mm_RA M) (hh : ks_hr h) (hn : ks_n (mm_rk M) = (n : Int)) :
    mm_C X Y_X13_findLoop 243 243 [(2, 184), (0, h)] M (fun r M' => kw_L M M' h n ∧ ((r = (0, 0) ∧ M' 183 40 = 0 ∧ ¬ ∃ p g m, gL (ke_E (mm_rk M) n (M' 205) (M' 206)) p g m) ∨ (r = (0, 1) ∧ kw_mean (ke_E (mm_rk M) n (M' 205) (M' 206)) (M' 183 39) (M' 183 40)))) := by
  obtain ⟨Φ, hΦ⟩ : ∃ Φ : mm_V → mm_M → Prop, Φ = (fun r M' => kw_L M M' h n ∧ ((r = (0, 0) ∧ M' 183 40 = 0 ∧ ¬ ∃ p g m, gL (ke_E (mm_rk M) n (M' 205) (M' 206)) p g m) ∨ (r = (0, 1) ∧ kw_mean (ke_E (mm_rk M) n (M' 205) (M' 206)) (M' 183 39) (M' 183 40)))) := ⟨_, rfl⟩
  rw [← hΦ]
  have hnb := ks_nb hK
  have en : (ks_n (mm_rk M)).toNat = n := by omega
  have c1 := c_X13_findSteps (X := X) hR hK hA hh
  rw [en] at c1
  have c2 : ∀ N, ke_D M N h (15 * n) → ke_S (mm_rk N) n (N 205) (N 206) ∧ mm_rk N = mm_rk M := by
    intro N hD
    obtain ⟨-, f1, f2⟩ := hD
    obtain ⟨rk, r3, r4, ra⟩ := ke_fr f1
    rw [rk]
    exact ⟨ke_S_of hK hn (fun s hs => hA.wi hK hs hh) f2, rfl⟩
  have last : ∀ N P : mm_M, ke_D M N h (15 * n) → kw_I N P n (n + 1) → mm_C X Y_X13_findMean 243 243 [(2, 184)] P (fun r M' => ∃ x, r = (0, x) ∧ mm_Rf M' ∧ Φ r M') := by
    intro N P hD hI
    obtain ⟨s1, s2⟩ := c2 N hD
    obtain ⟨-, d1, d2⟩ := hD
    obtain ⟨i1, i2, i3⟩ := hI
    have rk := kw_fr i2
    refine mm_C.mono (c_X13_findMean i1 (by rw [rk, s2]; exact hn) (by omega) (by omega) s1.n s1.b (fun k hk v hv => i3 k (by omega) v hv)) ?_
    rintro r Q ⟨⟨q1, q2, q3⟩, q4, q5⟩
    have e205 : Q 205 = N 205 := (q2 205 (by decide)).trans (i2 205 (by decide))
    have e206 : Q 206 = N 206 := (q2 206 (by decide)).trans (i2 206 (by decide))
    have hL : kw_L M Q h n := by
      refine ⟨q1, fun a a1 a2 a3 a4 => by rw [q2 a a1, i2 a a4, d1 a a2 a3], fun b b1 b2 => by rw [q3 b b1 b2, i2 183 (by decide), d1 183 (by decide) (by decide)], ?_, ?_, q4⟩
      · rw [e205, e206]; exact d2
      · rw [e205, e206, ← s2]; exact s1
    rw [hΦ]
    rw [s2] at q5
    rcases q5 with ⟨z1, z2, z3⟩ | ⟨z1, z2⟩
    · exact ⟨0, z1, q1, hL, Or.inl ⟨z1, z2, by rw [e205, e206]; exact z3⟩⟩
    · exact ⟨1, z1, q1, hL, Or.inr ⟨z1, by rw [e205, e206]; exact z2⟩⟩
  have hz : ∀ (x : Int) N, Φ (0, x) N → x = 0 ∨ x = 1 := by
    intro x N q
    rw [hΦ] at q
    rcases q.2 with q | q
    · exact Or.inl (congrArg Prod.snd q.1)
    · exact Or.inr (congrArg Prod.snd q.1)
  refine mm_start (ls := [(2, 184), (0, h)]) rfl ?_
  refine mm_aload_n dX13_findLoop_0 rfl rfl ?_
  refine mm_iload_n dX13_findLoop_1 rfl rfl ?_
  refine mm_V1g (M1 := M) dX13_findLoop_2 rfl lk_X13_547 (c := 183) rfl (by decide) rfl (by simp) rfl rfl rfl (c1) ?_
  rintro _ N2 ⟨rfl, p2⟩
  change mm_J _ _ _ _ _ _ _ _ _ _
  have hR2 : mm_Rf N2 := p2.1
  have hD2 : ke_D M N2 h (15 * n) := p2
  refine mm_aload_n dX13_findLoop_5 rfl rfl ?_
  refine mm_V0g (M1 := N2) dX13_findLoop_6 rfl lk_X13_550 (c := 183) rfl (by decide) rfl  rfl rfl rfl (c_X13_findWalks hR2 (by rw [(c2 N2 hD2).2]; exact hn) (by omega) (c2 N2 hD2).1) ?_
  rintro _ N6 ⟨rfl, p6⟩
  change mm_J _ _ _ _ _ _ _ _ _ _
  have hR6 : mm_Rf N6 := p6.1
  refine mm_aload_n dX13_findLoop_9 rfl rfl ?_
  refine mm_V0g (M1 := N6) dX13_findLoop_10 rfl lk_X13_553 (c := 183) rfl (by decide) rfl  rfl rfl rfl (last N2 N6 hD2 p6) ?_
  rintro _ N10 ⟨x10, rfl, p10⟩
  change mm_J _ _ _ _ _ _ _ _ _ _
  have hR10 : mm_Rf N10 := p10.1
  refine mm_zret dX13_findLoop_13 rfl rfl (hz _ _ p10.2) ?_
  exact p10.2
end
end
/-! G7.high -/
section
/-! ===== the reference: findHigh ===== -/
theorem ka_sum_ple {f g : Nat → Int} : ∀ n : Nat, (∀ i, i < n → f i ≤ g i) → ka_sum f n ≤ ka_sum g n
  | 0, _ => Int.le_refl 0
  | n + 1, h => by
    have a := ka_sum_ple n (fun i hi => h i (by omega))
    have b := h n (by omega)
    show ka_sum f n + f n ≤ ka_sum g n + g n
    omega
theorem ka_sum_plt {f g : Nat → Int} : ∀ n : Nat, (∀ i, i < n → f i ≤ g i) → (∃ v, v < n ∧ f v < g v) → ka_sum f n < ka_sum g n
  | 0, _, ⟨v, hv, _⟩ => absurd hv (by omega)
  | n + 1, h, ⟨v, hv, hlt⟩ => by
    have b := h n (by omega)
    show ka_sum f n + f n < ka_sum g n + g n
    by_cases c : v = n
    · have a := ka_sum_ple n (fun i hi => h i (by omega))
      rw [c] at hlt
      omega
    · have a := ka_sum_plt n (fun i hi => h i (by omega)) ⟨v, by omega, hlt⟩
      omega
/-- a walk gives so much above the mean at most -/
theorem kz_bd {e : Nat → Nat → Int → Prop} {n : Nat} {S C : Int} (hN : ∀ u v w, e u v w → u < n ∧ v < n) (hB : ∀ u v w, e u v w → -5800000 ≤ w ∧ w ≤ 5800000) (hn2 : n ≤ 288) (hbd : kw_bd n S C) (hm : kw_mean e S C) {p : Nat → Nat} {g : Nat → Int} {m : Nat} (hW : gW e p g m) (hp : p m < n) : gS S C g m ≤ 1443225600000 := by
  obtain ⟨q, f, k, w1, w2, w3, w4⟩ := hm.2.1.short hN m p g m (Nat.le_refl m) hW hp
  refine Int.le_trans w4 ?_
  obtain ⟨b1, b2, b3⟩ := hbd
  have hS := b3 (by have := hm.1; omega)
  have s := ka_sumb (B := 5800000) (n := k) (f := f) (fun i hi => by have := hB _ _ _ (w1 i hi); omega)
  have t1 := mm_mulB (a := ka_sum f k) (b := C) (A := 1670400000) (B := 288) (by omega) (by omega) b1 (by omega)
  have t2 := mm_mulB (a := S) (b := (k : Int)) (A := 3340800000) (B := 288) hS.1 hS.2 (by omega) (by omega)
  unfold gS
  rw [Int.mul_comm C]
  omega
section
variable {X : mm_X} {M : mm_M} {n : Nat}
theorem c_X13_lessMean {g : Int} (hR : mm_Rf M) (hg : mm_R g) : mm_Fn X Y_X13_lessMean 243 [(2, 184), (0, g)] M (1, M 183 40 * g - M 183 39) M := by
  refine mm_startF (ls := [(2, 184), (0, g)]) rfl ?_
  refine mm_aload_n dX13_lessMean_0 rfl rfl ?_
  refine mm_get (kd := 1) dX13_lessMean_1 rfl fl_X13_526 (c := 183) rfl (by decide) rfl rfl ?_
  refine mm_iload_n dX13_lessMean_4 rfl rfl ?_
  refine mm_i2l dX13_lessMean_5 rfl (by omega) ?_
  refine mm_lmul dX13_lessMean_6 rfl ?_
  refine mm_aload_n dX13_lessMean_7 rfl rfl ?_
  refine mm_get (kd := 1) dX13_lessMean_8 rfl fl_X13_530 (c := 183) rfl (by decide) rfl rfl ?_
  refine mm_lsub dX13_lessMean_11 rfl ?_
  refine mm_lret dX13_lessMean_12 rfl rfl ?_
  exact mm_fin rfl rfl
/-- levels, each of some walk -/
def kz_I (M N : mm_M) (n : Nat) : Prop := mm_Rf N ∧ (∀ a, a ≠ 208 → N a = M a) ∧ ∀ v, v < n → 0 ≤ N 208 v ∧ ∃ p g m, gW (ke_E (mm_rk M) n (M 205) (M 206)) p g m ∧ p m = v ∧ gS (M 183 39) (M 183 40) g m = N 208 v
/-- the first m steps lead no higher -/
def kz_K (M N : mm_M) (m : Nat) : Prop := ∀ i, i < m → M 205 i = 1 → N 208 (i / 15) + (M 183 40 * M 206 i - M 183 39) ≤ N 208 (ke_T (mm_rk M) i)
def kz_W (M N : mm_M) (n m : Nat) (z b : Int) : Prop := kz_I M N n ∧ ((b = 0 ∧ z ≤ ka_sum (N 208) n ∧ kz_K M N m) ∨ (b = 1 ∧ z < ka_sum (N 208) n))
theorem c_X13_findHigh (hR : mm_Rf M) (hn : ks_n (mm_rk M) = (n : Int)) (hn1 : 1 ≤ n) (hn2 : n ≤ 288) (hS : ke_S (mm_rk M) n (M 205) (M 206)) (hbd : kw_bd n (M 183 39) (M 183 40)) (hm : kw_mean (ke_E (mm_rk M) n (M 205) (M 206)) (M 183 39) (M 183 40)) :
    mm_C X Y_X13_findHigh 243 243 [(2, 184)] M (fun r M' => r = (3, 0) ∧ mm_Rf M' ∧ kz_I M M' n ∧ kz_K M M' (15 * n)) := by
  obtain ⟨Φ, hΦ⟩ : ∃ Φ : mm_V → mm_M → Prop, Φ = (fun r M' => r = (3, 0) ∧ mm_Rf M' ∧ kz_I M M' n ∧ kz_K M M' (15 * n)) := ⟨_, rfl⟩
  rw [← hΦ]
  obtain ⟨b1, b2, b3⟩ := id hbd
  have hSb := b3 (by have := hm.1; omega)
  have lv : ∀ N, kz_I M N n → ∀ v, v < n → 0 ≤ N 208 v ∧ N 208 v ≤ 1443225600000 := by
    intro N hI v hv
    obtain ⟨q1, p, g, m, q2, q3, q4⟩ := hI.2.2 v hv
    exact ⟨q1, by rw [← q4]; exact kz_bd hS.n hS.b hn2 hbd hm q2 (by rw [q3]; exact hv)⟩
  have top : ∀ N, kz_I M N n → ka_sum (N 208) n ≤ 1443225600000 * (n : Int) := fun N hI => (ka_sumb (B := 1443225600000) (fun i hi => by have := lv N hI i hi; omega)).2
  -- the steps of a state
  have l3 : ∀ z : Int, ∀ s : Nat, s < n →
      (∀ N b, kz_W M N n (15 * (s + 1)) z b → mm_J X Y_X13_findHigh 243 243 243 135 [(2, 184), (0, (n : Int)), (0, b), (0, (s : Int)), (9, 0), (9, 0), (9, 0), (9, 0)] [] N Φ) →
      ∀ t : Nat, t ≤ 15 → ∀ N b, kz_W M N n (15 * s + t) z b →
      mm_J X Y_X13_findHigh 243 243 243 43 [(2, 184), (0, (n : Int)), (0, b), (0, (s : Int)), (0, (t : Int)), (9, 0), (9, 0), (9, 0)] [] N Φ := by
    intro z s hs out
    refine mm_lp ?_
    intro t ht ih N b hW
    obtain ⟨hI, hb⟩ := id hW
    obtain ⟨hRN, f1, f2⟩ := id hI
    have rk : mm_rk N = mm_rk M := mm_rk.fr (fun a b q => by rw [f1 a (by omega)])
    have e205 : N 205 = M 205 := f1 205 (by decide)
    have e206 : N 206 = M 206 := f1 206 (by decide)
    have e183 : N 183 = M 183 := f1 183 (by decide)
    by_cases hlt : t < 15
    · have hix : (15 * s + t) / 15 = s := by omega
      have hix2 : (15 * s + t) % 15 = t := by omega
      by_cases hF : M 205 (15 * s + t) = 1
      · have hT := hS.t (i := 15 * s + t) (by omega) hF
        have hG := ((hS (15 * s + t) (by omega)).2 hF).2
        rw [hix, hix2] at hT
        have ca := c_X13_after (X := X) (s := (s : Int)) (a := (t : Int)) hRN (by omega)
        rw [rk, ← hT.1] at ca
        obtain ⟨T, hTe⟩ : ∃ T, T = ke_T (mm_rk M) (15 * s + t) := ⟨_, rfl⟩
        rw [← hTe] at ca hT
        have hTn := hT.2
        have cl := c_X13_lessMean (X := X) (g := M 206 (15 * s + t)) hRN (by unfold mm_R; omega)
        rw [e183] at cl
        have ls := lv N hI s hs
        have lT := lv N hI T hTn
        have mb := mm_mulB (a := M 206 (15 * s + t)) (b := M 183 40) (A := 5800000) (B := 288) (by omega) (by omega) b1 (by omega)
        rw [Int.mul_comm (M 206 (15 * s + t))] at mb
        obtain ⟨d, hd⟩ : ∃ d, d = M 183 40 * M 206 (15 * s + t) - M 183 39 := ⟨_, rfl⟩
        rw [← hd] at cl
        have up : N 208 T < N 208 s + d → ∀ P : mm_M, P = mm_up N 208 T (N 208 s + d) → mm_Rf P → mm_J X Y_X13_findHigh 243 243 243 43 [(2, 184), (0, (n : Int)), (0, 1), (0, (s : Int)), (0, (t : Int) + 1), (9, 0), (9, 0), (9, 0)] [] P Φ := by
          intro q P hP hRP
          have go := ih hlt P 1 ⟨⟨hRP, fun a ha => by rw [hP, mm_up_row ha]; exact f1 a ha, ?_⟩, Or.inr ⟨rfl, ?_⟩⟩
          · rw [show ((t + 1 : Nat) : Int) = (t : Int) + 1 by omega] at go; exact go
          · intro v hv
            by_cases c : v = T
            · rw [c, hP, mm_up_s]
              refine ⟨by omega, ?_⟩
              obtain ⟨-, p, g, m, q2, q3, q4⟩ := f2 s hs
              have w1 : gW (ke_E (mm_rk M) n (M 205) (M 206)) (fun t => if t = 0 then s else T) (fun _ => M 206 (15 * s + t)) 1 := by
                intro j hj
                have e0 : j = 0 := by omega
                subst e0
                exact ⟨15 * s + t, by omega, hF, hix.symm, hTe, rfl⟩
              refine ⟨_, _, _, q2.app w1 q3, ?_, ?_⟩
              · rw [gJp_end _ _ _ _ q3]; rfl
              · rw [gS_app, q4]
                unfold gS
                show N 208 s + (M 183 40 * (0 + M 206 (15 * s + t)) - M 183 39 * 1) = N 208 s + d
                rw [Int.zero_add, Int.mul_one, hd]
            · rw [hP, mm_up_i c]; exact f2 v hv
          · have a := ka_sum_plt (f := N 208) (g := P 208) n (fun i hi => by
              by_cases c : i = T
              · rw [c, hP, mm_up_s]; omega
              · rw [hP, mm_up_i c]; exact Int.le_refl _) ⟨T, hTn, by rw [hP, mm_up_s]; omega⟩
            rcases hb with q | q <;> omega
        have keep : N 208 s + d ≤ N 208 T → mm_J X Y_X13_findHigh 243 243 243 43 [(2, 184), (0, (n : Int)), (0, b), (0, (s : Int)), (0, (t : Int) + 1), (9, 0), (9, 0), (9, 0)] [] N Φ := by
          intro q
          have go := ih hlt N b ⟨hI, ?_⟩
          · rw [show ((t + 1 : Nat) : Int) = (t : Int) + 1 by omega] at go; exact go
          · rcases hb with ⟨q1, q2, q3⟩ | q1
            · refine Or.inl ⟨q1, q2, fun i hi hFi => ?_⟩
              by_cases c : i = 15 * s + t
              · rw [c, hix, ← hTe, ← hd]; exact q
              · exact q3 i (by omega) hFi
            · exact Or.inr q1
        refine mm_iload dX13_findHigh_43 rfl rfl ?_
        refine mm_bipush dX13_findHigh_45 rfl (by decide) ?_
        refine mm_icge dX13_findHigh_47 (by omega) (by omega) (fun h47 => ?_) (fun h47 => ?_)
        · exfalso; omega
        · refine mm_aload_n dX13_findHigh_50 rfl rfl ?_
          refine mm_getr dX13_findHigh_51 rfl fl_X13_261 (c := 183) rfl (by decide) rfl rfl (hRN.at (c := 183) (i := 36) (v := 206) rfl (by decide)) ?_
          refine mm_bipush dX13_findHigh_54 rfl (by decide) ?_
          refine mm_iload_n dX13_findHigh_56 rfl rfl ?_
          refine mm_imul dX13_findHigh_57 rfl ?_
          refine mm_iload dX13_findHigh_58 rfl rfl ?_
          refine mm_iadd dX13_findHigh_60 rfl ?_
          refine mm_zalk (k0 := 15 * s + t) dX13_findHigh_61 rfl (c := 205) rfl (by decide) rfl (by omega) (by omega) ?_
          rw [e205, hF]
          refine mm_ifne dX13_findHigh_62 (by omega) (fun h62 => ?_) (fun h62 => ?_)
          · refine mm_aload_n dX13_findHigh_68 rfl rfl ?_
            refine mm_iload_n dX13_findHigh_69 rfl rfl ?_
            refine mm_iload dX13_findHigh_70 rfl rfl ?_
            refine mm_V2i dX13_findHigh_72 rfl lk_X13_476 (c := 183) rfl (by decide) rfl (by simp) (by simp) rfl rfl rfl (ca) ?_
            refine mm_istore dX13_findHigh_75 rfl (Nat.le_of_ble_eq_true rfl) rfl ?_
            refine mm_aload_n dX13_findHigh_77 rfl rfl ?_
            refine mm_getr dX13_findHigh_78 rfl fl_X13_272 (c := 183) rfl (by decide) rfl rfl (hRN.at (c := 183) (i := 41) (v := 209) rfl (by decide)) ?_
            refine mm_iload_n dX13_findHigh_81 rfl rfl ?_
            refine mm_lalk (k0 := s) dX13_findHigh_82 rfl (c := 208) rfl (by decide) rfl (by omega) (by omega) ?_
            refine mm_aload_n dX13_findHigh_83 rfl rfl ?_
            refine mm_aload_n dX13_findHigh_84 rfl rfl ?_
            refine mm_getr dX13_findHigh_85 rfl fl_X13_264 (c := 183) rfl (by decide) rfl rfl (hRN.at (c := 183) (i := 37) (v := 207) rfl (by decide)) ?_
            refine mm_bipush dX13_findHigh_88 rfl (by decide) ?_
            refine mm_iload_n dX13_findHigh_90 rfl rfl ?_
            refine mm_imul dX13_findHigh_91 rfl ?_
            refine mm_iload dX13_findHigh_92 rfl rfl ?_
            refine mm_iadd dX13_findHigh_94 rfl ?_
            refine mm_ialk (k0 := 15 * s + t) dX13_findHigh_95 rfl (c := 206) rfl (by decide) rfl (by omega) (by omega) ?_
            rw [e206]
            refine mm_V1l dX13_findHigh_96 rfl lk_X13_533 (c := 183) rfl (by decide) rfl (by simp) rfl rfl rfl (cl) ?_
            refine mm_ladd dX13_findHigh_99 rfl ?_
            refine mm_lstore dX13_findHigh_100 rfl (Nat.le_of_ble_eq_true rfl) rfl ?_
            refine mm_lload dX13_findHigh_102 rfl rfl ?_
            refine mm_aload_n dX13_findHigh_104 rfl rfl ?_
            refine mm_getr dX13_findHigh_105 rfl fl_X13_272 (c := 183) rfl (by decide) rfl rfl (hRN.at (c := 183) (i := 41) (v := 209) rfl (by decide)) ?_
            refine mm_iload dX13_findHigh_108 rfl rfl ?_
            refine mm_lalk (k0 := T) dX13_findHigh_110 rfl (c := 208) rfl (by decide) rfl (by omega) (by omega) ?_
            refine mm_lcmp dX13_findHigh_111 rfl (by omega) (by omega) ?_
            refine mm_ifgtc dX13_findHigh_112 (fun h112 => ?_) (fun h112 => ?_)
            · refine mm_aload_n dX13_findHigh_118 rfl rfl ?_
              refine mm_getr dX13_findHigh_119 rfl fl_X13_272 (c := 183) rfl (by decide) rfl rfl (hRN.at (c := 183) (i := 41) (v := 209) rfl (by decide)) ?_
              refine mm_iload dX13_findHigh_122 rfl rfl ?_
              refine mm_lload dX13_findHigh_124 rfl rfl ?_
              refine mm_lstk (k0 := T) dX13_findHigh_126 rfl (c := 208) rfl (by decide) rfl (by omega) (by omega) (fun M126 hM126 => ?_)
              have hR126 : mm_Rf M126 := by rw [hM126]; exact hRN.up (mm_rt_ar (t := 3) rfl (by decide))
              refine mm_iconst dX13_findHigh_127 rfl ?_
              refine mm_istore_n dX13_findHigh_128 rfl (Nat.le_of_ble_eq_true rfl) rfl ?_
              refine mm_iinc dX13_findHigh_129 rfl rfl (Nat.le_of_ble_eq_true rfl) rfl ?_
              refine mm_goto dX13_findHigh_132 ?_
              first
              | exact mm_drop (ls' := [(2, 184), (0, (n : Int)), (0, 1), (0, (s : Int)), (0, (t : Int) + 1), (9, 0), (9, 0), (9, 0)]) (by repeat (first | exact trivial | refine And.intro (Or.inl rfl) ?_ | refine And.intro (Or.inr rfl) ?_)) (up (by omega) _ hM126 hR126)
              | exact mm_drop (ls' := [(2, 184), (0, (n : Int)), (0, b), (0, (s : Int)), (0, (t : Int) + 1), (9, 0), (9, 0), (9, 0)]) (by repeat (first | exact trivial | refine And.intro (Or.inl rfl) ?_ | refine And.intro (Or.inr rfl) ?_)) (keep (by omega))
            · refine mm_goto dX13_findHigh_115 ?_
              refine mm_iinc dX13_findHigh_129 rfl rfl (Nat.le_of_ble_eq_true rfl) rfl ?_
              refine mm_goto dX13_findHigh_132 ?_
              first
              | exact mm_drop (ls' := [(2, 184), (0, (n : Int)), (0, 1), (0, (s : Int)), (0, (t : Int) + 1), (9, 0), (9, 0), (9, 0)]) (by repeat (first | exact trivial | refine And.intro (Or.inl rfl) ?_ | refine And.intro (Or.inr rfl) ?_)) (up (by omega) _ hM126 hR126)
              | exact mm_drop (ls' := [(2, 184), (0, (n : Int)), (0, b), (0, (s : Int)), (0, (t : Int) + 1), (9, 0), (9, 0), (9, 0)]) (by repeat (first | exact trivial | refine And.intro (Or.inl rfl) ?_ | refine And.intro (Or.inr rfl) ?_)) (keep (by omega))
          · exfalso; omega
      · have hF0 : M 205 (15 * s + t) = 0 := by
          rcases (hS (15 * s + t) (by omega)).1 with q | q
          · exact q
          · exact absurd q hF
        have go := ih hlt N b ⟨hI, by
          rcases hb with ⟨q1, q2, q3⟩ | q1
          · refine Or.inl ⟨q1, q2, fun i hi hFi => ?_⟩
            by_cases c : i = 15 * s + t
            · rw [c] at hFi; exact absurd hFi hF
            · exact q3 i (by omega) hFi
          · exact Or.inr q1⟩
        rw [show ((t + 1 : Nat) : Int) = (t : Int) + 1 by omega] at go
        refine mm_iload dX13_findHigh_43 rfl rfl ?_
        refine mm_bipush dX13_findHigh_45 rfl (by decide) ?_
        refine mm_icge dX13_findHigh_47 (by omega) (by omega) (fun h47 => ?_) (fun h47 => ?_)
        · exfalso; omega
        · refine mm_aload_n dX13_findHigh_50 rfl rfl ?_
          refine mm_getr dX13_findHigh_51 rfl fl_X13_261 (c := 183) rfl (by decide) rfl rfl (hRN.at (c := 183) (i := 36) (v := 206) rfl (by decide)) ?_
          refine mm_bipush dX13_findHigh_54 rfl (by decide) ?_
          refine mm_iload_n dX13_findHigh_56 rfl rfl ?_
          refine mm_imul dX13_findHigh_57 rfl ?_
          refine mm_iload dX13_findHigh_58 rfl rfl ?_
          refine mm_iadd dX13_findHigh_60 rfl ?_
          refine mm_zalk (k0 := 15 * s + t) dX13_findHigh_61 rfl (c := 205) rfl (by decide) rfl (by omega) (by omega) ?_
          rw [e205, hF0]
          refine mm_ifne dX13_findHigh_62 (by omega) (fun h62 => ?_) (fun h62 => ?_)
          · exfalso; omega
          · refine mm_goto dX13_findHigh_65 ?_
            refine mm_iinc dX13_findHigh_129 rfl rfl (Nat.le_of_ble_eq_true rfl) rfl ?_
            refine mm_goto dX13_findHigh_132 ?_
            exact go
    · have et : t = 15 := by omega
      subst et
      have go := out N b (by rw [show 15 * (s + 1) = 15 * s + 15 by omega]; exact hW)
      refine mm_iload dX13_findHigh_43 rfl rfl ?_
      refine mm_bipush dX13_findHigh_45 rfl (by decide) ?_
      refine mm_icge dX13_findHigh_47 (by omega) (by omega) (fun h47 => ?_) (fun h47 => ?_)
      · exact mm_drop (ls' := [(2, 184), (0, (n : Int)), (0, b), (0, (s : Int)), (9, 0), (9, 0), (9, 0), (9, 0)]) (by repeat (first | exact trivial | refine And.intro (Or.inl rfl) ?_ | refine And.intro (Or.inr rfl) ?_)) go
      · exfalso; omega
  -- the states
  have l2 : ∀ z : Int, (∀ N b, kz_W M N n (15 * n) z b → mm_J X Y_X13_findHigh 243 243 243 27 [(2, 184), (0, (n : Int)), (0, b), (9, 0), (9, 0), (9, 0), (9, 0), (9, 0)] [] N Φ) →
      ∀ s : Nat, s ≤ n → ∀ N b, kz_W M N n (15 * s) z b → mm_J X Y_X13_findHigh 243 243 243 35 [(2, 184), (0, (n : Int)), (0, b), (0, (s : Int)), (9, 0), (9, 0), (9, 0), (9, 0)] [] N Φ := by
    intro z out
    refine mm_lp ?_
    intro s hs ih N b hW
    have hRN := hW.1.1
    by_cases hlt : s < n
    · have back : ∀ N b, kz_W M N n (15 * (s + 1)) z b → mm_J X Y_X13_findHigh 243 243 243 135 [(2, 184), (0, (n : Int)), (0, b), (0, (s : Int)), (9, 0), (9, 0), (9, 0), (9, 0)] [] N Φ := by
        intro P b hP
        have go := ih hlt P b hP
        have hRP := hP.1.1
        rw [show ((s + 1 : Nat) : Int) = (s : Int) + 1 by omega] at go
        refine mm_iinc dX13_findHigh_135 rfl rfl (Nat.le_of_ble_eq_true rfl) rfl ?_
        refine mm_goto dX13_findHigh_138 ?_
        exact go
      have go := l3 z s hlt back 0 (Nat.zero_le _) N b hW
      refine mm_iload_n dX13_findHigh_35 rfl rfl ?_
      refine mm_iload_n dX13_findHigh_36 rfl rfl ?_
      refine mm_icge dX13_findHigh_37 (by omega) (by omega) (fun h37 => ?_) (fun h37 => ?_)
      · exfalso; omega
      · refine mm_iconst dX13_findHigh_40 rfl ?_
        refine mm_istore dX13_findHigh_41 rfl (Nat.le_of_ble_eq_true rfl) rfl ?_
        exact go
    · have es : s = n := by omega
      subst es
      have go := out N b hW
      refine mm_iload_n dX13_findHigh_35 rfl rfl ?_
      refine mm_iload_n dX13_findHigh_36 rfl rfl ?_
      refine mm_icge dX13_findHigh_37 (by omega) (by omega) (fun h37 => ?_) (fun h37 => ?_)
      · refine mm_goto dX13_findHigh_141 ?_
        exact mm_drop (ls' := [(2, 184), (0, (s : Int)), (0, b), (9, 0), (9, 0), (9, 0), (9, 0), (9, 0)]) (by repeat (first | exact trivial | refine And.intro (Or.inl rfl) ?_ | refine And.intro (Or.inr rfl) ?_)) go
      · exfalso; omega
  -- sweeps
  have l1 : ∀ k : Nat, ∀ N b, kz_I M N n → ((b = 0 ∧ kz_K M N (15 * n)) ∨ (b = 1 ∧ 1443225600000 * (n : Int) - ka_sum (N 208) n ≤ k)) → mm_J X Y_X13_findHigh 243 243 243 27 [(2, 184), (0, (n : Int)), (0, b), (9, 0), (9, 0), (9, 0), (9, 0), (9, 0)] [] N Φ := by
    intro k
    induction k with
    | zero =>
      intro N b hI hb
      have hRN := hI.1
      rcases hb with ⟨rfl, hk⟩ | ⟨rfl, hk⟩
      · refine mm_iload_n dX13_findHigh_27 rfl rfl ?_
        refine mm_ifeq dX13_findHigh_28 (by omega) (fun h28 => ?_) (fun h28 => ?_)
        · refine mm_vret dX13_findHigh_144 rfl rfl ?_
          rw [hΦ]; exact ⟨rfl, hRN, hI, hk⟩
        · exfalso; omega
      · have go := l2 (ka_sum (N 208) n) (fun P c hP => by
          rcases hP.2 with ⟨rfl, q1, q2⟩ | ⟨-, q1⟩
          · have hRP := hP.1.1
            refine mm_iload_n dX13_findHigh_27 rfl rfl ?_
            refine mm_ifeq dX13_findHigh_28 (by omega) (fun h28 => ?_) (fun h28 => ?_)
            · refine mm_vret dX13_findHigh_144 rfl rfl ?_
              rw [hΦ]; exact ⟨rfl, hRP, hP.1, q2⟩
            · exfalso; omega
          · have := top P hP.1
            exfalso; omega) 0 (Nat.zero_le _) N 0 ⟨hI, Or.inl ⟨rfl, Int.le_refl _, fun i hi => absurd hi (by omega)⟩⟩
        refine mm_iload_n dX13_findHigh_27 rfl rfl ?_
        refine mm_ifeq dX13_findHigh_28 (by omega) (fun h28 => ?_) (fun h28 => ?_)
        · exfalso; omega
        · refine mm_iconst dX13_findHigh_31 rfl ?_
          refine mm_istore_n dX13_findHigh_32 rfl (Nat.le_of_ble_eq_true rfl) rfl ?_
          refine mm_iconst dX13_findHigh_33 rfl ?_
          refine mm_istore_n dX13_findHigh_34 rfl (Nat.le_of_ble_eq_true rfl) rfl ?_
          exact go
    | succ k ihk =>
      intro N b hI hb
      have hRN := hI.1
      rcases hb with ⟨rfl, hk⟩ | ⟨rfl, hk⟩
      · refine mm_iload_n dX13_findHigh_27 rfl rfl ?_
        refine mm_ifeq dX13_findHigh_28 (by omega) (fun h28 => ?_) (fun h28 => ?_)
        · refine mm_vret dX13_findHigh_144 rfl rfl ?_
          rw [hΦ]; exact ⟨rfl, hRN, hI, hk⟩
        · exfalso; omega
      · have go := l2 (ka_sum (N 208) n) (fun P c hP => ihk P c hP.1 (by
          rcases hP.2 with ⟨q0, q1, q2⟩ | ⟨q0, q1⟩
          · exact Or.inl ⟨q0, q2⟩
          · exact Or.inr ⟨q0, by omega⟩)) 0 (Nat.zero_le _) N 0 ⟨hI, Or.inl ⟨rfl, Int.le_refl _, fun i hi => absurd hi (by omega)⟩⟩
        refine mm_iload_n dX13_findHigh_27 rfl rfl ?_
        refine mm_ifeq dX13_findHigh_28 (by omega) (fun h28 => ?_) (fun h28 => ?_)
        · exfalso; omega
        · refine mm_iconst dX13_findHigh_31 rfl ?_
          refine mm_istore_n dX13_findHigh_32 rfl (Nat.le_of_ble_eq_true rfl) rfl ?_
          refine mm_iconst dX13_findHigh_33 rfl ?_
          refine mm_istore_n dX13_findHigh_34 rfl (Nat.le_of_ble_eq_true rfl) rfl ?_
          exact go
  -- the levels are cleared
  have l0 : ∀ s : Nat, s ≤ n → ∀ N, mm_Rf N → (∀ a, a ≠ 208 → N a = M a) → (∀ v, v < s → N 208 v = 0) → mm_J X Y_X13_findHigh 243 243 243 7 [(2, 184), (0, (n : Int)), (0, (s : Int)), (9, 0), (9, 0), (9, 0), (9, 0), (9, 0)] [] N Φ := by
    refine mm_lp ?_
    intro s hs ih N hRN f1 hH
    by_cases hlt : s < n
    · refine mm_iload_n dX13_findHigh_7 rfl rfl ?_
      refine mm_iload_n dX13_findHigh_8 rfl rfl ?_
      refine mm_icge dX13_findHigh_9 (by omega) (by omega) (fun h9 => ?_) (fun h9 => ?_)
      · exfalso; omega
      · refine mm_aload_n dX13_findHigh_12 rfl rfl ?_
        refine mm_getr dX13_findHigh_13 rfl fl_X13_272 (c := 183) rfl (by decide) rfl rfl (hRN.at (c := 183) (i := 41) (v := 209) rfl (by decide)) ?_
        refine mm_iload_n dX13_findHigh_16 rfl rfl ?_
        refine mm_lconst0 dX13_findHigh_17 rfl ?_
        refine mm_lstk (k0 := s) dX13_findHigh_18 rfl (c := 208) rfl (by decide) rfl (by omega) (by omega) (fun M18 hM18 => ?_)
        have hR18 : mm_Rf M18 := by rw [hM18]; exact hRN.up (mm_rt_ar (t := 3) rfl (by decide))
        refine mm_iinc dX13_findHigh_19 rfl rfl (Nat.le_of_ble_eq_true rfl) rfl ?_
        refine mm_goto dX13_findHigh_22 ?_
        have go := ih hlt _ hR18 ?_ ?_
        · rw [show ((s + 1 : Nat) : Int) = (s : Int) + 1 by omega] at go
          exact go
        · intro a a1; rw [hM18, mm_up_row a1]; exact f1 a a1
        · intro v hv
          by_cases c : v = s
          · rw [c, hM18, mm_up_s]
          · rw [hM18, mm_up_i (by omega)]; exact hH v (by omega)
    · have es : s = n := by omega
      subst es
      have go := l1 (1443225600000 * (s : Int) - ka_sum (N 208) s).toNat N 1 ⟨hRN, f1, fun v hv => ⟨by rw [hH v hv]; omega, fun _ => v, fun _ => 0, 0, fun j hj => absurd hj (by omega), rfl, by rw [hH v hv]; unfold gS; show M 183 40 * 0 - M 183 39 * 0 = 0; omega⟩⟩ (Or.inr ⟨rfl, by omega⟩)
      refine mm_iload_n dX13_findHigh_7 rfl rfl ?_
      refine mm_iload_n dX13_findHigh_8 rfl rfl ?_
      refine mm_icge dX13_findHigh_9 (by omega) (by omega) (fun h9 => ?_) (fun h9 => ?_)
      · refine mm_iconst dX13_findHigh_25 rfl ?_
        refine mm_istore_n dX13_findHigh_26 rfl (Nat.le_of_ble_eq_true rfl) rfl ?_
        exact go
      · exfalso; omega
  have cn := c_X13_states (X := X) hR
  rw [hn] at cn
  refine mm_start (ls := [(2, 184), (9, 0), (9, 0), (9, 0), (9, 0), (9, 0), (9, 0), (9, 0)]) rfl ?_
  refine mm_aload_n dX13_findHigh_0 rfl rfl ?_
  refine mm_V0i dX13_findHigh_1 rfl lk_X13_458 (c := 183) rfl (by decide) rfl  rfl rfl rfl (cn) ?_
  refine mm_istore_n dX13_findHigh_4 rfl (Nat.le_of_ble_eq_true rfl) rfl ?_
  refine mm_iconst dX13_findHigh_5 rfl ?_
  refine mm_istore_n dX13_findHigh_6 rfl (Nat.le_of_ble_eq_true rfl) rfl ?_
  exact l0 0 (Nat.zero_le _) M hR (fun _ _ => rfl) (fun v hv => absurd hv (by omega))
end
end
/-! G8.tight -/
section
/-! ===== the reference: steps that keep the level ===== -/
/-- levels and mean are within these -/
def ky_B (M : mm_M) (n : Nat) : Prop := kw_bd n (M 183 39) (M 183 40) ∧ 0 < M 183 40 ∧ ∀ v, v < n → 0 ≤ M 208 v ∧ M 208 v ≤ 1443225600000
/-- the step keeps the level -/
def ky_t (M : mm_M) (i : Nat) : Prop := M 205 i = 1 ∧ M 208 (i / 15) + (M 183 40 * M 206 i - M 183 39) = M 208 (ke_T (mm_rk M) i)
section
variable {X : mm_X} {M : mm_M} {n : Nat}
theorem c_X13_isTight {s t : Nat} {g : Int} (hR : mm_Rf M) (hn2 : n ≤ 288) (hB : ky_B M n) (hs : s < n) (ht : t < n) (hg : -5800000 ≤ g ∧ g ≤ 5800000) :
    mm_Fn X Y_X13_isTight 243 [(2, 184), (0, (s : Int)), (0, g), (0, (t : Int))] M (0, @mm_b (M 208 s + (M 183 40 * g - M 183 39) = M 208 t) (Int.instDecidableEq _ _)) M := by
  obtain ⟨⟨b1, b2, b3⟩, b4, b5⟩ := hB
  have b3 := b3 b4
  have ls := b5 s hs
  have lt := b5 t ht
  have mb := mm_mulB (a := g) (b := M 183 40) (A := 5800000) (B := 288) (by omega) (by omega) b1 (by omega)
  rw [Int.mul_comm g] at mb
  have cl := c_X13_lessMean (X := X) (g := g) hR (by unfold mm_R; omega)
  obtain ⟨d, hd⟩ : ∃ d, d = M 183 40 * g - M 183 39 := ⟨_, rfl⟩
  rw [← hd] at cl
  rw [← hd]
  refine mm_startF (ls := [(2, 184), (0, (s : Int)), (0, g), (0, (t : Int))]) rfl ?_
  refine mm_aload_n dX13_isTight_0 rfl rfl ?_
  refine mm_getr dX13_isTight_1 rfl fl_X13_272 (c := 183) rfl (by decide) rfl rfl (hR.at (c := 183) (i := 41) (v := 209) rfl (by decide)) ?_
  refine mm_iload_n dX13_isTight_4 rfl rfl ?_
  refine mm_lalk (k0 := s) dX13_isTight_5 rfl (c := 208) rfl (by decide) rfl (by omega) (by omega) ?_
  refine mm_aload_n dX13_isTight_6 rfl rfl ?_
  refine mm_iload_n dX13_isTight_7 rfl rfl ?_
  refine mm_V1l dX13_isTight_8 rfl lk_X13_533 (c := 183) rfl (by decide) rfl (by simp) rfl rfl rfl (cl) ?_
  refine mm_ladd dX13_isTight_11 rfl ?_
  refine mm_aload_n dX13_isTight_12 rfl rfl ?_
  refine mm_getr dX13_isTight_13 rfl fl_X13_272 (c := 183) rfl (by decide) rfl rfl (hR.at (c := 183) (i := 41) (v := 209) rfl (by decide)) ?_
  refine mm_iload_n dX13_isTight_16 rfl rfl ?_
  refine mm_lalk (k0 := t) dX13_isTight_17 rfl (c := 208) rfl (by decide) rfl (by omega) (by omega) ?_
  refine mm_lcmp dX13_isTight_18 rfl (by omega) (by omega) ?_
  refine mm_ifnec dX13_isTight_19 (fun h19 => ?_) (fun h19 => ?_)
  · refine mm_iconst dX13_isTight_26 rfl ?_
    refine mm_zret dX13_isTight_27 rfl rfl (Or.inl rfl) ?_
    exact mm_fin (by unfold mm_b; split <;> omega) rfl
  · refine mm_iconst dX13_isTight_22 rfl ?_
    refine mm_goto dX13_isTight_23 ?_
    refine mm_zret dX13_isTight_27 rfl rfl (Or.inr rfl) ?_
    exact mm_fin (by unfold mm_b; split <;> omega) rfl
theorem c_X13_isTightStep {i s t : Nat} (hR : mm_Rf M) (hn2 : n ≤ 288) (hS : ke_S (mm_rk M) n (M 205) (M 206)) (hB : ky_B M n) (hi : i = 15 * s + t) (hs : s < n) (ht : t < 15) :
    (ky_t M i → mm_Fn X Y_X13_isTightStep 243 [(2, 184), (0, (s : Int)), (0, (t : Int))] M (0, 1) M) ∧ (¬ ky_t M i → mm_Fn X Y_X13_isTightStep 243 [(2, 184), (0, (s : Int)), (0, (t : Int))] M (0, 0) M) := by
  have hix : i / 15 = s := by omega
  have hix2 : i % 15 = t := by omega
  have hin : i < 15 * n := by omega
  by_cases hF : M 205 i = 1
  · have hT := hS.t hin hF
    have hG := ((hS i hin).2 hF).2
    rw [hix, hix2] at hT
    have ca := c_X13_after (X := X) (s := (s : Int)) (a := (t : Int)) hR (by omega)
    rw [← hT.1] at ca
    have ct := c_X13_isTight (X := X) hR hn2 hB hs hT.2 hG
    constructor
    · intro q
      have q2 := q.2
      rw [hix] at q2
      rw [mm_b_t q2] at ct
      refine mm_startF (ls := [(2, 184), (0, (s : Int)), (0, (t : Int))]) rfl ?_
      refine mm_aload_n dX13_isTightStep_0 rfl rfl ?_
      refine mm_getr dX13_isTightStep_1 rfl fl_X13_261 (c := 183) rfl (by decide) rfl rfl (hR.at (c := 183) (i := 36) (v := 206) rfl (by decide)) ?_
      refine mm_bipush dX13_isTightStep_4 rfl (by decide) ?_
      refine mm_iload_n dX13_isTightStep_6 rfl rfl ?_
      refine mm_imul dX13_isTightStep_7 rfl ?_
      refine mm_iload_n dX13_isTightStep_8 rfl rfl ?_
      refine mm_iadd dX13_isTightStep_9 rfl ?_
      refine mm_zalk (k0 := i) dX13_isTightStep_10 rfl (c := 205) rfl (by decide) rfl (by omega) (by omega) ?_
      rw [hF]
      refine mm_ifeq dX13_isTightStep_11 (by omega) (fun h11 => ?_) (fun h11 => ?_)
      · exfalso; omega
      · refine mm_aload_n dX13_isTightStep_14 rfl rfl ?_
        refine mm_iload_n dX13_isTightStep_15 rfl rfl ?_
        refine mm_aload_n dX13_isTightStep_16 rfl rfl ?_
        refine mm_getr dX13_isTightStep_17 rfl fl_X13_264 (c := 183) rfl (by decide) rfl rfl (hR.at (c := 183) (i := 37) (v := 207) rfl (by decide)) ?_
        refine mm_bipush dX13_isTightStep_20 rfl (by decide) ?_
        refine mm_iload_n dX13_isTightStep_22 rfl rfl ?_
        refine mm_imul dX13_isTightStep_23 rfl ?_
        refine mm_iload_n dX13_isTightStep_24 rfl rfl ?_
        refine mm_iadd dX13_isTightStep_25 rfl ?_
        refine mm_ialk (k0 := i) dX13_isTightStep_26 rfl (c := 206) rfl (by decide) rfl (by omega) (by omega) ?_
        refine mm_aload_n dX13_isTightStep_27 rfl rfl ?_
        refine mm_iload_n dX13_isTightStep_28 rfl rfl ?_
        refine mm_iload_n dX13_isTightStep_29 rfl rfl ?_
        refine mm_V2i dX13_isTightStep_30 rfl lk_X13_476 (c := 183) rfl (by decide) rfl (by simp) (by simp) rfl rfl rfl (ca) ?_
        refine mm_V3i dX13_isTightStep_33 rfl lk_X13_537 (c := 183) rfl (by decide) rfl (by simp) (by simp) (by simp) rfl rfl rfl (ct) ?_
        refine mm_ifeq dX13_isTightStep_36 (by omega) (fun h => absurd h (by decide)) (fun _ => ?_)
        refine mm_iconst dX13_isTightStep_39 rfl ?_
        refine mm_goto dX13_isTightStep_40 ?_
        refine mm_zret dX13_isTightStep_44 rfl rfl (Or.inr rfl) ?_
        exact mm_fin rfl rfl
    · intro q
      have q2 : ¬ (M 208 s + (M 183 40 * M 206 i - M 183 39) = M 208 (ke_T (mm_rk M) i)) := fun z => q ⟨hF, by rw [hix]; exact z⟩
      rw [mm_b_f q2] at ct
      refine mm_startF (ls := [(2, 184), (0, (s : Int)), (0, (t : Int))]) rfl ?_
      refine mm_aload_n dX13_isTightStep_0 rfl rfl ?_
      refine mm_getr dX13_isTightStep_1 rfl fl_X13_261 (c := 183) rfl (by decide) rfl rfl (hR.at (c := 183) (i := 36) (v := 206) rfl (by decide)) ?_
      refine mm_bipush dX13_isTightStep_4 rfl (by decide) ?_
      refine mm_iload_n dX13_isTightStep_6 rfl rfl ?_
      refine mm_imul dX13_isTightStep_7 rfl ?_
      refine mm_iload_n dX13_isTightStep_8 rfl rfl ?_
      refine mm_iadd dX13_isTightStep_9 rfl ?_
      refine mm_zalk (k0 := i) dX13_isTightStep_10 rfl (c := 205) rfl (by decide) rfl (by omega) (by omega) ?_
      rw [hF]
      refine mm_ifeq dX13_isTightStep_11 (by omega) (fun h11 => ?_) (fun h11 => ?_)
      · exfalso; omega
      · refine mm_aload_n dX13_isTightStep_14 rfl rfl ?_
        refine mm_iload_n dX13_isTightStep_15 rfl rfl ?_
        refine mm_aload_n dX13_isTightStep_16 rfl rfl ?_
        refine mm_getr dX13_isTightStep_17 rfl fl_X13_264 (c := 183) rfl (by decide) rfl rfl (hR.at (c := 183) (i := 37) (v := 207) rfl (by decide)) ?_
        refine mm_bipush dX13_isTightStep_20 rfl (by decide) ?_
        refine mm_iload_n dX13_isTightStep_22 rfl rfl ?_
        refine mm_imul dX13_isTightStep_23 rfl ?_
        refine mm_iload_n dX13_isTightStep_24 rfl rfl ?_
        refine mm_iadd dX13_isTightStep_25 rfl ?_
        refine mm_ialk (k0 := i) dX13_isTightStep_26 rfl (c := 206) rfl (by decide) rfl (by omega) (by omega) ?_
        refine mm_aload_n dX13_isTightStep_27 rfl rfl ?_
        refine mm_iload_n dX13_isTightStep_28 rfl rfl ?_
        refine mm_iload_n dX13_isTightStep_29 rfl rfl ?_
        refine mm_V2i dX13_isTightStep_30 rfl lk_X13_476 (c := 183) rfl (by decide) rfl (by simp) (by simp) rfl rfl rfl (ca) ?_
        refine mm_V3i dX13_isTightStep_33 rfl lk_X13_537 (c := 183) rfl (by decide) rfl (by simp) (by simp) (by simp) rfl rfl rfl (ct) ?_
        refine mm_ifeq dX13_isTightStep_36 (by omega) (fun _ => ?_) (fun h => absurd (by decide) h)
        refine mm_iconst dX13_isTightStep_43 rfl ?_
        refine mm_zret dX13_isTightStep_44 rfl rfl (Or.inl rfl) ?_
        exact mm_fin rfl rfl
  · have hF0 : M 205 i = 0 := by
      rcases (hS i hin).1 with q | q
      · exact q
      · exact absurd q hF
    refine ⟨fun q => absurd q.1 hF, fun _ => ?_⟩
    refine mm_startF (ls := [(2, 184), (0, (s : Int)), (0, (t : Int))]) rfl ?_
    refine mm_aload_n dX13_isTightStep_0 rfl rfl ?_
    refine mm_getr dX13_isTightStep_1 rfl fl_X13_261 (c := 183) rfl (by decide) rfl rfl (hR.at (c := 183) (i := 36) (v := 206) rfl (by decide)) ?_
    refine mm_bipush dX13_isTightStep_4 rfl (by decide) ?_
    refine mm_iload_n dX13_isTightStep_6 rfl rfl ?_
    refine mm_imul dX13_isTightStep_7 rfl ?_
    refine mm_iload_n dX13_isTightStep_8 rfl rfl ?_
    refine mm_iadd dX13_isTightStep_9 rfl ?_
    refine mm_zalk (k0 := i) dX13_isTightStep_10 rfl (c := 205) rfl (by decide) rfl (by omega) (by omega) ?_
    rw [hF0]
    refine mm_ifeq dX13_isTightStep_11 (by omega) (fun h11 => ?_) (fun h11 => ?_)
    · refine mm_iconst dX13_isTightStep_43 rfl ?_
      refine mm_zret dX13_isTightStep_44 rfl rfl (Or.inl rfl) ?_
      exact mm_fin rfl rfl
    · exfalso; omega
end
end
/-! G9.tight2 -/
section
/-! ===== the reference: findTight ===== -/
/-- of the first t steps of s, those that keep the level are told -/
def ky_Q (M N : mm_M) (s t : Nat) : Prop := ∃ c : Nat, N 210 s = (c : Int) ∧ c ≤ t ∧ (∀ j, j < c → ∃ i, 15 * s ≤ i ∧ i < 15 * s + t ∧ ky_t M i ∧ N 209 (15 * s + j) = (ke_T (mm_rk M) i : Int)) ∧ ∀ i, 15 * s ≤ i → i < 15 * s + t → ky_t M i → ∃ j, j < c ∧ N 209 (15 * s + j) = (ke_T (mm_rk M) i : Int)
def ky_F (M N : mm_M) (m : Nat) : Prop := mm_Rf N ∧ (∀ a, a ≠ 209 → a ≠ 210 → N a = M a) ∧ ∀ s, s < m → ky_Q M N s 15
section
variable {X : mm_X} {M : mm_M} {n : Nat}
theorem ky_t.fr {M N : mm_M} (f : ∀ a, a ≠ 209 → a ≠ 210 → N a = M a) : mm_rk N = mm_rk M ∧ ∀ i, ky_t N i ↔ ky_t M i := by
  have rk : mm_rk N = mm_rk M := mm_rk.fr (fun a b q => by rw [f a (by omega) (by omega)])
  refine ⟨rk, fun i => ?_⟩
  unfold ky_t
  rw [rk, f 205 (by decide) (by decide), f 206 (by decide) (by decide), f 208 (by decide) (by decide), f 183 (by decide) (by decide)]
theorem c_X13_findTight (hR : mm_Rf M) (hn : ks_n (mm_rk M) = (n : Int)) (hn2 : n ≤ 288) (hS : ke_S (mm_rk M) n (M 205) (M 206)) (hB : ky_B M n) :
    mm_C X Y_X13_findTight 243 243 [(2, 184)] M (fun r M' => r = (3, 0) ∧ mm_Rf M' ∧ ky_F M M' n) := by
  obtain ⟨Φ, hΦ⟩ : ∃ Φ : mm_V → mm_M → Prop, Φ = (fun r M' => r = (3, 0) ∧ mm_Rf M' ∧ ky_F M M' n) := ⟨_, rfl⟩
  rw [← hΦ]
  have l2 : ∀ s : Nat, s < n → (∀ N, ky_F M N (s + 1) → mm_J X Y_X13_findTight 243 243 243 75 [(2, 184), (0, (s : Int)), (9, 0)] [] N Φ) →
      ∀ t : Nat, t ≤ 15 → ∀ N, ky_F M N s → ky_Q M N s t → mm_J X Y_X13_findTight 243 243 243 19 [(2, 184), (0, (s : Int)), (0, (t : Int))] [] N Φ := by
    intro s hs out
    refine mm_lp ?_
    intro t ht ih N hF hQ
    obtain ⟨hRN, f1, f2⟩ := id hF
    obtain ⟨rk, tf⟩ := ky_t.fr f1
    by_cases hlt : t < 15
    · have e205 : N 205 = M 205 := f1 205 (by decide) (by decide)
      have e206 : N 206 = M 206 := f1 206 (by decide) (by decide)
      have hSN : ke_S (mm_rk N) n (N 205) (N 206) := by rw [rk, e205, e206]; exact hS
      have hBN : ky_B N n := by unfold ky_B; rw [f1 183 (by decide) (by decide), f1 208 (by decide) (by decide)]; exact hB
      have ct := c_X13_isTightStep (X := X) (i := 15 * s + t) hRN hn2 hSN hBN rfl hs hlt
      by_cases hT : ky_t M (15 * s + t)
      · have ct := ct.1 ((tf _).mpr hT)
        have hTT := hS.t (i := 15 * s + t) (by omega) hT.1
        rw [show (15 * s + t) / 15 = s by omega, show (15 * s + t) % 15 = t by omega] at hTT
        have ca := c_X13_after (X := X) (s := (s : Int)) (a := (t : Int)) hRN (by omega)
        rw [rk, ← hTT.1] at ca
        obtain ⟨T, hTe⟩ : ∃ T, T = ke_T (mm_rk M) (15 * s + t) := ⟨_, rfl⟩
        rw [← hTe] at ca hTT
        have hTn := hTT.2
        obtain ⟨c, c1, c2, c3, c4⟩ := hQ
        have fin : ∀ P : mm_M, P = mm_up (mm_up N 209 (15 * s + c) (T : Int)) 210 s ((c : Int) + 1) → mm_Rf P → mm_J X Y_X13_findTight 243 243 243 19 [(2, 184), (0, (s : Int)), (0, (t : Int) + 1)] [] P Φ := by
          intro P hP hRP
          have p209 : ∀ x, x ≠ 15 * s + c → P 209 x = N 209 x := fun x hx => by rw [hP, mm_up_row (by decide), mm_up_i hx]
          have p209s : P 209 (15 * s + c) = (T : Int) := by rw [hP, mm_up_row (by decide), mm_up_s]
          have p210 : ∀ x, x ≠ s → P 210 x = N 210 x := fun x hx => by rw [hP, mm_up_i hx, mm_up_row (by decide)]
          have p210s : P 210 s = (c : Int) + 1 := by rw [hP, mm_up_s]
          have go := ih hlt P ⟨hRP, fun a a1 a2 => by rw [hP, mm_up_row a2, mm_up_row a1]; exact f1 a a1 a2, ?_⟩ ⟨c + 1, by rw [p210s]; omega, by omega, ?_, ?_⟩
          · rw [show ((t + 1 : Nat) : Int) = (t : Int) + 1 by omega] at go; exact go
          · intro u hu
            obtain ⟨d, d1, d2, d3, d4⟩ := f2 u hu
            refine ⟨d, by rw [p210 u (by omega)]; exact d1, d2, fun j hj => ?_, fun i i1 i2 i3 => ?_⟩
            · rw [p209 _ (by omega)]; exact d3 j hj
            · obtain ⟨j, j1, j2⟩ := d4 i i1 i2 i3
              exact ⟨j, j1, by rw [p209 _ (by omega)]; exact j2⟩
          · intro j hj
            by_cases cc : j = c
            · exact ⟨15 * s + t, by omega, by omega, hT, by rw [cc, p209s, hTe]⟩
            · obtain ⟨i, i1, i2, i3, i4⟩ := c3 j (by omega)
              exact ⟨i, i1, by omega, i3, by rw [p209 _ (by omega)]; exact i4⟩
          · intro i i1 i2 i3
            by_cases cc : i = 15 * s + t
            · exact ⟨c, by omega, by rw [p209s, hTe, cc]⟩
            · obtain ⟨j, j1, j2⟩ := c4 i i1 (by omega) i3
              exact ⟨j, by omega, by rw [p209 _ (by omega)]; exact j2⟩
        refine mm_iload_n dX13_findTight_19 rfl rfl ?_
        refine mm_bipush dX13_findTight_20 rfl (by decide) ?_
        refine mm_icge dX13_findTight_22 (by omega) (by omega) (fun h22 => ?_) (fun h22 => ?_)
        · exfalso; omega
        · refine mm_aload_n dX13_findTight_25 rfl rfl ?_
          refine mm_iload_n dX13_findTight_26 rfl rfl ?_
          refine mm_iload_n dX13_findTight_27 rfl rfl ?_
          refine mm_V2i dX13_findTight_28 rfl lk_X13_540 (c := 183) rfl (by decide) rfl (by simp) (by simp) rfl rfl rfl (ct) ?_
          refine mm_ifne dX13_findTight_31 (by omega) (fun _ => ?_) (fun h => absurd h (by decide))
          refine mm_aload_n dX13_findTight_37 rfl rfl ?_
          refine mm_getr dX13_findTight_38 rfl fl_X13_274 (c := 183) rfl (by decide) rfl rfl (hRN.at (c := 183) (i := 42) (v := 210) rfl (by decide)) ?_
          refine mm_bipush dX13_findTight_41 rfl (by decide) ?_
          refine mm_iload_n dX13_findTight_43 rfl rfl ?_
          refine mm_imul dX13_findTight_44 rfl ?_
          refine mm_aload_n dX13_findTight_45 rfl rfl ?_
          refine mm_getr dX13_findTight_46 rfl fl_X13_277 (c := 183) rfl (by decide) rfl rfl (hRN.at (c := 183) (i := 43) (v := 211) rfl (by decide)) ?_
          refine mm_iload_n dX13_findTight_49 rfl rfl ?_
          refine mm_ialk (k0 := s) dX13_findTight_50 rfl (c := 210) rfl (by decide) rfl (by omega) (by omega) ?_
          rw [c1]
          refine mm_iadd dX13_findTight_51 rfl ?_
          refine mm_aload_n dX13_findTight_52 rfl rfl ?_
          refine mm_iload_n dX13_findTight_53 rfl rfl ?_
          refine mm_iload_n dX13_findTight_54 rfl rfl ?_
          refine mm_V2i dX13_findTight_55 rfl lk_X13_476 (c := 183) rfl (by decide) rfl (by simp) (by simp) rfl rfl rfl (ca) ?_
          refine mm_istk (k0 := 15 * s + c) dX13_findTight_58 rfl (c := 209) rfl (by decide) rfl (by omega) (by omega) (fun M58 hM58 => ?_)
          have hR58 : mm_Rf M58 := by rw [hM58]; exact hRN.up (mm_rt_ar (t := 0) rfl (by decide))
          refine mm_aload_n dX13_findTight_59 rfl rfl ?_
          refine mm_getr dX13_findTight_60 rfl fl_X13_277 (c := 183) rfl (by decide) rfl rfl (hR58.at (c := 183) (i := 43) (v := 211) rfl (by decide)) ?_
          refine mm_iload_n dX13_findTight_63 rfl rfl ?_
          refine mm_dup2 dX13_findTight_64 rfl (by simp) (by simp) ?_
          refine mm_ialk (k0 := s) dX13_findTight_65 rfl (c := 210) rfl (by decide) rfl (by omega) (by omega) ?_
          rw [show M58 210 s = (c : Int) by rw [hM58, mm_up_row (by decide), c1]]
          refine mm_iconst dX13_findTight_66 rfl ?_
          refine mm_iadd dX13_findTight_67 rfl ?_
          refine mm_istk (k0 := s) dX13_findTight_68 rfl (c := 210) rfl (by decide) rfl (by omega) (by omega) (fun M68 hM68 => ?_)
          have hR68 : mm_Rf M68 := by rw [hM68]; exact hR58.up (mm_rt_ar (t := 0) rfl (by decide))
          refine mm_iinc dX13_findTight_69 rfl rfl (Nat.le_of_ble_eq_true rfl) rfl ?_
          refine mm_goto dX13_findTight_72 ?_
          exact fin _ (by rw [hM68, hM58]) hR68
      · have ct := ct.2 (fun q => hT ((tf _).mp q))
        have go := ih hlt N hF (by
          obtain ⟨c, c1, c2, c3, c4⟩ := hQ
          refine ⟨c, c1, by omega, fun j hj => ?_, fun i i1 i2 i3 => ?_⟩
          · obtain ⟨i, i1, i2, i3, i4⟩ := c3 j hj
            exact ⟨i, i1, by omega, i3, i4⟩
          · by_cases cc : i = 15 * s + t
            · rw [cc] at i3; exact absurd i3 hT
            · exact c4 i i1 (by omega) i3)
        rw [show ((t + 1 : Nat) : Int) = (t : Int) + 1 by omega] at go
        refine mm_iload_n dX13_findTight_19 rfl rfl ?_
        refine mm_bipush dX13_findTight_20 rfl (by decide) ?_
        refine mm_icge dX13_findTight_22 (by omega) (by omega) (fun h22 => ?_) (fun h22 => ?_)
        · exfalso; omega
        · refine mm_aload_n dX13_findTight_25 rfl rfl ?_
          refine mm_iload_n dX13_findTight_26 rfl rfl ?_
          refine mm_iload_n dX13_findTight_27 rfl rfl ?_
          refine mm_V2i dX13_findTight_28 rfl lk_X13_540 (c := 183) rfl (by decide) rfl (by simp) (by simp) rfl rfl rfl (ct) ?_
          refine mm_ifne dX13_findTight_31 (by omega) (fun h => absurd h (by decide)) (fun _ => ?_)
          refine mm_goto dX13_findTight_34 ?_
          refine mm_iinc dX13_findTight_69 rfl rfl (Nat.le_of_ble_eq_true rfl) rfl ?_
          refine mm_goto dX13_findTight_72 ?_
          exact go
    · have et : t = 15 := by omega
      subst et
      have go := out N ⟨hRN, f1, fun u hu => by
        by_cases c : u = s
        · rw [c]; exact hQ
        · exact f2 u (by omega)⟩
      refine mm_iload_n dX13_findTight_19 rfl rfl ?_
      refine mm_bipush dX13_findTight_20 rfl (by decide) ?_
      refine mm_icge dX13_findTight_22 (by omega) (by omega) (fun h22 => ?_) (fun h22 => ?_)
      · exact mm_drop (ls' := [(2, 184), (0, (s : Int)), (9, 0)]) (by simp [mm_dr]) go
      · exfalso; omega
  have l1 : ∀ s : Nat, s ≤ n → ∀ N, ky_F M N s → mm_J X Y_X13_findTight 243 243 243 2 [(2, 184), (0, (s : Int)), (9, 0)] [] N Φ := by
    refine mm_lp ?_
    intro s hs ih N hF
    obtain ⟨hRN, f1, f2⟩ := id hF
    obtain ⟨rk, tf⟩ := ky_t.fr f1
    have cn := c_X13_states (X := X) hRN
    rw [rk, hn] at cn
    by_cases hlt : s < n
    · have back : ∀ N, ky_F M N (s + 1) → mm_J X Y_X13_findTight 243 243 243 75 [(2, 184), (0, (s : Int)), (9, 0)] [] N Φ := by
        intro P hP
        have go := ih hlt P hP
        have hRP := hP.1
        rw [show ((s + 1 : Nat) : Int) = (s : Int) + 1 by omega] at go
        refine mm_iinc dX13_findTight_75 rfl rfl (Nat.le_of_ble_eq_true rfl) rfl ?_
        refine mm_goto dX13_findTight_78 ?_
        exact go
      refine mm_iload_n dX13_findTight_2 rfl rfl ?_
      refine mm_aload_n dX13_findTight_3 rfl rfl ?_
      refine mm_V0i dX13_findTight_4 rfl lk_X13_458 (c := 183) rfl (by decide) rfl  rfl rfl rfl (cn) ?_
      refine mm_icge dX13_findTight_7 (by omega) (by omega) (fun h7 => ?_) (fun h7 => ?_)
      · exfalso; omega
      · refine mm_aload_n dX13_findTight_10 rfl rfl ?_
        refine mm_getr dX13_findTight_11 rfl fl_X13_277 (c := 183) rfl (by decide) rfl rfl (hRN.at (c := 183) (i := 43) (v := 211) rfl (by decide)) ?_
        refine mm_iload_n dX13_findTight_14 rfl rfl ?_
        refine mm_iconst dX13_findTight_15 rfl ?_
        refine mm_istk (k0 := s) dX13_findTight_16 rfl (c := 210) rfl (by decide) rfl (by omega) (by omega) (fun M16 hM16 => ?_)
        have hR16 : mm_Rf M16 := by rw [hM16]; exact hRN.up (mm_rt_ar (t := 0) rfl (by decide))
        refine mm_iconst dX13_findTight_17 rfl ?_
        refine mm_istore_n dX13_findTight_18 rfl (Nat.le_of_ble_eq_true rfl) rfl ?_
        refine l2 s hlt back 0 (Nat.zero_le _) _ ⟨hR16, ?_, ?_⟩ ⟨0, ?_, Nat.le_refl _, ?_, ?_⟩
        · intro a a1 a2; rw [hM16, mm_up_row a2]; exact f1 a a1 a2
        · intro u hu
          obtain ⟨d, d1, d2, d3, d4⟩ := f2 u hu
          exact ⟨d, by rw [hM16, mm_up_i (by omega)]; exact d1, d2, by rw [hM16, mm_up_row (by decide)]; exact d3, by rw [hM16, mm_up_row (by decide)]; exact d4⟩
        · rw [hM16, mm_up_s]; rfl
        · intro j hj; exact absurd hj (by omega)
        · intro i i1 i2; exfalso; omega
    · have es : s = n := by omega
      subst es
      refine mm_iload_n dX13_findTight_2 rfl rfl ?_
      refine mm_aload_n dX13_findTight_3 rfl rfl ?_
      refine mm_V0i dX13_findTight_4 rfl lk_X13_458 (c := 183) rfl (by decide) rfl  rfl rfl rfl (cn) ?_
      refine mm_icge dX13_findTight_7 (by omega) (by omega) (fun h7 => ?_) (fun h7 => ?_)
      · refine mm_vret dX13_findTight_81 rfl rfl ?_
        rw [hΦ]; exact ⟨rfl, hRN, hF⟩
      · exfalso; omega
  refine mm_start (ls := [(2, 184), (9, 0), (9, 0)]) rfl ?_
  refine mm_iconst dX13_findTight_0 rfl ?_
  refine mm_istore_n dX13_findTight_1 rfl (Nat.le_of_ble_eq_true rfl) rfl ?_
  exact l1 0 (Nat.zero_le _) M ⟨hR, fun _ _ _ => rfl, fun s hs => absurd hs (by omega)⟩
end
end
