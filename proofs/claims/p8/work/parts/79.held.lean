/-! ===== held, of the class: back from the ends ===== -/
def kh_fate (K : Nat → Int) (T : Int → Int → Int) (L : Nat → Int) (h s : Int) : Int := ks_fate K (ks_p K s (ks_in K s (T s (ks_wi L K s h))) (ks_wi L K s h))
def kh_nx (K : Nat → Int) (T : Int → Int → Int) (L : Nat → Int) (h s : Int) : Int := ks_to K s (ks_in K s (T s (ks_wi L K s h)))
theorem kh_W {L K : Nat → Int} {h s : Int} {i : Nat} : kfl_W L K h 0 s i = ks_wi L K s h := by unfold kfl_W; rw [if_pos rfl]
theorem kh_S {K : Nat → Int} {T : Int → Int → Int} {L : Nat → Int} {h s : Int} : ∀ i, kfl_S K T (kfl_W L K h 0) s (i + 1) = kfl_S K T (kfl_W L K h 0) (kh_nx K T L h s) i
  | 0 => by
    show ks_to K s (ks_in K s (T s (kfl_W L K h 0 s 0))) = kh_nx K T L h s
    rw [kh_W]
    rfl
  | i + 1 => by
    have e := kh_S (K := K) (T := T) (L := L) (h := h) (s := s) i
    rw [kfl_S, e, kh_W]
    conv => rhs; rw [kfl_S, kh_W]
theorem kh_ok0 {K : Nat → Int} {T : Int → Int → Int} {L : Nat → Int} {h s : Int} : kfl_ok K T (kfl_W L K h 0) s 0 ↔ kh_fate K T L h s = 0 := by
  unfold kfl_ok kfl_p kfl_a kh_fate
  rw [kfl_S, kh_W]
theorem kh_oks {K : Nat → Int} {T : Int → Int → Int} {L : Nat → Int} {h s : Int} {i : Nat} : kfl_ok K T (kfl_W L K h 0) s (i + 1) ↔ kfl_ok K T (kfl_W L K h 0) (kh_nx K T L h s) i := by
  unfold kfl_ok kfl_p kfl_a
  rw [kh_S, kh_W, kh_W]
/-- a flight from s ends just at tick i -/
def kh_E (K : Nat → Int) (T : Int → Int → Int) (L : Nat → Int) (h s : Int) (i : Nat) : Prop := (∀ j, j < i → kfl_ok K T (kfl_W L K h 0) s j) ∧ ¬ kfl_ok K T (kfl_W L K h 0) s i
theorem kh_E0 {K : Nat → Int} {T : Int → Int → Int} {L : Nat → Int} {h s : Int} : kh_E K T L h s 0 ↔ kh_fate K T L h s ≠ 0 := by
  unfold kh_E
  rw [kh_ok0]
  exact ⟨fun q => q.2, fun q => ⟨fun j hj => absurd hj (Nat.not_lt_zero j), q⟩⟩
theorem kh_Es {K : Nat → Int} {T : Int → Int → Int} {L : Nat → Int} {h s : Int} {i : Nat} : kh_E K T L h s (i + 1) ↔ kh_fate K T L h s = 0 ∧ kh_E K T L h (kh_nx K T L h s) i := by
  unfold kh_E
  rw [kh_oks]
  constructor
  · intro q
    exact ⟨kh_ok0.mp (q.1 0 (by omega)), fun j hj => kh_oks.mp (q.1 (j + 1) (by omega)), q.2⟩
  · intro q
    refine ⟨fun j hj => ?_, q.2.2⟩
    cases j with
    | zero => exact kh_ok0.mpr q.1
    | succ j => exact kh_oks.mpr (q.2.1 j (by omega))
theorem kh_E_u {K : Nat → Int} {T : Int → Int → Int} {L : Nat → Int} {h s : Int} {i j : Nat} (a : kh_E K T L h s i) (b : kh_E K T L h s j) : i = j := by
  rcases Nat.lt_trichotomy i j with q | q | q
  · exact absurd (b.1 i q) a.2
  · exact q
  · exact absurd (a.1 j q) b.2
theorem kh_nok {K : Nat → Int} {T : Int → Int → Int} {L : Nat → Int} {h s : Int} : ¬ kh_ok K T L h s ↔ ∃ j, j < 200 ∧ kh_E K T L h s j := by
  constructor
  · intro q
    have key : ∀ n, n ≤ 200 → (∃ j, j < n ∧ kh_E K T L h s j) ∨ (∀ j, j < n → kfl_ok K T (kfl_W L K h 0) s j) := by
      intro n
      induction n with
      | zero => intro _; exact Or.inr (fun j hj => absurd hj (Nat.not_lt_zero j))
      | succ n ih =>
        intro hn
        rcases ih (by omega) with ⟨j, hj, e⟩ | a
        · exact Or.inl ⟨j, by omega, e⟩
        · by_cases c : kfl_ok K T (kfl_W L K h 0) s n
          · refine Or.inr (fun j hj => ?_)
            by_cases z : j = n
            · rw [z]; exact c
            · exact a j (by omega)
          · exact Or.inl ⟨n, by omega, a, c⟩
    rcases key 200 (Nat.le_refl _) with z | z
    · exact z
    · exact absurd z q
  · rintro ⟨j, hj, e⟩ q
    exact e.2 (q j hj)
/-- if no state ends at tick i, none ends later -/
theorem kh_none {K : Nat → Int} (hK : mm_KV K) {T : Int → Int → Int} (hT : ∀ s w, ks_ac K (T s w)) {L : Nat → Int} {h : Int} {i : Nat} (q : ∀ s, ks_st K s → ¬ kh_E K T L h s i) : ∀ k s, ks_st K s → ¬ kh_E K T L h s (i + k)
  | 0, s, hs => q s hs
  | k + 1, s, hs => fun e => by
    have := (kh_Es (i := i + k)).mp e
    exact kh_none hK hT q k _ (ks_to_st hK hs (ks_in_can (hT _ _).1)) this.2
/-- what ticksLeft holds of s once the ends before tick t are found -/
def kh_tk (K : Nat → Int) (T : Int → Int → Int) (L : Nat → Int) (h s : Int) (t : Nat) (v : Int) : Prop := (∃ j, j < t ∧ kh_E K T L h s j ∧ v = (j : Int)) ∨ ((∀ j, j < t → ¬ kh_E K T L h s j) ∧ v = -1)
theorem kh_tkb {K : Nat → Int} {T : Int → Int → Int} {L : Nat → Int} {h s : Int} {t : Nat} {v : Int} (q : kh_tk K T L h s t v) : -1 ≤ v ∧ v < t := by
  rcases q with ⟨j, hj, -, rfl⟩ | ⟨-, rfl⟩ <;> omega
theorem kh_tk_at {K : Nat → Int} {T : Int → Int → Int} {L : Nat → Int} {h s : Int} {t : Nat} {v : Int} (q : kh_tk K T L h s t v) {j : Nat} (hj : j < t) : v = (j : Int) ↔ kh_E K T L h s j := by
  rcases q with ⟨i, hi, e, rfl⟩ | ⟨e, rfl⟩
  · constructor
    · intro z
      have : i = j := by omega
      rw [← this]; exact e
    · intro z
      rw [kh_E_u e z]
  · constructor
    · intro z; omega
    · intro z; exact absurd z (e j hj)
theorem kh_tk_none {K : Nat → Int} {T : Int → Int → Int} {L : Nat → Int} {h s : Int} {t : Nat} {v : Int} (q : kh_tk K T L h s t v) : v = -1 ↔ ∀ j, j < t → ¬ kh_E K T L h s j := by
  rcases q with ⟨i, hi, e, rfl⟩ | ⟨e, rfl⟩
  · constructor
    · intro z; omega
    · intro z; exact absurd e (z i hi)
  · exact ⟨fun _ => e, fun _ => rfl⟩
theorem kh_tk_up {K : Nat → Int} {T : Int → Int → Int} {L : Nat → Int} {h s : Int} {t : Nat} {v : Int} (q : kh_tk K T L h s t v) (n : ¬ kh_E K T L h s t) : kh_tk K T L h s (t + 1) v := by
  rcases q with ⟨i, hi, e, rfl⟩ | ⟨e, rfl⟩
  · exact Or.inl ⟨i, by omega, e, rfl⟩
  · refine Or.inr ⟨fun j hj => ?_, rfl⟩
    by_cases z : j = t
    · rw [z]; exact n
    · exact e j (by omega)
section
variable {X : mm_X} {M : mm_M} {h : Int}
theorem c_X2_markLost {P : Prop} [Decidable P] (hR : mm_Rf M) (hK : mm_CK M) (hA : mm_CA M) (hC : mm_CR M) (hh : ks_hr h) (hz : ∀ j : Nat, j < 288 → M 143 j = 0 ∨ M 143 j = 1) :
    mm_C X Y_X2_markLost 243 243 [(2, 140), (0, h), (0, mm_b P)] M (fun r M' => r = (3, 0) ∧ mm_Rf M' ∧ mm_ag M M' ∧ (∀ a, a ≠ 141 → a ≠ 142 → a ≠ 143 → M' a = M a) ∧ (∀ j : Nat, j < 288 → M' 143 j = 0 ∨ M' 143 j = 1) ∧
      ∀ s : Nat, (s : Int) < ks_n (M 4) → (M' 143 s = 1 ↔ M 143 s = 1 ∨ ¬ kh_ok (M 4) (kc_T M) (if P then M 17 else M 16) h s)) := by
  obtain ⟨L, hL⟩ : ∃ L, L = (if P then M 17 else M 16) := ⟨_, rfl⟩
  rw [← hL]
  have hLb : ∀ p, p < 120 → 0 ≤ L p ∧ L p ≤ 60 := by
    intro p hp
    have := hA p hp
    rw [hL]
    split <;> omega
  have hG0 := mm_ag.rf M
  have hnb := ks_nb hK.1
  have hst : ∀ s : Nat, (s : Int) < ks_n (M 4) → ks_st (M 4) s := fun s q => ⟨by omega, q⟩
  have hTac : ∀ s w, ks_ac (M 4) (kc_T M s w) := fun s w => kc_T_ac hK.1 hC
  have hwb : ∀ s : Int, ks_st (M 4) s → 0 ≤ ks_wi L (M 4) s h ∧ ks_wi L (M 4) s h ≤ 60 := fun s q => by unfold ks_wi; exact hLb _ (ks_plb hh (ks_bandb hK.1 q))
  have hnxs : ∀ s : Int, ks_st (M 4) s → ks_st (M 4) (kh_nx (M 4) (kc_T M) L h s) := fun s q => ks_to_st hK.1 q (ks_in_can (hTac _ _).1)
  have est := hK.2.1
  obtain ⟨Φ, hΦ⟩ : ∃ Φ : mm_V → mm_M → Prop, Φ = (fun r M' => r = (3, 0) ∧ mm_Rf M' ∧ mm_ag M M' ∧ (∀ a, a ≠ 141 → a ≠ 142 → a ≠ 143 → M' a = M a) ∧ (∀ j : Nat, j < 288 → M' 143 j = 0 ∨ M' 143 j = 1) ∧ ∀ s : Nat, (s : Int) < ks_n (M 4) → (M' 143 s = 1 ↔ M 143 s = 1 ∨ ¬ kh_ok (M 4) (kc_T M) L h s)) := ⟨_, rfl⟩
  rw [← hΦ]
  refine mm_start (ls := [(2, 140), (0, h), (0, mm_b P), (9, 0), (9, 0), (9, 0), (9, 0)]) rfl ?_
  -- the end
  have fin : ∀ (N : mm_M) (t : Nat) (l3 l4 l5 l6 : mm_V), t ≤ 200 → mm_Rf N → mm_ag M N → (∀ a, a ≠ 141 → a ≠ 142 → a ≠ 143 → N a = M a) → (∀ j : Nat, j < 288 → N 143 j = 0 ∨ N 143 j = 1) →
      (∀ s : Nat, (s : Int) < ks_n (M 4) → (N 143 s = 1 ↔ M 143 s = 1 ∨ ∃ j, j < t ∧ kh_E (M 4) (kc_T M) L h s j)) → (t = 200 ∨ ∀ s, ks_st (M 4) s → ¬ kh_E (M 4) (kc_T M) L h s (t - 1)) → 1 ≤ t →
      mm_J X Y_X2_markLost 243 243 243 252 [(2, 140), (0, h), (0, mm_b P), l3, l4, l5, l6] [] N Φ := by
    intro N t l3 l4 l5 l6 ht hRN hG hfr hzz hlost hend ht1
    rw [hΦ]
    refine mm_vret dX2_markLost_252 rfl rfl ?_
    refine ⟨rfl, hRN, hG, hfr, hzz, fun s hs => ?_⟩
    rw [hlost s hs, kh_nok]
    constructor
    · rintro (q | ⟨j, hj, e⟩)
      · exact Or.inl q
      · exact Or.inr ⟨j, by omega, e⟩
    · rintro (q | ⟨j, hj, e⟩)
      · exact Or.inl q
      · refine Or.inr ⟨j, ?_, e⟩
        rcases hend with z | z
        · omega
        · rcases Nat.lt_or_ge j (t - 1) with y | y
          · omega
          · have := kh_none hK.1 hTac z (j - (t - 1)) s (hst s hs)
            rw [show t - 1 + (j - (t - 1)) = j by omega] at this
            exact absurd e this
  -- the levels
  have levels : ∀ t : Nat, t ≤ 200 → 1 ≤ t → ∀ (N : mm_M) (l5 l6 : mm_V) (f : Int), f = 0 ∨ f = 1 → (f = 0 → 2 ≤ t ∧ ∀ s, ks_st (M 4) s → ¬ kh_E (M 4) (kc_T M) L h s (t - 1)) → mm_Rf N → mm_ag M N → (∀ a, a ≠ 141 → a ≠ 142 → a ≠ 143 → N a = M a) → (∀ j : Nat, j < 288 → N 143 j = 0 ∨ N 143 j = 1) →
      (∀ s : Nat, (s : Int) < ks_n (M 4) → (N 143 s = 1 ↔ M 143 s = 1 ∨ ∃ j, j < t ∧ kh_E (M 4) (kc_T M) L h s j)) →
      (∀ s : Nat, (s : Int) < ks_n (M 4) → kh_tk (M 4) (kc_T M) L h s t (N 142 s)) →
      (∀ s : Nat, (s : Int) < ks_n (M 4) → N 141 s = if kh_fate (M 4) (kc_T M) L h s = 0 then kh_nx (M 4) (kc_T M) L h s else -1) →
      mm_J X Y_X2_markLost 243 243 243 151 [(2, 140), (0, h), (0, mm_b P), (0, f), (0, (t : Int)), l5, l6] [] N Φ := by
    refine mm_lp ?_
    intro t ht ih ht1 N l5 l6 f hf hf0 hRN hG hfr hzz hlost htk hgo
    by_cases hlt : t < 200 ∧ f = 1
    · -- one level
      have sweep : ∀ i : Nat, i ≤ (ks_n (M 4)).toNat → ∀ (N : mm_M) (l6 : mm_V) (g : Int), g = 0 ∨ g = 1 → (g = 0 → ∀ s : Nat, s < i → ¬ kh_E (M 4) (kc_T M) L h s t) → mm_Rf N → mm_ag M N → (∀ a, a ≠ 141 → a ≠ 142 → a ≠ 143 → N a = M a) → (∀ j : Nat, j < 288 → N 143 j = 0 ∨ N 143 j = 1) →
          (∀ s : Nat, (s : Int) < ks_n (M 4) → (N 143 s = 1 ↔ M 143 s = 1 ∨ ∃ j, j < (if s < i then t + 1 else t) ∧ kh_E (M 4) (kc_T M) L h s j)) →
          (∀ s : Nat, (s : Int) < ks_n (M 4) → kh_tk (M 4) (kc_T M) L h s (if s < i then t + 1 else t) (N 142 s)) →
          (∀ s : Nat, (s : Int) < ks_n (M 4) → N 141 s = if kh_fate (M 4) (kc_T M) L h s = 0 then kh_nx (M 4) (kc_T M) L h s else -1) →
          mm_J X Y_X2_markLost 243 243 243 168 [(2, 140), (0, h), (0, mm_b P), (0, g), (0, (t : Int)), (0, (i : Int)), l6] [] N Φ := by
        refine mm_lp ?_
        intro i hi ih2 N l6 g hg hg0 hRN hG hfr hzz hlost htk hgo
        have f3 : N 3 2 = ks_n (M 4) := by rw [hG 3 (by decide) (by decide)]; exact est
        by_cases hil : i < (ks_n (M 4)).toNat
        · have hin : (i : Int) < ks_n (M 4) := by omega
          have hgi := hgo i hin
          have hti := htk i hin
          rw [if_neg (Nat.lt_irrefl i)] at hti
          have htb := kh_tkb hti
          have hnx := hnxs i (hst i hin)
          have hnx1 := hnx.1
          have hnx2 := hnx.2
          obtain ⟨gn, hgn⟩ : ∃ gn : Nat, gn = (kh_nx (M 4) (kc_T M) L h (i : Int)).toNat := ⟨_, rfl⟩
          have hgn2 : (gn : Int) = kh_nx (M 4) (kc_T M) L h (i : Int) := by omega
          have htg := htk gn (by omega)
          have htgb := kh_tkb htg
          have htgb2 : -1 ≤ N 142 gn ∧ N 142 gn ≤ 201 := by
            refine ⟨htgb.1, ?_⟩
            have := htgb.2
            split at this <;> omega
          have htg2 : N 142 gn = ((t - 1 : Nat) : Int) ↔ kh_E (M 4) (kc_T M) L h gn (t - 1) := kh_tk_at htg (by split <;> omega)
          have hEs : kh_E (M 4) (kc_T M) L h (i : Int) t ↔ kh_fate (M 4) (kc_T M) L h (i : Int) = 0 ∧ kh_E (M 4) (kc_T M) L h gn (t - 1) := by
            have := kh_Es (K := M 4) (T := kc_T M) (L := L) (h := h) (s := (i : Int)) (i := t - 1)
            rw [show t - 1 + 1 = t by omega, ← hgn2] at this
            exact this
          -- nothing new at i
          have skip : ¬ kh_E (M 4) (kc_T M) L h (i : Int) t → mm_J X Y_X2_markLost 243 243 243 240 [(2, 140), (0, h), (0, mm_b P), (0, g), (0, (t : Int)), (0, (i : Int)), l6] [] N Φ := by
            intro hne
            refine mm_iinc dX2_markLost_240 rfl rfl (Nat.le_of_ble_eq_true rfl) rfl ?_
            refine mm_goto dX2_markLost_243 ?_
            refine ih2 hil N _ g hg ?_ hRN hG hfr hzz ?_ ?_ hgo
            · intro g0 s hs
              by_cases q : s = i
              · rw [q]; exact hne
              · exact hg0 g0 s (by omega)
            · intro s hs
              rw [hlost s hs]
              by_cases q : s = i
              · rw [q, if_neg (Nat.lt_irrefl i), if_pos (Nat.lt_succ_self i)]
                constructor
                · rintro (z | ⟨j, hj, e⟩)
                  · exact Or.inl z
                  · exact Or.inr ⟨j, by omega, e⟩
                · rintro (z | ⟨j, hj, e⟩)
                  · exact Or.inl z
                  · refine Or.inr ⟨j, ?_, e⟩
                    by_cases y : j = t
                    · rw [y] at e; exact absurd e hne
                    · omega
              · by_cases q2 : s < i
                · rw [if_pos q2, if_pos (by omega)]
                · rw [if_neg q2, if_neg (by omega)]
            · intro s hs
              have := htk s hs
              by_cases q : s = i
              · rw [q] at this ⊢
                rw [if_neg (Nat.lt_irrefl i)] at this
                rw [if_pos (Nat.lt_succ_self i)]
                exact kh_tk_up this hne
              · by_cases q2 : s < i
                · rw [if_pos q2] at this; rw [if_pos (by omega)]; exact this
                · rw [if_neg q2] at this; rw [if_neg (by omega)]; exact this
          have hgr : -1 ≤ (if kh_fate (M 4) (kc_T M) L h (i : Int) = 0 then kh_nx (M 4) (kc_T M) L h (i : Int) else -1) ∧ (if kh_fate (M 4) (kc_T M) L h (i : Int) = 0 then kh_nx (M 4) (kc_T M) L h (i : Int) else -1) < 288 := by split <;> omega
          refine mm_iload dX2_markLost_168 rfl rfl ?_
          refine mm_aload_n dX2_markLost_170 rfl rfl ?_
          refine mm_getr dX2_markLost_171 rfl fl_X2_27 (c := 139) rfl (by decide) rfl rfl (hRN.at (c := 139) (i := 0) (v := 4) rfl (by decide)) ?_
          refine mm_get (kd := 0) dX2_markLost_174 rfl fl_X2_99 (c := 3) rfl (by decide) rfl rfl ?_
          obtain ⟨v174, hv174⟩ : ∃ v, v = N 3 2 := ⟨_, rfl⟩
          rw [← hv174]
          rw [f3] at hv174
          subst hv174
          refine mm_icge dX2_markLost_177 (by omega) (by omega) (fun h177 => ?_) (fun h177 => ?_)
          · exfalso; omega
          · refine mm_aload_n dX2_markLost_180 rfl rfl ?_
            refine mm_getr dX2_markLost_181 rfl fl_X2_17 (c := 139) rfl (by decide) rfl rfl (hRN.at (c := 139) (i := 9) (v := 142) rfl (by decide)) ?_
            refine mm_iload dX2_markLost_184 rfl rfl ?_
            refine mm_ialk (k0 := i) dX2_markLost_186 rfl (c := 141) rfl (by decide) rfl (by omega) (by omega) ?_
            rw [hgi]
            refine mm_iconst dX2_markLost_187 rfl ?_
            refine mm_iceq dX2_markLost_188 (by omega) (by omega) (fun h188 => ?_) (fun h188 => ?_)
            · refine skip ?_
              rw [hEs]
              rintro ⟨z, -⟩
              rw [if_pos z] at h188
              omega
            · refine mm_aload_n dX2_markLost_191 rfl rfl ?_
              refine mm_getr dX2_markLost_192 rfl fl_X2_20 (c := 139) rfl (by decide) rfl rfl (hRN.at (c := 139) (i := 10) (v := 143) rfl (by decide)) ?_
              refine mm_iload dX2_markLost_195 rfl rfl ?_
              refine mm_ialk (k0 := i) dX2_markLost_197 rfl (c := 142) rfl (by decide) rfl (by omega) (by omega) ?_
              refine mm_iconst dX2_markLost_198 rfl ?_
              refine mm_icne dX2_markLost_199 (by omega) (by omega) (fun h199 => ?_) (fun h199 => ?_)
              · refine skip ?_
                intro z
                exact h199 ((kh_tk_none hti).mpr (fun j hj e => by have := kh_E_u e z; omega))
              · refine mm_aload_n dX2_markLost_202 rfl rfl ?_
                refine mm_getr dX2_markLost_203 rfl fl_X2_20 (c := 139) rfl (by decide) rfl rfl (hRN.at (c := 139) (i := 10) (v := 143) rfl (by decide)) ?_
                refine mm_aload_n dX2_markLost_206 rfl rfl ?_
                refine mm_getr dX2_markLost_207 rfl fl_X2_17 (c := 139) rfl (by decide) rfl rfl (hRN.at (c := 139) (i := 9) (v := 142) rfl (by decide)) ?_
                refine mm_iload dX2_markLost_210 rfl rfl ?_
                refine mm_ialk (k0 := i) dX2_markLost_212 rfl (c := 141) rfl (by decide) rfl (by omega) (by omega) ?_
                have hf9 : kh_fate (M 4) (kc_T M) L h (i : Int) = 0 := by
                  by_cases z : kh_fate (M 4) (kc_T M) L h (i : Int) = 0
                  · exact z
                  · rw [if_neg z] at h188; exact absurd rfl h188
                rw [hgi, if_pos hf9]
                refine mm_ialk (k0 := gn) dX2_markLost_213 rfl (c := 142) rfl (by decide) rfl (by omega) (by omega) ?_
                refine mm_iload dX2_markLost_214 rfl rfl ?_
                refine mm_iconst dX2_markLost_216 rfl ?_
                refine mm_isub dX2_markLost_217 rfl ?_
                refine mm_icne dX2_markLost_218 (by omega) (by omega) (fun h218 => ?_) (fun h218 => ?_)
                · refine skip ?_
                  rw [hEs]
                  rintro ⟨-, z⟩
                  exact h218 (by rw [htg2.mpr z]; omega)
                · refine mm_aload_n dX2_markLost_221 rfl rfl ?_
                  refine mm_getr dX2_markLost_222 rfl fl_X2_20 (c := 139) rfl (by decide) rfl rfl (hRN.at (c := 139) (i := 10) (v := 143) rfl (by decide)) ?_
                  refine mm_iload dX2_markLost_225 rfl rfl ?_
                  refine mm_iload dX2_markLost_227 rfl rfl ?_
                  refine mm_istk (k0 := i) dX2_markLost_229 rfl (c := 142) rfl (by decide) rfl (by omega) (by omega) (fun M229 hM229 => ?_)
                  have hR229 : mm_Rf M229 := by rw [hM229]; exact hRN.up (mm_rt_ar (t := 0) rfl (by decide))
                  have hG229 : mm_ag M M229 := by rw [hM229]; exact hG.up (by decide)
                  refine mm_aload_n dX2_markLost_230 rfl rfl ?_
                  refine mm_getr dX2_markLost_231 rfl fl_X2_23 (c := 139) rfl (by decide) rfl rfl (hR229.at (c := 139) (i := 11) (v := 144) rfl (by decide)) ?_
                  refine mm_iload dX2_markLost_234 rfl rfl ?_
                  refine mm_iconst dX2_markLost_236 rfl ?_
                  refine mm_zstk (k0 := i) dX2_markLost_237 rfl (c := 143) rfl (by decide) rfl (by omega) (by omega) (Or.inr rfl) (fun M237 hM237 => ?_)
                  have hR237 : mm_Rf M237 := by rw [hM237]; exact hR229.up (mm_rt_ar (t := 2) rfl (by decide))
                  have hG237 : mm_ag M M237 := by rw [hM237]; exact hG229.up (by decide)
                  refine mm_iconst dX2_markLost_238 rfl ?_
                  refine mm_istore_n dX2_markLost_239 rfl (Nat.le_of_ble_eq_true rfl) rfl ?_
                  refine mm_iinc dX2_markLost_240 rfl rfl (Nat.le_of_ble_eq_true rfl) rfl ?_
                  refine mm_goto dX2_markLost_243 ?_
                  have hE : kh_E (M 4) (kc_T M) L h (i : Int) t := hEs.mpr ⟨hf9, htg2.mp (by omega)⟩
                  refine ih2 hil _ _ 1 (Or.inr rfl) (fun z => absurd z (by decide)) hR237 hG237 ?_ ?_ ?_ ?_ ?_
                  · intro a h1 h2 h3; funext b; simp [hM237, hM229, mm_up, h2, h3]; rw [hfr a h1 h2 h3]
                  · intro j hj
                    by_cases q : j = i
                    · simp [hM237, hM229, mm_up, q]
                    · simp [hM237, hM229, mm_up, q]; exact hzz j hj
                  · intro s hs
                    by_cases q : s = i
                    · rw [q, if_pos (Nat.lt_succ_self i)]
                      simp [hM237, hM229, mm_up]
                      exact Or.inr ⟨t, by omega, hE⟩
                    · simp [hM237, hM229, mm_up, q]
                      rw [hlost s hs]
                      by_cases q2 : s < i
                      · rw [if_pos q2, if_pos (by omega)]
                      · rw [if_neg q2, if_neg (by omega)]
                  · intro s hs
                    by_cases q : s = i
                    · rw [q, if_pos (Nat.lt_succ_self i)]
                      simp [hM237, hM229, mm_up]
                      exact Or.inl ⟨t, by omega, hE, rfl⟩
                    · simp [hM237, hM229, mm_up, q]
                      have := htk s hs
                      by_cases q2 : s < i
                      · rw [if_pos q2] at this; rw [if_pos (by omega)]; exact this
                      · rw [if_neg q2] at this; rw [if_neg (by omega)]; exact this
                  · intro s hs; simp [hM237, hM229, mm_up]; exact hgo s hs
        · refine mm_iload dX2_markLost_168 rfl rfl ?_
          refine mm_aload_n dX2_markLost_170 rfl rfl ?_
          refine mm_getr dX2_markLost_171 rfl fl_X2_27 (c := 139) rfl (by decide) rfl rfl (hRN.at (c := 139) (i := 0) (v := 4) rfl (by decide)) ?_
          refine mm_get (kd := 0) dX2_markLost_174 rfl fl_X2_99 (c := 3) rfl (by decide) rfl rfl ?_
          obtain ⟨v174, hv174⟩ : ∃ v, v = N 3 2 := ⟨_, rfl⟩
          rw [← hv174]
          rw [f3] at hv174
          subst hv174
          refine mm_icge dX2_markLost_177 (by omega) (by omega) (fun h177 => ?_) (fun h177 => ?_)
          · refine mm_iinc dX2_markLost_246 rfl rfl (Nat.le_of_ble_eq_true rfl) rfl ?_
            refine mm_goto dX2_markLost_249 ?_
            refine ih hlt.1 (by omega) N _ _ g hg ?_ hRN hG hfr hzz ?_ ?_ hgo
            · intro g0
              refine ⟨by omega, fun s hs => ?_⟩
              have := hg0 g0 s.toNat (by have := hs.1; have := hs.2; omega)
              rw [Int.toNat_of_nonneg hs.1] at this
              exact this
            · intro s hs
              have := hlost s hs
              rw [if_pos (by omega)] at this
              exact this
            · intro s hs
              have := htk s hs
              rw [if_pos (by omega)] at this
              exact this
          · exfalso; omega
      have hlt2 := hlt.2
      refine mm_iload dX2_markLost_151 rfl rfl ?_
      refine mm_sipush dX2_markLost_153 rfl (by decide) ?_
      refine mm_icge dX2_markLost_156 (by omega) (by omega) (fun h156 => ?_) (fun h156 => ?_)
      · exfalso; omega
      · refine mm_iload_n dX2_markLost_159 rfl rfl ?_
        refine mm_ifeq dX2_markLost_160 (by omega) (fun h160 => ?_) (fun h160 => ?_)
        · exfalso; omega
        · refine mm_iconst dX2_markLost_163 rfl ?_
          refine mm_istore_n dX2_markLost_164 rfl (Nat.le_of_ble_eq_true rfl) rfl ?_
          refine mm_iconst dX2_markLost_165 rfl ?_
          refine mm_istore dX2_markLost_166 rfl (Nat.le_of_ble_eq_true rfl) rfl ?_
          refine sweep 0 (Nat.zero_le _) N _ 0 (Or.inl rfl) (fun _ s hs => absurd hs (Nat.not_lt_zero s)) hRN hG hfr hzz ?_ ?_ hgo
          · intro s hs; rw [if_neg (Nat.not_lt_zero s)]; exact hlost s hs
          · intro s hs; rw [if_neg (Nat.not_lt_zero s)]; exact htk s hs
    · refine mm_iload dX2_markLost_151 rfl rfl ?_
      refine mm_sipush dX2_markLost_153 rfl (by decide) ?_
      refine mm_icge dX2_markLost_156 (by omega) (by omega) (fun h156 => ?_) (fun h156 => ?_)
      · first
        | exact fin N t _ _ _ _ ht hRN hG hfr hzz hlost (Or.inl (by omega)) ht1
        | exact fin N t _ _ _ _ ht hRN hG hfr hzz hlost (Or.inr (hf0 (by omega)).2) ht1
      · refine mm_iload_n dX2_markLost_159 rfl rfl ?_
        refine mm_ifeq dX2_markLost_160 (by omega) (fun h160 => ?_) (fun h160 => ?_)
        · first
          | exact fin N t _ _ _ _ ht hRN hG hfr hzz hlost (Or.inl (by omega)) ht1
          | exact fin N t _ _ _ _ ht hRN hG hfr hzz hlost (Or.inr (hf0 (by omega)).2) ht1
        · exfalso; omega
  have first : ∀ i : Nat, i ≤ (ks_n (M 4)).toNat → ∀ (N : mm_M) (l4 l5 l6 : mm_V), mm_Rf N → mm_ag M N → (∀ a, a ≠ 141 → a ≠ 142 → a ≠ 143 → N a = M a) → (∀ j : Nat, i ≤ j → N 143 j = M 143 j) → (∀ j : Nat, j < 288 → N 143 j = 0 ∨ N 143 j = 1) →
      (∀ s : Nat, s < i → (N 143 s = 1 ↔ M 143 s = 1 ∨ kh_fate (M 4) (kc_T M) L h s ≠ 0)) →
      (∀ s : Nat, s < i → N 142 s = if kh_fate (M 4) (kc_T M) L h s = 0 then -1 else 0) →
      (∀ s : Nat, s < i → N 141 s = if kh_fate (M 4) (kc_T M) L h s = 0 then kh_nx (M 4) (kc_T M) L h s else -1) →
      mm_J X Y_X2_markLost 243 243 243 2 [(2, 140), (0, h), (0, mm_b P), (0, (i : Int)), l4, l5, l6] [] N Φ := by
    refine mm_lp ?_
    intro i hi ih N l4 l5 l6 hRN hG hfr hsame hzz hlost htk hgo
    have f3 : N 3 2 = ks_n (M 4) := by rw [hG 3 (by decide) (by decide)]; exact est
    by_cases hil : i < (ks_n (M 4)).toNat
    · have hin : (i : Int) < ks_n (M 4) := by omega
      have hsi := hst i hin
      have hwi := hwb i hsi
      have hai := ks_in_ac (s := (i : Int)) (hTac (i : Int) (ks_wi L (M 4) (i : Int) h))
      have hcan := ks_in_can (K := M 4) (s := (i : Int)) (hTac (i : Int) (ks_wi L (M 4) (i : Int) h)).1
      have hpi := ks_pw hK.1 (s := (i : Int)) hai hwi
      have hfb := ks_fateb (K := M 4) (p := ks_p (M 4) (i : Int) (ks_in (M 4) (i : Int) (kc_T M (i : Int) (ks_wi L (M 4) (i : Int) h))) (ks_wi L (M 4) (i : Int) h))
      have efa : ks_fate (M 4) (ks_p (M 4) (i : Int) (ks_in (M 4) (i : Int) (kc_T M (i : Int) (ks_wi L (M 4) (i : Int) h))) (ks_wi L (M 4) (i : Int) h)) = kh_fate (M 4) (kc_T M) L h (i : Int) := rfl
      have enx : ks_to (M 4) (i : Int) (ks_in (M 4) (i : Int) (kc_T M (i : Int) (ks_wi L (M 4) (i : Int) h))) = kh_nx (M 4) (kc_T M) L h (i : Int) := rfl
      have eW : (if P then ks_wi (M 17) (M 4) (i : Int) h else ks_wi (M 16) (M 4) (i : Int) h) = ks_wi L (M 4) (i : Int) h := by
        rw [hL]
        split <;> rfl
      have hzi := hzz i (by omega)
      have hmi : N 143 i = M 143 i := hsame i (Nat.le_refl _)
      have cG := g_X4_goal (X := X) hRN hG hK hsi hai
      rw [if_pos hcan, enx] at cG
      clear hcan
      have nx : ∀ (N1 : mm_M) (l4 l5 : mm_V), mm_Rf N1 → mm_ag M N1 → (∀ a, a ≠ 141 → N1 a = N a) → (∀ s : Nat, s ≠ i → N1 141 s = N 141 s) → (N1 141 i = if kh_fate (M 4) (kc_T M) L h (i : Int) = 0 then kh_nx (M 4) (kc_T M) L h (i : Int) else -1) →
          mm_J X Y_X2_markLost 243 243 243 99 [(2, 140), (0, h), (0, mm_b P), (0, (i : Int)), l4, l5, (0, mm_b (kh_fate (M 4) (kc_T M) L h (i : Int) ≠ 0))] [] N1 Φ := by
        intro N1 l4 l5 hR1 hG1 h1 h2 h3
        have f143 : N1 143 = N 143 := h1 143 (by decide)
        have nx2 : ∀ (N2 : mm_M) (z : Int), mm_Rf N2 → mm_ag M N2 → (∀ a, a ≠ 142 → N2 a = N1 a) → (∀ s : Nat, s ≠ i → N2 142 s = N1 142 s) → (N2 142 i = if kh_fate (M 4) (kc_T M) L h (i : Int) = 0 then -1 else 0) → (z = 0 ∨ z = 1) → (z = 1 ↔ M 143 i = 1 ∨ kh_fate (M 4) (kc_T M) L h (i : Int) ≠ 0) →
            mm_J X Y_X2_markLost 243 243 243 139 [(2, 140), (0, h), (0, mm_b P), (0, (i : Int)), l4, l5, (0, mm_b (kh_fate (M 4) (kc_T M) L h (i : Int) ≠ 0))] [(0, z), (0, (i : Int)), (2, 144)] N2 Φ := by
          intro N2 z hR2 hG2 k1 k2 k3 hz1 hz2
          refine mm_zstk (k0 := i) dX2_markLost_139 rfl (c := 143) rfl (by decide) rfl (by omega) (by omega) hz1 (fun M139 hM139 => ?_)
          have hR139 : mm_Rf M139 := by rw [hM139]; exact hR2.up (mm_rt_ar (t := 2) rfl (by decide))
          have hG139 : mm_ag M M139 := by rw [hM139]; exact hG2.up (by decide)
          refine mm_iinc dX2_markLost_140 rfl rfl (Nat.le_of_ble_eq_true rfl) rfl ?_
          refine mm_goto dX2_markLost_143 ?_
          have q143 : ∀ j, j ≠ i → M139 143 j = N 143 j := by intro j hj; simp [hM139, mm_up, hj]; rw [k1 143 (by decide), f143]
          refine ih hil _ _ _ _ hR139 hG139 ?_ ?_ ?_ ?_ ?_ ?_
          · intro a a1 a2 a3; rw [hM139, mm_up_row a3, k1 a a2, h1 a a1]; exact hfr a a1 a2 a3
          · intro j hj; rw [q143 j (by omega)]; exact hsame j (by omega)
          · intro j hj
            by_cases q : j = i
            · rw [hM139, q, mm_up_s]; exact hz1
            · rw [q143 j q]; exact hzz j hj
          · intro s hs
            by_cases q : s = i
            · rw [hM139, q, mm_up_s]; exact hz2
            · rw [q143 s q]; exact hlost s (by omega)
          · intro s hs
            rw [hM139, mm_up_row (by decide)]
            by_cases q : s = i
            · rw [q]; exact k3
            · rw [k2 s q, h1 142 (by decide)]; exact htk s (by omega)
          · intro s hs
            rw [hM139, mm_up_row (by decide), k1 141 (by decide)]
            by_cases q : s = i
            · rw [q]; exact h3
            · rw [h2 s q]; exact hgo s (by omega)
        refine mm_aload_n dX2_markLost_99 rfl rfl ?_
        refine mm_getr dX2_markLost_100 rfl fl_X2_20 (c := 139) rfl (by decide) rfl rfl (hR1.at (c := 139) (i := 10) (v := 143) rfl (by decide)) ?_
        refine mm_iload_n dX2_markLost_103 rfl rfl ?_
        refine mm_iload dX2_markLost_104 rfl rfl ?_
        refine mm_ifeqb_d (q2 := 114) dX2_markLost_106 (fun k => mm_iconst dX2_markLost_113 rfl k) (fun k => mm_iconst dX2_markLost_109 rfl (mm_goto dX2_markLost_110 k)) ?_
        refine mm_istk (k0 := i) dX2_markLost_114 rfl (c := 142) rfl (by decide) rfl (by omega) (by omega) (fun M114 hM114 => ?_)
        have hR114 : mm_Rf M114 := by rw [hM114]; exact hR1.up (mm_rt_ar (t := 0) rfl (by decide))
        have hG114 : mm_ag M M114 := by rw [hM114]; exact hG1.up (by decide)
        refine mm_aload_n dX2_markLost_115 rfl rfl ?_
        refine mm_getr dX2_markLost_116 rfl fl_X2_23 (c := 139) rfl (by decide) rfl rfl (hR114.at (c := 139) (i := 11) (v := 144) rfl (by decide)) ?_
        refine mm_iload_n dX2_markLost_119 rfl rfl ?_
        refine mm_aload_n dX2_markLost_120 rfl rfl ?_
        refine mm_getr dX2_markLost_121 rfl fl_X2_23 (c := 139) rfl (by decide) rfl rfl (hR114.at (c := 139) (i := 11) (v := 144) rfl (by decide)) ?_
        refine mm_iload_n dX2_markLost_124 rfl rfl ?_
        refine mm_zalk (k0 := i) dX2_markLost_125 rfl (c := 143) rfl (by decide) rfl (by omega) (by omega) ?_
        rw [show M114 143 = N1 143 from by rw [hM114, mm_up_row (by decide)]]
        rw [f143]
        rw [hmi]
        refine mm_ifne dX2_markLost_126 (by omega) (fun h126 => ?_) (fun h126 => ?_)
        · refine mm_iconst dX2_markLost_134 rfl ?_
          refine mm_goto dX2_markLost_135 ?_
          refine nx2 _ _ hR114 hG114 ?_ ?_ ?_ (by decide) ?_
          · intro a ha; rw [hM114, mm_up_row ha]
          · intro s hs; rw [hM114, mm_up_i hs]
          · rw [hM114, mm_up_s]; split <;> (try split) <;> (first | rfl | (exfalso; omega))
          · first
            | exact ⟨fun _ => Or.inl (by omega), fun _ => rfl⟩
            | exact ⟨fun _ => Or.inr h131, fun _ => rfl⟩
            | exact ⟨fun q => absurd q (by decide), fun q => by omega⟩
        · refine mm_iload dX2_markLost_129 rfl rfl ?_
          refine mm_ifeqb dX2_markLost_131 (fun h131 => ?_) (fun h131 => ?_)
          · refine mm_iconst dX2_markLost_138 rfl ?_
            refine nx2 _ _ hR114 hG114 ?_ ?_ ?_ (by decide) ?_
            · intro a ha; rw [hM114, mm_up_row ha]
            · intro s hs; rw [hM114, mm_up_i hs]
            · rw [hM114, mm_up_s]; split <;> (try split) <;> (first | rfl | (exfalso; omega))
            · first
              | exact ⟨fun _ => Or.inl (by omega), fun _ => rfl⟩
              | exact ⟨fun _ => Or.inr h131, fun _ => rfl⟩
              | exact ⟨fun q => absurd q (by decide), fun q => by omega⟩
          · refine mm_iconst dX2_markLost_134 rfl ?_
            refine mm_goto dX2_markLost_135 ?_
            refine nx2 _ _ hR114 hG114 ?_ ?_ ?_ (by decide) ?_
            · intro a ha; rw [hM114, mm_up_row ha]
            · intro s hs; rw [hM114, mm_up_i hs]
            · rw [hM114, mm_up_s]; split <;> (try split) <;> (first | rfl | (exfalso; omega))
            · first
              | exact ⟨fun _ => Or.inl (by omega), fun _ => rfl⟩
              | exact ⟨fun _ => Or.inr h131, fun _ => rfl⟩
              | exact ⟨fun q => absurd q (by decide), fun q => by omega⟩
      refine mm_iload_n dX2_markLost_2 rfl rfl ?_
      refine mm_aload_n dX2_markLost_3 rfl rfl ?_
      refine mm_getr dX2_markLost_4 rfl fl_X2_27 (c := 139) rfl (by decide) rfl rfl (hRN.at (c := 139) (i := 0) (v := 4) rfl (by decide)) ?_
      refine mm_get (kd := 0) dX2_markLost_7 rfl fl_X2_99 (c := 3) rfl (by decide) rfl rfl ?_
      obtain ⟨v7, hv7⟩ : ∃ v, v = N 3 2 := ⟨_, rfl⟩
      rw [← hv7]
      rw [f3] at hv7
      subst hv7
      refine mm_icge dX2_markLost_10 (by omega) (by omega) (fun h10 => ?_) (fun h10 => ?_)
      · exfalso; omega
      · refine mm_aload_n dX2_markLost_13 rfl rfl ?_
        refine mm_getr dX2_markLost_14 rfl fl_X2_31 (c := 139) rfl (by decide) rfl rfl (hRN.at (c := 139) (i := 1) (v := 12) rfl (by decide)) ?_
        refine mm_iload_n dX2_markLost_17 rfl rfl ?_
        refine mm_iload_n dX2_markLost_18 rfl rfl ?_
        refine mm_iload_n dX2_markLost_19 rfl rfl ?_
        refine mm_V3i dX2_markLost_20 rfl lk_X2_62 (c := 11) rfl (by decide) rfl (by simp) (by simp) (by simp) rfl rfl rfl ((eW ▸ g_X0_windIn (P := P) hRN hG hK hsi hh)) ?_
        refine mm_istore dX2_markLost_23 rfl (Nat.le_of_ble_eq_true rfl) rfl ?_
        refine mm_aload_n dX2_markLost_25 rfl rfl ?_
        refine mm_getr dX2_markLost_26 rfl fl_X2_27 (c := 139) rfl (by decide) rfl rfl (hRN.at (c := 139) (i := 0) (v := 4) rfl (by decide)) ?_
        refine mm_iload_n dX2_markLost_29 rfl rfl ?_
        refine mm_aload_n dX2_markLost_30 rfl rfl ?_
        refine mm_getr dX2_markLost_31 rfl fl_X2_35 (c := 139) rfl (by decide) rfl rfl (hRN.at (c := 139) (i := 2) (v := 19) rfl (by decide)) ?_
        refine mm_iload_n dX2_markLost_34 rfl rfl ?_
        refine mm_iload dX2_markLost_35 rfl rfl ?_
        refine mm_V2i dX2_markLost_37 rfl lk_X2_70 (c := 18) rfl (by decide) rfl (by simp) (by simp) rfl rfl rfl (g_X9_actFor hRN hG hK hC hsi hwi) ?_
        refine mm_V2i dX2_markLost_40 rfl lk_X2_76 (c := 3) rfl (by decide) rfl (by simp) (by simp) rfl rfl rfl (g_X4_withinStates hRN hG hK hsi (hTac _ _)) ?_
        refine mm_istore dX2_markLost_43 rfl (Nat.le_of_ble_eq_true rfl) rfl ?_
        refine mm_aload_n dX2_markLost_45 rfl rfl ?_
        refine mm_getr dX2_markLost_46 rfl fl_X2_27 (c := 139) rfl (by decide) rfl rfl (hRN.at (c := 139) (i := 0) (v := 4) rfl (by decide)) ?_
        refine mm_aload_n dX2_markLost_49 rfl rfl ?_
        refine mm_getr dX2_markLost_50 rfl fl_X2_27 (c := 139) rfl (by decide) rfl rfl (hRN.at (c := 139) (i := 0) (v := 4) rfl (by decide)) ?_
        refine mm_iload_n dX2_markLost_53 rfl rfl ?_
        refine mm_iload dX2_markLost_54 rfl rfl ?_
        refine mm_iload dX2_markLost_56 rfl rfl ?_
        refine mm_V3i dX2_markLost_58 rfl lk_X2_79 (c := 3) rfl (by decide) rfl (by simp) (by simp) (by simp) rfl rfl rfl (g_X4_pullOf hRN hG hK hsi hai (by omega)) ?_
        refine mm_V1i dX2_markLost_61 rfl lk_X2_82 (c := 3) rfl (by decide) rfl (by simp) rfl rfl rfl (g_X4_fateOf hRN hG hK (by omega)) ?_
        rw [efa] at hfb ⊢
        refine mm_ifeq_z (q2 := 72) dX2_markLost_64 (by omega) (fun k => mm_iconst dX2_markLost_71 rfl k) (fun k => mm_iconst dX2_markLost_67 rfl (mm_goto dX2_markLost_68 k)) ?_
        refine mm_istore dX2_markLost_72 rfl (Nat.le_of_ble_eq_true rfl) rfl ?_
        refine mm_aload_n dX2_markLost_74 rfl rfl ?_
        refine mm_getr dX2_markLost_75 rfl fl_X2_17 (c := 139) rfl (by decide) rfl rfl (hRN.at (c := 139) (i := 9) (v := 142) rfl (by decide)) ?_
        refine mm_iload_n dX2_markLost_78 rfl rfl ?_
        refine mm_iload dX2_markLost_79 rfl rfl ?_
        refine mm_ifeqb dX2_markLost_81 (fun h81 => ?_) (fun h81 => ?_)
        · refine mm_aload_n dX2_markLost_88 rfl rfl ?_
          refine mm_getr dX2_markLost_89 rfl fl_X2_27 (c := 139) rfl (by decide) rfl rfl (hRN.at (c := 139) (i := 0) (v := 4) rfl (by decide)) ?_
          refine mm_iload_n dX2_markLost_92 rfl rfl ?_
          refine mm_iload dX2_markLost_93 rfl rfl ?_
          refine mm_V2i dX2_markLost_95 rfl lk_X2_92 (c := 3) rfl (by decide) rfl (by simp) (by simp) rfl rfl rfl (cG) ?_
          refine mm_istk (k0 := i) dX2_markLost_98 rfl (c := 141) rfl (by decide) rfl (by omega) (by omega) (fun M98 hM98 => ?_)
          have hR98 : mm_Rf M98 := by rw [hM98]; exact hRN.up (mm_rt_ar (t := 0) rfl (by decide))
          have hG98 : mm_ag M M98 := by rw [hM98]; exact hG.up (by decide)
          refine nx _ _ _ hR98 hG98 ?_ ?_ ?_
          · intro a ha; rw [hM98, mm_up_row ha]
          · intro s hs; rw [hM98, mm_up_i hs]
          · rw [hM98, mm_up_s]
            first
            | (rw [if_neg h81]; done)
            | (rw [if_pos (by omega)]; done)
        · refine mm_iconst dX2_markLost_84 rfl ?_
          refine mm_goto dX2_markLost_85 ?_
          refine mm_istk (k0 := i) dX2_markLost_98 rfl (c := 141) rfl (by decide) rfl (by omega) (by omega) (fun M98 hM98 => ?_)
          have hR98 : mm_Rf M98 := by rw [hM98]; exact hRN.up (mm_rt_ar (t := 0) rfl (by decide))
          have hG98 : mm_ag M M98 := by rw [hM98]; exact hG.up (by decide)
          refine nx _ _ _ hR98 hG98 ?_ ?_ ?_
          · intro a ha; rw [hM98, mm_up_row ha]
          · intro s hs; rw [hM98, mm_up_i hs]
          · rw [hM98, mm_up_s]
            first
            | (rw [if_neg h81]; done)
            | (rw [if_pos (by omega)]; done)
    · refine mm_iload_n dX2_markLost_2 rfl rfl ?_
      refine mm_aload_n dX2_markLost_3 rfl rfl ?_
      refine mm_getr dX2_markLost_4 rfl fl_X2_27 (c := 139) rfl (by decide) rfl rfl (hRN.at (c := 139) (i := 0) (v := 4) rfl (by decide)) ?_
      refine mm_get (kd := 0) dX2_markLost_7 rfl fl_X2_99 (c := 3) rfl (by decide) rfl rfl ?_
      obtain ⟨v7, hv7⟩ : ∃ v, v = N 3 2 := ⟨_, rfl⟩
      rw [← hv7]
      rw [f3] at hv7
      subst hv7
      refine mm_icge dX2_markLost_10 (by omega) (by omega) (fun h10 => ?_) (fun h10 => ?_)
      · refine mm_iconst dX2_markLost_146 rfl ?_
        refine mm_istore_n dX2_markLost_147 rfl (Nat.le_of_ble_eq_true rfl) rfl ?_
        refine mm_iconst dX2_markLost_148 rfl ?_
        refine mm_istore dX2_markLost_149 rfl (Nat.le_of_ble_eq_true rfl) rfl ?_
        refine levels 1 (by decide) (Nat.le_refl _) N _ _ 1 (Or.inr rfl) (fun z => absurd z (by decide)) hRN hG hfr hzz ?_ ?_ ?_
        · intro s hs
          rw [hlost s (by omega), ← kh_E0]
          constructor
          · rintro (z | z)
            · exact Or.inl z
            · exact Or.inr ⟨0, by decide, z⟩
          · rintro (z | ⟨j, hj, z⟩)
            · exact Or.inl z
            · rw [show j = 0 by omega] at z; exact Or.inr z
        · intro s hs
          rw [htk s (by omega)]
          by_cases z : kh_fate (M 4) (kc_T M) L h s = 0
          · rw [if_pos z]
            refine Or.inr ⟨fun j hj => ?_, rfl⟩
            rw [show j = 0 by omega, kh_E0]
            exact fun y => y z
          · rw [if_neg z]
            exact Or.inl ⟨0, by decide, kh_E0.mpr z, rfl⟩
        · intro s hs; exact hgo s (by omega)
      · exfalso; omega
  refine mm_iconst dX2_markLost_0 rfl ?_
  refine mm_istore_n dX2_markLost_1 rfl (Nat.le_of_ble_eq_true rfl) rfl ?_
  exact first 0 (Nat.zero_le _) M _ _ _ hR hG0 (fun _ _ _ _ => rfl) (fun _ _ => rfl) hz (fun s hs => absurd hs (Nat.not_lt_zero s)) (fun s hs => absurd hs (Nat.not_lt_zero s)) (fun s hs => absurd hs (Nat.not_lt_zero s))
end

