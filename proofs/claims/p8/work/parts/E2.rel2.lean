/-! ===== the field of both; the whole relation; two calls side by side ===== -/
theorem mm_CF_cg {M N : mm_M} {f g : Nat → Nat → Prop} (h : mm_CF M f) (e : ∀ a b, (a = 144 ∧ b = 1) ∨ a = 147 ∨ (148 ≤ a ∧ a ≤ 171) → N a b = M a b) (hfg : ∀ i j : Nat, (i : Int) < M 144 1 → (j : Int) < M 144 1 → (f i j ↔ g i j)) : mm_CF N g := by
  obtain ⟨h1, h2⟩ := h
  have e1 := e 144 1 (by omega)
  refine ⟨by rw [e1]; exact h1, ?_⟩
  intro i hi
  rw [e1] at hi
  obtain ⟨q1, b, q2, q3, q4⟩ := h2 i hi
  have hi8 : i < 8 := by omega
  rw [e (148 + 3 * i) 3 (by omega)]
  refine ⟨q1, b, by rw [e 147 i (by omega)]; exact q2, q3, ?_⟩
  intro j
  rw [q4 j, e1]
  constructor
  · rintro ⟨u1, u2 | u2⟩
    · exact ⟨u1, Or.inl ⟨u2.1, (hfg i j hi u1).mp u2.2⟩⟩
    · exact ⟨u1, Or.inr ⟨u2.1, (hfg j i u1 hi).mp u2.2⟩⟩
  · rintro ⟨u1, u2 | u2⟩
    · exact ⟨u1, Or.inl ⟨u2.1, (hfg i j hi u1).mpr u2.2⟩⟩
    · exact ⟨u1, Or.inr ⟨u2.1, (hfg j i u1 hi).mpr u2.2⟩⟩
/-- the field -/
def kR13 (M : mm_M) : Prop := mm_CF M (kd_mC M) ∧ mm_CFr M ∧ mm_RF M (kd_mR M) ∧ M 183 88 = M 144 1 ∧ M 183 89 = M 144 2 ∧
  ∀ i : Nat, (i : Int) < M 144 1 → M 228 i = M 146 i ∧ M 216 (6 + i) = M (148 + 3 * i) 2 ∧ M 218 (6 + i) = M (148 + 3 * i) 3 ∧ ∀ k : Nat, (k : Int) < M (148 + 3 * i) 2 → M (148 + 3 * i + 2) k = kl_S M (6 + i) k
abbrev kS13 (a b : Nat) : Prop := (a = 144 ∧ 1 ≤ b ∧ b ≤ 2) ∨ a = 146 ∨ a = 147 ∨ (148 ≤ a ∧ a ≤ 171) ∨ (a = 183 ∧ 88 ≤ b ∧ b ≤ 89) ∨ (216 ≤ a ∧ a ≤ 218 ∧ 6 ≤ b) ∨ (a = 219 ∧ 600 ≤ b) ∨ a = 228 ∨ a = 229 ∨ kS3 a b
theorem kR13.fr {M N : mm_M} (h : kR13 M) (e : ∀ a b, kS13 a b → N a b = M a b) : kR13 N := by
  obtain ⟨h1, h2, h3, h4, h5, h6⟩ := h
  have rk : mm_rk N = mm_rk M := mm_rk.fr (fun a b q => e a b (by omega))
  have r : ∀ a, (a = 4 ∨ a = 146 ∨ a = 147 ∨ (148 ≤ a ∧ a ≤ 171) ∨ a = 228 ∨ a = 229) → N a = M a := fun a ha => funext fun b => e a b (by omega)
  have e1 := e 144 1 (by omega)
  have hc := h1.1
  have hS : ∀ i k, kl_S N (6 + i) k = kl_S M (6 + i) k := by
    intro i k
    unfold kl_S
    rw [rk, e 217 (6 + i) (by omega)]
    exact kf_run_cg (fun j hj => e 219 _ (by omega))
  have hSf : ∀ i, kl_S N (6 + i) = kl_S M (6 + i) := fun i => funext (hS i)
  refine ⟨?_, ?_, ?_, ?_, ?_, ?_⟩
  · refine mm_CF_cg h1 (fun a b q => e a b (by omega)) ?_
    intro i j hi hj
    unfold kd_mC
    rw [r 4 (by omega), r 146 (by omega), r (148 + 3 * i) (by omega), r (148 + 3 * i + 2) (by omega), r (148 + 3 * j) (by omega), r (148 + 3 * j + 2) (by omega)]
  · intro i hi
    rw [e1] at hi
    have := h2 i hi
    rw [r 4 (by omega), r 146 (by omega), r (148 + 3 * i) (by omega), r (148 + 3 * i + 2) (by omega)]
    exact this
  · obtain ⟨g1, g2, g3⟩ := h3
    have e2 := e 183 88 (by omega)
    refine ⟨by rw [e2]; exact g1, ?_, ?_⟩
    · intro i hi
      rw [e2] at hi
      obtain ⟨⟨⟨k1, k2, k3, k4⟩, k5⟩, k6, k7⟩ := g2 i hi
      rw [e 216 (6 + i) (by omega), e 218 (6 + i) (by omega), r 228 (by omega)]
      refine ⟨⟨⟨by rw [e 216 (6 + i) (by omega)]; exact k1, by rw [e 217 (6 + i) (by omega)]; exact k2, ?_, ?_⟩, k5⟩, k6, k7⟩
      · intro j hj
        rw [e 216 (6 + i) (by omega)] at hj
        rw [e 219 _ (by omega)]; exact k3 j hj
      · intro j hj
        rw [e 216 (6 + i) (by omega)] at hj
        rw [hS, rk]; exact k4 j hj
    · intro i j hij hj
      rw [e2] at hj
      have := g3 i j hij hj
      rw [r 229 (by omega)]
      refine ⟨this.1, this.2.trans ?_⟩
      unfold kd_mR
      rw [hSf, hSf, rk, e 216 (6 + i) (by omega), e 216 (6 + j) (by omega), r 228 (by omega)]
  · rw [e 183 88 (by omega), e1]; exact h4
  · rw [e 183 89 (by omega), e 144 2 (by omega)]; exact h5
  · intro i hi
    rw [e1] at hi
    obtain ⟨q1, q2, q3, q4⟩ := h6 i hi
    rw [r 228 (by omega), r 146 (by omega), e 216 (6 + i) (by omega), e 218 (6 + i) (by omega), r (148 + 3 * i) (by omega), r (148 + 3 * i + 2) (by omega), hSf]
    exact ⟨q1, q2, q3, q4⟩
/-- the class and the reference agree -/
def kR (M : mm_M) : Prop := mm_Rf M ∧ kR1 M ∧ kR2 M ∧ kR3 M ∧ kR4 M ∧ kR5 M ∧ kR6 M ∧ kR7 M ∧ kR8 M ∧ kR9 M ∧ kR10 M ∧ kR11 M ∧ kR12 M ∧ kR13 M ∧ kR14 M ∧ kR15 M ∧ kR16 M
section
variable {X : mm_X} {Y Y1 Y2 : mm_Y} {n0 n1 n pc q t : Nat} {ls st as : List mm_V} {M M1 M2 : mm_M} {Φ Φ' : mm_V → mm_M → Prop} {v w : Int}
theorem mm_J.mono (h : mm_J X Y n0 n1 n pc ls st M Φ) (hΦ : ∀ r M, Φ r M → Φ' r M) : mm_J X Y n0 n1 n pc ls st M Φ' := by
  intro p l e R s m args below meth c D cA bs ro H locs lsr C hP hS hL
  refine mm_mono (h p l e R s m args below meth c D cA bs ro H locs lsr C hP hS hL) ?_
  rintro t ⟨o, r, M', L, k1, k2, k3, k4, k5⟩
  exact ⟨o, r, M', L, k1, k2, k3, hΦ r M' k4, k5⟩
theorem mm_C.mono (h : mm_C X Y n0 n1 as M Φ) (hΦ : ∀ r M, Φ r M → Φ' r M) : mm_C X Y n0 n1 as M Φ' := mm_J.mono h hΦ
/-- two equal numbers -/
theorem mm_iceqs (hd : mm_Bi Y.2.1 pc q t .eq) (kt : mm_J X Y n0 n1 n t ls st M Φ) : mm_J X Y n0 n1 n pc ls ((0, v) :: (0, v) :: st) M Φ := by
  obtain ⟨hd, rfl⟩ := hd
  intro p l e R s m args below meth c D cA bs ro H locs lsr C hP hS hL
  exact lv_icmp_eq C.1 C.2.1 (tgt := t) hd (by omega) (fun _ => kt p l e R s m args below meth c D cA bs ro H locs lsr C hP hS hL) (fun hc => absurd rfl hc)
/-- the same call of the class and, behind it, of the reference: one answer, and they still agree -/
def kk (X : mm_X) (Y1 Y2 : mm_Y) (as : List mm_V) (M : mm_M) : Prop := mm_C X Y1 243 243 ((2, 1) :: as) M (fun r M1 => ∃ v : Int, r = (0, v) ∧ mm_C X Y2 243 243 ((2, 184) :: as) M1 (fun r2 M2 => r2 = (0, v) ∧ kR M2))
theorem kk_fn (h1 : mm_Fn X Y1 243 ((2, 1) :: as) M (0, v) M1) (h2 : mm_Fn X Y2 243 ((2, 184) :: as) M1 (0, w) M2) (hv : w = v) (hR : kR M2) : kk X Y1 Y2 as M := by
  refine mm_C.mono h1 ?_
  rintro r M' ⟨rfl, rfl⟩
  refine ⟨v, rfl, mm_C.mono h2 ?_⟩
  rintro r2 M'' ⟨rfl, rfl⟩
  exact ⟨by rw [hv], hR⟩
theorem kk_no (h1 : mm_Fn X Y1 243 ((2, 1) :: as) M (0, v) M) (h2 : mm_Fn X Y2 243 ((2, 184) :: as) M (0, w) M) (hv : w = v) (hR : kR M) : kk X Y1 Y2 as M := kk_fn h1 h2 hv hR
/-- the same, where the answers need not be one -/
def kkZ (X : mm_X) (Y1 Y2 : mm_Y) (as : List mm_V) (M : mm_M) : Prop := mm_C X Y1 243 243 ((2, 1) :: as) M (fun r M1 => ∃ v : Int, r = (0, v) ∧ mm_C X Y2 243 243 ((2, 184) :: as) M1 (fun r2 M2 => (∃ w : Int, r2 = (0, w) ∧ (kZ ∨ w = v)) ∧ kR M2))
theorem kkZ_no (h1 : mm_Fn X Y1 243 ((2, 1) :: as) M (0, v) M) (h2 : mm_Fn X Y2 243 ((2, 184) :: as) M (0, w) M) (hv : kZ ∨ w = v) (hR : kR M) : kkZ X Y1 Y2 as M := by
  refine mm_C.mono h1 ?_
  rintro r M' ⟨rfl, rfl⟩
  refine ⟨v, rfl, mm_C.mono h2 ?_⟩
  rintro r2 M'' ⟨rfl, rfl⟩
  exact ⟨⟨w, rfl, hv⟩, hR⟩
theorem kkZ.k (hz : ¬ kZ) (h : kkZ X Y1 Y2 as M) : kk X Y1 Y2 as M := by
  refine mm_C.mono h ?_
  rintro r M1 ⟨v, rfl, h2⟩
  refine ⟨v, rfl, mm_C.mono h2 ?_⟩
  rintro r2 M2 ⟨⟨w, rfl, hw⟩, hR⟩
  exact ⟨by rw [hw.resolve_left hz], hR⟩
theorem kk.z (h : kk X Y1 Y2 as M) : kkZ X Y1 Y2 as M := by
  refine mm_C.mono h ?_
  rintro r M1 ⟨v, rfl, h2⟩
  refine ⟨v, rfl, mm_C.mono h2 ?_⟩
  rintro r2 M2 ⟨rfl, hR⟩
  exact ⟨⟨v, rfl, Or.inr rfl⟩, hR⟩
end
def kF0 (X : mm_X) (Y1 Y2 : mm_Y) : Prop := ∀ M, kR M → kk X Y1 Y2 [] M
def kF1 (X : mm_X) (Y1 Y2 : mm_Y) : Prop := ∀ M, kR M → ∀ a : Int, mm_R a → kk X Y1 Y2 [(0, a)] M
def kF2 (X : mm_X) (Y1 Y2 : mm_Y) : Prop := ∀ M, kR M → ∀ a b : Int, mm_R a → mm_R b → kk X Y1 Y2 [(0, a), (0, b)] M
def kF3 (X : mm_X) (Y1 Y2 : mm_Y) : Prop := ∀ M, kR M → ∀ a b c : Int, mm_R a → mm_R b → mm_R c → kk X Y1 Y2 [(0, a), (0, b), (0, c)] M
def kF4 (X : mm_X) (Y1 Y2 : mm_Y) : Prop := ∀ M, kR M → ∀ a b c d : Int, mm_R a → mm_R b → mm_R c → mm_R d → kk X Y1 Y2 [(0, a), (0, b), (0, c), (0, d)] M
def kF5 (X : mm_X) (Y1 Y2 : mm_Y) : Prop := ∀ M, kR M → ∀ a b c d e : Int, mm_R a → mm_R b → mm_R c → mm_R d → mm_R e → kk X Y1 Y2 [(0, a), (0, b), (0, c), (0, d), (0, e)] M
def kF6 (X : mm_X) (Y1 Y2 : mm_Y) : Prop := ∀ M, kR M → ∀ a b c d e f : Int, mm_R a → mm_R b → mm_R c → mm_R d → mm_R e → mm_R f → kk X Y1 Y2 [(0, a), (0, b), (0, c), (0, d), (0, e), (0, f)] M
/-- the last argument is a boolean -/
def kFb (X : mm_X) (Y1 Y2 : mm_Y) : Prop := ∀ M, kR M → ∀ a b c d e : Int, mm_R a → mm_R b → mm_R c → mm_R d → kk X Y1 Y2 [(0, a), (0, b), (0, c), (0, d), (0, mm_b (e ≠ 0))] M
def kF1Z (X : mm_X) (Y1 Y2 : mm_Y) : Prop := ∀ M, kR M → ∀ a : Int, mm_R a → kkZ X Y1 Y2 [(0, a)] M
def kF6Z (X : mm_X) (Y1 Y2 : mm_Y) : Prop := ∀ M, kR M → ∀ a b c d e f : Int, mm_R a → mm_R b → mm_R c → mm_R d → mm_R e → mm_R f → kkZ X Y1 Y2 [(0, a), (0, b), (0, c), (0, d), (0, e), (0, f)] M
theorem kF1Z.k {X : mm_X} {Y1 Y2 : mm_Y} (hz : ¬ kZ) (h : kF1Z X Y1 Y2) : kF1 X Y1 Y2 := fun M hR a ha => (h M hR a ha).k hz
theorem kF6Z.k {X : mm_X} {Y1 Y2 : mm_Y} (hz : ¬ kZ) (h : kF6Z X Y1 Y2) : kF6 X Y1 Y2 := fun M hR a b c d e f h1 h2 h3 h4 h5 h6 => (h M hR a b c d e f h1 h2 h3 h4 h5 h6).k hz
/-- a call's row over one memory, by how many ints it takes -/
def kg0 (P : List mm_V → Prop) : Prop := P []
def kg1 (P : List mm_V → Prop) : Prop := ∀ a : Int, mm_R a → P [(0, a)]
def kg2 (P : List mm_V → Prop) : Prop := ∀ a b : Int, mm_R a → mm_R b → P [(0, a), (0, b)]
def kg3 (P : List mm_V → Prop) : Prop := ∀ a b c : Int, mm_R a → mm_R b → mm_R c → P [(0, a), (0, b), (0, c)]
def kg4 (P : List mm_V → Prop) : Prop := ∀ a b c d : Int, mm_R a → mm_R b → mm_R c → mm_R d → P [(0, a), (0, b), (0, c), (0, d)]
def kg5 (P : List mm_V → Prop) : Prop := ∀ a b c d e : Int, mm_R a → mm_R b → mm_R c → mm_R d → mm_R e → P [(0, a), (0, b), (0, c), (0, d), (0, e)]
def kg6 (P : List mm_V → Prop) : Prop := ∀ a b c d e f : Int, mm_R a → mm_R b → mm_R c → mm_R d → mm_R e → mm_R f → P [(0, a), (0, b), (0, c), (0, d), (0, e), (0, f)]
def kgb (P : List mm_V → Prop) : Prop := ∀ a b c d e : Int, mm_R a → mm_R b → mm_R c → mm_R d → P [(0, a), (0, b), (0, c), (0, d), (0, mm_b (e ≠ 0))]
theorem kg0.z {P Q : List mm_V → Prop} (h : kg0 P) (z : ∀ as, P as → Q as) : kg0 Q := z _ h
theorem kg1.z {P Q : List mm_V → Prop} (h : kg1 P) (z : ∀ as, P as → Q as) : kg1 Q := fun a h1 => z _ (h a h1)
theorem kg2.z {P Q : List mm_V → Prop} (h : kg2 P) (z : ∀ as, P as → Q as) : kg2 Q := fun a b h1 h2 => z _ (h a b h1 h2)
theorem kg3.z {P Q : List mm_V → Prop} (h : kg3 P) (z : ∀ as, P as → Q as) : kg3 Q := fun a b c h1 h2 h3 => z _ (h a b c h1 h2 h3)
theorem kg4.z {P Q : List mm_V → Prop} (h : kg4 P) (z : ∀ as, P as → Q as) : kg4 Q := fun a b c d h1 h2 h3 h4 => z _ (h a b c d h1 h2 h3 h4)
theorem kg5.z {P Q : List mm_V → Prop} (h : kg5 P) (z : ∀ as, P as → Q as) : kg5 Q := fun a b c d e h1 h2 h3 h4 h5 => z _ (h a b c d e h1 h2 h3 h4 h5)
theorem kg6.z {P Q : List mm_V → Prop} (h : kg6 P) (z : ∀ as, P as → Q as) : kg6 Q := fun a b c d e f h1 h2 h3 h4 h5 h6 => z _ (h a b c d e f h1 h2 h3 h4 h5 h6)
theorem kgb.z {P Q : List mm_V → Prop} (h : kgb P) (z : ∀ as, P as → Q as) : kgb Q := fun a b c d e h1 h2 h3 h4 => z _ (h a b c d e h1 h2 h3 h4)

