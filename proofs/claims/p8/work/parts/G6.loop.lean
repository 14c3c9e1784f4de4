/-! ===== the reference: findLoop ===== -/
theorem ks_to_15 (K : Nat → Int) (s : Int) (l : Int) (t : Nat) : ks_to K s (15 * l + t) = ks_to K s t := by
  unfold ks_to ks_mv ks_dr
  rw [show (15 * l + (t : Int)) / 3 % 5 = (t : Int) / 3 % 5 by omega, show (15 * l + (t : Int)) % 3 = (t : Int) % 3 by omega]
/-- what is told of the steps makes a graph -/
theorem ke_S_of {K Lo Hi F G : Nat → Int} {h : Int} {n : Nat} (hK : mm_KV K) (hn : ks_n K = (n : Int)) (hw : ∀ s, ks_st K s → (0 ≤ ks_wi Lo K s h ∧ ks_wi Lo K s h ≤ 60) ∧ (0 ≤ ks_wi Hi K s h ∧ ks_wi Hi K s h ≤ 60))
    (hP : ∀ x, x < 15 * n → ke_P K Lo Hi h ((x / 15 : Nat) : Int) (x % 15) (K 10).toNat (F x) (G x)) : ke_S K n F G := by
  intro i hi
  have hs : ks_st K ((i / 15 : Nat) : Int) := ⟨by omega, by rw [hn]; omega⟩
  rcases hP i hi with ⟨q, -⟩ | ⟨q, ⟨l, l1, l2, l3⟩, -⟩
  · exact ⟨Or.inl q, fun z => absurd z (by omega)⟩
  · refine ⟨Or.inr q, fun _ => ⟨?_, ?_⟩⟩
    · have a := ks_to_st hK hs l2.1
      rw [ks_to_15] at a
      exact ⟨a.1, by rw [← hn]; exact a.2⟩
    · rw [← l3]
      exact ks_sureb hK ⟨by omega, by omega⟩ (hw _ hs).1 (hw _ hs).2
section
variable {X : mm_X} {M : mm_M} {h : Int} {n : Nat}
/-- what findLoop leaves: the steps of the hour, the walks and the mean -/
def kw_L (M N : mm_M) (h : Int) (n : Nat) : Prop := mm_Rf N ∧ (∀ a, a ≠ 183 → a ≠ 205 → a ≠ 206 → a ≠ 207 → N a = M a) ∧ (∀ b, b ≠ 39 → b ≠ 40 → N 183 b = M 183 b) ∧ (∀ x, x < 15 * n → ke_P (mm_rk M) (M 203) (M 204) h ((x / 15 : Nat) : Int) (x % 15) (mm_rk M 10).toNat (N 205 x) (N 206 x)) ∧ ke_S (mm_rk M) n (N 205) (N 206) ∧ kw_bd n (N 183 39) (N 183 40)
theorem c_X13_findLoop (hR : mm_Rf M) (hK : mm_KV (mm_rk M)) (hA : mm_RA M) (hh : ks_hr h) (hn : ks_n (mm_rk M) = (n : Int)) :
    mm_C X Y_X13_findLoop 243 243 [(2, 184), (0, h)] M (fun r M' => kw_L M M' h n ∧ ((r = (0, 0) ∧ M' 183 40 = 0 ∧ ¬ ∃ p g m, gL (ke_E (mm_rk M) n (M' 205) (M' 206)) p g m) ∨ (r = (0, 1) ∧ kw_mean (ke_E (mm_rk M) n (M' 205) (M' 206)) (M' 183 39) (M' 183 40)))) := by
  obtain ⟨Φ, hΦ⟩ : ∃ Φ : mm_V → mm_M → Prop, Φ = (fun r M' => kw_L M M' h n ∧ ((r = (0, 0) ∧ M' 183 40 = 0 ∧ ¬ ∃ p g m, gL (ke_E (mm_rk M) n (M' 205) (M' 206)) p g m) ∨ (r = (0, 1) ∧ kw_mean (ke_E (mm_rk M) n (M' 205) (M' 206)) (M' 183 39) (M' 183 40)))) := ⟨_, rfl⟩
  rw [← hΦ]
  have hnb := ks_nb hK
  have en : (ks_n (mm_rk M)).toNat = n := by omega
  have c1 := c_X13_findSteps (X := X) hR hK hA hh
  rw [en] at c1
  have c2 : ∀ N, ke_D M N h (15 * n) → ke_S (mm_rk N) n (N 205) (N 206) ∧ mm_rk N = mm_rk M := by
    intro N hD
    obtain ⟨-, f1, f2⟩ := hD
    obtain ⟨rk, r3, r4, ra⟩ := ke_fr f1
    rw [rk]
    exact ⟨ke_S_of hK hn (fun s hs => hA.wi hK hs hh) f2, rfl⟩
  have last : ∀ N P : mm_M, ke_D M N h (15 * n) → kw_I N P n (n + 1) → mm_C X Y_X13_findMean 243 243 [(2, 184)] P (fun r M' => ∃ x, r = (0, x) ∧ mm_Rf M' ∧ Φ r M') := by
    intro N P hD hI
    obtain ⟨s1, s2⟩ := c2 N hD
    obtain ⟨-, d1, d2⟩ := hD
    obtain ⟨i1, i2, i3⟩ := hI
    have rk := kw_fr i2
    refine mm_C.mono (c_X13_findMean i1 (by rw [rk, s2]; exact hn) (by omega) (by omega) s1.n s1.b (fun k hk v hv => i3 k (by omega) v hv)) ?_
    rintro r Q ⟨⟨q1, q2, q3⟩, q4, q5⟩
    have e205 : Q 205 = N 205 := (q2 205 (by decide)).trans (i2 205 (by decide))
    have e206 : Q 206 = N 206 := (q2 206 (by decide)).trans (i2 206 (by decide))
    have hL : kw_L M Q h n := by
      refine ⟨q1, fun a a1 a2 a3 a4 => by rw [q2 a a1, i2 a a4, d1 a a2 a3], fun b b1 b2 => by rw [q3 b b1 b2, i2 183 (by decide), d1 183 (by decide) (by decide)], ?_, ?_, q4⟩
      · rw [e205, e206]; exact d2
      · rw [e205, e206, ← s2]; exact s1
    rw [hΦ]
    rw [s2] at q5
    rcases q5 with ⟨z1, z2, z3⟩ | ⟨z1, z2⟩
    · exact ⟨0, z1, q1, hL, Or.inl ⟨z1, z2, by rw [e205, e206]; exact z3⟩⟩
    · exact ⟨1, z1, q1, hL, Or.inr ⟨z1, by rw [e205, e206]; exact z2⟩⟩
  have hz : ∀ (x : Int) N, Φ (0, x) N → x = 0 ∨ x = 1 := by
    intro x N q
    rw [hΦ] at q
    rcases q.2 with q | q
    · exact Or.inl (congrArg Prod.snd q.1)
    · exact Or.inr (congrArg Prod.snd q.1)
  refine mm_start (ls := [(2, 184), (0, h)]) rfl ?_
  refine mm_aload_n dX13_findLoop_0 rfl rfl ?_
  refine mm_iload_n dX13_findLoop_1 rfl rfl ?_
  refine mm_V1g (M1 := M) dX13_findLoop_2 rfl lk_X13_547 (c := 183) rfl (by decide) rfl (by simp) rfl rfl rfl (c1) ?_
  rintro _ N2 ⟨rfl, p2⟩
  change mm_J _ _ _ _ _ _ _ _ _ _
  have hR2 : mm_Rf N2 := p2.1
  have hD2 : ke_D M N2 h (15 * n) := p2
  refine mm_aload_n dX13_findLoop_5 rfl rfl ?_
  refine mm_V0g (M1 := N2) dX13_findLoop_6 rfl lk_X13_550 (c := 183) rfl (by decide) rfl  rfl rfl rfl (c_X13_findWalks hR2 (by rw [(c2 N2 hD2).2]; exact hn) (by omega) (c2 N2 hD2).1) ?_
  rintro _ N6 ⟨rfl, p6⟩
  change mm_J _ _ _ _ _ _ _ _ _ _
  have hR6 : mm_Rf N6 := p6.1
  refine mm_aload_n dX13_findLoop_9 rfl rfl ?_
  refine mm_V0g (M1 := N6) dX13_findLoop_10 rfl lk_X13_553 (c := 183) rfl (by decide) rfl  rfl rfl rfl (last N2 N6 hD2 p6) ?_
  rintro _ N10 ⟨x10, rfl, p10⟩
  change mm_J _ _ _ _ _ _ _ _ _ _
  have hR10 : mm_Rf N10 := p10.1
  refine mm_zret dX13_findLoop_13 rfl rfl (hz _ _ p10.2) ?_
  exact p10.2
end

