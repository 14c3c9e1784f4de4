/-! ===== both as their constructors leave them agree ===== -/
theorem kx_C0.fr {M N : mm_M} (e : ∀ a, a < 183 → N a = M a) (h : kx_C0 M) : kx_C0 N := by
  obtain ⟨h1, ⟨h2, h3, h4⟩, h5, h6, h7, h8, h9, h10, h11⟩ := h
  refine ⟨?_, ⟨kx_ck (fun a _ a2 => e a (by omega)) h2, ?_, ?_⟩, ?_, ?_, ?_, ?_, ?_, ?_, ?_⟩
  · intro c i hc; rw [e c hc]; exact h1 c i hc
  · rw [e 4 (by decide)]; exact h3
  · rw [e 5 (by decide)]; exact h4
  · rw [e 16 (by decide)]; exact h5
  · rw [e 17 (by decide)]; exact h6
  · rw [e 173 (by decide)]; exact h7
  · rw [e 21 (by decide)]; exact h8
  · rw [e 1 (by decide)]; exact h9
  · rw [e 0 (by decide)]; exact h10
  · intro a b ha; rw [e a ha]; exact h11 a b ha
theorem kx_D0v (i : Nat) : kp_D0 (fun _ => 0) (30 + i) = if i < 6 then 100 else 0 := by
  unfold kp_D0
  rw [if_neg (by omega), if_neg (by omega), if_neg (by omega), if_neg (by omega)]
  by_cases q : i < 6
  · rw [if_pos (by omega), if_pos q]
  · rw [if_neg (by omega), if_neg q]
section
variable {N : mm_M}
theorem kx_rk (hC : kx_C0 N) (h : kx_R0 N) : kA (mm_rk N) (N 4) ∧ mm_KV (mm_rk N) := by
  obtain ⟨-, ⟨hck, hf, -⟩, -⟩ := hC
  obtain ⟨⟨r1, r2, ⟨r3, r3'⟩, r4, r5⟩, -⟩ := h
  have a1 : ∀ i, i < 11 → mm_rk N i = N 4 i := by
    intro i hi
    by_cases q : i < 10
    · rw [mm_rk_r N q, r1 i q, hf i (by omega)]
    · have e : i = 10 := by omega
      subst e
      rw [mm_rk_n, r2, hf 10 (by decide)]; rfl
  have a2 : ∀ i : Nat, i < 2 → mm_rk N (20 + i) = N 4 (20 + i) := by
    intro i hi
    rw [mm_rk_l N (by omega), hf (20 + i) (by omega)]
    rcases (show i = 0 ∨ i = 1 by omega) with e | e
    · subst e; rw [r3]; rfl
    · subst e; rw [r3']; rfl
  have a3 : ∀ i, i < 6 → mm_rk N (30 + i) = N 4 (30 + i) := by
    intro i hi
    have e : mm_rk N (30 + i) = N 190 i := by
      unfold mm_rk
      rw [if_neg (by omega), if_neg (by omega), if_neg (by omega), show 30 + i - 30 = i by omega]
    rw [e, r5 i hi, hf (30 + i) (by omega), kx_D0v, if_pos hi]
  have h10 : mm_rk N 10 = 2 := by rw [mm_rk_n]; exact r2
  refine ⟨⟨a1, fun i _ hi => a2 i (by rw [h10] at hi; omega), a3⟩, ?_⟩
  have kv := hck.1
  unfold mm_KV at kv ⊢
  rw [a1 0 (by decide), a1 1 (by decide), a1 2 (by decide), a1 3 (by decide), a1 4 (by decide), a1 5 (by decide), a1 6 (by decide), a1 7 (by decide), a1 8 (by decide), a1 9 (by decide), a1 10 (by decide)]
  obtain ⟨k0, k1, k2, k3, k4, k5, k6, k7, k8, k9, k10, k11, k12⟩ := kv
  refine ⟨k0, k1, k2, k3, k4, k5, k6, k7, k8, k9, k10, ?_, ?_⟩
  · intro i hi; rw [mm_rk_l N hi]; exact r4 i hi
  · intro i hi; rw [a3 i hi]; exact k12 i hi
theorem kx_agree (hRf : mm_Rf N) (hC : kx_C0 N) (h : kx_R0 N) : kR N := by
  have hK := kx_rk hC h
  obtain ⟨c1, ⟨c2, c3, c4⟩, c5, c6, c7, c8, c9, c10, c11⟩ := id hC
  obtain ⟨-, r2, r3, r3', r4, r5, r6, r7, r8⟩ := id h
  have z : ∀ a b, a < 183 → ¬ kx_E a b → mm_rt a b = 0 → N a b = 0 := by
    intro a b ha hE h0
    unfold kx_E at hE
    rw [c11 a b ha (by omega) (by omega) (by omega) (by omega) (by omega) (by omega) (by omega)]; exact h0
  have z3 : ∀ b, ¬ (b = 9 ∨ (16 ≤ b ∧ b ≤ 18) ∨ b = 84 ∨ b = 96) → mm_rt 183 b = 0 → N 183 b = 0 := by
    intro b hb h0
    rw [r7 b (by omega) (by omega) (by omega) (by omega)]; exact h0
  have z4 : ∀ a b, 184 ≤ a → a < 243 → ¬ (186 ≤ a ∧ a ≤ 192) → a ≠ 203 → a ≠ 204 → mm_rt a b = 0 → N a b = 0 := by
    intro a b a1 a2 a3 a4 a5 h0
    rw [r8 a b a1 a2 a3 a4 a5]; exact h0
  have i4 : ∀ a b, 184 ≤ a → a < 243 → ¬ (186 ≤ a ∧ a ≤ 192) → a ≠ 203 → a ≠ 204 → mm_sh a = (1, (mm_sh a).2) → N a b = 0 := fun a b a1 a2 a3 a4 a5 hs => z4 a b a1 a2 a3 a4 a5 (mm_rt_ar (t := 0) hs (by decide))
  have hz0 : (0 : Int) ≤ 0 := Int.le_refl 0
  have R0 : mm_R 0 := by unfold mm_R; omega
  have t1 : N 1 1 = 0 := z 1 1 (by decide) (by unfold kx_E; omega) rfl
  have t2 : N 183 2 = 0 := z3 2 (by omega) rfl
  have t3 : ∀ b, N 2 b = 0 := fun b => z 2 b (by decide) (by unfold kx_E; omega) (mm_rt_ar (t := 1) rfl (by decide))
  have t4 : ∀ b, N 185 b = 0 := fun b => z4 185 b (by decide) (by decide) (by omega) (by decide) (by decide) (mm_rt_ar (t := 1) rfl (by decide))
  have l1 : N 18 1 = 0 := z 18 1 (by decide) (by unfold kx_E; omega) rfl
  have l2 : N 183 20 = 0 := z3 20 (by omega) rfl
  have w1 : N 11 1 = 0 := z 11 1 (by decide) (by unfold kx_E; omega) rfl
  have w2 : N 11 2 = 0 := z 11 2 (by decide) (by unfold kx_E; omega) rfl
  have w3 : N 183 27 = 0 := z3 27 (by omega) rfl
  have w4 : N 183 28 = 0 := z3 28 (by omega) rfl
  have w5 : N 203 = N 16 := by
    funext b
    by_cases q : b < 120
    · rw [(r3 b q).1, c5 b q]
    · rw [(r3' b (by omega)).1, z 16 b (by decide) (by unfold kx_E; omega) (mm_rt_ar (t := 0) rfl (by decide))]
  have w6 : N 204 = N 17 := by
    funext b
    by_cases q : b < 120
    · rw [(r3 b q).2, c6 b q]
    · rw [(r3' b (by omega)).2, z 17 b (by decide) (by unfold kx_E; omega) (mm_rt_ar (t := 0) rfl (by decide))]
  have w12 : ∀ i, N 12 i = 0 := fun b => z 12 b (by decide) (by unfold kx_E; omega) (mm_rt_ar (t := 0) rfl (by decide))
  have w13 : ∀ i, N 13 i = 0 := fun b => z 13 b (by decide) (by unfold kx_E; omega) (mm_rt_ar (t := 0) rfl (by decide))
  have w198 : ∀ i, N 198 i = 0 := fun b => i4 198 b (by decide) (by decide) (by omega) (by decide) (by decide) rfl
  have w199 : ∀ i, N 199 i = 0 := fun b => i4 199 b (by decide) (by decide) (by omega) (by decide) (by decide) rfl
  have w202 : ∀ i, N 202 i = 0 := fun b => i4 202 b (by decide) (by decide) (by omega) (by decide) (by decide) rfl
  have b1 : N 114 2 = 0 := z 114 2 (by decide) (by unfold kx_E; omega) rfl
  have b2 : N 183 50 = 0 := z3 50 (by omega) rfl
  have b3 : N 183 54 = 0 := z3 54 (by omega) rfl
  have j1 : N 117 2 = 0 := z 117 2 (by decide) (by unfold kx_E; omega) rfl
  have j2 : N 117 9 = 0 := z 117 9 (by decide) (by unfold kx_E; omega) rfl
  have j3 : N 0 12 = 0 := z 0 12 (by decide) (by unfold kx_E; omega) rfl
  have j4 : N 183 61 = 0 := z3 61 (by omega) rfl
  have j5 : N 183 68 = 0 := z3 68 (by omega) rfl
  have j6 : N 183 62 = 0 := z3 62 (by omega) rfl
  have j7 : N 183 59 = 0 := z3 59 (by omega) rfl
  have j8 : N 183 56 = 0 := z3 56 (by omega) rfl
  have j9 : N 183 57 = 0 := z3 57 (by omega) rfl
  have f1 : N 139 3 = 0 := z 139 3 (by decide) (by unfold kx_E; omega) rfl
  have f2 : N 139 4 = 0 := z 139 4 (by decide) (by unfold kx_E; omega) rfl
  have f3 : N 183 75 = 0 := z3 75 (by omega) rfl
  have f4 : N 183 72 = 0 := z3 72 (by omega) rfl
  have d1 : N 0 13 = 0 := z 0 13 (by decide) (by unfold kx_E; omega) rfl
  have d2 : N 183 79 = 0 := z3 79 (by omega) rfl
  have p1 : N 21 8 = 0 := z 21 8 (by decide) (by unfold kx_E; omega) rfl
  have p2 : N 183 85 = 0 := z3 85 (by omega) rfl
  have g1 : N 144 1 = 0 := z 144 1 (by decide) (by unfold kx_E; omega) rfl
  have g2 : N 144 2 = 0 := z 144 2 (by decide) (by unfold kx_E; omega) rfl
  have g3 : N 183 88 = 0 := z3 88 (by omega) rfl
  have g4 : N 183 89 = 0 := z3 89 (by omega) rfl
  have a1 : N 172 0 = 0 := z 172 0 (by decide) (by unfold kx_E; omega) rfl
  have a2 : N 183 92 = 0 := z3 92 (by omega) rfl
  have e1 : N 174 2 = 0 := z 174 2 (by decide) (by unfold kx_E; omega) rfl
  have e2 : N 174 3 = 0 := z 174 3 (by decide) (by unfold kx_E; omega) rfl
  have e3 : N 174 4 = 0 := z 174 4 (by decide) (by unfold kx_E; omega) rfl
  have e4 : N 183 97 = 0 := z3 97 (by omega) rfl
  have e5 : N 183 98 = 0 := z3 98 (by omega) rfl
  have e6 : N 183 99 = 0 := z3 99 (by omega) rfl
  refine ⟨hRf, ?_, ?_, ?_, ?_, ?_, ?_, ?_, ?_, ?_, ?_, ?_, ?_, ?_, ?_, ?_, ?_⟩
  · refine ⟨by rw [t1, t2], by rw [t1]; omega, funext fun b => by rw [t4, t3], fun k _ => by rw [t3]; omega⟩
  · refine ⟨?_, by rw [r4, c9]⟩
    rw [z3 8 (by omega) rfl, z 1 2 (by decide) (by unfold kx_E; omega) rfl]
  · refine ⟨c2, hK.2, hK.1.nk, ?_, r2⟩
    rw [c4]
    exact kp_D0_KV ⟨Int.le_refl 0, by decide⟩
  · refine ⟨⟨by rw [l1]; omega, fun l hl => ?_⟩, ⟨by rw [l2]; omega, fun l hl => ?_⟩, by rw [l1, l2], fun l hl => ?_⟩
    · rw [l1] at hl; omega
    · rw [l2] at hl; omega
    · rw [l1] at hl; omega
  · refine ⟨by rw [w1, w3]; omega, by rw [w2, w4]; omega, ⟨w5, w6⟩, ?_, fun i _ => by rw [w12, w13]; exact ⟨R0, R0⟩, fun i _ => by rw [w198, w199, w202]; exact ⟨R0, R0, R0⟩, fun i hi => ?_⟩
    · intro p hp; rw [c5 p hp, c6 p hp]; omega
    · rw [w1] at hi; omega
  · exact ⟨by rw [b1]; omega, by rw [b2]; omega, Or.inl b3, Or.inr (Or.inl ⟨b1, b3⟩)⟩
  · intro k hk
    have u : N 23 k = 0 := z 23 k (by decide) (by unfold kx_E; omega) (mm_rt_ar (t := 2) rfl (by decide))
    have v : N (42 + 3 * k) 2 = 0 := z (42 + 3 * k) 2 (by omega) (by unfold kx_E; omega) (mm_rt_row (mm_rw_loops k hk).1 (by decide))
    rw [u, v]
    exact ⟨Or.inl rfl, by omega, fun q => absurd q (by decide)⟩
  · refine ⟨by rw [j1]; omega, Or.inl j2, Or.inl j3, Or.inl j4, Or.inl j5, Or.inl j6, by rw [j7]; omega, by rw [j8, j9]; exact R0, by rw [j1, j4], fun q => absurd j1 q, ?_, fun q => ?_⟩
    · rw [j6, j3]
      exact ⟨fun q => absurd q (by decide), fun q => absurd q.1 (by decide)⟩
    · rw [j6] at q; exact absurd q (by decide)
  · intro k hk
    have u : N (121 + 3 * k) 2 = 0 := z (121 + 3 * k) 2 (by omega) (by unfold kx_E; omega) (mm_rt_row (mm_rw_kept k hk).1 (by decide))
    have v : N 216 k = 0 := i4 216 k (by decide) (by decide) (by omega) (by decide) (by decide) rfl
    have w : N 217 k = 0 := i4 217 k (by decide) (by decide) (by omega) (by decide) (by decide) rfl
    rw [u, v, w]
    exact ⟨by omega, rfl, R0, fun q => absurd q (by decide), fun i hi => absurd hi (by omega)⟩
  · refine ⟨Or.inl f1, by rw [f2]; omega, by rw [f1, f3], by rw [f4]; omega, fun q => ?_⟩
    rw [f1] at q; exact absurd q (by decide)
  · exact ⟨by rw [d1, d2], by rw [d1]; omega⟩
  · exact ⟨by rw [p1]; omega, by rw [c8]; omega, ⟨Or.inl r5, by omega, by omega⟩, Or.inr (Or.inl ⟨r5, p2, by rw [c8, p1]; decide⟩)⟩
  · refine ⟨⟨by rw [g1]; omega, fun i hi => ?_⟩, fun i hi => ?_, ⟨by rw [g3]; omega, fun i hi => ?_, fun i j _ hj => ?_⟩, by rw [g1, g3], by rw [g2, g4], fun i hi => ?_⟩
    · rw [g1] at hi; omega
    · rw [g1] at hi; omega
    · rw [g3] at hi; omega
    · rw [g3] at hj; omega
    · rw [g1] at hi; omega
  · refine ⟨by rw [a1, a2]; omega, fun i hi => by rw [c7 i hi]; unfold mm_R; omega, ?_, fun i hi => ?_⟩
    · intro hr ht h1 h2 h3
      rw [c7 hr h1, a2]
      constructor
      · rintro ⟨j, hj, -⟩; omega
      · intro q; omega
    · rw [i4 230 i (by decide) (by decide) (by omega) (by decide) (by decide) rfl, i4 231 i (by decide) (by decide) (by omega) (by decide) (by decide) rfl, i4 232 i (by decide) (by decide) (by omega) (by decide) (by decide) rfl]
      exact ⟨R0, R0, R0⟩
  · exact ⟨by rw [r6, c10], by rw [c10]; omega⟩
  · refine ⟨⟨by rw [e1]; omega, by rw [e2]; omega, fun k hk => ?_, fun k hk => ?_⟩, ⟨by rw [e4]; omega, by rw [e5]; omega, fun k hk => ?_, fun k hk => ?_⟩, by rw [e1, e4], by rw [e2, e5], by rw [e3, e6]; omega, fun k hk => ?_, fun k hk => ?_⟩
    · rw [e1] at hk; omega
    · rw [e2] at hk; omega
    · rw [e4] at hk; omega
    · rw [e5] at hk; omega
    · rw [e1] at hk; omega
    · rw [e2] at hk; omega
end

