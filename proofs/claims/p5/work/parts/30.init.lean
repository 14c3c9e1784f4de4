/-! E4.init -/
section
/-! ===== both as their constructors leave them agree ===== -/
theorem kx_C0.fr {M N : mm_M} (e : ∀ a, a < 183 → N a = M a) (h : kx_C0 M) : kx_C0 N := by
  obtain ⟨h1, ⟨h2, h3, h4⟩, h5, h6, h7, h8, h9, h10, h11⟩ := h
  refine ⟨?_, ⟨kx_ck (fun a _ a2 => e a (by omega)) h2, ?_, ?_⟩, ?_, ?_, ?_, ?_, ?_, ?_, ?_⟩
  · intro c i hc; rw [e c hc]; exact h1 c i hc
  · rw [e 4 (by decide)]; exact h3
  · rw [e 5 (by decide)]; exact h4
  · rw [e 16 (by decide)]; exact h5
  · rw [e 17 (by decide)]; exact h6
  · rw [e 173 (by decide)]; exact h7
  · rw [e 21 (by decide)]; exact h8
  · rw [e 1 (by decide)]; exact h9
  · rw [e 0 (by decide)]; exact h10
  · intro a b ha; rw [e a ha]; exact h11 a b ha
theorem kx_D0v (i : Nat) : kp_D0 (fun _ => 0) (30 + i) = if i < 6 then 100 else 0 := by
  unfold kp_D0
  rw [if_neg (by omega), if_neg (by omega), if_neg (by omega), if_neg (by omega)]
  by_cases q : i < 6
  · rw [if_pos (by omega), if_pos q]
  · rw [if_neg (by omega), if_neg q]
section
variable {N : mm_M}
theorem kx_rk (hC : kx_C0 N) (h : kx_R0 N) : kA (mm_rk N) (N 4) ∧ mm_KV (mm_rk N) := by
  obtain ⟨-, ⟨hck, hf, -⟩, -⟩ := hC
  obtain ⟨⟨r1, r2, ⟨r3, r3'⟩, r4, r5⟩, -⟩ := h
  have a1 : ∀ i, i < 11 → mm_rk N i = N 4 i := by
    intro i hi
    by_cases q : i < 10
    · rw [mm_rk_r N q, r1 i q, hf i (by omega)]
    · have e : i = 10 := by omega
      subst e
      rw [mm_rk_n, r2, hf 10 (by decide)]; rfl
  have a2 : ∀ i : Nat, i < 2 → mm_rk N (20 + i) = N 4 (20 + i) := by
    intro i hi
    rw [mm_rk_l N (by omega), hf (20 + i) (by omega)]
    rcases (show i = 0 ∨ i = 1 by omega) with e | e
    · subst e; rw [r3]; rfl
    · subst e; rw [r3']; rfl
  have a3 : ∀ i, i < 6 → mm_rk N (30 + i) = N 4 (30 + i) := by
    intro i hi
    have e : mm_rk N (30 + i) = N 190 i := by
      unfold mm_rk
      rw [if_neg (by omega), if_neg (by omega), if_neg (by omega), show 30 + i - 30 = i by omega]
    rw [e, r5 i hi, hf (30 + i) (by omega), kx_D0v, if_pos hi]
  have h10 : mm_rk N 10 = 2 := by rw [mm_rk_n]; exact r2
  refine ⟨⟨a1, fun i _ hi => a2 i (by rw [h10] at hi; omega), a3⟩, ?_⟩
  have kv := hck.1
  unfold mm_KV at kv ⊢
  rw [a1 0 (by decide), a1 1 (by decide), a1 2 (by decide), a1 3 (by decide), a1 4 (by decide), a1 5 (by decide), a1 6 (by decide), a1 7 (by decide), a1 8 (by decide), a1 9 (by decide), a1 10 (by decide)]
  obtain ⟨k0, k1, k2, k3, k4, k5, k6, k7, k8, k9, k10, k11, k12⟩ := kv
  refine ⟨k0, k1, k2, k3, k4, k5, k6, k7, k8, k9, k10, ?_, ?_⟩
  · intro i hi; rw [mm_rk_l N hi]; exact r4 i hi
  · intro i hi; rw [a3 i hi]; exact k12 i hi
theorem kx_agree (hRf : mm_Rf N) (hC : kx_C0 N) (h : kx_R0 N) : kR N := by
  have hK := kx_rk hC h
  obtain ⟨c1, ⟨c2, c3, c4⟩, c5, c6, c7, c8, c9, c10, c11⟩ := id hC
  obtain ⟨-, r2, r3, r3', r4, r5, r6, r7, r8⟩ := id h
  have z : ∀ a b, a < 183 → ¬ kx_E a b → mm_rt a b = 0 → N a b = 0 := by
    intro a b ha hE h0
    unfold kx_E at hE
    rw [c11 a b ha (by omega) (by omega) (by omega) (by omega) (by omega) (by omega) (by omega)]; exact h0
  have z3 : ∀ b, ¬ (b = 9 ∨ (16 ≤ b ∧ b ≤ 18) ∨ b = 84 ∨ b = 96) → mm_rt 183 b = 0 → N 183 b = 0 := by
    intro b hb h0
    rw [r7 b (by omega) (by omega) (by omega) (by omega)]; exact h0
  have z4 : ∀ a b, 184 ≤ a → a < 243 → ¬ (186 ≤ a ∧ a ≤ 192) → a ≠ 203 → a ≠ 204 → mm_rt a b = 0 → N a b = 0 := by
    intro a b a1 a2 a3 a4 a5 h0
    rw [r8 a b a1 a2 a3 a4 a5]; exact h0
  have i4 : ∀ a b, 184 ≤ a → a < 243 → ¬ (186 ≤ a ∧ a ≤ 192) → a ≠ 203 → a ≠ 204 → mm_sh a = (1, (mm_sh a).2) → N a b = 0 := fun a b a1 a2 a3 a4 a5 hs => z4 a b a1 a2 a3 a4 a5 (mm_rt_ar (t := 0) hs (by decide))
  have hz0 : (0 : Int) ≤ 0 := Int.le_refl 0
  have R0 : mm_R 0 := by unfold mm_R; omega
  have t1 : N 1 1 = 0 := z 1 1 (by decide) (by unfold kx_E; omega) rfl
  have t2 : N 183 2 = 0 := z3 2 (by omega) rfl
  have t3 : ∀ b, N 2 b = 0 := fun b => z 2 b (by decide) (by unfold kx_E; omega) (mm_rt_ar (t := 1) rfl (by decide))
  have t4 : ∀ b, N 185 b = 0 := fun b => z4 185 b (by decide) (by decide) (by omega) (by decide) (by decide) (mm_rt_ar (t := 1) rfl (by decide))
  have l1 : N 18 1 = 0 := z 18 1 (by decide) (by unfold kx_E; omega) rfl
  have l2 : N 183 20 = 0 := z3 20 (by omega) rfl
  have w1 : N 11 1 = 0 := z 11 1 (by decide) (by unfold kx_E; omega) rfl
  have w2 : N 11 2 = 0 := z 11 2 (by decide) (by unfold kx_E; omega) rfl
  have w3 : N 183 27 = 0 := z3 27 (by omega) rfl
  have w4 : N 183 28 = 0 := z3 28 (by omega) rfl
  have w5 : N 203 = N 16 := by
    funext b
    by_cases q : b < 120
    · rw [(r3 b q).1, c5 b q]
    · rw [(r3' b (by omega)).1, z 16 b (by decide) (by unfold kx_E; omega) (mm_rt_ar (t := 0) rfl (by decide))]
  have w6 : N 204 = N 17 := by
    funext b
    by_cases q : b < 120
    · rw [(r3 b q).2, c6 b q]
    · rw [(r3' b (by omega)).2, z 17 b (by decide) (by unfold kx_E; omega) (mm_rt_ar (t := 0) rfl (by decide))]
  have w12 : ∀ i, N 12 i = 0 := fun b => z 12 b (by decide) (by unfold kx_E; omega) (mm_rt_ar (t := 0) rfl (by decide))
  have w13 : ∀ i, N 13 i = 0 := fun b => z 13 b (by decide) (by unfold kx_E; omega) (mm_rt_ar (t := 0) rfl (by decide))
  have w198 : ∀ i, N 198 i = 0 := fun b => i4 198 b (by decide) (by decide) (by omega) (by decide) (by decide) rfl
  have w199 : ∀ i, N 199 i = 0 := fun b => i4 199 b (by decide) (by decide) (by omega) (by decide) (by decide) rfl
  have w202 : ∀ i, N 202 i = 0 := fun b => i4 202 b (by decide) (by decide) (by omega) (by decide) (by decide) rfl
  have b1 : N 114 2 = 0 := z 114 2 (by decide) (by unfold kx_E; omega) rfl
  have b2 : N 183 50 = 0 := z3 50 (by omega) rfl
  have b3 : N 183 54 = 0 := z3 54 (by omega) rfl
  have j1 : N 117 2 = 0 := z 117 2 (by decide) (by unfold kx_E; omega) rfl
  have j2 : N 117 9 = 0 := z 117 9 (by decide) (by unfold kx_E; omega) rfl
  have j3 : N 0 12 = 0 := z 0 12 (by decide) (by unfold kx_E; omega) rfl
  have j4 : N 183 61 = 0 := z3 61 (by omega) rfl
  have j5 : N 183 68 = 0 := z3 68 (by omega) rfl
  have j6 : N 183 62 = 0 := z3 62 (by omega) rfl
  have j7 : N 183 59 = 0 := z3 59 (by omega) rfl
  have j8 : N 183 56 = 0 := z3 56 (by omega) rfl
  have j9 : N 183 57 = 0 := z3 57 (by omega) rfl
  have f1 : N 139 3 = 0 := z 139 3 (by decide) (by unfold kx_E; omega) rfl
  have f2 : N 139 4 = 0 := z 139 4 (by decide) (by unfold kx_E; omega) rfl
  have f3 : N 183 75 = 0 := z3 75 (by omega) rfl
  have f4 : N 183 72 = 0 := z3 72 (by omega) rfl
  have d1 : N 0 13 = 0 := z 0 13 (by decide) (by unfold kx_E; omega) rfl
  have d2 : N 183 79 = 0 := z3 79 (by omega) rfl
  have p1 : N 21 8 = 0 := z 21 8 (by decide) (by unfold kx_E; omega) rfl
  have p2 : N 183 85 = 0 := z3 85 (by omega) rfl
  have g1 : N 144 1 = 0 := z 144 1 (by decide) (by unfold kx_E; omega) rfl
  have g2 : N 144 2 = 0 := z 144 2 (by decide) (by unfold kx_E; omega) rfl
  have g3 : N 183 88 = 0 := z3 88 (by omega) rfl
  have g4 : N 183 89 = 0 := z3 89 (by omega) rfl
  have a1 : N 172 0 = 0 := z 172 0 (by decide) (by unfold kx_E; omega) rfl
  have a2 : N 183 92 = 0 := z3 92 (by omega) rfl
  have e1 : N 174 2 = 0 := z 174 2 (by decide) (by unfold kx_E; omega) rfl
  have e2 : N 174 3 = 0 := z 174 3 (by decide) (by unfold kx_E; omega) rfl
  have e3 : N 174 4 = 0 := z 174 4 (by decide) (by unfold kx_E; omega) rfl
  have e4 : N 183 97 = 0 := z3 97 (by omega) rfl
  have e5 : N 183 98 = 0 := z3 98 (by omega) rfl
  have e6 : N 183 99 = 0 := z3 99 (by omega) rfl
  refine ⟨hRf, ?_, ?_, ?_, ?_, ?_, ?_, ?_, ?_, ?_, ?_, ?_, ?_, ?_, ?_, ?_, ?_⟩
  · refine ⟨by rw [t1, t2], by rw [t1]; omega, funext fun b => by rw [t4, t3], fun k _ => by rw [t3]; omega⟩
  · refine ⟨?_, by rw [r4, c9]⟩
    rw [z3 8 (by omega) rfl, z 1 2 (by decide) (by unfold kx_E; omega) rfl]
  · refine ⟨c2, hK.2, hK.1.nk, ?_, r2⟩
    rw [c4]
    exact kp_D0_KV ⟨Int.le_refl 0, by decide⟩
  · refine ⟨⟨by rw [l1]; omega, fun l hl => ?_⟩, ⟨by rw [l2]; omega, fun l hl => ?_⟩, by rw [l1, l2], fun l hl => ?_⟩
    · rw [l1] at hl; omega
    · rw [l2] at hl; omega
    · rw [l1] at hl; omega
  · refine ⟨by rw [w1, w3]; omega, by rw [w2, w4]; omega, ⟨w5, w6⟩, ?_, fun i _ => by rw [w12, w13]; exact ⟨R0, R0⟩, fun i _ => by rw [w198, w199, w202]; exact ⟨R0, R0, R0⟩, fun i hi => ?_⟩
    · intro p hp; rw [c5 p hp, c6 p hp]; omega
    · rw [w1] at hi; omega
  · exact ⟨by rw [b1]; omega, by rw [b2]; omega, Or.inl b3, Or.inr (Or.inl ⟨b1, b3⟩)⟩
  · intro k hk
    have u : N 23 k = 0 := z 23 k (by decide) (by unfold kx_E; omega) (mm_rt_ar (t := 2) rfl (by decide))
    have v : N (42 + 3 * k) 2 = 0 := z (42 + 3 * k) 2 (by omega) (by unfold kx_E; omega) (mm_rt_row (mm_rw_loops k hk).1 (by decide))
    rw [u, v]
    exact ⟨Or.inl rfl, by omega, fun q => absurd q (by decide)⟩
  · refine ⟨by rw [j1]; omega, Or.inl j2, Or.inl j3, Or.inl j4, Or.inl j5, Or.inl j6, by rw [j7]; omega, by rw [j8, j9]; exact R0, by rw [j1, j4], fun q => absurd j1 q, ?_, fun q => ?_⟩
    · rw [j6, j3]
      exact ⟨fun q => absurd q (by decide), fun q => absurd q.1 (by decide)⟩
    · rw [j6] at q; exact absurd q (by decide)
  · intro k hk
    have u : N (121 + 3 * k) 2 = 0 := z (121 + 3 * k) 2 (by omega) (by unfold kx_E; omega) (mm_rt_row (mm_rw_kept k hk).1 (by decide))
    have v : N 216 k = 0 := i4 216 k (by decide) (by decide) (by omega) (by decide) (by decide) rfl
    have w : N 217 k = 0 := i4 217 k (by decide) (by decide) (by omega) (by decide) (by decide) rfl
    rw [u, v, w]
    exact ⟨by omega, rfl, R0, fun q => absurd q (by decide), fun i hi => absurd hi (by omega)⟩
  · refine ⟨Or.inl f1, by rw [f2]; omega, by rw [f1, f3], by rw [f4]; omega, fun q => ?_⟩
    rw [f1] at q; exact absurd q (by decide)
  · exact ⟨by rw [d1, d2], by rw [d1]; omega⟩
  · exact ⟨by rw [p1]; omega, by rw [c8]; omega, ⟨Or.inl r5, by omega, by omega⟩, Or.inr (Or.inl ⟨r5, p2, by rw [c8, p1]; decide⟩)⟩
  · refine ⟨⟨by rw [g1]; omega, fun i hi => ?_⟩, fun i hi => ?_, ⟨by rw [g3]; omega, fun i hi => ?_, fun i j _ hj => ?_⟩, by rw [g1, g3], by rw [g2, g4], fun i hi => ?_⟩
    · rw [g1] at hi; omega
    · rw [g1] at hi; omega
    · rw [g3] at hi; omega
    · rw [g3] at hj; omega
    · rw [g1] at hi; omega
  · refine ⟨by rw [a1, a2]; omega, fun i hi => by rw [c7 i hi]; unfold mm_R; omega, ?_, fun i hi => ?_⟩
    · intro hr ht h1 h2 h3
      rw [c7 hr h1, a2]
      constructor
      · rintro ⟨j, hj, -⟩; omega
      · intro q; omega
    · rw [i4 230 i (by decide) (by decide) (by omega) (by decide) (by decide) rfl, i4 231 i (by decide) (by decide) (by omega) (by decide) (by decide) rfl, i4 232 i (by decide) (by decide) (by omega) (by decide) (by decide) rfl]
      exact ⟨R0, R0, R0⟩
  · exact ⟨by rw [r6, c10], by rw [c10]; omega⟩
  · refine ⟨⟨by rw [e1]; omega, by rw [e2]; omega, fun k hk => ?_, fun k hk => ?_⟩, ⟨by rw [e4]; omega, by rw [e5]; omega, fun k hk => ?_, fun k hk => ?_⟩, by rw [e1, e4], by rw [e2, e5], by rw [e3, e6]; omega, fun k hk => ?_, fun k hk => ?_⟩
    · rw [e1] at hk; omega
    · rw [e2] at hk; omega
    · rw [e4] at hk; omega
    · rw [e5] at hk; omega
    · rw [e1] at hk; omega
    · rw [e2] at hk; omega
end
end
/-! E5.words -/
section
/-! ===== words of the premises ===== -/
theorem mm_wq {w : Jvm.Cond} (k i : Nat) (h : ([tables_1_1, tables_1_2, tables_1_3, tables_1_4, tables_1_5, tables_1_6, tables_1_7, tables_1_8, tables_1_9, tables_1_10].getD k [])[i]? = some w) : w ∈ lw_tbl ∧ True := ⟨List.mem_append_right _ (mm_chunk k (List.mem_of_getElem? h)), trivial⟩
abbrev kS_tm (k : Nat) : Term := .string (mm_sc.getD k mm_sd).1 (mm_sc.getD k mm_sd).2.1
abbrev kS_fl : List Cond := flatC (Jvm.Cond.and given_1 narrow_1)
/-- the words of E stand in L, in this order -/
def kS_sub : List Cond → List Cond → Bool
  | [], E => E.isEmpty
  | b :: l, E => match E with
    | [] => true
    | a :: e => bif decide (a = b) then kS_sub l e else kS_sub l (a :: e)
theorem kS_sub_mem : ∀ (L E : List Cond), kS_sub L E = true → ∀ w ∈ E, w ∈ L
  | [], [], _, w, hw => absurd hw (List.not_mem_nil)
  | [], a :: e, h, w, hw => absurd (show false = true from h) Bool.false_ne_true
  | b :: l, [], _, w, hw => absurd hw (List.not_mem_nil)
  | b :: l, a :: e, h, w, hw => by
    have h' : (bif decide (a = b) then kS_sub l e else kS_sub l (a :: e)) = true := h
    rcases Classical.em (a = b) with g | g
    · rw [decide_eq_true g] at h'
      have h2 : kS_sub l e = true := h'
      rcases List.mem_cons.mp hw with r | r
      · rw [r, g]; exact .head _
      · exact .tail _ (kS_sub_mem l e h2 w r)
    · rw [decide_eq_false g] at h'
      have h2 : kS_sub l (a :: e) = true := h'
      exact .tail _ (kS_sub_mem l (a :: e) h2 w hw)
def kS_E (k : Nat) : List Cond :=
  Cond.exactly (kS_tm k) "java/lang/String" :: Cond.eq (.field (kS_tm k) "java/lang/String" "coder" "B") (.int 0) :: Cond.arrayOf (.field (kS_tm k) "java/lang/String" "value" "[B") .byte ::
    Cond.eq (.length (.field (kS_tm k) "java/lang/String" "value" "[B")) (.int (Int32.ofNat (mm_sc.getD k mm_sd).2.2.2.length)) ::
    (List.range (mm_sc.getD k mm_sd).2.2.2.length).map (fun j => Cond.eq (.elem (.field (kS_tm k) "java/lang/String" "value" "[B") (.int (Int32.ofNat j))) (.int (mm_i ((mm_sc.getD k mm_sd).2.2.2.getD j 0))))
theorem kS_all : kS_sub kS_fl ((List.range 37).flatMap kS_E) = true := by decide +kernel
theorem kS_in {k : Nat} (hk : k < 37) {w : Cond} (h : w ∈ kS_E k) : w ∈ kS_fl := kS_sub_mem _ _ kS_all w (List.mem_flatMap.mpr ⟨k, List.mem_range.mpr hk, h⟩)
theorem kS_1 : ∀ k, k < 37 → Cond.exactly (kS_tm k) "java/lang/String" ∈ kS_fl := fun _ hk => kS_in hk (.head _)
theorem kS_2 : ∀ k, k < 37 → Cond.eq (.field (kS_tm k) "java/lang/String" "coder" "B") (.int 0) ∈ kS_fl := fun _ hk => kS_in hk (.tail _ (.head _))
theorem kS_3 : ∀ k, k < 37 → Cond.arrayOf (.field (kS_tm k) "java/lang/String" "value" "[B") .byte ∈ kS_fl := fun _ hk => kS_in hk (.tail _ (.tail _ (.head _)))
theorem kS_4 : ∀ k, k < 37 → Cond.eq (.length (.field (kS_tm k) "java/lang/String" "value" "[B")) (.int (Int32.ofNat (mm_sc.getD k mm_sd).2.2.2.length)) ∈ kS_fl := fun _ hk => kS_in hk (.tail _ (.tail _ (.tail _ (.head _))))
theorem kS_5 : ∀ k, k < 37 → ∀ j, j < (mm_sc.getD k mm_sd).2.2.2.length → Cond.eq (.elem (.field (kS_tm k) "java/lang/String" "value" "[B") (.int (Int32.ofNat j))) (.int (mm_i ((mm_sc.getD k mm_sd).2.2.2.getD j 0))) ∈ kS_fl :=
  fun _ hk j hj => kS_in hk (.tail _ (.tail _ (.tail _ (.tail _ (List.mem_map.mpr ⟨j, List.mem_range.mpr hj, rfl⟩)))))
theorem kS_6 : ∀ k, k < 37 → (mm_sc.getD k mm_sd).2.2.2.length < 2 ^ 31 := by decide +kernel
abbrev kS_ar (k : Nat) : Term := .static (mm_ct.getD k ("", "", [])).1 (mm_ct.getD k ("", "", [])).2.1 "[I"
def kS_A (k : Nat) : List Cond :=
  Cond.arrayOf (kS_ar k) .int :: Cond.eq (.length (kS_ar k)) (.int (Int32.ofNat 10)) :: (List.range 10).map (fun j => Cond.eq (.elem (kS_ar k) (.int (Int32.ofNat j))) (.int (mm_i (((mm_ct.getD k ("", "", [])).2.2).getD j 0))))
theorem kS_aa : ∀ k, k < 6 → kS_sub kS_fl (kS_A k) = true := by decide +kernel
theorem kS_7 : ∀ k, k < 6 → Cond.arrayOf (kS_ar k) .int ∈ kS_fl := fun k hk => kS_sub_mem _ _ (kS_aa k hk) _ (.head _)
theorem kS_8 : ∀ k, k < 6 → Cond.eq (.length (kS_ar k)) (.int (Int32.ofNat 10)) ∈ kS_fl := fun k hk => kS_sub_mem _ _ (kS_aa k hk) _ (.tail _ (.head _))
theorem kS_9 : ∀ k, k < 6 → ∀ j, j < 10 → Cond.eq (.elem (kS_ar k) (.int (Int32.ofNat j))) (.int (mm_i (((mm_ct.getD k ("", "", [])).2.2).getD j 0))) ∈ kS_fl := fun k hk j hj => kS_sub_mem _ _ (kS_aa k hk) _ (.tail _ (.tail _ (List.mem_map.mpr ⟨j, List.mem_range.mpr hj, rfl⟩)))
theorem kS_10 : Cond.eq (.static "java/lang/String" "COMPACT_STRINGS" "Z") (.int 1) ∈ kS_fl := by decide +kernel
theorem kS_11 : ∀ j, j < 3 → Cond.isRef (.static (mm_zq.getD j ("", "", "")).1 (mm_zq.getD j ("", "", "")).2.1 (mm_zq.getD j ("", "", "")).2.2) ∈ kS_fl := by decide +kernel
theorem kS_w1 : ∀ k, k < 37 → Cond.stringRef (mm_sc.getD k mm_sd).1 (mm_sc.getD k mm_sd).2.1 (mm_sc.getD k mm_sd).2.2.1 ∈ lw_tbl := by
  intro k hk
  match k, hk with
  | 0, _ => exact (mm_wq 2 129 rfl).1
  | 1, _ => exact (mm_wq 3 2 rfl).1
  | 2, _ => exact (mm_wq 3 13 rfl).1
  | 3, _ => exact (mm_wq 3 14 rfl).1
  | 4, _ => exact (mm_wq 3 17 rfl).1
  | 5, _ => exact (mm_wq 3 26 rfl).1
  | 6, _ => exact (mm_wq 3 27 rfl).1
  | 7, _ => exact (mm_wq 7 85 rfl).1
  | 8, _ => exact (mm_wq 7 92 rfl).1
  | 9, _ => exact (mm_wq 7 93 rfl).1
  | 10, _ => exact (mm_wq 7 94 rfl).1
  | 11, _ => exact (mm_wq 7 95 rfl).1
  | 12, _ => exact (mm_wq 7 96 rfl).1
  | 13, _ => exact (mm_wq 7 97 rfl).1
  | 14, _ => exact (mm_wq 7 98 rfl).1
  | 15, _ => exact (mm_wq 7 99 rfl).1
  | 16, _ => exact (mm_wq 7 100 rfl).1
  | 17, _ => exact (mm_wq 7 101 rfl).1
  | 18, _ => exact (mm_wq 7 102 rfl).1
  | 19, _ => exact (mm_wq 7 139 rfl).1
  | 20, _ => exact (mm_wq 7 148 rfl).1
  | 21, _ => exact (mm_wq 7 149 rfl).1
  | 22, _ => exact (mm_wq 7 150 rfl).1
  | 23, _ => exact (mm_wq 7 151 rfl).1
  | 24, _ => exact (mm_wq 7 152 rfl).1
  | 25, _ => exact (mm_wq 7 153 rfl).1
  | 26, _ => exact (mm_wq 7 154 rfl).1
  | 27, _ => exact (mm_wq 7 156 rfl).1
  | 28, _ => exact (mm_wq 7 157 rfl).1
  | 29, _ => exact (mm_wq 7 162 rfl).1
  | 30, _ => exact (mm_wq 7 163 rfl).1
  | 31, _ => exact (mm_wq 7 164 rfl).1
  | 32, _ => exact (mm_wq 7 165 rfl).1
  | 33, _ => exact (mm_wq 7 166 rfl).1
  | 34, _ => exact (mm_wq 7 171 rfl).1
  | 35, _ => exact (mm_wq 7 172 rfl).1
  | 36, _ => exact (mm_wq 7 173 rfl).1
  | k + 37, h => exact absurd h (by omega)
theorem kS_w2 : ∀ k, k < 6 → Cond.laysStatic (mm_ct.getD k ("", "", [])).1 (mm_ct.getD k ("", "", [])).2.1 "[I" ∈ lw_tbl := by
  intro k hk
  match k, hk with
  | 0, _ => exact (mm_wq 2 207 rfl).1
  | 1, _ => exact (mm_wq 2 209 rfl).1
  | 2, _ => exact (mm_wq 0 82 rfl).1
  | 3, _ => exact (mm_wq 5 183 rfl).1
  | 4, _ => exact (mm_wq 7 120 rfl).1
  | 5, _ => exact (mm_wq 7 122 rfl).1
  | k + 6, h => exact absurd h (by omega)
theorem kS_w3 : ∀ k, k < 6 → Cond.initialized (mm_ct.getD k ("", "", [])).1 ∈ lw_tbl := by
  intro k hk
  match k, hk with
  | 0, _ => exact (mm_wq 0 3 rfl).1
  | 1, _ => exact (mm_wq 0 3 rfl).1
  | 2, _ => exact (mm_wq 0 3 rfl).1
  | 3, _ => exact (mm_wq 0 16 rfl).1
  | 4, _ => exact (mm_wq 0 16 rfl).1
  | 5, _ => exact (mm_wq 0 16 rfl).1
  | k + 6, h => exact absurd h (by omega)
theorem kS_w4 : ∀ k, k < 3 → Cond.laysStatic (mm_zq.getD k ("", "", "")).1 (mm_zq.getD k ("", "", "")).2.1 (mm_zq.getD k ("", "", "")).2.2 ∈ lw_tbl := by
  intro k hk
  match k, hk with
  | 0, _ => exact (mm_wq 2 159 rfl).1
  | 1, _ => exact (mm_wq 5 145 rfl).1
  | 2, _ => exact (mm_wq 5 143 rfl).1
  | k + 3, h => exact absurd h (by omega)
theorem kS_w5 : ∀ k, k < 3 → Cond.initialized (mm_zq.getD k ("", "", "")).1 ∈ lw_tbl := by
  intro k hk
  match k, hk with
  | 0, _ => exact (mm_wq 0 22 rfl).1
  | 1, _ => exact (mm_wq 0 17 rfl).1
  | 2, _ => exact (mm_wq 0 17 rfl).1
  | k + 3, h => exact absurd h (by omega)
theorem kS_w6 : ∀ q ∈ mm_nw, Cond.methodLinkNest q.1 q.2.1 q.2.2.1 q.2.2.2 ∈ lw_tbl := by
  intro q hq
  unfold mm_nw at hq
  simp only [List.mem_cons, List.mem_nil_iff, or_false] at hq
  rcases hq with rfl | rfl | rfl | rfl
  · exact List.mem_append_right _ (mm_chunk 3 (List.mem_of_getElem? (i := 41) rfl))
  · exact List.mem_append_right _ (mm_chunk 5 (List.mem_of_getElem? (i := 85) rfl))
  · exact List.mem_append_right _ (mm_chunk 2 (List.mem_of_getElem? (i := 203) rfl))
  · exact List.mem_append_right _ (mm_chunk 0 (List.mem_of_getElem? (i := 35) rfl))
theorem kS_w7 : Cond.arrayOver (.object "KitePower$Row") ∈ lw_tbl := List.mem_append_right _ (mm_chunk 0 (List.mem_of_getElem? (i := 212) rfl))
end
/-! E6.start -/
section
/-! ===== the law from its entry ===== -/
section
variable {X : mm_X} {nm : String} {hs : List (Nat × Nat × Nat × Nat)} {M : mm_M}
theorem kL_start (hX : ∀ i, mm_R (X.2 i)) (hb : X.1 ≤ 3584) (H : ∀ (j : Nat) M, 7 * j + 7 ≤ X.1 → kR M → (j = 0 → kx_C0 M) → kAt X M) : mm_J X (Y_L nm hs) 0 243 0 0 [(2, -1), (9, 0), (9, 0), (9, 0)] [] M (fun r _ => r = (0, 1)) := by
  refine mm_new' (n := 0) dL_law_0 rfl rfl nw_L_7 ⟨by decide, by decide, by decide +kernel, by decide +kernel, by decide +kernel⟩ (fun M0 hM0 => ?_)
  refine mm_dup dL_law_3 rfl (by simp) ?_
  refine mm_I0g (c := 0) (n := 1) (n' := 183) dL_law_4 rfl li_L_9 rfl ⟨by decide, by decide, by decide, by decide +kernel, by decide +kernel, by decide +kernel⟩ rfl rfl rfl (c_X11_init (by intro b; rw [hM0, mm_z_0])) ?_
  rintro _ M4 ⟨rfl, hC⟩
  change mm_J _ _ _ _ _ _ _ _ _ _
  refine mm_astore_n dL_law_7 rfl (Nat.le_of_ble_eq_true rfl) rfl ?_
  refine mm_new' (n := 183) dL_law_8 rfl rfl nw_L_10 ⟨by decide, by decide, by decide +kernel, by decide +kernel, by decide +kernel⟩ (fun M8 hM8 => ?_)
  refine mm_dup dL_law_11 rfl (by simp) ?_
  refine mm_I0g (c := 183) (n := 184) (n' := 243) dL_law_12 rfl lm_L_12 rfl ⟨by decide, by decide, by decide, by decide +kernel, by decide +kernel, by decide +kernel⟩ rfl rfl rfl (c_M_init (by intro b; rw [hM8, mm_z_0]) (by intro c i hc hne; rw [hM8, mm_z_n (by omega)]; exact hC.1 c i hc hne)) ?_
  rintro _ M12 ⟨rfl, hRf, hfr, hR0⟩
  change mm_J _ _ _ _ _ _ _ _ _ _
  refine mm_astore_n dL_law_15 rfl (Nat.le_of_ble_eq_true rfl) rfl ?_
  refine mm_iconst dL_law_16 rfl ?_
  refine mm_istore_n dL_law_17 rfl (Nat.le_of_ble_eq_true rfl) rfl ?_
  have hC2 : kx_C0 M12 := kx_C0.fr (fun a ha => by rw [hfr a ha, hM8, mm_z_n (by omega)]) hC
  exact kL_loop hX hb H (fun _ => rfl) 0 (by decide) M12 (kx_agree hRf hC2 hR0) (fun _ => hC2)
end
/-- a text that is a constant, out of the premises -/
theorem kS_str {args : Array Value} {s : State} {t : Term} {N : Nat} {f : Nat → Int32} {A : Nat → Prop} (hN : N < 2 ^ 31) (hex : (Cond.exactly t "java/lang/String").before args s = true) (hco : (Cond.eq (.field t "java/lang/String" "coder" "B") (.int 0)).before args s = true)
    (har : (Cond.arrayOf (.field t "java/lang/String" "value" "[B") .byte).before args s = true) (hle : (Cond.eq (.length (.field t "java/lang/String" "value" "[B")) (.int (Int32.ofNat N))).before args s = true)
    (hel : ∀ j : Nat, j < N → (Cond.eq (.elem (.field t "java/lang/String" "value" "[B") (.int (Int32.ofNat j))) (.int (f j))).before args s = true) (hA : ∀ a : Nat, a < s.heap.size → ¬ A a) :
    ∃ q : Nat × Nat, t.eval args s none [] s = some (.ref q.1) ∧ va_O "java/lang/String" q.1 A s s.heap ∧ va_OF "java/lang/String" "coder" "B" (.int 0) q.1 A s s.heap ∧ va_OF "java/lang/String" "value" "[B" (.ref q.2) q.1 A s s.heap ∧ va_T .byte q.2 N (fun j => .int (f j)) A s s.heap := by
  obtain ⟨a, c, cl, k, q1, q2, q3, q4, q5, q6, -⟩ := Cond.exactly_spec (args := args) (first := s) (o := none) (s := s) (idx := []) hex
  obtain ⟨w, hw, hT⟩ := va_Tof (f := fun j => .int (f j)) (A := A) hN har (va_eqt hle) (fun j hj => va_eqt (hel j hj)) hA
  refine ⟨(a, w), q1, ⟨cl, q3, q5, ?_, hA a (Array.getElem?_eq_some_iff.mp q3).1⟩, vk_OFof q1 (va_eqt hco) hA, vk_OFof q1 hw hA, hT⟩
  rw [q6]; exact q2
theorem kS_kn {s : State} {args : Array Value} (hts : ∀ w ∈ lw_tbl, w.before args s = true) : ∀ k : Nat, ∃ q : ClassId × (Nat → Nat), ∀ r : vw_C, vwCl[k]? = some r → u_Kn s r.1 r.2.1 r.2.2 q.1 q.2 := by
  intro k
  match k with
  | 0 =>
    obtain ⟨c, i, h⟩ := u_known (C := RX0) (T := TX0) (N := 9) (n := 9) hts (fun w hw => (in_X0 w hw).1) (hts _ (mm_wq 0 147 rfl).1)
    exact ⟨(c, i), fun r hr => by cases hr; exact h⟩
  | 1 =>
    obtain ⟨c, i, h⟩ := u_known (C := RX1) (T := TX1) (N := 6) (n := 6) hts (fun w hw => (in_X1 w hw).1) (hts _ (mm_wq 1 178 rfl).1)
    exact ⟨(c, i), fun r hr => by cases hr; exact h⟩
  | 2 =>
    obtain ⟨c, i, h⟩ := u_known (C := RX2) (T := TX2) (N := 12) (n := 12) hts (fun w hw => (in_X2 w hw).1) (hts _ (mm_wq 1 129 rfl).1)
    exact ⟨(c, i), fun r hr => by cases hr; exact h⟩
  | 3 =>
    obtain ⟨c, i, h⟩ := u_known (C := RX3) (T := TX3) (N := 10) (n := 10) hts (fun w hw => (in_X3 w hw).1) (hts _ (mm_wq 0 206 rfl).1)
    exact ⟨(c, i), fun r hr => by cases hr; exact h⟩
  | 4 =>
    obtain ⟨c, i, h⟩ := u_known (C := RX4) (T := TX4) (N := 8) (n := 8) hts (fun w hw => (in_X4 w hw).1) (hts _ (mm_wq 0 72 rfl).1)
    exact ⟨(c, i), fun r hr => by cases hr; exact h⟩
  | 5 =>
    obtain ⟨c, i, h⟩ := u_known (C := RX5) (T := TX5) (N := 2) (n := 2) hts (fun w hw => (in_X5 w hw).1) (hts _ (mm_wq 1 207 rfl).1)
    exact ⟨(c, i), fun r hr => by cases hr; exact h⟩
  | 6 =>
    obtain ⟨c, i, h⟩ := u_known (C := RX6) (T := TX6) (N := 18) (n := 18) hts (fun w hw => (in_X6 w hw).1) (hts _ (mm_wq 0 214 rfl).1)
    exact ⟨(c, i), fun r hr => by cases hr; exact h⟩
  | 7 =>
    obtain ⟨c, i, h⟩ := u_known (C := RX7) (T := TX7) (N := 13) (n := 13) hts (fun w hw => (in_X7 w hw).1) (hts _ (mm_wq 1 222 rfl).1)
    exact ⟨(c, i), fun r hr => by cases hr; exact h⟩
  | 8 =>
    obtain ⟨c, i, h⟩ := u_known (C := RX8) (T := TX8) (N := 10) (n := 10) hts (fun w hw => (in_X8 w hw).1) (hts _ (mm_wq 1 36 rfl).1)
    exact ⟨(c, i), fun r hr => by cases hr; exact h⟩
  | 9 =>
    obtain ⟨c, i, h⟩ := u_known (C := RX9) (T := TX9) (N := 4) (n := 4) hts (fun w hw => (in_X9 w hw).1) (hts _ (mm_wq 0 186 rfl).1)
    exact ⟨(c, i), fun r hr => by cases hr; exact h⟩
  | 10 =>
    obtain ⟨c, i, h⟩ := u_known (C := RX10) (T := TX10) (N := 8) (n := 8) hts (fun w hw => (in_X10 w hw).1) (hts _ (mm_wq 0 34 rfl).1)
    exact ⟨(c, i), fun r hr => by cases hr; exact h⟩
  | 11 =>
    obtain ⟨c, i, h⟩ := u_known (C := RX11) (T := TX11) (N := 15) (n := 15) hts (fun w hw => (in_X11 w hw).1) (hts _ (mm_wq 0 26 rfl).1)
    exact ⟨(c, i), fun r hr => by cases hr; exact h⟩
  | 12 =>
    obtain ⟨c, i, h⟩ := u_known (C := RX12) (T := TX12) (N := 6) (n := 6) hts (fun w hw => (in_X12 w hw).1) (hts _ (mm_wq 5 119 rfl).1)
    exact ⟨(c, i), fun r hr => by cases hr; exact h⟩
  | 13 =>
    obtain ⟨c, i, h⟩ := u_known (C := RX13) (T := TX13) (N := 110) (n := 110) hts (fun w hw => (in_X13 w hw).1) (hts _ (mm_wq 5 113 rfl).1)
    exact ⟨(c, i), fun r hr => by cases hr; exact h⟩
  | k + 14 => exact ⟨(0, fun _ => 0), fun r hr => by simp [vwCl] at hr⟩
theorem kS_k {s : State} {args : Array Value} (hts : ∀ w ∈ lw_tbl, w.before args s = true) : ∃ (D : va_G) (cA : Nat → ClassId), va_K D vwCl (mm_ty cA) s := by
  obtain ⟨d, hd⟩ := Classical.axiomOfChoice (kS_kn hts)
  obtain ⟨c0, k0, p0, f0, g0, h0⟩ := Cond.arrayClass_spec (hts (.arrayClass .int) ac_0.1)
  obtain ⟨c1, k1, p1, f1, g1, h1⟩ := Cond.arrayClass_spec (hts (.arrayClass .byte) ac_1.1)
  obtain ⟨c2, k2, p2, f2, g2, h2⟩ := Cond.arrayClass_spec (hts (.arrayClass .boolean) ac_2.1)
  obtain ⟨c3, k3, p3, f3, g3, h3⟩ := Cond.arrayClass_spec (hts (.arrayClass .long) ac_3.1)
  obtain ⟨p4, c4, k4, e4, -, g4, h4, f4⟩ := Cond.arrayOver_spec (hts _ kS_w7)
  refine ⟨(fun k => (d k).1, fun k => (d k).2), fun k => if k = 0 then c0 else if k = 1 then c1 else if k = 2 then c2 else if k = 3 then c3 else c4, fun k q hq => hd k q hq, ?_⟩
  intro k q hq
  match k, hq with
  | 0, hq => cases hq; exact ⟨fun n z => ⟨fun k h => (by cases h), k0, g0, p0, h0⟩, f0⟩
  | 1, hq => cases hq; exact ⟨fun n z => ⟨fun k h => (by cases h), k1, g1, p1, h1⟩, f1⟩
  | 2, hq => cases hq; exact ⟨fun n z => ⟨fun k h => (by cases h), k2, g2, p2, h2⟩, f2⟩
  | 3, hq => cases hq; exact ⟨fun n z => ⟨fun k h => (by cases h), k3, g3, p3, h3⟩, f3⟩
  | 4, hq => cases hq; exact ⟨fun n z => ⟨fun k h => (by cases h), k4, g4, p4, h4⟩, k4, p4, g4, h4, e4, f4⟩
  | k + 5, hq => simp [mm_ty] at hq
theorem kS_ro {s : State} {b L : Nat} {xs : Nat → Int32} (hts : ∀ w ∈ lw_tbl, w.before #[Value.ref b] s = true) (hX : va_X b L xs s s.heap) (hbl : b < s.heap.size) (hgv : (Jvm.Cond.and given_1 narrow_1).before #[Value.ref b] s = true) :
    ∃ ro : Nat → Nat, ro 1 = b ∧ mm_Ro (L, fun j => (xs j).toInt) s.heap.size ro s := by
  have hs := flat_of_before _ hgv
  have hA : ∀ a : Nat, a < s.heap.size → ¬ (fun q => s.heap.size ≤ q) a := fun a ha => Nat.not_le.mpr ha
  have u1 : ∀ k : Nat, ∃ t : Nat, k < 6 → va_Z (mm_ct.getD k ("", "", [])).1 (mm_ct.getD k ("", "", [])).2.1 "[I" (.ref t) (fun q => s.heap.size ≤ q) s s.heap ∧ va_T .int t 10 (fun j => .int (mm_i (((mm_ct.getD k ("", "", [])).2.2).getD j 0))) (fun q => s.heap.size ≤ q) s s.heap := by
    intro k
    by_cases hk : k < 6
    · obtain ⟨t, ht, hT⟩ := va_Tof (f := fun j => .int (mm_i (((mm_ct.getD k ("", "", [])).2.2).getD j 0))) (A := fun q => s.heap.size ≤ q) (by decide) (hs _ (kS_7 k hk)) (va_eqt (hs _ (kS_8 k hk))) (fun j hj => va_eqt (hs _ (kS_9 k hk j hj))) hA
      exact ⟨t, fun _ => ⟨va_Zref (hts _ (kS_w2 k hk)) (hts _ (kS_w3 k hk)) ht hA, hT⟩⟩
    · exact ⟨0, fun h => absurd h hk⟩
  have u2 : ∀ k : Nat, ∃ q : Nat × Nat, k < 37 → (kS_tm k).eval #[Value.ref b] s none [] s = some (.ref q.1) ∧ va_O "java/lang/String" q.1 (fun q => s.heap.size ≤ q) s s.heap ∧ va_OF "java/lang/String" "coder" "B" (.int 0) q.1 (fun q => s.heap.size ≤ q) s s.heap ∧ va_OF "java/lang/String" "value" "[B" (.ref q.2) q.1 (fun q => s.heap.size ≤ q) s s.heap ∧
      va_T .byte q.2 (mm_sc.getD k mm_sd).2.2.2.length (fun j => .int (mm_i ((mm_sc.getD k mm_sd).2.2.2.getD j 0))) (fun q => s.heap.size ≤ q) s s.heap := by
    intro k
    by_cases hk : k < 37
    · obtain ⟨q, h⟩ := kS_str (f := fun j => mm_i ((mm_sc.getD k mm_sd).2.2.2.getD j 0)) (A := fun q => s.heap.size ≤ q) (kS_6 k hk) (hs _ (kS_1 k hk)) (hs _ (kS_2 k hk)) (hs _ (kS_3 k hk)) (hs _ (kS_4 k hk)) (fun j hj => hs _ (kS_5 k hk j hj)) hA
      exact ⟨q, fun _ => h⟩
    · exact ⟨(0, 0), fun h => absurd h hk⟩
  have u3 : ∀ j : Nat, ∃ t : Nat, j < 3 → va_Z (mm_zq.getD j ("", "", "")).1 (mm_zq.getD j ("", "", "")).2.1 (mm_zq.getD j ("", "", "")).2.2 .null (fun q => s.heap.size ≤ q) s s.heap ∨ va_Z (mm_zq.getD j ("", "", "")).1 (mm_zq.getD j ("", "", "")).2.1 (mm_zq.getD j ("", "", "")).2.2 (.ref t) (fun q => s.heap.size ≤ q) s s.heap := by
    intro j
    by_cases hj : j < 3
    · rcases va_Zqof (A := fun q => s.heap.size ≤ q) (hts _ (kS_w4 j hj)) (hts _ (kS_w5 j hj)) (hs _ (kS_11 j hj)) hA with h | ⟨t, h⟩
      · exact ⟨0, fun _ => Or.inl h⟩
      · exact ⟨t, fun _ => Or.inr h⟩
    · exact ⟨0, fun h => absurd h hj⟩
  obtain ⟨a1, h1⟩ := Classical.axiomOfChoice u1
  obtain ⟨a2, h2⟩ := Classical.axiomOfChoice u2
  obtain ⟨a3, h3⟩ := Classical.axiomOfChoice u3
  obtain ⟨ro, hro⟩ : ∃ ro : Nat → Nat, ro = fun x => if x = 1 then b else if x < 50 then a1 (x - 2) else if x < 100 then a3 (x - 50) else if x < 200 then (a2 (x - 100)).1 else (a2 (x - 200)).2 := ⟨_, rfl⟩
  have r1 : ro 1 = b := by rw [hro]; rfl
  have r2 : ∀ k, k < 6 → ro (k + 2) = a1 k := by
    intro k hk; rw [hro]; simp only []
    rw [if_neg (by omega), if_pos (by omega), show k + 2 - 2 = k by omega]
  have r3 : ∀ j, j < 3 → ro (50 + j) = a3 j := by
    intro k hk; rw [hro]; simp only []
    rw [if_neg (by omega), if_neg (by omega), if_pos (by omega), show 50 + k - 50 = k by omega]
  have r4 : ∀ k, k < 37 → ro (k + 100) = (a2 k).1 := by
    intro k hk; rw [hro]; simp only []
    rw [if_neg (by omega), if_neg (by omega), if_neg (by omega), if_pos (by omega), show k + 100 - 100 = k by omega]
  have r5 : ∀ k, k < 37 → ro (k + 200) = (a2 k).2 := by
    intro k hk; rw [hro]; simp only []
    rw [if_neg (by omega), if_neg (by omega), if_neg (by omega), if_neg (by omega), show k + 200 - 200 = k by omega]
  clear hro
  refine ⟨ro, r1, ?_, ?_, ?_, ?_, ?_, ?_, ?_⟩
  · obtain ⟨scr, q1, q2, q3, q4, q5⟩ := hX
    rw [r1]
    refine ⟨scr, q1, q2, q3, by rw [q4]; exact Nat.le_refl _, by rw [q4], ?_, hA b hbl⟩
    intro j hj
    rw [q5 j hj]
    have e : mm_i ((xs j).toInt) = xs j := by unfold mm_i; exact Int32.ofInt_toInt _
    show some (Value.int (xs j)) = some (.int (mm_i ((xs j).toInt)))
    rw [e]
  · intro k hk
    rw [r2 k hk]
    refine ⟨(h1 k hk).1, ?_⟩
    match k, hk, (h1 k hk).2 with
    | 0, _, h => exact h
    | 1, _, h => exact h
    | 2, _, h => exact h
    | 3, _, h => exact h
    | 4, _, h => exact h
    | 5, _, h => exact h
    | k + 6, hk, _ => exact absurd hk (by omega)
  · exact va_Zof (hts _ (mm_wq 2 143 rfl).1) (hts _ (mm_wq 0 20 rfl).1) (va_eqt (hs _ kS_10)) hA
  · intro k hk
    rw [r4 k hk, r5 k hk]
    obtain ⟨g1, g2, g3, g4, g5⟩ := h2 k hk
    exact ⟨vk_R.of (hts _ (kS_w1 k hk)) g1, g2, g3, g4, g5⟩
  · intro q hq
    exact va_Nw.of rfl (hts _ (kS_w6 q hq))
  · exact va_AO.of (hts _ kS_w7)
  · intro j hj
    rw [r3 j hj]
    exact h3 j hj
end
/-! E7.whole -/
section
/-! ===== the claim's own words (the skeleton's), and the law from its entry ===== -/
def R_law : String := "KitePowerLaw"
def lw_P (b : Addr) (xs : List Int32) (args : Array Value) (s : State) : Prop := args = #[.ref b] ∧ s.IntsAt b xs ∧ xs.length ≤ 3584 ∧ (Jvm.Cond.and given_1 narrow_1).before args s = true
def lw_Q (_ : Array Value) (s : State) (o : Outcome) (t : State) : Prop := o = .returned (some (.int 1)) ∧ Framed s o t [] 601024 7293034
def lw_Z (below : List Frame) (a : Array Value) (s : State) : State → Prop := fun t => ∃ o, t.status = .running ∧ Ended t below o ∧ lw_Q a s o t
/-- the law's own end, with 1 on the stack, nothing written that was there before, its room as the claim has it -/
theorem lw_ret {p : Program} {l : Launch} {e : Env} {s : State} {m : MethodId} {below : List Frame} {meth : Method} {c : Code} {b : Nat} (hx : p.tables.exec = Jvm.exec) (hb : c.code = code) (hr : meth.sig.returnType = ret) (hlocks : meth.locks = false) {pc : Nat} {H : Heap} {ls : Array Slot} (hdg : decode code pc = .ok (.ireturn, 1)) : W p l e room_1 s m #[Value.ref b] below meth c H [] 601024 7293034 (lw_Z below #[Value.ref b] s) (F0 m pc ls [.int 1]) := by
  intro T hT X
  obtain ⟨fs, hret, hrun, hended, hW, hframe⟩ := X.leave (v := some (.int 1)) (hlocks := hlocks) (fun h => by rw [hr] at h; cases h)
  have hmeth' : T.vm.method? m = some meth := X.method'
  refine ⟨T.setFrames fs, ?_, .returned (some (.int 1)), hrun, hended, rfl, ⟨_, rfl⟩, hW, hframe⟩
  jvm_step X.here [X.here.top, hx, hb, hdg, hmeth', hr, ret, narrow_b1]
  (try refine ⟨rfl, ?_⟩); (try refine ⟨rfl, ?_⟩)
  first | (intro acts; rw [hret _ acts rfl rfl rfl]) | rw [hret _ _ rfl rfl rfl]
  exact Steps.refl _
/-- what holds at the law's entry: the machine, the code, the tables' words (any of lw_tbl by 'hts w (by decide +kernel)'), the script of L ints xs at the cell b, what the Statement gives of the start (any of its parts by flat_of_before) -/
def lw_At (p : Program) (s : State) (m : MethodId) (meth : Method) (c : Code) (b L : Nat) (xs : Nat → Int32) : Prop :=
  p.tables.exec = Jvm.exec ∧ c.code = code ∧ meth.sig.returnType = ret ∧ c.maxLocals = 4 ∧ s.vm.findClass R_law = some m.cls ∧ (∀ w ∈ lw_tbl, w.before #[Value.ref b] s = true) ∧ va_X b L xs s s.heap ∧ b < s.heap.size ∧ meth.locks = false ∧ (Jvm.Cond.and given_1 narrow_1).before #[Value.ref b] s = true
theorem kL_whole (H : ∀ X : mm_X, (∀ i, mm_R (X.2 i)) → X.1 ≤ 3584 → ∀ (j : Nat) M, 7 * j + 7 ≤ X.1 → kR M → (j = 0 → kx_C0 M) → kAt X M) {p : Program} {e : Env} {s : State} {m : MethodId} {below : List Frame} {meth : Method} {c : Code} (l : Launch) {b L : Nat} {xs : Nat → Int32} (hL : L ≤ 3584) (C0 : lw_At p s m meth c b L xs) : W p l e room_1 s m #[Value.ref b] below meth c s.heap [] 0 0 (lw_Z below #[Value.ref b] s) (entryFrame m ([Value.ref b] : List Value).toArray 4) := by
  obtain ⟨hx, hb, hr, hml, hown, hts, hX, hbl, hlocks, hgv⟩ := id C0
  obtain ⟨D, cA, hK⟩ := kS_k hts
  obtain ⟨ro, hro, hRo⟩ := kS_ro hts hX hbl hgv
  obtain ⟨X, hXe⟩ : ∃ X : mm_X, X = (L, fun j => (xs j).toInt) := ⟨_, rfl⟩
  rw [← hXe] at hRo
  have hXR : ∀ i, mm_R (X.2 i) := by
    intro i
    rw [hXe]
    have h1 := Int32.le_toInt (xs i)
    have h2 := Int32.toInt_lt (xs i)
    show mm_R ((xs i).toInt)
    unfold mm_R
    omega
  have hXL : X.1 ≤ 3584 := by rw [hXe]; exact hL
  obtain ⟨hs, hhs⟩ : ∃ hs, hs = c.exceptionTable.toList.map (fun h => (h.startPc, h.endPc, h.handlerPc, h.catchType)) := ⟨_, rfl⟩
  have hJ := kL_start (X := X) (nm := meth.name) (hs := hs) (M := fun _ _ => 0) hXR (by omega) (H X hXR hXL)
  have Cx : mm_Cx X (Y_L meth.name hs) 0 243 p room_1 s m #[Value.ref b] meth c D cA s.heap.size ro := by
    refine ⟨hx, hb, hr, hml, hown, fun w hw _ => hts w hw, hlocks, rfl, hhs.symm, Nat.le_of_ble_eq_true rfl, Nat.le_of_ble_eq_true rfl, by decide, by decide +kernel, hK, hRo, rfl⟩
  have hP : mm_Wd D cA s.heap.size ro 0 (fun _ _ => 0) s.heap := ⟨rfl, fun c hc => absurd hc (by omega)⟩
  have key := hJ p l e room_1 s m #[Value.ref b] below meth c D cA s.heap.size ro s.heap [] _ Cx hP va_S.rf (mm_entry s.heap.size ro [(2, -1)] (by simp) (Nat.le_of_ble_eq_true rfl))
  have ev : ([(2, -1)] : List mm_V).map (mm_v s.heap.size ro) = [.ref b] := by
    show [mm_rf s.heap.size ro (-1)] = _
    unfold mm_rf mm_ad
    rw [if_neg (by decide), if_neg (by decide)]
    show [Value.ref (ro 1)] = _
    rw [hro]
  rw [ev, List.map_nil, ← lg_entry_eq] at key
  refine mm_mono key ?_
  rintro t ⟨o, r, M', Lc, k1, k2, k3, k4, k5, k6, k7, k8, k9⟩
  have k4 : r = (0, 1) := k4
  subst k4
  have ho : o = .returned (some (.int 1)) := k3
  subst ho
  refine ⟨_, k1, k2, rfl, ⟨_, rfl⟩, k7, ?_⟩
  obtain ⟨z1, z2, z3, z4, z5, z6⟩ := k8
  refine ⟨z1, z2, Nat.le_trans z3 (by omega), z4, Nat.le_trans z5 (by decide +kernel), ?_⟩
  intro a cl ha
  obtain ⟨c', y1, y2, y3, y4⟩ := z6 a cl ha
  refine ⟨c', y1, y2, y3, fun i _ => y4 i (fun hin => ?_)⟩
  have hlt : a < s.heap.size := (Array.getElem?_eq_some_iff.mp ha).1
  exact absurd (k9 _ hin) (Nat.not_le.mpr hlt)
end
/-! F0.calls1 -/
section
/-! ===== calls side by side: those that only tell, and small ones ===== -/
theorem kw_last_cg {P Q : Nat → Prop} {_ : ∀ i, Decidable (P i)} {_ : ∀ i, Decidable (Q i)} {v w : Nat → Int} : ∀ {n : Nat}, (∀ i, i < n → (P i ↔ Q i) ∧ v i = w i) → kw_last P v n = kw_last Q w n
  | 0, _ => rfl
  | n + 1, h => by
    unfold kw_last
    have hn := h n (by omega)
    rw [kw_last_cg (fun i hi => h i (by omega))]
    by_cases q : P n
    · rw [if_pos q, if_pos (hn.1.mp q), hn.2]
    · rw [if_neg q, if_neg (fun z => q (hn.1.mpr z))]
section
variable {X : mm_X}
theorem kf_fault : kF1 X Y_X11_fault Y_X13_fault := by
  intro M hR x hx
  obtain ⟨hRf, h1, h2, h3, h4, h5, h6, h7, h8, h9, h10, h11, h12, h13, h14, h15, h16⟩ := id hR
  exact kk_no (c_X11_fault hRf hx) (c_X13_fault hRf hx) (by rw [h2.1, h2.2]) hR
theorem kf_told : kF1 X Y_X11_told Y_X13_told := by
  intro M hR x hx
  obtain ⟨hRf, h1, h2, h3, h4, h5, h6, h7, h8, h9, h10, h11, h12, h13, h14, h15, h16⟩ := id hR
  exact kk_no (c_X11_told hRf h3.1 hx) (c_X13_told hRf h3.2.1 hx) (by rw [h4.2.2.1, h3.w (fun K => ks_told K x) (fun K hK => nk_told hK)]) hR
theorem kf_state : kF2 X Y_X11_state Y_X13_state := by
  intro M hR s x hs hx
  obtain ⟨hRf, h1, h2, h3, h4, h5, h6, h7, h8, h9, h10, h11, h12, h13, h14, h15, h16⟩ := id hR
  exact kk_no (c_X11_state hRf h3.1 hs hx) (c_X13_state hRf h3.2.1 hs hx) (h3.w (fun K => kv_state K s x) (fun _ _ => rfl)) hR
theorem kf_leads : kF2 X Y_X11_leads Y_X13_leads := by
  intro M hR s a hs ha
  obtain ⟨hRf, h1, h2, h3, h4, h5, h6, h7, h8, h9, h10, h11, h12, h13, h14, h15, h16⟩ := id hR
  exact kk_no (c_X11_leads hRf h3.1 hs ha) (c_X13_leads hRf h3.2.1 hs ha) (h3.w (fun K => kv_leads K s a) (fun _ _ => rfl)) hR
theorem kf_pull : kF3 X Y_X11_pull Y_X13_pull := by
  intro M hR s a w hs ha hw
  obtain ⟨hRf, h1, h2, h3, h4, h5, h6, h7, h8, h9, h10, h11, h12, h13, h14, h15, h16⟩ := id hR
  exact kk_no (c_X11_pull hRf h3.1 hs ha hw) (c_X13_pull hRf h3.2.1 hs ha hw) (h3.w (fun K => kv_pull K s a w) (fun _ hK => nk_pull hK)) hR
theorem kf_safe : kF3 X Y_X11_safe Y_X13_safe := by
  intro M hR s a h hs ha hh
  obtain ⟨hRf, h1, h2, h3, h4, h5, h6, h7, h8, h9, h10, h11, h12, h13, h14, h15, h16⟩ := id hR
  refine kk_no (c_X11_safe hRf h3.1 h5.2.2.2.1 hs ha hh) (c_X13_safe hRf h3.2.1 h5.ra hs ha hh) ?_ hR
  rw [h5.2.2.1.1, h5.2.2.1.2]
  exact h3.w (fun K => kv_safe K (M 16) (M 17) s a h) (fun _ hK => nk_kvsafe hK)
theorem kf_gives : kF3 X Y_X11_gives Y_X13_gives := by
  intro M hR s a h hs ha hh
  obtain ⟨hRf, h1, h2, h3, h4, h5, h6, h7, h8, h9, h10, h11, h12, h13, h14, h15, h16⟩ := id hR
  refine kk_no (c_X11_gives hRf h3.1 h5.2.2.2.1 hs ha hh) (c_X13_gives hRf h3.2.1 h5.ra hs ha hh) ?_ hR
  rw [h5.2.2.1.1, h5.2.2.1.2]
  exact h3.w (fun K => kv_gives K (M 16) (M 17) s a h) (fun _ hK => nk_gives hK)
theorem kf_pulls : kF3 X Y_X11_pulls Y_X13_pulls := by
  intro M hR s a h hs ha hh
  obtain ⟨hRf, h1, h2, h3, h4, h5, h6, h7, h8, h9, h10, h11, h12, h13, h14, h15, h16⟩ := id hR
  refine kk_no (c_X11_pulls hRf h3.1 h5.2.2.2.1 h15.2 hs ha hh) (c_X13_pulls hRf h3.2.1 h5.ra (by rw [h15.1]; exact h15.2) hs ha hh) ?_ hR
  rw [h5.2.2.1.1, h15.1]
  exact h3.w (fun K => kv_pulls K (M 16) (M 0 14) s a h) (fun _ hK => nk_pulls hK)
theorem kf_winds : kF3 X Y_X11_winds Y_X13_winds := by
  intro M hR h b k hh hb hk
  obtain ⟨hRf, h1, h2, h3, h4, h5, h6, h7, h8, h9, h10, h11, h12, h13, h14, h15, h16⟩ := id hR
  refine kk_no (c_X11_winds hRf hh hb hk h5.1.2 h5.2.2.2.2.1) (c_X13_winds hRf hh hb hk (by rw [h5.1.1]; exact h5.1.2) h5.2.2.2.2.2.1) ?_ hR
  by_cases q : ks_hr h ∧ (0 ≤ b ∧ b ≤ 4) ∧ (0 ≤ k ∧ k ≤ 999)
  · rw [if_pos q, if_pos q, h5.1.1]
    refine kw_last_cg ?_
    intro i hi
    obtain ⟨g1, g2, g3, g4, g5⟩ := h5.2.2.2.2.2.2 i (by omega)
    rw [g3, g4, g5, g1]
    exact ⟨⟨fun z => ⟨by omega, z.2.2⟩, fun z => ⟨by omega, by omega, z.2⟩⟩, rfl⟩
  · rw [if_neg q, if_neg q]
theorem kf_looped : kF1Z X Y_X11_looped Y_X13_looped := by
  intro M hR x hx
  obtain ⟨hRf, h1, h2, h3, h4, h5, h6, h7, h8, h9, h10, h11, h12, h13, h14, h15, h16⟩ := id hR
  obtain ⟨g1, g2, hz, g3⟩ := id h6
  refine kkZ_no (c_X11_looped hRf hx g1) (c_X13_looped hRf hx hz g2) ?_ hR
  unfold kv_looped
  rcases g3 with z | ⟨a1, a2⟩ | ⟨a1, a2, a3, a4, a5, a6⟩
  · exact Or.inl z
  · exact Or.inr (by rw [if_pos a1, if_pos a2])
  · right
    rw [if_neg (show ¬ M 183 54 = 0 by omega), if_neg (show ¬ M 114 2 = 0 by omega), a3, a4, a5]
    by_cases q : 10 ≤ x ∧ x - 10 < M 114 2
    · rw [if_pos q, if_pos q, a6 (x - 10).toNat (by omega)]
    · rw [if_neg q, if_neg q]
theorem kf_judged : kF1 X Y_X11_judged Y_X13_judged := by
  intro M hR x hx
  obtain ⟨hRf, h1, h2, h3, h4, h5, h6, h7, h8, h9, h10, h11, h12, h13, h14, h15, h16⟩ := id hR
  obtain ⟨g1, g2, g3, g4, g5, g6, g7, g8, g9, g10, g11, g12⟩ := id h8
  refine kk_no (c_X11_judged hRf hx (by unfold mm_R; omega) g2) (c_X13_judged hRf hx g4 g5) ?_ hR
  unfold kv_judged
  by_cases q : M 117 2 = 0
  · rw [if_pos q, if_pos (g9.mp q)]
  · obtain ⟨e1, e2, e3, e4, e5⟩ := g10 q
    rw [if_neg q, if_neg (fun z => q (g9.mpr z)), e1, e2, e3, e4, e5]
theorem kf_flown : kF1 X Y_X11_flown Y_X13_flown := by
  intro M hR x hx
  obtain ⟨hRf, h1, h2, h3, h4, h5, h6, h7, h8, h9, h10, h11, h12, h13, h14, h15, h16⟩ := id hR
  obtain ⟨g1, g2, g3, g4, g5⟩ := id h10
  refine kk_no (c_X11_flown hRf hx g1 g2) (c_X13_flown hRf hx (by rw [g3]; exact g1) g4) ?_ hR
  unfold kv_flown
  rw [g3]
  rcases g1 with g | g
  · rw [if_pos g, if_pos g]
  · obtain ⟨e1, e2, e3, e4, e5⟩ := g5 g
    rw [if_neg (show ¬ M 139 3 = 0 by omega), if_neg (show ¬ M 139 3 = 0 by omega), e1, e2, e3, e4]
    by_cases q : 10 ≤ x ∧ x - 10 < M 139 4
    · rw [if_pos q, if_pos q, e5 (x - 10).toNat (by omega)]
    · rw [if_neg q, if_neg q]
theorem kf_planned : kF1Z X Y_X11_planned Y_X13_planned := by
  intro M hR x hx
  obtain ⟨hRf, h1, h2, h3, h4, h5, h6, h7, h8, h9, h10, h11, h12, h13, h14, h15, h16⟩ := id hR
  obtain ⟨g1, g2, g0, g3⟩ := id h12
  refine kkZ_no (c_X11_planned hRf hx g1 g2) (c_X13_planned hRf hx (by omega) (by unfold mm_R; omega)) ?_ hR
  rcases g3 with z | ⟨a1, a2, a3⟩ | ⟨a1, a2, a3⟩
  · exact Or.inl z
  · exact Or.inr (by rw [if_neg (by omega), if_neg (by omega)])
  · right
    rw [a1, a2]
    by_cases q : M 21 8 ≤ x ∧ x ≤ M 21 9
    · rw [if_pos q, if_pos ⟨by omega, q⟩, a3 x q.1 q.2]
    · rw [if_neg q, if_neg (fun z => q z.2)]
theorem kf_fielded : kF0 X Y_X11_fielded Y_X13_fielded := by
  intro M hR
  obtain ⟨hRf, h1, h2, h3, h4, h5, h6, h7, h8, h9, h10, h11, h12, h13, h14, h15, h16⟩ := id hR
  exact kk_no (c_X11_fielded hRf) (c_X13_fielded hRf) (by rw [h13.2.2.2.2.1]) hR
theorem kf_count : kF1 X Y_X11_count Y_X13_count := by
  intro M hR x hx
  obtain ⟨hRf, h1, h2, h3, h4, h5, h6, h7, h8, h9, h10, h11, h12, h13, h14, h15, h16⟩ := id hR
  refine kk_no (c_X11_count hRf hx) (c_X13_count hRf hx) ?_ hR
  have e0 : M 3 2 = ks_n (M 4) := h3.1.2.1
  unfold kv_count
  rw [h3.n, e0, h5.1.1, h13.2.2.2.1, h14.1.1, h16.2.2.1, h16.2.2.2.1, h11.1, h1.1]
  by_cases q : 10 ≤ x ∧ x ≤ 15
  · have e9 : (fun i : Int => M 216 i.toNat) (x - 10) = (fun i : Int => M (121 + 3 * i.toNat) 2) (x - 10) := (h9 (x - 10).toNat (by omega)).2.1
    rw [if_pos q, if_pos q, e9]
  · rw [if_neg q, if_neg q]
theorem kf_tired : kF1 X Y_X11_tired Y_X13_tired := by
  intro M hR x hx
  obtain ⟨hRf, h1, h2, h3, h4, h5, h6, h7, h8, h9, h10, h11, h12, h13, h14, h15, h16⟩ := id hR
  by_cases q : 0 ≤ x ∧ x ≤ 1000000
  · have c1 := c_X11_tired (X := X) hRf hx
    rw [if_pos q, if_pos q] at c1
    have hRf1 : mm_Rf (mm_up M 0 13 x) := hRf.up rfl
    have c2 := c_X13_tired (X := X) hRf1 hx
    rw [if_pos q, if_pos q] at c2
    have hRf2 : mm_Rf (mm_up (mm_up M 0 13 x) 183 79 x) := hRf1.up rfl
    have e : ∀ a b, ¬ ((a = 0 ∧ b = 13) ∨ (a = 183 ∧ b = 79)) → mm_up (mm_up M 0 13 x) 183 79 x a b = M a b := by
      intro a b z
      rw [mm_up_n (by omega), mm_up_n (by omega)]
    refine kk_fn c1 c2 ?_ ⟨hRf2, h1.fr (fun a b q => e a b (by omega)), h2.fr (fun a b q => e a b (by omega)), h3.fr (fun a b q => e a b (by omega)), h4.fr (fun a b q => e a b (by omega)), h5.fr (fun a b q => e a b (by omega)), h6.fr (fun a b q => e a b (by omega)), h7.fr (fun a b q => e a b (by omega)), h8.fr (fun a b q => e a b (by omega)), h9.fr (fun a b q => e a b (by omega)), h10.fr (fun a b q => e a b (by omega)), ?_, h12.fr (fun a b q => e a b (by omega)), h13.fr (fun a b q => e a b (by omega)), h14.fr (fun a b q => e a b (by omega)), h15.fr (fun a b q => e a b (by omega)), h16.fr (fun a b q => e a b (by omega))⟩
    · rw [mm_up_row (by decide)]; exact h11.1
    · refine ⟨?_, ?_⟩
      · rw [mm_up_s, mm_up_row (by decide), mm_up_s]
      · rw [mm_up_row (by decide), mm_up_s]; exact q
  · have c1 := c_X11_tired (X := X) hRf hx
    rw [if_neg q, if_neg q] at c1
    have c2 := c_X13_tired (X := X) hRf hx
    rw [if_neg q, if_neg q] at c2
    exact kk_no c1 c2 rfl hR
theorem kf_hidden : kF1 X Y_X11_hidden Y_X13_hidden := by
  intro M hR x hx
  obtain ⟨hRf, h1, h2, h3, h4, h5, h6, h7, h8, h9, h10, h11, h12, h13, h14, h15, h16⟩ := id hR
  by_cases q : 0 ≤ x ∧ x ≤ 20
  · have c1 := c_X11_hidden (X := X) hRf hx
    rw [if_pos q, if_pos q] at c1
    have hRf1 : mm_Rf (mm_up M 0 14 x) := hRf.up rfl
    have c2 := c_X13_hidden (X := X) hRf1 hx
    rw [if_pos q, if_pos q] at c2
    have hRf2 : mm_Rf (mm_up (mm_up M 0 14 x) 183 96 x) := hRf1.up rfl
    have e : ∀ a b, ¬ ((a = 0 ∧ b = 14) ∨ (a = 183 ∧ b = 96)) → mm_up (mm_up M 0 14 x) 183 96 x a b = M a b := by
      intro a b z
      rw [mm_up_n (by omega), mm_up_n (by omega)]
    refine kk_fn c1 c2 ?_ ⟨hRf2, h1.fr (fun a b q => e a b (by omega)), h2.fr (fun a b q => e a b (by omega)), h3.fr (fun a b q => e a b (by omega)), h4.fr (fun a b q => e a b (by omega)), h5.fr (fun a b q => e a b (by omega)), h6.fr (fun a b q => e a b (by omega)), h7.fr (fun a b q => e a b (by omega)), h8.fr (fun a b q => e a b (by omega)), h9.fr (fun a b q => e a b (by omega)), h10.fr (fun a b q => e a b (by omega)), h11.fr (fun a b q => e a b (by omega)), h12.fr (fun a b q => e a b (by omega)), h13.fr (fun a b q => e a b (by omega)), h14.fr (fun a b q => e a b (by omega)), ?_, h16.fr (fun a b q => e a b (by omega))⟩
    · rw [mm_up_row (by decide)]; exact h15.1
    · refine ⟨?_, ?_⟩
      · rw [mm_up_s, mm_up_row (by decide), mm_up_s]
      · rw [mm_up_row (by decide), mm_up_s]; exact q
  · have c1 := c_X11_hidden (X := X) hRf hx
    rw [if_neg q, if_neg q] at c1
    have c2 := c_X13_hidden (X := X) hRf hx
    rw [if_neg q, if_neg q] at c2
    exact kk_no c1 c2 rfl hR
end
end
/-! F1.calls2 -/
section
/-! ===== calls side by side: the tape, laws ===== -/
def kb_row (r : Nat → Int) (L v : Int) (j : Nat) : Nat → Int := fun b => if L.toNat ≤ b ∧ b < L.toNat + j then kb v (24 - 8 * ((b : Int) - L)) else r b
theorem kb_add_r {bc lc li j : Nat} {M : mm_M} {v : Int} (h : bc ≠ lc) : kb_add bc lc li M v j bc = kb_row (M bc) (M lc li) v j := by
  funext b
  unfold kb_add kb_row
  rw [if_neg (fun q => h q.1)]
  by_cases q : (M lc li).toNat ≤ b ∧ b < (M lc li).toNat + j
  · rw [if_pos ⟨rfl, q⟩, if_pos q]
  · rw [if_neg (fun z => q z.2), if_neg q]
theorem kb_add_o {bc lc li j a b : Nat} {M : mm_M} {v : Int} (h1 : ¬ (a = lc ∧ b = li)) (h2 : a ≠ bc) : kb_add bc lc li M v j a b = M a b := by
  unfold kb_add
  rw [if_neg h1, if_neg (fun q => h2 q.1)]
def kb_row5 (r : Nat → Int) (L a b c d e : Int) : Nat → Int := kb_row (kb_row (kb_row (kb_row (kb_row r L a 4) (L + 4) b 4) (L + 4 + 4) c 4) (L + 4 + 4 + 4) d 4) (L + 4 + 4 + 4 + 4) e 4
theorem kb_feed_r {bc lc li : Nat} {M : mm_M} {a b c d e : Int} (h : bc ≠ lc) : kb_feed bc lc li M a b c d e bc = kb_row5 (M bc) (M lc li) a b c d e ∧ kb_feed bc lc li M a b c d e lc li = M lc li + 4 + 4 + 4 + 4 + 4 := by
  have l1 : kb_add bc lc li M a 4 lc li = M lc li + 4 := kb_add_l
  have l2 : kb_add bc lc li (kb_add bc lc li M a 4) b 4 lc li = M lc li + 4 + 4 := by rw [kb_add_l, l1]; rfl
  have l3 : kb_add bc lc li (kb_add bc lc li (kb_add bc lc li M a 4) b 4) c 4 lc li = M lc li + 4 + 4 + 4 := by rw [kb_add_l, l2]; rfl
  have l4 : kb_add bc lc li (kb_add bc lc li (kb_add bc lc li (kb_add bc lc li M a 4) b 4) c 4) d 4 lc li = M lc li + 4 + 4 + 4 + 4 := by rw [kb_add_l, l3]; rfl
  unfold kb_feed kb_row5
  refine ⟨?_, by rw [kb_add_l, l4]; rfl⟩
  rw [kb_add_r h, kb_add_r h, kb_add_r h, kb_add_r h, kb_add_r h, l1, l2, l3, l4]
theorem kb_feed_o {bc lc li x y : Nat} {M : mm_M} {a b c d e : Int} (h1 : ¬ (x = lc ∧ y = li)) (h2 : x ≠ bc) : kb_feed bc lc li M a b c d e x y = M x y := by
  unfold kb_feed
  rw [kb_add_o h1 h2, kb_add_o h1 h2, kb_add_o h1 h2, kb_add_o h1 h2, kb_add_o h1 h2]
theorem kb_row_b {r : Nat → Int} {L v : Int} {j : Nat} (h : ∀ k : Nat, k < 800 → -128 ≤ r k ∧ r k ≤ 127) : ∀ k : Nat, k < 800 → -128 ≤ kb_row r L v j k ∧ kb_row r L v j k ≤ 127 := by
  intro k hk
  unfold kb_row
  split
  · exact kb_b _ _
  · exact h k hk
theorem mm_Rf.kbf {M : mm_M} (h : mm_Rf M) {bc lc li len : Nat} {a b c d e : Int} (hb : mm_sh bc = (2, len)) (hl : mm_rt lc li = 0) : mm_Rf (kb_feed bc lc li M a b c d e) := by
  unfold kb_feed
  exact ((((h.kb hb hl).kb hb hl).kb hb hl).kb hb hl).kb hb hl
section
variable {X : mm_X}
theorem kf_feed : kF5 X Y_X11_feed Y_X13_feed := by
  intro M hR a b c d e _ _ _ _ _
  obtain ⟨hRf, h1, h2, h3, h4, h5, h6, h7, h8, h9, h10, h11, h12, h13, h14, h15, h16⟩ := id hR
  by_cases q : M 1 1 + 20 ≤ 800
  · have c1 := c_X11_feed (X := X) (a := a) (b := b) (c := c) (d := d) (e := e) hRf h1.2.1
    rw [if_pos q, if_pos q] at c1
    obtain ⟨M1, hM1⟩ : ∃ N, N = kb_feed 2 1 1 M a b c d e := ⟨_, rfl⟩
    rw [← hM1] at c1
    have hRf1 : mm_Rf M1 := by rw [hM1]; exact hRf.kbf (len := 800) rfl rfl
    have o1 : ∀ x y, ¬ (x = 1 ∧ y = 1) → x ≠ 2 → M1 x y = M x y := by intro x y z1 z2; rw [hM1]; exact kb_feed_o z1 z2
    have r1 := kb_feed_r (bc := 2) (lc := 1) (li := 1) (M := M) (a := a) (b := b) (c := c) (d := d) (e := e) (by decide)
    rw [← hM1] at r1
    have l1 : M1 183 2 = M 1 1 := by rw [o1 183 2 (by omega) (by omega)]; exact h1.1
    have c2 := c_X13_feed (X := X) (M := M1) (a := a) (b := b) (c := c) (d := d) (e := e) hRf1 (by rw [l1]; exact h1.2.1)
    rw [l1, if_pos q, if_pos q] at c2
    obtain ⟨M2, hM2⟩ : ∃ N, N = kb_feed 185 183 2 M1 a b c d e := ⟨_, rfl⟩
    rw [← hM2] at c2
    have hRf2 : mm_Rf M2 := by rw [hM2]; exact hRf1.kbf (len := 800) rfl rfl
    have o2 : ∀ x y, ¬ (x = 183 ∧ y = 2) → x ≠ 185 → M2 x y = M1 x y := by intro x y z1 z2; rw [hM2]; exact kb_feed_o z1 z2
    have r2 := kb_feed_r (bc := 185) (lc := 183) (li := 2) (M := M1) (a := a) (b := b) (c := c) (d := d) (e := e) (by decide)
    rw [← hM2] at r2
    have e : ∀ x y, ¬ ((x = 1 ∧ y = 1) ∨ x = 2 ∨ (x = 183 ∧ y = 2) ∨ x = 185) → M2 x y = M x y := by
      intro x y z
      rw [o2 x y (by omega) (by omega), o1 x y (by omega) (by omega)]
    have e185 : M1 185 = M 185 := funext fun y => o1 185 y (by omega) (by omega)
    have e2 : M2 2 = M1 2 := funext fun y => o2 2 y (by omega) (by omega)
    have e11 : M2 1 1 = M1 1 1 := o2 1 1 (by omega) (by omega)
    refine kk_fn c1 c2 rfl ⟨hRf2, ?_, h2.fr (fun a b q => e a b (by omega)), h3.fr (fun a b q => e a b (by omega)), h4.fr (fun a b q => e a b (by omega)), h5.fr (fun a b q => e a b (by omega)), h6.fr (fun a b q => e a b (by omega)), h7.fr (fun a b q => e a b (by omega)), h8.fr (fun a b q => e a b (by omega)), h9.fr (fun a b q => e a b (by omega)), h10.fr (fun a b q => e a b (by omega)), h11.fr (fun a b q => e a b (by omega)), h12.fr (fun a b q => e a b (by omega)), h13.fr (fun a b q => e a b (by omega)), h14.fr (fun a b q => e a b (by omega)), h15.fr (fun a b q => e a b (by omega)), h16.fr (fun a b q => e a b (by omega))⟩
    refine ⟨?_, ?_, ?_, ?_⟩
    · rw [r2.2, e11, r1.2, l1]
    · rw [e11, r1.2]; have := h1.2.1; omega
    · rw [r2.1, e2, r1.1, e185, l1, h1.2.2.1]
    · rw [e2, r1.1]
      unfold kb_row5
      exact kb_row_b (kb_row_b (kb_row_b (kb_row_b (kb_row_b h1.2.2.2))))
  · have c1 := c_X11_feed (X := X) (a := a) (b := b) (c := c) (d := d) (e := e) hRf h1.2.1
    rw [if_neg q, if_neg q] at c1
    have c2 := c_X13_feed (X := X) (a := a) (b := b) (c := c) (d := d) (e := e) hRf (by rw [h1.1]; exact h1.2.1)
    rw [h1.1, if_neg q, if_neg q] at c2
    exact kk_no c1 c2 rfl hR
theorem kf_end : kF1 X Y_X11_end Y_X13_end := by
  intro M hR x hx
  obtain ⟨hRf, h1, h2, h3, h4, h5, h6, h7, h8, h9, h10, h11, h12, h13, h14, h15, h16⟩ := id hR
  by_cases q : 0 ≤ x ∧ x ≤ M 1 1
  · have c1 := c_X11_end (X := X) hRf hx h1.2.1
    rw [if_pos q, if_pos q] at c1
    have hRf1 : mm_Rf (mm_up M 1 1 x) := hRf.up rfl
    have l1 : mm_up M 1 1 x 183 2 = M 1 1 := by rw [mm_up_row (by decide)]; exact h1.1
    have c2 := c_X13_end (X := X) hRf1 hx (by rw [l1]; exact h1.2.1)
    rw [l1, if_pos q, if_pos q] at c2
    have hRf2 : mm_Rf (mm_up (mm_up M 1 1 x) 183 2 x) := hRf1.up rfl
    have e : ∀ a b, ¬ ((a = 1 ∧ b = 1) ∨ (a = 183 ∧ b = 2)) → mm_up (mm_up M 1 1 x) 183 2 x a b = M a b := by
      intro a b z
      rw [mm_up_n (by omega), mm_up_n (by omega)]
    refine kk_fn c1 c2 rfl ⟨hRf2, ?_, h2.fr (fun a b q => e a b (by omega)), h3.fr (fun a b q => e a b (by omega)), h4.fr (fun a b q => e a b (by omega)), h5.fr (fun a b q => e a b (by omega)), h6.fr (fun a b q => e a b (by omega)), h7.fr (fun a b q => e a b (by omega)), h8.fr (fun a b q => e a b (by omega)), h9.fr (fun a b q => e a b (by omega)), h10.fr (fun a b q => e a b (by omega)), h11.fr (fun a b q => e a b (by omega)), h12.fr (fun a b q => e a b (by omega)), h13.fr (fun a b q => e a b (by omega)), h14.fr (fun a b q => e a b (by omega)), h15.fr (fun a b q => e a b (by omega)), h16.fr (fun a b q => e a b (by omega))⟩
    refine ⟨?_, ?_, ?_, ?_⟩
    · rw [mm_up_s, mm_up_row (by decide), mm_up_s]
    · rw [mm_up_row (by decide), mm_up_s]; have := h1.2.1; omega
    · rw [mm_up_row (by decide), mm_up_row (by decide), mm_up_row (by decide), mm_up_row (by decide)]; exact h1.2.2.1
    · rw [mm_up_row (by decide), mm_up_row (by decide)]; exact h1.2.2.2
  · have c1 := c_X11_end (X := X) hRf hx h1.2.1
    rw [if_neg q, if_neg q] at c1
    have c2 := c_X13_end (X := X) hRf hx (by rw [h1.1]; exact h1.2.1)
    rw [h1.1, if_neg q, if_neg q] at c2
    exact kk_no c1 c2 rfl hR
theorem kf_law : kF3 X Y_X11_law Y_X13_law := by
  intro M hR fr to x hf ht hx
  obtain ⟨hRf, h1, h2, h3, h4, h5, h6, h7, h8, h9, h10, h11, h12, h13, h14, h15, h16⟩ := id hR
  obtain ⟨g1, g2, g3, g4⟩ := id h14
  have c1 := c_X11_law (X := X) hRf hf ht hx g2 g1.2
  by_cases q : ((0 ≤ fr ∧ fr ≤ to ∧ to ≤ 23) ∧ 0 ≤ x ∧ x ≤ 9999) ∧ M 172 0 < 10
  · rw [if_pos q, if_pos q.1, if_pos q.2] at c1
    obtain ⟨M1, hM1⟩ : ∃ N, N = mm_up (fun a b => if a = 173 then kw_roofs (M 173) fr to x b else M a b) 172 0 (M 172 0 + 1) := ⟨_, rfl⟩
    rw [← hM1] at c1
    have o1 : ∀ a b, ¬ (a = 172 ∧ b = 0) → a ≠ 173 → M1 a b = M a b := by intro a b z1 z2; rw [hM1, mm_up_n z1, if_neg z2]
    have e173 : M1 173 = kw_roofs (M 173) fr to x := by rw [hM1, mm_up_row (by decide)]; funext b; rw [if_pos rfl]
    have e172 : M1 172 0 = M 172 0 + 1 := by rw [hM1, mm_up_s]
    have hRf1 : mm_Rf M1 := by
      intro a b hab
      by_cases z1 : a = 172 ∧ b = 0
      · exact absurd (by rw [z1.1, z1.2]; rfl) hab
      · by_cases z2 : a = 173
        · exact absurd (by rw [z2]; exact mm_rt_ar (t := 0) rfl (by decide)) hab
        · rw [o1 a b z1 z2]; exact hRf a b hab
    have l1 : M1 183 92 = M 172 0 := by rw [o1 183 92 (by omega) (by decide)]; exact g1.1
    have c2 := c_X13_law (X := X) hRf1 hf ht hx (by rw [l1]; exact g1.2)
    rw [l1, if_pos q, if_pos q.1, if_pos q.2] at c2
    obtain ⟨n, hn⟩ : ∃ n, n = (M 172 0).toNat := ⟨_, rfl⟩
    have hni : M 172 0 = (n : Int) := by omega
    rw [hni, Int.toNat_natCast] at c2
    obtain ⟨M2, hM2⟩ : ∃ N, N = mm_up (mm_up (mm_up (mm_up M1 230 n fr) 231 n to) 232 n x) 183 92 ((n : Int) + 1) := ⟨_, rfl⟩
    rw [← hM2] at c2
    have hRf2 : mm_Rf M2 := by rw [hM2]; exact (((hRf1.up (mm_rt_ar (t := 0) rfl (by decide))).up (mm_rt_ar (t := 0) rfl (by decide))).up (mm_rt_ar (t := 0) rfl (by decide))).up rfl
    have o2 : ∀ a b, ¬ ((a = 183 ∧ b = 92) ∨ (230 ≤ a ∧ a ≤ 232 ∧ b = n)) → M2 a b = M1 a b := by
      intro a b z; rw [hM2, mm_up_n (by omega), mm_up_n (by omega), mm_up_n (by omega), mm_up_n (by omega)]
    have v230 : M2 230 n = fr := by rw [hM2, mm_up_row (by decide), mm_up_row (by decide), mm_up_row (by decide), mm_up_s]
    have v231 : M2 231 n = to := by rw [hM2, mm_up_row (by decide), mm_up_row (by decide), mm_up_s]
    have v232 : M2 232 n = x := by rw [hM2, mm_up_row (by decide), mm_up_s]
    have v92 : M2 183 92 = (n : Int) + 1 := by rw [hM2, mm_up_s]
    have e : ∀ a b, ¬ ((a = 172 ∧ b = 0) ∨ a = 173 ∨ (a = 183 ∧ b = 92) ∨ (230 ≤ a ∧ a ≤ 232)) → M2 a b = M a b := by
      intro a b z; rw [o2 a b (by omega), o1 a b (by omega) (by omega)]
    have f173 : M2 173 = kw_roofs (M 173) fr to x := by rw [← e173]; funext b; exact o2 173 b (by omega)
    have f172 : M2 172 0 = M 172 0 + 1 := by rw [o2 172 0 (by omega)]; exact e172
    have old : ∀ a i, 230 ≤ a → a ≤ 232 → i ≠ n → M2 a i = M a i := by intro a i a1 a2 hi; rw [o2 a i (by omega), o1 a i (by omega) (by omega)]
    refine kk_fn c1 c2 (by rw [hni]) ⟨hRf2, h1.fr (fun a b q => e a b (by omega)), h2.fr (fun a b q => e a b (by omega)), h3.fr (fun a b q => e a b (by omega)), h4.fr (fun a b q => e a b (by omega)), h5.fr (fun a b q => e a b (by omega)), h6.fr (fun a b q => e a b (by omega)), h7.fr (fun a b q => e a b (by omega)), h8.fr (fun a b q => e a b (by omega)), h9.fr (fun a b q => e a b (by omega)), h10.fr (fun a b q => e a b (by omega)), h11.fr (fun a b q => e a b (by omega)), h12.fr (fun a b q => e a b (by omega)), h13.fr (fun a b q => e a b (by omega)), ?_, h15.fr (fun a b q => e a b (by omega)), h16.fr (fun a b q => e a b (by omega))⟩
    refine ⟨⟨by rw [v92, f172, hni], by rw [f172]; omega⟩, ?_, ?_, ?_⟩
    · intro i hi
      rw [f173]
      have := g2 i hi
      unfold kw_roofs mm_R at *
      split <;> omega
    · intro hr htt p1 p2 p3
      have old' := g3 hr htt p1 p2 p3
      rw [f173, v92]
      unfold kl_one at old' ⊢
      rw [g1.1, hni] at old'
      unfold kw_roofs
      constructor
      · rintro ⟨j, hj, z⟩
        by_cases jn : j = n
        · subst jn
          rw [v230, v231, v232] at z
          rw [if_pos (by omega)]; omega
        · rw [old 230 j (by decide) (by decide) jn, old 231 j (by decide) (by decide) jn, old 232 j (by decide) (by decide) jn] at z
          have := old'.mp ⟨j, by omega, z⟩
          split <;> omega
      · intro z
        by_cases w : fr ≤ (hr : Int) ∧ (hr : Int) ≤ to
        · rw [if_pos w] at z
          by_cases w2 : M 173 hr < htt
          · obtain ⟨j, hj, zz⟩ := old'.mpr w2
            refine ⟨j, by omega, ?_⟩
            rw [old 230 j (by decide) (by decide) (by omega), old 231 j (by decide) (by decide) (by omega), old 232 j (by decide) (by decide) (by omega)]
            exact zz
          · refine ⟨n, by omega, ?_⟩
            rw [v230, v231, v232]
            omega
        · rw [if_neg w] at z
          obtain ⟨j, hj, zz⟩ := old'.mpr z
          refine ⟨j, by omega, ?_⟩
          rw [old 230 j (by decide) (by decide) (by omega), old 231 j (by decide) (by decide) (by omega), old 232 j (by decide) (by decide) (by omega)]
          exact zz
    · intro i hi
      by_cases jn : i = n
      · subst jn
        rw [v230, v231, v232]; exact ⟨hf, ht, hx⟩
      · rw [old 230 i (by decide) (by decide) jn, old 231 i (by decide) (by decide) jn, old 232 i (by decide) (by decide) jn]; exact g4 i hi
  · have c2 := c_X13_law (X := X) hRf hf ht hx (by rw [g1.1]; exact g1.2)
    rw [g1.1, if_neg q] at c2
    rw [if_neg q] at c1
    exact kk_no c1 c2 rfl hR
end
end
/-! F2.calls3 -/
section
/-! ===== calls side by side: winds ===== -/
section
variable {K Lo Hi Lo' Hi' : Nat → Int} {h s : Int} {A : Nat → Int} {n : Nat}
theorem kb_lp.st (hK : mm_KV K) (hl : kb_lp K Lo Hi h s A n) : ∀ j, j ≤ n → ks_st K (kf_run K s A j)
  | 0, _ => hl.2.1
  | j + 1, hj => ks_to_st hK (kb_lp.st hK hl j (by omega)) (hl.2.2.1 j (by omega)).2.1
theorem kb_lp.cg (hK : mm_KV K) (hw : ∀ s, ks_st K s → ks_wi Lo' K s h = ks_wi Lo K s h ∧ ks_wi Hi' K s h = ks_wi Hi K s h) (hl : kb_lp K Lo Hi h s A n) : kb_lp K Lo' Hi' h s A n ∧ kb_sm K Lo' Hi' h s A n = kb_sm K Lo Hi h s A n := by
  refine ⟨⟨hl.1, hl.2.1, fun j hj => ⟨(hl.2.2.1 j hj).1, (hl.2.2.1 j hj).2.1, ?_⟩, hl.2.2.2⟩, ?_⟩
  · have e := hw _ (hl.st hK j (by omega))
    have q := (hl.2.2.1 j hj).2.2
    rw [e.1, e.2]
    exact q
  · unfold kb_sm
    refine ka_sum_congr ?_
    intro j hj
    have e := hw _ (hl.st hK j (by omega))
    unfold kj_g ks_sure
    rw [e.1, e.2]
theorem kb_is.cg {len worth : Int} {S : Nat → Int} (hK : mm_KV K) (hw : ∀ s, ks_st K s → ks_wi Lo' K s h = ks_wi Lo K s h ∧ ks_wi Hi' K s h = ks_wi Hi K s h) (hl : kb_is K Lo Hi h len worth A S) : kb_is K Lo' Hi' h len worth A S := by
  have hw' : ∀ s, ks_st K s → ks_wi Lo K s h = ks_wi Lo' K s h ∧ ks_wi Hi K s h = ks_wi Hi' K s h := fun s hs => ⟨(hw s hs).1.symm, (hw s hs).2.symm⟩
  rcases hl with ⟨h1, h2⟩ | ⟨n, h1, h2, h3, h4, h5, h6⟩
  · exact Or.inl ⟨h1, fun s B n q => h2 s B n (q.cg hK hw').1⟩
  · refine Or.inr ⟨n, h1, h2, (h3.cg hK hw).1, ?_, h5, ?_⟩
    · rw [(h3.cg hK hw).2]; exact h4
    · intro s B m q
      have := q.cg hK hw'
      rw [← this.2]
      exact h6 s B m this.1
end
section
variable {X : mm_X}
theorem kf_wind : kF5 X Y_X11_wind Y_X13_wind := by
  intro M hR t h b lo hi ht hh hb hlo hhi
  obtain ⟨hRf, h1, h2, h3, h4, h5, h6, h7, h8, h9, h10, h11, h12, h13, h14, h15, h16⟩ := id hR
  obtain ⟨g1, g2, g3, g4, g5, g6, g7⟩ := id h5
  have c1 := c_X11_wind (X := X) hRf ht hh hb hlo hhi g2.2 g1.2
  by_cases q : kw_ok (M 11 2) t h b lo hi ∧ M 11 1 < 200
  · rw [if_pos q, if_pos q.1, if_neg (by omega)] at c1
    obtain ⟨⟨qt, qh, qb, ql⟩, qn⟩ := id q
    obtain ⟨n, hn⟩ : ∃ n, n = (M 11 1).toNat := ⟨_, rfl⟩
    have hni : M 11 1 = (n : Int) := by omega
    obtain ⟨w, hw⟩ : ∃ w, w = (h * 5 + b).toNat := ⟨_, rfl⟩
    obtain ⟨M1, hM1⟩ : ∃ N, N = mm_up (mw_take M t h b lo hi) 23 h.toNat 0 := ⟨_, rfl⟩
    rw [← hM1] at c1
    unfold mw_take at hM1
    rw [hni, Int.toNat_natCast, ← hw] at hM1
    have o1 : ∀ x y, ¬ ((x = 11 ∧ 1 ≤ y ∧ y ≤ 2) ∨ (12 ≤ x ∧ x ≤ 15 ∧ y = n) ∨ (16 ≤ x ∧ x ≤ 17 ∧ y = w) ∨ (x = 23 ∧ y = h.toNat)) → M1 x y = M x y := by
      intro x y z
      rw [hM1, mm_up_n (by omega), mm_up_n (by omega), mm_up_n (by omega), mm_up_n (by omega), mm_up_n (by omega), mm_up_n (by omega), mm_up_n (by omega), mm_up_n (by omega), mm_up_n (by omega)]
    have hRf1 : mm_Rf M1 := by
      intro x y hxy
      by_cases z : (x = 11 ∧ 1 ≤ y ∧ y ≤ 2) ∨ (12 ≤ x ∧ x ≤ 15 ∧ y = n) ∨ (16 ≤ x ∧ x ≤ 17 ∧ y = w) ∨ (x = 23 ∧ y = h.toNat)
      · exfalso
        apply hxy
        rcases (show (x = 11 ∧ y = 1) ∨ (x = 11 ∧ y = 2) ∨ x = 12 ∨ x = 13 ∨ x = 14 ∨ x = 15 ∨ x = 16 ∨ x = 17 ∨ x = 23 by omega) with ⟨z, z'⟩ | ⟨z, z'⟩ | z | z | z | z | z | z | z
        · rw [z, z']; rfl
        · rw [z, z']; rfl
        · rw [z]; exact mm_rt_ar (t := 0) rfl (by decide)
        · rw [z]; exact mm_rt_ar (t := 0) rfl (by decide)
        · rw [z]; exact mm_rt_ar (t := 0) rfl (by decide)
        · rw [z]; exact mm_rt_ar (t := 0) rfl (by decide)
        · rw [z]; exact mm_rt_ar (t := 0) rfl (by decide)
        · rw [z]; exact mm_rt_ar (t := 0) rfl (by decide)
        · rw [z]; exact mm_rt_ar (t := 2) rfl (by decide)
      · rw [o1 x y z]; exact hRf x y hxy
    have l1 : M1 183 27 = (n : Int) := by rw [o1 183 27 (by omega), g1.1]; exact hni
    have l2 : M1 183 28 = M 11 2 := by rw [o1 183 28 (by omega)]; exact g2.1
    have c2 := c_X13_wind (X := X) hRf1 ht hh hb hlo hhi (by rw [l2]; exact g2.2) (by rw [l1]; omega)
    rw [l2, l1, if_pos q.1, if_neg (by omega), if_pos (And.intro q.1 (by omega))] at c2
    obtain ⟨M2, hM2⟩ : ∃ N, N = mw_takeR M1 t h b lo hi := ⟨_, rfl⟩
    rw [← hM2] at c2
    unfold mw_takeR at hM2
    rw [l1, Int.toNat_natCast, show (5 * h + b).toNat = w by rw [hw]; congr 1; omega] at hM2
    have o2 : ∀ x y, ¬ ((x = 183 ∧ 27 ≤ y ∧ y ≤ 28) ∨ (198 ≤ x ∧ x ≤ 202 ∧ y = n) ∨ (203 ≤ x ∧ x ≤ 204 ∧ y = w)) → M2 x y = M1 x y := by
      intro x y z
      rw [hM2, mm_up_n (by omega), mm_up_n (by omega), mm_up_n (by omega), mm_up_n (by omega), mm_up_n (by omega), mm_up_n (by omega), mm_up_n (by omega), mm_up_n (by omega), mm_up_n (by omega)]
    have hRf2 : mm_Rf M2 := by
      intro x y hxy
      by_cases z : (x = 183 ∧ 27 ≤ y ∧ y ≤ 28) ∨ (198 ≤ x ∧ x ≤ 202 ∧ y = n) ∨ (203 ≤ x ∧ x ≤ 204 ∧ y = w)
      · exfalso
        apply hxy
        rcases (show (x = 183 ∧ y = 27) ∨ (x = 183 ∧ y = 28) ∨ x = 198 ∨ x = 199 ∨ x = 200 ∨ x = 201 ∨ x = 202 ∨ x = 203 ∨ x = 204 by omega) with ⟨z, z'⟩ | ⟨z, z'⟩ | z | z | z | z | z | z | z
        · rw [z, z']; rfl
        · rw [z, z']; rfl
        · rw [z]; exact mm_rt_ar (t := 0) rfl (by decide)
        · rw [z]; exact mm_rt_ar (t := 0) rfl (by decide)
        · rw [z]; exact mm_rt_ar (t := 0) rfl (by decide)
        · rw [z]; exact mm_rt_ar (t := 0) rfl (by decide)
        · rw [z]; exact mm_rt_ar (t := 0) rfl (by decide)
        · rw [z]; exact mm_rt_ar (t := 0) rfl (by decide)
        · rw [z]; exact mm_rt_ar (t := 0) rfl (by decide)
      · rw [o2 x y z]; exact hRf1 x y hxy
    have e : ∀ x y, ¬ ((x = 11 ∧ 1 ≤ y ∧ y ≤ 2) ∨ (12 ≤ x ∧ x ≤ 17) ∨ x = 23 ∨ (x = 183 ∧ 27 ≤ y ∧ y ≤ 28) ∨ (198 ≤ x ∧ x ≤ 204)) → M2 x y = M x y := by
      intro x y z; rw [o2 x y (by omega), o1 x y (by omega)]
    have a11 : M2 11 1 = (n : Int) + 1 := by
      rw [o2 11 1 (by omega), hM1, mm_up_row (by decide), mm_up_s]
    have a12 : M2 11 2 = t := by
      rw [o2 11 2 (by omega), hM1, mm_up_row (by decide), mm_up_i (by decide), mm_up_s]
    have b27 : M2 183 27 = (n : Int) + 1 := by
      rw [hM2, mm_up_row (by decide), mm_up_row (by decide), mm_up_s]
    have b28 : M2 183 28 = t := by
      rw [hM2, mm_up_row (by decide), mm_up_row (by decide), mm_up_i (by decide), mm_up_row (by decide), mm_up_row (by decide), mm_up_row (by decide), mm_up_row (by decide), mm_up_row (by decide), mm_up_s]
    have cl : ∀ p, M2 16 p = (if p = w then lo else M 16 p) ∧ M2 17 p = (if p = w then hi else M 17 p) ∧ M2 203 p = (if p = w then lo else M 203 p) ∧ M2 204 p = (if p = w then hi else M 204 p) := by
      intro p
      by_cases pw : p = w
      · rw [pw, if_pos rfl, if_pos rfl, if_pos rfl, if_pos rfl]
        refine ⟨?_, ?_, ?_, ?_⟩
        · rw [o2 16 w (by omega), hM1, mm_up_row (by decide), mm_up_row (by decide), mm_up_row (by decide), mm_up_row (by decide), mm_up_row (by decide), mm_up_row (by decide), mm_up_row (by decide), mm_up_row (by decide), mm_up_s]
        · rw [o2 17 w (by omega), hM1, mm_up_row (by decide), mm_up_row (by decide), mm_up_row (by decide), mm_up_row (by decide), mm_up_row (by decide), mm_up_row (by decide), mm_up_row (by decide), mm_up_s]
        · rw [hM2, mm_up_row (by decide), mm_up_s]
        · rw [hM2, mm_up_s]
      · rw [if_neg pw, if_neg pw, if_neg pw, if_neg pw]
        exact ⟨by rw [o2 16 p (by omega), o1 16 p (by omega)], by rw [o2 17 p (by omega), o1 17 p (by omega)], by rw [o2 203 p (by omega), o1 203 p (by omega)], by rw [o2 204 p (by omega), o1 204 p (by omega)]⟩
    have hr12 : M2 12 n = t ∧ M2 13 n = h * 5 + b ∧ M2 14 n = lo ∧ M2 15 n = hi := by
      refine ⟨?_, ?_, ?_, ?_⟩
      · rw [o2 12 n (by omega), hM1, mm_up_row (by decide), mm_up_row (by decide), mm_up_row (by decide), mm_up_row (by decide), mm_up_row (by decide), mm_up_row (by decide), mm_up_s]
      · rw [o2 13 n (by omega), hM1, mm_up_row (by decide), mm_up_row (by decide), mm_up_row (by decide), mm_up_row (by decide), mm_up_row (by decide), mm_up_s]
      · rw [o2 14 n (by omega), hM1, mm_up_row (by decide), mm_up_row (by decide), mm_up_row (by decide), mm_up_row (by decide), mm_up_s]
      · rw [o2 15 n (by omega), hM1, mm_up_row (by decide), mm_up_row (by decide), mm_up_row (by decide), mm_up_s]
    have hr198 : M2 198 n = h ∧ M2 199 n = b ∧ M2 200 n = lo ∧ M2 201 n = hi ∧ M2 202 n = t := by
      refine ⟨?_, ?_, ?_, ?_, ?_⟩
      · rw [hM2, mm_up_row (by decide), mm_up_row (by decide), mm_up_row (by decide), mm_up_row (by decide), mm_up_row (by decide), mm_up_row (by decide), mm_up_row (by decide), mm_up_s]
      · rw [hM2, mm_up_row (by decide), mm_up_row (by decide), mm_up_row (by decide), mm_up_row (by decide), mm_up_row (by decide), mm_up_row (by decide), mm_up_s]
      · rw [hM2, mm_up_row (by decide), mm_up_row (by decide), mm_up_row (by decide), mm_up_row (by decide), mm_up_row (by decide), mm_up_s]
      · rw [hM2, mm_up_row (by decide), mm_up_row (by decide), mm_up_row (by decide), mm_up_row (by decide), mm_up_s]
      · rw [hM2, mm_up_row (by decide), mm_up_row (by decide), mm_up_row (by decide), mm_up_s]
    have old : ∀ x i, (12 ≤ x ∧ x ≤ 15) ∨ (198 ≤ x ∧ x ≤ 202) → i ≠ n → M2 x i = M x i := by
      intro x i z1 z2; rw [o2 x i (by omega), o1 x i (by omega)]
    have RR : ∀ z : Int, -1000 ≤ z → z ≤ 1000 → mm_R z := by intro z z1 z2; unfold mm_R; omega
    refine kk_fn c1 c2 (by rw [hni]) ⟨hRf2, h1.fr (fun a b q => e a b (by omega)), h2.fr (fun a b q => e a b (by omega)), h3.fr (fun a b q => e a b (by omega)), h4.fr (fun a b q => e a b (by omega)), ?_, h6.fr (fun a b q => e a b (by omega)), ?_, h8.fr (fun a b q => e a b (by omega)), h9.fr (fun a b q => e a b (by omega)), h10.fr (fun a b q => e a b (by omega)), h11.fr (fun a b q => e a b (by omega)), h12.fr (fun a b q => e a b (by omega)), h13.fr (fun a b q => e a b (by omega)), h14.fr (fun a b q => e a b (by omega)), h15.fr (fun a b q => e a b (by omega)), h16.fr (fun a b q => e a b (by omega))⟩
    · refine ⟨⟨by rw [a11, b27], by rw [a11]; omega⟩, ⟨by rw [a12, b28], by rw [a12]; omega⟩, ⟨?_, ?_⟩, ?_, ?_, ?_, ?_⟩
      · funext p; rw [(cl p).2.2.1, (cl p).1, g3.1]
      · funext p; rw [(cl p).2.2.2, (cl p).2.1, g3.2]
      · intro p hp
        have := g4 p hp
        rw [(cl p).1, (cl p).2.1]
        split <;> omega
      · intro i hi'
        by_cases z : i = n
        · rw [z, hr12.1, hr12.2.1]; exact ⟨RR _ (by omega) (by omega), RR _ (by omega) (by omega)⟩
        · rw [old 13 i (by omega) z, old 12 i (by omega) z]; exact g5 i hi'
      · intro i hi'
        by_cases z : i = n
        · rw [z, hr198.1, hr198.2.1, hr198.2.2.2.2]; exact ⟨RR _ (by omega) (by omega), RR _ (by omega) (by omega), RR _ (by omega) (by omega)⟩
        · rw [old 198 i (by omega) z, old 199 i (by omega) z, old 202 i (by omega) z]; exact g6 i hi'
      · intro i hi'
        by_cases z : i = n
        · obtain ⟨y1, y2, y3, y4⟩ := hr12
          obtain ⟨x1, x2, x3, x4, x5⟩ := hr198
          rw [z, y1, y2, y3, y4, x1, x2, x3, x4, x5]
          exact ⟨rfl, qb, rfl, rfl, rfl⟩
        · rw [a11] at hi'
          rw [old 13 i (by omega) z, old 12 i (by omega) z, old 14 i (by omega) z, old 15 i (by omega) z, old 198 i (by omega) z, old 199 i (by omega) z, old 200 i (by omega) z, old 201 i (by omega) z, old 202 i (by omega) z]
          exact g7 i (by omega)
    · intro k hk
      have u4 : M2 4 = M 4 := funext fun y => e 4 y (by omega)
      have ur : ∀ x, 42 ≤ x → x ≤ 113 → M2 x = M x := fun x x1 x2 => funext fun y => e x y (by omega)
      obtain ⟨k1, k2, k3⟩ := h7 k hk
      rw [ur (42 + 3 * k) (by omega) (by omega), ur (42 + 3 * k + 1) (by omega) (by omega), ur (42 + 3 * k + 2) (by omega) (by omega), u4]
      by_cases z : k = h.toNat
      · have u23 : M2 23 k = 0 := by rw [z, o2 23 h.toNat (by omega), hM1, mm_up_s]
        rw [u23]
        exact ⟨Or.inl rfl, k2, fun y => absurd y (by decide)⟩
      · have u23 : M2 23 k = M 23 k := by rw [o2 23 k (by omega), o1 23 k (by omega)]
        rw [u23]
        refine ⟨k1, k2, fun y => ⟨(k3 y).1, (k3 y).2.imp id (fun q => q.cg h3.1.1 ?_)⟩⟩
        intro s hs
        have bd := ks_bandb h3.1.1 hs
        unfold ks_wi ks_pl
        rw [(cl _).1, (cl _).2.1, if_neg (by omega), if_neg (by omega)]
        exact ⟨rfl, rfl⟩
  · rw [if_neg q] at c1
    have c2 := c_X13_wind (X := X) hRf ht hh hb hlo hhi (by rw [g2.1]; exact g2.2) (by rw [g1.1]; exact g1.2)
    rw [g2.1, g1.1, if_neg q] at c2
    exact kk_no c1 c2 rfl hR
end
end
/-! F3.calls4 -/
section
/-! ===== calls side by side: readings ===== -/
theorem kc_n_cg {f g : Nat → Int} {v : Int} : ∀ {n : Nat}, (∀ i, i < n → f i = g i) → kc_n f v n = kc_n g v n
  | 0, _ => rfl
  | n + 1, h => by unfold kc_n; rw [kc_n_cg (fun i hi => h i (by omega)), h n (by omega)]
section
variable {X : mm_X}
theorem kf_read : kF6 X Y_X11_read Y_X13_read := by
  intro M hR t s a h lo hi ht hs ha hh hlo hhi
  obtain ⟨hRf, h1, h2, h3, h4, h5, h6, h7, h8, h9, h10, h11, h12, h13, h14, h15, h16⟩ := id hR
  obtain ⟨⟨v1, v2, v3, v4⟩, ⟨w1, w2, w3, w4⟩, g1, g2, g3, g4, g5⟩ := id h16
  have c1 := c_X11_read (X := X) hRf h3.1 ht hs ha hh hlo hhi g3.2 v1
  have kk3 : ∀ L, kr_ok (mm_rk M) L t s a h lo hi ↔ kr_ok (M 4) L t s a h lo hi := by
    intro L
    unfold kr_ok
    rw [h3.st s, h3.ac a]
  by_cases q : kr_ok (M 4) (M 174 4) t s a h lo hi ∧ M 174 2 < 30
  · rw [if_pos q, if_pos q.1, if_pos q.2] at c1
    obtain ⟨⟨⟨qs, qa, qh⟩, ql, qt⟩, qn⟩ := id q
    obtain ⟨n, hn⟩ : ∃ n, n = (M 174 2).toNat := ⟨_, rfl⟩
    have hni : M 174 2 = (n : Int) := by omega
    obtain ⟨M1, hM1⟩ : ∃ N, N = mr_add M t s a h lo hi := ⟨_, rfl⟩
    rw [← hM1] at c1
    unfold mr_add at hM1
    rw [hni, Int.toNat_natCast] at hM1
    have o1 : ∀ x y, ¬ ((x = 174 ∧ (y = 2 ∨ y = 4)) ∨ (175 ≤ x ∧ x ≤ 180 ∧ y = n)) → M1 x y = M x y := by
      intro x y z
      rw [hM1, mm_up_n (by omega), mm_up_n (by omega), mm_up_n (by omega), mm_up_n (by omega), mm_up_n (by omega), mm_up_n (by omega), mm_up_n (by omega), mm_up_n (by omega)]
    have hRf1 : mm_Rf M1 := by
      intro x y hxy
      by_cases z : (x = 174 ∧ (y = 2 ∨ y = 4)) ∨ (175 ≤ x ∧ x ≤ 180 ∧ y = n)
      · exfalso
        apply hxy
        rcases (show (x = 174 ∧ y = 2) ∨ (x = 174 ∧ y = 4) ∨ x = 175 ∨ x = 176 ∨ x = 177 ∨ x = 178 ∨ x = 179 ∨ x = 180 by omega) with ⟨z, z'⟩ | ⟨z, z'⟩ | z | z | z | z | z | z
        · rw [z, z']; rfl
        · rw [z, z']; rfl
        all_goals (rw [z]; exact mm_rt_ar (t := 0) rfl (by decide))
      · rw [o1 x y z]; exact hRf x y hxy
    have rk1 : mm_rk M1 = mm_rk M := mm_rk.fr (fun x y z => o1 x y (by omega))
    have l1 : M1 183 97 = (n : Int) := by rw [o1 183 97 (by omega), g1]; exact hni
    have l2 : M1 183 99 = M 174 4 := by rw [o1 183 99 (by omega)]; exact g3.1
    have c2 := c_X13_read (X := X) (M := M1) hRf1 (by rw [rk1]; exact h3.2.1) ht hs ha hh hlo hhi (by rw [l2]; exact g3.2) (by rw [l1]; omega)
    rw [rk1, l2, l1, if_pos ((kk3 _).mpr q.1), if_pos (show (n : Int) < 30 by omega), if_pos (And.intro ((kk3 _).mpr q.1) (show (n : Int) < 30 by omega))] at c2
    obtain ⟨M2, hM2⟩ : ∃ N, N = mr_addR M1 t s a h lo hi := ⟨_, rfl⟩
    rw [← hM2] at c2
    unfold mr_addR at hM2
    rw [l1, Int.toNat_natCast] at hM2
    have o2 : ∀ x y, ¬ ((x = 183 ∧ (y = 97 ∨ y = 99)) ∨ (233 ≤ x ∧ x ≤ 238 ∧ y = n)) → M2 x y = M1 x y := by
      intro x y z
      rw [hM2, mm_up_n (by omega), mm_up_n (by omega), mm_up_n (by omega), mm_up_n (by omega), mm_up_n (by omega), mm_up_n (by omega), mm_up_n (by omega), mm_up_n (by omega)]
    have hRf2 : mm_Rf M2 := by
      intro x y hxy
      by_cases z : (x = 183 ∧ (y = 97 ∨ y = 99)) ∨ (233 ≤ x ∧ x ≤ 238 ∧ y = n)
      · exfalso
        apply hxy
        rcases (show (x = 183 ∧ y = 97) ∨ (x = 183 ∧ y = 99) ∨ x = 233 ∨ x = 234 ∨ x = 235 ∨ x = 236 ∨ x = 237 ∨ x = 238 by omega) with ⟨z, z'⟩ | ⟨z, z'⟩ | z | z | z | z | z | z
        · rw [z, z']; rfl
        · rw [z, z']; rfl
        all_goals (rw [z]; exact mm_rt_ar (t := 0) rfl (by decide))
      · rw [o2 x y z]; exact hRf1 x y hxy
    have e : ∀ x y, ¬ ((x = 174 ∧ 2 ≤ y ∧ y ≤ 4) ∨ (175 ≤ x ∧ x ≤ 182) ∨ (x = 183 ∧ 97 ≤ y ∧ y ≤ 99) ∨ (233 ≤ x ∧ x ≤ 242)) → M2 x y = M x y := by
      intro x y z; rw [o2 x y (by omega), o1 x y (by omega)]
    have rk2 : mm_rk M2 = mm_rk M := mm_rk.fr (fun x y z => e x y (by omega))
    have m4 : M2 4 = M 4 := funext fun y => e 4 y (by omega)
    have a2 : M2 174 2 = (n : Int) + 1 := by rw [o2 174 2 (by omega), hM1, mm_up_s]
    have a3 : M2 174 3 = M 174 3 := by rw [o2 174 3 (by omega), o1 174 3 (by omega)]
    have a4 : M2 174 4 = t := by rw [o2 174 4 (by omega), hM1, mm_up_i (by decide), mm_up_s]
    have b97 : M2 183 97 = (n : Int) + 1 := by rw [hM2, mm_up_s]
    have b98 : M2 183 98 = M 183 98 := by rw [o2 183 98 (by omega), o1 183 98 (by omega)]
    have b99 : M2 183 99 = t := by rw [hM2, mm_up_i (by decide), mm_up_row (by decide), mm_up_row (by decide), mm_up_row (by decide), mm_up_row (by decide), mm_up_row (by decide), mm_up_row (by decide), mm_up_s]
    have cn : M2 175 n = t ∧ M2 176 n = s ∧ M2 177 n = a ∧ M2 178 n = h ∧ M2 179 n = lo ∧ M2 180 n = hi := by
      refine ⟨?_, ?_, ?_, ?_, ?_, ?_⟩
      · rw [o2 175 n (by omega), hM1, mm_up_row (by decide), mm_up_row (by decide), mm_up_row (by decide), mm_up_row (by decide), mm_up_row (by decide), mm_up_row (by decide), mm_up_row (by decide), mm_up_s]
      · rw [o2 176 n (by omega), hM1, mm_up_row (by decide), mm_up_row (by decide), mm_up_row (by decide), mm_up_row (by decide), mm_up_row (by decide), mm_up_row (by decide), mm_up_s]
      · rw [o2 177 n (by omega), hM1, mm_up_row (by decide), mm_up_row (by decide), mm_up_row (by decide), mm_up_row (by decide), mm_up_row (by decide), mm_up_s]
      · rw [o2 178 n (by omega), hM1, mm_up_row (by decide), mm_up_row (by decide), mm_up_row (by decide), mm_up_row (by decide), mm_up_s]
      · rw [o2 179 n (by omega), hM1, mm_up_row (by decide), mm_up_row (by decide), mm_up_row (by decide), mm_up_s]
      · rw [o2 180 n (by omega), hM1, mm_up_row (by decide), mm_up_row (by decide), mm_up_s]
    have dn : M2 233 n = s ∧ M2 234 n = a ∧ M2 235 n = h ∧ M2 236 n = lo ∧ M2 237 n = hi ∧ M2 238 n = t := by
      refine ⟨?_, ?_, ?_, ?_, ?_, ?_⟩
      · rw [hM2, mm_up_row (by decide), mm_up_row (by decide), mm_up_row (by decide), mm_up_row (by decide), mm_up_row (by decide), mm_up_row (by decide), mm_up_s]
      · rw [hM2, mm_up_row (by decide), mm_up_row (by decide), mm_up_row (by decide), mm_up_row (by decide), mm_up_row (by decide), mm_up_s]
      · rw [hM2, mm_up_row (by decide), mm_up_row (by decide), mm_up_row (by decide), mm_up_row (by decide), mm_up_s]
      · rw [hM2, mm_up_row (by decide), mm_up_row (by decide), mm_up_row (by decide), mm_up_s]
      · rw [hM2, mm_up_row (by decide), mm_up_row (by decide), mm_up_s]
      · rw [hM2, mm_up_row (by decide), mm_up_s]
    have old : ∀ x i, (175 ≤ x ∧ x ≤ 182) ∨ (233 ≤ x ∧ x ≤ 242) → i ≠ n → M2 x i = M x i := by
      intro x i z1 z2; rw [o2 x i (by omega), o1 x i (by omega)]
    have row : ∀ x, x = 181 ∨ x = 182 ∨ (239 ≤ x ∧ x ≤ 242) → ∀ i, M2 x i = M x i := by
      intro x z i; rw [o2 x i (by omega), o1 x i (by omega)]
    refine kk_fn c1 c2 (by rw [hni]) ⟨hRf2, h1.fr (fun a b q => e a b (by omega)), h2.fr (fun a b q => e a b (by omega)), h3.fr (fun a b q => e a b (by omega)), h4.fr (fun a b q => e a b (by omega)), h5.fr (fun a b q => e a b (by omega)), h6.fr (fun a b q => e a b (by omega)), h7.fr (fun a b q => e a b (by omega)), h8.fr (fun a b q => e a b (by omega)), h9.fr (fun a b q => e a b (by omega)), h10.fr (fun a b q => e a b (by omega)), h11.fr (fun a b q => e a b (by omega)), h12.fr (fun a b q => e a b (by omega)), h13.fr (fun a b q => e a b (by omega)), h14.fr (fun a b q => e a b (by omega)), h15.fr (fun a b q => e a b (by omega)), ?_⟩
    refine ⟨⟨by rw [a2]; omega, by rw [a3]; exact v2, ?_, ?_⟩, ⟨by rw [b97]; omega, by rw [b98]; exact w2, ?_, ?_⟩, by rw [a2, b97], by rw [a3, b98]; exact g2, by rw [a4, b99]; exact ⟨rfl, by omega, by omega⟩, ?_, ?_⟩
    · intro k hk
      rw [m4]
      by_cases z : k = n
      · obtain ⟨y1, y2, y3, y4, y5, y6⟩ := cn
        rw [z, y1, y2, y3, y4, y5, y6]; exact ⟨⟨qs, qa, qh⟩, ht, hlo, hhi⟩
      · rw [a2] at hk
        rw [old 175 k (by omega) z, old 176 k (by omega) z, old 177 k (by omega) z, old 178 k (by omega) z, old 179 k (by omega) z, old 180 k (by omega) z]; exact v3 k (by omega)
    · intro i hi'
      rw [a3] at hi'
      rw [row 181 (by omega), row 182 (by omega), old 179 (30 + i) (by omega) (by omega), old 180 (30 + i) (by omega) (by omega)]; exact v4 i hi'
    · intro k hk
      rw [rk2]
      by_cases z : k = n
      · obtain ⟨y1, y2, y3, y4, y5, y6⟩ := dn
        rw [z, y1, y2, y3, y4, y5, y6]; exact ⟨⟨(h3.st s).mpr qs, (h3.ac a).mpr qa, qh⟩, ht, hlo, hhi⟩
      · rw [b97] at hk
        rw [old 233 k (by omega) z, old 234 k (by omega) z, old 235 k (by omega) z, old 236 k (by omega) z, old 237 k (by omega) z, old 238 k (by omega) z]; exact w3 k (by omega)
    · intro i hi'
      rw [b98] at hi'
      rw [row 239 (by omega), row 240 (by omega), row 241 (by omega), row 242 (by omega)]; exact w4 i hi'
    · intro k hk
      by_cases z : k = n
      · obtain ⟨y1, y2, y3, y4, y5, y6⟩ := cn
        obtain ⟨x1, x2, x3, x4, x5, x6⟩ := dn
        rw [z, y1, y2, y3, y4, y5, y6, x1, x2, x3, x4, x5, x6]
        exact ⟨rfl, rfl, rfl, rfl, rfl, rfl⟩
      · rw [a2] at hk
        rw [old 175 k (by omega) z, old 176 k (by omega) z, old 177 k (by omega) z, old 178 k (by omega) z, old 179 k (by omega) z, old 180 k (by omega) z, old 233 k (by omega) z, old 234 k (by omega) z, old 235 k (by omega) z, old 236 k (by omega) z, old 237 k (by omega) z, old 238 k (by omega) z]; exact g4 k (by omega)
    · intro i hi'
      rw [a3] at hi'
      rw [row 181 (by omega), row 182 (by omega), row 239 (by omega), row 240 (by omega), row 241 (by omega), row 242 (by omega), old 179 (30 + i) (by omega) (by omega), old 180 (30 + i) (by omega) (by omega)]; exact g5 i hi'
  · have c2 := c_X13_read (X := X) hRf h3.2.1 ht hs ha hh hlo hhi (by rw [g3.1]; exact g3.2) (by rw [g1]; exact v1)
    rw [if_neg q] at c1
    rw [g1, g3.1, if_neg (show ¬ (kr_ok (mm_rk M) (M 174 4) t s a h lo hi ∧ M 174 2 < 30) from fun z => q ⟨(kk3 _).mp z.1, z.2⟩)] at c2
    refine kk_no c1 c2 ?_ hR
    by_cases z : kr_ok (M 4) (M 174 4) t s a h lo hi
    · rw [if_pos z, if_pos ((kk3 _).mpr z)]
    · rw [if_neg z, if_neg (fun y => z ((kk3 _).mp y))]
theorem kf_right : kF4 X Y_X11_right Y_X13_right := by
  intro M hR t k lo hi ht hk hlo hhi
  obtain ⟨hRf, h1, h2, h3, h4, h5, h6, h7, h8, h9, h10, h11, h12, h13, h14, h15, h16⟩ := id hR
  obtain ⟨⟨v1, v2, v3, v4⟩, ⟨w1, w2, w3, w4⟩, g1, g2, g3, g4, g5⟩ := id h16
  have c1 := c_X11_right (X := X) hRf ht hk hlo hhi g3.2 v1 v2 (fun i hi' => (v4 i hi').1)
  by_cases q : ((0 ≤ k ∧ k ≤ M 174 2 - 1) ∧ (0 ≤ lo ∧ lo ≤ hi ∧ hi ≤ 99999999) ∧ M 174 4 ≤ t ∧ t ≤ 999) ∧ M 174 3 < 20
  · rw [if_pos q, if_pos q.1, if_pos q.2] at c1
    obtain ⟨⟨qk, ql, qt⟩, qn⟩ := id q
    obtain ⟨n, hn⟩ : ∃ n, n = (M 174 3).toNat := ⟨_, rfl⟩
    have hni : M 174 3 = (n : Int) := by omega
    rw [hni, Int.toNat_natCast] at c1
    obtain ⟨M1, hM1⟩ : ∃ N, N = mr_put M t k lo hi := ⟨_, rfl⟩
    rw [← hM1] at c1
    unfold mr_put at hM1
    rw [hni, Int.toNat_natCast] at hM1
    have o1 : ∀ x y, ¬ ((x = 174 ∧ (y = 3 ∨ y = 4)) ∨ (181 ≤ x ∧ x ≤ 182 ∧ y = n) ∨ (179 ≤ x ∧ x ≤ 180 ∧ y = 30 + n)) → M1 x y = M x y := by
      intro x y z
      rw [hM1, mm_up_n (by omega), mm_up_n (by omega), mm_up_n (by omega), mm_up_n (by omega), mm_up_n (by omega), mm_up_n (by omega)]
    have hRf1 : mm_Rf M1 := by
      intro x y hxy
      by_cases z : (x = 174 ∧ (y = 3 ∨ y = 4)) ∨ (181 ≤ x ∧ x ≤ 182 ∧ y = n) ∨ (179 ≤ x ∧ x ≤ 180 ∧ y = 30 + n)
      · exfalso
        apply hxy
        rcases (show (x = 174 ∧ y = 3) ∨ (x = 174 ∧ y = 4) ∨ x = 179 ∨ x = 180 ∨ x = 181 ∨ x = 182 by omega) with ⟨z, z'⟩ | ⟨z, z'⟩ | z | z | z | z
        · rw [z, z']; rfl
        · rw [z, z']; rfl
        all_goals (rw [z]; exact mm_rt_ar (t := 0) rfl (by decide))
      · rw [o1 x y z]; exact hRf x y hxy
    have l1 : M1 183 97 = M 174 2 := by rw [o1 183 97 (by omega)]; exact g1
    have l2 : M1 183 99 = M 174 4 := by rw [o1 183 99 (by omega)]; exact g3.1
    have l3 : M1 183 98 = (n : Int) := by rw [o1 183 98 (by omega), g2]; exact hni
    have c2 := c_X13_right (X := X) (M := M1) hRf1 ht hk hlo hhi (by rw [l2]; exact g3.2) (by rw [l1]; exact v1) (by rw [l3]; omega) (fun i hi' => by rw [l3] at hi'; rw [o1 239 i (by omega)]; exact (w4 i (by omega)).1)
    rw [l1, l2, l3, if_pos q.1, if_pos (show (n : Int) < 20 by omega), if_pos (And.intro q.1 (show (n : Int) < 20 by omega)), Int.toNat_natCast] at c2
    obtain ⟨M2, hM2⟩ : ∃ N, N = mr_putR M1 t k lo hi := ⟨_, rfl⟩
    rw [← hM2] at c2
    unfold mr_putR at hM2
    rw [l3, Int.toNat_natCast] at hM2
    have o2 : ∀ x y, ¬ ((x = 183 ∧ (y = 98 ∨ y = 99)) ∨ (239 ≤ x ∧ x ≤ 242 ∧ y = n)) → M2 x y = M1 x y := by
      intro x y z
      rw [hM2, mm_up_n (by omega), mm_up_n (by omega), mm_up_n (by omega), mm_up_n (by omega), mm_up_n (by omega), mm_up_n (by omega)]
    have hRf2 : mm_Rf M2 := by
      intro x y hxy
      by_cases z : (x = 183 ∧ (y = 98 ∨ y = 99)) ∨ (239 ≤ x ∧ x ≤ 242 ∧ y = n)
      · exfalso
        apply hxy
        rcases (show (x = 183 ∧ y = 98) ∨ (x = 183 ∧ y = 99) ∨ x = 239 ∨ x = 240 ∨ x = 241 ∨ x = 242 by omega) with ⟨z, z'⟩ | ⟨z, z'⟩ | z | z | z | z
        · rw [z, z']; rfl
        · rw [z, z']; rfl
        all_goals (rw [z]; exact mm_rt_ar (t := 0) rfl (by decide))
      · rw [o2 x y z]; exact hRf1 x y hxy
    have e : ∀ x y, ¬ ((x = 174 ∧ 2 ≤ y ∧ y ≤ 4) ∨ (175 ≤ x ∧ x ≤ 182) ∨ (x = 183 ∧ 97 ≤ y ∧ y ≤ 99) ∨ (233 ≤ x ∧ x ≤ 242)) → M2 x y = M x y := by
      intro x y z; rw [o2 x y (by omega), o1 x y (by omega)]
    have rk2 : mm_rk M2 = mm_rk M := mm_rk.fr (fun x y z => e x y (by omega))
    have m4 : M2 4 = M 4 := funext fun y => e 4 y (by omega)
    have a2 : M2 174 2 = M 174 2 := by rw [o2 174 2 (by omega), o1 174 2 (by omega)]
    have a3 : M2 174 3 = (n : Int) + 1 := by rw [o2 174 3 (by omega), hM1, mm_up_s]
    have a4 : M2 174 4 = t := by rw [o2 174 4 (by omega), hM1, mm_up_i (by decide), mm_up_s]
    have b97 : M2 183 97 = M 183 97 := by rw [o2 183 97 (by omega), o1 183 97 (by omega)]
    have b98 : M2 183 98 = (n : Int) + 1 := by rw [hM2, mm_up_s]
    have b99 : M2 183 99 = t := by rw [hM2, mm_up_i (by decide), mm_up_row (by decide), mm_up_row (by decide), mm_up_row (by decide), mm_up_row (by decide), mm_up_s]
    have f182 : M1 182 n = k := by rw [hM1, mm_up_row (by decide), mm_up_row (by decide), mm_up_row (by decide), mm_up_row (by decide), mm_up_s]
    have cn : M2 181 n = t ∧ M2 182 n = k ∧ M2 179 (30 + n) = lo ∧ M2 180 (30 + n) = hi := by
      refine ⟨?_, ?_, ?_, ?_⟩
      · rw [o2 181 n (by omega), hM1, mm_up_row (by decide), mm_up_row (by decide), mm_up_row (by decide), mm_up_row (by decide), mm_up_row (by decide), mm_up_s]
      · rw [o2 182 n (by omega)]; exact f182
      · rw [o2 179 (30 + n) (by omega), hM1, mm_up_row (by decide), mm_up_row (by decide), mm_up_row (by decide), mm_up_s]
      · rw [o2 180 (30 + n) (by omega), hM1, mm_up_row (by decide), mm_up_row (by decide), mm_up_s]
    have dn : M2 239 n = k ∧ M2 240 n = lo ∧ M2 241 n = hi ∧ M2 242 n = t := by
      refine ⟨?_, ?_, ?_, ?_⟩
      · rw [hM2, mm_up_row (by decide), mm_up_row (by decide), mm_up_row (by decide), mm_up_row (by decide), mm_up_s]
      · rw [hM2, mm_up_row (by decide), mm_up_row (by decide), mm_up_row (by decide), mm_up_s]
      · rw [hM2, mm_up_row (by decide), mm_up_row (by decide), mm_up_s]
      · rw [hM2, mm_up_row (by decide), mm_up_s]
    have oldC : ∀ x i, (175 ≤ x ∧ x ≤ 178) ∨ (233 ≤ x ∧ x ≤ 238) → M2 x i = M x i := by
      intro x i z1; rw [o2 x i (by omega), o1 x i (by omega)]
    have oldL : ∀ x i, 179 ≤ x ∧ x ≤ 180 → i ≠ 30 + n → M2 x i = M x i := by
      intro x i z1 z2; rw [o2 x i (by omega), o1 x i (by omega)]
    have oldR : ∀ x i, (181 ≤ x ∧ x ≤ 182) ∨ (239 ≤ x ∧ x ≤ 242) → i ≠ n → M2 x i = M x i := by
      intro x i z1 z2; rw [o2 x i (by omega), o1 x i (by omega)]
    refine kk_fn c1 c2 ?_ ⟨hRf2, h1.fr (fun a b q => e a b (by omega)), h2.fr (fun a b q => e a b (by omega)), h3.fr (fun a b q => e a b (by omega)), h4.fr (fun a b q => e a b (by omega)), h5.fr (fun a b q => e a b (by omega)), h6.fr (fun a b q => e a b (by omega)), h7.fr (fun a b q => e a b (by omega)), h8.fr (fun a b q => e a b (by omega)), h9.fr (fun a b q => e a b (by omega)), h10.fr (fun a b q => e a b (by omega)), h11.fr (fun a b q => e a b (by omega)), h12.fr (fun a b q => e a b (by omega)), h13.fr (fun a b q => e a b (by omega)), h14.fr (fun a b q => e a b (by omega)), h15.fr (fun a b q => e a b (by omega)), ?_⟩
    · refine kc_n_cg ?_
      intro i hi'
      by_cases z : i = n
      · rw [z, dn.1, f182]
      · rw [oldR 239 i (by omega) z, o1 182 i (by omega)]
        exact (g5 i (by omega)).1
    refine ⟨⟨by rw [a2]; exact v1, by rw [a3]; omega, ?_, ?_⟩, ⟨by rw [b97]; exact w1, by rw [b98]; omega, ?_, ?_⟩, by rw [a2, b97]; exact g1, by rw [a3, b98], by rw [a4, b99]; exact ⟨rfl, by omega, by omega⟩, ?_, ?_⟩
    · intro j hj
      rw [a2] at hj
      rw [m4, oldC 175 j (by omega), oldC 176 j (by omega), oldC 177 j (by omega), oldC 178 j (by omega), oldL 179 j (by omega) (by omega), oldL 180 j (by omega) (by omega)]
      exact v3 j hj
    · intro i hi'
      rw [a3] at hi'
      by_cases z : i = n
      · obtain ⟨y1, y2, y3, y4⟩ := cn
        rw [z, y1, y2, y3, y4]; exact ⟨hk, ht, hlo, hhi⟩
      · rw [oldR 181 i (by omega) z, oldR 182 i (by omega) z, oldL 179 (30 + i) (by omega) (by omega), oldL 180 (30 + i) (by omega) (by omega)]; exact v4 i (by omega)
    · intro j hj
      rw [b97] at hj
      rw [rk2, oldC 233 j (by omega), oldC 234 j (by omega), oldC 235 j (by omega), oldC 236 j (by omega), oldC 237 j (by omega), oldC 238 j (by omega)]
      exact w3 j hj
    · intro i hi'
      rw [b98] at hi'
      by_cases z : i = n
      · obtain ⟨y1, y2, y3, y4⟩ := dn
        rw [z, y1, y2, y3, y4]; exact ⟨hk, ht, hlo, hhi⟩
      · rw [oldR 239 i (by omega) z, oldR 240 i (by omega) z, oldR 241 i (by omega) z, oldR 242 i (by omega) z]; exact w4 i (by omega)
    · intro j hj
      rw [a2] at hj
      rw [oldC 175 j (by omega), oldC 176 j (by omega), oldC 177 j (by omega), oldC 178 j (by omega), oldL 179 j (by omega) (by omega), oldL 180 j (by omega) (by omega), oldC 233 j (by omega), oldC 234 j (by omega), oldC 235 j (by omega), oldC 236 j (by omega), oldC 237 j (by omega), oldC 238 j (by omega)]
      exact g4 j hj
    · intro i hi'
      rw [a3] at hi'
      by_cases z : i = n
      · obtain ⟨y1, y2, y3, y4⟩ := cn
        obtain ⟨x1, x2, x3, x4⟩ := dn
        rw [z, y1, y2, y3, y4, x1, x2, x3, x4]
        exact ⟨rfl, rfl, rfl, rfl⟩
      · rw [oldR 181 i (by omega) z, oldR 182 i (by omega) z, oldL 179 (30 + i) (by omega) (by omega), oldL 180 (30 + i) (by omega) (by omega), oldR 239 i (by omega) z, oldR 240 i (by omega) z, oldR 241 i (by omega) z, oldR 242 i (by omega) z]; exact g5 i (by omega)
  · have c2 := c_X13_right (X := X) hRf ht hk hlo hhi (by rw [g3.1]; exact g3.2) (by rw [g1]; exact v1) (by rw [g2]; exact v2) (fun i hi' => (w4 i hi').1)
    rw [if_neg q] at c1
    rw [g1, g2, g3.1, if_neg q] at c2
    refine kk_no c1 c2 ?_ hR
    by_cases z : (0 ≤ k ∧ k ≤ M 174 2 - 1) ∧ (0 ≤ lo ∧ lo ≤ hi ∧ hi ≤ 99999999) ∧ M 174 4 ≤ t ∧ t ≤ 999
    · rw [if_pos z, if_pos z, if_neg (fun y => q ⟨z, y⟩), if_neg (fun y => q ⟨z, y⟩)]
    · rw [if_neg z, if_neg z]
end
end
/-! F4.calls5 -/
section
/-! ===== calls side by side: kept loops ===== -/
section
variable {M : mm_M}
theorem kR3.p (h : kR3 M) {a : Int} (ha : ks_ac (M 4) a) (s w : Int) : ks_p (mm_rk M) s a w = ks_p (M 4) s a w := by
  rw [← nk_p h.2.1 ((h.ac a).mpr ha), h.2.2.1, nk_p h.1.1 ha]
theorem kR3.wi (h : kR3 M) (L : Nat → Int) (s t : Int) : ks_wi L (mm_rk M) s t = ks_wi L (M 4) s t := h.w (fun K => ks_wi L K s t) (fun _ _ => rfl)
theorem kR3.h (h : kR3 M) (s : Int) : ks_h (mm_rk M) s = ks_h (M 4) s := h.w (fun K => ks_h K s) (fun _ _ => rfl)
theorem kR3.b10 (h : kR3 M) : 1 ≤ M 4 10 ∧ M 4 10 ≤ 3 := by
  obtain ⟨-, -, -, -, -, -, -, -, -, -, h10, -⟩ := h.1.1
  exact h10
theorem kR9.S (h9 : kR9 M) (h3 : kR3 M) {k i : Nat} (hk : k < 6) (hi : (i : Int) < M (121 + 3 * k) 2) : kl_S M k i = M (121 + 3 * k + 2) i := by
  unfold kl_S
  rw [h3.run]
  exact ((h9 k hk).2.2.2.2 i hi).2.2.1.symm
theorem kR9.ok (h9 : kR9 M) (h3 : kR3 M) {k : Nat} (hk : k < 6) : kl_ok M k := by
  obtain ⟨a1, a2, a3, a4, a5⟩ := h9 k hk
  have b := h3.b10
  refine ⟨by rw [a2]; exact a1, a3, ?_, ?_⟩
  · intro i hi
    rw [a2] at hi
    obtain ⟨q1, q2, -⟩ := a5 i hi
    rw [q1]
    omega
  · intro i hi
    rw [a2] at hi
    rw [h9.S h3 hk hi, h3.st]
    exact (a5 i hi).2.2.2
theorem kt_sum_cg (h3 : kR3 M) {W S A S' A' : Nat → Int} {h : Int} : ∀ {n : Nat}, (∀ i, i < n → S' i = S i ∧ A' i = A i ∧ ks_ac (M 4) (A i)) → kt_sum (mm_rk M) W S' A' h n = kt_sum (M 4) W S A h n
  | 0, _ => rfl
  | n + 1, q => by
    unfold kt_sum
    obtain ⟨q1, q2, q3⟩ := q n (by omega)
    rw [kt_sum_cg h3 (fun i hi => q i (by omega)), q1, q2, h3.wi, h3.p q3, h3.k (by decide)]
theorem kf_from_cg {P Q : Nat → Prop} {_ : ∀ i, Decidable (P i)} {_ : ∀ i, Decidable (Q i)} (h : ∀ i, P i ↔ Q i) : ∀ (k t : Nat), kf_from P t k = kf_from Q t k
  | 0, t => by unfold kf_from; rfl
  | k + 1, t => by
    unfold kf_from
    by_cases q : P t
    · rw [if_pos q, if_pos ((h t).mp q)]
    · rw [if_neg q, if_neg (fun z => q ((h t).mpr z)), kf_from_cg h k (t + 1)]
end
section
variable {X : mm_X}
theorem kf_rounds : kF3 X Y_X11_rounds Y_X13_rounds := by
  intro M hR x h b hx hh hb
  obtain ⟨hRf, h1, h2, h3, h4, h5, h6, h7, h8, h9, h10, h11, h12, h13, h14, h15, h16⟩ := id hR
  have c1 := c_X11_rounds (X := X) hRf h3.1 h5.2.2.2.1 hx hh hb h11.2 (fun k hk => (h9 k hk).1) (fun k hk i hi => ⟨((h9 k hk).2.2.2.2 i hi).2.2.2, ((h9 k hk).2.2.2.2 i hi).2.1⟩)
  have c2 := c_X13_rounds (X := X) hRf h3.2.1 h5.ra hx hh hb (by rw [h11.1]; exact h11.2) (fun k hk => by rw [(h9 k hk).2.1]; exact (h9 k hk).1) (fun k hk i hi => by
    rw [(h9 k hk).2.1] at hi
    have q := (h9 k hk).2.2.2.2 i hi
    rw [h9.S h3 hk hi, h3.st, h3.ac, q.1]
    exact ⟨q.2.2.2, q.2.1⟩)
  refine kk_no c1 c2 ?_ hR
  by_cases q : (0 ≤ x ∧ x ≤ 5) ∧ ks_hr h ∧ 0 ≤ b ∧ b ≤ 1000000
  · have hk : x.toNat < 6 := by omega
    obtain ⟨a1, a2, a3, a4, a5⟩ := h9 x.toNat hk
    rw [if_pos q, if_pos q, a2]
    by_cases z : 0 < M (121 + 3 * x.toNat) 2
    · rw [if_pos z, if_pos z, h11.1, h5.2.2.1.2]
      congr 1
      refine kt_sum_cg h3 ?_
      intro i hi
      have hi' : (i : Int) < M (121 + 3 * x.toNat) 2 := by omega
      exact ⟨h9.S h3 hk hi', (a5 i hi').1, (a5 i hi').2.1⟩
    · rw [if_neg z, if_neg z]
  · rw [if_neg q, if_neg q]
theorem kf_breach : kF4 X Y_X11_breach Y_X13_breach := by
  intro M hR x h w n hx hh he hn
  obtain ⟨hRf, h1, h2, h3, h4, h5, h6, h7, h8, h9, h10, h11, h12, h13, h14, h15, h16⟩ := id hR
  have c1 := c_X11_breach (X := X) hRf h3.1 hx hh he hn h14.2.1 (fun k hk => (h9 k hk).1) (fun k hk i hi => ((h9 k hk).2.2.2.2 i hi).2.2.2)
  have c2 := c_X13_breach (X := X) (roof := M 173) hRf h3.2.1 hx hh he hn (by rw [h14.1.1]; exact h14.1.2) h14.2.2.1 h14.2.2.2 (fun k hk => (h9.ok h3 hk).1) (fun k hk => (h9.ok h3 hk).2.1) (fun k hk => (h9.ok h3 hk).2.2.1) (fun k hk => (h9.ok h3 hk).2.2.2)
  obtain ⟨M2, hM2⟩ : ∃ N, N = (if ((0 ≤ x ∧ x ≤ 5) ∧ ks_hr h ∧ (1 ≤ w ∧ w ≤ 60) ∧ 1 ≤ n ∧ n ≤ 5000) ∧ 0 < M 216 x.toNat then kf_mem M 226 (kl_S M x.toNat) (M 216 x.toNat).toNat else M) := ⟨_, rfl⟩
  rw [← hM2] at c2
  have fr : ∀ a, a ≠ 226 → M2 a = M a := by
    intro a ha
    rw [hM2]
    split
    · exact kf_mem_n ha
    · rfl
  have hRf2 : mm_Rf M2 := by
    rw [hM2]
    split
    · exact hRf.fm (len := 100) rfl
    · exact hRf
  have e : ∀ a b, ¬ a = 226 → M2 a b = M a b := fun a b z => by rw [fr a z]
  refine kk_fn c1 c2 ?_ ⟨hRf2, h1.fr (fun a b q => e a b (by omega)), h2.fr (fun a b q => e a b (by omega)), h3.fr (fun a b q => e a b (by omega)), h4.fr (fun a b q => e a b (by omega)), h5.fr (fun a b q => e a b (by omega)), h6.fr (fun a b q => e a b (by omega)), h7.fr (fun a b q => e a b (by omega)), h8.fr (fun a b q => e a b (by omega)), h9.fr (fun a b q => e a b (by omega)), h10.fr (fun a b q => e a b (by omega)), h11.fr (fun a b q => e a b (by omega)), h12.fr (fun a b q => e a b (by omega)), h13.fr (fun a b q => e a b (by omega)), h14.fr (fun a b q => e a b (by omega)), h15.fr (fun a b q => e a b (by omega)), h16.fr (fun a b q => e a b (by omega))⟩
  by_cases q : (0 ≤ x ∧ x ≤ 5) ∧ ks_hr h ∧ (1 ≤ w ∧ w ≤ 60) ∧ 1 ≤ n ∧ n ≤ 5000
  · have hk : x.toNat < 6 := by omega
    obtain ⟨a1, a2, a3, a4, a5⟩ := h9 x.toNat hk
    rw [if_pos q, if_pos q, a2]
    by_cases z : 0 < M (121 + 3 * x.toNat) 2
    · rw [if_pos z, if_pos z]
      refine kf_from_cg ?_ _ _
      intro t
      unfold kb_at
      have hlt : t % (M (121 + 3 * x.toNat) 2).toNat < (M (121 + 3 * x.toNat) 2).toNat := Nat.mod_lt _ (by omega)
      rw [h3.h, h9.S h3 hk (by omega)]
    · rw [if_neg z, if_neg z]
  · rw [if_neg q, if_neg q]
theorem kf_keep' : kF1 X Y_X11_keep Y_X13_keep := by
  intro M hR x hx
  obtain ⟨hRf, h1, h2, h3, h4, h5, h6, h7, h8, h9, h10, h11, h12, h13, h14, h15, h16⟩ := id hR
  obtain ⟨g1, g2, g3, g4, g5, g6, g7, g8, g9, g10, g11, g12⟩ := id h8
  have c1 := c_X11_keep (X := X) hRf hx g3 g2 g1
  by_cases q : (0 ≤ x ∧ x ≤ 5) ∧ M 183 62 = 1
  · obtain ⟨p1, p2, p3, p4, p5, p6⟩ := g12 q.2
    have q12 := g11.mp q.2
    rw [if_pos (And.intro q.1 q12), if_pos q.1, if_pos q12] at c1
    obtain ⟨k, hk⟩ : ∃ k, k = x.toNat := ⟨_, rfl⟩
    have hk6 : k < 6 := by omega
    rw [← hk] at c1
    obtain ⟨M1, hM1⟩ : ∃ N, N = mm_cf M (121 + 3 * k) 117 100 := ⟨_, rfl⟩
    rw [← hM1] at c1
    have mn : min (M 117 2) ((100 : Nat) : Int) = M 117 2 := by omega
    have at1 : ∀ a b, M1 a b = if a = 121 + 3 * k ∧ b = 2 then M 117 2 else if a = 121 + 3 * k ∧ b = 3 then M 117 3 else if a = 121 + 3 * k + 1 ∧ (b : Int) < M 117 2 then M 118 b else if a = 121 + 3 * k + 2 ∧ (b : Int) < M 117 2 then M 119 b else M a b := by
      intro a b; rw [hM1]; unfold mm_cf; rw [mn]
    have o1 : ∀ a b, ¬ (121 + 3 * k ≤ a ∧ a ≤ 121 + 3 * k + 2) → M1 a b = M a b := by
      intro a b z; rw [at1, if_neg (by omega), if_neg (by omega), if_neg (by omega), if_neg (by omega)]
    have wr := (mm_rw_kept k hk6).1
    have hRf1 : mm_Rf M1 := by
      intro a b hab
      rw [at1]
      by_cases z1 : a = 121 + 3 * k ∧ b = 2
      · exact absurd (by rw [z1.1, z1.2]; exact mm_rt_row wr (by decide)) hab
      by_cases z2 : a = 121 + 3 * k ∧ b = 3
      · exact absurd (by rw [z2.1, z2.2]; exact mm_rt_row wr (by decide)) hab
      by_cases z3 : a = 121 + 3 * k + 1 ∧ (b : Int) < M 117 2
      · exact absurd (by rw [z3.1]; exact mm_rt_arr wr.2.1 b) hab
      by_cases z4 : a = 121 + 3 * k + 2 ∧ (b : Int) < M 117 2
      · exact absurd (by rw [z4.1]; exact mm_rt_arr wr.2.2.1 b) hab
      rw [if_neg z1, if_neg z2, if_neg z3, if_neg z4]
      exact hRf a b hab
    have s183 : ∀ b, M1 183 b = M 183 b := fun b => o1 183 b (by omega)
    have c2 := c_X13_keep (X := X) (M := M1) hRf1 hx (by rw [s183]; exact g6) (by rw [s183]; exact g7) (by rw [s183, s183]; exact g8)
    rw [s183, s183, if_pos q.1, if_pos q.2, if_pos q, ← hk] at c2
    obtain ⟨M2, hM2⟩ : ∃ N, N = kf_keep M1 k := ⟨_, rfl⟩
    rw [← hM2] at c2
    obtain ⟨n, hn⟩ : ∃ n, n = (M 117 2).toNat := ⟨_, rfl⟩
    have hni : M 117 2 = (n : Int) := by omega
    have at2 : ∀ a b, M2 a b = if a = 219 ∧ 100 * k ≤ b ∧ b < 100 * k + n then M1 215 (b - 100 * k) else if a = 218 ∧ b = k then M 117 3 else if a = 217 ∧ b = k then M 183 60 else if a = 216 ∧ b = k then M 117 2 else M1 a b := by
      intro a b
      rw [hM2]
      unfold kf_keep kf_off mm_up
      rw [s183, s183, s183, s183, p2, hni, Int.toNat_natCast, ← hni, p3]
    have o2 : ∀ a b, ¬ ((216 ≤ a ∧ a ≤ 218 ∧ b = k) ∨ (a = 219 ∧ 100 * k ≤ b ∧ b < 100 * k + n)) → M2 a b = M1 a b := by
      intro a b z; rw [at2, if_neg (by omega), if_neg (by omega), if_neg (by omega), if_neg (by omega)]
    have hRf2 : mm_Rf M2 := by
      intro a b hab
      by_cases z : (216 ≤ a ∧ a ≤ 218 ∧ b = k) ∨ (a = 219 ∧ 100 * k ≤ b ∧ b < 100 * k + n)
      · exfalso
        apply hab
        rcases (show a = 216 ∨ a = 217 ∨ a = 218 ∨ a = 219 by omega) with z | z | z | z
        all_goals (rw [z]; exact mm_rt_ar (t := 0) rfl (by decide))
      · rw [o2 a b z]; exact hRf1 a b hab
    have e : ∀ a b, ¬ ((121 + 3 * k ≤ a ∧ a ≤ 121 + 3 * k + 2) ∨ (216 ≤ a ∧ a ≤ 218 ∧ b = k) ∨ (a = 219 ∧ 100 * k ≤ b ∧ b < 100 * k + n)) → M2 a b = M a b := by
      intro a b z; rw [o2 a b (by omega), o1 a b (by omega)]
    refine kk_fn c1 c2 p2 ⟨hRf2, h1.fr (fun a b q => e a b (by omega)), h2.fr (fun a b q => e a b (by omega)), h3.fr (fun a b q => e a b (by omega)), h4.fr (fun a b q => e a b (by omega)), h5.fr (fun a b q => e a b (by omega)), h6.fr (fun a b q => e a b (by omega)), h7.fr (fun a b q => e a b (by omega)), h8.fr (fun a b q => e a b (by omega)), ?_, h10.fr (fun a b q => e a b (by omega)), h11.fr (fun a b q => e a b (by omega)), h12.fr (fun a b q => e a b (by omega)), h13.fr (fun a b q => e a b (by omega)), h14.fr (fun a b q => e a b (by omega)), h15.fr (fun a b q => e a b (by omega)), h16.fr (fun a b q => e a b (by omega))⟩
    intro j hj
    have m4 : M2 4 = M 4 := funext fun y => e 4 y (by omega)
    by_cases jk : j = k
    · subst jk
      have r2 : M2 (121 + 3 * j) 2 = M 117 2 := by rw [o2 _ _ (by omega), at1, if_pos ⟨rfl, rfl⟩]
      have r3 : M2 (121 + 3 * j) 3 = M 117 3 := by rw [o2 _ _ (by omega), at1, if_neg (by omega), if_pos ⟨rfl, rfl⟩]
      have r216 : M2 216 j = M 117 2 := by rw [at2, if_neg (by omega), if_neg (by omega), if_neg (by omega), if_pos ⟨rfl, rfl⟩]
      have r217 : M2 217 j = M 183 60 := by rw [at2, if_neg (by omega), if_neg (by omega), if_pos ⟨rfl, rfl⟩]
      have r218 : M2 218 j = M 117 3 := by rw [at2, if_neg (by omega), if_pos ⟨rfl, rfl⟩]
      have rA : ∀ i : Nat, (i : Int) < M 117 2 → M2 (121 + 3 * j + 1) i = M 118 i := by
        intro i hi; rw [o2 _ _ (by omega), at1, if_neg (by omega), if_neg (by omega), if_pos ⟨rfl, hi⟩]
      have rS : ∀ i : Nat, (i : Int) < M 117 2 → M2 (121 + 3 * j + 2) i = M 119 i := by
        intro i hi; rw [o2 _ _ (by omega), at1, if_neg (by omega), if_neg (by omega), if_neg (by omega), if_pos ⟨rfl, hi⟩]
      have r219 : ∀ i : Nat, (i : Int) < M 117 2 → M2 219 (100 * j + i) = M 118 i := by
        intro i hi
        rw [at2, if_pos ⟨rfl, by omega, by omega⟩, show 100 * j + i - 100 * j = i by omega, o1 215 i (by omega)]
        exact (p6 i hi).1
      have st60 : mm_R (M 183 60) := by
        have := ks_nb h3.1.1
        have := p5.2
        have := p5.1
        unfold mm_R
        omega
      rw [m4, r2, r3, r216, r217, r218]
      refine ⟨g1, rfl, st60, fun _ => ⟨rfl, p4, p5⟩, ?_⟩
      intro i hi
      obtain ⟨y1, y2, y3, y4⟩ := p6 i hi
      rw [rA i hi, rS i hi, r219 i hi]
      refine ⟨rfl, y2, ?_, y4⟩
      rw [y3]
      exact kf_run_cg (fun i' hi' => (r219 i' (by omega)).symm)
    · have row : ∀ a, 121 + 3 * j ≤ a → a ≤ 121 + 3 * j + 2 → M2 a = M a := fun a a1 a2 => funext fun y => e a y (by omega)
      obtain ⟨a1, a2, a3, a4, a5⟩ := h9 j hj
      rw [m4, row (121 + 3 * j) (by omega) (by omega), row (121 + 3 * j + 1) (by omega) (by omega), row (121 + 3 * j + 2) (by omega) (by omega), e 216 j (by omega), e 217 j (by omega), e 218 j (by omega)]
      refine ⟨a1, a2, a3, a4, ?_⟩
      intro i hi
      obtain ⟨y1, y2, y3, y4⟩ := a5 i hi
      have e219 : ∀ i' : Nat, i' < 100 → M2 219 (100 * j + i') = M 219 (100 * j + i') := fun i' hi' => e 219 _ (by omega)
      rw [e219 i (by omega)]
      refine ⟨y1, y2, ?_, y4⟩
      rw [y3]
      exact kf_run_cg (fun i' hi' => (e219 i' (by omega)).symm)
  · have q' : ¬ ((0 ≤ x ∧ x ≤ 5) ∧ M 0 12 = 1 ∧ M 117 9 = 1) := fun z => q ⟨z.1, g11.mpr z.2⟩
    rw [if_neg q'] at c1
    have c2 := c_X13_keep (X := X) hRf hx g6 g7 g8
    rw [if_neg q] at c2
    refine kk_no c1 c2 ?_ hR
    by_cases z : 0 ≤ x ∧ x ≤ 5
    · rw [if_pos z, if_pos z, if_neg (fun y => q ⟨z, y⟩), if_neg (fun y => q' ⟨z, y⟩)]
    · rw [if_neg z, if_neg z]
end
end
/-! F5.calls6 -/
section
/-! ===== calls side by side: flights ===== -/
theorem kj_is_u {P Q : Nat → Prop} {n c d : Nat} (h1 : kj_is P n c) (h2 : kj_is Q n d) (hpq : ∀ j, j < n → (P j ↔ Q j)) : d = c := by
  rcases Nat.lt_trichotomy c d with q | q | q
  · exact absurd ((hpq c (by have := h2.1; omega)).mpr (h2.2.1 c q)) (h1.2.2 (by have := h2.1; omega))
  · exact q.symm
  · exact absurd ((hpq d (by have := h1.1; omega)).mp (h1.2.1 d q)) (h2.2.2 (by have := h1.1; omega))
theorem kr_h_cg {f g : Nat → Bool} : ∀ {n : Nat}, (∀ c, c < n → f c = g c) → kr_h f n = kr_h g n
  | 0, _ => rfl
  | n + 1, h => by unfold kr_h; rw [kr_h_cg (fun c hc => h c (by omega)), h n (by omega)]
theorem kr_act_cg {P Q : Nat → Bool} {D E : Nat → Int} : ∀ {k l : Nat}, (∀ j, j < l + k → P j = Q j ∧ D j = E j) → kr_act P D l k = kr_act Q E l k
  | 0, l, _ => rfl
  | k + 1, l, h => by
    unfold kr_act
    rw [(h l (by omega)).1, (h l (by omega)).2, kr_act_cg (k := k) (l := l + 1) (fun j hj => h j (by omega))]
theorem nk_val {K : Nat → Int} {s w q : Int} (hK : mm_KV K) : kr_val (nK K) s w q = kr_val K s w q := by
  have h0 : ks_ac K 0 := by
    obtain ⟨-, -, -, -, -, -, -, -, -, -, h10, -⟩ := id hK
    exact ⟨Int.le_refl 0, by omega⟩
  show (if q = 0 then ks_p (nK K) s 0 w else if q = 1 then ks_h K s else if q = 2 then ks_rope K s else if q = 3 then ks_col K s else ks_row K s) = _
  rw [nk_p hK h0]
  rfl
theorem nk_flS {K : Nat → Int} {T : Int → Int → Int} {W : Int → Nat → Int} {s : Int} : ∀ i, kfl_S (nK K) T W s i = kfl_S K T W s i
  | 0 => rfl
  | i + 1 => by unfold kfl_S; rw [nk_flS i]; rfl
theorem nk_fla {K : Nat → Int} {T : Int → Int → Int} {W : Int → Nat → Int} {s : Int} (i : Nat) : kfl_a (nK K) T W s i = kfl_a K T W s i := by
  unfold kfl_a; rw [nk_flS i]; rfl
section
variable {M : mm_M}
theorem kR4.T (h3 : kR3 M) (h4 : kR4 M) (s w : Int) : kq_T M s w = kc_T M s w := by
  obtain ⟨g1, g2, g3, g4⟩ := h4
  unfold kq_T kc_T kr_tell
  rw [g3]
  refine kr_act_cg ?_
  intro j hj
  have hj' : (j : Int) < M 18 1 := by omega
  obtain ⟨a1, a2, a3⟩ := g4 j hj'
  refine ⟨?_, a3⟩
  unfold kr_ln
  rw [a1]
  refine kr_h_cg ?_
  intro c hc
  obtain ⟨b1, b2, b3⟩ := a2 c (by omega)
  rw [b1, b2, b3]
  unfold kr_ok1
  rw [h3.w (fun K => kr_val K s w (kc_Q M j c)) (fun K hK => nk_val hK)]
theorem kR4.Tf (h3 : kR3 M) (h4 : kR4 M) : kq_T M = kc_T M := funext fun s => funext fun w => h4.T h3 s w
theorem kR3.fW (h3 : kR3 M) (L : Nat → Int) (h e : Int) : kfl_W L (mm_rk M) h e = kfl_W L (M 4) h e := h3.w (fun K => kfl_W L K h e) (fun _ _ => rfl)
theorem kR3.fS (h3 : kR3 M) (T : Int → Int → Int) (W : Int → Nat → Int) (s : Int) (i : Nat) : kfl_S (mm_rk M) T W s i = kfl_S (M 4) T W s i := h3.w (fun K => kfl_S K T W s i) (fun _ _ => nk_flS i)
theorem kR3.fa (h3 : kR3 M) (T : Int → Int → Int) (W : Int → Nat → Int) (s : Int) (i : Nat) : kfl_a (mm_rk M) T W s i = kfl_a (M 4) T W s i := h3.w (fun K => kfl_a K T W s i) (fun _ _ => nk_fla i)
theorem kR3.fp (h3 : kR3 M) {T : Int → Int → Int} (hT : ∀ s w, ks_ac (M 4) (T s w)) (W : Int → Nat → Int) (s : Int) (i : Nat) : kfl_p (mm_rk M) T W s i = kfl_p (M 4) T W s i := by
  unfold kfl_p
  rw [h3.fS, h3.fa]
  exact h3.p (ks_in_ac (hT _ _)) _ _
theorem kR3.fate (h3 : kR3 M) (p : Int) : ks_fate (mm_rk M) p = ks_fate (M 4) p := h3.w (fun K => ks_fate K p) (fun _ _ => rfl)
theorem kR3.fg (h3 : kR3 M) {T : Int → Int → Int} (hT : ∀ s w, ks_ac (M 4) (T s w)) (W : Int → Nat → Int) (s : Int) (i : Nat) : kfl_g (mm_rk M) T W s i = kfl_g (M 4) T W s i := by
  unfold kfl_g
  rw [h3.fa, h3.fp hT]
  exact h3.w (fun K => ks_w K (ks_dr (kfl_a (M 4) T W s i)) (kfl_p (M 4) T W s i)) (fun _ _ => rfl)
theorem kR3.fok (h3 : kR3 M) {T : Int → Int → Int} (hT : ∀ s w, ks_ac (M 4) (T s w)) (W : Int → Nat → Int) (s : Int) (i : Nat) : kfl_ok (mm_rk M) T W s i ↔ kfl_ok (M 4) T W s i := by
  unfold kfl_ok
  rw [h3.fp hT, h3.fate]
end
section
variable {X : mm_X}
theorem kf_fly : kFb X Y_X11_fly Y_X13_fly := by
  intro M hR s h n w z hs hh hn hw
  obtain ⟨hRf, h1, h2, h3, h4, h5, h6, h7, h8, h9, h10, h11, h12, h13, h14, h15, h16⟩ := id hR
  by_cases q : ks_st (M 4) s ∧ ks_hr h ∧ (1 ≤ n ∧ n ≤ 500) ∧ (1 ≤ w ∧ w ≤ 60)
  · obtain ⟨qs, qh, qn, qw⟩ := id q
    refine mm_C.mono (c_X11_fly1 (P := z ≠ 0) (X := X) hRf h3.1 h5.2.2.2.1 h4.1 qs qh qn qw) ?_
    rintro r M1 ⟨c, rfl, hRf1, -, p1, p2, p3, p4, p5, p6, p7, p8⟩
    refine ⟨_, rfl, ?_⟩
    have e1 : ∀ a b, ¬ (a = 139 ∨ a = 140) → M1 a b = M a b := fun a b y => by rw [p2 a (by omega) (by omega)]
    have k3 : kR3 M1 := h3.fr (fun a b y => e1 a b (by omega))
    have k4 : kR4 M1 := h4.fr (fun a b y => e1 a b (by omega))
    have k5 : kR5 M1 := h5.fr (fun a b y => e1 a b (by omega))
    have r4 : M1 4 = M 4 := p2 4 (by decide) (by decide)
    have tc : kc_T M1 = kc_T M := by
      unfold kc_T kc_C kc_Q kc_H kc_B kc_D
      rw [r4, p2 18 (by decide) (by decide), p2 19 (by decide) (by decide)]
    refine mm_C.mono (c_X13_fly1 (P := z ≠ 0) (X := X) (M := M1) hRf1 k3.2.1 k5.ra k4.2.1 ((k3.st s).mpr (by rw [r4]; exact qs)) qh qn qw) ?_
    rintro r2 M2 ⟨c', rfl, hRf2, -, t1, t2, t3, t4, t5, t6, t7, t8, t9⟩
    have hT : ∀ s w, ks_ac (M1 4) (kc_T M1 s w) := fun s w => kc_T_ac k3.1.1 k4.1
    obtain ⟨L, hL⟩ : ∃ L, L = (if z ≠ 0 then M 17 else M 16) := ⟨_, rfl⟩
    have hL' : (if z ≠ 0 then M1 204 else M1 203) = L := by rw [k5.2.2.1.1, k5.2.2.1.2, p2 16 (by decide) (by decide), p2 17 (by decide) (by decide), hL]
    rw [← hL] at p1 p5 p6 p7 p8
    rw [hL', k4.Tf k3, k3.fW] at t1 t6 t7 t8 t9
    rw [← tc, ← r4] at p1 p5 p6 p7 p8
    have cc : c' = c := kj_is_u p1 t1 (fun j _ => (k3.fok hT _ s j).symm)
    subst cc
    refine ⟨rfl, ?_⟩
    have e2 : ∀ a b, ¬ ((a = 183 ∧ 69 ≤ b ∧ b ≤ 78) ∨ a = 220 ∨ a = 221) → M2 a b = M1 a b := by
      intro a b y
      by_cases y1 : a = 183
      · subst y1; exact t3 b (by omega) (by omega)
      · rw [t2 a y1 (by omega) (by omega)]
    have e : ∀ a b, ¬ (a = 139 ∨ a = 140 ∨ (a = 183 ∧ 69 ≤ b ∧ b ≤ 78) ∨ a = 220 ∨ a = 221) → M2 a b = M a b := by
      intro a b y; rw [e2 a b (by omega), e1 a b (by omega)]
    have k10 : kR10 M2 := by
      have row : ∀ a, a = 139 ∨ a = 140 → M2 a = M1 a := fun a y => funext fun b => e2 a b (by omega)
      have hc := p1.1
      unfold kR10
      rw [row 139 (Or.inl rfl), row 140 (Or.inr rfl), p3, p4, p5, p6, p7, t4, t5, t6, t7, t8]
      refine ⟨Or.inr rfl, by omega, rfl, by omega, fun _ => ⟨?_, ?_, ?_, rfl, ?_⟩⟩
      · unfold kfl_end
        rw [k3.fp hT, k3.fate]
      · exact ka_sum_congr (fun j _ => k3.fg hT _ s j)
      · exact k3.fS _ _ s _
      · intro i hi
        rw [t9 i (by omega), p8 i (by omega)]
        exact k3.fa _ _ s i
    exact ⟨hRf2, h1.fr (fun a b q => e a b (by omega)), h2.fr (fun a b q => e a b (by omega)), h3.fr (fun a b q => e a b (by omega)), h4.fr (fun a b q => e a b (by omega)), h5.fr (fun a b q => e a b (by omega)), h6.fr (fun a b q => e a b (by omega)), h7.fr (fun a b q => e a b (by omega)), h8.fr (fun a b q => e a b (by omega)), h9.fr (fun a b q => e a b (by omega)), k10, h11.fr (fun a b q => e a b (by omega)), h12.fr (fun a b q => e a b (by omega)), h13.fr (fun a b q => e a b (by omega)), h14.fr (fun a b q => e a b (by omega)), h15.fr (fun a b q => e a b (by omega)), h16.fr (fun a b q => e a b (by omega))⟩
  · have c1 := c_X11_fly0 (X := X) (z := mm_b (z ≠ 0)) hRf h3.1 hs hh hn hw q
    have c2 := c_X13_fly0 (X := X) (z := mm_b (z ≠ 0)) hRf h3.2.1 hs hh hn hw (by rw [h3.st]; exact q)
    exact kk_no c1 c2 rfl hR
theorem kf_held : kF1 X Y_X11_held Y_X13_held := by
  intro M hR h hh
  obtain ⟨hRf, h1, h2, h3, h4, h5, h6, h7, h8, h9, h10, h11, h12, h13, h14, h15, h16⟩ := id hR
  by_cases q : ks_hr h
  · refine mm_C.mono (c_X11_held1 (X := X) hRf h3.1 h5.2.2.2.1 h4.1 q) ?_
    rintro r M1 ⟨rfl, hRf1, -, p2⟩
    refine ⟨_, rfl, ?_⟩
    have e1 : ∀ a b, ¬ (141 ≤ a ∧ a ≤ 143) → M1 a b = M a b := fun a b y => by rw [p2 a (by omega) (by omega) (by omega)]
    have k3 : kR3 M1 := h3.fr (fun a b y => e1 a b (by omega))
    have k4 : kR4 M1 := h4.fr (fun a b y => e1 a b (by omega))
    have k5 : kR5 M1 := h5.fr (fun a b y => e1 a b (by omega))
    have row : ∀ a, ¬ (141 ≤ a ∧ a ≤ 143) → M1 a = M a := fun a y => funext fun b => e1 a b y
    have tc : kc_T M1 = kc_T M := by
      unfold kc_T kc_C kc_Q kc_H kc_B kc_D
      rw [row 4 (by omega), row 18 (by omega), row 19 (by omega)]
    have hT : ∀ s w, ks_ac (M1 4) (kc_T M1 s w) := fun s w => kc_T_ac k3.1.1 k4.1
    refine mm_C.mono (c_X13_held1 (X := X) (M := M1) hRf1 k3.2.1 k5.ra k4.2.1 q) ?_
    rintro r2 M2 ⟨rfl, hRf2, -, t2, t3⟩
    refine ⟨?_, ?_⟩
    · have okc : ∀ (L : Nat → Int) (s : Int), kh_ok (mm_rk M1) (kq_T M1) L h s ↔ kh_ok (M1 4) (kc_T M1) L h s := by
        intro L s
        unfold kh_ok
        rw [k4.Tf k3, k3.fW]
        exact ⟨fun y i hi => (k3.fok hT _ s i).mp (y i hi), fun y i hi => (k3.fok hT _ s i).mpr (y i hi)⟩
      have ep : (fun s : Nat => kh_ok (mm_rk M1) (kq_T M1) (M1 203) h s ∧ kh_ok (mm_rk M1) (kq_T M1) (M1 204) h s) = (fun s : Nat => kh_ok (M 4) (kc_T M) (M 16) h s ∧ kh_ok (M 4) (kc_T M) (M 17) h s) := by
        funext s
        rw [okc, okc, k5.2.2.1.1, k5.2.2.1.2, tc, row 4 (by omega), row 16 (by omega), row 17 (by omega)]
      rw [ep, k3.n, row 4 (by omega)]
    · have e : ∀ a b, ¬ ((141 ≤ a ∧ a ≤ 143) ∨ (a = 183 ∧ 76 ≤ b ∧ b ≤ 78) ∨ a = 221) → M2 a b = M a b := by
        intro a b y
        rw [← e1 a b (by omega)]
        by_cases y1 : a = 183
        · subst y1; exact t3 b (by omega)
        · rw [t2 a y1 (by omega)]
      exact ⟨hRf2, h1.fr (fun a b q => e a b (by omega)), h2.fr (fun a b q => e a b (by omega)), h3.fr (fun a b q => e a b (by omega)), h4.fr (fun a b q => e a b (by omega)), h5.fr (fun a b q => e a b (by omega)), h6.fr (fun a b q => e a b (by omega)), h7.fr (fun a b q => e a b (by omega)), h8.fr (fun a b q => e a b (by omega)), h9.fr (fun a b q => e a b (by omega)), h10.fr (fun a b q => e a b (by omega)), h11.fr (fun a b q => e a b (by omega)), h12.fr (fun a b q => e a b (by omega)), h13.fr (fun a b q => e a b (by omega)), h14.fr (fun a b q => e a b (by omega)), h15.fr (fun a b q => e a b (by omega)), h16.fr (fun a b q => e a b (by omega))⟩
  · exact kk_no (c_X11_held0 (X := X) hRf hh q) (c_X13_held0 (X := X) hRf hh q) rfl hR
end
end
