/-! ===== the law from its entry ===== -/
section
variable {X : mm_X} {nm : String} {hs : List (Nat × Nat × Nat × Nat)} {M : mm_M}
theorem kL_start (hX : ∀ i, mm_R (X.2 i)) (hb : X.1 ≤ 3584) (H : ∀ (j : Nat) M, 7 * j + 7 ≤ X.1 → kR M → (j = 0 → kx_C0 M) → kAt X M) : mm_J X (Y_L nm hs) 0 243 0 0 [(2, -1), (9, 0), (9, 0), (9, 0)] [] M (fun r _ => r = (0, 1)) := by
  refine mm_new' (n := 0) dL_law_0 rfl rfl nw_L_7 ⟨by decide, by decide, by decide +kernel, by decide +kernel, by decide +kernel⟩ (fun M0 hM0 => ?_)
  refine mm_dup dL_law_3 rfl (by simp) ?_
  refine mm_I0g (c := 0) (n := 1) (n' := 183) dL_law_4 rfl li_L_9 rfl ⟨by decide, by decide, by decide, by decide +kernel, by decide +kernel, by decide +kernel⟩ rfl rfl rfl (c_X11_init (by intro b; rw [hM0, mm_z_0])) ?_
  rintro _ M4 ⟨rfl, hC⟩
  change mm_J _ _ _ _ _ _ _ _ _ _
  refine mm_astore_n dL_law_7 rfl (Nat.le_of_ble_eq_true rfl) rfl ?_
  refine mm_new' (n := 183) dL_law_8 rfl rfl nw_L_10 ⟨by decide, by decide, by decide +kernel, by decide +kernel, by decide +kernel⟩ (fun M8 hM8 => ?_)
  refine mm_dup dL_law_11 rfl (by simp) ?_
  refine mm_I0g (c := 183) (n := 184) (n' := 243) dL_law_12 rfl lm_L_12 rfl ⟨by decide, by decide, by decide, by decide +kernel, by decide +kernel, by decide +kernel⟩ rfl rfl rfl (c_M_init (by intro b; rw [hM8, mm_z_0]) (by intro c i hc hne; rw [hM8, mm_z_n (by omega)]; exact hC.1 c i hc hne)) ?_
  rintro _ M12 ⟨rfl, hRf, hfr, hR0⟩
  change mm_J _ _ _ _ _ _ _ _ _ _
  refine mm_astore_n dL_law_15 rfl (Nat.le_of_ble_eq_true rfl) rfl ?_
  refine mm_iconst dL_law_16 rfl ?_
  refine mm_istore_n dL_law_17 rfl (Nat.le_of_ble_eq_true rfl) rfl ?_
  have hC2 : kx_C0 M12 := kx_C0.fr (fun a ha => by rw [hfr a ha, hM8, mm_z_n (by omega)]) hC
  exact kL_loop hX hb H (fun _ => rfl) 0 (by decide) M12 (kx_agree hRf hC2 hR0) (fun _ => hC2)
end
/-- a text that is a constant, out of the premises -/
theorem kS_str {args : Array Value} {s : State} {t : Term} {N : Nat} {f : Nat → Int32} {A : Nat → Prop} (hN : N < 2 ^ 31) (hex : (Cond.exactly t "java/lang/String").before args s = true) (hco : (Cond.eq (.field t "java/lang/String" "coder" "B") (.int 0)).before args s = true)
    (har : (Cond.arrayOf (.field t "java/lang/String" "value" "[B") .byte).before args s = true) (hle : (Cond.eq (.length (.field t "java/lang/String" "value" "[B")) (.int (Int32.ofNat N))).before args s = true)
    (hel : ∀ j : Nat, j < N → (Cond.eq (.elem (.field t "java/lang/String" "value" "[B") (.int (Int32.ofNat j))) (.int (f j))).before args s = true) (hA : ∀ a : Nat, a < s.heap.size → ¬ A a) :
    ∃ q : Nat × Nat, t.eval args s none [] s = some (.ref q.1) ∧ va_O "java/lang/String" q.1 A s s.heap ∧ va_OF "java/lang/String" "coder" "B" (.int 0) q.1 A s s.heap ∧ va_OF "java/lang/String" "value" "[B" (.ref q.2) q.1 A s s.heap ∧ va_T .byte q.2 N (fun j => .int (f j)) A s s.heap := by
  obtain ⟨a, c, cl, k, q1, q2, q3, q4, q5, q6, -⟩ := Cond.exactly_spec (args := args) (first := s) (o := none) (s := s) (idx := []) hex
  obtain ⟨w, hw, hT⟩ := va_Tof (f := fun j => .int (f j)) (A := A) hN har (va_eqt hle) (fun j hj => va_eqt (hel j hj)) hA
  refine ⟨(a, w), q1, ⟨cl, q3, q5, ?_, hA a (Array.getElem?_eq_some_iff.mp q3).1⟩, vk_OFof q1 (va_eqt hco) hA, vk_OFof q1 hw hA, hT⟩
  rw [q6]; exact q2
theorem kS_kn {s : State} {args : Array Value} (hts : ∀ w ∈ lw_tbl, w.before args s = true) : ∀ k : Nat, ∃ q : ClassId × (Nat → Nat), ∀ r : vw_C, vwCl[k]? = some r → u_Kn s r.1 r.2.1 r.2.2 q.1 q.2 := by
  intro k
  match k with
  | 0 =>
    obtain ⟨c, i, h⟩ := u_known (C := RX0) (T := TX0) (N := 9) (n := 9) hts (fun w hw => (in_X0 w hw).1) (hts _ (mm_wq 0 147 rfl).1)
    exact ⟨(c, i), fun r hr => by cases hr; exact h⟩
  | 1 =>
    obtain ⟨c, i, h⟩ := u_known (C := RX1) (T := TX1) (N := 6) (n := 6) hts (fun w hw => (in_X1 w hw).1) (hts _ (mm_wq 1 178 rfl).1)
    exact ⟨(c, i), fun r hr => by cases hr; exact h⟩
  | 2 =>
    obtain ⟨c, i, h⟩ := u_known (C := RX2) (T := TX2) (N := 12) (n := 12) hts (fun w hw => (in_X2 w hw).1) (hts _ (mm_wq 1 129 rfl).1)
    exact ⟨(c, i), fun r hr => by cases hr; exact h⟩
  | 3 =>
    obtain ⟨c, i, h⟩ := u_known (C := RX3) (T := TX3) (N := 10) (n := 10) hts (fun w hw => (in_X3 w hw).1) (hts _ (mm_wq 0 206 rfl).1)
    exact ⟨(c, i), fun r hr => by cases hr; exact h⟩
  | 4 =>
    obtain ⟨c, i, h⟩ := u_known (C := RX4) (T := TX4) (N := 8) (n := 8) hts (fun w hw => (in_X4 w hw).1) (hts _ (mm_wq 0 72 rfl).1)
    exact ⟨(c, i), fun r hr => by cases hr; exact h⟩
  | 5 =>
    obtain ⟨c, i, h⟩ := u_known (C := RX5) (T := TX5) (N := 2) (n := 2) hts (fun w hw => (in_X5 w hw).1) (hts _ (mm_wq 1 207 rfl).1)
    exact ⟨(c, i), fun r hr => by cases hr; exact h⟩
  | 6 =>
    obtain ⟨c, i, h⟩ := u_known (C := RX6) (T := TX6) (N := 18) (n := 18) hts (fun w hw => (in_X6 w hw).1) (hts _ (mm_wq 0 214 rfl).1)
    exact ⟨(c, i), fun r hr => by cases hr; exact h⟩
  | 7 =>
    obtain ⟨c, i, h⟩ := u_known (C := RX7) (T := TX7) (N := 13) (n := 13) hts (fun w hw => (in_X7 w hw).1) (hts _ (mm_wq 1 222 rfl).1)
    exact ⟨(c, i), fun r hr => by cases hr; exact h⟩
  | 8 =>
    obtain ⟨c, i, h⟩ := u_known (C := RX8) (T := TX8) (N := 10) (n := 10) hts (fun w hw => (in_X8 w hw).1) (hts _ (mm_wq 1 36 rfl).1)
    exact ⟨(c, i), fun r hr => by cases hr; exact h⟩
  | 9 =>
    obtain ⟨c, i, h⟩ := u_known (C := RX9) (T := TX9) (N := 4) (n := 4) hts (fun w hw => (in_X9 w hw).1) (hts _ (mm_wq 0 186 rfl).1)
    exact ⟨(c, i), fun r hr => by cases hr; exact h⟩
  | 10 =>
    obtain ⟨c, i, h⟩ := u_known (C := RX10) (T := TX10) (N := 8) (n := 8) hts (fun w hw => (in_X10 w hw).1) (hts _ (mm_wq 0 34 rfl).1)
    exact ⟨(c, i), fun r hr => by cases hr; exact h⟩
  | 11 =>
    obtain ⟨c, i, h⟩ := u_known (C := RX11) (T := TX11) (N := 15) (n := 15) hts (fun w hw => (in_X11 w hw).1) (hts _ (mm_wq 0 26 rfl).1)
    exact ⟨(c, i), fun r hr => by cases hr; exact h⟩
  | 12 =>
    obtain ⟨c, i, h⟩ := u_known (C := RX12) (T := TX12) (N := 6) (n := 6) hts (fun w hw => (in_X12 w hw).1) (hts _ (mm_wq 5 119 rfl).1)
    exact ⟨(c, i), fun r hr => by cases hr; exact h⟩
  | 13 =>
    obtain ⟨c, i, h⟩ := u_known (C := RX13) (T := TX13) (N := 110) (n := 110) hts (fun w hw => (in_X13 w hw).1) (hts _ (mm_wq 5 113 rfl).1)
    exact ⟨(c, i), fun r hr => by cases hr; exact h⟩
  | k + 14 => exact ⟨(0, fun _ => 0), fun r hr => by simp [vwCl] at hr⟩
theorem kS_k {s : State} {args : Array Value} (hts : ∀ w ∈ lw_tbl, w.before args s = true) : ∃ (D : va_G) (cA : Nat → ClassId), va_K D vwCl (mm_ty cA) s := by
  obtain ⟨d, hd⟩ := Classical.axiomOfChoice (kS_kn hts)
  obtain ⟨c0, k0, p0, f0, g0, h0⟩ := Cond.arrayClass_spec (hts (.arrayClass .int) ac_0.1)
  obtain ⟨c1, k1, p1, f1, g1, h1⟩ := Cond.arrayClass_spec (hts (.arrayClass .byte) ac_1.1)
  obtain ⟨c2, k2, p2, f2, g2, h2⟩ := Cond.arrayClass_spec (hts (.arrayClass .boolean) ac_2.1)
  obtain ⟨c3, k3, p3, f3, g3, h3⟩ := Cond.arrayClass_spec (hts (.arrayClass .long) ac_3.1)
  obtain ⟨p4, c4, k4, e4, -, g4, h4, f4⟩ := Cond.arrayOver_spec (hts _ kS_w7)
  refine ⟨(fun k => (d k).1, fun k => (d k).2), fun k => if k = 0 then c0 else if k = 1 then c1 else if k = 2 then c2 else if k = 3 then c3 else c4, fun k q hq => hd k q hq, ?_⟩
  intro k q hq
  match k, hq with
  | 0, hq => cases hq; exact ⟨fun n z => ⟨fun k h => (by cases h), k0, g0, p0, h0⟩, f0⟩
  | 1, hq => cases hq; exact ⟨fun n z => ⟨fun k h => (by cases h), k1, g1, p1, h1⟩, f1⟩
  | 2, hq => cases hq; exact ⟨fun n z => ⟨fun k h => (by cases h), k2, g2, p2, h2⟩, f2⟩
  | 3, hq => cases hq; exact ⟨fun n z => ⟨fun k h => (by cases h), k3, g3, p3, h3⟩, f3⟩
  | 4, hq => cases hq; exact ⟨fun n z => ⟨fun k h => (by cases h), k4, g4, p4, h4⟩, k4, p4, g4, h4, e4, f4⟩
  | k + 5, hq => simp [mm_ty] at hq
theorem kS_ro {s : State} {b L : Nat} {xs : Nat → Int32} (hts : ∀ w ∈ lw_tbl, w.before #[Value.ref b] s = true) (hX : va_X b L xs s s.heap) (hbl : b < s.heap.size) (hgv : (Jvm.Cond.and given_1 narrow_1).before #[Value.ref b] s = true) :
    ∃ ro : Nat → Nat, ro 1 = b ∧ mm_Ro (L, fun j => (xs j).toInt) s.heap.size ro s := by
  have hs := flat_of_before _ hgv
  have hA : ∀ a : Nat, a < s.heap.size → ¬ (fun q => s.heap.size ≤ q) a := fun a ha => Nat.not_le.mpr ha
  have u1 : ∀ k : Nat, ∃ t : Nat, k < 6 → va_Z (mm_ct.getD k ("", "", [])).1 (mm_ct.getD k ("", "", [])).2.1 "[I" (.ref t) (fun q => s.heap.size ≤ q) s s.heap ∧ va_T .int t 10 (fun j => .int (mm_i (((mm_ct.getD k ("", "", [])).2.2).getD j 0))) (fun q => s.heap.size ≤ q) s s.heap := by
    intro k
    by_cases hk : k < 6
    · obtain ⟨t, ht, hT⟩ := va_Tof (f := fun j => .int (mm_i (((mm_ct.getD k ("", "", [])).2.2).getD j 0))) (A := fun q => s.heap.size ≤ q) (by decide) (hs _ (kS_7 k hk)) (va_eqt (hs _ (kS_8 k hk))) (fun j hj => va_eqt (hs _ (kS_9 k hk j hj))) hA
      exact ⟨t, fun _ => ⟨va_Zref (hts _ (kS_w2 k hk)) (hts _ (kS_w3 k hk)) ht hA, hT⟩⟩
    · exact ⟨0, fun h => absurd h hk⟩
  have u2 : ∀ k : Nat, ∃ q : Nat × Nat, k < 37 → (kS_tm k).eval #[Value.ref b] s none [] s = some (.ref q.1) ∧ va_O "java/lang/String" q.1 (fun q => s.heap.size ≤ q) s s.heap ∧ va_OF "java/lang/String" "coder" "B" (.int 0) q.1 (fun q => s.heap.size ≤ q) s s.heap ∧ va_OF "java/lang/String" "value" "[B" (.ref q.2) q.1 (fun q => s.heap.size ≤ q) s s.heap ∧
      va_T .byte q.2 (mm_sc.getD k mm_sd).2.2.2.length (fun j => .int (mm_i ((mm_sc.getD k mm_sd).2.2.2.getD j 0))) (fun q => s.heap.size ≤ q) s s.heap := by
    intro k
    by_cases hk : k < 37
    · obtain ⟨q, h⟩ := kS_str (f := fun j => mm_i ((mm_sc.getD k mm_sd).2.2.2.getD j 0)) (A := fun q => s.heap.size ≤ q) (kS_6 k hk) (hs _ (kS_1 k hk)) (hs _ (kS_2 k hk)) (hs _ (kS_3 k hk)) (hs _ (kS_4 k hk)) (fun j hj => hs _ (kS_5 k hk j hj)) hA
      exact ⟨q, fun _ => h⟩
    · exact ⟨(0, 0), fun h => absurd h hk⟩
  have u3 : ∀ j : Nat, ∃ t : Nat, j < 3 → va_Z (mm_zq.getD j ("", "", "")).1 (mm_zq.getD j ("", "", "")).2.1 (mm_zq.getD j ("", "", "")).2.2 .null (fun q => s.heap.size ≤ q) s s.heap ∨ va_Z (mm_zq.getD j ("", "", "")).1 (mm_zq.getD j ("", "", "")).2.1 (mm_zq.getD j ("", "", "")).2.2 (.ref t) (fun q => s.heap.size ≤ q) s s.heap := by
    intro j
    by_cases hj : j < 3
    · rcases va_Zqof (A := fun q => s.heap.size ≤ q) (hts _ (kS_w4 j hj)) (hts _ (kS_w5 j hj)) (hs _ (kS_11 j hj)) hA with h | ⟨t, h⟩
      · exact ⟨0, fun _ => Or.inl h⟩
      · exact ⟨t, fun _ => Or.inr h⟩
    · exact ⟨0, fun h => absurd h hj⟩
  obtain ⟨a1, h1⟩ := Classical.axiomOfChoice u1
  obtain ⟨a2, h2⟩ := Classical.axiomOfChoice u2
  obtain ⟨a3, h3⟩ := Classical.axiomOfChoice u3
  obtain ⟨ro, hro⟩ : ∃ ro : Nat → Nat, ro = fun x => if x = 1 then b else if x < 50 then a1 (x - 2) else if x < 100 then a3 (x - 50) else if x < 200 then (a2 (x - 100)).1 else (a2 (x - 200)).2 := ⟨_, rfl⟩
  have r1 : ro 1 = b := by rw [hro]; rfl
  have r2 : ∀ k, k < 6 → ro (k + 2) = a1 k := by
    intro k hk; rw [hro]; simp only []
    rw [if_neg (by omega), if_pos (by omega), show k + 2 - 2 = k by omega]
  have r3 : ∀ j, j < 3 → ro (50 + j) = a3 j := by
    intro k hk; rw [hro]; simp only []
    rw [if_neg (by omega), if_neg (by omega), if_pos (by omega), show 50 + k - 50 = k by omega]
  have r4 : ∀ k, k < 37 → ro (k + 100) = (a2 k).1 := by
    intro k hk; rw [hro]; simp only []
    rw [if_neg (by omega), if_neg (by omega), if_neg (by omega), if_pos (by omega), show k + 100 - 100 = k by omega]
  have r5 : ∀ k, k < 37 → ro (k + 200) = (a2 k).2 := by
    intro k hk; rw [hro]; simp only []
    rw [if_neg (by omega), if_neg (by omega), if_neg (by omega), if_neg (by omega), show k + 200 - 200 = k by omega]
  clear hro
  refine ⟨ro, r1, ?_, ?_, ?_, ?_, ?_, ?_, ?_⟩
  · obtain ⟨scr, q1, q2, q3, q4, q5⟩ := hX
    rw [r1]
    refine ⟨scr, q1, q2, q3, by rw [q4]; exact Nat.le_refl _, by rw [q4], ?_, hA b hbl⟩
    intro j hj
    rw [q5 j hj]
    have e : mm_i ((xs j).toInt) = xs j := by unfold mm_i; exact Int32.ofInt_toInt _
    show some (Value.int (xs j)) = some (.int (mm_i ((xs j).toInt)))
    rw [e]
  · intro k hk
    rw [r2 k hk]
    refine ⟨(h1 k hk).1, ?_⟩
    match k, hk, (h1 k hk).2 with
    | 0, _, h => exact h
    | 1, _, h => exact h
    | 2, _, h => exact h
    | 3, _, h => exact h
    | 4, _, h => exact h
    | 5, _, h => exact h
    | k + 6, hk, _ => exact absurd hk (by omega)
  · exact va_Zof (hts _ (mm_wq 2 143 rfl).1) (hts _ (mm_wq 0 20 rfl).1) (va_eqt (hs _ kS_10)) hA
  · intro k hk
    rw [r4 k hk, r5 k hk]
    obtain ⟨g1, g2, g3, g4, g5⟩ := h2 k hk
    exact ⟨vk_R.of (hts _ (kS_w1 k hk)) g1, g2, g3, g4, g5⟩
  · intro q hq
    exact va_Nw.of rfl (hts _ (kS_w6 q hq))
  · exact va_AO.of (hts _ kS_w7)
  · intro j hj
    rw [r3 j hj]
    exact h3 j hj
