/-! ===== constructors: the class ===== -/
/-- the class as its constructor leaves it -/
def kx_C0 (M : mm_M) : Prop := (∀ c i, c < 183 → mm_rt c i ≠ 0 → M c i = mm_rt c i) ∧ (mm_CK M ∧ (∀ b, b < 36 → M 4 b = kp_D0 (fun _ => 0) b) ∧ M 5 = kp_D0 (fun _ => 0)) ∧ (∀ b, b < 120 → M 16 b = 10) ∧ (∀ b, b < 120 → M 17 b = 10) ∧ (∀ b, b < 24 → M 173 b = 9999) ∧ M 21 9 = -1 ∧ M 1 3 = -1 ∧ M 0 14 = 10 ∧
  ∀ a b, a < 183 → ¬ (3 ≤ a ∧ a ≤ 10) → ¬ (a = 16 ∧ b < 120) → ¬ (a = 17 ∧ b < 120) → ¬ (a = 173 ∧ b < 24) → ¬ (a = 21 ∧ b = 9) → ¬ (a = 1 ∧ b = 3) → ¬ (a = 0 ∧ b = 14) → M a b = mm_rt a b
theorem kx_k10 : ∀ c : Nat, 3 < c → c ≤ 10 → ∀ i, mm_rt c i = 0 := by
  intro c h1 h2 i
  rcases (show c = 4 ∨ c = 5 ∨ c = 6 ∨ c = 7 ∨ c = 8 ∨ c = 9 ∨ c = 10 by omega) with e | e | e | e | e | e | e <;> (subst e; exact mm_rt_ar (t := 0) rfl (by decide))
theorem kx_rf3 {M : mm_M} (h : kc_rf M) : ∀ i, mm_rt 3 i ≠ 0 → M 3 i = mm_rt 3 i := by
  intro i hi
  obtain ⟨a0, a1, a3, a4, a5, a6, a7⟩ := h
  by_cases q : ([0, 1, 3, 4, 5, 6, 7] : List Nat).contains i = true
  · simp at q
    rcases q with q | q | q | q | q | q | q <;> subst q
    · exact a0.trans rfl
    · exact a1.trans rfl
    · exact a3.trans rfl
    · exact a4.trans rfl
    · exact a5.trans rfl
    · exact a6.trans rfl
    · exact a7.trans rfl
  · exact absurd (mm_rt_no [0, 1, 3, 4, 5, 6, 7] (by decide +kernel) q) hi
theorem kx_row8 {M N : mm_M} {c len : Nat} (w : mm_rw c len) (w1 : mm_sh (c + 1) = (1, len)) (w2 : mm_sh (c + 1 + 1) = (1, len)) (p2 : ∀ b, N c b = if b = 0 then (c : Int) + 2 else if b = 1 then (c : Int) + 3 else M c b) (hz : ∀ b, M c b = 0) (p3 : ∀ b, N (c + 1) b = 0) (p4 : ∀ b, N (c + 2) b = 0) : ∀ a b, c ≤ a → a < c + 3 → N a b = mm_rt a b := by
  intro a b h1 h2
  rcases (show a = c ∨ a = c + 1 ∨ a = c + 1 + 1 by omega) with q | q | q
  · rw [q, p2 b]
    by_cases b0 : b = 0
    · rw [if_pos b0, b0, w.2.2.2.2.1]; omega
    · by_cases b1 : b = 1
      · rw [if_neg b0, if_pos b1, b1, w.2.2.2.2.2.1]; omega
      · rw [if_neg b0, if_neg b1, hz b, mm_rt_row w (by omega)]
  · rw [q, p3 b, mm_rt_arr w1]
  · rw [q, mm_rt_arr w2]; exact p4 b
/-- the first object while it is built: so many cells, so many fields -/
def kx_O (N : mm_M) (k : Nat) : Prop := (∀ b, b < k → N 0 b = mm_rt 0 b) ∧ ∀ b, k ≤ b → N 0 b = 0
theorem kx_O.put {N P : mm_M} {k : Nat} {v : Int} (h : kx_O N k) (hP : P 0 = N 0) (hv : v = mm_rt 0 k) : kx_O (mm_up P 0 k v) (k + 1) := by
  refine ⟨fun b hb => ?_, fun b hb => ?_⟩
  · by_cases q : b = k
    · rw [q, mm_up_s, hv]
    · rw [mm_up_i q, hP]; exact h.1 b (by omega)
  · rw [mm_up_i (by omega), hP]; exact h.2 b (by omega)
theorem kx_ck {M N : mm_M} (h : ∀ a, 3 ≤ a → a ≤ 10 → N a = M a) (hc : mm_CK M) : mm_CK N := by
  unfold mm_CK at hc ⊢
  rw [h 3 (by omega) (by omega), h 4 (by omega) (by omega), h 6 (by omega) (by omega), h 7 (by omega) (by omega), h 8 (by omega) (by omega), h 9 (by omega) (by omega), h 10 (by omega) (by omega)]
  exact hc
/-- the kite, untold -/
def kx_K0 (M : mm_M) : Prop := kc_rf M ∧ mm_CK M ∧ (∀ b, b < 36 → M 4 b = kp_D0 (fun _ => 0) b) ∧ M 5 = kp_D0 (fun _ => 0)
theorem kx_K0.fr {M N : mm_M} (h : ∀ a, 3 ≤ a → a ≤ 10 → N a = M a) (hc : kx_K0 M) : kx_K0 N := by
  obtain ⟨h1, h2, h3, h4⟩ := hc
  refine ⟨?_, kx_ck h h2, ?_, ?_⟩
  · unfold kc_rf at h1 ⊢
    rw [h 3 (by omega) (by omega)]
    exact h1
  · rw [h 4 (by omega) (by omega)]; exact h3
  · rw [h 5 (by omega) (by omega)]; exact h4
/-- what is not as the layout has it -/
def kx_E (a b : Nat) : Prop := (3 ≤ a ∧ a ≤ 10) ∨ (a = 16 ∧ b < 120) ∨ (a = 17 ∧ b < 120) ∨ (a = 173 ∧ b < 24) ∨ (a = 21 ∧ b = 9) ∨ (a = 1 ∧ b = 3) ∨ (a = 0 ∧ b = 14)
theorem kx_mk {M : mm_M} (hK : kx_K0 M) (h16 : ∀ b, b < 120 → M 16 b = 10) (h17 : ∀ b, b < 120 → M 17 b = 10) (h173 : ∀ b, b < 24 → M 173 b = 9999) (h21 : M 21 9 = -1) (h1 : M 1 3 = -1) (h0 : M 0 14 = 10) (hg : ∀ a b, a < 183 → ¬ kx_E a b → M a b = mm_rt a b) : kx_C0 M := by
  refine ⟨?_, ⟨hK.2.1, hK.2.2.1, hK.2.2.2⟩, h16, h17, h173, h21, h1, h0, ?_⟩
  · intro c i hc hne
    by_cases q : kx_E c i
    · rcases q with q | q | q | q | q | q | q
      · by_cases e : c = 3
        · subst e; exact kx_rf3 hK.1 i hne
        · exact absurd (kx_k10 c (by omega) q.2 i) hne
      · exact absurd (by rw [q.1]; exact mm_rt_ar (t := 0) rfl (by decide)) hne
      · exact absurd (by rw [q.1]; exact mm_rt_ar (t := 0) rfl (by decide)) hne
      · exact absurd (by rw [q.1]; exact mm_rt_ar (t := 0) rfl (by decide)) hne
      · exact absurd (by rw [q.1, q.2]; rfl) hne
      · exact absurd (by rw [q.1, q.2]; rfl) hne
      · exact absurd (by rw [q.1, q.2]; rfl) hne
    · exact hg c i hc q
  · intro a b ha a1 a2 a3 a4 a5 a6 a7
    exact hg a b ha (fun z => z.elim a1 (fun z => z.elim a2 (fun z => z.elim a3 (fun z => z.elim a4 (fun z => z.elim a5 (fun z => z.elim a6 a7))))))
/-- half way: the rows are to be made -/
def kx_H (N : mm_M) : Prop := kx_O N 8 ∧ kx_K0 N ∧ (∀ b, b < 120 → N 16 b = 10) ∧ (∀ b, b < 120 → N 17 b = 10) ∧ N 21 9 = -1 ∧ N 1 3 = -1 ∧ ∀ a b, 0 < a → a < 120 → ¬ kx_E a b → N a b = mm_rt a b
section
variable {X : mm_X} {M : mm_M}
theorem kx_keptrows : ∀ i : Nat, i < 6 → mm_sh (121 + 3 * i) = (0, 8) ∧ mm_sh (121 + 3 * i + 1) = (1, 100) ∧ mm_sh (121 + 3 * i + 1 + 1) = (1, 100) ∧ mm_sz (121 + 3 * i + 1) = mm_sz (121 + 3 * i) + mm_nf 8 ∧ mm_sz (121 + 3 * i + 1 + 1) = mm_sz (121 + 3 * i + 1) + 100 ∧ mm_sz (121 + 3 * i + 1 + 1 + 1) = mm_sz (121 + 3 * i + 1 + 1) + 100 ∧ mm_sz 1 ≤ mm_sz (121 + 3 * i) ∧ mm_sz (121 + 3 * i + 1 + 1 + 1) ≤ mm_sz 183 ∧ mm_sz (121 + 3 * i) ≤ mm_sz (121 + 3 * i + 1) ∧ mm_sz (121 + 3 * i + 1) ≤ mm_sz (121 + 3 * i + 1 + 1 + 1) := by decide +kernel
theorem kx_tail (N : mm_M) (hH : kx_H N) (h120 : ∀ b, N 120 b = mm_rt 120 b) (hr : ∀ a b, 121 ≤ a → a < 139 → N a b = mm_rt a b) :
    mm_J X Y_X11_init 1 183 139 140 [(2, 1), (0, 6)] [] N (fun r M' => r = (3, 0) ∧ kx_C0 M') := by
  obtain ⟨O, hK, h16, h17, h21, h1, hg⟩ := hH
  refine mm_aload_n dX11_init_140 rfl rfl ?_
  refine mm_new' (n := 139) dX11_init_141 rfl rfl nw_X11_64 ⟨by decide, by decide, by decide +kernel, by decide +kernel, by decide +kernel⟩ (fun M141 hM141 => ?_)
  refine mm_dup dX11_init_144 rfl (by simp) ?_
  have r1 : M141 0 1 = 4 := by rw [hM141, mm_z_n (by decide)]; exact O.1 1 (by decide)
  have r2 : M141 0 2 = 12 := by rw [hM141, mm_z_n (by decide)]; exact O.1 2 (by decide)
  have r3 : M141 0 3 = 19 := by rw [hM141, mm_z_n (by decide)]; exact O.1 3 (by decide)
  refine mm_aload_n dX11_init_145 rfl rfl ?_
  refine mm_getr dX11_init_146 rfl fl_X11_19 (c := 0) rfl (by decide) rfl rfl (r1) ?_
  refine mm_aload_n dX11_init_149 rfl rfl ?_
  refine mm_getr dX11_init_150 rfl fl_X11_28 (c := 0) rfl (by decide) rfl rfl (r2) ?_
  refine mm_aload_n dX11_init_153 rfl rfl ?_
  refine mm_getr dX11_init_154 rfl fl_X11_35 (c := 0) rfl (by decide) rfl rfl (r3) ?_
  refine mm_I3g (c := 139) (n := 140) (n' := 144) dX11_init_157 rfl li_X11_66 rfl ⟨by decide, by decide, by decide, by decide +kernel, by decide +kernel, by decide +kernel⟩ (by simp) (by simp) (by simp) rfl rfl rfl (c_X2_init (by intro b; rw [hM141, mm_z_0])) ?_
  rintro _ N157 ⟨rfl, p157⟩
  change mm_J _ _ _ _ _ _ _ _ _ _
  refine mm_putr' dX11_init_160 rfl fl_X11_69 (by first | exact Or.inl ⟨_, rfl⟩ | exact Or.inr ⟨_, rfl⟩) rfl fr_X11 (c := 0) rfl (by decide) rfl rfl (fun M160 hM160 => ?_)
  have u160 : ∀ a, 0 < a → a < 139 → M160 a = N a := fun a a0 ha => by rw [hM160, mm_up_row (by omega), p157.1 a ha, hM141, mm_z_n (by omega)]
  have O160 : kx_O M160 9 := by rw [hM160]; exact O.put ((p157.1 0 (by decide)).trans (by rw [hM141, mm_z_n (by decide)])) rfl
  refine mm_aload_n dX11_init_163 rfl rfl ?_
  refine mm_new' (n := 144) dX11_init_164 rfl rfl nw_X11_73 ⟨by decide, by decide, by decide +kernel, by decide +kernel, by decide +kernel⟩ (fun M164 hM164 => ?_)
  refine mm_dup dX11_init_167 rfl (by simp) ?_
  have r1 : M164 0 1 = 4 := by rw [hM164, mm_z_n (by decide)]; exact O160.1 1 (by decide)
  refine mm_aload_n dX11_init_168 rfl rfl ?_
  refine mm_getr dX11_init_169 rfl fl_X11_19 (c := 0) rfl (by decide) rfl rfl (r1) ?_
  refine mm_I1g (c := 144) (n := 145) (n' := 172) dX11_init_172 rfl li_X11_75 rfl ⟨by decide, by decide, by decide, by decide +kernel, by decide +kernel, by decide +kernel⟩ (by simp) rfl rfl rfl (c_X1_init (by intro b; rw [hM164, mm_z_0])) ?_
  rintro _ N172 ⟨rfl, p172⟩
  change mm_J _ _ _ _ _ _ _ _ _ _
  refine mm_putr' dX11_init_175 rfl fl_X11_76 (by first | exact Or.inl ⟨_, rfl⟩ | exact Or.inr ⟨_, rfl⟩) rfl fr_X11 (c := 0) rfl (by decide) rfl rfl (fun M175 hM175 => ?_)
  have u175 : ∀ a, 0 < a → a < 144 → M175 a = M160 a := fun a a0 ha => by rw [hM175, mm_up_row (by omega), p172.1 a ha, hM164, mm_z_n (by omega)]
  have O175 : kx_O M175 10 := by rw [hM175]; exact O160.put ((p172.1 0 (by decide)).trans (by rw [hM164, mm_z_n (by decide)])) rfl
  refine mm_aload_n dX11_init_178 rfl rfl ?_
  refine mm_new' (n := 172) dX11_init_179 rfl rfl nw_X11_80 ⟨by decide, by decide, by decide +kernel, by decide +kernel, by decide +kernel⟩ (fun M179 hM179 => ?_)
  refine mm_dup dX11_init_182 rfl (by simp) ?_
  refine mm_I0g (c := 172) (n := 173) (n' := 174) dX11_init_183 rfl li_X11_82 rfl ⟨by decide, by decide, by decide, by decide +kernel, by decide +kernel, by decide +kernel⟩  rfl rfl rfl (c_X5_init (by intro b; rw [hM179, mm_z_0])) ?_
  rintro _ N183 ⟨rfl, p183⟩
  change mm_J _ _ _ _ _ _ _ _ _ _
  refine mm_putr' dX11_init_186 rfl fl_X11_83 (by first | exact Or.inl ⟨_, rfl⟩ | exact Or.inr ⟨_, rfl⟩) rfl fr_X11 (c := 0) rfl (by decide) rfl rfl (fun M186 hM186 => ?_)
  have u186 : ∀ a, 0 < a → a < 172 → M186 a = M175 a := fun a a0 ha => by rw [hM186, mm_up_row (by omega), p183.1.1 a ha, hM179, mm_z_n (by omega)]
  have O186 : kx_O M186 11 := by rw [hM186]; exact O175.put ((p183.1.1 0 (by decide)).trans (by rw [hM179, mm_z_n (by decide)])) rfl
  refine mm_aload_n dX11_init_189 rfl rfl ?_
  refine mm_new' (n := 174) dX11_init_190 rfl rfl nw_X11_87 ⟨by decide, by decide, by decide +kernel, by decide +kernel, by decide +kernel⟩ (fun M190 hM190 => ?_)
  refine mm_dup dX11_init_193 rfl (by simp) ?_
  have r1 : M190 0 1 = 4 := by rw [hM190, mm_z_n (by decide)]; exact O186.1 1 (by decide)
  have r2 : M190 0 2 = 12 := by rw [hM190, mm_z_n (by decide)]; exact O186.1 2 (by decide)
  refine mm_aload_n dX11_init_194 rfl rfl ?_
  refine mm_getr dX11_init_195 rfl fl_X11_19 (c := 0) rfl (by decide) rfl rfl (r1) ?_
  refine mm_aload_n dX11_init_198 rfl rfl ?_
  refine mm_getr dX11_init_199 rfl fl_X11_28 (c := 0) rfl (by decide) rfl rfl (r2) ?_
  refine mm_I2g (c := 174) (n := 175) (n' := 183) dX11_init_202 rfl li_X11_89 rfl ⟨by decide, by decide, by decide, by decide +kernel, by decide +kernel, by decide +kernel⟩ (by simp) (by simp) rfl rfl rfl (c_X7_init (by intro b; rw [hM190, mm_z_0])) ?_
  rintro _ N202 ⟨rfl, p202⟩
  change mm_J _ _ _ _ _ _ _ _ _ _
  refine mm_putr' dX11_init_205 rfl fl_X11_90 (by first | exact Or.inl ⟨_, rfl⟩ | exact Or.inr ⟨_, rfl⟩) rfl fr_X11 (c := 0) rfl (by decide) rfl rfl (fun M205 hM205 => ?_)
  have u205 : ∀ a, 0 < a → a < 174 → M205 a = M186 a := fun a a0 ha => by rw [hM205, mm_up_row (by omega), p202.1 a ha, hM190, mm_z_n (by omega)]
  have O205 : kx_O M205 12 := by rw [hM205]; exact O186.put ((p202.1 0 (by decide)).trans (by rw [hM190, mm_z_n (by decide)])) rfl
  refine mm_aload_n dX11_init_208 rfl rfl ?_
  refine mm_bipush dX11_init_209 rfl (by decide) ?_
  refine mm_puti dX11_init_211 rfl fl_X11_94 (c := 0) rfl (by decide) rfl rfl (fun M211 hM211 => ?_)
  refine mm_vret dX11_init_214 rfl rfl ?_
  have u211 : ∀ a, 0 < a → M211 a = M205 a := fun a a0 => by rw [hM211, mm_up_row (by omega)]
  have e139 : ∀ a, 0 < a → a < 139 → M211 a = N a := fun a a0 ha => by rw [u211 a a0, u205 a a0 (by omega), u186 a a0 (by omega), u175 a a0 (by omega), u160 a a0 ha]
  have e144 : ∀ a, 0 < a → a < 144 → M211 a = M160 a := fun a a0 ha => by rw [u211 a a0, u205 a a0 (by omega), u186 a a0 (by omega), u175 a a0 (by omega)]
  have e172 : ∀ a, 0 < a → a < 172 → M211 a = M175 a := fun a a0 ha => by rw [u211 a a0, u205 a a0 (by omega), u186 a a0 (by omega)]
  have e174 : ∀ a, 0 < a → a < 174 → M211 a = M186 a := fun a a0 ha => by rw [u211 a a0, u205 a a0 (by omega)]
  refine ⟨rfl, kx_mk (hK.fr (fun a a1 a2 => e139 a (by omega) (by omega))) ?_ ?_ ?_ ?_ ?_ ?_ ?_⟩
  · rw [e139 16 (by decide) (by decide)]; exact h16
  · rw [e139 17 (by decide) (by decide)]; exact h17
  · rw [e174 173 (by decide) (by decide), hM186, mm_up_row (by decide)]; exact p183.2
  · rw [e139 21 (by decide) (by decide)]; exact h21
  · rw [e139 1 (by decide) (by decide)]; exact h1
  · rw [hM211, mm_up_s]
  · intro a b ha hE
    by_cases a0 : a = 0
    · subst a0
      have hb : b ≠ 14 := fun z => hE (Or.inr (Or.inr (Or.inr (Or.inr (Or.inr (Or.inr ⟨rfl, z⟩))))))
      rw [hM211, mm_up_i hb]
      by_cases q : b < 12
      · exact O205.1 b q
      · rw [O205.2 b (by omega), mm_rt_no (List.range 12) (by decide +kernel) (by simp; omega)]
    · have a0' : 0 < a := by omega
      by_cases q : a < 120
      · rw [e139 a a0' (by omega)]; exact hg a b a0' q hE
      · by_cases q2 : a < 139
        · rw [e139 a a0' q2]
          by_cases q3 : a = 120
          · rw [q3]; exact h120 b
          · exact hr a b (by omega) q2
        · by_cases q4 : a < 144
          · rw [e144 a a0' q4, hM160, mm_up_row a0]; exact p157.2 a b (by omega) q4 (fun z => z)
          · by_cases q5 : a < 172
            · rw [e172 a a0' q5, hM175, mm_up_row a0]; exact p172.2 a b (by omega) q5 (fun z => z)
            · by_cases q6 : a < 174
              · rw [e174 a a0' q6, hM186, mm_up_row a0]; exact p183.1.2 a b (by omega) q6 (fun z => hE (Or.inr (Or.inr (Or.inr (Or.inl z)))))
              · rw [u211 a a0', hM205, mm_up_row a0]; exact p202.2 a b (by omega) ha (fun z => z)
theorem kx_loop (P : mm_M) (hH : kx_H P) : ∀ i : Nat, i ≤ 6 → ∀ N : mm_M, (∀ a, a < 120 → N a = P a) → (∀ a b, 121 ≤ a → a < 121 + 3 * i → N a b = mm_rt a b) → (∀ b, N 120 b = if b < i then mm_rt 120 b else 0) →
    mm_J X Y_X11_init 1 183 (121 + 3 * i) 113 [(2, 1), (0, (i : Int))] [] N (fun r M' => r = (3, 0) ∧ kx_C0 M') := by
  refine mm_lp ?_
  intro i hi ih N h1 h2 h3
  have r7 : N 0 7 = 121 := by rw [h1 0 (by decide)]; exact hH.1.1 7 (by decide)
  by_cases hlt : i < 6
  · obtain ⟨w0, w1, w2, w3, w4, w5, w6, w7, w8, w9⟩ := kx_keptrows i hlt
    have wr := mm_rw_kept i hlt
    refine mm_iload_n dX11_init_113 rfl rfl ?_
    refine mm_bipush dX11_init_114 rfl (by decide) ?_
    refine mm_icge dX11_init_116 (by omega) (by omega) (fun h116 => ?_) (fun h116 => ?_)
    · exfalso; omega
    · refine mm_aload_n dX11_init_119 rfl rfl ?_
      refine mm_getr dX11_init_120 rfl fl_X11_60 (c := 0) rfl (by omega) rfl rfl (r7) ?_
      refine mm_iload_n dX11_init_123 rfl rfl ?_
      refine mm_new' (n := 121+3*i) dX11_init_124 rfl w0 nw_X11_48 ⟨by omega, by omega, w6, w3, by omega⟩ (fun M124 hM124 => ?_)
      refine mm_dup dX11_init_127 rfl (by simp) ?_
      refine mm_bipush dX11_init_128 rfl (by decide) ?_
      refine mm_I1g (c := 121+3*i) (n := 121+3*i + 1) (n' := 121+3*i+1+1+1) dX11_init_130 rfl li_X11_50 rfl ⟨by omega, by omega, by omega, by omega, by omega, by omega⟩ (by simp) rfl rfl rfl (c_X8_init (c := 121 + 3 * i) (len := 100) w0 w1 w2 (by decide) w4 w5) ?_
      rintro _ N130 ⟨rfl, p130⟩
      change mm_J _ _ _ _ _ _ _ _ _ _
      refine mm_aast' (k0 := i) dX11_init_133 rfl (c := 120) rfl (by omega) rfl (d := 121+3*i) rfl (by omega)   w0 (by omega) (by omega) (fun M133 hM133 => ?_)
      refine mm_iinc dX11_init_134 rfl rfl (Nat.le_of_ble_eq_true rfl) rfl ?_
      refine mm_goto dX11_init_137 ?_
      obtain ⟨p1, p2, p3, p4⟩ := p130
      have e : 121 + 3 * (i + 1) = 121 + 3 * i + 1 + 1 + 1 := by omega
      have go := ih hlt M133 ?_ ?_ ?_
      · rw [e] at go; exact go
      · intro a ha; rw [hM133, mm_up_row (by omega), p1 a (by omega), hM124, mm_z_n (by omega)]; exact h1 a ha
      · intro a b a1 a3
        rw [hM133, mm_up_row (by omega)]
        by_cases q : a < 121 + 3 * i
        · rw [p1 a q, hM124, mm_z_n (by omega)]; exact h2 a b a1 q
        · exact kx_row8 wr.1 w1 w2 p2 (by intro b; rw [hM124, mm_z_0]) p3 p4 a b (by omega) (by omega)
      · intro b
        by_cases q : b = i
        · rw [q, hM133, mm_up_s, if_pos (by omega)]; exact wr.2.symm
        · rw [hM133, mm_up_i q, p1 120 (by omega), hM124, mm_z_n (by omega), h3 b]
          by_cases w : b < i
          · rw [if_pos w, if_pos (by omega)]
          · rw [if_neg w, if_neg (by omega)]
  · have ei : i = 6 := by omega
    subst ei
    refine mm_iload_n dX11_init_113 rfl rfl ?_
    refine mm_bipush dX11_init_114 rfl (by decide) ?_
    refine mm_icge dX11_init_116 (by omega) (by omega) (fun h116 => ?_) (fun h116 => ?_)
    · refine kx_tail N ?_ ?_ h2
      · obtain ⟨O, hK, h16, h17, h21, h1', hg⟩ := hH
        refine ⟨⟨?_, ?_⟩, hK.fr (fun a a1 a2 => h1 a (by omega)), ?_, ?_, ?_, ?_, ?_⟩
        · intro b hb; rw [h1 0 (by decide)]; exact O.1 b hb
        · intro b hb; rw [h1 0 (by decide)]; exact O.2 b hb
        · rw [h1 16 (by decide)]; exact h16
        · rw [h1 17 (by decide)]; exact h17
        · rw [h1 21 (by decide)]; exact h21
        · rw [h1 1 (by decide)]; exact h1'
        · intro a b a1 a2 a3; rw [h1 a a2]; exact hg a b a1 a2 a3
      · intro b; rw [h3 b]
        by_cases w : b < 6
        · rw [if_pos w]
        · rw [if_neg w, mm_rt_no (List.range 6) (by decide +kernel) (by simp; omega)]
    · exfalso; omega
theorem c_X11_init (hz : ∀ b, M 0 b = 0) : mm_C X Y_X11_init 1 183 [(2, 1)] M (fun r M' => r = (3, 0) ∧ kx_C0 M') := by
  refine mm_start (ls := [(2, 1), (9, 0)]) rfl ?_
  refine mm_aload_n dX11_init_0 rfl rfl ?_
  refine mm_oinit' (c := 0) dX11_init_1 rfl oi_X11_1 rfl rfl rfl ?_
  refine mm_aload_n dX11_init_4 rfl rfl ?_
  refine mm_new' (n := 1) dX11_init_5 rfl rfl nw_X11_7 ⟨by decide, by decide, by decide +kernel, by decide +kernel, by decide +kernel⟩ (fun M5 hM5 => ?_)
  refine mm_dup dX11_init_8 rfl (by simp) ?_
  refine mm_I0n (c := 1) (n := 2) (n' := 3) dX11_init_9 rfl ln_X11_9 rfl ⟨by decide, by decide, by decide, by decide +kernel, by decide +kernel, by decide +kernel⟩  rfl rfl rfl (c_X10_init (by intro b; rw [hM5, mm_z_0])) ?_
  rintro _ N9 ⟨rfl, p9⟩
  change mm_J _ _ _ _ _ _ _ _ _ _
  refine mm_putr' dX11_init_12 rfl fl_X11_10 (by first | exact Or.inl ⟨_, rfl⟩ | exact Or.inr ⟨_, rfl⟩) rfl fr_X11 (c := 0) rfl (by decide) rfl rfl (fun M12 hM12 => ?_)
  have O12 : kx_O M12 1 := by rw [hM12]; exact kx_O.put (N := M) ⟨fun b hb => absurd hb (by omega), fun b _ => hz b⟩ ((p9.1.1 0 (by decide)).trans (by rw [hM5, mm_z_n (by decide)])) rfl
  refine mm_aload_n dX11_init_15 rfl rfl ?_
  refine mm_new' (n := 3) dX11_init_16 rfl rfl nw_X11_16 ⟨by decide, by decide, by decide +kernel, by decide +kernel, by decide +kernel⟩ (fun M16 hM16 => ?_)
  refine mm_dup dX11_init_19 rfl (by simp) ?_
  refine mm_I0g (c := 3) (n := 4) (n' := 11) dX11_init_20 rfl li_X11_18 rfl ⟨by decide, by decide, by decide, by decide +kernel, by decide +kernel, by decide +kernel⟩  rfl rfl rfl (c_X4_init (by intro b; rw [hM16, mm_z_0])) ?_
  rintro _ N20 ⟨rfl, p20⟩
  change mm_J _ _ _ _ _ _ _ _ _ _
  refine mm_putr' dX11_init_23 rfl fl_X11_19 (by first | exact Or.inl ⟨_, rfl⟩ | exact Or.inr ⟨_, rfl⟩) rfl fr_X11 (c := 0) rfl (by decide) rfl rfl (fun M23 hM23 => ?_)
  have s23 : ∀ a, 0 < a → a < 3 → M23 a = M12 a := fun a a0 ha => by rw [hM23, mm_up_row (by omega), p20.1 a ha, hM16, mm_z_n (by omega)]
  have O23 : kx_O M23 2 := by rw [hM23]; exact O12.put ((p20.1 0 (by decide)).trans (by rw [hM16, mm_z_n (by decide)])) rfl
  refine mm_aload_n dX11_init_26 rfl rfl ?_
  refine mm_new' (n := 11) dX11_init_27 rfl rfl nw_X11_23 ⟨by decide, by decide, by decide +kernel, by decide +kernel, by decide +kernel⟩ (fun M27 hM27 => ?_)
  refine mm_dup dX11_init_30 rfl (by simp) ?_
  have r1 : M27 0 1 = 4 := by rw [hM27, mm_z_n (by decide)]; exact O23.1 1 (by decide)
  refine mm_aload_n dX11_init_31 rfl rfl ?_
  refine mm_getr dX11_init_32 rfl fl_X11_19 (c := 0) rfl (by decide) rfl rfl (r1) ?_
  refine mm_I1g (c := 11) (n := 12) (n' := 18) dX11_init_35 rfl li_X11_25 rfl ⟨by decide, by decide, by decide, by decide +kernel, by decide +kernel, by decide +kernel⟩ (by simp) rfl rfl rfl (c_X0_init (by intro b; rw [hM27, mm_z_0])) ?_
  rintro _ N35 ⟨rfl, p35⟩
  change mm_J _ _ _ _ _ _ _ _ _ _
  refine mm_putr' dX11_init_38 rfl fl_X11_28 (by first | exact Or.inl ⟨_, rfl⟩ | exact Or.inr ⟨_, rfl⟩) rfl fr_X11 (c := 0) rfl (by decide) rfl rfl (fun M38 hM38 => ?_)
  have s38 : ∀ a, 0 < a → a < 11 → M38 a = M23 a := fun a a0 ha => by rw [hM38, mm_up_row (by omega), p35.1.1 a ha, hM27, mm_z_n (by omega)]
  have O38 : kx_O M38 3 := by rw [hM38]; exact O23.put ((p35.1.1 0 (by decide)).trans (by rw [hM27, mm_z_n (by decide)])) rfl
  refine mm_aload_n dX11_init_41 rfl rfl ?_
  refine mm_new' (n := 18) dX11_init_42 rfl rfl nw_X11_32 ⟨by decide, by decide, by decide +kernel, by decide +kernel, by decide +kernel⟩ (fun M42 hM42 => ?_)
  refine mm_dup dX11_init_45 rfl (by simp) ?_
  have r1 : M42 0 1 = 4 := by rw [hM42, mm_z_n (by decide)]; exact O38.1 1 (by decide)
  refine mm_aload_n dX11_init_46 rfl rfl ?_
  refine mm_getr dX11_init_47 rfl fl_X11_19 (c := 0) rfl (by decide) rfl rfl (r1) ?_
  refine mm_I1g (c := 18) (n := 19) (n' := 21) dX11_init_50 rfl li_X11_34 rfl ⟨by decide, by decide, by decide, by decide +kernel, by decide +kernel, by decide +kernel⟩ (by simp) rfl rfl rfl (c_X9_init (by intro b; rw [hM42, mm_z_0])) ?_
  rintro _ N50 ⟨rfl, p50⟩
  change mm_J _ _ _ _ _ _ _ _ _ _
  refine mm_putr' dX11_init_53 rfl fl_X11_35 (by first | exact Or.inl ⟨_, rfl⟩ | exact Or.inr ⟨_, rfl⟩) rfl fr_X11 (c := 0) rfl (by decide) rfl rfl (fun M53 hM53 => ?_)
  have s53 : ∀ a, 0 < a → a < 18 → M53 a = M38 a := fun a a0 ha => by rw [hM53, mm_up_row (by omega), p50.1 a ha, hM42, mm_z_n (by omega)]
  have O53 : kx_O M53 4 := by rw [hM53]; exact O38.put ((p50.1 0 (by decide)).trans (by rw [hM42, mm_z_n (by decide)])) rfl
  refine mm_aload_n dX11_init_56 rfl rfl ?_
  refine mm_new' (n := 21) dX11_init_57 rfl rfl nw_X11_39 ⟨by decide, by decide, by decide +kernel, by decide +kernel, by decide +kernel⟩ (fun M57 hM57 => ?_)
  refine mm_dup dX11_init_60 rfl (by simp) ?_
  have r1 : M57 0 1 = 4 := by rw [hM57, mm_z_n (by decide)]; exact O53.1 1 (by decide)
  have r2 : M57 0 2 = 12 := by rw [hM57, mm_z_n (by decide)]; exact O53.1 2 (by decide)
  refine mm_aload_n dX11_init_61 rfl rfl ?_
  refine mm_getr dX11_init_62 rfl fl_X11_19 (c := 0) rfl (by decide) rfl rfl (r1) ?_
  refine mm_aload_n dX11_init_65 rfl rfl ?_
  refine mm_getr dX11_init_66 rfl fl_X11_28 (c := 0) rfl (by decide) rfl rfl (r2) ?_
  refine mm_I2g (c := 21) (n := 22) (n' := 114) dX11_init_69 rfl li_X11_41 rfl ⟨by decide, by decide, by decide, by decide +kernel, by decide +kernel, by decide +kernel⟩ (by simp) (by simp) rfl rfl rfl (c_X3_init (by intro b; rw [hM57, mm_z_0])) ?_
  rintro _ N69 ⟨rfl, p69⟩
  change mm_J _ _ _ _ _ _ _ _ _ _
  refine mm_putr' dX11_init_72 rfl fl_X11_44 (by first | exact Or.inl ⟨_, rfl⟩ | exact Or.inr ⟨_, rfl⟩) rfl fr_X11 (c := 0) rfl (by decide) rfl rfl (fun M72 hM72 => ?_)
  have s72 : ∀ a, 0 < a → a < 21 → M72 a = M53 a := fun a a0 ha => by rw [hM72, mm_up_row (by omega), p69.1.1 a ha, hM57, mm_z_n (by omega)]
  have O72 : kx_O M72 5 := by rw [hM72]; exact O53.put ((p69.1.1 0 (by decide)).trans (by rw [hM57, mm_z_n (by decide)])) rfl
  refine mm_aload_n dX11_init_75 rfl rfl ?_
  refine mm_new' (n := 114) dX11_init_76 rfl rfl nw_X11_48 ⟨by decide, by decide, by decide +kernel, by decide +kernel, by decide +kernel⟩ (fun M76 hM76 => ?_)
  refine mm_dup dX11_init_79 rfl (by simp) ?_
  refine mm_sipush dX11_init_80 rfl (by decide) ?_
  refine mm_I1g (c := 114) (n := 115) (n' := 117) dX11_init_83 rfl li_X11_50 rfl ⟨by decide, by decide, by decide, by decide +kernel, by decide +kernel, by decide +kernel⟩ (by simp) rfl rfl rfl (c_X8_init (c := 114) (len := 288) rfl rfl rfl (by decide) (by decide +kernel) (by decide +kernel)) ?_
  rintro _ N83 ⟨rfl, p83⟩
  change mm_J _ _ _ _ _ _ _ _ _ _
  refine mm_putr' dX11_init_86 rfl fl_X11_53 (by first | exact Or.inl ⟨_, rfl⟩ | exact Or.inr ⟨_, rfl⟩) rfl fr_X11 (c := 0) rfl (by decide) rfl rfl (fun M86 hM86 => ?_)
  have s86 : ∀ a, 0 < a → a < 114 → M86 a = M72 a := fun a a0 ha => by rw [hM86, mm_up_row (by omega), p83.1 a ha, hM76, mm_z_n (by omega)]
  have O86 : kx_O M86 6 := by rw [hM86]; exact O72.put ((p83.1 0 (by decide)).trans (by rw [hM76, mm_z_n (by decide)])) rfl
  refine mm_aload_n dX11_init_89 rfl rfl ?_
  refine mm_new' (n := 117) dX11_init_90 rfl rfl nw_X11_48 ⟨by decide, by decide, by decide +kernel, by decide +kernel, by decide +kernel⟩ (fun M90 hM90 => ?_)
  refine mm_dup dX11_init_93 rfl (by simp) ?_
  refine mm_bipush dX11_init_94 rfl (by decide) ?_
  refine mm_I1g (c := 117) (n := 118) (n' := 120) dX11_init_96 rfl li_X11_50 rfl ⟨by decide, by decide, by decide, by decide +kernel, by decide +kernel, by decide +kernel⟩ (by simp) rfl rfl rfl (c_X8_init (c := 117) (len := 100) rfl rfl rfl (by decide) (by decide +kernel) (by decide +kernel)) ?_
  rintro _ N96 ⟨rfl, p96⟩
  change mm_J _ _ _ _ _ _ _ _ _ _
  refine mm_putr' dX11_init_99 rfl fl_X11_57 (by first | exact Or.inl ⟨_, rfl⟩ | exact Or.inr ⟨_, rfl⟩) rfl fr_X11 (c := 0) rfl (by decide) rfl rfl (fun M99 hM99 => ?_)
  have s99 : ∀ a, 0 < a → a < 117 → M99 a = M86 a := fun a a0 ha => by rw [hM99, mm_up_row (by omega), p96.1 a ha, hM90, mm_z_n (by omega)]
  have O99 : kx_O M99 7 := by rw [hM99]; exact O86.put ((p96.1 0 (by decide)).trans (by rw [hM90, mm_z_n (by decide)])) rfl
  refine mm_aload_n dX11_init_102 rfl rfl ?_
  refine mm_bipush dX11_init_103 rfl (by decide) ?_
  refine mm_anew' (n := 120) dX11_init_105 rfl rfl rfl ck_X11_48 ⟨by decide, by decide, by decide +kernel, by decide +kernel, by decide +kernel⟩ (fun M105 hM105 => ?_)
  refine mm_putr' dX11_init_108 rfl fl_X11_60 (by first | exact Or.inl ⟨_, rfl⟩ | exact Or.inr ⟨_, rfl⟩) rfl fr_X11 (c := 0) rfl (by decide) rfl rfl (fun M108 hM108 => ?_)
  have s108 : ∀ a, 0 < a → a < 120 → M108 a = M99 a := fun a a0 ha => by rw [hM108, mm_up_row (by omega), hM105, mm_z_n (by omega)]
  have O108 : kx_O M108 8 := by rw [hM108]; exact O99.put (by rw [hM105, mm_z_n (by decide)]) rfl
  refine mm_iconst dX11_init_111 rfl ?_
  refine mm_istore_n dX11_init_112 rfl (Nat.le_of_ble_eq_true rfl) rfl ?_
  refine kx_loop M108 ?_ 0 (by omega) _ (fun a _ => rfl) (fun a b a1 a2 => absurd a2 (by omega)) ?_
  · have e3 : ∀ a, 0 < a → a < 3 → M108 a = M12 a := fun a a0 ha => by rw [s108 a a0 (by omega), s99 a a0 (by omega), s86 a a0 (by omega), s72 a a0 (by omega), s53 a a0 (by omega), s38 a a0 (by omega), s23 a a0 ha]
    have e11 : ∀ a, 0 < a → a < 11 → M108 a = M23 a := fun a a0 ha => by rw [s108 a a0 (by omega), s99 a a0 (by omega), s86 a a0 (by omega), s72 a a0 (by omega), s53 a a0 (by omega), s38 a a0 ha]
    have e18 : ∀ a, 0 < a → a < 18 → M108 a = M38 a := fun a a0 ha => by rw [s108 a a0 (by omega), s99 a a0 (by omega), s86 a a0 (by omega), s72 a a0 (by omega), s53 a a0 ha]
    have e21 : ∀ a, 0 < a → a < 21 → M108 a = M53 a := fun a a0 ha => by rw [s108 a a0 (by omega), s99 a a0 (by omega), s86 a a0 (by omega), s72 a a0 ha]
    have e114 : ∀ a, 0 < a → a < 114 → M108 a = M72 a := fun a a0 ha => by rw [s108 a a0 (by omega), s99 a a0 (by omega), s86 a a0 ha]
    have e117 : ∀ a, 0 < a → a < 117 → M108 a = M86 a := fun a a0 ha => by rw [s108 a a0 (by omega), s99 a a0 ha]
    refine ⟨O108, kx_K0.fr (M := N20) ?_ p20.2, ?_, ?_, ?_, ?_, ?_⟩
    · intro a a1 a2; rw [e11 a (by omega) (by omega), hM23, mm_up_row (by omega)]
    · intro b hb; rw [e18 16 (by decide) (by decide), hM38, mm_up_row (by decide)]; exact p35.2.1 b hb
    · intro b hb; rw [e18 17 (by decide) (by decide), hM38, mm_up_row (by decide)]; exact p35.2.2 b hb
    · rw [e114 21 (by decide) (by decide), hM72, mm_up_row (by decide)]; exact p69.2
    · rw [e3 1 (by decide) (by decide), hM12, mm_up_row (by decide)]; exact p9.2
    · intro a b a0 ha hE
      by_cases q1 : a < 3
      · rw [e3 a a0 q1, hM12, mm_up_row (by omega)]; exact p9.1.2 a b (by omega) q1 (fun z => hE (Or.inr (Or.inr (Or.inr (Or.inr (Or.inr (Or.inl z)))))))
      by_cases q2 : a < 11
      · exact absurd (Or.inl ⟨by omega, by omega⟩) hE
      by_cases q3 : a < 18
      · rw [e18 a a0 q3, hM38, mm_up_row (by omega)]; exact p35.1.2 a b (by omega) q3 (fun z => hE (z.elim (fun z => Or.inr (Or.inl z)) (fun z => Or.inr (Or.inr (Or.inl z)))))
      by_cases q4 : a < 21
      · rw [e21 a a0 q4, hM53, mm_up_row (by omega)]; exact p50.2 a b (by omega) q4 (fun z => z)
      by_cases q5 : a < 114
      · rw [e114 a a0 q5, hM72, mm_up_row (by omega)]; exact p69.1.2 a b (by omega) q5 (fun z => hE (Or.inr (Or.inr (Or.inr (Or.inr (Or.inl z))))))
      by_cases q6 : a < 117
      · rw [e117 a a0 q6, hM86, mm_up_row (by omega)]; exact kx_row8 mm_rw_latest rfl rfl p83.2.1 (by intro b; rw [hM76, mm_z_0]) p83.2.2.1 p83.2.2.2 a b (by omega) (by omega)
      · rw [s108 a a0 (by omega), hM99, mm_up_row (by omega)]; exact kx_row8 mm_rw_judged rfl rfl p96.2.1 (by intro b; rw [hM90, mm_z_0]) p96.2.2.1 p96.2.2.2 a b (by omega) (by omega)
  · intro b
    rw [if_neg (by omega), hM108, mm_up_row (by decide), hM105, mm_z_0]
end

