/-! ===== a line of rules, of the reference ===== -/
def kl_rest (B : Nat → Int) (n b k j p : Nat) (D : Nat → Int) : kp_E :=
  if kp_nm B n p 4 < 0 then .error (1, kt_s B n p) else if kp_nm B n p 4 = 1 then .ok (kt_e B n p, D) else if k = 0 then .error (4, kt_s B n p) else kl_conds B n b k j (kt_e B n p) D
theorem kl_conds_rest {B : Nat → Int} {n b k j p : Nat} {D : Nat → Int} : kl_conds B n b (k + 1) j p D = match kl_cond B n (b + 1 + 3 * j) p D with
    | .error f => .error f
    | .ok (p1, D1) => kl_rest B n b k (j + 1) p1 (kl_set D1 b ((j : Int) + 1)) := rfl
def kr_U (c : Nat) (N M' : mm_M) : Prop := (∀ b, b < 24 + 3 * c → M' 193 b = N 193 b ∧ M' 194 b = N 194 b ∧ M' 195 b = N 195 b) ∧ (∀ b, b < 8 + c → M' 196 b = N 196 b ∧ M' 197 b = N 197 b)
theorem kr_K.u {c : Nat} {N M' : mm_M} (h : kr_K c N M') : kr_U c N M' := ⟨fun b hb => h.1 b (by omega), fun b hb => h.2 b (by omega)⟩
/-- line l is read as D tells it -/
def kr_L (N : mm_M) (D : Nat → Int) (l : Nat) : Prop := N 196 (8 + l) = D (11 * l) ∧ (1 ≤ D (11 * l) ∧ D (11 * l) ≤ 3) ∧ (∀ i : Nat, (i : Int) < D (11 * l) → N 193 (24 + 3 * l + i) = D (11 * l + 1 + 3 * i) ∧ N 194 (24 + 3 * l + i) = D (11 * l + 1 + 3 * i + 1) ∧ N 195 (24 + 3 * l + i) = D (11 * l + 1 + 3 * i + 2)) ∧ N 197 (8 + l) = D (11 * l + 10)
def kr_J (M N T : mm_M) (n c : Nat) (D D1 : Nat → Int) (j p : Nat) : Prop := kq_I kr_A kr_S M T n p ∧ kr_K c N T ∧ T 196 (8 + c) = (j : Int) ∧ (∀ i, i < j → T 193 (24 + 3 * c + i) = D1 (11 * c + 1 + 3 * i) ∧ T 194 (24 + 3 * c + i) = D1 (11 * c + 1 + 3 * i + 1) ∧ T 195 (24 + 3 * c + i) = D1 (11 * c + 1 + 3 * i + 2)) ∧ (∀ i, i < 11 * c → D1 i = D i) ∧ (∀ b, ¬ (4 ≤ b ∧ b ≤ 7) → T 183 b = N 183 b)
theorem kr_J.sc {M N T T' : mm_M} {n c j p p' : Nat} {D D1 : Nat → Int} (h : kr_J M N T n c D D1 j p) (hI : kq_I kr_A kr_S M T' n p') (u1 : ∀ a, a ≠ 183 → T' a = T a) (u2 : ∀ b, ¬ (4 ≤ b ∧ b ≤ 7) → T' 183 b = T 183 b) : kr_J M N T' n c D D1 j p' := by
  obtain ⟨h1, h2, h3, h4, h5, h6⟩ := h
  refine ⟨hI, h2.fr u1, by rw [u1 196 (by decide)]; exact h3, ?_, h5, fun b hb => (u2 b hb).trans (h6 b hb)⟩
  intro i hi
  rw [u1 193 (by decide), u1 194 (by decide), u1 195 (by decide)]
  exact h4 i hi
theorem kr_J.cond {M N T T' : mm_M} {n c j p p' : Nat} {D D1 D' : Nat → Int} (h : kr_J M N T n c D D1 j p) (hI : kq_I kr_A kr_S M T' n p') (hK : kr_K c T T') (h6 : T' 196 (8 + c) = (j : Int) + 1)
    (ho : ∀ i, i < j → T' 193 (24 + 3 * c + i) = T 193 (24 + 3 * c + i) ∧ T' 194 (24 + 3 * c + i) = T 194 (24 + 3 * c + i) ∧ T' 195 (24 + 3 * c + i) = T 195 (24 + 3 * c + i))
    (e1 : T' 193 (24 + 3 * c + j) = D' (11 * c + 1 + 3 * j)) (e2 : T' 194 (24 + 3 * c + j) = D' (11 * c + 1 + 3 * j + 1)) (e3 : T' 195 (24 + 3 * c + j) = D' (11 * c + 1 + 3 * j + 2)) (hD : ∀ i, ¬ (11 * c + 1 + 3 * j ≤ i ∧ i < 11 * c + 4 + 3 * j) → D' i = D1 i) (u2 : ∀ b, ¬ (4 ≤ b ∧ b ≤ 7) → T' 183 b = T 183 b) :
    kr_J M N T' n c D (kl_set D' (11 * c) ((j : Int) + 1)) (j + 1) p' := by
  obtain ⟨h1, h2, h3, h4, h5, h7⟩ := h
  refine ⟨hI, h2.tr hK, by rw [h6]; rfl, ?_, ?_, fun b hb => (u2 b hb).trans (h7 b hb)⟩
  · intro i hi
    rw [kl_set_n (by omega), kl_set_n (by omega), kl_set_n (by omega)]
    by_cases q : i = j
    · rw [q]; exact ⟨e1, e2, e3⟩
    · obtain ⟨o1, o2, o3⟩ := ho i (by omega)
      obtain ⟨g1, g2, g3⟩ := h4 i (by omega)
      rw [o1, o2, o3, hD _ (by omega), hD _ (by omega), hD _ (by omega)]
      exact ⟨g1, g2, g3⟩
  · intro i hi
    rw [kl_set_n (by omega), hD i (by omega)]
    exact h5 i hi
section
variable {X : mm_X} {M N : mm_M} {n p c : Nat}
theorem c_X13_readLine {sl : Int} (hc : c ≤ 8) (hI : kq_I kr_A kr_S M N n p) (h21 : N 183 21 = (c : Int)) (hsl : N 183 16 = sl ∧ 1 ≤ sl ∧ sl ≤ 3) (D : Nat → Int) : mm_C X Y_X13_readLine 243 243 [(2, 184)] N (fun r M' =>
    (r = (4, 185) ∧ mm_Rf M' ∧ ∃ k s, kl_line (M 185) n sl c p D = .error (k, s) ∧ kq_X kr_A kr_S M M' k s ∧ kr_U c N M') ∨
    (r = (3, 0) ∧ mm_Rf M' ∧ ∃ p' D', kl_line (M 185) n sl c p D = .ok (p', D') ∧ kq_I kr_A kr_S M M' n p' ∧ kr_U c N M' ∧ kr_L M' D' c ∧ (∀ i, i < 11 * c → D' i = D i) ∧ M' 183 21 = (c : Int) + 1 ∧ (∀ b, ¬ (4 ≤ b ∧ b ≤ 7) → b ≠ 21 → M' 183 b = N 183 b))) := by
  obtain ⟨E, hE⟩ : ∃ E, E = kl_line (M 185) n sl c p D := ⟨_, rfl⟩
  have hL := hE.symm
  rw [← hE]
  obtain ⟨Φ, hΦ⟩ : ∃ Φ : mm_V → mm_M → Prop, Φ = (fun r M' =>
    (r = (4, 185) ∧ mm_Rf M' ∧ ∃ k s, E = .error (k, s) ∧ kq_X kr_A kr_S M M' k s ∧ kr_U c N M') ∨
    (r = (3, 0) ∧ mm_Rf M' ∧ ∃ p' D', E = .ok (p', D') ∧ kq_I kr_A kr_S M M' n p' ∧ kr_U c N M' ∧ kr_L M' D' c ∧ (∀ i, i < 11 * c → D' i = D i) ∧ M' 183 21 = (c : Int) + 1 ∧ (∀ b, ¬ (4 ≤ b ∧ b ≤ 7) → b ≠ 21 → M' 183 b = N 183 b))) := ⟨_, rfl⟩
  rw [← hΦ]
  have thr : ∀ (k : Int) (s : Nat) (T : mm_M), E = .error (k, s) → mm_Rf T → kq_X kr_A kr_S M T k s → kr_U c N T → Φ (4, 185) T := by
    intro k s T h1 h2 h3 h4
    rw [hΦ]
    exact Or.inl ⟨rfl, h2, k, s, h1, h3, h4⟩
  have hRN := hI.1
  unfold kl_line at hL
  have hb1 := kl_nmb (B := M 185) (n := n) (p := p)
  have nm1 : kp_nm (M 185) n p 1 = if kt_iw (M 185) n p 19 then 0 else -1 := by rw [kp_nm1]; rfl
  refine mm_start (ls := [(2, 184), (9, 0), (9, 0), (9, 0), (9, 0)]) rfl ?_
  -- from `do` on
  have act : ∀ (T : mm_M) (j p1 : Nat) (D1 : Nat → Int), c < 8 → 1 ≤ j → j ≤ 3 → kr_J M N T n c D D1 j p1 → D1 (11 * c) = (j : Int) → ¬ kt_iw (M 185) n p1 27 → (kt_iw (M 185) n p1 28 → kl_act (M 185) n sl (11 * c) (kt_e (M 185) n p1) D1 = E) → (¬ kt_iw (M 185) n p1 28 → E = .error (1, kt_s (M 185) n p1)) →
      mm_J X Y_X13_readLine 243 243 243 95 [(2, 184), (0, 8 + (c : Int)), (9, 0), (9, 0), (9, 0)] [] T Φ := by
    intro T j p1 D1 hc8 j1 j3 hJ hD1 hnand hdo hndo
    have hT := hJ.1
    have hRT := hT.1
    refine mm_aload_n dX13_readLine_95 rfl rfl ?_
    refine mm_aload_n dX13_readLine_96 rfl rfl ?_
    refine mm_lds (k0 := 28) dX13_readLine_97 rfl (by decide) rfl rfl ?_
    refine mm_V1i dX13_readLine_99 rfl lk_X13_103 (c := 183) rfl (by decide) rfl (by simp) rfl rfl rfl (kq_is hT (by decide)) ?_
    refine mm_iconst dX13_readLine_102 rfl ?_
    refine mm_V2g (M1 := T) dX13_readLine_103 rfl lk_X13_63 (c := 183) rfl (by decide) rfl (by simp) (by simp) rfl rfl rfl (kq_need hT) ?_
    rintro _ N103 (⟨rfl, p103⟩ | ⟨rfl, p103⟩)
    · refine ⟨rfl, rfl, ?_⟩
      exact thr _ _ _ (hndo p103.2.1) p103.1 p103.2.2.1 (hJ.2.1.fr p103.2.2.2).u
    change mm_J _ _ _ _ _ _ _ _ _ _
    have hR103 : mm_Rf N103 := p103.1
    obtain ⟨-, hdd, eN⟩ := p103
    rw [eN]
    have hL := hdo hdd
    unfold kl_act at hL
    have hvb := kt_vb (B := M 185) (n := n) (p := kt_e (M 185) n p1)
    have hb5 := kl_nmb (B := M 185) (n := n) (p := kt_e (M 185) n (kt_e (M 185) n p1))
    have hb5' := (kp_nmk (B := M 185) (n := n) (p := kt_e (M 185) n (kt_e (M 185) n p1)) (k0 := 5)).1
    have hb6 := kl_nmb (B := M 185) (n := n) (p := kt_e (M 185) n (kt_e (M 185) n (kt_e (M 185) n p1)))
    have hb6' := (kp_nmk (B := M 185) (n := n) (p := kt_e (M 185) n (kt_e (M 185) n (kt_e (M 185) n p1))) (k0 := 6)).1
    refine mm_aload_n dX13_readLine_106 rfl rfl ?_
    refine mm_V0g (M1 := T) dX13_readLine_107 rfl lk_X13_71 (c := 183) rfl (by decide) rfl  rfl rfl rfl (kq_sc hT) ?_
    rintro _ N107 ⟨rfl, p107⟩
    change mm_J _ _ _ _ _ _ _ _ _ _
    have hR107 : mm_Rf N107 := p107.1
    obtain ⟨-, hI1, u1, u2⟩ := p107
    have hJ1 := hJ.sc hI1 u1 u2
    have s16 : N107 183 16 = sl := by rw [hJ1.2.2.2.2.2 16 (by decide)]; exact hsl.1
    refine mm_bipush dX13_readLine_110 rfl (by decide) ?_
    refine mm_aload_n dX13_readLine_112 rfl rfl ?_
    refine mm_iconst dX13_readLine_113 rfl ?_
    refine mm_aload_n dX13_readLine_114 rfl rfl ?_
    refine mm_get (kd := 0) dX13_readLine_115 rfl fl_X13_154 (c := 183) rfl (by decide) rfl rfl ?_
    obtain ⟨v115, hv115⟩ : ∃ v, v = N107 183 16 := ⟨_, rfl⟩
    rw [← hv115]
    rw [s16] at hv115
    subst hv115
    refine mm_iconst dX13_readLine_118 rfl ?_
    refine mm_isub dX13_readLine_119 rfl ?_
    refine mm_V2g (M1 := N107) dX13_readLine_120 rfl lk_X13_145 (c := 183) rfl (by decide) rfl (by simp) (by simp) rfl rfl rfl (kq_num hI1 (by omega) (by omega)) ?_
    rintro _ N120 (⟨rfl, p120⟩ | ⟨x120, rfl, p120⟩)
    · refine ⟨rfl, rfl, ?_⟩
      obtain ⟨r1, r2, r3, r4⟩ := p120
      by_cases q : kt_k (M 185) n (kt_e (M 185) n p1) = 2
      · rw [if_neg (fun z => z q), if_pos (by omega)] at hL
        rw [if_pos q] at r3
        exact thr _ _ _ hL.symm r1 r3 (hJ1.2.1.fr r4).u
      · rw [if_pos q] at hL
        rw [if_neg q] at r3
        exact thr _ _ _ hL.symm r1 r3 (hJ1.2.1.fr r4).u
    change mm_J _ _ _ _ _ _ _ _ _ _
    have hR120 : mm_Rf N120 := p120.1
    obtain ⟨-, r2, r3, hI2, w1, w2⟩ := p120
    rw [if_neg (fun z => z r2.1), if_neg (by omega)] at hL
    have hJ2 := hJ1.sc hI2 w1 w2
    have cm := c_X13_moveAtHand (X := X) hI2.1 hI2.2.2.2.1 hI2.2.2.2.2.1 hI2.2.2.2.2.2
    rw [hI2.tp] at cm
    refine mm_imul dX13_readLine_123 rfl ?_
    refine mm_istore_n dX13_readLine_124 rfl (Nat.le_of_ble_eq_true rfl) rfl ?_
    refine mm_aload_n dX13_readLine_125 rfl rfl ?_
    refine mm_V0i dX13_readLine_126 rfl lk_X13_223 (c := 183) rfl (by decide) rfl  rfl rfl rfl (cm) ?_
    refine mm_istore_n dX13_readLine_129 rfl (Nat.le_of_ble_eq_true rfl) rfl ?_
    refine mm_aload_n dX13_readLine_130 rfl rfl ?_
    refine mm_iload_n dX13_readLine_131 rfl rfl ?_
    refine mm_iconst dX13_readLine_132 rfl ?_
    refine mm_iceq_z (q2 := 141) dX13_readLine_133 (by omega) (by omega) (fun k => mm_iconst dX13_readLine_140 rfl k) (fun k => mm_iconst dX13_readLine_136 rfl (mm_goto dX13_readLine_137 k)) ?_
    refine mm_iconst dX13_readLine_141 rfl ?_
    refine mm_V2g (M1 := N120) dX13_readLine_142 rfl lk_X13_63 (c := 183) rfl (by decide) rfl (by simp) (by simp) rfl rfl rfl (kq_need hI2) ?_
    rintro _ N142 (⟨rfl, p142⟩ | ⟨rfl, p142⟩)
    · refine ⟨rfl, rfl, ?_⟩
      rw [if_pos (by have := p142.2.1; omega)] at hL
      exact thr _ _ _ hL.symm p142.1 p142.2.2.1 (hJ2.2.1.fr p142.2.2.2).u
    change mm_J _ _ _ _ _ _ _ _ _ _
    have hR142 : mm_Rf N142 := p142.1
    obtain ⟨-, hne5, eN5⟩ := p142
    rw [eN5]
    rw [if_neg (by omega)] at hL
    refine mm_aload_n dX13_readLine_145 rfl rfl ?_
    refine mm_V0g (M1 := N120) dX13_readLine_146 rfl lk_X13_71 (c := 183) rfl (by decide) rfl  rfl rfl rfl (kq_sc hI2) ?_
    rintro _ N146 ⟨rfl, p146⟩
    change mm_J _ _ _ _ _ _ _ _ _ _
    have hR146 : mm_Rf N146 := p146.1
    obtain ⟨-, hI3, a1, a2⟩ := p146
    have hJ3 := hJ2.sc hI3 a1 a2
    have cd := c_X13_drumAtHand (X := X) hI3.1 hI3.2.2.2.1 hI3.2.2.2.2.1 hI3.2.2.2.2.2
    rw [hI3.tp] at cd
    refine mm_aload_n dX13_readLine_149 rfl rfl ?_
    refine mm_V0i dX13_readLine_150 rfl lk_X13_226 (c := 183) rfl (by decide) rfl  rfl rfl rfl (cd) ?_
    refine mm_istore dX13_readLine_153 rfl (Nat.le_of_ble_eq_true rfl) rfl ?_
    refine mm_aload_n dX13_readLine_155 rfl rfl ?_
    refine mm_iload dX13_readLine_156 rfl rfl ?_
    refine mm_iconst dX13_readLine_158 rfl ?_
    refine mm_iceq_z (q2 := 167) dX13_readLine_159 (by omega) (by omega) (fun k => mm_iconst dX13_readLine_166 rfl k) (fun k => mm_iconst dX13_readLine_162 rfl (mm_goto dX13_readLine_163 k)) ?_
    refine mm_iconst dX13_readLine_167 rfl ?_
    refine mm_V2g (M1 := N146) dX13_readLine_168 rfl lk_X13_63 (c := 183) rfl (by decide) rfl (by simp) (by simp) rfl rfl rfl (kq_need hI3) ?_
    rintro _ N168 (⟨rfl, p168⟩ | ⟨rfl, p168⟩)
    · refine ⟨rfl, rfl, ?_⟩
      rw [if_pos (by have := p168.2.1; omega)] at hL
      exact thr _ _ _ hL.symm p168.1 p168.2.2.1 (hJ3.2.1.fr p168.2.2.2).u
    change mm_J _ _ _ _ _ _ _ _ _ _
    have hR168 : mm_Rf N168 := p168.1
    obtain ⟨-, hne6, eN6⟩ := p168
    rw [eN6]
    rw [if_neg (by omega)] at hL
    refine mm_aload_n dX13_readLine_171 rfl rfl ?_
    refine mm_V0g (M1 := N146) dX13_readLine_172 rfl lk_X13_71 (c := 183) rfl (by decide) rfl  rfl rfl rfl (kq_sc hI3) ?_
    rintro _ N172 ⟨rfl, p172⟩
    change mm_J _ _ _ _ _ _ _ _ _ _
    have hR172 : mm_Rf N172 := p172.1
    obtain ⟨-, hI4, b1, b2⟩ := p172
    have hJ4 := hJ3.sc hI4 b1 b2
    refine mm_aload_n dX13_readLine_175 rfl rfl ?_
    refine mm_V0g (M1 := N172) dX13_readLine_176 rfl lk_X13_148 (c := 183) rfl (by decide) rfl  rfl rfl rfl (kq_close hI4) ?_
    rintro _ N176 (⟨rfl, p176⟩ | ⟨rfl, p176⟩)
    · refine ⟨rfl, rfl, ?_⟩
      rw [if_pos p176.2.1] at hL
      exact thr _ _ _ hL.symm p176.1 p176.2.2.1 (hJ4.2.1.fr p176.2.2.2).u
    change mm_J _ _ _ _ _ _ _ _ _ _
    have hR176 : mm_Rf N176 := p176.1
    obtain ⟨-, hk3, hI5, c1, c2⟩ := p176
    rw [if_neg (fun z => z hk3)] at hL
    have hJ5 := hJ4.sc hI5 c1 c2
    have l21 : N176 183 21 = (c : Int) := by rw [hJ5.2.2.2.2.2 21 (by decide)]; exact h21
    refine mm_aload_n dX13_readLine_179 rfl rfl ?_
    refine mm_getr dX13_readLine_180 rfl fl_X13_229 (c := 183) rfl (by decide) rfl rfl (hR176.at (c := 183) (i := 26) (v := 198) rfl (by decide)) ?_
    refine mm_iload_n dX13_readLine_183 rfl rfl ?_
    refine mm_iload_n dX13_readLine_184 rfl rfl ?_
    refine mm_iconst dX13_readLine_185 rfl ?_
    refine mm_iload_n dX13_readLine_186 rfl rfl ?_
    refine mm_imul dX13_readLine_187 rfl ?_
    refine mm_iadd dX13_readLine_188 rfl ?_
    refine mm_iload dX13_readLine_189 rfl rfl ?_
    refine mm_iadd dX13_readLine_191 rfl ?_
    refine mm_istk (k0 := (8 + c)) dX13_readLine_192 rfl (c := 197) rfl (by decide) rfl (by omega) (by omega) (fun M192 hM192 => ?_)
    have hR192 : mm_Rf M192 := by rw [hM192]; exact hR176.up (mm_rt_ar (t := 0) rfl (by decide))
    refine mm_aload_n dX13_readLine_193 rfl rfl ?_
    refine mm_dup dX13_readLine_194 rfl (by simp) ?_
    refine mm_get (kd := 0) dX13_readLine_195 rfl fl_X13_212 (c := 183) rfl (by decide) rfl rfl ?_
    obtain ⟨v195, hv195⟩ : ∃ v, v = M192 183 21 := ⟨_, rfl⟩
    rw [← hv195]
    rw [hM192, mm_up_c (by decide), l21] at hv195
    subst hv195
    refine mm_iconst dX13_readLine_198 rfl ?_
    refine mm_iadd dX13_readLine_199 rfl ?_
    refine mm_puti dX13_readLine_200 rfl fl_X13_212 (c := 183) rfl (by decide) rfl rfl (fun M200 hM200 => ?_)
    have hR200 : mm_Rf M200 := by rw [hM200]; exact hR192.up rfl
    refine mm_vret dX13_readLine_203 rfl rfl ?_
    rw [hΦ]
    obtain ⟨g1, g2, g3, g4, g5, g6⟩ := hJ5
    have e197 : ∀ a, a ≠ 183 → a ≠ 197 → M200 a = N176 a := by intro a a1 a2; rw [hM200, mm_up_row a1, hM192, mm_up_row a2]
    refine Or.inr ⟨rfl, hR200, _, _, hL.symm, ?_, ?_, ⟨?_, ?_, ?_, ?_⟩, ?_, ?_, ?_⟩
    · rw [hM200, hM192]; exact (kr_up g1 (by omega) (mm_rt_ar (t := 0) rfl (by decide))).uf rfl kr_A185 kr_S37 rfl
    · rw [hM200, hM192]
      exact ((g2.up (Or.inr ⟨Or.inr rfl, rfl⟩)).fr (fun a ha => mm_up_row ha)).u
    · rw [e197 196 (by decide) (by decide), kl_set_n (by omega), g3, hD1]
    · rw [kl_set_n (by omega), hD1]; omega
    · intro i hi
      rw [kl_set_n (by omega), hD1] at hi
      rw [e197 193 (by decide) (by decide), e197 194 (by decide) (by decide), e197 195 (by decide) (by decide), kl_set_n (by omega), kl_set_n (by omega), kl_set_n (by omega)]
      exact g4 i (by omega)
    · rw [hM200, mm_up_row (by decide), hM192, mm_up_s, kl_set_s, r3]
    · intro i hi; rw [kl_set_n (by omega)]; exact g5 i hi
    · rw [hM200, mm_up_s]
    · intro b hb1 hb2; rw [hM200, mm_up_i hb2, hM192, mm_up_row (by decide)]; exact g6 b hb1
  have loop : ∀ j : Nat, j ≤ 3 → ∀ (T : mm_M) (p1 : Nat) (D1 : Nat → Int) (E1 : kp_E), c < 8 → 1 ≤ j → kr_J M N T n c D D1 j p1 → D1 (11 * c) = (j : Int) → kl_rest (M 185) n (11 * c) (3 - j) j p1 D1 = E1 → (match E1 with | .error f => (.error f : kp_E) | .ok (p1, D1) => kl_act (M 185) n sl (11 * c) p1 D1) = E →
      mm_J X Y_X13_readLine 243 243 243 54 [(2, 184), (0, 8 + (c : Int)), (9, 0), (9, 0), (9, 0)] [] T Φ := by
    refine mm_lp ?_
    intro j hj ih T p1 D1 E1 hc8 j1 hJ hD1 hE1 hE2
    have hT := hJ.1
    have hRT := hT.1
    have nm4 : kp_nm (M 185) n p1 4 = if kt_iw (M 185) n p1 27 then 0 else if kt_iw (M 185) n p1 28 then 1 else -1 := by rw [kp_nm4]; rfl
    have e6 : T 196 (8 + c) = (j : Int) := hJ.2.2.1
    unfold kl_rest at hE1
    refine mm_aload_n dX13_readLine_54 rfl rfl ?_
    refine mm_lds (k0 := 27) dX13_readLine_55 rfl (by decide) rfl rfl ?_
    refine mm_V1i dX13_readLine_57 rfl lk_X13_103 (c := 183) rfl (by decide) rfl (by simp) rfl rfl rfl (kq_is hT (by decide)) ?_
    refine mm_ifeqb dX13_readLine_60 (fun h60 => ?_) (fun h60 => ?_)
    · rw [if_neg h60] at nm4
      refine act T j p1 D1 hc8 j1 hj hJ hD1 h60 ?_ ?_
      · intro q
        rw [if_pos q] at nm4
        rw [if_neg (by omega), if_pos nm4] at hE1
        rw [← hE1] at hE2
        exact hE2
      · intro q
        rw [if_neg q] at nm4
        rw [if_pos (by omega)] at hE1
        rw [← hE1] at hE2
        exact hE2.symm
    · refine mm_aload_n dX13_readLine_63 rfl rfl ?_
      refine mm_aload_n dX13_readLine_64 rfl rfl ?_
      refine mm_getr dX13_readLine_65 rfl fl_X13_182 (c := 183) rfl (by decide) rfl rfl (hRT.at (c := 183) (i := 25) (v := 197) rfl (by decide)) ?_
      refine mm_iload_n dX13_readLine_68 rfl rfl ?_
      refine mm_ialk (k0 := (8 + c)) dX13_readLine_69 rfl (c := 196) rfl (by decide) rfl (by omega) (by omega) ?_
      rw [e6]
      rw [if_pos h60] at nm4
      rw [if_neg (by omega), if_neg (by omega)] at hE1
      refine mm_iconst dX13_readLine_70 rfl ?_
      refine mm_icge_z (q2 := 79) dX13_readLine_71 (by omega) (by omega) (fun k => mm_iconst dX13_readLine_78 rfl k) (fun k => mm_iconst dX13_readLine_74 rfl (mm_goto dX13_readLine_75 k)) ?_
      refine mm_iconst dX13_readLine_79 rfl ?_
      refine mm_V2g (M1 := T) dX13_readLine_80 rfl lk_X13_63 (c := 183) rfl (by decide) rfl (by simp) (by simp) rfl rfl rfl (kq_need hT) ?_
      rintro _ N80 (⟨rfl, p80⟩ | ⟨rfl, p80⟩)
      · refine ⟨rfl, rfl, ?_⟩
        rw [if_pos (by have := p80.2.1; omega)] at hE1
        rw [← hE1] at hE2
        exact thr _ _ _ hE2.symm p80.1 p80.2.2.1 (hJ.2.1.fr p80.2.2.2).u
      change mm_J _ _ _ _ _ _ _ _ _ _
      have hR80 : mm_Rf N80 := p80.1
      obtain ⟨-, hlt, eN⟩ := p80
      rw [eN]
      rw [if_neg (by omega), show 3 - j = (2 - j) + 1 by omega, kl_conds_rest] at hE1
      refine mm_aload_n dX13_readLine_83 rfl rfl ?_
      refine mm_V0g (M1 := T) dX13_readLine_84 rfl lk_X13_71 (c := 183) rfl (by decide) rfl  rfl rfl rfl (kq_sc hT) ?_
      rintro _ N84 ⟨rfl, p84⟩
      change mm_J _ _ _ _ _ _ _ _ _ _
      have hR84 : mm_Rf N84 := p84.1
      obtain ⟨-, hI1, u1, u2⟩ := p84
      have hJ1 := hJ.sc hI1 u1 u2
      refine mm_aload_n dX13_readLine_87 rfl rfl ?_
      refine mm_iload_n dX13_readLine_88 rfl rfl ?_
      refine mm_V1g (M1 := N84) dX13_readLine_89 rfl lk_X13_215 (c := 183) rfl (by decide) rfl (by simp) rfl rfl rfl (c_X13_readCond (l := c) (j := j) (by omega) (by omega) hI1 hJ1.2.2.1 D1) ?_
      rintro _ N89 (⟨rfl, p89⟩ | ⟨rfl, p89⟩)
      · refine ⟨rfl, rfl, ?_⟩
        obtain ⟨r1, k, s, r2, r3, r4⟩ := p89
        rw [r2] at hE1
        rw [← hE1] at hE2
        exact thr _ _ _ hE2.symm r1 r3 (hJ1.2.1.tr r4).u
      change mm_J _ _ _ _ _ _ _ _ _ _
      have hR89 : mm_Rf N89 := p89.1
      obtain ⟨-, p', D', r2, hI2, hK2, r3, r4, r5, r6, r7, r8, r9⟩ := p89
      rw [r2] at hE1
      have hJ2 := hJ1.cond hI2 hK2 r3 r4 r5 r6 r7 r8 r9
      refine mm_goto dX13_readLine_92 ?_
      refine ih (by omega) _ p' _ E1 hc8 (by omega) hJ2 (by rw [kl_set_s]; rfl) ?_ hE2
      rw [show 3 - (j + 1) = 2 - j by omega]
      exact hE1
  refine mm_aload_n dX13_readLine_0 rfl rfl ?_
  refine mm_aload_n dX13_readLine_1 rfl rfl ?_
  refine mm_lds (k0 := 19) dX13_readLine_2 rfl (by decide) rfl rfl ?_
  refine mm_V1i dX13_readLine_4 rfl lk_X13_103 (c := 183) rfl (by decide) rfl (by simp) rfl rfl rfl (kq_is hI (by decide)) ?_
  refine mm_iconst dX13_readLine_7 rfl ?_
  refine mm_V2g (M1 := N) dX13_readLine_8 rfl lk_X13_63 (c := 183) rfl (by decide) rfl (by simp) (by simp) rfl rfl rfl (kq_need hI) ?_
  rintro _ N8 (⟨rfl, p8⟩ | ⟨rfl, p8⟩)
  · refine ⟨rfl, rfl, ?_⟩
    rw [if_neg p8.2.1] at nm1
    rw [if_pos (by omega)] at hL
    exact thr _ _ _ hL.symm p8.1 p8.2.2.1 ((kr_K.rf c N).fr p8.2.2.2).u
  change mm_J _ _ _ _ _ _ _ _ _ _
  have hR8 : mm_Rf N8 := p8.1
  obtain ⟨-, hw, eN⟩ := p8
  rw [eN]
  rw [if_pos hw] at nm1
  rw [if_neg (by omega)] at hL
  refine mm_aload_n dX13_readLine_11 rfl rfl ?_
  refine mm_aload_n dX13_readLine_12 rfl rfl ?_
  refine mm_get (kd := 0) dX13_readLine_13 rfl fl_X13_212 (c := 183) rfl (by decide) rfl rfl ?_
  obtain ⟨v13, hv13⟩ : ∃ v, v = N 183 21 := ⟨_, rfl⟩
  rw [← hv13]
  rw [h21] at hv13
  subst hv13
  refine mm_bipush dX13_readLine_16 rfl (by decide) ?_
  refine mm_icge_z (q2 := 26) dX13_readLine_18 (by omega) (by omega) (fun k => mm_iconst dX13_readLine_25 rfl k) (fun k => mm_iconst dX13_readLine_21 rfl (mm_goto dX13_readLine_22 k)) ?_
  refine mm_iconst dX13_readLine_26 rfl ?_
  refine mm_V2g (M1 := N) dX13_readLine_27 rfl lk_X13_63 (c := 183) rfl (by decide) rfl (by simp) (by simp) rfl rfl rfl (kq_need hI) ?_
  rintro _ N27 (⟨rfl, p27⟩ | ⟨rfl, p27⟩)
  · refine ⟨rfl, rfl, ?_⟩
    rw [if_pos (by have := p27.2.1; omega)] at hL
    exact thr _ _ _ hL.symm p27.1 p27.2.2.1 ((kr_K.rf c N).fr p27.2.2.2).u
  change mm_J _ _ _ _ _ _ _ _ _ _
  have hR27 : mm_Rf N27 := p27.1
  obtain ⟨-, hc8, eN2⟩ := p27
  rw [eN2]
  rw [if_neg (by omega)] at hL
  refine mm_bipush dX13_readLine_30 rfl (by decide) ?_
  refine mm_aload_n dX13_readLine_32 rfl rfl ?_
  refine mm_get (kd := 0) dX13_readLine_33 rfl fl_X13_212 (c := 183) rfl (by decide) rfl rfl ?_
  obtain ⟨v33, hv33⟩ : ∃ v, v = N 183 21 := ⟨_, rfl⟩
  rw [← hv33]
  rw [h21] at hv33
  subst hv33
  refine mm_iadd dX13_readLine_36 rfl ?_
  refine mm_istore_n dX13_readLine_37 rfl (Nat.le_of_ble_eq_true rfl) rfl ?_
  refine mm_aload_n dX13_readLine_38 rfl rfl ?_
  refine mm_getr dX13_readLine_39 rfl fl_X13_182 (c := 183) rfl (by decide) rfl rfl (hRN.at (c := 183) (i := 25) (v := 197) rfl (by decide)) ?_
  refine mm_iload_n dX13_readLine_42 rfl rfl ?_
  refine mm_iconst dX13_readLine_43 rfl ?_
  refine mm_istk (k0 := (8 + c)) dX13_readLine_44 rfl (c := 196) rfl (by decide) rfl (by omega) (by omega) (fun M44 hM44 => ?_)
  have hR44 : mm_Rf M44 := by rw [hM44]; exact hRN.up (mm_rt_ar (t := 0) rfl (by decide))
  refine mm_aload_n dX13_readLine_45 rfl rfl ?_
  have hI1 : kq_I kr_A kr_S M M44 n p := by rw [hM44]; exact kr_up hI (by omega) (mm_rt_ar (t := 0) rfl (by decide))
  have hJ0 : kr_J M N M44 n c D D 0 p := by
    refine ⟨hI1, ?_, ?_, fun i hi => absurd hi (Nat.not_lt_zero i), fun _ _ => rfl, ?_⟩
    · rw [hM44]; exact (kr_K.rf c N).up (Or.inr ⟨Or.inl rfl, rfl⟩)
    · rw [hM44, mm_up_s]; rfl
    · intro b hb; rw [hM44, mm_up_row (by decide)]
  rw [kl_conds_rest] at hL
  refine mm_V0g (M1 := M44) dX13_readLine_46 rfl lk_X13_71 (c := 183) rfl (by decide) rfl  rfl rfl rfl (kq_sc hI1) ?_
  rintro _ N46 ⟨rfl, p46⟩
  change mm_J _ _ _ _ _ _ _ _ _ _
  have hR46 : mm_Rf N46 := p46.1
  obtain ⟨-, hI2, u1, u2⟩ := p46
  have hJ1 := hJ0.sc hI2 u1 u2
  refine mm_aload_n dX13_readLine_49 rfl rfl ?_
  refine mm_iload_n dX13_readLine_50 rfl rfl ?_
  refine mm_V1g (M1 := N46) dX13_readLine_51 rfl lk_X13_215 (c := 183) rfl (by decide) rfl (by simp) rfl rfl rfl (c_X13_readCond (l := c) (j := 0) (by omega) (by omega) hI2 hJ1.2.2.1 D) ?_
  rintro _ N51 (⟨rfl, p51⟩ | ⟨rfl, p51⟩)
  · refine ⟨rfl, rfl, ?_⟩
    obtain ⟨r1, k, s, r2, r3, r4⟩ := p51
    rw [r2] at hL
    exact thr _ _ _ hL.symm r1 r3 (hJ1.2.1.tr r4).u
  change mm_J _ _ _ _ _ _ _ _ _ _
  have hR51 : mm_Rf N51 := p51.1
  obtain ⟨-, p', D', r2, hI3, hK2, r3, r4, r5, r6, r7, r8, r9⟩ := p51
  rw [r2] at hL
  have hJ2 := hJ1.cond hI3 hK2 r3 r4 r5 r6 r7 r8 r9
  exact loop 1 (by decide) _ p' _ _ (by omega) (Nat.le_refl _) hJ2 (by rw [kl_set_s]; rfl) rfl hL
end

