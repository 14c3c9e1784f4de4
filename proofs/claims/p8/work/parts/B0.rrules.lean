/-! ===== the text of rules, of the reference ===== -/
def kr_A (a : Nat) : Prop := 193 ≤ a ∧ a ≤ 197
def kr_S (b : Nat) : Prop := b = 21
/-- only line l of what is read has changed -/
def kr_K (l : Nat) (N M' : mm_M) : Prop := (∀ b, ¬ (24 + 3 * l ≤ b ∧ b < 27 + 3 * l) → M' 193 b = N 193 b ∧ M' 194 b = N 194 b ∧ M' 195 b = N 195 b) ∧ (∀ b, b ≠ 8 + l → M' 196 b = N 196 b ∧ M' 197 b = N 197 b)
theorem kr_K.rf (l : Nat) (N : mm_M) : kr_K l N N := ⟨fun _ _ => ⟨rfl, rfl, rfl⟩, fun _ _ => ⟨rfl, rfl⟩⟩
theorem kr_K.tr {l : Nat} {M N P : mm_M} (h : kr_K l M N) (k : kr_K l N P) : kr_K l M P :=
  ⟨fun b hb => ⟨(k.1 b hb).1.trans (h.1 b hb).1, (k.1 b hb).2.1.trans (h.1 b hb).2.1, (k.1 b hb).2.2.trans (h.1 b hb).2.2⟩, fun b hb => ⟨(k.2 b hb).1.trans (h.2 b hb).1, (k.2 b hb).2.trans (h.2 b hb).2⟩⟩
theorem kr_K.fr {l : Nat} {M N P : mm_M} (h : kr_K l M N) (k : ∀ a, a ≠ 183 → P a = N a) : kr_K l M P := by
  unfold kr_K at h ⊢
  rw [k 193 (by decide), k 194 (by decide), k 195 (by decide), k 196 (by decide), k 197 (by decide)]
  exact h
theorem kr_K.up {l : Nat} {M N : mm_M} {t i : Nat} {v : Int} (h : kr_K l M N) (ht : ((t = 193 ∨ t = 194 ∨ t = 195) ∧ 24 + 3 * l ≤ i ∧ i < 27 + 3 * l) ∨ ((t = 196 ∨ t = 197) ∧ i = 8 + l)) : kr_K l M (mm_up N t i v) := by
  refine ⟨fun b hb => ?_, fun b hb => ?_⟩
  · rw [mm_up_n (by omega), mm_up_n (by omega), mm_up_n (by omega)]; exact h.1 b hb
  · rw [mm_up_n (by omega), mm_up_n (by omega)]; exact h.2 b hb
theorem kr_S37 : ∀ b, 3 ≤ b → b ≤ 7 → ¬ kr_S b := by intro b b1 b2; unfold kr_S; omega
theorem kr_A185 : ¬ kr_A 185 := by unfold kr_A; omega
theorem kl_set_s {D : Nat → Int} {a : Nat} {v : Int} : kl_set D a v a = v := if_pos rfl
theorem kl_set_n {D : Nat → Int} {a i : Nat} {v : Int} (h : i ≠ a) : kl_set D a v i = D i := if_neg h
section
variable {X : mm_X} {M N : mm_M} {n p l j : Nat}
theorem kr_up {t i : Nat} {v : Int} (h : kq_I kr_A kr_S M N n p) (ht : 193 ≤ t ∧ t ≤ 197) (hs : mm_rt t i = 0) : kq_I kr_A kr_S M (mm_up N t i v) n p :=
  h.up ht (by omega) kr_A185 kr_S37 hs (fun z => by omega)
theorem c_X13_readCond (hl : l < 8) (hj : j < 3) (hI : kq_I kr_A kr_S M N n p) (h6 : N 196 (8 + l) = (j : Int)) (D : Nat → Int) : mm_C X Y_X13_readCond 243 243 [(2, 184), (0, 8 + (l : Int))] N (fun r M' =>
    (r = (4, 185) ∧ mm_Rf M' ∧ ∃ k s, kl_cond (M 185) n (11 * l + 1 + 3 * j) p D = .error (k, s) ∧ kq_X kr_A kr_S M M' k s ∧ kr_K l N M') ∨
    (r = (3, 0) ∧ mm_Rf M' ∧ ∃ p' D', kl_cond (M 185) n (11 * l + 1 + 3 * j) p D = .ok (p', D') ∧ kq_I kr_A kr_S M M' n p' ∧ kr_K l N M' ∧ M' 196 (8 + l) = (j : Int) + 1 ∧ (∀ i, i < j → M' 193 (24 + 3 * l + i) = N 193 (24 + 3 * l + i) ∧ M' 194 (24 + 3 * l + i) = N 194 (24 + 3 * l + i) ∧ M' 195 (24 + 3 * l + i) = N 195 (24 + 3 * l + i)) ∧
      M' 193 (24 + 3 * l + j) = D' (11 * l + 1 + 3 * j) ∧ M' 194 (24 + 3 * l + j) = D' (11 * l + 1 + 3 * j + 1) ∧ M' 195 (24 + 3 * l + j) = D' (11 * l + 1 + 3 * j + 2) ∧ (∀ i, ¬ (11 * l + 1 + 3 * j ≤ i ∧ i < 11 * l + 4 + 3 * j) → D' i = D i) ∧ (∀ b, ¬ (4 ≤ b ∧ b ≤ 7) → M' 183 b = N 183 b))) := by
  obtain ⟨E, hE⟩ : ∃ E, E = kl_cond (M 185) n (11 * l + 1 + 3 * j) p D := ⟨_, rfl⟩
  have hL := hE.symm
  rw [← hE]
  obtain ⟨Φ, hΦ⟩ : ∃ Φ : mm_V → mm_M → Prop, Φ = (fun r M' =>
    (r = (4, 185) ∧ mm_Rf M' ∧ ∃ k s, E = .error (k, s) ∧ kq_X kr_A kr_S M M' k s ∧ kr_K l N M') ∨
    (r = (3, 0) ∧ mm_Rf M' ∧ ∃ p' D', E = .ok (p', D') ∧ kq_I kr_A kr_S M M' n p' ∧ kr_K l N M' ∧ M' 196 (8 + l) = (j : Int) + 1 ∧ (∀ i, i < j → M' 193 (24 + 3 * l + i) = N 193 (24 + 3 * l + i) ∧ M' 194 (24 + 3 * l + i) = N 194 (24 + 3 * l + i) ∧ M' 195 (24 + 3 * l + i) = N 195 (24 + 3 * l + i)) ∧
      M' 193 (24 + 3 * l + j) = D' (11 * l + 1 + 3 * j) ∧ M' 194 (24 + 3 * l + j) = D' (11 * l + 1 + 3 * j + 1) ∧ M' 195 (24 + 3 * l + j) = D' (11 * l + 1 + 3 * j + 2) ∧ (∀ i, ¬ (11 * l + 1 + 3 * j ≤ i ∧ i < 11 * l + 4 + 3 * j) → D' i = D i) ∧ (∀ b, ¬ (4 ≤ b ∧ b ≤ 7) → M' 183 b = N 183 b))) := ⟨_, rfl⟩
  rw [← hΦ]
  have thr : ∀ (k : Int) (s : Nat) (T : mm_M), E = .error (k, s) → mm_Rf T → kq_X kr_A kr_S M T k s → kr_K l N T → Φ (4, 185) T := by
    intro k s T h1 h2 h3 h4
    rw [hΦ]
    exact Or.inl ⟨rfl, h2, k, s, h1, h3, h4⟩
  have hRN := hI.1
  have hpn := hI.2.2.2.2.1
  have ca := c_X13_condAtHand (X := X) hI.1 hI.2.2.2.1 hpn hI.2.2.2.2.2
  rw [hI.tp] at ca
  unfold kl_cond at hL
  have hb1 := kl_nmb (B := M 185) (n := n) (p := p)
  have hb1' := (kp_nmk (B := M 185) (n := n) (p := p) (k0 := 2)).1
  have hb2 := kl_nmb (B := M 185) (n := n) (p := kt_e (M 185) n p)
  have hb2' := (kp_nmk (B := M 185) (n := n) (p := kt_e (M 185) n p) (k0 := 3)).1
  have hvb := kt_vb (B := M 185) (n := n) (p := kt_e (M 185) n (kt_e (M 185) n p))
  refine mm_start (ls := [(2, 184), (0, 8 + (l : Int)), (9, 0), (9, 0), (9, 0)]) rfl ?_
  -- behind the word that says how
  have how : ∀ T : mm_M, ¬ (kp_nm (M 185) n p 2 < 0) → kq_I kr_A kr_S M T n (kt_e (M 185) n p) → (∀ a, a ≠ 183 → T a = N a) → (∀ b, ¬ (4 ≤ b ∧ b ≤ 7) → T 183 b = N 183 b) →
      mm_J X Y_X13_readCond 243 243 243 64 [(2, 184), (0, 8 + (l : Int)), (0, kp_nm (M 185) n p 2), (9, 0), (9, 0)] [(0, kp_nm (M 185) n (kt_e (M 185) n p) 3)] T Φ := by
    intro T hn2 hT v1 v2
    have hRT := hT.1
    have hKT : kr_K l N T := (kr_K.rf l N).fr v1
    rw [if_neg hn2] at hL
    refine mm_istore_n dX13_readCond_64 rfl (Nat.le_of_ble_eq_true rfl) rfl ?_
    refine mm_aload_n dX13_readCond_65 rfl rfl ?_
    refine mm_iload_n dX13_readCond_66 rfl rfl ?_
    refine mm_iconst dX13_readCond_67 rfl ?_
    refine mm_iceq_z (q2 := 76) dX13_readCond_68 (by omega) (by omega) (fun k => mm_iconst dX13_readCond_75 rfl k) (fun k => mm_iconst dX13_readCond_71 rfl (mm_goto dX13_readCond_72 k)) ?_
    refine mm_iconst dX13_readCond_76 rfl ?_
    refine mm_V2g (M1 := T) dX13_readCond_77 rfl lk_X13_63 (c := 183) rfl (by decide) rfl (by simp) (by simp) rfl rfl rfl (kq_need hT) ?_
    rintro _ N77 (⟨rfl, p77⟩ | ⟨rfl, p77⟩)
    · refine ⟨rfl, rfl, ?_⟩
      rw [if_pos (by have := p77.2.1; omega)] at hL
      exact thr _ _ _ hL.symm p77.1 p77.2.2.1 (hKT.fr p77.2.2.2)
    change mm_J _ _ _ _ _ _ _ _ _ _
    have hR77 : mm_Rf N77 := p77.1
    obtain ⟨-, hne, eN⟩ := p77
    rw [eN]
    rw [if_neg (by omega)] at hL
    refine mm_aload_n dX13_readCond_80 rfl rfl ?_
    refine mm_V0g (M1 := T) dX13_readCond_81 rfl lk_X13_71 (c := 183) rfl (by decide) rfl  rfl rfl rfl (kq_sc hT) ?_
    rintro _ N81 ⟨rfl, p81⟩
    change mm_J _ _ _ _ _ _ _ _ _ _
    have hR81 : mm_Rf N81 := p81.1
    obtain ⟨-, hI8, u1, u2⟩ := p81
    have c6 : N81 196 (8 + l) = (j : Int) := by rw [u1 196 (by decide), v1 196 (by decide)]; exact h6
    refine mm_iconst dX13_readCond_84 rfl ?_
    refine mm_iload_n dX13_readCond_85 rfl rfl ?_
    refine mm_imul dX13_readCond_86 rfl ?_
    refine mm_aload_n dX13_readCond_87 rfl rfl ?_
    refine mm_getr dX13_readCond_88 rfl fl_X13_182 (c := 183) rfl (by decide) rfl rfl (hR81.at (c := 183) (i := 25) (v := 197) rfl (by decide)) ?_
    refine mm_iload_n dX13_readCond_91 rfl rfl ?_
    refine mm_ialk (k0 := (8 + l)) dX13_readCond_92 rfl (c := 196) rfl (by decide) rfl (by omega) (by omega) ?_
    rw [c6]
    refine mm_iadd dX13_readCond_93 rfl ?_
    refine mm_istore dX13_readCond_94 rfl (Nat.le_of_ble_eq_true rfl) rfl ?_
    refine mm_aload_n dX13_readCond_96 rfl rfl ?_
    refine mm_getr dX13_readCond_97 rfl fl_X13_185 (c := 183) rfl (by decide) rfl rfl (hR81.at (c := 183) (i := 22) (v := 194) rfl (by decide)) ?_
    refine mm_iload dX13_readCond_100 rfl rfl ?_
    refine mm_iload_n dX13_readCond_102 rfl rfl ?_
    refine mm_istk (k0 := (24 + 3 * l + j)) dX13_readCond_103 rfl (c := 193) rfl (by decide) rfl (by omega) (by omega) (fun M103 hM103 => ?_)
    have hR103 : mm_Rf M103 := by rw [hM103]; exact hR81.up (mm_rt_ar (t := 0) rfl (by decide))
    refine mm_aload_n dX13_readCond_104 rfl rfl ?_
    refine mm_getr dX13_readCond_105 rfl fl_X13_188 (c := 183) rfl (by decide) rfl rfl (hR103.at (c := 183) (i := 23) (v := 195) rfl (by decide)) ?_
    refine mm_iload dX13_readCond_108 rfl rfl ?_
    refine mm_iload_n dX13_readCond_110 rfl rfl ?_
    refine mm_istk (k0 := (24 + 3 * l + j)) dX13_readCond_111 rfl (c := 194) rfl (by decide) rfl (by omega) (by omega) (fun M111 hM111 => ?_)
    have hR111 : mm_Rf M111 := by rw [hM111]; exact hR103.up (mm_rt_ar (t := 0) rfl (by decide))
    have hK8 : kr_K l N N81 := hKT.fr u1
    have hI9 : kq_I kr_A kr_S M M111 n (kt_e (M 185) n (kt_e (M 185) n p)) := by rw [hM111, hM103]; exact kr_up (kr_up hI8 (by omega) (mm_rt_ar (t := 0) rfl (by decide))) (by omega) (mm_rt_ar (t := 0) rfl (by decide))
    have hK9 : kr_K l N M111 := by rw [hM111, hM103]; exact (hK8.up (by omega)).up (by omega)
    refine mm_aload_n dX13_readCond_112 rfl rfl ?_
    refine mm_getr dX13_readCond_113 rfl fl_X13_191 (c := 183) rfl (by decide) rfl rfl (hR111.at (c := 183) (i := 24) (v := 196) rfl (by decide)) ?_
    refine mm_iload dX13_readCond_116 rfl rfl ?_
    refine mm_aload_n dX13_readCond_118 rfl rfl ?_
    refine mm_iconst dX13_readCond_119 rfl ?_
    refine mm_ldc dX13_readCond_120 rfl kc_X13_194 ?_
    refine mm_V2g (M1 := M111) dX13_readCond_122 rfl lk_X13_145 (c := 183) rfl (by decide) rfl (by simp) (by simp) rfl rfl rfl (kq_num hI9 (by omega) (by omega)) ?_
    rintro _ N122 (⟨rfl, p122⟩ | ⟨x122, rfl, p122⟩)
    · refine ⟨rfl, rfl, ?_⟩
      obtain ⟨r1, r2, r3, r4⟩ := p122
      by_cases q : kt_k (M 185) n (kt_e (M 185) n (kt_e (M 185) n p)) = 2
      · exact absurd ⟨q, hvb⟩ r2
      · rw [if_pos q] at hL
        rw [if_neg q] at r3
        exact thr _ _ _ hL.symm r1 r3 (hK9.fr r4)
    change mm_J _ _ _ _ _ _ _ _ _ _
    have hR122 : mm_Rf N122 := p122.1
    obtain ⟨-, r2, r3, hI7, w1, w2⟩ := p122
    rw [if_neg (fun z => z r2.1)] at hL
    refine mm_istk (k0 := (24 + 3 * l + j)) dX13_readCond_125 rfl (c := 195) rfl (by decide) rfl (by omega) (by omega) (fun M125 hM125 => ?_)
    have hR125 : mm_Rf M125 := by rw [hM125]; exact hR122.up (mm_rt_ar (t := 0) rfl (by decide))
    refine mm_aload_n dX13_readCond_126 rfl rfl ?_
    refine mm_getr dX13_readCond_127 rfl fl_X13_182 (c := 183) rfl (by decide) rfl rfl (hR125.at (c := 183) (i := 25) (v := 197) rfl (by decide)) ?_
    refine mm_iload_n dX13_readCond_130 rfl rfl ?_
    refine mm_dup2 dX13_readCond_131 rfl (by simp) (by simp) ?_
    refine mm_ialk (k0 := (8 + l)) dX13_readCond_132 rfl (c := 196) rfl (by decide) rfl (by omega) (by omega) ?_
    rw [show M125 196 = N122 196 from by rw [hM125, mm_up_row (by decide)]]
    rw [show N122 196 (8 + l) = (j : Int) by rw [w1 196 (by decide), hM111, mm_up_row (by decide), hM103, mm_up_row (by decide)]; exact c6]
    refine mm_iconst dX13_readCond_133 rfl ?_
    refine mm_iadd dX13_readCond_134 rfl ?_
    refine mm_istk (k0 := (8 + l)) dX13_readCond_135 rfl (c := 196) rfl (by decide) rfl (by omega) (by omega) (fun M135 hM135 => ?_)
    have hR135 : mm_Rf M135 := by rw [hM135]; exact hR125.up (mm_rt_ar (t := 0) rfl (by decide))
    refine mm_vret dX13_readCond_136 rfl rfl ?_
    rw [hΦ]
    refine Or.inr ⟨rfl, hR135, _, _, hL.symm, ?_, ?_, ?_, ?_, ?_, ?_, ?_, ?_, ?_⟩
    · rw [hM135, hM125]; exact kr_up (kr_up hI7 (by omega) (mm_rt_ar (t := 0) rfl (by decide))) (by omega) (mm_rt_ar (t := 0) rfl (by decide))
    · rw [hM135, hM125]; exact ((hK9.fr w1).up (by omega)).up (by omega)
    · rw [hM135, mm_up_s]
    · intro i hi
      rw [hM135, mm_up_row (by decide), mm_up_row (by decide), mm_up_row (by decide), hM125, mm_up_row (by decide), mm_up_row (by decide), mm_up_i (by omega), w1 193 (by decide), w1 194 (by decide), w1 195 (by decide), hM111, mm_up_row (by decide), mm_up_i (by omega), mm_up_row (by decide), hM103, mm_up_i (by omega), mm_up_row (by decide), mm_up_row (by decide), u1 193 (by decide), u1 194 (by decide), u1 195 (by decide), v1 193 (by decide), v1 194 (by decide), v1 195 (by decide)]
      exact ⟨rfl, rfl, rfl⟩
    · rw [hM135, mm_up_row (by decide), hM125, mm_up_row (by decide), w1 193 (by decide), hM111, mm_up_row (by decide), hM103, mm_up_s, kl_set_n (by omega), kl_set_n (by omega), kl_set_s]
    · rw [hM135, mm_up_row (by decide), hM125, mm_up_row (by decide), w1 194 (by decide), hM111, mm_up_s, kl_set_n (by omega), kl_set_s]
    · rw [hM135, mm_up_row (by decide), hM125, mm_up_s, r3, kl_set_s]
    · intro i hi; rw [kl_set_n (by omega), kl_set_n (by omega), kl_set_n (by omega)]
    · intro b hb; rw [hM135, mm_up_row (by decide), hM125, mm_up_row (by decide), w2 b hb, hM111, mm_up_row (by decide), hM103, mm_up_row (by decide), u2 b hb]; exact v2 b hb
  refine mm_aload_n dX13_readCond_0 rfl rfl ?_
  refine mm_V0i dX13_readCond_1 rfl lk_X13_174 (c := 183) rfl (by decide) rfl  rfl rfl rfl (ca) ?_
  refine mm_istore_n dX13_readCond_4 rfl (Nat.le_of_ble_eq_true rfl) rfl ?_
  refine mm_aload_n dX13_readCond_5 rfl rfl ?_
  refine mm_iload_n dX13_readCond_6 rfl rfl ?_
  refine mm_iconst dX13_readCond_7 rfl ?_
  refine mm_iceq_z (q2 := 16) dX13_readCond_8 (by omega) (by omega) (fun k => mm_iconst dX13_readCond_15 rfl k) (fun k => mm_iconst dX13_readCond_11 rfl (mm_goto dX13_readCond_12 k)) ?_
  refine mm_iconst dX13_readCond_16 rfl ?_
  refine mm_V2g (M1 := N) dX13_readCond_17 rfl lk_X13_63 (c := 183) rfl (by decide) rfl (by simp) (by simp) rfl rfl rfl (kq_need hI) ?_
  rintro _ N17 (⟨rfl, p17⟩ | ⟨rfl, p17⟩)
  · refine ⟨rfl, rfl, ?_⟩
    rw [if_pos (by have := p17.2.1; omega)] at hL
    exact thr _ _ _ hL.symm p17.1 p17.2.2.1 ((kr_K.rf l N).fr p17.2.2.2)
  change mm_J _ _ _ _ _ _ _ _ _ _
  have hR17 : mm_Rf N17 := p17.1
  obtain ⟨-, hne, eN⟩ := p17
  rw [eN]
  refine mm_aload_n dX13_readCond_20 rfl rfl ?_
  refine mm_V0g (M1 := N) dX13_readCond_21 rfl lk_X13_71 (c := 183) rfl (by decide) rfl  rfl rfl rfl (kq_sc hI) ?_
  rintro _ N21 ⟨rfl, p21⟩
  change mm_J _ _ _ _ _ _ _ _ _ _
  have hR21 : mm_Rf N21 := p21.1
  obtain ⟨-, hI8, u1, u2⟩ := p21
  have goH := how N21 (by omega) hI8 u1 u2
  rw [kp_nm3] at goH
  simp only [kt_fi] at goH
  refine mm_aload_n dX13_readCond_24 rfl rfl ?_
  refine mm_lds (k0 := 24) dX13_readCond_25 rfl (by decide) rfl rfl ?_
  refine mm_V1i dX13_readCond_27 rfl lk_X13_103 (c := 183) rfl (by decide) rfl (by simp) rfl rfl rfl (kq_is hI8 (by decide)) ?_
  refine mm_ifeqb dX13_readCond_30 (fun h30 => ?_) (fun h30 => ?_)
  · refine mm_aload_n dX13_readCond_37 rfl rfl ?_
    refine mm_lds (k0 := 25) dX13_readCond_38 rfl (by decide) rfl rfl ?_
    refine mm_V1i dX13_readCond_40 rfl lk_X13_103 (c := 183) rfl (by decide) rfl (by simp) rfl rfl rfl (kq_is hI8 (by decide)) ?_
    refine mm_ifeqb dX13_readCond_43 (fun h43 => ?_) (fun h43 => ?_)
    · refine mm_aload_n dX13_readCond_50 rfl rfl ?_
      refine mm_lds (k0 := 26) dX13_readCond_51 rfl (by decide) rfl rfl ?_
      refine mm_V1i dX13_readCond_53 rfl lk_X13_103 (c := 183) rfl (by decide) rfl (by simp) rfl rfl rfl (kq_is hI8 (by decide)) ?_
      refine mm_ifeqb dX13_readCond_56 (fun h56 => ?_) (fun h56 => ?_)
      · refine mm_iconst dX13_readCond_63 rfl ?_
        first
        | (rw [if_pos h30] at goH; exact goH)
        | (rw [if_neg h30, if_pos h43] at goH; exact goH)
        | (rw [if_neg h30, if_neg h43, if_pos h56] at goH; exact goH)
        | (rw [if_neg h30, if_neg h43, if_neg h56] at goH; exact goH)
      · refine mm_iconst dX13_readCond_59 rfl ?_
        refine mm_goto dX13_readCond_60 ?_
        first
        | (rw [if_pos h30] at goH; exact goH)
        | (rw [if_neg h30, if_pos h43] at goH; exact goH)
        | (rw [if_neg h30, if_neg h43, if_pos h56] at goH; exact goH)
        | (rw [if_neg h30, if_neg h43, if_neg h56] at goH; exact goH)
    · refine mm_iconst dX13_readCond_46 rfl ?_
      refine mm_goto dX13_readCond_47 ?_
      first
      | (rw [if_pos h30] at goH; exact goH)
      | (rw [if_neg h30, if_pos h43] at goH; exact goH)
      | (rw [if_neg h30, if_neg h43, if_pos h56] at goH; exact goH)
      | (rw [if_neg h30, if_neg h43, if_neg h56] at goH; exact goH)
  · refine mm_iconst dX13_readCond_33 rfl ?_
    refine mm_goto dX13_readCond_34 ?_
    first
    | (rw [if_pos h30] at goH; exact goH)
    | (rw [if_neg h30, if_pos h43] at goH; exact goH)
    | (rw [if_neg h30, if_neg h43, if_pos h56] at goH; exact goH)
    | (rw [if_neg h30, if_neg h43, if_neg h56] at goH; exact goH)
end

