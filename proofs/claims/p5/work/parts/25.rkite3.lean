/-! A8.rkite3 -/
section
/-! ===== the text of a kite, of the reference: readKite ===== -/
/-- which clauses are told -/
def kq_tl (N : mm_M) (t : Nat) : Prop := ∀ k, k < 12 → N 192 k = if t.testBit k = true then 1 else 0
theorem kq_rd.lift {M N : mm_M} {D D' : Nat → Int} {j : Nat} (h : kq_rd M D) (hL : kq_L (N 189) D D' 20 3 j) (hj : 1 ≤ j ∧ j ≤ 3) (h1 : N 187 = M 187) (h3 : N 191 = M 191) (h4 : N 183 17 = (j : Int)) (h5 : N 183 18 = M 183 18) : kq_rd N D' := by
  obtain ⟨a1, a2, a3, a4, a5, a6⟩ := h
  obtain ⟨l1, l2, l3, l4⟩ := hL
  have e10 := l4 rfl (by omega)
  refine ⟨?_, by rw [h4, e10], by omega, ?_, by rw [h5]; exact a5, ?_⟩
  · intro i hi; rw [h1, l3 i (by omega) (by omega)]; exact a1 i hi
  · intro i hi; exact l1 i (by omega)
  · intro i hi; rw [h3, h5, l3 (30 + i) (by omega) (by omega)]; exact a6 i hi
theorem kq_rd.win {M N : mm_M} {D D' : Nat → Int} {j : Nat} (h : kq_rd M D) (hL : kq_L (N 191) D D' 30 6 j) (hj : 1 ≤ j ∧ j ≤ 6) (h1 : N 187 = M 187) (h3 : N 189 = M 189) (h4 : N 183 18 = (j : Int)) (h5 : N 183 17 = M 183 17) : kq_rd N D' := by
  obtain ⟨a1, a2, a3, a4, a5, a6⟩ := h
  obtain ⟨l1, l2, l3, l4⟩ := hL
  have e10 : D' 10 = D 10 := l3 10 (by omega) (by omega)
  refine ⟨?_, by rw [h5, e10]; exact a2, by omega, ?_, by omega, ?_⟩
  · intro i hi; rw [h1, l3 i (by omega) (by omega)]; exact a1 i hi
  · intro i hi; rw [e10] at hi; rw [h3, l3 (20 + i) (by omega) (by omega)]; exact a4 i hi
  · intro i hi
    rw [h4]
    by_cases q : i < j
    · rw [show (min (i : Int) ((j : Int) - 1)).toNat = i by omega]; exact l1 i q
    · rw [show (min (i : Int) ((j : Int) - 1)).toNat = j - 1 by omega]; exact l2 (by omega) i (by omega) hi
theorem kq_rd.num {M N : mm_M} {D : Nat → Int} {j : Nat} {v : Int} (h : kq_rd M D) (hj : j < 10) (h1 : N 187 j = v) (h2 : ∀ i, i ≠ j → N 187 i = M 187 i) (h3 : N 189 = M 189) (h4 : N 191 = M 191) (h5 : N 183 17 = M 183 17) (h6 : N 183 18 = M 183 18) : kq_rd N (fun i => if i = j then v else D i) := by
  obtain ⟨a1, a2, a3, a4, a5, a6⟩ := h
  have e10 : (if (10 : Nat) = j then v else D 10) = D 10 := if_neg (by omega)
  refine ⟨?_, ?_, ?_, ?_, by rw [h6]; exact a5, ?_⟩
  · intro i hi
    show N 187 i = if i = j then v else D i
    by_cases q : i = j
    · rw [if_pos q, q, h1]
    · rw [if_neg q, h2 i q]; exact a1 i hi
  · show N 183 17 = if 10 = j then v else D 10
    rw [e10, h5]; exact a2
  · show 1 ≤ (if 10 = j then v else D 10) ∧ (if 10 = j then v else D 10) ≤ 3
    rw [e10]; exact a3
  · intro i hi
    have hi' : (i : Int) < if 10 = j then v else D 10 := hi
    rw [e10] at hi'
    show N 189 i = if 20 + i = j then v else D (20 + i)
    rw [if_neg (by omega), h3]; exact a4 i hi'
  · intro i hi
    show N 191 _ = if 30 + i = j then v else D (30 + i)
    rw [if_neg (by omega), h4, h6]; exact a6 i hi
theorem kq_S37 : ∀ b, 3 ≤ b → b ≤ 7 → ¬ kq_S b := by intro b b1 b2; unfold kq_S; omega
theorem kq_A185 : ¬ kq_A 185 := by unfold kq_A; omega
section
variable {X : mm_X} {M N : mm_M} {n p : Nat}
theorem c_X13_readKite (hI : kq_I kq_A kq_S M N n 0) (Z : Nat → Int) : mm_C X Y_X13_readKite 243 243 [(2, 184)] N (fun r M' =>
    (r = (4, 185) ∧ mm_Rf M' ∧ ∃ k s, kp_text (M 185) n 13 0 0 0 (kp_D0 Z) = .error (k, s) ∧ kq_X kq_A kq_S M M' k s) ∨
    (∃ x, r = (0, x) ∧ mm_Rf M' ∧ ∃ (c : Nat) (D : Nat → Int), kp_text (M 185) n 13 0 0 0 (kp_D0 Z) = .ok (c, D) ∧ x = (c : Int) ∧ kq_rd M' D ∧ kq_F kq_A kq_S M M' ∧ M' 183 8 = N 183 8 ∧ M' 183 9 = N 183 9)) := by
  obtain ⟨E, hE⟩ : ∃ E, E = kp_text (M 185) n 13 0 0 0 (kp_D0 Z) := ⟨_, rfl⟩
  rw [← hE]
  obtain ⟨Φ, hΦ⟩ : ∃ Φ : mm_V → mm_M → Prop, Φ = (fun r M' =>
    (r = (4, 185) ∧ mm_Rf M' ∧ ∃ k s, E = .error (k, s) ∧ kq_X kq_A kq_S M M' k s) ∨
    (∃ x, r = (0, x) ∧ mm_Rf M' ∧ ∃ (c : Nat) (D : Nat → Int), E = .ok (c, D) ∧ x = (c : Int) ∧ kq_rd M' D ∧ kq_F kq_A kq_S M M' ∧ M' 183 8 = N 183 8 ∧ M' 183 9 = N 183 9)) := ⟨_, rfl⟩
  rw [← hΦ]
  have thr : ∀ (k : Int) (s : Nat) (T : mm_M), E = .error (k, s) → mm_Rf T → kq_X kq_A kq_S M T k s → Φ (4, 185) T := by
    intro k s T h1 h2 h3
    rw [hΦ]
    exact Or.inl ⟨rfl, h2, k, s, h1, h3⟩
  refine mm_start (ls := [(2, 184), (9, 0), (9, 0)]) rfl ?_
  have loop : ∀ c : Nat, c ≤ 12 → ∀ (Q : mm_M) (p t : Nat) (D : Nat → Int) (l2 : mm_V), kq_I kq_A kq_S M Q n p → kq_rd Q D → kq_tl Q t → t < 4096 → kx_m t 12 = c → Q 183 8 = N 183 8 → Q 183 9 = N 183 9 → kp_text (M 185) n (13 - c) c p t D = E →
      mm_J X Y_X13_readKite 243 243 243 6 [(2, 184), (0, (c : Int)), l2] [] Q Φ := by
    refine mm_lp ?_
    intro c hc ih Q p t D l2 hQ hD ht ht4 hm q8 q9 hL
    have hRQ := hQ.1
    have hpn := hQ.2.2.2.2.1
    have hkb := kt_kb (B := M 185) (n := n) (p := p)
    have hnb := kp_nmb (B := M 185) (n := n) (p := p)
    have hk1 := (kq_hd hQ).1
    rw [show 13 - c = (12 - c) + 1 by omega, kp_text] at hL
    -- the semicolon
    have cl : ∀ (T : mm_M) (p' t' : Nat) (D' : Nat → Int) (e : kp_E) (l2 : mm_V), c < 12 → kq_I kq_A kq_S M T n p' → kq_rd T D' → kq_tl T t' → t' < 4096 → kx_m t' 12 = ((c + 1 : Nat) : Int) → T 183 8 = N 183 8 → T 183 9 = N 183 9 →
        e = (if kt_k (M 185) n p' = 3 then .ok (kt_e (M 185) n p', D') else .error (1, kt_s (M 185) n p')) → (match e with | .error f => (.error f : kp_E) | .ok (p', D') => kp_text (M 185) n (12 - c) (c + 1) p' t' D') = E →
        mm_J X Y_X13_readKite 243 243 243 132 [(2, 184), (0, (c : Int)), l2] [] T Φ := by
      intro T p' t' D' e l2 hc12 hT hDT htT ht4' hm' t8 t9 he hL
      have hRT := hT.1
      refine mm_aload_n dX13_readKite_132 rfl rfl ?_
      refine mm_V0g (M1 := T) dX13_readKite_133 rfl lk_X13_148 (c := 183) rfl (by decide) rfl  rfl rfl rfl (kq_close hT) ?_
      rintro _ N133 (⟨rfl, p133⟩ | ⟨rfl, p133⟩)
      · refine ⟨rfl, rfl, ?_⟩
        rw [he, if_neg p133.2.1] at hL
        exact thr _ _ _ hL.symm p133.1 p133.2.2.1
      change mm_J _ _ _ _ _ _ _ _ _ _
      have hR133 : mm_Rf N133 := p133.1
      obtain ⟨-, h3, hI3, u1, u2⟩ := p133
      rw [he, if_pos h3] at hL
      refine mm_iinc dX13_readKite_136 rfl rfl (Nat.le_of_ble_eq_true rfl) rfl ?_
      refine mm_goto dX13_readKite_139 ?_
      refine ih hc12 _ _ t' D' _ hI3 (hDT.fr (u1 _ (by decide)) (u1 _ (by decide)) (u1 _ (by decide)) (u2 _ (by decide)) (u2 _ (by decide))) ?_ ht4' hm' ?_ ?_ ?_
      · intro k hk; rw [u1 192 (by decide)]; exact htT k hk
      · rw [u2 8 (by decide)]; exact t8
      · rw [u2 9 (by decide)]; exact t9
      · rw [show 13 - (c + 1) = 12 - c by omega]; exact hL
    have ca := c_X13_clauseAtHand (X := X) hQ.1 hQ.2.2.2.1 hpn hQ.2.2.2.2.2
    rw [hQ.tp] at ca
    refine mm_aload_n dX13_readKite_6 rfl rfl ?_
    refine mm_get (kd := 0) dX13_readKite_7 rfl fl_X13_37 (c := 183) rfl (by decide) rfl rfl ?_
    obtain ⟨v7, hv7⟩ : ∃ v, v = Q 183 6 := ⟨_, rfl⟩
    rw [← hv7]
    rw [hk1] at hv7
    subst hv7
    refine mm_ifeq dX13_readKite_10 (by omega) (fun h10 => ?_) (fun h10 => ?_)
    · refine mm_iload_n dX13_readKite_142 rfl rfl ?_
      refine mm_iret dX13_readKite_143 rfl rfl ?_
      rw [hΦ]
      rw [if_pos h10] at hL
      exact Or.inr ⟨_, rfl, hRQ, c, D, hL.symm, rfl, hD, hQ.2.1, q8, q9⟩
    · refine mm_aload_n dX13_readKite_13 rfl rfl ?_
      refine mm_V0i dX13_readKite_14 rfl lk_X13_132 (c := 183) rfl (by decide) rfl  rfl rfl rfl (ca) ?_
      refine mm_istore_n dX13_readKite_17 rfl (Nat.le_of_ble_eq_true rfl) rfl ?_
      refine mm_aload_n dX13_readKite_18 rfl rfl ?_
      refine mm_iload_n dX13_readKite_19 rfl rfl ?_
      refine mm_iconst dX13_readKite_20 rfl ?_
      refine mm_iceq_z (q2 := 29) dX13_readKite_21 (by omega) (by omega) (fun k => mm_iconst dX13_readKite_28 rfl k) (fun k => mm_iconst dX13_readKite_24 rfl (mm_goto dX13_readKite_25 k)) ?_
      refine mm_iconst dX13_readKite_29 rfl ?_
      refine mm_V2g (M1 := Q) dX13_readKite_30 rfl lk_X13_63 (c := 183) rfl (by decide) rfl (by simp) (by simp) rfl rfl rfl (kq_need hQ) ?_
      rintro _ N30 (⟨rfl, p30⟩ | ⟨rfl, p30⟩)
      · refine ⟨rfl, rfl, ?_⟩
        rw [if_neg h10, if_pos (by have := p30.2.1; omega)] at hL
        exact thr _ _ _ hL.symm p30.1 p30.2.2.1
      change mm_J _ _ _ _ _ _ _ _ _ _
      have hR30 : mm_Rf N30 := p30.1
      obtain ⟨-, hne, eN⟩ := p30
      rw [eN]
      rw [if_neg h10, if_neg (by omega)] at hL
      obtain ⟨nm, hnm⟩ : ∃ nm : Nat, kp_nm (M 185) n p 0 = (nm : Int) := ⟨_, (Int.toNat_of_nonneg (by omega)).symm⟩
      rw [hnm, Int.toNat_natCast] at hL
      rw [hnm] at hnb hne
      rw [hnm]
      have htn := ht nm (by omega)
      refine mm_aload_n dX13_readKite_33 rfl rfl ?_
      refine mm_aload_n dX13_readKite_34 rfl rfl ?_
      refine mm_getr dX13_readKite_35 rfl fl_X13_97 (c := 183) rfl (by decide) rfl rfl (hRQ.at (c := 183) (i := 19) (v := 193) rfl (by decide)) ?_
      refine mm_iload_n dX13_readKite_38 rfl rfl ?_
      refine mm_zalk (k0 := nm) dX13_readKite_39 rfl (c := 192) rfl (by decide) rfl (by omega) (by omega) ?_
      rw [htn]
      refine mm_ifne_z (q2 := 48) dX13_readKite_40 (by split <;> omega) (fun k => mm_iconst dX13_readKite_47 rfl k) (fun k => mm_iconst dX13_readKite_43 rfl (mm_goto dX13_readKite_44 k)) ?_
      refine mm_iconst dX13_readKite_48 rfl ?_
      refine mm_V2g (M1 := Q) dX13_readKite_49 rfl lk_X13_63 (c := 183) rfl (by decide) rfl (by simp) (by simp) rfl rfl rfl (kq_need hQ) ?_
      rintro _ N49 (⟨rfl, p49⟩ | ⟨rfl, p49⟩)
      · refine ⟨rfl, rfl, ?_⟩
        have hb := p49.2.1
        by_cases q : t.testBit nm = true
        · rw [if_pos q] at hL
          exact thr _ _ _ hL.symm p49.1 p49.2.2.1
        · rw [if_neg q] at hb
          exact absurd rfl hb
      change mm_J _ _ _ _ _ _ _ _ _ _
      have hR49 : mm_Rf N49 := p49.1
      obtain ⟨-, hno, eN2⟩ := p49
      rw [eN2]
      have hno : ¬ t.testBit nm = true := by
        intro q
        rw [if_pos q] at hno
        exact absurd hno (by decide)
      rw [if_neg hno] at hL
      have hlt := kx_m_lt hno (show nm < 12 by omega)
      have hor := kx_m_or hno (show nm < 12 by omega)
      have p2 : 2 ^ nm < 4096 := Nat.lt_of_lt_of_le (Nat.pow_lt_pow_right (by decide) (show nm < 12 by omega)) (by decide)
      have ho : t ||| 2 ^ nm < 4096 := Nat.or_lt_two_pow (n := 12) ht4 p2
      have hm' : kx_m (t ||| 2 ^ nm) 12 = ((c + 1 : Nat) : Int) := by omega
      refine mm_aload_n dX13_readKite_52 rfl rfl ?_
      refine mm_getr dX13_readKite_53 rfl fl_X13_97 (c := 183) rfl (by decide) rfl rfl (hRQ.at (c := 183) (i := 19) (v := 193) rfl (by decide)) ?_
      refine mm_iload_n dX13_readKite_56 rfl rfl ?_
      refine mm_iconst dX13_readKite_57 rfl ?_
      refine mm_zstk (k0 := nm) dX13_readKite_58 rfl (c := 192) rfl (by decide) rfl (by omega) (by omega) (Or.inr rfl) (fun M58 hM58 => ?_)
      have hR58 : mm_Rf M58 := by rw [hM58]; exact hRQ.up (mm_rt_ar (t := 2) rfl (by decide))
      refine mm_aload_n dX13_readKite_59 rfl rfl ?_
      have hI5 : kq_I kq_A kq_S M M58 n p := by rw [hM58]; exact hQ.up (by unfold kq_A; omega) (by decide) kq_A185 kq_S37 (mm_rt_ar (t := 2) rfl (by decide)) (fun z => absurd z (by decide))
      have hD5 : kq_rd M58 D := hD.fr (by rw [hM58, mm_up_row (by decide)]) (by rw [hM58, mm_up_row (by decide)]) (by rw [hM58, mm_up_row (by decide)]) (by rw [hM58, mm_up_row (by decide)]) (by rw [hM58, mm_up_row (by decide)])
      have ht5 : kq_tl M58 (t ||| 2 ^ nm) := by
        intro k hk
        rw [Nat.testBit_or, Nat.testBit_two_pow]
        by_cases q : k = nm
        · rw [hM58, q, mm_up_s, if_pos (by simp)]
        · rw [hM58, mm_up_i q, decide_eq_false (fun z => q z.symm), Bool.or_false]; exact ht k hk
      refine mm_V0g (M1 := M58) dX13_readKite_60 rfl lk_X13_71 (c := 183) rfl (by decide) rfl  rfl rfl rfl (kq_sc hI5) ?_
      rintro _ N60 ⟨rfl, p60⟩
      change mm_J _ _ _ _ _ _ _ _ _ _
      have hR60 : mm_Rf N60 := p60.1
      obtain ⟨-, hI6, u1, u2⟩ := p60
      have hD6 : kq_rd N60 D := hD5.fr (u1 _ (by decide)) (u1 _ (by decide)) (u1 _ (by decide)) (u2 _ (by decide)) (u2 _ (by decide))
      have ht6 : kq_tl N60 (t ||| 2 ^ nm) := fun k hk => by rw [u1 192 (by decide)]; exact ht5 k hk
      have e8 : N60 183 8 = N 183 8 := by rw [u2 8 (by decide), hM58, mm_up_row (by decide)]; exact q8
      have e9 : N60 183 9 = N 183 9 := by rw [u2 9 (by decide), hM58, mm_up_row (by decide)]; exact q9
      obtain ⟨e, he⟩ : ∃ e, e = kp_clause (M 185) n nm (kt_e (M 185) n p) D := ⟨_, rfl⟩
      rw [← he] at hL
      unfold kp_clause at he
      refine mm_iload_n dX13_readKite_63 rfl rfl ?_
      refine mm_bipush dX13_readKite_64 rfl (by decide) ?_
      refine mm_icne dX13_readKite_66 (by omega) (by omega) (fun h66 => ?_) (fun h66 => ?_)
      · refine mm_iload_n dX13_readKite_87 rfl rfl ?_
        refine mm_bipush dX13_readKite_88 rfl (by decide) ?_
        refine mm_icle dX13_readKite_90 (by omega) (by omega) (fun h90 => ?_) (fun h90 => ?_)
        · refine mm_aload_n dX13_readKite_112 rfl rfl ?_
          refine mm_getr dX13_readKite_113 rfl fl_X13_78 (c := 183) rfl (by decide) rfl rfl (hR60.at (c := 183) (i := 11) (v := 188) rfl (by decide)) ?_
          refine mm_iload_n dX13_readKite_116 rfl rfl ?_
          refine mm_aload_n dX13_readKite_117 rfl rfl ?_
          refine mm_gets (k0 := 4) dX13_readKite_118 rfl (by decide) sf_X13_139 ?_
          refine mm_iload_n dX13_readKite_121 rfl rfl ?_
          refine mm_iark (k1 := 6) (k0 := nm) dX13_readKite_122 rfl rfl (by decide) (by omega) (by (show nm < 10); omega) (Nat.le_of_ble_eq_true rfl) ?_
          refine mm_gets (k0 := 5) dX13_readKite_123 rfl (by decide) sf_X13_142 ?_
          refine mm_iload_n dX13_readKite_126 rfl rfl ?_
          refine mm_iark (k1 := 7) (k0 := nm) dX13_readKite_127 rfl rfl (by decide) (by omega) (by (show nm < 10); omega) (Nat.le_of_ble_eq_true rfl) ?_
          rw [if_neg (by omega), if_neg (by omega)] at he
          have hlh := kp_lohi (show nm < 10 by omega)
          have elo : (mm_rc X 6).2 nm = kp_lo.getD nm 0 := (kp_lo_at (show nm < 10 by omega)).1
          have ehi : (mm_rc X 7).2 nm = kp_hi.getD nm 0 := (kp_lo_at (show nm < 10 by omega)).2
          rw [elo, ehi]
          refine mm_V2g (M1 := N60) dX13_readKite_128 rfl lk_X13_145 (c := 183) rfl (by decide) rfl (by simp) (by simp) rfl rfl rfl (kq_num hI6 (by omega) (by omega)) ?_
          rintro _ N128 (⟨rfl, p128⟩ | ⟨x128, rfl, p128⟩)
          · refine ⟨rfl, rfl, ?_⟩
            obtain ⟨r1, r2, r3, -⟩ := p128
            by_cases q : kt_k (M 185) n (kt_e (M 185) n p) = 2
            · rw [if_neg (fun z => z q), if_pos (fun z => r2 ⟨q, z⟩)] at he
              rw [if_pos q] at r3
              rw [he] at hL
              exact thr _ _ _ hL.symm r1 r3
            · rw [if_pos q] at he
              rw [if_neg q] at r3
              rw [he] at hL
              exact thr _ _ _ hL.symm r1 r3
          change mm_J _ _ _ _ _ _ _ _ _ _
          have hR128 : mm_Rf N128 := p128.1
          obtain ⟨-, r2, r3, hI7, v1, v2⟩ := p128
          rw [if_neg (fun z => z r2.1), if_neg (fun z => z r2.2)] at he
          refine mm_istk (k0 := nm) dX13_readKite_131 rfl (c := 187) rfl (by decide) rfl (by omega) (by omega) (fun M131 hM131 => ?_)
          have hR131 : mm_Rf M131 := by rw [hM131]; exact hR128.up (mm_rt_ar (t := 0) rfl (by decide))
          first
          | (refine cl _ p' (t ||| 2 ^ nm) D' e _ (by omega) (by rw [hM81]; exact hI7.uf (Or.inl rfl) kq_A185 kq_S37 rfl) (hD6.lift (j := j) (by rw [hM81, mm_up_row (by decide)]; exact hL7) ⟨j1, j3⟩ ?_ ?_ ?_ ?_) ?_ ho hm' ?_ ?_ he hL
             · rw [hM81, mm_up_row (by decide)]; exact v1 _ (by decide) (by decide)
             · rw [hM81, mm_up_row (by decide)]; exact v1 _ (by decide) (by decide)
             · rw [hM81, mm_up_s]; exact hj
             · rw [hM81, mm_up_i (by decide)]; exact v2 _ (by decide)
             · intro k hk; rw [hM81, mm_up_row (by decide), v1 192 (by decide) (by decide)]; exact ht6 k hk
             · rw [hM81, mm_up_i (by decide), v2 8 (by decide)]; exact e8
             · rw [hM81, mm_up_i (by decide), v2 9 (by decide)]; exact e9)
          | (refine cl _ p' (t ||| 2 ^ nm) D' e _ (by omega) (by rw [hM106]; exact hI7.uf (Or.inr rfl) kq_A185 kq_S37 rfl) (hD6.win (j := j) (by rw [hM106, mm_up_row (by decide)]; exact hL7) ⟨j1, j3⟩ ?_ ?_ ?_ ?_) ?_ ho hm' ?_ ?_ he hL
             · rw [hM106, mm_up_row (by decide)]; exact v1 _ (by decide) (by decide)
             · rw [hM106, mm_up_row (by decide)]; exact v1 _ (by decide) (by decide)
             · rw [hM106, mm_up_s]; exact hj
             · rw [hM106, mm_up_i (by decide)]; exact v2 _ (by decide)
             · intro k hk; rw [hM106, mm_up_row (by decide), v1 192 (by decide) (by decide)]; exact ht6 k hk
             · rw [hM106, mm_up_i (by decide), v2 8 (by decide)]; exact e8
             · rw [hM106, mm_up_i (by decide), v2 9 (by decide)]; exact e9)
          | (refine cl _ _ (t ||| 2 ^ nm) (fun i => if i = nm then kt_v (M 185) n (kt_e (M 185) n p) else D i) e _ (by omega) (by rw [hM131]; exact hI7.up (Or.inl rfl) (by decide) kq_A185 kq_S37 (mm_rt_ar (t := 0) rfl (by decide)) (fun z => absurd z (by decide))) (hD6.num (j := nm) (by omega) ?_ ?_ ?_ ?_ ?_ ?_) ?_ ho hm' ?_ ?_ ?_ hL
             · rw [hM131, mm_up_s, r3]
             · intro i hi; rw [hM131, mm_up_i hi, v1 187 (by decide)]
             · rw [hM131, mm_up_row (by decide)]; exact v1 _ (by decide)
             · rw [hM131, mm_up_row (by decide)]; exact v1 _ (by decide)
             · rw [hM131, mm_up_row (by decide)]; exact v2 _ (by decide)
             · rw [hM131, mm_up_row (by decide)]; exact v2 _ (by decide)
             · intro k hk; rw [hM131, mm_up_row (by decide), v1 192 (by decide)]; exact ht6 k hk
             · rw [hM131, mm_up_row (by decide), v2 8 (by decide)]; exact e8
             · rw [hM131, mm_up_row (by decide), v2 9 (by decide)]; exact e9
             · rw [he]
               by_cases q : kt_k (M 185) n (kt_e (M 185) n (kt_e (M 185) n p)) = 3
               · rw [if_neg (fun z => z q), if_pos q]
               · rw [if_pos q, if_neg q])
        · refine mm_aload_n dX13_readKite_93 rfl rfl ?_
          refine mm_aload_n dX13_readKite_94 rfl rfl ?_
          refine mm_aload_n dX13_readKite_95 rfl rfl ?_
          refine mm_getr dX13_readKite_96 rfl fl_X13_91 (c := 183) rfl (by decide) rfl rfl (hR60.at (c := 183) (i := 15) (v := 192) rfl (by decide)) ?_
          refine mm_bipush dX13_readKite_99 rfl (by decide) ?_
          refine mm_bipush dX13_readKite_101 rfl (by decide) ?_
          refine mm_V3g (M1 := N60) dX13_readKite_103 rfl lk_X13_135 (c := 183) rfl (by decide) rfl (by simp) (by simp) (by simp) rfl rfl rfl ((c_X13_readRow (t := 191) (pl := 30) (room := 6) (most := 100) (Or.inr ⟨rfl, rfl, rfl, rfl⟩) hI6 D)) ?_
          rintro _ N103 (⟨rfl, p103⟩ | ⟨x103, rfl, p103⟩)
          · refine ⟨rfl, rfl, ?_⟩
            obtain ⟨r1, k, s, r2, r3⟩ := p103
            rw [if_neg (by omega), if_pos (by omega), r2] at he
            rw [he] at hL
            exact thr _ _ _ hL.symm r1 r3
          change mm_J _ _ _ _ _ _ _ _ _ _
          have hR103 : mm_Rf N103 := p103.1
          obtain ⟨-, j, hj, j1, j3, p', D', hI7, hL7, v1, v2, v3⟩ := p103
          rw [if_neg (by omega), if_pos (by omega), v3] at he
          refine mm_puti dX13_readKite_106 rfl fl_X13_94 (c := 183) rfl (by decide) rfl rfl (fun M106 hM106 => ?_)
          have hR106 : mm_Rf M106 := by rw [hM106]; exact hR103.up rfl
          refine mm_goto dX13_readKite_109 ?_
          first
          | (refine cl _ p' (t ||| 2 ^ nm) D' e _ (by omega) (by rw [hM81]; exact hI7.uf (Or.inl rfl) kq_A185 kq_S37 rfl) (hD6.lift (j := j) (by rw [hM81, mm_up_row (by decide)]; exact hL7) ⟨j1, j3⟩ ?_ ?_ ?_ ?_) ?_ ho hm' ?_ ?_ he hL
             · rw [hM81, mm_up_row (by decide)]; exact v1 _ (by decide) (by decide)
             · rw [hM81, mm_up_row (by decide)]; exact v1 _ (by decide) (by decide)
             · rw [hM81, mm_up_s]; exact hj
             · rw [hM81, mm_up_i (by decide)]; exact v2 _ (by decide)
             · intro k hk; rw [hM81, mm_up_row (by decide), v1 192 (by decide) (by decide)]; exact ht6 k hk
             · rw [hM81, mm_up_i (by decide), v2 8 (by decide)]; exact e8
             · rw [hM81, mm_up_i (by decide), v2 9 (by decide)]; exact e9)
          | (refine cl _ p' (t ||| 2 ^ nm) D' e _ (by omega) (by rw [hM106]; exact hI7.uf (Or.inr rfl) kq_A185 kq_S37 rfl) (hD6.win (j := j) (by rw [hM106, mm_up_row (by decide)]; exact hL7) ⟨j1, j3⟩ ?_ ?_ ?_ ?_) ?_ ho hm' ?_ ?_ he hL
             · rw [hM106, mm_up_row (by decide)]; exact v1 _ (by decide) (by decide)
             · rw [hM106, mm_up_row (by decide)]; exact v1 _ (by decide) (by decide)
             · rw [hM106, mm_up_s]; exact hj
             · rw [hM106, mm_up_i (by decide)]; exact v2 _ (by decide)
             · intro k hk; rw [hM106, mm_up_row (by decide), v1 192 (by decide) (by decide)]; exact ht6 k hk
             · rw [hM106, mm_up_i (by decide), v2 8 (by decide)]; exact e8
             · rw [hM106, mm_up_i (by decide), v2 9 (by decide)]; exact e9)
          | (refine cl _ _ (t ||| 2 ^ nm) (fun i => if i = nm then kt_v (M 185) n (kt_e (M 185) n p) else D i) e _ (by omega) (by rw [hM131]; exact hI7.up (Or.inl rfl) (by decide) kq_A185 kq_S37 (mm_rt_ar (t := 0) rfl (by decide)) (fun z => absurd z (by decide))) (hD6.num (j := nm) (by omega) ?_ ?_ ?_ ?_ ?_ ?_) ?_ ho hm' ?_ ?_ ?_ hL
             · rw [hM131, mm_up_s, r3]
             · intro i hi; rw [hM131, mm_up_i hi, v1 187 (by decide)]
             · rw [hM131, mm_up_row (by decide)]; exact v1 _ (by decide)
             · rw [hM131, mm_up_row (by decide)]; exact v1 _ (by decide)
             · rw [hM131, mm_up_row (by decide)]; exact v2 _ (by decide)
             · rw [hM131, mm_up_row (by decide)]; exact v2 _ (by decide)
             · intro k hk; rw [hM131, mm_up_row (by decide), v1 192 (by decide)]; exact ht6 k hk
             · rw [hM131, mm_up_row (by decide), v2 8 (by decide)]; exact e8
             · rw [hM131, mm_up_row (by decide), v2 9 (by decide)]; exact e9
             · rw [he]
               by_cases q : kt_k (M 185) n (kt_e (M 185) n (kt_e (M 185) n p)) = 3
               · rw [if_neg (fun z => z q), if_pos q]
               · rw [if_pos q, if_neg q])
      · refine mm_aload_n dX13_readKite_69 rfl rfl ?_
        refine mm_aload_n dX13_readKite_70 rfl rfl ?_
        refine mm_aload_n dX13_readKite_71 rfl rfl ?_
        refine mm_getr dX13_readKite_72 rfl fl_X13_85 (c := 183) rfl (by decide) rfl rfl (hR60.at (c := 183) (i := 13) (v := 190) rfl (by decide)) ?_
        refine mm_iconst dX13_readKite_75 rfl ?_
        refine mm_bipush dX13_readKite_76 rfl (by decide) ?_
        refine mm_V3g (M1 := N60) dX13_readKite_78 rfl lk_X13_135 (c := 183) rfl (by decide) rfl (by simp) (by simp) (by simp) rfl rfl rfl ((c_X13_readRow (t := 189) (pl := 20) (room := 3) (most := 99) (Or.inl ⟨rfl, rfl, rfl, rfl⟩) hI6 D)) ?_
        rintro _ N78 (⟨rfl, p78⟩ | ⟨x78, rfl, p78⟩)
        · refine ⟨rfl, rfl, ?_⟩
          obtain ⟨r1, k, s, r2, r3⟩ := p78
          rw [if_pos (by omega), r2] at he
          rw [he] at hL
          exact thr _ _ _ hL.symm r1 r3
        change mm_J _ _ _ _ _ _ _ _ _ _
        have hR78 : mm_Rf N78 := p78.1
        obtain ⟨-, j, hj, j1, j3, p', D', hI7, hL7, v1, v2, v3⟩ := p78
        rw [if_pos (by omega), v3] at he
        refine mm_puti dX13_readKite_81 rfl fl_X13_88 (c := 183) rfl (by decide) rfl rfl (fun M81 hM81 => ?_)
        have hR81 : mm_Rf M81 := by rw [hM81]; exact hR78.up rfl
        refine mm_goto dX13_readKite_84 ?_
        first
        | (refine cl _ p' (t ||| 2 ^ nm) D' e _ (by omega) (by rw [hM81]; exact hI7.uf (Or.inl rfl) kq_A185 kq_S37 rfl) (hD6.lift (j := j) (by rw [hM81, mm_up_row (by decide)]; exact hL7) ⟨j1, j3⟩ ?_ ?_ ?_ ?_) ?_ ho hm' ?_ ?_ he hL
           · rw [hM81, mm_up_row (by decide)]; exact v1 _ (by decide) (by decide)
           · rw [hM81, mm_up_row (by decide)]; exact v1 _ (by decide) (by decide)
           · rw [hM81, mm_up_s]; exact hj
           · rw [hM81, mm_up_i (by decide)]; exact v2 _ (by decide)
           · intro k hk; rw [hM81, mm_up_row (by decide), v1 192 (by decide) (by decide)]; exact ht6 k hk
           · rw [hM81, mm_up_i (by decide), v2 8 (by decide)]; exact e8
           · rw [hM81, mm_up_i (by decide), v2 9 (by decide)]; exact e9)
        | (refine cl _ p' (t ||| 2 ^ nm) D' e _ (by omega) (by rw [hM106]; exact hI7.uf (Or.inr rfl) kq_A185 kq_S37 rfl) (hD6.win (j := j) (by rw [hM106, mm_up_row (by decide)]; exact hL7) ⟨j1, j3⟩ ?_ ?_ ?_ ?_) ?_ ho hm' ?_ ?_ he hL
           · rw [hM106, mm_up_row (by decide)]; exact v1 _ (by decide) (by decide)
           · rw [hM106, mm_up_row (by decide)]; exact v1 _ (by decide) (by decide)
           · rw [hM106, mm_up_s]; exact hj
           · rw [hM106, mm_up_i (by decide)]; exact v2 _ (by decide)
           · intro k hk; rw [hM106, mm_up_row (by decide), v1 192 (by decide) (by decide)]; exact ht6 k hk
           · rw [hM106, mm_up_i (by decide), v2 8 (by decide)]; exact e8
           · rw [hM106, mm_up_i (by decide), v2 9 (by decide)]; exact e9)
        | (refine cl _ _ (t ||| 2 ^ nm) (fun i => if i = nm then kt_v (M 185) n (kt_e (M 185) n p) else D i) e _ (by omega) (by rw [hM131]; exact hI7.up (Or.inl rfl) (by decide) kq_A185 kq_S37 (mm_rt_ar (t := 0) rfl (by decide)) (fun z => absurd z (by decide))) (hD6.num (j := nm) (by omega) ?_ ?_ ?_ ?_ ?_ ?_) ?_ ho hm' ?_ ?_ ?_ hL
           · rw [hM131, mm_up_s, r3]
           · intro i hi; rw [hM131, mm_up_i hi, v1 187 (by decide)]
           · rw [hM131, mm_up_row (by decide)]; exact v1 _ (by decide)
           · rw [hM131, mm_up_row (by decide)]; exact v1 _ (by decide)
           · rw [hM131, mm_up_row (by decide)]; exact v2 _ (by decide)
           · rw [hM131, mm_up_row (by decide)]; exact v2 _ (by decide)
           · intro k hk; rw [hM131, mm_up_row (by decide), v1 192 (by decide)]; exact ht6 k hk
           · rw [hM131, mm_up_row (by decide), v2 8 (by decide)]; exact e8
           · rw [hM131, mm_up_row (by decide), v2 9 (by decide)]; exact e9
           · rw [he]
             by_cases q : kt_k (M 185) n (kt_e (M 185) n (kt_e (M 185) n p)) = 3
             · rw [if_neg (fun z => z q), if_pos q]
             · rw [if_pos q, if_neg q])
  have hRN := hI.1
  refine mm_aload_n dX13_readKite_0 rfl rfl ?_
  refine mm_V0g (M1 := N) dX13_readKite_1 rfl lk_X13_129 (c := 183) rfl (by decide) rfl  rfl rfl rfl (c_X13_plain hRN) ?_
  rintro _ N1 ⟨rfl, p1⟩
  change mm_J _ _ _ _ _ _ _ _ _ _
  have hR1 : mm_Rf N1 := p1.1
  refine mm_iconst dX13_readKite_4 rfl ?_
  refine mm_istore_n dX13_readKite_5 rfl (Nat.le_of_ble_eq_true rfl) rfl ?_
  obtain ⟨-, f1, f2, fB, f3, f4⟩ := p1
  refine loop 0 (Nat.zero_le _) N1 0 0 (kp_D0 Z) _ (hI.fr hR1 f1 f2 kq_S37 kq_A185 fB) (f3 Z) ?_ (by decide) (by decide) (f2 8 (by unfold kq_S; omega)) (f2 9 (by unfold kq_S; omega)) hE.symm
  intro k hk
  rw [f4 k hk, if_neg (by simp)]
end
end
/-! A9.rkite4 -/
section
/-! ===== the reference uses a kite that is read ===== -/
section
variable {X : mm_X} {M N : mm_M} {n p : Nat}
theorem c_X13_takeKite (hR : mm_Rf M) (h18 : 1 ≤ M 183 18 ∧ M 183 18 ≤ 6) : mm_C X Y_X13_takeKite 243 243 [(2, 184)] M (fun r M' => r = (3, 0) ∧ mm_Rf M' ∧ (∀ a, a ≠ 183 → a ≠ 186 → a ≠ 188 → a ≠ 190 → M' a = M a) ∧ (∀ b, b ≠ 16 → M' 183 b = M 183 b) ∧ M' 183 16 = M 183 17 ∧ (∀ i, i < 10 → M' 186 i = M 187 i) ∧ (∀ i, i < 3 → M' 188 i = M 189 i) ∧ (∀ i : Nat, i < 6 → M' 190 i = M 191 (min (i : Int) (M 183 18 - 1)).toNat)) := by
  obtain ⟨Φ, hΦ⟩ : ∃ Φ : mm_V → mm_M → Prop, Φ = (fun r M' => r = (3, 0) ∧ mm_Rf M' ∧ (∀ a, a ≠ 183 → a ≠ 186 → a ≠ 188 → a ≠ 190 → M' a = M a) ∧ (∀ b, b ≠ 16 → M' 183 b = M 183 b) ∧ M' 183 16 = M 183 17 ∧ (∀ i, i < 10 → M' 186 i = M 187 i) ∧ (∀ i, i < 3 → M' 188 i = M 189 i) ∧ (∀ i : Nat, i < 6 → M' 190 i = M 191 (min (i : Int) (M 183 18 - 1)).toNat)) := ⟨_, rfl⟩
  rw [← hΦ]
  refine mm_start (ls := [(2, 184), (9, 0)]) rfl ?_
  have l3 : ∀ i : Nat, i ≤ 6 → ∀ N : mm_M, mm_Rf N → (∀ a, a ≠ 183 → a ≠ 186 → a ≠ 188 → a ≠ 190 → N a = M a) → (∀ b, b ≠ 16 → N 183 b = M 183 b) → N 183 16 = M 183 17 → (∀ k, k < 10 → N 186 k = M 187 k) → (∀ k, k < 3 → N 188 k = M 189 k) → (∀ k : Nat, k < i → N 190 k = M 191 (min (k : Int) (M 183 18 - 1)).toNat) →
      mm_J X Y_X13_takeKite 243 243 243 61 [(2, 184), (0, (i : Int))] [] N Φ := by
    refine mm_lp ?_
    intro i hi ih N hRN f1 f2 f3 f4 f5 f6
    have e18 : N 183 18 = M 183 18 := f2 18 (by decide)
    have r191 : N 191 = M 191 := f1 191 (by decide) (by decide) (by decide) (by decide)
    by_cases hlt : i < 6
    · refine mm_iload_n dX13_takeKite_61 rfl rfl ?_
      refine mm_bipush dX13_takeKite_62 rfl (by decide) ?_
      refine mm_icge dX13_takeKite_64 (by omega) (by omega) (fun h64 => ?_) (fun h64 => ?_)
      · exfalso; omega
      · refine mm_aload_n dX13_takeKite_67 rfl rfl ?_
        refine mm_getr dX13_takeKite_68 rfl fl_X13_159 (c := 183) rfl (by decide) rfl rfl (hRN.at (c := 183) (i := 14) (v := 191) rfl (by decide)) ?_
        refine mm_iload_n dX13_takeKite_71 rfl rfl ?_
        refine mm_aload_n dX13_takeKite_72 rfl rfl ?_
        refine mm_getr dX13_takeKite_73 rfl fl_X13_91 (c := 183) rfl (by decide) rfl rfl (hRN.at (c := 183) (i := 15) (v := 192) rfl (by decide)) ?_
        refine mm_iload_n dX13_takeKite_76 rfl rfl ?_
        refine mm_aload_n dX13_takeKite_77 rfl rfl ?_
        refine mm_get (kd := 0) dX13_takeKite_78 rfl fl_X13_94 (c := 183) rfl (by decide) rfl rfl ?_
        obtain ⟨v78, hv78⟩ : ∃ v, v = N 183 18 := ⟨_, rfl⟩
        rw [← hv78]
        rw [e18] at hv78
        subst hv78
        refine mm_iconst dX13_takeKite_81 rfl ?_
        refine mm_isub dX13_takeKite_82 rfl ?_
        refine mm_min dX13_takeKite_83 rfl lm_X13_161 rfl rfl (by simp) (by omega) (by omega) ?_
        refine mm_ialk (k0 := (min (i : Int) (M 183 18 - 1)).toNat) dX13_takeKite_86 rfl (c := 191) rfl (by decide) rfl (by omega) (by omega) ?_
        rw [r191]
        refine mm_istk (k0 := i) dX13_takeKite_87 rfl (c := 190) rfl (by decide) rfl (by omega) (by omega) (fun M87 hM87 => ?_)
        have hR87 : mm_Rf M87 := by rw [hM87]; exact hRN.up (mm_rt_ar (t := 0) rfl (by decide))
        refine mm_iinc dX13_takeKite_88 rfl rfl (Nat.le_of_ble_eq_true rfl) rfl ?_
        refine mm_goto dX13_takeKite_91 ?_
        refine ih hlt _ hR87 ?_ ?_ ?_ ?_ ?_ ?_
        · intro a a1 a2 a3 a4; rw [hM87, mm_up_row a4]; exact f1 a a1 a2 a3 a4
        · intro b hb; rw [hM87, mm_up_row (by decide)]; exact f2 b hb
        · rw [hM87, mm_up_row (by decide)]; exact f3
        · intro k hk; rw [hM87, mm_up_row (by decide)]; exact f4 k hk
        · intro k hk; rw [hM87, mm_up_row (by decide)]; exact f5 k hk
        · intro k hk
          by_cases q : k = i
          · rw [hM87, q, mm_up_s]
          · rw [hM87, mm_up_i q]; exact f6 k (by omega)
    · rw [hΦ]
      refine mm_iload_n dX13_takeKite_61 rfl rfl ?_
      refine mm_bipush dX13_takeKite_62 rfl (by decide) ?_
      refine mm_icge dX13_takeKite_64 (by omega) (by omega) (fun h64 => ?_) (fun h64 => ?_)
      · refine mm_vret dX13_takeKite_94 rfl rfl ?_
        exact ⟨rfl, hRN, f1, f2, f3, f4, f5, fun k hk => f6 k (by omega)⟩
      · exfalso; omega
  have l2 : ∀ i : Nat, i ≤ 3 → ∀ N : mm_M, mm_Rf N → (∀ a, a ≠ 183 → a ≠ 186 → a ≠ 188 → N a = M a) → (∀ b, b ≠ 16 → N 183 b = M 183 b) → N 183 16 = M 183 17 → (∀ k, k < 10 → N 186 k = M 187 k) → (∀ k, k < i → N 188 k = M 189 k) →
      mm_J X Y_X13_takeKite 243 243 243 36 [(2, 184), (0, (i : Int))] [] N Φ := by
    refine mm_lp ?_
    intro i hi ih N hRN f1 f2 f3 f4 f5
    have r189 : N 189 = M 189 := f1 189 (by decide) (by decide) (by decide)
    by_cases hlt : i < 3
    · refine mm_iload_n dX13_takeKite_36 rfl rfl ?_
      refine mm_iconst dX13_takeKite_37 rfl ?_
      refine mm_icge dX13_takeKite_38 (by omega) (by omega) (fun h38 => ?_) (fun h38 => ?_)
      · exfalso; omega
      · refine mm_aload_n dX13_takeKite_41 rfl rfl ?_
        refine mm_getr dX13_takeKite_42 rfl fl_X13_157 (c := 183) rfl (by decide) rfl rfl (hRN.at (c := 183) (i := 12) (v := 189) rfl (by decide)) ?_
        refine mm_iload_n dX13_takeKite_45 rfl rfl ?_
        refine mm_aload_n dX13_takeKite_46 rfl rfl ?_
        refine mm_getr dX13_takeKite_47 rfl fl_X13_85 (c := 183) rfl (by decide) rfl rfl (hRN.at (c := 183) (i := 13) (v := 190) rfl (by decide)) ?_
        refine mm_iload_n dX13_takeKite_50 rfl rfl ?_
        refine mm_ialk (k0 := i) dX13_takeKite_51 rfl (c := 189) rfl (by decide) rfl (by omega) (by omega) ?_
        rw [r189]
        refine mm_istk (k0 := i) dX13_takeKite_52 rfl (c := 188) rfl (by decide) rfl (by omega) (by omega) (fun M52 hM52 => ?_)
        have hR52 : mm_Rf M52 := by rw [hM52]; exact hRN.up (mm_rt_ar (t := 0) rfl (by decide))
        refine mm_iinc dX13_takeKite_53 rfl rfl (Nat.le_of_ble_eq_true rfl) rfl ?_
        refine mm_goto dX13_takeKite_56 ?_
        refine ih hlt _ hR52 ?_ ?_ ?_ ?_ ?_
        · intro a a1 a2 a3; rw [hM52, mm_up_row a3]; exact f1 a a1 a2 a3
        · intro b hb; rw [hM52, mm_up_row (by decide)]; exact f2 b hb
        · rw [hM52, mm_up_row (by decide)]; exact f3
        · intro k hk; rw [hM52, mm_up_row (by decide)]; exact f4 k hk
        · intro k hk
          by_cases q : k = i
          · rw [hM52, q, mm_up_s]
          · rw [hM52, mm_up_i q]; exact f5 k (by omega)
    · refine mm_iload_n dX13_takeKite_36 rfl rfl ?_
      refine mm_iconst dX13_takeKite_37 rfl ?_
      refine mm_icge dX13_takeKite_38 (by omega) (by omega) (fun h38 => ?_) (fun h38 => ?_)
      · refine mm_iconst dX13_takeKite_59 rfl ?_
        refine mm_istore_n dX13_takeKite_60 rfl (Nat.le_of_ble_eq_true rfl) rfl ?_
        exact l3 0 (Nat.zero_le _) N hRN (fun a a1 a2 a3 _ => f1 a a1 a2 a3) f2 f3 f4 (fun k hk => f5 k (by omega)) (fun k hk => absurd hk (Nat.not_lt_zero k))
      · exfalso; omega
  have l1 : ∀ i : Nat, i ≤ 10 → ∀ N : mm_M, mm_Rf N → (∀ a, a ≠ 186 → N a = M a) → (∀ k, k < i → N 186 k = M 187 k) →
      mm_J X Y_X13_takeKite 243 243 243 2 [(2, 184), (0, (i : Int))] [] N Φ := by
    refine mm_lp ?_
    intro i hi ih N hRN f1 f4
    have r187 : N 187 = M 187 := f1 187 (by decide)
    by_cases hlt : i < 10
    · refine mm_iload_n dX13_takeKite_2 rfl rfl ?_
      refine mm_bipush dX13_takeKite_3 rfl (by decide) ?_
      refine mm_icge dX13_takeKite_5 (by omega) (by omega) (fun h5 => ?_) (fun h5 => ?_)
      · exfalso; omega
      · refine mm_aload_n dX13_takeKite_8 rfl rfl ?_
        refine mm_getr dX13_takeKite_9 rfl fl_X13_151 (c := 183) rfl (by decide) rfl rfl (hRN.at (c := 183) (i := 10) (v := 187) rfl (by decide)) ?_
        refine mm_iload_n dX13_takeKite_12 rfl rfl ?_
        refine mm_aload_n dX13_takeKite_13 rfl rfl ?_
        refine mm_getr dX13_takeKite_14 rfl fl_X13_78 (c := 183) rfl (by decide) rfl rfl (hRN.at (c := 183) (i := 11) (v := 188) rfl (by decide)) ?_
        refine mm_iload_n dX13_takeKite_17 rfl rfl ?_
        refine mm_ialk (k0 := i) dX13_takeKite_18 rfl (c := 187) rfl (by decide) rfl (by omega) (by omega) ?_
        rw [r187]
        refine mm_istk (k0 := i) dX13_takeKite_19 rfl (c := 186) rfl (by decide) rfl (by omega) (by omega) (fun M19 hM19 => ?_)
        have hR19 : mm_Rf M19 := by rw [hM19]; exact hRN.up (mm_rt_ar (t := 0) rfl (by decide))
        refine mm_iinc dX13_takeKite_20 rfl rfl (Nat.le_of_ble_eq_true rfl) rfl ?_
        refine mm_goto dX13_takeKite_23 ?_
        refine ih hlt _ hR19 ?_ ?_
        · intro a a1; rw [hM19, mm_up_row a1]; exact f1 a a1
        · intro k hk
          by_cases q : k = i
          · rw [hM19, q, mm_up_s]
          · rw [hM19, mm_up_i q]; exact f4 k (by omega)
    · refine mm_iload_n dX13_takeKite_2 rfl rfl ?_
      refine mm_bipush dX13_takeKite_3 rfl (by decide) ?_
      refine mm_icge dX13_takeKite_5 (by omega) (by omega) (fun h5 => ?_) (fun h5 => ?_)
      · refine mm_aload_n dX13_takeKite_26 rfl rfl ?_
        refine mm_aload_n dX13_takeKite_27 rfl rfl ?_
        refine mm_get (kd := 0) dX13_takeKite_28 rfl fl_X13_88 (c := 183) rfl (by decide) rfl rfl ?_
        refine mm_puti dX13_takeKite_31 rfl fl_X13_154 (c := 183) rfl (by decide) rfl rfl (fun M31 hM31 => ?_)
        have hR31 : mm_Rf M31 := by rw [hM31]; exact hRN.up rfl
        refine mm_iconst dX13_takeKite_34 rfl ?_
        refine mm_istore_n dX13_takeKite_35 rfl (Nat.le_of_ble_eq_true rfl) rfl ?_
        refine l2 0 (Nat.zero_le _) _ hR31 ?_ ?_ ?_ ?_ (fun k hk => absurd hk (Nat.not_lt_zero k))
        · intro a a1 a2 a3; rw [hM31, mm_up_row a1]; exact f1 a a2
        · intro b hb; rw [hM31, mm_up_i hb, f1 183 (by decide)]
        · rw [hM31, mm_up_s, f1 183 (by decide)]
        · intro k hk; rw [hM31, mm_up_row (by decide)]; exact f4 k (by omega)
      · exfalso; omega
  refine mm_iconst dX13_takeKite_0 rfl ?_
  refine mm_istore_n dX13_takeKite_1 rfl (Nat.le_of_ble_eq_true rfl) rfl ?_
  exact l1 0 (Nat.zero_le _) M hR (fun _ _ => rfl) (fun k hk => absurd hk (Nat.not_lt_zero k))
end
end
/-! B0.rrules -/
section
/-! ===== the text of rules, of the reference ===== -/
def kr_A (a : Nat) : Prop := 193 ≤ a ∧ a ≤ 197
def kr_S (b : Nat) : Prop := b = 21
/-- only line l of what is read has changed -/
def kr_K (l : Nat) (N M' : mm_M) : Prop := (∀ b, ¬ (24 + 3 * l ≤ b ∧ b < 27 + 3 * l) → M' 193 b = N 193 b ∧ M' 194 b = N 194 b ∧ M' 195 b = N 195 b) ∧ (∀ b, b ≠ 8 + l → M' 196 b = N 196 b ∧ M' 197 b = N 197 b)
theorem kr_K.rf (l : Nat) (N : mm_M) : kr_K l N N := ⟨fun _ _ => ⟨rfl, rfl, rfl⟩, fun _ _ => ⟨rfl, rfl⟩⟩
theorem kr_K.tr {l : Nat} {M N P : mm_M} (h : kr_K l M N) (k : kr_K l N P) : kr_K l M P :=
  ⟨fun b hb => ⟨(k.1 b hb).1.trans (h.1 b hb).1, (k.1 b hb).2.1.trans (h.1 b hb).2.1, (k.1 b hb).2.2.trans (h.1 b hb).2.2⟩, fun b hb => ⟨(k.2 b hb).1.trans (h.2 b hb).1, (k.2 b hb).2.trans (h.2 b hb).2⟩⟩
theorem kr_K.fr {l : Nat} {M N P : mm_M} (h : kr_K l M N) (k : ∀ a, a ≠ 183 → P a = N a) : kr_K l M P := by
  unfold kr_K at h ⊢
  rw [k 193 (by decide), k 194 (by decide), k 195 (by decide), k 196 (by decide), k 197 (by decide)]
  exact h
theorem kr_K.up {l : Nat} {M N : mm_M} {t i : Nat} {v : Int} (h : kr_K l M N) (ht : ((t = 193 ∨ t = 194 ∨ t = 195) ∧ 24 + 3 * l ≤ i ∧ i < 27 + 3 * l) ∨ ((t = 196 ∨ t = 197) ∧ i = 8 + l)) : kr_K l M (mm_up N t i v) := by
  refine ⟨fun b hb => ?_, fun b hb => ?_⟩
  · rw [mm_up_n (by omega), mm_up_n (by omega), mm_up_n (by omega)]; exact h.1 b hb
  · rw [mm_up_n (by omega), mm_up_n (by omega)]; exact h.2 b hb
theorem kr_S37 : ∀ b, 3 ≤ b → b ≤ 7 → ¬ kr_S b := by intro b b1 b2; unfold kr_S; omega
theorem kr_A185 : ¬ kr_A 185 := by unfold kr_A; omega
theorem kl_set_s {D : Nat → Int} {a : Nat} {v : Int} : kl_set D a v a = v := if_pos rfl
theorem kl_set_n {D : Nat → Int} {a i : Nat} {v : Int} (h : i ≠ a) : kl_set D a v i = D i := if_neg h
section
variable {X : mm_X} {M N : mm_M} {n p l j : Nat}
theorem kr_up {t i : Nat} {v : Int} (h : kq_I kr_A kr_S M N n p) (ht : 193 ≤ t ∧ t ≤ 197) (hs : mm_rt t i = 0) : kq_I kr_A kr_S M (mm_up N t i v) n p :=
  h.up ht (by omega) kr_A185 kr_S37 hs (fun z => by omega)
theorem c_X13_readCond (hl : l < 8) (hj : j < 3) (hI : kq_I kr_A kr_S M N n p) (h6 : N 196 (8 + l) = (j : Int)) (D : Nat → Int) : mm_C X Y_X13_readCond 243 243 [(2, 184), (0, 8 + (l : Int))] N (fun r M' =>
    (r = (4, 185) ∧ mm_Rf M' ∧ ∃ k s, kl_cond (M 185) n (11 * l + 1 + 3 * j) p D = .error (k, s) ∧ kq_X kr_A kr_S M M' k s ∧ kr_K l N M') ∨
    (r = (3, 0) ∧ mm_Rf M' ∧ ∃ p' D', kl_cond (M 185) n (11 * l + 1 + 3 * j) p D = .ok (p', D') ∧ kq_I kr_A kr_S M M' n p' ∧ kr_K l N M' ∧ M' 196 (8 + l) = (j : Int) + 1 ∧ (∀ i, i < j → M' 193 (24 + 3 * l + i) = N 193 (24 + 3 * l + i) ∧ M' 194 (24 + 3 * l + i) = N 194 (24 + 3 * l + i) ∧ M' 195 (24 + 3 * l + i) = N 195 (24 + 3 * l + i)) ∧
      M' 193 (24 + 3 * l + j) = D' (11 * l + 1 + 3 * j) ∧ M' 194 (24 + 3 * l + j) = D' (11 * l + 1 + 3 * j + 1) ∧ M' 195 (24 + 3 * l + j) = D' (11 * l + 1 + 3 * j + 2) ∧ (∀ i, ¬ (11 * l + 1 + 3 * j ≤ i ∧ i < 11 * l + 4 + 3 * j) → D' i = D i) ∧ (∀ b, ¬ (4 ≤ b ∧ b ≤ 7) → M' 183 b = N 183 b))) := by
  obtain ⟨E, hE⟩ : ∃ E, E = kl_cond (M 185) n (11 * l + 1 + 3 * j) p D := ⟨_, rfl⟩
  have hL := hE.symm
  rw [← hE]
  obtain ⟨Φ, hΦ⟩ : ∃ Φ : mm_V → mm_M → Prop, Φ = (fun r M' =>
    (r = (4, 185) ∧ mm_Rf M' ∧ ∃ k s, E = .error (k, s) ∧ kq_X kr_A kr_S M M' k s ∧ kr_K l N M') ∨
    (r = (3, 0) ∧ mm_Rf M' ∧ ∃ p' D', E = .ok (p', D') ∧ kq_I kr_A kr_S M M' n p' ∧ kr_K l N M' ∧ M' 196 (8 + l) = (j : Int) + 1 ∧ (∀ i, i < j → M' 193 (24 + 3 * l + i) = N 193 (24 + 3 * l + i) ∧ M' 194 (24 + 3 * l + i) = N 194 (24 + 3 * l + i) ∧ M' 195 (24 + 3 * l + i) = N 195 (24 + 3 * l + i)) ∧
      M' 193 (24 + 3 * l + j) = D' (11 * l + 1 + 3 * j) ∧ M' 194 (24 + 3 * l + j) = D' (11 * l + 1 + 3 * j + 1) ∧ M' 195 (24 + 3 * l + j) = D' (11 * l + 1 + 3 * j + 2) ∧ (∀ i, ¬ (11 * l + 1 + 3 * j ≤ i ∧ i < 11 * l + 4 + 3 * j) → D' i = D i) ∧ (∀ b, ¬ (4 ≤ b ∧ b ≤ 7) → M' 183 b = N 183 b))) := ⟨_, rfl⟩
  rw [← hΦ]
  have thr : ∀ (k : Int) (s : Nat) (T : mm_M), E = .error (k, s) → mm_Rf T → kq_X kr_A kr_S M T k s → kr_K l N T → Φ (4, 185) T := by
    intro k s T h1 h2 h3 h4
    rw [hΦ]
    exact Or.inl ⟨rfl, h2, k, s, h1, h3, h4⟩
  have hRN := hI.1
  have hpn := hI.2.2.2.2.1
  have ca := c_X13_condAtHand (X := X) hI.1 hI.2.2.2.1 hpn hI.2.2.2.2.2
  rw [hI.tp] at ca
  unfold kl_cond at hL
  have hb1 := kl_nmb (B := M 185) (n := n) (p := p)
  have hb1' := (kp_nmk (B := M 185) (n := n) (p := p) (k0 := 2)).1
  have hb2 := kl_nmb (B := M 185) (n := n) (p := kt_e (M 185) n p)
  have hb2' := (kp_nmk (B := M 185) (n := n) (p := kt_e (M 185) n p) (k0 := 3)).1
  have hvb := kt_vb (B := M 185) (n := n) (p := kt_e (M 185) n (kt_e (M 185) n p))
  refine mm_start (ls := [(2, 184), (0, 8 + (l : Int)), (9, 0), (9, 0), (9, 0)]) rfl ?_
  -- behind the word that says how
  have how : ∀ T : mm_M, ¬ (kp_nm (M 185) n p 2 < 0) → kq_I kr_A kr_S M T n (kt_e (M 185) n p) → (∀ a, a ≠ 183 → T a = N a) → (∀ b, ¬ (4 ≤ b ∧ b ≤ 7) → T 183 b = N 183 b) →
      mm_J X Y_X13_readCond 243 243 243 64 [(2, 184), (0, 8 + (l : Int)), (0, kp_nm (M 185) n p 2), (9, 0), (9, 0)] [(0, kp_nm (M 185) n (kt_e (M 185) n p) 3)] T Φ := by
    intro T hn2 hT v1 v2
    have hRT := hT.1
    have hKT : kr_K l N T := (kr_K.rf l N).fr v1
    rw [if_neg hn2] at hL
    refine mm_istore_n dX13_readCond_64 rfl (Nat.le_of_ble_eq_true rfl) rfl ?_
    refine mm_aload_n dX13_readCond_65 rfl rfl ?_
    refine mm_iload_n dX13_readCond_66 rfl rfl ?_
    refine mm_iconst dX13_readCond_67 rfl ?_
    refine mm_iceq_z (q2 := 76) dX13_readCond_68 (by omega) (by omega) (fun k => mm_iconst dX13_readCond_75 rfl k) (fun k => mm_iconst dX13_readCond_71 rfl (mm_goto dX13_readCond_72 k)) ?_
    refine mm_iconst dX13_readCond_76 rfl ?_
    refine mm_V2g (M1 := T) dX13_readCond_77 rfl lk_X13_63 (c := 183) rfl (by decide) rfl (by simp) (by simp) rfl rfl rfl (kq_need hT) ?_
    rintro _ N77 (⟨rfl, p77⟩ | ⟨rfl, p77⟩)
    · refine ⟨rfl, rfl, ?_⟩
      rw [if_pos (by have := p77.2.1; omega)] at hL
      exact thr _ _ _ hL.symm p77.1 p77.2.2.1 (hKT.fr p77.2.2.2)
    change mm_J _ _ _ _ _ _ _ _ _ _
    have hR77 : mm_Rf N77 := p77.1
    obtain ⟨-, hne, eN⟩ := p77
    rw [eN]
    rw [if_neg (by omega)] at hL
    refine mm_aload_n dX13_readCond_80 rfl rfl ?_
    refine mm_V0g (M1 := T) dX13_readCond_81 rfl lk_X13_71 (c := 183) rfl (by decide) rfl  rfl rfl rfl (kq_sc hT) ?_
    rintro _ N81 ⟨rfl, p81⟩
    change mm_J _ _ _ _ _ _ _ _ _ _
    have hR81 : mm_Rf N81 := p81.1
    obtain ⟨-, hI8, u1, u2⟩ := p81
    have c6 : N81 196 (8 + l) = (j : Int) := by rw [u1 196 (by decide), v1 196 (by decide)]; exact h6
    refine mm_iconst dX13_readCond_84 rfl ?_
    refine mm_iload_n dX13_readCond_85 rfl rfl ?_
    refine mm_imul dX13_readCond_86 rfl ?_
    refine mm_aload_n dX13_readCond_87 rfl rfl ?_
    refine mm_getr dX13_readCond_88 rfl fl_X13_182 (c := 183) rfl (by decide) rfl rfl (hR81.at (c := 183) (i := 25) (v := 197) rfl (by decide)) ?_
    refine mm_iload_n dX13_readCond_91 rfl rfl ?_
    refine mm_ialk (k0 := (8 + l)) dX13_readCond_92 rfl (c := 196) rfl (by decide) rfl (by omega) (by omega) ?_
    rw [c6]
    refine mm_iadd dX13_readCond_93 rfl ?_
    refine mm_istore dX13_readCond_94 rfl (Nat.le_of_ble_eq_true rfl) rfl ?_
    refine mm_aload_n dX13_readCond_96 rfl rfl ?_
    refine mm_getr dX13_readCond_97 rfl fl_X13_185 (c := 183) rfl (by decide) rfl rfl (hR81.at (c := 183) (i := 22) (v := 194) rfl (by decide)) ?_
    refine mm_iload dX13_readCond_100 rfl rfl ?_
    refine mm_iload_n dX13_readCond_102 rfl rfl ?_
    refine mm_istk (k0 := (24 + 3 * l + j)) dX13_readCond_103 rfl (c := 193) rfl (by decide) rfl (by omega) (by omega) (fun M103 hM103 => ?_)
    have hR103 : mm_Rf M103 := by rw [hM103]; exact hR81.up (mm_rt_ar (t := 0) rfl (by decide))
    refine mm_aload_n dX13_readCond_104 rfl rfl ?_
    refine mm_getr dX13_readCond_105 rfl fl_X13_188 (c := 183) rfl (by decide) rfl rfl (hR103.at (c := 183) (i := 23) (v := 195) rfl (by decide)) ?_
    refine mm_iload dX13_readCond_108 rfl rfl ?_
    refine mm_iload_n dX13_readCond_110 rfl rfl ?_
    refine mm_istk (k0 := (24 + 3 * l + j)) dX13_readCond_111 rfl (c := 194) rfl (by decide) rfl (by omega) (by omega) (fun M111 hM111 => ?_)
    have hR111 : mm_Rf M111 := by rw [hM111]; exact hR103.up (mm_rt_ar (t := 0) rfl (by decide))
    have hK8 : kr_K l N N81 := hKT.fr u1
    have hI9 : kq_I kr_A kr_S M M111 n (kt_e (M 185) n (kt_e (M 185) n p)) := by rw [hM111, hM103]; exact kr_up (kr_up hI8 (by omega) (mm_rt_ar (t := 0) rfl (by decide))) (by omega) (mm_rt_ar (t := 0) rfl (by decide))
    have hK9 : kr_K l N M111 := by rw [hM111, hM103]; exact (hK8.up (by omega)).up (by omega)
    refine mm_aload_n dX13_readCond_112 rfl rfl ?_
    refine mm_getr dX13_readCond_113 rfl fl_X13_191 (c := 183) rfl (by decide) rfl rfl (hR111.at (c := 183) (i := 24) (v := 196) rfl (by decide)) ?_
    refine mm_iload dX13_readCond_116 rfl rfl ?_
    refine mm_aload_n dX13_readCond_118 rfl rfl ?_
    refine mm_iconst dX13_readCond_119 rfl ?_
    refine mm_ldc dX13_readCond_120 rfl kc_X13_194 ?_
    refine mm_V2g (M1 := M111) dX13_readCond_122 rfl lk_X13_145 (c := 183) rfl (by decide) rfl (by simp) (by simp) rfl rfl rfl (kq_num hI9 (by omega) (by omega)) ?_
    rintro _ N122 (⟨rfl, p122⟩ | ⟨x122, rfl, p122⟩)
    · refine ⟨rfl, rfl, ?_⟩
      obtain ⟨r1, r2, r3, r4⟩ := p122
      by_cases q : kt_k (M 185) n (kt_e (M 185) n (kt_e (M 185) n p)) = 2
      · exact absurd ⟨q, hvb⟩ r2
      · rw [if_pos q] at hL
        rw [if_neg q] at r3
        exact thr _ _ _ hL.symm r1 r3 (hK9.fr r4)
    change mm_J _ _ _ _ _ _ _ _ _ _
    have hR122 : mm_Rf N122 := p122.1
    obtain ⟨-, r2, r3, hI7, w1, w2⟩ := p122
    rw [if_neg (fun z => z r2.1)] at hL
    refine mm_istk (k0 := (24 + 3 * l + j)) dX13_readCond_125 rfl (c := 195) rfl (by decide) rfl (by omega) (by omega) (fun M125 hM125 => ?_)
    have hR125 : mm_Rf M125 := by rw [hM125]; exact hR122.up (mm_rt_ar (t := 0) rfl (by decide))
    refine mm_aload_n dX13_readCond_126 rfl rfl ?_
    refine mm_getr dX13_readCond_127 rfl fl_X13_182 (c := 183) rfl (by decide) rfl rfl (hR125.at (c := 183) (i := 25) (v := 197) rfl (by decide)) ?_
    refine mm_iload_n dX13_readCond_130 rfl rfl ?_
    refine mm_dup2 dX13_readCond_131 rfl (by simp) (by simp) ?_
    refine mm_ialk (k0 := (8 + l)) dX13_readCond_132 rfl (c := 196) rfl (by decide) rfl (by omega) (by omega) ?_
    rw [show M125 196 = N122 196 from by rw [hM125, mm_up_row (by decide)]]
    rw [show N122 196 (8 + l) = (j : Int) by rw [w1 196 (by decide), hM111, mm_up_row (by decide), hM103, mm_up_row (by decide)]; exact c6]
    refine mm_iconst dX13_readCond_133 rfl ?_
    refine mm_iadd dX13_readCond_134 rfl ?_
    refine mm_istk (k0 := (8 + l)) dX13_readCond_135 rfl (c := 196) rfl (by decide) rfl (by omega) (by omega) (fun M135 hM135 => ?_)
    have hR135 : mm_Rf M135 := by rw [hM135]; exact hR125.up (mm_rt_ar (t := 0) rfl (by decide))
    refine mm_vret dX13_readCond_136 rfl rfl ?_
    rw [hΦ]
    refine Or.inr ⟨rfl, hR135, _, _, hL.symm, ?_, ?_, ?_, ?_, ?_, ?_, ?_, ?_, ?_⟩
    · rw [hM135, hM125]; exact kr_up (kr_up hI7 (by omega) (mm_rt_ar (t := 0) rfl (by decide))) (by omega) (mm_rt_ar (t := 0) rfl (by decide))
    · rw [hM135, hM125]; exact ((hK9.fr w1).up (by omega)).up (by omega)
    · rw [hM135, mm_up_s]
    · intro i hi
      rw [hM135, mm_up_row (by decide), mm_up_row (by decide), mm_up_row (by decide), hM125, mm_up_row (by decide), mm_up_row (by decide), mm_up_i (by omega), w1 193 (by decide), w1 194 (by decide), w1 195 (by decide), hM111, mm_up_row (by decide), mm_up_i (by omega), mm_up_row (by decide), hM103, mm_up_i (by omega), mm_up_row (by decide), mm_up_row (by decide), u1 193 (by decide), u1 194 (by decide), u1 195 (by decide), v1 193 (by decide), v1 194 (by decide), v1 195 (by decide)]
      exact ⟨rfl, rfl, rfl⟩
    · rw [hM135, mm_up_row (by decide), hM125, mm_up_row (by decide), w1 193 (by decide), hM111, mm_up_row (by decide), hM103, mm_up_s, kl_set_n (by omega), kl_set_n (by omega), kl_set_s]
    · rw [hM135, mm_up_row (by decide), hM125, mm_up_row (by decide), w1 194 (by decide), hM111, mm_up_s, kl_set_n (by omega), kl_set_s]
    · rw [hM135, mm_up_row (by decide), hM125, mm_up_s, r3, kl_set_s]
    · intro i hi; rw [kl_set_n (by omega), kl_set_n (by omega), kl_set_n (by omega)]
    · intro b hb; rw [hM135, mm_up_row (by decide), hM125, mm_up_row (by decide), w2 b hb, hM111, mm_up_row (by decide), hM103, mm_up_row (by decide), u2 b hb]; exact v2 b hb
  refine mm_aload_n dX13_readCond_0 rfl rfl ?_
  refine mm_V0i dX13_readCond_1 rfl lk_X13_174 (c := 183) rfl (by decide) rfl  rfl rfl rfl (ca) ?_
  refine mm_istore_n dX13_readCond_4 rfl (Nat.le_of_ble_eq_true rfl) rfl ?_
  refine mm_aload_n dX13_readCond_5 rfl rfl ?_
  refine mm_iload_n dX13_readCond_6 rfl rfl ?_
  refine mm_iconst dX13_readCond_7 rfl ?_
  refine mm_iceq_z (q2 := 16) dX13_readCond_8 (by omega) (by omega) (fun k => mm_iconst dX13_readCond_15 rfl k) (fun k => mm_iconst dX13_readCond_11 rfl (mm_goto dX13_readCond_12 k)) ?_
  refine mm_iconst dX13_readCond_16 rfl ?_
  refine mm_V2g (M1 := N) dX13_readCond_17 rfl lk_X13_63 (c := 183) rfl (by decide) rfl (by simp) (by simp) rfl rfl rfl (kq_need hI) ?_
  rintro _ N17 (⟨rfl, p17⟩ | ⟨rfl, p17⟩)
  · refine ⟨rfl, rfl, ?_⟩
    rw [if_pos (by have := p17.2.1; omega)] at hL
    exact thr _ _ _ hL.symm p17.1 p17.2.2.1 ((kr_K.rf l N).fr p17.2.2.2)
  change mm_J _ _ _ _ _ _ _ _ _ _
  have hR17 : mm_Rf N17 := p17.1
  obtain ⟨-, hne, eN⟩ := p17
  rw [eN]
  refine mm_aload_n dX13_readCond_20 rfl rfl ?_
  refine mm_V0g (M1 := N) dX13_readCond_21 rfl lk_X13_71 (c := 183) rfl (by decide) rfl  rfl rfl rfl (kq_sc hI) ?_
  rintro _ N21 ⟨rfl, p21⟩
  change mm_J _ _ _ _ _ _ _ _ _ _
  have hR21 : mm_Rf N21 := p21.1
  obtain ⟨-, hI8, u1, u2⟩ := p21
  have goH := how N21 (by omega) hI8 u1 u2
  rw [kp_nm3] at goH
  simp only [kt_fi] at goH
  refine mm_aload_n dX13_readCond_24 rfl rfl ?_
  refine mm_lds (k0 := 24) dX13_readCond_25 rfl (by decide) rfl rfl ?_
  refine mm_V1i dX13_readCond_27 rfl lk_X13_103 (c := 183) rfl (by decide) rfl (by simp) rfl rfl rfl (kq_is hI8 (by decide)) ?_
  refine mm_ifeqb dX13_readCond_30 (fun h30 => ?_) (fun h30 => ?_)
  · refine mm_aload_n dX13_readCond_37 rfl rfl ?_
    refine mm_lds (k0 := 25) dX13_readCond_38 rfl (by decide) rfl rfl ?_
    refine mm_V1i dX13_readCond_40 rfl lk_X13_103 (c := 183) rfl (by decide) rfl (by simp) rfl rfl rfl (kq_is hI8 (by decide)) ?_
    refine mm_ifeqb dX13_readCond_43 (fun h43 => ?_) (fun h43 => ?_)
    · refine mm_aload_n dX13_readCond_50 rfl rfl ?_
      refine mm_lds (k0 := 26) dX13_readCond_51 rfl (by decide) rfl rfl ?_
      refine mm_V1i dX13_readCond_53 rfl lk_X13_103 (c := 183) rfl (by decide) rfl (by simp) rfl rfl rfl (kq_is hI8 (by decide)) ?_
      refine mm_ifeqb dX13_readCond_56 (fun h56 => ?_) (fun h56 => ?_)
      · refine mm_iconst dX13_readCond_63 rfl ?_
        first
        | (rw [if_pos h30] at goH; exact goH)
        | (rw [if_neg h30, if_pos h43] at goH; exact goH)
        | (rw [if_neg h30, if_neg h43, if_pos h56] at goH; exact goH)
        | (rw [if_neg h30, if_neg h43, if_neg h56] at goH; exact goH)
      · refine mm_iconst dX13_readCond_59 rfl ?_
        refine mm_goto dX13_readCond_60 ?_
        first
        | (rw [if_pos h30] at goH; exact goH)
        | (rw [if_neg h30, if_pos h43] at goH; exact goH)
        | (rw [if_neg h30, if_neg h43, if_pos h56] at goH; exact goH)
        | (rw [if_neg h30, if_neg h43, if_neg h56] at goH; exact goH)
    · refine mm_iconst dX13_readCond_46 rfl ?_
      refine mm_goto dX13_readCond_47 ?_
      first
      | (rw [if_pos h30] at goH; exact goH)
      | (rw [if_neg h30, if_pos h43] at goH; exact goH)
      | (rw [if_neg h30, if_neg h43, if_pos h56] at goH; exact goH)
      | (rw [if_neg h30, if_neg h43, if_neg h56] at goH; exact goH)
  · refine mm_iconst dX13_readCond_33 rfl ?_
    refine mm_goto dX13_readCond_34 ?_
    first
    | (rw [if_pos h30] at goH; exact goH)
    | (rw [if_neg h30, if_pos h43] at goH; exact goH)
    | (rw [if_neg h30, if_neg h43, if_pos h56] at goH; exact goH)
    | (rw [if_neg h30, if_neg h43, if_neg h56] at goH; exact goH)
end
end
/-! B1.rrules2 -/
section
/-! ===== a line of rules, of the reference ===== -/
def kl_rest (B : Nat → Int) (n b k j p : Nat) (D : Nat → Int) : kp_E :=
  if kp_nm B n p 4 < 0 then .error (1, kt_s B n p) else if kp_nm B n p 4 = 1 then .ok (kt_e B n p, D) else if k = 0 then .error (4, kt_s B n p) else kl_conds B n b k j (kt_e B n p) D
theorem kl_conds_rest {B : Nat → Int} {n b k j p : Nat} {D : Nat → Int} : kl_conds B n b (k + 1) j p D = match kl_cond B n (b + 1 + 3 * j) p D with
    | .error f => .error f
    | .ok (p1, D1) => kl_rest B n b k (j + 1) p1 (kl_set D1 b ((j : Int) + 1)) := rfl
def kr_U (c : Nat) (N M' : mm_M) : Prop := (∀ b, b < 24 + 3 * c → M' 193 b = N 193 b ∧ M' 194 b = N 194 b ∧ M' 195 b = N 195 b) ∧ (∀ b, b < 8 + c → M' 196 b = N 196 b ∧ M' 197 b = N 197 b)
theorem kr_K.u {c : Nat} {N M' : mm_M} (h : kr_K c N M') : kr_U c N M' := ⟨fun b hb => h.1 b (by omega), fun b hb => h.2 b (by omega)⟩
/-- line l is read as D tells it -/
def kr_L (N : mm_M) (D : Nat → Int) (l : Nat) : Prop := N 196 (8 + l) = D (11 * l) ∧ (1 ≤ D (11 * l) ∧ D (11 * l) ≤ 3) ∧ (∀ i : Nat, (i : Int) < D (11 * l) → N 193 (24 + 3 * l + i) = D (11 * l + 1 + 3 * i) ∧ N 194 (24 + 3 * l + i) = D (11 * l + 1 + 3 * i + 1) ∧ N 195 (24 + 3 * l + i) = D (11 * l + 1 + 3 * i + 2)) ∧ N 197 (8 + l) = D (11 * l + 10)
def kr_J (M N T : mm_M) (n c : Nat) (D D1 : Nat → Int) (j p : Nat) : Prop := kq_I kr_A kr_S M T n p ∧ kr_K c N T ∧ T 196 (8 + c) = (j : Int) ∧ (∀ i, i < j → T 193 (24 + 3 * c + i) = D1 (11 * c + 1 + 3 * i) ∧ T 194 (24 + 3 * c + i) = D1 (11 * c + 1 + 3 * i + 1) ∧ T 195 (24 + 3 * c + i) = D1 (11 * c + 1 + 3 * i + 2)) ∧ (∀ i, i < 11 * c → D1 i = D i) ∧ (∀ b, ¬ (4 ≤ b ∧ b ≤ 7) → T 183 b = N 183 b)
theorem kr_J.sc {M N T T' : mm_M} {n c j p p' : Nat} {D D1 : Nat → Int} (h : kr_J M N T n c D D1 j p) (hI : kq_I kr_A kr_S M T' n p') (u1 : ∀ a, a ≠ 183 → T' a = T a) (u2 : ∀ b, ¬ (4 ≤ b ∧ b ≤ 7) → T' 183 b = T 183 b) : kr_J M N T' n c D D1 j p' := by
  obtain ⟨h1, h2, h3, h4, h5, h6⟩ := h
  refine ⟨hI, h2.fr u1, by rw [u1 196 (by decide)]; exact h3, ?_, h5, fun b hb => (u2 b hb).trans (h6 b hb)⟩
  intro i hi
  rw [u1 193 (by decide), u1 194 (by decide), u1 195 (by decide)]
  exact h4 i hi
theorem kr_J.cond {M N T T' : mm_M} {n c j p p' : Nat} {D D1 D' : Nat → Int} (h : kr_J M N T n c D D1 j p) (hI : kq_I kr_A kr_S M T' n p') (hK : kr_K c T T') (h6 : T' 196 (8 + c) = (j : Int) + 1)
    (ho : ∀ i, i < j → T' 193 (24 + 3 * c + i) = T 193 (24 + 3 * c + i) ∧ T' 194 (24 + 3 * c + i) = T 194 (24 + 3 * c + i) ∧ T' 195 (24 + 3 * c + i) = T 195 (24 + 3 * c + i))
    (e1 : T' 193 (24 + 3 * c + j) = D' (11 * c + 1 + 3 * j)) (e2 : T' 194 (24 + 3 * c + j) = D' (11 * c + 1 + 3 * j + 1)) (e3 : T' 195 (24 + 3 * c + j) = D' (11 * c + 1 + 3 * j + 2)) (hD : ∀ i, ¬ (11 * c + 1 + 3 * j ≤ i ∧ i < 11 * c + 4 + 3 * j) → D' i = D1 i) (u2 : ∀ b, ¬ (4 ≤ b ∧ b ≤ 7) → T' 183 b = T 183 b) :
    kr_J M N T' n c D (kl_set D' (11 * c) ((j : Int) + 1)) (j + 1) p' := by
  obtain ⟨h1, h2, h3, h4, h5, h7⟩ := h
  refine ⟨hI, h2.tr hK, by rw [h6]; rfl, ?_, ?_, fun b hb => (u2 b hb).trans (h7 b hb)⟩
  · intro i hi
    rw [kl_set_n (by omega), kl_set_n (by omega), kl_set_n (by omega)]
    by_cases q : i = j
    · rw [q]; exact ⟨e1, e2, e3⟩
    · obtain ⟨o1, o2, o3⟩ := ho i (by omega)
      obtain ⟨g1, g2, g3⟩ := h4 i (by omega)
      rw [o1, o2, o3, hD _ (by omega), hD _ (by omega), hD _ (by omega)]
      exact ⟨g1, g2, g3⟩
  · intro i hi
    rw [kl_set_n (by omega), hD i (by omega)]
    exact h5 i hi
section
variable {X : mm_X} {M N : mm_M} {n p c : Nat}
theorem c_X13_readLine {sl : Int} (hc : c ≤ 8) (hI : kq_I kr_A kr_S M N n p) (h21 : N 183 21 = (c : Int)) (hsl : N 183 16 = sl ∧ 1 ≤ sl ∧ sl ≤ 3) (D : Nat → Int) : mm_C X Y_X13_readLine 243 243 [(2, 184)] N (fun r M' =>
    (r = (4, 185) ∧ mm_Rf M' ∧ ∃ k s, kl_line (M 185) n sl c p D = .error (k, s) ∧ kq_X kr_A kr_S M M' k s ∧ kr_U c N M') ∨
    (r = (3, 0) ∧ mm_Rf M' ∧ ∃ p' D', kl_line (M 185) n sl c p D = .ok (p', D') ∧ kq_I kr_A kr_S M M' n p' ∧ kr_U c N M' ∧ kr_L M' D' c ∧ (∀ i, i < 11 * c → D' i = D i) ∧ M' 183 21 = (c : Int) + 1 ∧ (∀ b, ¬ (4 ≤ b ∧ b ≤ 7) → b ≠ 21 → M' 183 b = N 183 b))) := by
  obtain ⟨E, hE⟩ : ∃ E, E = kl_line (M 185) n sl c p D := ⟨_, rfl⟩
  have hL := hE.symm
  rw [← hE]
  obtain ⟨Φ, hΦ⟩ : ∃ Φ : mm_V → mm_M → Prop, Φ = (fun r M' =>
    (r = (4, 185) ∧ mm_Rf M' ∧ ∃ k s, E = .error (k, s) ∧ kq_X kr_A kr_S M M' k s ∧ kr_U c N M') ∨
    (r = (3, 0) ∧ mm_Rf M' ∧ ∃ p' D', E = .ok (p', D') ∧ kq_I kr_A kr_S M M' n p' ∧ kr_U c N M' ∧ kr_L M' D' c ∧ (∀ i, i < 11 * c → D' i = D i) ∧ M' 183 21 = (c : Int) + 1 ∧ (∀ b, ¬ (4 ≤ b ∧ b ≤ 7) → b ≠ 21 → M' 183 b = N 183 b))) := ⟨_, rfl⟩
  rw [← hΦ]
  have thr : ∀ (k : Int) (s : Nat) (T : mm_M), E = .error (k, s) → mm_Rf T → kq_X kr_A kr_S M T k s → kr_U c N T → Φ (4, 185) T := by
    intro k s T h1 h2 h3 h4
    rw [hΦ]
    exact Or.inl ⟨rfl, h2, k, s, h1, h3, h4⟩
  have hRN := hI.1
  unfold kl_line at hL
  have hb1 := kl_nmb (B := M 185) (n := n) (p := p)
  have nm1 : kp_nm (M 185) n p 1 = if kt_iw (M 185) n p 19 then 0 else -1 := by rw [kp_nm1]; rfl
  refine mm_start (ls := [(2, 184), (9, 0), (9, 0), (9, 0), (9, 0)]) rfl ?_
  -- from `do` on
  have act : ∀ (T : mm_M) (j p1 : Nat) (D1 : Nat → Int), c < 8 → 1 ≤ j → j ≤ 3 → kr_J M N T n c D D1 j p1 → D1 (11 * c) = (j : Int) → ¬ kt_iw (M 185) n p1 27 → (kt_iw (M 185) n p1 28 → kl_act (M 185) n sl (11 * c) (kt_e (M 185) n p1) D1 = E) → (¬ kt_iw (M 185) n p1 28 → E = .error (1, kt_s (M 185) n p1)) →
      mm_J X Y_X13_readLine 243 243 243 95 [(2, 184), (0, 8 + (c : Int)), (9, 0), (9, 0), (9, 0)] [] T Φ := by
    intro T j p1 D1 hc8 j1 j3 hJ hD1 hnand hdo hndo
    have hT := hJ.1
    have hRT := hT.1
    refine mm_aload_n dX13_readLine_95 rfl rfl ?_
    refine mm_aload_n dX13_readLine_96 rfl rfl ?_
    refine mm_lds (k0 := 28) dX13_readLine_97 rfl (by decide) rfl rfl ?_
    refine mm_V1i dX13_readLine_99 rfl lk_X13_103 (c := 183) rfl (by decide) rfl (by simp) rfl rfl rfl (kq_is hT (by decide)) ?_
    refine mm_iconst dX13_readLine_102 rfl ?_
    refine mm_V2g (M1 := T) dX13_readLine_103 rfl lk_X13_63 (c := 183) rfl (by decide) rfl (by simp) (by simp) rfl rfl rfl (kq_need hT) ?_
    rintro _ N103 (⟨rfl, p103⟩ | ⟨rfl, p103⟩)
    · refine ⟨rfl, rfl, ?_⟩
      exact thr _ _ _ (hndo p103.2.1) p103.1 p103.2.2.1 (hJ.2.1.fr p103.2.2.2).u
    change mm_J _ _ _ _ _ _ _ _ _ _
    have hR103 : mm_Rf N103 := p103.1
    obtain ⟨-, hdd, eN⟩ := p103
    rw [eN]
    have hL := hdo hdd
    unfold kl_act at hL
    have hvb := kt_vb (B := M 185) (n := n) (p := kt_e (M 185) n p1)
    have hb5 := kl_nmb (B := M 185) (n := n) (p := kt_e (M 185) n (kt_e (M 185) n p1))
    have hb5' := (kp_nmk (B := M 185) (n := n) (p := kt_e (M 185) n (kt_e (M 185) n p1)) (k0 := 5)).1
    have hb6 := kl_nmb (B := M 185) (n := n) (p := kt_e (M 185) n (kt_e (M 185) n (kt_e (M 185) n p1)))
    have hb6' := (kp_nmk (B := M 185) (n := n) (p := kt_e (M 185) n (kt_e (M 185) n (kt_e (M 185) n p1))) (k0 := 6)).1
    refine mm_aload_n dX13_readLine_106 rfl rfl ?_
    refine mm_V0g (M1 := T) dX13_readLine_107 rfl lk_X13_71 (c := 183) rfl (by decide) rfl  rfl rfl rfl (kq_sc hT) ?_
    rintro _ N107 ⟨rfl, p107⟩
    change mm_J _ _ _ _ _ _ _ _ _ _
    have hR107 : mm_Rf N107 := p107.1
    obtain ⟨-, hI1, u1, u2⟩ := p107
    have hJ1 := hJ.sc hI1 u1 u2
    have s16 : N107 183 16 = sl := by rw [hJ1.2.2.2.2.2 16 (by decide)]; exact hsl.1
    refine mm_bipush dX13_readLine_110 rfl (by decide) ?_
    refine mm_aload_n dX13_readLine_112 rfl rfl ?_
    refine mm_iconst dX13_readLine_113 rfl ?_
    refine mm_aload_n dX13_readLine_114 rfl rfl ?_
    refine mm_get (kd := 0) dX13_readLine_115 rfl fl_X13_154 (c := 183) rfl (by decide) rfl rfl ?_
    obtain ⟨v115, hv115⟩ : ∃ v, v = N107 183 16 := ⟨_, rfl⟩
    rw [← hv115]
    rw [s16] at hv115
    subst hv115
    refine mm_iconst dX13_readLine_118 rfl ?_
    refine mm_isub dX13_readLine_119 rfl ?_
    refine mm_V2g (M1 := N107) dX13_readLine_120 rfl lk_X13_145 (c := 183) rfl (by decide) rfl (by simp) (by simp) rfl rfl rfl (kq_num hI1 (by omega) (by omega)) ?_
    rintro _ N120 (⟨rfl, p120⟩ | ⟨x120, rfl, p120⟩)
    · refine ⟨rfl, rfl, ?_⟩
      obtain ⟨r1, r2, r3, r4⟩ := p120
      by_cases q : kt_k (M 185) n (kt_e (M 185) n p1) = 2
      · rw [if_neg (fun z => z q), if_pos (by omega)] at hL
        rw [if_pos q] at r3
        exact thr _ _ _ hL.symm r1 r3 (hJ1.2.1.fr r4).u
      · rw [if_pos q] at hL
        rw [if_neg q] at r3
        exact thr _ _ _ hL.symm r1 r3 (hJ1.2.1.fr r4).u
    change mm_J _ _ _ _ _ _ _ _ _ _
    have hR120 : mm_Rf N120 := p120.1
    obtain ⟨-, r2, r3, hI2, w1, w2⟩ := p120
    rw [if_neg (fun z => z r2.1), if_neg (by omega)] at hL
    have hJ2 := hJ1.sc hI2 w1 w2
    have cm := c_X13_moveAtHand (X := X) hI2.1 hI2.2.2.2.1 hI2.2.2.2.2.1 hI2.2.2.2.2.2
    rw [hI2.tp] at cm
    refine mm_imul dX13_readLine_123 rfl ?_
    refine mm_istore_n dX13_readLine_124 rfl (Nat.le_of_ble_eq_true rfl) rfl ?_
    refine mm_aload_n dX13_readLine_125 rfl rfl ?_
    refine mm_V0i dX13_readLine_126 rfl lk_X13_223 (c := 183) rfl (by decide) rfl  rfl rfl rfl (cm) ?_
    refine mm_istore_n dX13_readLine_129 rfl (Nat.le_of_ble_eq_true rfl) rfl ?_
    refine mm_aload_n dX13_readLine_130 rfl rfl ?_
    refine mm_iload_n dX13_readLine_131 rfl rfl ?_
    refine mm_iconst dX13_readLine_132 rfl ?_
    refine mm_iceq_z (q2 := 141) dX13_readLine_133 (by omega) (by omega) (fun k => mm_iconst dX13_readLine_140 rfl k) (fun k => mm_iconst dX13_readLine_136 rfl (mm_goto dX13_readLine_137 k)) ?_
    refine mm_iconst dX13_readLine_141 rfl ?_
    refine mm_V2g (M1 := N120) dX13_readLine_142 rfl lk_X13_63 (c := 183) rfl (by decide) rfl (by simp) (by simp) rfl rfl rfl (kq_need hI2) ?_
    rintro _ N142 (⟨rfl, p142⟩ | ⟨rfl, p142⟩)
    · refine ⟨rfl, rfl, ?_⟩
      rw [if_pos (by have := p142.2.1; omega)] at hL
      exact thr _ _ _ hL.symm p142.1 p142.2.2.1 (hJ2.2.1.fr p142.2.2.2).u
    change mm_J _ _ _ _ _ _ _ _ _ _
    have hR142 : mm_Rf N142 := p142.1
    obtain ⟨-, hne5, eN5⟩ := p142
    rw [eN5]
    rw [if_neg (by omega)] at hL
    refine mm_aload_n dX13_readLine_145 rfl rfl ?_
    refine mm_V0g (M1 := N120) dX13_readLine_146 rfl lk_X13_71 (c := 183) rfl (by decide) rfl  rfl rfl rfl (kq_sc hI2) ?_
    rintro _ N146 ⟨rfl, p146⟩
    change mm_J _ _ _ _ _ _ _ _ _ _
    have hR146 : mm_Rf N146 := p146.1
    obtain ⟨-, hI3, a1, a2⟩ := p146
    have hJ3 := hJ2.sc hI3 a1 a2
    have cd := c_X13_drumAtHand (X := X) hI3.1 hI3.2.2.2.1 hI3.2.2.2.2.1 hI3.2.2.2.2.2
    rw [hI3.tp] at cd
    refine mm_aload_n dX13_readLine_149 rfl rfl ?_
    refine mm_V0i dX13_readLine_150 rfl lk_X13_226 (c := 183) rfl (by decide) rfl  rfl rfl rfl (cd) ?_
    refine mm_istore dX13_readLine_153 rfl (Nat.le_of_ble_eq_true rfl) rfl ?_
    refine mm_aload_n dX13_readLine_155 rfl rfl ?_
    refine mm_iload dX13_readLine_156 rfl rfl ?_
    refine mm_iconst dX13_readLine_158 rfl ?_
    refine mm_iceq_z (q2 := 167) dX13_readLine_159 (by omega) (by omega) (fun k => mm_iconst dX13_readLine_166 rfl k) (fun k => mm_iconst dX13_readLine_162 rfl (mm_goto dX13_readLine_163 k)) ?_
    refine mm_iconst dX13_readLine_167 rfl ?_
    refine mm_V2g (M1 := N146) dX13_readLine_168 rfl lk_X13_63 (c := 183) rfl (by decide) rfl (by simp) (by simp) rfl rfl rfl (kq_need hI3) ?_
    rintro _ N168 (⟨rfl, p168⟩ | ⟨rfl, p168⟩)
    · refine ⟨rfl, rfl, ?_⟩
      rw [if_pos (by have := p168.2.1; omega)] at hL
      exact thr _ _ _ hL.symm p168.1 p168.2.2.1 (hJ3.2.1.fr p168.2.2.2).u
    change mm_J _ _ _ _ _ _ _ _ _ _
    have hR168 : mm_Rf N168 := p168.1
    obtain ⟨-, hne6, eN6⟩ := p168
    rw [eN6]
    rw [if_neg (by omega)] at hL
    refine mm_aload_n dX13_readLine_171 rfl rfl ?_
    refine mm_V0g (M1 := N146) dX13_readLine_172 rfl lk_X13_71 (c := 183) rfl (by decide) rfl  rfl rfl rfl (kq_sc hI3) ?_
    rintro _ N172 ⟨rfl, p172⟩
    change mm_J _ _ _ _ _ _ _ _ _ _
    have hR172 : mm_Rf N172 := p172.1
    obtain ⟨-, hI4, b1, b2⟩ := p172
    have hJ4 := hJ3.sc hI4 b1 b2
    refine mm_aload_n dX13_readLine_175 rfl rfl ?_
    refine mm_V0g (M1 := N172) dX13_readLine_176 rfl lk_X13_148 (c := 183) rfl (by decide) rfl  rfl rfl rfl (kq_close hI4) ?_
    rintro _ N176 (⟨rfl, p176⟩ | ⟨rfl, p176⟩)
    · refine ⟨rfl, rfl, ?_⟩
      rw [if_pos p176.2.1] at hL
      exact thr _ _ _ hL.symm p176.1 p176.2.2.1 (hJ4.2.1.fr p176.2.2.2).u
    change mm_J _ _ _ _ _ _ _ _ _ _
    have hR176 : mm_Rf N176 := p176.1
    obtain ⟨-, hk3, hI5, c1, c2⟩ := p176
    rw [if_neg (fun z => z hk3)] at hL
    have hJ5 := hJ4.sc hI5 c1 c2
    have l21 : N176 183 21 = (c : Int) := by rw [hJ5.2.2.2.2.2 21 (by decide)]; exact h21
    refine mm_aload_n dX13_readLine_179 rfl rfl ?_
    refine mm_getr dX13_readLine_180 rfl fl_X13_229 (c := 183) rfl (by decide) rfl rfl (hR176.at (c := 183) (i := 26) (v := 198) rfl (by decide)) ?_
    refine mm_iload_n dX13_readLine_183 rfl rfl ?_
    refine mm_iload_n dX13_readLine_184 rfl rfl ?_
    refine mm_iconst dX13_readLine_185 rfl ?_
    refine mm_iload_n dX13_readLine_186 rfl rfl ?_
    refine mm_imul dX13_readLine_187 rfl ?_
    refine mm_iadd dX13_readLine_188 rfl ?_
    refine mm_iload dX13_readLine_189 rfl rfl ?_
    refine mm_iadd dX13_readLine_191 rfl ?_
    refine mm_istk (k0 := (8 + c)) dX13_readLine_192 rfl (c := 197) rfl (by decide) rfl (by omega) (by omega) (fun M192 hM192 => ?_)
    have hR192 : mm_Rf M192 := by rw [hM192]; exact hR176.up (mm_rt_ar (t := 0) rfl (by decide))
    refine mm_aload_n dX13_readLine_193 rfl rfl ?_
    refine mm_dup dX13_readLine_194 rfl (by simp) ?_
    refine mm_get (kd := 0) dX13_readLine_195 rfl fl_X13_212 (c := 183) rfl (by decide) rfl rfl ?_
    obtain ⟨v195, hv195⟩ : ∃ v, v = M192 183 21 := ⟨_, rfl⟩
    rw [← hv195]
    rw [hM192, mm_up_c (by decide), l21] at hv195
    subst hv195
    refine mm_iconst dX13_readLine_198 rfl ?_
    refine mm_iadd dX13_readLine_199 rfl ?_
    refine mm_puti dX13_readLine_200 rfl fl_X13_212 (c := 183) rfl (by decide) rfl rfl (fun M200 hM200 => ?_)
    have hR200 : mm_Rf M200 := by rw [hM200]; exact hR192.up rfl
    refine mm_vret dX13_readLine_203 rfl rfl ?_
    rw [hΦ]
    obtain ⟨g1, g2, g3, g4, g5, g6⟩ := hJ5
    have e197 : ∀ a, a ≠ 183 → a ≠ 197 → M200 a = N176 a := by intro a a1 a2; rw [hM200, mm_up_row a1, hM192, mm_up_row a2]
    refine Or.inr ⟨rfl, hR200, _, _, hL.symm, ?_, ?_, ⟨?_, ?_, ?_, ?_⟩, ?_, ?_, ?_⟩
    · rw [hM200, hM192]; exact (kr_up g1 (by omega) (mm_rt_ar (t := 0) rfl (by decide))).uf rfl kr_A185 kr_S37 rfl
    · rw [hM200, hM192]
      exact ((g2.up (Or.inr ⟨Or.inr rfl, rfl⟩)).fr (fun a ha => mm_up_row ha)).u
    · rw [e197 196 (by decide) (by decide), kl_set_n (by omega), g3, hD1]
    · rw [kl_set_n (by omega), hD1]; omega
    · intro i hi
      rw [kl_set_n (by omega), hD1] at hi
      rw [e197 193 (by decide) (by decide), e197 194 (by decide) (by decide), e197 195 (by decide) (by decide), kl_set_n (by omega), kl_set_n (by omega), kl_set_n (by omega)]
      exact g4 i (by omega)
    · rw [hM200, mm_up_row (by decide), hM192, mm_up_s, kl_set_s, r3]
    · intro i hi; rw [kl_set_n (by omega)]; exact g5 i hi
    · rw [hM200, mm_up_s]
    · intro b hb1 hb2; rw [hM200, mm_up_i hb2, hM192, mm_up_row (by decide)]; exact g6 b hb1
  have loop : ∀ j : Nat, j ≤ 3 → ∀ (T : mm_M) (p1 : Nat) (D1 : Nat → Int) (E1 : kp_E), c < 8 → 1 ≤ j → kr_J M N T n c D D1 j p1 → D1 (11 * c) = (j : Int) → kl_rest (M 185) n (11 * c) (3 - j) j p1 D1 = E1 → (match E1 with | .error f => (.error f : kp_E) | .ok (p1, D1) => kl_act (M 185) n sl (11 * c) p1 D1) = E →
      mm_J X Y_X13_readLine 243 243 243 54 [(2, 184), (0, 8 + (c : Int)), (9, 0), (9, 0), (9, 0)] [] T Φ := by
    refine mm_lp ?_
    intro j hj ih T p1 D1 E1 hc8 j1 hJ hD1 hE1 hE2
    have hT := hJ.1
    have hRT := hT.1
    have nm4 : kp_nm (M 185) n p1 4 = if kt_iw (M 185) n p1 27 then 0 else if kt_iw (M 185) n p1 28 then 1 else -1 := by rw [kp_nm4]; rfl
    have e6 : T 196 (8 + c) = (j : Int) := hJ.2.2.1
    unfold kl_rest at hE1
    refine mm_aload_n dX13_readLine_54 rfl rfl ?_
    refine mm_lds (k0 := 27) dX13_readLine_55 rfl (by decide) rfl rfl ?_
    refine mm_V1i dX13_readLine_57 rfl lk_X13_103 (c := 183) rfl (by decide) rfl (by simp) rfl rfl rfl (kq_is hT (by decide)) ?_
    refine mm_ifeqb dX13_readLine_60 (fun h60 => ?_) (fun h60 => ?_)
    · rw [if_neg h60] at nm4
      refine act T j p1 D1 hc8 j1 hj hJ hD1 h60 ?_ ?_
      · intro q
        rw [if_pos q] at nm4
        rw [if_neg (by omega), if_pos nm4] at hE1
        rw [← hE1] at hE2
        exact hE2
      · intro q
        rw [if_neg q] at nm4
        rw [if_pos (by omega)] at hE1
        rw [← hE1] at hE2
        exact hE2.symm
    · refine mm_aload_n dX13_readLine_63 rfl rfl ?_
      refine mm_aload_n dX13_readLine_64 rfl rfl ?_
      refine mm_getr dX13_readLine_65 rfl fl_X13_182 (c := 183) rfl (by decide) rfl rfl (hRT.at (c := 183) (i := 25) (v := 197) rfl (by decide)) ?_
      refine mm_iload_n dX13_readLine_68 rfl rfl ?_
      refine mm_ialk (k0 := (8 + c)) dX13_readLine_69 rfl (c := 196) rfl (by decide) rfl (by omega) (by omega) ?_
      rw [e6]
      rw [if_pos h60] at nm4
      rw [if_neg (by omega), if_neg (by omega)] at hE1
      refine mm_iconst dX13_readLine_70 rfl ?_
      refine mm_icge_z (q2 := 79) dX13_readLine_71 (by omega) (by omega) (fun k => mm_iconst dX13_readLine_78 rfl k) (fun k => mm_iconst dX13_readLine_74 rfl (mm_goto dX13_readLine_75 k)) ?_
      refine mm_iconst dX13_readLine_79 rfl ?_
      refine mm_V2g (M1 := T) dX13_readLine_80 rfl lk_X13_63 (c := 183) rfl (by decide) rfl (by simp) (by simp) rfl rfl rfl (kq_need hT) ?_
      rintro _ N80 (⟨rfl, p80⟩ | ⟨rfl, p80⟩)
      · refine ⟨rfl, rfl, ?_⟩
        rw [if_pos (by have := p80.2.1; omega)] at hE1
        rw [← hE1] at hE2
        exact thr _ _ _ hE2.symm p80.1 p80.2.2.1 (hJ.2.1.fr p80.2.2.2).u
      change mm_J _ _ _ _ _ _ _ _ _ _
      have hR80 : mm_Rf N80 := p80.1
      obtain ⟨-, hlt, eN⟩ := p80
      rw [eN]
      rw [if_neg (by omega), show 3 - j = (2 - j) + 1 by omega, kl_conds_rest] at hE1
      refine mm_aload_n dX13_readLine_83 rfl rfl ?_
      refine mm_V0g (M1 := T) dX13_readLine_84 rfl lk_X13_71 (c := 183) rfl (by decide) rfl  rfl rfl rfl (kq_sc hT) ?_
      rintro _ N84 ⟨rfl, p84⟩
      change mm_J _ _ _ _ _ _ _ _ _ _
      have hR84 : mm_Rf N84 := p84.1
      obtain ⟨-, hI1, u1, u2⟩ := p84
      have hJ1 := hJ.sc hI1 u1 u2
      refine mm_aload_n dX13_readLine_87 rfl rfl ?_
      refine mm_iload_n dX13_readLine_88 rfl rfl ?_
      refine mm_V1g (M1 := N84) dX13_readLine_89 rfl lk_X13_215 (c := 183) rfl (by decide) rfl (by simp) rfl rfl rfl (c_X13_readCond (l := c) (j := j) (by omega) (by omega) hI1 hJ1.2.2.1 D1) ?_
      rintro _ N89 (⟨rfl, p89⟩ | ⟨rfl, p89⟩)
      · refine ⟨rfl, rfl, ?_⟩
        obtain ⟨r1, k, s, r2, r3, r4⟩ := p89
        rw [r2] at hE1
        rw [← hE1] at hE2
        exact thr _ _ _ hE2.symm r1 r3 (hJ1.2.1.tr r4).u
      change mm_J _ _ _ _ _ _ _ _ _ _
      have hR89 : mm_Rf N89 := p89.1
      obtain ⟨-, p', D', r2, hI2, hK2, r3, r4, r5, r6, r7, r8, r9⟩ := p89
      rw [r2] at hE1
      have hJ2 := hJ1.cond hI2 hK2 r3 r4 r5 r6 r7 r8 r9
      refine mm_goto dX13_readLine_92 ?_
      refine ih (by omega) _ p' _ E1 hc8 (by omega) hJ2 (by rw [kl_set_s]; rfl) ?_ hE2
      rw [show 3 - (j + 1) = 2 - j by omega]
      exact hE1
  refine mm_aload_n dX13_readLine_0 rfl rfl ?_
  refine mm_aload_n dX13_readLine_1 rfl rfl ?_
  refine mm_lds (k0 := 19) dX13_readLine_2 rfl (by decide) rfl rfl ?_
  refine mm_V1i dX13_readLine_4 rfl lk_X13_103 (c := 183) rfl (by decide) rfl (by simp) rfl rfl rfl (kq_is hI (by decide)) ?_
  refine mm_iconst dX13_readLine_7 rfl ?_
  refine mm_V2g (M1 := N) dX13_readLine_8 rfl lk_X13_63 (c := 183) rfl (by decide) rfl (by simp) (by simp) rfl rfl rfl (kq_need hI) ?_
  rintro _ N8 (⟨rfl, p8⟩ | ⟨rfl, p8⟩)
  · refine ⟨rfl, rfl, ?_⟩
    rw [if_neg p8.2.1] at nm1
    rw [if_pos (by omega)] at hL
    exact thr _ _ _ hL.symm p8.1 p8.2.2.1 ((kr_K.rf c N).fr p8.2.2.2).u
  change mm_J _ _ _ _ _ _ _ _ _ _
  have hR8 : mm_Rf N8 := p8.1
  obtain ⟨-, hw, eN⟩ := p8
  rw [eN]
  rw [if_pos hw] at nm1
  rw [if_neg (by omega)] at hL
  refine mm_aload_n dX13_readLine_11 rfl rfl ?_
  refine mm_aload_n dX13_readLine_12 rfl rfl ?_
  refine mm_get (kd := 0) dX13_readLine_13 rfl fl_X13_212 (c := 183) rfl (by decide) rfl rfl ?_
  obtain ⟨v13, hv13⟩ : ∃ v, v = N 183 21 := ⟨_, rfl⟩
  rw [← hv13]
  rw [h21] at hv13
  subst hv13
  refine mm_bipush dX13_readLine_16 rfl (by decide) ?_
  refine mm_icge_z (q2 := 26) dX13_readLine_18 (by omega) (by omega) (fun k => mm_iconst dX13_readLine_25 rfl k) (fun k => mm_iconst dX13_readLine_21 rfl (mm_goto dX13_readLine_22 k)) ?_
  refine mm_iconst dX13_readLine_26 rfl ?_
  refine mm_V2g (M1 := N) dX13_readLine_27 rfl lk_X13_63 (c := 183) rfl (by decide) rfl (by simp) (by simp) rfl rfl rfl (kq_need hI) ?_
  rintro _ N27 (⟨rfl, p27⟩ | ⟨rfl, p27⟩)
  · refine ⟨rfl, rfl, ?_⟩
    rw [if_pos (by have := p27.2.1; omega)] at hL
    exact thr _ _ _ hL.symm p27.1 p27.2.2.1 ((kr_K.rf c N).fr p27.2.2.2).u
  change mm_J _ _ _ _ _ _ _ _ _ _
  have hR27 : mm_Rf N27 := p27.1
  obtain ⟨-, hc8, eN2⟩ := p27
  rw [eN2]
  rw [if_neg (by omega)] at hL
  refine mm_bipush dX13_readLine_30 rfl (by decide) ?_
  refine mm_aload_n dX13_readLine_32 rfl rfl ?_
  refine mm_get (kd := 0) dX13_readLine_33 rfl fl_X13_212 (c := 183) rfl (by decide) rfl rfl ?_
  obtain ⟨v33, hv33⟩ : ∃ v, v = N 183 21 := ⟨_, rfl⟩
  rw [← hv33]
  rw [h21] at hv33
  subst hv33
  refine mm_iadd dX13_readLine_36 rfl ?_
  refine mm_istore_n dX13_readLine_37 rfl (Nat.le_of_ble_eq_true rfl) rfl ?_
  refine mm_aload_n dX13_readLine_38 rfl rfl ?_
  refine mm_getr dX13_readLine_39 rfl fl_X13_182 (c := 183) rfl (by decide) rfl rfl (hRN.at (c := 183) (i := 25) (v := 197) rfl (by decide)) ?_
  refine mm_iload_n dX13_readLine_42 rfl rfl ?_
  refine mm_iconst dX13_readLine_43 rfl ?_
  refine mm_istk (k0 := (8 + c)) dX13_readLine_44 rfl (c := 196) rfl (by decide) rfl (by omega) (by omega) (fun M44 hM44 => ?_)
  have hR44 : mm_Rf M44 := by rw [hM44]; exact hRN.up (mm_rt_ar (t := 0) rfl (by decide))
  refine mm_aload_n dX13_readLine_45 rfl rfl ?_
  have hI1 : kq_I kr_A kr_S M M44 n p := by rw [hM44]; exact kr_up hI (by omega) (mm_rt_ar (t := 0) rfl (by decide))
  have hJ0 : kr_J M N M44 n c D D 0 p := by
    refine ⟨hI1, ?_, ?_, fun i hi => absurd hi (Nat.not_lt_zero i), fun _ _ => rfl, ?_⟩
    · rw [hM44]; exact (kr_K.rf c N).up (Or.inr ⟨Or.inl rfl, rfl⟩)
    · rw [hM44, mm_up_s]; rfl
    · intro b hb; rw [hM44, mm_up_row (by decide)]
  rw [kl_conds_rest] at hL
  refine mm_V0g (M1 := M44) dX13_readLine_46 rfl lk_X13_71 (c := 183) rfl (by decide) rfl  rfl rfl rfl (kq_sc hI1) ?_
  rintro _ N46 ⟨rfl, p46⟩
  change mm_J _ _ _ _ _ _ _ _ _ _
  have hR46 : mm_Rf N46 := p46.1
  obtain ⟨-, hI2, u1, u2⟩ := p46
  have hJ1 := hJ0.sc hI2 u1 u2
  refine mm_aload_n dX13_readLine_49 rfl rfl ?_
  refine mm_iload_n dX13_readLine_50 rfl rfl ?_
  refine mm_V1g (M1 := N46) dX13_readLine_51 rfl lk_X13_215 (c := 183) rfl (by decide) rfl (by simp) rfl rfl rfl (c_X13_readCond (l := c) (j := 0) (by omega) (by omega) hI2 hJ1.2.2.1 D) ?_
  rintro _ N51 (⟨rfl, p51⟩ | ⟨rfl, p51⟩)
  · refine ⟨rfl, rfl, ?_⟩
    obtain ⟨r1, k, s, r2, r3, r4⟩ := p51
    rw [r2] at hL
    exact thr _ _ _ hL.symm r1 r3 (hJ1.2.1.tr r4).u
  change mm_J _ _ _ _ _ _ _ _ _ _
  have hR51 : mm_Rf N51 := p51.1
  obtain ⟨-, p', D', r2, hI3, hK2, r3, r4, r5, r6, r7, r8, r9⟩ := p51
  rw [r2] at hL
  have hJ2 := hJ1.cond hI3 hK2 r3 r4 r5 r6 r7 r8 r9
  exact loop 1 (by decide) _ p' _ _ (by omega) (Nat.le_refl _) hJ2 (by rw [kl_set_s]; rfl) rfl hL
end
end
/-! B2.catch -/
section
/-! ===== a throw that the caller catches ===== -/
/-- a table of one entry that covers the place, and whose class fits what is thrown: it is found, and its class is noted -/
theorem mm_find1 {Q : Handler → Pre} {E : CtlPost} {e : Env} {d : Bool} {acts : List Action} {t : State} {g : JFrame} {a : Addr} {mt : Method} {cd : Code} {xe : ExceptionTableEntry} {cT : ClassId} {cell : Cell}
    (hm : t.vm.method? g.method = some mt) (hc : mt.code = some cd) (htab : cd.exceptionTable.toList = [xe]) (hcov : (decide (xe.startPc ≤ g.pc) && decide (g.pc < xe.endPc)) = true) (h0 : xe.catchType ≠ 0)
    (hl : t.vm.ClassLinks e.platform g.method.cls xe.catchType cT) (hcell : t.heap[a]? = some cell) (hobj : ∀ k, cell.vm ≠ .statics k) (hk1 : ∃ k, t.vm.classes[cell.cls]? = some k) (hk2 : ∃ k, t.vm.classes[cT]? = some k) (hfit : t.vm.assignable cell.cls cT = true) :
    wp (findHandler g a) Q E e d acts t ↔ Q (.found xe.handlerPc) d acts (t.setVm (t.vm.noted g.method.cls xe.catchType (.cls cT))) := by
  have al : t.vm.Alike (t.vm.noted g.method.cls xe.catchType (.cls cT)) := (Vm.Alike.refl t.vm).noted _ _ _
  have f2 : (t.vm.noted g.method.cls xe.catchType (.cls cT)).assignable cell.cls cT = true := by rw [al.assignable]; exact hfit
  obtain ⟨u1, v1⟩ := hk1
  obtain ⟨u2, v2⟩ := hk2
  obtain ⟨w1, y1, -⟩ := al.2.2 _ _ v1
  obtain ⟨w2, y2, -⟩ := al.2.2 _ _ v2
  have gv := (resolveClass_links e.toSetting hl).op (op := VmOp.resolveClass g.method.cls xe.catchType) rfl
  rw [W.findHandler_eq hm hc, htab]
  simp [findHandler.go, hcov, h0, gv.1, gv.2, hcell, hobj, y1, y2, f2, VmOp.dirties, VmOp.acts]
/-- from what is thrown to the handler -/
theorem mm_catch1 {p : Program} {l : Launch} {e : Env} {R : Room} {s : State} {m : MethodId} {args : Array Value} {below : List Frame} {meth : Method} {c : Code} {T : State} {locs : List Loc} {cells slots : Nat} {own name : String} {g : JFrame} {a : Addr} {xe : ExceptionTableEntry} {cT : ClassId} {cell : Cell}
    (X : Stand p l e R s m args below meth c T locs cells slots) (hg : g.method = m) (hown : s.vm.findClass own = some m.cls) (htab : c.exceptionTable.toList = [xe]) (hcov : (decide (xe.startPc ≤ g.pc) && decide (g.pc < xe.endPc)) = true) (h0 : xe.catchType ≠ 0)
    (hlink : (Cond.classLink own xe.catchType name).before args s = true) (hcT : s.vm.findClass name = some cT) (hcell : T.heap[a]? = some cell) (hobj : ∀ k, cell.vm ≠ .statics k) (hfit : s.vm.assignable cell.cls cT = true) (hin : ∃ k, s.vm.classes[cell.cls]? = some k) :
    ∃ vm', Stand p l e R s m args below meth c (T.setVm vm') locs cells slots ∧ ∀ target, Steps p.tables e below ((T.setVm vm').setTop { g with pc := xe.handlerPc, stack := [.ref a] }) target → Steps p.tables e below ((T.setTop g).pushFrame (.throwing a)) target := by
  subst hg
  obtain ⟨c1, e1, cl⟩ := Cond.classLink_spec hown hlink e.platform (by rw [X.admits.platform])
  have e2 : cT = c1 := Option.some.inj (hcT.symm.trans e1)
  subst e2
  obtain ⟨dk, _, _, kt, hd, _, _, _, _, hkt, _, hopen⟩ := cl.here
  obtain ⟨k2, hk2, -⟩ := X.warmed.alike.2.2 _ _ hkt
  obtain ⟨k0, hk0⟩ := hin
  obtain ⟨k1, hk1, -⟩ := X.warmed.alike.2.2 _ _ hk0
  refine ⟨T.vm.noted g.method.cls xe.catchType (.cls cT), X.noted (X.warmed.noted hd hopen (State.rightAt_cls cl)), fun target go => ?_⟩
  have at0 := X.here
  obtain ⟨g0, hfr⟩ := X.frames_eq
  refine Steps.head (at0.throwing a).1 (at0.throwing a).2 ?_
  have hfT : T.vm.assignable cell.cls cT = true := by rw [X.warmed.alike.assignable]; exact hfit
  have hfd : ∀ (Q : Handler → Pre) (E : CtlPost) (d : Bool) (acts : List Action), wp (findHandler g a) Q E e d acts ((T.setTop g).pushFrame (.throwing a)) ↔ Q (.found xe.handlerPc) d acts (((T.setTop g).pushFrame (.throwing a)).setVm (T.vm.noted g.method.cls xe.catchType (.cls cT))) :=
    fun Q E d acts => mm_find1 (t := (T.setTop g).pushFrame (.throwing a)) X.method' X.code htab hcov h0 (X.warmed.classLinks cl) hcell hobj ⟨k1, hk1⟩ ⟨k2, hk2⟩ hfT
  have hst : (stepThrowing e ((T.setTop g).pushFrame (.throwing a)) a (.java g :: below)).Is ((((T.setTop g).pushFrame (.throwing a)).setVm (T.vm.noted g.method.cls xe.catchType (.cls cT))).setFrames (.java { g with pc := xe.handlerPc, stack := [.ref a] } :: below)) [] := by
    simp only [stepThrowing, searchFrame, vmDo]
    generalize hr : Sem.go _ e false [] ((T.setTop g).pushFrame (.throwing a)) = res
    obtain ⟨as, rfl, ha⟩ := Sem.eq_ok_of hr (a := Handler.found xe.handlerPc) (s' := ((T.setTop g).pushFrame (.throwing a)).setVm (T.vm.noted g.method.cls xe.catchType (.cls cT))) (acts' := [])
      (by simp [hfd])
    exact ⟨rfl, ha⟩
  have hF : ((T.setTop g).pushFrame (.throwing a)).frames = .throwing a :: .java g :: below := by rw [frames_entered at0.top, hfr]; rfl
  rw [stepThread_throwing hF, hst.1]
  have hfr' : (T.setVm (T.vm.noted g.method.cls xe.catchType (.cls cT))).frames = .java g0 :: below := hfr
  rw [State.setTop_of_frames _ hfr'] at go
  have hsv : ∀ (F G : List Frame) (v : Vm), ((T.setFrames F).setVm v).setFrames G = (T.setVm v).setFrames G := by
    intro F G v
    show ((T.setVm v).setFrames F).setFrames G = _
    rw [State.setFrames_setFrames]
  rw [State.setTop_of_frames _ hfr, State.pushFrame, State.setFrames_setFrames, hsv]
  exact go
/-- what a call within a try leads to: what is thrown is caught at hp -/
def mm_Kh (X : mm_X) (Y : mm_Y) (n0 n1 n' q hp : Nat) (ls st : List mm_V) (Φ : mm_V → mm_M → Prop) (r : mm_V) (M' : mm_M) : Prop := match r.1 with
  | 0 => mm_J X Y n0 n1 n' q ls (r :: st) M' Φ
  | 1 => mm_J X Y n0 n1 n' q ls (r :: st) M' Φ
  | 2 => mm_J X Y n0 n1 n' q ls (r :: st) M' Φ
  | 3 => mm_J X Y n0 n1 n' q ls st M' Φ
  | 4 => r.2 = 185 ∧ mm_J X Y n0 n1 n' hp ls [(2, 185)] M' Φ
  | _ => False
set_option maxHeartbeats 1000000 in
theorem mm_callh {X : mm_X} {Y Y' : mm_Y} {n0 n1 n n' pc q sp ep hp ct : Nat} {ls st as : List mm_V} {M : mm_M} {Φ Ψ : mm_V → mm_M → Prop}
    {p : Program} {l : Launch} {e : Env} {R : Room} {s : State} {m : MethodId} {args : Array Value} {below : List Frame} {meth : Method} {c : Code} {D : va_G} {cA : Nat → ClassId} {bs : Nat} {ro : Nat → Nat} {H : Heap} {locs : List Loc} {lsr : Array Slot} {rst : List Value} {ig : Instr}
    (Cx : mm_Cx X Y n0 n1 p R s m args meth c D cA bs ro) (hP : mm_Wd D cA bs ro n M H) (hS : va_S (fun q => bs ≤ q) s.heap H locs) (hL : mm_L bs ro Y.2.2.1 lsr ls)
    (hn : mm_le n0 n n' n1) (hpl : plainName Y'.1.cls = true) (h9 : ∀ v ∈ as, v.1 ≠ 9) (hpad : (mm_dbl as).length ≤ Y'.2.2.1) (hcw : (mm_cw Y').before args s = true) (hgw : goodWord (mm_cw Y') = true)
    (hfr : Y'.2.2.2.2.1 + 1 ≤ Y.2.2.2.2.1) (hlo : mm_wd st + (Y'.2.2.1 + 11) + Y'.2.2.2.2.2.1 ≤ Y.2.2.2.2.2.1)
    (hd : decode Y.2.1 pc = .ok (ig, 3)) (hq : pc + 3 = q)
    (hlk : ∀ T : State, T.heap = H → Stand p l e R s m args below meth c T locs (n - n0) (mm_sz n - mm_sz n0) → ∃ vm₁ mk, Stand p l e R s m args below meth c (T.setVm vm₁) locs (n - n0) (mm_sz n - mm_sz n0) ∧ s.methodNamed? Y'.1 = some mk ∧
      ∀ target, (∀ acts, Steps p.tables e below (doInvoke e ((T.setVm vm₁).setTop (F0 m pc lsr (st.map (mm_v bs ro)))) acts mk (as.map (mm_v bs ro)).toArray).1 target) → Steps p.tables e below (T.setTop (F0 m pc lsr rst)) target)
    (hC : mm_C X Y' n n' as M Ψ) (hh : Y.2.2.2.2.2.2 = [(sp, ep, hp, ct)]) (hsp : sp ≤ pc ∧ pc < ep ∧ ct ≠ 0) (hcl : mm_Wk (.classLink Y.1.cls ct RX12)) (h184 : 184 < n') (hk : ∀ r M', Ψ r M' → mm_Kh X Y n0 n1 n' q hp ls st Φ r M') :
    W p l e R s m args below meth c H locs (n - n0) (mm_sz n - mm_sz n0) (mm_E D cA bs ro n0 n1 Φ below s) (F0 m pc lsr rst) := by
  subst hq
  intro T hT X0
  obtain ⟨vm₁, mk, X1, hnamed, hst⟩ := hlk T hT X0
  obtain ⟨hx, hb, hrt, hml, hown, hTb, hlocks, hname, hHd, hRf, hRl, hRc, hRs, hK, hRo, hsz⟩ := id Cx
  obtain ⟨mk', methk, ck, g1, g2, g3, g4, g5, g6, g7, g8, g9⟩ := mm_cw_spec hcw
  cases hnamed.symm.trans g1
  have hW1 := X1.warmed
  have hmk : (T.setVm vm₁).vm.method? mk = some methk := by
    have := hW1.alike.method? mk
    rw [this]; exact g2
  have hplk : (T.setVm vm₁).plainMethod mk := by
    refine State.plainMethod.of_name ?_
    intro k hk1
    obtain ⟨k', hk', hn'⟩ := className_of_methodNamed (X1.named hnamed)
    cases hk1.symm.trans hk'
    rw [hn']; exact hpl
  have hdg : decode c.code (F0 m pc lsr (st.map (mm_v bs ro))).pc = .ok (ig, 3) := by rw [hb]; exact hd
  have hsize : (F0 m pc lsr (st.map (mm_v bs ro))).locals.size = c.maxLocals := by rw [hml]; exact hL.1
  obtain ⟨q1, q2, q3, q4, q5, q6⟩ := id hn
  obtain ⟨XI, hin⟩ := X1.into (g := F0 m pc lsr (st.map (mm_v bs ro))) rfl hsize hdg (as.map (mm_v bs ro)).toArray (R' := mm_rm Y' n n') hmk g3 g8 hplk
    (by show Y'.2.2.2.2.1 + 1 ≤ R.frames; omega) (by
      show 2 * 0 + ((st.map (mm_v bs ro)).map fun v => v.category).sum + (ck.maxLocals + 11) + Y'.2.2.2.2.2.1 ≤ R.locals
      rw [mm_wd_eq, g5]; omega) (by show n - n0 + (n' - n) ≤ R.cells; omega) (by show mm_sz n - mm_sz n0 + (mm_sz n' - mm_sz n) ≤ R.slots; omega)
  rw [g5] at XI
  have hin : ∀ acts, (doInvoke e ((T.setVm vm₁).setTop (F0 m pc lsr (st.map (mm_v bs ro)))) acts mk (as.map (mm_v bs ro)).toArray).1 = _ := fun acts => by rw [hin acts, g5]
  have hWc : s.WarmedH ((T.setVm vm₁).calling (F0 m pc lsr (st.map (mm_v bs ro))) mk (as.map (mm_v bs ro)).toArray).vm := hW1
  have hhc : ((T.setVm vm₁).calling (F0 m pc lsr (st.map (mm_v bs ro))) mk (as.map (mm_v bs ro)).toArray).heap = H := hT
  have hfn : ((T.setVm vm₁).calling (F0 m pc lsr (st.map (mm_v bs ro))) mk (as.map (mm_v bs ro)).toArray).methodNamed? Y'.1 = some mk := X1.named hnamed
  have CxI : mm_Cx X Y' n n' p (mm_rm Y' n n') ((T.setVm vm₁).calling (F0 m pc lsr (st.map (mm_v bs ro))) mk (as.map (mm_v bs ro)).toArray) mk (as.map (mm_v bs ro)).toArray methk ck D cA bs ro := by
    refine ⟨hx, g4, g7, g5, findClass_of_methodNamed hfn, hTb.on hWc, g8, (name_of_methodNamed hfn hmk).1, g6, Nat.le_refl _, Nat.le_refl _, Nat.le_refl _, Nat.le_refl _, va_K.moved hWc.alike hK, hRo.on hWc (fun a h1 h2 => ?_), ?_⟩
    · rw [hhc]; exact hS.2.1 a h1 h2
    · rw [hhc]; exact hP.1
  have key := hC p l e (mm_rm Y' n n') _ mk _ (.java (F0 m pc lsr (st.map (mm_v bs ro))) :: below) methk ck D cA bs ro H [] _ CxI hP (by rw [hhc]; exact va_S.rf) (mm_entry bs ro as h9 hpad)
  rw [List.map_nil, ← lg_entry_eq, Nat.sub_self, Nat.sub_self] at key
  obtain ⟨t, ht, o, r, M', L, k1, k2, k3, k4, k5, k6, k7, k8, k9⟩ := (fun hh => key _ hh XI) hT
  have hsteps : Steps p.tables e below (T.setTop (F0 m pc lsr rst)) t := hst t (fun acts => by
    rw [hin acts]
    exact mm_weaken (mid := [.java (F0 m pc lsr (st.map (mm_v bs ro)))]) ht)
  have hS' : ∀ T' : State, T'.heap = t.heap → va_S (fun q => bs ≤ q) s.heap T'.heap (locs ++ L) := by
    intro T' e'
    have hF : va_F (fun q => bs ≤ q) ((T.setVm vm₁).calling (F0 m pc lsr (st.map (mm_v bs ro))) mk (as.map (mm_v bs ro)).toArray) t := k6
    obtain ⟨f1, f2⟩ := hF
    rw [hhc] at f1 f2
    refine ⟨by rw [e']; exact Nat.le_trans hS.1 f1, fun a h1 h2 => ?_, fun a ha => ?_⟩
    · rw [e', f2 a (Nat.lt_of_lt_of_le h1 hS.1) h2]
      exact hS.2.1 a h1 h2
    · rcases List.mem_append.mp ha with h | h
      · exact hS.2.2 a h
      · exact k9 a h
  have hcnt : n - n0 + (n' - n) = n' - n0 := by omega
  have hcns : mm_sz n - mm_sz n0 + (mm_sz n' - mm_sz n) = mm_sz n' - mm_sz n0 := by omega
  have hkk := hk r M' k4
  obtain ⟨tag, x⟩ := r
  have ret : ∀ (v : Option Value) (st' : List mm_V), o = .returned v → v.toList ++ st.map (mm_v bs ro) = st'.map (mm_v bs ro) → mm_J X Y n0 n1 n' (pc + 3) ls st' M' Φ → ∃ t, Steps p.tables e below (T.setTop (F0 m pc lsr rst)) t ∧ mm_E D cA bs ro n0 n1 Φ below s t := by
    intro v st' ho hv hJ
    subst ho
    obtain ⟨T', X', -, -, hte⟩ := X1.outOf rfl hdg k2 k7 k8
    have hheap : T'.heap = t.heap := by rw [hte]; rfl
    rw [hcnt, hcns] at X'
    have hPT : mm_Wd D cA bs ro n' M' T'.heap := by rw [hheap]; exact k5
    obtain ⟨t2, a1, b1⟩ := hJ p l e R s m args below meth c D cA bs ro T'.heap (locs ++ L) lsr Cx hPT (hS' T' hheap) hL T' rfl X'
    refine ⟨t2, hsteps.trans ?_, b1⟩
    rw [hte]
    rw [← hv] at a1
    exact a1
  match tag, hkk, k3 with
  | 0, hkk, k3 => exact ret _ ((0, x) :: st) k3 rfl hkk
  | 1, hkk, k3 => exact ret _ ((1, x) :: st) k3 rfl hkk
  | 2, hkk, k3 => exact ret _ ((2, x) :: st) k3 rfl hkk
  | 3, hkk, k3 => exact ret _ st k3 rfl hkk
  | 4, hkk, k3 =>
    obtain ⟨h1, h3⟩ := hkk
    have k3 : o = .threw (mm_ad bs ro x) := k3
    subst k3
    have h1 : x = 185 := h1
    subst h1
    obtain ⟨T', X', -, -, hte⟩ := X1.outOfThrown rfl k2 k7 k8
    have hheap : T'.heap = t.heap := by rw [hte]; rfl
    rw [hcnt, hcns] at X'
    have hPT : mm_Wd D cA bs ro n' M' T'.heap := by rw [hheap]; exact k5
    obtain ⟨cell, q1, q2, q3, q4⟩ := (hPT.2 184 h184).obj (ci := 12) rfl
    obtain ⟨hS1, hfc, kC, hkC, hkind⟩ := hK.1 12 (RX12, TX12, 6) rfl
    obtain ⟨xe, hxe, hxf⟩ : ∃ xe, c.exceptionTable.toList = [xe] ∧ (xe.startPc, xe.endPc, xe.handlerPc, xe.catchType) = (sp, ep, hp, ct) := by
      have h := hHd
      unfold mm_Hd at h
      rw [hh] at h
      match hc : c.exceptionTable.toList, h with
      | [xe], h => exact ⟨xe, rfl, by simpa using h⟩
    simp only [Prod.mk.injEq] at hxf
    obtain ⟨x1, x2, x3, x4⟩ := hxf
    have hfit : s.vm.assignable cell.cls (D.1 12) = true := by
      rw [q2]
      show s.vm.assignableAux (255 + 1) _ _ = true
      rw [Vm.assignableAux]
      simp
    have hin : ∃ k, s.vm.classes[cell.cls]? = some k := ⟨kC, by rw [q2]; exact hkC⟩
    obtain ⟨vm', XV, st4⟩ := mm_catch1 (a := mm_ad bs ro 185) (g := F0 m pc lsr (st.map (mm_v bs ro))) X' rfl hown hxe
      (by show (decide (xe.startPc ≤ pc) && decide (pc < xe.endPc)) = true; rw [x1, x2, decide_eq_true hsp.1, decide_eq_true hsp.2.1]; rfl) (by rw [x4]; exact hsp.2.2) (name := RX12) (by rw [x4]; exact hTb.at hcl) (cT := D.1 12) (cell := cell) hfc q1 (by intro k; rw [q3]; exact fun z => by cases z) hfit hin
    have hJ : mm_J X Y n0 n1 n' hp ls [(2, 185)] M' Φ := h3
    obtain ⟨t2, a1, b1⟩ := hJ p l e R s m args below meth c D cA bs ro T'.heap (locs ++ L) lsr Cx hPT (hS' T' hheap) hL (T'.setVm vm') rfl XV
    refine ⟨t2, hsteps.trans ?_, b1⟩
    rw [hte]
    refine st4 t2 ?_
    rw [x3]
    exact a1
section
variable {X : mm_X} {Y Y' : mm_Y} {n0 n1 n n' pc q ci c idx na sp ep hp ct : Nat} {ls st stk as : List mm_V} {M : mm_M} {Φ Ψ : mm_V → mm_M → Prop} {r : Int}
theorem mm_callVh (hd : mm_D Y.2.1 pc q (.invokevirtual idx)) (hq : pc + 3 = q) (hw : mm_LV Y.1.cls idx Y' ci na) (hr : r = (c : Int) + 1) (hc : c < n) (hs : mm_sh c = (0, ci)) (hna : as.length = na) (hst : stk = as.reverse ++ (2, r) :: st)
    (hn : mm_le n0 n n' n1) (h9 : ∀ v ∈ as, v.1 ≠ 9) (hpad : (mm_dbl ((2, r) :: as)).length ≤ Y'.2.2.1) (hfr : Y'.2.2.2.2.1 + 1 ≤ Y.2.2.2.2.1) (hlo : mm_wd st + (Y'.2.2.1 + 11) + Y'.2.2.2.2.2.1 ≤ Y.2.2.2.2.2.1)
    (hC : mm_C X Y' n n' ((2, r) :: as) M Ψ) (hh : Y.2.2.2.2.2.2 = [(sp, ep, hp, ct)]) (hsp : sp ≤ pc ∧ pc < ep ∧ ct ≠ 0) (hcl : mm_Wk (.classLink Y.1.cls ct RX12)) (h184 : 184 < n') (hk : ∀ r M', Ψ r M' → mm_Kh X Y n0 n1 n' q hp ls st Φ r M') : mm_J X Y n0 n1 n pc ls stk M Φ := by
  subst hst
  intro p l e R s m args below meth cd D cA bs ro H locs lsr Cx hP hS hL
  obtain ⟨hx, hb, -, hml, hown, hT, -, -, -, -, -, -, -, hK, hRo, -⟩ := id Cx
  obtain ⟨⟨w1, w2, w3, w4, w5⟩, w6, C, T0, N, w7, w8⟩ := hw
  have h9' : ∀ v ∈ (2, r) :: as, v.1 ≠ 9 := by
    intro v hv
    rcases List.mem_cons.mp hv with rfl | hv
    · show (2 : Nat) ≠ 9
      decide
    · exact h9 v hv
  have hd3 : decode Y.2.1 pc = .ok (.invokevirtual idx, 3) := by
    have := hd.1
    rw [← hq] at this
    simpa using this
  refine mm_callh (ig := .invokevirtual idx) Cx hP hS hL hn w3 h9' hpad (hT.at w2) w2.2 hfr hlo hd3 hq ?_ hC hh hsp hcl h184 hk
  intro T hTH X0
  obtain ⟨cell, q1, q2, q3, q4⟩ := (hP.2 c hc).obj hs
  obtain ⟨hS1, hfc, kC, hkC, hkind⟩ := hK.1 ci _ w7
  have hcls : s.vm.findClass C = some cell.cls := by rw [q2]; exact hfc
  obtain ⟨mk, methM, hnamed, hmethM, hstM, habM⟩ := Cond.instanceMethod_spec (hT.at w6)
  obtain ⟨mk2, methM', cM, hn2, hmethM', -, -, -, -, -, -, hsigM⟩ := mm_cw_spec (hT.at w2)
  cases hnamed.symm.trans hn2
  cases hmethM.symm.trans hmethM'
  obtain ⟨c2, r2, m2, z1, z2, z3, z4, kP, hkP, hkPi⟩ := Cond.selects_spec (hT.at w8)
  cases hcls.symm.trans z1
  cases (State.methodFound?_of_named hnamed w4).symm.trans z2
  cases hnamed.symm.trans z3
  have hselP : selectMethod e.platform s.vm cell.cls mk = .method mk := by rw [Launch.admits_selectMethod X0.admits]; exact z4
  obtain ⟨vm₁, X₁, hstep₁⟩ := X0.invokevirtual hx hown (hT.at w1) hnamed hmethM hstM hkP hkPi w4 (a := bs + c) (cell := cell) (by rw [hTH]; exact q1)
    (fun z h => by rw [q3] at h; cases h) hselP hmethM habM hkP hkPi (g := F0 m pc lsr ((as.reverse ++ (2, r) :: st).map (mm_v bs ro))) rfl (argsL := as.map (mm_v bs ro)) (rest := st.map (mm_v bs ro)) (by rw [List.length_map, hna]; exact mm_lenOf w5 hsigM)
    (by rw [List.map_append, List.map_cons, List.map_reverse, hr, mm_v2]) (by rw [hb]; exact hd3)
  refine ⟨vm₁, mk, X₁, hnamed, fun target h => hstep₁ target (fun acts => ?_)⟩
  have := h acts
  rw [List.map_cons, hr, mm_v2] at this
  exact this
theorem mm_V0h (hd : mm_D Y.2.1 pc q (.invokevirtual idx)) (hq : pc + 3 = q) (hw : mm_LV Y.1.cls idx Y' ci 0) (hr : r = (c : Int) + 1) (hc : c < n) (hs : mm_sh c = (0, ci)) (hpad : Nat.ble (mm_dbl [(2, r)]).length Y'.2.2.1 = true) (hfr : Nat.ble (Y'.2.2.2.2.1 + 1) Y.2.2.2.2.1 = true) (hlo : Nat.ble (mm_wd st + (Y'.2.2.1 + 11) + Y'.2.2.2.2.2.1) Y.2.2.2.2.2.1 = true)
    (hh : Y.2.2.2.2.2.2 = [(sp, ep, hp, ct)]) (hsp : sp ≤ pc ∧ pc < ep ∧ ct ≠ 0) (hcl : mm_Wk (.classLink Y.1.cls ct RX12)) (h184 : 184 < n) (hC : mm_C X Y' n n [(2, r)] M Ψ) (k : ∀ r M1, Ψ r M1 → mm_Kh X Y n n n q hp ls st Φ r M1) : mm_J X Y n n n pc ls ((2, r) :: st) M Φ :=
  mm_callVh hd hq hw hr hc hs (as := []) rfl rfl (mm_le_rf n) (by simp) (Nat.le_of_ble_eq_true hpad) (Nat.le_of_ble_eq_true hfr) (Nat.le_of_ble_eq_true hlo) hC hh hsp hcl h184 k
end
theorem cl_X13_237 : mm_Wk (.classLink RX13 237 RX12) := mm_w1 5 118 rfl rfl
end
/-! B3.rkite5 -/
section
/-! ===== kite, of the reference ===== -/
/-- what a new kite leaves -/
def kq_new (M M' : mm_M) (D : Nat → Int) : Prop :=
  ((∀ i, i < 10 → mm_rk M' i = D i) ∧ mm_rk M' 10 = D 10 ∧ (1 ≤ D 10 ∧ D 10 ≤ 3) ∧ (∀ i : Nat, (i : Int) < D 10 → mm_rk M' (20 + i) = D (20 + i)) ∧ (∀ i, i < 6 → mm_rk M' (30 + i) = D (30 + i))) ∧
  (kq_bd M → kq_bd M' ∧ ∀ i, i < 3 → 0 ≤ M' 188 i ∧ M' 188 i ≤ 99) ∧
  (∀ a, a ≠ 183 → ¬ (186 ≤ a ∧ a ≤ 192) → a ≠ 216 → M' a = M a) ∧ (∀ b, ¬ (2 ≤ b ∧ b ≤ 9) → ¬ (16 ≤ b ∧ b ≤ 18) → b ≠ 20 → b ≠ 62 → b ≠ 88 → b ≠ 89 → ¬ (97 ≤ b ∧ b ≤ 99) → M' 183 b = M 183 b) ∧
  M' 183 20 = 0 ∧ (∀ k, k < 6 → M' 216 k = 0) ∧ (∀ k, 6 ≤ k → M' 216 k = M 216 k) ∧ M' 183 88 = 0 ∧ M' 183 89 = 0 ∧ M' 183 97 = 0 ∧ M' 183 98 = 0 ∧ M' 183 99 = 0 ∧ M' 183 62 = 0
def kq_K (M M' : mm_M) (e : kp_E) (r : mm_V) : Prop := mm_Rf M' ∧ M' 183 2 = 0 ∧ match e with
  | .ok (c, D) => r = (0, (c : Int)) ∧ M' 183 8 = 0 ∧ M' 183 9 = -1 ∧ kq_new M M' D
  | .error (k, s) => r = (0, -1) ∧ M' 183 8 = k ∧ M' 183 9 = (s : Int) ∧ (∀ a, a ≠ 183 → ¬ kq_A a → M' a = M a) ∧ (∀ b, ¬ (2 ≤ b ∧ b ≤ 9) → ¬ kq_S b → M' 183 b = M 183 b) ∧ (kq_bd M → kq_bd M')
section
variable {X : mm_X} {M : mm_M} {n : Nat}
theorem c_X13_kite (hR : mm_Rf M) (hn : M 183 2 = (n : Int) ∧ n ≤ 800) (hb : ∀ k : Nat, k < 800 → -128 ≤ M 185 k ∧ M 185 k ≤ 127) (Z : Nat → Int) :
    mm_C X Y_X13_kite 243 243 [(2, 184)] M (fun r M' => kq_K M M' (kp_text (M 185) n 13 0 0 0 (kp_D0 Z)) r) := by
  obtain ⟨E, hE⟩ : ∃ E, E = kp_text (M 185) n 13 0 0 0 (kp_D0 Z) := ⟨_, rfl⟩
  rw [← hE]
  refine mm_start (ls := [(2, 184), (9, 0), (9, 0)]) rfl ?_
  have bad : ∀ (N T : mm_M) (k : Int) (s : Nat), E = .error (k, s) → mm_Rf T → (∀ a, a ≠ 183 → N a = M a) → (∀ b, ¬ (2 ≤ b ∧ b ≤ 9) → N 183 b = M 183 b) → N 183 2 = 0 → kq_X kq_A kq_S N T k s → mm_J X Y_X13_kite 243 243 243 12 [(2, 184), (9, 0), (9, 0)] [(2, 185)] T (fun r M' => kq_K M M' E r) := by
    intro N T k s hEe hRT g1 g2 g3 hX
    obtain ⟨⟨x1, x2, x3⟩, x4, x5⟩ := hX
    refine mm_astore_n dX13_kite_12 rfl (Nat.le_of_ble_eq_true rfl) rfl ?_
    refine mm_iconst dX13_kite_13 rfl ?_
    refine mm_iret dX13_kite_14 rfl rfl ?_
    rw [hEe]
    refine ⟨hRT, ?_, rfl, x4, x5, ?_, ?_, ?_⟩
    · rw [x2 2 (by decide) (by unfold kq_S; decide)]; exact g3
    · intro a a1 a2; rw [x1 a a1 a2]; exact g1 a a1
    · intro b b1 b2; rw [x2 b (by omega) b2]; exact g2 b b1
    · intro q; exact x3 (q.fr (g1 189 (by decide)))
  have ok : ∀ (N T : mm_M) (c : Nat) (D : Nat → Int), E = .ok (c, D) → mm_Rf T → (∀ a, a ≠ 183 → N a = M a) → (∀ b, ¬ (2 ≤ b ∧ b ≤ 9) → N 183 b = M 183 b) → N 183 2 = 0 → T 183 8 = 0 → T 183 9 = -1 → kq_F kq_A kq_S N T → kq_rd T D → mm_J X Y_X13_kite 243 243 243 8 [(2, 184), (9, 0), (9, 0)] [(0, (c : Int))] T (fun r M' => kq_K M M' E r) := by
    intro N T c D hEe hRT g1 g2 g3 t8 t9 hF hrd
    obtain ⟨f1, f2, f3⟩ := hF
    obtain ⟨d1, d2, d3, d4, d5, d6⟩ := id hrd
    have loop : ∀ (U : mm_M), mm_Rf U → (∀ a, a ≠ 183 → a ≠ 186 → a ≠ 188 → a ≠ 190 → U a = T a) → (∀ b, b ≠ 16 → b ≠ 20 → U 183 b = T 183 b) → U 183 20 = 0 → U 183 16 = T 183 17 → (∀ i, i < 10 → U 186 i = T 187 i) → (∀ i, i < 3 → U 188 i = T 189 i) → (∀ i : Nat, i < 6 → U 190 i = T 191 (min (i : Int) (T 183 18 - 1)).toNat) →
        ∀ i : Nat, i ≤ 6 → ∀ Q : mm_M, mm_Rf Q → (∀ a, a ≠ 216 → Q a = U a) → (∀ k, k < i → Q 216 k = 0) → (∀ k, 6 ≤ k → Q 216 k = U 216 k) → mm_J X Y_X13_kite 243 243 243 26 [(2, 184), (0, (c : Int)), (0, (i : Int))] [] Q (fun r M' => kq_K M M' E r) := by
      intro U hRU u1 u2 u3 u4 u5 u6 u7
      refine mm_lp ?_
      intro i hi ih Q hRQ q1 q2 q3
      by_cases hlt : i < 6
      · refine mm_iload_n dX13_kite_26 rfl rfl ?_
        refine mm_bipush dX13_kite_27 rfl (by decide) ?_
        refine mm_icge dX13_kite_29 (by omega) (by omega) (fun h29 => ?_) (fun h29 => ?_)
        · exfalso; omega
        · refine mm_aload_n dX13_kite_32 rfl rfl ?_
          refine mm_getr dX13_kite_33 rfl fl_X13_295 (c := 183) rfl (by decide) rfl rfl (hRQ.at (c := 183) (i := 64) (v := 217) rfl (by decide)) ?_
          refine mm_iload_n dX13_kite_36 rfl rfl ?_
          refine mm_iconst dX13_kite_37 rfl ?_
          refine mm_istk (k0 := i) dX13_kite_38 rfl (c := 216) rfl (by decide) rfl (by omega) (by omega) (fun M38 hM38 => ?_)
          have hR38 : mm_Rf M38 := by rw [hM38]; exact hRQ.up (mm_rt_ar (t := 0) rfl (by decide))
          refine mm_iinc dX13_kite_39 rfl rfl (Nat.le_of_ble_eq_true rfl) rfl ?_
          refine mm_goto dX13_kite_42 ?_
          refine ih hlt _ hR38 ?_ ?_ ?_
          · intro a a1; rw [hM38, mm_up_row a1]; exact q1 a a1
          · intro k hk
            by_cases q : k = i
            · rw [hM38, q, mm_up_s]
            · rw [hM38, mm_up_i q]; exact q2 k (by omega)
          · intro k hk; rw [hM38, mm_up_i (by omega)]; exact q3 k hk
      · refine mm_iload_n dX13_kite_26 rfl rfl ?_
        refine mm_bipush dX13_kite_27 rfl (by decide) ?_
        refine mm_icge dX13_kite_29 (by omega) (by omega) (fun h29 => ?_) (fun h29 => ?_)
        · refine mm_aload_n dX13_kite_45 rfl rfl ?_
          refine mm_iconst dX13_kite_46 rfl ?_
          refine mm_puti dX13_kite_47 rfl fl_X13_397 (c := 183) rfl (by decide) rfl rfl (fun M47 hM47 => ?_)
          have hR47 : mm_Rf M47 := by rw [hM47]; exact hRQ.up rfl
          refine mm_aload_n dX13_kite_50 rfl rfl ?_
          refine mm_iconst dX13_kite_51 rfl ?_
          refine mm_puti dX13_kite_52 rfl fl_X13_400 (c := 183) rfl (by decide) rfl rfl (fun M52 hM52 => ?_)
          have hR52 : mm_Rf M52 := by rw [hM52]; exact hR47.up rfl
          refine mm_aload_n dX13_kite_55 rfl rfl ?_
          refine mm_iconst dX13_kite_56 rfl ?_
          refine mm_puti dX13_kite_57 rfl fl_X13_403 (c := 183) rfl (by decide) rfl rfl (fun M57 hM57 => ?_)
          have hR57 : mm_Rf M57 := by rw [hM57]; exact hR52.up rfl
          refine mm_aload_n dX13_kite_60 rfl rfl ?_
          refine mm_iconst dX13_kite_61 rfl ?_
          refine mm_puti dX13_kite_62 rfl fl_X13_406 (c := 183) rfl (by decide) rfl rfl (fun M62 hM62 => ?_)
          have hR62 : mm_Rf M62 := by rw [hM62]; exact hR57.up rfl
          refine mm_aload_n dX13_kite_65 rfl rfl ?_
          refine mm_iconst dX13_kite_66 rfl ?_
          refine mm_puti dX13_kite_67 rfl fl_X13_409 (c := 183) rfl (by decide) rfl rfl (fun M67 hM67 => ?_)
          have hR67 : mm_Rf M67 := by rw [hM67]; exact hR62.up rfl
          refine mm_aload_n dX13_kite_70 rfl rfl ?_
          refine mm_iconst dX13_kite_71 rfl ?_
          refine mm_putz dX13_kite_72 rfl fl_X13_412 (c := 183) rfl (by decide) rfl rfl (Or.inl rfl) (fun M72 hM72 => ?_)
          have hR72 : mm_Rf M72 := by rw [hM72]; exact hR67.up rfl
          refine mm_iload_n dX13_kite_75 rfl rfl ?_
          refine mm_iret dX13_kite_76 rfl rfl ?_
          have w1 : ∀ a, a ≠ 183 → M72 a = Q a := by intro a ha; funext b; simp [hM72, hM67, hM62, hM57, hM52, hM47, mm_up, ha]
          have w2 : ∀ b, b ≠ 62 → b ≠ 88 → b ≠ 89 → ¬ (97 ≤ b ∧ b ≤ 99) → M72 183 b = Q 183 b := by
            intro b b1 b2 b3 b4
            have n1 : b ≠ 97 := by omega
            have n2 : b ≠ 98 := by omega
            have n3 : b ≠ 99 := by omega
            simp [hM72, hM67, hM62, hM57, hM52, hM47, mm_up, b1, b2, b3, n1, n2, n3]
          have x16 : M72 183 16 = T 183 17 := by rw [w2 16 (by decide) (by decide) (by decide) (by decide), q1 183 (by decide)]; exact u4
          have w3 : ∀ b, b ≠ 62 → b ≠ 88 → b ≠ 89 → ¬ (97 ≤ b ∧ b ≤ 99) → b ≠ 16 → b ≠ 20 → M72 183 b = T 183 b := by
            intro b b1 b2 b3 b4 b5 b6
            rw [w2 b b1 b2 b3 b4, q1 183 (by decide)]
            exact u2 b b5 b6
          have w4 : ∀ a, a ≠ 183 → a ≠ 186 → a ≠ 188 → a ≠ 190 → a ≠ 216 → M72 a = T a := by
            intro a a1 a2 a3 a4 a5
            rw [w1 a a1, q1 a a5]
            exact u1 a a1 a2 a3 a4
          have w189 : M72 189 = T 189 := w4 189 (by decide) (by decide) (by decide) (by decide) (by decide)
          rw [hEe]
          refine ⟨hR72, ?_, rfl, ?_, ?_, ⟨?_, ?_, d3, ?_, ?_⟩, ?_, ?_, ?_, ?_, ?_, ?_, ?_, ?_, ?_, ?_, ?_, ?_⟩
          · rw [w3 2 (by decide) (by decide) (by decide) (by decide) (by decide) (by decide), f2 2 (by decide) (by unfold kq_S; decide)]; exact g3
          · rw [w3 8 (by decide) (by decide) (by decide) (by decide) (by decide) (by decide)]; exact t8
          · rw [w3 9 (by decide) (by decide) (by decide) (by decide) (by decide) (by decide)]; exact t9
          · intro k hk; rw [mm_rk_r _ hk, w1 186 (by decide), q1 186 (by decide), u5 k hk]; exact d1 k hk
          · rw [mm_rk_n, x16]; exact d2
          · intro k hk; rw [mm_rk_l _ (show k < 3 by omega), w1 188 (by decide), q1 188 (by decide), u6 k (by omega)]; exact d4 k hk
          · intro k hk
            have : mm_rk M72 (30 + k) = M72 190 k := by
              unfold mm_rk
              rw [if_neg (by omega), if_neg (by omega), if_neg (by omega)]
              congr 1
              omega
            rw [this, w1 190 (by decide), q1 190 (by decide), u7 k hk]; exact d6 k hk
          · intro hB
            have hBT : kq_bd T := f3 (hB.fr (g1 189 (by decide)))
            refine ⟨hBT.fr w189, ?_⟩
            intro k hk; rw [w1 188 (by decide), q1 188 (by decide), u6 k hk]; exact hBT k hk
          · intro a a1 a2 a3; rw [w4 a a1 (by omega) (by omega) (by omega) a3, f1 a a1 (by unfold kq_A; omega)]; exact g1 a a1
          · intro b b1 b2 b3 b4 b5 b6 b7; rw [w3 b b4 b5 b6 b7 (by omega) b3, f2 b (by omega) (by unfold kq_S; omega)]; exact g2 b b1
          · rw [w2 20 (by decide) (by decide) (by decide) (by decide), q1 183 (by decide)]; exact u3
          · intro k hk; rw [w1 216 (by decide)]; exact q2 k (by omega)
          · intro k hk; rw [w1 216 (by decide), q3 k hk, u1 216 (by decide) (by decide) (by decide) (by decide), f1 216 (by decide) (by unfold kq_A; decide), g1 216 (by decide)]
          · simp [hM72, hM67, hM62, hM57, hM52, hM47, mm_up]
          · simp [hM72, hM67, hM62, hM57, hM52, hM47, mm_up]
          · simp [hM72, hM67, hM62, hM57, hM52, hM47, mm_up]
          · simp [hM72, hM67, hM62, hM57, hM52, hM47, mm_up]
          · simp [hM72, hM67, hM62, hM57, hM52, hM47, mm_up]
          · simp [hM72, hM67, hM62, hM57, hM52, hM47, mm_up]
        · exfalso; omega
    refine mm_istore_n dX13_kite_8 rfl (Nat.le_of_ble_eq_true rfl) rfl ?_
    refine mm_goto dX13_kite_9 ?_
    refine mm_aload_n dX13_kite_15 rfl rfl ?_
    refine mm_V0g (M1 := T) dX13_kite_16 rfl lk_X13_382 (c := 183) rfl (by decide) rfl  rfl rfl rfl (c_X13_takeKite hRT d5) ?_
    rintro _ N16 ⟨rfl, p16⟩
    change mm_J _ _ _ _ _ _ _ _ _ _
    have hR16 : mm_Rf N16 := p16.1
    obtain ⟨-, k1, k2, k3, k4, k5, k6⟩ := p16
    refine mm_aload_n dX13_kite_19 rfl rfl ?_
    refine mm_iconst dX13_kite_20 rfl ?_
    refine mm_puti dX13_kite_21 rfl fl_X13_394 (c := 183) rfl (by decide) rfl rfl (fun M21 hM21 => ?_)
    have hR21 : mm_Rf M21 := by rw [hM21]; exact hR16.up rfl
    refine mm_iconst dX13_kite_24 rfl ?_
    refine mm_istore_n dX13_kite_25 rfl (Nat.le_of_ble_eq_true rfl) rfl ?_
    refine loop _ hR21 ?_ ?_ ?_ ?_ ?_ ?_ ?_ 0 (Nat.zero_le _) _ hR21 (fun _ _ => rfl) (fun k hk => absurd hk (Nat.not_lt_zero k)) (fun _ _ => rfl)
    · intro a a1 a2 a3 a4; rw [hM21, mm_up_row a1]; exact k1 a a1 a2 a3 a4
    · intro b b1 b2; rw [hM21, mm_up_i b2]; exact k2 b b1
    · rw [hM21, mm_up_s]
    · rw [hM21, mm_up_i (by decide)]; exact k3
    · intro k hk; rw [hM21, mm_up_row (by decide)]; exact k4 k hk
    · intro k hk; rw [hM21, mm_up_row (by decide)]; exact k5 k hk
    · intro k hk; rw [hM21, mm_up_row (by decide)]; exact k6 k hk
  refine mm_aload_n dX13_kite_0 rfl rfl ?_
  refine mm_V0g (M1 := M) dX13_kite_1 rfl lk_X13_388 (c := 183) rfl (by decide) rfl  rfl rfl rfl (c_X13_begin hR hn hb) ?_
  rintro _ N1 ⟨rfl, p1⟩
  change mm_J _ _ _ _ _ _ _ _ _ _
  have hR1 : mm_Rf N1 := p1.1
  refine mm_aload_n dX13_kite_4 rfl rfl ?_
  obtain ⟨-, gg, gT, gH, g1, g2, g3, g4, g5⟩ := p1
  have e185 : N1 185 = M 185 := g1 185 (by decide)
  have hI : kq_I kq_A kq_S N1 N1 n 0 := ⟨hR1, ⟨fun _ _ _ => rfl, fun _ _ _ => rfl, id⟩, rfl, gT, Nat.zero_le _, gH⟩
  have cR := c_X13_readKite (X := X) hI Z
  rw [e185, ← hE] at cR
  refine mm_V0h dX13_kite_5 rfl lk_X13_391 (c := 183) rfl (by decide) rfl rfl rfl rfl rfl (by decide) cl_X13_237 (by decide) cR ?_
  rintro r T (⟨rfl, h1, k, s, h2, h3⟩ | ⟨x, rfl, h1, c, D, h2, rfl, h3, h4, h5, h6⟩)
  · exact ⟨rfl, bad N1 T k s h2 h1 g1 g2 g3 h3⟩
  · exact ok N1 T c D h2 h1 g1 g2 g3 (h5.trans g4) (h6.trans g5) h4 h3
end
end
