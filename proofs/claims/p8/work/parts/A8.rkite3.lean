/-! ===== the text of a kite, of the reference: readKite ===== -/
/-- which clauses are told -/
def kq_tl (N : mm_M) (t : Nat) : Prop := ∀ k, k < 12 → N 192 k = if t.testBit k = true then 1 else 0
theorem kq_rd.lift {M N : mm_M} {D D' : Nat → Int} {j : Nat} (h : kq_rd M D) (hL : kq_L (N 189) D D' 20 3 j) (hj : 1 ≤ j ∧ j ≤ 3) (h1 : N 187 = M 187) (h3 : N 191 = M 191) (h4 : N 183 17 = (j : Int)) (h5 : N 183 18 = M 183 18) : kq_rd N D' := by
  obtain ⟨a1, a2, a3, a4, a5, a6⟩ := h
  obtain ⟨l1, l2, l3, l4⟩ := hL
  have e10 := l4 rfl (by omega)
  refine ⟨?_, by rw [h4, e10], by omega, ?_, by rw [h5]; exact a5, ?_⟩
  · intro i hi; rw [h1, l3 i (by omega) (by omega)]; exact a1 i hi
  · intro i hi; exact l1 i (by omega)
  · intro i hi; rw [h3, h5, l3 (30 + i) (by omega) (by omega)]; exact a6 i hi
theorem kq_rd.win {M N : mm_M} {D D' : Nat → Int} {j : Nat} (h : kq_rd M D) (hL : kq_L (N 191) D D' 30 6 j) (hj : 1 ≤ j ∧ j ≤ 6) (h1 : N 187 = M 187) (h3 : N 189 = M 189) (h4 : N 183 18 = (j : Int)) (h5 : N 183 17 = M 183 17) : kq_rd N D' := by
  obtain ⟨a1, a2, a3, a4, a5, a6⟩ := h
  obtain ⟨l1, l2, l3, l4⟩ := hL
  have e10 : D' 10 = D 10 := l3 10 (by omega) (by omega)
  refine ⟨?_, by rw [h5, e10]; exact a2, by omega, ?_, by omega, ?_⟩
  · intro i hi; rw [h1, l3 i (by omega) (by omega)]; exact a1 i hi
  · intro i hi; rw [e10] at hi; rw [h3, l3 (20 + i) (by omega) (by omega)]; exact a4 i hi
  · intro i hi
    rw [h4]
    by_cases q : i < j
    · rw [show (min (i : Int) ((j : Int) - 1)).toNat = i by omega]; exact l1 i q
    · rw [show (min (i : Int) ((j : Int) - 1)).toNat = j - 1 by omega]; exact l2 (by omega) i (by omega) hi
theorem kq_rd.num {M N : mm_M} {D : Nat → Int} {j : Nat} {v : Int} (h : kq_rd M D) (hj : j < 10) (h1 : N 187 j = v) (h2 : ∀ i, i ≠ j → N 187 i = M 187 i) (h3 : N 189 = M 189) (h4 : N 191 = M 191) (h5 : N 183 17 = M 183 17) (h6 : N 183 18 = M 183 18) : kq_rd N (fun i => if i = j then v else D i) := by
  obtain ⟨a1, a2, a3, a4, a5, a6⟩ := h
  have e10 : (if (10 : Nat) = j then v else D 10) = D 10 := if_neg (by omega)
  refine ⟨?_, ?_, ?_, ?_, by rw [h6]; exact a5, ?_⟩
  · intro i hi
    show N 187 i = if i = j then v else D i
    by_cases q : i = j
    · rw [if_pos q, q, h1]
    · rw [if_neg q, h2 i q]; exact a1 i hi
  · show N 183 17 = if 10 = j then v else D 10
    rw [e10, h5]; exact a2
  · show 1 ≤ (if 10 = j then v else D 10) ∧ (if 10 = j then v else D 10) ≤ 3
    rw [e10]; exact a3
  · intro i hi
    have hi' : (i : Int) < if 10 = j then v else D 10 := hi
    rw [e10] at hi'
    show N 189 i = if 20 + i = j then v else D (20 + i)
    rw [if_neg (by omega), h3]; exact a4 i hi'
  · intro i hi
    show N 191 _ = if 30 + i = j then v else D (30 + i)
    rw [if_neg (by omega), h4, h6]; exact a6 i hi
theorem kq_S37 : ∀ b, 3 ≤ b → b ≤ 7 → ¬ kq_S b := by intro b b1 b2; unfold kq_S; omega
theorem kq_A185 : ¬ kq_A 185 := by unfold kq_A; omega
section
variable {X : mm_X} {M N : mm_M} {n p : Nat}
theorem c_X13_readKite (hI : kq_I kq_A kq_S M N n 0) (Z : Nat → Int) : mm_C X Y_X13_readKite 243 243 [(2, 184)] N (fun r M' =>
    (r = (4, 185) ∧ mm_Rf M' ∧ ∃ k s, kp_text (M 185) n 13 0 0 0 (kp_D0 Z) = .error (k, s) ∧ kq_X kq_A kq_S M M' k s) ∨
    (∃ x, r = (0, x) ∧ mm_Rf M' ∧ ∃ (c : Nat) (D : Nat → Int), kp_text (M 185) n 13 0 0 0 (kp_D0 Z) = .ok (c, D) ∧ x = (c : Int) ∧ kq_rd M' D ∧ kq_F kq_A kq_S M M' ∧ M' 183 8 = N 183 8 ∧ M' 183 9 = N 183 9)) := by
  obtain ⟨E, hE⟩ : ∃ E, E = kp_text (M 185) n 13 0 0 0 (kp_D0 Z) := ⟨_, rfl⟩
  rw [← hE]
  obtain ⟨Φ, hΦ⟩ : ∃ Φ : mm_V → mm_M → Prop, Φ = (fun r M' =>
    (r = (4, 185) ∧ mm_Rf M' ∧ ∃ k s, E = .error (k, s) ∧ kq_X kq_A kq_S M M' k s) ∨
    (∃ x, r = (0, x) ∧ mm_Rf M' ∧ ∃ (c : Nat) (D : Nat → Int), E = .ok (c, D) ∧ x = (c : Int) ∧ kq_rd M' D ∧ kq_F kq_A kq_S M M' ∧ M' 183 8 = N 183 8 ∧ M' 183 9 = N 183 9)) := ⟨_, rfl⟩
  rw [← hΦ]
  have thr : ∀ (k : Int) (s : Nat) (T : mm_M), E = .error (k, s) → mm_Rf T → kq_X kq_A kq_S M T k s → Φ (4, 185) T := by
    intro k s T h1 h2 h3
    rw [hΦ]
    exact Or.inl ⟨rfl, h2, k, s, h1, h3⟩
  refine mm_start (ls := [(2, 184), (9, 0), (9, 0)]) rfl ?_
  have loop : ∀ c : Nat, c ≤ 12 → ∀ (Q : mm_M) (p t : Nat) (D : Nat → Int) (l2 : mm_V), kq_I kq_A kq_S M Q n p → kq_rd Q D → kq_tl Q t → t < 4096 → kx_m t 12 = c → Q 183 8 = N 183 8 → Q 183 9 = N 183 9 → kp_text (M 185) n (13 - c) c p t D = E →
      mm_J X Y_X13_readKite 243 243 243 6 [(2, 184), (0, (c : Int)), l2] [] Q Φ := by
    refine mm_lp ?_
    intro c hc ih Q p t D l2 hQ hD ht ht4 hm q8 q9 hL
    have hRQ := hQ.1
    have hpn := hQ.2.2.2.2.1
    have hkb := kt_kb (B := M 185) (n := n) (p := p)
    have hnb := kp_nmb (B := M 185) (n := n) (p := p)
    have hk1 := (kq_hd hQ).1
    rw [show 13 - c = (12 - c) + 1 by omega, kp_text] at hL
    -- the semicolon
    have cl : ∀ (T : mm_M) (p' t' : Nat) (D' : Nat → Int) (e : kp_E) (l2 : mm_V), c < 12 → kq_I kq_A kq_S M T n p' → kq_rd T D' → kq_tl T t' → t' < 4096 → kx_m t' 12 = ((c + 1 : Nat) : Int) → T 183 8 = N 183 8 → T 183 9 = N 183 9 →
        e = (if kt_k (M 185) n p' = 3 then .ok (kt_e (M 185) n p', D') else .error (1, kt_s (M 185) n p')) → (match e with | .error f => (.error f : kp_E) | .ok (p', D') => kp_text (M 185) n (12 - c) (c + 1) p' t' D') = E →
        mm_J X Y_X13_readKite 243 243 243 132 [(2, 184), (0, (c : Int)), l2] [] T Φ := by
      intro T p' t' D' e l2 hc12 hT hDT htT ht4' hm' t8 t9 he hL
      have hRT := hT.1
      refine mm_aload_n dX13_readKite_132 rfl rfl ?_
      refine mm_V0g (M1 := T) dX13_readKite_133 rfl lk_X13_148 (c := 183) rfl (by decide) rfl  rfl rfl rfl (kq_close hT) ?_
      rintro _ N133 (⟨rfl, p133⟩ | ⟨rfl, p133⟩)
      · refine ⟨rfl, rfl, ?_⟩
        rw [he, if_neg p133.2.1] at hL
        exact thr _ _ _ hL.symm p133.1 p133.2.2.1
      change mm_J _ _ _ _ _ _ _ _ _ _
      have hR133 : mm_Rf N133 := p133.1
      obtain ⟨-, h3, hI3, u1, u2⟩ := p133
      rw [he, if_pos h3] at hL
      refine mm_iinc dX13_readKite_136 rfl rfl (Nat.le_of_ble_eq_true rfl) rfl ?_
      refine mm_goto dX13_readKite_139 ?_
      refine ih hc12 _ _ t' D' _ hI3 (hDT.fr (u1 _ (by decide)) (u1 _ (by decide)) (u1 _ (by decide)) (u2 _ (by decide)) (u2 _ (by decide))) ?_ ht4' hm' ?_ ?_ ?_
      · intro k hk; rw [u1 192 (by decide)]; exact htT k hk
      · rw [u2 8 (by decide)]; exact t8
      · rw [u2 9 (by decide)]; exact t9
      · rw [show 13 - (c + 1) = 12 - c by omega]; exact hL
    have ca := c_X13_clauseAtHand (X := X) hQ.1 hQ.2.2.2.1 hpn hQ.2.2.2.2.2
    rw [hQ.tp] at ca
    refine mm_aload_n dX13_readKite_6 rfl rfl ?_
    refine mm_get (kd := 0) dX13_readKite_7 rfl fl_X13_37 (c := 183) rfl (by decide) rfl rfl ?_
    obtain ⟨v7, hv7⟩ : ∃ v, v = Q 183 6 := ⟨_, rfl⟩
    rw [← hv7]
    rw [hk1] at hv7
    subst hv7
    refine mm_ifeq dX13_readKite_10 (by omega) (fun h10 => ?_) (fun h10 => ?_)
    · refine mm_iload_n dX13_readKite_142 rfl rfl ?_
      refine mm_iret dX13_readKite_143 rfl rfl ?_
      rw [hΦ]
      rw [if_pos h10] at hL
      exact Or.inr ⟨_, rfl, hRQ, c, D, hL.symm, rfl, hD, hQ.2.1, q8, q9⟩
    · refine mm_aload_n dX13_readKite_13 rfl rfl ?_
      refine mm_V0i dX13_readKite_14 rfl lk_X13_132 (c := 183) rfl (by decide) rfl  rfl rfl rfl (ca) ?_
      refine mm_istore_n dX13_readKite_17 rfl (Nat.le_of_ble_eq_true rfl) rfl ?_
      refine mm_aload_n dX13_readKite_18 rfl rfl ?_
      refine mm_iload_n dX13_readKite_19 rfl rfl ?_
      refine mm_iconst dX13_readKite_20 rfl ?_
      refine mm_iceq_z (q2 := 29) dX13_readKite_21 (by omega) (by omega) (fun k => mm_iconst dX13_readKite_28 rfl k) (fun k => mm_iconst dX13_readKite_24 rfl (mm_goto dX13_readKite_25 k)) ?_
      refine mm_iconst dX13_readKite_29 rfl ?_
      refine mm_V2g (M1 := Q) dX13_readKite_30 rfl lk_X13_63 (c := 183) rfl (by decide) rfl (by simp) (by simp) rfl rfl rfl (kq_need hQ) ?_
      rintro _ N30 (⟨rfl, p30⟩ | ⟨rfl, p30⟩)
      · refine ⟨rfl, rfl, ?_⟩
        rw [if_neg h10, if_pos (by have := p30.2.1; omega)] at hL
        exact thr _ _ _ hL.symm p30.1 p30.2.2.1
      change mm_J _ _ _ _ _ _ _ _ _ _
      have hR30 : mm_Rf N30 := p30.1
      obtain ⟨-, hne, eN⟩ := p30
      rw [eN]
      rw [if_neg h10, if_neg (by omega)] at hL
      obtain ⟨nm, hnm⟩ : ∃ nm : Nat, kp_nm (M 185) n p 0 = (nm : Int) := ⟨_, (Int.toNat_of_nonneg (by omega)).symm⟩
      rw [hnm, Int.toNat_natCast] at hL
      rw [hnm] at hnb hne
      rw [hnm]
      have htn := ht nm (by omega)
      refine mm_aload_n dX13_readKite_33 rfl rfl ?_
      refine mm_aload_n dX13_readKite_34 rfl rfl ?_
      refine mm_getr dX13_readKite_35 rfl fl_X13_97 (c := 183) rfl (by decide) rfl rfl (hRQ.at (c := 183) (i := 19) (v := 193) rfl (by decide)) ?_
      refine mm_iload_n dX13_readKite_38 rfl rfl ?_
      refine mm_zalk (k0 := nm) dX13_readKite_39 rfl (c := 192) rfl (by decide) rfl (by omega) (by omega) ?_
      rw [htn]
      refine mm_ifne_z (q2 := 48) dX13_readKite_40 (by split <;> omega) (fun k => mm_iconst dX13_readKite_47 rfl k) (fun k => mm_iconst dX13_readKite_43 rfl (mm_goto dX13_readKite_44 k)) ?_
      refine mm_iconst dX13_readKite_48 rfl ?_
      refine mm_V2g (M1 := Q) dX13_readKite_49 rfl lk_X13_63 (c := 183) rfl (by decide) rfl (by simp) (by simp) rfl rfl rfl (kq_need hQ) ?_
      rintro _ N49 (⟨rfl, p49⟩ | ⟨rfl, p49⟩)
      · refine ⟨rfl, rfl, ?_⟩
        have hb := p49.2.1
        by_cases q : t.testBit nm = true
        · rw [if_pos q] at hL
          exact thr _ _ _ hL.symm p49.1 p49.2.2.1
        · rw [if_neg q] at hb
          exact absurd rfl hb
      change mm_J _ _ _ _ _ _ _ _ _ _
      have hR49 : mm_Rf N49 := p49.1
      obtain ⟨-, hno, eN2⟩ := p49
      rw [eN2]
      have hno : ¬ t.testBit nm = true := by
        intro q
        rw [if_pos q] at hno
        exact absurd hno (by decide)
      rw [if_neg hno] at hL
      have hlt := kx_m_lt hno (show nm < 12 by omega)
      have hor := kx_m_or hno (show nm < 12 by omega)
      have p2 : 2 ^ nm < 4096 := Nat.lt_of_lt_of_le (Nat.pow_lt_pow_right (by decide) (show nm < 12 by omega)) (by decide)
      have ho : t ||| 2 ^ nm < 4096 := Nat.or_lt_two_pow (n := 12) ht4 p2
      have hm' : kx_m (t ||| 2 ^ nm) 12 = ((c + 1 : Nat) : Int) := by omega
      refine mm_aload_n dX13_readKite_52 rfl rfl ?_
      refine mm_getr dX13_readKite_53 rfl fl_X13_97 (c := 183) rfl (by decide) rfl rfl (hRQ.at (c := 183) (i := 19) (v := 193) rfl (by decide)) ?_
      refine mm_iload_n dX13_readKite_56 rfl rfl ?_
      refine mm_iconst dX13_readKite_57 rfl ?_
      refine mm_zstk (k0 := nm) dX13_readKite_58 rfl (c := 192) rfl (by decide) rfl (by omega) (by omega) (Or.inr rfl) (fun M58 hM58 => ?_)
      have hR58 : mm_Rf M58 := by rw [hM58]; exact hRQ.up (mm_rt_ar (t := 2) rfl (by decide))
      refine mm_aload_n dX13_readKite_59 rfl rfl ?_
      have hI5 : kq_I kq_A kq_S M M58 n p := by rw [hM58]; exact hQ.up (by unfold kq_A; omega) (by decide) kq_A185 kq_S37 (mm_rt_ar (t := 2) rfl (by decide)) (fun z => absurd z (by decide))
      have hD5 : kq_rd M58 D := hD.fr (by rw [hM58, mm_up_row (by decide)]) (by rw [hM58, mm_up_row (by decide)]) (by rw [hM58, mm_up_row (by decide)]) (by rw [hM58, mm_up_row (by decide)]) (by rw [hM58, mm_up_row (by decide)])
      have ht5 : kq_tl M58 (t ||| 2 ^ nm) := by
        intro k hk
        rw [Nat.testBit_or, Nat.testBit_two_pow]
        by_cases q : k = nm
        · rw [hM58, q, mm_up_s, if_pos (by simp)]
        · rw [hM58, mm_up_i q, decide_eq_false (fun z => q z.symm), Bool.or_false]; exact ht k hk
      refine mm_V0g (M1 := M58) dX13_readKite_60 rfl lk_X13_71 (c := 183) rfl (by decide) rfl  rfl rfl rfl (kq_sc hI5) ?_
      rintro _ N60 ⟨rfl, p60⟩
      change mm_J _ _ _ _ _ _ _ _ _ _
      have hR60 : mm_Rf N60 := p60.1
      obtain ⟨-, hI6, u1, u2⟩ := p60
      have hD6 : kq_rd N60 D := hD5.fr (u1 _ (by decide)) (u1 _ (by decide)) (u1 _ (by decide)) (u2 _ (by decide)) (u2 _ (by decide))
      have ht6 : kq_tl N60 (t ||| 2 ^ nm) := fun k hk => by rw [u1 192 (by decide)]; exact ht5 k hk
      have e8 : N60 183 8 = N 183 8 := by rw [u2 8 (by decide), hM58, mm_up_row (by decide)]; exact q8
      have e9 : N60 183 9 = N 183 9 := by rw [u2 9 (by decide), hM58, mm_up_row (by decide)]; exact q9
      obtain ⟨e, he⟩ : ∃ e, e = kp_clause (M 185) n nm (kt_e (M 185) n p) D := ⟨_, rfl⟩
      rw [← he] at hL
      unfold kp_clause at he
      refine mm_iload_n dX13_readKite_63 rfl rfl ?_
      refine mm_bipush dX13_readKite_64 rfl (by decide) ?_
      refine mm_icne dX13_readKite_66 (by omega) (by omega) (fun h66 => ?_) (fun h66 => ?_)
      · refine mm_iload_n dX13_readKite_87 rfl rfl ?_
        refine mm_bipush dX13_readKite_88 rfl (by decide) ?_
        refine mm_icle dX13_readKite_90 (by omega) (by omega) (fun h90 => ?_) (fun h90 => ?_)
        · refine mm_aload_n dX13_readKite_112 rfl rfl ?_
          refine mm_getr dX13_readKite_113 rfl fl_X13_78 (c := 183) rfl (by decide) rfl rfl (hR60.at (c := 183) (i := 11) (v := 188) rfl (by decide)) ?_
          refine mm_iload_n dX13_readKite_116 rfl rfl ?_
          refine mm_aload_n dX13_readKite_117 rfl rfl ?_
          refine mm_gets (k0 := 4) dX13_readKite_118 rfl (by decide) sf_X13_139 ?_
          refine mm_iload_n dX13_readKite_121 rfl rfl ?_
          refine mm_iark (k1 := 6) (k0 := nm) dX13_readKite_122 rfl rfl (by decide) (by omega) (by (show nm < 10); omega) (Nat.le_of_ble_eq_true rfl) ?_
          refine mm_gets (k0 := 5) dX13_readKite_123 rfl (by decide) sf_X13_142 ?_
          refine mm_iload_n dX13_readKite_126 rfl rfl ?_
          refine mm_iark (k1 := 7) (k0 := nm) dX13_readKite_127 rfl rfl (by decide) (by omega) (by (show nm < 10); omega) (Nat.le_of_ble_eq_true rfl) ?_
          rw [if_neg (by omega), if_neg (by omega)] at he
          have hlh := kp_lohi (show nm < 10 by omega)
          have elo : (mm_rc X 6).2 nm = kp_lo.getD nm 0 := (kp_lo_at (show nm < 10 by omega)).1
          have ehi : (mm_rc X 7).2 nm = kp_hi.getD nm 0 := (kp_lo_at (show nm < 10 by omega)).2
          rw [elo, ehi]
          refine mm_V2g (M1 := N60) dX13_readKite_128 rfl lk_X13_145 (c := 183) rfl (by decide) rfl (by simp) (by simp) rfl rfl rfl (kq_num hI6 (by omega) (by omega)) ?_
          rintro _ N128 (⟨rfl, p128⟩ | ⟨x128, rfl, p128⟩)
          · refine ⟨rfl, rfl, ?_⟩
            obtain ⟨r1, r2, r3, -⟩ := p128
            by_cases q : kt_k (M 185) n (kt_e (M 185) n p) = 2
            · rw [if_neg (fun z => z q), if_pos (fun z => r2 ⟨q, z⟩)] at he
              rw [if_pos q] at r3
              rw [he] at hL
              exact thr _ _ _ hL.symm r1 r3
            · rw [if_pos q] at he
              rw [if_neg q] at r3
              rw [he] at hL
              exact thr _ _ _ hL.symm r1 r3
          change mm_J _ _ _ _ _ _ _ _ _ _
          have hR128 : mm_Rf N128 := p128.1
          obtain ⟨-, r2, r3, hI7, v1, v2⟩ := p128
          rw [if_neg (fun z => z r2.1), if_neg (fun z => z r2.2)] at he
          refine mm_istk (k0 := nm) dX13_readKite_131 rfl (c := 187) rfl (by decide) rfl (by omega) (by omega) (fun M131 hM131 => ?_)
          have hR131 : mm_Rf M131 := by rw [hM131]; exact hR128.up (mm_rt_ar (t := 0) rfl (by decide))
          first
          | (refine cl _ p' (t ||| 2 ^ nm) D' e _ (by omega) (by rw [hM81]; exact hI7.uf (Or.inl rfl) kq_A185 kq_S37 rfl) (hD6.lift (j := j) (by rw [hM81, mm_up_row (by decide)]; exact hL7) ⟨j1, j3⟩ ?_ ?_ ?_ ?_) ?_ ho hm' ?_ ?_ he hL
             · rw [hM81, mm_up_row (by decide)]; exact v1 _ (by decide) (by decide)
             · rw [hM81, mm_up_row (by decide)]; exact v1 _ (by decide) (by decide)
             · rw [hM81, mm_up_s]; exact hj
             · rw [hM81, mm_up_i (by decide)]; exact v2 _ (by decide)
             · intro k hk; rw [hM81, mm_up_row (by decide), v1 192 (by decide) (by decide)]; exact ht6 k hk
             · rw [hM81, mm_up_i (by decide), v2 8 (by decide)]; exact e8
             · rw [hM81, mm_up_i (by decide), v2 9 (by decide)]; exact e9)
          | (refine cl _ p' (t ||| 2 ^ nm) D' e _ (by omega) (by rw [hM106]; exact hI7.uf (Or.inr rfl) kq_A185 kq_S37 rfl) (hD6.win (j := j) (by rw [hM106, mm_up_row (by decide)]; exact hL7) ⟨j1, j3⟩ ?_ ?_ ?_ ?_) ?_ ho hm' ?_ ?_ he hL
             · rw [hM106, mm_up_row (by decide)]; exact v1 _ (by decide) (by decide)
             · rw [hM106, mm_up_row (by decide)]; exact v1 _ (by decide) (by decide)
             · rw [hM106, mm_up_s]; exact hj
             · rw [hM106, mm_up_i (by decide)]; exact v2 _ (by decide)
             · intro k hk; rw [hM106, mm_up_row (by decide), v1 192 (by decide) (by decide)]; exact ht6 k hk
             · rw [hM106, mm_up_i (by decide), v2 8 (by decide)]; exact e8
             · rw [hM106, mm_up_i (by decide), v2 9 (by decide)]; exact e9)
          | (refine cl _ _ (t ||| 2 ^ nm) (fun i => if i = nm then kt_v (M 185) n (kt_e (M 185) n p) else D i) e _ (by omega) (by rw [hM131]; exact hI7.up (Or.inl rfl) (by decide) kq_A185 kq_S37 (mm_rt_ar (t := 0) rfl (by decide)) (fun z => absurd z (by decide))) (hD6.num (j := nm) (by omega) ?_ ?_ ?_ ?_ ?_ ?_) ?_ ho hm' ?_ ?_ ?_ hL
             · rw [hM131, mm_up_s, r3]
             · intro i hi; rw [hM131, mm_up_i hi, v1 187 (by decide)]
             · rw [hM131, mm_up_row (by decide)]; exact v1 _ (by decide)
             · rw [hM131, mm_up_row (by decide)]; exact v1 _ (by decide)
             · rw [hM131, mm_up_row (by decide)]; exact v2 _ (by decide)
             · rw [hM131, mm_up_row (by decide)]; exact v2 _ (by decide)
             · intro k hk; rw [hM131, mm_up_row (by decide), v1 192 (by decide)]; exact ht6 k hk
             · rw [hM131, mm_up_row (by decide), v2 8 (by decide)]; exact e8
             · rw [hM131, mm_up_row (by decide), v2 9 (by decide)]; exact e9
             · rw [he]
               by_cases q : kt_k (M 185) n (kt_e (M 185) n (kt_e (M 185) n p)) = 3
               · rw [if_neg (fun z => z q), if_pos q]
               · rw [if_pos q, if_neg q])
        · refine mm_aload_n dX13_readKite_93 rfl rfl ?_
          refine mm_aload_n dX13_readKite_94 rfl rfl ?_
          refine mm_aload_n dX13_readKite_95 rfl rfl ?_
          refine mm_getr dX13_readKite_96 rfl fl_X13_91 (c := 183) rfl (by decide) rfl rfl (hR60.at (c := 183) (i := 15) (v := 192) rfl (by decide)) ?_
          refine mm_bipush dX13_readKite_99 rfl (by decide) ?_
          refine mm_bipush dX13_readKite_101 rfl (by decide) ?_
          refine mm_V3g (M1 := N60) dX13_readKite_103 rfl lk_X13_135 (c := 183) rfl (by decide) rfl (by simp) (by simp) (by simp) rfl rfl rfl ((c_X13_readRow (t := 191) (pl := 30) (room := 6) (most := 100) (Or.inr ⟨rfl, rfl, rfl, rfl⟩) hI6 D)) ?_
          rintro _ N103 (⟨rfl, p103⟩ | ⟨x103, rfl, p103⟩)
          · refine ⟨rfl, rfl, ?_⟩
            obtain ⟨r1, k, s, r2, r3⟩ := p103
            rw [if_neg (by omega), if_pos (by omega), r2] at he
            rw [he] at hL
            exact thr _ _ _ hL.symm r1 r3
          change mm_J _ _ _ _ _ _ _ _ _ _
          have hR103 : mm_Rf N103 := p103.1
          obtain ⟨-, j, hj, j1, j3, p', D', hI7, hL7, v1, v2, v3⟩ := p103
          rw [if_neg (by omega), if_pos (by omega), v3] at he
          refine mm_puti dX13_readKite_106 rfl fl_X13_94 (c := 183) rfl (by decide) rfl rfl (fun M106 hM106 => ?_)
          have hR106 : mm_Rf M106 := by rw [hM106]; exact hR103.up rfl
          refine mm_goto dX13_readKite_109 ?_
          first
          | (refine cl _ p' (t ||| 2 ^ nm) D' e _ (by omega) (by rw [hM81]; exact hI7.uf (Or.inl rfl) kq_A185 kq_S37 rfl) (hD6.lift (j := j) (by rw [hM81, mm_up_row (by decide)]; exact hL7) ⟨j1, j3⟩ ?_ ?_ ?_ ?_) ?_ ho hm' ?_ ?_ he hL
             · rw [hM81, mm_up_row (by decide)]; exact v1 _ (by decide) (by decide)
             · rw [hM81, mm_up_row (by decide)]; exact v1 _ (by decide) (by decide)
             · rw [hM81, mm_up_s]; exact hj
             · rw [hM81, mm_up_i (by decide)]; exact v2 _ (by decide)
             · intro k hk; rw [hM81, mm_up_row (by decide), v1 192 (by decide) (by decide)]; exact ht6 k hk
             · rw [hM81, mm_up_i (by decide), v2 8 (by decide)]; exact e8
             · rw [hM81, mm_up_i (by decide), v2 9 (by decide)]; exact e9)
          | (refine cl _ p' (t ||| 2 ^ nm) D' e _ (by omega) (by rw [hM106]; exact hI7.uf (Or.inr rfl) kq_A185 kq_S37 rfl) (hD6.win (j := j) (by rw [hM106, mm_up_row (by decide)]; exact hL7) ⟨j1, j3⟩ ?_ ?_ ?_ ?_) ?_ ho hm' ?_ ?_ he hL
             · rw [hM106, mm_up_row (by decide)]; exact v1 _ (by decide) (by decide)
             · rw [hM106, mm_up_row (by decide)]; exact v1 _ (by decide) (by decide)
             · rw [hM106, mm_up_s]; exact hj
             · rw [hM106, mm_up_i (by decide)]; exact v2 _ (by decide)
             · intro k hk; rw [hM106, mm_up_row (by decide), v1 192 (by decide) (by decide)]; exact ht6 k hk
             · rw [hM106, mm_up_i (by decide), v2 8 (by decide)]; exact e8
             · rw [hM106, mm_up_i (by decide), v2 9 (by decide)]; exact e9)
          | (refine cl _ _ (t ||| 2 ^ nm) (fun i => if i = nm then kt_v (M 185) n (kt_e (M 185) n p) else D i) e _ (by omega) (by rw [hM131]; exact hI7.up (Or.inl rfl) (by decide) kq_A185 kq_S37 (mm_rt_ar (t := 0) rfl (by decide)) (fun z => absurd z (by decide))) (hD6.num (j := nm) (by omega) ?_ ?_ ?_ ?_ ?_ ?_) ?_ ho hm' ?_ ?_ ?_ hL
             · rw [hM131, mm_up_s, r3]
             · intro i hi; rw [hM131, mm_up_i hi, v1 187 (by decide)]
             · rw [hM131, mm_up_row (by decide)]; exact v1 _ (by decide)
             · rw [hM131, mm_up_row (by decide)]; exact v1 _ (by decide)
             · rw [hM131, mm_up_row (by decide)]; exact v2 _ (by decide)
             · rw [hM131, mm_up_row (by decide)]; exact v2 _ (by decide)
             · intro k hk; rw [hM131, mm_up_row (by decide), v1 192 (by decide)]; exact ht6 k hk
             · rw [hM131, mm_up_row (by decide), v2 8 (by decide)]; exact e8
             · rw [hM131, mm_up_row (by decide), v2 9 (by decide)]; exact e9
             · rw [he]
               by_cases q : kt_k (M 185) n (kt_e (M 185) n (kt_e (M 185) n p)) = 3
               · rw [if_neg (fun z => z q), if_pos q]
               · rw [if_pos q, if_neg q])
      · refine mm_aload_n dX13_readKite_69 rfl rfl ?_
        refine mm_aload_n dX13_readKite_70 rfl rfl ?_
        refine mm_aload_n dX13_readKite_71 rfl rfl ?_
        refine mm_getr dX13_readKite_72 rfl fl_X13_85 (c := 183) rfl (by decide) rfl rfl (hR60.at (c := 183) (i := 13) (v := 190) rfl (by decide)) ?_
        refine mm_iconst dX13_readKite_75 rfl ?_
        refine mm_bipush dX13_readKite_76 rfl (by decide) ?_
        refine mm_V3g (M1 := N60) dX13_readKite_78 rfl lk_X13_135 (c := 183) rfl (by decide) rfl (by simp) (by simp) (by simp) rfl rfl rfl ((c_X13_readRow (t := 189) (pl := 20) (room := 3) (most := 99) (Or.inl ⟨rfl, rfl, rfl, rfl⟩) hI6 D)) ?_
        rintro _ N78 (⟨rfl, p78⟩ | ⟨x78, rfl, p78⟩)
        · refine ⟨rfl, rfl, ?_⟩
          obtain ⟨r1, k, s, r2, r3⟩ := p78
          rw [if_pos (by omega), r2] at he
          rw [he] at hL
          exact thr _ _ _ hL.symm r1 r3
        change mm_J _ _ _ _ _ _ _ _ _ _
        have hR78 : mm_Rf N78 := p78.1
        obtain ⟨-, j, hj, j1, j3, p', D', hI7, hL7, v1, v2, v3⟩ := p78
        rw [if_pos (by omega), v3] at he
        refine mm_puti dX13_readKite_81 rfl fl_X13_88 (c := 183) rfl (by decide) rfl rfl (fun M81 hM81 => ?_)
        have hR81 : mm_Rf M81 := by rw [hM81]; exact hR78.up rfl
        refine mm_goto dX13_readKite_84 ?_
        first
        | (refine cl _ p' (t ||| 2 ^ nm) D' e _ (by omega) (by rw [hM81]; exact hI7.uf (Or.inl rfl) kq_A185 kq_S37 rfl) (hD6.lift (j := j) (by rw [hM81, mm_up_row (by decide)]; exact hL7) ⟨j1, j3⟩ ?_ ?_ ?_ ?_) ?_ ho hm' ?_ ?_ he hL
           · rw [hM81, mm_up_row (by decide)]; exact v1 _ (by decide) (by decide)
           · rw [hM81, mm_up_row (by decide)]; exact v1 _ (by decide) (by decide)
           · rw [hM81, mm_up_s]; exact hj
           · rw [hM81, mm_up_i (by decide)]; exact v2 _ (by decide)
           · intro k hk; rw [hM81, mm_up_row (by decide), v1 192 (by decide) (by decide)]; exact ht6 k hk
           · rw [hM81, mm_up_i (by decide), v2 8 (by decide)]; exact e8
           · rw [hM81, mm_up_i (by decide), v2 9 (by decide)]; exact e9)
        | (refine cl _ p' (t ||| 2 ^ nm) D' e _ (by omega) (by rw [hM106]; exact hI7.uf (Or.inr rfl) kq_A185 kq_S37 rfl) (hD6.win (j := j) (by rw [hM106, mm_up_row (by decide)]; exact hL7) ⟨j1, j3⟩ ?_ ?_ ?_ ?_) ?_ ho hm' ?_ ?_ he hL
           · rw [hM106, mm_up_row (by decide)]; exact v1 _ (by decide) (by decide)
           · rw [hM106, mm_up_row (by decide)]; exact v1 _ (by decide) (by decide)
           · rw [hM106, mm_up_s]; exact hj
           · rw [hM106, mm_up_i (by decide)]; exact v2 _ (by decide)
           · intro k hk; rw [hM106, mm_up_row (by decide), v1 192 (by decide) (by decide)]; exact ht6 k hk
           · rw [hM106, mm_up_i (by decide), v2 8 (by decide)]; exact e8
           · rw [hM106, mm_up_i (by decide), v2 9 (by decide)]; exact e9)
        | (refine cl _ _ (t ||| 2 ^ nm) (fun i => if i = nm then kt_v (M 185) n (kt_e (M 185) n p) else D i) e _ (by omega) (by rw [hM131]; exact hI7.up (Or.inl rfl) (by decide) kq_A185 kq_S37 (mm_rt_ar (t := 0) rfl (by decide)) (fun z => absurd z (by decide))) (hD6.num (j := nm) (by omega) ?_ ?_ ?_ ?_ ?_ ?_) ?_ ho hm' ?_ ?_ ?_ hL
           · rw [hM131, mm_up_s, r3]
           · intro i hi; rw [hM131, mm_up_i hi, v1 187 (by decide)]
           · rw [hM131, mm_up_row (by decide)]; exact v1 _ (by decide)
           · rw [hM131, mm_up_row (by decide)]; exact v1 _ (by decide)
           · rw [hM131, mm_up_row (by decide)]; exact v2 _ (by decide)
           · rw [hM131, mm_up_row (by decide)]; exact v2 _ (by decide)
           · intro k hk; rw [hM131, mm_up_row (by decide), v1 192 (by decide)]; exact ht6 k hk
           · rw [hM131, mm_up_row (by decide), v2 8 (by decide)]; exact e8
           · rw [hM131, mm_up_row (by decide), v2 9 (by decide)]; exact e9
           · rw [he]
             by_cases q : kt_k (M 185) n (kt_e (M 185) n (kt_e (M 185) n p)) = 3
             · rw [if_neg (fun z => z q), if_pos q]
             · rw [if_pos q, if_neg q])
  have hRN := hI.1
  refine mm_aload_n dX13_readKite_0 rfl rfl ?_
  refine mm_V0g (M1 := N) dX13_readKite_1 rfl lk_X13_129 (c := 183) rfl (by decide) rfl  rfl rfl rfl (c_X13_plain hRN) ?_
  rintro _ N1 ⟨rfl, p1⟩
  change mm_J _ _ _ _ _ _ _ _ _ _
  have hR1 : mm_Rf N1 := p1.1
  refine mm_iconst dX13_readKite_4 rfl ?_
  refine mm_istore_n dX13_readKite_5 rfl (Nat.le_of_ble_eq_true rfl) rfl ?_
  obtain ⟨-, f1, f2, fB, f3, f4⟩ := p1
  refine loop 0 (Nat.zero_le _) N1 0 0 (kp_D0 Z) _ (hI.fr hR1 f1 f2 kq_S37 kq_A185 fB) (f3 Z) ?_ (by decide) (by decide) (f2 8 (by unfold kq_S; omega)) (f2 9 (by unfold kq_S; omega)) hE.symm
  intro k hk
  rw [f4 k hk, if_neg (by simp)]
end

