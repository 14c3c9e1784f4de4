/-! ===== the text of a kite, of the class: clauses to the end ===== -/
theorem kt_fb {T : Nat → Int} {len : Nat} : ∀ (bs : List Int) (w o : Nat) (z : Bool), -1 ≤ kt_f T len bs w o z ∧ kt_f T len bs w o z ≤ (w : Int) + (bs.count 32 : Nat)
  | [], w, o, z => by unfold kt_f; split <;> simp <;> omega
  | b :: bs, w, o, z => by
    unfold kt_f
    by_cases h : b = 32
    · rw [if_pos h, h, List.count_cons_self]
      split
      · omega
      · have := kt_fb (T := T) (len := len) bs (w + 1) 0 true
        omega
    · rw [if_neg h, List.count_cons_of_ne h]
      exact kt_fb bs w (o + 1) _
theorem kp_nmb {B : Nat → Int} {n p : Nat} : -1 ≤ kp_nm B n p 0 ∧ kp_nm B n p 0 < 12 := by
  unfold kp_nm
  split
  · have := kt_fb (T := fun j => B (kt_s B n p + j)) (len := kt_e B n p - kt_s B n p) (mm_sc.getD 0 mm_sd).2.2.2 0 0 true
    have e : (mm_sc.getD 0 mm_sd).2.2.2.count 32 = 11 := by decide +kernel
    rw [e] at this
    omega
  · omega
def kx_m (t : Nat) : Nat → Int := ka_sum (fun q => if t.testBit q = true then 1 else 0)
theorem kx_mb {t : Nat} : ∀ {m : Nat}, 0 ≤ kx_m t m ∧ kx_m t m ≤ m
  | 0 => by simp [kx_m, ka_sum]
  | m + 1 => by
    have := kx_mb (t := t) (m := m)
    unfold kx_m at this ⊢
    rw [ka_sum]
    split <;> omega
theorem kx_m_lt {t q : Nat} (h : ¬ t.testBit q = true) : ∀ {m : Nat}, q < m → kx_m t m < m
  | 0, hq => absurd hq (Nat.not_lt_zero q)
  | m + 1, hq => by
    unfold kx_m
    rw [ka_sum]
    by_cases e : q = m
    · rw [← e, if_neg h]
      have := (kx_mb (t := t) (m := q)).2
      unfold kx_m at this
      omega
    · have := kx_m_lt h (show q < m by omega)
      unfold kx_m at this
      split <;> omega
theorem kx_m_or {t q : Nat} (h : ¬ t.testBit q = true) : ∀ {m : Nat}, q < m → kx_m (t ||| 2 ^ q) m = kx_m t m + 1
  | 0, hq => absurd hq (Nat.not_lt_zero q)
  | m + 1, hq => by
    have tb : ∀ j, j ≠ q → (t ||| 2 ^ q).testBit j = t.testBit j := by
      intro j hj
      rw [Nat.testBit_or, Nat.testBit_two_pow, decide_eq_false (fun z => hj z.symm), Bool.or_false]
    unfold kx_m
    rw [ka_sum, ka_sum]
    by_cases e : q = m
    · subst e
      rw [if_neg h, if_pos (by rw [Nat.testBit_or, Nat.testBit_two_pow]; simp)]
      have : ka_sum (fun j => if (t ||| 2 ^ q).testBit j = true then (1 : Int) else 0) q = ka_sum (fun j => if t.testBit j = true then 1 else 0) q := ka_sum_congr (fun j hj => by rw [tb j (by omega)])
      rw [this]
      omega
    · have := kx_m_or h (show q < m by omega)
      unfold kx_m at this
      rw [this, tb m (fun z => e z.symm)]
      omega
/-- how takeText ends -/
def kp_Q (M M' : mm_M) (e : kp_E) (r : mm_V) : Prop := match e with
  | .ok (c, D) => r = (0, (c : Int)) ∧ mm_Rf M' ∧ (∀ a, a ≠ 1 → a ≠ 3 → a ≠ 4 → ¬ (5 ≤ a ∧ a ≤ 10) → M' a = M a) ∧ (∀ b, b < 2 → M' 1 b = M 1 b) ∧ mm_KV (M' 5) ∧ M' 1 2 = 0 ∧ M' 1 3 = -1 ∧ mm_CK M' ∧ (∀ b, b < 36 → M' 4 b = D b)
  | .error (k, s) => r = (0, -1) ∧ mm_Rf M' ∧ (∀ a, a ≠ 1 → a ≠ 5 → M' a = M a) ∧ (∀ b, b < 2 → M' 1 b = M 1 b) ∧ mm_KV (M' 5) ∧ M' 1 2 = k ∧ M' 1 3 = (s : Int)
theorem mm_Rf.ud {M N : mm_M} (h : mm_Rf M) (q1 : ∀ a, a ≠ 3 → a ≠ 4 → ¬ (6 ≤ a ∧ a ≤ 10) → N a = M a) (q2 : ∀ b, b ≠ 2 → N 3 b = M 3 b) : mm_Rf N := by
  intro a b hab
  by_cases e3 : a = 3
  · subst e3
    rw [q2 b (fun z => hab (by rw [z]; rfl))]
    exact h 3 b hab
  · by_cases e4 : a = 4
    · subst e4; exact absurd (mm_rt_arr (len := 36) rfl b) hab
    · by_cases e6 : 6 ≤ a ∧ a ≤ 10
      · have : mm_sh a = (1, 288) := by
          rcases (show a = 6 ∨ a = 7 ∨ a = 8 ∨ a = 9 ∨ a = 10 by omega) with z | z | z | z | z <;> rw [z] <;> rfl
        exact absurd (mm_rt_arr this b) hab
      · rw [q1 a e3 e4 e6]; exact h a b hab
theorem kp_badQ {M N M' : mm_M} {n p s : Nat} {k : Int} (hI : kp_I M N n p) (hs : N 1 6 = (s : Int)) (hM : M' = mm_up (mm_up N 1 2 k) 1 3 (N 1 6)) : kp_Q M M' (.error (k, s)) (0, -1) := by
  obtain ⟨-, h⟩ := kp_bad hI hs hM M
  exact ⟨rfl, h⟩
section
variable {X : mm_X} {M : mm_M} {n : Nat}
theorem c_X4_takeText (hR : mm_Rf M) (hT : mm_CT M n) (h22 : 0 ≤ M 5 22 ∧ M 5 22 ≤ 99) :
    mm_C X Y_X4_takeText 243 243 [(2, 4), (2, 2)] M (fun r M' => kp_Q M M' (kp_text (M 2) n 13 0 0 0 (kp_D0 (M 5))) r) := by
  obtain ⟨E, hE⟩ : ∃ E, E = kp_text (M 2) n 13 0 0 0 (kp_D0 (M 5)) := ⟨_, rfl⟩
  rw [← hE]
  refine mm_start (ls := [(2, 4), (2, 2), (9, 0), (9, 0), (9, 0)]) rfl ?_
  have loop : ∀ c : Nat, c ≤ 12 → ∀ (Q : mm_M) (p t : Nat) (l4 : mm_V), kp_I M Q n p → Q 1 2 = 0 → Q 1 3 = -1 → t < 4096 → kx_m t 12 = c → kp_text (M 2) n (13 - c) c p t (Q 5) = E →
      mm_J X Y_X4_takeText 243 243 243 12 [(2, 4), (2, 2), (0, (t : Int)), (0, (c : Int)), l4] [] Q (fun r M' => kp_Q M M' E r) := by
    refine mm_lp ?_
    intro c hc ih Q p t l4 hQ hq2 hq3 ht hm hL
    have hRQ := hQ.1
    have hpn := hQ.2.2.2.2.1
    have hkb := kt_kb (B := M 2) (n := n) (p := p)
    have hnb := kp_nmb (B := M 2) (n := n) (p := p)
    have heb := kt_eb (B := M 2) hpn
    rw [show 13 - c = (12 - c) + 1 by omega, kp_text] at hL
    have enm : ∀ T : mm_M, T 2 = M 2 → T 1 5 = kt_k (M 2) n p → (if T 1 5 = 1 then kt_f (fun j => T 2 (kt_s (M 2) n p + j)) (kt_e (M 2) n p - kt_s (M 2) n p) (mm_sc.getD 0 mm_sd).2.2.2 0 0 true else -1) = kp_nm (M 2) n p 0 := by
      intro T h2 h5
      rw [h2, h5]
      rfl
    -- behind a clause
    have nx1 : ∀ (T : mm_M) (p' t' : Nat) (l4 : mm_V), c < 12 → kp_I M T n p' → T 1 2 = 0 → T 1 3 = -1 → t' < 4096 → kx_m t' 12 = ((c + 1 : Nat) : Int) → kp_text (M 2) n (12 - c) (c + 1) p' t' (T 5) = E → mm_J X Y_X4_takeText 243 243 243 87 [(2, 4), (2, 2), (0, (t' : Int)), (0, (c : Int)), l4] [(0, 1)] T (fun r M' => kp_Q M M' E r) := by
      intro T p' t' l4 hc12 hIT h2 h3 ht' hm' hL'
      have hRT := hIT.1
      refine mm_ifne dX4_takeText_87 (by omega) (fun _ => ?_) (fun h => absurd h (by decide))
      refine mm_iinc dX4_takeText_92 rfl rfl (Nat.le_of_ble_eq_true rfl) rfl ?_
      refine mm_goto dX4_takeText_95 ?_
      exact ih hc12 T p' t' _ hIT h2 h3 ht' hm' (by rw [show 13 - (c + 1) = 12 - c by omega]; exact hL')
    have nx0 : ∀ (T : mm_M) (l2 l4 : mm_V), kp_Q M T E (0, -1) → mm_J X Y_X4_takeText 243 243 243 87 [(2, 4), (2, 2), l2, (0, (c : Int)), l4] [(0, 0)] T (fun r M' => kp_Q M M' E r) := by
      intro T l2 l4 hQ9
      refine mm_ifne dX4_takeText_87 (by omega) (fun h => absurd h (by decide)) (fun _ => ?_)
      refine mm_iconst dX4_takeText_90 rfl ?_
      refine mm_iret dX4_takeText_91 rfl rfl ?_
      exact hQ9
    refine mm_iload_n dX4_takeText_12 rfl rfl ?_
    refine mm_bipush dX4_takeText_13 rfl (by decide) ?_
    refine mm_icgt dX4_takeText_15 (by omega) (by omega) (fun h15 => ?_) (fun h15 => ?_)
    · exfalso; omega
    · refine mm_aload_n dX4_takeText_18 rfl rfl ?_
      refine mm_V0g (M1 := Q) dX4_takeText_19 rfl lk_X4_44 (c := 1) rfl (by decide) rfl  rfl rfl rfl (kp_adv hQ) ?_
      rintro _ N19 ⟨rfl, p19⟩
      change mm_J _ _ _ _ _ _ _ _ _ _
      have hR19 : mm_Rf N19 := p19.1
      obtain ⟨-, hA, hI2, e5, e12, e13, ek, es, ev⟩ := p19
      have k5 : mm_KV (N19 5) := hI2.2.2.2.2.2.2
      have f2 : N19 2 = M 2 := hI2.2.1 2 (by decide) (by decide)
      have cwa := c_X10_wordAmong (X := X) (M := N19) (k0 := 0) hR19 hI2.2.2.2.1 (by decide) (by omega) es hI2.2.2.2.2.2.1 heb
      rw [enm N19 f2 ek] at cwa
      refine mm_aload_n dX4_takeText_22 rfl rfl ?_
      refine mm_V0i dX4_takeText_23 rfl lk_X4_47 (c := 1) rfl (by decide) rfl  rfl rfl rfl (c_X10_isAtEnd hR19 (by omega)) ?_
      refine mm_ifeqb dX4_takeText_26 (fun h26 => ?_) (fun h26 => ?_)
      · rw [ek] at h26
        rw [if_neg h26] at hL
        refine mm_aload_n dX4_takeText_35 rfl rfl ?_
        refine mm_lds (k0 := 0) dX4_takeText_36 rfl (by decide) rfl rfl ?_
        refine mm_V1i dX4_takeText_38 rfl lk_X4_53 (c := 1) rfl (by decide) rfl (by simp) rfl rfl rfl (cwa) ?_
        refine mm_istore dX4_takeText_41 rfl (Nat.le_of_ble_eq_true rfl) rfl ?_
        refine mm_iload dX4_takeText_43 rfl rfl ?_
        refine mm_ifge dX4_takeText_45 (by omega) (fun h45 => ?_) (fun h45 => ?_)
        · rw [if_neg (by omega)] at hL
          obtain ⟨nm, hnm⟩ : ∃ nm : Nat, kp_nm (M 2) n p 0 = (nm : Int) := ⟨_, (Int.toNat_of_nonneg h45).symm⟩
          rw [hnm, Int.toNat_natCast] at hL
          rw [hnm] at hnb
          rw [hnm]
          have eb := kx_bit (a := t) (k := nm) (by omega) (by omega)
          have sh := kx_shl nm (by omega)
          have p2 : 2 ^ nm < 4096 := Nat.lt_of_lt_of_le (Nat.pow_lt_pow_right (by decide) (show nm < 12 by omega)) (by decide)
          have orr := kx_or (a := t) (b := 2 ^ nm) (by omega) (by omega)
          refine mm_iload_n dX4_takeText_56 rfl rfl ?_
          refine mm_iload dX4_takeText_57 rfl rfl ?_
          refine mm_ishr dX4_takeText_59 rfl ?_
          refine mm_iconst dX4_takeText_60 rfl ?_
          refine mm_iand dX4_takeText_61 rfl ?_
          rw [eb]
          refine mm_ifeq dX4_takeText_62 (by split <;> omega) (fun h62 => ?_) (fun h62 => ?_)
          · refine mm_iload_n dX4_takeText_73 rfl rfl ?_
            refine mm_iconst dX4_takeText_74 rfl ?_
            refine mm_iload dX4_takeText_75 rfl rfl ?_
            refine mm_ishl dX4_takeText_77 rfl ?_
            rw [sh]
            refine mm_ior dX4_takeText_78 rfl ?_
            rw [orr]
            refine mm_istore_n dX4_takeText_79 rfl (Nat.le_of_ble_eq_true rfl) rfl ?_
            refine mm_aload_n dX4_takeText_80 rfl rfl ?_
            refine mm_aload_n dX4_takeText_81 rfl rfl ?_
            refine mm_iload dX4_takeText_82 rfl rfl ?_
            have hno : ¬ t.testBit nm = true := by
              intro q
              rw [if_pos q] at h62
              exact absurd h62 (by decide)
            rw [if_neg hno] at hL
            have hlt := kx_m_lt hno (show nm < 12 by omega)
            have hor := kx_m_or hno (show nm < 12 by omega)
            have ho : t ||| 2 ^ nm < 4096 := Nat.or_lt_two_pow (n := 12) ht p2
            refine mm_V2g (M1 := N19) dX4_takeText_84 rfl lk_X4_61 (c := 3) rfl (by decide) rfl (by simp) (by simp) rfl rfl rfl (c_X4_takeClause (nm := nm) (by omega) hI2) ?_
            intro r M' hP
            rw [e5] at hP
            match hCl : kp_clause (M 2) n nm (kt_e (M 2) n p) (Q 5), hP with
            | .ok (p', D'), hP =>
              obtain ⟨rfl, g1, g2, g3, g4⟩ := hP
              rw [hCl] at hL
              exact nx1 M' p' (t ||| 2 ^ nm) _ (by omega) g1 (by rw [g3, e12, hq2]) (by rw [g4, e13, hq3]) ho (by rw [hor, hm]; omega) (by rw [g2]; exact hL)
            | .error (k, s), hP =>
              obtain ⟨rfl, g1⟩ := hP
              rw [hCl] at hL
              refine nx0 M' _ _ ?_
              rw [← hL]
              exact ⟨rfl, g1⟩
          · refine mm_aload_n dX4_takeText_65 rfl rfl ?_
            refine mm_iconst dX4_takeText_66 rfl ?_
            refine mm_V1i dX4_takeText_67 rfl lk_X4_57 (c := 1) rfl (by decide) rfl (by simp) rfl rfl rfl (c_X10_fails hR19) ?_
            refine mm_pop dX4_takeText_70 rfl (by simp) ?_
            refine mm_iconst dX4_takeText_71 rfl ?_
            refine mm_iret dX4_takeText_72 rfl rfl ?_
            by_cases q : t.testBit nm = true
            · rw [if_pos q] at hL
              rw [← hL]
              exact kp_badQ hI2 es rfl
            · rw [if_neg q] at h62; exact absurd rfl h62
        · refine mm_aload_n dX4_takeText_48 rfl rfl ?_
          refine mm_iconst dX4_takeText_49 rfl ?_
          refine mm_V1i dX4_takeText_50 rfl lk_X4_57 (c := 1) rfl (by decide) rfl (by simp) rfl rfl rfl (c_X10_fails hR19) ?_
          refine mm_pop dX4_takeText_53 rfl (by simp) ?_
          refine mm_iconst dX4_takeText_54 rfl ?_
          refine mm_iret dX4_takeText_55 rfl rfl ?_
          rw [if_pos (by omega)] at hL
          rw [← hL]
          exact kp_badQ hI2 es rfl
      · refine mm_aload_n dX4_takeText_29 rfl rfl ?_
        refine mm_V0g (M1 := N19) dX4_takeText_30 rfl lk_X4_36 (c := 3) rfl (by decide) rfl  rfl rfl rfl (mm_Cmono (c_X4_useDraft (by decide) hR19.kc k5) (fun r M' q => (⟨q.1, hR19.ud q.2.1 q.2.2.1, q.2⟩ : r = (3, 0) ∧ mm_Rf M' ∧ (∀ a, a ≠ 3 → a ≠ 4 → ¬ (6 ≤ a ∧ a ≤ 10) → M' a = N19 a) ∧ (∀ b, b ≠ 2 → M' 3 b = N19 3 b) ∧ (∀ b, b < 36 → M' 4 b = N19 5 b) ∧ mm_CK M'))) ?_
        rintro _ N30 ⟨rfl, p30⟩
        change mm_J _ _ _ _ _ _ _ _ _ _
        have hR30 : mm_Rf N30 := p30.1
        refine mm_iload_n dX4_takeText_33 rfl rfl ?_
        refine mm_iret dX4_takeText_34 rfl rfl ?_
        rw [ek] at h26
        rw [if_pos h26] at hL
        obtain ⟨-, u1, u2, u3, u4⟩ := p30
        rw [← hL]
        have w1 : N30 1 = N19 1 := u1 1 (by decide) (by decide) (by omega)
        have w5 : N30 5 = N19 5 := u1 5 (by decide) (by decide) (by omega)
        refine ⟨rfl, hR30, ?_, ?_, ?_, ?_, ?_, u4, ?_⟩
        · intro a a1 a2 a3 a4; rw [u1 a a2 a3 (by omega)]; exact hI2.2.1 a a1 (by omega)
        · intro b hb; rw [w1]; exact hI2.2.2.1 b hb
        · rw [w5]; exact k5
        · rw [w1, e12, hq2]
        · rw [w1, e13, hq3]
        · intro b hb; rw [u3 b hb, e5]
  refine mm_aload_n dX4_takeText_0 rfl rfl ?_
  refine mm_V0g (M1 := M) dX4_takeText_1 rfl lk_X4_33 (c := 3) rfl (by decide) rfl  rfl rfl rfl (mm_Cmono (c_X4_startDraft (by decide) hR.kc) (fun r M' q => (⟨q.1, (fun a b hab => by rw [q.2.1 a (fun z => hab (by rw [z]; exact mm_rt_arr (len := 36) rfl b))]; exact hR a b hab), q.2⟩ : r = (3, 0) ∧ mm_Rf M' ∧ (∀ a, a ≠ 5 → M' a = M a) ∧ M' 5 = kp_D0 (M 5)))) ?_
  rintro _ N1 ⟨rfl, p1⟩
  change mm_J _ _ _ _ _ _ _ _ _ _
  have hR1 : mm_Rf N1 := p1.1
  obtain ⟨-, d1, d2⟩ := p1
  obtain ⟨N5, hN5⟩ : ∃ N, N = mm_up (mm_up (mm_up N1 1 7 0) 1 2 0) 1 3 (-1) := ⟨_, rfl⟩
  have hR5 : mm_Rf N5 := by rw [hN5]; exact ((hR1.up rfl).up rfl).up rfl
  refine mm_aload_n dX4_takeText_4 rfl rfl ?_
  refine mm_V0v dX4_takeText_5 rfl lk_X4_39 (c := 1) rfl (by decide) rfl  rfl rfl rfl ((hN5 ▸ c_X10_startText hR1)) ?_
  refine mm_iconst dX4_takeText_8 rfl ?_
  refine mm_istore_n dX4_takeText_9 rfl (Nat.le_of_ble_eq_true rfl) rfl ?_
  refine mm_iconst dX4_takeText_10 rfl ?_
  refine mm_istore_n dX4_takeText_11 rfl (Nat.le_of_ble_eq_true rfl) rfl ?_
  have w : ∀ a, a ≠ 1 → N5 a = N1 a := by intro a ha; rw [hN5, mm_up_row ha, mm_up_row ha, mm_up_row ha]
  refine loop 0 (Nat.zero_le _) N5 0 0 _ ⟨hR5, ?_, ?_, ⟨?_, hT.2.1, ?_⟩, Nat.zero_le _, ?_, ?_⟩ ?_ ?_ (by decide) ?_ ?_
  · intro a a1 a2; rw [w a a1]; exact d1 a a2
  · intro b hb; rw [hN5, mm_up_i (by omega), mm_up_i (by omega), mm_up_i (by omega), d1 1 (by decide)]
  · rw [hN5, mm_up_i (by decide), mm_up_i (by decide), mm_up_i (by decide), d1 1 (by decide)]; exact hT.1
  · rw [w 2 (by decide), d1 2 (by decide)]; exact hT.2.2
  · rw [hN5, mm_up_i (by decide), mm_up_i (by decide), mm_up_s]; rfl
  · rw [w 5 (by decide), d2]; exact kp_D0_KV h22
  · rw [hN5, mm_up_i (by decide), mm_up_s]
  · rw [hN5, mm_up_s]
  · decide
  · rw [w 5 (by decide), d2]; exact hE.symm
end

