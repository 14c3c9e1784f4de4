/-! ===== the text of a kite: what it tells ===== -/
abbrev kp_E : Type := Except (Int × Nat) (Nat × (Nat → Int))
def kp_put (D : Nat → Int) (pl room c : Nat) (v : Int) (i : Nat) : Int := if pl = 20 ∧ i = 10 then (c : Int) + 1 else if pl + c ≤ i ∧ i < pl + room then v else D i
/-- the numbers of lift or window, from the c-th on, at p -/
def kp_list (B : Nat → Int) (n pl room : Nat) (most : Int) : Nat → Nat → Nat → (Nat → Int) → kp_E
  | 0, _, _, _ => .error (0, 0)
  | k + 1, c, p, D => if 0 < c ∧ kt_k B n p = 3 then .ok (kt_e B n p, D) else if ¬ kt_k B n p = 2 then .error (1, kt_s B n p) else if most < kt_v B n p then .error (2, kt_s B n p) else if c = room then .error (4, kt_s B n p) else kp_list B n pl room most k (c + 1) (kt_e B n p) (kp_put D pl room c (kt_v B n p))
def kp_lo : List Int := [2, 2, 2, 5, 0, 1, 0, 0, 100, 0]
def kp_hi : List Int := [6, 6, 8, 50, 9999, 99999, 9999, 400, 400, 99999]
/-- a clause behind its name -/
def kp_clause (B : Nat → Int) (n nm p : Nat) (D : Nat → Int) : kp_E :=
  if nm = 10 then kp_list B n 20 3 99 4 0 p D else if 10 < nm then kp_list B n 30 6 100 7 0 p D
  else if ¬ kt_k B n p = 2 then .error (1, kt_s B n p) else if ¬ (kp_lo.getD nm 0 ≤ kt_v B n p ∧ kt_v B n p ≤ kp_hi.getD nm 0) then .error (2, kt_s B n p)
  else if ¬ kt_k B n (kt_e B n p) = 3 then .error (1, kt_s B n (kt_e B n p)) else .ok (kt_e B n (kt_e B n p), fun i => if i = nm then kt_v B n p else D i)
/-- the word at p among those of text k0 -/
def kp_nm (B : Nat → Int) (n p k0 : Nat) : Int := if kt_k B n p = 1 then kt_f (fun j => B (kt_s B n p + j)) (kt_e B n p - kt_s B n p) (mm_sc.getD k0 mm_sd).2.2.2 0 0 true else -1
/-- clauses to the end: how many, and the kite -/
def kp_text (B : Nat → Int) (n : Nat) : Nat → Nat → Nat → Nat → (Nat → Int) → kp_E
  | 0, _, _, _, _ => .error (0, 0)
  | k + 1, c, p, t, D => if kt_k B n p = 0 then .ok (c, D) else if kp_nm B n p 0 < 0 then .error (1, kt_s B n p) else if t.testBit (kp_nm B n p 0).toNat = true then .error (3, kt_s B n p)
    else match kp_clause B n (kp_nm B n p 0).toNat (kt_e B n p) D with
      | .error f => .error f
      | .ok (p', D') => kp_text B n k (c + 1) p' (t ||| 2 ^ (kp_nm B n p 0).toNat) D'
theorem kp_put_KV {D : Nat → Int} (h : mm_KV D) {c : Nat} {v : Int} : (c < 3 → 0 ≤ v ∧ v ≤ 99 → mm_KV (kp_put D 20 3 c v)) ∧ (c < 6 → 0 ≤ v ∧ v ≤ 100 → mm_KV (kp_put D 30 6 c v)) := by
  obtain ⟨a0, a1, a2, a3, a4, a5, a6, a7, a8, a9, a10, a11, a12⟩ := h
  have low : ∀ (pl room i : Nat), 20 ≤ pl → i < 10 → kp_put D pl room c v i = D i := by
    intro pl room i hp hi
    unfold kp_put
    rw [if_neg (by omega), if_neg (by omega)]
  constructor
  · intro hc hv
    have e10 : kp_put D 20 3 c v 10 = (c : Int) + 1 := by unfold kp_put; rw [if_pos ⟨rfl, rfl⟩]
    unfold mm_KV
    rw [low 20 3 0 (by omega) (by omega), low 20 3 1 (by omega) (by omega), low 20 3 2 (by omega) (by omega), low 20 3 3 (by omega) (by omega), low 20 3 4 (by omega) (by omega), low 20 3 5 (by omega) (by omega), low 20 3 6 (by omega) (by omega), low 20 3 7 (by omega) (by omega), low 20 3 8 (by omega) (by omega), low 20 3 9 (by omega) (by omega), e10]
    refine ⟨a0, a1, a2, a3, a4, a5, a6, a7, a8, a9, by omega, fun i hi => ?_, fun i hi => ?_⟩
    · unfold kp_put
      rw [if_neg (by omega)]
      split
      · exact hv
      · exact a11 i hi
    · unfold kp_put
      rw [if_neg (by omega), if_neg (by omega)]
      exact a12 i hi
  · intro hc hv
    have e10 : kp_put D 30 6 c v 10 = D 10 := by unfold kp_put; rw [if_neg (by omega), if_neg (by omega)]
    unfold mm_KV
    rw [low 30 6 0 (by omega) (by omega), low 30 6 1 (by omega) (by omega), low 30 6 2 (by omega) (by omega), low 30 6 3 (by omega) (by omega), low 30 6 4 (by omega) (by omega), low 30 6 5 (by omega) (by omega), low 30 6 6 (by omega) (by omega), low 30 6 7 (by omega) (by omega), low 30 6 8 (by omega) (by omega), low 30 6 9 (by omega) (by omega), e10]
    refine ⟨a0, a1, a2, a3, a4, a5, a6, a7, a8, a9, a10, fun i hi => ?_, fun i hi => ?_⟩
    · unfold kp_put
      rw [if_neg (by omega), if_neg (by omega)]
      exact a11 i hi
    · unfold kp_put
      rw [if_neg (by omega)]
      split
      · exact hv
      · exact a12 i hi
/-- while a kite's text is read: only the tape's words and the draft have changed -/
def kp_I (M N : mm_M) (n p : Nat) : Prop := mm_Rf N ∧ (∀ a, a ≠ 1 → a ≠ 5 → N a = M a) ∧ (∀ b, b < 2 → N 1 b = M 1 b) ∧ mm_CT N n ∧ p ≤ n ∧ N 1 7 = (p : Int) ∧ mm_KV (N 5)
/-- how a piece of it ends -/
def kp_P (M N M' : mm_M) (n : Nat) (e : kp_E) (r : mm_V) : Prop := match e with
  | .ok (p', D') => r = (0, 1) ∧ kp_I M M' n p' ∧ M' 5 = D' ∧ M' 1 2 = N 1 2 ∧ M' 1 3 = N 1 3
  | .error (k, s) => r = (0, 0) ∧ mm_Rf M' ∧ (∀ a, a ≠ 1 → a ≠ 5 → M' a = M a) ∧ (∀ b, b < 2 → M' 1 b = M 1 b) ∧ mm_KV (M' 5) ∧ M' 1 2 = k ∧ M' 1 3 = (s : Int)
theorem kt_A.ct {M N : mm_M} {n p : Nat} (h : kt_A M N n p) (hT : mm_CT M n) : mm_CT N n := ⟨(h.2.1 1 (by decide)).trans hT.1, hT.2.1, by rw [h.1 2 (by decide)]; exact hT.2.2⟩
section
variable {X : mm_X} {M N : mm_M} {n p pl room : Nat} {most : Int}
/-- advance, while a kite's text is read -/
theorem kp_adv (hI : kp_I M N n p) : mm_C X Y_X10_advance 243 243 [(2, 2)] N (fun r M' => r = (3, 0) ∧ mm_Rf M' ∧ kt_A N M' n p ∧ kp_I M M' n (kt_e (M 2) n p) ∧ M' 5 = N 5 ∧ M' 1 2 = N 1 2 ∧ M' 1 3 = N 1 3 ∧ M' 1 5 = kt_k (M 2) n p ∧ M' 1 6 = (kt_s (M 2) n p : Int) ∧ (kt_k (M 2) n p = 2 → M' 1 4 = kt_v (M 2) n p)) := by
  obtain ⟨i1, i2, i3, i4, i5, i6, i7⟩ := hI
  have e2 : N 2 = M 2 := i2 2 (by decide) (by decide)
  refine mm_Cmono (c_X10_advance i1 i4 i5 i6) ?_
  rintro r M' ⟨h1, h2, h3⟩
  obtain ⟨q1, q2, q3, q4, q5, q6⟩ := id h3
  rw [e2] at q3 q4 q5 q6
  refine ⟨h1, h2, h3, ⟨h2, ?_, ?_, h3.ct i4, (kt_eb i5).2, q5, ?_⟩, q1 5 (by decide), q2 2 (by decide), q2 3 (by decide), q3, q4, q6⟩
  · intro a a1 a2; rw [q1 a a1]; exact i2 a a1 a2
  · intro b hb; rw [q2 b (by omega)]; exact i3 b hb
  · rw [q1 5 (by decide)]; exact i7
/-- a number within bounds, or the fault is marked -/
theorem c_X10_num {lo hi : Int} (hR : mm_Rf M) (hk : mm_R (M 1 5)) (hv : M 1 5 = 2 → mm_R (M 1 4)) (hlo : mm_R lo) (hhi : mm_R hi) :
    mm_C X Y_X10_isNumberWithin 243 243 [(2, 2), (0, lo), (0, hi)] M (fun r M' => ∃ z : Int, r = (0, z) ∧ mm_Rf M' ∧ ((z = 1 ∧ M' = M ∧ M 1 5 = 2 ∧ lo ≤ M 1 4 ∧ M 1 4 ≤ hi) ∨ (z = 0 ∧ ¬ (M 1 5 = 2 ∧ lo ≤ M 1 4 ∧ M 1 4 ≤ hi) ∧ M' = mm_up (mm_up M 1 2 (if M 1 5 = 2 then 2 else 1)) 1 3 (M 1 6)))) := by
  refine mm_Cmono (c_X10_isNumberWithin hR hk hv hlo hhi) ?_
  rintro r M' ⟨rfl, rfl⟩
  by_cases h : M 1 5 = 2 ∧ lo ≤ M 1 4 ∧ M 1 4 ≤ hi
  · rw [if_pos h, mm_b_t h]
    exact ⟨1, rfl, hR, Or.inl ⟨rfl, rfl, h⟩⟩
  · rw [if_neg h, mm_b_f h]
    exact ⟨0, rfl, (hR.up rfl).up rfl, Or.inr ⟨rfl, h, rfl⟩⟩
/-- a fault that is marked at the token behind p ends the reading -/
theorem kp_bad {M' : mm_M} {k : Int} {s : Nat} (hI : kp_I M N n p) (hs : N 1 6 = (s : Int)) (hM : M' = mm_up (mm_up N 1 2 k) 1 3 (N 1 6)) (Q : mm_M) : kp_P M Q M' n (.error (k, s)) (0, 0) := by
  obtain ⟨i1, i2, i3, i4, i5, i6, i7⟩ := hI
  refine ⟨rfl, by rw [hM]; exact (i1.up rfl).up rfl, ?_, ?_, ?_, ?_, ?_⟩
  · intro a a1 a2; rw [hM, mm_up_row a1, mm_up_row a1]; exact i2 a a1 a2
  · intro b hb; rw [hM, mm_up_i (by omega), mm_up_i (by omega)]; exact i3 b hb
  · rw [hM, mm_up_row (by decide), mm_up_row (by decide)]; exact i7
  · rw [hM, mm_up_i (by decide), mm_up_s]
  · rw [hM, mm_up_s]; exact hs
theorem c_X4_takeList (hpl : (pl = 20 ∧ room = 3 ∧ most = 99) ∨ (pl = 30 ∧ room = 6 ∧ most = 100)) (hI : kp_I M N n p) :
    mm_C X Y_X4_takeList 243 243 [(2, 4), (2, 2), (0, (pl : Int)), (0, (room : Int)), (0, most)] N (fun r M' => kp_P M N M' n (kp_list (M 2) n pl room most (room + 1) 0 p (N 5)) r) := by
  have hroom : room ≤ 6 := by omega
  obtain ⟨E, hE⟩ : ∃ E, E = kp_list (M 2) n pl room most (room + 1) 0 p (N 5) := ⟨_, rfl⟩
  rw [← hE]
  refine mm_start (ls := [(2, 4), (2, 2), (0, (pl : Int)), (0, (room : Int)), (0, most), (9, 0)]) rfl ?_
  have loop : ∀ c : Nat, c ≤ room → ∀ (Q : mm_M) (p : Nat), kp_I M Q n p → Q 1 2 = N 1 2 → Q 1 3 = N 1 3 → kp_list (M 2) n pl room most (room + 1 - c) c p (Q 5) = E → mm_J X Y_X4_takeList 243 243 243 3 [(2, 4), (2, 2), (0, (pl : Int)), (0, (room : Int)), (0, most), (0, (c : Int))] [] Q (fun r M' => kp_P M N M' n E r) := by
    refine mm_lp ?_
    intro c hc ih Q p hQ hq2 hq3 hL
    have hRQ := hQ.1
    have hkb := kt_kb (B := M 2) (n := n) (p := p)
    have hvb := kt_vb (B := M 2) (n := n) (p := p)
    rw [show room + 1 - c = (room - c) + 1 by omega, kp_list] at hL
    -- behind the semicolon's test
    have nx : ∀ T : mm_M, kp_I M T n (kt_e (M 2) n p) → T 5 = Q 5 → T 1 2 = N 1 2 → T 1 3 = N 1 3 → T 1 5 = kt_k (M 2) n p → T 1 6 = (kt_s (M 2) n p : Int) → (kt_k (M 2) n p = 2 → T 1 4 = kt_v (M 2) n p) → ¬ (0 < c ∧ kt_k (M 2) n p = 3) →
        mm_J X Y_X4_takeList 243 243 243 27 [(2, 4), (2, 2), (0, (pl : Int)), (0, (room : Int)), (0, most), (0, (c : Int))] [] T (fun r M' => kp_P M N M' n E r) := by
      intro T hT e5 e12 e13 ek es ev hns
      have hRT := hT.1
      rw [if_neg hns] at hL
      refine mm_aload_n dX4_takeList_27 rfl rfl ?_
      refine mm_iconst dX4_takeList_28 rfl ?_
      refine mm_iload dX4_takeList_29 rfl rfl ?_
      refine mm_V2g (M1 := T) dX4_takeList_31 rfl lk_X4_75 (c := 1) rfl (by decide) rfl (by simp) (by simp) rfl rfl rfl (c_X10_num hRT (by omega) (by intro z; rw [ek] at z; rw [ev z]; omega) (by omega) (by omega)) ?_
      rintro _ N31 ⟨x31, rfl, p31⟩
      change mm_J _ _ _ _ _ _ _ _ _ _
      have hR31 : mm_Rf N31 := p31.1
      obtain ⟨-, hz⟩ := p31
      have hz01 : x31 = 0 ∨ x31 = 1 := by rcases hz with ⟨z, -⟩ | ⟨z, -⟩ <;> omega
      refine mm_ifne dX4_takeList_34 (by omega) (fun h34 => ?_) (fun h34 => ?_)
      · obtain ⟨eN, z2, z3⟩ : N31 = T ∧ T 1 5 = 2 ∧ 0 ≤ T 1 4 ∧ T 1 4 ≤ most := by
          rcases hz with ⟨z1, z2, z3, z4⟩ | ⟨z, -⟩
          · exact ⟨z2, z3, z4⟩
          · omega
        have hk2 : kt_k (M 2) n p = 2 := by rw [← ek]; exact z2
        have ev2 := ev hk2
        rw [if_neg (fun z => z hk2), if_neg (by omega)] at hL
        have hI3 : kp_I M N31 n (kt_e (M 2) n p) := by rw [eN]; exact hT
        have es3 : N31 1 6 = (kt_s (M 2) n p : Int) := by rw [eN]; exact es
        have ev3 : N31 1 4 = kt_v (M 2) n p := by rw [eN]; exact ev2
        have e53 : N31 5 = Q 5 := by rw [eN]; exact e5
        have e123 : N31 1 2 = N 1 2 := by rw [eN]; exact e12
        have e133 : N31 1 3 = N 1 3 := by rw [eN]; exact e13
        refine mm_iload dX4_takeList_39 rfl rfl ?_
        refine mm_iload_n dX4_takeList_41 rfl rfl ?_
        refine mm_icne dX4_takeList_42 (by omega) (by omega) (fun h42 => ?_) (fun h42 => ?_)
        · refine mm_aload_n dX4_takeList_51 rfl rfl ?_
          refine mm_getr dX4_takeList_52 rfl fl_X4_15 (c := 3) rfl (by decide) rfl rfl (hR31.at (c := 3) (i := 1) (v := 6) rfl (by decide)) ?_
          refine mm_iload_n dX4_takeList_55 rfl rfl ?_
          refine mm_iload dX4_takeList_56 rfl rfl ?_
          refine mm_iadd dX4_takeList_58 rfl ?_
          refine mm_iload_n dX4_takeList_59 rfl rfl ?_
          refine mm_iload_n dX4_takeList_60 rfl rfl ?_
          refine mm_iadd dX4_takeList_61 rfl ?_
          refine mm_aload_n dX4_takeList_62 rfl rfl ?_
          refine mm_get (kd := 0) dX4_takeList_63 rfl fl_X4_79 (c := 1) rfl (by decide) rfl rfl ?_
          obtain ⟨v63, hv63⟩ : ∃ v, v = N31 1 4 := ⟨_, rfl⟩
          rw [← hv63]
          rw [ev3] at hv63
          subst hv63
          obtain ⟨N66, hN66⟩ : ∃ Z, Z = kf_off N31 5 ((pl : Int) + (c : Int)).toNat (fun _ => kt_v (M 2) n p) ((pl : Int) + (room : Int) - ((pl : Int) + (c : Int))).toNat := ⟨_, rfl⟩
          have hR66 : mm_Rf N66 := by rw [hN66]; exact hR31.fo (len := 36) rfl
          refine mm_S4v dX4_takeList_66 rfl lk_X4_86 (by simp) (by simp) (by simp) (by simp) rfl rfl rfl ((hN66 ▸ c_J7_fill4 (c := 5) (len := 36) (by decide) rfl (by omega) (by omega))) ?_
          refine mm_iload_n dX4_takeList_69 rfl rfl ?_
          refine mm_bipush dX4_takeList_70 rfl (by decide) ?_
          refine mm_icne dX4_takeList_72 (by omega) (by omega) (fun h72 => ?_) (fun h72 => ?_)
          · refine mm_iinc dX4_takeList_86 rfl rfl (Nat.le_of_ble_eq_true rfl) rfl ?_
            refine mm_goto dX4_takeList_89 ?_
            rw [if_neg (by omega)] at hL
            have hput : N66 5 = kp_put (Q 5) pl room c (kt_v (M 2) n p) := by
              funext i
              unfold kp_put
              rw [← e53]
              have e66 : N66 5 i = if pl + c ≤ i ∧ i < pl + room then kt_v (M 2) n p else N31 5 i := by
                rw [hN66, kf_off_at]
                by_cases q : pl + c ≤ i ∧ i < pl + room
                · rw [if_pos ⟨rfl, by omega, by omega⟩, if_pos q]
                · rw [if_neg (by omega), if_neg q]
              first
              | (rw [if_neg (fun z => h72 (by omega)), e66]; done)
              | (by_cases q : i = 10
                 · rw [if_pos ⟨by omega, q⟩, q, hM85, mm_up_s]
                 · rw [if_neg (fun z => q z.2), hM85, mm_up_i q, e66])
            have hfr : ∀ a, a ≠ 5 → N66 a = T a := by
              intro a ha
              first
              | (rw [hN66, kf_off_n ha, eN]; done)
              | (rw [hM85, mm_up_row ha, hN66, kf_off_n ha, eN])
            obtain ⟨i1, i2, i3, i4, i5, i6, i7⟩ := id hT
            refine ih (by omega) _ (kt_e (M 2) n p) ⟨hR66, ?_, ?_, ⟨?_, i4.2.1, ?_⟩, i5, ?_, ?_⟩ ?_ ?_ ?_
            · intro a a1 a2; rw [hfr a a2]; exact i2 a a1 a2
            · intro b hb; rw [hfr 1 (by decide)]; exact i3 b hb
            · rw [hfr 1 (by decide)]; exact i4.1
            · rw [hfr 2 (by decide)]; exact i4.2.2
            · rw [hfr 1 (by decide)]; exact i6
            · rw [hput]
              rcases hpl with ⟨q1, q2, q3⟩ | ⟨q1, q2, q3⟩
              · rw [q1, q2]; exact (kp_put_KV (by rw [← e5]; exact i7)).1 (by omega) (by omega)
              · rw [q1, q2]; exact (kp_put_KV (by rw [← e5]; exact i7)).2 (by omega) (by omega)
            · rw [hfr 1 (by decide)]; exact e12
            · rw [hfr 1 (by decide)]; exact e13
            · rw [show room + 1 - (c + 1) = room - c by omega, hput]; exact hL
          · refine mm_aload_n dX4_takeList_75 rfl rfl ?_
            refine mm_getr dX4_takeList_76 rfl fl_X4_15 (c := 3) rfl (by decide) rfl rfl (hR66.at (c := 3) (i := 1) (v := 6) rfl (by decide)) ?_
            refine mm_bipush dX4_takeList_79 rfl (by decide) ?_
            refine mm_iload dX4_takeList_81 rfl rfl ?_
            refine mm_iconst dX4_takeList_83 rfl ?_
            refine mm_iadd dX4_takeList_84 rfl ?_
            refine mm_istk (k0 := 10) dX4_takeList_85 rfl (c := 5) rfl (by decide) rfl rfl (by decide) (fun M85 hM85 => ?_)
            have hR85 : mm_Rf M85 := by rw [hM85]; exact hR66.up (mm_rt_ar (t := 0) rfl (by decide))
            refine mm_iinc dX4_takeList_86 rfl rfl (Nat.le_of_ble_eq_true rfl) rfl ?_
            refine mm_goto dX4_takeList_89 ?_
            rw [if_neg (by omega)] at hL
            have hput : M85 5 = kp_put (Q 5) pl room c (kt_v (M 2) n p) := by
              funext i
              unfold kp_put
              rw [← e53]
              have e66 : N66 5 i = if pl + c ≤ i ∧ i < pl + room then kt_v (M 2) n p else N31 5 i := by
                rw [hN66, kf_off_at]
                by_cases q : pl + c ≤ i ∧ i < pl + room
                · rw [if_pos ⟨rfl, by omega, by omega⟩, if_pos q]
                · rw [if_neg (by omega), if_neg q]
              first
              | (rw [if_neg (fun z => h72 (by omega)), e66]; done)
              | (by_cases q : i = 10
                 · rw [if_pos ⟨by omega, q⟩, q, hM85, mm_up_s]
                 · rw [if_neg (fun z => q z.2), hM85, mm_up_i q, e66])
            have hfr : ∀ a, a ≠ 5 → M85 a = T a := by
              intro a ha
              first
              | (rw [hN66, kf_off_n ha, eN]; done)
              | (rw [hM85, mm_up_row ha, hN66, kf_off_n ha, eN])
            obtain ⟨i1, i2, i3, i4, i5, i6, i7⟩ := id hT
            refine ih (by omega) _ (kt_e (M 2) n p) ⟨hR85, ?_, ?_, ⟨?_, i4.2.1, ?_⟩, i5, ?_, ?_⟩ ?_ ?_ ?_
            · intro a a1 a2; rw [hfr a a2]; exact i2 a a1 a2
            · intro b hb; rw [hfr 1 (by decide)]; exact i3 b hb
            · rw [hfr 1 (by decide)]; exact i4.1
            · rw [hfr 2 (by decide)]; exact i4.2.2
            · rw [hfr 1 (by decide)]; exact i6
            · rw [hput]
              rcases hpl with ⟨q1, q2, q3⟩ | ⟨q1, q2, q3⟩
              · rw [q1, q2]; exact (kp_put_KV (by rw [← e5]; exact i7)).1 (by omega) (by omega)
              · rw [q1, q2]; exact (kp_put_KV (by rw [← e5]; exact i7)).2 (by omega) (by omega)
            · rw [hfr 1 (by decide)]; exact e12
            · rw [hfr 1 (by decide)]; exact e13
            · rw [show room + 1 - (c + 1) = room - c by omega, hput]; exact hL
        · refine mm_aload_n dX4_takeList_45 rfl rfl ?_
          refine mm_iconst dX4_takeList_46 rfl ?_
          refine mm_V1i dX4_takeList_47 rfl lk_X4_57 (c := 1) rfl (by decide) rfl (by simp) rfl rfl rfl (c_X10_fails hR31) ?_
          refine mm_zret dX4_takeList_50 rfl rfl (Or.inl rfl) ?_
          rw [if_pos (by omega)] at hL
          rw [← hL]
          exact kp_bad hI3 es3 rfl N
      · refine mm_iconst dX4_takeList_37 rfl ?_
        refine mm_zret dX4_takeList_38 rfl rfl (Or.inl rfl) ?_
        rcases hz with ⟨z, -⟩ | ⟨z1, z2, z3⟩
        · omega
        · rw [ek] at z2 z3
          by_cases q : kt_k (M 2) n p = 2
          · rw [if_pos q] at z3
            rw [if_neg (fun y => y q), if_pos (by have := ev q; omega)] at hL
            rw [← hL]
            exact kp_bad hT es z3 N
          · rw [if_neg q] at z3
            rw [if_pos q] at hL
            rw [← hL]
            exact kp_bad hT es z3 N
    refine mm_iload dX4_takeList_3 rfl rfl ?_
    refine mm_iload_n dX4_takeList_5 rfl rfl ?_
    refine mm_icgt dX4_takeList_6 (by omega) (by omega) (fun h6 => ?_) (fun h6 => ?_)
    · exfalso; omega
    · refine mm_aload_n dX4_takeList_9 rfl rfl ?_
      refine mm_V0g (M1 := Q) dX4_takeList_10 rfl lk_X4_44 (c := 1) rfl (by decide) rfl  rfl rfl rfl (kp_adv hQ) ?_
      rintro _ N10 ⟨rfl, p10⟩
      change mm_J _ _ _ _ _ _ _ _ _ _
      have hR10 : mm_Rf N10 := p10.1
      obtain ⟨-, hA, hI2, e5, e12, e13, ek, es, ev⟩ := p10
      refine mm_iload dX4_takeList_13 rfl rfl ?_
      refine mm_ifle dX4_takeList_15 (by omega) (fun h15 => ?_) (fun h15 => ?_)
      · refine nx _ hI2 e5 (e12.trans hq2) (e13.trans hq3) ek es ev ?_
        first
        | (intro z; omega)
        | (intro z; rw [ek] at h22; exact h22 z.2)
      · refine mm_aload_n dX4_takeList_18 rfl rfl ?_
        refine mm_V0i dX4_takeList_19 rfl lk_X4_83 (c := 1) rfl (by decide) rfl  rfl rfl rfl (c_X10_isSemicolon hR10 (by omega)) ?_
        refine mm_ifeqb dX4_takeList_22 (fun h22 => ?_) (fun h22 => ?_)
        · refine nx _ hI2 e5 (e12.trans hq2) (e13.trans hq3) ek es ev ?_
          first
          | (intro z; omega)
          | (intro z; rw [ek] at h22; exact h22 z.2)
        · refine mm_iconst dX4_takeList_25 rfl ?_
          refine mm_zret dX4_takeList_26 rfl rfl (Or.inr rfl) ?_
          rw [ek] at h22
          rw [if_pos ⟨by omega, h22⟩] at hL
          rw [← hL]
          exact ⟨rfl, hI2, e5, e12.trans hq2, e13.trans hq3⟩
  have hRN := hI.1
  refine mm_iconst dX4_takeList_0 rfl ?_
  refine mm_istore dX4_takeList_1 rfl (Nat.le_of_ble_eq_true rfl) rfl ?_
  exact loop 0 (Nat.zero_le _) N p hI rfl rfl hE.symm
end

