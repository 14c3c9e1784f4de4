/-! ===== the token that is read, of the class ===== -/
/-- which of the words the token is: T its bytes, len how many -/
def kt_f (T : Nat → Int) (len : Nat) : List Int → Nat → Nat → Bool → Int
  | [], w, o, same => if same = true ∧ o = len then (w : Int) else -1
  | b :: bs, w, o, same => if b = 32 then (if same = true ∧ o = len then (w : Int) else kt_f T len bs (w + 1) 0 true) else kt_f T len bs w (o + 1) (same && decide (o < len ∧ T o = b))
/-- the token is the word ws -/
def kt_m (T : Nat → Int) (len : Nat) (ws : List Int) : Prop := len = ws.length ∧ ∀ j, j < ws.length → T j = ws.getD j 0
theorem kt_f_0 {T : Nat → Int} {len : Nat} : ∀ (bs : List Int) (w o : Nat), 32 ∉ bs → kt_f T len bs w o false = -1
  | [], w, o, _ => by unfold kt_f; rw [if_neg (by simp)]
  | b :: bs, w, o, h => by
    unfold kt_f
    rw [if_neg (fun q => h (by rw [q]; exact List.mem_cons_self)), Bool.false_and]
    exact kt_f_0 bs w (o + 1) (fun q => h (List.mem_cons_of_mem _ q))
theorem kt_f_1 {T : Nat → Int} {len : Nat} (rest : List Int) : ∀ (bs : List Int) (w o : Nat), 32 ∉ bs → kt_f T len (bs ++ 32 :: rest) w o false = kt_f T len rest (w + 1) 0 true
  | [], w, o, _ => by
    show kt_f T len (32 :: rest) w o false = _
    rw [kt_f, if_pos rfl, if_neg (by simp)]
  | b :: bs, w, o, h => by
    show kt_f T len (b :: (bs ++ 32 :: rest)) w o false = _
    rw [kt_f, if_neg (fun q => h (by rw [q]; exact List.mem_cons_self)), Bool.false_and]
    exact kt_f_1 rest bs w (o + 1) (fun q => h (List.mem_cons_of_mem _ q))
theorem kt_f_2 {T : Nat → Int} {len : Nat} (rest : List Int) : ∀ (bs : List Int) (w o : Nat), 32 ∉ bs → o ≤ len → ((o + bs.length = len ∧ ∀ j, j < bs.length → T (o + j) = bs.getD j 0) → kt_f T len (bs ++ 32 :: rest) w o true = (w : Int)) ∧ (¬ (o + bs.length = len ∧ ∀ j, j < bs.length → T (o + j) = bs.getD j 0) → kt_f T len (bs ++ 32 :: rest) w o true = kt_f T len rest (w + 1) 0 true)
  | [], w, o, _, hl => by
    have e : kt_f T len ([] ++ 32 :: rest) w o true = if true = true ∧ o = len then (w : Int) else kt_f T len rest (w + 1) 0 true := by
      show kt_f T len (32 :: rest) w o true = _
      rw [kt_f, if_pos rfl]
    rw [e]
    constructor
    · rintro ⟨h, -⟩
      rw [if_pos ⟨rfl, by simpa using h⟩]
    · intro h
      rw [if_neg (fun q => h ⟨by simpa using q.2, fun j hj => absurd hj (Nat.not_lt_zero j)⟩)]
  | b :: bs, w, o, h, hl => by
    have hb : b ≠ 32 := fun q => h (by rw [q]; exact List.mem_cons_self)
    have hbs : 32 ∉ bs := fun q => h (List.mem_cons_of_mem _ q)
    have e : kt_f T len ((b :: bs) ++ 32 :: rest) w o true = kt_f T len (bs ++ 32 :: rest) w (o + 1) (decide (o < len ∧ T o = b)) := by
      show kt_f T len (b :: (bs ++ 32 :: rest)) w o true = _
      rw [kt_f, if_neg hb, Bool.true_and]
    rw [e]
    by_cases hc : o < len ∧ T o = b
    · rw [decide_eq_true hc]
      have ih := kt_f_2 (T := T) (len := len) rest bs w (o + 1) hbs hc.1
      have hiff : (o + 1 + bs.length = len ∧ ∀ j, j < bs.length → T (o + 1 + j) = bs.getD j 0) ↔ (o + (b :: bs).length = len ∧ ∀ j, j < (b :: bs).length → T (o + j) = (b :: bs).getD j 0) := by
        constructor
        · rintro ⟨h1, h2⟩
          refine ⟨by simp; omega, fun j hj => ?_⟩
          cases j with
          | zero => simpa using hc.2
          | succ j =>
            have := h2 j (by simpa using hj)
            rw [show o + (j + 1) = o + 1 + j by omega, this]
            simp
        · rintro ⟨h1, h2⟩
          refine ⟨by simp at h1; omega, fun j hj => ?_⟩
          have := h2 (j + 1) (by simpa using hj)
          rw [show o + 1 + j = o + (j + 1) by omega, this]
          simp
      rw [← hiff]
      exact ih
    · rw [decide_eq_false hc, kt_f_1 rest bs w (o + 1) hbs]
      constructor
      · rintro ⟨h1, h2⟩
        exact absurd ⟨by simp at h1; omega, by simpa using h2 0 (by simp)⟩ hc
      · intro _; rfl
theorem kt_f_3 {T : Nat → Int} {len : Nat} : ∀ (bs : List Int) (w o : Nat), 32 ∉ bs → o ≤ len → ((o + bs.length = len ∧ ∀ j, j < bs.length → T (o + j) = bs.getD j 0) → kt_f T len bs w o true = (w : Int)) ∧ (¬ (o + bs.length = len ∧ ∀ j, j < bs.length → T (o + j) = bs.getD j 0) → kt_f T len bs w o true = -1)
  | [], w, o, _, hl => by
    rw [kt_f]
    constructor
    · rintro ⟨h, -⟩
      rw [if_pos ⟨rfl, by simpa using h⟩]
    · intro h
      rw [if_neg (fun q => h ⟨by simpa using q.2, fun j hj => absurd hj (Nat.not_lt_zero j)⟩)]
  | b :: bs, w, o, h, hl => by
    have hb : b ≠ 32 := fun q => h (by rw [q]; exact List.mem_cons_self)
    have hbs : 32 ∉ bs := fun q => h (List.mem_cons_of_mem _ q)
    rw [kt_f, if_neg hb, Bool.true_and]
    by_cases hc : o < len ∧ T o = b
    · rw [decide_eq_true hc]
      have ih := kt_f_3 (T := T) (len := len) bs w (o + 1) hbs hc.1
      have hiff : (o + 1 + bs.length = len ∧ ∀ j, j < bs.length → T (o + 1 + j) = bs.getD j 0) ↔ (o + (b :: bs).length = len ∧ ∀ j, j < (b :: bs).length → T (o + j) = (b :: bs).getD j 0) := by
        constructor
        · rintro ⟨h1, h2⟩
          refine ⟨by simp; omega, fun j hj => ?_⟩
          cases j with
          | zero => simpa using hc.2
          | succ j =>
            have := h2 j (by simpa using hj)
            rw [show o + (j + 1) = o + 1 + j by omega, this]
            simp
        · rintro ⟨h1, h2⟩
          refine ⟨by simp at h1; omega, fun j hj => ?_⟩
          have := h2 (j + 1) (by simpa using hj)
          rw [show o + 1 + j = o + (j + 1) by omega, this]
          simp
      rw [← hiff]
      exact ih
    · rw [decide_eq_false hc, kt_f_0 bs w (o + 1) hbs]
      constructor
      · rintro ⟨h1, h2⟩
        exact absurd ⟨by simp at h1; omega, by simpa using h2 0 (by simp)⟩ hc
      · intro _; rfl
theorem kt_f_in {T : Nat → Int} {len : Nat} {bs rest : List Int} {w : Nat} (h : 32 ∉ bs) : (kt_m T len bs → kt_f T len (bs ++ 32 :: rest) w 0 true = (w : Int)) ∧ (¬ kt_m T len bs → kt_f T len (bs ++ 32 :: rest) w 0 true = kt_f T len rest (w + 1) 0 true) := by
  have := kt_f_2 (T := T) (len := len) rest bs w 0 h (Nat.zero_le _)
  simp only [Nat.zero_add] at this
  unfold kt_m
  exact ⟨fun q => this.1 ⟨q.1.symm, q.2⟩, fun q => this.2 (fun z => q ⟨z.1.symm, z.2⟩)⟩
theorem kt_f_la {T : Nat → Int} {len : Nat} {bs : List Int} {w : Nat} (h : 32 ∉ bs) : (kt_m T len bs → kt_f T len bs w 0 true = (w : Int)) ∧ (¬ kt_m T len bs → kt_f T len bs w 0 true = -1) := by
  have := kt_f_3 (T := T) (len := len) bs w 0 h (Nat.zero_le _)
  simp only [Nat.zero_add] at this
  unfold kt_m
  exact ⟨fun q => this.1 ⟨q.1.symm, q.2⟩, fun q => this.2 (fun z => q ⟨z.1.symm, z.2⟩)⟩
theorem kt_drop {L : List Int} {i : Nat} (h : i < L.length) : L.drop i = L.getD i 0 :: L.drop (i + 1) := by
  rw [List.drop_eq_getElem_cons h, List.getD_eq_getElem?_getD, List.getElem?_eq_getElem h]
  rfl
/-- what advance leaves -/
def kt_A (M M' : mm_M) (n p : Nat) : Prop := (∀ a, a ≠ 1 → M' a = M a) ∧ (∀ b, b < 4 → M' 1 b = M 1 b) ∧ M' 1 5 = kt_k (M 2) n p ∧ M' 1 6 = (kt_s (M 2) n p : Int) ∧ M' 1 7 = (kt_e (M 2) n p : Int) ∧ (kt_k (M 2) n p = 2 → M' 1 4 = kt_v (M 2) n p)
section
variable {X : mm_X} {M : mm_M} {n p s e k0 : Nat} {x y lo hi : Int}
theorem c_X10_startText (hR : mm_Rf M) : mm_Fn X Y_X10_startText 243 [(2, 2)] M (3, 0) (mm_up (mm_up (mm_up M 1 7 0) 1 2 0) 1 3 (-1)) := by
  refine mm_startF (ls := [(2, 2)]) rfl ?_
  refine mm_aload_n dX10_startText_0 rfl rfl ?_
  refine mm_iconst dX10_startText_1 rfl ?_
  refine mm_puti dX10_startText_2 rfl fl_X10_22 (c := 1) rfl (by decide) rfl rfl (fun M2 hM2 => ?_)
  have hR2 : mm_Rf M2 := by rw [hM2]; exact hR.up rfl
  refine mm_aload_n dX10_startText_5 rfl rfl ?_
  refine mm_iconst dX10_startText_6 rfl ?_
  refine mm_puti dX10_startText_7 rfl fl_X10_25 (c := 1) rfl (by decide) rfl rfl (fun M7 hM7 => ?_)
  have hR7 : mm_Rf M7 := by rw [hM7]; exact hR2.up rfl
  refine mm_aload_n dX10_startText_10 rfl rfl ?_
  refine mm_iconst dX10_startText_11 rfl ?_
  refine mm_puti dX10_startText_12 rfl fl_X10_15 (c := 1) rfl (by decide) rfl rfl (fun M12 hM12 => ?_)
  have hR12 : mm_Rf M12 := by rw [hM12]; exact hR7.up rfl
  refine mm_vret dX10_startText_15 rfl rfl ?_
  exact mm_fin rfl (by rw [hM12, hM7, hM2])
theorem c_X10_isAtEnd (hR : mm_Rf M) (hk : mm_R (M 1 5)) : mm_Fn X Y_X10_isAtEnd 243 [(2, 2)] M (0, mm_b (M 1 5 = 0)) M := by
  refine mm_startF (ls := [(2, 2)]) rfl ?_
  refine mm_aload_n dX10_isAtEnd_0 rfl rfl ?_
  refine mm_get (kd := 0) dX10_isAtEnd_1 rfl fl_X10_35 (c := 1) rfl (by decide) rfl rfl ?_
  refine mm_ifne_z (q2 := 12) dX10_isAtEnd_4 (by omega) (fun k => mm_iconst dX10_isAtEnd_11 rfl k) (fun k => mm_iconst dX10_isAtEnd_7 rfl (mm_goto dX10_isAtEnd_8 k)) ?_
  refine mm_zret dX10_isAtEnd_12 rfl rfl (mm_b_01 _) ?_
  exact mm_fin rfl rfl
theorem c_X10_isSemicolon (hR : mm_Rf M) (hk : mm_R (M 1 5)) : mm_Fn X Y_X10_isSemicolon 243 [(2, 2)] M (0, mm_b (M 1 5 = 3)) M := by
  refine mm_startF (ls := [(2, 2)]) rfl ?_
  refine mm_aload_n dX10_isSemicolon_0 rfl rfl ?_
  refine mm_get (kd := 0) dX10_isSemicolon_1 rfl fl_X10_35 (c := 1) rfl (by decide) rfl rfl ?_
  refine mm_iconst dX10_isSemicolon_4 rfl ?_
  refine mm_icne_z (q2 := 13) dX10_isSemicolon_5 (by omega) (by omega) (fun k => mm_iconst dX10_isSemicolon_12 rfl k) (fun k => mm_iconst dX10_isSemicolon_8 rfl (mm_goto dX10_isSemicolon_9 k)) ?_
  refine mm_zret dX10_isSemicolon_13 rfl rfl (mm_b_01 _) ?_
  exact mm_fin rfl rfl
theorem c_X10_fails (hR : mm_Rf M) : mm_Fn X Y_X10_fails 243 [(2, 2), (0, x)] M (0, 0) (mm_up (mm_up M 1 2 x) 1 3 (M 1 6)) := by
  refine mm_startF (ls := [(2, 2), (0, x)]) rfl ?_
  refine mm_aload_n dX10_fails_0 rfl rfl ?_
  refine mm_iload_n dX10_fails_1 rfl rfl ?_
  refine mm_puti dX10_fails_2 rfl fl_X10_25 (c := 1) rfl (by decide) rfl rfl (fun M2 hM2 => ?_)
  have hR2 : mm_Rf M2 := by rw [hM2]; exact hR.up rfl
  refine mm_aload_n dX10_fails_5 rfl rfl ?_
  refine mm_aload_n dX10_fails_6 rfl rfl ?_
  refine mm_get (kd := 0) dX10_fails_7 rfl fl_X10_32 (c := 1) rfl (by decide) rfl rfl ?_
  obtain ⟨v7, hv7⟩ : ∃ v, v = M2 1 6 := ⟨_, rfl⟩
  rw [← hv7]
  rw [hM2, mm_up_i (by decide)] at hv7
  subst hv7
  refine mm_puti dX10_fails_10 rfl fl_X10_15 (c := 1) rfl (by decide) rfl rfl (fun M10 hM10 => ?_)
  have hR10 : mm_Rf M10 := by rw [hM10]; exact hR2.up rfl
  refine mm_iconst dX10_fails_13 rfl ?_
  refine mm_zret dX10_fails_14 rfl rfl (Or.inl rfl) ?_
  exact mm_fin rfl (by rw [hM10, hM2])
theorem c_X10_isNumberWithin (hR : mm_Rf M) (hk : mm_R (M 1 5)) (hv : M 1 5 = 2 → mm_R (M 1 4)) (hlo : mm_R lo) (hhi : mm_R hi) :
    mm_Fn X Y_X10_isNumberWithin 243 [(2, 2), (0, lo), (0, hi)] M (0, mm_b (M 1 5 = 2 ∧ lo ≤ M 1 4 ∧ M 1 4 ≤ hi))
      (if M 1 5 = 2 ∧ lo ≤ M 1 4 ∧ M 1 4 ≤ hi then M else mm_up (mm_up M 1 2 (if M 1 5 = 2 then 2 else 1)) 1 3 (M 1 6)) := by
  refine mm_startF (ls := [(2, 2), (0, lo), (0, hi)]) rfl ?_
  obtain ⟨N1, hN1⟩ : ∃ N, N = mm_up (mm_up M 1 2 1) 1 3 (M 1 6) := ⟨_, rfl⟩
  obtain ⟨N2, hN2⟩ : ∃ N, N = mm_up (mm_up M 1 2 2) 1 3 (M 1 6) := ⟨_, rfl⟩
  have hR1 : mm_Rf N1 := by rw [hN1]; exact (hR.up rfl).up rfl
  have hR2 : mm_Rf N2 := by rw [hN2]; exact (hR.up rfl).up rfl
  refine mm_aload_n dX10_isNumberWithin_0 rfl rfl ?_
  refine mm_get (kd := 0) dX10_isNumberWithin_1 rfl fl_X10_35 (c := 1) rfl (by decide) rfl rfl ?_
  refine mm_iconst dX10_isNumberWithin_4 rfl ?_
  refine mm_iceq dX10_isNumberWithin_5 (by omega) (by omega) (fun h5 => ?_) (fun h5 => ?_)
  · refine mm_aload_n dX10_isNumberWithin_14 rfl rfl ?_
    refine mm_get (kd := 0) dX10_isNumberWithin_15 rfl fl_X10_50 (c := 1) rfl (by decide) rfl rfl ?_
    refine mm_iload_n dX10_isNumberWithin_18 rfl rfl ?_
    refine mm_iload_n dX10_isNumberWithin_19 rfl rfl ?_
    refine mm_N3i dX10_isNumberWithin_20 rfl ln_X10_65 (by simp) (by simp) (by simp) rfl rfl rfl (c_X11_isWithin (hv h5) hlo hhi) ?_
    refine mm_ifneb dX10_isNumberWithin_23 (fun h23 => ?_) (fun h23 => ?_)
    · refine mm_iconst dX10_isNumberWithin_34 rfl ?_
      refine mm_goto dX10_isNumberWithin_35 ?_
      refine mm_zret dX10_isNumberWithin_39 rfl rfl (Or.inr rfl) ?_
      first
      | exact mm_fin (mm_b1 ⟨h5, h23⟩) (by rw [if_pos ⟨h5, h23⟩])
      | exact mm_fin (mm_b0 (fun q => h23 q.2)) (by rw [if_neg (fun q => h23 q.2), if_pos h5, hN2])
    · refine mm_aload_n dX10_isNumberWithin_26 rfl rfl ?_
      refine mm_iconst dX10_isNumberWithin_27 rfl ?_
      refine mm_V1i dX10_isNumberWithin_28 rfl lk_X10_62 (c := 1) rfl (by decide) rfl (by simp) rfl rfl rfl ((hN2 ▸ c_X10_fails (x := 2) hR)) ?_
      refine mm_ifeq dX10_isNumberWithin_31 (by omega) (fun _ => ?_) (fun h => absurd (by decide) h)
      refine mm_iconst dX10_isNumberWithin_38 rfl ?_
      refine mm_zret dX10_isNumberWithin_39 rfl rfl (Or.inl rfl) ?_
      first
      | exact mm_fin (mm_b1 ⟨h5, h23⟩) (by rw [if_pos ⟨h5, h23⟩])
      | exact mm_fin (mm_b0 (fun q => h23 q.2)) (by rw [if_neg (fun q => h23 q.2), if_pos h5, hN2])
  · refine mm_aload_n dX10_isNumberWithin_8 rfl rfl ?_
    refine mm_iconst dX10_isNumberWithin_9 rfl ?_
    refine mm_V1i dX10_isNumberWithin_10 rfl lk_X10_62 (c := 1) rfl (by decide) rfl (by simp) rfl rfl rfl ((hN1 ▸ c_X10_fails (x := 1) hR)) ?_
    refine mm_zret dX10_isNumberWithin_13 rfl rfl (Or.inl rfl) ?_
    exact mm_fin (mm_b0 (fun q => h5 q.1)) (by rw [if_neg (fun q => h5 q.1), if_neg h5, hN1])
theorem c_X10_advance (hR : mm_Rf M) (hT : mm_CT M n) (hp : p ≤ n) (h7 : M 1 7 = (p : Int)) :
    mm_C X Y_X10_advance 243 243 [(2, 2)] M (fun r M' => r = (3, 0) ∧ mm_Rf M' ∧ kt_A M M' n p) := by
  obtain ⟨hn, hn8, hb⟩ := id hT
  obtain ⟨s, hs⟩ : ∃ s, s = kt_s (M 2) n p := ⟨_, rfl⟩
  have hsb := kt_sb (B := M 2) hp
  rw [← hs] at hsb
  refine mm_start (ls := [(2, 2)]) rfl ?_
  have loop : ∀ i : Nat, i ≤ n → kt_run kt_bl (M 2) (n - i) i = s → ∀ N : mm_M, mm_Rf N → (∀ a, a ≠ 1 → N a = M a) → (∀ b, b ≠ 7 → N 1 b = M 1 b) → N 1 7 = (i : Int) →
      mm_J X Y_X10_advance 243 243 243 0 [(2, 2)] [] N (fun r M' => r = (3, 0) ∧ mm_Rf M' ∧ kt_A M M' n p) := by
    refine mm_lp ?_
    intro i hi ih hr N hRN hfa hfb e7
    have e1 : N 1 1 = (n : Int) := (hfb 1 (by decide)).trans hn
    have f2 : N 2 = M 2 := hfa 2 (by decide)
    have fin : i = s → mm_J X Y_X10_advance 243 243 243 39 [(2, 2)] [] N (fun r M' => r = (3, 0) ∧ mm_Rf M' ∧ kt_A M M' n p) := by
      intro eq
      by_cases hsn : s = n
      · refine mm_aload_n dX10_advance_39 rfl rfl ?_
        refine mm_aload_n dX10_advance_40 rfl rfl ?_
        refine mm_get (kd := 0) dX10_advance_41 rfl fl_X10_22 (c := 1) rfl (by decide) rfl rfl ?_
        obtain ⟨v41, hv41⟩ : ∃ v, v = N 1 7 := ⟨_, rfl⟩
        rw [← hv41]
        rw [e7] at hv41
        subst hv41
        refine mm_puti dX10_advance_44 rfl fl_X10_32 (c := 1) rfl (by decide) rfl rfl (fun M44 hM44 => ?_)
        have hR44 : mm_Rf M44 := by rw [hM44]; exact hRN.up rfl
        refine mm_aload_n dX10_advance_47 rfl rfl ?_
        refine mm_get (kd := 0) dX10_advance_48 rfl fl_X10_22 (c := 1) rfl (by decide) rfl rfl ?_
        obtain ⟨v48, hv48⟩ : ∃ v, v = M44 1 7 := ⟨_, rfl⟩
        rw [← hv48]
        rw [hM44, mm_up_i (by decide), e7] at hv48
        subst hv48
        refine mm_aload_n dX10_advance_51 rfl rfl ?_
        refine mm_get (kd := 0) dX10_advance_52 rfl fl_X10_19 (c := 1) rfl (by decide) rfl rfl ?_
        obtain ⟨v52, hv52⟩ : ∃ v, v = M44 1 1 := ⟨_, rfl⟩
        rw [← hv52]
        rw [hM44, mm_up_i (by decide), e1] at hv52
        subst hv52
        refine mm_iclt dX10_advance_55 (by omega) (by omega) (fun h55 => ?_) (fun h55 => ?_)
        · exfalso; omega
        · refine mm_aload_n dX10_advance_58 rfl rfl ?_
          refine mm_iconst dX10_advance_59 rfl ?_
          refine mm_puti dX10_advance_60 rfl fl_X10_35 (c := 1) rfl (by decide) rfl rfl (fun M60 hM60 => ?_)
          have hR60 : mm_Rf M60 := by rw [hM60]; exact hR44.up rfl
          refine mm_goto dX10_advance_63 ?_
          refine mm_vret dX10_advance_143 rfl rfl ?_
          refine ⟨rfl, hR60, ?_, ?_, ?_, ?_, ?_, ?_⟩
          · intro a ha; funext b; simp [hM60, hM44, mm_up, ha]; rw [hfa a ha]
          · intro b hb9
            have n1 : b ≠ 5 := by omega
            have n2 : b ≠ 6 := by omega
            simp [hM60, hM44, mm_up, n1, n2]; exact hfb b (by omega)
          · unfold kt_k; rw [← hs, if_pos hsn]; simp [hM60, hM44, mm_up]
          · simp [hM60, hM44, mm_up, ← hs, eq]
          · unfold kt_e; rw [← hs, if_pos hsn]; simp [hM60, hM44, mm_up, e7]; omega
          · unfold kt_k; rw [← hs, if_pos hsn]; intro z; exact absurd z (by decide)
      · have hbs := hb s (by omega)
        have e7s : N 1 7 = (s : Int) := by rw [e7, eq]
        have f2' : ∀ N' : mm_M, N' 2 = N 2 → N' 2 = M 2 := fun N' q => q.trans f2
        by_cases hl : kt_le (M 2 s) = true
        · refine mm_aload_n dX10_advance_39 rfl rfl ?_
          refine mm_aload_n dX10_advance_40 rfl rfl ?_
          refine mm_get (kd := 0) dX10_advance_41 rfl fl_X10_22 (c := 1) rfl (by decide) rfl rfl ?_
          obtain ⟨v41, hv41⟩ : ∃ v, v = N 1 7 := ⟨_, rfl⟩
          rw [← hv41]
          rw [e7s] at hv41
          subst hv41
          refine mm_puti dX10_advance_44 rfl fl_X10_32 (c := 1) rfl (by decide) rfl rfl (fun M44 hM44 => ?_)
          have hR44 : mm_Rf M44 := by rw [hM44]; exact hRN.up rfl
          refine mm_aload_n dX10_advance_47 rfl rfl ?_
          refine mm_get (kd := 0) dX10_advance_48 rfl fl_X10_22 (c := 1) rfl (by decide) rfl rfl ?_
          obtain ⟨v48, hv48⟩ : ∃ v, v = M44 1 7 := ⟨_, rfl⟩
          rw [← hv48]
          rw [hM44, mm_up_i (by decide), e7s] at hv48
          subst hv48
          refine mm_aload_n dX10_advance_51 rfl rfl ?_
          refine mm_get (kd := 0) dX10_advance_52 rfl fl_X10_19 (c := 1) rfl (by decide) rfl rfl ?_
          obtain ⟨v52, hv52⟩ : ∃ v, v = M44 1 1 := ⟨_, rfl⟩
          rw [← hv52]
          rw [hM44, mm_up_i (by decide), e1] at hv52
          subst hv52
          refine mm_iclt dX10_advance_55 (by omega) (by omega) (fun h55 => ?_) (fun h55 => ?_)
          · refine mm_aload_n dX10_advance_66 rfl rfl ?_
            refine mm_getr dX10_advance_67 rfl fl_X10_11 (c := 1) rfl (by decide) rfl rfl (hR44.at (c := 1) (i := 0) (v := 3) rfl (by decide)) ?_
            refine mm_aload_n dX10_advance_70 rfl rfl ?_
            refine mm_get (kd := 0) dX10_advance_71 rfl fl_X10_22 (c := 1) rfl (by decide) rfl rfl ?_
            obtain ⟨v71, hv71⟩ : ∃ v, v = M44 1 7 := ⟨_, rfl⟩
            rw [← hv71]
            rw [hM44, mm_up_i (by decide), e7s] at hv71
            subst hv71
            refine mm_balk (k0 := s) dX10_advance_74 rfl (c := 2) rfl (by decide) rfl (by omega) (by omega) ?_
            rw [show M44 2 = N 2 from by rw [hM44, mm_up_row (by decide)]]
            rw [f2]
            refine mm_S1i dX10_advance_75 rfl lk_X10_38 (by simp) rfl rfl rfl (c_X10_isLetter (by omega)) ?_
            refine mm_ifeqb dX10_advance_78 (fun h78 => ?_) (fun h78 => ?_)
            · exact absurd hl h78
            · refine mm_aload_n dX10_advance_81 rfl rfl ?_
              have u : ∀ a, a ≠ 1 → M44 a = M a := by intro a ha; rw [hM44, mm_up_row ha]; exact hfa a ha
              have hT2 : mm_CT M44 n := ⟨by rw [hM44, mm_up_i (by decide)]; exact e1, hn8, by rw [u 2 (by decide)]; exact hb⟩
              refine mm_V0g (M1 := M44) dX10_advance_82 rfl lk_X10_41 (c := 1) rfl (by decide) rfl  rfl rfl rfl (c_X10_takeWord (s := s) hR44 hT2 (by omega) (by rw [hM44, mm_up_s]) (by rw [hM44, mm_up_i (by decide)]; exact e7s)) ?_
              rintro _ N82 ⟨rfl, p82⟩
              change mm_J _ _ _ _ _ _ _ _ _ _
              have hR82 : mm_Rf N82 := p82.1
              refine mm_goto dX10_advance_85 ?_
              refine mm_vret dX10_advance_143 rfl rfl ?_
              obtain ⟨-, q1, q2, q3, q4⟩ := p82
              rw [u 2 (by decide)] at q3 q4
              refine ⟨rfl, hR82, ?_, ?_, ?_, ?_, ?_, ?_⟩
              · intro a ha; rw [q1 a ha]; exact u a ha
              · intro b hb9; rw [q2 b (by omega) (by omega), hM44, mm_up_i (by omega)]; exact hfb b (by omega)
              · unfold kt_k; rw [← hs, if_neg hsn, if_pos hl]; exact q3
              · rw [q2 6 (by decide) (by decide), hM44, mm_up_s, ← hs]
              · unfold kt_e; rw [← hs, if_neg hsn, if_pos hl]; exact q4
              · unfold kt_k; rw [← hs, if_neg hsn, if_pos hl]; intro z; split at z <;> exact absurd z (by decide)
          · exfalso; omega
        · by_cases hdg : kt_di (M 2 s) = true
          · refine mm_aload_n dX10_advance_39 rfl rfl ?_
            refine mm_aload_n dX10_advance_40 rfl rfl ?_
            refine mm_get (kd := 0) dX10_advance_41 rfl fl_X10_22 (c := 1) rfl (by decide) rfl rfl ?_
            obtain ⟨v41, hv41⟩ : ∃ v, v = N 1 7 := ⟨_, rfl⟩
            rw [← hv41]
            rw [e7s] at hv41
            subst hv41
            refine mm_puti dX10_advance_44 rfl fl_X10_32 (c := 1) rfl (by decide) rfl rfl (fun M44 hM44 => ?_)
            have hR44 : mm_Rf M44 := by rw [hM44]; exact hRN.up rfl
            refine mm_aload_n dX10_advance_47 rfl rfl ?_
            refine mm_get (kd := 0) dX10_advance_48 rfl fl_X10_22 (c := 1) rfl (by decide) rfl rfl ?_
            obtain ⟨v48, hv48⟩ : ∃ v, v = M44 1 7 := ⟨_, rfl⟩
            rw [← hv48]
            rw [hM44, mm_up_i (by decide), e7s] at hv48
            subst hv48
            refine mm_aload_n dX10_advance_51 rfl rfl ?_
            refine mm_get (kd := 0) dX10_advance_52 rfl fl_X10_19 (c := 1) rfl (by decide) rfl rfl ?_
            obtain ⟨v52, hv52⟩ : ∃ v, v = M44 1 1 := ⟨_, rfl⟩
            rw [← hv52]
            rw [hM44, mm_up_i (by decide), e1] at hv52
            subst hv52
            refine mm_iclt dX10_advance_55 (by omega) (by omega) (fun h55 => ?_) (fun h55 => ?_)
            · refine mm_aload_n dX10_advance_66 rfl rfl ?_
              refine mm_getr dX10_advance_67 rfl fl_X10_11 (c := 1) rfl (by decide) rfl rfl (hR44.at (c := 1) (i := 0) (v := 3) rfl (by decide)) ?_
              refine mm_aload_n dX10_advance_70 rfl rfl ?_
              refine mm_get (kd := 0) dX10_advance_71 rfl fl_X10_22 (c := 1) rfl (by decide) rfl rfl ?_
              obtain ⟨v71, hv71⟩ : ∃ v, v = M44 1 7 := ⟨_, rfl⟩
              rw [← hv71]
              rw [hM44, mm_up_i (by decide), e7s] at hv71
              subst hv71
              refine mm_balk (k0 := s) dX10_advance_74 rfl (c := 2) rfl (by decide) rfl (by omega) (by omega) ?_
              rw [show M44 2 = N 2 from by rw [hM44, mm_up_row (by decide)]]
              rw [f2]
              refine mm_S1i dX10_advance_75 rfl lk_X10_38 (by simp) rfl rfl rfl (c_X10_isLetter (by omega)) ?_
              refine mm_ifeqb dX10_advance_78 (fun h78 => ?_) (fun h78 => ?_)
              · refine mm_aload_n dX10_advance_88 rfl rfl ?_
                refine mm_getr dX10_advance_89 rfl fl_X10_11 (c := 1) rfl (by decide) rfl rfl (hR44.at (c := 1) (i := 0) (v := 3) rfl (by decide)) ?_
                refine mm_aload_n dX10_advance_92 rfl rfl ?_
                refine mm_get (kd := 0) dX10_advance_93 rfl fl_X10_22 (c := 1) rfl (by decide) rfl rfl ?_
                obtain ⟨v93, hv93⟩ : ∃ v, v = M44 1 7 := ⟨_, rfl⟩
                rw [← hv93]
                rw [hM44, mm_up_i (by decide), e7s] at hv93
                subst hv93
                refine mm_balk (k0 := s) dX10_advance_96 rfl (c := 2) rfl (by decide) rfl (by omega) (by omega) ?_
                rw [show M44 2 = N 2 from by rw [hM44, mm_up_row (by decide)]]
                rw [f2]
                refine mm_S1i dX10_advance_97 rfl lk_X10_44 (by simp) rfl rfl rfl (c_X10_isDigit (by omega)) ?_
                refine mm_ifeqb dX10_advance_100 (fun h100 => ?_) (fun h100 => ?_)
                · exact absurd hdg h100
                · refine mm_aload_n dX10_advance_103 rfl rfl ?_
                  have u : ∀ a, a ≠ 1 → M44 a = M a := by intro a ha; rw [hM44, mm_up_row ha]; exact hfa a ha
                  have hT2 : mm_CT M44 n := ⟨by rw [hM44, mm_up_i (by decide)]; exact e1, hn8, by rw [u 2 (by decide)]; exact hb⟩
                  refine mm_V0g (M1 := M44) dX10_advance_104 rfl lk_X10_47 (c := 1) rfl (by decide) rfl  rfl rfl rfl (c_X10_takeNumber (s := s) hR44 hT2 (by omega) (by rw [hM44, mm_up_s]) (by rw [hM44, mm_up_i (by decide)]; exact e7s)) ?_
                  rintro _ N104 ⟨rfl, p104⟩
                  change mm_J _ _ _ _ _ _ _ _ _ _
                  have hR104 : mm_Rf N104 := p104.1
                  refine mm_goto dX10_advance_107 ?_
                  refine mm_vret dX10_advance_143 rfl rfl ?_
                  obtain ⟨-, q1, q2, q3, q4, q5⟩ := p104
                  rw [u 2 (by decide)] at q3 q4 q5
                  refine ⟨rfl, hR104, ?_, ?_, ?_, ?_, ?_, ?_⟩
                  · intro a ha; rw [q1 a ha]; exact u a ha
                  · intro b hb9; rw [q2 b (by omega) (by omega) (by omega), hM44, mm_up_i (by omega)]; exact hfb b (by omega)
                  · unfold kt_k; rw [← hs, if_neg hsn, if_neg hl, if_pos hdg]; exact q3
                  · rw [q2 6 (by decide) (by decide) (by decide), hM44, mm_up_s, ← hs]
                  · unfold kt_e; rw [← hs, if_neg hsn, if_neg hl, if_pos hdg]; exact q4
                  · intro _; unfold kt_v; rw [← hs]; exact q5
              · exact absurd h78 hl
            · exfalso; omega
          · refine mm_aload_n dX10_advance_39 rfl rfl ?_
            refine mm_aload_n dX10_advance_40 rfl rfl ?_
            refine mm_get (kd := 0) dX10_advance_41 rfl fl_X10_22 (c := 1) rfl (by decide) rfl rfl ?_
            obtain ⟨v41, hv41⟩ : ∃ v, v = N 1 7 := ⟨_, rfl⟩
            rw [← hv41]
            rw [e7s] at hv41
            subst hv41
            refine mm_puti dX10_advance_44 rfl fl_X10_32 (c := 1) rfl (by decide) rfl rfl (fun M44 hM44 => ?_)
            have hR44 : mm_Rf M44 := by rw [hM44]; exact hRN.up rfl
            refine mm_aload_n dX10_advance_47 rfl rfl ?_
            refine mm_get (kd := 0) dX10_advance_48 rfl fl_X10_22 (c := 1) rfl (by decide) rfl rfl ?_
            obtain ⟨v48, hv48⟩ : ∃ v, v = M44 1 7 := ⟨_, rfl⟩
            rw [← hv48]
            rw [hM44, mm_up_i (by decide), e7s] at hv48
            subst hv48
            refine mm_aload_n dX10_advance_51 rfl rfl ?_
            refine mm_get (kd := 0) dX10_advance_52 rfl fl_X10_19 (c := 1) rfl (by decide) rfl rfl ?_
            obtain ⟨v52, hv52⟩ : ∃ v, v = M44 1 1 := ⟨_, rfl⟩
            rw [← hv52]
            rw [hM44, mm_up_i (by decide), e1] at hv52
            subst hv52
            refine mm_iclt dX10_advance_55 (by omega) (by omega) (fun h55 => ?_) (fun h55 => ?_)
            · refine mm_aload_n dX10_advance_66 rfl rfl ?_
              refine mm_getr dX10_advance_67 rfl fl_X10_11 (c := 1) rfl (by decide) rfl rfl (hR44.at (c := 1) (i := 0) (v := 3) rfl (by decide)) ?_
              refine mm_aload_n dX10_advance_70 rfl rfl ?_
              refine mm_get (kd := 0) dX10_advance_71 rfl fl_X10_22 (c := 1) rfl (by decide) rfl rfl ?_
              obtain ⟨v71, hv71⟩ : ∃ v, v = M44 1 7 := ⟨_, rfl⟩
              rw [← hv71]
              rw [hM44, mm_up_i (by decide), e7s] at hv71
              subst hv71
              refine mm_balk (k0 := s) dX10_advance_74 rfl (c := 2) rfl (by decide) rfl (by omega) (by omega) ?_
              rw [show M44 2 = N 2 from by rw [hM44, mm_up_row (by decide)]]
              rw [f2]
              refine mm_S1i dX10_advance_75 rfl lk_X10_38 (by simp) rfl rfl rfl (c_X10_isLetter (by omega)) ?_
              refine mm_ifeqb dX10_advance_78 (fun h78 => ?_) (fun h78 => ?_)
              · refine mm_aload_n dX10_advance_88 rfl rfl ?_
                refine mm_getr dX10_advance_89 rfl fl_X10_11 (c := 1) rfl (by decide) rfl rfl (hR44.at (c := 1) (i := 0) (v := 3) rfl (by decide)) ?_
                refine mm_aload_n dX10_advance_92 rfl rfl ?_
                refine mm_get (kd := 0) dX10_advance_93 rfl fl_X10_22 (c := 1) rfl (by decide) rfl rfl ?_
                obtain ⟨v93, hv93⟩ : ∃ v, v = M44 1 7 := ⟨_, rfl⟩
                rw [← hv93]
                rw [hM44, mm_up_i (by decide), e7s] at hv93
                subst hv93
                refine mm_balk (k0 := s) dX10_advance_96 rfl (c := 2) rfl (by decide) rfl (by omega) (by omega) ?_
                rw [show M44 2 = N 2 from by rw [hM44, mm_up_row (by decide)]]
                rw [f2]
                refine mm_S1i dX10_advance_97 rfl lk_X10_44 (by simp) rfl rfl rfl (c_X10_isDigit (by omega)) ?_
                refine mm_ifeqb dX10_advance_100 (fun h100 => ?_) (fun h100 => ?_)
                · refine mm_aload_n dX10_advance_110 rfl rfl ?_
                  refine mm_aload_n dX10_advance_111 rfl rfl ?_
                  refine mm_getr dX10_advance_112 rfl fl_X10_11 (c := 1) rfl (by decide) rfl rfl (hR44.at (c := 1) (i := 0) (v := 3) rfl (by decide)) ?_
                  refine mm_aload_n dX10_advance_115 rfl rfl ?_
                  refine mm_get (kd := 0) dX10_advance_116 rfl fl_X10_22 (c := 1) rfl (by decide) rfl rfl ?_
                  obtain ⟨v116, hv116⟩ : ∃ v, v = M44 1 7 := ⟨_, rfl⟩
                  rw [← hv116]
                  rw [hM44, mm_up_i (by decide), e7s] at hv116
                  subst hv116
                  refine mm_balk (k0 := s) dX10_advance_119 rfl (c := 2) rfl (by decide) rfl (by omega) (by omega) ?_
                  rw [show M44 2 = N 2 from by rw [hM44, mm_up_row (by decide)]]
                  rw [f2]
                  refine mm_bipush dX10_advance_120 rfl (by decide) ?_
                  refine mm_icne_d (q2 := 130) dX10_advance_122 (by omega) (by omega) (fun k => mm_iconst dX10_advance_129 rfl k) (fun k => mm_iconst dX10_advance_125 rfl (mm_goto dX10_advance_126 k)) ?_
                  refine mm_puti dX10_advance_130 rfl fl_X10_35 (c := 1) rfl (by decide) rfl rfl (fun M130 hM130 => ?_)
                  have hR130 : mm_Rf M130 := by rw [hM130]; exact hR44.up rfl
                  refine mm_aload_n dX10_advance_133 rfl rfl ?_
                  refine mm_dup dX10_advance_134 rfl (by simp) ?_
                  refine mm_get (kd := 0) dX10_advance_135 rfl fl_X10_22 (c := 1) rfl (by decide) rfl rfl ?_
                  obtain ⟨v135, hv135⟩ : ∃ v, v = M130 1 7 := ⟨_, rfl⟩
                  rw [← hv135]
                  rw [hM130, mm_up_i (by decide), hM44, mm_up_i (by decide), e7s] at hv135
                  subst hv135
                  refine mm_iconst dX10_advance_138 rfl ?_
                  refine mm_iadd dX10_advance_139 rfl ?_
                  refine mm_puti dX10_advance_140 rfl fl_X10_22 (c := 1) rfl (by decide) rfl rfl (fun M140 hM140 => ?_)
                  have hR140 : mm_Rf M140 := by rw [hM140]; exact hR130.up rfl
                  refine mm_vret dX10_advance_143 rfl rfl ?_
                  refine ⟨rfl, hR140, ?_, ?_, ?_, ?_, ?_, ?_⟩
                  · intro a ha; funext b; simp [hM140, hM130, hM44, mm_up, ha]; rw [hfa a ha]
                  · intro b hb9
                    have n1 : b ≠ 5 := by omega
                    have n2 : b ≠ 6 := by omega
                    have n3 : b ≠ 7 := by omega
                    simp [hM140, hM130, hM44, mm_up, n1, n2, n3]; exact hfb b n3
                  · unfold kt_k; rw [← hs, if_neg hsn, if_neg hl, if_neg hdg]; simp [hM140, hM130, hM44, mm_up]
                  · simp [hM140, hM130, hM44, mm_up, ← hs, eq]
                  · unfold kt_e; rw [← hs, if_neg hsn, if_neg hl, if_neg hdg]; simp [hM140, hM130, hM44, mm_up]
                  · unfold kt_k; rw [← hs, if_neg hsn, if_neg hl, if_neg hdg]; intro z; split at z <;> exact absurd z (by decide)
                · exact absurd h100 hdg
              · exact absurd h78 hl
            · exfalso; omega
    by_cases hlt : i < n
    · have hbi := hb i (by omega)
      rw [show n - i = (n - (i + 1)) + 1 by omega, kt_run] at hr
      refine mm_aload_n dX10_advance_0 rfl rfl ?_
      refine mm_get (kd := 0) dX10_advance_1 rfl fl_X10_22 (c := 1) rfl (by decide) rfl rfl ?_
      obtain ⟨v1, hv1⟩ : ∃ v, v = N 1 7 := ⟨_, rfl⟩
      rw [← hv1]
      rw [e7] at hv1
      subst hv1
      refine mm_aload_n dX10_advance_4 rfl rfl ?_
      refine mm_get (kd := 0) dX10_advance_5 rfl fl_X10_19 (c := 1) rfl (by decide) rfl rfl ?_
      obtain ⟨v5, hv5⟩ : ∃ v, v = N 1 1 := ⟨_, rfl⟩
      rw [← hv5]
      rw [e1] at hv5
      subst hv5
      refine mm_icge dX10_advance_8 (by omega) (by omega) (fun h8 => ?_) (fun h8 => ?_)
      · exfalso; omega
      · refine mm_aload_n dX10_advance_11 rfl rfl ?_
        refine mm_getr dX10_advance_12 rfl fl_X10_11 (c := 1) rfl (by decide) rfl rfl (hRN.at (c := 1) (i := 0) (v := 3) rfl (by decide)) ?_
        refine mm_aload_n dX10_advance_15 rfl rfl ?_
        refine mm_get (kd := 0) dX10_advance_16 rfl fl_X10_22 (c := 1) rfl (by decide) rfl rfl ?_
        obtain ⟨v16, hv16⟩ : ∃ v, v = N 1 7 := ⟨_, rfl⟩
        rw [← hv16]
        rw [e7] at hv16
        subst hv16
        refine mm_balk (k0 := i) dX10_advance_19 rfl (c := 2) rfl (by decide) rfl (by omega) (by omega) ?_
        rw [f2]
        refine mm_S1i dX10_advance_20 rfl lk_X10_28 (by simp) rfl rfl rfl (c_X10_isBlank (by omega)) ?_
        refine mm_ifeqb dX10_advance_23 (fun h23 => ?_) (fun h23 => ?_)
        · rw [if_neg h23] at hr
          exact fin hr
        · refine mm_aload_n dX10_advance_26 rfl rfl ?_
          refine mm_dup dX10_advance_27 rfl (by simp) ?_
          refine mm_get (kd := 0) dX10_advance_28 rfl fl_X10_22 (c := 1) rfl (by decide) rfl rfl ?_
          obtain ⟨v28, hv28⟩ : ∃ v, v = N 1 7 := ⟨_, rfl⟩
          rw [← hv28]
          rw [e7] at hv28
          subst hv28
          refine mm_iconst dX10_advance_31 rfl ?_
          refine mm_iadd dX10_advance_32 rfl ?_
          refine mm_puti dX10_advance_33 rfl fl_X10_22 (c := 1) rfl (by decide) rfl rfl (fun M33 hM33 => ?_)
          have hR33 : mm_Rf M33 := by rw [hM33]; exact hRN.up rfl
          refine mm_goto dX10_advance_36 ?_
          rw [if_pos h23] at hr
          refine ih hlt hr _ hR33 ?_ ?_ ?_
          · intro a ha; rw [hM33, mm_up_row ha]; exact hfa a ha
          · intro b h2; rw [hM33, mm_up_i h2]; exact hfb b h2
          · rw [hM33, mm_up_s]; omega
    · rw [show n - i = 0 by omega, kt_run] at hr
      refine mm_aload_n dX10_advance_0 rfl rfl ?_
      refine mm_get (kd := 0) dX10_advance_1 rfl fl_X10_22 (c := 1) rfl (by decide) rfl rfl ?_
      obtain ⟨v1, hv1⟩ : ∃ v, v = N 1 7 := ⟨_, rfl⟩
      rw [← hv1]
      rw [e7] at hv1
      subst hv1
      refine mm_aload_n dX10_advance_4 rfl rfl ?_
      refine mm_get (kd := 0) dX10_advance_5 rfl fl_X10_19 (c := 1) rfl (by decide) rfl rfl ?_
      obtain ⟨v5, hv5⟩ : ∃ v, v = N 1 1 := ⟨_, rfl⟩
      rw [← hv5]
      rw [e1] at hv5
      subst hv5
      refine mm_icge dX10_advance_8 (by omega) (by omega) (fun h8 => ?_) (fun h8 => ?_)
      · exact fin hr
      · exfalso; omega
  exact loop p hp (by rw [hs]; rfl) M hR (fun _ _ => rfl) (fun _ _ => rfl) h7
theorem c_X10_wordAmong (hR : mm_Rf M) (hT : mm_CT M n) (hk : k0 < 37) (hk5 : mm_R (M 1 5)) (hs : M 1 6 = (s : Int)) (he : M 1 7 = (e : Int)) (hse : s ≤ e ∧ e ≤ n) :
    mm_Fn X Y_X10_wordAmong 243 [(2, 2), (2, -((k0 + 100 : Nat) : Int))] M (0, if M 1 5 = 1 then kt_f (fun j => M 2 (s + j)) (e - s) (mm_sc.getD k0 mm_sd).2.2.2 0 0 true else -1) M := by
  obtain ⟨hn, hn8, hb⟩ := id hT
  have hL := ks_LB k0 hk
  refine mm_startF (ls := [(2, 2), (2, -((k0 + 100 : Nat) : Int)), (9, 0), (9, 0), (9, 0), (9, 0)]) rfl ?_
  have fin2 : ∀ (l2 l3 l4 : mm_V) (i : Int), i = (ks_L k0 : Int) + 1 → kt_f (fun j => M 2 (s + j)) (e - s) (mm_sc.getD k0 mm_sd).2.2.2 0 0 true = -1 → mm_J X Y_X10_wordAmong 243 243 243 23 [(2, 2), (2, -((k0 + 100 : Nat) : Int)), l2, l3, l4, (0, i)] [] M (fun r' M'' => r' = (0, kt_f (fun j => M 2 (s + j)) (e - s) (mm_sc.getD k0 mm_sd).2.2.2 0 0 true) ∧ M'' = M) := by
    intro l2 l3 l4 i hi hf
    refine mm_iload dX10_wordAmong_23 rfl rfl ?_
    refine mm_aload_n dX10_wordAmong_25 rfl rfl ?_
    refine mm_VS0i dX10_wordAmong_26 rfl ls_X10_53 rfl hk  rfl rfl rfl (c_J0_length_8abf5 hk) ?_
    refine mm_icgt dX10_wordAmong_29 (by omega) (by omega) (fun h29 => ?_) (fun h29 => ?_)
    · refine mm_iconst dX10_wordAmong_125 rfl ?_
      refine mm_iret dX10_wordAmong_126 rfl rfl ?_
      exact mm_fin hf.symm rfl
    · exfalso; omega
  have loop : M 1 5 = 1 → ∀ i : Nat, i ≤ ks_L k0 → ∀ (w o : Nat) (z : Bool), w ≤ i → o ≤ i → kt_f (fun j => M 2 (s + j)) (e - s) ((mm_sc.getD k0 mm_sd).2.2.2.drop i) w o z = kt_f (fun j => M 2 (s + j)) (e - s) (mm_sc.getD k0 mm_sd).2.2.2 0 0 true →
      mm_J X Y_X10_wordAmong 243 243 243 23 [(2, 2), (2, -((k0 + 100 : Nat) : Int)), (0, (w : Int)), (0, ((s + o : Nat) : Int)), (0, mm_b (z = true)), (0, (i : Int))] [] M (fun r' M'' => r' = (0, kt_f (fun j => M 2 (s + j)) (e - s) (mm_sc.getD k0 mm_sd).2.2.2 0 0 true) ∧ M'' = M) := by
    intro h1
    refine mm_lp ?_
    intro i hi ih w o z hw ho hf
    by_cases hlt : i < ks_L k0
    · have hB := ks_BB k0 hk i hlt
      have hdrop : (mm_sc.getD k0 mm_sd).2.2.2.drop i = ks_B k0 i :: (mm_sc.getD k0 mm_sd).2.2.2.drop (i + 1) := kt_drop hlt
      rw [hdrop, kt_f] at hf
      have cA := c_J0_charAt_5068e (X := X) (M := M) (k0 := k0) (j := (i : Int)) hk (by omega) (by omega)
      rw [Int.toNat_natCast] at cA
      by_cases h32 : ks_B k0 i = 32
      · rw [if_pos h32] at hf
        refine mm_iload dX10_wordAmong_23 rfl rfl ?_
        refine mm_aload_n dX10_wordAmong_25 rfl rfl ?_
        refine mm_VS0i dX10_wordAmong_26 rfl ls_X10_53 rfl hk  rfl rfl rfl (c_J0_length_8abf5 hk) ?_
        refine mm_icgt dX10_wordAmong_29 (by omega) (by omega) (fun h29 => ?_) (fun h29 => ?_)
        · exfalso; omega
        · refine mm_iload dX10_wordAmong_32 rfl rfl ?_
          refine mm_aload_n dX10_wordAmong_34 rfl rfl ?_
          refine mm_VS0i dX10_wordAmong_35 rfl ls_X10_53 rfl hk  rfl rfl rfl (c_J0_length_8abf5 hk) ?_
          refine mm_iceq dX10_wordAmong_38 (by omega) (by omega) (fun h38 => ?_) (fun h38 => ?_)
          · exfalso; omega
          · refine mm_aload_n dX10_wordAmong_41 rfl rfl ?_
            refine mm_iload dX10_wordAmong_42 rfl rfl ?_
            refine mm_VS1i dX10_wordAmong_44 rfl ls_X10_58 rfl hk (by simp) rfl rfl rfl (cA) ?_
            refine mm_bipush dX10_wordAmong_47 rfl (by decide) ?_
            refine mm_icne dX10_wordAmong_49 (by omega) (by omega) (fun h49 => ?_) (fun h49 => ?_)
            · exact absurd h32 h49
            · refine mm_iload dX10_wordAmong_52 rfl rfl ?_
              refine mm_ifeqb dX10_wordAmong_54 (fun h54 => ?_) (fun h54 => ?_)
              · refine mm_iinc dX10_wordAmong_67 rfl rfl (Nat.le_of_ble_eq_true rfl) rfl ?_
                refine mm_aload_n dX10_wordAmong_70 rfl rfl ?_
                refine mm_get (kd := 0) dX10_wordAmong_71 rfl fl_X10_32 (c := 1) rfl (by decide) rfl rfl ?_
                obtain ⟨v71, hv71⟩ : ∃ v, v = M 1 6 := ⟨_, rfl⟩
                rw [← hv71]
                rw [hs] at hv71
                subst hv71
                refine mm_istore_n dX10_wordAmong_74 rfl (Nat.le_of_ble_eq_true rfl) rfl ?_
                refine mm_iconst dX10_wordAmong_75 rfl ?_
                refine mm_istore dX10_wordAmong_76 rfl (Nat.le_of_ble_eq_true rfl) rfl ?_
                refine mm_goto dX10_wordAmong_78 ?_
                refine mm_iinc dX10_wordAmong_119 rfl rfl (Nat.le_of_ble_eq_true rfl) rfl ?_
                refine mm_goto dX10_wordAmong_122 ?_
                first
                | (rw [if_neg (fun q => h54 q.1)] at hf
                   exact ih hlt (w + 1) 0 true (by omega) (by omega) hf)
                | (rw [if_neg (fun q => h62 (by rw [q.2]; omega))] at hf
                   exact ih hlt (w + 1) 0 true (by omega) (by omega) hf)
              · refine mm_iload_n dX10_wordAmong_57 rfl rfl ?_
                refine mm_aload_n dX10_wordAmong_58 rfl rfl ?_
                refine mm_get (kd := 0) dX10_wordAmong_59 rfl fl_X10_22 (c := 1) rfl (by decide) rfl rfl ?_
                obtain ⟨v59, hv59⟩ : ∃ v, v = M 1 7 := ⟨_, rfl⟩
                rw [← hv59]
                rw [he] at hv59
                subst hv59
                refine mm_icne dX10_wordAmong_62 (by omega) (by omega) (fun h62 => ?_) (fun h62 => ?_)
                · refine mm_iinc dX10_wordAmong_67 rfl rfl (Nat.le_of_ble_eq_true rfl) rfl ?_
                  refine mm_aload_n dX10_wordAmong_70 rfl rfl ?_
                  refine mm_get (kd := 0) dX10_wordAmong_71 rfl fl_X10_32 (c := 1) rfl (by decide) rfl rfl ?_
                  obtain ⟨v71, hv71⟩ : ∃ v, v = M 1 6 := ⟨_, rfl⟩
                  rw [← hv71]
                  rw [hs] at hv71
                  subst hv71
                  refine mm_istore_n dX10_wordAmong_74 rfl (Nat.le_of_ble_eq_true rfl) rfl ?_
                  refine mm_iconst dX10_wordAmong_75 rfl ?_
                  refine mm_istore dX10_wordAmong_76 rfl (Nat.le_of_ble_eq_true rfl) rfl ?_
                  refine mm_goto dX10_wordAmong_78 ?_
                  refine mm_iinc dX10_wordAmong_119 rfl rfl (Nat.le_of_ble_eq_true rfl) rfl ?_
                  refine mm_goto dX10_wordAmong_122 ?_
                  first
                  | (rw [if_neg (fun q => h54 q.1)] at hf
                     exact ih hlt (w + 1) 0 true (by omega) (by omega) hf)
                  | (rw [if_neg (fun q => h62 (by rw [q.2]; omega))] at hf
                     exact ih hlt (w + 1) 0 true (by omega) (by omega) hf)
                · refine mm_iload_n dX10_wordAmong_65 rfl rfl ?_
                  refine mm_iret dX10_wordAmong_66 rfl rfl ?_
                  refine mm_fin ?_ rfl
                  rw [← hf, if_pos ⟨h54, by omega⟩]
      · rw [if_neg h32] at hf
        have nx : ∀ y : Int, y = mm_b ((z && decide (o < e - s ∧ M 2 (s + o) = ks_B k0 i)) = true) → mm_J X Y_X10_wordAmong 243 243 243 114 [(2, 2), (2, -((k0 + 100 : Nat) : Int)), (0, (w : Int)), (0, ((s + o : Nat) : Int)), (0, mm_b (z = true)), (0, (i : Int))] [(0, y)] M (fun r' M'' => r' = (0, kt_f (fun j => M 2 (s + j)) (e - s) (mm_sc.getD k0 mm_sd).2.2.2 0 0 true) ∧ M'' = M) := by
          intro y hy
          subst hy
          refine mm_istore dX10_wordAmong_114 rfl (Nat.le_of_ble_eq_true rfl) rfl ?_
          refine mm_iinc dX10_wordAmong_116 rfl rfl (Nat.le_of_ble_eq_true rfl) rfl ?_
          refine mm_iinc dX10_wordAmong_119 rfl rfl (Nat.le_of_ble_eq_true rfl) rfl ?_
          refine mm_goto dX10_wordAmong_122 ?_
          exact ih hlt w (o + 1) _ (by omega) (by omega) hf
        refine mm_iload dX10_wordAmong_23 rfl rfl ?_
        refine mm_aload_n dX10_wordAmong_25 rfl rfl ?_
        refine mm_VS0i dX10_wordAmong_26 rfl ls_X10_53 rfl hk  rfl rfl rfl (c_J0_length_8abf5 hk) ?_
        refine mm_icgt dX10_wordAmong_29 (by omega) (by omega) (fun h29 => ?_) (fun h29 => ?_)
        · exfalso; omega
        · refine mm_iload dX10_wordAmong_32 rfl rfl ?_
          refine mm_aload_n dX10_wordAmong_34 rfl rfl ?_
          refine mm_VS0i dX10_wordAmong_35 rfl ls_X10_53 rfl hk  rfl rfl rfl (c_J0_length_8abf5 hk) ?_
          refine mm_iceq dX10_wordAmong_38 (by omega) (by omega) (fun h38 => ?_) (fun h38 => ?_)
          · exfalso; omega
          · refine mm_aload_n dX10_wordAmong_41 rfl rfl ?_
            refine mm_iload dX10_wordAmong_42 rfl rfl ?_
            refine mm_VS1i dX10_wordAmong_44 rfl ls_X10_58 rfl hk (by simp) rfl rfl rfl (cA) ?_
            refine mm_bipush dX10_wordAmong_47 rfl (by decide) ?_
            refine mm_icne dX10_wordAmong_49 (by omega) (by omega) (fun h49 => ?_) (fun h49 => ?_)
            · refine mm_iload dX10_wordAmong_81 rfl rfl ?_
              refine mm_ifeqb dX10_wordAmong_83 (fun h83 => ?_) (fun h83 => ?_)
              · refine mm_iconst dX10_wordAmong_113 rfl ?_
                refine nx _ ?_
                first
                | exact mm_b1 (by rw [h83, decide_eq_true (show o < e - s ∧ M 2 (s + o) = ks_B k0 i from ⟨by omega, h106⟩)]; rfl)
                | exact mm_b0 (by rw [decide_eq_false (show ¬ (o < e - s ∧ M 2 (s + o) = ks_B k0 i) from fun q => h106 q.2), Bool.and_false]; decide)
                | exact mm_b0 (by rw [decide_eq_false (show ¬ (o < e - s ∧ M 2 (s + o) = ks_B k0 i) from fun q => absurd q.1 (by omega)), Bool.and_false]; decide)
                | exact mm_b0 (fun q => h83 (by cases z <;> simp_all))
              · refine mm_iload_n dX10_wordAmong_86 rfl rfl ?_
                refine mm_aload_n dX10_wordAmong_87 rfl rfl ?_
                refine mm_get (kd := 0) dX10_wordAmong_88 rfl fl_X10_22 (c := 1) rfl (by decide) rfl rfl ?_
                obtain ⟨v88, hv88⟩ : ∃ v, v = M 1 7 := ⟨_, rfl⟩
                rw [← hv88]
                rw [he] at hv88
                subst hv88
                refine mm_icge dX10_wordAmong_91 (by omega) (by omega) (fun h91 => ?_) (fun h91 => ?_)
                · refine mm_iconst dX10_wordAmong_113 rfl ?_
                  refine nx _ ?_
                  first
                  | exact mm_b1 (by rw [h83, decide_eq_true (show o < e - s ∧ M 2 (s + o) = ks_B k0 i from ⟨by omega, h106⟩)]; rfl)
                  | exact mm_b0 (by rw [decide_eq_false (show ¬ (o < e - s ∧ M 2 (s + o) = ks_B k0 i) from fun q => h106 q.2), Bool.and_false]; decide)
                  | exact mm_b0 (by rw [decide_eq_false (show ¬ (o < e - s ∧ M 2 (s + o) = ks_B k0 i) from fun q => absurd q.1 (by omega)), Bool.and_false]; decide)
                  | exact mm_b0 (fun q => h83 (by cases z <;> simp_all))
                · refine mm_aload_n dX10_wordAmong_94 rfl rfl ?_
                  refine mm_getr dX10_wordAmong_95 rfl fl_X10_11 (c := 1) rfl (by decide) rfl rfl (hR.at (c := 1) (i := 0) (v := 3) rfl (by decide)) ?_
                  refine mm_iload_n dX10_wordAmong_98 rfl rfl ?_
                  refine mm_balk (k0 := (s + o)) dX10_wordAmong_99 rfl (c := 2) rfl (by decide) rfl (by omega) (by omega) ?_
                  refine mm_aload_n dX10_wordAmong_100 rfl rfl ?_
                  refine mm_iload dX10_wordAmong_101 rfl rfl ?_
                  refine mm_VS1i dX10_wordAmong_103 rfl ls_X10_58 rfl hk (by simp) rfl rfl rfl (cA) ?_
                  refine mm_icne dX10_wordAmong_106 (by (have := hb (s + o) (by omega)); omega) (by omega) (fun h106 => ?_) (fun h106 => ?_)
                  · refine mm_iconst dX10_wordAmong_113 rfl ?_
                    refine nx _ ?_
                    first
                    | exact mm_b1 (by rw [h83, decide_eq_true (show o < e - s ∧ M 2 (s + o) = ks_B k0 i from ⟨by omega, h106⟩)]; rfl)
                    | exact mm_b0 (by rw [decide_eq_false (show ¬ (o < e - s ∧ M 2 (s + o) = ks_B k0 i) from fun q => h106 q.2), Bool.and_false]; decide)
                    | exact mm_b0 (by rw [decide_eq_false (show ¬ (o < e - s ∧ M 2 (s + o) = ks_B k0 i) from fun q => absurd q.1 (by omega)), Bool.and_false]; decide)
                    | exact mm_b0 (fun q => h83 (by cases z <;> simp_all))
                  · refine mm_iconst dX10_wordAmong_109 rfl ?_
                    refine mm_goto dX10_wordAmong_110 ?_
                    refine nx _ ?_
                    first
                    | exact mm_b1 (by rw [h83, decide_eq_true (show o < e - s ∧ M 2 (s + o) = ks_B k0 i from ⟨by omega, h106⟩)]; rfl)
                    | exact mm_b0 (by rw [decide_eq_false (show ¬ (o < e - s ∧ M 2 (s + o) = ks_B k0 i) from fun q => h106 q.2), Bool.and_false]; decide)
                    | exact mm_b0 (by rw [decide_eq_false (show ¬ (o < e - s ∧ M 2 (s + o) = ks_B k0 i) from fun q => absurd q.1 (by omega)), Bool.and_false]; decide)
                    | exact mm_b0 (fun q => h83 (by cases z <;> simp_all))
            · exact absurd h49 h32
    · have hdrop : (mm_sc.getD k0 mm_sd).2.2.2.drop i = [] := List.drop_eq_nil_of_le (by unfold ks_L at hlt; omega)
      rw [hdrop, kt_f] at hf
      refine mm_iload dX10_wordAmong_23 rfl rfl ?_
      refine mm_aload_n dX10_wordAmong_25 rfl rfl ?_
      refine mm_VS0i dX10_wordAmong_26 rfl ls_X10_53 rfl hk  rfl rfl rfl (c_J0_length_8abf5 hk) ?_
      refine mm_icgt dX10_wordAmong_29 (by omega) (by omega) (fun h29 => ?_) (fun h29 => ?_)
      · exfalso; omega
      · refine mm_iload dX10_wordAmong_32 rfl rfl ?_
        refine mm_aload_n dX10_wordAmong_34 rfl rfl ?_
        refine mm_VS0i dX10_wordAmong_35 rfl ls_X10_53 rfl hk  rfl rfl rfl (c_J0_length_8abf5 hk) ?_
        refine mm_iceq dX10_wordAmong_38 (by omega) (by omega) (fun h38 => ?_) (fun h38 => ?_)
        · refine mm_iload dX10_wordAmong_52 rfl rfl ?_
          refine mm_ifeqb dX10_wordAmong_54 (fun h54 => ?_) (fun h54 => ?_)
          · refine mm_iinc dX10_wordAmong_67 rfl rfl (Nat.le_of_ble_eq_true rfl) rfl ?_
            refine mm_aload_n dX10_wordAmong_70 rfl rfl ?_
            refine mm_get (kd := 0) dX10_wordAmong_71 rfl fl_X10_32 (c := 1) rfl (by decide) rfl rfl ?_
            obtain ⟨v71, hv71⟩ : ∃ v, v = M 1 6 := ⟨_, rfl⟩
            rw [← hv71]
            rw [hs] at hv71
            subst hv71
            refine mm_istore_n dX10_wordAmong_74 rfl (Nat.le_of_ble_eq_true rfl) rfl ?_
            refine mm_iconst dX10_wordAmong_75 rfl ?_
            refine mm_istore dX10_wordAmong_76 rfl (Nat.le_of_ble_eq_true rfl) rfl ?_
            refine mm_goto dX10_wordAmong_78 ?_
            refine mm_iinc dX10_wordAmong_119 rfl rfl (Nat.le_of_ble_eq_true rfl) rfl ?_
            refine mm_goto dX10_wordAmong_122 ?_
            refine fin2 _ _ _ _ (by omega) ?_
            rw [← hf]
            first
            | (rw [if_neg (fun q => h54 q.1)]; done)
            | (rw [if_neg (fun q => h62 (by rw [q.2]; omega))]; done)
          · refine mm_iload_n dX10_wordAmong_57 rfl rfl ?_
            refine mm_aload_n dX10_wordAmong_58 rfl rfl ?_
            refine mm_get (kd := 0) dX10_wordAmong_59 rfl fl_X10_22 (c := 1) rfl (by decide) rfl rfl ?_
            obtain ⟨v59, hv59⟩ : ∃ v, v = M 1 7 := ⟨_, rfl⟩
            rw [← hv59]
            rw [he] at hv59
            subst hv59
            refine mm_icne dX10_wordAmong_62 (by omega) (by omega) (fun h62 => ?_) (fun h62 => ?_)
            · refine mm_iinc dX10_wordAmong_67 rfl rfl (Nat.le_of_ble_eq_true rfl) rfl ?_
              refine mm_aload_n dX10_wordAmong_70 rfl rfl ?_
              refine mm_get (kd := 0) dX10_wordAmong_71 rfl fl_X10_32 (c := 1) rfl (by decide) rfl rfl ?_
              obtain ⟨v71, hv71⟩ : ∃ v, v = M 1 6 := ⟨_, rfl⟩
              rw [← hv71]
              rw [hs] at hv71
              subst hv71
              refine mm_istore_n dX10_wordAmong_74 rfl (Nat.le_of_ble_eq_true rfl) rfl ?_
              refine mm_iconst dX10_wordAmong_75 rfl ?_
              refine mm_istore dX10_wordAmong_76 rfl (Nat.le_of_ble_eq_true rfl) rfl ?_
              refine mm_goto dX10_wordAmong_78 ?_
              refine mm_iinc dX10_wordAmong_119 rfl rfl (Nat.le_of_ble_eq_true rfl) rfl ?_
              refine mm_goto dX10_wordAmong_122 ?_
              refine fin2 _ _ _ _ (by omega) ?_
              rw [← hf]
              first
              | (rw [if_neg (fun q => h54 q.1)]; done)
              | (rw [if_neg (fun q => h62 (by rw [q.2]; omega))]; done)
            · refine mm_iload_n dX10_wordAmong_65 rfl rfl ?_
              refine mm_iret dX10_wordAmong_66 rfl rfl ?_
              refine mm_fin ?_ rfl
              rw [← hf, if_pos ⟨h54, by omega⟩]
        · exfalso; omega
  refine mm_aload_n dX10_wordAmong_0 rfl rfl ?_
  refine mm_get (kd := 0) dX10_wordAmong_1 rfl fl_X10_35 (c := 1) rfl (by decide) rfl rfl ?_
  refine mm_iconst dX10_wordAmong_4 rfl ?_
  refine mm_iceq dX10_wordAmong_5 (by omega) (by omega) (fun h5 => ?_) (fun h5 => ?_)
  · refine mm_iconst dX10_wordAmong_10 rfl ?_
    refine mm_istore_n dX10_wordAmong_11 rfl (Nat.le_of_ble_eq_true rfl) rfl ?_
    refine mm_aload_n dX10_wordAmong_12 rfl rfl ?_
    refine mm_get (kd := 0) dX10_wordAmong_13 rfl fl_X10_32 (c := 1) rfl (by decide) rfl rfl ?_
    obtain ⟨v13, hv13⟩ : ∃ v, v = M 1 6 := ⟨_, rfl⟩
    rw [← hv13]
    rw [hs] at hv13
    subst hv13
    refine mm_istore_n dX10_wordAmong_16 rfl (Nat.le_of_ble_eq_true rfl) rfl ?_
    refine mm_iconst dX10_wordAmong_17 rfl ?_
    refine mm_istore dX10_wordAmong_18 rfl (Nat.le_of_ble_eq_true rfl) rfl ?_
    refine mm_iconst dX10_wordAmong_20 rfl ?_
    refine mm_istore dX10_wordAmong_21 rfl (Nat.le_of_ble_eq_true rfl) rfl ?_
    rw [if_pos h5]
    exact loop h5 0 (Nat.zero_le _) 0 0 true (by omega) (by omega) rfl
  · refine mm_iconst dX10_wordAmong_8 rfl ?_
    refine mm_iret dX10_wordAmong_9 rfl rfl ?_
    exact mm_fin (by rw [if_neg h5]) rfl
end

