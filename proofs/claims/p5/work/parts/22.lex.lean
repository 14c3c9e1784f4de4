/-! 93.lex -/
section
/-! ===== tokens ===== -/
def kt_bl (x : Int) : Bool := decide (x = 32 ∨ x = 10)
def kt_le (x : Int) : Bool := decide (97 ≤ x ∧ x ≤ 122)
def kt_di (x : Int) : Bool := decide (48 ≤ x ∧ x ≤ 57)
/-- how far a run goes from p on, with so much left -/
def kt_run (P : Int → Bool) (B : Nat → Int) : Nat → Nat → Nat
  | 0, p => p
  | k + 1, p => if P (B p) = true then kt_run P B k (p + 1) else p
theorem kt_runb {P : Int → Bool} {B : Nat → Int} : ∀ {k p : Nat}, p ≤ kt_run P B k p ∧ kt_run P B k p ≤ p + k
  | 0, p => ⟨Nat.le_refl _, Nat.le_refl _⟩
  | k + 1, p => by
    unfold kt_run
    split
    · have := kt_runb (P := P) (B := B) (k := k) (p := p + 1)
      omega
    · omega
theorem kt_run_all {P : Int → Bool} {B : Nat → Int} : ∀ {k p j : Nat}, p ≤ j → j < kt_run P B k p → P (B j) = true
  | 0, p, j, h1, h2 => by unfold kt_run at h2; omega
  | k + 1, p, j, h1, h2 => by
    unfold kt_run at h2
    split at h2
    · next hp =>
      by_cases e : j = p
      · rw [e]; exact hp
      · exact kt_run_all (k := k) (p := p + 1) (by omega) h2
    · omega
theorem kt_run_end {P : Int → Bool} {B : Nat → Int} : ∀ {k p : Nat}, kt_run P B k p < p + k → ¬ P (B (kt_run P B k p)) = true
  | 0, p, h => by unfold kt_run at h; omega
  | k + 1, p, h => by
    unfold kt_run at h ⊢
    split at h
    · next hp => rw [if_pos hp]; exact kt_run_end (k := k) (p := p + 1) (by omega)
    · next hp => rw [if_neg hp]; exact hp
theorem kt_run_congr {P : Int → Bool} {B C : Nat → Int} : ∀ {k p : Nat}, (∀ j, p ≤ j → j < p + k → P (B j) = P (C j)) → kt_run P B k p = kt_run P C k p
  | 0, p, _ => rfl
  | k + 1, p, h => by
    unfold kt_run
    rw [h p (Nat.le_refl _) (by omega), kt_run_congr (k := k) (p := p + 1) (fun j h1 h2 => h j (by omega) (by omega))]
/-- the start of the token behind p, the ends of a word and a number there -/
def kt_s (B : Nat → Int) (n p : Nat) : Nat := kt_run kt_bl B (n - p) p
def kt_w (B : Nat → Int) (n s : Nat) : Nat := kt_run kt_le B (n - s) s
def kt_d (B : Nat → Int) (n s : Nat) : Nat := kt_run kt_di B (n - s) s
/-- the value of the first k digits, five at most -/
def kt_num (B : Nat → Int) (s : Nat) : Nat → Int
  | 0 => 0
  | k + 1 => if k < 5 then 10 * kt_num B s k + B (s + k) - 48 else kt_num B s k
/-- the token behind p: its kind (0 end, 1 word, 2 number, 3 semicolon, 4 none), where it ends, its value -/
def kt_k (B : Nat → Int) (n p : Nat) : Int := if kt_s B n p = n then 0 else if kt_le (B (kt_s B n p)) = true then (if kt_w B n (kt_s B n p) - kt_s B n p ≤ 8 then 1 else 4) else if kt_di (B (kt_s B n p)) = true then (if kt_d B n (kt_s B n p) - kt_s B n p ≤ 5 then 2 else 4) else if B (kt_s B n p) = 59 then 3 else 4
def kt_e (B : Nat → Int) (n p : Nat) : Nat := if kt_s B n p = n then n else if kt_le (B (kt_s B n p)) = true then kt_w B n (kt_s B n p) else if kt_di (B (kt_s B n p)) = true then kt_d B n (kt_s B n p) else kt_s B n p + 1
def kt_v (B : Nat → Int) (n p : Nat) : Int := kt_num B (kt_s B n p) (kt_d B n (kt_s B n p) - kt_s B n p)
theorem kt_sb {B : Nat → Int} {n p : Nat} (h : p ≤ n) : p ≤ kt_s B n p ∧ kt_s B n p ≤ n := by
  have := kt_runb (P := kt_bl) (B := B) (k := n - p) (p := p)
  unfold kt_s
  omega
theorem kt_wb {B : Nat → Int} {n s : Nat} (h : s ≤ n) : s ≤ kt_w B n s ∧ kt_w B n s ≤ n := by
  have := kt_runb (P := kt_le) (B := B) (k := n - s) (p := s)
  unfold kt_w
  omega
theorem kt_db {B : Nat → Int} {n s : Nat} (h : s ≤ n) : s ≤ kt_d B n s ∧ kt_d B n s ≤ n := by
  have := kt_runb (P := kt_di) (B := B) (k := n - s) (p := s)
  unfold kt_d
  omega
theorem kt_eb {B : Nat → Int} {n p : Nat} (h : p ≤ n) : kt_s B n p ≤ kt_e B n p ∧ kt_e B n p ≤ n := by
  have hs := kt_sb (B := B) h
  have hw := kt_wb (B := B) hs.2
  have hd := kt_db (B := B) hs.2
  unfold kt_e
  split
  · omega
  · split
    · omega
    · split <;> omega
theorem kt_kb {B : Nat → Int} {n p : Nat} : 0 ≤ kt_k B n p ∧ kt_k B n p ≤ 4 := by
  unfold kt_k
  split
  · omega
  · split
    · split <;> omega
    · split
      · split <;> omega
      · split <;> omega
theorem kt_numb {B : Nat → Int} {s : Nat} : ∀ {k : Nat}, (∀ j, j < k → 48 ≤ B (s + j) ∧ B (s + j) ≤ 57) → 0 ≤ kt_num B s k ∧ kt_num B s k ≤ 99999
  | 0, _ => by simp [kt_num]
  | k + 1, h => by
    have key : ∀ i, i ≤ k + 1 → 0 ≤ kt_num B s i ∧ kt_num B s i < 10 ^ (min i 5) := by
      intro i
      induction i with
      | zero => intro _; simp [kt_num]
      | succ i ih =>
        intro hi
        have a := ih (by omega)
        have b := h i (by omega)
        unfold kt_num
        split
        · next h5 =>
          rw [show min i 5 = i by omega] at a
          rw [show min (i + 1) 5 = i + 1 by omega, Int.pow_succ]
          omega
        · next h5 =>
          rw [show min i 5 = 5 by omega] at a
          rw [show min (i + 1) 5 = 5 by omega]
          exact a
    have a := key (k + 1) (Nat.le_refl _)
    have : (10 : Int) ^ (min (k + 1) 5) ≤ 10 ^ 5 := by
      have : (10 : Nat) ^ (min (k + 1) 5) ≤ 10 ^ 5 := Nat.pow_le_pow_right (by decide) (by omega)
      exact_mod_cast this
    have : (10 : Int) ^ 5 = 100000 := by decide
    omega
theorem kt_vb {B : Nat → Int} {n p : Nat} : 0 ≤ kt_v B n p ∧ kt_v B n p ≤ 99999 := by
  unfold kt_v
  refine kt_numb (fun j hj => ?_)
  have := kt_run_all (P := kt_di) (B := B) (k := n - kt_s B n p) (p := kt_s B n p) (j := kt_s B n p + j) (by omega) (by unfold kt_d at hj; omega)
  exact of_decide_eq_true this
/-- the class's tape: its bytes, its length -/
def mm_CT (M : mm_M) (n : Nat) : Prop := M 1 1 = (n : Int) ∧ n ≤ 800 ∧ ∀ k : Nat, k < 800 → -128 ≤ M 2 k ∧ M 2 k ≤ 127
section
variable {X : mm_X} {M : mm_M} {n p s : Nat} {x : Int}
theorem c_X10_isBlank (hx : mm_R x) : mm_Fn X Y_X10_isBlank 243 [(0, x)] M (0, mm_b (kt_bl x = true)) M := by
  refine mm_startF (ls := [(0, x)]) rfl ?_
  refine mm_iload_n dX10_isBlank_0 rfl rfl ?_
  refine mm_bipush dX10_isBlank_1 rfl (by decide) ?_
  refine mm_iceq dX10_isBlank_3 (by omega) (by omega) (fun h3 => ?_) (fun h3 => ?_)
  · refine mm_iconst dX10_isBlank_12 rfl ?_
    refine mm_goto dX10_isBlank_13 ?_
    refine mm_zret dX10_isBlank_17 rfl rfl (Or.inr rfl) ?_
    refine mm_fin ?_ rfl
    unfold kt_bl
    first
    | exact mm_b1 (decide_eq_true (by omega))
    | exact mm_b0 (fun q => absurd (of_decide_eq_true q) (by omega))
  · refine mm_iload_n dX10_isBlank_6 rfl rfl ?_
    refine mm_bipush dX10_isBlank_7 rfl (by decide) ?_
    refine mm_icne dX10_isBlank_9 (by omega) (by omega) (fun h9 => ?_) (fun h9 => ?_)
    · refine mm_iconst dX10_isBlank_16 rfl ?_
      refine mm_zret dX10_isBlank_17 rfl rfl (Or.inl rfl) ?_
      refine mm_fin ?_ rfl
      unfold kt_bl
      first
      | exact mm_b1 (decide_eq_true (by omega))
      | exact mm_b0 (fun q => absurd (of_decide_eq_true q) (by omega))
    · refine mm_iconst dX10_isBlank_12 rfl ?_
      refine mm_goto dX10_isBlank_13 ?_
      refine mm_zret dX10_isBlank_17 rfl rfl (Or.inr rfl) ?_
      refine mm_fin ?_ rfl
      unfold kt_bl
      first
      | exact mm_b1 (decide_eq_true (by omega))
      | exact mm_b0 (fun q => absurd (of_decide_eq_true q) (by omega))
theorem c_X10_isLetter (hx : mm_R x) : mm_Fn X Y_X10_isLetter 243 [(0, x)] M (0, mm_b (kt_le x = true)) M := by
  refine mm_startF (ls := [(0, x)]) rfl ?_
  refine mm_iload_n dX10_isLetter_0 rfl rfl ?_
  refine mm_bipush dX10_isLetter_1 rfl (by decide) ?_
  refine mm_iclt dX10_isLetter_3 (by omega) (by omega) (fun h3 => ?_) (fun h3 => ?_)
  · refine mm_iconst dX10_isLetter_16 rfl ?_
    refine mm_zret dX10_isLetter_17 rfl rfl (Or.inl rfl) ?_
    refine mm_fin ?_ rfl
    unfold kt_le
    first
    | exact mm_b1 (decide_eq_true (by omega))
    | exact mm_b0 (fun q => absurd (of_decide_eq_true q) (by omega))
  · refine mm_iload_n dX10_isLetter_6 rfl rfl ?_
    refine mm_bipush dX10_isLetter_7 rfl (by decide) ?_
    refine mm_icgt dX10_isLetter_9 (by omega) (by omega) (fun h9 => ?_) (fun h9 => ?_)
    · refine mm_iconst dX10_isLetter_16 rfl ?_
      refine mm_zret dX10_isLetter_17 rfl rfl (Or.inl rfl) ?_
      refine mm_fin ?_ rfl
      unfold kt_le
      first
      | exact mm_b1 (decide_eq_true (by omega))
      | exact mm_b0 (fun q => absurd (of_decide_eq_true q) (by omega))
    · refine mm_iconst dX10_isLetter_12 rfl ?_
      refine mm_goto dX10_isLetter_13 ?_
      refine mm_zret dX10_isLetter_17 rfl rfl (Or.inr rfl) ?_
      refine mm_fin ?_ rfl
      unfold kt_le
      first
      | exact mm_b1 (decide_eq_true (by omega))
      | exact mm_b0 (fun q => absurd (of_decide_eq_true q) (by omega))
theorem c_X10_isDigit (hx : mm_R x) : mm_Fn X Y_X10_isDigit 243 [(0, x)] M (0, mm_b (kt_di x = true)) M := by
  refine mm_startF (ls := [(0, x)]) rfl ?_
  refine mm_iload_n dX10_isDigit_0 rfl rfl ?_
  refine mm_bipush dX10_isDigit_1 rfl (by decide) ?_
  refine mm_iclt dX10_isDigit_3 (by omega) (by omega) (fun h3 => ?_) (fun h3 => ?_)
  · refine mm_iconst dX10_isDigit_16 rfl ?_
    refine mm_zret dX10_isDigit_17 rfl rfl (Or.inl rfl) ?_
    refine mm_fin ?_ rfl
    unfold kt_di
    first
    | exact mm_b1 (decide_eq_true (by omega))
    | exact mm_b0 (fun q => absurd (of_decide_eq_true q) (by omega))
  · refine mm_iload_n dX10_isDigit_6 rfl rfl ?_
    refine mm_bipush dX10_isDigit_7 rfl (by decide) ?_
    refine mm_icgt dX10_isDigit_9 (by omega) (by omega) (fun h9 => ?_) (fun h9 => ?_)
    · refine mm_iconst dX10_isDigit_16 rfl ?_
      refine mm_zret dX10_isDigit_17 rfl rfl (Or.inl rfl) ?_
      refine mm_fin ?_ rfl
      unfold kt_di
      first
      | exact mm_b1 (decide_eq_true (by omega))
      | exact mm_b0 (fun q => absurd (of_decide_eq_true q) (by omega))
    · refine mm_iconst dX10_isDigit_12 rfl ?_
      refine mm_goto dX10_isDigit_13 ?_
      refine mm_zret dX10_isDigit_17 rfl rfl (Or.inr rfl) ?_
      refine mm_fin ?_ rfl
      unfold kt_di
      first
      | exact mm_b1 (decide_eq_true (by omega))
      | exact mm_b0 (fun q => absurd (of_decide_eq_true q) (by omega))
theorem c_X10_takeWord (hR : mm_Rf M) (hT : mm_CT M n) (hs : s ≤ n) (h6 : M 1 6 = (s : Int)) (h7 : M 1 7 = (s : Int)) :
    mm_C X Y_X10_takeWord 243 243 [(2, 2)] M (fun r M' => r = (3, 0) ∧ mm_Rf M' ∧ (∀ a, a ≠ 1 → M' a = M a) ∧ (∀ b, b ≠ 5 → b ≠ 7 → M' 1 b = M 1 b) ∧ M' 1 5 = (if kt_w (M 2) n s - s ≤ 8 then 1 else 4) ∧ M' 1 7 = (kt_w (M 2) n s : Int)) := by
  obtain ⟨hn, hn8, hb⟩ := hT
  obtain ⟨q, hq⟩ : ∃ q, q = kt_w (M 2) n s := ⟨_, rfl⟩
  have hqb := kt_wb (B := M 2) hs
  rw [← hq] at hqb ⊢
  refine mm_start (ls := [(2, 2)]) rfl ?_
  have loop : ∀ i : Nat, i ≤ n → s ≤ i → kt_run kt_le (M 2) (n - i) i = q → ∀ N : mm_M, mm_Rf N → (∀ a, a ≠ 1 → N a = M a) → (∀ b, b ≠ 7 → N 1 b = M 1 b) → N 1 7 = (i : Int) →
      mm_J X Y_X10_takeWord 243 243 243 0 [(2, 2)] [] N (fun r M' => r = (3, 0) ∧ mm_Rf M' ∧ (∀ a, a ≠ 1 → M' a = M a) ∧ (∀ b, b ≠ 5 → b ≠ 7 → M' 1 b = M 1 b) ∧ M' 1 5 = (if q - s ≤ 8 then 1 else 4) ∧ M' 1 7 = (q : Int)) := by
    refine mm_lp ?_
    intro i hi ih hsi hr N hRN hfa hfb e7
    have e1 : N 1 1 = (n : Int) := (hfb 1 (by decide)).trans hn
    have e6 : N 1 6 = (s : Int) := (hfb 6 (by decide)).trans h6
    have f2 : N 2 = M 2 := hfa 2 (by decide)
    have fin : i = q → mm_J X Y_X10_takeWord 243 243 243 39 [(2, 2)] [] N (fun r M' => r = (3, 0) ∧ mm_Rf M' ∧ (∀ a, a ≠ 1 → M' a = M a) ∧ (∀ b, b ≠ 5 → b ≠ 7 → M' 1 b = M 1 b) ∧ M' 1 5 = (if q - s ≤ 8 then 1 else 4) ∧ M' 1 7 = (q : Int)) := by
      intro eq
      refine mm_aload_n dX10_takeWord_39 rfl rfl ?_
      refine mm_aload_n dX10_takeWord_40 rfl rfl ?_
      refine mm_get (kd := 0) dX10_takeWord_41 rfl fl_X10_22 (c := 1) rfl (by decide) rfl rfl ?_
      obtain ⟨v41, hv41⟩ : ∃ v, v = N 1 7 := ⟨_, rfl⟩
      rw [← hv41]
      rw [e7] at hv41
      subst hv41
      refine mm_aload_n dX10_takeWord_44 rfl rfl ?_
      refine mm_get (kd := 0) dX10_takeWord_45 rfl fl_X10_32 (c := 1) rfl (by decide) rfl rfl ?_
      obtain ⟨v45, hv45⟩ : ∃ v, v = N 1 6 := ⟨_, rfl⟩
      rw [← hv45]
      rw [e6] at hv45
      subst hv45
      refine mm_isub dX10_takeWord_48 rfl ?_
      refine mm_bipush dX10_takeWord_49 rfl (by decide) ?_
      refine mm_icgt_d (q2 := 59) dX10_takeWord_51 (by omega) (by omega) (fun k => mm_iconst dX10_takeWord_58 rfl k) (fun k => mm_iconst dX10_takeWord_54 rfl (mm_goto dX10_takeWord_55 k)) ?_
      refine mm_puti dX10_takeWord_59 rfl fl_X10_35 (c := 1) rfl (by decide) rfl rfl (fun M59 hM59 => ?_)
      have hR59 : mm_Rf M59 := by rw [hM59]; exact hRN.up rfl
      refine mm_vret dX10_takeWord_62 rfl rfl ?_
      refine ⟨rfl, hR59, ?_, ?_, ?_, ?_⟩
      · intro a ha; rw [hM59, mm_up_row ha]; exact hfa a ha
      · intro b h1 h2; rw [hM59, mm_up_i h1]; exact hfb b h2
      · rw [hM59, mm_up_s]; split <;> split <;> first | rfl | (exfalso; omega)
      · rw [hM59, mm_up_i (by decide), e7, eq]
    by_cases hlt : i < n
    · have hbi := hb i (by omega)
      rw [show n - i = (n - (i + 1)) + 1 by omega, kt_run] at hr
      refine mm_aload_n dX10_takeWord_0 rfl rfl ?_
      refine mm_get (kd := 0) dX10_takeWord_1 rfl fl_X10_22 (c := 1) rfl (by decide) rfl rfl ?_
      obtain ⟨v1, hv1⟩ : ∃ v, v = N 1 7 := ⟨_, rfl⟩
      rw [← hv1]
      rw [e7] at hv1
      subst hv1
      refine mm_aload_n dX10_takeWord_4 rfl rfl ?_
      refine mm_get (kd := 0) dX10_takeWord_5 rfl fl_X10_19 (c := 1) rfl (by decide) rfl rfl ?_
      obtain ⟨v5, hv5⟩ : ∃ v, v = N 1 1 := ⟨_, rfl⟩
      rw [← hv5]
      rw [e1] at hv5
      subst hv5
      refine mm_icge dX10_takeWord_8 (by omega) (by omega) (fun h8 => ?_) (fun h8 => ?_)
      · exfalso; omega
      · refine mm_aload_n dX10_takeWord_11 rfl rfl ?_
        refine mm_getr dX10_takeWord_12 rfl fl_X10_11 (c := 1) rfl (by decide) rfl rfl (hRN.at (c := 1) (i := 0) (v := 3) rfl (by decide)) ?_
        refine mm_aload_n dX10_takeWord_15 rfl rfl ?_
        refine mm_get (kd := 0) dX10_takeWord_16 rfl fl_X10_22 (c := 1) rfl (by decide) rfl rfl ?_
        obtain ⟨v16, hv16⟩ : ∃ v, v = N 1 7 := ⟨_, rfl⟩
        rw [← hv16]
        rw [e7] at hv16
        subst hv16
        refine mm_balk (k0 := i) dX10_takeWord_19 rfl (c := 2) rfl (by decide) rfl (by omega) (by omega) ?_
        rw [f2]
        refine mm_S1i dX10_takeWord_20 rfl lk_X10_38 (by simp) rfl rfl rfl (c_X10_isLetter (by omega)) ?_
        refine mm_ifeqb dX10_takeWord_23 (fun h23 => ?_) (fun h23 => ?_)
        · rw [if_neg h23] at hr
          exact fin hr
        · refine mm_aload_n dX10_takeWord_26 rfl rfl ?_
          refine mm_dup dX10_takeWord_27 rfl (by simp) ?_
          refine mm_get (kd := 0) dX10_takeWord_28 rfl fl_X10_22 (c := 1) rfl (by decide) rfl rfl ?_
          obtain ⟨v28, hv28⟩ : ∃ v, v = N 1 7 := ⟨_, rfl⟩
          rw [← hv28]
          rw [e7] at hv28
          subst hv28
          refine mm_iconst dX10_takeWord_31 rfl ?_
          refine mm_iadd dX10_takeWord_32 rfl ?_
          refine mm_puti dX10_takeWord_33 rfl fl_X10_22 (c := 1) rfl (by decide) rfl rfl (fun M33 hM33 => ?_)
          have hR33 : mm_Rf M33 := by rw [hM33]; exact hRN.up rfl
          refine mm_goto dX10_takeWord_36 ?_
          rw [if_pos h23] at hr
          refine ih hlt (by omega) hr _ hR33 ?_ ?_ ?_
          · intro a ha; rw [hM33, mm_up_row ha]; exact hfa a ha
          · intro b h2; rw [hM33, mm_up_i h2]; exact hfb b h2
          · rw [hM33, mm_up_s]; omega
    · rw [show n - i = 0 by omega, kt_run] at hr
      refine mm_aload_n dX10_takeWord_0 rfl rfl ?_
      refine mm_get (kd := 0) dX10_takeWord_1 rfl fl_X10_22 (c := 1) rfl (by decide) rfl rfl ?_
      obtain ⟨v1, hv1⟩ : ∃ v, v = N 1 7 := ⟨_, rfl⟩
      rw [← hv1]
      rw [e7] at hv1
      subst hv1
      refine mm_aload_n dX10_takeWord_4 rfl rfl ?_
      refine mm_get (kd := 0) dX10_takeWord_5 rfl fl_X10_19 (c := 1) rfl (by decide) rfl rfl ?_
      obtain ⟨v5, hv5⟩ : ∃ v, v = N 1 1 := ⟨_, rfl⟩
      rw [← hv5]
      rw [e1] at hv5
      subst hv5
      refine mm_icge dX10_takeWord_8 (by omega) (by omega) (fun h8 => ?_) (fun h8 => ?_)
      · exact fin hr
      · exfalso; omega
  exact loop s hs (Nat.le_refl _) hq.symm M hR (fun _ _ => rfl) (fun _ _ => rfl) h7
theorem c_X10_takeNumber (hR : mm_Rf M) (hT : mm_CT M n) (hs : s ≤ n) (h6 : M 1 6 = (s : Int)) (h7 : M 1 7 = (s : Int)) :
    mm_C X Y_X10_takeNumber 243 243 [(2, 2)] M (fun r M' => r = (3, 0) ∧ mm_Rf M' ∧ (∀ a, a ≠ 1 → M' a = M a) ∧ (∀ b, b ≠ 4 → b ≠ 5 → b ≠ 7 → M' 1 b = M 1 b) ∧ M' 1 5 = (if kt_d (M 2) n s - s ≤ 5 then 2 else 4) ∧ M' 1 7 = (kt_d (M 2) n s : Int) ∧ M' 1 4 = kt_num (M 2) s (kt_d (M 2) n s - s)) := by
  obtain ⟨hn, hn8, hb⟩ := hT
  obtain ⟨q, hq⟩ : ∃ q, q = kt_d (M 2) n s := ⟨_, rfl⟩
  have hqb := kt_db (B := M 2) hs
  have hall : ∀ j, s ≤ j → j < q → 48 ≤ M 2 j ∧ M 2 j ≤ 57 := by
    intro j h1 h2
    rw [hq] at h2
    exact of_decide_eq_true (kt_run_all (P := kt_di) h1 h2)
  rw [← hq] at hqb ⊢
  refine mm_start (ls := [(2, 2)]) rfl ?_
  have loop : ∀ i : Nat, i ≤ n → s ≤ i → i ≤ q → kt_run kt_di (M 2) (n - i) i = q → ∀ N : mm_M, mm_Rf N → (∀ a, a ≠ 1 → N a = M a) → (∀ b, b ≠ 4 → b ≠ 7 → N 1 b = M 1 b) → N 1 7 = (i : Int) → N 1 4 = kt_num (M 2) s (i - s) →
      mm_J X Y_X10_takeNumber 243 243 243 5 [(2, 2)] [] N (fun r M' => r = (3, 0) ∧ mm_Rf M' ∧ (∀ a, a ≠ 1 → M' a = M a) ∧ (∀ b, b ≠ 4 → b ≠ 5 → b ≠ 7 → M' 1 b = M 1 b) ∧ M' 1 5 = (if q - s ≤ 5 then 2 else 4) ∧ M' 1 7 = (q : Int) ∧ M' 1 4 = kt_num (M 2) s (q - s)) := by
    refine mm_lp ?_
    intro i hi ih hsi hiq hr N hRN hfa hfb e7 e4
    have e1 : N 1 1 = (n : Int) := (hfb 1 (by decide) (by decide)).trans hn
    have e6 : N 1 6 = (s : Int) := (hfb 6 (by decide) (by decide)).trans h6
    have f2 : N 2 = M 2 := hfa 2 (by decide)
    have hnb : 0 ≤ kt_num (M 2) s (i - s) ∧ kt_num (M 2) s (i - s) ≤ 99999 := kt_numb (fun j hj => hall _ (by omega) (by omega))
    have fin : i = q → mm_J X Y_X10_takeNumber 243 243 243 81 [(2, 2)] [] N (fun r M' => r = (3, 0) ∧ mm_Rf M' ∧ (∀ a, a ≠ 1 → M' a = M a) ∧ (∀ b, b ≠ 4 → b ≠ 5 → b ≠ 7 → M' 1 b = M 1 b) ∧ M' 1 5 = (if q - s ≤ 5 then 2 else 4) ∧ M' 1 7 = (q : Int) ∧ M' 1 4 = kt_num (M 2) s (q - s)) := by
      intro eq
      refine mm_aload_n dX10_takeNumber_81 rfl rfl ?_
      refine mm_aload_n dX10_takeNumber_82 rfl rfl ?_
      refine mm_get (kd := 0) dX10_takeNumber_83 rfl fl_X10_22 (c := 1) rfl (by decide) rfl rfl ?_
      obtain ⟨v83, hv83⟩ : ∃ v, v = N 1 7 := ⟨_, rfl⟩
      rw [← hv83]
      rw [e7] at hv83
      subst hv83
      refine mm_aload_n dX10_takeNumber_86 rfl rfl ?_
      refine mm_get (kd := 0) dX10_takeNumber_87 rfl fl_X10_32 (c := 1) rfl (by decide) rfl rfl ?_
      obtain ⟨v87, hv87⟩ : ∃ v, v = N 1 6 := ⟨_, rfl⟩
      rw [← hv87]
      rw [e6] at hv87
      subst hv87
      refine mm_isub dX10_takeNumber_90 rfl ?_
      refine mm_iconst dX10_takeNumber_91 rfl ?_
      refine mm_icgt_d (q2 := 100) dX10_takeNumber_92 (by omega) (by omega) (fun k => mm_iconst dX10_takeNumber_99 rfl k) (fun k => mm_iconst dX10_takeNumber_95 rfl (mm_goto dX10_takeNumber_96 k)) ?_
      refine mm_puti dX10_takeNumber_100 rfl fl_X10_35 (c := 1) rfl (by decide) rfl rfl (fun M100 hM100 => ?_)
      have hR100 : mm_Rf M100 := by rw [hM100]; exact hRN.up rfl
      refine mm_vret dX10_takeNumber_103 rfl rfl ?_
      refine ⟨rfl, hR100, ?_, ?_, ?_, ?_, ?_⟩
      · intro a ha; rw [hM100, mm_up_row ha]; exact hfa a ha
      · intro b h0 h1 h2; rw [hM100, mm_up_i h1]; exact hfb b h0 h2
      · rw [hM100, mm_up_s]; split <;> split <;> first | rfl | (exfalso; omega)
      · rw [hM100, mm_up_i (by decide), e7, eq]
      · rw [hM100, mm_up_i (by decide), e4, eq]
    by_cases hlt : i < n
    · have hbi := hb i (by omega)
      rw [show n - i = (n - (i + 1)) + 1 by omega, kt_run] at hr
      have hks : kt_num (M 2) s (i + 1 - s) = if i - s < 5 then 10 * kt_num (M 2) s (i - s) + M 2 i - 48 else kt_num (M 2) s (i - s) := by
        rw [show i + 1 - s = (i - s) + 1 by omega, kt_num, show s + (i - s) = i by omega]
      refine mm_aload_n dX10_takeNumber_5 rfl rfl ?_
      refine mm_get (kd := 0) dX10_takeNumber_6 rfl fl_X10_22 (c := 1) rfl (by decide) rfl rfl ?_
      obtain ⟨v6, hv6⟩ : ∃ v, v = N 1 7 := ⟨_, rfl⟩
      rw [← hv6]
      rw [e7] at hv6
      subst hv6
      refine mm_aload_n dX10_takeNumber_9 rfl rfl ?_
      refine mm_get (kd := 0) dX10_takeNumber_10 rfl fl_X10_19 (c := 1) rfl (by decide) rfl rfl ?_
      obtain ⟨v10, hv10⟩ : ∃ v, v = N 1 1 := ⟨_, rfl⟩
      rw [← hv10]
      rw [e1] at hv10
      subst hv10
      refine mm_icge dX10_takeNumber_13 (by omega) (by omega) (fun h13 => ?_) (fun h13 => ?_)
      · exfalso; omega
      · refine mm_aload_n dX10_takeNumber_16 rfl rfl ?_
        refine mm_getr dX10_takeNumber_17 rfl fl_X10_11 (c := 1) rfl (by decide) rfl rfl (hRN.at (c := 1) (i := 0) (v := 3) rfl (by decide)) ?_
        refine mm_aload_n dX10_takeNumber_20 rfl rfl ?_
        refine mm_get (kd := 0) dX10_takeNumber_21 rfl fl_X10_22 (c := 1) rfl (by decide) rfl rfl ?_
        obtain ⟨v21, hv21⟩ : ∃ v, v = N 1 7 := ⟨_, rfl⟩
        rw [← hv21]
        rw [e7] at hv21
        subst hv21
        refine mm_balk (k0 := i) dX10_takeNumber_24 rfl (c := 2) rfl (by decide) rfl (by omega) (by omega) ?_
        rw [f2]
        refine mm_S1i dX10_takeNumber_25 rfl lk_X10_44 (by simp) rfl rfl rfl (c_X10_isDigit (by omega)) ?_
        refine mm_ifeqb dX10_takeNumber_28 (fun h28 => ?_) (fun h28 => ?_)
        · rw [if_neg h28] at hr
          exact fin hr
        · refine mm_aload_n dX10_takeNumber_31 rfl rfl ?_
          refine mm_get (kd := 0) dX10_takeNumber_32 rfl fl_X10_22 (c := 1) rfl (by decide) rfl rfl ?_
          obtain ⟨v32, hv32⟩ : ∃ v, v = N 1 7 := ⟨_, rfl⟩
          rw [← hv32]
          rw [e7] at hv32
          subst hv32
          refine mm_aload_n dX10_takeNumber_35 rfl rfl ?_
          refine mm_get (kd := 0) dX10_takeNumber_36 rfl fl_X10_32 (c := 1) rfl (by decide) rfl rfl ?_
          obtain ⟨v36, hv36⟩ : ∃ v, v = N 1 6 := ⟨_, rfl⟩
          rw [← hv36]
          rw [e6] at hv36
          subst hv36
          refine mm_isub dX10_takeNumber_39 rfl ?_
          refine mm_iconst dX10_takeNumber_40 rfl ?_
          refine mm_icge dX10_takeNumber_41 (by omega) (by omega) (fun h41 => ?_) (fun h41 => ?_)
          · refine mm_aload_n dX10_takeNumber_68 rfl rfl ?_
            refine mm_dup dX10_takeNumber_69 rfl (by simp) ?_
            refine mm_get (kd := 0) dX10_takeNumber_70 rfl fl_X10_22 (c := 1) rfl (by decide) rfl rfl ?_
            obtain ⟨v70, hv70⟩ : ∃ v, v = N 1 7 := ⟨_, rfl⟩
            rw [← hv70]
            rw [e7] at hv70
            subst hv70
            refine mm_iconst dX10_takeNumber_73 rfl ?_
            refine mm_iadd dX10_takeNumber_74 rfl ?_
            refine mm_puti dX10_takeNumber_75 rfl fl_X10_22 (c := 1) rfl (by decide) rfl rfl (fun M75 hM75 => ?_)
            have hR75 : mm_Rf M75 := by rw [hM75]; exact hRN.up rfl
            refine mm_goto dX10_takeNumber_78 ?_
            rw [if_pos h28] at hr
            have hq1 : i + 1 ≤ q := by
              have := kt_runb (P := kt_di) (B := M 2) (k := n - (i + 1)) (p := i + 1)
              omega
            refine ih hlt (by omega) hq1 hr _ hR75 ?_ ?_ ?_ ?_
            · intro a ha; funext b; simp [hM75, mm_up, ha]; rw [hfa a ha]
            · intro b h1 h2; simp [hM75, mm_up, h1, h2]; exact hfb b h1 h2
            · simp [hM75, mm_up]
            · rw [hks]
              first
              | (rw [if_neg (by omega)]; simp [hM75, mm_up]; exact e4)
              | (rw [if_pos (by omega)]; simp [hM75, mm_up]; omega)
          · refine mm_aload_n dX10_takeNumber_44 rfl rfl ?_
            refine mm_aload_n dX10_takeNumber_45 rfl rfl ?_
            refine mm_get (kd := 0) dX10_takeNumber_46 rfl fl_X10_50 (c := 1) rfl (by decide) rfl rfl ?_
            obtain ⟨v46, hv46⟩ : ∃ v, v = N 1 4 := ⟨_, rfl⟩
            rw [← hv46]
            rw [e4] at hv46
            subst hv46
            refine mm_bipush dX10_takeNumber_49 rfl (by decide) ?_
            refine mm_imul dX10_takeNumber_51 rfl ?_
            refine mm_aload_n dX10_takeNumber_52 rfl rfl ?_
            refine mm_getr dX10_takeNumber_53 rfl fl_X10_11 (c := 1) rfl (by decide) rfl rfl (hRN.at (c := 1) (i := 0) (v := 3) rfl (by decide)) ?_
            refine mm_aload_n dX10_takeNumber_56 rfl rfl ?_
            refine mm_get (kd := 0) dX10_takeNumber_57 rfl fl_X10_22 (c := 1) rfl (by decide) rfl rfl ?_
            obtain ⟨v57, hv57⟩ : ∃ v, v = N 1 7 := ⟨_, rfl⟩
            rw [← hv57]
            rw [e7] at hv57
            subst hv57
            refine mm_balk (k0 := i) dX10_takeNumber_60 rfl (c := 2) rfl (by decide) rfl (by omega) (by omega) ?_
            rw [f2]
            refine mm_iadd dX10_takeNumber_61 rfl ?_
            refine mm_bipush dX10_takeNumber_62 rfl (by decide) ?_
            refine mm_isub dX10_takeNumber_64 rfl ?_
            refine mm_puti dX10_takeNumber_65 rfl fl_X10_50 (c := 1) rfl (by decide) rfl rfl (fun M65 hM65 => ?_)
            have hR65 : mm_Rf M65 := by rw [hM65]; exact hRN.up rfl
            refine mm_aload_n dX10_takeNumber_68 rfl rfl ?_
            refine mm_dup dX10_takeNumber_69 rfl (by simp) ?_
            refine mm_get (kd := 0) dX10_takeNumber_70 rfl fl_X10_22 (c := 1) rfl (by decide) rfl rfl ?_
            obtain ⟨v70, hv70⟩ : ∃ v, v = M65 1 7 := ⟨_, rfl⟩
            rw [← hv70]
            rw [hM65, mm_up_i (by decide), e7] at hv70
            subst hv70
            refine mm_iconst dX10_takeNumber_73 rfl ?_
            refine mm_iadd dX10_takeNumber_74 rfl ?_
            refine mm_puti dX10_takeNumber_75 rfl fl_X10_22 (c := 1) rfl (by decide) rfl rfl (fun M75 hM75 => ?_)
            have hR75 : mm_Rf M75 := by rw [hM75]; exact hR65.up rfl
            refine mm_goto dX10_takeNumber_78 ?_
            rw [if_pos h28] at hr
            have hq1 : i + 1 ≤ q := by
              have := kt_runb (P := kt_di) (B := M 2) (k := n - (i + 1)) (p := i + 1)
              omega
            refine ih hlt (by omega) hq1 hr _ hR75 ?_ ?_ ?_ ?_
            · intro a ha; funext b; simp [hM75, hM65, mm_up, ha]; rw [hfa a ha]
            · intro b h1 h2; simp [hM75, hM65, mm_up, h1, h2]; exact hfb b h1 h2
            · simp [hM75, hM65, mm_up]
            · rw [hks]
              first
              | (rw [if_neg (by omega)]; simp [hM75, hM65, mm_up]; exact e4)
              | (rw [if_pos (by omega)]; simp [hM75, hM65, mm_up]; omega)
    · rw [show n - i = 0 by omega, kt_run] at hr
      refine mm_aload_n dX10_takeNumber_5 rfl rfl ?_
      refine mm_get (kd := 0) dX10_takeNumber_6 rfl fl_X10_22 (c := 1) rfl (by decide) rfl rfl ?_
      obtain ⟨v6, hv6⟩ : ∃ v, v = N 1 7 := ⟨_, rfl⟩
      rw [← hv6]
      rw [e7] at hv6
      subst hv6
      refine mm_aload_n dX10_takeNumber_9 rfl rfl ?_
      refine mm_get (kd := 0) dX10_takeNumber_10 rfl fl_X10_19 (c := 1) rfl (by decide) rfl rfl ?_
      obtain ⟨v10, hv10⟩ : ∃ v, v = N 1 1 := ⟨_, rfl⟩
      rw [← hv10]
      rw [e1] at hv10
      subst hv10
      refine mm_icge dX10_takeNumber_13 (by omega) (by omega) (fun h13 => ?_) (fun h13 => ?_)
      · exact fin hr
      · exfalso; omega
  refine mm_aload_n dX10_takeNumber_0 rfl rfl ?_
  refine mm_iconst dX10_takeNumber_1 rfl ?_
  refine mm_puti dX10_takeNumber_2 rfl fl_X10_50 (c := 1) rfl (by decide) rfl rfl (fun M2 hM2 => ?_)
  have hR2 : mm_Rf M2 := by rw [hM2]; exact hR.up rfl
  refine loop s hs (Nat.le_refl _) (by omega) hq.symm _ hR2 ?_ ?_ ?_ ?_
  · intro a ha; rw [hM2, mm_up_row ha]
  · intro b h1 h2; rw [hM2, mm_up_i h1]
  · rw [hM2, mm_up_i (by decide)]; exact h7
  · rw [hM2, mm_up_s, Nat.sub_self]; rfl
end
end
/-! 94.lex2 -/
section
/-! ===== the token that is read, of the class ===== -/
/-- which of the words the token is: T its bytes, len how many -/
def kt_f (T : Nat → Int) (len : Nat) : List Int → Nat → Nat → Bool → Int
  | [], w, o, same => if same = true ∧ o = len then (w : Int) else -1
  | b :: bs, w, o, same => if b = 32 then (if same = true ∧ o = len then (w : Int) else kt_f T len bs (w + 1) 0 true) else kt_f T len bs w (o + 1) (same && decide (o < len ∧ T o = b))
/-- the token is the word ws -/
def kt_m (T : Nat → Int) (len : Nat) (ws : List Int) : Prop := len = ws.length ∧ ∀ j, j < ws.length → T j = ws.getD j 0
theorem kt_f_0 {T : Nat → Int} {len : Nat} : ∀ (bs : List Int) (w o : Nat), 32 ∉ bs → kt_f T len bs w o false = -1
  | [], w, o, _ => by unfold kt_f; rw [if_neg (by simp)]
  | b :: bs, w, o, h => by
    unfold kt_f
    rw [if_neg (fun q => h (by rw [q]; exact List.mem_cons_self)), Bool.false_and]
    exact kt_f_0 bs w (o + 1) (fun q => h (List.mem_cons_of_mem _ q))
theorem kt_f_1 {T : Nat → Int} {len : Nat} (rest : List Int) : ∀ (bs : List Int) (w o : Nat), 32 ∉ bs → kt_f T len (bs ++ 32 :: rest) w o false = kt_f T len rest (w + 1) 0 true
  | [], w, o, _ => by
    show kt_f T len (32 :: rest) w o false = _
    rw [kt_f, if_pos rfl, if_neg (by simp)]
  | b :: bs, w, o, h => by
    show kt_f T len (b :: (bs ++ 32 :: rest)) w o false = _
    rw [kt_f, if_neg (fun q => h (by rw [q]; exact List.mem_cons_self)), Bool.false_and]
    exact kt_f_1 rest bs w (o + 1) (fun q => h (List.mem_cons_of_mem _ q))
theorem kt_f_2 {T : Nat → Int} {len : Nat} (rest : List Int) : ∀ (bs : List Int) (w o : Nat), 32 ∉ bs → o ≤ len → ((o + bs.length = len ∧ ∀ j, j < bs.length → T (o + j) = bs.getD j 0) → kt_f T len (bs ++ 32 :: rest) w o true = (w : Int)) ∧ (¬ (o + bs.length = len ∧ ∀ j, j < bs.length → T (o + j) = bs.getD j 0) → kt_f T len (bs ++ 32 :: rest) w o true = kt_f T len rest (w + 1) 0 true)
  | [], w, o, _, hl => by
    have e : kt_f T len ([] ++ 32 :: rest) w o true = if true = true ∧ o = len then (w : Int) else kt_f T len rest (w + 1) 0 true := by
      show kt_f T len (32 :: rest) w o true = _
      rw [kt_f, if_pos rfl]
    rw [e]
    constructor
    · rintro ⟨h, -⟩
      rw [if_pos ⟨rfl, by simpa using h⟩]
    · intro h
      rw [if_neg (fun q => h ⟨by simpa using q.2, fun j hj => absurd hj (Nat.not_lt_zero j)⟩)]
  | b :: bs, w, o, h, hl => by
    have hb : b ≠ 32 := fun q => h (by rw [q]; exact List.mem_cons_self)
    have hbs : 32 ∉ bs := fun q => h (List.mem_cons_of_mem _ q)
    have e : kt_f T len ((b :: bs) ++ 32 :: rest) w o true = kt_f T len (bs ++ 32 :: rest) w (o + 1) (decide (o < len ∧ T o = b)) := by
      show kt_f T len (b :: (bs ++ 32 :: rest)) w o true = _
      rw [kt_f, if_neg hb, Bool.true_and]
    rw [e]
    by_cases hc : o < len ∧ T o = b
    · rw [decide_eq_true hc]
      have ih := kt_f_2 (T := T) (len := len) rest bs w (o + 1) hbs hc.1
      have hiff : (o + 1 + bs.length = len ∧ ∀ j, j < bs.length → T (o + 1 + j) = bs.getD j 0) ↔ (o + (b :: bs).length = len ∧ ∀ j, j < (b :: bs).length → T (o + j) = (b :: bs).getD j 0) := by
        constructor
        · rintro ⟨h1, h2⟩
          refine ⟨by simp; omega, fun j hj => ?_⟩
          cases j with
          | zero => simpa using hc.2
          | succ j =>
            have := h2 j (by simpa using hj)
            rw [show o + (j + 1) = o + 1 + j by omega, this]
            simp
        · rintro ⟨h1, h2⟩
          refine ⟨by simp at h1; omega, fun j hj => ?_⟩
          have := h2 (j + 1) (by simpa using hj)
          rw [show o + 1 + j = o + (j + 1) by omega, this]
          simp
      rw [← hiff]
      exact ih
    · rw [decide_eq_false hc, kt_f_1 rest bs w (o + 1) hbs]
      constructor
      · rintro ⟨h1, h2⟩
        exact absurd ⟨by simp at h1; omega, by simpa using h2 0 (by simp)⟩ hc
      · intro _; rfl
theorem kt_f_3 {T : Nat → Int} {len : Nat} : ∀ (bs : List Int) (w o : Nat), 32 ∉ bs → o ≤ len → ((o + bs.length = len ∧ ∀ j, j < bs.length → T (o + j) = bs.getD j 0) → kt_f T len bs w o true = (w : Int)) ∧ (¬ (o + bs.length = len ∧ ∀ j, j < bs.length → T (o + j) = bs.getD j 0) → kt_f T len bs w o true = -1)
  | [], w, o, _, hl => by
    rw [kt_f]
    constructor
    · rintro ⟨h, -⟩
      rw [if_pos ⟨rfl, by simpa using h⟩]
    · intro h
      rw [if_neg (fun q => h ⟨by simpa using q.2, fun j hj => absurd hj (Nat.not_lt_zero j)⟩)]
  | b :: bs, w, o, h, hl => by
    have hb : b ≠ 32 := fun q => h (by rw [q]; exact List.mem_cons_self)
    have hbs : 32 ∉ bs := fun q => h (List.mem_cons_of_mem _ q)
    rw [kt_f, if_neg hb, Bool.true_and]
    by_cases hc : o < len ∧ T o = b
    · rw [decide_eq_true hc]
      have ih := kt_f_3 (T := T) (len := len) bs w (o + 1) hbs hc.1
      have hiff : (o + 1 + bs.length = len ∧ ∀ j, j < bs.length → T (o + 1 + j) = bs.getD j 0) ↔ (o + (b :: bs).length = len ∧ ∀ j, j < (b :: bs).length → T (o + j) = (b :: bs).getD j 0) := by
        constructor
        · rintro ⟨h1, h2⟩
          refine ⟨by simp; omega, fun j hj => ?_⟩
          cases j with
          | zero => simpa using hc.2
          | succ j =>
            have := h2 j (by simpa using hj)
            rw [show o + (j + 1) = o + 1 + j by omega, this]
            simp
        · rintro ⟨h1, h2⟩
          refine ⟨by simp at h1; omega, fun j hj => ?_⟩
          have := h2 (j + 1) (by simpa using hj)
          rw [show o + 1 + j = o + (j + 1) by omega, this]
          simp
      rw [← hiff]
      exact ih
    · rw [decide_eq_false hc, kt_f_0 bs w (o + 1) hbs]
      constructor
      · rintro ⟨h1, h2⟩
        exact absurd ⟨by simp at h1; omega, by simpa using h2 0 (by simp)⟩ hc
      · intro _; rfl
theorem kt_f_in {T : Nat → Int} {len : Nat} {bs rest : List Int} {w : Nat} (h : 32 ∉ bs) : (kt_m T len bs → kt_f T len (bs ++ 32 :: rest) w 0 true = (w : Int)) ∧ (¬ kt_m T len bs → kt_f T len (bs ++ 32 :: rest) w 0 true = kt_f T len rest (w + 1) 0 true) := by
  have := kt_f_2 (T := T) (len := len) rest bs w 0 h (Nat.zero_le _)
  simp only [Nat.zero_add] at this
  unfold kt_m
  exact ⟨fun q => this.1 ⟨q.1.symm, q.2⟩, fun q => this.2 (fun z => q ⟨z.1.symm, z.2⟩)⟩
theorem kt_f_la {T : Nat → Int} {len : Nat} {bs : List Int} {w : Nat} (h : 32 ∉ bs) : (kt_m T len bs → kt_f T len bs w 0 true = (w : Int)) ∧ (¬ kt_m T len bs → kt_f T len bs w 0 true = -1) := by
  have := kt_f_3 (T := T) (len := len) bs w 0 h (Nat.zero_le _)
  simp only [Nat.zero_add] at this
  unfold kt_m
  exact ⟨fun q => this.1 ⟨q.1.symm, q.2⟩, fun q => this.2 (fun z => q ⟨z.1.symm, z.2⟩)⟩
theorem kt_drop {L : List Int} {i : Nat} (h : i < L.length) : L.drop i = L.getD i 0 :: L.drop (i + 1) := by
  rw [List.drop_eq_getElem_cons h, List.getD_eq_getElem?_getD, List.getElem?_eq_getElem h]
  rfl
/-- what advance leaves -/
def kt_A (M M' : mm_M) (n p : Nat) : Prop := (∀ a, a ≠ 1 → M' a = M a) ∧ (∀ b, b < 4 → M' 1 b = M 1 b) ∧ M' 1 5 = kt_k (M 2) n p ∧ M' 1 6 = (kt_s (M 2) n p : Int) ∧ M' 1 7 = (kt_e (M 2) n p : Int) ∧ (kt_k (M 2) n p = 2 → M' 1 4 = kt_v (M 2) n p)
section
variable {X : mm_X} {M : mm_M} {n p s e k0 : Nat} {x y lo hi : Int}
theorem c_X10_startText (hR : mm_Rf M) : mm_Fn X Y_X10_startText 243 [(2, 2)] M (3, 0) (mm_up (mm_up (mm_up M 1 7 0) 1 2 0) 1 3 (-1)) := by
  refine mm_startF (ls := [(2, 2)]) rfl ?_
  refine mm_aload_n dX10_startText_0 rfl rfl ?_
  refine mm_iconst dX10_startText_1 rfl ?_
  refine mm_puti dX10_startText_2 rfl fl_X10_22 (c := 1) rfl (by decide) rfl rfl (fun M2 hM2 => ?_)
  have hR2 : mm_Rf M2 := by rw [hM2]; exact hR.up rfl
  refine mm_aload_n dX10_startText_5 rfl rfl ?_
  refine mm_iconst dX10_startText_6 rfl ?_
  refine mm_puti dX10_startText_7 rfl fl_X10_25 (c := 1) rfl (by decide) rfl rfl (fun M7 hM7 => ?_)
  have hR7 : mm_Rf M7 := by rw [hM7]; exact hR2.up rfl
  refine mm_aload_n dX10_startText_10 rfl rfl ?_
  refine mm_iconst dX10_startText_11 rfl ?_
  refine mm_puti dX10_startText_12 rfl fl_X10_15 (c := 1) rfl (by decide) rfl rfl (fun M12 hM12 => ?_)
  have hR12 : mm_Rf M12 := by rw [hM12]; exact hR7.up rfl
  refine mm_vret dX10_startText_15 rfl rfl ?_
  exact mm_fin rfl (by rw [hM12, hM7, hM2])
theorem c_X10_isAtEnd (hR : mm_Rf M) (hk : mm_R (M 1 5)) : mm_Fn X Y_X10_isAtEnd 243 [(2, 2)] M (0, mm_b (M 1 5 = 0)) M := by
  refine mm_startF (ls := [(2, 2)]) rfl ?_
  refine mm_aload_n dX10_isAtEnd_0 rfl rfl ?_
  refine mm_get (kd := 0) dX10_isAtEnd_1 rfl fl_X10_35 (c := 1) rfl (by decide) rfl rfl ?_
  refine mm_ifne_z (q2 := 12) dX10_isAtEnd_4 (by omega) (fun k => mm_iconst dX10_isAtEnd_11 rfl k) (fun k => mm_iconst dX10_isAtEnd_7 rfl (mm_goto dX10_isAtEnd_8 k)) ?_
  refine mm_zret dX10_isAtEnd_12 rfl rfl (mm_b_01 _) ?_
  exact mm_fin rfl rfl
theorem c_X10_isSemicolon (hR : mm_Rf M) (hk : mm_R (M 1 5)) : mm_Fn X Y_X10_isSemicolon 243 [(2, 2)] M (0, mm_b (M 1 5 = 3)) M := by
  refine mm_startF (ls := [(2, 2)]) rfl ?_
  refine mm_aload_n dX10_isSemicolon_0 rfl rfl ?_
  refine mm_get (kd := 0) dX10_isSemicolon_1 rfl fl_X10_35 (c := 1) rfl (by decide) rfl rfl ?_
  refine mm_iconst dX10_isSemicolon_4 rfl ?_
  refine mm_icne_z (q2 := 13) dX10_isSemicolon_5 (by omega) (by omega) (fun k => mm_iconst dX10_isSemicolon_12 rfl k) (fun k => mm_iconst dX10_isSemicolon_8 rfl (mm_goto dX10_isSemicolon_9 k)) ?_
  refine mm_zret dX10_isSemicolon_13 rfl rfl (mm_b_01 _) ?_
  exact mm_fin rfl rfl
theorem c_X10_fails (hR : mm_Rf M) : mm_Fn X Y_X10_fails 243 [(2, 2), (0, x)] M (0, 0) (mm_up (mm_up M 1 2 x) 1 3 (M 1 6)) := by
  refine mm_startF (ls := [(2, 2), (0, x)]) rfl ?_
  refine mm_aload_n dX10_fails_0 rfl rfl ?_
  refine mm_iload_n dX10_fails_1 rfl rfl ?_
  refine mm_puti dX10_fails_2 rfl fl_X10_25 (c := 1) rfl (by decide) rfl rfl (fun M2 hM2 => ?_)
  have hR2 : mm_Rf M2 := by rw [hM2]; exact hR.up rfl
  refine mm_aload_n dX10_fails_5 rfl rfl ?_
  refine mm_aload_n dX10_fails_6 rfl rfl ?_
  refine mm_get (kd := 0) dX10_fails_7 rfl fl_X10_32 (c := 1) rfl (by decide) rfl rfl ?_
  obtain ⟨v7, hv7⟩ : ∃ v, v = M2 1 6 := ⟨_, rfl⟩
  rw [← hv7]
  rw [hM2, mm_up_i (by decide)] at hv7
  subst hv7
  refine mm_puti dX10_fails_10 rfl fl_X10_15 (c := 1) rfl (by decide) rfl rfl (fun M10 hM10 => ?_)
  have hR10 : mm_Rf M10 := by rw [hM10]; exact hR2.up rfl
  refine mm_iconst dX10_fails_13 rfl ?_
  refine mm_zret dX10_fails_14 rfl rfl (Or.inl rfl) ?_
  exact mm_fin rfl (by rw [hM10, hM2])
theorem c_X10_isNumberWithin (hR : mm_Rf M) (hk : mm_R (M 1 5)) (hv : M 1 5 = 2 → mm_R (M 1 4)) (hlo : mm_R lo) (hhi : mm_R hi) :
    mm_Fn X Y_X10_isNumberWithin 243 [(2, 2), (0, lo), (0, hi)] M (0, mm_b (M 1 5 = 2 ∧ lo ≤ M 1 4 ∧ M 1 4 ≤ hi))
      (if M 1 5 = 2 ∧ lo ≤ M 1 4 ∧ M 1 4 ≤ hi then M else mm_up (mm_up M 1 2 (if M 1 5 = 2 then 2 else 1)) 1 3 (M 1 6)) := by
  refine mm_startF (ls := [(2, 2), (0, lo), (0, hi)]) rfl ?_
  obtain ⟨N1, hN1⟩ : ∃ N, N = mm_up (mm_up M 1 2 1) 1 3 (M 1 6) := ⟨_, rfl⟩
  obtain ⟨N2, hN2⟩ : ∃ N, N = mm_up (mm_up M 1 2 2) 1 3 (M 1 6) := ⟨_, rfl⟩
  have hR1 : mm_Rf N1 := by rw [hN1]; exact (hR.up rfl).up rfl
  have hR2 : mm_Rf N2 := by rw [hN2]; exact (hR.up rfl).up rfl
  refine mm_aload_n dX10_isNumberWithin_0 rfl rfl ?_
  refine mm_get (kd := 0) dX10_isNumberWithin_1 rfl fl_X10_35 (c := 1) rfl (by decide) rfl rfl ?_
  refine mm_iconst dX10_isNumberWithin_4 rfl ?_
  refine mm_iceq dX10_isNumberWithin_5 (by omega) (by omega) (fun h5 => ?_) (fun h5 => ?_)
  · refine mm_aload_n dX10_isNumberWithin_14 rfl rfl ?_
    refine mm_get (kd := 0) dX10_isNumberWithin_15 rfl fl_X10_50 (c := 1) rfl (by decide) rfl rfl ?_
    refine mm_iload_n dX10_isNumberWithin_18 rfl rfl ?_
    refine mm_iload_n dX10_isNumberWithin_19 rfl rfl ?_
    refine mm_N3i dX10_isNumberWithin_20 rfl ln_X10_65 (by simp) (by simp) (by simp) rfl rfl rfl (c_X11_isWithin (hv h5) hlo hhi) ?_
    refine mm_ifneb dX10_isNumberWithin_23 (fun h23 => ?_) (fun h23 => ?_)
    · refine mm_iconst dX10_isNumberWithin_34 rfl ?_
      refine mm_goto dX10_isNumberWithin_35 ?_
      refine mm_zret dX10_isNumberWithin_39 rfl rfl (Or.inr rfl) ?_
      first
      | exact mm_fin (mm_b1 ⟨h5, h23⟩) (by rw [if_pos ⟨h5, h23⟩])
      | exact mm_fin (mm_b0 (fun q => h23 q.2)) (by rw [if_neg (fun q => h23 q.2), if_pos h5, hN2])
    · refine mm_aload_n dX10_isNumberWithin_26 rfl rfl ?_
      refine mm_iconst dX10_isNumberWithin_27 rfl ?_
      refine mm_V1i dX10_isNumberWithin_28 rfl lk_X10_62 (c := 1) rfl (by decide) rfl (by simp) rfl rfl rfl ((hN2 ▸ c_X10_fails (x := 2) hR)) ?_
      refine mm_ifeq dX10_isNumberWithin_31 (by omega) (fun _ => ?_) (fun h => absurd (by decide) h)
      refine mm_iconst dX10_isNumberWithin_38 rfl ?_
      refine mm_zret dX10_isNumberWithin_39 rfl rfl (Or.inl rfl) ?_
      first
      | exact mm_fin (mm_b1 ⟨h5, h23⟩) (by rw [if_pos ⟨h5, h23⟩])
      | exact mm_fin (mm_b0 (fun q => h23 q.2)) (by rw [if_neg (fun q => h23 q.2), if_pos h5, hN2])
  · refine mm_aload_n dX10_isNumberWithin_8 rfl rfl ?_
    refine mm_iconst dX10_isNumberWithin_9 rfl ?_
    refine mm_V1i dX10_isNumberWithin_10 rfl lk_X10_62 (c := 1) rfl (by decide) rfl (by simp) rfl rfl rfl ((hN1 ▸ c_X10_fails (x := 1) hR)) ?_
    refine mm_zret dX10_isNumberWithin_13 rfl rfl (Or.inl rfl) ?_
    exact mm_fin (mm_b0 (fun q => h5 q.1)) (by rw [if_neg (fun q => h5 q.1), if_neg h5, hN1])
theorem c_X10_advance (hR : mm_Rf M) (hT : mm_CT M n) (hp : p ≤ n) (h7 : M 1 7 = (p : Int)) :
    mm_C X Y_X10_advance 243 243 [(2, 2)] M (fun r M' => r = (3, 0) ∧ mm_Rf M' ∧ kt_A M M' n p) := by
  obtain ⟨hn, hn8, hb⟩ := id hT
  obtain ⟨s, hs⟩ : ∃ s, s = kt_s (M 2) n p := ⟨_, rfl⟩
  have hsb := kt_sb (B := M 2) hp
  rw [← hs] at hsb
  refine mm_start (ls := [(2, 2)]) rfl ?_
  have loop : ∀ i : Nat, i ≤ n → kt_run kt_bl (M 2) (n - i) i = s → ∀ N : mm_M, mm_Rf N → (∀ a, a ≠ 1 → N a = M a) → (∀ b, b ≠ 7 → N 1 b = M 1 b) → N 1 7 = (i : Int) →
      mm_J X Y_X10_advance 243 243 243 0 [(2, 2)] [] N (fun r M' => r = (3, 0) ∧ mm_Rf M' ∧ kt_A M M' n p) := by
    refine mm_lp ?_
    intro i hi ih hr N hRN hfa hfb e7
    have e1 : N 1 1 = (n : Int) := (hfb 1 (by decide)).trans hn
    have f2 : N 2 = M 2 := hfa 2 (by decide)
    have fin : i = s → mm_J X Y_X10_advance 243 243 243 39 [(2, 2)] [] N (fun r M' => r = (3, 0) ∧ mm_Rf M' ∧ kt_A M M' n p) := by
      intro eq
      by_cases hsn : s = n
      · refine mm_aload_n dX10_advance_39 rfl rfl ?_
        refine mm_aload_n dX10_advance_40 rfl rfl ?_
        refine mm_get (kd := 0) dX10_advance_41 rfl fl_X10_22 (c := 1) rfl (by decide) rfl rfl ?_
        obtain ⟨v41, hv41⟩ : ∃ v, v = N 1 7 := ⟨_, rfl⟩
        rw [← hv41]
        rw [e7] at hv41
        subst hv41
        refine mm_puti dX10_advance_44 rfl fl_X10_32 (c := 1) rfl (by decide) rfl rfl (fun M44 hM44 => ?_)
        have hR44 : mm_Rf M44 := by rw [hM44]; exact hRN.up rfl
        refine mm_aload_n dX10_advance_47 rfl rfl ?_
        refine mm_get (kd := 0) dX10_advance_48 rfl fl_X10_22 (c := 1) rfl (by decide) rfl rfl ?_
        obtain ⟨v48, hv48⟩ : ∃ v, v = M44 1 7 := ⟨_, rfl⟩
        rw [← hv48]
        rw [hM44, mm_up_i (by decide), e7] at hv48
        subst hv48
        refine mm_aload_n dX10_advance_51 rfl rfl ?_
        refine mm_get (kd := 0) dX10_advance_52 rfl fl_X10_19 (c := 1) rfl (by decide) rfl rfl ?_
        obtain ⟨v52, hv52⟩ : ∃ v, v = M44 1 1 := ⟨_, rfl⟩
        rw [← hv52]
        rw [hM44, mm_up_i (by decide), e1] at hv52
        subst hv52
        refine mm_iclt dX10_advance_55 (by omega) (by omega) (fun h55 => ?_) (fun h55 => ?_)
        · exfalso; omega
        · refine mm_aload_n dX10_advance_58 rfl rfl ?_
          refine mm_iconst dX10_advance_59 rfl ?_
          refine mm_puti dX10_advance_60 rfl fl_X10_35 (c := 1) rfl (by decide) rfl rfl (fun M60 hM60 => ?_)
          have hR60 : mm_Rf M60 := by rw [hM60]; exact hR44.up rfl
          refine mm_goto dX10_advance_63 ?_
          refine mm_vret dX10_advance_143 rfl rfl ?_
          refine ⟨rfl, hR60, ?_, ?_, ?_, ?_, ?_, ?_⟩
          · intro a ha; funext b; simp [hM60, hM44, mm_up, ha]; rw [hfa a ha]
          · intro b hb9
            have n1 : b ≠ 5 := by omega
            have n2 : b ≠ 6 := by omega
            simp [hM60, hM44, mm_up, n1, n2]; exact hfb b (by omega)
          · unfold kt_k; rw [← hs, if_pos hsn]; simp [hM60, hM44, mm_up]
          · simp [hM60, hM44, mm_up, ← hs, eq]
          · unfold kt_e; rw [← hs, if_pos hsn]; simp [hM60, hM44, mm_up, e7]; omega
          · unfold kt_k; rw [← hs, if_pos hsn]; intro z; exact absurd z (by decide)
      · have hbs := hb s (by omega)
        have e7s : N 1 7 = (s : Int) := by rw [e7, eq]
        have f2' : ∀ N' : mm_M, N' 2 = N 2 → N' 2 = M 2 := fun N' q => q.trans f2
        by_cases hl : kt_le (M 2 s) = true
        · refine mm_aload_n dX10_advance_39 rfl rfl ?_
          refine mm_aload_n dX10_advance_40 rfl rfl ?_
          refine mm_get (kd := 0) dX10_advance_41 rfl fl_X10_22 (c := 1) rfl (by decide) rfl rfl ?_
          obtain ⟨v41, hv41⟩ : ∃ v, v = N 1 7 := ⟨_, rfl⟩
          rw [← hv41]
          rw [e7s] at hv41
          subst hv41
          refine mm_puti dX10_advance_44 rfl fl_X10_32 (c := 1) rfl (by decide) rfl rfl (fun M44 hM44 => ?_)
          have hR44 : mm_Rf M44 := by rw [hM44]; exact hRN.up rfl
          refine mm_aload_n dX10_advance_47 rfl rfl ?_
          refine mm_get (kd := 0) dX10_advance_48 rfl fl_X10_22 (c := 1) rfl (by decide) rfl rfl ?_
          obtain ⟨v48, hv48⟩ : ∃ v, v = M44 1 7 := ⟨_, rfl⟩
          rw [← hv48]
          rw [hM44, mm_up_i (by decide), e7s] at hv48
          subst hv48
          refine mm_aload_n dX10_advance_51 rfl rfl ?_
          refine mm_get (kd := 0) dX10_advance_52 rfl fl_X10_19 (c := 1) rfl (by decide) rfl rfl ?_
          obtain ⟨v52, hv52⟩ : ∃ v, v = M44 1 1 := ⟨_, rfl⟩
          rw [← hv52]
          rw [hM44, mm_up_i (by decide), e1] at hv52
          subst hv52
          refine mm_iclt dX10_advance_55 (by omega) (by omega) (fun h55 => ?_) (fun h55 => ?_)
          · refine mm_aload_n dX10_advance_66 rfl rfl ?_
            refine mm_getr dX10_advance_67 rfl fl_X10_11 (c := 1) rfl (by decide) rfl rfl (hR44.at (c := 1) (i := 0) (v := 3) rfl (by decide)) ?_
            refine mm_aload_n dX10_advance_70 rfl rfl ?_
            refine mm_get (kd := 0) dX10_advance_71 rfl fl_X10_22 (c := 1) rfl (by decide) rfl rfl ?_
            obtain ⟨v71, hv71⟩ : ∃ v, v = M44 1 7 := ⟨_, rfl⟩
            rw [← hv71]
            rw [hM44, mm_up_i (by decide), e7s] at hv71
            subst hv71
            refine mm_balk (k0 := s) dX10_advance_74 rfl (c := 2) rfl (by decide) rfl (by omega) (by omega) ?_
            rw [show M44 2 = N 2 from by rw [hM44, mm_up_row (by decide)]]
            rw [f2]
            refine mm_S1i dX10_advance_75 rfl lk_X10_38 (by simp) rfl rfl rfl (c_X10_isLetter (by omega)) ?_
            refine mm_ifeqb dX10_advance_78 (fun h78 => ?_) (fun h78 => ?_)
            · exact absurd hl h78
            · refine mm_aload_n dX10_advance_81 rfl rfl ?_
              have u : ∀ a, a ≠ 1 → M44 a = M a := by intro a ha; rw [hM44, mm_up_row ha]; exact hfa a ha
              have hT2 : mm_CT M44 n := ⟨by rw [hM44, mm_up_i (by decide)]; exact e1, hn8, by rw [u 2 (by decide)]; exact hb⟩
              refine mm_V0g (M1 := M44) dX10_advance_82 rfl lk_X10_41 (c := 1) rfl (by decide) rfl  rfl rfl rfl (c_X10_takeWord (s := s) hR44 hT2 (by omega) (by rw [hM44, mm_up_s]) (by rw [hM44, mm_up_i (by decide)]; exact e7s)) ?_
              rintro _ N82 ⟨rfl, p82⟩
              change mm_J _ _ _ _ _ _ _ _ _ _
              have hR82 : mm_Rf N82 := p82.1
              refine mm_goto dX10_advance_85 ?_
              refine mm_vret dX10_advance_143 rfl rfl ?_
              obtain ⟨-, q1, q2, q3, q4⟩ := p82
              rw [u 2 (by decide)] at q3 q4
              refine ⟨rfl, hR82, ?_, ?_, ?_, ?_, ?_, ?_⟩
              · intro a ha; rw [q1 a ha]; exact u a ha
              · intro b hb9; rw [q2 b (by omega) (by omega), hM44, mm_up_i (by omega)]; exact hfb b (by omega)
              · unfold kt_k; rw [← hs, if_neg hsn, if_pos hl]; exact q3
              · rw [q2 6 (by decide) (by decide), hM44, mm_up_s, ← hs]
              · unfold kt_e; rw [← hs, if_neg hsn, if_pos hl]; exact q4
              · unfold kt_k; rw [← hs, if_neg hsn, if_pos hl]; intro z; split at z <;> exact absurd z (by decide)
          · exfalso; omega
        · by_cases hdg : kt_di (M 2 s) = true
          · refine mm_aload_n dX10_advance_39 rfl rfl ?_
            refine mm_aload_n dX10_advance_40 rfl rfl ?_
            refine mm_get (kd := 0) dX10_advance_41 rfl fl_X10_22 (c := 1) rfl (by decide) rfl rfl ?_
            obtain ⟨v41, hv41⟩ : ∃ v, v = N 1 7 := ⟨_, rfl⟩
            rw [← hv41]
            rw [e7s] at hv41
            subst hv41
            refine mm_puti dX10_advance_44 rfl fl_X10_32 (c := 1) rfl (by decide) rfl rfl (fun M44 hM44 => ?_)
            have hR44 : mm_Rf M44 := by rw [hM44]; exact hRN.up rfl
            refine mm_aload_n dX10_advance_47 rfl rfl ?_
            refine mm_get (kd := 0) dX10_advance_48 rfl fl_X10_22 (c := 1) rfl (by decide) rfl rfl ?_
            obtain ⟨v48, hv48⟩ : ∃ v, v = M44 1 7 := ⟨_, rfl⟩
            rw [← hv48]
            rw [hM44, mm_up_i (by decide), e7s] at hv48
            subst hv48
            refine mm_aload_n dX10_advance_51 rfl rfl ?_
            refine mm_get (kd := 0) dX10_advance_52 rfl fl_X10_19 (c := 1) rfl (by decide) rfl rfl ?_
            obtain ⟨v52, hv52⟩ : ∃ v, v = M44 1 1 := ⟨_, rfl⟩
            rw [← hv52]
            rw [hM44, mm_up_i (by decide), e1] at hv52
            subst hv52
            refine mm_iclt dX10_advance_55 (by omega) (by omega) (fun h55 => ?_) (fun h55 => ?_)
            · refine mm_aload_n dX10_advance_66 rfl rfl ?_
              refine mm_getr dX10_advance_67 rfl fl_X10_11 (c := 1) rfl (by decide) rfl rfl (hR44.at (c := 1) (i := 0) (v := 3) rfl (by decide)) ?_
              refine mm_aload_n dX10_advance_70 rfl rfl ?_
              refine mm_get (kd := 0) dX10_advance_71 rfl fl_X10_22 (c := 1) rfl (by decide) rfl rfl ?_
              obtain ⟨v71, hv71⟩ : ∃ v, v = M44 1 7 := ⟨_, rfl⟩
              rw [← hv71]
              rw [hM44, mm_up_i (by decide), e7s] at hv71
              subst hv71
              refine mm_balk (k0 := s) dX10_advance_74 rfl (c := 2) rfl (by decide) rfl (by omega) (by omega) ?_
              rw [show M44 2 = N 2 from by rw [hM44, mm_up_row (by decide)]]
              rw [f2]
              refine mm_S1i dX10_advance_75 rfl lk_X10_38 (by simp) rfl rfl rfl (c_X10_isLetter (by omega)) ?_
              refine mm_ifeqb dX10_advance_78 (fun h78 => ?_) (fun h78 => ?_)
              · refine mm_aload_n dX10_advance_88 rfl rfl ?_
                refine mm_getr dX10_advance_89 rfl fl_X10_11 (c := 1) rfl (by decide) rfl rfl (hR44.at (c := 1) (i := 0) (v := 3) rfl (by decide)) ?_
                refine mm_aload_n dX10_advance_92 rfl rfl ?_
                refine mm_get (kd := 0) dX10_advance_93 rfl fl_X10_22 (c := 1) rfl (by decide) rfl rfl ?_
                obtain ⟨v93, hv93⟩ : ∃ v, v = M44 1 7 := ⟨_, rfl⟩
                rw [← hv93]
                rw [hM44, mm_up_i (by decide), e7s] at hv93
                subst hv93
                refine mm_balk (k0 := s) dX10_advance_96 rfl (c := 2) rfl (by decide) rfl (by omega) (by omega) ?_
                rw [show M44 2 = N 2 from by rw [hM44, mm_up_row (by decide)]]
                rw [f2]
                refine mm_S1i dX10_advance_97 rfl lk_X10_44 (by simp) rfl rfl rfl (c_X10_isDigit (by omega)) ?_
                refine mm_ifeqb dX10_advance_100 (fun h100 => ?_) (fun h100 => ?_)
                · exact absurd hdg h100
                · refine mm_aload_n dX10_advance_103 rfl rfl ?_
                  have u : ∀ a, a ≠ 1 → M44 a = M a := by intro a ha; rw [hM44, mm_up_row ha]; exact hfa a ha
                  have hT2 : mm_CT M44 n := ⟨by rw [hM44, mm_up_i (by decide)]; exact e1, hn8, by rw [u 2 (by decide)]; exact hb⟩
                  refine mm_V0g (M1 := M44) dX10_advance_104 rfl lk_X10_47 (c := 1) rfl (by decide) rfl  rfl rfl rfl (c_X10_takeNumber (s := s) hR44 hT2 (by omega) (by rw [hM44, mm_up_s]) (by rw [hM44, mm_up_i (by decide)]; exact e7s)) ?_
                  rintro _ N104 ⟨rfl, p104⟩
                  change mm_J _ _ _ _ _ _ _ _ _ _
                  have hR104 : mm_Rf N104 := p104.1
                  refine mm_goto dX10_advance_107 ?_
                  refine mm_vret dX10_advance_143 rfl rfl ?_
                  obtain ⟨-, q1, q2, q3, q4, q5⟩ := p104
                  rw [u 2 (by decide)] at q3 q4 q5
                  refine ⟨rfl, hR104, ?_, ?_, ?_, ?_, ?_, ?_⟩
                  · intro a ha; rw [q1 a ha]; exact u a ha
                  · intro b hb9; rw [q2 b (by omega) (by omega) (by omega), hM44, mm_up_i (by omega)]; exact hfb b (by omega)
                  · unfold kt_k; rw [← hs, if_neg hsn, if_neg hl, if_pos hdg]; exact q3
                  · rw [q2 6 (by decide) (by decide) (by decide), hM44, mm_up_s, ← hs]
                  · unfold kt_e; rw [← hs, if_neg hsn, if_neg hl, if_pos hdg]; exact q4
                  · intro _; unfold kt_v; rw [← hs]; exact q5
              · exact absurd h78 hl
            · exfalso; omega
          · refine mm_aload_n dX10_advance_39 rfl rfl ?_
            refine mm_aload_n dX10_advance_40 rfl rfl ?_
            refine mm_get (kd := 0) dX10_advance_41 rfl fl_X10_22 (c := 1) rfl (by decide) rfl rfl ?_
            obtain ⟨v41, hv41⟩ : ∃ v, v = N 1 7 := ⟨_, rfl⟩
            rw [← hv41]
            rw [e7s] at hv41
            subst hv41
            refine mm_puti dX10_advance_44 rfl fl_X10_32 (c := 1) rfl (by decide) rfl rfl (fun M44 hM44 => ?_)
            have hR44 : mm_Rf M44 := by rw [hM44]; exact hRN.up rfl
            refine mm_aload_n dX10_advance_47 rfl rfl ?_
            refine mm_get (kd := 0) dX10_advance_48 rfl fl_X10_22 (c := 1) rfl (by decide) rfl rfl ?_
            obtain ⟨v48, hv48⟩ : ∃ v, v = M44 1 7 := ⟨_, rfl⟩
            rw [← hv48]
            rw [hM44, mm_up_i (by decide), e7s] at hv48
            subst hv48
            refine mm_aload_n dX10_advance_51 rfl rfl ?_
            refine mm_get (kd := 0) dX10_advance_52 rfl fl_X10_19 (c := 1) rfl (by decide) rfl rfl ?_
            obtain ⟨v52, hv52⟩ : ∃ v, v = M44 1 1 := ⟨_, rfl⟩
            rw [← hv52]
            rw [hM44, mm_up_i (by decide), e1] at hv52
            subst hv52
            refine mm_iclt dX10_advance_55 (by omega) (by omega) (fun h55 => ?_) (fun h55 => ?_)
            · refine mm_aload_n dX10_advance_66 rfl rfl ?_
              refine mm_getr dX10_advance_67 rfl fl_X10_11 (c := 1) rfl (by decide) rfl rfl (hR44.at (c := 1) (i := 0) (v := 3) rfl (by decide)) ?_
              refine mm_aload_n dX10_advance_70 rfl rfl ?_
              refine mm_get (kd := 0) dX10_advance_71 rfl fl_X10_22 (c := 1) rfl (by decide) rfl rfl ?_
              obtain ⟨v71, hv71⟩ : ∃ v, v = M44 1 7 := ⟨_, rfl⟩
              rw [← hv71]
              rw [hM44, mm_up_i (by decide), e7s] at hv71
              subst hv71
              refine mm_balk (k0 := s) dX10_advance_74 rfl (c := 2) rfl (by decide) rfl (by omega) (by omega) ?_
              rw [show M44 2 = N 2 from by rw [hM44, mm_up_row (by decide)]]
              rw [f2]
              refine mm_S1i dX10_advance_75 rfl lk_X10_38 (by simp) rfl rfl rfl (c_X10_isLetter (by omega)) ?_
              refine mm_ifeqb dX10_advance_78 (fun h78 => ?_) (fun h78 => ?_)
              · refine mm_aload_n dX10_advance_88 rfl rfl ?_
                refine mm_getr dX10_advance_89 rfl fl_X10_11 (c := 1) rfl (by decide) rfl rfl (hR44.at (c := 1) (i := 0) (v := 3) rfl (by decide)) ?_
                refine mm_aload_n dX10_advance_92 rfl rfl ?_
                refine mm_get (kd := 0) dX10_advance_93 rfl fl_X10_22 (c := 1) rfl (by decide) rfl rfl ?_
                obtain ⟨v93, hv93⟩ : ∃ v, v = M44 1 7 := ⟨_, rfl⟩
                rw [← hv93]
                rw [hM44, mm_up_i (by decide), e7s] at hv93
                subst hv93
                refine mm_balk (k0 := s) dX10_advance_96 rfl (c := 2) rfl (by decide) rfl (by omega) (by omega) ?_
                rw [show M44 2 = N 2 from by rw [hM44, mm_up_row (by decide)]]
                rw [f2]
                refine mm_S1i dX10_advance_97 rfl lk_X10_44 (by simp) rfl rfl rfl (c_X10_isDigit (by omega)) ?_
                refine mm_ifeqb dX10_advance_100 (fun h100 => ?_) (fun h100 => ?_)
                · refine mm_aload_n dX10_advance_110 rfl rfl ?_
                  refine mm_aload_n dX10_advance_111 rfl rfl ?_
                  refine mm_getr dX10_advance_112 rfl fl_X10_11 (c := 1) rfl (by decide) rfl rfl (hR44.at (c := 1) (i := 0) (v := 3) rfl (by decide)) ?_
                  refine mm_aload_n dX10_advance_115 rfl rfl ?_
                  refine mm_get (kd := 0) dX10_advance_116 rfl fl_X10_22 (c := 1) rfl (by decide) rfl rfl ?_
                  obtain ⟨v116, hv116⟩ : ∃ v, v = M44 1 7 := ⟨_, rfl⟩
                  rw [← hv116]
                  rw [hM44, mm_up_i (by decide), e7s] at hv116
                  subst hv116
                  refine mm_balk (k0 := s) dX10_advance_119 rfl (c := 2) rfl (by decide) rfl (by omega) (by omega) ?_
                  rw [show M44 2 = N 2 from by rw [hM44, mm_up_row (by decide)]]
                  rw [f2]
                  refine mm_bipush dX10_advance_120 rfl (by decide) ?_
                  refine mm_icne_d (q2 := 130) dX10_advance_122 (by omega) (by omega) (fun k => mm_iconst dX10_advance_129 rfl k) (fun k => mm_iconst dX10_advance_125 rfl (mm_goto dX10_advance_126 k)) ?_
                  refine mm_puti dX10_advance_130 rfl fl_X10_35 (c := 1) rfl (by decide) rfl rfl (fun M130 hM130 => ?_)
                  have hR130 : mm_Rf M130 := by rw [hM130]; exact hR44.up rfl
                  refine mm_aload_n dX10_advance_133 rfl rfl ?_
                  refine mm_dup dX10_advance_134 rfl (by simp) ?_
                  refine mm_get (kd := 0) dX10_advance_135 rfl fl_X10_22 (c := 1) rfl (by decide) rfl rfl ?_
                  obtain ⟨v135, hv135⟩ : ∃ v, v = M130 1 7 := ⟨_, rfl⟩
                  rw [← hv135]
                  rw [hM130, mm_up_i (by decide), hM44, mm_up_i (by decide), e7s] at hv135
                  subst hv135
                  refine mm_iconst dX10_advance_138 rfl ?_
                  refine mm_iadd dX10_advance_139 rfl ?_
                  refine mm_puti dX10_advance_140 rfl fl_X10_22 (c := 1) rfl (by decide) rfl rfl (fun M140 hM140 => ?_)
                  have hR140 : mm_Rf M140 := by rw [hM140]; exact hR130.up rfl
                  refine mm_vret dX10_advance_143 rfl rfl ?_
                  refine ⟨rfl, hR140, ?_, ?_, ?_, ?_, ?_, ?_⟩
                  · intro a ha; funext b; simp [hM140, hM130, hM44, mm_up, ha]; rw [hfa a ha]
                  · intro b hb9
                    have n1 : b ≠ 5 := by omega
                    have n2 : b ≠ 6 := by omega
                    have n3 : b ≠ 7 := by omega
                    simp [hM140, hM130, hM44, mm_up, n1, n2, n3]; exact hfb b n3
                  · unfold kt_k; rw [← hs, if_neg hsn, if_neg hl, if_neg hdg]; simp [hM140, hM130, hM44, mm_up]
                  · simp [hM140, hM130, hM44, mm_up, ← hs, eq]
                  · unfold kt_e; rw [← hs, if_neg hsn, if_neg hl, if_neg hdg]; simp [hM140, hM130, hM44, mm_up]
                  · unfold kt_k; rw [← hs, if_neg hsn, if_neg hl, if_neg hdg]; intro z; split at z <;> exact absurd z (by decide)
                · exact absurd h100 hdg
              · exact absurd h78 hl
            · exfalso; omega
    by_cases hlt : i < n
    · have hbi := hb i (by omega)
      rw [show n - i = (n - (i + 1)) + 1 by omega, kt_run] at hr
      refine mm_aload_n dX10_advance_0 rfl rfl ?_
      refine mm_get (kd := 0) dX10_advance_1 rfl fl_X10_22 (c := 1) rfl (by decide) rfl rfl ?_
      obtain ⟨v1, hv1⟩ : ∃ v, v = N 1 7 := ⟨_, rfl⟩
      rw [← hv1]
      rw [e7] at hv1
      subst hv1
      refine mm_aload_n dX10_advance_4 rfl rfl ?_
      refine mm_get (kd := 0) dX10_advance_5 rfl fl_X10_19 (c := 1) rfl (by decide) rfl rfl ?_
      obtain ⟨v5, hv5⟩ : ∃ v, v = N 1 1 := ⟨_, rfl⟩
      rw [← hv5]
      rw [e1] at hv5
      subst hv5
      refine mm_icge dX10_advance_8 (by omega) (by omega) (fun h8 => ?_) (fun h8 => ?_)
      · exfalso; omega
      · refine mm_aload_n dX10_advance_11 rfl rfl ?_
        refine mm_getr dX10_advance_12 rfl fl_X10_11 (c := 1) rfl (by decide) rfl rfl (hRN.at (c := 1) (i := 0) (v := 3) rfl (by decide)) ?_
        refine mm_aload_n dX10_advance_15 rfl rfl ?_
        refine mm_get (kd := 0) dX10_advance_16 rfl fl_X10_22 (c := 1) rfl (by decide) rfl rfl ?_
        obtain ⟨v16, hv16⟩ : ∃ v, v = N 1 7 := ⟨_, rfl⟩
        rw [← hv16]
        rw [e7] at hv16
        subst hv16
        refine mm_balk (k0 := i) dX10_advance_19 rfl (c := 2) rfl (by decide) rfl (by omega) (by omega) ?_
        rw [f2]
        refine mm_S1i dX10_advance_20 rfl lk_X10_28 (by simp) rfl rfl rfl (c_X10_isBlank (by omega)) ?_
        refine mm_ifeqb dX10_advance_23 (fun h23 => ?_) (fun h23 => ?_)
        · rw [if_neg h23] at hr
          exact fin hr
        · refine mm_aload_n dX10_advance_26 rfl rfl ?_
          refine mm_dup dX10_advance_27 rfl (by simp) ?_
          refine mm_get (kd := 0) dX10_advance_28 rfl fl_X10_22 (c := 1) rfl (by decide) rfl rfl ?_
          obtain ⟨v28, hv28⟩ : ∃ v, v = N 1 7 := ⟨_, rfl⟩
          rw [← hv28]
          rw [e7] at hv28
          subst hv28
          refine mm_iconst dX10_advance_31 rfl ?_
          refine mm_iadd dX10_advance_32 rfl ?_
          refine mm_puti dX10_advance_33 rfl fl_X10_22 (c := 1) rfl (by decide) rfl rfl (fun M33 hM33 => ?_)
          have hR33 : mm_Rf M33 := by rw [hM33]; exact hRN.up rfl
          refine mm_goto dX10_advance_36 ?_
          rw [if_pos h23] at hr
          refine ih hlt hr _ hR33 ?_ ?_ ?_
          · intro a ha; rw [hM33, mm_up_row ha]; exact hfa a ha
          · intro b h2; rw [hM33, mm_up_i h2]; exact hfb b h2
          · rw [hM33, mm_up_s]; omega
    · rw [show n - i = 0 by omega, kt_run] at hr
      refine mm_aload_n dX10_advance_0 rfl rfl ?_
      refine mm_get (kd := 0) dX10_advance_1 rfl fl_X10_22 (c := 1) rfl (by decide) rfl rfl ?_
      obtain ⟨v1, hv1⟩ : ∃ v, v = N 1 7 := ⟨_, rfl⟩
      rw [← hv1]
      rw [e7] at hv1
      subst hv1
      refine mm_aload_n dX10_advance_4 rfl rfl ?_
      refine mm_get (kd := 0) dX10_advance_5 rfl fl_X10_19 (c := 1) rfl (by decide) rfl rfl ?_
      obtain ⟨v5, hv5⟩ : ∃ v, v = N 1 1 := ⟨_, rfl⟩
      rw [← hv5]
      rw [e1] at hv5
      subst hv5
      refine mm_icge dX10_advance_8 (by omega) (by omega) (fun h8 => ?_) (fun h8 => ?_)
      · exact fin hr
      · exfalso; omega
  exact loop p hp (by rw [hs]; rfl) M hR (fun _ _ => rfl) (fun _ _ => rfl) h7
theorem c_X10_wordAmong (hR : mm_Rf M) (hT : mm_CT M n) (hk : k0 < 37) (hk5 : mm_R (M 1 5)) (hs : M 1 6 = (s : Int)) (he : M 1 7 = (e : Int)) (hse : s ≤ e ∧ e ≤ n) :
    mm_Fn X Y_X10_wordAmong 243 [(2, 2), (2, -((k0 + 100 : Nat) : Int))] M (0, if M 1 5 = 1 then kt_f (fun j => M 2 (s + j)) (e - s) (mm_sc.getD k0 mm_sd).2.2.2 0 0 true else -1) M := by
  obtain ⟨hn, hn8, hb⟩ := id hT
  have hL := ks_LB k0 hk
  refine mm_startF (ls := [(2, 2), (2, -((k0 + 100 : Nat) : Int)), (9, 0), (9, 0), (9, 0), (9, 0)]) rfl ?_
  have fin2 : ∀ (l2 l3 l4 : mm_V) (i : Int), i = (ks_L k0 : Int) + 1 → kt_f (fun j => M 2 (s + j)) (e - s) (mm_sc.getD k0 mm_sd).2.2.2 0 0 true = -1 → mm_J X Y_X10_wordAmong 243 243 243 23 [(2, 2), (2, -((k0 + 100 : Nat) : Int)), l2, l3, l4, (0, i)] [] M (fun r' M'' => r' = (0, kt_f (fun j => M 2 (s + j)) (e - s) (mm_sc.getD k0 mm_sd).2.2.2 0 0 true) ∧ M'' = M) := by
    intro l2 l3 l4 i hi hf
    refine mm_iload dX10_wordAmong_23 rfl rfl ?_
    refine mm_aload_n dX10_wordAmong_25 rfl rfl ?_
    refine mm_VS0i dX10_wordAmong_26 rfl ls_X10_53 rfl hk  rfl rfl rfl (c_J0_length_8abf5 hk) ?_
    refine mm_icgt dX10_wordAmong_29 (by omega) (by omega) (fun h29 => ?_) (fun h29 => ?_)
    · refine mm_iconst dX10_wordAmong_125 rfl ?_
      refine mm_iret dX10_wordAmong_126 rfl rfl ?_
      exact mm_fin hf.symm rfl
    · exfalso; omega
  have loop : M 1 5 = 1 → ∀ i : Nat, i ≤ ks_L k0 → ∀ (w o : Nat) (z : Bool), w ≤ i → o ≤ i → kt_f (fun j => M 2 (s + j)) (e - s) ((mm_sc.getD k0 mm_sd).2.2.2.drop i) w o z = kt_f (fun j => M 2 (s + j)) (e - s) (mm_sc.getD k0 mm_sd).2.2.2 0 0 true →
      mm_J X Y_X10_wordAmong 243 243 243 23 [(2, 2), (2, -((k0 + 100 : Nat) : Int)), (0, (w : Int)), (0, ((s + o : Nat) : Int)), (0, mm_b (z = true)), (0, (i : Int))] [] M (fun r' M'' => r' = (0, kt_f (fun j => M 2 (s + j)) (e - s) (mm_sc.getD k0 mm_sd).2.2.2 0 0 true) ∧ M'' = M) := by
    intro h1
    refine mm_lp ?_
    intro i hi ih w o z hw ho hf
    by_cases hlt : i < ks_L k0
    · have hB := ks_BB k0 hk i hlt
      have hdrop : (mm_sc.getD k0 mm_sd).2.2.2.drop i = ks_B k0 i :: (mm_sc.getD k0 mm_sd).2.2.2.drop (i + 1) := kt_drop hlt
      rw [hdrop, kt_f] at hf
      have cA := c_J0_charAt_5068e (X := X) (M := M) (k0 := k0) (j := (i : Int)) hk (by omega) (by omega)
      rw [Int.toNat_natCast] at cA
      by_cases h32 : ks_B k0 i = 32
      · rw [if_pos h32] at hf
        refine mm_iload dX10_wordAmong_23 rfl rfl ?_
        refine mm_aload_n dX10_wordAmong_25 rfl rfl ?_
        refine mm_VS0i dX10_wordAmong_26 rfl ls_X10_53 rfl hk  rfl rfl rfl (c_J0_length_8abf5 hk) ?_
        refine mm_icgt dX10_wordAmong_29 (by omega) (by omega) (fun h29 => ?_) (fun h29 => ?_)
        · exfalso; omega
        · refine mm_iload dX10_wordAmong_32 rfl rfl ?_
          refine mm_aload_n dX10_wordAmong_34 rfl rfl ?_
          refine mm_VS0i dX10_wordAmong_35 rfl ls_X10_53 rfl hk  rfl rfl rfl (c_J0_length_8abf5 hk) ?_
          refine mm_iceq dX10_wordAmong_38 (by omega) (by omega) (fun h38 => ?_) (fun h38 => ?_)
          · exfalso; omega
          · refine mm_aload_n dX10_wordAmong_41 rfl rfl ?_
            refine mm_iload dX10_wordAmong_42 rfl rfl ?_
            refine mm_VS1i dX10_wordAmong_44 rfl ls_X10_58 rfl hk (by simp) rfl rfl rfl (cA) ?_
            refine mm_bipush dX10_wordAmong_47 rfl (by decide) ?_
            refine mm_icne dX10_wordAmong_49 (by omega) (by omega) (fun h49 => ?_) (fun h49 => ?_)
            · exact absurd h32 h49
            · refine mm_iload dX10_wordAmong_52 rfl rfl ?_
              refine mm_ifeqb dX10_wordAmong_54 (fun h54 => ?_) (fun h54 => ?_)
              · refine mm_iinc dX10_wordAmong_67 rfl rfl (Nat.le_of_ble_eq_true rfl) rfl ?_
                refine mm_aload_n dX10_wordAmong_70 rfl rfl ?_
                refine mm_get (kd := 0) dX10_wordAmong_71 rfl fl_X10_32 (c := 1) rfl (by decide) rfl rfl ?_
                obtain ⟨v71, hv71⟩ : ∃ v, v = M 1 6 := ⟨_, rfl⟩
                rw [← hv71]
                rw [hs] at hv71
                subst hv71
                refine mm_istore_n dX10_wordAmong_74 rfl (Nat.le_of_ble_eq_true rfl) rfl ?_
                refine mm_iconst dX10_wordAmong_75 rfl ?_
                refine mm_istore dX10_wordAmong_76 rfl (Nat.le_of_ble_eq_true rfl) rfl ?_
                refine mm_goto dX10_wordAmong_78 ?_
                refine mm_iinc dX10_wordAmong_119 rfl rfl (Nat.le_of_ble_eq_true rfl) rfl ?_
                refine mm_goto dX10_wordAmong_122 ?_
                first
                | (rw [if_neg (fun q => h54 q.1)] at hf
                   exact ih hlt (w + 1) 0 true (by omega) (by omega) hf)
                | (rw [if_neg (fun q => h62 (by rw [q.2]; omega))] at hf
                   exact ih hlt (w + 1) 0 true (by omega) (by omega) hf)
              · refine mm_iload_n dX10_wordAmong_57 rfl rfl ?_
                refine mm_aload_n dX10_wordAmong_58 rfl rfl ?_
                refine mm_get (kd := 0) dX10_wordAmong_59 rfl fl_X10_22 (c := 1) rfl (by decide) rfl rfl ?_
                obtain ⟨v59, hv59⟩ : ∃ v, v = M 1 7 := ⟨_, rfl⟩
                rw [← hv59]
                rw [he] at hv59
                subst hv59
                refine mm_icne dX10_wordAmong_62 (by omega) (by omega) (fun h62 => ?_) (fun h62 => ?_)
                · refine mm_iinc dX10_wordAmong_67 rfl rfl (Nat.le_of_ble_eq_true rfl) rfl ?_
                  refine mm_aload_n dX10_wordAmong_70 rfl rfl ?_
                  refine mm_get (kd := 0) dX10_wordAmong_71 rfl fl_X10_32 (c := 1) rfl (by decide) rfl rfl ?_
                  obtain ⟨v71, hv71⟩ : ∃ v, v = M 1 6 := ⟨_, rfl⟩
                  rw [← hv71]
                  rw [hs] at hv71
                  subst hv71
                  refine mm_istore_n dX10_wordAmong_74 rfl (Nat.le_of_ble_eq_true rfl) rfl ?_
                  refine mm_iconst dX10_wordAmong_75 rfl ?_
                  refine mm_istore dX10_wordAmong_76 rfl (Nat.le_of_ble_eq_true rfl) rfl ?_
                  refine mm_goto dX10_wordAmong_78 ?_
                  refine mm_iinc dX10_wordAmong_119 rfl rfl (Nat.le_of_ble_eq_true rfl) rfl ?_
                  refine mm_goto dX10_wordAmong_122 ?_
                  first
                  | (rw [if_neg (fun q => h54 q.1)] at hf
                     exact ih hlt (w + 1) 0 true (by omega) (by omega) hf)
                  | (rw [if_neg (fun q => h62 (by rw [q.2]; omega))] at hf
                     exact ih hlt (w + 1) 0 true (by omega) (by omega) hf)
                · refine mm_iload_n dX10_wordAmong_65 rfl rfl ?_
                  refine mm_iret dX10_wordAmong_66 rfl rfl ?_
                  refine mm_fin ?_ rfl
                  rw [← hf, if_pos ⟨h54, by omega⟩]
      · rw [if_neg h32] at hf
        have nx : ∀ y : Int, y = mm_b ((z && decide (o < e - s ∧ M 2 (s + o) = ks_B k0 i)) = true) → mm_J X Y_X10_wordAmong 243 243 243 114 [(2, 2), (2, -((k0 + 100 : Nat) : Int)), (0, (w : Int)), (0, ((s + o : Nat) : Int)), (0, mm_b (z = true)), (0, (i : Int))] [(0, y)] M (fun r' M'' => r' = (0, kt_f (fun j => M 2 (s + j)) (e - s) (mm_sc.getD k0 mm_sd).2.2.2 0 0 true) ∧ M'' = M) := by
          intro y hy
          subst hy
          refine mm_istore dX10_wordAmong_114 rfl (Nat.le_of_ble_eq_true rfl) rfl ?_
          refine mm_iinc dX10_wordAmong_116 rfl rfl (Nat.le_of_ble_eq_true rfl) rfl ?_
          refine mm_iinc dX10_wordAmong_119 rfl rfl (Nat.le_of_ble_eq_true rfl) rfl ?_
          refine mm_goto dX10_wordAmong_122 ?_
          exact ih hlt w (o + 1) _ (by omega) (by omega) hf
        refine mm_iload dX10_wordAmong_23 rfl rfl ?_
        refine mm_aload_n dX10_wordAmong_25 rfl rfl ?_
        refine mm_VS0i dX10_wordAmong_26 rfl ls_X10_53 rfl hk  rfl rfl rfl (c_J0_length_8abf5 hk) ?_
        refine mm_icgt dX10_wordAmong_29 (by omega) (by omega) (fun h29 => ?_) (fun h29 => ?_)
        · exfalso; omega
        · refine mm_iload dX10_wordAmong_32 rfl rfl ?_
          refine mm_aload_n dX10_wordAmong_34 rfl rfl ?_
          refine mm_VS0i dX10_wordAmong_35 rfl ls_X10_53 rfl hk  rfl rfl rfl (c_J0_length_8abf5 hk) ?_
          refine mm_iceq dX10_wordAmong_38 (by omega) (by omega) (fun h38 => ?_) (fun h38 => ?_)
          · exfalso; omega
          · refine mm_aload_n dX10_wordAmong_41 rfl rfl ?_
            refine mm_iload dX10_wordAmong_42 rfl rfl ?_
            refine mm_VS1i dX10_wordAmong_44 rfl ls_X10_58 rfl hk (by simp) rfl rfl rfl (cA) ?_
            refine mm_bipush dX10_wordAmong_47 rfl (by decide) ?_
            refine mm_icne dX10_wordAmong_49 (by omega) (by omega) (fun h49 => ?_) (fun h49 => ?_)
            · refine mm_iload dX10_wordAmong_81 rfl rfl ?_
              refine mm_ifeqb dX10_wordAmong_83 (fun h83 => ?_) (fun h83 => ?_)
              · refine mm_iconst dX10_wordAmong_113 rfl ?_
                refine nx _ ?_
                first
                | exact mm_b1 (by rw [h83, decide_eq_true (show o < e - s ∧ M 2 (s + o) = ks_B k0 i from ⟨by omega, h106⟩)]; rfl)
                | exact mm_b0 (by rw [decide_eq_false (show ¬ (o < e - s ∧ M 2 (s + o) = ks_B k0 i) from fun q => h106 q.2), Bool.and_false]; decide)
                | exact mm_b0 (by rw [decide_eq_false (show ¬ (o < e - s ∧ M 2 (s + o) = ks_B k0 i) from fun q => absurd q.1 (by omega)), Bool.and_false]; decide)
                | exact mm_b0 (fun q => h83 (by cases z <;> simp_all))
              · refine mm_iload_n dX10_wordAmong_86 rfl rfl ?_
                refine mm_aload_n dX10_wordAmong_87 rfl rfl ?_
                refine mm_get (kd := 0) dX10_wordAmong_88 rfl fl_X10_22 (c := 1) rfl (by decide) rfl rfl ?_
                obtain ⟨v88, hv88⟩ : ∃ v, v = M 1 7 := ⟨_, rfl⟩
                rw [← hv88]
                rw [he] at hv88
                subst hv88
                refine mm_icge dX10_wordAmong_91 (by omega) (by omega) (fun h91 => ?_) (fun h91 => ?_)
                · refine mm_iconst dX10_wordAmong_113 rfl ?_
                  refine nx _ ?_
                  first
                  | exact mm_b1 (by rw [h83, decide_eq_true (show o < e - s ∧ M 2 (s + o) = ks_B k0 i from ⟨by omega, h106⟩)]; rfl)
                  | exact mm_b0 (by rw [decide_eq_false (show ¬ (o < e - s ∧ M 2 (s + o) = ks_B k0 i) from fun q => h106 q.2), Bool.and_false]; decide)
                  | exact mm_b0 (by rw [decide_eq_false (show ¬ (o < e - s ∧ M 2 (s + o) = ks_B k0 i) from fun q => absurd q.1 (by omega)), Bool.and_false]; decide)
                  | exact mm_b0 (fun q => h83 (by cases z <;> simp_all))
                · refine mm_aload_n dX10_wordAmong_94 rfl rfl ?_
                  refine mm_getr dX10_wordAmong_95 rfl fl_X10_11 (c := 1) rfl (by decide) rfl rfl (hR.at (c := 1) (i := 0) (v := 3) rfl (by decide)) ?_
                  refine mm_iload_n dX10_wordAmong_98 rfl rfl ?_
                  refine mm_balk (k0 := (s + o)) dX10_wordAmong_99 rfl (c := 2) rfl (by decide) rfl (by omega) (by omega) ?_
                  refine mm_aload_n dX10_wordAmong_100 rfl rfl ?_
                  refine mm_iload dX10_wordAmong_101 rfl rfl ?_
                  refine mm_VS1i dX10_wordAmong_103 rfl ls_X10_58 rfl hk (by simp) rfl rfl rfl (cA) ?_
                  refine mm_icne dX10_wordAmong_106 (by (have := hb (s + o) (by omega)); omega) (by omega) (fun h106 => ?_) (fun h106 => ?_)
                  · refine mm_iconst dX10_wordAmong_113 rfl ?_
                    refine nx _ ?_
                    first
                    | exact mm_b1 (by rw [h83, decide_eq_true (show o < e - s ∧ M 2 (s + o) = ks_B k0 i from ⟨by omega, h106⟩)]; rfl)
                    | exact mm_b0 (by rw [decide_eq_false (show ¬ (o < e - s ∧ M 2 (s + o) = ks_B k0 i) from fun q => h106 q.2), Bool.and_false]; decide)
                    | exact mm_b0 (by rw [decide_eq_false (show ¬ (o < e - s ∧ M 2 (s + o) = ks_B k0 i) from fun q => absurd q.1 (by omega)), Bool.and_false]; decide)
                    | exact mm_b0 (fun q => h83 (by cases z <;> simp_all))
                  · refine mm_iconst dX10_wordAmong_109 rfl ?_
                    refine mm_goto dX10_wordAmong_110 ?_
                    refine nx _ ?_
                    first
                    | exact mm_b1 (by rw [h83, decide_eq_true (show o < e - s ∧ M 2 (s + o) = ks_B k0 i from ⟨by omega, h106⟩)]; rfl)
                    | exact mm_b0 (by rw [decide_eq_false (show ¬ (o < e - s ∧ M 2 (s + o) = ks_B k0 i) from fun q => h106 q.2), Bool.and_false]; decide)
                    | exact mm_b0 (by rw [decide_eq_false (show ¬ (o < e - s ∧ M 2 (s + o) = ks_B k0 i) from fun q => absurd q.1 (by omega)), Bool.and_false]; decide)
                    | exact mm_b0 (fun q => h83 (by cases z <;> simp_all))
            · exact absurd h49 h32
    · have hdrop : (mm_sc.getD k0 mm_sd).2.2.2.drop i = [] := List.drop_eq_nil_of_le (by unfold ks_L at hlt; omega)
      rw [hdrop, kt_f] at hf
      refine mm_iload dX10_wordAmong_23 rfl rfl ?_
      refine mm_aload_n dX10_wordAmong_25 rfl rfl ?_
      refine mm_VS0i dX10_wordAmong_26 rfl ls_X10_53 rfl hk  rfl rfl rfl (c_J0_length_8abf5 hk) ?_
      refine mm_icgt dX10_wordAmong_29 (by omega) (by omega) (fun h29 => ?_) (fun h29 => ?_)
      · exfalso; omega
      · refine mm_iload dX10_wordAmong_32 rfl rfl ?_
        refine mm_aload_n dX10_wordAmong_34 rfl rfl ?_
        refine mm_VS0i dX10_wordAmong_35 rfl ls_X10_53 rfl hk  rfl rfl rfl (c_J0_length_8abf5 hk) ?_
        refine mm_iceq dX10_wordAmong_38 (by omega) (by omega) (fun h38 => ?_) (fun h38 => ?_)
        · refine mm_iload dX10_wordAmong_52 rfl rfl ?_
          refine mm_ifeqb dX10_wordAmong_54 (fun h54 => ?_) (fun h54 => ?_)
          · refine mm_iinc dX10_wordAmong_67 rfl rfl (Nat.le_of_ble_eq_true rfl) rfl ?_
            refine mm_aload_n dX10_wordAmong_70 rfl rfl ?_
            refine mm_get (kd := 0) dX10_wordAmong_71 rfl fl_X10_32 (c := 1) rfl (by decide) rfl rfl ?_
            obtain ⟨v71, hv71⟩ : ∃ v, v = M 1 6 := ⟨_, rfl⟩
            rw [← hv71]
            rw [hs] at hv71
            subst hv71
            refine mm_istore_n dX10_wordAmong_74 rfl (Nat.le_of_ble_eq_true rfl) rfl ?_
            refine mm_iconst dX10_wordAmong_75 rfl ?_
            refine mm_istore dX10_wordAmong_76 rfl (Nat.le_of_ble_eq_true rfl) rfl ?_
            refine mm_goto dX10_wordAmong_78 ?_
            refine mm_iinc dX10_wordAmong_119 rfl rfl (Nat.le_of_ble_eq_true rfl) rfl ?_
            refine mm_goto dX10_wordAmong_122 ?_
            refine fin2 _ _ _ _ (by omega) ?_
            rw [← hf]
            first
            | (rw [if_neg (fun q => h54 q.1)]; done)
            | (rw [if_neg (fun q => h62 (by rw [q.2]; omega))]; done)
          · refine mm_iload_n dX10_wordAmong_57 rfl rfl ?_
            refine mm_aload_n dX10_wordAmong_58 rfl rfl ?_
            refine mm_get (kd := 0) dX10_wordAmong_59 rfl fl_X10_22 (c := 1) rfl (by decide) rfl rfl ?_
            obtain ⟨v59, hv59⟩ : ∃ v, v = M 1 7 := ⟨_, rfl⟩
            rw [← hv59]
            rw [he] at hv59
            subst hv59
            refine mm_icne dX10_wordAmong_62 (by omega) (by omega) (fun h62 => ?_) (fun h62 => ?_)
            · refine mm_iinc dX10_wordAmong_67 rfl rfl (Nat.le_of_ble_eq_true rfl) rfl ?_
              refine mm_aload_n dX10_wordAmong_70 rfl rfl ?_
              refine mm_get (kd := 0) dX10_wordAmong_71 rfl fl_X10_32 (c := 1) rfl (by decide) rfl rfl ?_
              obtain ⟨v71, hv71⟩ : ∃ v, v = M 1 6 := ⟨_, rfl⟩
              rw [← hv71]
              rw [hs] at hv71
              subst hv71
              refine mm_istore_n dX10_wordAmong_74 rfl (Nat.le_of_ble_eq_true rfl) rfl ?_
              refine mm_iconst dX10_wordAmong_75 rfl ?_
              refine mm_istore dX10_wordAmong_76 rfl (Nat.le_of_ble_eq_true rfl) rfl ?_
              refine mm_goto dX10_wordAmong_78 ?_
              refine mm_iinc dX10_wordAmong_119 rfl rfl (Nat.le_of_ble_eq_true rfl) rfl ?_
              refine mm_goto dX10_wordAmong_122 ?_
              refine fin2 _ _ _ _ (by omega) ?_
              rw [← hf]
              first
              | (rw [if_neg (fun q => h54 q.1)]; done)
              | (rw [if_neg (fun q => h62 (by rw [q.2]; omega))]; done)
            · refine mm_iload_n dX10_wordAmong_65 rfl rfl ?_
              refine mm_iret dX10_wordAmong_66 rfl rfl ?_
              refine mm_fin ?_ rfl
              rw [← hf, if_pos ⟨h54, by omega⟩]
        · exfalso; omega
  refine mm_aload_n dX10_wordAmong_0 rfl rfl ?_
  refine mm_get (kd := 0) dX10_wordAmong_1 rfl fl_X10_35 (c := 1) rfl (by decide) rfl rfl ?_
  refine mm_iconst dX10_wordAmong_4 rfl ?_
  refine mm_iceq dX10_wordAmong_5 (by omega) (by omega) (fun h5 => ?_) (fun h5 => ?_)
  · refine mm_iconst dX10_wordAmong_10 rfl ?_
    refine mm_istore_n dX10_wordAmong_11 rfl (Nat.le_of_ble_eq_true rfl) rfl ?_
    refine mm_aload_n dX10_wordAmong_12 rfl rfl ?_
    refine mm_get (kd := 0) dX10_wordAmong_13 rfl fl_X10_32 (c := 1) rfl (by decide) rfl rfl ?_
    obtain ⟨v13, hv13⟩ : ∃ v, v = M 1 6 := ⟨_, rfl⟩
    rw [← hv13]
    rw [hs] at hv13
    subst hv13
    refine mm_istore_n dX10_wordAmong_16 rfl (Nat.le_of_ble_eq_true rfl) rfl ?_
    refine mm_iconst dX10_wordAmong_17 rfl ?_
    refine mm_istore dX10_wordAmong_18 rfl (Nat.le_of_ble_eq_true rfl) rfl ?_
    refine mm_iconst dX10_wordAmong_20 rfl ?_
    refine mm_istore dX10_wordAmong_21 rfl (Nat.le_of_ble_eq_true rfl) rfl ?_
    rw [if_pos h5]
    exact loop h5 0 (Nat.zero_le _) 0 0 true (by omega) (by omega) rfl
  · refine mm_iconst dX10_wordAmong_8 rfl ?_
    refine mm_iret dX10_wordAmong_9 rfl rfl ?_
    exact mm_fin (by rw [if_neg h5]) rfl
end
end
/-! 95.rlex -/
section
/-! ===== the token at hand, of the reference ===== -/
theorem kt_le_m {b : Int} (h : -128 ≤ b ∧ b ≤ 127) : kt_le (b % 256) = kt_le b := by
  unfold kt_le
  rw [decide_eq_decide]
  omega
theorem kt_di_m {b : Int} (h : -128 ≤ b ∧ b ≤ 127) : kt_di (b % 256) = kt_di b := by
  unfold kt_di
  rw [decide_eq_decide]
  omega
/-- the reference's tape as it is read -/
def mm_RT (M : mm_M) (n : Nat) : Prop := M 183 3 = (n : Int) ∧ n ≤ 800 ∧ ∀ k : Nat, k < 800 → -128 ≤ M 185 k ∧ M 185 k ≤ 127
/-- what scan leaves -/
def kt_R (M M' : mm_M) (n p : Nat) : Prop := (∀ a, a ≠ 183 → M' a = M a) ∧ (∀ b, ¬ (4 ≤ b ∧ b ≤ 7) → M' 183 b = M 183 b) ∧ M' 183 6 = kt_k (M 185) n p ∧ M' 183 4 = (kt_s (M 185) n p : Int) ∧ M' 183 5 = (kt_e (M 185) n p : Int) ∧ (kt_k (M 185) n p = 2 → M' 183 7 = kt_v (M 185) n p)
/-- the token at hand is the one behind p -/
def kt_H (M : mm_M) (n p : Nat) : Prop := M 183 6 = kt_k (M 185) n p ∧ M 183 4 = (kt_s (M 185) n p : Int) ∧ M 183 5 = (kt_e (M 185) n p : Int) ∧ (kt_k (M 185) n p = 2 → M 183 7 = kt_v (M 185) n p)
section
variable {X : mm_X} {M : mm_M} {n p s e k0 : Nat} {x y lo hi : Int}
theorem c_X13_isSmall (hx : mm_R x) : mm_Fn X Y_X13_isSmall 243 [(0, x)] M (0, mm_b (kt_le x = true)) M := by
  refine mm_startF (ls := [(0, x)]) rfl ?_
  refine mm_iload_n dX13_isSmall_0 rfl rfl ?_
  refine mm_bipush dX13_isSmall_1 rfl (by decide) ?_
  refine mm_iclt dX13_isSmall_3 (by omega) (by omega) (fun h3 => ?_) (fun h3 => ?_)
  · refine mm_iconst dX13_isSmall_16 rfl ?_
    refine mm_zret dX13_isSmall_17 rfl rfl (Or.inl rfl) ?_
    refine mm_fin ?_ rfl
    unfold kt_le
    first
    | exact mm_b1 (decide_eq_true (by omega))
    | exact mm_b0 (fun q => absurd (of_decide_eq_true q) (by omega))
  · refine mm_iload_n dX13_isSmall_6 rfl rfl ?_
    refine mm_bipush dX13_isSmall_7 rfl (by decide) ?_
    refine mm_icgt dX13_isSmall_9 (by omega) (by omega) (fun h9 => ?_) (fun h9 => ?_)
    · refine mm_iconst dX13_isSmall_16 rfl ?_
      refine mm_zret dX13_isSmall_17 rfl rfl (Or.inl rfl) ?_
      refine mm_fin ?_ rfl
      unfold kt_le
      first
      | exact mm_b1 (decide_eq_true (by omega))
      | exact mm_b0 (fun q => absurd (of_decide_eq_true q) (by omega))
    · refine mm_iconst dX13_isSmall_12 rfl ?_
      refine mm_goto dX13_isSmall_13 ?_
      refine mm_zret dX13_isSmall_17 rfl rfl (Or.inr rfl) ?_
      refine mm_fin ?_ rfl
      unfold kt_le
      first
      | exact mm_b1 (decide_eq_true (by omega))
      | exact mm_b0 (fun q => absurd (of_decide_eq_true q) (by omega))
theorem c_X13_isDigit (hx : mm_R x) : mm_Fn X Y_X13_isDigit 243 [(0, x)] M (0, mm_b (kt_di x = true)) M := by
  refine mm_startF (ls := [(0, x)]) rfl ?_
  refine mm_iload_n dX13_isDigit_0 rfl rfl ?_
  refine mm_bipush dX13_isDigit_1 rfl (by decide) ?_
  refine mm_iclt dX13_isDigit_3 (by omega) (by omega) (fun h3 => ?_) (fun h3 => ?_)
  · refine mm_iconst dX13_isDigit_16 rfl ?_
    refine mm_zret dX13_isDigit_17 rfl rfl (Or.inl rfl) ?_
    refine mm_fin ?_ rfl
    unfold kt_di
    first
    | exact mm_b1 (decide_eq_true (by omega))
    | exact mm_b0 (fun q => absurd (of_decide_eq_true q) (by omega))
  · refine mm_iload_n dX13_isDigit_6 rfl rfl ?_
    refine mm_bipush dX13_isDigit_7 rfl (by decide) ?_
    refine mm_icgt dX13_isDigit_9 (by omega) (by omega) (fun h9 => ?_) (fun h9 => ?_)
    · refine mm_iconst dX13_isDigit_16 rfl ?_
      refine mm_zret dX13_isDigit_17 rfl rfl (Or.inl rfl) ?_
      refine mm_fin ?_ rfl
      unfold kt_di
      first
      | exact mm_b1 (decide_eq_true (by omega))
      | exact mm_b0 (fun q => absurd (of_decide_eq_true q) (by omega))
    · refine mm_iconst dX13_isDigit_12 rfl ?_
      refine mm_goto dX13_isDigit_13 ?_
      refine mm_zret dX13_isDigit_17 rfl rfl (Or.inr rfl) ?_
      refine mm_fin ?_ rfl
      unfold kt_di
      first
      | exact mm_b1 (decide_eq_true (by omega))
      | exact mm_b0 (fun q => absurd (of_decide_eq_true q) (by omega))
theorem c_X13_byteAt (hR : mm_Rf M) (hT : mm_RT M n) (hp : p ≤ n) : mm_Fn X Y_X13_byteAt 243 [(2, 184), (0, (p : Int))] M (0, if p < n then M 185 p % 256 else 0) M := by
  obtain ⟨hn, hn8, hb⟩ := id hT
  refine mm_startF (ls := [(2, 184), (0, (p : Int))]) rfl ?_
  refine mm_iload_n dX13_byteAt_0 rfl rfl ?_
  refine mm_aload_n dX13_byteAt_1 rfl rfl ?_
  refine mm_get (kd := 0) dX13_byteAt_2 rfl fl_X13_23 (c := 183) rfl (by decide) rfl rfl ?_
  obtain ⟨v2, hv2⟩ : ∃ v, v = M 183 3 := ⟨_, rfl⟩
  rw [← hv2]
  rw [hn] at hv2
  subst hv2
  refine mm_icge dX13_byteAt_5 (by omega) (by omega) (fun h5 => ?_) (fun h5 => ?_)
  · refine mm_iconst dX13_byteAt_21 rfl ?_
    refine mm_iret dX13_byteAt_22 rfl rfl ?_
    refine mm_fin ?_ rfl
    first
    | (rw [if_pos (by omega)]; exact kb_and (hb p (by omega)))
    | (rw [if_neg (by omega)]; done)
  · refine mm_aload_n dX13_byteAt_8 rfl rfl ?_
    refine mm_getr dX13_byteAt_9 rfl fl_X13_26 (c := 183) rfl (by decide) rfl rfl (hR.at (c := 183) (i := 1) (v := 186) rfl (by decide)) ?_
    refine mm_iload_n dX13_byteAt_12 rfl rfl ?_
    refine mm_balk (k0 := p) dX13_byteAt_13 rfl (c := 185) rfl (by decide) rfl (by omega) (by omega) ?_
    refine mm_sipush dX13_byteAt_14 rfl (by decide) ?_
    refine mm_iand dX13_byteAt_17 rfl ?_
    refine mm_goto dX13_byteAt_18 ?_
    refine mm_iret dX13_byteAt_22 rfl rfl ?_
    refine mm_fin ?_ rfl
    first
    | (rw [if_pos (by omega)]; exact kb_and (hb p (by omega)))
    | (rw [if_neg (by omega)]; done)
theorem c_X13_scan (hR : mm_Rf M) (hT : mm_RT M n) (hp : p ≤ n) (h5 : M 183 5 = (p : Int)) :
    mm_C X Y_X13_scan 243 243 [(2, 184)] M (fun r M' => r = (3, 0) ∧ mm_Rf M' ∧ mm_rg M M' ∧ kt_R M M' n p) := by
  obtain ⟨hn, hn8, hb⟩ := id hT
  have hG0 := mm_rg.rf M
  obtain ⟨s, hs⟩ : ∃ s, s = kt_s (M 185) n p := ⟨_, rfl⟩
  have hsb := kt_sb (B := M 185) hp
  rw [← hs] at hsb
  obtain ⟨Φ, hΦ⟩ : ∃ Φ : mm_V → mm_M → Prop, Φ = (fun r M' => r = (3, 0) ∧ mm_Rf M' ∧ mm_rg M M' ∧ kt_R M M' n p) := ⟨_, rfl⟩
  rw [← hΦ]
  refine mm_start (ls := [(2, 184), (9, 0)]) rfl ?_
  -- the end of a word
  have word : s ≠ n → kt_le (M 185 s) = true → ∀ i : Nat, i ≤ n → s ≤ i → kt_run kt_le (M 185) (n - i) i = kt_w (M 185) n s → ∀ (N : mm_M) (l1 : mm_V), mm_Rf N → mm_rg M N → (∀ a, a ≠ 183 → N a = M a) → (∀ b, ¬ (4 ≤ b ∧ b ≤ 7) → N 183 b = M 183 b) → N 183 4 = (s : Int) → N 183 5 = (i : Int) →
      mm_J X Y_X13_scan 243 243 243 95 [(2, 184), l1] [] N Φ := by
    intro hsn hl
    refine mm_lp ?_
    intro i hi ih hsi hr N l1 hRN hG hfa hfb e4 e5
    have hTN : mm_RT N n := ⟨(hfb 3 (by omega)).trans hn, hn8, by rw [hfa 185 (by decide)]; exact hb⟩
    have cb := c_X13_byteAt (X := X) (p := i) hRN hTN hi
    rw [hfa 185 (by decide)] at cb
    have fin : kt_w (M 185) n s = i → mm_J X Y_X13_scan 243 243 243 122 [(2, 184), l1] [] N Φ := by
      intro eq
      rw [hΦ]
      refine mm_aload_n dX13_scan_122 rfl rfl ?_
      refine mm_aload_n dX13_scan_123 rfl rfl ?_
      refine mm_get (kd := 0) dX13_scan_124 rfl fl_X13_30 (c := 183) rfl (by decide) rfl rfl ?_
      obtain ⟨v124, hv124⟩ : ∃ v, v = N 183 5 := ⟨_, rfl⟩
      rw [← hv124]
      rw [e5] at hv124
      subst hv124
      refine mm_aload_n dX13_scan_127 rfl rfl ?_
      refine mm_get (kd := 0) dX13_scan_128 rfl fl_X13_13 (c := 183) rfl (by decide) rfl rfl ?_
      obtain ⟨v128, hv128⟩ : ∃ v, v = N 183 4 := ⟨_, rfl⟩
      rw [← hv128]
      rw [e4] at hv128
      subst hv128
      refine mm_isub dX13_scan_131 rfl ?_
      refine mm_bipush dX13_scan_132 rfl (by decide) ?_
      refine mm_icle_d (q2 := 142) dX13_scan_134 (by omega) (by omega) (fun k => mm_iconst dX13_scan_141 rfl k) (fun k => mm_iconst dX13_scan_137 rfl (mm_goto dX13_scan_138 k)) ?_
      refine mm_puti dX13_scan_142 rfl fl_X13_37 (c := 183) rfl (by decide) rfl rfl (fun M142 hM142 => ?_)
      have hR142 : mm_Rf M142 := by rw [hM142]; exact hRN.up rfl
      have hG142 : mm_rg M M142 := by rw [hM142]; exact hG.up (by decide)
      refine mm_goto dX13_scan_145 ?_
      refine mm_vret dX13_scan_273 rfl rfl ?_
      refine ⟨rfl, hR142, hG142, ?_, ?_, ?_, ?_, ?_, ?_⟩
      · intro a ha; rw [hM142, mm_up_row ha]; exact hfa a ha
      · intro b hb9; rw [hM142, mm_up_i (by omega)]; exact hfb b hb9
      · unfold kt_k; rw [← hs, if_neg hsn, if_pos hl, eq, hM142, mm_up_s]; split <;> split <;> first | rfl | (exfalso; omega)
      · rw [hM142, mm_up_i (by decide), e4, hs]
      · unfold kt_e; rw [← hs, if_neg hsn, if_pos hl, eq, hM142, mm_up_i (by decide), e5]
      · unfold kt_k; rw [← hs, if_neg hsn, if_pos hl]; intro z; split at z <;> exact absurd z (by decide)
    by_cases hlt : i < n
    · have hbi := hb i (by omega)
      rw [if_pos hlt] at cb
      rw [show n - i = (n - (i + 1)) + 1 by omega, kt_run] at hr
      refine mm_aload_n dX13_scan_95 rfl rfl ?_
      refine mm_aload_n dX13_scan_96 rfl rfl ?_
      refine mm_get (kd := 0) dX13_scan_97 rfl fl_X13_30 (c := 183) rfl (by decide) rfl rfl ?_
      obtain ⟨v97, hv97⟩ : ∃ v, v = N 183 5 := ⟨_, rfl⟩
      rw [← hv97]
      rw [e5] at hv97
      subst hv97
      refine mm_V1i dX13_scan_100 rfl lk_X13_33 (c := 183) rfl (by decide) rfl (by simp) rfl rfl rfl (cb) ?_
      refine mm_S1i dX13_scan_103 rfl lk_X13_40 (by simp) rfl rfl rfl (c_X13_isSmall (by omega)) ?_
      refine mm_ifeqb dX13_scan_106 (fun h106 => ?_) (fun h106 => ?_)
      · rw [kt_le_m hbi] at h106
        rw [if_neg h106] at hr
        exact fin hr.symm
      · refine mm_aload_n dX13_scan_109 rfl rfl ?_
        refine mm_dup dX13_scan_110 rfl (by simp) ?_
        refine mm_get (kd := 0) dX13_scan_111 rfl fl_X13_30 (c := 183) rfl (by decide) rfl rfl ?_
        obtain ⟨v111, hv111⟩ : ∃ v, v = N 183 5 := ⟨_, rfl⟩
        rw [← hv111]
        rw [e5] at hv111
        subst hv111
        refine mm_iconst dX13_scan_114 rfl ?_
        refine mm_iadd dX13_scan_115 rfl ?_
        refine mm_puti dX13_scan_116 rfl fl_X13_30 (c := 183) rfl (by decide) rfl rfl (fun M116 hM116 => ?_)
        have hR116 : mm_Rf M116 := by rw [hM116]; exact hRN.up rfl
        have hG116 : mm_rg M M116 := by rw [hM116]; exact hG.up (by decide)
        refine mm_goto dX13_scan_119 ?_
        rw [kt_le_m hbi] at h106
        rw [if_pos h106] at hr
        refine ih hlt (by omega) hr _ _ hR116 hG116 ?_ ?_ ?_ ?_
        · intro a ha; rw [hM116, mm_up_row ha]; exact hfa a ha
        · intro b hb9; rw [hM116, mm_up_i (by omega)]; exact hfb b hb9
        · rw [hM116, mm_up_i (by decide)]; exact e4
        · rw [hM116, mm_up_s]; omega
    · rw [if_neg hlt] at cb
      rw [show n - i = 0 by omega, kt_run] at hr
      refine mm_aload_n dX13_scan_95 rfl rfl ?_
      refine mm_aload_n dX13_scan_96 rfl rfl ?_
      refine mm_get (kd := 0) dX13_scan_97 rfl fl_X13_30 (c := 183) rfl (by decide) rfl rfl ?_
      obtain ⟨v97, hv97⟩ : ∃ v, v = N 183 5 := ⟨_, rfl⟩
      rw [← hv97]
      rw [e5] at hv97
      subst hv97
      refine mm_V1i dX13_scan_100 rfl lk_X13_33 (c := 183) rfl (by decide) rfl (by simp) rfl rfl rfl (cb) ?_
      refine mm_S1i dX13_scan_103 rfl lk_X13_40 (by simp) rfl rfl rfl (c_X13_isSmall (by omega)) ?_
      refine mm_ifeqb dX13_scan_106 (fun h106 => ?_) (fun h106 => ?_)
      · exact fin hr.symm
      · exact absurd h106 (by decide)
  -- the end of a number
  have hall : ∀ j, s ≤ j → j < kt_d (M 185) n s → 48 ≤ M 185 j ∧ M 185 j ≤ 57 := fun j h1 h2 => of_decide_eq_true (kt_run_all (P := kt_di) h1 h2)
  have numb : s ≠ n → ¬ kt_le (M 185 s) = true → kt_di (M 185 s) = true → ∀ i : Nat, i ≤ n → s ≤ i → i ≤ kt_d (M 185) n s → kt_run kt_di (M 185) (n - i) i = kt_d (M 185) n s → ∀ (N : mm_M) (l1 : mm_V), mm_Rf N → mm_rg M N → (∀ a, a ≠ 183 → N a = M a) → (∀ b, ¬ (4 ≤ b ∧ b ≤ 7) → N 183 b = M 183 b) → N 183 4 = (s : Int) → N 183 5 = (i : Int) → N 183 7 = kt_num (M 185) s (i - s) →
      mm_J X Y_X13_scan 243 243 243 160 [(2, 184), l1] [] N Φ := by
    intro hsn hl hdg
    refine mm_lp ?_
    intro i hi ih hsi hiq hr N l1 hRN hG hfa hfb e4 e5 e7
    have hTN : mm_RT N n := ⟨(hfb 3 (by omega)).trans hn, hn8, by rw [hfa 185 (by decide)]; exact hb⟩
    have cb := c_X13_byteAt (X := X) (p := i) hRN hTN hi
    rw [hfa 185 (by decide)] at cb
    have hnb : 0 ≤ kt_num (M 185) s (i - s) ∧ kt_num (M 185) s (i - s) ≤ 99999 := kt_numb (fun j hj => hall _ (by omega) (by omega))
    have fin : kt_d (M 185) n s = i → mm_J X Y_X13_scan 243 243 243 223 [(2, 184), l1] [] N Φ := by
      intro eq
      rw [hΦ]
      refine mm_aload_n dX13_scan_223 rfl rfl ?_
      refine mm_aload_n dX13_scan_224 rfl rfl ?_
      refine mm_get (kd := 0) dX13_scan_225 rfl fl_X13_30 (c := 183) rfl (by decide) rfl rfl ?_
      obtain ⟨v225, hv225⟩ : ∃ v, v = N 183 5 := ⟨_, rfl⟩
      rw [← hv225]
      rw [e5] at hv225
      subst hv225
      refine mm_aload_n dX13_scan_228 rfl rfl ?_
      refine mm_get (kd := 0) dX13_scan_229 rfl fl_X13_13 (c := 183) rfl (by decide) rfl rfl ?_
      obtain ⟨v229, hv229⟩ : ∃ v, v = N 183 4 := ⟨_, rfl⟩
      rw [← hv229]
      rw [e4] at hv229
      subst hv229
      refine mm_isub dX13_scan_232 rfl ?_
      refine mm_iconst dX13_scan_233 rfl ?_
      refine mm_icle_d (q2 := 242) dX13_scan_234 (by omega) (by omega) (fun k => mm_iconst dX13_scan_241 rfl k) (fun k => mm_iconst dX13_scan_237 rfl (mm_goto dX13_scan_238 k)) ?_
      refine mm_puti dX13_scan_242 rfl fl_X13_37 (c := 183) rfl (by decide) rfl rfl (fun M242 hM242 => ?_)
      have hR242 : mm_Rf M242 := by rw [hM242]; exact hRN.up rfl
      have hG242 : mm_rg M M242 := by rw [hM242]; exact hG.up (by decide)
      refine mm_goto dX13_scan_245 ?_
      refine mm_vret dX13_scan_273 rfl rfl ?_
      refine ⟨rfl, hR242, hG242, ?_, ?_, ?_, ?_, ?_, ?_⟩
      · intro a ha; rw [hM242, mm_up_row ha]; exact hfa a ha
      · intro b hb9; rw [hM242, mm_up_i (by omega)]; exact hfb b hb9
      · unfold kt_k; rw [← hs, if_neg hsn, if_neg hl, if_pos hdg, eq, hM242, mm_up_s]; split <;> split <;> first | rfl | (exfalso; omega)
      · rw [hM242, mm_up_i (by decide), e4, hs]
      · unfold kt_e; rw [← hs, if_neg hsn, if_neg hl, if_pos hdg, eq, hM242, mm_up_i (by decide), e5]
      · intro _; unfold kt_v; rw [← hs, eq, hM242, mm_up_i (by decide), e7]
    by_cases hlt : i < n
    · have hbi := hb i (by omega)
      rw [if_pos hlt] at cb
      rw [show n - i = (n - (i + 1)) + 1 by omega, kt_run] at hr
      have hks : kt_num (M 185) s (i + 1 - s) = if i - s < 5 then 10 * kt_num (M 185) s (i - s) + M 185 i - 48 else kt_num (M 185) s (i - s) := by
        rw [show i + 1 - s = (i - s) + 1 by omega, kt_num, show s + (i - s) = i by omega]
      refine mm_aload_n dX13_scan_160 rfl rfl ?_
      refine mm_aload_n dX13_scan_161 rfl rfl ?_
      refine mm_get (kd := 0) dX13_scan_162 rfl fl_X13_30 (c := 183) rfl (by decide) rfl rfl ?_
      obtain ⟨v162, hv162⟩ : ∃ v, v = N 183 5 := ⟨_, rfl⟩
      rw [← hv162]
      rw [e5] at hv162
      subst hv162
      refine mm_V1i dX13_scan_165 rfl lk_X13_33 (c := 183) rfl (by decide) rfl (by simp) rfl rfl rfl (cb) ?_
      refine mm_S1i dX13_scan_168 rfl lk_X13_44 (by simp) rfl rfl rfl (c_X13_isDigit (by omega)) ?_
      refine mm_ifeqb dX13_scan_171 (fun h171 => ?_) (fun h171 => ?_)
      · rw [kt_di_m hbi] at h171
        rw [if_neg h171] at hr
        exact fin hr.symm
      · refine mm_aload_n dX13_scan_174 rfl rfl ?_
        refine mm_get (kd := 0) dX13_scan_175 rfl fl_X13_30 (c := 183) rfl (by decide) rfl rfl ?_
        obtain ⟨v175, hv175⟩ : ∃ v, v = N 183 5 := ⟨_, rfl⟩
        rw [← hv175]
        rw [e5] at hv175
        subst hv175
        refine mm_aload_n dX13_scan_178 rfl rfl ?_
        refine mm_get (kd := 0) dX13_scan_179 rfl fl_X13_13 (c := 183) rfl (by decide) rfl rfl ?_
        obtain ⟨v179, hv179⟩ : ∃ v, v = N 183 4 := ⟨_, rfl⟩
        rw [← hv179]
        rw [e4] at hv179
        subst hv179
        refine mm_isub dX13_scan_182 rfl ?_
        refine mm_iconst dX13_scan_183 rfl ?_
        refine mm_icge dX13_scan_184 (by omega) (by omega) (fun h184 => ?_) (fun h184 => ?_)
        · refine mm_aload_n dX13_scan_210 rfl rfl ?_
          refine mm_dup dX13_scan_211 rfl (by simp) ?_
          refine mm_get (kd := 0) dX13_scan_212 rfl fl_X13_30 (c := 183) rfl (by decide) rfl rfl ?_
          obtain ⟨v212, hv212⟩ : ∃ v, v = N 183 5 := ⟨_, rfl⟩
          rw [← hv212]
          rw [e5] at hv212
          subst hv212
          refine mm_iconst dX13_scan_215 rfl ?_
          refine mm_iadd dX13_scan_216 rfl ?_
          refine mm_puti dX13_scan_217 rfl fl_X13_30 (c := 183) rfl (by decide) rfl rfl (fun M217 hM217 => ?_)
          have hR217 : mm_Rf M217 := by rw [hM217]; exact hRN.up rfl
          have hG217 : mm_rg M M217 := by rw [hM217]; exact hG.up (by decide)
          refine mm_goto dX13_scan_220 ?_
          rw [kt_di_m hbi] at h171
          rw [if_pos h171] at hr
          have hdi := of_decide_eq_true h171
          have hq1 : i + 1 ≤ kt_d (M 185) n s := by
            have := kt_runb (P := kt_di) (B := M 185) (k := n - (i + 1)) (p := i + 1)
            omega
          refine ih hlt (by omega) hq1 hr _ _ hR217 hG217 ?_ ?_ ?_ ?_ ?_
          · intro a ha; funext b; simp [hM217, mm_up, ha]; rw [hfa a ha]
          · intro b hb9
            have n1 : b ≠ 5 := by omega
            have n2 : b ≠ 7 := by omega
            simp [hM217, mm_up, n1, n2]; exact hfb b hb9
          · simp [hM217, mm_up, e4]
          · simp [hM217, mm_up]
          · rw [hks]
            first
            | (rw [if_neg (by omega)]; simp [hM217, mm_up]; exact e7)
            | (rw [if_pos (by omega)]; simp [hM217, mm_up]; omega)
        · refine mm_aload_n dX13_scan_187 rfl rfl ?_
          refine mm_bipush dX13_scan_188 rfl (by decide) ?_
          refine mm_aload_n dX13_scan_190 rfl rfl ?_
          refine mm_get (kd := 0) dX13_scan_191 rfl fl_X13_47 (c := 183) rfl (by decide) rfl rfl ?_
          obtain ⟨v191, hv191⟩ : ∃ v, v = N 183 7 := ⟨_, rfl⟩
          rw [← hv191]
          rw [e7] at hv191
          subst hv191
          refine mm_imul dX13_scan_194 rfl ?_
          refine mm_aload_n dX13_scan_195 rfl rfl ?_
          refine mm_aload_n dX13_scan_196 rfl rfl ?_
          refine mm_get (kd := 0) dX13_scan_197 rfl fl_X13_30 (c := 183) rfl (by decide) rfl rfl ?_
          obtain ⟨v197, hv197⟩ : ∃ v, v = N 183 5 := ⟨_, rfl⟩
          rw [← hv197]
          rw [e5] at hv197
          subst hv197
          refine mm_V1i dX13_scan_200 rfl lk_X13_33 (c := 183) rfl (by decide) rfl (by simp) rfl rfl rfl (cb) ?_
          refine mm_iadd dX13_scan_203 rfl ?_
          refine mm_bipush dX13_scan_204 rfl (by decide) ?_
          refine mm_isub dX13_scan_206 rfl ?_
          refine mm_puti dX13_scan_207 rfl fl_X13_47 (c := 183) rfl (by decide) rfl rfl (fun M207 hM207 => ?_)
          have hR207 : mm_Rf M207 := by rw [hM207]; exact hRN.up rfl
          have hG207 : mm_rg M M207 := by rw [hM207]; exact hG.up (by decide)
          refine mm_aload_n dX13_scan_210 rfl rfl ?_
          refine mm_dup dX13_scan_211 rfl (by simp) ?_
          refine mm_get (kd := 0) dX13_scan_212 rfl fl_X13_30 (c := 183) rfl (by decide) rfl rfl ?_
          obtain ⟨v212, hv212⟩ : ∃ v, v = M207 183 5 := ⟨_, rfl⟩
          rw [← hv212]
          rw [hM207, mm_up_i (by decide), e5] at hv212
          subst hv212
          refine mm_iconst dX13_scan_215 rfl ?_
          refine mm_iadd dX13_scan_216 rfl ?_
          refine mm_puti dX13_scan_217 rfl fl_X13_30 (c := 183) rfl (by decide) rfl rfl (fun M217 hM217 => ?_)
          have hR217 : mm_Rf M217 := by rw [hM217]; exact hR207.up rfl
          have hG217 : mm_rg M M217 := by rw [hM217]; exact hG207.up (by decide)
          refine mm_goto dX13_scan_220 ?_
          rw [kt_di_m hbi] at h171
          rw [if_pos h171] at hr
          have hdi := of_decide_eq_true h171
          have hq1 : i + 1 ≤ kt_d (M 185) n s := by
            have := kt_runb (P := kt_di) (B := M 185) (k := n - (i + 1)) (p := i + 1)
            omega
          refine ih hlt (by omega) hq1 hr _ _ hR217 hG217 ?_ ?_ ?_ ?_ ?_
          · intro a ha; funext b; simp [hM217, hM207, mm_up, ha]; rw [hfa a ha]
          · intro b hb9
            have n1 : b ≠ 5 := by omega
            have n2 : b ≠ 7 := by omega
            simp [hM217, hM207, mm_up, n1, n2]; exact hfb b hb9
          · simp [hM217, hM207, mm_up, e4]
          · simp [hM217, hM207, mm_up]
          · rw [hks]
            first
            | (rw [if_neg (by omega)]; simp [hM217, hM207, mm_up]; exact e7)
            | (rw [if_pos (by omega)]; simp [hM217, hM207, mm_up]; omega)
    · rw [if_neg hlt] at cb
      rw [show n - i = 0 by omega, kt_run] at hr
      refine mm_aload_n dX13_scan_160 rfl rfl ?_
      refine mm_aload_n dX13_scan_161 rfl rfl ?_
      refine mm_get (kd := 0) dX13_scan_162 rfl fl_X13_30 (c := 183) rfl (by decide) rfl rfl ?_
      obtain ⟨v162, hv162⟩ : ∃ v, v = N 183 5 := ⟨_, rfl⟩
      rw [← hv162]
      rw [e5] at hv162
      subst hv162
      refine mm_V1i dX13_scan_165 rfl lk_X13_33 (c := 183) rfl (by decide) rfl (by simp) rfl rfl rfl (cb) ?_
      refine mm_S1i dX13_scan_168 rfl lk_X13_44 (by simp) rfl rfl rfl (c_X13_isDigit (by omega)) ?_
      refine mm_ifeqb dX13_scan_171 (fun h171 => ?_) (fun h171 => ?_)
      · exact fin hr.symm
      · exact absurd h171 (by decide)
  -- behind the blanks
  have tok : ∀ (N : mm_M), mm_Rf N → mm_rg M N → (∀ a, a ≠ 183 → N a = M a) → (∀ b, ¬ (4 ≤ b ∧ b ≤ 7) → N 183 b = M 183 b) → N 183 5 = (s : Int) → mm_J X Y_X13_scan 243 243 243 52 [(2, 184), (9, 0)] [] N Φ := by
    intro N hRN hG hfa hfb e5
    have hTN : mm_RT N n := ⟨(hfb 3 (by omega)).trans hn, hn8, by rw [hfa 185 (by decide)]; exact hb⟩
    have e3 : N 183 3 = (n : Int) := hTN.1
    by_cases hsn : s = n
    · rw [hΦ]
      refine mm_aload_n dX13_scan_52 rfl rfl ?_
      refine mm_aload_n dX13_scan_53 rfl rfl ?_
      refine mm_get (kd := 0) dX13_scan_54 rfl fl_X13_30 (c := 183) rfl (by decide) rfl rfl ?_
      obtain ⟨v54, hv54⟩ : ∃ v, v = N 183 5 := ⟨_, rfl⟩
      rw [← hv54]
      rw [e5] at hv54
      subst hv54
      refine mm_puti dX13_scan_57 rfl fl_X13_13 (c := 183) rfl (by decide) rfl rfl (fun M57 hM57 => ?_)
      have hR57 : mm_Rf M57 := by rw [hM57]; exact hRN.up rfl
      have hG57 : mm_rg M M57 := by rw [hM57]; exact hG.up (by decide)
      refine mm_aload_n dX13_scan_60 rfl rfl ?_
      refine mm_aload_n dX13_scan_61 rfl rfl ?_
      refine mm_get (kd := 0) dX13_scan_62 rfl fl_X13_13 (c := 183) rfl (by decide) rfl rfl ?_
      obtain ⟨v62, hv62⟩ : ∃ v, v = M57 183 4 := ⟨_, rfl⟩
      rw [← hv62]
      rw [hM57, mm_up_s] at hv62
      subst hv62
      refine mm_V1i dX13_scan_65 rfl lk_X13_33 (c := 183) rfl (by decide) rfl (by simp) rfl rfl rfl ((by have := c_X13_byteAt (X := X) (M := M57) (p := s) hR57 ⟨by rw [hM57, mm_up_i (by decide)]; exact e3, hn8, by rw [hM57, mm_up_row (by decide)]; exact hTN.2.2⟩ (by omega); exact this)) ?_
      refine mm_istore_n dX13_scan_68 rfl (Nat.le_of_ble_eq_true rfl) rfl ?_
      refine mm_aload_n dX13_scan_69 rfl rfl ?_
      refine mm_get (kd := 0) dX13_scan_70 rfl fl_X13_13 (c := 183) rfl (by decide) rfl rfl ?_
      obtain ⟨v70, hv70⟩ : ∃ v, v = M57 183 4 := ⟨_, rfl⟩
      rw [← hv70]
      rw [hM57, mm_up_s] at hv70
      subst hv70
      refine mm_aload_n dX13_scan_73 rfl rfl ?_
      refine mm_get (kd := 0) dX13_scan_74 rfl fl_X13_23 (c := 183) rfl (by decide) rfl rfl ?_
      obtain ⟨v74, hv74⟩ : ∃ v, v = M57 183 3 := ⟨_, rfl⟩
      rw [← hv74]
      rw [hM57, mm_up_i (by decide), e3] at hv74
      subst hv74
      refine mm_icne dX13_scan_77 (by omega) (by omega) (fun h77 => ?_) (fun h77 => ?_)
      · exfalso; omega
      · refine mm_aload_n dX13_scan_80 rfl rfl ?_
        refine mm_iconst dX13_scan_81 rfl ?_
        refine mm_puti dX13_scan_82 rfl fl_X13_37 (c := 183) rfl (by decide) rfl rfl (fun M82 hM82 => ?_)
        have hR82 : mm_Rf M82 := by rw [hM82]; exact hR57.up rfl
        have hG82 : mm_rg M M82 := by rw [hM82]; exact hG57.up (by decide)
        refine mm_goto dX13_scan_85 ?_
        refine mm_vret dX13_scan_273 rfl rfl ?_
        refine ⟨rfl, hR82, hG82, ?_, ?_, ?_, ?_, ?_, ?_⟩
        · intro a ha; funext b; simp [hM82, hM57, mm_up, ha]; rw [hfa a ha]
        · intro b hb9
          have n1 : b ≠ 4 := by omega
          have n2 : b ≠ 6 := by omega
          simp [hM82, hM57, mm_up, n1, n2]; exact hfb b hb9
        · unfold kt_k; rw [← hs, if_pos hsn]; simp [hM82, hM57, mm_up]
        · simp [hM82, hM57, mm_up, ← hs]
        · unfold kt_e; rw [← hs, if_pos hsn]; simp [hM82, hM57, mm_up, e5]; omega
        · unfold kt_k; rw [← hs, if_pos hsn]; intro z; exact absurd z (by decide)
    · have hbs := hb s (by omega)
      have u185 : N 185 = M 185 := hfa 185 (by decide)
      refine mm_aload_n dX13_scan_52 rfl rfl ?_
      refine mm_aload_n dX13_scan_53 rfl rfl ?_
      refine mm_get (kd := 0) dX13_scan_54 rfl fl_X13_30 (c := 183) rfl (by decide) rfl rfl ?_
      obtain ⟨v54, hv54⟩ : ∃ v, v = N 183 5 := ⟨_, rfl⟩
      rw [← hv54]
      rw [e5] at hv54
      subst hv54
      refine mm_puti dX13_scan_57 rfl fl_X13_13 (c := 183) rfl (by decide) rfl rfl (fun M57 hM57 => ?_)
      have hR57 : mm_Rf M57 := by rw [hM57]; exact hRN.up rfl
      have hG57 : mm_rg M M57 := by rw [hM57]; exact hG.up (by decide)
      refine mm_aload_n dX13_scan_60 rfl rfl ?_
      refine mm_aload_n dX13_scan_61 rfl rfl ?_
      refine mm_get (kd := 0) dX13_scan_62 rfl fl_X13_13 (c := 183) rfl (by decide) rfl rfl ?_
      obtain ⟨v62, hv62⟩ : ∃ v, v = M57 183 4 := ⟨_, rfl⟩
      rw [← hv62]
      rw [hM57, mm_up_s] at hv62
      subst hv62
      refine mm_V1i dX13_scan_65 rfl lk_X13_33 (c := 183) rfl (by decide) rfl (by simp) rfl rfl rfl ((by have := c_X13_byteAt (X := X) (M := M57) (p := s) hR57 ⟨by rw [hM57, mm_up_i (by decide)]; exact e3, hn8, by rw [hM57, mm_up_row (by decide)]; exact hTN.2.2⟩ (by omega); rw [if_pos (show s < n by omega), hM57, mm_up_row (by decide), u185, ← hM57] at this; exact this)) ?_
      refine mm_istore_n dX13_scan_68 rfl (Nat.le_of_ble_eq_true rfl) rfl ?_
      refine mm_aload_n dX13_scan_69 rfl rfl ?_
      refine mm_get (kd := 0) dX13_scan_70 rfl fl_X13_13 (c := 183) rfl (by decide) rfl rfl ?_
      obtain ⟨v70, hv70⟩ : ∃ v, v = M57 183 4 := ⟨_, rfl⟩
      rw [← hv70]
      rw [hM57, mm_up_s] at hv70
      subst hv70
      refine mm_aload_n dX13_scan_73 rfl rfl ?_
      refine mm_get (kd := 0) dX13_scan_74 rfl fl_X13_23 (c := 183) rfl (by decide) rfl rfl ?_
      obtain ⟨v74, hv74⟩ : ∃ v, v = M57 183 3 := ⟨_, rfl⟩
      rw [← hv74]
      rw [hM57, mm_up_i (by decide), e3] at hv74
      subst hv74
      refine mm_icne dX13_scan_77 (by omega) (by omega) (fun h77 => ?_) (fun h77 => ?_)
      · refine mm_iload_n dX13_scan_88 rfl rfl ?_
        refine mm_S1i dX13_scan_89 rfl lk_X13_40 (by simp) rfl rfl rfl (c_X13_isSmall (by omega)) ?_
        refine mm_ifeqb dX13_scan_92 (fun h92 => ?_) (fun h92 => ?_)
        · refine mm_iload_n dX13_scan_148 rfl rfl ?_
          refine mm_S1i dX13_scan_149 rfl lk_X13_44 (by simp) rfl rfl rfl (c_X13_isDigit (by omega)) ?_
          refine mm_ifeqb dX13_scan_152 (fun h152 => ?_) (fun h152 => ?_)
          · refine mm_aload_n dX13_scan_248 rfl rfl ?_
            refine mm_iload_n dX13_scan_249 rfl rfl ?_
            refine mm_bipush dX13_scan_250 rfl (by decide) ?_
            refine mm_icne_d (q2 := 260) dX13_scan_252 (by omega) (by omega) (fun k => mm_iconst dX13_scan_259 rfl k) (fun k => mm_iconst dX13_scan_255 rfl (mm_goto dX13_scan_256 k)) ?_
            refine mm_puti dX13_scan_260 rfl fl_X13_37 (c := 183) rfl (by decide) rfl rfl (fun M260 hM260 => ?_)
            have hR260 : mm_Rf M260 := by rw [hM260]; exact hR57.up rfl
            have hG260 : mm_rg M M260 := by rw [hM260]; exact hG57.up (by decide)
            refine mm_aload_n dX13_scan_263 rfl rfl ?_
            refine mm_dup dX13_scan_264 rfl (by simp) ?_
            refine mm_get (kd := 0) dX13_scan_265 rfl fl_X13_30 (c := 183) rfl (by decide) rfl rfl ?_
            obtain ⟨v265, hv265⟩ : ∃ v, v = M260 183 5 := ⟨_, rfl⟩
            rw [← hv265]
            rw [hM260, mm_up_i (by decide), hM57, mm_up_i (by decide), e5] at hv265
            subst hv265
            refine mm_iconst dX13_scan_268 rfl ?_
            refine mm_iadd dX13_scan_269 rfl ?_
            refine mm_puti dX13_scan_270 rfl fl_X13_30 (c := 183) rfl (by decide) rfl rfl (fun M270 hM270 => ?_)
            have hR270 : mm_Rf M270 := by rw [hM270]; exact hR260.up rfl
            have hG270 : mm_rg M M270 := by rw [hM270]; exact hG260.up (by decide)
            refine mm_vret dX13_scan_273 rfl rfl ?_
            rw [kt_le_m hbs] at h92
            rw [kt_di_m hbs] at h152
            rw [hΦ]
            refine ⟨rfl, hR270, hG270, ?_, ?_, ?_, ?_, ?_, ?_⟩
            · intro a ha; funext b; simp [hM270, hM260, hM57, mm_up, ha]; rw [hfa a ha]
            · intro b hb9
              have n1 : b ≠ 4 := by omega
              have n2 : b ≠ 5 := by omega
              have n3 : b ≠ 6 := by omega
              simp [hM270, hM260, hM57, mm_up, n1, n2, n3]; exact hfb b hb9
            · unfold kt_k; rw [← hs, if_neg hsn, if_neg h92, if_neg h152]; simp [hM270, hM260, hM57, mm_up]; split <;> split <;> first | rfl | (exfalso; omega)
            · simp [hM270, hM260, hM57, mm_up, ← hs]
            · unfold kt_e; rw [← hs, if_neg hsn, if_neg h92, if_neg h152]; simp [hM270, hM260, hM57, mm_up]
            · unfold kt_k; rw [← hs, if_neg hsn, if_neg h92, if_neg h152]; intro z; split at z <;> exact absurd z (by decide)
          · refine mm_aload_n dX13_scan_155 rfl rfl ?_
            refine mm_iconst dX13_scan_156 rfl ?_
            refine mm_puti dX13_scan_157 rfl fl_X13_47 (c := 183) rfl (by decide) rfl rfl (fun M157 hM157 => ?_)
            have hR157 : mm_Rf M157 := by rw [hM157]; exact hR57.up rfl
            have hG157 : mm_rg M M157 := by rw [hM157]; exact hG57.up (by decide)
            rw [kt_le_m hbs] at h92
            rw [kt_di_m hbs] at h152
            refine numb hsn h92 h152 s (by omega) (Nat.le_refl _) (kt_db (by omega)).1 rfl _ _ hR157 hG157 ?_ ?_ ?_ ?_ ?_
            · intro a ha; funext b; simp [hM157, hM57, mm_up, ha]; rw [hfa a ha]
            · intro b hb9
              have n1 : b ≠ 4 := by omega
              have n2 : b ≠ 7 := by omega
              simp [hM157, hM57, mm_up, n1, n2]; exact hfb b hb9
            · simp [hM157, hM57, mm_up]
            · simp [hM157, hM57, mm_up]; exact e5
            · simp [hM157, hM57, mm_up]; rfl
        · rw [kt_le_m hbs] at h92
          refine word hsn h92 s (by omega) (Nat.le_refl _) rfl _ _ hR57 hG57 ?_ ?_ ?_ ?_
          · intro a ha; rw [hM57, mm_up_row ha]; exact hfa a ha
          · intro b hb9; rw [hM57, mm_up_i (by omega)]; exact hfb b hb9
          · rw [hM57, mm_up_s]
          · rw [hM57, mm_up_i (by decide)]; exact e5
      · exfalso; omega
  have blanks : ∀ i : Nat, i ≤ n → kt_run kt_bl (M 185) (n - i) i = s → ∀ N : mm_M, mm_Rf N → mm_rg M N → (∀ a, a ≠ 183 → N a = M a) → (∀ b, ¬ (4 ≤ b ∧ b ≤ 7) → N 183 b = M 183 b) → N 183 5 = (i : Int) →
      mm_J X Y_X13_scan 243 243 243 0 [(2, 184), (9, 0)] [] N Φ := by
    refine mm_lp ?_
    intro i hi ih hr N hRN hG hfa hfb e5
    have e3 : N 183 3 = (n : Int) := (hfb 3 (by omega)).trans hn
    have f185 : N 185 = M 185 := hfa 185 (by decide)
    by_cases hlt : i < n
    · have hbi := hb i (by omega)
      rw [show n - i = (n - (i + 1)) + 1 by omega, kt_run] at hr
      refine mm_aload_n dX13_scan_0 rfl rfl ?_
      refine mm_get (kd := 0) dX13_scan_1 rfl fl_X13_30 (c := 183) rfl (by decide) rfl rfl ?_
      obtain ⟨v1, hv1⟩ : ∃ v, v = N 183 5 := ⟨_, rfl⟩
      rw [← hv1]
      rw [e5] at hv1
      subst hv1
      refine mm_aload_n dX13_scan_4 rfl rfl ?_
      refine mm_get (kd := 0) dX13_scan_5 rfl fl_X13_23 (c := 183) rfl (by decide) rfl rfl ?_
      obtain ⟨v5, hv5⟩ : ∃ v, v = N 183 3 := ⟨_, rfl⟩
      rw [← hv5]
      rw [e3] at hv5
      subst hv5
      refine mm_icge dX13_scan_8 (by omega) (by omega) (fun h8 => ?_) (fun h8 => ?_)
      · exfalso; omega
      · refine mm_aload_n dX13_scan_11 rfl rfl ?_
        refine mm_getr dX13_scan_12 rfl fl_X13_26 (c := 183) rfl (by decide) rfl rfl (hRN.at (c := 183) (i := 1) (v := 186) rfl (by decide)) ?_
        refine mm_aload_n dX13_scan_15 rfl rfl ?_
        refine mm_get (kd := 0) dX13_scan_16 rfl fl_X13_30 (c := 183) rfl (by decide) rfl rfl ?_
        obtain ⟨v16, hv16⟩ : ∃ v, v = N 183 5 := ⟨_, rfl⟩
        rw [← hv16]
        rw [e5] at hv16
        subst hv16
        refine mm_balk (k0 := i) dX13_scan_19 rfl (c := 185) rfl (by decide) rfl (by omega) (by omega) ?_
        rw [f185]
        refine mm_bipush dX13_scan_20 rfl (by decide) ?_
        refine mm_iceq dX13_scan_22 (by omega) (by omega) (fun h22 => ?_) (fun h22 => ?_)
        · refine mm_aload_n dX13_scan_39 rfl rfl ?_
          refine mm_dup dX13_scan_40 rfl (by simp) ?_
          refine mm_get (kd := 0) dX13_scan_41 rfl fl_X13_30 (c := 183) rfl (by decide) rfl rfl ?_
          obtain ⟨v41, hv41⟩ : ∃ v, v = N 183 5 := ⟨_, rfl⟩
          rw [← hv41]
          rw [e5] at hv41
          subst hv41
          refine mm_iconst dX13_scan_44 rfl ?_
          refine mm_iadd dX13_scan_45 rfl ?_
          refine mm_puti dX13_scan_46 rfl fl_X13_30 (c := 183) rfl (by decide) rfl rfl (fun M46 hM46 => ?_)
          have hR46 : mm_Rf M46 := by rw [hM46]; exact hRN.up rfl
          have hG46 : mm_rg M M46 := by rw [hM46]; exact hG.up (by decide)
          refine mm_goto dX13_scan_49 ?_
          rw [if_pos (by unfold kt_bl; exact decide_eq_true (by omega))] at hr
          refine ih hlt hr _ hR46 hG46 ?_ ?_ ?_
          · intro a ha; rw [hM46, mm_up_row ha]; exact hfa a ha
          · intro b hb9; rw [hM46, mm_up_i (by omega)]; exact hfb b hb9
          · rw [hM46, mm_up_s]; omega
        · refine mm_aload_n dX13_scan_25 rfl rfl ?_
          refine mm_getr dX13_scan_26 rfl fl_X13_26 (c := 183) rfl (by decide) rfl rfl (hRN.at (c := 183) (i := 1) (v := 186) rfl (by decide)) ?_
          refine mm_aload_n dX13_scan_29 rfl rfl ?_
          refine mm_get (kd := 0) dX13_scan_30 rfl fl_X13_30 (c := 183) rfl (by decide) rfl rfl ?_
          obtain ⟨v30, hv30⟩ : ∃ v, v = N 183 5 := ⟨_, rfl⟩
          rw [← hv30]
          rw [e5] at hv30
          subst hv30
          refine mm_balk (k0 := i) dX13_scan_33 rfl (c := 185) rfl (by decide) rfl (by omega) (by omega) ?_
          rw [f185]
          refine mm_bipush dX13_scan_34 rfl (by decide) ?_
          refine mm_icne dX13_scan_36 (by omega) (by omega) (fun h36 => ?_) (fun h36 => ?_)
          · rw [if_neg (by unfold kt_bl; intro z; have := of_decide_eq_true z; omega)] at hr
            exact tok N hRN hG hfa hfb (by rw [e5, hr])
          · refine mm_aload_n dX13_scan_39 rfl rfl ?_
            refine mm_dup dX13_scan_40 rfl (by simp) ?_
            refine mm_get (kd := 0) dX13_scan_41 rfl fl_X13_30 (c := 183) rfl (by decide) rfl rfl ?_
            obtain ⟨v41, hv41⟩ : ∃ v, v = N 183 5 := ⟨_, rfl⟩
            rw [← hv41]
            rw [e5] at hv41
            subst hv41
            refine mm_iconst dX13_scan_44 rfl ?_
            refine mm_iadd dX13_scan_45 rfl ?_
            refine mm_puti dX13_scan_46 rfl fl_X13_30 (c := 183) rfl (by decide) rfl rfl (fun M46 hM46 => ?_)
            have hR46 : mm_Rf M46 := by rw [hM46]; exact hRN.up rfl
            have hG46 : mm_rg M M46 := by rw [hM46]; exact hG.up (by decide)
            refine mm_goto dX13_scan_49 ?_
            rw [if_pos (by unfold kt_bl; exact decide_eq_true (by omega))] at hr
            refine ih hlt hr _ hR46 hG46 ?_ ?_ ?_
            · intro a ha; rw [hM46, mm_up_row ha]; exact hfa a ha
            · intro b hb9; rw [hM46, mm_up_i (by omega)]; exact hfb b hb9
            · rw [hM46, mm_up_s]; omega
    · rw [show n - i = 0 by omega, kt_run] at hr
      refine mm_aload_n dX13_scan_0 rfl rfl ?_
      refine mm_get (kd := 0) dX13_scan_1 rfl fl_X13_30 (c := 183) rfl (by decide) rfl rfl ?_
      obtain ⟨v1, hv1⟩ : ∃ v, v = N 183 5 := ⟨_, rfl⟩
      rw [← hv1]
      rw [e5] at hv1
      subst hv1
      refine mm_aload_n dX13_scan_4 rfl rfl ?_
      refine mm_get (kd := 0) dX13_scan_5 rfl fl_X13_23 (c := 183) rfl (by decide) rfl rfl ?_
      obtain ⟨v5, hv5⟩ : ∃ v, v = N 183 3 := ⟨_, rfl⟩
      rw [← hv5]
      rw [e3] at hv5
      subst hv5
      refine mm_icge dX13_scan_8 (by omega) (by omega) (fun h8 => ?_) (fun h8 => ?_)
      · exact tok N hRN hG hfa hfb (by rw [e5, hr])
      · exfalso; omega
  exact blanks p hp (by rw [hs]; rfl) M hR hG0 (fun _ _ => rfl) (fun _ _ => rfl) h5
end
end
