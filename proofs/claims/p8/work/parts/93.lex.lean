/-! ===== tokens ===== -/
def kt_bl (x : Int) : Bool := decide (x = 32 ∨ x = 10)
def kt_le (x : Int) : Bool := decide (97 ≤ x ∧ x ≤ 122)
def kt_di (x : Int) : Bool := decide (48 ≤ x ∧ x ≤ 57)
/-- how far a run goes from p on, with so much left -/
def kt_run (P : Int → Bool) (B : Nat → Int) : Nat → Nat → Nat
  | 0, p => p
  | k + 1, p => if P (B p) = true then kt_run P B k (p + 1) else p
theorem kt_runb {P : Int → Bool} {B : Nat → Int} : ∀ {k p : Nat}, p ≤ kt_run P B k p ∧ kt_run P B k p ≤ p + k
  | 0, p => ⟨Nat.le_refl _, Nat.le_refl _⟩
  | k + 1, p => by
    unfold kt_run
    split
    · have := kt_runb (P := P) (B := B) (k := k) (p := p + 1)
      omega
    · omega
theorem kt_run_all {P : Int → Bool} {B : Nat → Int} : ∀ {k p j : Nat}, p ≤ j → j < kt_run P B k p → P (B j) = true
  | 0, p, j, h1, h2 => by unfold kt_run at h2; omega
  | k + 1, p, j, h1, h2 => by
    unfold kt_run at h2
    split at h2
    · next hp =>
      by_cases e : j = p
      · rw [e]; exact hp
      · exact kt_run_all (k := k) (p := p + 1) (by omega) h2
    · omega
theorem kt_run_end {P : Int → Bool} {B : Nat → Int} : ∀ {k p : Nat}, kt_run P B k p < p + k → ¬ P (B (kt_run P B k p)) = true
  | 0, p, h => by unfold kt_run at h; omega
  | k + 1, p, h => by
    unfold kt_run at h ⊢
    split at h
    · next hp => rw [if_pos hp]; exact kt_run_end (k := k) (p := p + 1) (by omega)
    · next hp => rw [if_neg hp]; exact hp
theorem kt_run_congr {P : Int → Bool} {B C : Nat → Int} : ∀ {k p : Nat}, (∀ j, p ≤ j → j < p + k → P (B j) = P (C j)) → kt_run P B k p = kt_run P C k p
  | 0, p, _ => rfl
  | k + 1, p, h => by
    unfold kt_run
    rw [h p (Nat.le_refl _) (by omega), kt_run_congr (k := k) (p := p + 1) (fun j h1 h2 => h j (by omega) (by omega))]
/-- the start of the token behind p, the ends of a word and a number there -/
def kt_s (B : Nat → Int) (n p : Nat) : Nat := kt_run kt_bl B (n - p) p
def kt_w (B : Nat → Int) (n s : Nat) : Nat := kt_run kt_le B (n - s) s
def kt_d (B : Nat → Int) (n s : Nat) : Nat := kt_run kt_di B (n - s) s
/-- the value of the first k digits, five at most -/
def kt_num (B : Nat → Int) (s : Nat) : Nat → Int
  | 0 => 0
  | k + 1 => if k < 5 then 10 * kt_num B s k + B (s + k) - 48 else kt_num B s k
/-- the token behind p: its kind (0 end, 1 word, 2 number, 3 semicolon, 4 none), where it ends, its value -/
def kt_k (B : Nat → Int) (n p : Nat) : Int := if kt_s B n p = n then 0 else if kt_le (B (kt_s B n p)) = true then (if kt_w B n (kt_s B n p) - kt_s B n p ≤ 8 then 1 else 4) else if kt_di (B (kt_s B n p)) = true then (if kt_d B n (kt_s B n p) - kt_s B n p ≤ 5 then 2 else 4) else if B (kt_s B n p) = 59 then 3 else 4
def kt_e (B : Nat → Int) (n p : Nat) : Nat := if kt_s B n p = n then n else if kt_le (B (kt_s B n p)) = true then kt_w B n (kt_s B n p) else if kt_di (B (kt_s B n p)) = true then kt_d B n (kt_s B n p) else kt_s B n p + 1
def kt_v (B : Nat → Int) (n p : Nat) : Int := kt_num B (kt_s B n p) (kt_d B n (kt_s B n p) - kt_s B n p)
theorem kt_sb {B : Nat → Int} {n p : Nat} (h : p ≤ n) : p ≤ kt_s B n p ∧ kt_s B n p ≤ n := by
  have := kt_runb (P := kt_bl) (B := B) (k := n - p) (p := p)
  unfold kt_s
  omega
theorem kt_wb {B : Nat → Int} {n s : Nat} (h : s ≤ n) : s ≤ kt_w B n s ∧ kt_w B n s ≤ n := by
  have := kt_runb (P := kt_le) (B := B) (k := n - s) (p := s)
  unfold kt_w
  omega
theorem kt_db {B : Nat → Int} {n s : Nat} (h : s ≤ n) : s ≤ kt_d B n s ∧ kt_d B n s ≤ n := by
  have := kt_runb (P := kt_di) (B := B) (k := n - s) (p := s)
  unfold kt_d
  omega
theorem kt_eb {B : Nat → Int} {n p : Nat} (h : p ≤ n) : kt_s B n p ≤ kt_e B n p ∧ kt_e B n p ≤ n := by
  have hs := kt_sb (B := B) h
  have hw := kt_wb (B := B) hs.2
  have hd := kt_db (B := B) hs.2
  unfold kt_e
  split
  · omega
  · split
    · omega
    · split <;> omega
theorem kt_kb {B : Nat → Int} {n p : Nat} : 0 ≤ kt_k B n p ∧ kt_k B n p ≤ 4 := by
  unfold kt_k
  split
  · omega
  · split
    · split <;> omega
    · split
      · split <;> omega
      · split <;> omega
theorem kt_numb {B : Nat → Int} {s : Nat} : ∀ {k : Nat}, (∀ j, j < k → 48 ≤ B (s + j) ∧ B (s + j) ≤ 57) → 0 ≤ kt_num B s k ∧ kt_num B s k ≤ 99999
  | 0, _ => by simp [kt_num]
  | k + 1, h => by
    have key : ∀ i, i ≤ k + 1 → 0 ≤ kt_num B s i ∧ kt_num B s i < 10 ^ (min i 5) := by
      intro i
      induction i with
      | zero => intro _; simp [kt_num]
      | succ i ih =>
        intro hi
        have a := ih (by omega)
        have b := h i (by omega)
        unfold kt_num
        split
        · next h5 =>
          rw [show min i 5 = i by omega] at a
          rw [show min (i + 1) 5 = i + 1 by omega, Int.pow_succ]
          omega
        · next h5 =>
          rw [show min i 5 = 5 by omega] at a
          rw [show min (i + 1) 5 = 5 by omega]
          exact a
    have a := key (k + 1) (Nat.le_refl _)
    have : (10 : Int) ^ (min (k + 1) 5) ≤ 10 ^ 5 := by
      have : (10 : Nat) ^ (min (k + 1) 5) ≤ 10 ^ 5 := Nat.pow_le_pow_right (by decide) (by omega)
      exact_mod_cast this
    have : (10 : Int) ^ 5 = 100000 := by decide
    omega
theorem kt_vb {B : Nat → Int} {n p : Nat} : 0 ≤ kt_v B n p ∧ kt_v B n p ≤ 99999 := by
  unfold kt_v
  refine kt_numb (fun j hj => ?_)
  have := kt_run_all (P := kt_di) (B := B) (k := n - kt_s B n p) (p := kt_s B n p) (j := kt_s B n p + j) (by omega) (by unfold kt_d at hj; omega)
  exact of_decide_eq_true this
/-- the class's tape: its bytes, its length -/
def mm_CT (M : mm_M) (n : Nat) : Prop := M 1 1 = (n : Int) ∧ n ≤ 800 ∧ ∀ k : Nat, k < 800 → -128 ≤ M 2 k ∧ M 2 k ≤ 127
section
variable {X : mm_X} {M : mm_M} {n p s : Nat} {x : Int}
theorem c_X10_isBlank (hx : mm_R x) : mm_Fn X Y_X10_isBlank 243 [(0, x)] M (0, mm_b (kt_bl x = true)) M := by
  refine mm_startF (ls := [(0, x)]) rfl ?_
  refine mm_iload_n dX10_isBlank_0 rfl rfl ?_
  refine mm_bipush dX10_isBlank_1 rfl (by decide) ?_
  refine mm_iceq dX10_isBlank_3 (by omega) (by omega) (fun h3 => ?_) (fun h3 => ?_)
  · refine mm_iconst dX10_isBlank_12 rfl ?_
    refine mm_goto dX10_isBlank_13 ?_
    refine mm_zret dX10_isBlank_17 rfl rfl (Or.inr rfl) ?_
    refine mm_fin ?_ rfl
    unfold kt_bl
    first
    | exact mm_b1 (decide_eq_true (by omega))
    | exact mm_b0 (fun q => absurd (of_decide_eq_true q) (by omega))
  · refine mm_iload_n dX10_isBlank_6 rfl rfl ?_
    refine mm_bipush dX10_isBlank_7 rfl (by decide) ?_
    refine mm_icne dX10_isBlank_9 (by omega) (by omega) (fun h9 => ?_) (fun h9 => ?_)
    · refine mm_iconst dX10_isBlank_16 rfl ?_
      refine mm_zret dX10_isBlank_17 rfl rfl (Or.inl rfl) ?_
      refine mm_fin ?_ rfl
      unfold kt_bl
      first
      | exact mm_b1 (decide_eq_true (by omega))
      | exact mm_b0 (fun q => absurd (of_decide_eq_true q) (by omega))
    · refine mm_iconst dX10_isBlank_12 rfl ?_
      refine mm_goto dX10_isBlank_13 ?_
      refine mm_zret dX10_isBlank_17 rfl rfl (Or.inr rfl) ?_
      refine mm_fin ?_ rfl
      unfold kt_bl
      first
      | exact mm_b1 (decide_eq_true (by omega))
      | exact mm_b0 (fun q => absurd (of_decide_eq_true q) (by omega))
theorem c_X10_isLetter (hx : mm_R x) : mm_Fn X Y_X10_isLetter 243 [(0, x)] M (0, mm_b (kt_le x = true)) M := by
  refine mm_startF (ls := [(0, x)]) rfl ?_
  refine mm_iload_n dX10_isLetter_0 rfl rfl ?_
  refine mm_bipush dX10_isLetter_1 rfl (by decide) ?_
  refine mm_iclt dX10_isLetter_3 (by omega) (by omega) (fun h3 => ?_) (fun h3 => ?_)
  · refine mm_iconst dX10_isLetter_16 rfl ?_
    refine mm_zret dX10_isLetter_17 rfl rfl (Or.inl rfl) ?_
    refine mm_fin ?_ rfl
    unfold kt_le
    first
    | exact mm_b1 (decide_eq_true (by omega))
    | exact mm_b0 (fun q => absurd (of_decide_eq_true q) (by omega))
  · refine mm_iload_n dX10_isLetter_6 rfl rfl ?_
    refine mm_bipush dX10_isLetter_7 rfl (by decide) ?_
    refine mm_icgt dX10_isLetter_9 (by omega) (by omega) (fun h9 => ?_) (fun h9 => ?_)
    · refine mm_iconst dX10_isLetter_16 rfl ?_
      refine mm_zret dX10_isLetter_17 rfl rfl (Or.inl rfl) ?_
      refine mm_fin ?_ rfl
      unfold kt_le
      first
      | exact mm_b1 (decide_eq_true (by omega))
      | exact mm_b0 (fun q => absurd (of_decide_eq_true q) (by omega))
    · refine mm_iconst dX10_isLetter_12 rfl ?_
      refine mm_goto dX10_isLetter_13 ?_
      refine mm_zret dX10_isLetter_17 rfl rfl (Or.inr rfl) ?_
      refine mm_fin ?_ rfl
      unfold kt_le
      first
      | exact mm_b1 (decide_eq_true (by omega))
      | exact mm_b0 (fun q => absurd (of_decide_eq_true q) (by omega))
theorem c_X10_isDigit (hx : mm_R x) : mm_Fn X Y_X10_isDigit 243 [(0, x)] M (0, mm_b (kt_di x = true)) M := by
  refine mm_startF (ls := [(0, x)]) rfl ?_
  refine mm_iload_n dX10_isDigit_0 rfl rfl ?_
  refine mm_bipush dX10_isDigit_1 rfl (by decide) ?_
  refine mm_iclt dX10_isDigit_3 (by omega) (by omega) (fun h3 => ?_) (fun h3 => ?_)
  · refine mm_iconst dX10_isDigit_16 rfl ?_
    refine mm_zret dX10_isDigit_17 rfl rfl (Or.inl rfl) ?_
    refine mm_fin ?_ rfl
    unfold kt_di
    first
    | exact mm_b1 (decide_eq_true (by omega))
    | exact mm_b0 (fun q => absurd (of_decide_eq_true q) (by omega))
  · refine mm_iload_n dX10_isDigit_6 rfl rfl ?_
    refine mm_bipush dX10_isDigit_7 rfl (by decide) ?_
    refine mm_icgt dX10_isDigit_9 (by omega) (by omega) (fun h9 => ?_) (fun h9 => ?_)
    · refine mm_iconst dX10_isDigit_16 rfl ?_
      refine mm_zret dX10_isDigit_17 rfl rfl (Or.inl rfl) ?_
      refine mm_fin ?_ rfl
      unfold kt_di
      first
      | exact mm_b1 (decide_eq_true (by omega))
      | exact mm_b0 (fun q => absurd (of_decide_eq_true q) (by omega))
    · refine mm_iconst dX10_isDigit_12 rfl ?_
      refine mm_goto dX10_isDigit_13 ?_
      refine mm_zret dX10_isDigit_17 rfl rfl (Or.inr rfl) ?_
      refine mm_fin ?_ rfl
      unfold kt_di
      first
      | exact mm_b1 (decide_eq_true (by omega))
      | exact mm_b0 (fun q => absurd (of_decide_eq_true q) (by omega))
theorem c_X10_takeWord (hR : mm_Rf M) (hT : mm_CT M n) (hs : s ≤ n) (h6 : M 1 6 = (s : Int)) (h7 : M 1 7 = (s : Int)) :
    mm_C X Y_X10_takeWord 243 243 [(2, 2)] M (fun r M' => r = (3, 0) ∧ mm_Rf M' ∧ (∀ a, a ≠ 1 → M' a = M a) ∧ (∀ b, b ≠ 5 → b ≠ 7 → M' 1 b = M 1 b) ∧ M' 1 5 = (if kt_w (M 2) n s - s ≤ 8 then 1 else 4) ∧ M' 1 7 = (kt_w (M 2) n s : Int)) := by
  obtain ⟨hn, hn8, hb⟩ := hT
  obtain ⟨q, hq⟩ : ∃ q, q = kt_w (M 2) n s := ⟨_, rfl⟩
  have hqb := kt_wb (B := M 2) hs
  rw [← hq] at hqb ⊢
  refine mm_start (ls := [(2, 2)]) rfl ?_
  have loop : ∀ i : Nat, i ≤ n → s ≤ i → kt_run kt_le (M 2) (n - i) i = q → ∀ N : mm_M, mm_Rf N → (∀ a, a ≠ 1 → N a = M a) → (∀ b, b ≠ 7 → N 1 b = M 1 b) → N 1 7 = (i : Int) →
      mm_J X Y_X10_takeWord 243 243 243 0 [(2, 2)] [] N (fun r M' => r = (3, 0) ∧ mm_Rf M' ∧ (∀ a, a ≠ 1 → M' a = M a) ∧ (∀ b, b ≠ 5 → b ≠ 7 → M' 1 b = M 1 b) ∧ M' 1 5 = (if q - s ≤ 8 then 1 else 4) ∧ M' 1 7 = (q : Int)) := by
    refine mm_lp ?_
    intro i hi ih hsi hr N hRN hfa hfb e7
    have e1 : N 1 1 = (n : Int) := (hfb 1 (by decide)).trans hn
    have e6 : N 1 6 = (s : Int) := (hfb 6 (by decide)).trans h6
    have f2 : N 2 = M 2 := hfa 2 (by decide)
    have fin : i = q → mm_J X Y_X10_takeWord 243 243 243 39 [(2, 2)] [] N (fun r M' => r = (3, 0) ∧ mm_Rf M' ∧ (∀ a, a ≠ 1 → M' a = M a) ∧ (∀ b, b ≠ 5 → b ≠ 7 → M' 1 b = M 1 b) ∧ M' 1 5 = (if q - s ≤ 8 then 1 else 4) ∧ M' 1 7 = (q : Int)) := by
      intro eq
      refine mm_aload_n dX10_takeWord_39 rfl rfl ?_
      refine mm_aload_n dX10_takeWord_40 rfl rfl ?_
      refine mm_get (kd := 0) dX10_takeWord_41 rfl fl_X10_22 (c := 1) rfl (by decide) rfl rfl ?_
      obtain ⟨v41, hv41⟩ : ∃ v, v = N 1 7 := ⟨_, rfl⟩
      rw [← hv41]
      rw [e7] at hv41
      subst hv41
      refine mm_aload_n dX10_takeWord_44 rfl rfl ?_
      refine mm_get (kd := 0) dX10_takeWord_45 rfl fl_X10_32 (c := 1) rfl (by decide) rfl rfl ?_
      obtain ⟨v45, hv45⟩ : ∃ v, v = N 1 6 := ⟨_, rfl⟩
      rw [← hv45]
      rw [e6] at hv45
      subst hv45
      refine mm_isub dX10_takeWord_48 rfl ?_
      refine mm_bipush dX10_takeWord_49 rfl (by decide) ?_
      refine mm_icgt_d (q2 := 59) dX10_takeWord_51 (by omega) (by omega) (fun k => mm_iconst dX10_takeWord_58 rfl k) (fun k => mm_iconst dX10_takeWord_54 rfl (mm_goto dX10_takeWord_55 k)) ?_
      refine mm_puti dX10_takeWord_59 rfl fl_X10_35 (c := 1) rfl (by decide) rfl rfl (fun M59 hM59 => ?_)
      have hR59 : mm_Rf M59 := by rw [hM59]; exact hRN.up rfl
      refine mm_vret dX10_takeWord_62 rfl rfl ?_
      refine ⟨rfl, hR59, ?_, ?_, ?_, ?_⟩
      · intro a ha; rw [hM59, mm_up_row ha]; exact hfa a ha
      · intro b h1 h2; rw [hM59, mm_up_i h1]; exact hfb b h2
      · rw [hM59, mm_up_s]; split <;> split <;> first | rfl | (exfalso; omega)
      · rw [hM59, mm_up_i (by decide), e7, eq]
    by_cases hlt : i < n
    · have hbi := hb i (by omega)
      rw [show n - i = (n - (i + 1)) + 1 by omega, kt_run] at hr
      refine mm_aload_n dX10_takeWord_0 rfl rfl ?_
      refine mm_get (kd := 0) dX10_takeWord_1 rfl fl_X10_22 (c := 1) rfl (by decide) rfl rfl ?_
      obtain ⟨v1, hv1⟩ : ∃ v, v = N 1 7 := ⟨_, rfl⟩
      rw [← hv1]
      rw [e7] at hv1
      subst hv1
      refine mm_aload_n dX10_takeWord_4 rfl rfl ?_
      refine mm_get (kd := 0) dX10_takeWord_5 rfl fl_X10_19 (c := 1) rfl (by decide) rfl rfl ?_
      obtain ⟨v5, hv5⟩ : ∃ v, v = N 1 1 := ⟨_, rfl⟩
      rw [← hv5]
      rw [e1] at hv5
      subst hv5
      refine mm_icge dX10_takeWord_8 (by omega) (by omega) (fun h8 => ?_) (fun h8 => ?_)
      · exfalso; omega
      · refine mm_aload_n dX10_takeWord_11 rfl rfl ?_
        refine mm_getr dX10_takeWord_12 rfl fl_X10_11 (c := 1) rfl (by decide) rfl rfl (hRN.at (c := 1) (i := 0) (v := 3) rfl (by decide)) ?_
        refine mm_aload_n dX10_takeWord_15 rfl rfl ?_
        refine mm_get (kd := 0) dX10_takeWord_16 rfl fl_X10_22 (c := 1) rfl (by decide) rfl rfl ?_
        obtain ⟨v16, hv16⟩ : ∃ v, v = N 1 7 := ⟨_, rfl⟩
        rw [← hv16]
        rw [e7] at hv16
        subst hv16
        refine mm_balk (k0 := i) dX10_takeWord_19 rfl (c := 2) rfl (by decide) rfl (by omega) (by omega) ?_
        rw [f2]
        refine mm_S1i dX10_takeWord_20 rfl lk_X10_38 (by simp) rfl rfl rfl (c_X10_isLetter (by omega)) ?_
        refine mm_ifeqb dX10_takeWord_23 (fun h23 => ?_) (fun h23 => ?_)
        · rw [if_neg h23] at hr
          exact fin hr
        · refine mm_aload_n dX10_takeWord_26 rfl rfl ?_
          refine mm_dup dX10_takeWord_27 rfl (by simp) ?_
          refine mm_get (kd := 0) dX10_takeWord_28 rfl fl_X10_22 (c := 1) rfl (by decide) rfl rfl ?_
          obtain ⟨v28, hv28⟩ : ∃ v, v = N 1 7 := ⟨_, rfl⟩
          rw [← hv28]
          rw [e7] at hv28
          subst hv28
          refine mm_iconst dX10_takeWord_31 rfl ?_
          refine mm_iadd dX10_takeWord_32 rfl ?_
          refine mm_puti dX10_takeWord_33 rfl fl_X10_22 (c := 1) rfl (by decide) rfl rfl (fun M33 hM33 => ?_)
          have hR33 : mm_Rf M33 := by rw [hM33]; exact hRN.up rfl
          refine mm_goto dX10_takeWord_36 ?_
          rw [if_pos h23] at hr
          refine ih hlt (by omega) hr _ hR33 ?_ ?_ ?_
          · intro a ha; rw [hM33, mm_up_row ha]; exact hfa a ha
          · intro b h2; rw [hM33, mm_up_i h2]; exact hfb b h2
          · rw [hM33, mm_up_s]; omega
    · rw [show n - i = 0 by omega, kt_run] at hr
      refine mm_aload_n dX10_takeWord_0 rfl rfl ?_
      refine mm_get (kd := 0) dX10_takeWord_1 rfl fl_X10_22 (c := 1) rfl (by decide) rfl rfl ?_
      obtain ⟨v1, hv1⟩ : ∃ v, v = N 1 7 := ⟨_, rfl⟩
      rw [← hv1]
      rw [e7] at hv1
      subst hv1
      refine mm_aload_n dX10_takeWord_4 rfl rfl ?_
      refine mm_get (kd := 0) dX10_takeWord_5 rfl fl_X10_19 (c := 1) rfl (by decide) rfl rfl ?_
      obtain ⟨v5, hv5⟩ : ∃ v, v = N 1 1 := ⟨_, rfl⟩
      rw [← hv5]
      rw [e1] at hv5
      subst hv5
      refine mm_icge dX10_takeWord_8 (by omega) (by omega) (fun h8 => ?_) (fun h8 => ?_)
      · exact fin hr
      · exfalso; omega
  exact loop s hs (Nat.le_refl _) hq.symm M hR (fun _ _ => rfl) (fun _ _ => rfl) h7
theorem c_X10_takeNumber (hR : mm_Rf M) (hT : mm_CT M n) (hs : s ≤ n) (h6 : M 1 6 = (s : Int)) (h7 : M 1 7 = (s : Int)) :
    mm_C X Y_X10_takeNumber 243 243 [(2, 2)] M (fun r M' => r = (3, 0) ∧ mm_Rf M' ∧ (∀ a, a ≠ 1 → M' a = M a) ∧ (∀ b, b ≠ 4 → b ≠ 5 → b ≠ 7 → M' 1 b = M 1 b) ∧ M' 1 5 = (if kt_d (M 2) n s - s ≤ 5 then 2 else 4) ∧ M' 1 7 = (kt_d (M 2) n s : Int) ∧ M' 1 4 = kt_num (M 2) s (kt_d (M 2) n s - s)) := by
  obtain ⟨hn, hn8, hb⟩ := hT
  obtain ⟨q, hq⟩ : ∃ q, q = kt_d (M 2) n s := ⟨_, rfl⟩
  have hqb := kt_db (B := M 2) hs
  have hall : ∀ j, s ≤ j → j < q → 48 ≤ M 2 j ∧ M 2 j ≤ 57 := by
    intro j h1 h2
    rw [hq] at h2
    exact of_decide_eq_true (kt_run_all (P := kt_di) h1 h2)
  rw [← hq] at hqb ⊢
  refine mm_start (ls := [(2, 2)]) rfl ?_
  have loop : ∀ i : Nat, i ≤ n → s ≤ i → i ≤ q → kt_run kt_di (M 2) (n - i) i = q → ∀ N : mm_M, mm_Rf N → (∀ a, a ≠ 1 → N a = M a) → (∀ b, b ≠ 4 → b ≠ 7 → N 1 b = M 1 b) → N 1 7 = (i : Int) → N 1 4 = kt_num (M 2) s (i - s) →
      mm_J X Y_X10_takeNumber 243 243 243 5 [(2, 2)] [] N (fun r M' => r = (3, 0) ∧ mm_Rf M' ∧ (∀ a, a ≠ 1 → M' a = M a) ∧ (∀ b, b ≠ 4 → b ≠ 5 → b ≠ 7 → M' 1 b = M 1 b) ∧ M' 1 5 = (if q - s ≤ 5 then 2 else 4) ∧ M' 1 7 = (q : Int) ∧ M' 1 4 = kt_num (M 2) s (q - s)) := by
    refine mm_lp ?_
    intro i hi ih hsi hiq hr N hRN hfa hfb e7 e4
    have e1 : N 1 1 = (n : Int) := (hfb 1 (by decide) (by decide)).trans hn
    have e6 : N 1 6 = (s : Int) := (hfb 6 (by decide) (by decide)).trans h6
    have f2 : N 2 = M 2 := hfa 2 (by decide)
    have hnb : 0 ≤ kt_num (M 2) s (i - s) ∧ kt_num (M 2) s (i - s) ≤ 99999 := kt_numb (fun j hj => hall _ (by omega) (by omega))
    have fin : i = q → mm_J X Y_X10_takeNumber 243 243 243 81 [(2, 2)] [] N (fun r M' => r = (3, 0) ∧ mm_Rf M' ∧ (∀ a, a ≠ 1 → M' a = M a) ∧ (∀ b, b ≠ 4 → b ≠ 5 → b ≠ 7 → M' 1 b = M 1 b) ∧ M' 1 5 = (if q - s ≤ 5 then 2 else 4) ∧ M' 1 7 = (q : Int) ∧ M' 1 4 = kt_num (M 2) s (q - s)) := by
      intro eq
      refine mm_aload_n dX10_takeNumber_81 rfl rfl ?_
      refine mm_aload_n dX10_takeNumber_82 rfl rfl ?_
      refine mm_get (kd := 0) dX10_takeNumber_83 rfl fl_X10_22 (c := 1) rfl (by decide) rfl rfl ?_
      obtain ⟨v83, hv83⟩ : ∃ v, v = N 1 7 := ⟨_, rfl⟩
      rw [← hv83]
      rw [e7] at hv83
      subst hv83
      refine mm_aload_n dX10_takeNumber_86 rfl rfl ?_
      refine mm_get (kd := 0) dX10_takeNumber_87 rfl fl_X10_32 (c := 1) rfl (by decide) rfl rfl ?_
      obtain ⟨v87, hv87⟩ : ∃ v, v = N 1 6 := ⟨_, rfl⟩
      rw [← hv87]
      rw [e6] at hv87
      subst hv87
      refine mm_isub dX10_takeNumber_90 rfl ?_
      refine mm_iconst dX10_takeNumber_91 rfl ?_
      refine mm_icgt_d (q2 := 100) dX10_takeNumber_92 (by omega) (by omega) (fun k => mm_iconst dX10_takeNumber_99 rfl k) (fun k => mm_iconst dX10_takeNumber_95 rfl (mm_goto dX10_takeNumber_96 k)) ?_
      refine mm_puti dX10_takeNumber_100 rfl fl_X10_35 (c := 1) rfl (by decide) rfl rfl (fun M100 hM100 => ?_)
      have hR100 : mm_Rf M100 := by rw [hM100]; exact hRN.up rfl
      refine mm_vret dX10_takeNumber_103 rfl rfl ?_
      refine ⟨rfl, hR100, ?_, ?_, ?_, ?_, ?_⟩
      · intro a ha; rw [hM100, mm_up_row ha]; exact hfa a ha
      · intro b h0 h1 h2; rw [hM100, mm_up_i h1]; exact hfb b h0 h2
      · rw [hM100, mm_up_s]; split <;> split <;> first | rfl | (exfalso; omega)
      · rw [hM100, mm_up_i (by decide), e7, eq]
      · rw [hM100, mm_up_i (by decide), e4, eq]
    by_cases hlt : i < n
    · have hbi := hb i (by omega)
      rw [show n - i = (n - (i + 1)) + 1 by omega, kt_run] at hr
      have hks : kt_num (M 2) s (i + 1 - s) = if i - s < 5 then 10 * kt_num (M 2) s (i - s) + M 2 i - 48 else kt_num (M 2) s (i - s) := by
        rw [show i + 1 - s = (i - s) + 1 by omega, kt_num, show s + (i - s) = i by omega]
      refine mm_aload_n dX10_takeNumber_5 rfl rfl ?_
      refine mm_get (kd := 0) dX10_takeNumber_6 rfl fl_X10_22 (c := 1) rfl (by decide) rfl rfl ?_
      obtain ⟨v6, hv6⟩ : ∃ v, v = N 1 7 := ⟨_, rfl⟩
      rw [← hv6]
      rw [e7] at hv6
      subst hv6
      refine mm_aload_n dX10_takeNumber_9 rfl rfl ?_
      refine mm_get (kd := 0) dX10_takeNumber_10 rfl fl_X10_19 (c := 1) rfl (by decide) rfl rfl ?_
      obtain ⟨v10, hv10⟩ : ∃ v, v = N 1 1 := ⟨_, rfl⟩
      rw [← hv10]
      rw [e1] at hv10
      subst hv10
      refine mm_icge dX10_takeNumber_13 (by omega) (by omega) (fun h13 => ?_) (fun h13 => ?_)
      · exfalso; omega
      · refine mm_aload_n dX10_takeNumber_16 rfl rfl ?_
        refine mm_getr dX10_takeNumber_17 rfl fl_X10_11 (c := 1) rfl (by decide) rfl rfl (hRN.at (c := 1) (i := 0) (v := 3) rfl (by decide)) ?_
        refine mm_aload_n dX10_takeNumber_20 rfl rfl ?_
        refine mm_get (kd := 0) dX10_takeNumber_21 rfl fl_X10_22 (c := 1) rfl (by decide) rfl rfl ?_
        obtain ⟨v21, hv21⟩ : ∃ v, v = N 1 7 := ⟨_, rfl⟩
        rw [← hv21]
        rw [e7] at hv21
        subst hv21
        refine mm_balk (k0 := i) dX10_takeNumber_24 rfl (c := 2) rfl (by decide) rfl (by omega) (by omega) ?_
        rw [f2]
        refine mm_S1i dX10_takeNumber_25 rfl lk_X10_44 (by simp) rfl rfl rfl (c_X10_isDigit (by omega)) ?_
        refine mm_ifeqb dX10_takeNumber_28 (fun h28 => ?_) (fun h28 => ?_)
        · rw [if_neg h28] at hr
          exact fin hr
        · refine mm_aload_n dX10_takeNumber_31 rfl rfl ?_
          refine mm_get (kd := 0) dX10_takeNumber_32 rfl fl_X10_22 (c := 1) rfl (by decide) rfl rfl ?_
          obtain ⟨v32, hv32⟩ : ∃ v, v = N 1 7 := ⟨_, rfl⟩
          rw [← hv32]
          rw [e7] at hv32
          subst hv32
          refine mm_aload_n dX10_takeNumber_35 rfl rfl ?_
          refine mm_get (kd := 0) dX10_takeNumber_36 rfl fl_X10_32 (c := 1) rfl (by decide) rfl rfl ?_
          obtain ⟨v36, hv36⟩ : ∃ v, v = N 1 6 := ⟨_, rfl⟩
          rw [← hv36]
          rw [e6] at hv36
          subst hv36
          refine mm_isub dX10_takeNumber_39 rfl ?_
          refine mm_iconst dX10_takeNumber_40 rfl ?_
          refine mm_icge dX10_takeNumber_41 (by omega) (by omega) (fun h41 => ?_) (fun h41 => ?_)
          · refine mm_aload_n dX10_takeNumber_68 rfl rfl ?_
            refine mm_dup dX10_takeNumber_69 rfl (by simp) ?_
            refine mm_get (kd := 0) dX10_takeNumber_70 rfl fl_X10_22 (c := 1) rfl (by decide) rfl rfl ?_
            obtain ⟨v70, hv70⟩ : ∃ v, v = N 1 7 := ⟨_, rfl⟩
            rw [← hv70]
            rw [e7] at hv70
            subst hv70
            refine mm_iconst dX10_takeNumber_73 rfl ?_
            refine mm_iadd dX10_takeNumber_74 rfl ?_
            refine mm_puti dX10_takeNumber_75 rfl fl_X10_22 (c := 1) rfl (by decide) rfl rfl (fun M75 hM75 => ?_)
            have hR75 : mm_Rf M75 := by rw [hM75]; exact hRN.up rfl
            refine mm_goto dX10_takeNumber_78 ?_
            rw [if_pos h28] at hr
            have hq1 : i + 1 ≤ q := by
              have := kt_runb (P := kt_di) (B := M 2) (k := n - (i + 1)) (p := i + 1)
              omega
            refine ih hlt (by omega) hq1 hr _ hR75 ?_ ?_ ?_ ?_
            · intro a ha; funext b; simp [hM75, mm_up, ha]; rw [hfa a ha]
            · intro b h1 h2; simp [hM75, mm_up, h1, h2]; exact hfb b h1 h2
            · simp [hM75, mm_up]
            · rw [hks]
              first
              | (rw [if_neg (by omega)]; simp [hM75, mm_up]; exact e4)
              | (rw [if_pos (by omega)]; simp [hM75, mm_up]; omega)
          · refine mm_aload_n dX10_takeNumber_44 rfl rfl ?_
            refine mm_aload_n dX10_takeNumber_45 rfl rfl ?_
            refine mm_get (kd := 0) dX10_takeNumber_46 rfl fl_X10_50 (c := 1) rfl (by decide) rfl rfl ?_
            obtain ⟨v46, hv46⟩ : ∃ v, v = N 1 4 := ⟨_, rfl⟩
            rw [← hv46]
            rw [e4] at hv46
            subst hv46
            refine mm_bipush dX10_takeNumber_49 rfl (by decide) ?_
            refine mm_imul dX10_takeNumber_51 rfl ?_
            refine mm_aload_n dX10_takeNumber_52 rfl rfl ?_
            refine mm_getr dX10_takeNumber_53 rfl fl_X10_11 (c := 1) rfl (by decide) rfl rfl (hRN.at (c := 1) (i := 0) (v := 3) rfl (by decide)) ?_
            refine mm_aload_n dX10_takeNumber_56 rfl rfl ?_
            refine mm_get (kd := 0) dX10_takeNumber_57 rfl fl_X10_22 (c := 1) rfl (by decide) rfl rfl ?_
            obtain ⟨v57, hv57⟩ : ∃ v, v = N 1 7 := ⟨_, rfl⟩
            rw [← hv57]
            rw [e7] at hv57
            subst hv57
            refine mm_balk (k0 := i) dX10_takeNumber_60 rfl (c := 2) rfl (by decide) rfl (by omega) (by omega) ?_
            rw [f2]
            refine mm_iadd dX10_takeNumber_61 rfl ?_
            refine mm_bipush dX10_takeNumber_62 rfl (by decide) ?_
            refine mm_isub dX10_takeNumber_64 rfl ?_
            refine mm_puti dX10_takeNumber_65 rfl fl_X10_50 (c := 1) rfl (by decide) rfl rfl (fun M65 hM65 => ?_)
            have hR65 : mm_Rf M65 := by rw [hM65]; exact hRN.up rfl
            refine mm_aload_n dX10_takeNumber_68 rfl rfl ?_
            refine mm_dup dX10_takeNumber_69 rfl (by simp) ?_
            refine mm_get (kd := 0) dX10_takeNumber_70 rfl fl_X10_22 (c := 1) rfl (by decide) rfl rfl ?_
            obtain ⟨v70, hv70⟩ : ∃ v, v = M65 1 7 := ⟨_, rfl⟩
            rw [← hv70]
            rw [hM65, mm_up_i (by decide), e7] at hv70
            subst hv70
            refine mm_iconst dX10_takeNumber_73 rfl ?_
            refine mm_iadd dX10_takeNumber_74 rfl ?_
            refine mm_puti dX10_takeNumber_75 rfl fl_X10_22 (c := 1) rfl (by decide) rfl rfl (fun M75 hM75 => ?_)
            have hR75 : mm_Rf M75 := by rw [hM75]; exact hR65.up rfl
            refine mm_goto dX10_takeNumber_78 ?_
            rw [if_pos h28] at hr
            have hq1 : i + 1 ≤ q := by
              have := kt_runb (P := kt_di) (B := M 2) (k := n - (i + 1)) (p := i + 1)
              omega
            refine ih hlt (by omega) hq1 hr _ hR75 ?_ ?_ ?_ ?_
            · intro a ha; funext b; simp [hM75, hM65, mm_up, ha]; rw [hfa a ha]
            · intro b h1 h2; simp [hM75, hM65, mm_up, h1, h2]; exact hfb b h1 h2
            · simp [hM75, hM65, mm_up]
            · rw [hks]
              first
              | (rw [if_neg (by omega)]; simp [hM75, hM65, mm_up]; exact e4)
              | (rw [if_pos (by omega)]; simp [hM75, hM65, mm_up]; omega)
    · rw [show n - i = 0 by omega, kt_run] at hr
      refine mm_aload_n dX10_takeNumber_5 rfl rfl ?_
      refine mm_get (kd := 0) dX10_takeNumber_6 rfl fl_X10_22 (c := 1) rfl (by decide) rfl rfl ?_
      obtain ⟨v6, hv6⟩ : ∃ v, v = N 1 7 := ⟨_, rfl⟩
      rw [← hv6]
      rw [e7] at hv6
      subst hv6
      refine mm_aload_n dX10_takeNumber_9 rfl rfl ?_
      refine mm_get (kd := 0) dX10_takeNumber_10 rfl fl_X10_19 (c := 1) rfl (by decide) rfl rfl ?_
      obtain ⟨v10, hv10⟩ : ∃ v, v = N 1 1 := ⟨_, rfl⟩
      rw [← hv10]
      rw [e1] at hv10
      subst hv10
      refine mm_icge dX10_takeNumber_13 (by omega) (by omega) (fun h13 => ?_) (fun h13 => ?_)
      · exact fin hr
      · exfalso; omega
  refine mm_aload_n dX10_takeNumber_0 rfl rfl ?_
  refine mm_iconst dX10_takeNumber_1 rfl ?_
  refine mm_puti dX10_takeNumber_2 rfl fl_X10_50 (c := 1) rfl (by decide) rfl rfl (fun M2 hM2 => ?_)
  have hR2 : mm_Rf M2 := by rw [hM2]; exact hR.up rfl
  refine loop s hs (Nat.le_refl _) (by omega) hq.symm _ hR2 ?_ ?_ ?_ ?_
  · intro a ha; rw [hM2, mm_up_row ha]
  · intro b h1 h2; rw [hM2, mm_up_i h1]
  · rw [hM2, mm_up_i (by decide)]; exact h7
  · rw [hM2, mm_up_s, Nat.sub_self]; rfl
end

