/-! 90.next -/
section
/-! ===== next ===== -/
/-- how many of the set's first n have the same value as q -/
def kg_C (F : Nat) (f : Nat → Int) (q : Nat) : Nat → Int := ka_sum (fun o => if F.testBit o = true ∧ f o = f q then 1 else 0)
/-- the greatest heap -/
def kg_heap (F : Nat) (f : Nat → Int) : Int := ka_max (fun q => if F.testBit q = true then kg_C F f q 21 else 0) 21
def kg_nx (c : Nat → Bool) (hp : Nat → Int) (l0 : Int) : Nat → Int × Int
  | 0 => (l0, -1)
  | n + 1 => if c n = true ∧ hp n < (kg_nx c hp l0 n).1 then (hp n, (n : Int)) else kg_nx c hp l0 n
theorem kg_nxb {c : Nat → Bool} {hp : Nat → Int} {l0 : Int} (h0 : 0 ≤ l0 ∧ l0 ≤ 100) : ∀ {n : Nat}, (∀ i, i < n → 0 ≤ hp i ∧ hp i ≤ 100) → (0 ≤ (kg_nx c hp l0 n).1 ∧ (kg_nx c hp l0 n).1 ≤ 100) ∧ -1 ≤ (kg_nx c hp l0 n).2 ∧ (kg_nx c hp l0 n).2 < n
  | 0, _ => by simp [kg_nx]; omega
  | n + 1, h => by
    have h1 := kg_nxb (c := c) (hp := hp) h0 (n := n) (fun i q => h i (by omega))
    have h2 := h n (by omega)
    unfold kg_nx
    split
    · simp only; omega
    · omega
theorem ka_max_ge {f : Nat → Int} : ∀ {n q : Nat}, q < n → f q ≤ ka_max f n
  | 0, q, h => absurd h (Nat.not_lt_zero q)
  | n + 1, q, h => by
    unfold ka_max
    by_cases z : q = n
    · rw [z]; omega
    · have := ka_max_ge (f := f) (show q < n by omega)
      omega
theorem ka_max_le {f : Nat → Int} {g : Int} (h0 : 0 ≤ g) : ∀ {n : Nat}, (∀ q, q < n → f q ≤ g) → ka_max f n ≤ g
  | 0, _ => h0
  | n + 1, h => by
    have := ka_max_le (f := f) h0 (n := n) (fun q hq => h q (by omega))
    have := h n (by omega)
    unfold ka_max
    omega
theorem ka_max_0 {f : Nat → Int} : ∀ {n : Nat}, 0 ≤ ka_max f n
  | 0 => Int.le_refl 0
  | n + 1 => by have := ka_max_0 (f := f) (n := n); unfold ka_max; omega
theorem ka_max_eq {f : Nat → Int} {g : Int} {n : Nat} (h0 : 0 ≤ g) (h1 : ∀ q, q < n → f q ≤ g) (h2 : g = 0 ∨ ∃ q, q < n ∧ g ≤ f q) : ka_max f n = g := by
  have a := ka_max_le h0 h1
  have b := ka_max_0 (f := f) (n := n)
  rcases h2 with z | ⟨q, hq, z⟩
  · omega
  · have := ka_max_ge (f := f) hq
    omega
theorem kg_Cb {F : Nat} {f : Nat → Int} {q n : Nat} : 0 ≤ kg_C F f q n ∧ kg_C F f q n ≤ n := by
  induction n with
  | zero => simp [kg_C, ka_sum]
  | succ n ih =>
    unfold kg_C at ih ⊢
    rw [ka_sum]
    split <;> omega
theorem kg_heapb {F : Nat} {f : Nat → Int} : 0 ≤ kg_heap F f ∧ kg_heap F f ≤ 21 := by
  unfold kg_heap
  refine ka_maxb (by decide) (fun i hi => ?_)
  have := kg_Cb (F := F) (f := f) (q := i) (n := 21)
  split <;> omega
/-- more wind never pulls less -/
theorem ks_p_mono {K : Nat → Int} (h : mm_KV K) {s a w w' : Int} (ha : ks_ac K a) (h0 : 0 ≤ w) (hw : w ≤ w') : ks_p K s a w ≤ ks_p K s a w' := by
  have hc := ks_colb h s
  have hsl := ks_slb h ha
  have h00 := h.1
  obtain ⟨-, -, -, -, -, -, -, -, h8, -, -, hl, hv⟩ := id h
  have la := (hl (a / 15).toNat (by omega)).1
  have lb := (hv (ks_col K s).toNat (by omega)).1
  unfold ks_p ks_pa
  generalize K (20 + (a / 15).toNat) = u at la ⊢
  generalize K (30 + (ks_col K s).toNat) = v at lb ⊢
  have m1 : u * w ≤ u * w' := Int.mul_le_mul_of_nonneg_left hw la
  have m1n : 0 ≤ u * w := Int.mul_nonneg la h0
  have m2 : u * w * w ≤ u * w' * w' := Int.mul_le_mul m1 hw h0 (Int.le_trans m1n m1)
  have m3 : u * w * w * v ≤ u * w' * w' * v := Int.mul_le_mul_of_nonneg_right m2 lb
  have m4 : u * w * w * v / 100 ≤ u * w' * w' * v / 100 := Int.ediv_le_ediv (by decide) m3
  have m5 : u * w * w * v / 100 * K 8 ≤ u * w' * w' * v / 100 * K 8 := Int.mul_le_mul_of_nonneg_right m4 (by omega)
  have m6 : u * w * w * v / 100 * K 8 / 100 ≤ u * w' * w' * v / 100 * K 8 / 100 := Int.ediv_le_ediv (by decide) m5
  split <;> assumption
/-- the pull of an act with share q -/
def kg_p (K L : Nat → Int) (s a h : Int) (q : Nat) : Int := ks_p K s a (ks_wi L K s h * (q : Int) / 10)
theorem kg_p_mono {K L : Nat → Int} (hK : mm_KV K) {s a h : Int} (ha : ks_ac K a) (hw : 0 ≤ ks_wi L K s h) {q r : Nat} (hq : q ≤ r) : kg_p K L s a h q ≤ kg_p K L s a h r := by
  unfold kg_p
  have m : ks_wi L K s h * (q : Int) ≤ ks_wi L K s h * (r : Int) := Int.mul_le_mul_of_nonneg_left (by omega) hw
  have n : 0 ≤ ks_wi L K s h * (q : Int) := Int.mul_nonneg hw (by omega)
  exact ks_p_mono hK ha (Int.ediv_nonneg n (by decide)) (Int.ediv_le_ediv (by decide) m)
theorem kg_C_s {F : Nat} {f : Nat → Int} {q n : Nat} : kg_C F f q (n + 1) = kg_C F f q n + (if F.testBit n = true ∧ f n = f q then 1 else 0) := rfl
theorem kg_C_mono {F : Nat} {f : Nat → Int} {q n : Nat} : kg_C F f q n ≤ kg_C F f q (n + 1) := by rw [kg_C_s]; split <;> omega
theorem kg_C_eq {F : Nat} {f : Nat → Int} {q r : Nat} (h : f q = f r) (n : Nat) : kg_C F f q n = kg_C F f r n := by unfold kg_C; rw [h]
theorem kg_C_0 {F : Nat} {f : Nat → Int} {q : Nat} : ∀ {n : Nat}, (∀ o, o < n → F.testBit o = true → f o ≠ f q) → kg_C F f q n = 0
  | 0, _ => rfl
  | n + 1, h => by rw [kg_C_s, kg_C_0 (fun o ho => h o (by omega)), if_neg (fun z => h n (by omega) z.1 z.2)]; rfl
section
variable {X : mm_X} {M : mm_M} {s a h t : Int} {F : Nat}
theorem c_X7_greatestHeap (hR : mm_Rf M) (hK : mm_CK M) (hA : mm_CA M) (hF : F < 2 ^ 21) (hs : ks_st (M 4) s) (ha : ks_ac (M 4) a) (hh : ks_hr h) :
    mm_Fn X Y_X7_greatestHeap 243 [(2, 175), (0, (F : Int)), (0, s), (0, a), (0, h)] M (0, kg_heap F (kg_p (M 4) (M 16) s a h)) M := by
  obtain ⟨f, hf⟩ : ∃ f, f = kg_p (M 4) (M 16) s a h := ⟨_, rfl⟩
  have hwb := hA.wi hK.1 hs hh
  have hmono : ∀ q r : Nat, q ≤ r → f q ≤ f r := by intro q r hq; rw [hf]; exact kg_p_mono hK.1 ha hwb.1.1 hq
  have hfb : ∀ q : Nat, q < 21 → 0 ≤ f q ∧ f q ≤ 5702400 := by intro q hq; rw [hf]; exact ks_pwb hK.1 ha hwb.1 (by omega)
  rw [← hf]
  refine mm_startF (ls := [(2, 175), (0, (F : Int)), (0, s), (0, a), (0, h), (9, 0), (9, 0), (9, 0), (9, 0), (9, 0)]) rfl ?_
  have loop : ∀ i : Nat, i ≤ 21 → ∀ (g hp be : Int) (l9 : mm_V), 0 ≤ g → g ≤ 21 → (∀ q, q < i → F.testBit q = true → kg_C F f q i ≤ g) → (g = 0 ∨ ∃ q, q < i ∧ F.testBit q = true ∧ g ≤ kg_C F f q i) →
      ((be = -1 ∧ hp = 0 ∧ ∀ q, q < i → ¬ F.testBit q = true) ∨ ∃ p, p < i ∧ F.testBit p = true ∧ be = f p ∧ hp = kg_C F f p i ∧ ∀ q, q < i → F.testBit q = true → f q ≤ f p) →
      mm_J X Y_X7_greatestHeap 243 243 243 12 [(2, 175), (0, (F : Int)), (0, s), (0, a), (0, h), (0, g), (0, hp), (0, be), (0, (i : Int)), l9] [] M (fun r' M'' => r' = (0, kg_heap F f) ∧ M'' = M) := by
    refine mm_lp ?_
    intro i hi ih g hp be l9 hg0 hg1 hU hAt hL
    by_cases hlt : i < 21
    · have eb := kx_bit (a := F) (k := i) (by omega) (by omega)
      have hfi := hfb i hlt
      have ef : ks_p (M 4) s a (ks_wi (M 16) (M 4) s h * (i : Int) / 10) = f i := by rw [hf]; rfl
      have hbb : -1 ≤ be ∧ be ≤ 5702400 ∧ 0 ≤ hp ∧ hp ≤ 21 := by
        rcases hL with ⟨z1, z2, -⟩ | ⟨p, z1, z2, z3, z4, -⟩
        · omega
        · have := hfb p (by omega)
          have := kg_Cb (F := F) (f := f) (q := p) (n := i)
          omega
      by_cases hbi : F.testBit i = true
      · rw [if_pos hbi] at eb
        -- the new heap
        have hnew : (if f i = be then hp + 1 else 1) = kg_C F f i (i + 1) := by
          rw [kg_C_s, if_pos (show F.testBit i = true ∧ f i = f i from ⟨hbi, rfl⟩)]
          rcases hL with ⟨z1, z2, z3⟩ | ⟨p, z1, z2, z3, z4, z5⟩
          · rw [if_neg (show ¬ f i = be by omega), kg_C_0 (fun o ho hb => absurd hb (z3 o ho))]; rfl
          · by_cases y : f i = be
            · rw [if_pos y, z4, kg_C_eq (show f p = f i by omega)]
            · rw [if_neg y, kg_C_0 ?_]; rfl
              intro o ho hb e
              have m1 := z5 o ho hb
              have m2 := hmono p i (by omega)
              omega
        have hCb := kg_Cb (F := F) (f := f) (q := i) (n := i + 1)
        refine mm_iload dX7_greatestHeap_12 rfl rfl ?_
        refine mm_bipush dX7_greatestHeap_14 rfl (by decide) ?_
        refine mm_icgt dX7_greatestHeap_16 (by omega) (by omega) (fun h16 => ?_) (fun h16 => ?_)
        · exfalso; omega
        · refine mm_iload_n dX7_greatestHeap_19 rfl rfl ?_
          refine mm_iload dX7_greatestHeap_20 rfl rfl ?_
          refine mm_ishr dX7_greatestHeap_22 rfl ?_
          refine mm_iconst dX7_greatestHeap_23 rfl ?_
          refine mm_iand dX7_greatestHeap_24 rfl ?_
          rw [eb]
          refine mm_ifeq dX7_greatestHeap_25 (by omega) (fun h25 => ?_) (fun h25 => ?_)
          · exfalso; omega
          · refine mm_aload_n dX7_greatestHeap_28 rfl rfl ?_
            refine mm_getr dX7_greatestHeap_29 rfl fl_X7_40 (c := 174) rfl (by decide) rfl rfl (hR.at (c := 174) (i := 1) (v := 12) rfl (by decide)) ?_
            refine mm_iload_n dX7_greatestHeap_32 rfl rfl ?_
            refine mm_iload_n dX7_greatestHeap_33 rfl rfl ?_
            refine mm_iload dX7_greatestHeap_34 rfl rfl ?_
            refine mm_iload dX7_greatestHeap_36 rfl rfl ?_
            refine mm_V4i dX7_greatestHeap_38 rfl lk_X7_62 (c := 11) rfl (by decide) rfl (by simp) (by simp) (by simp) (by simp) rfl rfl rfl ((ef ▸ c_X0_sharedPull hR hK hA hs ha hh (by omega))) ?_
            refine mm_istore dX7_greatestHeap_41 rfl (Nat.le_of_ble_eq_true rfl) rfl ?_
            refine mm_iload dX7_greatestHeap_43 rfl rfl ?_
            refine mm_iload dX7_greatestHeap_45 rfl rfl ?_
            refine mm_icne dX7_greatestHeap_47 (by omega) (by omega) (fun h47 => ?_) (fun h47 => ?_)
            · refine mm_iconst dX7_greatestHeap_57 rfl ?_
              first
              | rw [show hp + 1 = kg_C F f i (i + 1) by rw [← hnew, if_pos h47]]
              | rw [show (1 : Int) = kg_C F f i (i + 1) by rw [← hnew, if_neg h47]]
              refine mm_istore dX7_greatestHeap_58 rfl (Nat.le_of_ble_eq_true rfl) rfl ?_
              refine mm_iload dX7_greatestHeap_60 rfl rfl ?_
              refine mm_istore dX7_greatestHeap_62 rfl (Nat.le_of_ble_eq_true rfl) rfl ?_
              refine mm_iload dX7_greatestHeap_64 rfl rfl ?_
              refine mm_iload dX7_greatestHeap_66 rfl rfl ?_
              refine mm_max dX7_greatestHeap_68 rfl lm_X7_93 rfl rfl (by simp) (by omega) (by omega) ?_
              refine mm_istore dX7_greatestHeap_71 rfl (Nat.le_of_ble_eq_true rfl) rfl ?_
              refine mm_iinc dX7_greatestHeap_73 rfl rfl (Nat.le_of_ble_eq_true rfl) rfl ?_
              refine mm_goto dX7_greatestHeap_76 ?_
              refine ih hlt _ _ _ _ (by omega) (by omega) ?_ ?_ ?_
              · intro q hq hb
                by_cases y : f q = f i
                · rw [kg_C_eq y]; omega
                · rw [kg_C_s, if_neg (fun z => y z.2.symm), Int.add_zero]
                  have hqi : q ≠ i := fun z => y (by rw [z])
                  have := hU q (by omega) hb
                  omega
              · right
                by_cases y : g ≤ kg_C F f i (i + 1)
                · exact ⟨i, by omega, hbi, by omega⟩
                · rcases hAt with z | ⟨q, hq, hb, z⟩
                  · omega
                  · refine ⟨q, by omega, hb, ?_⟩
                    have := kg_C_mono (F := F) (f := f) (q := q) (n := i)
                    omega
              · exact Or.inr ⟨i, by omega, hbi, rfl, rfl, fun q hq hb => hmono q i (by omega)⟩
            · refine mm_iload dX7_greatestHeap_50 rfl rfl ?_
              refine mm_iconst dX7_greatestHeap_52 rfl ?_
              refine mm_iadd dX7_greatestHeap_53 rfl ?_
              refine mm_goto dX7_greatestHeap_54 ?_
              first
              | rw [show hp + 1 = kg_C F f i (i + 1) by rw [← hnew, if_pos h47]]
              | rw [show (1 : Int) = kg_C F f i (i + 1) by rw [← hnew, if_neg h47]]
              refine mm_istore dX7_greatestHeap_58 rfl (Nat.le_of_ble_eq_true rfl) rfl ?_
              refine mm_iload dX7_greatestHeap_60 rfl rfl ?_
              refine mm_istore dX7_greatestHeap_62 rfl (Nat.le_of_ble_eq_true rfl) rfl ?_
              refine mm_iload dX7_greatestHeap_64 rfl rfl ?_
              refine mm_iload dX7_greatestHeap_66 rfl rfl ?_
              refine mm_max dX7_greatestHeap_68 rfl lm_X7_93 rfl rfl (by simp) (by omega) (by omega) ?_
              refine mm_istore dX7_greatestHeap_71 rfl (Nat.le_of_ble_eq_true rfl) rfl ?_
              refine mm_iinc dX7_greatestHeap_73 rfl rfl (Nat.le_of_ble_eq_true rfl) rfl ?_
              refine mm_goto dX7_greatestHeap_76 ?_
              refine ih hlt _ _ _ _ (by omega) (by omega) ?_ ?_ ?_
              · intro q hq hb
                by_cases y : f q = f i
                · rw [kg_C_eq y]; omega
                · rw [kg_C_s, if_neg (fun z => y z.2.symm), Int.add_zero]
                  have hqi : q ≠ i := fun z => y (by rw [z])
                  have := hU q (by omega) hb
                  omega
              · right
                by_cases y : g ≤ kg_C F f i (i + 1)
                · exact ⟨i, by omega, hbi, by omega⟩
                · rcases hAt with z | ⟨q, hq, hb, z⟩
                  · omega
                  · refine ⟨q, by omega, hb, ?_⟩
                    have := kg_C_mono (F := F) (f := f) (q := q) (n := i)
                    omega
              · exact Or.inr ⟨i, by omega, hbi, rfl, rfl, fun q hq hb => hmono q i (by omega)⟩
      · rw [if_neg hbi] at eb
        refine mm_iload dX7_greatestHeap_12 rfl rfl ?_
        refine mm_bipush dX7_greatestHeap_14 rfl (by decide) ?_
        refine mm_icgt dX7_greatestHeap_16 (by omega) (by omega) (fun h16 => ?_) (fun h16 => ?_)
        · exfalso; omega
        · refine mm_iload_n dX7_greatestHeap_19 rfl rfl ?_
          refine mm_iload dX7_greatestHeap_20 rfl rfl ?_
          refine mm_ishr dX7_greatestHeap_22 rfl ?_
          refine mm_iconst dX7_greatestHeap_23 rfl ?_
          refine mm_iand dX7_greatestHeap_24 rfl ?_
          rw [eb]
          refine mm_ifeq dX7_greatestHeap_25 (by omega) (fun h25 => ?_) (fun h25 => ?_)
          · refine mm_iinc dX7_greatestHeap_73 rfl rfl (Nat.le_of_ble_eq_true rfl) rfl ?_
            refine mm_goto dX7_greatestHeap_76 ?_
            refine ih hlt g hp be _ hg0 hg1 ?_ ?_ ?_
            · intro q hq hb
              rw [kg_C_s, if_neg (fun z => hbi z.1), Int.add_zero]
              by_cases y : q = i
              · rw [y] at hb; exact absurd hb hbi
              · exact hU q (by omega) hb
            · rcases hAt with z | ⟨q, hq, hb, z⟩
              · exact Or.inl z
              · exact Or.inr ⟨q, by omega, hb, Int.le_trans z kg_C_mono⟩
            · rcases hL with ⟨z1, z2, z3⟩ | ⟨p, z1, z2, z3, z4, z5⟩
              · refine Or.inl ⟨z1, z2, fun q hq => ?_⟩
                by_cases y : q = i
                · rw [y]; exact hbi
                · exact z3 q (by omega)
              · refine Or.inr ⟨p, by omega, z2, z3, ?_, fun q hq hb => ?_⟩
                · rw [kg_C_s, if_neg (fun z => hbi z.1), Int.add_zero]; exact z4
                · by_cases y : q = i
                  · rw [y] at hb; exact absurd hb hbi
                  · exact z5 q (by omega) hb
          · exfalso; omega
    · have ei : i = 21 := by omega
      rw [ei] at hU hAt
      refine mm_iload dX7_greatestHeap_12 rfl rfl ?_
      refine mm_bipush dX7_greatestHeap_14 rfl (by decide) ?_
      refine mm_icgt dX7_greatestHeap_16 (by omega) (by omega) (fun h16 => ?_) (fun h16 => ?_)
      · refine mm_iload dX7_greatestHeap_79 rfl rfl ?_
        refine mm_iret dX7_greatestHeap_81 rfl rfl ?_
        refine mm_fin ?_ rfl
        unfold kg_heap
        refine (ka_max_eq hg0 (fun q hq => ?_) ?_).symm
        · split
          · exact hU q hq (by assumption)
          · exact hg0
        · rcases hAt with z | ⟨q, hq, hb, z⟩
          · exact Or.inl z
          · exact Or.inr ⟨q, hq, by rw [if_pos hb]; exact z⟩
      · exfalso; omega
  refine mm_iconst dX7_greatestHeap_0 rfl ?_
  refine mm_istore dX7_greatestHeap_1 rfl (Nat.le_of_ble_eq_true rfl) rfl ?_
  refine mm_iconst dX7_greatestHeap_3 rfl ?_
  refine mm_istore dX7_greatestHeap_4 rfl (Nat.le_of_ble_eq_true rfl) rfl ?_
  refine mm_iconst dX7_greatestHeap_6 rfl ?_
  refine mm_istore dX7_greatestHeap_7 rfl (Nat.le_of_ble_eq_true rfl) rfl ?_
  refine mm_iconst dX7_greatestHeap_9 rfl ?_
  refine mm_istore dX7_greatestHeap_10 rfl (Nat.le_of_ble_eq_true rfl) rfl ?_
  exact loop 0 (by decide) 0 0 (-1) _ (by decide) (by decide) (fun q hq => absurd hq (Nat.not_lt_zero q)) (Or.inl rfl) (Or.inl ⟨rfl, rfl, fun q hq => absurd hq (Nat.not_lt_zero q)⟩)
/-- the best next act -/
def kg_next (K L : Nat → Int) (F : Nat) (s h : Int) : Int := (kg_nx (fun a => decide (ks_can K s (a : Int))) (fun a => kg_heap F (kg_p K L s (a : Int) h)) (kx_n F) (15 * K 10).toNat).2
theorem kx_nb (F : Nat) : 0 ≤ kx_n F ∧ kx_n F ≤ 21 := by
  have : ∀ n : Nat, 0 ≤ ka_sum (fun q => if F.testBit q = true then (1 : Int) else 0) n ∧ ka_sum (fun q => if F.testBit q = true then (1 : Int) else 0) n ≤ n := by
    intro n
    induction n with
    | zero => simp [ka_sum]
    | succ n ih => rw [ka_sum]; split <;> omega
  exact this 21
theorem c_X7_bestNext (hR : mm_Rf M) (hK : mm_CK M) (hA : mm_CA M) (hG : mm_CG M) (hs : ks_st (M 4) s) (hh : ks_hr h) :
    mm_C X Y_X7_bestNext 243 243 [(2, 175), (0, s), (0, h)] M (fun r M' => ∃ F : Nat, r = (0, kg_next (M 4) (M 16) F s h) ∧ mm_Rf M' ∧ M' = M ∧ kg_set (kg_fC M 999) F) := by
  have h10 : 1 ≤ M 4 10 ∧ M 4 10 ≤ 3 := by obtain ⟨-, -, -, -, -, -, -, -, -, -, h10, -⟩ := hK.1; exact h10
  refine mm_start (ls := [(2, 175), (0, s), (0, h), (9, 0), (9, 0), (9, 0), (9, 0), (9, 0)]) rfl ?_
  have loop : ∀ F : Nat, kg_set (kg_fC M 999) F → ∀ i : Nat, i ≤ (15 * M 4 10).toNat → ∀ l7 : mm_V, mm_J X Y_X7_bestNext 243 243 243 20 [(2, 175), (0, s), (0, h), (0, (F : Int)), (0, (kg_nx (fun a => decide (ks_can (M 4) s (a : Int))) (fun a => kg_heap F (kg_p (M 4) (M 16) s (a : Int) h)) (kx_n F) i).1), (0, (kg_nx (fun a => decide (ks_can (M 4) s (a : Int))) (fun a => kg_heap F (kg_p (M 4) (M 16) s (a : Int) h)) (kx_n F) i).2), (0, (i : Int)), l7] [] M
      (fun r M' => ∃ F : Nat, r = (0, kg_next (M 4) (M 16) F s h) ∧ mm_Rf M' ∧ M' = M ∧ kg_set (kg_fC M 999) F) := by
    intro F hF
    refine mm_lp ?_
    intro i hi ih l7
    have hb := kg_nxb (c := fun a => decide (ks_can (M 4) s (a : Int))) (hp := fun a => kg_heap F (kg_p (M 4) (M 16) s (a : Int) h)) (l0 := kx_n F) (by have := kx_nb F; omega) (n := i) (fun j hj => by have := kg_heapb (F := F) (f := kg_p (M 4) (M 16) s (j : Int) h); omega)
    by_cases hlt : i < (15 * M 4 10).toNat
    · have hac : ks_ac (M 4) (i : Int) := ⟨by omega, by omega⟩
      have hhb := kg_heapb (F := F) (f := kg_p (M 4) (M 16) s (i : Int) h)
      have ih := ih hlt
      rw [kg_nx] at ih
      by_cases hcan : ks_can (M 4) s (i : Int)
      · have hto := ks_to_st hK.1 hs hcan
        have hto1 := hto.1
        have hto2 := hto.2
        have hnb := ks_nb hK.1
        have ed : decide (ks_can (M 4) s (i : Int)) = true := decide_eq_true hcan
        have cg := c_X4_goal (X := X) hR hK hs hac
        rw [if_pos hcan] at cg
        clear hcan
        refine mm_iload dX7_bestNext_20 rfl rfl ?_
        refine mm_aload_n dX7_bestNext_22 rfl rfl ?_
        refine mm_getr dX7_bestNext_23 rfl fl_X7_36 (c := 174) rfl (by decide) rfl rfl (hR.at (c := 174) (i := 0) (v := 4) rfl (by decide)) ?_
        refine mm_V0i dX7_bestNext_26 rfl lk_X7_81 (c := 3) rfl (by decide) rfl  rfl rfl rfl (c_X4_actCount hR) ?_
        refine mm_icge dX7_bestNext_29 (by omega) (by omega) (fun h29 => ?_) (fun h29 => ?_)
        · exfalso; omega
        · refine mm_aload_n dX7_bestNext_32 rfl rfl ?_
          refine mm_getr dX7_bestNext_33 rfl fl_X7_36 (c := 174) rfl (by decide) rfl rfl (hR.at (c := 174) (i := 0) (v := 4) rfl (by decide)) ?_
          refine mm_iload_n dX7_bestNext_36 rfl rfl ?_
          refine mm_iload dX7_bestNext_37 rfl rfl ?_
          refine mm_V2i dX7_bestNext_39 rfl lk_X7_87 (c := 3) rfl (by decide) rfl (by simp) (by simp) rfl rfl rfl (cg) ?_
          refine mm_iconst dX7_bestNext_42 rfl ?_
          refine mm_iceq dX7_bestNext_43 (by omega) (by omega) (fun h43 => ?_) (fun h43 => ?_)
          · exfalso; omega
          · refine mm_aload_n dX7_bestNext_46 rfl rfl ?_
            refine mm_iload_n dX7_bestNext_47 rfl rfl ?_
            refine mm_iload_n dX7_bestNext_48 rfl rfl ?_
            refine mm_iload dX7_bestNext_49 rfl rfl ?_
            refine mm_iload_n dX7_bestNext_51 rfl rfl ?_
            refine mm_V4i dX7_bestNext_52 rfl lk_X7_90 (c := 174) rfl (by decide) rfl (by simp) (by simp) (by simp) (by simp) rfl rfl rfl (c_X7_greatestHeap hR hK hA hF.1 hs hac hh) ?_
            refine mm_istore dX7_bestNext_55 rfl (Nat.le_of_ble_eq_true rfl) rfl ?_
            refine mm_iload dX7_bestNext_57 rfl rfl ?_
            refine mm_iload dX7_bestNext_59 rfl rfl ?_
            refine mm_icge dX7_bestNext_61 (by omega) (by omega) (fun h61 => ?_) (fun h61 => ?_)
            · refine mm_iinc dX7_bestNext_72 rfl rfl (Nat.le_of_ble_eq_true rfl) rfl ?_
              refine mm_goto dX7_bestNext_75 ?_
              first
              | (rw [if_pos ⟨ed, by omega⟩] at ih; exact ih _)
              | (rw [if_neg (fun z => absurd z.2 (by omega))] at ih; exact ih _)
            · refine mm_iload dX7_bestNext_64 rfl rfl ?_
              refine mm_istore dX7_bestNext_66 rfl (Nat.le_of_ble_eq_true rfl) rfl ?_
              refine mm_iload dX7_bestNext_68 rfl rfl ?_
              refine mm_istore dX7_bestNext_70 rfl (Nat.le_of_ble_eq_true rfl) rfl ?_
              refine mm_iinc dX7_bestNext_72 rfl rfl (Nat.le_of_ble_eq_true rfl) rfl ?_
              refine mm_goto dX7_bestNext_75 ?_
              first
              | (rw [if_pos ⟨ed, by omega⟩] at ih; exact ih _)
              | (rw [if_neg (fun z => absurd z.2 (by omega))] at ih; exact ih _)
      · have ed : ¬ decide (ks_can (M 4) s (i : Int)) = true := fun z => hcan (of_decide_eq_true z)
        have cg := c_X4_goal (X := X) hR hK hs hac
        rw [if_neg hcan] at cg
        rw [if_neg (fun z => ed z.1)] at ih
        clear hcan
        refine mm_iload dX7_bestNext_20 rfl rfl ?_
        refine mm_aload_n dX7_bestNext_22 rfl rfl ?_
        refine mm_getr dX7_bestNext_23 rfl fl_X7_36 (c := 174) rfl (by decide) rfl rfl (hR.at (c := 174) (i := 0) (v := 4) rfl (by decide)) ?_
        refine mm_V0i dX7_bestNext_26 rfl lk_X7_81 (c := 3) rfl (by decide) rfl  rfl rfl rfl (c_X4_actCount hR) ?_
        refine mm_icge dX7_bestNext_29 (by omega) (by omega) (fun h29 => ?_) (fun h29 => ?_)
        · exfalso; omega
        · refine mm_aload_n dX7_bestNext_32 rfl rfl ?_
          refine mm_getr dX7_bestNext_33 rfl fl_X7_36 (c := 174) rfl (by decide) rfl rfl (hR.at (c := 174) (i := 0) (v := 4) rfl (by decide)) ?_
          refine mm_iload_n dX7_bestNext_36 rfl rfl ?_
          refine mm_iload dX7_bestNext_37 rfl rfl ?_
          refine mm_V2i dX7_bestNext_39 rfl lk_X7_87 (c := 3) rfl (by decide) rfl (by simp) (by simp) rfl rfl rfl (cg) ?_
          refine mm_iconst dX7_bestNext_42 rfl ?_
          refine mm_iceq dX7_bestNext_43 (by omega) (by omega) (fun h43 => ?_) (fun h43 => ?_)
          · refine mm_iinc dX7_bestNext_72 rfl rfl (Nat.le_of_ble_eq_true rfl) rfl ?_
            refine mm_goto dX7_bestNext_75 ?_
            exact ih _
          · exact absurd rfl h43
    · have ei : i = (15 * M 4 10).toNat := by omega
      refine mm_iload dX7_bestNext_20 rfl rfl ?_
      refine mm_aload_n dX7_bestNext_22 rfl rfl ?_
      refine mm_getr dX7_bestNext_23 rfl fl_X7_36 (c := 174) rfl (by decide) rfl rfl (hR.at (c := 174) (i := 0) (v := 4) rfl (by decide)) ?_
      refine mm_V0i dX7_bestNext_26 rfl lk_X7_81 (c := 3) rfl (by decide) rfl  rfl rfl rfl (c_X4_actCount hR) ?_
      refine mm_icge dX7_bestNext_29 (by omega) (by omega) (fun h29 => ?_) (fun h29 => ?_)
      · refine mm_iload dX7_bestNext_78 rfl rfl ?_
        refine mm_iret dX7_bestNext_80 rfl rfl ?_
        exact ⟨F, by unfold kg_next; rw [ei], hR, rfl, hF⟩
      · exfalso; omega
  refine mm_aload_n dX7_bestNext_0 rfl rfl ?_
  refine mm_sipush dX7_bestNext_1 rfl (by decide) ?_
  refine mm_V1g (M1 := M) dX7_bestNext_4 rfl lk_X7_72 (c := 174) rfl (by decide) rfl (by simp) rfl rfl rfl (c_X7_fittingShares hR hK hA hG (by omega)) ?_
  rintro _ N4 ⟨x4, rfl, p4⟩
  change mm_J _ _ _ _ _ _ _ _ _ _
  have hR4 : mm_Rf N4 := p4.1
  obtain ⟨-, eN, hF⟩ := p4
  rw [eN]
  have hF1 := hF.1
  refine mm_istore_n dX7_bestNext_7 rfl (Nat.le_of_ble_eq_true rfl) rfl ?_
  refine mm_iload_n dX7_bestNext_8 rfl rfl ?_
  refine mm_S1i dX7_bestNext_9 rfl lk_X7_76 (by simp) rfl rfl rfl (c_J6_bitCount_0f7a4 (by omega)) ?_
  refine mm_istore dX7_bestNext_12 rfl (Nat.le_of_ble_eq_true rfl) rfl ?_
  refine mm_iconst dX7_bestNext_14 rfl ?_
  refine mm_istore dX7_bestNext_15 rfl (Nat.le_of_ble_eq_true rfl) rfl ?_
  refine mm_iconst dX7_bestNext_17 rfl ?_
  refine mm_istore dX7_bestNext_18 rfl (Nat.le_of_ble_eq_true rfl) rfl ?_
  exact loop x4 hF 0 (Nat.zero_le _) _
theorem c_X11_fit1 (hR : mm_Rf M) (hK : mm_CK M) (hA : mm_CA M) (hG : mm_CG M) (ht : 0 ≤ t ∧ t ≤ 999) :
    mm_C X Y_X11_fit 243 243 [(2, 1), (0, t)] M (fun r M' => ∃ F : Nat, r = (0, (F : Int)) ∧ mm_Rf M' ∧ M' = M ∧ kg_set (kg_fC M t) F) := by
  refine mm_start (ls := [(2, 1), (0, t)]) rfl ?_
  refine mm_iload_n dX11_fit_0 rfl rfl ?_
  refine mm_S1i dX11_fit_1 rfl lk_X11_188 (by simp) rfl rfl rfl (c_X11_isStep (by omega)) ?_
  refine mm_ifeqb dX11_fit_4 (fun h4 => ?_) (fun h4 => ?_)
  · exact absurd ht h4
  · refine mm_aload_n dX11_fit_7 rfl rfl ?_
    refine mm_getr dX11_fit_8 rfl fl_X11_90 (c := 0) rfl (by decide) rfl rfl (hR.at (c := 0) (i := 11) (v := 175) rfl (by decide)) ?_
    refine mm_iload_n dX11_fit_11 rfl rfl ?_
    refine mm_V1g (M1 := M) dX11_fit_12 rfl lk_X11_367 (c := 174) rfl (by decide) rfl (by simp) rfl rfl rfl (c_X7_fittingShares hR hK hA hG (by omega)) ?_
    rintro _ N12 ⟨x12, rfl, p12⟩
    change mm_J _ _ _ _ _ _ _ _ _ _
    have hR12 : mm_Rf N12 := p12.1
    refine mm_goto dX11_fit_15 ?_
    refine mm_iret dX11_fit_20 rfl rfl ?_
    exact ⟨x12, rfl, p12⟩
theorem c_X11_fit0 (hR : mm_Rf M) (ht : mm_R t) (hno : ¬ (0 ≤ t ∧ t ≤ 999)) : mm_Fn X Y_X11_fit 243 [(2, 1), (0, t)] M (0, -2) M := by
  refine mm_startF (ls := [(2, 1), (0, t)]) rfl ?_
  refine mm_iload_n dX11_fit_0 rfl rfl ?_
  refine mm_S1i dX11_fit_1 rfl lk_X11_188 (by simp) rfl rfl rfl (c_X11_isStep (by omega)) ?_
  refine mm_ifeqb dX11_fit_4 (fun h4 => ?_) (fun h4 => ?_)
  · refine mm_bipush dX11_fit_18 rfl (by decide) ?_
    refine mm_iret dX11_fit_20 rfl rfl ?_
    exact mm_fin rfl rfl
  · exact absurd h4 hno
theorem c_X11_next1 (hR : mm_Rf M) (hK : mm_CK M) (hA : mm_CA M) (hG : mm_CG M) (hs : ks_st (M 4) s) (hh : ks_hr h) :
    mm_C X Y_X11_next 243 243 [(2, 1), (0, s), (0, h)] M (fun r M' => ∃ F : Nat, r = (0, kg_next (M 4) (M 16) F s h) ∧ mm_Rf M' ∧ M' = M ∧ kg_set (kg_fC M 999) F) := by
  have hnb := ks_nb hK.1
  have hs1 := hs.1
  have hs2 := hs.2
  refine mm_start (ls := [(2, 1), (0, s), (0, h)]) rfl ?_
  refine mm_aload_n dX11_next_0 rfl rfl ?_
  refine mm_getr dX11_next_1 rfl fl_X11_19 (c := 0) rfl (by decide) rfl rfl (hR.at (c := 0) (i := 1) (v := 4) rfl (by decide)) ?_
  refine mm_iload_n dX11_next_4 rfl rfl ?_
  refine mm_V1i dX11_next_5 rfl lk_X11_139 (c := 3) rfl (by decide) rfl (by simp) rfl rfl rfl (c_X4_hasState hR hK (by omega)) ?_
  refine mm_ifeqb dX11_next_8 (fun h8 => ?_) (fun h8 => ?_)
  · exact absurd hs h8
  · refine mm_iload_n dX11_next_11 rfl rfl ?_
    refine mm_S1i dX11_next_12 rfl lk_X11_165 (by simp) rfl rfl rfl (c_X11_isHour (by omega)) ?_
    refine mm_ifeqb dX11_next_15 (fun h15 => ?_) (fun h15 => ?_)
    · exact absurd hh h15
    · refine mm_aload_n dX11_next_18 rfl rfl ?_
      refine mm_getr dX11_next_19 rfl fl_X11_90 (c := 0) rfl (by decide) rfl rfl (hR.at (c := 0) (i := 11) (v := 175) rfl (by decide)) ?_
      refine mm_iload_n dX11_next_22 rfl rfl ?_
      refine mm_iload_n dX11_next_23 rfl rfl ?_
      refine mm_V2g (M1 := M) dX11_next_24 rfl lk_X11_370 (c := 174) rfl (by decide) rfl (by simp) (by simp) rfl rfl rfl (c_X7_bestNext hR hK hA hG hs hh) ?_
      rintro _ N24 ⟨x24, rfl, p24⟩
      change mm_J _ _ _ _ _ _ _ _ _ _
      have hR24 : mm_Rf N24 := p24.1
      refine mm_goto dX11_next_27 ?_
      refine mm_iret dX11_next_32 rfl rfl ?_
      exact ⟨x24, rfl, p24⟩
theorem c_X11_next0 (hR : mm_Rf M) (hK : mm_CK M) (hs : mm_R s) (hh : mm_R h) (hno : ¬ (ks_st (M 4) s ∧ ks_hr h)) : mm_Fn X Y_X11_next 243 [(2, 1), (0, s), (0, h)] M (0, -2) M := by
  refine mm_startF (ls := [(2, 1), (0, s), (0, h)]) rfl ?_
  refine mm_aload_n dX11_next_0 rfl rfl ?_
  refine mm_getr dX11_next_1 rfl fl_X11_19 (c := 0) rfl (by decide) rfl rfl (hR.at (c := 0) (i := 1) (v := 4) rfl (by decide)) ?_
  refine mm_iload_n dX11_next_4 rfl rfl ?_
  refine mm_V1i dX11_next_5 rfl lk_X11_139 (c := 3) rfl (by decide) rfl (by simp) rfl rfl rfl (c_X4_hasState hR hK (by omega)) ?_
  refine mm_ifeqb dX11_next_8 (fun h8 => ?_) (fun h8 => ?_)
  · refine mm_bipush dX11_next_30 rfl (by decide) ?_
    refine mm_iret dX11_next_32 rfl rfl ?_
    exact mm_fin rfl rfl
  · refine mm_iload_n dX11_next_11 rfl rfl ?_
    refine mm_S1i dX11_next_12 rfl lk_X11_165 (by simp) rfl rfl rfl (c_X11_isHour (by omega)) ?_
    refine mm_ifeqb dX11_next_15 (fun h15 => ?_) (fun h15 => ?_)
    · refine mm_bipush dX11_next_30 rfl (by decide) ?_
      refine mm_iret dX11_next_32 rfl rfl ?_
      exact mm_fin rfl rfl
    · exact absurd ⟨h8, h15⟩ hno
end
end
/-! 91.rnext -/
section
/-! ===== fit and next, of the reference ===== -/
def mm_RG (M : mm_M) : Prop := (0 ≤ M 183 97 ∧ M 183 97 ≤ 30) ∧ (0 ≤ M 183 98 ∧ M 183 98 ≤ 20) ∧
  (∀ k : Nat, (k : Int) < M 183 97 → (ks_st (mm_rk M) (M 233 k) ∧ ks_ac (mm_rk M) (M 234 k) ∧ ks_hr (M 235 k)) ∧ mm_R (M 238 k) ∧ mm_R (M 236 k) ∧ mm_R (M 237 k)) ∧
  (∀ i : Nat, (i : Int) < M 183 98 → mm_R (M 239 i) ∧ mm_R (M 242 i) ∧ mm_R (M 240 i) ∧ mm_R (M 241 i))
def kg_pR (M : mm_M) (k q : Nat) : Int := ks_p (mm_rk M) (M 233 k) (M 234 k) (ks_wi (M 203) (mm_rk M) (M 233 k) (M 235 k) * (q : Int) / 10)
def kg_loR (M : mm_M) (k : Nat) (t : Int) (n : Nat) : Int := kg_last (kg_ok (M 239) (M 242) k t) (M 240) (M 236 k) n
def kg_hiR (M : mm_M) (k : Nat) (t : Int) (n : Nat) : Int := kg_last (kg_ok (M 239) (M 242) k t) (M 241) (M 237 k) n
def kg_soR (M : mm_M) (k : Nat) (t : Int) (q : Nat) : Prop := kg_loR M k t (M 183 98).toNat ≤ kg_pR M k q ∧ kg_pR M k q ≤ kg_hiR M k t (M 183 98).toNat
def kg_fR (M : mm_M) (t : Int) (q : Nat) : Prop := ∀ k : Nat, (k : Int) < M 183 97 → M 238 k ≤ t → kg_soR M k t q
section
variable {X : mm_X} {M : mm_M} {s a h t : Int} {k q : Nat}
theorem c_X13_isSo (hR : mm_Rf M) (hK : mm_KV (mm_rk M)) (hA : mm_RA M) (hG : mm_RG M) (hk : (k : Int) < M 183 97) (ht : mm_R t) (hq : q < 21) :
    mm_C X Y_X13_isSo 243 243 [(2, 184), (0, (k : Int)), (0, t), (0, (q : Int))] M (fun r M' => ∃ z : Int, r = (0, z) ∧ mm_Rf M' ∧ M' = M ∧ ((z = 0 ∧ ¬ kg_soR M k t q) ∨ (z = 1 ∧ kg_soR M k t q))) := by
  have hc := hG.1
  have hr := hG.2.1
  obtain ⟨⟨g1, g2, g3⟩, g4, g5, g6⟩ := hG.2.2.1 k hk
  have hwb := hA.wi hK g1 g3
  have hp := ks_pwb hK (s := M 233 k) (q := (q : Int)) g2 hwb.1 (by omega)
  have ep : ks_p (mm_rk M) (M 233 k) (M 234 k) (ks_wi (M 203) (mm_rk M) (M 233 k) (M 235 k) * (q : Int) / 10) = kg_pR M k q := rfl
  rw [ep] at hp
  refine mm_start (ls := [(2, 184), (0, (k : Int)), (0, t), (0, (q : Int)), (9, 0), (9, 0), (9, 0)]) rfl ?_
  have loop : ∀ i : Nat, i ≤ (M 183 98).toNat → mm_J X Y_X13_isSo 243 243 243 19 [(2, 184), (0, (k : Int)), (0, t), (0, (q : Int)), (0, kg_loR M k t i), (0, kg_hiR M k t i), (0, (i : Int))] [] M (fun r M' => ∃ z : Int, r = (0, z) ∧ mm_Rf M' ∧ M' = M ∧ ((z = 0 ∧ ¬ kg_soR M k t q) ∨ (z = 1 ∧ kg_soR M k t q))) := by
    refine mm_lp ?_
    intro i hi ih
    by_cases hlt : i < (M 183 98).toNat
    · obtain ⟨r1, r2, r3, r4⟩ := hG.2.2.2 i (by omega)
      have ih := ih hlt
      unfold kg_loR kg_hiR at ih
      rw [kg_last, kg_last] at ih
      refine mm_iload dX13_isSo_19 rfl rfl ?_
      refine mm_aload_n dX13_isSo_21 rfl rfl ?_
      refine mm_get (kd := 0) dX13_isSo_22 rfl fl_X13_406 (c := 183) rfl (by decide) rfl rfl ?_
      refine mm_icge dX13_isSo_25 (by omega) (by omega) (fun h25 => ?_) (fun h25 => ?_)
      · exfalso; omega
      · refine mm_aload_n dX13_isSo_28 rfl rfl ?_
        refine mm_getr dX13_isSo_29 rfl fl_X13_370 (c := 183) rfl (by decide) rfl rfl (hR.at (c := 183) (i := 106) (v := 240) rfl (by decide)) ?_
        refine mm_iload dX13_isSo_32 rfl rfl ?_
        refine mm_ialk (k0 := i) dX13_isSo_34 rfl (c := 239) rfl (by decide) rfl (by omega) (by omega) ?_
        refine mm_iload_n dX13_isSo_35 rfl rfl ?_
        refine mm_icne dX13_isSo_36 (by omega) (by omega) (fun h36 => ?_) (fun h36 => ?_)
        · refine mm_iinc dX13_isSo_71 rfl rfl (Nat.le_of_ble_eq_true rfl) rfl ?_
          refine mm_goto dX13_isSo_74 ?_
          first
          | (rw [if_pos (by unfold kg_ok; exact decide_eq_true ⟨h36, h47⟩), if_pos (by unfold kg_ok; exact decide_eq_true ⟨h36, h47⟩)] at ih; exact ih)
          | (rw [if_neg (by unfold kg_ok; intro z; have := of_decide_eq_true z; omega), if_neg (by unfold kg_ok; intro z; have := of_decide_eq_true z; omega)] at ih; exact ih)
        · refine mm_aload_n dX13_isSo_39 rfl rfl ?_
          refine mm_getr dX13_isSo_40 rfl fl_X13_379 (c := 183) rfl (by decide) rfl rfl (hR.at (c := 183) (i := 109) (v := 243) rfl (by decide)) ?_
          refine mm_iload dX13_isSo_43 rfl rfl ?_
          refine mm_ialk (k0 := i) dX13_isSo_45 rfl (c := 242) rfl (by decide) rfl (by omega) (by omega) ?_
          refine mm_iload_n dX13_isSo_46 rfl rfl ?_
          refine mm_icle dX13_isSo_47 (by omega) (by omega) (fun h47 => ?_) (fun h47 => ?_)
          · refine mm_aload_n dX13_isSo_53 rfl rfl ?_
            refine mm_getr dX13_isSo_54 rfl fl_X13_373 (c := 183) rfl (by decide) rfl rfl (hR.at (c := 183) (i := 107) (v := 241) rfl (by decide)) ?_
            refine mm_iload dX13_isSo_57 rfl rfl ?_
            refine mm_ialk (k0 := i) dX13_isSo_59 rfl (c := 240) rfl (by decide) rfl (by omega) (by omega) ?_
            refine mm_istore dX13_isSo_60 rfl (Nat.le_of_ble_eq_true rfl) rfl ?_
            refine mm_aload_n dX13_isSo_62 rfl rfl ?_
            refine mm_getr dX13_isSo_63 rfl fl_X13_376 (c := 183) rfl (by decide) rfl rfl (hR.at (c := 183) (i := 108) (v := 242) rfl (by decide)) ?_
            refine mm_iload dX13_isSo_66 rfl rfl ?_
            refine mm_ialk (k0 := i) dX13_isSo_68 rfl (c := 241) rfl (by decide) rfl (by omega) (by omega) ?_
            refine mm_istore dX13_isSo_69 rfl (Nat.le_of_ble_eq_true rfl) rfl ?_
            refine mm_iinc dX13_isSo_71 rfl rfl (Nat.le_of_ble_eq_true rfl) rfl ?_
            refine mm_goto dX13_isSo_74 ?_
            first
            | (rw [if_pos (by unfold kg_ok; exact decide_eq_true ⟨h36, h47⟩), if_pos (by unfold kg_ok; exact decide_eq_true ⟨h36, h47⟩)] at ih; exact ih)
            | (rw [if_neg (by unfold kg_ok; intro z; have := of_decide_eq_true z; omega), if_neg (by unfold kg_ok; intro z; have := of_decide_eq_true z; omega)] at ih; exact ih)
          · refine mm_goto dX13_isSo_50 ?_
            refine mm_iinc dX13_isSo_71 rfl rfl (Nat.le_of_ble_eq_true rfl) rfl ?_
            refine mm_goto dX13_isSo_74 ?_
            first
            | (rw [if_pos (by unfold kg_ok; exact decide_eq_true ⟨h36, h47⟩), if_pos (by unfold kg_ok; exact decide_eq_true ⟨h36, h47⟩)] at ih; exact ih)
            | (rw [if_neg (by unfold kg_ok; intro z; have := of_decide_eq_true z; omega), if_neg (by unfold kg_ok; intro z; have := of_decide_eq_true z; omega)] at ih; exact ih)
    · have ei : i = (M 183 98).toNat := by omega
      have b1 : mm_R (kg_loR M k t i) := by unfold kg_loR; exact kg_last_P (P := mm_R) g5 (fun j hj => (hG.2.2.2 j (by omega)).2.2.1)
      have b2 : mm_R (kg_hiR M k t i) := by unfold kg_hiR; exact kg_last_P (P := mm_R) g6 (fun j hj => (hG.2.2.2 j (by omega)).2.2.2)
      refine mm_iload dX13_isSo_19 rfl rfl ?_
      refine mm_aload_n dX13_isSo_21 rfl rfl ?_
      refine mm_get (kd := 0) dX13_isSo_22 rfl fl_X13_406 (c := 183) rfl (by decide) rfl rfl ?_
      refine mm_icge dX13_isSo_25 (by omega) (by omega) (fun h25 => ?_) (fun h25 => ?_)
      · refine mm_aload_n dX13_isSo_77 rfl rfl ?_
        refine mm_aload_n dX13_isSo_78 rfl rfl ?_
        refine mm_getr dX13_isSo_79 rfl fl_X13_352 (c := 183) rfl (by decide) rfl rfl (hR.at (c := 183) (i := 100) (v := 234) rfl (by decide)) ?_
        refine mm_iload_n dX13_isSo_82 rfl rfl ?_
        refine mm_ialk (k0 := k) dX13_isSo_83 rfl (c := 233) rfl (by decide) rfl (by omega) (by omega) ?_
        refine mm_aload_n dX13_isSo_84 rfl rfl ?_
        refine mm_getr dX13_isSo_85 rfl fl_X13_355 (c := 183) rfl (by decide) rfl rfl (hR.at (c := 183) (i := 101) (v := 235) rfl (by decide)) ?_
        refine mm_iload_n dX13_isSo_88 rfl rfl ?_
        refine mm_ialk (k0 := k) dX13_isSo_89 rfl (c := 234) rfl (by decide) rfl (by omega) (by omega) ?_
        refine mm_aload_n dX13_isSo_90 rfl rfl ?_
        refine mm_getr dX13_isSo_91 rfl fl_X13_358 (c := 183) rfl (by decide) rfl rfl (hR.at (c := 183) (i := 102) (v := 236) rfl (by decide)) ?_
        refine mm_iload_n dX13_isSo_94 rfl rfl ?_
        refine mm_ialk (k0 := k) dX13_isSo_95 rfl (c := 235) rfl (by decide) rfl (by omega) (by omega) ?_
        refine mm_iload_n dX13_isSo_96 rfl rfl ?_
        refine mm_V4i dX13_isSo_97 rfl lk_X13_709 (c := 183) rfl (by decide) rfl (by simp) (by simp) (by simp) (by simp) rfl rfl rfl ((ep ▸ c_X13_pullBy hR hK hA g1 g2 g3 (by omega))) ?_
        refine mm_i2l dX13_isSo_100 rfl (by omega) ?_
        refine mm_iload dX13_isSo_101 rfl rfl ?_
        refine mm_i2l dX13_isSo_103 rfl (by omega) ?_
        refine mm_iload dX13_isSo_104 rfl rfl ?_
        refine mm_i2l dX13_isSo_106 rfl (by omega) ?_
        refine mm_S3i dX13_isSo_107 rfl lk_X13_5 (by simp) (by simp) (by simp) rfl rfl rfl (c_X13_in (by omega) (by omega) (by omega)) ?_
        refine mm_zret dX13_isSo_110 rfl rfl (mm_b_01 _) ?_
        refine ⟨_, rfl, hR, rfl, ?_⟩
        rw [ei]
        by_cases z : kg_soR M k t q
        · exact Or.inr ⟨mm_b_t z, z⟩
        · exact Or.inl ⟨mm_b_f z, z⟩
      · exfalso; omega
  refine mm_aload_n dX13_isSo_0 rfl rfl ?_
  refine mm_getr dX13_isSo_1 rfl fl_X13_361 (c := 183) rfl (by decide) rfl rfl (hR.at (c := 183) (i := 103) (v := 237) rfl (by decide)) ?_
  refine mm_iload_n dX13_isSo_4 rfl rfl ?_
  refine mm_ialk (k0 := k) dX13_isSo_5 rfl (c := 236) rfl (by decide) rfl (by omega) (by omega) ?_
  refine mm_istore dX13_isSo_6 rfl (Nat.le_of_ble_eq_true rfl) rfl ?_
  refine mm_aload_n dX13_isSo_8 rfl rfl ?_
  refine mm_getr dX13_isSo_9 rfl fl_X13_364 (c := 183) rfl (by decide) rfl rfl (hR.at (c := 183) (i := 104) (v := 238) rfl (by decide)) ?_
  refine mm_iload_n dX13_isSo_12 rfl rfl ?_
  refine mm_ialk (k0 := k) dX13_isSo_13 rfl (c := 237) rfl (by decide) rfl (by omega) (by omega) ?_
  refine mm_istore dX13_isSo_14 rfl (Nat.le_of_ble_eq_true rfl) rfl ?_
  refine mm_iconst dX13_isSo_16 rfl ?_
  refine mm_istore dX13_isSo_17 rfl (Nat.le_of_ble_eq_true rfl) rfl ?_
  exact loop 0 (Nat.zero_le _)
theorem c_X13_fitOf (hR : mm_Rf M) (hK : mm_KV (mm_rk M)) (hA : mm_RA M) (hG : mm_RG M) (ht : mm_R t) :
    mm_C X Y_X13_fitOf 243 243 [(2, 184), (0, t)] M (fun r M' => ∃ F : Nat, r = (0, (F : Int)) ∧ mm_Rf M' ∧ M' = M ∧ kg_set (kg_fR M t) F) := by
  have hc := hG.1
  have hr := hG.2.1
  refine mm_start (ls := [(2, 184), (0, t), (9, 0), (9, 0), (9, 0), (9, 0)]) rfl ?_
  have loop : ∀ i : Nat, i ≤ 21 → ∀ (F : Nat) (l4 l5 : mm_V), F < 2 ^ 21 → (∀ q, q < 21 → (F.testBit q = true ↔ q < i ∧ kg_fR M t q)) →
      mm_J X Y_X13_fitOf 243 243 243 4 [(2, 184), (0, t), (0, (F : Int)), (0, (i : Int)), l4, l5] [] M (fun r M' => ∃ F : Nat, r = (0, (F : Int)) ∧ mm_Rf M' ∧ M' = M ∧ kg_set (kg_fR M t) F) := by
    refine mm_lp ?_
    intro i hi ih F l4 l5 hF hb
    by_cases hlt : i < 21
    · have sh := kx_shl i (by omega)
      have pi : 2 ^ i < 2 ^ 21 := Nat.pow_lt_pow_right (by decide) hlt
      have orr := kx_or (a := F) (b := 2 ^ i) (by omega) (by omega)
      have or0 := kx_or (a := F) (b := 0) (by omega) (by omega)
      -- behind the readings
      have fin : ∀ (z : Int) (l5 : mm_V), (z = 0 ∧ ¬ kg_fR M t i) ∨ (z = 1 ∧ kg_fR M t i) → mm_J X Y_X13_fitOf 243 243 243 65 [(2, 184), (0, t), (0, (F : Int)), (0, (i : Int)), (0, z), l5] [] M (fun r M' => ∃ F : Nat, r = (0, (F : Int)) ∧ mm_Rf M' ∧ M' = M ∧ kg_set (kg_fR M t) F) := by
        intro z l5 hz
        refine mm_iload_n dX13_fitOf_65 rfl rfl ?_
        refine mm_iload dX13_fitOf_66 rfl rfl ?_
        refine mm_ifeq dX13_fitOf_68 (by omega) (fun h68 => ?_) (fun h68 => ?_)
        · refine mm_iconst dX13_fitOf_77 rfl ?_
          refine mm_ior dX13_fitOf_78 rfl ?_
          first
          | rw [orr]
          | rw [show (0 : Int) = ((0 : Nat) : Int) from rfl, or0, Nat.or_zero]
          refine mm_istore_n dX13_fitOf_79 rfl (Nat.le_of_ble_eq_true rfl) rfl ?_
          refine mm_iinc dX13_fitOf_80 rfl rfl (Nat.le_of_ble_eq_true rfl) rfl ?_
          refine mm_goto dX13_fitOf_83 ?_
          first
          | (refine ih hlt (F ||| 2 ^ i) _ _ (Nat.or_lt_two_pow hF pi) (fun q hq => ?_)
             rw [Nat.testBit_or, Nat.testBit_two_pow, Bool.or_eq_true, hb q hq, decide_eq_true_iff]
             have hz1 : kg_fR M t i := by
               rcases hz with ⟨y, -⟩ | ⟨-, y⟩
               · omega
               · exact y
             constructor
             · rintro (⟨z1, z2⟩ | z)
               · exact ⟨by omega, z2⟩
               · rw [← z]; exact ⟨by omega, hz1⟩
             · rintro ⟨z1, z2⟩
               by_cases y : i = q
               · exact Or.inr y
               · exact Or.inl ⟨by omega, z2⟩)
          | (refine ih hlt F _ _ hF (fun q hq => ?_)
             rw [hb q hq]
             have hz0 : ¬ kg_fR M t i := by
               rcases hz with ⟨-, y⟩ | ⟨y, -⟩
               · exact y
               · omega
             constructor
             · rintro ⟨z1, z2⟩; exact ⟨by omega, z2⟩
             · rintro ⟨z1, z2⟩
               by_cases y : q = i
               · rw [y] at z2; exact absurd z2 hz0
               · exact ⟨by omega, z2⟩)
        · refine mm_iconst dX13_fitOf_71 rfl ?_
          refine mm_iload_n dX13_fitOf_72 rfl rfl ?_
          refine mm_ishl dX13_fitOf_73 rfl ?_
          rw [sh]
          refine mm_goto dX13_fitOf_74 ?_
          refine mm_ior dX13_fitOf_78 rfl ?_
          first
          | rw [orr]
          | rw [show (0 : Int) = ((0 : Nat) : Int) from rfl, or0, Nat.or_zero]
          refine mm_istore_n dX13_fitOf_79 rfl (Nat.le_of_ble_eq_true rfl) rfl ?_
          refine mm_iinc dX13_fitOf_80 rfl rfl (Nat.le_of_ble_eq_true rfl) rfl ?_
          refine mm_goto dX13_fitOf_83 ?_
          first
          | (refine ih hlt (F ||| 2 ^ i) _ _ (Nat.or_lt_two_pow hF pi) (fun q hq => ?_)
             rw [Nat.testBit_or, Nat.testBit_two_pow, Bool.or_eq_true, hb q hq, decide_eq_true_iff]
             have hz1 : kg_fR M t i := by
               rcases hz with ⟨y, -⟩ | ⟨-, y⟩
               · omega
               · exact y
             constructor
             · rintro (⟨z1, z2⟩ | z)
               · exact ⟨by omega, z2⟩
               · rw [← z]; exact ⟨by omega, hz1⟩
             · rintro ⟨z1, z2⟩
               by_cases y : i = q
               · exact Or.inr y
               · exact Or.inl ⟨by omega, z2⟩)
          | (refine ih hlt F _ _ hF (fun q hq => ?_)
             rw [hb q hq]
             have hz0 : ¬ kg_fR M t i := by
               rcases hz with ⟨-, y⟩ | ⟨y, -⟩
               · exact y
               · omega
             constructor
             · rintro ⟨z1, z2⟩; exact ⟨by omega, z2⟩
             · rintro ⟨z1, z2⟩
               by_cases y : q = i
               · rw [y] at z2; exact absurd z2 hz0
               · exact ⟨by omega, z2⟩)
      -- the readings
      have reads : ∀ j : Nat, j ≤ (M 183 97).toNat → ∀ z : Int, ((z = 0 ∧ ¬ kg_fR M t i) ∨ (z = 1 ∧ ∀ k : Nat, k < j → M 238 k ≤ t → kg_soR M k t i)) →
          mm_J X Y_X13_fitOf 243 243 243 16 [(2, 184), (0, t), (0, (F : Int)), (0, (i : Int)), (0, z), (0, (j : Int))] [] M (fun r M' => ∃ F : Nat, r = (0, (F : Int)) ∧ mm_Rf M' ∧ M' = M ∧ kg_set (kg_fR M t) F) := by
        refine mm_lp ?_
        intro j hj ih2 z hz
        by_cases hjl : j < (M 183 97).toNat ∧ z = 1
        · obtain ⟨hjl, hz1⟩ := hjl
          obtain ⟨g0, g1, g2, g3⟩ := hG.2.2.1 j (by omega)
          have hall : ∀ k : Nat, k < j → M 238 k ≤ t → kg_soR M k t i := by
            rcases hz with ⟨y, -⟩ | ⟨-, y⟩
            · omega
            · exact y
          have nx : ∀ y : Int, ((y = 0 ∧ M 238 j ≤ t ∧ ¬ kg_soR M j t i) ∨ (y = 1 ∧ (M 238 j ≤ t → kg_soR M j t i))) → mm_J X Y_X13_fitOf 243 243 243 57 [(2, 184), (0, t), (0, (F : Int)), (0, (i : Int)), (0, z), (0, (j : Int))] [(0, y)] M (fun r M' => ∃ F : Nat, r = (0, (F : Int)) ∧ mm_Rf M' ∧ M' = M ∧ kg_set (kg_fR M t) F) := by
            intro y hy
            refine mm_istore dX13_fitOf_57 rfl (Nat.le_of_ble_eq_true rfl) rfl ?_
            refine mm_iinc dX13_fitOf_59 rfl rfl (Nat.le_of_ble_eq_true rfl) rfl ?_
            refine mm_goto dX13_fitOf_62 ?_
            refine ih2 hjl y ?_
            rcases hy with ⟨y1, y2, y3⟩ | ⟨y1, y2⟩
            · exact Or.inl ⟨y1, fun w => y3 (w j (by omega) y2)⟩
            · refine Or.inr ⟨y1, fun k hk hs => ?_⟩
              by_cases w : k = j
              · rw [w] at hs ⊢; exact y2 hs
              · exact hall k (by omega) hs
          refine mm_iload dX13_fitOf_16 rfl rfl ?_
          refine mm_aload_n dX13_fitOf_18 rfl rfl ?_
          refine mm_get (kd := 0) dX13_fitOf_19 rfl fl_X13_403 (c := 183) rfl (by decide) rfl rfl ?_
          refine mm_icge dX13_fitOf_22 (by omega) (by omega) (fun h22 => ?_) (fun h22 => ?_)
          · exfalso; omega
          · refine mm_iload dX13_fitOf_25 rfl rfl ?_
            refine mm_ifeq dX13_fitOf_27 (by omega) (fun h27 => ?_) (fun h27 => ?_)
            · exfalso; omega
            · refine mm_aload_n dX13_fitOf_30 rfl rfl ?_
              refine mm_getr dX13_fitOf_31 rfl fl_X13_367 (c := 183) rfl (by decide) rfl rfl (hR.at (c := 183) (i := 105) (v := 239) rfl (by decide)) ?_
              refine mm_iload dX13_fitOf_34 rfl rfl ?_
              refine mm_ialk (k0 := j) dX13_fitOf_36 rfl (c := 238) rfl (by decide) rfl (by omega) (by omega) ?_
              refine mm_iload_n dX13_fitOf_37 rfl rfl ?_
              refine mm_icgt dX13_fitOf_38 (by omega) (by omega) (fun h38 => ?_) (fun h38 => ?_)
              · refine mm_iconst dX13_fitOf_52 rfl ?_
                refine mm_goto dX13_fitOf_53 ?_
                refine nx _ ?_
                first
                | exact Or.inr ⟨rfl, fun w => by omega⟩
                | (rcases hso with ⟨y1, y2⟩ | ⟨y1, y2⟩
                   · first
                     | exact Or.inl ⟨rfl, by omega, y2⟩
                     | exact absurd y1 h49
                   · first
                     | exact Or.inr ⟨rfl, fun _ => y2⟩
                     | exact absurd (h49.symm.trans y1) (by decide))
              · refine mm_aload_n dX13_fitOf_41 rfl rfl ?_
                refine mm_iload dX13_fitOf_42 rfl rfl ?_
                refine mm_iload_n dX13_fitOf_44 rfl rfl ?_
                refine mm_iload_n dX13_fitOf_45 rfl rfl ?_
                refine mm_V3g (M1 := M) dX13_fitOf_46 rfl lk_X13_718 (c := 183) rfl (by decide) rfl (by simp) (by simp) (by simp) rfl rfl rfl (c_X13_isSo hR hK hA hG (by omega) ht hlt) ?_
                rintro _ N46 ⟨x46, rfl, p46⟩
                change mm_J _ _ _ _ _ _ _ _ _ _
                have hR46 : mm_Rf N46 := p46.1
                obtain ⟨-, eN, hso⟩ := p46
                rw [eN]
                refine mm_ifeq dX13_fitOf_49 (by omega) (fun h49 => ?_) (fun h49 => ?_)
                · refine mm_iconst dX13_fitOf_56 rfl ?_
                  refine nx _ ?_
                  first
                  | exact Or.inr ⟨rfl, fun w => by omega⟩
                  | (rcases hso with ⟨y1, y2⟩ | ⟨y1, y2⟩
                     · first
                       | exact Or.inl ⟨rfl, by omega, y2⟩
                       | exact absurd y1 h49
                     · first
                       | exact Or.inr ⟨rfl, fun _ => y2⟩
                       | exact absurd (h49.symm.trans y1) (by decide))
                · refine mm_iconst dX13_fitOf_52 rfl ?_
                  refine mm_goto dX13_fitOf_53 ?_
                  refine nx _ ?_
                  first
                  | exact Or.inr ⟨rfl, fun w => by omega⟩
                  | (rcases hso with ⟨y1, y2⟩ | ⟨y1, y2⟩
                     · first
                       | exact Or.inl ⟨rfl, by omega, y2⟩
                       | exact absurd y1 h49
                     · first
                       | exact Or.inr ⟨rfl, fun _ => y2⟩
                       | exact absurd (h49.symm.trans y1) (by decide))
        · refine mm_iload dX13_fitOf_16 rfl rfl ?_
          refine mm_aload_n dX13_fitOf_18 rfl rfl ?_
          refine mm_get (kd := 0) dX13_fitOf_19 rfl fl_X13_403 (c := 183) rfl (by decide) rfl rfl ?_
          refine mm_icge dX13_fitOf_22 (by omega) (by omega) (fun h22 => ?_) (fun h22 => ?_)
          · refine fin z _ ?_
            rcases hz with y | ⟨y1, y2⟩
            · exact Or.inl y
            · exact Or.inr ⟨y1, fun k hk hs => y2 k (by omega) hs⟩
          · refine mm_iload dX13_fitOf_25 rfl rfl ?_
            refine mm_ifeq dX13_fitOf_27 (by omega) (fun h27 => ?_) (fun h27 => ?_)
            · refine fin z _ ?_
              rcases hz with y | ⟨y1, y2⟩
              · exact Or.inl y
              · exact Or.inr ⟨y1, fun k hk hs => y2 k (by omega) hs⟩
            · exfalso; omega
      refine mm_iload_n dX13_fitOf_4 rfl rfl ?_
      refine mm_bipush dX13_fitOf_5 rfl (by decide) ?_
      refine mm_icge dX13_fitOf_7 (by omega) (by omega) (fun h7 => ?_) (fun h7 => ?_)
      · exfalso; omega
      · refine mm_iconst dX13_fitOf_10 rfl ?_
        refine mm_istore dX13_fitOf_11 rfl (Nat.le_of_ble_eq_true rfl) rfl ?_
        refine mm_iconst dX13_fitOf_13 rfl ?_
        refine mm_istore dX13_fitOf_14 rfl (Nat.le_of_ble_eq_true rfl) rfl ?_
        exact reads 0 (Nat.zero_le _) 1 (Or.inr ⟨rfl, fun k hk => absurd hk (Nat.not_lt_zero k)⟩)
    · refine mm_iload_n dX13_fitOf_4 rfl rfl ?_
      refine mm_bipush dX13_fitOf_5 rfl (by decide) ?_
      refine mm_icge dX13_fitOf_7 (by omega) (by omega) (fun h7 => ?_) (fun h7 => ?_)
      · refine mm_iload_n dX13_fitOf_86 rfl rfl ?_
        refine mm_iret dX13_fitOf_87 rfl rfl ?_
        refine ⟨F, rfl, hR, rfl, hF, fun q hq => ?_⟩
        rw [hb q hq]
        exact ⟨fun z => z.2, fun z => ⟨by omega, z⟩⟩
      · exfalso; omega
  refine mm_iconst dX13_fitOf_0 rfl ?_
  refine mm_istore_n dX13_fitOf_1 rfl (Nat.le_of_ble_eq_true rfl) rfl ?_
  refine mm_iconst dX13_fitOf_2 rfl ?_
  refine mm_istore_n dX13_fitOf_3 rfl (Nat.le_of_ble_eq_true rfl) rfl ?_
  exact loop 0 (by decide) 0 _ _ (by decide) (fun q hq => by simp)
theorem c_X13_fit1 (hR : mm_Rf M) (hK : mm_KV (mm_rk M)) (hA : mm_RA M) (hG : mm_RG M) (ht : 0 ≤ t ∧ t ≤ 999) :
    mm_C X Y_X13_fit 243 243 [(2, 184), (0, t)] M (fun r M' => ∃ F : Nat, r = (0, (F : Int)) ∧ mm_Rf M' ∧ M' = M ∧ kg_set (kg_fR M t) F) := by
  refine mm_start (ls := [(2, 184), (0, t)]) rfl ?_
  refine mm_iload_n dX13_fit_0 rfl rfl ?_
  refine mm_i2l dX13_fit_1 rfl (by omega) ?_
  refine mm_lconst0 dX13_fit_2 rfl ?_
  refine mm_ldc2 dX13_fit_3 rfl kc_X13_484 ?_
  refine mm_S3i dX13_fit_6 rfl lk_X13_5 (by simp) (by simp) (by simp) rfl rfl rfl (c_X13_in (by omega) (by omega) (by omega)) ?_
  refine mm_ifeqb dX13_fit_9 (fun h9 => ?_) (fun h9 => ?_)
  · exact absurd ht h9
  · refine mm_aload_n dX13_fit_12 rfl rfl ?_
    refine mm_iload_n dX13_fit_13 rfl rfl ?_
    refine mm_V1g (M1 := M) dX13_fit_14 rfl lk_X13_721 (c := 183) rfl (by decide) rfl (by simp) rfl rfl rfl (c_X13_fitOf hR hK hA hG (by omega)) ?_
    rintro _ N14 ⟨x14, rfl, p14⟩
    change mm_J _ _ _ _ _ _ _ _ _ _
    have hR14 : mm_Rf N14 := p14.1
    refine mm_goto dX13_fit_17 ?_
    refine mm_iret dX13_fit_22 rfl rfl ?_
    exact ⟨x14, rfl, p14⟩
theorem c_X13_fit0 (hR : mm_Rf M) (ht : mm_R t) (hno : ¬ (0 ≤ t ∧ t ≤ 999)) : mm_Fn X Y_X13_fit 243 [(2, 184), (0, t)] M (0, -2) M := by
  refine mm_startF (ls := [(2, 184), (0, t)]) rfl ?_
  refine mm_iload_n dX13_fit_0 rfl rfl ?_
  refine mm_i2l dX13_fit_1 rfl (by omega) ?_
  refine mm_lconst0 dX13_fit_2 rfl ?_
  refine mm_ldc2 dX13_fit_3 rfl kc_X13_484 ?_
  refine mm_S3i dX13_fit_6 rfl lk_X13_5 (by simp) (by simp) (by simp) rfl rfl rfl (c_X13_in (by omega) (by omega) (by omega)) ?_
  refine mm_ifeqb dX13_fit_9 (fun h9 => ?_) (fun h9 => ?_)
  · refine mm_bipush dX13_fit_20 rfl (by decide) ?_
    refine mm_iret dX13_fit_22 rfl rfl ?_
    exact mm_fin rfl rfl
  · exact absurd h9 hno
theorem c_X13_next1 (hR : mm_Rf M) (hK : mm_KV (mm_rk M)) (hA : mm_RA M) (hG : mm_RG M) (hs : ks_st (mm_rk M) s) (hh : ks_hr h) :
    mm_C X Y_X13_next 243 243 [(2, 184), (0, s), (0, h)] M (fun r M' => ∃ F : Nat, r = (0, kg_next (mm_rk M) (M 203) F s h) ∧ mm_Rf M' ∧ M' = M ∧ kg_set (kg_fR M 999) F) := by
  have hnb := ks_nb hK
  have hs1 := hs.1
  have hs2 := hs.2
  have hwb := hA.wi hK hs hh
  have h10 : 1 ≤ mm_rk M 10 ∧ mm_rk M 10 ≤ 3 := by obtain ⟨-, -, -, -, -, -, -, -, -, -, h10, -⟩ := id hK; exact h10
  obtain ⟨Φ, hΦ⟩ : ∃ Φ : mm_V → mm_M → Prop, Φ = (fun r M' => ∃ F : Nat, r = (0, kg_next (mm_rk M) (M 203) F s h) ∧ mm_Rf M' ∧ M' = M ∧ kg_set (kg_fR M 999) F) := ⟨_, rfl⟩
  rw [← hΦ]
  refine mm_start (ls := [(2, 184), (0, s), (0, h), (9, 0), (9, 0), (9, 0), (9, 0), (9, 0), (9, 0), (9, 0), (9, 0)]) rfl ?_
  have acts : ∀ F : Nat, kg_set (kg_fR M 999) F → ∀ i : Nat, i ≤ (15 * mm_rk M 10).toNat → ∀ l7 l8 l9 l10 : mm_V, mm_J X Y_X13_next 243 243 243 62 [(2, 184), (0, s), (0, h), (0, (F : Int)), (0, (kg_nx (fun a => decide (ks_can (mm_rk M) s (a : Int))) (fun a => kg_heap F (kg_p (mm_rk M) (M 203) s (a : Int) h)) (kx_n F) i).1), (0, (kg_nx (fun a => decide (ks_can (mm_rk M) s (a : Int))) (fun a => kg_heap F (kg_p (mm_rk M) (M 203) s (a : Int) h)) (kx_n F) i).2), (0, (i : Int)), l7, l8, l9, l10] [] M Φ := by
    intro F hF
    have hF1 := hF.1
    refine mm_lp ?_
    intro i hi ih l7 l8 l9 l10
    have hb := kg_nxb (c := fun a => decide (ks_can (mm_rk M) s (a : Int))) (hp := fun a => kg_heap F (kg_p (mm_rk M) (M 203) s (a : Int) h)) (l0 := kx_n F) (by have := kx_nb F; omega) (n := i) (fun j hj => by have := kg_heapb (F := F) (f := kg_p (mm_rk M) (M 203) s (j : Int) h); omega)
    by_cases hlt : i < (15 * mm_rk M 10).toNat
    · have hac : ks_ac (mm_rk M) (i : Int) := ⟨by omega, by omega⟩
      obtain ⟨f, hf⟩ : ∃ f, f = kg_p (mm_rk M) (M 203) s (i : Int) h := ⟨_, rfl⟩
      have hfb : ∀ q : Nat, q < 21 → 0 ≤ f q ∧ f q ≤ 5702400 := by intro q hq; rw [hf]; exact ks_pwb hK hac hwb.1 (by omega)
      have hhb := kg_heapb (F := F) (f := f)
      have ih := ih hlt
      rw [kg_nx, ← hf] at ih
      obtain ⟨L1, hL1⟩ : ∃ z, z = (kg_nx (fun a => decide (ks_can (mm_rk M) s (a : Int))) (fun a => kg_heap F (kg_p (mm_rk M) (M 203) s (a : Int) h)) (kx_n F) i).1 := ⟨_, rfl⟩
      obtain ⟨L2, hL2⟩ : ∃ z, z = (kg_nx (fun a => decide (ks_can (mm_rk M) s (a : Int))) (fun a => kg_heap F (kg_p (mm_rk M) (M 203) s (a : Int) h)) (kx_n F) i).2 := ⟨_, rfl⟩
      by_cases hcan : ks_can (mm_rk M) s (i : Int)
      · have ed : decide (ks_can (mm_rk M) s (i : Int)) = true := decide_eq_true hcan
        -- the shares q
        have shares : ∀ q : Nat, q ≤ 21 → ∀ l9 l10 : mm_V, mm_J X Y_X13_next 243 243 243 90 [(2, 184), (0, s), (0, h), (0, (F : Int)), (0, L1), (0, L2), (0, (i : Int)), (0, ka_max (fun q => if F.testBit q = true then kg_C F f q 21 else 0) q), (0, (q : Int)), l9, l10] [] M Φ := by
          refine mm_lp ?_
          intro q hq ih2 l9 l10
          have hmb := ka_maxb (B := 21) (by decide) (n := q) (f := fun q => if F.testBit q = true then kg_C F f q 21 else 0) (fun j _ => by have := kg_Cb (F := F) (f := f) (q := j) (n := 21); split <;> omega)
          by_cases hql : q < 21
          · have eb := kx_bit (a := F) (k := q) (by omega) (by omega)
            have hfq := hfb q hql
            have efq : ks_p (mm_rk M) s (i : Int) (ks_wi (M 203) (mm_rk M) s h * (q : Int) / 10) = f q := by rw [hf]; rfl
            have others : ∀ o : Nat, o ≤ 21 → mm_J X Y_X13_next 243 243 243 103 [(2, 184), (0, s), (0, h), (0, (F : Int)), (0, L1), (0, L2), (0, (i : Int)), (0, ka_max (fun q => if F.testBit q = true then kg_C F f q 21 else 0) q), (0, (q : Int)), (0, if F.testBit q = true then kg_C F f q o else 0), (0, (o : Int))] [] M Φ := by
              refine mm_lp ?_
              intro o ho ih3
              have hCb := kg_Cb (F := F) (f := f) (q := q) (n := o)
              have hCb2 : 0 ≤ (if F.testBit q = true then kg_C F f q o else 0) ∧ (if F.testBit q = true then kg_C F f q o else 0) ≤ 21 := by split <;> omega
              by_cases hol : o < 21
              · have ebo := kx_bit (a := F) (k := o) (by omega) (by omega)
                have hfo := hfb o hol
                have efo : ks_p (mm_rk M) s (i : Int) (ks_wi (M 203) (mm_rk M) s h * (o : Int) / 10) = f o := by rw [hf]; rfl
                have ih3 := ih3 hol
                rw [kg_C_s] at ih3
                have nx : ∀ z : Int, z = (if F.testBit q = true ∧ F.testBit o = true ∧ f o = f q then 1 else 0) → mm_J X Y_X13_next 243 243 243 160 [(2, 184), (0, s), (0, h), (0, (F : Int)), (0, L1), (0, L2), (0, (i : Int)), (0, ka_max (fun q => if F.testBit q = true then kg_C F f q 21 else 0) q), (0, (q : Int)), (0, if F.testBit q = true then kg_C F f q o else 0), (0, (o : Int))] [(0, z), (0, if F.testBit q = true then kg_C F f q o else 0)] M Φ := by
                  intro z hz
                  have ez : (if F.testBit q = true then kg_C F f q o + (if F.testBit o = true ∧ f o = f q then 1 else 0) else 0) = (if F.testBit q = true then kg_C F f q o else 0) + z := by
                    rw [hz]
                    by_cases y : F.testBit q = true
                    · rw [if_pos y, if_pos y]
                      by_cases w : F.testBit o = true ∧ f o = f q
                      · rw [if_pos w, if_pos ⟨y, w⟩]
                      · rw [if_neg w, if_neg (fun v => w v.2)]
                    · rw [if_neg y, if_neg y, if_neg (fun v => y v.1)]; rfl
                  rw [ez] at ih3
                  refine mm_iadd dX13_next_160 rfl ?_
                  refine mm_istore dX13_next_161 rfl (Nat.le_of_ble_eq_true rfl) rfl ?_
                  refine mm_iinc dX13_next_163 rfl rfl (Nat.le_of_ble_eq_true rfl) rfl ?_
                  refine mm_goto dX13_next_166 ?_
                  exact ih3
                refine mm_iload dX13_next_103 rfl rfl ?_
                refine mm_bipush dX13_next_105 rfl (by decide) ?_
                refine mm_icge dX13_next_107 (by omega) (by omega) (fun h107 => ?_) (fun h107 => ?_)
                · exfalso; omega
                · refine mm_iload dX13_next_110 rfl rfl ?_
                  refine mm_iload_n dX13_next_112 rfl rfl ?_
                  refine mm_iload dX13_next_113 rfl rfl ?_
                  refine mm_ishr dX13_next_115 rfl ?_
                  refine mm_iconst dX13_next_116 rfl ?_
                  refine mm_iand dX13_next_117 rfl ?_
                  refine mm_iconst dX13_next_118 rfl ?_
                  rw [eb]
                  refine mm_icne dX13_next_119 (by split <;> omega) (by omega) (fun h119 => ?_) (fun h119 => ?_)
                  · refine mm_iconst dX13_next_159 rfl ?_
                    refine nx _ ?_
                    first
                    | (rw [if_pos ⟨by by_cases y : F.testBit q = true
                                      · exact y
                                      · rw [if_neg y] at h119; exact absurd h119 (by decide), by by_cases y : F.testBit o = true
                                                                                                 · exact y
                                                                                                 · rw [if_neg y] at h129; exact absurd h129 (by decide), h152.symm⟩]; done)
                    | (rw [if_neg (fun z => h152 z.2.2.symm)]; done)
                    | (rw [if_neg (fun z => by rw [if_pos z.2.1] at h129; exact h129 rfl)]; done)
                    | (rw [if_neg (fun z => by rw [if_pos z.1] at h119; exact h119 rfl)]; done)
                  · refine mm_iload_n dX13_next_122 rfl rfl ?_
                    refine mm_iload dX13_next_123 rfl rfl ?_
                    refine mm_ishr dX13_next_125 rfl ?_
                    refine mm_iconst dX13_next_126 rfl ?_
                    refine mm_iand dX13_next_127 rfl ?_
                    refine mm_iconst dX13_next_128 rfl ?_
                    rw [ebo]
                    refine mm_icne dX13_next_129 (by split <;> omega) (by omega) (fun h129 => ?_) (fun h129 => ?_)
                    · refine mm_iconst dX13_next_159 rfl ?_
                      refine nx _ ?_
                      first
                      | (rw [if_pos ⟨by by_cases y : F.testBit q = true
                                        · exact y
                                        · rw [if_neg y] at h119; exact absurd h119 (by decide), by by_cases y : F.testBit o = true
                                                                                                   · exact y
                                                                                                   · rw [if_neg y] at h129; exact absurd h129 (by decide), h152.symm⟩]; done)
                      | (rw [if_neg (fun z => h152 z.2.2.symm)]; done)
                      | (rw [if_neg (fun z => by rw [if_pos z.2.1] at h129; exact h129 rfl)]; done)
                      | (rw [if_neg (fun z => by rw [if_pos z.1] at h119; exact h119 rfl)]; done)
                    · refine mm_aload_n dX13_next_132 rfl rfl ?_
                      refine mm_iload_n dX13_next_133 rfl rfl ?_
                      refine mm_iload dX13_next_134 rfl rfl ?_
                      refine mm_iload_n dX13_next_136 rfl rfl ?_
                      refine mm_iload dX13_next_137 rfl rfl ?_
                      refine mm_V4i dX13_next_139 rfl lk_X13_709 (c := 183) rfl (by decide) rfl (by simp) (by simp) (by simp) (by simp) rfl rfl rfl ((efq ▸ c_X13_pullBy hR hK hA hs hac hh (by omega))) ?_
                      refine mm_aload_n dX13_next_142 rfl rfl ?_
                      refine mm_iload_n dX13_next_143 rfl rfl ?_
                      refine mm_iload dX13_next_144 rfl rfl ?_
                      refine mm_iload_n dX13_next_146 rfl rfl ?_
                      refine mm_iload dX13_next_147 rfl rfl ?_
                      refine mm_V4i dX13_next_149 rfl lk_X13_709 (c := 183) rfl (by decide) rfl (by simp) (by simp) (by simp) (by simp) rfl rfl rfl ((efo ▸ c_X13_pullBy hR hK hA hs hac hh (by omega))) ?_
                      refine mm_icne dX13_next_152 (by omega) (by omega) (fun h152 => ?_) (fun h152 => ?_)
                      · refine mm_iconst dX13_next_159 rfl ?_
                        refine nx _ ?_
                        first
                        | (rw [if_pos ⟨by by_cases y : F.testBit q = true
                                          · exact y
                                          · rw [if_neg y] at h119; exact absurd h119 (by decide), by by_cases y : F.testBit o = true
                                                                                                     · exact y
                                                                                                     · rw [if_neg y] at h129; exact absurd h129 (by decide), h152.symm⟩]; done)
                        | (rw [if_neg (fun z => h152 z.2.2.symm)]; done)
                        | (rw [if_neg (fun z => by rw [if_pos z.2.1] at h129; exact h129 rfl)]; done)
                        | (rw [if_neg (fun z => by rw [if_pos z.1] at h119; exact h119 rfl)]; done)
                      · refine mm_iconst dX13_next_155 rfl ?_
                        refine mm_goto dX13_next_156 ?_
                        refine nx _ ?_
                        first
                        | (rw [if_pos ⟨by by_cases y : F.testBit q = true
                                          · exact y
                                          · rw [if_neg y] at h119; exact absurd h119 (by decide), by by_cases y : F.testBit o = true
                                                                                                     · exact y
                                                                                                     · rw [if_neg y] at h129; exact absurd h129 (by decide), h152.symm⟩]; done)
                        | (rw [if_neg (fun z => h152 z.2.2.symm)]; done)
                        | (rw [if_neg (fun z => by rw [if_pos z.2.1] at h129; exact h129 rfl)]; done)
                        | (rw [if_neg (fun z => by rw [if_pos z.1] at h119; exact h119 rfl)]; done)
              · have eo : o = 21 := by omega
                have ih2 := ih2 hql
                rw [ka_max] at ih2
                refine mm_iload dX13_next_103 rfl rfl ?_
                refine mm_bipush dX13_next_105 rfl (by decide) ?_
                refine mm_icge dX13_next_107 (by omega) (by omega) (fun h107 => ?_) (fun h107 => ?_)
                · refine mm_iload dX13_next_169 rfl rfl ?_
                  refine mm_iload dX13_next_171 rfl rfl ?_
                  refine mm_max dX13_next_173 rfl lm_X13_518 rfl rfl (by simp) (by omega) (by omega) ?_
                  refine mm_istore dX13_next_176 rfl (Nat.le_of_ble_eq_true rfl) rfl ?_
                  refine mm_iinc dX13_next_178 rfl rfl (Nat.le_of_ble_eq_true rfl) rfl ?_
                  refine mm_goto dX13_next_181 ?_
                  rw [eo]
                  exact ih2 _ _
                · exfalso; omega
            refine mm_iload dX13_next_90 rfl rfl ?_
            refine mm_bipush dX13_next_92 rfl (by decide) ?_
            refine mm_icge dX13_next_94 (by omega) (by omega) (fun h94 => ?_) (fun h94 => ?_)
            · exfalso; omega
            · refine mm_iconst dX13_next_97 rfl ?_
              refine mm_istore dX13_next_98 rfl (Nat.le_of_ble_eq_true rfl) rfl ?_
              refine mm_iconst dX13_next_100 rfl ?_
              refine mm_istore dX13_next_101 rfl (Nat.le_of_ble_eq_true rfl) rfl ?_
              have := others 0 (by decide)
              rw [show (if F.testBit q = true then kg_C F f q 0 else 0) = 0 by split <;> rfl] at this
              exact this
          · have eq : q = 21 := by omega
            have eh : ka_max (fun q => if F.testBit q = true then kg_C F f q 21 else 0) q = kg_heap F f := by rw [eq]; rfl
            rw [eh]
            refine mm_iload dX13_next_90 rfl rfl ?_
            refine mm_bipush dX13_next_92 rfl (by decide) ?_
            refine mm_icge dX13_next_94 (by omega) (by omega) (fun h94 => ?_) (fun h94 => ?_)
            · refine mm_iload dX13_next_184 rfl rfl ?_
              refine mm_iload dX13_next_186 rfl rfl ?_
              refine mm_iclt dX13_next_188 (by omega) (by omega) (fun h188 => ?_) (fun h188 => ?_)
              · refine mm_iload dX13_next_194 rfl rfl ?_
                refine mm_istore dX13_next_196 rfl (Nat.le_of_ble_eq_true rfl) rfl ?_
                refine mm_iload dX13_next_198 rfl rfl ?_
                refine mm_istore dX13_next_200 rfl (Nat.le_of_ble_eq_true rfl) rfl ?_
                refine mm_iinc dX13_next_202 rfl rfl (Nat.le_of_ble_eq_true rfl) rfl ?_
                refine mm_goto dX13_next_205 ?_
                first
                | (rw [if_pos ⟨ed, by omega⟩] at ih; exact ih _ _ _ _)
                | (rw [if_neg (fun z => absurd z.2 (by omega)), ← hL1, ← hL2] at ih; exact ih _ _ _ _)
              · refine mm_goto dX13_next_191 ?_
                refine mm_iinc dX13_next_202 rfl rfl (Nat.le_of_ble_eq_true rfl) rfl ?_
                refine mm_goto dX13_next_205 ?_
                first
                | (rw [if_pos ⟨ed, by omega⟩] at ih; exact ih _ _ _ _)
                | (rw [if_neg (fun z => absurd z.2 (by omega)), ← hL1, ← hL2] at ih; exact ih _ _ _ _)
            · exfalso; omega
        rw [← hL1, ← hL2]
        clear hcan
        refine mm_iload dX13_next_62 rfl rfl ?_
        refine mm_aload_n dX13_next_64 rfl rfl ?_
        refine mm_V0i dX13_next_65 rfl lk_X13_461 (c := 183) rfl (by decide) rfl  rfl rfl rfl (c_X13_acts hR) ?_
        refine mm_icge dX13_next_68 (by omega) (by omega) (fun h68 => ?_) (fun h68 => ?_)
        · exfalso; omega
        · refine mm_aload_n dX13_next_71 rfl rfl ?_
          refine mm_iload_n dX13_next_72 rfl rfl ?_
          refine mm_iload dX13_next_73 rfl rfl ?_
          refine mm_V2i dX13_next_75 rfl lk_X13_473 (c := 183) rfl (by decide) rfl (by simp) (by simp) rfl rfl rfl (c_X13_canDo hR hK hs (by omega)) ?_
          refine mm_ifneb dX13_next_78 (fun h78 => ?_) (fun h78 => ?_)
          · clear h78
            refine mm_iconst dX13_next_84 rfl ?_
            refine mm_istore dX13_next_85 rfl (Nat.le_of_ble_eq_true rfl) rfl ?_
            refine mm_iconst dX13_next_87 rfl ?_
            refine mm_istore dX13_next_88 rfl (Nat.le_of_ble_eq_true rfl) rfl ?_
            exact shares 0 (by decide) _ _
          · exact absurd (of_decide_eq_true ed) h78
      · rw [if_neg (fun z => hcan (of_decide_eq_true z.1))] at ih
        refine mm_iload dX13_next_62 rfl rfl ?_
        refine mm_aload_n dX13_next_64 rfl rfl ?_
        refine mm_V0i dX13_next_65 rfl lk_X13_461 (c := 183) rfl (by decide) rfl  rfl rfl rfl (c_X13_acts hR) ?_
        refine mm_icge dX13_next_68 (by omega) (by omega) (fun h68 => ?_) (fun h68 => ?_)
        · exfalso; omega
        · refine mm_aload_n dX13_next_71 rfl rfl ?_
          refine mm_iload_n dX13_next_72 rfl rfl ?_
          refine mm_iload dX13_next_73 rfl rfl ?_
          refine mm_V2i dX13_next_75 rfl lk_X13_473 (c := 183) rfl (by decide) rfl (by simp) (by simp) rfl rfl rfl (c_X13_canDo hR hK hs (by omega)) ?_
          refine mm_ifneb dX13_next_78 (fun h78 => ?_) (fun h78 => ?_)
          · exact absurd h78 hcan
          · refine mm_goto dX13_next_81 ?_
            refine mm_iinc dX13_next_202 rfl rfl (Nat.le_of_ble_eq_true rfl) rfl ?_
            refine mm_goto dX13_next_205 ?_
            exact ih _ _ _ _
    · have ei : i = (15 * mm_rk M 10).toNat := by omega
      rw [hΦ]
      refine mm_iload dX13_next_62 rfl rfl ?_
      refine mm_aload_n dX13_next_64 rfl rfl ?_
      refine mm_V0i dX13_next_65 rfl lk_X13_461 (c := 183) rfl (by decide) rfl  rfl rfl rfl (c_X13_acts hR) ?_
      refine mm_icge dX13_next_68 (by omega) (by omega) (fun h68 => ?_) (fun h68 => ?_)
      · refine mm_iload dX13_next_208 rfl rfl ?_
        refine mm_iret dX13_next_210 rfl rfl ?_
        exact ⟨F, by unfold kg_next; rw [ei], hR, rfl, hF⟩
      · exfalso; omega
  have count : ∀ F : Nat, kg_set (kg_fR M 999) F → ∀ i : Nat, i ≤ 21 → ∀ l6 l7 l8 l9 l10 : mm_V, mm_J X Y_X13_next 243 243 243 32 [(2, 184), (0, s), (0, h), (0, (F : Int)), (0, ka_sum (fun q => if F.testBit q = true then 1 else 0) i), (0, (i : Int)), l6, l7, l8, l9, l10] [] M Φ := by
    intro F hF
    have hF1 := hF.1
    refine mm_lp ?_
    intro i hi ih l6 l7 l8 l9 l10
    by_cases hlt : i < 21
    · have eb := kx_bit (a := F) (k := i) (by omega) (by omega)
      have ih := ih hlt
      rw [ka_sum] at ih
      refine mm_iload dX13_next_32 rfl rfl ?_
      refine mm_bipush dX13_next_34 rfl (by decide) ?_
      refine mm_icge dX13_next_36 (by omega) (by omega) (fun h36 => ?_) (fun h36 => ?_)
      · exfalso; omega
      · refine mm_iload dX13_next_39 rfl rfl ?_
        refine mm_iload_n dX13_next_41 rfl rfl ?_
        refine mm_iload dX13_next_42 rfl rfl ?_
        refine mm_ishr dX13_next_44 rfl ?_
        refine mm_iconst dX13_next_45 rfl ?_
        refine mm_iand dX13_next_46 rfl ?_
        rw [eb]
        refine mm_iadd dX13_next_47 rfl ?_
        refine mm_istore dX13_next_48 rfl (Nat.le_of_ble_eq_true rfl) rfl ?_
        refine mm_iinc dX13_next_50 rfl rfl (Nat.le_of_ble_eq_true rfl) rfl ?_
        refine mm_goto dX13_next_53 ?_
        exact ih _ _ _ _ _
    · have ei : i = 21 := by omega
      have en : ka_sum (fun q => if F.testBit q = true then (1 : Int) else 0) i = kx_n F := by rw [ei]; rfl
      rw [en]
      refine mm_iload dX13_next_32 rfl rfl ?_
      refine mm_bipush dX13_next_34 rfl (by decide) ?_
      refine mm_icge dX13_next_36 (by omega) (by omega) (fun h36 => ?_) (fun h36 => ?_)
      · refine mm_iconst dX13_next_56 rfl ?_
        refine mm_istore dX13_next_57 rfl (Nat.le_of_ble_eq_true rfl) rfl ?_
        refine mm_iconst dX13_next_59 rfl ?_
        refine mm_istore dX13_next_60 rfl (Nat.le_of_ble_eq_true rfl) rfl ?_
        exact acts F hF 0 (Nat.zero_le _) _ _ _ _
      · exfalso; omega
  refine mm_aload_n dX13_next_0 rfl rfl ?_
  refine mm_iload_n dX13_next_1 rfl rfl ?_
  refine mm_V1i dX13_next_2 rfl lk_X13_464 (c := 183) rfl (by decide) rfl (by simp) rfl rfl rfl (c_X13_isState hR hK (by omega)) ?_
  refine mm_ifeqb dX13_next_5 (fun h5 => ?_) (fun h5 => ?_)
  · exact absurd hs h5
  · refine mm_iload_n dX13_next_8 rfl rfl ?_
    refine mm_S1i dX13_next_9 rfl lk_X13_486 (by simp) rfl rfl rfl (c_X13_isHour (by omega)) ?_
    refine mm_ifneb dX13_next_12 (fun h12 => ?_) (fun h12 => ?_)
    · refine mm_aload_n dX13_next_18 rfl rfl ?_
      refine mm_sipush dX13_next_19 rfl (by decide) ?_
      refine mm_V1g (M1 := M) dX13_next_22 rfl lk_X13_721 (c := 183) rfl (by decide) rfl (by simp) rfl rfl rfl (c_X13_fitOf hR hK hA hG (by omega)) ?_
      rintro _ N22 ⟨x22, rfl, p22⟩
      change mm_J _ _ _ _ _ _ _ _ _ _
      have hR22 : mm_Rf N22 := p22.1
      obtain ⟨-, eN, hF⟩ := p22
      rw [eN]
      refine mm_istore_n dX13_next_25 rfl (Nat.le_of_ble_eq_true rfl) rfl ?_
      refine mm_iconst dX13_next_26 rfl ?_
      refine mm_istore dX13_next_27 rfl (Nat.le_of_ble_eq_true rfl) rfl ?_
      refine mm_iconst dX13_next_29 rfl ?_
      refine mm_istore dX13_next_30 rfl (Nat.le_of_ble_eq_true rfl) rfl ?_
      exact count x22 hF 0 (by decide) _ _ _ _ _
    · exact absurd hh h12
theorem c_X13_next0 (hR : mm_Rf M) (hK : mm_KV (mm_rk M)) (hs : mm_R s) (hh : mm_R h) (hno : ¬ (ks_st (mm_rk M) s ∧ ks_hr h)) : mm_Fn X Y_X13_next 243 [(2, 184), (0, s), (0, h)] M (0, -2) M := by
  refine mm_startF (ls := [(2, 184), (0, s), (0, h), (9, 0), (9, 0), (9, 0), (9, 0), (9, 0), (9, 0), (9, 0), (9, 0)]) rfl ?_
  refine mm_aload_n dX13_next_0 rfl rfl ?_
  refine mm_iload_n dX13_next_1 rfl rfl ?_
  refine mm_V1i dX13_next_2 rfl lk_X13_464 (c := 183) rfl (by decide) rfl (by simp) rfl rfl rfl (c_X13_isState hR hK (by omega)) ?_
  refine mm_ifeqb dX13_next_5 (fun h5 => ?_) (fun h5 => ?_)
  · refine mm_bipush dX13_next_15 rfl (by decide) ?_
    refine mm_iret dX13_next_17 rfl rfl ?_
    exact mm_fin rfl rfl
  · refine mm_iload_n dX13_next_8 rfl rfl ?_
    refine mm_S1i dX13_next_9 rfl lk_X13_486 (by simp) rfl rfl rfl (c_X13_isHour (by omega)) ?_
    refine mm_ifneb dX13_next_12 (fun h12 => ?_) (fun h12 => ?_)
    · exact absurd ⟨h5, h12⟩ hno
    · refine mm_bipush dX13_next_15 rfl (by decide) ?_
      refine mm_iret dX13_next_17 rfl rfl ?_
      exact mm_fin rfl rfl
end
end
/-! 92.str -/
section
/-! ===== texts that are constants ===== -/
def ks_L (k : Nat) : Nat := (mm_sc.getD k mm_sd).2.2.2.length
def ks_B (k j : Nat) : Int := (mm_sc.getD k mm_sd).2.2.2.getD j 0
theorem ks_LB : ∀ k, k < 37 → ks_L k ≤ 100 ∧ 1 ≤ ks_L k := by decide +kernel
theorem ks_BB : ∀ k, k < 37 → ∀ j, j < ks_L k → 0 ≤ ks_B k j ∧ ks_B k j ≤ 127 := by decide +kernel
section
variable {X : mm_X} {Y Y' : mm_Y} {n0 n1 n pc q idx k0 na : Nat} {ls st stk as : List mm_V} {M M1 : mm_M} {Φ Ψ : mm_V → mm_M → Prop} {r j x : Int}
theorem mm_lds (hd : mm_D Y.2.1 pc q (.ldc idx)) (hq : pc + 2 = q) (hk : k0 < 37) (hc : (mm_sc.getD k0 mm_sd).1 = Y.1.cls) (hi : (mm_sc.getD k0 mm_sd).2.1 = idx) (k : mm_J X Y n0 n1 n q ls ((2, -((k0 + 100 : Nat) : Int)) :: st) M Φ) : mm_J X Y n0 n1 n pc ls st M Φ := by
  subst hq
  intro p l e R s m args below meth cd D cA bs ro H locs lsr Cx hP hS hL
  obtain ⟨hx, hb, -, -, hown, hT, -, -, -, -, -, -, -, hK, hRo, -⟩ := id Cx
  have kk := k p l e R s m args below meth cd D cA bs ro H locs lsr Cx hP hS hL
  rw [List.map_cons, mm_v2n _ _ _ (by omega)] at kk
  have hZ := (hRo.2.2.2.1 k0 hk).1
  rw [hi] at hZ
  rw [← hc] at hown
  exact va_ldcS hx hb hown hZ (by simpa using hd.1) kk
theorem mm_gsv (hd : mm_D Y.2.1 pc q (.getfield idx)) (hq : pc + 3 = q) (hr : r = -((k0 + 100 : Nat) : Int)) (hk : k0 < 37) (hw : mm_Wk (.fieldLink Y.1.cls idx "java/lang/String" "value" "[B")) (k : mm_J X Y n0 n1 n q ls ((2, -((k0 + 200 : Nat) : Int)) :: st) M Φ) : mm_J X Y n0 n1 n pc ls ((2, r) :: st) M Φ := by
  subst hq; subst hr
  intro p l e R s m args below meth cd D cA bs ro H locs lsr Cx hP hS hL
  obtain ⟨hx, hb, -, -, hown, hT, -, -, -, -, -, -, -, hK, hRo, -⟩ := id Cx
  have kk := k p l e R s m args below meth cd D cA bs ro H locs lsr Cx hP hS hL
  rw [List.map_cons, mm_v2n _ _ _ (by omega)] at kk ⊢
  exact vk_getf hx hb (hRo.2.2.2.1 k0 hk).2.2.2.1 hS hown (hT.at hw) (fun _ h => h) (by simpa using hd.1) kk
theorem mm_gsc (hd : mm_D Y.2.1 pc q (.getfield idx)) (hq : pc + 3 = q) (hr : r = -((k0 + 100 : Nat) : Int)) (hk : k0 < 37) (hw : mm_Wk (.fieldLink Y.1.cls idx "java/lang/String" "coder" "B")) (k : mm_J X Y n0 n1 n q ls ((0, 0) :: st) M Φ) : mm_J X Y n0 n1 n pc ls ((2, r) :: st) M Φ := by
  subst hq; subst hr
  intro p l e R s m args below meth cd D cA bs ro H locs lsr Cx hP hS hL
  obtain ⟨hx, hb, -, -, hown, hT, -, -, -, -, -, -, -, hK, hRo, -⟩ := id Cx
  have kk := k p l e R s m args below meth cd D cA bs ro H locs lsr Cx hP hS hL
  rw [List.map_cons, mm_v2n _ _ _ (by omega)]
  exact vk_getf hx hb (hRo.2.2.2.1 k0 hk).2.2.1 hS hown (hT.at hw) (fun _ h => h) (by simpa using hd.1) kk
theorem mm_gcs (hd : mm_D Y.2.1 pc q (.getstatic idx)) (hq : pc + 3 = q) (hw : mm_Wk (.fieldLink Y.1.cls idx "java/lang/String" "COMPACT_STRINGS" "Z")) (k : mm_J X Y n0 n1 n q ls ((0, 1) :: st) M Φ) : mm_J X Y n0 n1 n pc ls st M Φ := by
  subst hq
  intro p l e R s m args below meth cd D cA bs ro H locs lsr Cx hP hS hL
  obtain ⟨hx, hb, -, -, hown, hT, -, -, -, -, -, -, -, hK, hRo, -⟩ := id Cx
  have kk := k p l e R s m args below meth cd D cA bs ro H locs lsr Cx hP hS hL
  exact va_gets hx hb hRo.2.2.1 hS hown (hT.at hw) (fun _ h => h) (by simpa using hd.1) kk
theorem mm_gzq {j0 : Nat} (hd : mm_D Y.2.1 pc q (.getstatic idx)) (hq : pc + 3 = q) (hj : j0 < 3) (hw : mm_Wk (.fieldLink Y.1.cls idx (mm_zq.getD j0 ("", "", "")).1 (mm_zq.getD j0 ("", "", "")).2.1 (mm_zq.getD j0 ("", "", "")).2.2)) (k : ∀ r : Int, mm_J X Y n0 n1 n q ls ((2, r) :: st) M Φ) : mm_J X Y n0 n1 n pc ls st M Φ := by
  subst hq
  intro p l e R s m args below meth cd D cA bs ro H locs lsr Cx hP hS hL
  obtain ⟨hx, hb, -, -, hown, hT, -, -, -, -, -, -, -, hK, hRo, -⟩ := id Cx
  rcases hRo.2.2.2.2.2.2 j0 hj with hZ | hZ
  · have kk := k 0 p l e R s m args below meth cd D cA bs ro H locs lsr Cx hP hS hL
    rw [List.map_cons, mm_v20] at kk
    exact va_gets hx hb hZ hS hown (hT.at hw) (fun _ h => h) (by simpa using hd.1) kk
  · have kk := k (-((50 + j0 : Nat) : Int)) p l e R s m args below meth cd D cA bs ro H locs lsr Cx hP hS hL
    rw [List.map_cons, mm_v2n _ _ _ (by omega)] at kk
    exact va_gets hx hb hZ hS hown (hT.at hw) (fun _ h => h) (by simpa using hd.1) kk
theorem mm_alst (hd : mm_D Y.2.1 pc q .arraylength) (hq : pc + 1 = q) (hr : r = -((k0 + 200 : Nat) : Int)) (hk : k0 < 37) (k : mm_J X Y n0 n1 n q ls ((0, (ks_L k0 : Int)) :: st) M Φ) : mm_J X Y n0 n1 n pc ls ((2, r) :: st) M Φ := by
  subst hq; subst hr
  intro p l e R s m args below meth cd D cA bs ro H locs lsr Cx hP hS hL
  obtain ⟨hx, hb, -, -, hown, hT, -, -, -, -, -, -, -, hK, hRo, -⟩ := id Cx
  obtain ⟨cell, g1, g2, g3, g4, g5, g6, g7⟩ := (hRo.2.2.2.1 k0 hk).2.2.2.2
  have hb2 : ro (k0 + 200) < s.heap.size := (Array.getElem?_eq_some_iff.mp g1).1
  rw [List.map_cons, mm_v2n _ _ _ (by omega)]
  refine W.alen hx hb (n := mm_i ((ks_L k0 : Nat) : Int)) (by rw [hS.2.1 _ hb2 g7]; exact g1) g2 ?_ rfl rfl (by simpa using hd.1) (k p l e R s m args below meth cd D cA bs ro H locs lsr Cx hP hS hL)
  rw [g5]
  exact (Int32.ofInt_eq_ofNat).symm
theorem mm_bast2 (hd : mm_D Y.2.1 pc q .baload) (hq : pc + 1 = q) (hr : r = -((k0 + 200 : Nat) : Int)) (hk : k0 < 37) (h0 : 0 ≤ j) (h1 : j < (ks_L k0 : Int)) (k : mm_J X Y n0 n1 n q ls ((0, ks_B k0 j.toNat) :: st) M Φ) : mm_J X Y n0 n1 n pc ls ((0, j) :: (2, r) :: st) M Φ := by
  subst hq; subst hr
  intro p l e R s m args below meth cd D cA bs ro H locs lsr Cx hP hS hL
  obtain ⟨hx, hb, -, -, hown, hT, -, -, -, -, -, -, -, hK, hRo, -⟩ := id Cx
  obtain ⟨cell, g1, g2, g3, g4, g5, g6, g7⟩ := (hRo.2.2.2.1 k0 hk).2.2.2.2
  have hb2 : ro (k0 + 200) < s.heap.size := (Array.getElem?_eq_some_iff.mp g1).1
  have hLb := (ks_LB k0 hk).1
  rw [List.map_cons, List.map_cons, mm_v2n _ _ _ (by omega)]
  refine W.bald hx hb (v := .int (mm_i (ks_B k0 j.toNat))) (by rw [hS.2.1 _ hb2 g7]; exact g1) g2 g3 ?_ ?_ rfl rfl (by simpa using hd.1) (k p l e R s m args below meth cd D cA bs ro H locs lsr Cx hP hS hL)
  · have := mm_i_in h0 h1 (by omega)
    intro h
    apply this
    rcases h with h | h
    · exact Or.inl h
    · exact Or.inr (Nat.le_trans g4 h)
  · rw [mm_i_clamp h0 (by omega)]
    exact g6 _ (by unfold ks_L at h1; omega)
theorem mm_i2c (hd : mm_D Y.2.1 pc q .i2c) (hq : pc + 1 = q) (hx : 0 ≤ x ∧ x ≤ 255) (k : mm_J X Y n0 n1 n q ls ((0, x) :: st) M Φ) : mm_J X Y n0 n1 n pc ls ((0, x) :: st) M Φ := by
  subst hq
  refine mm_go (fun p l e R s m args below meth c D cA bs ro H locs lsr cells slots Q hx' hb hL kk => ?_) k
  refine lv_i2c hx' hb (by simpa using hd.1) (v := mm_i x) ?_ kk
  obtain ⟨y, rfl⟩ : ∃ y : Nat, x = (y : Int) := ⟨x.toNat, by omega⟩
  have hy : y < 256 := by omega
  clear hx k kk
  revert y
  decide +kernel
theorem mm_nret {ty : FieldType} (hd : mm_D Y.2.1 pc q .ireturn) (hq : pc + 1 = q) (hr : Y.2.2.2.1 = some ty) (hn : narrow ty (.int (mm_i x)) = .int (mm_i x)) (hΦ : Φ (0, x) M) : mm_J X Y n0 n n pc ls [(0, x)] M Φ := by
  subst hq
  intro p l e R s m args below meth cd D cA bs ro H locs lsr Cx hP hS hL
  obtain ⟨hx, hb, hrt, -, hown, hT, hlk, -, -, -, -, -, -, hK, hRo, -⟩ := id Cx
  refine mm_mono (W.zret (Qc := fun _ _ o' t => o' = .returned (some (.int (mm_i x))) ∧ t.heap = H) (free := fun q => bs ≤ q) hx hb (hrt.trans hr) hn (fun t h1 h2 => ⟨rfl, h1⟩) hS.2.2 (by simpa using hd.1) hlk) (mm_end (p := p) (R := R) (m := m) (meth := meth) (cd := cd) (rv := (0, x)) rfl hP hS hΦ)
theorem mm_nch (hx : 0 ≤ x ∧ x ≤ 255) : narrow .char (.int (mm_i x)) = .int (mm_i x) := by
  obtain ⟨y, rfl⟩ : ∃ y : Nat, x = (y : Int) := ⟨x.toNat, by omega⟩
  have hy : y < 256 := by omega
  clear hx
  revert y
  decide +kernel
/-- a call on a text -/
def mm_LVs (own : String) (idx : Nat) (Y' : mm_Y) (na : Nat) : Prop := mm_Lc own idx Y' na ∧ mm_Wk (.instanceMethod Y'.1) ∧ mm_Wk (.selects "java/lang/String" Y'.1 Y'.1)
theorem mm_callVs (hd : mm_D Y.2.1 pc q (.invokevirtual idx)) (hq : pc + 3 = q) (hw : mm_LVs Y.1.cls idx Y' na) (hr : r = -((k0 + 100 : Nat) : Int)) (hk0 : k0 < 37) (hna : as.length = na) (hst : stk = as.reverse ++ (2, r) :: st)
    {n' : Nat} (hn : mm_le n0 n n' n1) (h9 : ∀ v ∈ as, v.1 ≠ 9) (hpad : (mm_dbl ((2, r) :: as)).length ≤ Y'.2.2.1) (hfr : Y'.2.2.2.2.1 + 1 ≤ Y.2.2.2.2.1) (hlo : mm_wd st + (Y'.2.2.1 + 11) + Y'.2.2.2.2.2.1 ≤ Y.2.2.2.2.2.1)
    (hC : mm_C X Y' n n' ((2, r) :: as) M Ψ) (hk : ∀ r M', Ψ r M' → mm_Kc X Y n0 n1 n' q ls st Φ r M') : mm_J X Y n0 n1 n pc ls stk M Φ := by
  subst hst
  intro p l e R s m args below meth cd D cA bs ro H locs lsr Cx hP hS hL
  obtain ⟨hx, hb, -, hml, hown, hT, -, -, -, -, -, -, -, hK, hRo, -⟩ := id Cx
  obtain ⟨⟨w1, w2, w3, w4, w5⟩, w6, w8⟩ := hw
  have h9' : ∀ v ∈ (2, r) :: as, v.1 ≠ 9 := by
    intro v hv
    rcases List.mem_cons.mp hv with rfl | hv
    · show (2 : Nat) ≠ 9
      decide
    · exact h9 v hv
  have hd3 : decode Y.2.1 pc = .ok (.invokevirtual idx, 3) := by
    have := hd.1
    rw [← hq] at this
    simpa using this
  refine mm_callx (ig := .invokevirtual idx) Cx hP hS hL hn w3 h9' hpad (hT.at w2) w2.2 hfr hlo hd3 hq ?_ hC hk
  intro T hTH X0
  obtain ⟨cell, q1, q3, hcls, q4⟩ := (hRo.2.2.2.1 k0 hk0).2.1
  have hb2 : ro (k0 + 100) < s.heap.size := (Array.getElem?_eq_some_iff.mp q1).1
  have q1' : H[ro (k0 + 100)]? = some cell := by rw [hS.2.1 _ hb2 q4]; exact q1
  obtain ⟨mk, methM, hnamed, hmethM, hstM, habM⟩ := Cond.instanceMethod_spec (hT.at w6)
  obtain ⟨mk2, methM', cM, hn2, hmethM', -, -, -, -, -, -, hsigM⟩ := mm_cw_spec (hT.at w2)
  cases hnamed.symm.trans hn2
  cases hmethM.symm.trans hmethM'
  obtain ⟨c2, r2, m2, z1, z2, z3, z4, kP, hkP, hkPi⟩ := Cond.selects_spec (hT.at w8)
  cases hcls.symm.trans z1
  cases (State.methodFound?_of_named hnamed w4).symm.trans z2
  cases hnamed.symm.trans z3
  have hselP : selectMethod e.platform s.vm cell.cls mk = .method mk := by rw [Launch.admits_selectMethod X0.admits]; exact z4
  obtain ⟨vm₁, X₁, hstep₁⟩ := X0.invokevirtual hx hown (hT.at w1) hnamed hmethM hstM hkP hkPi w4 (a := ro (k0 + 100)) (cell := cell) (by rw [hTH]; exact q1')
    (fun z h => by rw [h] at q3; cases q3) hselP hmethM habM hkP hkPi (g := F0 m pc lsr ((as.reverse ++ (2, r) :: st).map (mm_v bs ro))) rfl (argsL := as.map (mm_v bs ro)) (rest := st.map (mm_v bs ro)) (by rw [List.length_map, hna]; exact mm_lenOf w5 hsigM)
    (by rw [List.map_append, List.map_cons, List.map_reverse, hr, mm_v2n _ _ _ (by omega)]) (by rw [hb]; exact hd3)
  refine ⟨vm₁, mk, X₁, hnamed, fun target h => hstep₁ target (fun acts => ?_)⟩
  have := h acts
  rw [List.map_cons, hr, mm_v2n _ _ _ (by omega)] at this
  exact this
theorem mm_VS0i (hd : mm_D Y.2.1 pc q (.invokevirtual idx)) (hq : pc + 3 = q) (hw : mm_LVs Y.1.cls idx Y' 0) (hr : r = -((k0 + 100 : Nat) : Int)) (hk0 : k0 < 37) (hpad : Nat.ble (mm_dbl [(2, r)]).length Y'.2.2.1 = true) (hfr : Nat.ble (Y'.2.2.2.2.1 + 1) Y.2.2.2.2.1 = true) (hlo : Nat.ble (mm_wd st + (Y'.2.2.1 + 11) + Y'.2.2.2.2.2.1) Y.2.2.2.2.2.1 = true)
    (hC : mm_Fn X Y' n [(2, r)] M (0, x) M1) (k : mm_J X Y n n n q ls ((0, x) :: st) M1 Φ) : mm_J X Y n n n pc ls ((2, r) :: st) M Φ := by
  refine mm_callVs hd hq hw hr hk0 (as := []) rfl rfl (mm_le_rf n) (by simp) (Nat.le_of_ble_eq_true hpad) (Nat.le_of_ble_eq_true hfr) (Nat.le_of_ble_eq_true hlo) hC ?_
  rintro _ _ ⟨rfl, rfl⟩
  exact k
theorem mm_VS1i {v1 : mm_V} (hd : mm_D Y.2.1 pc q (.invokevirtual idx)) (hq : pc + 3 = q) (hw : mm_LVs Y.1.cls idx Y' 1) (hr : r = -((k0 + 100 : Nat) : Int)) (hk0 : k0 < 37) (hv1 : v1.1 ≠ 9) (hpad : Nat.ble (mm_dbl [(2, r), v1]).length Y'.2.2.1 = true) (hfr : Nat.ble (Y'.2.2.2.2.1 + 1) Y.2.2.2.2.1 = true) (hlo : Nat.ble (mm_wd st + (Y'.2.2.1 + 11) + Y'.2.2.2.2.2.1) Y.2.2.2.2.2.1 = true)
    (hC : mm_Fn X Y' n [(2, r), v1] M (0, x) M1) (k : mm_J X Y n n n q ls ((0, x) :: st) M1 Φ) : mm_J X Y n n n pc ls (v1 :: (2, r) :: st) M Φ := by
  refine mm_callVs hd hq hw hr hk0 (as := [v1]) rfl rfl (mm_le_rf n) (by simpa using hv1) (Nat.le_of_ble_eq_true hpad) (Nat.le_of_ble_eq_true hfr) (Nat.le_of_ble_eq_true hlo) hC ?_
  rintro _ _ ⟨rfl, rfl⟩
  exact k
end
theorem ls_X10_53 : mm_LVs RX10 53 Y_J0_length_8abf5 0 := ⟨⟨mm_w1 2 134 rfl rfl, cw_J0_length_8abf5, by decide +kernel, ⟨by decide +kernel, by decide +kernel⟩, by decide +kernel⟩, mm_w1 2 135 rfl rfl, mm_w1 2 136 rfl rfl⟩
theorem ls_X10_58 : mm_LVs RX10 58 Y_J0_charAt_5068e 1 := ⟨⟨mm_w1 2 144 rfl rfl, cw_J0_charAt_5068e, by decide +kernel, ⟨by decide +kernel, by decide +kernel⟩, by decide +kernel⟩, mm_w1 2 145 rfl rfl, mm_w1 2 146 rfl rfl⟩
theorem ls_X13_50 : mm_LVs RX13 50 Y_J0_length_8abf5 0 := ⟨⟨mm_w1 7 90 rfl rfl, cw_J0_length_8abf5, by decide +kernel, ⟨by decide +kernel, by decide +kernel⟩, by decide +kernel⟩, mm_w1 2 135 rfl rfl, mm_w1 2 136 rfl rfl⟩
theorem ls_X13_55 : mm_LVs RX13 55 Y_J0_charAt_5068e 1 := ⟨⟨mm_w1 7 91 rfl rfl, cw_J0_charAt_5068e, by decide +kernel, ⟨by decide +kernel, by decide +kernel⟩, by decide +kernel⟩, mm_w1 2 145 rfl rfl, mm_w1 2 146 rfl rfl⟩
theorem ls_J0_335 : mm_LVs RJ0 335 Y_J0_coder_7d493 0 := ⟨⟨mm_w1 2 138 rfl rfl, cw_J0_coder_7d493, by decide +kernel, ⟨by decide +kernel, by decide +kernel⟩, by decide +kernel⟩, mm_w1 2 139 rfl rfl, mm_w1 2 140 rfl rfl⟩
theorem ls_J0_492 : mm_LVs RJ0 492 Y_J0_isLatin1_aae02 0 := ⟨⟨mm_w1 2 148 rfl rfl, cw_J0_isLatin1_aae02, by decide +kernel, ⟨by decide +kernel, by decide +kernel⟩, by decide +kernel⟩, mm_w1 2 149 rfl rfl, mm_w1 2 150 rfl rfl⟩
theorem fs_J0_9 : mm_Wk (.fieldLink RJ0 9 "java/lang/String" "value" "[B") := mm_w1 9 58 rfl rfl
theorem fs_J0_15 : mm_Wk (.fieldLink RJ0 15 "java/lang/String" "coder" "B") := mm_w1 9 59 rfl rfl
theorem fs_J0_38 : mm_Wk (.fieldLink RJ0 38 "java/lang/String" "COMPACT_STRINGS" "Z") := mm_w1 2 142 rfl rfl
theorem fs_J0_1053 : mm_Wk (.fieldLink RJ0 1053 "jdk/internal/util/Preconditions" "SIOOBE_FORMATTER" "Ljava/util/function/BiFunction;") := mm_w1 2 158 rfl rfl
section
variable {X : mm_X} {M : mm_M} {k0 : Nat} {j : Int}
theorem c_J0_coder_7d493 (hk : k0 < 37) : mm_Fn X Y_J0_coder_7d493 243 [(2, -((k0 + 100 : Nat) : Int))] M (0, 0) M := by
  refine mm_startF (ls := [(2, -((k0 + 100 : Nat) : Int))]) rfl ?_
  refine mm_gcs dJ0_coder_7d493_0 rfl fs_J0_38 ?_
  refine mm_ifeq dJ0_coder_7d493_3 (by omega) (fun h => absurd h (by decide)) (fun _ => ?_)
  refine mm_aload_n dJ0_coder_7d493_6 rfl rfl ?_
  refine mm_gsc dJ0_coder_7d493_7 rfl rfl hk fs_J0_15 ?_
  refine mm_goto dJ0_coder_7d493_10 ?_
  exact mm_nret dJ0_coder_7d493_14 rfl rfl rfl ⟨rfl, rfl⟩
theorem c_J0_length_8abf5 (hk : k0 < 37) : mm_Fn X Y_J0_length_8abf5 243 [(2, -((k0 + 100 : Nat) : Int))] M (0, (ks_L k0 : Int)) M := by
  have hL := ks_LB k0 hk
  refine mm_startF (ls := [(2, -((k0 + 100 : Nat) : Int))]) rfl ?_
  refine mm_aload_n dJ0_length_8abf5_0 rfl rfl ?_
  refine mm_gsv dJ0_length_8abf5_1 rfl rfl hk fs_J0_9 ?_
  refine mm_alst dJ0_length_8abf5_4 rfl rfl hk ?_
  refine mm_aload_n dJ0_length_8abf5_5 rfl rfl ?_
  refine mm_VS0i dJ0_length_8abf5_6 rfl ls_J0_335 rfl hk rfl rfl rfl (c_J0_coder_7d493 hk) ?_
  refine mm_ishr dJ0_length_8abf5_9 rfl ?_
  rw [show (0 : Int) = ((0 : Nat) : Int) from rfl, kx_shr (by omega) (by decide)]
  refine mm_iret dJ0_length_8abf5_10 rfl rfl ?_
  exact mm_fin rfl rfl
theorem c_J0_isLatin1_aae02 (hk : k0 < 37) : mm_Fn X Y_J0_isLatin1_aae02 243 [(2, -((k0 + 100 : Nat) : Int))] M (0, 1) M := by
  refine mm_startF (ls := [(2, -((k0 + 100 : Nat) : Int))]) rfl ?_
  refine mm_gcs dJ0_isLatin1_aae02_0 rfl fs_J0_38 ?_
  refine mm_ifeq dJ0_isLatin1_aae02_3 (by omega) (fun h => absurd h (by decide)) (fun _ => ?_)
  refine mm_aload_n dJ0_isLatin1_aae02_6 rfl rfl ?_
  refine mm_gsc dJ0_isLatin1_aae02_7 rfl rfl hk fs_J0_15 ?_
  refine mm_ifne dJ0_isLatin1_aae02_10 (by omega) (fun h => absurd rfl h) (fun _ => ?_)
  refine mm_iconst dJ0_isLatin1_aae02_13 rfl ?_
  refine mm_goto dJ0_isLatin1_aae02_14 ?_
  refine mm_zret dJ0_isLatin1_aae02_18 rfl rfl (Or.inr rfl) ?_
  exact mm_fin rfl rfl
theorem c_J3_checkIndex_8e157 {r : Int} {x y : Int} (hx : 0 ≤ x ∧ x < y) (hy : y ≤ 1000) : mm_Fn X Y_J3_checkIndex_8e157 243 [(0, x), (0, y), (2, r)] M (0, x) M := by
  refine mm_startF (ls := [(0, x), (0, y), (2, r)]) rfl ?_
  refine mm_iload_n dJ3_checkIndex_8e157_0 rfl rfl ?_
  refine mm_iflt dJ3_checkIndex_8e157_1 (by omega) (fun h => ?_) (fun _ => ?_)
  · exfalso; omega
  refine mm_iload_n dJ3_checkIndex_8e157_4 rfl rfl ?_
  refine mm_iload_n dJ3_checkIndex_8e157_5 rfl rfl ?_
  refine mm_iclt dJ3_checkIndex_8e157_6 (by omega) (by omega) (fun _ => ?_) (fun h => ?_)
  · refine mm_iload_n dJ3_checkIndex_8e157_16 rfl rfl ?_
    refine mm_iret dJ3_checkIndex_8e157_17 rfl rfl ?_
    exact mm_fin rfl rfl
  · exfalso; omega
theorem c_J0_checkIndex_df160 {x y : Int} (hx : 0 ≤ x ∧ x < y) (hy : y ≤ 1000) : mm_Fn X Y_J0_checkIndex_df160 243 [(0, x), (0, y)] M (3, 0) M := by
  refine mm_startF (ls := [(0, x), (0, y)]) rfl ?_
  refine mm_iload_n dJ0_checkIndex_df160_0 rfl rfl ?_
  refine mm_iload_n dJ0_checkIndex_df160_1 rfl rfl ?_
  refine mm_gzq (j0 := 0) dJ0_checkIndex_df160_2 rfl (by decide) fs_J0_1053 (fun r => ?_)
  refine mm_S3i dJ0_checkIndex_df160_5 rfl lk_J0_1059 (by simp) (by simp) (by simp) rfl rfl rfl (c_J3_checkIndex_8e157 hx hy) ?_
  refine mm_pop dJ0_checkIndex_df160_8 rfl (by simp) ?_
  refine mm_vret dJ0_checkIndex_df160_9 rfl rfl ?_
  exact ⟨rfl, rfl⟩
theorem c_J1_charAt_3b067 (hk : k0 < 37) (h0 : 0 ≤ j) (h1 : j < (ks_L k0 : Int)) : mm_Fn X Y_J1_charAt_3b067 243 [(2, -((k0 + 200 : Nat) : Int)), (0, j)] M (0, ks_B k0 j.toNat) M := by
  have hL := ks_LB k0 hk
  have hB := ks_BB k0 hk j.toNat (by omega)
  refine mm_startF (ls := [(2, -((k0 + 200 : Nat) : Int)), (0, j)]) rfl ?_
  refine mm_iload_n dJ1_charAt_3b067_0 rfl rfl ?_
  refine mm_aload_n dJ1_charAt_3b067_1 rfl rfl ?_
  refine mm_alst dJ1_charAt_3b067_2 rfl rfl hk ?_
  refine mm_S2v dJ1_charAt_3b067_3 rfl lk_J1_9 (by simp) (by simp) rfl rfl rfl (c_J0_checkIndex_df160 ⟨h0, h1⟩ (by omega)) ?_
  refine mm_aload_n dJ1_charAt_3b067_6 rfl rfl ?_
  refine mm_iload_n dJ1_charAt_3b067_7 rfl rfl ?_
  refine mm_bast2 dJ1_charAt_3b067_8 rfl rfl hk h0 h1 ?_
  refine mm_sipush dJ1_charAt_3b067_9 rfl (by decide) ?_
  refine mm_iand dJ1_charAt_3b067_12 rfl ?_
  rw [kb_and (by omega), show ks_B k0 j.toNat % 256 = ks_B k0 j.toNat by omega]
  refine mm_i2c dJ1_charAt_3b067_13 rfl (by omega) ?_
  exact mm_nret dJ1_charAt_3b067_14 rfl rfl (mm_nch (by omega)) ⟨rfl, rfl⟩
theorem c_J0_charAt_5068e (hk : k0 < 37) (h0 : 0 ≤ j) (h1 : j < (ks_L k0 : Int)) : mm_Fn X Y_J0_charAt_5068e 243 [(2, -((k0 + 100 : Nat) : Int)), (0, j)] M (0, ks_B k0 j.toNat) M := by
  refine mm_startF (ls := [(2, -((k0 + 100 : Nat) : Int)), (0, j)]) rfl ?_
  refine mm_aload_n dJ0_charAt_5068e_0 rfl rfl ?_
  refine mm_VS0i dJ0_charAt_5068e_1 rfl ls_J0_492 rfl hk rfl rfl rfl (c_J0_isLatin1_aae02 hk) ?_
  refine mm_ifeq dJ0_charAt_5068e_4 (by omega) (fun h => absurd h (by decide)) (fun _ => ?_)
  refine mm_aload_n dJ0_charAt_5068e_7 rfl rfl ?_
  refine mm_gsv dJ0_charAt_5068e_8 rfl rfl hk fs_J0_9 ?_
  refine mm_iload_n dJ0_charAt_5068e_11 rfl rfl ?_
  refine mm_S2i dJ0_charAt_5068e_12 rfl lk_J0_495 (by simp) (by simp) rfl rfl rfl (c_J1_charAt_3b067 hk h0 h1) ?_
  have hB := ks_BB k0 hk j.toNat (by omega)
  exact mm_nret dJ0_charAt_5068e_15 rfl rfl (mm_nch (by omega)) ⟨rfl, rfl⟩
end
end
