/-! ===== next ===== -/
/-- how many of the set's first n have the same value as q -/
def kg_C (F : Nat) (f : Nat → Int) (q : Nat) : Nat → Int := ka_sum (fun o => if F.testBit o = true ∧ f o = f q then 1 else 0)
/-- the greatest heap -/
def kg_heap (F : Nat) (f : Nat → Int) : Int := ka_max (fun q => if F.testBit q = true then kg_C F f q 21 else 0) 21
def kg_nx (c : Nat → Bool) (hp : Nat → Int) (l0 : Int) : Nat → Int × Int
  | 0 => (l0, -1)
  | n + 1 => if c n = true ∧ hp n < (kg_nx c hp l0 n).1 then (hp n, (n : Int)) else kg_nx c hp l0 n
theorem kg_nxb {c : Nat → Bool} {hp : Nat → Int} {l0 : Int} (h0 : 0 ≤ l0 ∧ l0 ≤ 100) : ∀ {n : Nat}, (∀ i, i < n → 0 ≤ hp i ∧ hp i ≤ 100) → (0 ≤ (kg_nx c hp l0 n).1 ∧ (kg_nx c hp l0 n).1 ≤ 100) ∧ -1 ≤ (kg_nx c hp l0 n).2 ∧ (kg_nx c hp l0 n).2 < n
  | 0, _ => by simp [kg_nx]; omega
  | n + 1, h => by
    have h1 := kg_nxb (c := c) (hp := hp) h0 (n := n) (fun i q => h i (by omega))
    have h2 := h n (by omega)
    unfold kg_nx
    split
    · simp only; omega
    · omega
theorem ka_max_ge {f : Nat → Int} : ∀ {n q : Nat}, q < n → f q ≤ ka_max f n
  | 0, q, h => absurd h (Nat.not_lt_zero q)
  | n + 1, q, h => by
    unfold ka_max
    by_cases z : q = n
    · rw [z]; omega
    · have := ka_max_ge (f := f) (show q < n by omega)
      omega
theorem ka_max_le {f : Nat → Int} {g : Int} (h0 : 0 ≤ g) : ∀ {n : Nat}, (∀ q, q < n → f q ≤ g) → ka_max f n ≤ g
  | 0, _ => h0
  | n + 1, h => by
    have := ka_max_le (f := f) h0 (n := n) (fun q hq => h q (by omega))
    have := h n (by omega)
    unfold ka_max
    omega
theorem ka_max_0 {f : Nat → Int} : ∀ {n : Nat}, 0 ≤ ka_max f n
  | 0 => Int.le_refl 0
  | n + 1 => by have := ka_max_0 (f := f) (n := n); unfold ka_max; omega
theorem ka_max_eq {f : Nat → Int} {g : Int} {n : Nat} (h0 : 0 ≤ g) (h1 : ∀ q, q < n → f q ≤ g) (h2 : g = 0 ∨ ∃ q, q < n ∧ g ≤ f q) : ka_max f n = g := by
  have a := ka_max_le h0 h1
  have b := ka_max_0 (f := f) (n := n)
  rcases h2 with z | ⟨q, hq, z⟩
  · omega
  · have := ka_max_ge (f := f) hq
    omega
theorem kg_Cb {F : Nat} {f : Nat → Int} {q n : Nat} : 0 ≤ kg_C F f q n ∧ kg_C F f q n ≤ n := by
  induction n with
  | zero => simp [kg_C, ka_sum]
  | succ n ih =>
    unfold kg_C at ih ⊢
    rw [ka_sum]
    split <;> omega
theorem kg_heapb {F : Nat} {f : Nat → Int} : 0 ≤ kg_heap F f ∧ kg_heap F f ≤ 21 := by
  unfold kg_heap
  refine ka_maxb (by decide) (fun i hi => ?_)
  have := kg_Cb (F := F) (f := f) (q := i) (n := 21)
  split <;> omega
/-- more wind never pulls less -/
theorem ks_p_mono {K : Nat → Int} (h : mm_KV K) {s a w w' : Int} (ha : ks_ac K a) (h0 : 0 ≤ w) (hw : w ≤ w') : ks_p K s a w ≤ ks_p K s a w' := by
  have hc := ks_colb h s
  have hsl := ks_slb h ha
  have h00 := h.1
  obtain ⟨-, -, -, -, -, -, -, -, h8, -, -, hl, hv⟩ := id h
  have la := (hl (a / 15).toNat (by omega)).1
  have lb := (hv (ks_col K s).toNat (by omega)).1
  unfold ks_p ks_pa
  generalize K (20 + (a / 15).toNat) = u at la ⊢
  generalize K (30 + (ks_col K s).toNat) = v at lb ⊢
  have m1 : u * w ≤ u * w' := Int.mul_le_mul_of_nonneg_left hw la
  have m1n : 0 ≤ u * w := Int.mul_nonneg la h0
  have m2 : u * w * w ≤ u * w' * w' := Int.mul_le_mul m1 hw h0 (Int.le_trans m1n m1)
  have m3 : u * w * w * v ≤ u * w' * w' * v := Int.mul_le_mul_of_nonneg_right m2 lb
  have m4 : u * w * w * v / 100 ≤ u * w' * w' * v / 100 := Int.ediv_le_ediv (by decide) m3
  have m5 : u * w * w * v / 100 * K 8 ≤ u * w' * w' * v / 100 * K 8 := Int.mul_le_mul_of_nonneg_right m4 (by omega)
  have m6 : u * w * w * v / 100 * K 8 / 100 ≤ u * w' * w' * v / 100 * K 8 / 100 := Int.ediv_le_ediv (by decide) m5
  split <;> assumption
/-- the pull of an act with share q -/
def kg_p (K L : Nat → Int) (s a h : Int) (q : Nat) : Int := ks_p K s a (ks_wi L K s h * (q : Int) / 10)
theorem kg_p_mono {K L : Nat → Int} (hK : mm_KV K) {s a h : Int} (ha : ks_ac K a) (hw : 0 ≤ ks_wi L K s h) {q r : Nat} (hq : q ≤ r) : kg_p K L s a h q ≤ kg_p K L s a h r := by
  unfold kg_p
  have m : ks_wi L K s h * (q : Int) ≤ ks_wi L K s h * (r : Int) := Int.mul_le_mul_of_nonneg_left (by omega) hw
  have n : 0 ≤ ks_wi L K s h * (q : Int) := Int.mul_nonneg hw (by omega)
  exact ks_p_mono hK ha (Int.ediv_nonneg n (by decide)) (Int.ediv_le_ediv (by decide) m)
theorem kg_C_s {F : Nat} {f : Nat → Int} {q n : Nat} : kg_C F f q (n + 1) = kg_C F f q n + (if F.testBit n = true ∧ f n = f q then 1 else 0) := rfl
theorem kg_C_mono {F : Nat} {f : Nat → Int} {q n : Nat} : kg_C F f q n ≤ kg_C F f q (n + 1) := by rw [kg_C_s]; split <;> omega
theorem kg_C_eq {F : Nat} {f : Nat → Int} {q r : Nat} (h : f q = f r) (n : Nat) : kg_C F f q n = kg_C F f r n := by unfold kg_C; rw [h]
theorem kg_C_0 {F : Nat} {f : Nat → Int} {q : Nat} : ∀ {n : Nat}, (∀ o, o < n → F.testBit o = true → f o ≠ f q) → kg_C F f q n = 0
  | 0, _ => rfl
  | n + 1, h => by rw [kg_C_s, kg_C_0 (fun o ho => h o (by omega)), if_neg (fun z => h n (by omega) z.1 z.2)]; rfl
section
variable {X : mm_X} {M : mm_M} {s a h t : Int} {F : Nat}
theorem c_X7_greatestHeap (hR : mm_Rf M) (hK : mm_CK M) (hA : mm_CA M) (hF : F < 2 ^ 21) (hs : ks_st (M 4) s) (ha : ks_ac (M 4) a) (hh : ks_hr h) :
    mm_Fn X Y_X7_greatestHeap 243 [(2, 175), (0, (F : Int)), (0, s), (0, a), (0, h)] M (0, kg_heap F (kg_p (M 4) (M 16) s a h)) M := by
  obtain ⟨f, hf⟩ : ∃ f, f = kg_p (M 4) (M 16) s a h := ⟨_, rfl⟩
  have hwb := hA.wi hK.1 hs hh
  have hmono : ∀ q r : Nat, q ≤ r → f q ≤ f r := by intro q r hq; rw [hf]; exact kg_p_mono hK.1 ha hwb.1.1 hq
  have hfb : ∀ q : Nat, q < 21 → 0 ≤ f q ∧ f q ≤ 5702400 := by intro q hq; rw [hf]; exact ks_pwb hK.1 ha hwb.1 (by omega)
  rw [← hf]
  refine mm_startF (ls := [(2, 175), (0, (F : Int)), (0, s), (0, a), (0, h), (9, 0), (9, 0), (9, 0), (9, 0), (9, 0)]) rfl ?_
  have loop : ∀ i : Nat, i ≤ 21 → ∀ (g hp be : Int) (l9 : mm_V), 0 ≤ g → g ≤ 21 → (∀ q, q < i → F.testBit q = true → kg_C F f q i ≤ g) → (g = 0 ∨ ∃ q, q < i ∧ F.testBit q = true ∧ g ≤ kg_C F f q i) →
      ((be = -1 ∧ hp = 0 ∧ ∀ q, q < i → ¬ F.testBit q = true) ∨ ∃ p, p < i ∧ F.testBit p = true ∧ be = f p ∧ hp = kg_C F f p i ∧ ∀ q, q < i → F.testBit q = true → f q ≤ f p) →
      mm_J X Y_X7_greatestHeap 243 243 243 12 [(2, 175), (0, (F : Int)), (0, s), (0, a), (0, h), (0, g), (0, hp), (0, be), (0, (i : Int)), l9] [] M (fun r' M'' => r' = (0, kg_heap F f) ∧ M'' = M) := by
    refine mm_lp ?_
    intro i hi ih g hp be l9 hg0 hg1 hU hAt hL
    by_cases hlt : i < 21
    · have eb := kx_bit (a := F) (k := i) (by omega) (by omega)
      have hfi := hfb i hlt
      have ef : ks_p (M 4) s a (ks_wi (M 16) (M 4) s h * (i : Int) / 10) = f i := by rw [hf]; rfl
      have hbb : -1 ≤ be ∧ be ≤ 5702400 ∧ 0 ≤ hp ∧ hp ≤ 21 := by
        rcases hL with ⟨z1, z2, -⟩ | ⟨p, z1, z2, z3, z4, -⟩
        · omega
        · have := hfb p (by omega)
          have := kg_Cb (F := F) (f := f) (q := p) (n := i)
          omega
      by_cases hbi : F.testBit i = true
      · rw [if_pos hbi] at eb
        -- the new heap
        have hnew : (if f i = be then hp + 1 else 1) = kg_C F f i (i + 1) := by
          rw [kg_C_s, if_pos (show F.testBit i = true ∧ f i = f i from ⟨hbi, rfl⟩)]
          rcases hL with ⟨z1, z2, z3⟩ | ⟨p, z1, z2, z3, z4, z5⟩
          · rw [if_neg (show ¬ f i = be by omega), kg_C_0 (fun o ho hb => absurd hb (z3 o ho))]; rfl
          · by_cases y : f i = be
            · rw [if_pos y, z4, kg_C_eq (show f p = f i by omega)]
            · rw [if_neg y, kg_C_0 ?_]; rfl
              intro o ho hb e
              have m1 := z5 o ho hb
              have m2 := hmono p i (by omega)
              omega
        have hCb := kg_Cb (F := F) (f := f) (q := i) (n := i + 1)
        refine mm_iload dX7_greatestHeap_12 rfl rfl ?_
        refine mm_bipush dX7_greatestHeap_14 rfl (by decide) ?_
        refine mm_icgt dX7_greatestHeap_16 (by omega) (by omega) (fun h16 => ?_) (fun h16 => ?_)
        · exfalso; omega
        · refine mm_iload_n dX7_greatestHeap_19 rfl rfl ?_
          refine mm_iload dX7_greatestHeap_20 rfl rfl ?_
          refine mm_ishr dX7_greatestHeap_22 rfl ?_
          refine mm_iconst dX7_greatestHeap_23 rfl ?_
          refine mm_iand dX7_greatestHeap_24 rfl ?_
          rw [eb]
          refine mm_ifeq dX7_greatestHeap_25 (by omega) (fun h25 => ?_) (fun h25 => ?_)
          · exfalso; omega
          · refine mm_aload_n dX7_greatestHeap_28 rfl rfl ?_
            refine mm_getr dX7_greatestHeap_29 rfl fl_X7_40 (c := 174) rfl (by decide) rfl rfl (hR.at (c := 174) (i := 1) (v := 12) rfl (by decide)) ?_
            refine mm_iload_n dX7_greatestHeap_32 rfl rfl ?_
            refine mm_iload_n dX7_greatestHeap_33 rfl rfl ?_
            refine mm_iload dX7_greatestHeap_34 rfl rfl ?_
            refine mm_iload dX7_greatestHeap_36 rfl rfl ?_
            refine mm_V4i dX7_greatestHeap_38 rfl lk_X7_62 (c := 11) rfl (by decide) rfl (by simp) (by simp) (by simp) (by simp) rfl rfl rfl ((ef ▸ c_X0_sharedPull hR hK hA hs ha hh (by omega))) ?_
            refine mm_istore dX7_greatestHeap_41 rfl (Nat.le_of_ble_eq_true rfl) rfl ?_
            refine mm_iload dX7_greatestHeap_43 rfl rfl ?_
            refine mm_iload dX7_greatestHeap_45 rfl rfl ?_
            refine mm_icne dX7_greatestHeap_47 (by omega) (by omega) (fun h47 => ?_) (fun h47 => ?_)
            · refine mm_iconst dX7_greatestHeap_57 rfl ?_
              first
              | rw [show hp + 1 = kg_C F f i (i + 1) by rw [← hnew, if_pos h47]]
              | rw [show (1 : Int) = kg_C F f i (i + 1) by rw [← hnew, if_neg h47]]
              refine mm_istore dX7_greatestHeap_58 rfl (Nat.le_of_ble_eq_true rfl) rfl ?_
              refine mm_iload dX7_greatestHeap_60 rfl rfl ?_
              refine mm_istore dX7_greatestHeap_62 rfl (Nat.le_of_ble_eq_true rfl) rfl ?_
              refine mm_iload dX7_greatestHeap_64 rfl rfl ?_
              refine mm_iload dX7_greatestHeap_66 rfl rfl ?_
              refine mm_max dX7_greatestHeap_68 rfl lm_X7_93 rfl rfl (by simp) (by omega) (by omega) ?_
              refine mm_istore dX7_greatestHeap_71 rfl (Nat.le_of_ble_eq_true rfl) rfl ?_
              refine mm_iinc dX7_greatestHeap_73 rfl rfl (Nat.le_of_ble_eq_true rfl) rfl ?_
              refine mm_goto dX7_greatestHeap_76 ?_
              refine ih hlt _ _ _ _ (by omega) (by omega) ?_ ?_ ?_
              · intro q hq hb
                by_cases y : f q = f i
                · rw [kg_C_eq y]; omega
                · rw [kg_C_s, if_neg (fun z => y z.2.symm), Int.add_zero]
                  have hqi : q ≠ i := fun z => y (by rw [z])
                  have := hU q (by omega) hb
                  omega
              · right
                by_cases y : g ≤ kg_C F f i (i + 1)
                · exact ⟨i, by omega, hbi, by omega⟩
                · rcases hAt with z | ⟨q, hq, hb, z⟩
                  · omega
                  · refine ⟨q, by omega, hb, ?_⟩
                    have := kg_C_mono (F := F) (f := f) (q := q) (n := i)
                    omega
              · exact Or.inr ⟨i, by omega, hbi, rfl, rfl, fun q hq hb => hmono q i (by omega)⟩
            · refine mm_iload dX7_greatestHeap_50 rfl rfl ?_
              refine mm_iconst dX7_greatestHeap_52 rfl ?_
              refine mm_iadd dX7_greatestHeap_53 rfl ?_
              refine mm_goto dX7_greatestHeap_54 ?_
              first
              | rw [show hp + 1 = kg_C F f i (i + 1) by rw [← hnew, if_pos h47]]
              | rw [show (1 : Int) = kg_C F f i (i + 1) by rw [← hnew, if_neg h47]]
              refine mm_istore dX7_greatestHeap_58 rfl (Nat.le_of_ble_eq_true rfl) rfl ?_
              refine mm_iload dX7_greatestHeap_60 rfl rfl ?_
              refine mm_istore dX7_greatestHeap_62 rfl (Nat.le_of_ble_eq_true rfl) rfl ?_
              refine mm_iload dX7_greatestHeap_64 rfl rfl ?_
              refine mm_iload dX7_greatestHeap_66 rfl rfl ?_
              refine mm_max dX7_greatestHeap_68 rfl lm_X7_93 rfl rfl (by simp) (by omega) (by omega) ?_
              refine mm_istore dX7_greatestHeap_71 rfl (Nat.le_of_ble_eq_true rfl) rfl ?_
              refine mm_iinc dX7_greatestHeap_73 rfl rfl (Nat.le_of_ble_eq_true rfl) rfl ?_
              refine mm_goto dX7_greatestHeap_76 ?_
              refine ih hlt _ _ _ _ (by omega) (by omega) ?_ ?_ ?_
              · intro q hq hb
                by_cases y : f q = f i
                · rw [kg_C_eq y]; omega
                · rw [kg_C_s, if_neg (fun z => y z.2.symm), Int.add_zero]
                  have hqi : q ≠ i := fun z => y (by rw [z])
                  have := hU q (by omega) hb
                  omega
              · right
                by_cases y : g ≤ kg_C F f i (i + 1)
                · exact ⟨i, by omega, hbi, by omega⟩
                · rcases hAt with z | ⟨q, hq, hb, z⟩
                  · omega
                  · refine ⟨q, by omega, hb, ?_⟩
                    have := kg_C_mono (F := F) (f := f) (q := q) (n := i)
                    omega
              · exact Or.inr ⟨i, by omega, hbi, rfl, rfl, fun q hq hb => hmono q i (by omega)⟩
      · rw [if_neg hbi] at eb
        refine mm_iload dX7_greatestHeap_12 rfl rfl ?_
        refine mm_bipush dX7_greatestHeap_14 rfl (by decide) ?_
        refine mm_icgt dX7_greatestHeap_16 (by omega) (by omega) (fun h16 => ?_) (fun h16 => ?_)
        · exfalso; omega
        · refine mm_iload_n dX7_greatestHeap_19 rfl rfl ?_
          refine mm_iload dX7_greatestHeap_20 rfl rfl ?_
          refine mm_ishr dX7_greatestHeap_22 rfl ?_
          refine mm_iconst dX7_greatestHeap_23 rfl ?_
          refine mm_iand dX7_greatestHeap_24 rfl ?_
          rw [eb]
          refine mm_ifeq dX7_greatestHeap_25 (by omega) (fun h25 => ?_) (fun h25 => ?_)
          · refine mm_iinc dX7_greatestHeap_73 rfl rfl (Nat.le_of_ble_eq_true rfl) rfl ?_
            refine mm_goto dX7_greatestHeap_76 ?_
            refine ih hlt g hp be _ hg0 hg1 ?_ ?_ ?_
            · intro q hq hb
              rw [kg_C_s, if_neg (fun z => hbi z.1), Int.add_zero]
              by_cases y : q = i
              · rw [y] at hb; exact absurd hb hbi
              · exact hU q (by omega) hb
            · rcases hAt with z | ⟨q, hq, hb, z⟩
              · exact Or.inl z
              · exact Or.inr ⟨q, by omega, hb, Int.le_trans z kg_C_mono⟩
            · rcases hL with ⟨z1, z2, z3⟩ | ⟨p, z1, z2, z3, z4, z5⟩
              · refine Or.inl ⟨z1, z2, fun q hq => ?_⟩
                by_cases y : q = i
                · rw [y]; exact hbi
                · exact z3 q (by omega)
              · refine Or.inr ⟨p, by omega, z2, z3, ?_, fun q hq hb => ?_⟩
                · rw [kg_C_s, if_neg (fun z => hbi z.1), Int.add_zero]; exact z4
                · by_cases y : q = i
                  · rw [y] at hb; exact absurd hb hbi
                  · exact z5 q (by omega) hb
          · exfalso; omega
    · have ei : i = 21 := by omega
      rw [ei] at hU hAt
      refine mm_iload dX7_greatestHeap_12 rfl rfl ?_
      refine mm_bipush dX7_greatestHeap_14 rfl (by decide) ?_
      refine mm_icgt dX7_greatestHeap_16 (by omega) (by omega) (fun h16 => ?_) (fun h16 => ?_)
      · refine mm_iload dX7_greatestHeap_79 rfl rfl ?_
        refine mm_iret dX7_greatestHeap_81 rfl rfl ?_
        refine mm_fin ?_ rfl
        unfold kg_heap
        refine (ka_max_eq hg0 (fun q hq => ?_) ?_).symm
        · split
          · exact hU q hq (by assumption)
          · exact hg0
        · rcases hAt with z | ⟨q, hq, hb, z⟩
          · exact Or.inl z
          · exact Or.inr ⟨q, hq, by rw [if_pos hb]; exact z⟩
      · exfalso; omega
  refine mm_iconst dX7_greatestHeap_0 rfl ?_
  refine mm_istore dX7_greatestHeap_1 rfl (Nat.le_of_ble_eq_true rfl) rfl ?_
  refine mm_iconst dX7_greatestHeap_3 rfl ?_
  refine mm_istore dX7_greatestHeap_4 rfl (Nat.le_of_ble_eq_true rfl) rfl ?_
  refine mm_iconst dX7_greatestHeap_6 rfl ?_
  refine mm_istore dX7_greatestHeap_7 rfl (Nat.le_of_ble_eq_true rfl) rfl ?_
  refine mm_iconst dX7_greatestHeap_9 rfl ?_
  refine mm_istore dX7_greatestHeap_10 rfl (Nat.le_of_ble_eq_true rfl) rfl ?_
  exact loop 0 (by decide) 0 0 (-1) _ (by decide) (by decide) (fun q hq => absurd hq (Nat.not_lt_zero q)) (Or.inl rfl) (Or.inl ⟨rfl, rfl, fun q hq => absurd hq (Nat.not_lt_zero q)⟩)
/-- the best next act -/
def kg_next (K L : Nat → Int) (F : Nat) (s h : Int) : Int := (kg_nx (fun a => decide (ks_can K s (a : Int))) (fun a => kg_heap F (kg_p K L s (a : Int) h)) (kx_n F) (15 * K 10).toNat).2
theorem kx_nb (F : Nat) : 0 ≤ kx_n F ∧ kx_n F ≤ 21 := by
  have : ∀ n : Nat, 0 ≤ ka_sum (fun q => if F.testBit q = true then (1 : Int) else 0) n ∧ ka_sum (fun q => if F.testBit q = true then (1 : Int) else 0) n ≤ n := by
    intro n
    induction n with
    | zero => simp [ka_sum]
    | succ n ih => rw [ka_sum]; split <;> omega
  exact this 21
theorem c_X7_bestNext (hR : mm_Rf M) (hK : mm_CK M) (hA : mm_CA M) (hG : mm_CG M) (hs : ks_st (M 4) s) (hh : ks_hr h) :
    mm_C X Y_X7_bestNext 243 243 [(2, 175), (0, s), (0, h)] M (fun r M' => ∃ F : Nat, r = (0, kg_next (M 4) (M 16) F s h) ∧ mm_Rf M' ∧ M' = M ∧ kg_set (kg_fC M 999) F) := by
  have h10 : 1 ≤ M 4 10 ∧ M 4 10 ≤ 3 := by obtain ⟨-, -, -, -, -, -, -, -, -, -, h10, -⟩ := hK.1; exact h10
  refine mm_start (ls := [(2, 175), (0, s), (0, h), (9, 0), (9, 0), (9, 0), (9, 0), (9, 0)]) rfl ?_
  have loop : ∀ F : Nat, kg_set (kg_fC M 999) F → ∀ i : Nat, i ≤ (15 * M 4 10).toNat → ∀ l7 : mm_V, mm_J X Y_X7_bestNext 243 243 243 20 [(2, 175), (0, s), (0, h), (0, (F : Int)), (0, (kg_nx (fun a => decide (ks_can (M 4) s (a : Int))) (fun a => kg_heap F (kg_p (M 4) (M 16) s (a : Int) h)) (kx_n F) i).1), (0, (kg_nx (fun a => decide (ks_can (M 4) s (a : Int))) (fun a => kg_heap F (kg_p (M 4) (M 16) s (a : Int) h)) (kx_n F) i).2), (0, (i : Int)), l7] [] M
      (fun r M' => ∃ F : Nat, r = (0, kg_next (M 4) (M 16) F s h) ∧ mm_Rf M' ∧ M' = M ∧ kg_set (kg_fC M 999) F) := by
    intro F hF
    refine mm_lp ?_
    intro i hi ih l7
    have hb := kg_nxb (c := fun a => decide (ks_can (M 4) s (a : Int))) (hp := fun a => kg_heap F (kg_p (M 4) (M 16) s (a : Int) h)) (l0 := kx_n F) (by have := kx_nb F; omega) (n := i) (fun j hj => by have := kg_heapb (F := F) (f := kg_p (M 4) (M 16) s (j : Int) h); omega)
    by_cases hlt : i < (15 * M 4 10).toNat
    · have hac : ks_ac (M 4) (i : Int) := ⟨by omega, by omega⟩
      have hhb := kg_heapb (F := F) (f := kg_p (M 4) (M 16) s (i : Int) h)
      have ih := ih hlt
      rw [kg_nx] at ih
      by_cases hcan : ks_can (M 4) s (i : Int)
      · have hto := ks_to_st hK.1 hs hcan
        have hto1 := hto.1
        have hto2 := hto.2
        have hnb := ks_nb hK.1
        have ed : decide (ks_can (M 4) s (i : Int)) = true := decide_eq_true hcan
        have cg := c_X4_goal (X := X) hR hK hs hac
        rw [if_pos hcan] at cg
        clear hcan
        refine mm_iload dX7_bestNext_20 rfl rfl ?_
        refine mm_aload_n dX7_bestNext_22 rfl rfl ?_
        refine mm_getr dX7_bestNext_23 rfl fl_X7_36 (c := 174) rfl (by decide) rfl rfl (hR.at (c := 174) (i := 0) (v := 4) rfl (by decide)) ?_
        refine mm_V0i dX7_bestNext_26 rfl lk_X7_81 (c := 3) rfl (by decide) rfl  rfl rfl rfl (c_X4_actCount hR) ?_
        refine mm_icge dX7_bestNext_29 (by omega) (by omega) (fun h29 => ?_) (fun h29 => ?_)
        · exfalso; omega
        · refine mm_aload_n dX7_bestNext_32 rfl rfl ?_
          refine mm_getr dX7_bestNext_33 rfl fl_X7_36 (c := 174) rfl (by decide) rfl rfl (hR.at (c := 174) (i := 0) (v := 4) rfl (by decide)) ?_
          refine mm_iload_n dX7_bestNext_36 rfl rfl ?_
          refine mm_iload dX7_bestNext_37 rfl rfl ?_
          refine mm_V2i dX7_bestNext_39 rfl lk_X7_87 (c := 3) rfl (by decide) rfl (by simp) (by simp) rfl rfl rfl (cg) ?_
          refine mm_iconst dX7_bestNext_42 rfl ?_
          refine mm_iceq dX7_bestNext_43 (by omega) (by omega) (fun h43 => ?_) (fun h43 => ?_)
          · exfalso; omega
          · refine mm_aload_n dX7_bestNext_46 rfl rfl ?_
            refine mm_iload_n dX7_bestNext_47 rfl rfl ?_
            refine mm_iload_n dX7_bestNext_48 rfl rfl ?_
            refine mm_iload dX7_bestNext_49 rfl rfl ?_
            refine mm_iload_n dX7_bestNext_51 rfl rfl ?_
            refine mm_V4i dX7_bestNext_52 rfl lk_X7_90 (c := 174) rfl (by decide) rfl (by simp) (by simp) (by simp) (by simp) rfl rfl rfl (c_X7_greatestHeap hR hK hA hF.1 hs hac hh) ?_
            refine mm_istore dX7_bestNext_55 rfl (Nat.le_of_ble_eq_true rfl) rfl ?_
            refine mm_iload dX7_bestNext_57 rfl rfl ?_
            refine mm_iload dX7_bestNext_59 rfl rfl ?_
            refine mm_icge dX7_bestNext_61 (by omega) (by omega) (fun h61 => ?_) (fun h61 => ?_)
            · refine mm_iinc dX7_bestNext_72 rfl rfl (Nat.le_of_ble_eq_true rfl) rfl ?_
              refine mm_goto dX7_bestNext_75 ?_
              first
              | (rw [if_pos ⟨ed, by omega⟩] at ih; exact ih _)
              | (rw [if_neg (fun z => absurd z.2 (by omega))] at ih; exact ih _)
            · refine mm_iload dX7_bestNext_64 rfl rfl ?_
              refine mm_istore dX7_bestNext_66 rfl (Nat.le_of_ble_eq_true rfl) rfl ?_
              refine mm_iload dX7_bestNext_68 rfl rfl ?_
              refine mm_istore dX7_bestNext_70 rfl (Nat.le_of_ble_eq_true rfl) rfl ?_
              refine mm_iinc dX7_bestNext_72 rfl rfl (Nat.le_of_ble_eq_true rfl) rfl ?_
              refine mm_goto dX7_bestNext_75 ?_
              first
              | (rw [if_pos ⟨ed, by omega⟩] at ih; exact ih _)
              | (rw [if_neg (fun z => absurd z.2 (by omega))] at ih; exact ih _)
      · have ed : ¬ decide (ks_can (M 4) s (i : Int)) = true := fun z => hcan (of_decide_eq_true z)
        have cg := c_X4_goal (X := X) hR hK hs hac
        rw [if_neg hcan] at cg
        rw [if_neg (fun z => ed z.1)] at ih
        clear hcan
        refine mm_iload dX7_bestNext_20 rfl rfl ?_
        refine mm_aload_n dX7_bestNext_22 rfl rfl ?_
        refine mm_getr dX7_bestNext_23 rfl fl_X7_36 (c := 174) rfl (by decide) rfl rfl (hR.at (c := 174) (i := 0) (v := 4) rfl (by decide)) ?_
        refine mm_V0i dX7_bestNext_26 rfl lk_X7_81 (c := 3) rfl (by decide) rfl  rfl rfl rfl (c_X4_actCount hR) ?_
        refine mm_icge dX7_bestNext_29 (by omega) (by omega) (fun h29 => ?_) (fun h29 => ?_)
        · exfalso; omega
        · refine mm_aload_n dX7_bestNext_32 rfl rfl ?_
          refine mm_getr dX7_bestNext_33 rfl fl_X7_36 (c := 174) rfl (by decide) rfl rfl (hR.at (c := 174) (i := 0) (v := 4) rfl (by decide)) ?_
          refine mm_iload_n dX7_bestNext_36 rfl rfl ?_
          refine mm_iload dX7_bestNext_37 rfl rfl ?_
          refine mm_V2i dX7_bestNext_39 rfl lk_X7_87 (c := 3) rfl (by decide) rfl (by simp) (by simp) rfl rfl rfl (cg) ?_
          refine mm_iconst dX7_bestNext_42 rfl ?_
          refine mm_iceq dX7_bestNext_43 (by omega) (by omega) (fun h43 => ?_) (fun h43 => ?_)
          · refine mm_iinc dX7_bestNext_72 rfl rfl (Nat.le_of_ble_eq_true rfl) rfl ?_
            refine mm_goto dX7_bestNext_75 ?_
            exact ih _
          · exact absurd rfl h43
    · have ei : i = (15 * M 4 10).toNat := by omega
      refine mm_iload dX7_bestNext_20 rfl rfl ?_
      refine mm_aload_n dX7_bestNext_22 rfl rfl ?_
      refine mm_getr dX7_bestNext_23 rfl fl_X7_36 (c := 174) rfl (by decide) rfl rfl (hR.at (c := 174) (i := 0) (v := 4) rfl (by decide)) ?_
      refine mm_V0i dX7_bestNext_26 rfl lk_X7_81 (c := 3) rfl (by decide) rfl  rfl rfl rfl (c_X4_actCount hR) ?_
      refine mm_icge dX7_bestNext_29 (by omega) (by omega) (fun h29 => ?_) (fun h29 => ?_)
      · refine mm_iload dX7_bestNext_78 rfl rfl ?_
        refine mm_iret dX7_bestNext_80 rfl rfl ?_
        exact ⟨F, by unfold kg_next; rw [ei], hR, rfl, hF⟩
      · exfalso; omega
  refine mm_aload_n dX7_bestNext_0 rfl rfl ?_
  refine mm_sipush dX7_bestNext_1 rfl (by decide) ?_
  refine mm_V1g (M1 := M) dX7_bestNext_4 rfl lk_X7_72 (c := 174) rfl (by decide) rfl (by simp) rfl rfl rfl (c_X7_fittingShares hR hK hA hG (by omega)) ?_
  rintro _ N4 ⟨x4, rfl, p4⟩
  change mm_J _ _ _ _ _ _ _ _ _ _
  have hR4 : mm_Rf N4 := p4.1
  obtain ⟨-, eN, hF⟩ := p4
  rw [eN]
  have hF1 := hF.1
  refine mm_istore_n dX7_bestNext_7 rfl (Nat.le_of_ble_eq_true rfl) rfl ?_
  refine mm_iload_n dX7_bestNext_8 rfl rfl ?_
  refine mm_S1i dX7_bestNext_9 rfl lk_X7_76 (by simp) rfl rfl rfl (c_J6_bitCount_0f7a4 (by omega)) ?_
  refine mm_istore dX7_bestNext_12 rfl (Nat.le_of_ble_eq_true rfl) rfl ?_
  refine mm_iconst dX7_bestNext_14 rfl ?_
  refine mm_istore dX7_bestNext_15 rfl (Nat.le_of_ble_eq_true rfl) rfl ?_
  refine mm_iconst dX7_bestNext_17 rfl ?_
  refine mm_istore dX7_bestNext_18 rfl (Nat.le_of_ble_eq_true rfl) rfl ?_
  exact loop x4 hF 0 (Nat.zero_le _) _
theorem c_X11_fit1 (hR : mm_Rf M) (hK : mm_CK M) (hA : mm_CA M) (hG : mm_CG M) (ht : 0 ≤ t ∧ t ≤ 999) :
    mm_C X Y_X11_fit 243 243 [(2, 1), (0, t)] M (fun r M' => ∃ F : Nat, r = (0, (F : Int)) ∧ mm_Rf M' ∧ M' = M ∧ kg_set (kg_fC M t) F) := by
  refine mm_start (ls := [(2, 1), (0, t)]) rfl ?_
  refine mm_iload_n dX11_fit_0 rfl rfl ?_
  refine mm_S1i dX11_fit_1 rfl lk_X11_188 (by simp) rfl rfl rfl (c_X11_isStep (by omega)) ?_
  refine mm_ifeqb dX11_fit_4 (fun h4 => ?_) (fun h4 => ?_)
  · exact absurd ht h4
  · refine mm_aload_n dX11_fit_7 rfl rfl ?_
    refine mm_getr dX11_fit_8 rfl fl_X11_90 (c := 0) rfl (by decide) rfl rfl (hR.at (c := 0) (i := 11) (v := 175) rfl (by decide)) ?_
    refine mm_iload_n dX11_fit_11 rfl rfl ?_
    refine mm_V1g (M1 := M) dX11_fit_12 rfl lk_X11_367 (c := 174) rfl (by decide) rfl (by simp) rfl rfl rfl (c_X7_fittingShares hR hK hA hG (by omega)) ?_
    rintro _ N12 ⟨x12, rfl, p12⟩
    change mm_J _ _ _ _ _ _ _ _ _ _
    have hR12 : mm_Rf N12 := p12.1
    refine mm_goto dX11_fit_15 ?_
    refine mm_iret dX11_fit_20 rfl rfl ?_
    exact ⟨x12, rfl, p12⟩
theorem c_X11_fit0 (hR : mm_Rf M) (ht : mm_R t) (hno : ¬ (0 ≤ t ∧ t ≤ 999)) : mm_Fn X Y_X11_fit 243 [(2, 1), (0, t)] M (0, -2) M := by
  refine mm_startF (ls := [(2, 1), (0, t)]) rfl ?_
  refine mm_iload_n dX11_fit_0 rfl rfl ?_
  refine mm_S1i dX11_fit_1 rfl lk_X11_188 (by simp) rfl rfl rfl (c_X11_isStep (by omega)) ?_
  refine mm_ifeqb dX11_fit_4 (fun h4 => ?_) (fun h4 => ?_)
  · refine mm_bipush dX11_fit_18 rfl (by decide) ?_
    refine mm_iret dX11_fit_20 rfl rfl ?_
    exact mm_fin rfl rfl
  · exact absurd h4 hno
theorem c_X11_next1 (hR : mm_Rf M) (hK : mm_CK M) (hA : mm_CA M) (hG : mm_CG M) (hs : ks_st (M 4) s) (hh : ks_hr h) :
    mm_C X Y_X11_next 243 243 [(2, 1), (0, s), (0, h)] M (fun r M' => ∃ F : Nat, r = (0, kg_next (M 4) (M 16) F s h) ∧ mm_Rf M' ∧ M' = M ∧ kg_set (kg_fC M 999) F) := by
  have hnb := ks_nb hK.1
  have hs1 := hs.1
  have hs2 := hs.2
  refine mm_start (ls := [(2, 1), (0, s), (0, h)]) rfl ?_
  refine mm_aload_n dX11_next_0 rfl rfl ?_
  refine mm_getr dX11_next_1 rfl fl_X11_19 (c := 0) rfl (by decide) rfl rfl (hR.at (c := 0) (i := 1) (v := 4) rfl (by decide)) ?_
  refine mm_iload_n dX11_next_4 rfl rfl ?_
  refine mm_V1i dX11_next_5 rfl lk_X11_139 (c := 3) rfl (by decide) rfl (by simp) rfl rfl rfl (c_X4_hasState hR hK (by omega)) ?_
  refine mm_ifeqb dX11_next_8 (fun h8 => ?_) (fun h8 => ?_)
  · exact absurd hs h8
  · refine mm_iload_n dX11_next_11 rfl rfl ?_
    refine mm_S1i dX11_next_12 rfl lk_X11_165 (by simp) rfl rfl rfl (c_X11_isHour (by omega)) ?_
    refine mm_ifeqb dX11_next_15 (fun h15 => ?_) (fun h15 => ?_)
    · exact absurd hh h15
    · refine mm_aload_n dX11_next_18 rfl rfl ?_
      refine mm_getr dX11_next_19 rfl fl_X11_90 (c := 0) rfl (by decide) rfl rfl (hR.at (c := 0) (i := 11) (v := 175) rfl (by decide)) ?_
      refine mm_iload_n dX11_next_22 rfl rfl ?_
      refine mm_iload_n dX11_next_23 rfl rfl ?_
      refine mm_V2g (M1 := M) dX11_next_24 rfl lk_X11_370 (c := 174) rfl (by decide) rfl (by simp) (by simp) rfl rfl rfl (c_X7_bestNext hR hK hA hG hs hh) ?_
      rintro _ N24 ⟨x24, rfl, p24⟩
      change mm_J _ _ _ _ _ _ _ _ _ _
      have hR24 : mm_Rf N24 := p24.1
      refine mm_goto dX11_next_27 ?_
      refine mm_iret dX11_next_32 rfl rfl ?_
      exact ⟨x24, rfl, p24⟩
theorem c_X11_next0 (hR : mm_Rf M) (hK : mm_CK M) (hs : mm_R s) (hh : mm_R h) (hno : ¬ (ks_st (M 4) s ∧ ks_hr h)) : mm_Fn X Y_X11_next 243 [(2, 1), (0, s), (0, h)] M (0, -2) M := by
  refine mm_startF (ls := [(2, 1), (0, s), (0, h)]) rfl ?_
  refine mm_aload_n dX11_next_0 rfl rfl ?_
  refine mm_getr dX11_next_1 rfl fl_X11_19 (c := 0) rfl (by decide) rfl rfl (hR.at (c := 0) (i := 1) (v := 4) rfl (by decide)) ?_
  refine mm_iload_n dX11_next_4 rfl rfl ?_
  refine mm_V1i dX11_next_5 rfl lk_X11_139 (c := 3) rfl (by decide) rfl (by simp) rfl rfl rfl (c_X4_hasState hR hK (by omega)) ?_
  refine mm_ifeqb dX11_next_8 (fun h8 => ?_) (fun h8 => ?_)
  · refine mm_bipush dX11_next_30 rfl (by decide) ?_
    refine mm_iret dX11_next_32 rfl rfl ?_
    exact mm_fin rfl rfl
  · refine mm_iload_n dX11_next_11 rfl rfl ?_
    refine mm_S1i dX11_next_12 rfl lk_X11_165 (by simp) rfl rfl rfl (c_X11_isHour (by omega)) ?_
    refine mm_ifeqb dX11_next_15 (fun h15 => ?_) (fun h15 => ?_)
    · refine mm_bipush dX11_next_30 rfl (by decide) ?_
      refine mm_iret dX11_next_32 rfl rfl ?_
      exact mm_fin rfl rfl
    · exact absurd ⟨h8, h15⟩ hno
end

