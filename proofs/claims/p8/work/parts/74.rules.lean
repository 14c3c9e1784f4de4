/-! ===== rules of flying: which act they tell ===== -/
def kr_val (K : Nat → Int) (s w q : Int) : Int := if q = 0 then ks_p K s 0 w else if q = 1 then ks_h K s else if q = 2 then ks_rope K s else if q = 3 then ks_col K s else ks_row K s
def kr_ok1 (K : Nat → Int) (s w q hw b : Int) : Bool := if hw = 0 then decide (b < kr_val K s w q) else if hw = 1 then decide (kr_val K s w q < b) else decide (kr_val K s w q = b)
def kr_h (f : Nat → Bool) : Nat → Bool
  | 0 => true
  | n + 1 => kr_h f n && f n
theorem kr_h_f {f : Nat → Bool} {i : Nat} (hi : f i = false) : ∀ {n : Nat}, i < n → kr_h f n = false
  | 0, h => absurd h (Nat.not_lt_zero i)
  | n + 1, h => by
    unfold kr_h
    by_cases q : i = n
    · rw [← q, hi, Bool.and_false]
    · rw [kr_h_f hi (show i < n by omega), Bool.false_and]
theorem kr_h_s {f : Nat → Bool} {n : Nat} (h : kr_h f n = true) (hn : f n = true) : kr_h f (n + 1) = true := by unfold kr_h; rw [h, hn]; rfl
/-- the act of the first line that holds, from line l on -/
def kr_act (P : Nat → Bool) (D : Nat → Int) (l : Nat) : Nat → Int
  | 0 => 0
  | k + 1 => if P l = true then D l else kr_act P D (l + 1) k
/-- a line: its conds (what, how, bound) hold -/
def kr_ln (K : Nat → Int) (s w : Int) (C : Nat → Int) (Q H B : Nat → Nat → Int) (l : Nat) : Bool := kr_h (fun c => kr_ok1 K s w (Q l c) (H l c) (B l c)) (C l).toNat
/-- what rules tell -/
def kr_tell (K : Nat → Int) (s w : Int) (n : Int) (C : Nat → Int) (Q H B : Nat → Nat → Int) (D : Nat → Int) : Int := kr_act (kr_ln K s w C Q H B) D 0 n.toNat
theorem kr_act_ac {P : Nat → Bool} {D : Nat → Int} {K : Nat → Int} (hK : mm_KV K) : ∀ {k l : Nat}, (∀ j, j < l + k → ks_ac K (D j)) → ks_ac K (kr_act P D l k)
  | 0, l, _ => by
    obtain ⟨-, -, -, -, -, -, -, -, -, -, h10, -⟩ := hK
    exact ⟨Int.le_refl 0, by show (0 : Int) < 15 * K 10; omega⟩
  | k + 1, l, h => by
    unfold kr_act
    split
    · exact h l (by omega)
    · exact kr_act_ac hK (fun j hj => h j (by omega))
def kc_C (M : mm_M) (l : Nat) : Int := M 19 (11 * l)
def kc_Q (M : mm_M) (l c : Nat) : Int := M 19 (11 * l + 1 + 3 * c)
def kc_H (M : mm_M) (l c : Nat) : Int := M 19 (11 * l + 1 + 3 * c + 1)
def kc_B (M : mm_M) (l c : Nat) : Int := M 19 (11 * l + 1 + 3 * c + 2)
def kc_D (M : mm_M) (l : Nat) : Int := M 19 (11 * l + 10)
/-- the class's rules -/
def mm_CR (M : mm_M) : Prop := (0 ≤ M 18 1 ∧ M 18 1 ≤ 8) ∧ ∀ l : Nat, (l : Int) < M 18 1 → (0 ≤ kc_C M l ∧ kc_C M l ≤ 3) ∧ (∀ c : Nat, (c : Int) < kc_C M l → mm_R (kc_Q M l c) ∧ mm_R (kc_H M l c) ∧ mm_R (kc_B M l c)) ∧ ks_ac (M 4) (kc_D M l)
def kq_C (M : mm_M) (l : Nat) : Int := M 196 l
def kq_Q (M : mm_M) (l c : Nat) : Int := M 193 (3 * l + c)
def kq_H (M : mm_M) (l c : Nat) : Int := M 194 (3 * l + c)
def kq_B (M : mm_M) (l c : Nat) : Int := M 195 (3 * l + c)
def kq_D (M : mm_M) (l : Nat) : Int := M 197 l
/-- the reference's rules -/
def mm_RR (M : mm_M) : Prop := (0 ≤ M 183 20 ∧ M 183 20 ≤ 8) ∧ ∀ l : Nat, (l : Int) < M 183 20 → (0 ≤ kq_C M l ∧ kq_C M l ≤ 3) ∧ (∀ c : Nat, (c : Int) < kq_C M l → mm_R (kq_Q M l c) ∧ mm_R (kq_H M l c) ∧ mm_R (kq_B M l c)) ∧ ks_ac (mm_rk M) (kq_D M l)
theorem kr_valb {K : Nat → Int} (h : mm_KV K) {s w q : Int} (hs : ks_st K s) (hw : 0 ≤ w ∧ w ≤ 60) : 0 ≤ kr_val K s w q ∧ kr_val K s w q ≤ 1425600 := by
  have h0 : ks_ac K 0 := by
    obtain ⟨-, -, -, -, -, -, -, -, -, -, h10, -⟩ := id h
    exact ⟨Int.le_refl 0, by omega⟩
  have a := ks_pw h (s := s) h0 hw
  have b := ks_hb h hs
  have c := ks_ropeb h hs
  have d := ks_colb h s
  have e := ks_rowb h s
  obtain ⟨k0, k1, k2, -⟩ := id h
  unfold kr_val
  split
  · omega
  · split
    · omega
    · split
      · omega
      · split <;> omega
section
variable {X : mm_X} {M : mm_M} {s w q : Int} {l : Nat}
theorem c_X9_valueOf (hR : mm_Rf M) (hK : mm_CK M) (hs : ks_st (M 4) s) (hw : 0 ≤ w ∧ w ≤ 60) (hq : mm_R q) : mm_Fn X Y_X9_valueOf 243 [(2, 19), (0, q), (0, s), (0, w)] M (0, kr_val (M 4) s w q) M := by
  have hnb := ks_nb hK.1
  have ht := hK.tab hs
  have hs1 := hs.1
  have hs2 := hs.2
  have h0 : ks_ac (M 4) 0 := by
    obtain ⟨-, -, -, -, -, -, -, -, -, -, h10, -⟩ := hK.1
    exact ⟨Int.le_refl 0, by omega⟩
  refine mm_startF (ls := [(2, 19), (0, q), (0, s), (0, w)]) rfl ?_
  refine mm_iload_n dX9_valueOf_0 rfl rfl ?_
  have hsw : (q < 0 ∨ 3 < q) ∨ q = 0 ∨ q = 1 ∨ q = 2 ∨ q = 3 := by omega
  rcases hsw with h1 | h1 | h1 | h1 | h1
  · refine mm_tsd (t := 73) dX9_valueOf_1.1 (by omega) h1 (by decide) ?_
    refine mm_aload_n dX9_valueOf_73 rfl rfl ?_
    refine mm_getr dX9_valueOf_74 rfl fl_X9_18 (c := 18) rfl (by decide) rfl rfl (hR.at (c := 18) (i := 0) (v := 4) rfl (by decide)) ?_
    refine mm_getr dX9_valueOf_77 rfl fl_X9_114 (c := 3) rfl (by decide) rfl rfl (hR.at (c := 3) (i := 4) (v := 8) rfl (by decide)) ?_
    refine mm_iload_n dX9_valueOf_80 rfl rfl ?_
    refine mm_iald dX9_valueOf_81 rfl (c := 7) rfl (by decide) rfl (by omega) (by omega) ?_
    refine mm_iret dX9_valueOf_82 rfl rfl ?_
    refine mm_fin ?_ rfl
    unfold kr_val
    first
    | (rw [if_pos h1]; done)
    | (rw [if_neg (by omega), if_pos h1, ht.2.2.2.1]; done)
    | (rw [if_neg (by omega), if_neg (by omega), if_pos h1, ht.2.2.1]; done)
    | (rw [if_neg (by omega), if_neg (by omega), if_neg (by omega), if_pos h1, ht.1]; done)
    | (rw [if_neg (by omega), if_neg (by omega), if_neg (by omega), if_neg (by omega), ht.2.1]; done)
  · refine mm_tsw (t := 32) (k := 0) dX9_valueOf_1.1 (by omega) (by omega) (by omega) (by omega) rfl (by decide) ?_
    refine mm_aload_n dX9_valueOf_32 rfl rfl ?_
    refine mm_getr dX9_valueOf_33 rfl fl_X9_18 (c := 18) rfl (by decide) rfl rfl (hR.at (c := 18) (i := 0) (v := 4) rfl (by decide)) ?_
    refine mm_iload_n dX9_valueOf_36 rfl rfl ?_
    refine mm_iconst dX9_valueOf_37 rfl ?_
    refine mm_iload_n dX9_valueOf_38 rfl rfl ?_
    refine mm_V3i dX9_valueOf_39 rfl lk_X9_102 (c := 3) rfl (by decide) rfl (by simp) (by simp) (by simp) rfl rfl rfl (c_X4_pullOf hR hK hs h0 (by omega)) ?_
    refine mm_iret dX9_valueOf_42 rfl rfl ?_
    refine mm_fin ?_ rfl
    unfold kr_val
    first
    | (rw [if_pos h1]; done)
    | (rw [if_neg (by omega), if_pos h1, ht.2.2.2.1]; done)
    | (rw [if_neg (by omega), if_neg (by omega), if_pos h1, ht.2.2.1]; done)
    | (rw [if_neg (by omega), if_neg (by omega), if_neg (by omega), if_pos h1, ht.1]; done)
    | (rw [if_neg (by omega), if_neg (by omega), if_neg (by omega), if_neg (by omega), ht.2.1]; done)
  · refine mm_tsw (t := 43) (k := 1) dX9_valueOf_1.1 (by omega) (by omega) (by omega) (by omega) rfl (by decide) ?_
    refine mm_aload_n dX9_valueOf_43 rfl rfl ?_
    refine mm_getr dX9_valueOf_44 rfl fl_X9_18 (c := 18) rfl (by decide) rfl rfl (hR.at (c := 18) (i := 0) (v := 4) rfl (by decide)) ?_
    refine mm_getr dX9_valueOf_47 rfl fl_X9_105 (c := 3) rfl (by decide) rfl rfl (hR.at (c := 3) (i := 6) (v := 10) rfl (by decide)) ?_
    refine mm_iload_n dX9_valueOf_50 rfl rfl ?_
    refine mm_iald dX9_valueOf_51 rfl (c := 9) rfl (by decide) rfl (by omega) (by omega) ?_
    refine mm_iret dX9_valueOf_52 rfl rfl ?_
    refine mm_fin ?_ rfl
    unfold kr_val
    first
    | (rw [if_pos h1]; done)
    | (rw [if_neg (by omega), if_pos h1, ht.2.2.2.1]; done)
    | (rw [if_neg (by omega), if_neg (by omega), if_pos h1, ht.2.2.1]; done)
    | (rw [if_neg (by omega), if_neg (by omega), if_neg (by omega), if_pos h1, ht.1]; done)
    | (rw [if_neg (by omega), if_neg (by omega), if_neg (by omega), if_neg (by omega), ht.2.1]; done)
  · refine mm_tsw (t := 53) (k := 2) dX9_valueOf_1.1 (by omega) (by omega) (by omega) (by omega) rfl (by decide) ?_
    refine mm_aload_n dX9_valueOf_53 rfl rfl ?_
    refine mm_getr dX9_valueOf_54 rfl fl_X9_18 (c := 18) rfl (by decide) rfl rfl (hR.at (c := 18) (i := 0) (v := 4) rfl (by decide)) ?_
    refine mm_getr dX9_valueOf_57 rfl fl_X9_108 (c := 3) rfl (by decide) rfl rfl (hR.at (c := 3) (i := 5) (v := 9) rfl (by decide)) ?_
    refine mm_iload_n dX9_valueOf_60 rfl rfl ?_
    refine mm_iald dX9_valueOf_61 rfl (c := 8) rfl (by decide) rfl (by omega) (by omega) ?_
    refine mm_iret dX9_valueOf_62 rfl rfl ?_
    refine mm_fin ?_ rfl
    unfold kr_val
    first
    | (rw [if_pos h1]; done)
    | (rw [if_neg (by omega), if_pos h1, ht.2.2.2.1]; done)
    | (rw [if_neg (by omega), if_neg (by omega), if_pos h1, ht.2.2.1]; done)
    | (rw [if_neg (by omega), if_neg (by omega), if_neg (by omega), if_pos h1, ht.1]; done)
    | (rw [if_neg (by omega), if_neg (by omega), if_neg (by omega), if_neg (by omega), ht.2.1]; done)
  · refine mm_tsw (t := 63) (k := 3) dX9_valueOf_1.1 (by omega) (by omega) (by omega) (by omega) rfl (by decide) ?_
    refine mm_aload_n dX9_valueOf_63 rfl rfl ?_
    refine mm_getr dX9_valueOf_64 rfl fl_X9_18 (c := 18) rfl (by decide) rfl rfl (hR.at (c := 18) (i := 0) (v := 4) rfl (by decide)) ?_
    refine mm_getr dX9_valueOf_67 rfl fl_X9_111 (c := 3) rfl (by decide) rfl rfl (hR.at (c := 3) (i := 3) (v := 7) rfl (by decide)) ?_
    refine mm_iload_n dX9_valueOf_70 rfl rfl ?_
    refine mm_iald dX9_valueOf_71 rfl (c := 6) rfl (by decide) rfl (by omega) (by omega) ?_
    refine mm_iret dX9_valueOf_72 rfl rfl ?_
    refine mm_fin ?_ rfl
    unfold kr_val
    first
    | (rw [if_pos h1]; done)
    | (rw [if_neg (by omega), if_pos h1, ht.2.2.2.1]; done)
    | (rw [if_neg (by omega), if_neg (by omega), if_pos h1, ht.2.2.1]; done)
    | (rw [if_neg (by omega), if_neg (by omega), if_neg (by omega), if_pos h1, ht.1]; done)
    | (rw [if_neg (by omega), if_neg (by omega), if_neg (by omega), if_neg (by omega), ht.2.1]; done)
theorem c_X9_holds (hR : mm_Rf M) (hK : mm_CK M) (hs : ks_st (M 4) s) (hw : 0 ≤ w ∧ w ≤ 60) (hl : l < 8) (hC : 0 ≤ kc_C M l ∧ kc_C M l ≤ 3) (hv : ∀ c : Nat, (c : Int) < kc_C M l → mm_R (kc_Q M l c) ∧ mm_R (kc_H M l c) ∧ mm_R (kc_B M l c)) :
    mm_Fn X Y_X9_holds 243 [(2, 19), (0, (l : Int) * 11), (0, s), (0, w)] M (0, mm_b (kr_ln (M 4) s w (kc_C M) (kc_Q M) (kc_H M) (kc_B M) l = true)) M := by
  refine mm_startF (ls := [(2, 19), (0, (l : Int) * 11), (0, s), (0, w), (9, 0), (9, 0), (9, 0), (9, 0), (9, 0)]) rfl ?_
  have loop : ∀ i : Nat, i ≤ (kc_C M l).toNat → ∀ l5 l6 l7 l8 : mm_V, kr_h (fun c => kr_ok1 (M 4) s w (kc_Q M l c) (kc_H M l c) (kc_B M l c)) i = true →
      mm_J X Y_X9_holds 243 243 243 3 [(2, 19), (0, (l : Int) * 11), (0, s), (0, w), (0, (i : Int)), l5, l6, l7, l8] [] M (fun r' M'' => r' = (0, mm_b (kr_ln (M 4) s w (kc_C M) (kc_Q M) (kc_H M) (kc_B M) l = true)) ∧ M'' = M) := by
    refine mm_lp ?_
    intro i hi ih l5 l6 l7 l8 hh
    have eC : M 19 (11 * l) = kc_C M l := rfl
    by_cases hlt : i < (kc_C M l).toNat
    · have hvi := hv i (by omega)
      have hv1 := hvi.1
      have hv2 := hvi.2.1
      have hv3 := hvi.2.2
      have hvb := kr_valb hK.1 hs hw (q := kc_Q M l i)
      have eQ : M 19 (11 * l + 1 + 3 * i) = kc_Q M l i := rfl
      have eH : M 19 (11 * l + 1 + 3 * i + 1) = kc_H M l i := rfl
      have eB : M 19 (11 * l + 1 + 3 * i + 2) = kc_B M l i := rfl
      have nxt : ∀ (z : Int) (l8 : mm_V), z = mm_b (kr_ok1 (M 4) s w (kc_Q M l i) (kc_H M l i) (kc_B M l i) = true) → mm_J X Y_X9_holds 243 243 243 117 [(2, 19), (0, (l : Int) * 11), (0, s), (0, w), (0, (i : Int)), (0, (l : Int) * 11 + 1 + (i : Int) * 3), (0, kr_val (M 4) s w (kc_Q M l i)), (0, kc_B M l i), l8] [(0, z)] M (fun r' M'' => r' = (0, mm_b (kr_ln (M 4) s w (kc_C M) (kc_Q M) (kc_H M) (kc_B M) l = true)) ∧ M'' = M) := by
        intro z l8 hz
        subst hz
        refine mm_istore dX9_holds_117 rfl (Nat.le_of_ble_eq_true rfl) rfl ?_
        refine mm_iload dX9_holds_119 rfl rfl ?_
        refine mm_ifneb dX9_holds_121 (fun h121 => ?_) (fun h121 => ?_)
        · refine mm_iinc dX9_holds_126 rfl rfl (Nat.le_of_ble_eq_true rfl) rfl ?_
          refine mm_goto dX9_holds_129 ?_
          exact ih hlt _ _ _ _ (kr_h_s hh h121)
        · refine mm_iconst dX9_holds_124 rfl ?_
          refine mm_zret dX9_holds_125 rfl rfl (Or.inl rfl) ?_
          refine mm_fin (mm_b0 ?_) rfl
          unfold kr_ln
          rw [kr_h_f (i := i) (by simpa using h121) hlt]
          decide
      refine mm_iload dX9_holds_3 rfl rfl ?_
      refine mm_aload_n dX9_holds_5 rfl rfl ?_
      refine mm_getr dX9_holds_6 rfl fl_X9_11 (c := 18) rfl (by decide) rfl rfl (hR.at (c := 18) (i := 2) (v := 20) rfl (by decide)) ?_
      refine mm_iload_n dX9_holds_9 rfl rfl ?_
      refine mm_ialk (k0 := (11 * l)) dX9_holds_10 rfl (c := 19) rfl (by decide) rfl (by omega) (by omega) ?_
      rw [eC]
      refine mm_icge dX9_holds_11 (by omega) (by omega) (fun h11 => ?_) (fun h11 => ?_)
      · exfalso; omega
      · refine mm_iload_n dX9_holds_14 rfl rfl ?_
        refine mm_iconst dX9_holds_15 rfl ?_
        refine mm_iadd dX9_holds_16 rfl ?_
        refine mm_iload dX9_holds_17 rfl rfl ?_
        refine mm_iconst dX9_holds_19 rfl ?_
        refine mm_imul dX9_holds_20 rfl ?_
        refine mm_iadd dX9_holds_21 rfl ?_
        refine mm_istore dX9_holds_22 rfl (Nat.le_of_ble_eq_true rfl) rfl ?_
        refine mm_aload_n dX9_holds_24 rfl rfl ?_
        refine mm_aload_n dX9_holds_25 rfl rfl ?_
        refine mm_getr dX9_holds_26 rfl fl_X9_11 (c := 18) rfl (by decide) rfl rfl (hR.at (c := 18) (i := 2) (v := 20) rfl (by decide)) ?_
        refine mm_iload dX9_holds_29 rfl rfl ?_
        refine mm_ialk (k0 := (11 * l + 1 + 3 * i)) dX9_holds_31 rfl (c := 19) rfl (by decide) rfl (by omega) (by omega) ?_
        rw [eQ]
        refine mm_iload_n dX9_holds_32 rfl rfl ?_
        refine mm_iload_n dX9_holds_33 rfl rfl ?_
        refine mm_V3i dX9_holds_34 rfl lk_X9_98 (c := 18) rfl (by decide) rfl (by simp) (by simp) (by simp) rfl rfl rfl (c_X9_valueOf hR hK hs hw hv1) ?_
        refine mm_istore dX9_holds_37 rfl (Nat.le_of_ble_eq_true rfl) rfl ?_
        refine mm_aload_n dX9_holds_39 rfl rfl ?_
        refine mm_getr dX9_holds_40 rfl fl_X9_11 (c := 18) rfl (by decide) rfl rfl (hR.at (c := 18) (i := 2) (v := 20) rfl (by decide)) ?_
        refine mm_iload dX9_holds_43 rfl rfl ?_
        refine mm_iconst dX9_holds_45 rfl ?_
        refine mm_iadd dX9_holds_46 rfl ?_
        refine mm_ialk (k0 := (11 * l + 1 + 3 * i + 2)) dX9_holds_47 rfl (c := 19) rfl (by decide) rfl (by omega) (by omega) ?_
        rw [eB]
        refine mm_istore dX9_holds_48 rfl (Nat.le_of_ble_eq_true rfl) rfl ?_
        refine mm_aload_n dX9_holds_50 rfl rfl ?_
        refine mm_getr dX9_holds_51 rfl fl_X9_11 (c := 18) rfl (by decide) rfl rfl (hR.at (c := 18) (i := 2) (v := 20) rfl (by decide)) ?_
        refine mm_iload dX9_holds_54 rfl rfl ?_
        refine mm_iconst dX9_holds_56 rfl ?_
        refine mm_iadd dX9_holds_57 rfl ?_
        refine mm_ialk (k0 := (11 * l + 1 + 3 * i + 1)) dX9_holds_58 rfl (c := 19) rfl (by decide) rfl (by omega) (by omega) ?_
        rw [eH]
        refine mm_ifne dX9_holds_59 (by omega) (fun h59 => ?_) (fun h59 => ?_)
        · refine mm_aload_n dX9_holds_77 rfl rfl ?_
          refine mm_getr dX9_holds_78 rfl fl_X9_11 (c := 18) rfl (by decide) rfl rfl (hR.at (c := 18) (i := 2) (v := 20) rfl (by decide)) ?_
          refine mm_iload dX9_holds_81 rfl rfl ?_
          refine mm_iconst dX9_holds_83 rfl ?_
          refine mm_iadd dX9_holds_84 rfl ?_
          refine mm_ialk (k0 := (11 * l + 1 + 3 * i + 1)) dX9_holds_85 rfl (c := 19) rfl (by decide) rfl (by omega) (by omega) ?_
          rw [eH]
          refine mm_iconst dX9_holds_86 rfl ?_
          refine mm_icne dX9_holds_87 (by omega) (by omega) (fun h87 => ?_) (fun h87 => ?_)
          · refine mm_iload dX9_holds_105 rfl rfl ?_
            refine mm_iload dX9_holds_107 rfl rfl ?_
            refine mm_icne_z (q2 := 117) dX9_holds_109 (by omega) (by omega) (fun k => mm_iconst dX9_holds_116 rfl k) (fun k => mm_iconst dX9_holds_112 rfl (mm_goto dX9_holds_113 k)) ?_
            refine nxt _ _ ?_
            unfold kr_ok1
            first
            | (rw [if_pos h59]; first | exact mm_b1 (decide_eq_true (by omega)) | exact mm_b0 (fun hq => absurd (of_decide_eq_true hq) (by omega)))
            | (rw [if_neg h59, if_pos h87]; first | exact mm_b1 (decide_eq_true (by omega)) | exact mm_b0 (fun hq => absurd (of_decide_eq_true hq) (by omega)))
            | (rw [if_neg h59, if_neg h87]; first | exact mm_b_congr decide_eq_true_iff.symm | exact mm_b1 (decide_eq_true (by omega)) | exact mm_b0 (fun hq => absurd (of_decide_eq_true hq) (by omega)))
          · refine mm_iload dX9_holds_90 rfl rfl ?_
            refine mm_iload dX9_holds_92 rfl rfl ?_
            refine mm_icge dX9_holds_94 (by omega) (by omega) (fun h94 => ?_) (fun h94 => ?_)
            · refine mm_iconst dX9_holds_101 rfl ?_
              refine mm_goto dX9_holds_102 ?_
              refine nxt _ _ ?_
              unfold kr_ok1
              first
              | (rw [if_pos h59]; first | exact mm_b1 (decide_eq_true (by omega)) | exact mm_b0 (fun hq => absurd (of_decide_eq_true hq) (by omega)))
              | (rw [if_neg h59, if_pos h87]; first | exact mm_b1 (decide_eq_true (by omega)) | exact mm_b0 (fun hq => absurd (of_decide_eq_true hq) (by omega)))
              | (rw [if_neg h59, if_neg h87]; first | exact mm_b_congr decide_eq_true_iff.symm | exact mm_b1 (decide_eq_true (by omega)) | exact mm_b0 (fun hq => absurd (of_decide_eq_true hq) (by omega)))
            · refine mm_iconst dX9_holds_97 rfl ?_
              refine mm_goto dX9_holds_98 ?_
              refine nxt _ _ ?_
              unfold kr_ok1
              first
              | (rw [if_pos h59]; first | exact mm_b1 (decide_eq_true (by omega)) | exact mm_b0 (fun hq => absurd (of_decide_eq_true hq) (by omega)))
              | (rw [if_neg h59, if_pos h87]; first | exact mm_b1 (decide_eq_true (by omega)) | exact mm_b0 (fun hq => absurd (of_decide_eq_true hq) (by omega)))
              | (rw [if_neg h59, if_neg h87]; first | exact mm_b_congr decide_eq_true_iff.symm | exact mm_b1 (decide_eq_true (by omega)) | exact mm_b0 (fun hq => absurd (of_decide_eq_true hq) (by omega)))
        · refine mm_iload dX9_holds_62 rfl rfl ?_
          refine mm_iload dX9_holds_64 rfl rfl ?_
          refine mm_icle dX9_holds_66 (by omega) (by omega) (fun h66 => ?_) (fun h66 => ?_)
          · refine mm_iconst dX9_holds_73 rfl ?_
            refine mm_goto dX9_holds_74 ?_
            refine nxt _ _ ?_
            unfold kr_ok1
            first
            | (rw [if_pos h59]; first | exact mm_b1 (decide_eq_true (by omega)) | exact mm_b0 (fun hq => absurd (of_decide_eq_true hq) (by omega)))
            | (rw [if_neg h59, if_pos h87]; first | exact mm_b1 (decide_eq_true (by omega)) | exact mm_b0 (fun hq => absurd (of_decide_eq_true hq) (by omega)))
            | (rw [if_neg h59, if_neg h87]; first | exact mm_b_congr decide_eq_true_iff.symm | exact mm_b1 (decide_eq_true (by omega)) | exact mm_b0 (fun hq => absurd (of_decide_eq_true hq) (by omega)))
          · refine mm_iconst dX9_holds_69 rfl ?_
            refine mm_goto dX9_holds_70 ?_
            refine nxt _ _ ?_
            unfold kr_ok1
            first
            | (rw [if_pos h59]; first | exact mm_b1 (decide_eq_true (by omega)) | exact mm_b0 (fun hq => absurd (of_decide_eq_true hq) (by omega)))
            | (rw [if_neg h59, if_pos h87]; first | exact mm_b1 (decide_eq_true (by omega)) | exact mm_b0 (fun hq => absurd (of_decide_eq_true hq) (by omega)))
            | (rw [if_neg h59, if_neg h87]; first | exact mm_b_congr decide_eq_true_iff.symm | exact mm_b1 (decide_eq_true (by omega)) | exact mm_b0 (fun hq => absurd (of_decide_eq_true hq) (by omega)))
    · have ei : i = (kc_C M l).toNat := by omega
      refine mm_iload dX9_holds_3 rfl rfl ?_
      refine mm_aload_n dX9_holds_5 rfl rfl ?_
      refine mm_getr dX9_holds_6 rfl fl_X9_11 (c := 18) rfl (by decide) rfl rfl (hR.at (c := 18) (i := 2) (v := 20) rfl (by decide)) ?_
      refine mm_iload_n dX9_holds_9 rfl rfl ?_
      refine mm_ialk (k0 := (11 * l)) dX9_holds_10 rfl (c := 19) rfl (by decide) rfl (by omega) (by omega) ?_
      rw [eC]
      refine mm_icge dX9_holds_11 (by omega) (by omega) (fun h11 => ?_) (fun h11 => ?_)
      · refine mm_iconst dX9_holds_132 rfl ?_
        refine mm_zret dX9_holds_133 rfl rfl (Or.inr rfl) ?_
        exact mm_fin (mm_b1 (by unfold kr_ln; rw [← ei]; exact hh)) rfl
      · exfalso; omega
  refine mm_iconst dX9_holds_0 rfl ?_
  refine mm_istore dX9_holds_1 rfl (Nat.le_of_ble_eq_true rfl) rfl ?_
  exact loop 0 (Nat.zero_le _) _ _ _ _ rfl
theorem c_X9_actFor (hR : mm_Rf M) (hK : mm_CK M) (hC : mm_CR M) (hs : ks_st (M 4) s) (hw : 0 ≤ w ∧ w ≤ 60) :
    mm_Fn X Y_X9_actFor 243 [(2, 19), (0, s), (0, w)] M (0, kr_tell (M 4) s w (M 18 1) (kc_C M) (kc_Q M) (kc_H M) (kc_B M) (kc_D M)) M := by
  have hL := hC.1
  refine mm_startF (ls := [(2, 19), (0, s), (0, w), (9, 0)]) rfl ?_
  have loop : ∀ i : Nat, i ≤ (M 18 1).toNat → kr_act (kr_ln (M 4) s w (kc_C M) (kc_Q M) (kc_H M) (kc_B M)) (kc_D M) i ((M 18 1).toNat - i) = kr_tell (M 4) s w (M 18 1) (kc_C M) (kc_Q M) (kc_H M) (kc_B M) (kc_D M) →
      mm_J X Y_X9_actFor 243 243 243 2 [(2, 19), (0, s), (0, w), (0, (i : Int))] [] M (fun r' M'' => r' = (0, kr_tell (M 4) s w (M 18 1) (kc_C M) (kc_Q M) (kc_H M) (kc_B M) (kc_D M)) ∧ M'' = M) := by
    refine mm_lp ?_
    intro i hi ih he
    by_cases hlt : i < (M 18 1).toNat
    · have hq := hC.2 i (by omega)
      have eD : M 19 (11 * i + 10) = kc_D M i := rfl
      have en : (M 18 1).toNat - i = ((M 18 1).toNat - (i + 1)) + 1 := by omega
      rw [en, kr_act] at he
      refine mm_iload_n dX9_actFor_2 rfl rfl ?_
      refine mm_aload_n dX9_actFor_3 rfl rfl ?_
      refine mm_get (kd := 0) dX9_actFor_4 rfl fl_X9_22 (c := 18) rfl (by decide) rfl rfl ?_
      refine mm_icge dX9_actFor_7 (by omega) (by omega) (fun h7 => ?_) (fun h7 => ?_)
      · exfalso; omega
      · refine mm_aload_n dX9_actFor_10 rfl rfl ?_
        refine mm_iload_n dX9_actFor_11 rfl rfl ?_
        refine mm_bipush dX9_actFor_12 rfl (by decide) ?_
        refine mm_imul dX9_actFor_14 rfl ?_
        refine mm_iload_n dX9_actFor_15 rfl rfl ?_
        refine mm_iload_n dX9_actFor_16 rfl rfl ?_
        refine mm_V3i dX9_actFor_17 rfl lk_X9_94 (c := 18) rfl (by decide) rfl (by simp) (by simp) (by simp) rfl rfl rfl (c_X9_holds hR hK hs hw (by omega) hq.1 hq.2.1) ?_
        refine mm_ifeqb dX9_actFor_20 (fun h20 => ?_) (fun h20 => ?_)
        · refine mm_iinc dX9_actFor_36 rfl rfl (Nat.le_of_ble_eq_true rfl) rfl ?_
          refine mm_goto dX9_actFor_39 ?_
          exact ih hlt (by rw [← he, if_neg h20])
        · refine mm_aload_n dX9_actFor_23 rfl rfl ?_
          refine mm_getr dX9_actFor_24 rfl fl_X9_11 (c := 18) rfl (by decide) rfl rfl (hR.at (c := 18) (i := 2) (v := 20) rfl (by decide)) ?_
          refine mm_iload_n dX9_actFor_27 rfl rfl ?_
          refine mm_bipush dX9_actFor_28 rfl (by decide) ?_
          refine mm_imul dX9_actFor_30 rfl ?_
          refine mm_bipush dX9_actFor_31 rfl (by decide) ?_
          refine mm_iadd dX9_actFor_33 rfl ?_
          refine mm_ialk (k0 := (11 * i + 10)) dX9_actFor_34 rfl (c := 19) rfl (by decide) rfl (by omega) (by omega) ?_
          rw [eD]
          refine mm_iret dX9_actFor_35 rfl rfl ?_
          exact mm_fin (by rw [← he, if_pos h20]) rfl
    · rw [show (M 18 1).toNat - i = 0 by omega, kr_act] at he
      refine mm_iload_n dX9_actFor_2 rfl rfl ?_
      refine mm_aload_n dX9_actFor_3 rfl rfl ?_
      refine mm_get (kd := 0) dX9_actFor_4 rfl fl_X9_22 (c := 18) rfl (by decide) rfl rfl ?_
      refine mm_icge dX9_actFor_7 (by omega) (by omega) (fun h7 => ?_) (fun h7 => ?_)
      · refine mm_iconst dX9_actFor_42 rfl ?_
        refine mm_iret dX9_actFor_43 rfl rfl ?_
        exact mm_fin he rfl
      · exfalso; omega
  refine mm_iconst dX9_actFor_0 rfl ?_
  refine mm_istore_n dX9_actFor_1 rfl (Nat.le_of_ble_eq_true rfl) rfl ?_
  exact loop 0 (Nat.zero_le _) rfl
theorem c_X13_holds (hR : mm_Rf M) (hK : mm_KV (mm_rk M)) (hs : ks_st (mm_rk M) s) (hw : 0 ≤ w ∧ w ≤ 60) (hl : l < 8) (hC : 0 ≤ kq_C M l ∧ kq_C M l ≤ 3) (hv : ∀ c : Nat, (c : Int) < kq_C M l → mm_R (kq_Q M l c) ∧ mm_R (kq_H M l c) ∧ mm_R (kq_B M l c)) :
    mm_Fn X Y_X13_holds 243 [(2, 184), (0, (l : Int)), (0, s), (0, w)] M (0, mm_b (kr_ln (mm_rk M) s w (kq_C M) (kq_Q M) (kq_H M) (kq_B M) l = true)) M := by
  refine mm_startF (ls := [(2, 184), (0, (l : Int)), (0, s), (0, w), (9, 0), (9, 0)]) rfl ?_
  have h0 : ks_ac (mm_rk M) 0 := by
    obtain ⟨-, -, -, -, -, -, -, -, -, -, h10, -⟩ := id hK
    exact ⟨Int.le_refl 0, by omega⟩
  have loop : ∀ i : Nat, i ≤ (kq_C M l).toNat → ∀ l5 : mm_V, kr_h (fun c => kr_ok1 (mm_rk M) s w (kq_Q M l c) (kq_H M l c) (kq_B M l c)) i = true →
      mm_J X Y_X13_holds 243 243 243 5 [(2, 184), (0, (l : Int)), (0, s), (0, w), (0, ((3 * l + i : Nat) : Int)), l5] [] M (fun r' M'' => r' = (0, mm_b (kr_ln (mm_rk M) s w (kq_C M) (kq_Q M) (kq_H M) (kq_B M) l = true)) ∧ M'' = M) := by
    refine mm_lp ?_
    intro i hi ih l5 hh
    have eC : M 196 l = kq_C M l := rfl
    by_cases hlt : i < (kq_C M l).toNat
    · have hvi := hv i (by omega)
      have hv1 := hvi.1
      have hv2 := hvi.2.1
      have hv3 := hvi.2.2
      have hvb := kr_valb hK hs hw (q := kq_Q M l i)
      have eQ : M 193 (3 * l + i) = kq_Q M l i := rfl
      have eH : M 194 (3 * l + i) = kq_H M l i := rfl
      have eB : M 195 (3 * l + i) = kq_B M l i := rfl
      have fal : kr_ok1 (mm_rk M) s w (kq_Q M l i) (kq_H M l i) (kq_B M l i) = false → ∀ l5 : mm_V, mm_J X Y_X13_holds 243 243 243 167 [(2, 184), (0, (l : Int)), (0, s), (0, w), (0, ((3 * l + i : Nat) : Int)), l5] [] M (fun r' M'' => r' = (0, mm_b (kr_ln (mm_rk M) s w (kq_C M) (kq_Q M) (kq_H M) (kq_B M) l = true)) ∧ M'' = M) := by
        intro hf l5
        refine mm_iconst dX13_holds_167 rfl ?_
        refine mm_zret dX13_holds_168 rfl rfl (Or.inl rfl) ?_
        refine mm_fin (mm_b0 ?_) rfl
        unfold kr_ln
        rw [kr_h_f (i := i) hf hlt]
        decide
      have tru : kr_ok1 (mm_rk M) s w (kq_Q M l i) (kq_H M l i) (kq_B M l i) = true → ∀ l5 : mm_V, mm_J X Y_X13_holds 243 243 243 169 [(2, 184), (0, (l : Int)), (0, s), (0, w), (0, ((3 * l + i : Nat) : Int)), l5] [] M (fun r' M'' => r' = (0, mm_b (kr_ln (mm_rk M) s w (kq_C M) (kq_Q M) (kq_H M) (kq_B M) l = true)) ∧ M'' = M) := by
        intro hf l5
        refine mm_iinc dX13_holds_169 rfl rfl (Nat.le_of_ble_eq_true rfl) rfl ?_
        refine mm_goto dX13_holds_172 ?_
        have := ih hlt l5 (kr_h_s hh hf)
        rw [show (((3 * l + (i + 1)) : Nat) : Int) = ((3 * l + i : Nat) : Int) + 1 by omega] at this
        exact this
      have nxt : ∀ (z : Int) (l5 : mm_V), z = kr_val (mm_rk M) s w (kq_Q M l i) → mm_J X Y_X13_holds 243 243 243 102 [(2, 184), (0, (l : Int)), (0, s), (0, w), (0, ((3 * l + i : Nat) : Int)), l5] [(0, z)] M (fun r' M'' => r' = (0, mm_b (kr_ln (mm_rk M) s w (kq_C M) (kq_Q M) (kq_H M) (kq_B M) l = true)) ∧ M'' = M) := by
        intro z l5 hz
        subst hz
        refine mm_istore dX13_holds_102 rfl (Nat.le_of_ble_eq_true rfl) rfl ?_
        refine mm_aload_n dX13_holds_104 rfl rfl ?_
        refine mm_getr dX13_holds_105 rfl fl_X13_188 (c := 183) rfl (by decide) rfl rfl (hR.at (c := 183) (i := 23) (v := 195) rfl (by decide)) ?_
        refine mm_iload dX13_holds_108 rfl rfl ?_
        refine mm_ialk (k0 := (3 * l + i)) dX13_holds_110 rfl (c := 194) rfl (by decide) rfl (by omega) (by omega) ?_
        rw [eH]
        refine mm_ifne dX13_holds_111 (by omega) (fun h111 => ?_) (fun h111 => ?_)
        · refine mm_aload_n dX13_holds_129 rfl rfl ?_
          refine mm_getr dX13_holds_130 rfl fl_X13_188 (c := 183) rfl (by decide) rfl rfl (hR.at (c := 183) (i := 23) (v := 195) rfl (by decide)) ?_
          refine mm_iload dX13_holds_133 rfl rfl ?_
          refine mm_ialk (k0 := (3 * l + i)) dX13_holds_135 rfl (c := 194) rfl (by decide) rfl (by omega) (by omega) ?_
          rw [eH]
          refine mm_iconst dX13_holds_136 rfl ?_
          refine mm_icne dX13_holds_137 (by omega) (by omega) (fun h137 => ?_) (fun h137 => ?_)
          · refine mm_iload dX13_holds_155 rfl rfl ?_
            refine mm_aload_n dX13_holds_157 rfl rfl ?_
            refine mm_getr dX13_holds_158 rfl fl_X13_191 (c := 183) rfl (by decide) rfl rfl (hR.at (c := 183) (i := 24) (v := 196) rfl (by decide)) ?_
            refine mm_iload dX13_holds_161 rfl rfl ?_
            refine mm_ialk (k0 := (3 * l + i)) dX13_holds_163 rfl (c := 195) rfl (by decide) rfl (by omega) (by omega) ?_
            rw [eB]
            refine mm_iceq dX13_holds_164 (by omega) (by omega) (fun h164 => ?_) (fun h164 => ?_)
            · refine tru ?_ _
              unfold kr_ok1
              first
              | (rw [if_pos h111]; exact decide_eq_true (by omega))
              | (rw [if_neg h111, if_pos h137]; exact decide_eq_true (by omega))
              | (rw [if_neg h111, if_neg h137]; exact decide_eq_true (by omega))
            · refine fal ?_ _
              unfold kr_ok1
              first
              | (rw [if_pos h111]; exact decide_eq_false (by omega))
              | (rw [if_neg h111, if_pos h137]; exact decide_eq_false (by omega))
              | (rw [if_neg h111, if_neg h137]; exact decide_eq_false (by omega))
          · refine mm_iload dX13_holds_140 rfl rfl ?_
            refine mm_aload_n dX13_holds_142 rfl rfl ?_
            refine mm_getr dX13_holds_143 rfl fl_X13_191 (c := 183) rfl (by decide) rfl rfl (hR.at (c := 183) (i := 24) (v := 196) rfl (by decide)) ?_
            refine mm_iload dX13_holds_146 rfl rfl ?_
            refine mm_ialk (k0 := (3 * l + i)) dX13_holds_148 rfl (c := 195) rfl (by decide) rfl (by omega) (by omega) ?_
            rw [eB]
            refine mm_iclt dX13_holds_149 (by omega) (by omega) (fun h149 => ?_) (fun h149 => ?_)
            · refine tru ?_ _
              unfold kr_ok1
              first
              | (rw [if_pos h111]; exact decide_eq_true (by omega))
              | (rw [if_neg h111, if_pos h137]; exact decide_eq_true (by omega))
              | (rw [if_neg h111, if_neg h137]; exact decide_eq_true (by omega))
            · refine mm_goto dX13_holds_152 ?_
              refine fal ?_ _
              unfold kr_ok1
              first
              | (rw [if_pos h111]; exact decide_eq_false (by omega))
              | (rw [if_neg h111, if_pos h137]; exact decide_eq_false (by omega))
              | (rw [if_neg h111, if_neg h137]; exact decide_eq_false (by omega))
        · refine mm_iload dX13_holds_114 rfl rfl ?_
          refine mm_aload_n dX13_holds_116 rfl rfl ?_
          refine mm_getr dX13_holds_117 rfl fl_X13_191 (c := 183) rfl (by decide) rfl rfl (hR.at (c := 183) (i := 24) (v := 196) rfl (by decide)) ?_
          refine mm_iload dX13_holds_120 rfl rfl ?_
          refine mm_ialk (k0 := (3 * l + i)) dX13_holds_122 rfl (c := 195) rfl (by decide) rfl (by omega) (by omega) ?_
          rw [eB]
          refine mm_icgt dX13_holds_123 (by omega) (by omega) (fun h123 => ?_) (fun h123 => ?_)
          · refine tru ?_ _
            unfold kr_ok1
            first
            | (rw [if_pos h111]; exact decide_eq_true (by omega))
            | (rw [if_neg h111, if_pos h137]; exact decide_eq_true (by omega))
            | (rw [if_neg h111, if_neg h137]; exact decide_eq_true (by omega))
          · refine mm_goto dX13_holds_126 ?_
            refine fal ?_ _
            unfold kr_ok1
            first
            | (rw [if_pos h111]; exact decide_eq_false (by omega))
            | (rw [if_neg h111, if_pos h137]; exact decide_eq_false (by omega))
            | (rw [if_neg h111, if_neg h137]; exact decide_eq_false (by omega))
      refine mm_iload dX13_holds_5 rfl rfl ?_
      refine mm_iconst dX13_holds_7 rfl ?_
      refine mm_iload_n dX13_holds_8 rfl rfl ?_
      refine mm_imul dX13_holds_9 rfl ?_
      refine mm_aload_n dX13_holds_10 rfl rfl ?_
      refine mm_getr dX13_holds_11 rfl fl_X13_182 (c := 183) rfl (by decide) rfl rfl (hR.at (c := 183) (i := 25) (v := 197) rfl (by decide)) ?_
      refine mm_iload_n dX13_holds_14 rfl rfl ?_
      refine mm_ialk (k0 := l) dX13_holds_15 rfl (c := 196) rfl (by decide) rfl (by omega) (by omega) ?_
      rw [eC]
      refine mm_iadd dX13_holds_16 rfl ?_
      refine mm_icge dX13_holds_17 (by omega) (by omega) (fun h17 => ?_) (fun h17 => ?_)
      · exfalso; omega
      · refine mm_aload_n dX13_holds_20 rfl rfl ?_
        refine mm_getr dX13_holds_21 rfl fl_X13_185 (c := 183) rfl (by decide) rfl rfl (hR.at (c := 183) (i := 22) (v := 194) rfl (by decide)) ?_
        refine mm_iload dX13_holds_24 rfl rfl ?_
        refine mm_ialk (k0 := (3 * l + i)) dX13_holds_26 rfl (c := 193) rfl (by decide) rfl (by omega) (by omega) ?_
        rw [eQ]
        refine mm_ifne dX13_holds_27 (by omega) (fun h27 => ?_) (fun h27 => ?_)
        · refine mm_aload_n dX13_holds_40 rfl rfl ?_
          refine mm_getr dX13_holds_41 rfl fl_X13_185 (c := 183) rfl (by decide) rfl rfl (hR.at (c := 183) (i := 22) (v := 194) rfl (by decide)) ?_
          refine mm_iload dX13_holds_44 rfl rfl ?_
          refine mm_ialk (k0 := (3 * l + i)) dX13_holds_46 rfl (c := 193) rfl (by decide) rfl (by omega) (by omega) ?_
          rw [eQ]
          refine mm_iconst dX13_holds_47 rfl ?_
          refine mm_icne dX13_holds_48 (by omega) (by omega) (fun h48 => ?_) (fun h48 => ?_)
          · refine mm_aload_n dX13_holds_59 rfl rfl ?_
            refine mm_getr dX13_holds_60 rfl fl_X13_185 (c := 183) rfl (by decide) rfl rfl (hR.at (c := 183) (i := 22) (v := 194) rfl (by decide)) ?_
            refine mm_iload dX13_holds_63 rfl rfl ?_
            refine mm_ialk (k0 := (3 * l + i)) dX13_holds_65 rfl (c := 193) rfl (by decide) rfl (by omega) (by omega) ?_
            rw [eQ]
            refine mm_iconst dX13_holds_66 rfl ?_
            refine mm_icne dX13_holds_67 (by omega) (by omega) (fun h67 => ?_) (fun h67 => ?_)
            · refine mm_aload_n dX13_holds_78 rfl rfl ?_
              refine mm_getr dX13_holds_79 rfl fl_X13_185 (c := 183) rfl (by decide) rfl rfl (hR.at (c := 183) (i := 22) (v := 194) rfl (by decide)) ?_
              refine mm_iload dX13_holds_82 rfl rfl ?_
              refine mm_ialk (k0 := (3 * l + i)) dX13_holds_84 rfl (c := 193) rfl (by decide) rfl (by omega) (by omega) ?_
              rw [eQ]
              refine mm_iconst dX13_holds_85 rfl ?_
              refine mm_icne dX13_holds_86 (by omega) (by omega) (fun h86 => ?_) (fun h86 => ?_)
              · refine mm_aload_n dX13_holds_97 rfl rfl ?_
                refine mm_iload_n dX13_holds_98 rfl rfl ?_
                refine mm_V1i dX13_holds_99 rfl lk_X13_432 (c := 183) rfl (by decide) rfl (by simp) rfl rfl rfl (c_X13_rowOf hR hK hs) ?_
                refine nxt _ _ ?_
                unfold kr_val
                first
                | (rw [if_pos h27]; done)
                | (rw [if_neg h27, if_pos h48]; done)
                | (rw [if_neg h27, if_neg h48, if_pos h67]; done)
                | (rw [if_neg h27, if_neg h48, if_neg h67, if_pos h86]; done)
                | (rw [if_neg h27, if_neg h48, if_neg h67, if_neg h86]; done)
              · refine mm_aload_n dX13_holds_89 rfl rfl ?_
                refine mm_iload_n dX13_holds_90 rfl rfl ?_
                refine mm_V1i dX13_holds_91 rfl lk_X13_438 (c := 183) rfl (by decide) rfl (by simp) rfl rfl rfl (c_X13_columnOf hR hK hs) ?_
                refine mm_goto dX13_holds_94 ?_
                refine nxt _ _ ?_
                unfold kr_val
                first
                | (rw [if_pos h27]; done)
                | (rw [if_neg h27, if_pos h48]; done)
                | (rw [if_neg h27, if_neg h48, if_pos h67]; done)
                | (rw [if_neg h27, if_neg h48, if_neg h67, if_pos h86]; done)
                | (rw [if_neg h27, if_neg h48, if_neg h67, if_neg h86]; done)
            · refine mm_aload_n dX13_holds_70 rfl rfl ?_
              refine mm_iload_n dX13_holds_71 rfl rfl ?_
              refine mm_V1i dX13_holds_72 rfl lk_X13_429 (c := 183) rfl (by decide) rfl (by simp) rfl rfl rfl (c_X13_ropeOf hR hK hs) ?_
              refine mm_goto dX13_holds_75 ?_
              refine nxt _ _ ?_
              unfold kr_val
              first
              | (rw [if_pos h27]; done)
              | (rw [if_neg h27, if_pos h48]; done)
              | (rw [if_neg h27, if_neg h48, if_pos h67]; done)
              | (rw [if_neg h27, if_neg h48, if_neg h67, if_pos h86]; done)
              | (rw [if_neg h27, if_neg h48, if_neg h67, if_neg h86]; done)
          · refine mm_aload_n dX13_holds_51 rfl rfl ?_
            refine mm_iload_n dX13_holds_52 rfl rfl ?_
            refine mm_V1i dX13_holds_53 rfl lk_X13_435 (c := 183) rfl (by decide) rfl (by simp) rfl rfl rfl (c_X13_heightOf hR hK hs) ?_
            refine mm_goto dX13_holds_56 ?_
            refine nxt _ _ ?_
            unfold kr_val
            first
            | (rw [if_pos h27]; done)
            | (rw [if_neg h27, if_pos h48]; done)
            | (rw [if_neg h27, if_neg h48, if_pos h67]; done)
            | (rw [if_neg h27, if_neg h48, if_neg h67, if_pos h86]; done)
            | (rw [if_neg h27, if_neg h48, if_neg h67, if_neg h86]; done)
        · refine mm_aload_n dX13_holds_30 rfl rfl ?_
          refine mm_iload_n dX13_holds_31 rfl rfl ?_
          refine mm_iconst dX13_holds_32 rfl ?_
          refine mm_iload_n dX13_holds_33 rfl rfl ?_
          refine mm_V3i dX13_holds_34 rfl lk_X13_497 (c := 183) rfl (by decide) rfl (by simp) (by simp) (by simp) rfl rfl rfl (c_X13_pullOf hR hK hs h0 (by omega)) ?_
          refine mm_goto dX13_holds_37 ?_
          refine nxt _ _ ?_
          unfold kr_val
          first
          | (rw [if_pos h27]; done)
          | (rw [if_neg h27, if_pos h48]; done)
          | (rw [if_neg h27, if_neg h48, if_pos h67]; done)
          | (rw [if_neg h27, if_neg h48, if_neg h67, if_pos h86]; done)
          | (rw [if_neg h27, if_neg h48, if_neg h67, if_neg h86]; done)
    · have ei : i = (kq_C M l).toNat := by omega
      refine mm_iload dX13_holds_5 rfl rfl ?_
      refine mm_iconst dX13_holds_7 rfl ?_
      refine mm_iload_n dX13_holds_8 rfl rfl ?_
      refine mm_imul dX13_holds_9 rfl ?_
      refine mm_aload_n dX13_holds_10 rfl rfl ?_
      refine mm_getr dX13_holds_11 rfl fl_X13_182 (c := 183) rfl (by decide) rfl rfl (hR.at (c := 183) (i := 25) (v := 197) rfl (by decide)) ?_
      refine mm_iload_n dX13_holds_14 rfl rfl ?_
      refine mm_ialk (k0 := l) dX13_holds_15 rfl (c := 196) rfl (by decide) rfl (by omega) (by omega) ?_
      rw [eC]
      refine mm_iadd dX13_holds_16 rfl ?_
      refine mm_icge dX13_holds_17 (by omega) (by omega) (fun h17 => ?_) (fun h17 => ?_)
      · refine mm_iconst dX13_holds_175 rfl ?_
        refine mm_zret dX13_holds_176 rfl rfl (Or.inr rfl) ?_
        exact mm_fin (mm_b1 (by unfold kr_ln; rw [← ei]; exact hh)) rfl
      · exfalso; omega
  refine mm_iconst dX13_holds_0 rfl ?_
  refine mm_iload_n dX13_holds_1 rfl rfl ?_
  refine mm_imul dX13_holds_2 rfl ?_
  refine mm_istore dX13_holds_3 rfl (Nat.le_of_ble_eq_true rfl) rfl ?_
  have := loop 0 (Nat.zero_le _) (9, 0) rfl
  rw [show (((3 * l + 0) : Nat) : Int) = 3 * (l : Int) by omega] at this
  exact this
end

