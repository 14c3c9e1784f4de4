/-! ===== words at hand, of the reference ===== -/
abbrev ks_W (k : Nat) : List Int := (mm_sc.getD k mm_sd).2.2.2
/-- the token behind p is the word k -/
def kt_ib (B : Nat → Int) (n p k : Nat) : Bool := decide (kt_k B n p = 1 ∧ kt_e B n p - kt_s B n p = (ks_W k).length ∧ ∀ j, j < (ks_W k).length → B (kt_s B n p + j) = (ks_W k).getD j 0)
abbrev kt_iw (B : Nat → Int) (n p k : Nat) : Prop := kt_ib B n p k = true
theorem kt_iw_m {B : Nat → Int} {n p k : Nat} : kt_iw B n p k ↔ (kt_k B n p = 1 ∧ kt_m (fun j => B (kt_s B n p + j)) (kt_e B n p - kt_s B n p) (ks_W k)) := by
  unfold kt_iw kt_ib kt_m
  rw [decide_eq_true_iff]
def kt_j : List (List Int) → List Int
  | [] => []
  | [w] => w
  | w :: v :: ws => w ++ 32 :: kt_j (v :: ws)
def kt_fi (B : Nat → Int) (n p : Nat) : List Nat → Nat → Int
  | [], _ => -1
  | k :: ks, i => if kt_iw B n p k then (i : Int) else kt_fi B n p ks (i + 1)
theorem kp_nm_j {B : Nat → Int} {n p k0 : Nat} {ks : List Nat} (h1 : ks_W k0 = kt_j (ks.map ks_W)) (h2 : ∀ k, k ∈ ks → 32 ∉ ks_W k) (h3 : ks ≠ []) : kp_nm B n p k0 = kt_fi B n p ks 0 := by
  unfold kp_nm
  by_cases hk : kt_k B n p = 1
  · rw [if_pos hk]
    show kt_f _ _ (ks_W k0) 0 0 true = _
    rw [h1]
    have key : ∀ (ks : List Nat) (i : Nat), (∀ k, k ∈ ks → 32 ∉ ks_W k) → ks ≠ [] → kt_f (fun j => B (kt_s B n p + j)) (kt_e B n p - kt_s B n p) (kt_j (ks.map ks_W)) i 0 true = kt_fi B n p ks i := by
      intro ks
      induction ks with
      | nil => intro i _ h; exact absurd rfl h
      | cons k ks ih =>
        intro i h2 _
        have hk2 := h2 k List.mem_cons_self
        cases ks with
        | nil =>
          have := kt_f_la (T := fun j => B (kt_s B n p + j)) (len := kt_e B n p - kt_s B n p) (w := i) hk2
          show kt_f _ _ (ks_W k) i 0 true = _
          unfold kt_fi kt_fi
          by_cases q : kt_iw B n p k
          · rw [if_pos q]; exact this.1 (kt_iw_m.1 q).2
          · rw [if_neg q]; exact this.2 (fun z => q (kt_iw_m.2 ⟨hk, z⟩))
        | cons k' ks =>
          have := kt_f_in (T := fun j => B (kt_s B n p + j)) (len := kt_e B n p - kt_s B n p) (rest := kt_j ((k' :: ks).map ks_W)) (w := i) hk2
          show kt_f _ _ (ks_W k ++ 32 :: kt_j ((k' :: ks).map ks_W)) i 0 true = _
          rw [kt_fi]
          by_cases q : kt_iw B n p k
          · rw [if_pos q]; exact this.1 (kt_iw_m.1 q).2
          · rw [if_neg q, this.2 (fun z => q (kt_iw_m.2 ⟨hk, z⟩))]
            exact ih (i + 1) (fun k hk => h2 k (List.mem_cons_of_mem _ hk)) (by simp)
    exact key ks _ h2 h3
  · rw [if_neg hk]
    have key : ∀ (ks : List Nat) (i : Nat), kt_fi B n p ks i = -1 := by
      intro ks
      induction ks with
      | nil => intro i; rfl
      | cons k ks ih => intro i; rw [kt_fi, if_neg (fun q => hk (kt_iw_m.1 q).1)]; exact ih _
    rw [key]
section
variable {X : mm_X} {M : mm_M} {n p k0 : Nat}
theorem kt_is (hR : mm_Rf M) (hT : mm_RT M n) (hp : p ≤ n) (hH : kt_H M n p) (hk : k0 < 37) : mm_Fn X Y_X13_is 243 [(2, 184), (2, -((k0 + 100 : Nat) : Int))] M (0, mm_b (kt_iw (M 185) n p k0)) M := by
  have c := c_X13_is (X := X) (k0 := k0) hR hT hk hH.b.1 hH.2.1 hH.2.2.1 (kt_eb hp)
  refine mm_Cmono c ?_
  rintro r M' ⟨z, rfl, -, rfl, h⟩
  refine ⟨?_, rfl⟩
  rw [hH.1] at h
  rcases h with ⟨rfl, h⟩ | ⟨rfl, h⟩
  · rw [mm_b_t (kt_iw_m.2 h)]
  · rw [mm_b_f (fun q => h (kt_iw_m.1 q))]
theorem kp_nm1 {B : Nat → Int} {n p : Nat} : kp_nm B n p 1 = kt_fi B n p [19] 0 := kp_nm_j (by decide +kernel) (by decide +kernel) (by simp)
theorem kp_nm3 {B : Nat → Int} {n p : Nat} : kp_nm B n p 3 = kt_fi B n p [24, 25, 26] 0 := kp_nm_j (by decide +kernel) (by decide +kernel) (by simp)
theorem kp_nm4 {B : Nat → Int} {n p : Nat} : kp_nm B n p 4 = kt_fi B n p [27, 28] 0 := kp_nm_j (by decide +kernel) (by decide +kernel) (by simp)
theorem kp_nm0 {B : Nat → Int} {n p : Nat} : kp_nm B n p 0 = kt_fi B n p [7, 8, 9, 10, 11, 12, 13, 14, 15, 16, 17, 18] 0 := kp_nm_j (by decide +kernel) (by decide +kernel) (by simp)
theorem kp_nm2 {B : Nat → Int} {n p : Nat} : kp_nm B n p 2 = kt_fi B n p [20, 21, 9, 22, 23] 0 := kp_nm_j (by decide +kernel) (by decide +kernel) (by simp)
theorem kp_nm5 {B : Nat → Int} {n p : Nat} : kp_nm B n p 5 = kt_fi B n p [29, 30, 31, 32, 33] 0 := kp_nm_j (by decide +kernel) (by decide +kernel) (by simp)
theorem kp_nm6 {B : Nat → Int} {n p : Nat} : kp_nm B n p 6 = kt_fi B n p [34, 35, 36] 0 := kp_nm_j (by decide +kernel) (by decide +kernel) (by simp)
theorem c_X13_clauseAtHand (hR : mm_Rf M) (hT : mm_RT M n) (hp : p ≤ n) (hH : kt_H M n p) : mm_Fn X Y_X13_clauseAtHand 243 [(2, 184)] M (0, kp_nm (M 185) n p 0) M := by
  refine mm_startF (ls := [(2, 184)]) rfl ?_
  rw [kp_nm0]
  simp only [kt_fi]
  refine mm_aload_n dX13_clauseAtHand_0 rfl rfl ?_
  refine mm_lds (k0 := 7) dX13_clauseAtHand_1 rfl (by decide) rfl rfl ?_
  refine mm_V1i dX13_clauseAtHand_3 rfl lk_X13_103 (c := 183) rfl (by decide) rfl (by simp) rfl rfl rfl (kt_is hR hT hp hH (by decide)) ?_
  refine mm_ifeqb dX13_clauseAtHand_6 (fun h6 => ?_) (fun h6 => ?_)
  · refine mm_aload_n dX13_clauseAtHand_11 rfl rfl ?_
    refine mm_lds (k0 := 8) dX13_clauseAtHand_12 rfl (by decide) rfl rfl ?_
    refine mm_V1i dX13_clauseAtHand_14 rfl lk_X13_103 (c := 183) rfl (by decide) rfl (by simp) rfl rfl rfl (kt_is hR hT hp hH (by decide)) ?_
    refine mm_ifeqb dX13_clauseAtHand_17 (fun h17 => ?_) (fun h17 => ?_)
    · refine mm_aload_n dX13_clauseAtHand_22 rfl rfl ?_
      refine mm_lds (k0 := 9) dX13_clauseAtHand_23 rfl (by decide) rfl rfl ?_
      refine mm_V1i dX13_clauseAtHand_25 rfl lk_X13_103 (c := 183) rfl (by decide) rfl (by simp) rfl rfl rfl (kt_is hR hT hp hH (by decide)) ?_
      refine mm_ifeqb dX13_clauseAtHand_28 (fun h28 => ?_) (fun h28 => ?_)
      · refine mm_aload_n dX13_clauseAtHand_33 rfl rfl ?_
        refine mm_lds (k0 := 10) dX13_clauseAtHand_34 rfl (by decide) rfl rfl ?_
        refine mm_V1i dX13_clauseAtHand_36 rfl lk_X13_103 (c := 183) rfl (by decide) rfl (by simp) rfl rfl rfl (kt_is hR hT hp hH (by decide)) ?_
        refine mm_ifeqb dX13_clauseAtHand_39 (fun h39 => ?_) (fun h39 => ?_)
        · refine mm_aload_n dX13_clauseAtHand_44 rfl rfl ?_
          refine mm_lds (k0 := 11) dX13_clauseAtHand_45 rfl (by decide) rfl rfl ?_
          refine mm_V1i dX13_clauseAtHand_47 rfl lk_X13_103 (c := 183) rfl (by decide) rfl (by simp) rfl rfl rfl (kt_is hR hT hp hH (by decide)) ?_
          refine mm_ifeqb dX13_clauseAtHand_50 (fun h50 => ?_) (fun h50 => ?_)
          · refine mm_aload_n dX13_clauseAtHand_55 rfl rfl ?_
            refine mm_lds (k0 := 12) dX13_clauseAtHand_56 rfl (by decide) rfl rfl ?_
            refine mm_V1i dX13_clauseAtHand_58 rfl lk_X13_103 (c := 183) rfl (by decide) rfl (by simp) rfl rfl rfl (kt_is hR hT hp hH (by decide)) ?_
            refine mm_ifeqb dX13_clauseAtHand_61 (fun h61 => ?_) (fun h61 => ?_)
            · refine mm_aload_n dX13_clauseAtHand_66 rfl rfl ?_
              refine mm_lds (k0 := 13) dX13_clauseAtHand_67 rfl (by decide) rfl rfl ?_
              refine mm_V1i dX13_clauseAtHand_69 rfl lk_X13_103 (c := 183) rfl (by decide) rfl (by simp) rfl rfl rfl (kt_is hR hT hp hH (by decide)) ?_
              refine mm_ifeqb dX13_clauseAtHand_72 (fun h72 => ?_) (fun h72 => ?_)
              · refine mm_aload_n dX13_clauseAtHand_78 rfl rfl ?_
                refine mm_lds (k0 := 14) dX13_clauseAtHand_79 rfl (by decide) rfl rfl ?_
                refine mm_V1i dX13_clauseAtHand_81 rfl lk_X13_103 (c := 183) rfl (by decide) rfl (by simp) rfl rfl rfl (kt_is hR hT hp hH (by decide)) ?_
                refine mm_ifeqb dX13_clauseAtHand_84 (fun h84 => ?_) (fun h84 => ?_)
                · refine mm_aload_n dX13_clauseAtHand_90 rfl rfl ?_
                  refine mm_lds (k0 := 15) dX13_clauseAtHand_91 rfl (by decide) rfl rfl ?_
                  refine mm_V1i dX13_clauseAtHand_93 rfl lk_X13_103 (c := 183) rfl (by decide) rfl (by simp) rfl rfl rfl (kt_is hR hT hp hH (by decide)) ?_
                  refine mm_ifeqb dX13_clauseAtHand_96 (fun h96 => ?_) (fun h96 => ?_)
                  · refine mm_aload_n dX13_clauseAtHand_102 rfl rfl ?_
                    refine mm_lds (k0 := 16) dX13_clauseAtHand_103 rfl (by decide) rfl rfl ?_
                    refine mm_V1i dX13_clauseAtHand_105 rfl lk_X13_103 (c := 183) rfl (by decide) rfl (by simp) rfl rfl rfl (kt_is hR hT hp hH (by decide)) ?_
                    refine mm_ifeqb dX13_clauseAtHand_108 (fun h108 => ?_) (fun h108 => ?_)
                    · refine mm_aload_n dX13_clauseAtHand_114 rfl rfl ?_
                      refine mm_lds (k0 := 17) dX13_clauseAtHand_115 rfl (by decide) rfl rfl ?_
                      refine mm_V1i dX13_clauseAtHand_117 rfl lk_X13_103 (c := 183) rfl (by decide) rfl (by simp) rfl rfl rfl (kt_is hR hT hp hH (by decide)) ?_
                      refine mm_ifeqb dX13_clauseAtHand_120 (fun h120 => ?_) (fun h120 => ?_)
                      · refine mm_aload_n dX13_clauseAtHand_126 rfl rfl ?_
                        refine mm_lds (k0 := 18) dX13_clauseAtHand_127 rfl (by decide) rfl rfl ?_
                        refine mm_V1i dX13_clauseAtHand_129 rfl lk_X13_103 (c := 183) rfl (by decide) rfl (by simp) rfl rfl rfl (kt_is hR hT hp hH (by decide)) ?_
                        refine mm_ifeqb dX13_clauseAtHand_132 (fun h132 => ?_) (fun h132 => ?_)
                        · refine mm_iconst dX13_clauseAtHand_140 rfl ?_
                          refine mm_iret dX13_clauseAtHand_141 rfl rfl ?_
                          refine mm_fin ?_ rfl
                          first
                          | (rw [if_pos h6]; rfl)
                          | (rw [if_neg h6, if_pos h17]; rfl)
                          | (rw [if_neg h6, if_neg h17, if_pos h28]; rfl)
                          | (rw [if_neg h6, if_neg h17, if_neg h28, if_pos h39]; rfl)
                          | (rw [if_neg h6, if_neg h17, if_neg h28, if_neg h39, if_pos h50]; rfl)
                          | (rw [if_neg h6, if_neg h17, if_neg h28, if_neg h39, if_neg h50, if_pos h61]; rfl)
                          | (rw [if_neg h6, if_neg h17, if_neg h28, if_neg h39, if_neg h50, if_neg h61, if_pos h72]; rfl)
                          | (rw [if_neg h6, if_neg h17, if_neg h28, if_neg h39, if_neg h50, if_neg h61, if_neg h72, if_pos h84]; rfl)
                          | (rw [if_neg h6, if_neg h17, if_neg h28, if_neg h39, if_neg h50, if_neg h61, if_neg h72, if_neg h84, if_pos h96]; rfl)
                          | (rw [if_neg h6, if_neg h17, if_neg h28, if_neg h39, if_neg h50, if_neg h61, if_neg h72, if_neg h84, if_neg h96, if_pos h108]; rfl)
                          | (rw [if_neg h6, if_neg h17, if_neg h28, if_neg h39, if_neg h50, if_neg h61, if_neg h72, if_neg h84, if_neg h96, if_neg h108, if_pos h120]; rfl)
                          | (rw [if_neg h6, if_neg h17, if_neg h28, if_neg h39, if_neg h50, if_neg h61, if_neg h72, if_neg h84, if_neg h96, if_neg h108, if_neg h120, if_pos h132]; rfl)
                          | (rw [if_neg h6, if_neg h17, if_neg h28, if_neg h39, if_neg h50, if_neg h61, if_neg h72, if_neg h84, if_neg h96, if_neg h108, if_neg h120, if_neg h132]; done)
                        · refine mm_bipush dX13_clauseAtHand_135 rfl (by decide) ?_
                          refine mm_goto dX13_clauseAtHand_137 ?_
                          refine mm_iret dX13_clauseAtHand_141 rfl rfl ?_
                          refine mm_fin ?_ rfl
                          first
                          | (rw [if_pos h6]; rfl)
                          | (rw [if_neg h6, if_pos h17]; rfl)
                          | (rw [if_neg h6, if_neg h17, if_pos h28]; rfl)
                          | (rw [if_neg h6, if_neg h17, if_neg h28, if_pos h39]; rfl)
                          | (rw [if_neg h6, if_neg h17, if_neg h28, if_neg h39, if_pos h50]; rfl)
                          | (rw [if_neg h6, if_neg h17, if_neg h28, if_neg h39, if_neg h50, if_pos h61]; rfl)
                          | (rw [if_neg h6, if_neg h17, if_neg h28, if_neg h39, if_neg h50, if_neg h61, if_pos h72]; rfl)
                          | (rw [if_neg h6, if_neg h17, if_neg h28, if_neg h39, if_neg h50, if_neg h61, if_neg h72, if_pos h84]; rfl)
                          | (rw [if_neg h6, if_neg h17, if_neg h28, if_neg h39, if_neg h50, if_neg h61, if_neg h72, if_neg h84, if_pos h96]; rfl)
                          | (rw [if_neg h6, if_neg h17, if_neg h28, if_neg h39, if_neg h50, if_neg h61, if_neg h72, if_neg h84, if_neg h96, if_pos h108]; rfl)
                          | (rw [if_neg h6, if_neg h17, if_neg h28, if_neg h39, if_neg h50, if_neg h61, if_neg h72, if_neg h84, if_neg h96, if_neg h108, if_pos h120]; rfl)
                          | (rw [if_neg h6, if_neg h17, if_neg h28, if_neg h39, if_neg h50, if_neg h61, if_neg h72, if_neg h84, if_neg h96, if_neg h108, if_neg h120, if_pos h132]; rfl)
                          | (rw [if_neg h6, if_neg h17, if_neg h28, if_neg h39, if_neg h50, if_neg h61, if_neg h72, if_neg h84, if_neg h96, if_neg h108, if_neg h120, if_neg h132]; done)
                      · refine mm_bipush dX13_clauseAtHand_123 rfl (by decide) ?_
                        refine mm_iret dX13_clauseAtHand_125 rfl rfl ?_
                        refine mm_fin ?_ rfl
                        first
                        | (rw [if_pos h6]; rfl)
                        | (rw [if_neg h6, if_pos h17]; rfl)
                        | (rw [if_neg h6, if_neg h17, if_pos h28]; rfl)
                        | (rw [if_neg h6, if_neg h17, if_neg h28, if_pos h39]; rfl)
                        | (rw [if_neg h6, if_neg h17, if_neg h28, if_neg h39, if_pos h50]; rfl)
                        | (rw [if_neg h6, if_neg h17, if_neg h28, if_neg h39, if_neg h50, if_pos h61]; rfl)
                        | (rw [if_neg h6, if_neg h17, if_neg h28, if_neg h39, if_neg h50, if_neg h61, if_pos h72]; rfl)
                        | (rw [if_neg h6, if_neg h17, if_neg h28, if_neg h39, if_neg h50, if_neg h61, if_neg h72, if_pos h84]; rfl)
                        | (rw [if_neg h6, if_neg h17, if_neg h28, if_neg h39, if_neg h50, if_neg h61, if_neg h72, if_neg h84, if_pos h96]; rfl)
                        | (rw [if_neg h6, if_neg h17, if_neg h28, if_neg h39, if_neg h50, if_neg h61, if_neg h72, if_neg h84, if_neg h96, if_pos h108]; rfl)
                        | (rw [if_neg h6, if_neg h17, if_neg h28, if_neg h39, if_neg h50, if_neg h61, if_neg h72, if_neg h84, if_neg h96, if_neg h108, if_pos h120]; rfl)
                        | (rw [if_neg h6, if_neg h17, if_neg h28, if_neg h39, if_neg h50, if_neg h61, if_neg h72, if_neg h84, if_neg h96, if_neg h108, if_neg h120, if_pos h132]; rfl)
                        | (rw [if_neg h6, if_neg h17, if_neg h28, if_neg h39, if_neg h50, if_neg h61, if_neg h72, if_neg h84, if_neg h96, if_neg h108, if_neg h120, if_neg h132]; done)
                    · refine mm_bipush dX13_clauseAtHand_111 rfl (by decide) ?_
                      refine mm_iret dX13_clauseAtHand_113 rfl rfl ?_
                      refine mm_fin ?_ rfl
                      first
                      | (rw [if_pos h6]; rfl)
                      | (rw [if_neg h6, if_pos h17]; rfl)
                      | (rw [if_neg h6, if_neg h17, if_pos h28]; rfl)
                      | (rw [if_neg h6, if_neg h17, if_neg h28, if_pos h39]; rfl)
                      | (rw [if_neg h6, if_neg h17, if_neg h28, if_neg h39, if_pos h50]; rfl)
                      | (rw [if_neg h6, if_neg h17, if_neg h28, if_neg h39, if_neg h50, if_pos h61]; rfl)
                      | (rw [if_neg h6, if_neg h17, if_neg h28, if_neg h39, if_neg h50, if_neg h61, if_pos h72]; rfl)
                      | (rw [if_neg h6, if_neg h17, if_neg h28, if_neg h39, if_neg h50, if_neg h61, if_neg h72, if_pos h84]; rfl)
                      | (rw [if_neg h6, if_neg h17, if_neg h28, if_neg h39, if_neg h50, if_neg h61, if_neg h72, if_neg h84, if_pos h96]; rfl)
                      | (rw [if_neg h6, if_neg h17, if_neg h28, if_neg h39, if_neg h50, if_neg h61, if_neg h72, if_neg h84, if_neg h96, if_pos h108]; rfl)
                      | (rw [if_neg h6, if_neg h17, if_neg h28, if_neg h39, if_neg h50, if_neg h61, if_neg h72, if_neg h84, if_neg h96, if_neg h108, if_pos h120]; rfl)
                      | (rw [if_neg h6, if_neg h17, if_neg h28, if_neg h39, if_neg h50, if_neg h61, if_neg h72, if_neg h84, if_neg h96, if_neg h108, if_neg h120, if_pos h132]; rfl)
                      | (rw [if_neg h6, if_neg h17, if_neg h28, if_neg h39, if_neg h50, if_neg h61, if_neg h72, if_neg h84, if_neg h96, if_neg h108, if_neg h120, if_neg h132]; done)
                  · refine mm_bipush dX13_clauseAtHand_99 rfl (by decide) ?_
                    refine mm_iret dX13_clauseAtHand_101 rfl rfl ?_
                    refine mm_fin ?_ rfl
                    first
                    | (rw [if_pos h6]; rfl)
                    | (rw [if_neg h6, if_pos h17]; rfl)
                    | (rw [if_neg h6, if_neg h17, if_pos h28]; rfl)
                    | (rw [if_neg h6, if_neg h17, if_neg h28, if_pos h39]; rfl)
                    | (rw [if_neg h6, if_neg h17, if_neg h28, if_neg h39, if_pos h50]; rfl)
                    | (rw [if_neg h6, if_neg h17, if_neg h28, if_neg h39, if_neg h50, if_pos h61]; rfl)
                    | (rw [if_neg h6, if_neg h17, if_neg h28, if_neg h39, if_neg h50, if_neg h61, if_pos h72]; rfl)
                    | (rw [if_neg h6, if_neg h17, if_neg h28, if_neg h39, if_neg h50, if_neg h61, if_neg h72, if_pos h84]; rfl)
                    | (rw [if_neg h6, if_neg h17, if_neg h28, if_neg h39, if_neg h50, if_neg h61, if_neg h72, if_neg h84, if_pos h96]; rfl)
                    | (rw [if_neg h6, if_neg h17, if_neg h28, if_neg h39, if_neg h50, if_neg h61, if_neg h72, if_neg h84, if_neg h96, if_pos h108]; rfl)
                    | (rw [if_neg h6, if_neg h17, if_neg h28, if_neg h39, if_neg h50, if_neg h61, if_neg h72, if_neg h84, if_neg h96, if_neg h108, if_pos h120]; rfl)
                    | (rw [if_neg h6, if_neg h17, if_neg h28, if_neg h39, if_neg h50, if_neg h61, if_neg h72, if_neg h84, if_neg h96, if_neg h108, if_neg h120, if_pos h132]; rfl)
                    | (rw [if_neg h6, if_neg h17, if_neg h28, if_neg h39, if_neg h50, if_neg h61, if_neg h72, if_neg h84, if_neg h96, if_neg h108, if_neg h120, if_neg h132]; done)
                · refine mm_bipush dX13_clauseAtHand_87 rfl (by decide) ?_
                  refine mm_iret dX13_clauseAtHand_89 rfl rfl ?_
                  refine mm_fin ?_ rfl
                  first
                  | (rw [if_pos h6]; rfl)
                  | (rw [if_neg h6, if_pos h17]; rfl)
                  | (rw [if_neg h6, if_neg h17, if_pos h28]; rfl)
                  | (rw [if_neg h6, if_neg h17, if_neg h28, if_pos h39]; rfl)
                  | (rw [if_neg h6, if_neg h17, if_neg h28, if_neg h39, if_pos h50]; rfl)
                  | (rw [if_neg h6, if_neg h17, if_neg h28, if_neg h39, if_neg h50, if_pos h61]; rfl)
                  | (rw [if_neg h6, if_neg h17, if_neg h28, if_neg h39, if_neg h50, if_neg h61, if_pos h72]; rfl)
                  | (rw [if_neg h6, if_neg h17, if_neg h28, if_neg h39, if_neg h50, if_neg h61, if_neg h72, if_pos h84]; rfl)
                  | (rw [if_neg h6, if_neg h17, if_neg h28, if_neg h39, if_neg h50, if_neg h61, if_neg h72, if_neg h84, if_pos h96]; rfl)
                  | (rw [if_neg h6, if_neg h17, if_neg h28, if_neg h39, if_neg h50, if_neg h61, if_neg h72, if_neg h84, if_neg h96, if_pos h108]; rfl)
                  | (rw [if_neg h6, if_neg h17, if_neg h28, if_neg h39, if_neg h50, if_neg h61, if_neg h72, if_neg h84, if_neg h96, if_neg h108, if_pos h120]; rfl)
                  | (rw [if_neg h6, if_neg h17, if_neg h28, if_neg h39, if_neg h50, if_neg h61, if_neg h72, if_neg h84, if_neg h96, if_neg h108, if_neg h120, if_pos h132]; rfl)
                  | (rw [if_neg h6, if_neg h17, if_neg h28, if_neg h39, if_neg h50, if_neg h61, if_neg h72, if_neg h84, if_neg h96, if_neg h108, if_neg h120, if_neg h132]; done)
              · refine mm_bipush dX13_clauseAtHand_75 rfl (by decide) ?_
                refine mm_iret dX13_clauseAtHand_77 rfl rfl ?_
                refine mm_fin ?_ rfl
                first
                | (rw [if_pos h6]; rfl)
                | (rw [if_neg h6, if_pos h17]; rfl)
                | (rw [if_neg h6, if_neg h17, if_pos h28]; rfl)
                | (rw [if_neg h6, if_neg h17, if_neg h28, if_pos h39]; rfl)
                | (rw [if_neg h6, if_neg h17, if_neg h28, if_neg h39, if_pos h50]; rfl)
                | (rw [if_neg h6, if_neg h17, if_neg h28, if_neg h39, if_neg h50, if_pos h61]; rfl)
                | (rw [if_neg h6, if_neg h17, if_neg h28, if_neg h39, if_neg h50, if_neg h61, if_pos h72]; rfl)
                | (rw [if_neg h6, if_neg h17, if_neg h28, if_neg h39, if_neg h50, if_neg h61, if_neg h72, if_pos h84]; rfl)
                | (rw [if_neg h6, if_neg h17, if_neg h28, if_neg h39, if_neg h50, if_neg h61, if_neg h72, if_neg h84, if_pos h96]; rfl)
                | (rw [if_neg h6, if_neg h17, if_neg h28, if_neg h39, if_neg h50, if_neg h61, if_neg h72, if_neg h84, if_neg h96, if_pos h108]; rfl)
                | (rw [if_neg h6, if_neg h17, if_neg h28, if_neg h39, if_neg h50, if_neg h61, if_neg h72, if_neg h84, if_neg h96, if_neg h108, if_pos h120]; rfl)
                | (rw [if_neg h6, if_neg h17, if_neg h28, if_neg h39, if_neg h50, if_neg h61, if_neg h72, if_neg h84, if_neg h96, if_neg h108, if_neg h120, if_pos h132]; rfl)
                | (rw [if_neg h6, if_neg h17, if_neg h28, if_neg h39, if_neg h50, if_neg h61, if_neg h72, if_neg h84, if_neg h96, if_neg h108, if_neg h120, if_neg h132]; done)
            · refine mm_iconst dX13_clauseAtHand_64 rfl ?_
              refine mm_iret dX13_clauseAtHand_65 rfl rfl ?_
              refine mm_fin ?_ rfl
              first
              | (rw [if_pos h6]; rfl)
              | (rw [if_neg h6, if_pos h17]; rfl)
              | (rw [if_neg h6, if_neg h17, if_pos h28]; rfl)
              | (rw [if_neg h6, if_neg h17, if_neg h28, if_pos h39]; rfl)
              | (rw [if_neg h6, if_neg h17, if_neg h28, if_neg h39, if_pos h50]; rfl)
              | (rw [if_neg h6, if_neg h17, if_neg h28, if_neg h39, if_neg h50, if_pos h61]; rfl)
              | (rw [if_neg h6, if_neg h17, if_neg h28, if_neg h39, if_neg h50, if_neg h61, if_pos h72]; rfl)
              | (rw [if_neg h6, if_neg h17, if_neg h28, if_neg h39, if_neg h50, if_neg h61, if_neg h72, if_pos h84]; rfl)
              | (rw [if_neg h6, if_neg h17, if_neg h28, if_neg h39, if_neg h50, if_neg h61, if_neg h72, if_neg h84, if_pos h96]; rfl)
              | (rw [if_neg h6, if_neg h17, if_neg h28, if_neg h39, if_neg h50, if_neg h61, if_neg h72, if_neg h84, if_neg h96, if_pos h108]; rfl)
              | (rw [if_neg h6, if_neg h17, if_neg h28, if_neg h39, if_neg h50, if_neg h61, if_neg h72, if_neg h84, if_neg h96, if_neg h108, if_pos h120]; rfl)
              | (rw [if_neg h6, if_neg h17, if_neg h28, if_neg h39, if_neg h50, if_neg h61, if_neg h72, if_neg h84, if_neg h96, if_neg h108, if_neg h120, if_pos h132]; rfl)
              | (rw [if_neg h6, if_neg h17, if_neg h28, if_neg h39, if_neg h50, if_neg h61, if_neg h72, if_neg h84, if_neg h96, if_neg h108, if_neg h120, if_neg h132]; done)
          · refine mm_iconst dX13_clauseAtHand_53 rfl ?_
            refine mm_iret dX13_clauseAtHand_54 rfl rfl ?_
            refine mm_fin ?_ rfl
            first
            | (rw [if_pos h6]; rfl)
            | (rw [if_neg h6, if_pos h17]; rfl)
            | (rw [if_neg h6, if_neg h17, if_pos h28]; rfl)
            | (rw [if_neg h6, if_neg h17, if_neg h28, if_pos h39]; rfl)
            | (rw [if_neg h6, if_neg h17, if_neg h28, if_neg h39, if_pos h50]; rfl)
            | (rw [if_neg h6, if_neg h17, if_neg h28, if_neg h39, if_neg h50, if_pos h61]; rfl)
            | (rw [if_neg h6, if_neg h17, if_neg h28, if_neg h39, if_neg h50, if_neg h61, if_pos h72]; rfl)
            | (rw [if_neg h6, if_neg h17, if_neg h28, if_neg h39, if_neg h50, if_neg h61, if_neg h72, if_pos h84]; rfl)
            | (rw [if_neg h6, if_neg h17, if_neg h28, if_neg h39, if_neg h50, if_neg h61, if_neg h72, if_neg h84, if_pos h96]; rfl)
            | (rw [if_neg h6, if_neg h17, if_neg h28, if_neg h39, if_neg h50, if_neg h61, if_neg h72, if_neg h84, if_neg h96, if_pos h108]; rfl)
            | (rw [if_neg h6, if_neg h17, if_neg h28, if_neg h39, if_neg h50, if_neg h61, if_neg h72, if_neg h84, if_neg h96, if_neg h108, if_pos h120]; rfl)
            | (rw [if_neg h6, if_neg h17, if_neg h28, if_neg h39, if_neg h50, if_neg h61, if_neg h72, if_neg h84, if_neg h96, if_neg h108, if_neg h120, if_pos h132]; rfl)
            | (rw [if_neg h6, if_neg h17, if_neg h28, if_neg h39, if_neg h50, if_neg h61, if_neg h72, if_neg h84, if_neg h96, if_neg h108, if_neg h120, if_neg h132]; done)
        · refine mm_iconst dX13_clauseAtHand_42 rfl ?_
          refine mm_iret dX13_clauseAtHand_43 rfl rfl ?_
          refine mm_fin ?_ rfl
          first
          | (rw [if_pos h6]; rfl)
          | (rw [if_neg h6, if_pos h17]; rfl)
          | (rw [if_neg h6, if_neg h17, if_pos h28]; rfl)
          | (rw [if_neg h6, if_neg h17, if_neg h28, if_pos h39]; rfl)
          | (rw [if_neg h6, if_neg h17, if_neg h28, if_neg h39, if_pos h50]; rfl)
          | (rw [if_neg h6, if_neg h17, if_neg h28, if_neg h39, if_neg h50, if_pos h61]; rfl)
          | (rw [if_neg h6, if_neg h17, if_neg h28, if_neg h39, if_neg h50, if_neg h61, if_pos h72]; rfl)
          | (rw [if_neg h6, if_neg h17, if_neg h28, if_neg h39, if_neg h50, if_neg h61, if_neg h72, if_pos h84]; rfl)
          | (rw [if_neg h6, if_neg h17, if_neg h28, if_neg h39, if_neg h50, if_neg h61, if_neg h72, if_neg h84, if_pos h96]; rfl)
          | (rw [if_neg h6, if_neg h17, if_neg h28, if_neg h39, if_neg h50, if_neg h61, if_neg h72, if_neg h84, if_neg h96, if_pos h108]; rfl)
          | (rw [if_neg h6, if_neg h17, if_neg h28, if_neg h39, if_neg h50, if_neg h61, if_neg h72, if_neg h84, if_neg h96, if_neg h108, if_pos h120]; rfl)
          | (rw [if_neg h6, if_neg h17, if_neg h28, if_neg h39, if_neg h50, if_neg h61, if_neg h72, if_neg h84, if_neg h96, if_neg h108, if_neg h120, if_pos h132]; rfl)
          | (rw [if_neg h6, if_neg h17, if_neg h28, if_neg h39, if_neg h50, if_neg h61, if_neg h72, if_neg h84, if_neg h96, if_neg h108, if_neg h120, if_neg h132]; done)
      · refine mm_iconst dX13_clauseAtHand_31 rfl ?_
        refine mm_iret dX13_clauseAtHand_32 rfl rfl ?_
        refine mm_fin ?_ rfl
        first
        | (rw [if_pos h6]; rfl)
        | (rw [if_neg h6, if_pos h17]; rfl)
        | (rw [if_neg h6, if_neg h17, if_pos h28]; rfl)
        | (rw [if_neg h6, if_neg h17, if_neg h28, if_pos h39]; rfl)
        | (rw [if_neg h6, if_neg h17, if_neg h28, if_neg h39, if_pos h50]; rfl)
        | (rw [if_neg h6, if_neg h17, if_neg h28, if_neg h39, if_neg h50, if_pos h61]; rfl)
        | (rw [if_neg h6, if_neg h17, if_neg h28, if_neg h39, if_neg h50, if_neg h61, if_pos h72]; rfl)
        | (rw [if_neg h6, if_neg h17, if_neg h28, if_neg h39, if_neg h50, if_neg h61, if_neg h72, if_pos h84]; rfl)
        | (rw [if_neg h6, if_neg h17, if_neg h28, if_neg h39, if_neg h50, if_neg h61, if_neg h72, if_neg h84, if_pos h96]; rfl)
        | (rw [if_neg h6, if_neg h17, if_neg h28, if_neg h39, if_neg h50, if_neg h61, if_neg h72, if_neg h84, if_neg h96, if_pos h108]; rfl)
        | (rw [if_neg h6, if_neg h17, if_neg h28, if_neg h39, if_neg h50, if_neg h61, if_neg h72, if_neg h84, if_neg h96, if_neg h108, if_pos h120]; rfl)
        | (rw [if_neg h6, if_neg h17, if_neg h28, if_neg h39, if_neg h50, if_neg h61, if_neg h72, if_neg h84, if_neg h96, if_neg h108, if_neg h120, if_pos h132]; rfl)
        | (rw [if_neg h6, if_neg h17, if_neg h28, if_neg h39, if_neg h50, if_neg h61, if_neg h72, if_neg h84, if_neg h96, if_neg h108, if_neg h120, if_neg h132]; done)
    · refine mm_iconst dX13_clauseAtHand_20 rfl ?_
      refine mm_iret dX13_clauseAtHand_21 rfl rfl ?_
      refine mm_fin ?_ rfl
      first
      | (rw [if_pos h6]; rfl)
      | (rw [if_neg h6, if_pos h17]; rfl)
      | (rw [if_neg h6, if_neg h17, if_pos h28]; rfl)
      | (rw [if_neg h6, if_neg h17, if_neg h28, if_pos h39]; rfl)
      | (rw [if_neg h6, if_neg h17, if_neg h28, if_neg h39, if_pos h50]; rfl)
      | (rw [if_neg h6, if_neg h17, if_neg h28, if_neg h39, if_neg h50, if_pos h61]; rfl)
      | (rw [if_neg h6, if_neg h17, if_neg h28, if_neg h39, if_neg h50, if_neg h61, if_pos h72]; rfl)
      | (rw [if_neg h6, if_neg h17, if_neg h28, if_neg h39, if_neg h50, if_neg h61, if_neg h72, if_pos h84]; rfl)
      | (rw [if_neg h6, if_neg h17, if_neg h28, if_neg h39, if_neg h50, if_neg h61, if_neg h72, if_neg h84, if_pos h96]; rfl)
      | (rw [if_neg h6, if_neg h17, if_neg h28, if_neg h39, if_neg h50, if_neg h61, if_neg h72, if_neg h84, if_neg h96, if_pos h108]; rfl)
      | (rw [if_neg h6, if_neg h17, if_neg h28, if_neg h39, if_neg h50, if_neg h61, if_neg h72, if_neg h84, if_neg h96, if_neg h108, if_pos h120]; rfl)
      | (rw [if_neg h6, if_neg h17, if_neg h28, if_neg h39, if_neg h50, if_neg h61, if_neg h72, if_neg h84, if_neg h96, if_neg h108, if_neg h120, if_pos h132]; rfl)
      | (rw [if_neg h6, if_neg h17, if_neg h28, if_neg h39, if_neg h50, if_neg h61, if_neg h72, if_neg h84, if_neg h96, if_neg h108, if_neg h120, if_neg h132]; done)
  · refine mm_iconst dX13_clauseAtHand_9 rfl ?_
    refine mm_iret dX13_clauseAtHand_10 rfl rfl ?_
    refine mm_fin ?_ rfl
    first
    | (rw [if_pos h6]; rfl)
    | (rw [if_neg h6, if_pos h17]; rfl)
    | (rw [if_neg h6, if_neg h17, if_pos h28]; rfl)
    | (rw [if_neg h6, if_neg h17, if_neg h28, if_pos h39]; rfl)
    | (rw [if_neg h6, if_neg h17, if_neg h28, if_neg h39, if_pos h50]; rfl)
    | (rw [if_neg h6, if_neg h17, if_neg h28, if_neg h39, if_neg h50, if_pos h61]; rfl)
    | (rw [if_neg h6, if_neg h17, if_neg h28, if_neg h39, if_neg h50, if_neg h61, if_pos h72]; rfl)
    | (rw [if_neg h6, if_neg h17, if_neg h28, if_neg h39, if_neg h50, if_neg h61, if_neg h72, if_pos h84]; rfl)
    | (rw [if_neg h6, if_neg h17, if_neg h28, if_neg h39, if_neg h50, if_neg h61, if_neg h72, if_neg h84, if_pos h96]; rfl)
    | (rw [if_neg h6, if_neg h17, if_neg h28, if_neg h39, if_neg h50, if_neg h61, if_neg h72, if_neg h84, if_neg h96, if_pos h108]; rfl)
    | (rw [if_neg h6, if_neg h17, if_neg h28, if_neg h39, if_neg h50, if_neg h61, if_neg h72, if_neg h84, if_neg h96, if_neg h108, if_pos h120]; rfl)
    | (rw [if_neg h6, if_neg h17, if_neg h28, if_neg h39, if_neg h50, if_neg h61, if_neg h72, if_neg h84, if_neg h96, if_neg h108, if_neg h120, if_pos h132]; rfl)
    | (rw [if_neg h6, if_neg h17, if_neg h28, if_neg h39, if_neg h50, if_neg h61, if_neg h72, if_neg h84, if_neg h96, if_neg h108, if_neg h120, if_neg h132]; done)
theorem c_X13_condAtHand (hR : mm_Rf M) (hT : mm_RT M n) (hp : p ≤ n) (hH : kt_H M n p) : mm_Fn X Y_X13_condAtHand 243 [(2, 184)] M (0, kp_nm (M 185) n p 2) M := by
  refine mm_startF (ls := [(2, 184)]) rfl ?_
  rw [kp_nm2]
  simp only [kt_fi]
  refine mm_aload_n dX13_condAtHand_0 rfl rfl ?_
  refine mm_lds (k0 := 20) dX13_condAtHand_1 rfl (by decide) rfl rfl ?_
  refine mm_V1i dX13_condAtHand_3 rfl lk_X13_103 (c := 183) rfl (by decide) rfl (by simp) rfl rfl rfl (kt_is hR hT hp hH (by decide)) ?_
  refine mm_ifeqb dX13_condAtHand_6 (fun h6 => ?_) (fun h6 => ?_)
  · refine mm_aload_n dX13_condAtHand_13 rfl rfl ?_
    refine mm_lds (k0 := 21) dX13_condAtHand_14 rfl (by decide) rfl rfl ?_
    refine mm_V1i dX13_condAtHand_16 rfl lk_X13_103 (c := 183) rfl (by decide) rfl (by simp) rfl rfl rfl (kt_is hR hT hp hH (by decide)) ?_
    refine mm_ifeqb dX13_condAtHand_19 (fun h19 => ?_) (fun h19 => ?_)
    · refine mm_aload_n dX13_condAtHand_26 rfl rfl ?_
      refine mm_lds (k0 := 9) dX13_condAtHand_27 rfl (by decide) rfl rfl ?_
      refine mm_V1i dX13_condAtHand_29 rfl lk_X13_103 (c := 183) rfl (by decide) rfl (by simp) rfl rfl rfl (kt_is hR hT hp hH (by decide)) ?_
      refine mm_ifeqb dX13_condAtHand_32 (fun h32 => ?_) (fun h32 => ?_)
      · refine mm_aload_n dX13_condAtHand_39 rfl rfl ?_
        refine mm_lds (k0 := 22) dX13_condAtHand_40 rfl (by decide) rfl rfl ?_
        refine mm_V1i dX13_condAtHand_42 rfl lk_X13_103 (c := 183) rfl (by decide) rfl (by simp) rfl rfl rfl (kt_is hR hT hp hH (by decide)) ?_
        refine mm_ifeqb dX13_condAtHand_45 (fun h45 => ?_) (fun h45 => ?_)
        · refine mm_aload_n dX13_condAtHand_52 rfl rfl ?_
          refine mm_lds (k0 := 23) dX13_condAtHand_53 rfl (by decide) rfl rfl ?_
          refine mm_V1i dX13_condAtHand_55 rfl lk_X13_103 (c := 183) rfl (by decide) rfl (by simp) rfl rfl rfl (kt_is hR hT hp hH (by decide)) ?_
          refine mm_ifeqb dX13_condAtHand_58 (fun h58 => ?_) (fun h58 => ?_)
          · refine mm_iconst dX13_condAtHand_65 rfl ?_
            refine mm_iret dX13_condAtHand_66 rfl rfl ?_
            refine mm_fin ?_ rfl
            first
            | (rw [if_pos h6]; rfl)
            | (rw [if_neg h6, if_pos h19]; rfl)
            | (rw [if_neg h6, if_neg h19, if_pos h32]; rfl)
            | (rw [if_neg h6, if_neg h19, if_neg h32, if_pos h45]; rfl)
            | (rw [if_neg h6, if_neg h19, if_neg h32, if_neg h45, if_pos h58]; rfl)
            | (rw [if_neg h6, if_neg h19, if_neg h32, if_neg h45, if_neg h58]; done)
          · refine mm_iconst dX13_condAtHand_61 rfl ?_
            refine mm_goto dX13_condAtHand_62 ?_
            refine mm_iret dX13_condAtHand_66 rfl rfl ?_
            refine mm_fin ?_ rfl
            first
            | (rw [if_pos h6]; rfl)
            | (rw [if_neg h6, if_pos h19]; rfl)
            | (rw [if_neg h6, if_neg h19, if_pos h32]; rfl)
            | (rw [if_neg h6, if_neg h19, if_neg h32, if_pos h45]; rfl)
            | (rw [if_neg h6, if_neg h19, if_neg h32, if_neg h45, if_pos h58]; rfl)
            | (rw [if_neg h6, if_neg h19, if_neg h32, if_neg h45, if_neg h58]; done)
        · refine mm_iconst dX13_condAtHand_48 rfl ?_
          refine mm_goto dX13_condAtHand_49 ?_
          refine mm_iret dX13_condAtHand_66 rfl rfl ?_
          refine mm_fin ?_ rfl
          first
          | (rw [if_pos h6]; rfl)
          | (rw [if_neg h6, if_pos h19]; rfl)
          | (rw [if_neg h6, if_neg h19, if_pos h32]; rfl)
          | (rw [if_neg h6, if_neg h19, if_neg h32, if_pos h45]; rfl)
          | (rw [if_neg h6, if_neg h19, if_neg h32, if_neg h45, if_pos h58]; rfl)
          | (rw [if_neg h6, if_neg h19, if_neg h32, if_neg h45, if_neg h58]; done)
      · refine mm_iconst dX13_condAtHand_35 rfl ?_
        refine mm_goto dX13_condAtHand_36 ?_
        refine mm_iret dX13_condAtHand_66 rfl rfl ?_
        refine mm_fin ?_ rfl
        first
        | (rw [if_pos h6]; rfl)
        | (rw [if_neg h6, if_pos h19]; rfl)
        | (rw [if_neg h6, if_neg h19, if_pos h32]; rfl)
        | (rw [if_neg h6, if_neg h19, if_neg h32, if_pos h45]; rfl)
        | (rw [if_neg h6, if_neg h19, if_neg h32, if_neg h45, if_pos h58]; rfl)
        | (rw [if_neg h6, if_neg h19, if_neg h32, if_neg h45, if_neg h58]; done)
    · refine mm_iconst dX13_condAtHand_22 rfl ?_
      refine mm_goto dX13_condAtHand_23 ?_
      refine mm_iret dX13_condAtHand_66 rfl rfl ?_
      refine mm_fin ?_ rfl
      first
      | (rw [if_pos h6]; rfl)
      | (rw [if_neg h6, if_pos h19]; rfl)
      | (rw [if_neg h6, if_neg h19, if_pos h32]; rfl)
      | (rw [if_neg h6, if_neg h19, if_neg h32, if_pos h45]; rfl)
      | (rw [if_neg h6, if_neg h19, if_neg h32, if_neg h45, if_pos h58]; rfl)
      | (rw [if_neg h6, if_neg h19, if_neg h32, if_neg h45, if_neg h58]; done)
  · refine mm_iconst dX13_condAtHand_9 rfl ?_
    refine mm_goto dX13_condAtHand_10 ?_
    refine mm_iret dX13_condAtHand_66 rfl rfl ?_
    refine mm_fin ?_ rfl
    first
    | (rw [if_pos h6]; rfl)
    | (rw [if_neg h6, if_pos h19]; rfl)
    | (rw [if_neg h6, if_neg h19, if_pos h32]; rfl)
    | (rw [if_neg h6, if_neg h19, if_neg h32, if_pos h45]; rfl)
    | (rw [if_neg h6, if_neg h19, if_neg h32, if_neg h45, if_pos h58]; rfl)
    | (rw [if_neg h6, if_neg h19, if_neg h32, if_neg h45, if_neg h58]; done)
theorem c_X13_moveAtHand (hR : mm_Rf M) (hT : mm_RT M n) (hp : p ≤ n) (hH : kt_H M n p) : mm_Fn X Y_X13_moveAtHand 243 [(2, 184)] M (0, kp_nm (M 185) n p 5) M := by
  refine mm_startF (ls := [(2, 184)]) rfl ?_
  rw [kp_nm5]
  simp only [kt_fi]
  refine mm_aload_n dX13_moveAtHand_0 rfl rfl ?_
  refine mm_lds (k0 := 29) dX13_moveAtHand_1 rfl (by decide) rfl rfl ?_
  refine mm_V1i dX13_moveAtHand_3 rfl lk_X13_103 (c := 183) rfl (by decide) rfl (by simp) rfl rfl rfl (kt_is hR hT hp hH (by decide)) ?_
  refine mm_ifeqb dX13_moveAtHand_6 (fun h6 => ?_) (fun h6 => ?_)
  · refine mm_aload_n dX13_moveAtHand_13 rfl rfl ?_
    refine mm_lds (k0 := 30) dX13_moveAtHand_14 rfl (by decide) rfl rfl ?_
    refine mm_V1i dX13_moveAtHand_16 rfl lk_X13_103 (c := 183) rfl (by decide) rfl (by simp) rfl rfl rfl (kt_is hR hT hp hH (by decide)) ?_
    refine mm_ifeqb dX13_moveAtHand_19 (fun h19 => ?_) (fun h19 => ?_)
    · refine mm_aload_n dX13_moveAtHand_26 rfl rfl ?_
      refine mm_lds (k0 := 31) dX13_moveAtHand_27 rfl (by decide) rfl rfl ?_
      refine mm_V1i dX13_moveAtHand_29 rfl lk_X13_103 (c := 183) rfl (by decide) rfl (by simp) rfl rfl rfl (kt_is hR hT hp hH (by decide)) ?_
      refine mm_ifeqb dX13_moveAtHand_32 (fun h32 => ?_) (fun h32 => ?_)
      · refine mm_aload_n dX13_moveAtHand_39 rfl rfl ?_
        refine mm_lds (k0 := 32) dX13_moveAtHand_40 rfl (by decide) rfl rfl ?_
        refine mm_V1i dX13_moveAtHand_42 rfl lk_X13_103 (c := 183) rfl (by decide) rfl (by simp) rfl rfl rfl (kt_is hR hT hp hH (by decide)) ?_
        refine mm_ifeqb dX13_moveAtHand_45 (fun h45 => ?_) (fun h45 => ?_)
        · refine mm_aload_n dX13_moveAtHand_52 rfl rfl ?_
          refine mm_lds (k0 := 33) dX13_moveAtHand_53 rfl (by decide) rfl rfl ?_
          refine mm_V1i dX13_moveAtHand_55 rfl lk_X13_103 (c := 183) rfl (by decide) rfl (by simp) rfl rfl rfl (kt_is hR hT hp hH (by decide)) ?_
          refine mm_ifeqb dX13_moveAtHand_58 (fun h58 => ?_) (fun h58 => ?_)
          · refine mm_iconst dX13_moveAtHand_65 rfl ?_
            refine mm_iret dX13_moveAtHand_66 rfl rfl ?_
            refine mm_fin ?_ rfl
            first
            | (rw [if_pos h6]; rfl)
            | (rw [if_neg h6, if_pos h19]; rfl)
            | (rw [if_neg h6, if_neg h19, if_pos h32]; rfl)
            | (rw [if_neg h6, if_neg h19, if_neg h32, if_pos h45]; rfl)
            | (rw [if_neg h6, if_neg h19, if_neg h32, if_neg h45, if_pos h58]; rfl)
            | (rw [if_neg h6, if_neg h19, if_neg h32, if_neg h45, if_neg h58]; done)
          · refine mm_iconst dX13_moveAtHand_61 rfl ?_
            refine mm_goto dX13_moveAtHand_62 ?_
            refine mm_iret dX13_moveAtHand_66 rfl rfl ?_
            refine mm_fin ?_ rfl
            first
            | (rw [if_pos h6]; rfl)
            | (rw [if_neg h6, if_pos h19]; rfl)
            | (rw [if_neg h6, if_neg h19, if_pos h32]; rfl)
            | (rw [if_neg h6, if_neg h19, if_neg h32, if_pos h45]; rfl)
            | (rw [if_neg h6, if_neg h19, if_neg h32, if_neg h45, if_pos h58]; rfl)
            | (rw [if_neg h6, if_neg h19, if_neg h32, if_neg h45, if_neg h58]; done)
        · refine mm_iconst dX13_moveAtHand_48 rfl ?_
          refine mm_goto dX13_moveAtHand_49 ?_
          refine mm_iret dX13_moveAtHand_66 rfl rfl ?_
          refine mm_fin ?_ rfl
          first
          | (rw [if_pos h6]; rfl)
          | (rw [if_neg h6, if_pos h19]; rfl)
          | (rw [if_neg h6, if_neg h19, if_pos h32]; rfl)
          | (rw [if_neg h6, if_neg h19, if_neg h32, if_pos h45]; rfl)
          | (rw [if_neg h6, if_neg h19, if_neg h32, if_neg h45, if_pos h58]; rfl)
          | (rw [if_neg h6, if_neg h19, if_neg h32, if_neg h45, if_neg h58]; done)
      · refine mm_iconst dX13_moveAtHand_35 rfl ?_
        refine mm_goto dX13_moveAtHand_36 ?_
        refine mm_iret dX13_moveAtHand_66 rfl rfl ?_
        refine mm_fin ?_ rfl
        first
        | (rw [if_pos h6]; rfl)
        | (rw [if_neg h6, if_pos h19]; rfl)
        | (rw [if_neg h6, if_neg h19, if_pos h32]; rfl)
        | (rw [if_neg h6, if_neg h19, if_neg h32, if_pos h45]; rfl)
        | (rw [if_neg h6, if_neg h19, if_neg h32, if_neg h45, if_pos h58]; rfl)
        | (rw [if_neg h6, if_neg h19, if_neg h32, if_neg h45, if_neg h58]; done)
    · refine mm_iconst dX13_moveAtHand_22 rfl ?_
      refine mm_goto dX13_moveAtHand_23 ?_
      refine mm_iret dX13_moveAtHand_66 rfl rfl ?_
      refine mm_fin ?_ rfl
      first
      | (rw [if_pos h6]; rfl)
      | (rw [if_neg h6, if_pos h19]; rfl)
      | (rw [if_neg h6, if_neg h19, if_pos h32]; rfl)
      | (rw [if_neg h6, if_neg h19, if_neg h32, if_pos h45]; rfl)
      | (rw [if_neg h6, if_neg h19, if_neg h32, if_neg h45, if_pos h58]; rfl)
      | (rw [if_neg h6, if_neg h19, if_neg h32, if_neg h45, if_neg h58]; done)
  · refine mm_iconst dX13_moveAtHand_9 rfl ?_
    refine mm_goto dX13_moveAtHand_10 ?_
    refine mm_iret dX13_moveAtHand_66 rfl rfl ?_
    refine mm_fin ?_ rfl
    first
    | (rw [if_pos h6]; rfl)
    | (rw [if_neg h6, if_pos h19]; rfl)
    | (rw [if_neg h6, if_neg h19, if_pos h32]; rfl)
    | (rw [if_neg h6, if_neg h19, if_neg h32, if_pos h45]; rfl)
    | (rw [if_neg h6, if_neg h19, if_neg h32, if_neg h45, if_pos h58]; rfl)
    | (rw [if_neg h6, if_neg h19, if_neg h32, if_neg h45, if_neg h58]; done)
theorem c_X13_drumAtHand (hR : mm_Rf M) (hT : mm_RT M n) (hp : p ≤ n) (hH : kt_H M n p) : mm_Fn X Y_X13_drumAtHand 243 [(2, 184)] M (0, kp_nm (M 185) n p 6) M := by
  refine mm_startF (ls := [(2, 184)]) rfl ?_
  rw [kp_nm6]
  simp only [kt_fi]
  refine mm_aload_n dX13_drumAtHand_0 rfl rfl ?_
  refine mm_lds (k0 := 34) dX13_drumAtHand_1 rfl (by decide) rfl rfl ?_
  refine mm_V1i dX13_drumAtHand_3 rfl lk_X13_103 (c := 183) rfl (by decide) rfl (by simp) rfl rfl rfl (kt_is hR hT hp hH (by decide)) ?_
  refine mm_ifeqb dX13_drumAtHand_6 (fun h6 => ?_) (fun h6 => ?_)
  · refine mm_aload_n dX13_drumAtHand_13 rfl rfl ?_
    refine mm_lds (k0 := 35) dX13_drumAtHand_14 rfl (by decide) rfl rfl ?_
    refine mm_V1i dX13_drumAtHand_16 rfl lk_X13_103 (c := 183) rfl (by decide) rfl (by simp) rfl rfl rfl (kt_is hR hT hp hH (by decide)) ?_
    refine mm_ifeqb dX13_drumAtHand_19 (fun h19 => ?_) (fun h19 => ?_)
    · refine mm_aload_n dX13_drumAtHand_26 rfl rfl ?_
      refine mm_lds (k0 := 36) dX13_drumAtHand_27 rfl (by decide) rfl rfl ?_
      refine mm_V1i dX13_drumAtHand_29 rfl lk_X13_103 (c := 183) rfl (by decide) rfl (by simp) rfl rfl rfl (kt_is hR hT hp hH (by decide)) ?_
      refine mm_ifeqb dX13_drumAtHand_32 (fun h32 => ?_) (fun h32 => ?_)
      · refine mm_iconst dX13_drumAtHand_39 rfl ?_
        refine mm_iret dX13_drumAtHand_40 rfl rfl ?_
        refine mm_fin ?_ rfl
        first
        | (rw [if_pos h6]; rfl)
        | (rw [if_neg h6, if_pos h19]; rfl)
        | (rw [if_neg h6, if_neg h19, if_pos h32]; rfl)
        | (rw [if_neg h6, if_neg h19, if_neg h32]; done)
      · refine mm_iconst dX13_drumAtHand_35 rfl ?_
        refine mm_goto dX13_drumAtHand_36 ?_
        refine mm_iret dX13_drumAtHand_40 rfl rfl ?_
        refine mm_fin ?_ rfl
        first
        | (rw [if_pos h6]; rfl)
        | (rw [if_neg h6, if_pos h19]; rfl)
        | (rw [if_neg h6, if_neg h19, if_pos h32]; rfl)
        | (rw [if_neg h6, if_neg h19, if_neg h32]; done)
    · refine mm_iconst dX13_drumAtHand_22 rfl ?_
      refine mm_goto dX13_drumAtHand_23 ?_
      refine mm_iret dX13_drumAtHand_40 rfl rfl ?_
      refine mm_fin ?_ rfl
      first
      | (rw [if_pos h6]; rfl)
      | (rw [if_neg h6, if_pos h19]; rfl)
      | (rw [if_neg h6, if_neg h19, if_pos h32]; rfl)
      | (rw [if_neg h6, if_neg h19, if_neg h32]; done)
  · refine mm_iconst dX13_drumAtHand_9 rfl ?_
    refine mm_goto dX13_drumAtHand_10 ?_
    refine mm_iret dX13_drumAtHand_40 rfl rfl ?_
    refine mm_fin ?_ rfl
    first
    | (rw [if_pos h6]; rfl)
    | (rw [if_neg h6, if_pos h19]; rfl)
    | (rw [if_neg h6, if_neg h19, if_pos h32]; rfl)
    | (rw [if_neg h6, if_neg h19, if_neg h32]; done)
end

