/-! ===== KitePower$Hours: foundAlike, loopAt ===== -/
section
variable {K Lo Hi : Nat → Int} {h g s : Int} {A : Nat → Int} {n : Nat}
theorem kb_lp.hour (hK : mm_KV K) (hw : ∀ s, ks_st K s → ks_wi Lo K s g = ks_wi Lo K s h ∧ ks_wi Hi K s g = ks_wi Hi K s h) (hl : kb_lp K Lo Hi h s A n) : kb_lp K Lo Hi g s A n ∧ kb_sm K Lo Hi g s A n = kb_sm K Lo Hi h s A n := by
  refine ⟨⟨hl.1, hl.2.1, fun j hj => ⟨(hl.2.2.1 j hj).1, (hl.2.2.1 j hj).2.1, ?_⟩, hl.2.2.2⟩, ?_⟩
  · have e := hw _ (hl.st hK j (by omega))
    have q := (hl.2.2.1 j hj).2.2
    rw [e.1, e.2]
    exact q
  · unfold kb_sm
    refine ka_sum_congr ?_
    intro j hj
    have e := hw _ (hl.st hK j (by omega))
    unfold kj_g ks_sure
    rw [e.1, e.2]
theorem kb_is.hour {len worth : Int} {S : Nat → Int} (hK : mm_KV K) (hw : ∀ s, ks_st K s → ks_wi Lo K s g = ks_wi Lo K s h ∧ ks_wi Hi K s g = ks_wi Hi K s h) (hl : kb_is K Lo Hi h len worth A S) : kb_is K Lo Hi g len worth A S := by
  have hw' : ∀ s, ks_st K s → ks_wi Lo K s h = ks_wi Lo K s g ∧ ks_wi Hi K s h = ks_wi Hi K s g := fun s hs => ⟨(hw s hs).1.symm, (hw s hs).2.symm⟩
  rcases hl with ⟨h1, h2⟩ | ⟨n, h1, h2, h3, h4, h5, h6⟩
  · exact Or.inl ⟨h1, fun s B n q => h2 s B n (q.hour hK hw').1⟩
  · refine Or.inr ⟨n, h1, h2, (h3.hour hK hw).1, ?_, h5, ?_⟩
    · rw [(h3.hour hK hw).2]; exact h4
    · intro s B m q
      have := q.hour hK hw'
      rw [← this.2]
      exact h6 s B m this.1
/-- two rows of the same begin -/
theorem kb_is.rows {K Lo Hi : Nat → Int} {h len w : Int} {A A' T T' : Nat → Int} (q : kb_is K Lo Hi h len w A T) (hA : ∀ j : Nat, (j : Int) < len → A' j = A j) (hT : ∀ j : Nat, (j : Int) < len → T' j = T j) : kb_is K Lo Hi h len w A' T' := by
  rcases q with ⟨h0, q⟩ | ⟨n, h1, q⟩
  · exact Or.inl ⟨h0, q⟩
  · rw [h1] at hA hT ⊢
    exact kb_is.acts (Or.inr ⟨n, rfl, q⟩) (fun j hj => hA j (by omega)) (fun j hj => hT j (by omega))
end
/-- what loopAt changes -/
def kz_H (M N : mm_M) : Prop := mm_Rf N ∧ ∀ a, ¬ (28 ≤ a ∧ a ≤ 41) → a ≠ 23 → ¬ (42 ≤ a ∧ a ≤ 113) → N a = M a
section
variable {X : mm_X} {M : mm_M}
theorem c_X3_foundAlike {h : Nat} (hR : mm_Rf M) (hA : mm_CA M) (hh : h < 24) (h7 : kR7 M) :
    mm_C X Y_X3_foundAlike 243 243 [(2, 22), (0, (h : Int))] M (fun r M' => ∃ x, r = (0, x) ∧ mm_Rf M' ∧ M' = M ∧ (x = -1 ∨ ∃ o : Nat, o < 24 ∧ x = (o : Int) ∧ M 23 o = 1 ∧ ∀ b : Nat, b < 5 → M 16 (ks_pl h b) = M 16 (ks_pl o b) ∧ M 17 (ks_pl h b) = M 17 (ks_pl o b))) := by
  obtain ⟨Φ, hΦ⟩ : ∃ Φ : mm_V → mm_M → Prop, Φ = (fun r M' => ∃ x, r = (0, x) ∧ mm_Rf M' ∧ M' = M ∧ (x = -1 ∨ ∃ o : Nat, o < 24 ∧ x = (o : Int) ∧ M 23 o = 1 ∧ ∀ b : Nat, b < 5 → M 16 (ks_pl h b) = M 16 (ks_pl o b) ∧ M 17 (ks_pl h b) = M 17 (ks_pl o b))) := ⟨_, rfl⟩
  rw [← hΦ]
  have loop : ∀ o : Nat, o ≤ 24 → mm_J X Y_X3_foundAlike 243 243 243 2 [(2, 22), (0, (h : Int)), (0, (o : Int))] [] M Φ := by
    refine mm_lp ?_
    intro o ho ih
    by_cases hlt : o < 24
    · have go := ih hlt
      rw [show ((o + 1 : Nat) : Int) = (o : Int) + 1 by omega] at go
      have ca := c_X0_isAlike (X := X) (M := M) (h := (h : Int)) (g := (o : Int)) hR hA ⟨by omega, by omega⟩ ⟨by omega, by omega⟩
      rcases (h7 o hlt).1 with f0 | f1
      · refine mm_iload_n dX3_foundAlike_2 rfl rfl ?_
        refine mm_aload_n dX3_foundAlike_3 rfl rfl ?_
        refine mm_getr dX3_foundAlike_4 rfl fl_X3_19 (c := 21) rfl (by decide) rfl rfl (hR.at (c := 21) (i := 3) (v := 24) rfl (by decide)) ?_
        refine mm_aln dX3_foundAlike_7 rfl (c := 23) rfl (by decide) rfl ?_
        refine mm_icge dX3_foundAlike_8 (by omega) (by omega) (fun h8 => ?_) (fun h8 => ?_)
        · exfalso; omega
        · refine mm_aload_n dX3_foundAlike_11 rfl rfl ?_
          refine mm_getr dX3_foundAlike_12 rfl fl_X3_19 (c := 21) rfl (by decide) rfl rfl (hR.at (c := 21) (i := 3) (v := 24) rfl (by decide)) ?_
          refine mm_iload_n dX3_foundAlike_15 rfl rfl ?_
          refine mm_zalk (k0 := o) dX3_foundAlike_16 rfl (c := 23) rfl (by decide) rfl (by omega) (by omega) ?_
          rw [f0]
          refine mm_ifeq dX3_foundAlike_17 (by omega) (fun h17 => ?_) (fun h17 => ?_)
          · refine mm_iinc dX3_foundAlike_34 rfl rfl (Nat.le_of_ble_eq_true rfl) rfl ?_
            refine mm_goto dX3_foundAlike_37 ?_
            exact go
          · exfalso; omega
      · by_cases al : ∀ b : Nat, b < 5 → M 16 (ks_pl h b) = M 16 (ks_pl o b) ∧ M 17 (ks_pl h b) = M 17 (ks_pl o b)
        · rw [mm_b_t al] at ca
          refine mm_iload_n dX3_foundAlike_2 rfl rfl ?_
          refine mm_aload_n dX3_foundAlike_3 rfl rfl ?_
          refine mm_getr dX3_foundAlike_4 rfl fl_X3_19 (c := 21) rfl (by decide) rfl rfl (hR.at (c := 21) (i := 3) (v := 24) rfl (by decide)) ?_
          refine mm_aln dX3_foundAlike_7 rfl (c := 23) rfl (by decide) rfl ?_
          refine mm_icge dX3_foundAlike_8 (by omega) (by omega) (fun h8 => ?_) (fun h8 => ?_)
          · exfalso; omega
          · refine mm_aload_n dX3_foundAlike_11 rfl rfl ?_
            refine mm_getr dX3_foundAlike_12 rfl fl_X3_19 (c := 21) rfl (by decide) rfl rfl (hR.at (c := 21) (i := 3) (v := 24) rfl (by decide)) ?_
            refine mm_iload_n dX3_foundAlike_15 rfl rfl ?_
            refine mm_zalk (k0 := o) dX3_foundAlike_16 rfl (c := 23) rfl (by decide) rfl (by omega) (by omega) ?_
            rw [f1]
            refine mm_ifeq dX3_foundAlike_17 (by omega) (fun h17 => ?_) (fun h17 => ?_)
            · exfalso; omega
            · refine mm_aload_n dX3_foundAlike_20 rfl rfl ?_
              refine mm_getr dX3_foundAlike_21 rfl fl_X3_43 (c := 21) rfl (by decide) rfl rfl (hR.at (c := 21) (i := 0) (v := 12) rfl (by decide)) ?_
              refine mm_iload_n dX3_foundAlike_24 rfl rfl ?_
              refine mm_iload_n dX3_foundAlike_25 rfl rfl ?_
              refine mm_V2i dX3_foundAlike_26 rfl lk_X3_73 (c := 11) rfl (by decide) rfl (by simp) (by simp) rfl rfl rfl (ca) ?_
              refine mm_ifeq dX3_foundAlike_29 (by omega) (fun h => absurd h (by decide)) (fun _ => ?_)
              refine mm_iload_n dX3_foundAlike_32 rfl rfl ?_
              refine mm_iret dX3_foundAlike_33 rfl rfl ?_
              rw [hΦ]; exact ⟨_, rfl, hR, rfl, Or.inr ⟨o, hlt, rfl, f1, al⟩⟩
        · rw [mm_b_f al] at ca
          refine mm_iload_n dX3_foundAlike_2 rfl rfl ?_
          refine mm_aload_n dX3_foundAlike_3 rfl rfl ?_
          refine mm_getr dX3_foundAlike_4 rfl fl_X3_19 (c := 21) rfl (by decide) rfl rfl (hR.at (c := 21) (i := 3) (v := 24) rfl (by decide)) ?_
          refine mm_aln dX3_foundAlike_7 rfl (c := 23) rfl (by decide) rfl ?_
          refine mm_icge dX3_foundAlike_8 (by omega) (by omega) (fun h8 => ?_) (fun h8 => ?_)
          · exfalso; omega
          · refine mm_aload_n dX3_foundAlike_11 rfl rfl ?_
            refine mm_getr dX3_foundAlike_12 rfl fl_X3_19 (c := 21) rfl (by decide) rfl rfl (hR.at (c := 21) (i := 3) (v := 24) rfl (by decide)) ?_
            refine mm_iload_n dX3_foundAlike_15 rfl rfl ?_
            refine mm_zalk (k0 := o) dX3_foundAlike_16 rfl (c := 23) rfl (by decide) rfl (by omega) (by omega) ?_
            rw [f1]
            refine mm_ifeq dX3_foundAlike_17 (by omega) (fun h17 => ?_) (fun h17 => ?_)
            · exfalso; omega
            · refine mm_aload_n dX3_foundAlike_20 rfl rfl ?_
              refine mm_getr dX3_foundAlike_21 rfl fl_X3_43 (c := 21) rfl (by decide) rfl rfl (hR.at (c := 21) (i := 0) (v := 12) rfl (by decide)) ?_
              refine mm_iload_n dX3_foundAlike_24 rfl rfl ?_
              refine mm_iload_n dX3_foundAlike_25 rfl rfl ?_
              refine mm_V2i dX3_foundAlike_26 rfl lk_X3_73 (c := 11) rfl (by decide) rfl (by simp) (by simp) rfl rfl rfl (ca) ?_
              refine mm_ifeq dX3_foundAlike_29 (by omega) (fun _ => ?_) (fun h => absurd (by decide) h)
              refine mm_iinc dX3_foundAlike_34 rfl rfl (Nat.le_of_ble_eq_true rfl) rfl ?_
              refine mm_goto dX3_foundAlike_37 ?_
              exact go
    · have eo : o = 24 := by omega
      subst eo
      refine mm_iload_n dX3_foundAlike_2 rfl rfl ?_
      refine mm_aload_n dX3_foundAlike_3 rfl rfl ?_
      refine mm_getr dX3_foundAlike_4 rfl fl_X3_19 (c := 21) rfl (by decide) rfl rfl (hR.at (c := 21) (i := 3) (v := 24) rfl (by decide)) ?_
      refine mm_aln dX3_foundAlike_7 rfl (c := 23) rfl (by decide) rfl ?_
      refine mm_icge dX3_foundAlike_8 (by omega) (by omega) (fun h8 => ?_) (fun h8 => ?_)
      · refine mm_iconst dX3_foundAlike_40 rfl ?_
        refine mm_iret dX3_foundAlike_41 rfl rfl ?_
        rw [hΦ]; exact ⟨_, rfl, hR, rfl, Or.inl rfl⟩
      · exfalso; omega
  refine mm_start (ls := [(2, 22), (0, (h : Int)), (9, 0)]) rfl ?_
  refine mm_iconst dX3_foundAlike_0 rfl ?_
  refine mm_istore_n dX3_foundAlike_1 rfl (Nat.le_of_ble_eq_true rfl) rfl ?_
  exact loop 0 (Nat.zero_le _)
theorem mm_loopref (hR : mm_Rf M) {h : Nat} (hh : h < 24) : M 22 h = ((42 + 3 * h : Nat) : Int) + 1 := hR.at (mm_rw_loops h hh).2 (by omega)
/-- a loop that was found anew -/
theorem kR7.new {M N : mm_M} {h : Nat} (h7 : kR7 M) (hh : h < 24) (f : ∀ a, ¬ (28 ≤ a ∧ a ≤ 41) → a ≠ 42 + 3 * h → a ≠ 42 + 3 * h + 1 → a ≠ 42 + 3 * h + 2 → N a = M a) (hl : 0 ≤ N (42 + 3 * h) 2 ∧ N (42 + 3 * h) 2 ≤ 288) (hb : (-1000000 * N (42 + 3 * h) 2 ≤ N (42 + 3 * h) 3 ∧ N (42 + 3 * h) 3 ≤ 1425600 * N (42 + 3 * h) 2 ∨ N (42 + 3 * h) 2 = 0) ∧ (kZ ∨ kb_is (M 4) (M 16) (M 17) h (N (42 + 3 * h) 2) (N (42 + 3 * h) 3) (N (42 + 3 * h + 1)) (N (42 + 3 * h + 2)))) : kR7 (mm_up N 23 h 1) := by
  intro g hg
  have r : ∀ a, a ≠ 23 → mm_up N 23 h 1 a = N a := fun a ha => mm_up_row ha
  rw [r 4 (by decide), r 16 (by decide), r 17 (by decide), r (42 + 3 * g) (by omega), r (42 + 3 * g + 1) (by omega), r (42 + 3 * g + 2) (by omega), f 4 (by omega) (by omega) (by omega) (by omega), f 16 (by omega) (by omega) (by omega) (by omega), f 17 (by omega) (by omega) (by omega) (by omega)]
  by_cases c : g = h
  · rw [c, mm_up_s]
    exact ⟨Or.inr rfl, hl, fun _ => hb⟩
  · rw [mm_up_i c, f 23 (by omega) (by omega) (by omega) (by omega), f (42 + 3 * g) (by omega) (by omega) (by omega) (by omega), f (42 + 3 * g + 1) (by omega) (by omega) (by omega) (by omega), f (42 + 3 * g + 2) (by omega) (by omega) (by omega) (by omega)]
    exact h7 g hg
theorem c_X3_loopAt {h n : Nat} (hR : mm_Rf M) (hK : mm_CK M) (hA : mm_CA M) (hn : ks_n (M 4) = (n : Int)) (hh : h < 24) (h7 : kR7 M) (hZ : kX_cut (M 4) (M 16) (M 17) h n → kZ) :
    mm_C X Y_X3_loopAt 243 243 [(2, 22), (0, (h : Int))] M (fun r M' => r = (2, ((42 + 3 * h : Nat) : Int) + 1) ∧ mm_Rf M' ∧ kz_H M M' ∧ kR7 M' ∧ M' 23 h = 1) := by
  obtain ⟨Φ, hΦ⟩ : ∃ Φ : mm_V → mm_M → Prop, Φ = (fun r M' => r = (2, ((42 + 3 * h : Nat) : Int) + 1) ∧ mm_Rf M' ∧ kz_H M M' ∧ kR7 M' ∧ M' 23 h = 1) := ⟨_, rfl⟩
  rw [← hΦ]
  have hrw := (mm_rw_loops h hh).1
  -- the end: the row is given back
  have last : ∀ N, kz_H M N → kR7 N → N 23 h = 1 → mm_J X Y_X3_loopAt 243 243 243 59 [(2, 22), (0, (h : Int)), (9, 0)] [] N Φ := by
    intro N hH h7N h1
    have hRN := hH.1
    refine mm_aload_n dX3_loopAt_59 rfl rfl ?_
    refine mm_getr dX3_loopAt_60 rfl fl_X3_13 (c := 21) rfl (by decide) rfl rfl (hRN.at (c := 21) (i := 2) (v := 23) rfl (by decide)) ?_
    refine mm_iload_n dX3_loopAt_63 rfl rfl ?_
    refine mm_aalk (k0 := h) dX3_loopAt_64 rfl (c := 22) rfl (by decide) rfl (by omega) (by omega) ?_
    rw [mm_loopref hRN hh]
    refine mm_aret dX3_loopAt_65 rfl rfl (Or.inl ⟨_, rfl⟩) ?_
    rw [hΦ]; exact ⟨rfl, hRN, hH, h7N, h1⟩
  have found : ∀ N, mm_Rf N → (∀ a, ¬ (28 ≤ a ∧ a ≤ 41) → a ≠ 42 + 3 * h → a ≠ 42 + 3 * h + 1 → a ≠ 42 + 3 * h + 2 → N a = M a) → (0 ≤ N (42 + 3 * h) 2 ∧ N (42 + 3 * h) 2 ≤ 288) → ((-1000000 * N (42 + 3 * h) 2 ≤ N (42 + 3 * h) 3 ∧ N (42 + 3 * h) 3 ≤ 1425600 * N (42 + 3 * h) 2 ∨ N (42 + 3 * h) 2 = 0) ∧ (kZ ∨ kb_is (M 4) (M 16) (M 17) h (N (42 + 3 * h) 2) (N (42 + 3 * h) 3) (N (42 + 3 * h + 1)) (N (42 + 3 * h + 2)))) → mm_J X Y_X3_loopAt 243 243 243 52 [(2, 22), (0, (h : Int)), (9, 0)] [] N Φ := by
    intro N hRN f hl hb
    refine mm_aload_n dX3_loopAt_52 rfl rfl ?_
    refine mm_getr dX3_loopAt_53 rfl fl_X3_19 (c := 21) rfl (by decide) rfl rfl (hRN.at (c := 21) (i := 3) (v := 24) rfl (by decide)) ?_
    refine mm_iload_n dX3_loopAt_56 rfl rfl ?_
    refine mm_iconst dX3_loopAt_57 rfl ?_
    refine mm_zstk (k0 := h) dX3_loopAt_58 rfl (c := 23) rfl (by decide) rfl (by omega) (by omega) (Or.inr rfl) (fun M58 hM58 => ?_)
    have hR58 : mm_Rf M58 := by rw [hM58]; exact hRN.up (mm_rt_ar (t := 2) rfl (by decide))
    refine last _ ⟨hR58, fun a a1 a2 a3 => by rw [hM58, mm_up_row a2]; exact f a a1 (by omega) (by omega) (by omega)⟩ (by rw [hM58]; exact h7.new hh f hl hb) (by rw [hM58, mm_up_s])
  refine mm_start (ls := [(2, 22), (0, (h : Int)), (9, 0)]) rfl ?_
  rcases (h7 h hh).1 with f0 | f1
  · have ca := c_X3_foundAlike (X := X) hR hA hh h7
    have cf := c_X6_find (X := X) (M := M) (h := (h : Int)) (n := n) (rc := 42 + 3 * h) hR hK hA ⟨by omega, by omega⟩ hn hrw (by omega)
    have fnd : ∀ o : Nat, o < 24 → M 23 o = 1 → (∀ b : Nat, b < 5 → M 16 (ks_pl h b) = M 16 (ks_pl o b) ∧ M 17 (ks_pl h b) = M 17 (ks_pl o b)) → mm_J X Y_X3_loopAt 243 243 243 52 [(2, 22), (0, (h : Int)), (9, 0)] [] (mm_cf M (42 + 3 * h) (42 + 3 * o) 288) Φ ∧ mm_Rf (mm_cf M (42 + 3 * h) (42 + 3 * o) 288) := by
      intro o ho fo al
      obtain ⟨U, hU⟩ : ∃ U, U = mm_cf M (42 + 3 * h) (42 + 3 * o) 288 := ⟨_, rfl⟩
      rw [← hU]
      obtain ⟨-, ol, ob⟩ := h7 o ho
      have mn : min (M (42 + 3 * o) 2) ((288 : Nat) : Int) = M (42 + 3 * o) 2 := by omega
      have at1 : ∀ a b, U a b = if a = 42 + 3 * h ∧ b = 2 then M (42 + 3 * o) 2 else if a = 42 + 3 * h ∧ b = 3 then M (42 + 3 * o) 3 else if a = 42 + 3 * h + 1 ∧ (b : Int) < M (42 + 3 * o) 2 then M (42 + 3 * o + 1) b else if a = 42 + 3 * h + 2 ∧ (b : Int) < M (42 + 3 * o) 2 then M (42 + 3 * o + 2) b else M a b := by
        intro a b; rw [hU]; unfold mm_cf; rw [mn]
      have hRU : mm_Rf U := by
        intro a b hab
        rw [at1]
        by_cases z1 : a = 42 + 3 * h ∧ b = 2
        · exact absurd (by rw [z1.1, z1.2]; exact mm_rt_row hrw (by decide)) hab
        by_cases z2 : a = 42 + 3 * h ∧ b = 3
        · exact absurd (by rw [z2.1, z2.2]; exact mm_rt_row hrw (by decide)) hab
        by_cases z3 : a = 42 + 3 * h + 1 ∧ (b : Int) < M (42 + 3 * o) 2
        · exact absurd (by rw [z3.1]; exact mm_rt_arr hrw.2.1 b) hab
        by_cases z4 : a = 42 + 3 * h + 2 ∧ (b : Int) < M (42 + 3 * o) 2
        · exact absurd (by rw [z4.1]; exact mm_rt_arr hrw.2.2.1 b) hab
        rw [if_neg z1, if_neg z2, if_neg z3, if_neg z4]
        exact hR a b hab
      have u2 : U (42 + 3 * h) 2 = M (42 + 3 * o) 2 := by rw [at1, if_pos ⟨rfl, rfl⟩]
      have u3 : U (42 + 3 * h) 3 = M (42 + 3 * o) 3 := by rw [at1, if_neg (by omega), if_pos ⟨rfl, rfl⟩]
      refine ⟨found U hRU (fun a a1 a2 a3 a4 => by
        funext b
        rw [at1, if_neg (fun q => a2 q.1), if_neg (fun q => a2 q.1), if_neg (fun q => a3 q.1), if_neg (fun q => a4 q.1)]) (by rw [u2]; exact ol) ?_, hRU⟩
      obtain ⟨ow, ob⟩ := ob fo
      refine ⟨by rw [u2, u3]; exact ow, ?_⟩
      rcases ob with q | q
      · exact Or.inl q
      · right
        rw [u2, u3]
        refine (q.hour (g := (h : Int)) hK.1 (fun s hs => ?_)).rows (fun j hj => by rw [at1, if_neg (by omega), if_neg (by omega), if_pos ⟨rfl, hj⟩]) (fun j hj => by rw [at1, if_neg (by omega), if_neg (by omega), if_neg (by omega), if_pos ⟨rfl, hj⟩])
        have bb := ks_bandb hK.1 hs
        have := al (ks_band (M 4) s).toNat (by omega)
        rw [show (((ks_band (M 4) s).toNat : Nat) : Int) = ks_band (M 4) s by omega] at this
        exact this
    have cf2 : mm_C X Y_X6_find 243 243 [(2, 29), (0, (h : Int)), (2, ((42 + 3 * h : Nat) : Int) + 1)] M (fun r M' => r = (3, 0) ∧ mm_Rf M' ∧ mm_J X Y_X3_loopAt 243 243 243 52 [(2, 22), (0, (h : Int)), (9, 0)] [] M' Φ) := by
      refine mm_C.mono cf ?_
      rintro r U ⟨u1, u2, u3, u4, u5, u6⟩
      exact ⟨u1, u2, found U u2 u3.2.1 u4 ⟨u5, (u6.imp id hZ).symm⟩⟩
    have goA : mm_J X Y_X3_loopAt 243 243 243 15 [(2, 22), (0, (h : Int)), (0, -1)] [] M Φ := by
      refine mm_iload_n dX3_loopAt_15 rfl rfl ?_
      refine mm_iconst dX3_loopAt_16 rfl ?_
      refine mm_iceq dX3_loopAt_17 (by omega) (by omega) (fun h17 => ?_) (fun h17 => ?_)
      · refine mm_aload_n dX3_loopAt_38 rfl rfl ?_
        refine mm_getr dX3_loopAt_39 rfl fl_X3_52 (c := 21) rfl (by decide) rfl rfl (hR.at (c := 21) (i := 1) (v := 29) rfl (by decide)) ?_
        refine mm_iload_n dX3_loopAt_42 rfl rfl ?_
        refine mm_aload_n dX3_loopAt_43 rfl rfl ?_
        refine mm_getr dX3_loopAt_44 rfl fl_X3_13 (c := 21) rfl (by decide) rfl rfl (hR.at (c := 21) (i := 2) (v := 23) rfl (by decide)) ?_
        refine mm_iload_n dX3_loopAt_47 rfl rfl ?_
        refine mm_aalk (k0 := h) dX3_loopAt_48 rfl (c := 22) rfl (by decide) rfl (by omega) (by omega) ?_
        rw [mm_loopref hR hh]
        refine mm_V2g (M1 := M) dX3_loopAt_49 rfl lk_X3_69 (c := 28) rfl (by decide) rfl (by simp) (by simp) rfl rfl rfl (cf2) ?_
        rintro _ N49 ⟨rfl, p49⟩
        change mm_J _ _ _ _ _ _ _ _ _ _
        have hR49 : mm_Rf N49 := p49.1
        exact mm_drop (by repeat (first | exact trivial | refine And.intro (Or.inl rfl) ?_ | refine And.intro (Or.inr rfl) ?_)) p49.2
      · exfalso; omega
    have goB : ∀ o : Nat, o < 24 → M 23 o = 1 → (∀ b : Nat, b < 5 → M 16 (ks_pl h b) = M 16 (ks_pl o b) ∧ M 17 (ks_pl h b) = M 17 (ks_pl o b)) → mm_J X Y_X3_loopAt 243 243 243 15 [(2, 22), (0, (h : Int)), (0, (o : Int))] [] M Φ := by
      intro o ho fo al
      have hne : o ≠ h := fun q => by rw [q] at fo; omega
      obtain ⟨g1, g2⟩ := fnd o ho fo al
      have cc := c_X8_copyFrom (X := X) (M := M) (rc := 42 + 3 * h) (rd := 42 + 3 * o) (len := 288) (len' := 288) hR hrw (mm_rw_loops o ho).1 (by omega) (h7 o ho).2.1
      obtain ⟨U, hU⟩ : ∃ U, U = mm_cf M (42 + 3 * h) (42 + 3 * o) 288 := ⟨_, rfl⟩
      rw [← hU] at g1 g2 cc
      refine mm_iload_n dX3_loopAt_15 rfl rfl ?_
      refine mm_iconst dX3_loopAt_16 rfl ?_
      refine mm_iceq dX3_loopAt_17 (by omega) (by omega) (fun h17 => ?_) (fun h17 => ?_)
      · exfalso; omega
      · refine mm_aload_n dX3_loopAt_20 rfl rfl ?_
        refine mm_getr dX3_loopAt_21 rfl fl_X3_13 (c := 21) rfl (by decide) rfl rfl (hR.at (c := 21) (i := 2) (v := 23) rfl (by decide)) ?_
        refine mm_iload_n dX3_loopAt_24 rfl rfl ?_
        refine mm_aalk (k0 := h) dX3_loopAt_25 rfl (c := 22) rfl (by decide) rfl (by omega) (by omega) ?_
        rw [mm_loopref hR hh]
        refine mm_aload_n dX3_loopAt_26 rfl rfl ?_
        refine mm_getr dX3_loopAt_27 rfl fl_X3_13 (c := 21) rfl (by decide) rfl rfl (hR.at (c := 21) (i := 2) (v := 23) rfl (by decide)) ?_
        refine mm_iload_n dX3_loopAt_30 rfl rfl ?_
        refine mm_aalk (k0 := o) dX3_loopAt_31 rfl (c := 22) rfl (by decide) rfl (by omega) (by omega) ?_
        rw [mm_loopref hR ho]
        refine mm_V1v dX3_loopAt_32 rfl lk_X3_65 (c := 42 + 3 * h) rfl hrw.c0 hrw.1 (by simp) rfl rfl rfl (cc) ?_
        refine mm_goto dX3_loopAt_35 ?_
        exact mm_drop (by repeat (first | exact trivial | refine And.intro (Or.inl rfl) ?_ | refine And.intro (Or.inr rfl) ?_)) g1
    refine mm_aload_n dX3_loopAt_0 rfl rfl ?_
    refine mm_getr dX3_loopAt_1 rfl fl_X3_19 (c := 21) rfl (by decide) rfl rfl (hR.at (c := 21) (i := 3) (v := 24) rfl (by decide)) ?_
    refine mm_iload_n dX3_loopAt_4 rfl rfl ?_
    refine mm_zalk (k0 := h) dX3_loopAt_5 rfl (c := 23) rfl (by decide) rfl (by omega) (by omega) ?_
    rw [f0]
    refine mm_ifne dX3_loopAt_6 (by omega) (fun h6 => ?_) (fun h6 => ?_)
    · exfalso; omega
    · refine mm_aload_n dX3_loopAt_9 rfl rfl ?_
      refine mm_iload_n dX3_loopAt_10 rfl rfl ?_
      refine mm_V1g (M1 := M) dX3_loopAt_11 rfl lk_X3_61 (c := 21) rfl (by decide) rfl (by simp) rfl rfl rfl (ca) ?_
      rintro _ N11 ⟨x11, rfl, p11⟩
      change mm_J _ _ _ _ _ _ _ _ _ _
      have hR11 : mm_Rf N11 := p11.1
      refine mm_istore_n dX3_loopAt_14 rfl (Nat.le_of_ble_eq_true rfl) rfl ?_
      obtain ⟨z1, z2, z3⟩ := p11
      rw [z2]
      rcases z3 with q | ⟨o, o1, o2, o3, o4⟩
      · rw [q]; exact goA
      · rw [o2]; exact goB o o1 o3 o4
  · refine mm_aload_n dX3_loopAt_0 rfl rfl ?_
    refine mm_getr dX3_loopAt_1 rfl fl_X3_19 (c := 21) rfl (by decide) rfl rfl (hR.at (c := 21) (i := 3) (v := 24) rfl (by decide)) ?_
    refine mm_iload_n dX3_loopAt_4 rfl rfl ?_
    refine mm_zalk (k0 := h) dX3_loopAt_5 rfl (c := 23) rfl (by decide) rfl (by omega) (by omega) ?_
    rw [f1]
    refine mm_ifne dX3_loopAt_6 (by omega) (fun h6 => ?_) (fun h6 => ?_)
    · exact last M ⟨hR, fun _ _ _ _ => rfl⟩ h7 f1
    · exfalso; omega
end

