/-! ===== the reference's loops: states, breaches, keep ===== -/
/-- the state behind k acts -/
def kf_run (K : Nat → Int) (s : Int) (A : Nat → Int) : Nat → Int
  | 0 => s
  | k + 1 => ks_to K (kf_run K s A k) (A k)
def kf_mem (M : mm_M) (c : Nat) (f : Nat → Int) (n : Nat) : mm_M := fun a b => if a = c ∧ b < n then f b else M a b
theorem kf_mem_0 {M : mm_M} {c : Nat} {f : Nat → Int} : kf_mem M c f 0 = M := by
  funext a b; unfold kf_mem; rw [if_neg (by omega)]
theorem kf_mem_s {M : mm_M} {c : Nat} {f : Nat → Int} {n : Nat} : mm_up (kf_mem M c f n) c n (f n) = kf_mem M c f (n + 1) := by
  funext a b
  unfold mm_up kf_mem
  by_cases h : a = c ∧ b = n
  · rw [if_pos h, if_pos (by omega), h.2]
  · rw [if_neg h]
    by_cases h2 : a = c ∧ b < n
    · rw [if_pos h2, if_pos (by omega)]
    · rw [if_neg h2, if_neg (by omega)]
theorem kf_mem_n {M : mm_M} {c a : Nat} {f : Nat → Int} {n : Nat} (h : a ≠ c) : kf_mem M c f n a = M a := by
  funext b; unfold kf_mem; rw [if_neg (fun q => h q.1)]
theorem mm_Rf.fm {M : mm_M} (h : mm_Rf M) {c len n : Nat} {f : Nat → Int} (hs : mm_sh c = (1, len)) : mm_Rf (kf_mem M c f n) := by
  intro a b hab
  unfold kf_mem
  rw [if_neg (fun q => hab (by rw [q.1]; exact mm_rt_arr hs b))]
  exact h a b hab
section
variable {X : mm_X} {M : mm_M} {x : Int} {c : Nat}
theorem mm_rk_congr {M N : mm_M} (h1 : N 186 = M 186) (h2 : N 183 16 = M 183 16) (h3 : N 188 = M 188) (h4 : N 190 = M 190) : mm_rk N = mm_rk M := by
  funext i
  unfold mm_rk
  rw [h1, h2, h3, h4]
theorem c_X13_findStates (hR : mm_Rf M) (hc : c = 226 ∨ c = 227) (hx : 0 ≤ x ∧ x < 14) (hm : 0 ≤ M 216 x.toNat ∧ M 216 x.toNat ≤ 100) (hs : mm_R (M 217 x.toNat)) (ha : ∀ i : Nat, (i : Int) < M 216 x.toNat → 0 ≤ M 219 (100 * x.toNat + i) ∧ M 219 (100 * x.toNat + i) < 1000) :
    mm_Fn X Y_X13_findStates 243 [(2, 184), (0, x), (2, (c : Int) + 1)] M (3, 0) (kf_mem M c (kf_run (mm_rk M) (M 217 x.toNat) (fun i => M 219 (100 * x.toNat + i))) (M 216 x.toNat).toNat) := by
  have hsc : mm_sh c = (1, 100) := by rcases hc with rfl | rfl <;> rfl
  have hcn : c < 243 := by omega
  refine mm_startF (ls := [(2, 184), (0, x), (2, (c : Int) + 1), (9, 0), (9, 0)]) rfl ?_
  have loop : ∀ (k i : Nat), i + k = (M 216 x.toNat).toNat → mm_J X Y_X13_findStates 243 243 243 10 [(2, 184), (0, x), (2, (c : Int) + 1), (0, kf_run (mm_rk M) (M 217 x.toNat) (fun i => M 219 (100 * x.toNat + i)) i), (0, (i : Int))] [] (kf_mem M c (kf_run (mm_rk M) (M 217 x.toNat) (fun i => M 219 (100 * x.toNat + i))) i) (fun r' M'' => r' = (3, 0) ∧ M'' = kf_mem M c (kf_run (mm_rk M) (M 217 x.toNat) (fun i => M 219 (100 * x.toNat + i))) (M 216 x.toNat).toNat) := by
    intro k
    induction k with
    | zero =>
      intro i hi
      obtain ⟨N, hN⟩ : ∃ N, N = kf_mem M c (kf_run (mm_rk M) (M 217 x.toNat) (fun i => M 219 (100 * x.toNat + i))) i := ⟨_, rfl⟩
      have hRN : mm_Rf N := by rw [hN]; exact hR.fm hsc
      have e216 : N 216 = M 216 := by rw [hN]; exact kf_mem_n (by omega)
      have ei : i = (M 216 x.toNat).toNat := by omega
      rw [← hN]
      refine mm_iload dX13_findStates_10 rfl rfl ?_
      refine mm_aload_n dX13_findStates_12 rfl rfl ?_
      refine mm_getr dX13_findStates_13 rfl fl_X13_295 (c := 183) rfl (by decide) rfl rfl (hRN.at (c := 183) (i := 64) (v := 217) rfl (by decide)) ?_
      refine mm_iload_n dX13_findStates_16 rfl rfl ?_
      refine mm_iald dX13_findStates_17 rfl (c := 216) rfl (by decide) rfl (by omega) (by omega) ?_
      rw [e216]
      refine mm_icge dX13_findStates_18 (by omega) (by omega) (fun h18 => ?_) (fun h18 => ?_)
      · refine mm_vret dX13_findStates_50 rfl rfl ?_
        exact mm_fin rfl (by rw [hN, ei])
      · exfalso; omega
    | succ k ih =>
      intro i hi
      obtain ⟨N, hN⟩ : ∃ N, N = kf_mem M c (kf_run (mm_rk M) (M 217 x.toNat) (fun i => M 219 (100 * x.toNat + i))) i := ⟨_, rfl⟩
      have hRN : mm_Rf N := by rw [hN]; exact hR.fm hsc
      have e216 : N 216 = M 216 := by rw [hN]; exact kf_mem_n (by omega)
      have hai := ha i (by omega)
      rw [← hN]
      refine mm_iload dX13_findStates_10 rfl rfl ?_
      refine mm_aload_n dX13_findStates_12 rfl rfl ?_
      refine mm_getr dX13_findStates_13 rfl fl_X13_295 (c := 183) rfl (by decide) rfl rfl (hRN.at (c := 183) (i := 64) (v := 217) rfl (by decide)) ?_
      refine mm_iload_n dX13_findStates_16 rfl rfl ?_
      refine mm_iald dX13_findStates_17 rfl (c := 216) rfl (by decide) rfl (by omega) (by omega) ?_
      rw [e216]
      refine mm_icge dX13_findStates_18 (by omega) (by omega) (fun h18 => ?_) (fun h18 => ?_)
      · exfalso; omega
      · refine mm_aload_n dX13_findStates_21 rfl rfl ?_
        refine mm_iload dX13_findStates_22 rfl rfl ?_
        refine mm_iload_n dX13_findStates_24 rfl rfl ?_
        refine mm_istk (k0 := i) dX13_findStates_25 rfl (c := c) rfl hcn hsc (by omega) (by omega) (fun M25 hM25 => ?_)
        have hR25 : mm_Rf M25 := by rw [hM25]; exact hRN.up (mm_rt_arr hsc _)
        refine mm_aload_n dX13_findStates_26 rfl rfl ?_
        refine mm_iload_n dX13_findStates_27 rfl rfl ?_
        refine mm_aload_n dX13_findStates_28 rfl rfl ?_
        refine mm_getr dX13_findStates_29 rfl fl_X13_304 (c := 183) rfl (by decide) rfl rfl (hR25.at (c := 183) (i := 67) (v := 220) rfl (by decide)) ?_
        refine mm_bipush dX13_findStates_32 rfl (by decide) ?_
        refine mm_iload_n dX13_findStates_34 rfl rfl ?_
        refine mm_imul dX13_findStates_35 rfl ?_
        refine mm_iload dX13_findStates_36 rfl rfl ?_
        refine mm_iadd dX13_findStates_38 rfl ?_
        refine mm_ialk (k0 := (100 * x.toNat + i)) dX13_findStates_39 rfl (c := 219) rfl (by decide) rfl (by omega) (by omega) ?_
        have e25 : M25 = kf_mem M c (kf_run (mm_rk M) (M 217 x.toNat) (fun i => M 219 (100 * x.toNat + i))) (i + 1) := by rw [hM25, hN]; exact kf_mem_s
        have f219 : M25 219 = M 219 := by rw [e25]; exact kf_mem_n (by omega)
        have fk : mm_rk M25 = mm_rk M := by
          refine mm_rk_congr ?_ ?_ ?_ ?_ <;> rw [e25, kf_mem_n (by omega)]
        rw [f219]
        refine mm_V2i dX13_findStates_40 rfl lk_X13_476 (c := 183) rfl (by decide) rfl (by simp) (by simp) rfl rfl rfl (c_X13_after hR25 hai) ?_
        refine mm_istore_n dX13_findStates_43 rfl (Nat.le_of_ble_eq_true rfl) rfl ?_
        refine mm_iinc dX13_findStates_44 rfl rfl (Nat.le_of_ble_eq_true rfl) rfl ?_
        refine mm_goto dX13_findStates_47 ?_
        rw [fk, e25]
        exact ih (i + 1) (by omega)
  refine mm_aload_n dX13_findStates_0 rfl rfl ?_
  refine mm_getr dX13_findStates_1 rfl fl_X13_298 (c := 183) rfl (by decide) rfl rfl (hR.at (c := 183) (i := 65) (v := 218) rfl (by decide)) ?_
  refine mm_iload_n dX13_findStates_4 rfl rfl ?_
  refine mm_iald dX13_findStates_5 rfl (c := 217) rfl (by decide) rfl (by omega) (by omega) ?_
  refine mm_istore_n dX13_findStates_6 rfl (Nat.le_of_ble_eq_true rfl) rfl ?_
  refine mm_iconst dX13_findStates_7 rfl ?_
  refine mm_istore dX13_findStates_8 rfl (Nat.le_of_ble_eq_true rfl) rfl ?_
  have := loop (M 216 x.toNat).toNat 0 (by omega)
  rw [kf_mem_0] at this
  exact this
theorem c_X11_keep (hR : mm_Rf M) (hx : mm_R x) (hz : M 0 12 = 0 ∨ M 0 12 = 1) (hz2 : M 117 9 = 0 ∨ M 117 9 = 1) (hl : 0 ≤ M 117 2 ∧ M 117 2 ≤ 100) :
    mm_Fn X Y_X11_keep 243 [(2, 1), (0, x)] M (0, if 0 ≤ x ∧ x ≤ 5 then (if M 0 12 = 1 ∧ M 117 9 = 1 then M 117 2 else -4) else -2) (if (0 ≤ x ∧ x ≤ 5) ∧ M 0 12 = 1 ∧ M 117 9 = 1 then mm_cf M (121 + 3 * x.toNat) 117 100 else M) := by
  refine mm_startF (ls := [(2, 1), (0, x)]) rfl ?_
  by_cases hs : 0 ≤ x ∧ x ≤ 5
  · have e1 := mm_keptref hR hs
    have w1 := (mm_rw_kept x.toNat (by omega)).1
    have hcf := c_X8_copyFrom (X := X) (M := M) (rc := 121 + 3 * x.toNat) (rd := 117) hR w1 mm_rw_judged (by omega) hl
    obtain ⟨N, hN⟩ : ∃ N, N = mm_cf M (121 + 3 * x.toNat) 117 100 := ⟨_, rfl⟩
    rw [← hN] at hcf
    have hRN : mm_Rf N := by
      intro a b hab
      rw [hN]
      unfold mm_cf
      rw [if_neg (fun q => hab (by rw [q.1]; exact mm_rt_row w1 (by omega))), if_neg (fun q => hab (by rw [q.1]; exact mm_rt_row w1 (by omega))), if_neg (fun q => hab (by rw [q.1]; exact mm_rt_arr w1.2.1 b)), if_neg (fun q => hab (by rw [q.1]; exact mm_rt_arr w1.2.2.1 b))]
      exact hR a b hab
    have el : N 117 2 = M 117 2 := by
      rw [hN]; unfold mm_cf
      rw [if_neg (by omega), if_neg (by omega), if_neg (by omega), if_neg (by omega)]
    refine mm_iload_n dX11_keep_0 rfl rfl ?_
    refine mm_S1i dX11_keep_1 rfl lk_X11_254 (by simp) rfl rfl rfl (c_X11_isSlot hx) ?_
    refine mm_ifneb dX11_keep_4 (fun h4 => ?_) (fun h4 => ?_)
    · refine mm_aload_n dX11_keep_10 rfl rfl ?_
      refine mm_get (kd := 0) dX11_keep_11 rfl fl_X11_116 (c := 0) rfl (by decide) rfl rfl ?_
      refine mm_ifeq dX11_keep_14 (by omega) (fun h14 => ?_) (fun h14 => ?_)
      · refine mm_bipush dX11_keep_27 rfl (by decide) ?_
        refine mm_iret dX11_keep_29 rfl rfl ?_
        exact mm_fin (by rw [if_pos hs, if_neg (by omega)]) (by rw [if_neg (by omega)])
      · refine mm_aload_n dX11_keep_17 rfl rfl ?_
        refine mm_getr dX11_keep_18 rfl fl_X11_57 (c := 0) rfl (by decide) rfl rfl (hR.at (c := 0) (i := 6) (v := 118) rfl (by decide)) ?_
        refine mm_get (kd := 0) dX11_keep_21 rfl fl_X11_251 (c := 117) rfl (by decide) rfl rfl ?_
        refine mm_ifne dX11_keep_24 (by omega) (fun h24 => ?_) (fun h24 => ?_)
        · refine mm_aload_n dX11_keep_30 rfl rfl ?_
          refine mm_getr dX11_keep_31 rfl fl_X11_60 (c := 0) rfl (by decide) rfl rfl (hR.at (c := 0) (i := 7) (v := 121) rfl (by decide)) ?_
          refine mm_iload_n dX11_keep_34 rfl rfl ?_
          refine mm_aald dX11_keep_35 rfl (c := 120) rfl (by decide) rfl (by omega) (by omega) ?_
          rw [e1]
          refine mm_aload_n dX11_keep_36 rfl rfl ?_
          refine mm_getr dX11_keep_37 rfl fl_X11_57 (c := 0) rfl (by decide) rfl rfl (hR.at (c := 0) (i := 6) (v := 118) rfl (by decide)) ?_
          refine mm_V1v dX11_keep_40 rfl lk_X11_212 (c := 121 + 3 * x.toNat) rfl w1.c0 w1.1 (by simp) rfl rfl rfl (hcf) ?_
          refine mm_aload_n dX11_keep_43 rfl rfl ?_
          refine mm_getr dX11_keep_44 rfl fl_X11_57 (c := 0) rfl (by decide) rfl rfl (hRN.at (c := 0) (i := 6) (v := 118) rfl (by decide)) ?_
          refine mm_get (kd := 0) dX11_keep_47 rfl fl_X11_115 (c := 117) rfl (by decide) rfl rfl ?_
          refine mm_iret dX11_keep_50 rfl rfl ?_
          exact mm_fin (by rw [if_pos hs, if_pos (by omega), el]) (by rw [if_pos (by omega), hN])
        · refine mm_bipush dX11_keep_27 rfl (by decide) ?_
          refine mm_iret dX11_keep_29 rfl rfl ?_
          exact mm_fin (by rw [if_pos hs, if_neg (by omega)]) (by rw [if_neg (by omega)])
    · exact absurd hs h4
  · refine mm_iload_n dX11_keep_0 rfl rfl ?_
    refine mm_S1i dX11_keep_1 rfl lk_X11_254 (by simp) rfl rfl rfl (c_X11_isSlot hx) ?_
    refine mm_ifneb dX11_keep_4 (fun h4 => ?_) (fun h4 => ?_)
    · exact absurd h4 hs
    · refine mm_bipush dX11_keep_7 rfl (by decide) ?_
      refine mm_iret dX11_keep_9 rfl rfl ?_
      exact mm_fin (by rw [if_neg hs]) (by rw [if_neg (fun q => hs q.1)])
end

