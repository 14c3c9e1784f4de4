/-! ===== the draft of a kite, and its use ===== -/
def kp_U : List Int := [5, 4, 6, 20, 100, 20000, 0, 100, 150, 1000]
def kp_D0 (D : Nat → Int) (i : Nat) : Int := if i < 10 then kp_U.getD i 0 else if i = 10 then 2 else if i = 20 then 10 else if i = 21 then 2 else if 30 ≤ i ∧ i < 36 then 100 else D i
/-- the references of the kite -/
def kc_rf (M : mm_M) : Prop := M 3 0 = 5 ∧ M 3 1 = 6 ∧ M 3 3 = 7 ∧ M 3 4 = 8 ∧ M 3 5 = 9 ∧ M 3 6 = 10 ∧ M 3 7 = 11
theorem mm_Rf.kc {M : mm_M} (h : mm_Rf M) : kc_rf M := ⟨h.at rfl (by decide), h.at rfl (by decide), h.at rfl (by decide), h.at rfl (by decide), h.at rfl (by decide), h.at rfl (by decide), h.at rfl (by decide)⟩
theorem kc_rf.fr {M N : mm_M} (h : kc_rf M) (q : ∀ b, b ≠ 2 → N 3 b = M 3 b) : kc_rf N := by
  unfold kc_rf at h ⊢
  rw [q 0 (by decide), q 1 (by decide), q 3 (by decide), q 4 (by decide), q 5 (by decide), q 6 (by decide), q 7 (by decide)]
  exact h
theorem mm_KV_congr {K L : Nat → Int} (h : ∀ i, i < 36 → L i = K i) (hK : mm_KV K) : mm_KV L := by
  unfold mm_KV at hK ⊢
  rw [h 0 (by decide), h 1 (by decide), h 2 (by decide), h 3 (by decide), h 4 (by decide), h 5 (by decide), h 6 (by decide), h 7 (by decide), h 8 (by decide), h 9 (by decide), h 10 (by decide)]
  obtain ⟨a0, a1, a2, a3, a4, a5, a6, a7, a8, a9, a10, a11, a12⟩ := hK
  exact ⟨a0, a1, a2, a3, a4, a5, a6, a7, a8, a9, a10, fun i hi => by rw [h (20 + i) (by omega)]; exact a11 i hi, fun i hi => by rw [h (30 + i) (by omega)]; exact a12 i hi⟩
theorem kp_D0_KV {D : Nat → Int} (h : 0 ≤ D 22 ∧ D 22 ≤ 99) : mm_KV (kp_D0 D) := by
  refine ⟨by simp [kp_D0, kp_U], by simp [kp_D0, kp_U], by simp [kp_D0, kp_U], by simp [kp_D0, kp_U], by simp [kp_D0, kp_U], by simp [kp_D0, kp_U], by simp [kp_D0, kp_U], by simp [kp_D0, kp_U], by simp [kp_D0, kp_U], by simp [kp_D0, kp_U], by simp [kp_D0], ?_, ?_⟩
  · intro i hi
    match i, hi with
    | 0, _ => show 0 ≤ (10 : Int) ∧ (10 : Int) ≤ 99; decide
    | 1, _ => show 0 ≤ (2 : Int) ∧ (2 : Int) ≤ 99; decide
    | 2, _ => exact h
  · intro i hi
    have : kp_D0 D (30 + i) = 100 := by
      unfold kp_D0
      rw [if_neg (by omega), if_neg (by omega), if_neg (by omega), if_neg (by omega), if_pos (by omega)]
    rw [this]
    decide
section
variable {X : mm_X} {M : mm_M} {n : Nat}
theorem c_X4_startDraft (hn : 11 ≤ n) (hR : kc_rf M) : mm_C X Y_X4_startDraft n n [(2, 4)] M (fun r M' => r = (3, 0) ∧ (∀ a, a ≠ 5 → M' a = M a) ∧ M' 5 = kp_D0 (M 5)) := by
  refine mm_start (ls := [(2, 4)]) rfl ?_
  have h5 : ∀ (N : mm_M), (∀ a, a ≠ 5 → N a = M a) → N 3 1 = 6 := fun N q => by rw [q 3 (by decide)]; exact hR.2.1
  refine mm_gets (k0 := 2) dX4_startDraft_0 rfl (by decide) sf_X4_92 ?_
  refine mm_iconst dX4_startDraft_3 rfl ?_
  refine mm_aload_n dX4_startDraft_4 rfl rfl ?_
  refine mm_getr dX4_startDraft_5 rfl fl_X4_15 (c := 3) rfl (by omega) rfl rfl (h5 M (by intro a ha; funext b; first | rfl | (simp [mm_up, hN13, mm_cp, ha]; done) | (rw [hN13]; simp [mm_cp, ha]))) ?_
  refine mm_iconst dX4_startDraft_8 rfl ?_
  refine mm_gets (k0 := 2) dX4_startDraft_9 rfl (by decide) sf_X4_92 ?_
  refine mm_alro (k0 := 4) dX4_startDraft_12 rfl rfl (by decide) ?_
  rw [show ((mm_rc X 4).1 : Int) = 10 from rfl]
  refine mm_copyro (k0 := 4) (d := 5) dX4_startDraft_13 rfl la_X4_95 rfl rfl rfl (by decide) rfl (by omega) rfl (by omega) (by omega) (by omega) (by omega) (by omega) ?_
  obtain ⟨N13, hN13⟩ : ∃ N, N = mm_cp M 5 (mm_rc X 4).2 (0 : Int).toNat (0 : Int).toNat (10 : Int).toNat := ⟨_, rfl⟩
  rw [← hN13]
  refine mm_aload_n dX4_startDraft_16 rfl rfl ?_
  refine mm_getr dX4_startDraft_17 rfl fl_X4_15 (c := 3) rfl (by omega) rfl rfl (h5 N13 (by intro a ha; funext b; first | rfl | (simp [mm_up, hN13, mm_cp, ha]; done) | (rw [hN13]; simp [mm_cp, ha]))) ?_
  refine mm_bipush dX4_startDraft_20 rfl (by decide) ?_
  refine mm_iconst dX4_startDraft_22 rfl ?_
  refine mm_istk (k0 := 10) dX4_startDraft_23 rfl (c := 5) rfl (by omega) rfl rfl (by decide) (fun M23 hM23 => ?_)
  refine mm_aload_n dX4_startDraft_24 rfl rfl ?_
  refine mm_getr dX4_startDraft_25 rfl fl_X4_15 (c := 3) rfl (by omega) rfl rfl (h5 M23 (by intro a ha; funext b; first | rfl | (simp [hM23, mm_up, hN13, mm_cp, ha]; done) | (rw [hN13]; simp [mm_cp, ha]))) ?_
  refine mm_bipush dX4_startDraft_28 rfl (by decide) ?_
  refine mm_bipush dX4_startDraft_30 rfl (by decide) ?_
  refine mm_istk (k0 := 20) dX4_startDraft_32 rfl (c := 5) rfl (by omega) rfl rfl (by decide) (fun M32 hM32 => ?_)
  refine mm_aload_n dX4_startDraft_33 rfl rfl ?_
  refine mm_getr dX4_startDraft_34 rfl fl_X4_15 (c := 3) rfl (by omega) rfl rfl (h5 M32 (by intro a ha; funext b; first | rfl | (simp [hM32, hM23, mm_up, hN13, mm_cp, ha]; done) | (rw [hN13]; simp [mm_cp, ha]))) ?_
  refine mm_bipush dX4_startDraft_37 rfl (by decide) ?_
  refine mm_iconst dX4_startDraft_39 rfl ?_
  refine mm_istk (k0 := 21) dX4_startDraft_40 rfl (c := 5) rfl (by omega) rfl rfl (by decide) (fun M40 hM40 => ?_)
  refine mm_aload_n dX4_startDraft_41 rfl rfl ?_
  refine mm_getr dX4_startDraft_42 rfl fl_X4_15 (c := 3) rfl (by omega) rfl rfl (h5 M40 (by intro a ha; funext b; first | rfl | (simp [hM40, hM32, hM23, mm_up, hN13, mm_cp, ha]; done) | (rw [hN13]; simp [mm_cp, ha]))) ?_
  refine mm_bipush dX4_startDraft_45 rfl (by decide) ?_
  refine mm_bipush dX4_startDraft_47 rfl (by decide) ?_
  refine mm_bipush dX4_startDraft_49 rfl (by decide) ?_
  refine mm_S4v dX4_startDraft_51 rfl lk_X4_86 (by simp) (by simp) (by simp) (by simp) rfl rfl rfl (c_J7_fill4 (c := 5) (len := 36) (by omega) rfl (by decide) (by decide)) ?_
  refine mm_vret dX4_startDraft_54 rfl rfl ?_
  refine ⟨rfl, ?_, ?_⟩
  · intro a ha
    rw [kf_off_n ha, hM40, mm_up_row ha, hM32, mm_up_row ha, hM23, mm_up_row ha, hN13]
    funext b
    simp [mm_cp, ha]
  · funext i
    rw [kf_off_at]
    unfold kp_D0
    by_cases c0 : 30 ≤ i ∧ i < 36
    · rw [if_pos ⟨rfl, by simpa using c0⟩, if_neg (by omega), if_neg (by omega), if_neg (by omega), if_neg (by omega), if_pos c0]
    · rw [if_neg (fun q => c0 (by simpa using q.2))]
      by_cases c1 : i < 10
      · rw [if_pos c1, hM40, mm_up_i (by omega), hM32, mm_up_i (by omega), hM23, mm_up_i (by omega), hN13]
        unfold mm_cp
        rw [if_pos ⟨rfl, by simp, by simpa using c1⟩]
        match i, c1 with
        | 0, _ => rfl
        | 1, _ => rfl
        | 2, _ => rfl
        | 3, _ => rfl
        | 4, _ => rfl
        | 5, _ => rfl
        | 6, _ => rfl
        | 7, _ => rfl
        | 8, _ => rfl
        | 9, _ => rfl
      · rw [if_neg c1]
        by_cases c2 : i = 10
        · rw [if_pos c2, c2, hM40, mm_up_i (by decide), hM32, mm_up_i (by decide), hM23, mm_up_s]
        · rw [if_neg c2]
          by_cases c3 : i = 20
          · rw [if_pos c3, c3, hM40, mm_up_i (by decide), hM32, mm_up_s]
          · rw [if_neg c3]
            by_cases c4 : i = 21
            · rw [if_pos c4, c4, hM40, mm_up_s]
            · rw [if_neg c4, if_neg c0, hM40, mm_up_i c4, hM32, mm_up_i c3, hM23, mm_up_i c2, hN13]
              unfold mm_cp
              rw [if_neg (fun q => c1 (by simpa using q.2.2))]
/-- the tables of the first S states -/
def kc_tab (N : mm_M) (K : Nat → Int) (S : Int) : Prop := ∀ s : Nat, (s : Int) < S → N 6 s = ks_col K s ∧ N 7 s = ks_row K s ∧ N 8 s = ks_rope K s ∧ N 9 s = ks_h K s ∧ N 10 s = ks_band K s
set_option maxHeartbeats 4000000 in
theorem c_X4_useDraft (hn : 11 ≤ n) (hR : kc_rf M) (hK : mm_KV (M 5)) : mm_C X Y_X4_useDraft n n [(2, 4)] M (fun r M' => r = (3, 0) ∧ (∀ a, a ≠ 3 → a ≠ 4 → ¬ (6 ≤ a ∧ a ≤ 10) → M' a = M a) ∧ (∀ b, b ≠ 2 → M' 3 b = M 3 b) ∧ (∀ b, b < 36 → M' 4 b = M 5 b) ∧ mm_CK M') := by
  obtain ⟨Φ, hΦ⟩ : ∃ Φ : mm_V → mm_M → Prop, Φ = (fun r M' => r = (3, 0) ∧ (∀ a, a ≠ 3 → a ≠ 4 → ¬ (6 ≤ a ∧ a ≤ 10) → M' a = M a) ∧ (∀ b, b ≠ 2 → M' 3 b = M 3 b) ∧ (∀ b, b < 36 → M' 4 b = M 5 b) ∧ mm_CK M') := ⟨_, rfl⟩
  rw [← hΦ]
  obtain ⟨K, hKd⟩ : ∃ K : Nat → Int, K = (fun b => if b < 36 then M 5 b else M 4 b) := ⟨_, rfl⟩
  have hK5 : ∀ b, b < 36 → K b = M 5 b := by intro b hb; rw [hKd]; simp [hb]
  have hKV : mm_KV K := mm_KV_congr hK5 hK
  obtain ⟨k0, k1, k2, k3, -⟩ := id hKV
  have hnb := ks_nb hKV
  have hnd : ks_n K = K 0 * K 1 * K 2 := rfl
  refine mm_start (ls := [(2, 4), (9, 0), (9, 0), (9, 0), (9, 0)]) rfl ?_
  -- what holds of the memory with S states made
  obtain ⟨I, hI⟩ : ∃ I : mm_M → Int → Prop, I = (fun N S => (∀ a, a ≠ 3 → a ≠ 4 → ¬ (6 ≤ a ∧ a ≤ 10) → N a = M a) ∧ (∀ b, b ≠ 2 → N 3 b = M 3 b) ∧ N 4 = K ∧ N 3 2 = S ∧ kc_tab N K S) := ⟨_, rfl⟩
  have rope : ∀ p : Nat, p ≤ (K 2).toNat → ∀ (N : mm_M) (l3 l4 : mm_V), I N (ks_f K 0 0 p) → mm_J X Y_X4_useDraft n n n 33 [(2, 4), (0, K 1), (0, (p : Int)), l3, l4] [] N Φ := by
    refine mm_lp ?_
    intro p hp ihp N l3 l4 hIN
    rw [hI] at hIN
    obtain ⟨i1, i2, i3, i4, i5⟩ := hIN
    have hRN := hR.fr i2
    by_cases hpl : p < (K 2).toNat
    · have row : ∀ w : Nat, w ≤ (K 1).toNat → ∀ (N : mm_M) (l4 : mm_V), I N (ks_f K 0 w p) → mm_J X Y_X4_useDraft n n n 45 [(2, 4), (0, K 1), (0, (p : Int)), (0, (w : Int)), l4] [] N Φ := by
        refine mm_lp ?_
        intro w hw ihw N l4 hIN
        rw [hI] at hIN
        obtain ⟨i1, i2, i3, i4, i5⟩ := hIN
        have hRN := hR.fr i2
        by_cases hwl : w < (K 1).toNat
        · have col : ∀ c : Nat, c ≤ (K 0).toNat → ∀ (N : mm_M), I N (ks_f K c w p) → mm_J X Y_X4_useDraft n n n 58 [(2, 4), (0, K 1), (0, (p : Int)), (0, (w : Int)), (0, (c : Int))] [] N Φ := by
            refine mm_lp ?_
            intro c hc ihc N hIN
            have hIN0 := hIN
            rw [hI] at hIN
            obtain ⟨i1, i2, i3, i4, i5⟩ := hIN
            have hRN := hR.fr i2
            by_cases hcl : c < (K 0).toNat
            · have hst := ks_f_st hKV (c := (c : Int)) (r := (w : Int)) (p := (p : Int)) (by omega) (by omega) (by omega)
              have hdc := ks_f_dec hKV (c := (c : Int)) (r := (w : Int)) (p := (p : Int)) (by omega) (by omega)
              obtain ⟨S, hS⟩ : ∃ S : Nat, S = (ks_f K c w p).toNat := ⟨_, rfl⟩
              have hS1 : ks_f K c w p = (S : Int) := by have := hst.1; omega
              have hst1 := hst.1
              have hst2 := hst.2
              have hh := ks_hb hKV hst
              have eh : ks_h K (ks_f K c w p) = K 3 * ((p : Int) + 1) * ((w : Int) + 1) / K 1 := by unfold ks_h; rw [hdc.2.1, hdc.2.2]
              rw [hdc.2.1, hdc.2.2] at hh
              have hnext : ks_f K ((c + 1 : Nat) : Int) w p = ks_f K c w p + 1 := by unfold ks_f; omega
              rw [hS1] at i4 i5 hst1 hst2 hdc eh hnext
              have ebd : ks_band K (S : Int) = min (K 3 * ((p : Int) + 1) * ((w : Int) + 1) / K 1 / 40) 4 := by unfold ks_band; rw [eh, Int.min_comm]
              have hdb := mm_divb (b := K 1) hh.2.2.2.2.1 hh.2.2.2.2.2 (by omega)
              have etd : (K 3 * ((p : Int) + 1) * ((w : Int) + 1)).tdiv (K 1) = K 3 * ((p : Int) + 1) * ((w : Int) + 1) / K 1 := mm_tdiv hh.2.2.2.2.1
              have r0 := hRN.1
              have r3 := hRN.2.2.1
              have r4 := hRN.2.2.2.1
              have r5 := hRN.2.2.2.2.1
              have r6 := hRN.2.2.2.2.2.1
              have r7 := hRN.2.2.2.2.2.2
              refine mm_iload dX4_useDraft_58 rfl rfl ?_
              refine mm_aload_n dX4_useDraft_60 rfl rfl ?_
              refine mm_getr dX4_useDraft_61 rfl fl_X4_11 (c := 3) rfl (by omega) rfl rfl ((by first | exact r0 | (simp [mm_up]; exact r0))) ?_
              refine mm_iconst dX4_useDraft_64 rfl ?_
              refine mm_ialk (k0 := 0) dX4_useDraft_65 rfl (c := 4) rfl (by omega) rfl rfl (by decide) ?_
              rw [i3]
              refine mm_icge dX4_useDraft_66 (by omega) (by omega) (fun h66 => ?_) (fun h66 => ?_)
              · exfalso; omega
              · refine mm_aload_n dX4_useDraft_69 rfl rfl ?_
                refine mm_get (kd := 0) dX4_useDraft_70 rfl fl_X4_107 (c := 3) rfl (by omega) rfl rfl ?_
                obtain ⟨v70, hv70⟩ : ∃ v, v = N 3 2 := ⟨_, rfl⟩
                rw [← hv70]
                rw [i4] at hv70
                subst hv70
                refine mm_sipush dX4_useDraft_73 rfl (by decide) ?_
                refine mm_icge dX4_useDraft_76 (by omega) (by omega) (fun h76 => ?_) (fun h76 => ?_)
                · exfalso; omega
                · refine mm_aload_n dX4_useDraft_79 rfl rfl ?_
                  refine mm_getr dX4_useDraft_80 rfl fl_X4_18 (c := 3) rfl (by omega) rfl rfl ((by first | exact r3 | (simp [mm_up]; exact r3))) ?_
                  refine mm_aload_n dX4_useDraft_83 rfl rfl ?_
                  refine mm_get (kd := 0) dX4_useDraft_84 rfl fl_X4_107 (c := 3) rfl (by omega) rfl rfl ?_
                  obtain ⟨v84, hv84⟩ : ∃ v, v = N 3 2 := ⟨_, rfl⟩
                  rw [← hv84]
                  rw [i4] at hv84
                  subst hv84
                  refine mm_iload dX4_useDraft_87 rfl rfl ?_
                  refine mm_istk (k0 := S) dX4_useDraft_89 rfl (c := 6) rfl (by omega) rfl (by omega) (by omega) (fun M89 hM89 => ?_)
                  refine mm_aload_n dX4_useDraft_90 rfl rfl ?_
                  refine mm_getr dX4_useDraft_91 rfl fl_X4_21 (c := 3) rfl (by omega) rfl rfl ((by first | exact r4 | (simp [hM89, mm_up]; exact r4))) ?_
                  refine mm_aload_n dX4_useDraft_94 rfl rfl ?_
                  refine mm_get (kd := 0) dX4_useDraft_95 rfl fl_X4_107 (c := 3) rfl (by omega) rfl rfl ?_
                  obtain ⟨v95, hv95⟩ : ∃ v, v = M89 3 2 := ⟨_, rfl⟩
                  rw [← hv95]
                  rw [hM89, mm_up_c (by decide), i4] at hv95
                  subst hv95
                  refine mm_iload_n dX4_useDraft_98 rfl rfl ?_
                  refine mm_istk (k0 := S) dX4_useDraft_99 rfl (c := 7) rfl (by omega) rfl (by omega) (by omega) (fun M99 hM99 => ?_)
                  refine mm_aload_n dX4_useDraft_100 rfl rfl ?_
                  refine mm_getr dX4_useDraft_101 rfl fl_X4_24 (c := 3) rfl (by omega) rfl rfl ((by first | exact r5 | (simp [hM99, hM89, mm_up]; exact r5))) ?_
                  refine mm_aload_n dX4_useDraft_104 rfl rfl ?_
                  refine mm_get (kd := 0) dX4_useDraft_105 rfl fl_X4_107 (c := 3) rfl (by omega) rfl rfl ?_
                  obtain ⟨v105, hv105⟩ : ∃ v, v = M99 3 2 := ⟨_, rfl⟩
                  rw [← hv105]
                  rw [hM99, mm_up_c (by decide), hM89, mm_up_c (by decide), i4] at hv105
                  subst hv105
                  refine mm_iload_n dX4_useDraft_108 rfl rfl ?_
                  refine mm_istk (k0 := S) dX4_useDraft_109 rfl (c := 8) rfl (by omega) rfl (by omega) (by omega) (fun M109 hM109 => ?_)
                  refine mm_aload_n dX4_useDraft_110 rfl rfl ?_
                  refine mm_getr dX4_useDraft_111 rfl fl_X4_27 (c := 3) rfl (by omega) rfl rfl ((by first | exact r6 | (simp [hM109, hM99, hM89, mm_up]; exact r6))) ?_
                  refine mm_aload_n dX4_useDraft_114 rfl rfl ?_
                  refine mm_get (kd := 0) dX4_useDraft_115 rfl fl_X4_107 (c := 3) rfl (by omega) rfl rfl ?_
                  obtain ⟨v115, hv115⟩ : ∃ v, v = M109 3 2 := ⟨_, rfl⟩
                  rw [← hv115]
                  rw [hM109, mm_up_c (by decide), hM99, mm_up_c (by decide), hM89, mm_up_c (by decide), i4] at hv115
                  subst hv115
                  refine mm_aload_n dX4_useDraft_118 rfl rfl ?_
                  refine mm_getr dX4_useDraft_119 rfl fl_X4_11 (c := 3) rfl (by omega) rfl rfl ((by first | exact r0 | (simp [hM109, hM99, hM89, mm_up]; exact r0))) ?_
                  refine mm_iconst dX4_useDraft_122 rfl ?_
                  refine mm_ialk (k0 := 3) dX4_useDraft_123 rfl (c := 4) rfl (by omega) rfl rfl (by decide) ?_
                  rw [show M109 4 = N 4 from by rw [hM109, mm_up_row (by decide), hM99, mm_up_row (by decide), hM89, mm_up_row (by decide)]]
                  rw [i3]
                  refine mm_iload_n dX4_useDraft_124 rfl rfl ?_
                  refine mm_iconst dX4_useDraft_125 rfl ?_
                  refine mm_iadd dX4_useDraft_126 rfl ?_
                  refine mm_imul dX4_useDraft_127 rfl ?_
                  refine mm_iload_n dX4_useDraft_128 rfl rfl ?_
                  refine mm_iconst dX4_useDraft_129 rfl ?_
                  refine mm_iadd dX4_useDraft_130 rfl ?_
                  refine mm_imul dX4_useDraft_131 rfl ?_
                  refine mm_iload_n dX4_useDraft_132 rfl rfl ?_
                  refine mm_idiv dX4_useDraft_133 rfl (by omega) (by omega) (by omega) ?_
                  rw [etd]
                  refine mm_istk (k0 := S) dX4_useDraft_134 rfl (c := 9) rfl (by omega) rfl (by omega) (by omega) (fun M134 hM134 => ?_)
                  refine mm_aload_n dX4_useDraft_135 rfl rfl ?_
                  refine mm_getr dX4_useDraft_136 rfl fl_X4_30 (c := 3) rfl (by omega) rfl rfl ((by first | exact r7 | (simp [hM134, hM109, hM99, hM89, mm_up]; exact r7))) ?_
                  refine mm_aload_n dX4_useDraft_139 rfl rfl ?_
                  refine mm_get (kd := 0) dX4_useDraft_140 rfl fl_X4_107 (c := 3) rfl (by omega) rfl rfl ?_
                  obtain ⟨v140, hv140⟩ : ∃ v, v = M134 3 2 := ⟨_, rfl⟩
                  rw [← hv140]
                  rw [hM134, mm_up_c (by decide), hM109, mm_up_c (by decide), hM99, mm_up_c (by decide), hM89, mm_up_c (by decide), i4] at hv140
                  subst hv140
                  refine mm_aload_n dX4_useDraft_143 rfl rfl ?_
                  refine mm_getr dX4_useDraft_144 rfl fl_X4_27 (c := 3) rfl (by omega) rfl rfl ((by first | exact r6 | (simp [hM134, hM109, hM99, hM89, mm_up]; exact r6))) ?_
                  refine mm_aload_n dX4_useDraft_147 rfl rfl ?_
                  refine mm_get (kd := 0) dX4_useDraft_148 rfl fl_X4_107 (c := 3) rfl (by omega) rfl rfl ?_
                  obtain ⟨v148, hv148⟩ : ∃ v, v = M134 3 2 := ⟨_, rfl⟩
                  rw [← hv148]
                  rw [hM134, mm_up_c (by decide), hM109, mm_up_c (by decide), hM99, mm_up_c (by decide), hM89, mm_up_c (by decide), i4] at hv148
                  subst hv148
                  refine mm_ialk (k0 := S) dX4_useDraft_151 rfl (c := 9) rfl (by omega) rfl (by omega) (by omega) ?_
                  have e151 : M134 9 S = K 3 * ((p : Int) + 1) * ((w : Int) + 1) / K 1 := by rw [hM134, mm_up_s]
                  rw [e151]
                  refine mm_bipush dX4_useDraft_152 rfl (by decide) ?_
                  refine mm_idiv dX4_useDraft_154 rfl (by omega) (by omega) (by omega) ?_
                  rw [mm_tdiv hdb.1]
                  refine mm_iconst dX4_useDraft_155 rfl ?_
                  refine mm_min dX4_useDraft_156 rfl lm_X4_110 rfl rfl (by simp) (by omega) (by omega) ?_
                  refine mm_istk (k0 := S) dX4_useDraft_159 rfl (c := 10) rfl (by omega) rfl (by omega) (by omega) (fun M159 hM159 => ?_)
                  refine mm_aload_n dX4_useDraft_160 rfl rfl ?_
                  refine mm_dup dX4_useDraft_161 rfl (by simp) ?_
                  refine mm_get (kd := 0) dX4_useDraft_162 rfl fl_X4_107 (c := 3) rfl (by omega) rfl rfl ?_
                  obtain ⟨v162, hv162⟩ : ∃ v, v = M159 3 2 := ⟨_, rfl⟩
                  rw [← hv162]
                  rw [hM159, mm_up_c (by decide), hM134, mm_up_c (by decide), hM109, mm_up_c (by decide), hM99, mm_up_c (by decide), hM89, mm_up_c (by decide), i4] at hv162
                  subst hv162
                  refine mm_iconst dX4_useDraft_165 rfl ?_
                  refine mm_iadd dX4_useDraft_166 rfl ?_
                  refine mm_puti dX4_useDraft_167 rfl fl_X4_107 (c := 3) rfl (by omega) rfl rfl (fun M167 hM167 => ?_)
                  refine mm_iinc dX4_useDraft_170 rfl rfl (Nat.le_of_ble_eq_true rfl) rfl ?_
                  refine mm_goto dX4_useDraft_173 ?_
                  refine ihc hcl _ ?_
                  rw [hI, hnext]
                  refine ⟨?_, ?_, ?_, ?_, ?_⟩
                  · intro a a1 a2 a3
                    have n1 : a ≠ 6 := by omega
                    have n2 : a ≠ 7 := by omega
                    have n3 : a ≠ 8 := by omega
                    have n4 : a ≠ 9 := by omega
                    have n5 : a ≠ 10 := by omega
                    funext b
                    simp [hM167, hM159, hM134, hM109, hM99, hM89, mm_up, a1, n1, n2, n3, n4, n5]
                    rw [i1 a a1 a2 a3]
                  · intro b hb; simp [hM167, hM159, hM134, hM109, hM99, hM89, mm_up, hb]; exact i2 b hb
                  · rw [← i3]; funext b; simp [hM167, hM159, hM134, hM109, hM99, hM89, mm_up]
                  · simp [hM167, hM159, hM134, hM109, hM99, hM89, mm_up]
                  · intro s hs
                    by_cases q : s = S
                    · rw [q, hdc.1, hdc.2.1, hdc.2.2, eh, ebd]
                      simp [hM167, hM159, hM134, hM109, hM99, hM89, mm_up]
                    · have := i5 s (by omega)
                      simp [hM167, hM159, hM134, hM109, hM99, hM89, mm_up, q]
                      exact this
            · have ec : (c : Int) = K 0 := by omega
              have enx : ks_f K c w p = ks_f K 0 ((w + 1 : Nat) : Int) p := by
                rw [ec]
                unfold ks_f
                rw [show ((w + 1 : Nat) : Int) = (w : Int) + 1 by omega]
                simp only [Int.mul_add, Int.mul_one, Int.zero_add]
                omega
              rw [enx] at hIN0
              have r0 := hRN.1
              refine mm_iload dX4_useDraft_58 rfl rfl ?_
              refine mm_aload_n dX4_useDraft_60 rfl rfl ?_
              refine mm_getr dX4_useDraft_61 rfl fl_X4_11 (c := 3) rfl (by omega) rfl rfl (r0) ?_
              refine mm_iconst dX4_useDraft_64 rfl ?_
              refine mm_ialk (k0 := 0) dX4_useDraft_65 rfl (c := 4) rfl (by omega) rfl rfl (by decide) ?_
              rw [i3]
              refine mm_icge dX4_useDraft_66 (by omega) (by omega) (fun h66 => ?_) (fun h66 => ?_)
              · refine mm_iinc dX4_useDraft_176 rfl rfl (Nat.le_of_ble_eq_true rfl) rfl ?_
                refine mm_goto dX4_useDraft_179 ?_
                exact ihw hwl N _ hIN0
              · exfalso; omega
          have r0 := hRN.1
          refine mm_iload_n dX4_useDraft_45 rfl rfl ?_
          refine mm_aload_n dX4_useDraft_46 rfl rfl ?_
          refine mm_getr dX4_useDraft_47 rfl fl_X4_11 (c := 3) rfl (by omega) rfl rfl (r0) ?_
          refine mm_iconst dX4_useDraft_50 rfl ?_
          refine mm_ialk (k0 := 1) dX4_useDraft_51 rfl (c := 4) rfl (by omega) rfl rfl (by decide) ?_
          rw [i3]
          refine mm_icge dX4_useDraft_52 (by omega) (by omega) (fun h52 => ?_) (fun h52 => ?_)
          · exfalso; omega
          · refine mm_iconst dX4_useDraft_55 rfl ?_
            refine mm_istore dX4_useDraft_56 rfl (Nat.le_of_ble_eq_true rfl) rfl ?_
            refine col 0 (Nat.zero_le _) N ?_
            rw [hI]
            exact ⟨i1, i2, i3, i4, i5⟩
        · have ew : (w : Int) = K 1 := by omega
          have enx : ks_f K 0 w p = ks_f K 0 0 ((p + 1 : Nat) : Int) := by
            rw [ew]
            unfold ks_f
            rw [show ((p + 1 : Nat) : Int) = (p : Int) + 1 by omega]
            simp only [Int.mul_add, Int.mul_one, Int.zero_add]
            omega
          have r0 := hRN.1
          refine mm_iload_n dX4_useDraft_45 rfl rfl ?_
          refine mm_aload_n dX4_useDraft_46 rfl rfl ?_
          refine mm_getr dX4_useDraft_47 rfl fl_X4_11 (c := 3) rfl (by omega) rfl rfl (r0) ?_
          refine mm_iconst dX4_useDraft_50 rfl ?_
          refine mm_ialk (k0 := 1) dX4_useDraft_51 rfl (c := 4) rfl (by omega) rfl rfl (by decide) ?_
          rw [i3]
          refine mm_icge dX4_useDraft_52 (by omega) (by omega) (fun h52 => ?_) (fun h52 => ?_)
          · refine mm_iinc dX4_useDraft_182 rfl rfl (Nat.le_of_ble_eq_true rfl) rfl ?_
            refine mm_goto dX4_useDraft_185 ?_
            refine ihp hpl N _ _ ?_
            rw [hI, ← enx]
            exact ⟨i1, i2, i3, i4, i5⟩
          · exfalso; omega
      have r0 := hRN.1
      refine mm_iload_n dX4_useDraft_33 rfl rfl ?_
      refine mm_aload_n dX4_useDraft_34 rfl rfl ?_
      refine mm_getr dX4_useDraft_35 rfl fl_X4_11 (c := 3) rfl (by omega) rfl rfl (r0) ?_
      refine mm_iconst dX4_useDraft_38 rfl ?_
      refine mm_ialk (k0 := 2) dX4_useDraft_39 rfl (c := 4) rfl (by omega) rfl rfl (by decide) ?_
      rw [i3]
      refine mm_icge dX4_useDraft_40 (by omega) (by omega) (fun h40 => ?_) (fun h40 => ?_)
      · exfalso; omega
      · refine mm_iconst dX4_useDraft_43 rfl ?_
        refine mm_istore_n dX4_useDraft_44 rfl (Nat.le_of_ble_eq_true rfl) rfl ?_
        refine row 0 (Nat.zero_le _) N _ ?_
        rw [hI]
        exact ⟨i1, i2, i3, i4, i5⟩
    · have ep : (p : Int) = K 2 := by omega
      have enx : ks_f K 0 0 p = ks_n K := by
        rw [ep]
        unfold ks_f ks_n
        rw [Int.zero_add, Int.zero_add, Int.mul_assoc]
      rw [enx] at i4 i5
      have r0 := hRN.1
      rw [hΦ]
      refine mm_iload_n dX4_useDraft_33 rfl rfl ?_
      refine mm_aload_n dX4_useDraft_34 rfl rfl ?_
      refine mm_getr dX4_useDraft_35 rfl fl_X4_11 (c := 3) rfl (by omega) rfl rfl (r0) ?_
      refine mm_iconst dX4_useDraft_38 rfl ?_
      refine mm_ialk (k0 := 2) dX4_useDraft_39 rfl (c := 4) rfl (by omega) rfl rfl (by decide) ?_
      rw [i3]
      refine mm_icge dX4_useDraft_40 (by omega) (by omega) (fun h40 => ?_) (fun h40 => ?_)
      · refine mm_vret dX4_useDraft_188 rfl rfl ?_
        refine ⟨rfl, i1, i2, ?_, ?_⟩
        · intro b hb; rw [i3]; exact hK5 b hb
        · unfold mm_CK
          rw [i3]
          exact ⟨hKV, i4, fun s hs => i5 s hs.2⟩
      · exfalso; omega
  refine mm_aload_n dX4_useDraft_0 rfl rfl ?_
  refine mm_getr dX4_useDraft_1 rfl fl_X4_15 (c := 3) rfl (by omega) rfl rfl (hR.2.1) ?_
  refine mm_iconst dX4_useDraft_4 rfl ?_
  refine mm_aload_n dX4_useDraft_5 rfl rfl ?_
  refine mm_getr dX4_useDraft_6 rfl fl_X4_11 (c := 3) rfl (by omega) rfl rfl ((by first | exact hR.1 | (simp [mm_up, hN12, mm_cp]; exact hR.1))) ?_
  refine mm_iconst dX4_useDraft_9 rfl ?_
  refine mm_bipush dX4_useDraft_10 rfl (by decide) ?_
  refine mm_copy dX4_useDraft_12 rfl la_X4_95 rfl rfl (c := 5) rfl (by omega) rfl (d := 4) rfl (by omega) rfl (by omega) (by omega) (by omega) (by omega) (by omega) ?_
  obtain ⟨N12, hN12⟩ : ∃ N, N = mm_cp M 4 (M 5) (0 : Int).toNat (0 : Int).toNat (36 : Int).toNat := ⟨_, rfl⟩
  rw [← hN12]
  have e4 : N12 4 = K := by
    rw [hN12, hKd]
    funext b
    simp [mm_cp]
  have ea : ∀ a, a ≠ 4 → N12 a = M a := by intro a ha; rw [hN12]; funext b; simp [mm_cp, ha]
  refine mm_aload_n dX4_useDraft_15 rfl rfl ?_
  refine mm_getr dX4_useDraft_16 rfl fl_X4_11 (c := 3) rfl (by omega) rfl rfl ((by first | exact hR.1 | (simp [mm_up, hN12, mm_cp]; exact hR.1))) ?_
  refine mm_iconst dX4_useDraft_19 rfl ?_
  refine mm_ialk (k0 := 1) dX4_useDraft_20 rfl (c := 4) rfl (by omega) rfl rfl (by decide) ?_
  rw [e4]
  refine mm_iconst dX4_useDraft_21 rfl ?_
  refine mm_max dX4_useDraft_22 rfl lm_X4_101 rfl rfl (by simp) (by omega) (by omega) ?_
  refine mm_istore_n dX4_useDraft_25 rfl (Nat.le_of_ble_eq_true rfl) rfl ?_
  refine mm_aload_n dX4_useDraft_26 rfl rfl ?_
  refine mm_iconst dX4_useDraft_27 rfl ?_
  refine mm_puti dX4_useDraft_28 rfl fl_X4_107 (c := 3) rfl (by omega) rfl rfl (fun M28 hM28 => ?_)
  refine mm_iconst dX4_useDraft_31 rfl ?_
  refine mm_istore_n dX4_useDraft_32 rfl (Nat.le_of_ble_eq_true rfl) rfl ?_
  rw [show max (K 1) 1 = K 1 by omega]
  refine rope 0 (Nat.zero_le _) _ _ _ ?_
  rw [hI]
  refine ⟨?_, ?_, ?_, ?_, ?_⟩
  · intro a a1 a2 a3; rw [hM28, mm_up_row a1]; exact ea a a2
  · intro b hb; rw [hM28, mm_up_i hb, ea 3 (by decide)]
  · rw [hM28, mm_up_row (by decide)]; exact e4
  · rw [hM28, mm_up_s]; unfold ks_f; simp
  · intro s hs; unfold ks_f at hs; simp at hs; omega
end

