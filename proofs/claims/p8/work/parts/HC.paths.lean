/-! ===== KitePower$LoopFinder: paths ===== -/
theorem kx_act {K Lo Hi : Nat → Int} {h s a : Int} {j mv dr b c sw : Nat} (hmv : mv < 5) (hdr : dr < 3) (ha : a = 15 * (j : Int) + 3 * mv + dr) (hb : ks_band K s = (b : Int)) (hc : ks_col K s = (c : Int)) (hsw : sw = 1 ↔ ks_side (mv : Int)) :
    (ks_mv a = (mv : Int) ∧ ks_dr a = (dr : Int)) ∧ (ks_bears K (ks_p K s a (ks_wi Lo K s h)) (ks_p K s a (ks_wi Hi K s h)) ↔ kx_B K c (sw = 1) (Lo (ks_pl h b)) (Hi (ks_pl h b)) j) ∧ ks_sure K Lo Hi s a h = kx_g K c (sw = 1) (Lo (ks_pl h b)) (Hi (ks_pl h b)) dr j := by
  have e1 : a / 15 = (j : Int) := by omega
  have e2 : ks_mv a = (mv : Int) := by unfold ks_mv; omega
  have e3 : ks_dr a = (dr : Int) := by unfold ks_dr; omega
  have ep : ∀ w, ks_p K s a w = ks_pa K j c (sw = 1) w := by
    intro w
    unfold ks_p
    rw [e1, hc]
    exact ks_pa_iff (by rw [e2]; exact hsw.symm)
  refine ⟨⟨e2, e3⟩, ?_, ?_⟩
  · unfold kx_B
    rw [ep, ep]
    unfold ks_wi
    rw [hb]
  · unfold ks_sure kx_g
    rw [e3, ep]
    unfold ks_wi
    rw [hb]
/-- a path -/
def kx_Z (K Lo Hi : Nat → Int) (N : mm_M) (h : Int) (p s : Nat) : Prop := N 32 p = (s : Int) ∧ ks_ac K (N 35 p) ∧ ks_safe K Lo Hi (s : Int) (N 35 p) h ∧ N 33 p = ks_to K (s : Int) (N 35 p) ∧ N 34 p = ks_sure K Lo Hi (s : Int) (N 35 p) h
/-- the paths from a state, of the first t moves and drums -/
def kx_D (K Lo Hi : Nat → Int) (N : mm_M) (h : Int) (s c0 c1 t : Nat) : Prop := c0 ≤ c1 ∧ (∀ p, c0 ≤ p → p < c1 → kx_Z K Lo Hi N h p s) ∧ ∀ a, ks_ac K a → ks_safe K Lo Hi (s : Int) a h → a % 15 < (t : Int) → ∃ p, c0 ≤ p ∧ p < c1 ∧ N 35 p % 15 = a % 15 ∧ ks_sure K Lo Hi (s : Int) a h ≤ N 34 p ∧ (ks_sure K Lo Hi (s : Int) a h = N 34 p → N 35 p ≤ a)
theorem kx_D.fr {K Lo Hi : Nat → Int} {N U : mm_M} {h : Int} {s c0 c1 t : Nat} (hD : kx_D K Lo Hi N h s c0 c1 t) (f : ∀ p, p < c1 → U 32 p = N 32 p ∧ U 33 p = N 33 p ∧ U 34 p = N 34 p ∧ U 35 p = N 35 p) : kx_D K Lo Hi U h s c0 c1 t := by
  obtain ⟨h0, h1, h2⟩ := hD
  refine ⟨h0, fun p p1 p2 => ?_, fun a a1 a2 a3 => ?_⟩
  · obtain ⟨f1, f2, f3, f4⟩ := f p p2
    have := h1 p p1 p2
    unfold kx_Z at this ⊢
    rw [f1, f2, f3, f4]; exact this
  · obtain ⟨p, p1, p2, p3⟩ := h2 a a1 a2 a3
    obtain ⟨f1, f2, f3, f4⟩ := f p p2
    exact ⟨p, p1, p2, by rw [f3, f4]; exact p3⟩
section
variable {K Lo Hi : Nat → Int} {N U : mm_M} {h : Int} {s c0 c1 mv dr b c sw L : Nat} {sl g : Int}
theorem kx_D.no (hD : kx_D K Lo Hi N h s c0 c1 (3 * mv + dr)) (hmv : mv < 5) (hdr : dr < 3) (hb : ks_band K s = (b : Int)) (hc : ks_col K s = (c : Int)) (hsw : sw = 1 ↔ ks_side (mv : Int)) (hL : K 10 = (L : Int))
    (hS : kx_S (kx_B K c (sw = 1) (Lo (ks_pl h b)) (Hi (ks_pl h b))) (kx_g K c (sw = 1) (Lo (ks_pl h b)) (Hi (ks_pl h b)) dr) L sl g) (hn : sl = -1 ∨ ¬ ks_cr K s dr) : kx_D K Lo Hi N h s c0 c1 (3 * mv + dr + 1) := by
  refine ⟨hD.1, hD.2.1, fun a a1 a2 a3 => ?_⟩
  by_cases ce : a % 15 < ((3 * mv + dr : Nat) : Int)
  · exact hD.2.2 a a1 a2 ce
  · exfalso
    have hj : a = 15 * ((a / 15).toNat : Int) + 3 * mv + dr := by omega
    obtain ⟨⟨k1, k2⟩, k3, k4⟩ := kx_act (Lo := Lo) (Hi := Hi) (h := h) hmv hdr hj hb hc hsw
    rcases hn with z | z
    · rcases hS with ⟨-, q⟩ | ⟨j, j1, j2, -⟩
      · exact q (a / 15).toNat (by omega) (k3.mp a2.2)
      · omega
    · have := a2.1.2
      rw [k2] at this
      exact z this
theorem kx_D.new (hD : kx_D K Lo Hi N h s c0 c1 (3 * mv + dr)) (hmv : mv < 5) (hdr : dr < 3) (hb : ks_band K s = (b : Int)) (hc : ks_col K s = (c : Int)) (hsw : sw = 1 ↔ ks_side (mv : Int)) (hL : K 10 = (L : Int))
    (hS : kx_S (kx_B K c (sw = 1) (Lo (ks_pl h b)) (Hi (ks_pl h b))) (kx_g K c (sw = 1) (Lo (ks_pl h b)) (Hi (ks_pl h b)) dr) L sl g) (hn : sl ≠ -1) (hm : ks_cm K s mv) (hr : ks_cr K s dr)
    (f : ∀ p, p < c1 → U 32 p = N 32 p ∧ U 33 p = N 33 p ∧ U 34 p = N 34 p ∧ U 35 p = N 35 p) (u1 : U 32 c1 = (s : Int)) (u2 : U 33 c1 = (s : Int) + ks_ms K mv + ks_ds K dr) (u3 : U 34 c1 = g) (u4 : U 35 c1 = 15 * sl + 3 * mv + dr) : kx_D K Lo Hi U h s c0 (c1 + 1) (3 * mv + dr + 1) := by
  have hF := hD.fr f
  rcases hS with ⟨q, -⟩ | ⟨j, j1, j2, j3, j4, j5⟩
  · exact absurd q hn
  have ha : U 35 c1 = 15 * (j : Int) + 3 * mv + dr := by rw [u4, j2]
  obtain ⟨⟨k1, k2⟩, k3, k4⟩ := kx_act (Lo := Lo) (Hi := Hi) (h := h) hmv hdr ha hb hc hsw
  refine ⟨by have := hD.1; omega, fun p p1 p2 => ?_, fun a a1 a2 a3 => ?_⟩
  · by_cases cp : p = c1
    · rw [cp]
      refine ⟨u1, ⟨by omega, by omega⟩, ⟨⟨by rw [k1]; exact hm, by rw [k2]; exact hr⟩, k3.mpr j3⟩, ?_, ?_⟩
      · rw [u2]; unfold ks_to; rw [k1, k2]
      · rw [u3, k4]; exact j4
    · exact hF.2.1 p p1 (by omega)
  · by_cases ce : a % 15 < ((3 * mv + dr : Nat) : Int)
    · obtain ⟨p, p1, p2, p3⟩ := hF.2.2 a a1 a2 ce
      exact ⟨p, p1, by omega, p3⟩
    · have hj : a = 15 * ((a / 15).toNat : Int) + 3 * mv + dr := by omega
      obtain ⟨-, i3, i4⟩ := kx_act (Lo := Lo) (Hi := Hi) (h := h) hmv hdr hj hb hc hsw
      have z := j5 (a / 15).toNat (by omega) (i3.mp a2.2)
      rw [← i4] at z
      refine ⟨c1, hD.1, by omega, by omega, by rw [u3]; exact z.1, fun e => ?_⟩
      have := z.2 (by rw [e, u3])
      omega
end
section
variable {X : mm_X} {M : mm_M} {h : Int} {n : Nat}
/-- only paths behind the first c change -/
def kx_F (M N : mm_M) (c : Nat) : Prop := mm_Rf N ∧ (∀ a, a ≠ 32 → a ≠ 33 → a ≠ 34 → a ≠ 35 → N a = M a) ∧ ∀ p, p < c → N 32 p = M 32 p ∧ N 33 p = M 33 p ∧ N 34 p = M 34 p ∧ N 35 p = M 35 p
theorem c_X6_drawMove {s mv b c sw c0 c1 : Nat} (hR : mm_Rf M) (hK : mm_CK M) (hn : ks_n (M 4) = (n : Int)) (hs : s < n) (hmv : mv < 5) (hb : ks_band (M 4) s = (b : Int)) (hc : ks_col (M 4) s = (c : Int)) (hb5 : b < 5) (hc6 : c < 6) (hsw2 : sw < 2) (hsw : sw = 1 ↔ ks_side (mv : Int))
    (hW : kx_W M M h b c sw) (hm : ks_cm (M 4) s mv) (hc1 : c1 ≤ 15 * s + 3 * mv) (hD : kx_D (M 4) (M 16) (M 17) M h s c0 c1 (3 * mv)) (hg : ∀ d, d < 3 → M 29 (((b * 6 + c) * 2 + sw) * 3 + d) ≠ -1 → -5800000 ≤ M 30 (((b * 6 + c) * 2 + sw) * 3 + d) ∧ M 30 (((b * 6 + c) * 2 + sw) * 3 + d) ≤ 5800000) :
    mm_C X Y_X6_drawMove 243 243 [(2, 29), (0, (s : Int)), (0, (mv : Int)), (0, ((((b * 6 + c) * 2 + sw) * 3 : Nat) : Int)), (0, (c1 : Int))] M (fun r M' => ∃ x, r = (0, x) ∧ mm_Rf M' ∧ kx_F M M' c1 ∧ ∃ c2 : Nat, x = (c2 : Int) ∧ c1 ≤ c2 ∧ c2 ≤ c1 + 3 ∧ kx_D (M 4) (M 16) (M 17) M' h s c0 c2 (3 * mv + 3)) := by
  obtain ⟨Φ, hΦ⟩ : ∃ Φ : mm_V → mm_M → Prop, Φ = (fun r M' => ∃ x, r = (0, x) ∧ mm_Rf M' ∧ kx_F M M' c1 ∧ ∃ c2 : Nat, x = (c2 : Int) ∧ c1 ≤ c2 ∧ c2 ≤ c1 + 3 ∧ kx_D (M 4) (M 16) (M 17) M' h s c0 c2 (3 * mv + 3)) := ⟨_, rfl⟩
  rw [← hΦ]
  have hV := hK.1
  have hnb := ks_nb hV
  have h10 : 1 ≤ M 4 10 ∧ M 4 10 ≤ 3 := by
    obtain ⟨-, -, -, -, -, -, -, -, -, -, q, -⟩ := hV
    exact q
  obtain ⟨L, hL⟩ : ∃ L : Nat, M 4 10 = (L : Int) := ⟨(M 4 10).toNat, by omega⟩
  have hst : ks_st (M 4) (s : Int) := ⟨by omega, by omega⟩
  have e4 : ∀ N, kx_F M N c1 → N 4 = M 4 := fun N h => h.2.1 4 (by decide) (by decide) (by decide) (by decide)
  have ck : ∀ N, kx_F M N c1 → mm_CK N := fun N h => kx_ck (fun a a1 a2 => h.2.1 a (by omega) (by omega) (by omega) (by omega)) hK
  have loop : ∀ d : Nat, d ≤ 3 → ∀ N (c2 : Nat), kx_F M N c1 → c1 ≤ c2 → c2 ≤ c1 + d → kx_D (M 4) (M 16) (M 17) N h s c0 c2 (3 * mv + d) →
      mm_J X Y_X6_drawMove 243 243 243 7 [(2, 29), (0, (s : Int)), (0, (mv : Int)), (0, ((((b * 6 + c) * 2 + sw) * 3 : Nat) : Int)), (0, (c1 : Int)), (0, (c2 : Int)), (0, (d : Int)), (9, 0)] [] N Φ := by
    refine mm_lp ?_
    intro d hd ih N c2 hF g1 g2 hDN
    have hRN := hF.1
    by_cases hlt : d < 3
    · obtain ⟨o, ho⟩ : ∃ o, o = ((b * 6 + c) * 2 + sw) * 3 := ⟨_, rfl⟩
      have ho2 : o + d < 180 := by omega
      have w := hW d hlt
      rw [← ho, show (M 4 10).toNat = L by omega] at w
      rw [← ho]
      have e29 : N 29 = M 29 := hF.2.1 29 (by decide) (by decide) (by decide) (by decide)
      have e30 : N 30 = M 30 := hF.2.1 30 (by decide) (by decide) (by decide) (by decide)
      have slb : -1 ≤ M 29 (o + d) ∧ M 29 (o + d) ≤ 2 := by
        rcases w with ⟨q, -⟩ | ⟨j, j1, j2, -⟩ <;> omega
      have cr := c_X4_canReel (X := X) (M := N) (s := (s : Int)) (d := (d : Int)) hRN (ck N hF) (by rw [e4 N hF]; exact hst) ⟨by omega, by omega⟩
      rw [e4 N hF] at cr
      have skip : (M 29 (o + d) = -1 ∨ ¬ ks_cr (M 4) s d) → mm_J X Y_X6_drawMove 243 243 243 7 [(2, 29), (0, (s : Int)), (0, (mv : Int)), (0, (o : Int)), (0, (c1 : Int)), (0, (c2 : Int)), (0, (d : Int) + 1), (9, 0)] [] N Φ := by
        intro q
        have go := ih hlt N c2 hF g1 (by omega) (hDN.no hmv hlt hb hc hsw hL w q)
        rw [← ho, show ((d + 1 : Nat) : Int) = (d : Int) + 1 by omega] at go
        exact go
      by_cases hsl : M 29 (o + d) = -1
      · refine mm_iload dX6_drawMove_7 rfl rfl ?_
        refine mm_iconst dX6_drawMove_9 rfl ?_
        refine mm_icge dX6_drawMove_10 (by omega) (by omega) (fun h10 => ?_) (fun h10 => ?_)
        · exfalso; omega
        · refine mm_iload dX6_drawMove_13 rfl rfl ?_
          refine mm_sipush dX6_drawMove_15 rfl (by decide) ?_
          refine mm_icge dX6_drawMove_18 (by omega) (by omega) (fun h18 => ?_) (fun h18 => ?_)
          · exfalso; omega
          · refine mm_aload_n dX6_drawMove_21 rfl rfl ?_
            refine mm_getr dX6_drawMove_22 rfl fl_X6_13 (c := 28) rfl (by decide) rfl rfl (hRN.at (c := 28) (i := 2) (v := 30) rfl (by decide)) ?_
            refine mm_iload_n dX6_drawMove_25 rfl rfl ?_
            refine mm_iload dX6_drawMove_26 rfl rfl ?_
            refine mm_iadd dX6_drawMove_28 rfl ?_
            refine mm_ialk (k0 := o + d) dX6_drawMove_29 rfl (c := 29) rfl (by decide) rfl (by omega) (by omega) ?_
            rw [e29]
            refine mm_istore dX6_drawMove_30 rfl (Nat.le_of_ble_eq_true rfl) rfl ?_
            refine mm_iload dX6_drawMove_32 rfl rfl ?_
            refine mm_iconst dX6_drawMove_34 rfl ?_
            refine mm_iceq dX6_drawMove_35 (by omega) (by omega) (fun h35 => ?_) (fun h35 => ?_)
            · refine mm_iinc dX6_drawMove_124 rfl rfl (Nat.le_of_ble_eq_true rfl) rfl ?_
              refine mm_goto dX6_drawMove_127 ?_
              exact mm_drop (by repeat (first | exact trivial | refine And.intro (Or.inl rfl) ?_ | refine And.intro (Or.inr rfl) ?_)) (skip (Or.inl hsl))
            · exfalso; omega
      · by_cases hcr : ks_cr (M 4) s d
        · rw [mm_b_t hcr] at cr
          have gb : -5800000 ≤ M 30 (o + d) ∧ M 30 (o + d) ≤ 5800000 := by
            have := hg d hlt
            rw [← ho] at this
            exact this hsl
          have tb : ks_st (M 4) (ks_to (M 4) (s : Int) (3 * (mv : Int) + d)) := by
            refine ks_to_st hV hst ⟨?_, ?_⟩
            · rw [show ks_mv (3 * (mv : Int) + d) = (mv : Int) by unfold ks_mv; omega]; exact hm
            · rw [show ks_dr (3 * (mv : Int) + d) = (d : Int) by unfold ks_dr; omega]; exact hcr
          have et : ks_to (M 4) (s : Int) (3 * (mv : Int) + d) = (s : Int) + ks_ms (M 4) mv + ks_ds (M 4) d := by
            unfold ks_to
            rw [show ks_mv (3 * (mv : Int) + d) = (mv : Int) by unfold ks_mv; omega, show ks_dr (3 * (mv : Int) + d) = (d : Int) by unfold ks_dr; omega]
          rw [et] at tb
          have msb : -6 ≤ ks_ms (M 4) mv ∧ ks_ms (M 4) mv ≤ 6 := by
            have := hV.1
            unfold ks_ms
            repeat' split
            all_goals omega
          have hnew : ∀ U, mm_Rf U → U = mm_up (mm_up (mm_up (mm_up N 32 c2 s) 33 c2 ((s : Int) + ks_ms (M 4) mv + ks_ds (M 4) d)) 34 c2 (M 30 (o + d))) 35 c2 (15 * M 29 (o + d) + 3 * (mv : Int) + d) → mm_J X Y_X6_drawMove 243 243 243 7 [(2, 29), (0, (s : Int)), (0, (mv : Int)), (0, (o : Int)), (0, (c1 : Int)), (0, (c2 : Int) + 1), (0, (d : Int) + 1), (9, 0)] [] U Φ := by
            intro U hRU hU
            have f : ∀ p, p ≠ c2 → U 32 p = N 32 p ∧ U 33 p = N 33 p ∧ U 34 p = N 34 p ∧ U 35 p = N 35 p := by
              intro p hp
              rw [hU]
              refine ⟨?_, ?_, ?_, ?_⟩ <;> repeat (first | rw [mm_up_i hp] | rw [mm_up_c (by decide)])
            have u1 : U 32 c2 = (s : Int) := by rw [hU, mm_up_c (by decide), mm_up_c (by decide), mm_up_c (by decide), mm_up_s]
            have u2 : U 33 c2 = (s : Int) + ks_ms (M 4) mv + ks_ds (M 4) d := by rw [hU, mm_up_c (by decide), mm_up_c (by decide), mm_up_s]
            have u3 : U 34 c2 = M 30 (o + d) := by rw [hU, mm_up_c (by decide), mm_up_s]
            have u4 : U 35 c2 = 15 * M 29 (o + d) + 3 * (mv : Int) + d := by rw [hU, mm_up_s]
            have go := ih hlt U (c2 + 1) ⟨hRU, fun a a1 a2 a3 a4 => by rw [hU, mm_up_row a4, mm_up_row a3, mm_up_row a2, mm_up_row a1]; exact hF.2.1 a a1 a2 a3 a4, fun p hp => by
              have q1 := f p (by omega)
              have q2 := hF.2.2 p hp
              rw [q1.1, q1.2.1, q1.2.2.1, q1.2.2.2]
              exact q2⟩ (by omega) (by omega) (hDN.new hmv hlt hb hc hsw hL w hsl hm hcr (fun p hp => f p (by omega)) u1 u2 u3 u4)
            rw [← ho, show ((d + 1 : Nat) : Int) = (d : Int) + 1 by omega, show ((c2 + 1 : Nat) : Int) = (c2 : Int) + 1 by omega] at go
            exact go
          have cms : ∀ U, mm_Rf U → U 4 = M 4 → mm_Fn X Y_X4_moveStep 243 [(2, 4), (0, (mv : Int))] U (0, ks_ms (M 4) mv) U := fun U hU e => by
            have := c_X4_moveStep (X := X) (M := U) (m := (mv : Int)) hU ⟨by omega, by omega⟩
            rw [e] at this
            exact this
          have cds : ∀ U, mm_Rf U → mm_CK U → U 4 = M 4 → mm_Fn X Y_X4_drumStep 243 [(2, 4), (0, (d : Int))] U (0, ks_ds (M 4) d) U := fun U hU hk e => by
            have := c_X4_drumStep (X := X) (M := U) (d := (d : Int)) hU hk ⟨by omega, by omega⟩
            rw [e] at this
            exact this
          have ck58 : ∀ v, mm_CK (mm_up N 32 c2 v) := fun v => kx_ck (fun a a1 a2 => by rw [mm_up_row (by omega)]) (ck N hF)
          refine mm_iload dX6_drawMove_7 rfl rfl ?_
          refine mm_iconst dX6_drawMove_9 rfl ?_
          refine mm_icge dX6_drawMove_10 (by omega) (by omega) (fun h10 => ?_) (fun h10 => ?_)
          · exfalso; omega
          · refine mm_iload dX6_drawMove_13 rfl rfl ?_
            refine mm_sipush dX6_drawMove_15 rfl (by decide) ?_
            refine mm_icge dX6_drawMove_18 (by omega) (by omega) (fun h18 => ?_) (fun h18 => ?_)
            · exfalso; omega
            · refine mm_aload_n dX6_drawMove_21 rfl rfl ?_
              refine mm_getr dX6_drawMove_22 rfl fl_X6_13 (c := 28) rfl (by decide) rfl rfl (hRN.at (c := 28) (i := 2) (v := 30) rfl (by decide)) ?_
              refine mm_iload_n dX6_drawMove_25 rfl rfl ?_
              refine mm_iload dX6_drawMove_26 rfl rfl ?_
              refine mm_iadd dX6_drawMove_28 rfl ?_
              refine mm_ialk (k0 := o + d) dX6_drawMove_29 rfl (c := 29) rfl (by decide) rfl (by omega) (by omega) ?_
              rw [e29]
              refine mm_istore dX6_drawMove_30 rfl (Nat.le_of_ble_eq_true rfl) rfl ?_
              refine mm_iload dX6_drawMove_32 rfl rfl ?_
              refine mm_iconst dX6_drawMove_34 rfl ?_
              refine mm_iceq dX6_drawMove_35 (by omega) (by omega) (fun h35 => ?_) (fun h35 => ?_)
              · exfalso; omega
              · refine mm_aload_n dX6_drawMove_38 rfl rfl ?_
                refine mm_getr dX6_drawMove_39 rfl fl_X6_55 (c := 28) rfl (by decide) rfl rfl (hRN.at (c := 28) (i := 0) (v := 4) rfl (by decide)) ?_
                refine mm_iload_n dX6_drawMove_42 rfl rfl ?_
                refine mm_iload dX6_drawMove_43 rfl rfl ?_
                refine mm_V2i dX6_drawMove_45 rfl lk_X6_167 (c := 3) rfl (by decide) rfl (by simp) (by simp) rfl rfl rfl (cr) ?_
                refine mm_ifeq dX6_drawMove_48 (by omega) (fun h => absurd h (by decide)) (fun _ => ?_)
                refine mm_aload_n dX6_drawMove_51 rfl rfl ?_
                refine mm_getr dX6_drawMove_52 rfl fl_X6_23 (c := 28) rfl (by decide) rfl rfl (hRN.at (c := 28) (i := 5) (v := 33) rfl (by decide)) ?_
                refine mm_iload dX6_drawMove_55 rfl rfl ?_
                refine mm_iload_n dX6_drawMove_57 rfl rfl ?_
                refine mm_istk (k0 := c2) dX6_drawMove_58 rfl (c := 32) rfl (by decide) rfl (by omega) (by omega) (fun M58 hM58 => ?_)
                have hR58 : mm_Rf M58 := by rw [hM58]; exact hRN.up (mm_rt_ar (t := 0) rfl (by decide))
                refine mm_aload_n dX6_drawMove_59 rfl rfl ?_
                refine mm_getr dX6_drawMove_60 rfl fl_X6_26 (c := 28) rfl (by decide) rfl rfl (hR58.at (c := 28) (i := 6) (v := 34) rfl (by decide)) ?_
                refine mm_iload dX6_drawMove_63 rfl rfl ?_
                refine mm_iload_n dX6_drawMove_65 rfl rfl ?_
                refine mm_aload_n dX6_drawMove_66 rfl rfl ?_
                refine mm_getr dX6_drawMove_67 rfl fl_X6_55 (c := 28) rfl (by decide) rfl rfl (hR58.at (c := 28) (i := 0) (v := 4) rfl (by decide)) ?_
                refine mm_iload_n dX6_drawMove_70 rfl rfl ?_
                refine mm_V1i dX6_drawMove_71 rfl lk_X6_170 (c := 3) rfl (by decide) rfl (by simp) rfl rfl rfl (cms _ hR58 (by rw [hM58, mm_up_row (by decide)]; exact e4 N hF)) ?_
                refine mm_iadd dX6_drawMove_74 rfl ?_
                refine mm_aload_n dX6_drawMove_75 rfl rfl ?_
                refine mm_getr dX6_drawMove_76 rfl fl_X6_55 (c := 28) rfl (by decide) rfl rfl (hR58.at (c := 28) (i := 0) (v := 4) rfl (by decide)) ?_
                refine mm_iload dX6_drawMove_79 rfl rfl ?_
                refine mm_V1i dX6_drawMove_81 rfl lk_X6_174 (c := 3) rfl (by decide) rfl (by simp) rfl rfl rfl (cds _ hR58 (by rw [hM58]; exact ck58 _) (by rw [hM58, mm_up_row (by decide)]; exact e4 N hF)) ?_
                refine mm_iadd dX6_drawMove_84 rfl ?_
                refine mm_istk (k0 := c2) dX6_drawMove_85 rfl (c := 33) rfl (by decide) rfl (by omega) (by omega) (fun M85 hM85 => ?_)
                have hR85 : mm_Rf M85 := by rw [hM85]; exact hR58.up (mm_rt_ar (t := 0) rfl (by decide))
                refine mm_aload_n dX6_drawMove_86 rfl rfl ?_
                refine mm_getr dX6_drawMove_87 rfl fl_X6_29 (c := 28) rfl (by decide) rfl rfl (hR85.at (c := 28) (i := 7) (v := 35) rfl (by decide)) ?_
                refine mm_iload dX6_drawMove_90 rfl rfl ?_
                refine mm_aload_n dX6_drawMove_92 rfl rfl ?_
                refine mm_getr dX6_drawMove_93 rfl fl_X6_17 (c := 28) rfl (by decide) rfl rfl (hR85.at (c := 28) (i := 3) (v := 31) rfl (by decide)) ?_
                refine mm_iload_n dX6_drawMove_96 rfl rfl ?_
                refine mm_iload dX6_drawMove_97 rfl rfl ?_
                refine mm_iadd dX6_drawMove_99 rfl ?_
                refine mm_ialk (k0 := o + d) dX6_drawMove_100 rfl (c := 30) rfl (by decide) rfl (by omega) (by omega) ?_
                rw [show M85 30 = M 30 by rw [hM85, mm_up_row (by decide), hM58, mm_up_row (by decide), e30]]
                refine mm_istk (k0 := c2) dX6_drawMove_101 rfl (c := 34) rfl (by decide) rfl (by omega) (by omega) (fun M101 hM101 => ?_)
                have hR101 : mm_Rf M101 := by rw [hM101]; exact hR85.up (mm_rt_ar (t := 0) rfl (by decide))
                refine mm_aload_n dX6_drawMove_102 rfl rfl ?_
                refine mm_getr dX6_drawMove_103 rfl fl_X6_32 (c := 28) rfl (by decide) rfl rfl (hR101.at (c := 28) (i := 8) (v := 36) rfl (by decide)) ?_
                refine mm_iload dX6_drawMove_106 rfl rfl ?_
                refine mm_bipush dX6_drawMove_108 rfl (by decide) ?_
                refine mm_iload dX6_drawMove_110 rfl rfl ?_
                refine mm_imul dX6_drawMove_112 rfl ?_
                refine mm_iconst dX6_drawMove_113 rfl ?_
                refine mm_iload_n dX6_drawMove_114 rfl rfl ?_
                refine mm_imul dX6_drawMove_115 rfl ?_
                refine mm_iadd dX6_drawMove_116 rfl ?_
                refine mm_iload dX6_drawMove_117 rfl rfl ?_
                refine mm_iadd dX6_drawMove_119 rfl ?_
                refine mm_istk (k0 := c2) dX6_drawMove_120 rfl (c := 35) rfl (by decide) rfl (by omega) (by omega) (fun M120 hM120 => ?_)
                have hR120 : mm_Rf M120 := by rw [hM120]; exact hR101.up (mm_rt_ar (t := 0) rfl (by decide))
                refine mm_iinc dX6_drawMove_121 rfl rfl (Nat.le_of_ble_eq_true rfl) rfl ?_
                refine mm_iinc dX6_drawMove_124 rfl rfl (Nat.le_of_ble_eq_true rfl) rfl ?_
                refine mm_goto dX6_drawMove_127 ?_
                exact mm_drop (by repeat (first | exact trivial | refine And.intro (Or.inl rfl) ?_ | refine And.intro (Or.inr rfl) ?_)) (hnew _ hR120 (by rw [hM120, hM101, hM85, hM58]))
        · rw [mm_b_f hcr] at cr
          refine mm_iload dX6_drawMove_7 rfl rfl ?_
          refine mm_iconst dX6_drawMove_9 rfl ?_
          refine mm_icge dX6_drawMove_10 (by omega) (by omega) (fun h10 => ?_) (fun h10 => ?_)
          · exfalso; omega
          · refine mm_iload dX6_drawMove_13 rfl rfl ?_
            refine mm_sipush dX6_drawMove_15 rfl (by decide) ?_
            refine mm_icge dX6_drawMove_18 (by omega) (by omega) (fun h18 => ?_) (fun h18 => ?_)
            · exfalso; omega
            · refine mm_aload_n dX6_drawMove_21 rfl rfl ?_
              refine mm_getr dX6_drawMove_22 rfl fl_X6_13 (c := 28) rfl (by decide) rfl rfl (hRN.at (c := 28) (i := 2) (v := 30) rfl (by decide)) ?_
              refine mm_iload_n dX6_drawMove_25 rfl rfl ?_
              refine mm_iload dX6_drawMove_26 rfl rfl ?_
              refine mm_iadd dX6_drawMove_28 rfl ?_
              refine mm_ialk (k0 := o + d) dX6_drawMove_29 rfl (c := 29) rfl (by decide) rfl (by omega) (by omega) ?_
              rw [e29]
              refine mm_istore dX6_drawMove_30 rfl (Nat.le_of_ble_eq_true rfl) rfl ?_
              refine mm_iload dX6_drawMove_32 rfl rfl ?_
              refine mm_iconst dX6_drawMove_34 rfl ?_
              refine mm_iceq dX6_drawMove_35 (by omega) (by omega) (fun h35 => ?_) (fun h35 => ?_)
              · exfalso; omega
              · refine mm_aload_n dX6_drawMove_38 rfl rfl ?_
                refine mm_getr dX6_drawMove_39 rfl fl_X6_55 (c := 28) rfl (by decide) rfl rfl (hRN.at (c := 28) (i := 0) (v := 4) rfl (by decide)) ?_
                refine mm_iload_n dX6_drawMove_42 rfl rfl ?_
                refine mm_iload dX6_drawMove_43 rfl rfl ?_
                refine mm_V2i dX6_drawMove_45 rfl lk_X6_167 (c := 3) rfl (by decide) rfl (by simp) (by simp) rfl rfl rfl (cr) ?_
                refine mm_ifeq dX6_drawMove_48 (by omega) (fun _ => ?_) (fun h => absurd (by decide) h)
                refine mm_iinc dX6_drawMove_124 rfl rfl (Nat.le_of_ble_eq_true rfl) rfl ?_
                refine mm_goto dX6_drawMove_127 ?_
                exact mm_drop (by repeat (first | exact trivial | refine And.intro (Or.inl rfl) ?_ | refine And.intro (Or.inr rfl) ?_)) (skip (Or.inr hcr))
    · have ed : d = 3 := by omega
      subst ed
      refine mm_iload dX6_drawMove_7 rfl rfl ?_
      refine mm_iconst dX6_drawMove_9 rfl ?_
      refine mm_icge dX6_drawMove_10 (by omega) (by omega) (fun h10 => ?_) (fun h10 => ?_)
      · refine mm_iload dX6_drawMove_130 rfl rfl ?_
        refine mm_iret dX6_drawMove_132 rfl rfl ?_
        rw [hΦ]; exact ⟨_, rfl, hRN, hF, c2, rfl, g1, g2, hDN⟩
      · exfalso; omega
  refine mm_start (ls := [(2, 29), (0, (s : Int)), (0, (mv : Int)), (0, ((((b * 6 + c) * 2 + sw) * 3 : Nat) : Int)), (0, (c1 : Int)), (9, 0), (9, 0), (9, 0)]) rfl ?_
  refine mm_iload dX6_drawMove_0 rfl rfl ?_
  refine mm_istore dX6_drawMove_2 rfl (Nat.le_of_ble_eq_true rfl) rfl ?_
  refine mm_iconst dX6_drawMove_4 rfl ?_
  refine mm_istore dX6_drawMove_5 rfl (Nat.le_of_ble_eq_true rfl) rfl ?_
  exact loop 0 (Nat.zero_le _) M c1 ⟨hR, fun _ _ _ _ _ => rfl, fun _ _ => ⟨rfl, rfl, rfl, rfl⟩⟩ (Nat.le_refl _) (Nat.le_refl _) hD
end

