/-! HC.paths -/
section
/-! ===== KitePower$LoopFinder: paths ===== -/
theorem kx_act {K Lo Hi : Nat → Int} {h s a : Int} {j mv dr b c sw : Nat} (hmv : mv < 5) (hdr : dr < 3) (ha : a = 15 * (j : Int) + 3 * mv + dr) (hb : ks_band K s = (b : Int)) (hc : ks_col K s = (c : Int)) (hsw : sw = 1 ↔ ks_side (mv : Int)) :
    (ks_mv a = (mv : Int) ∧ ks_dr a = (dr : Int)) ∧ (ks_bears K (ks_p K s a (ks_wi Lo K s h)) (ks_p K s a (ks_wi Hi K s h)) ↔ kx_B K c (sw = 1) (Lo (ks_pl h b)) (Hi (ks_pl h b)) j) ∧ ks_sure K Lo Hi s a h = kx_g K c (sw = 1) (Lo (ks_pl h b)) (Hi (ks_pl h b)) dr j := by
  have e1 : a / 15 = (j : Int) := by omega
  have e2 : ks_mv a = (mv : Int) := by unfold ks_mv; omega
  have e3 : ks_dr a = (dr : Int) := by unfold ks_dr; omega
  have ep : ∀ w, ks_p K s a w = ks_pa K j c (sw = 1) w := by
    intro w
    unfold ks_p
    rw [e1, hc]
    exact ks_pa_iff (by rw [e2]; exact hsw.symm)
  refine ⟨⟨e2, e3⟩, ?_, ?_⟩
  · unfold kx_B
    rw [ep, ep]
    unfold ks_wi
    rw [hb]
  · unfold ks_sure kx_g
    rw [e3, ep]
    unfold ks_wi
    rw [hb]
/-- a path -/
def kx_Z (K Lo Hi : Nat → Int) (N : mm_M) (h : Int) (p s : Nat) : Prop := N 32 p = (s : Int) ∧ ks_ac K (N 35 p) ∧ ks_safe K Lo Hi (s : Int) (N 35 p) h ∧ N 33 p = ks_to K (s : Int) (N 35 p) ∧ N 34 p = ks_sure K Lo Hi (s : Int) (N 35 p) h
/-- the paths from a state, of the first t moves and drums -/
def kx_D (K Lo Hi : Nat → Int) (N : mm_M) (h : Int) (s c0 c1 t : Nat) : Prop := c0 ≤ c1 ∧ (∀ p, c0 ≤ p → p < c1 → kx_Z K Lo Hi N h p s) ∧ ∀ a, ks_ac K a → ks_safe K Lo Hi (s : Int) a h → a % 15 < (t : Int) → ∃ p, c0 ≤ p ∧ p < c1 ∧ N 35 p % 15 = a % 15 ∧ ks_sure K Lo Hi (s : Int) a h ≤ N 34 p ∧ (ks_sure K Lo Hi (s : Int) a h = N 34 p → N 35 p ≤ a)
theorem kx_D.fr {K Lo Hi : Nat → Int} {N U : mm_M} {h : Int} {s c0 c1 t : Nat} (hD : kx_D K Lo Hi N h s c0 c1 t) (f : ∀ p, p < c1 → U 32 p = N 32 p ∧ U 33 p = N 33 p ∧ U 34 p = N 34 p ∧ U 35 p = N 35 p) : kx_D K Lo Hi U h s c0 c1 t := by
  obtain ⟨h0, h1, h2⟩ := hD
  refine ⟨h0, fun p p1 p2 => ?_, fun a a1 a2 a3 => ?_⟩
  · obtain ⟨f1, f2, f3, f4⟩ := f p p2
    have := h1 p p1 p2
    unfold kx_Z at this ⊢
    rw [f1, f2, f3, f4]; exact this
  · obtain ⟨p, p1, p2, p3⟩ := h2 a a1 a2 a3
    obtain ⟨f1, f2, f3, f4⟩ := f p p2
    exact ⟨p, p1, p2, by rw [f3, f4]; exact p3⟩
section
variable {K Lo Hi : Nat → Int} {N U : mm_M} {h : Int} {s c0 c1 mv dr b c sw L : Nat} {sl g : Int}
theorem kx_D.no (hD : kx_D K Lo Hi N h s c0 c1 (3 * mv + dr)) (hmv : mv < 5) (hdr : dr < 3) (hb : ks_band K s = (b : Int)) (hc : ks_col K s = (c : Int)) (hsw : sw = 1 ↔ ks_side (mv : Int)) (hL : K 10 = (L : Int))
    (hS : kx_S (kx_B K c (sw = 1) (Lo (ks_pl h b)) (Hi (ks_pl h b))) (kx_g K c (sw = 1) (Lo (ks_pl h b)) (Hi (ks_pl h b)) dr) L sl g) (hn : sl = -1 ∨ ¬ ks_cr K s dr) : kx_D K Lo Hi N h s c0 c1 (3 * mv + dr + 1) := by
  refine ⟨hD.1, hD.2.1, fun a a1 a2 a3 => ?_⟩
  by_cases ce : a % 15 < ((3 * mv + dr : Nat) : Int)
  · exact hD.2.2 a a1 a2 ce
  · exfalso
    have hj : a = 15 * ((a / 15).toNat : Int) + 3 * mv + dr := by omega
    obtain ⟨⟨k1, k2⟩, k3, k4⟩ := kx_act (Lo := Lo) (Hi := Hi) (h := h) hmv hdr hj hb hc hsw
    rcases hn with z | z
    · rcases hS with ⟨-, q⟩ | ⟨j, j1, j2, -⟩
      · exact q (a / 15).toNat (by omega) (k3.mp a2.2)
      · omega
    · have := a2.1.2
      rw [k2] at this
      exact z this
theorem kx_D.new (hD : kx_D K Lo Hi N h s c0 c1 (3 * mv + dr)) (hmv : mv < 5) (hdr : dr < 3) (hb : ks_band K s = (b : Int)) (hc : ks_col K s = (c : Int)) (hsw : sw = 1 ↔ ks_side (mv : Int)) (hL : K 10 = (L : Int))
    (hS : kx_S (kx_B K c (sw = 1) (Lo (ks_pl h b)) (Hi (ks_pl h b))) (kx_g K c (sw = 1) (Lo (ks_pl h b)) (Hi (ks_pl h b)) dr) L sl g) (hn : sl ≠ -1) (hm : ks_cm K s mv) (hr : ks_cr K s dr)
    (f : ∀ p, p < c1 → U 32 p = N 32 p ∧ U 33 p = N 33 p ∧ U 34 p = N 34 p ∧ U 35 p = N 35 p) (u1 : U 32 c1 = (s : Int)) (u2 : U 33 c1 = (s : Int) + ks_ms K mv + ks_ds K dr) (u3 : U 34 c1 = g) (u4 : U 35 c1 = 15 * sl + 3 * mv + dr) : kx_D K Lo Hi U h s c0 (c1 + 1) (3 * mv + dr + 1) := by
  have hF := hD.fr f
  rcases hS with ⟨q, -⟩ | ⟨j, j1, j2, j3, j4, j5⟩
  · exact absurd q hn
  have ha : U 35 c1 = 15 * (j : Int) + 3 * mv + dr := by rw [u4, j2]
  obtain ⟨⟨k1, k2⟩, k3, k4⟩ := kx_act (Lo := Lo) (Hi := Hi) (h := h) hmv hdr ha hb hc hsw
  refine ⟨by have := hD.1; omega, fun p p1 p2 => ?_, fun a a1 a2 a3 => ?_⟩
  · by_cases cp : p = c1
    · rw [cp]
      refine ⟨u1, ⟨by omega, by omega⟩, ⟨⟨by rw [k1]; exact hm, by rw [k2]; exact hr⟩, k3.mpr j3⟩, ?_, ?_⟩
      · rw [u2]; unfold ks_to; rw [k1, k2]
      · rw [u3, k4]; exact j4
    · exact hF.2.1 p p1 (by omega)
  · by_cases ce : a % 15 < ((3 * mv + dr : Nat) : Int)
    · obtain ⟨p, p1, p2, p3⟩ := hF.2.2 a a1 a2 ce
      exact ⟨p, p1, by omega, p3⟩
    · have hj : a = 15 * ((a / 15).toNat : Int) + 3 * mv + dr := by omega
      obtain ⟨-, i3, i4⟩ := kx_act (Lo := Lo) (Hi := Hi) (h := h) hmv hdr hj hb hc hsw
      have z := j5 (a / 15).toNat (by omega) (i3.mp a2.2)
      rw [← i4] at z
      refine ⟨c1, hD.1, by omega, by omega, by rw [u3]; exact z.1, fun e => ?_⟩
      have := z.2 (by rw [e, u3])
      omega
end
section
variable {X : mm_X} {M : mm_M} {h : Int} {n : Nat}
/-- only paths behind the first c change -/
def kx_F (M N : mm_M) (c : Nat) : Prop := mm_Rf N ∧ (∀ a, a ≠ 32 → a ≠ 33 → a ≠ 34 → a ≠ 35 → N a = M a) ∧ ∀ p, p < c → N 32 p = M 32 p ∧ N 33 p = M 33 p ∧ N 34 p = M 34 p ∧ N 35 p = M 35 p
theorem c_X6_drawMove {s mv b c sw c0 c1 : Nat} (hR : mm_Rf M) (hK : mm_CK M) (hn : ks_n (M 4) = (n : Int)) (hs : s < n) (hmv : mv < 5) (hb : ks_band (M 4) s = (b : Int)) (hc : ks_col (M 4) s = (c : Int)) (hb5 : b < 5) (hc6 : c < 6) (hsw2 : sw < 2) (hsw : sw = 1 ↔ ks_side (mv : Int))
    (hW : kx_W M M h b c sw) (hm : ks_cm (M 4) s mv) (hc1 : c1 ≤ 15 * s + 3 * mv) (hD : kx_D (M 4) (M 16) (M 17) M h s c0 c1 (3 * mv)) (hg : ∀ d, d < 3 → M 29 (((b * 6 + c) * 2 + sw) * 3 + d) ≠ -1 → -5800000 ≤ M 30 (((b * 6 + c) * 2 + sw) * 3 + d) ∧ M 30 (((b * 6 + c) * 2 + sw) * 3 + d) ≤ 5800000) :
    mm_C X Y_X6_drawMove 243 243 [(2, 29), (0, (s : Int)), (0, (mv : Int)), (0, ((((b * 6 + c) * 2 + sw) * 3 : Nat) : Int)), (0, (c1 : Int))] M (fun r M' => ∃ x, r = (0, x) ∧ mm_Rf M' ∧ kx_F M M' c1 ∧ ∃ c2 : Nat, x = (c2 : Int) ∧ c1 ≤ c2 ∧ c2 ≤ c1 + 3 ∧ kx_D (M 4) (M 16) (M 17) M' h s c0 c2 (3 * mv + 3)) := by
  obtain ⟨Φ, hΦ⟩ : ∃ Φ : mm_V → mm_M → Prop, Φ = (fun r M' => ∃ x, r = (0, x) ∧ mm_Rf M' ∧ kx_F M M' c1 ∧ ∃ c2 : Nat, x = (c2 : Int) ∧ c1 ≤ c2 ∧ c2 ≤ c1 + 3 ∧ kx_D (M 4) (M 16) (M 17) M' h s c0 c2 (3 * mv + 3)) := ⟨_, rfl⟩
  rw [← hΦ]
  have hV := hK.1
  have hnb := ks_nb hV
  have h10 : 1 ≤ M 4 10 ∧ M 4 10 ≤ 3 := by
    obtain ⟨-, -, -, -, -, -, -, -, -, -, q, -⟩ := hV
    exact q
  obtain ⟨L, hL⟩ : ∃ L : Nat, M 4 10 = (L : Int) := ⟨(M 4 10).toNat, by omega⟩
  have hst : ks_st (M 4) (s : Int) := ⟨by omega, by omega⟩
  have e4 : ∀ N, kx_F M N c1 → N 4 = M 4 := fun N h => h.2.1 4 (by decide) (by decide) (by decide) (by decide)
  have ck : ∀ N, kx_F M N c1 → mm_CK N := fun N h => kx_ck (fun a a1 a2 => h.2.1 a (by omega) (by omega) (by omega) (by omega)) hK
  have loop : ∀ d : Nat, d ≤ 3 → ∀ N (c2 : Nat), kx_F M N c1 → c1 ≤ c2 → c2 ≤ c1 + d → kx_D (M 4) (M 16) (M 17) N h s c0 c2 (3 * mv + d) →
      mm_J X Y_X6_drawMove 243 243 243 7 [(2, 29), (0, (s : Int)), (0, (mv : Int)), (0, ((((b * 6 + c) * 2 + sw) * 3 : Nat) : Int)), (0, (c1 : Int)), (0, (c2 : Int)), (0, (d : Int)), (9, 0)] [] N Φ := by
    refine mm_lp ?_
    intro d hd ih N c2 hF g1 g2 hDN
    have hRN := hF.1
    by_cases hlt : d < 3
    · obtain ⟨o, ho⟩ : ∃ o, o = ((b * 6 + c) * 2 + sw) * 3 := ⟨_, rfl⟩
      have ho2 : o + d < 180 := by omega
      have w := hW d hlt
      rw [← ho, show (M 4 10).toNat = L by omega] at w
      rw [← ho]
      have e29 : N 29 = M 29 := hF.2.1 29 (by decide) (by decide) (by decide) (by decide)
      have e30 : N 30 = M 30 := hF.2.1 30 (by decide) (by decide) (by decide) (by decide)
      have slb : -1 ≤ M 29 (o + d) ∧ M 29 (o + d) ≤ 2 := by
        rcases w with ⟨q, -⟩ | ⟨j, j1, j2, -⟩ <;> omega
      have cr := c_X4_canReel (X := X) (M := N) (s := (s : Int)) (d := (d : Int)) hRN (ck N hF) (by rw [e4 N hF]; exact hst) ⟨by omega, by omega⟩
      rw [e4 N hF] at cr
      have skip : (M 29 (o + d) = -1 ∨ ¬ ks_cr (M 4) s d) → mm_J X Y_X6_drawMove 243 243 243 7 [(2, 29), (0, (s : Int)), (0, (mv : Int)), (0, (o : Int)), (0, (c1 : Int)), (0, (c2 : Int)), (0, (d : Int) + 1), (9, 0)] [] N Φ := by
        intro q
        have go := ih hlt N c2 hF g1 (by omega) (hDN.no hmv hlt hb hc hsw hL w q)
        rw [← ho, show ((d + 1 : Nat) : Int) = (d : Int) + 1 by omega] at go
        exact go
      by_cases hsl : M 29 (o + d) = -1
      · refine mm_iload dX6_drawMove_7 rfl rfl ?_
        refine mm_iconst dX6_drawMove_9 rfl ?_
        refine mm_icge dX6_drawMove_10 (by omega) (by omega) (fun h10 => ?_) (fun h10 => ?_)
        · exfalso; omega
        · refine mm_iload dX6_drawMove_13 rfl rfl ?_
          refine mm_sipush dX6_drawMove_15 rfl (by decide) ?_
          refine mm_icge dX6_drawMove_18 (by omega) (by omega) (fun h18 => ?_) (fun h18 => ?_)
          · exfalso; omega
          · refine mm_aload_n dX6_drawMove_21 rfl rfl ?_
            refine mm_getr dX6_drawMove_22 rfl fl_X6_13 (c := 28) rfl (by decide) rfl rfl (hRN.at (c := 28) (i := 2) (v := 30) rfl (by decide)) ?_
            refine mm_iload_n dX6_drawMove_25 rfl rfl ?_
            refine mm_iload dX6_drawMove_26 rfl rfl ?_
            refine mm_iadd dX6_drawMove_28 rfl ?_
            refine mm_ialk (k0 := o + d) dX6_drawMove_29 rfl (c := 29) rfl (by decide) rfl (by omega) (by omega) ?_
            rw [e29]
            refine mm_istore dX6_drawMove_30 rfl (Nat.le_of_ble_eq_true rfl) rfl ?_
            refine mm_iload dX6_drawMove_32 rfl rfl ?_
            refine mm_iconst dX6_drawMove_34 rfl ?_
            refine mm_iceq dX6_drawMove_35 (by omega) (by omega) (fun h35 => ?_) (fun h35 => ?_)
            · refine mm_iinc dX6_drawMove_124 rfl rfl (Nat.le_of_ble_eq_true rfl) rfl ?_
              refine mm_goto dX6_drawMove_127 ?_
              exact mm_drop (by repeat (first | exact trivial | refine And.intro (Or.inl rfl) ?_ | refine And.intro (Or.inr rfl) ?_)) (skip (Or.inl hsl))
            · exfalso; omega
      · by_cases hcr : ks_cr (M 4) s d
        · rw [mm_b_t hcr] at cr
          have gb : -5800000 ≤ M 30 (o + d) ∧ M 30 (o + d) ≤ 5800000 := by
            have := hg d hlt
            rw [← ho] at this
            exact this hsl
          have tb : ks_st (M 4) (ks_to (M 4) (s : Int) (3 * (mv : Int) + d)) := by
            refine ks_to_st hV hst ⟨?_, ?_⟩
            · rw [show ks_mv (3 * (mv : Int) + d) = (mv : Int) by unfold ks_mv; omega]; exact hm
            · rw [show ks_dr (3 * (mv : Int) + d) = (d : Int) by unfold ks_dr; omega]; exact hcr
          have et : ks_to (M 4) (s : Int) (3 * (mv : Int) + d) = (s : Int) + ks_ms (M 4) mv + ks_ds (M 4) d := by
            unfold ks_to
            rw [show ks_mv (3 * (mv : Int) + d) = (mv : Int) by unfold ks_mv; omega, show ks_dr (3 * (mv : Int) + d) = (d : Int) by unfold ks_dr; omega]
          rw [et] at tb
          have msb : -6 ≤ ks_ms (M 4) mv ∧ ks_ms (M 4) mv ≤ 6 := by
            have := hV.1
            unfold ks_ms
            repeat' split
            all_goals omega
          have hnew : ∀ U, mm_Rf U → U = mm_up (mm_up (mm_up (mm_up N 32 c2 s) 33 c2 ((s : Int) + ks_ms (M 4) mv + ks_ds (M 4) d)) 34 c2 (M 30 (o + d))) 35 c2 (15 * M 29 (o + d) + 3 * (mv : Int) + d) → mm_J X Y_X6_drawMove 243 243 243 7 [(2, 29), (0, (s : Int)), (0, (mv : Int)), (0, (o : Int)), (0, (c1 : Int)), (0, (c2 : Int) + 1), (0, (d : Int) + 1), (9, 0)] [] U Φ := by
            intro U hRU hU
            have f : ∀ p, p ≠ c2 → U 32 p = N 32 p ∧ U 33 p = N 33 p ∧ U 34 p = N 34 p ∧ U 35 p = N 35 p := by
              intro p hp
              rw [hU]
              refine ⟨?_, ?_, ?_, ?_⟩ <;> repeat (first | rw [mm_up_i hp] | rw [mm_up_c (by decide)])
            have u1 : U 32 c2 = (s : Int) := by rw [hU, mm_up_c (by decide), mm_up_c (by decide), mm_up_c (by decide), mm_up_s]
            have u2 : U 33 c2 = (s : Int) + ks_ms (M 4) mv + ks_ds (M 4) d := by rw [hU, mm_up_c (by decide), mm_up_c (by decide), mm_up_s]
            have u3 : U 34 c2 = M 30 (o + d) := by rw [hU, mm_up_c (by decide), mm_up_s]
            have u4 : U 35 c2 = 15 * M 29 (o + d) + 3 * (mv : Int) + d := by rw [hU, mm_up_s]
            have go := ih hlt U (c2 + 1) ⟨hRU, fun a a1 a2 a3 a4 => by rw [hU, mm_up_row a4, mm_up_row a3, mm_up_row a2, mm_up_row a1]; exact hF.2.1 a a1 a2 a3 a4, fun p hp => by
              have q1 := f p (by omega)
              have q2 := hF.2.2 p hp
              rw [q1.1, q1.2.1, q1.2.2.1, q1.2.2.2]
              exact q2⟩ (by omega) (by omega) (hDN.new hmv hlt hb hc hsw hL w hsl hm hcr (fun p hp => f p (by omega)) u1 u2 u3 u4)
            rw [← ho, show ((d + 1 : Nat) : Int) = (d : Int) + 1 by omega, show ((c2 + 1 : Nat) : Int) = (c2 : Int) + 1 by omega] at go
            exact go
          have cms : ∀ U, mm_Rf U → U 4 = M 4 → mm_Fn X Y_X4_moveStep 243 [(2, 4), (0, (mv : Int))] U (0, ks_ms (M 4) mv) U := fun U hU e => by
            have := c_X4_moveStep (X := X) (M := U) (m := (mv : Int)) hU ⟨by omega, by omega⟩
            rw [e] at this
            exact this
          have cds : ∀ U, mm_Rf U → mm_CK U → U 4 = M 4 → mm_Fn X Y_X4_drumStep 243 [(2, 4), (0, (d : Int))] U (0, ks_ds (M 4) d) U := fun U hU hk e => by
            have := c_X4_drumStep (X := X) (M := U) (d := (d : Int)) hU hk ⟨by omega, by omega⟩
            rw [e] at this
            exact this
          have ck58 : ∀ v, mm_CK (mm_up N 32 c2 v) := fun v => kx_ck (fun a a1 a2 => by rw [mm_up_row (by omega)]) (ck N hF)
          refine mm_iload dX6_drawMove_7 rfl rfl ?_
          refine mm_iconst dX6_drawMove_9 rfl ?_
          refine mm_icge dX6_drawMove_10 (by omega) (by omega) (fun h10 => ?_) (fun h10 => ?_)
          · exfalso; omega
          · refine mm_iload dX6_drawMove_13 rfl rfl ?_
            refine mm_sipush dX6_drawMove_15 rfl (by decide) ?_
            refine mm_icge dX6_drawMove_18 (by omega) (by omega) (fun h18 => ?_) (fun h18 => ?_)
            · exfalso; omega
            · refine mm_aload_n dX6_drawMove_21 rfl rfl ?_
              refine mm_getr dX6_drawMove_22 rfl fl_X6_13 (c := 28) rfl (by decide) rfl rfl (hRN.at (c := 28) (i := 2) (v := 30) rfl (by decide)) ?_
              refine mm_iload_n dX6_drawMove_25 rfl rfl ?_
              refine mm_iload dX6_drawMove_26 rfl rfl ?_
              refine mm_iadd dX6_drawMove_28 rfl ?_
              refine mm_ialk (k0 := o + d) dX6_drawMove_29 rfl (c := 29) rfl (by decide) rfl (by omega) (by omega) ?_
              rw [e29]
              refine mm_istore dX6_drawMove_30 rfl (Nat.le_of_ble_eq_true rfl) rfl ?_
              refine mm_iload dX6_drawMove_32 rfl rfl ?_
              refine mm_iconst dX6_drawMove_34 rfl ?_
              refine mm_iceq dX6_drawMove_35 (by omega) (by omega) (fun h35 => ?_) (fun h35 => ?_)
              · exfalso; omega
              · refine mm_aload_n dX6_drawMove_38 rfl rfl ?_
                refine mm_getr dX6_drawMove_39 rfl fl_X6_55 (c := 28) rfl (by decide) rfl rfl (hRN.at (c := 28) (i := 0) (v := 4) rfl (by decide)) ?_
                refine mm_iload_n dX6_drawMove_42 rfl rfl ?_
                refine mm_iload dX6_drawMove_43 rfl rfl ?_
                refine mm_V2i dX6_drawMove_45 rfl lk_X6_167 (c := 3) rfl (by decide) rfl (by simp) (by simp) rfl rfl rfl (cr) ?_
                refine mm_ifeq dX6_drawMove_48 (by omega) (fun h => absurd h (by decide)) (fun _ => ?_)
                refine mm_aload_n dX6_drawMove_51 rfl rfl ?_
                refine mm_getr dX6_drawMove_52 rfl fl_X6_23 (c := 28) rfl (by decide) rfl rfl (hRN.at (c := 28) (i := 5) (v := 33) rfl (by decide)) ?_
                refine mm_iload dX6_drawMove_55 rfl rfl ?_
                refine mm_iload_n dX6_drawMove_57 rfl rfl ?_
                refine mm_istk (k0 := c2) dX6_drawMove_58 rfl (c := 32) rfl (by decide) rfl (by omega) (by omega) (fun M58 hM58 => ?_)
                have hR58 : mm_Rf M58 := by rw [hM58]; exact hRN.up (mm_rt_ar (t := 0) rfl (by decide))
                refine mm_aload_n dX6_drawMove_59 rfl rfl ?_
                refine mm_getr dX6_drawMove_60 rfl fl_X6_26 (c := 28) rfl (by decide) rfl rfl (hR58.at (c := 28) (i := 6) (v := 34) rfl (by decide)) ?_
                refine mm_iload dX6_drawMove_63 rfl rfl ?_
                refine mm_iload_n dX6_drawMove_65 rfl rfl ?_
                refine mm_aload_n dX6_drawMove_66 rfl rfl ?_
                refine mm_getr dX6_drawMove_67 rfl fl_X6_55 (c := 28) rfl (by decide) rfl rfl (hR58.at (c := 28) (i := 0) (v := 4) rfl (by decide)) ?_
                refine mm_iload_n dX6_drawMove_70 rfl rfl ?_
                refine mm_V1i dX6_drawMove_71 rfl lk_X6_170 (c := 3) rfl (by decide) rfl (by simp) rfl rfl rfl (cms _ hR58 (by rw [hM58, mm_up_row (by decide)]; exact e4 N hF)) ?_
                refine mm_iadd dX6_drawMove_74 rfl ?_
                refine mm_aload_n dX6_drawMove_75 rfl rfl ?_
                refine mm_getr dX6_drawMove_76 rfl fl_X6_55 (c := 28) rfl (by decide) rfl rfl (hR58.at (c := 28) (i := 0) (v := 4) rfl (by decide)) ?_
                refine mm_iload dX6_drawMove_79 rfl rfl ?_
                refine mm_V1i dX6_drawMove_81 rfl lk_X6_174 (c := 3) rfl (by decide) rfl (by simp) rfl rfl rfl (cds _ hR58 (by rw [hM58]; exact ck58 _) (by rw [hM58, mm_up_row (by decide)]; exact e4 N hF)) ?_
                refine mm_iadd dX6_drawMove_84 rfl ?_
                refine mm_istk (k0 := c2) dX6_drawMove_85 rfl (c := 33) rfl (by decide) rfl (by omega) (by omega) (fun M85 hM85 => ?_)
                have hR85 : mm_Rf M85 := by rw [hM85]; exact hR58.up (mm_rt_ar (t := 0) rfl (by decide))
                refine mm_aload_n dX6_drawMove_86 rfl rfl ?_
                refine mm_getr dX6_drawMove_87 rfl fl_X6_29 (c := 28) rfl (by decide) rfl rfl (hR85.at (c := 28) (i := 7) (v := 35) rfl (by decide)) ?_
                refine mm_iload dX6_drawMove_90 rfl rfl ?_
                refine mm_aload_n dX6_drawMove_92 rfl rfl ?_
                refine mm_getr dX6_drawMove_93 rfl fl_X6_17 (c := 28) rfl (by decide) rfl rfl (hR85.at (c := 28) (i := 3) (v := 31) rfl (by decide)) ?_
                refine mm_iload_n dX6_drawMove_96 rfl rfl ?_
                refine mm_iload dX6_drawMove_97 rfl rfl ?_
                refine mm_iadd dX6_drawMove_99 rfl ?_
                refine mm_ialk (k0 := o + d) dX6_drawMove_100 rfl (c := 30) rfl (by decide) rfl (by omega) (by omega) ?_
                rw [show M85 30 = M 30 by rw [hM85, mm_up_row (by decide), hM58, mm_up_row (by decide), e30]]
                refine mm_istk (k0 := c2) dX6_drawMove_101 rfl (c := 34) rfl (by decide) rfl (by omega) (by omega) (fun M101 hM101 => ?_)
                have hR101 : mm_Rf M101 := by rw [hM101]; exact hR85.up (mm_rt_ar (t := 0) rfl (by decide))
                refine mm_aload_n dX6_drawMove_102 rfl rfl ?_
                refine mm_getr dX6_drawMove_103 rfl fl_X6_32 (c := 28) rfl (by decide) rfl rfl (hR101.at (c := 28) (i := 8) (v := 36) rfl (by decide)) ?_
                refine mm_iload dX6_drawMove_106 rfl rfl ?_
                refine mm_bipush dX6_drawMove_108 rfl (by decide) ?_
                refine mm_iload dX6_drawMove_110 rfl rfl ?_
                refine mm_imul dX6_drawMove_112 rfl ?_
                refine mm_iconst dX6_drawMove_113 rfl ?_
                refine mm_iload_n dX6_drawMove_114 rfl rfl ?_
                refine mm_imul dX6_drawMove_115 rfl ?_
                refine mm_iadd dX6_drawMove_116 rfl ?_
                refine mm_iload dX6_drawMove_117 rfl rfl ?_
                refine mm_iadd dX6_drawMove_119 rfl ?_
                refine mm_istk (k0 := c2) dX6_drawMove_120 rfl (c := 35) rfl (by decide) rfl (by omega) (by omega) (fun M120 hM120 => ?_)
                have hR120 : mm_Rf M120 := by rw [hM120]; exact hR101.up (mm_rt_ar (t := 0) rfl (by decide))
                refine mm_iinc dX6_drawMove_121 rfl rfl (Nat.le_of_ble_eq_true rfl) rfl ?_
                refine mm_iinc dX6_drawMove_124 rfl rfl (Nat.le_of_ble_eq_true rfl) rfl ?_
                refine mm_goto dX6_drawMove_127 ?_
                exact mm_drop (by repeat (first | exact trivial | refine And.intro (Or.inl rfl) ?_ | refine And.intro (Or.inr rfl) ?_)) (hnew _ hR120 (by rw [hM120, hM101, hM85, hM58]))
        · rw [mm_b_f hcr] at cr
          refine mm_iload dX6_drawMove_7 rfl rfl ?_
          refine mm_iconst dX6_drawMove_9 rfl ?_
          refine mm_icge dX6_drawMove_10 (by omega) (by omega) (fun h10 => ?_) (fun h10 => ?_)
          · exfalso; omega
          · refine mm_iload dX6_drawMove_13 rfl rfl ?_
            refine mm_sipush dX6_drawMove_15 rfl (by decide) ?_
            refine mm_icge dX6_drawMove_18 (by omega) (by omega) (fun h18 => ?_) (fun h18 => ?_)
            · exfalso; omega
            · refine mm_aload_n dX6_drawMove_21 rfl rfl ?_
              refine mm_getr dX6_drawMove_22 rfl fl_X6_13 (c := 28) rfl (by decide) rfl rfl (hRN.at (c := 28) (i := 2) (v := 30) rfl (by decide)) ?_
              refine mm_iload_n dX6_drawMove_25 rfl rfl ?_
              refine mm_iload dX6_drawMove_26 rfl rfl ?_
              refine mm_iadd dX6_drawMove_28 rfl ?_
              refine mm_ialk (k0 := o + d) dX6_drawMove_29 rfl (c := 29) rfl (by decide) rfl (by omega) (by omega) ?_
              rw [e29]
              refine mm_istore dX6_drawMove_30 rfl (Nat.le_of_ble_eq_true rfl) rfl ?_
              refine mm_iload dX6_drawMove_32 rfl rfl ?_
              refine mm_iconst dX6_drawMove_34 rfl ?_
              refine mm_iceq dX6_drawMove_35 (by omega) (by omega) (fun h35 => ?_) (fun h35 => ?_)
              · exfalso; omega
              · refine mm_aload_n dX6_drawMove_38 rfl rfl ?_
                refine mm_getr dX6_drawMove_39 rfl fl_X6_55 (c := 28) rfl (by decide) rfl rfl (hRN.at (c := 28) (i := 0) (v := 4) rfl (by decide)) ?_
                refine mm_iload_n dX6_drawMove_42 rfl rfl ?_
                refine mm_iload dX6_drawMove_43 rfl rfl ?_
                refine mm_V2i dX6_drawMove_45 rfl lk_X6_167 (c := 3) rfl (by decide) rfl (by simp) (by simp) rfl rfl rfl (cr) ?_
                refine mm_ifeq dX6_drawMove_48 (by omega) (fun _ => ?_) (fun h => absurd (by decide) h)
                refine mm_iinc dX6_drawMove_124 rfl rfl (Nat.le_of_ble_eq_true rfl) rfl ?_
                refine mm_goto dX6_drawMove_127 ?_
                exact mm_drop (by repeat (first | exact trivial | refine And.intro (Or.inl rfl) ?_ | refine And.intro (Or.inr rfl) ?_)) (skip (Or.inr hcr))
    · have ed : d = 3 := by omega
      subst ed
      refine mm_iload dX6_drawMove_7 rfl rfl ?_
      refine mm_iconst dX6_drawMove_9 rfl ?_
      refine mm_icge dX6_drawMove_10 (by omega) (by omega) (fun h10 => ?_) (fun h10 => ?_)
      · refine mm_iload dX6_drawMove_130 rfl rfl ?_
        refine mm_iret dX6_drawMove_132 rfl rfl ?_
        rw [hΦ]; exact ⟨_, rfl, hRN, hF, c2, rfl, g1, g2, hDN⟩
      · exfalso; omega
  refine mm_start (ls := [(2, 29), (0, (s : Int)), (0, (mv : Int)), (0, ((((b * 6 + c) * 2 + sw) * 3 : Nat) : Int)), (0, (c1 : Int)), (9, 0), (9, 0), (9, 0)]) rfl ?_
  refine mm_iload dX6_drawMove_0 rfl rfl ?_
  refine mm_istore dX6_drawMove_2 rfl (Nat.le_of_ble_eq_true rfl) rfl ?_
  refine mm_iconst dX6_drawMove_4 rfl ?_
  refine mm_istore dX6_drawMove_5 rfl (Nat.le_of_ble_eq_true rfl) rfl ?_
  exact loop 0 (Nat.zero_le _) M c1 ⟨hR, fun _ _ _ _ _ => rfl, fun _ _ => ⟨rfl, rfl, rfl, rfl⟩⟩ (Nat.le_refl _) (Nat.le_refl _) hD
end
end
/-! HD.paths2 -/
section
/-! ===== KitePower$LoopFinder: all paths ===== -/
/-- the paths of the states below s, up to path c -/
def kx_Q (K Lo Hi : Nat → Int) (N : mm_M) (h : Int) (s c : Nat) : Prop := ∀ u, u < s → ∃ c0 c1 : Nat, N 31 u = (c0 : Int) ∧ (u + 1 = s → c1 = c) ∧ (u + 1 < s → N 31 (u + 1) = (c1 : Int)) ∧ c1 ≤ c ∧ kx_D K Lo Hi N h u c0 c1 15
/-- all paths: from state s those from N 31 s on -/
def kx_P (K Lo Hi : Nat → Int) (N : mm_M) (h : Int) (n : Nat) : Prop := ∀ u, u < n → ∃ c0 c1 : Nat, N 31 u = (c0 : Int) ∧ N 31 (u + 1) = (c1 : Int) ∧ c1 ≤ 4320 ∧ kx_D K Lo Hi N h u c0 c1 15
def kx_U (M N : mm_M) : Prop := mm_Rf N ∧ ∀ a, a ≠ 31 → a ≠ 32 → a ≠ 33 → a ≠ 34 → a ≠ 35 → N a = M a
section
variable {X : mm_X} {M : mm_M} {h : Int} {n : Nat}
theorem c_X6_drawPaths (hR : mm_Rf M) (hK : mm_CK M) (hA : mm_CA M) (hh : ks_hr h) (hn : ks_n (M 4) = (n : Int)) (hW : ∀ b c sw : Nat, b < 5 → (c : Int) < M 4 0 → sw < 2 → kx_W M M h b c sw) :
    mm_C X Y_X6_drawPaths 243 243 [(2, 29)] M (fun r M' => r = (3, 0) ∧ mm_Rf M' ∧ kx_U M M' ∧ kx_P (M 4) (M 16) (M 17) M' h n) := by
  obtain ⟨Φ, hΦ⟩ : ∃ Φ : mm_V → mm_M → Prop, Φ = (fun r M' => r = (3, 0) ∧ mm_Rf M' ∧ kx_U M M' ∧ kx_P (M 4) (M 16) (M 17) M' h n) := ⟨_, rfl⟩
  rw [← hΦ]
  have hV := hK.1
  have hnb := ks_nb hV
  have h0 : 2 ≤ M 4 0 ∧ M 4 0 ≤ 6 := hV.1
  have e4 : ∀ N, kx_U M N → N 4 = M 4 := fun N h => h.2 4 (by decide) (by decide) (by decide) (by decide) (by decide)
  have ck : ∀ N, kx_U M N → mm_CK N := fun N h => kx_ck (fun a a1 a2 => h.2 a (by omega) (by omega) (by omega) (by omega) (by omega)) hK
  have est : ∀ N, kx_U M N → N 3 2 = (n : Int) := fun N h => by rw [h.2 3 (by decide) (by decide) (by decide) (by decide) (by decide), ← hn]; exact hK.2.1
  have wb : ∀ b : Nat, b < 5 → (0 ≤ M 16 (ks_pl h b) ∧ M 16 (ks_pl h b) ≤ 60) ∧ (0 ≤ M 17 (ks_pl h b) ∧ M 17 (ks_pl h b) ≤ 60) := by
    intro b hb
    have := hA (ks_pl h b) (ks_plb hh ⟨by omega, by omega⟩)
    omega
  -- the moves of a state
  have moves : ∀ s : Nat, s < n → ∀ b c c0 : Nat, ks_band (M 4) s = (b : Int) → ks_col (M 4) s = (c : Int) → b < 5 → (c : Int) < M 4 0 → c0 ≤ 15 * s →
      (∀ N (c1 : Nat), kx_U M N → c1 ≤ 15 * s + 15 → kx_Q (M 4) (M 16) (M 17) N h (s + 1) c1 → mm_J X Y_X6_drawPaths 243 243 243 91 [(2, 29), (0, (c1 : Int)), (0, (s : Int)), (9, 0), (9, 0), (9, 0)] [] N Φ) →
      ∀ mv : Nat, mv ≤ 5 → ∀ N (c1 : Nat), kx_U M N → c1 ≤ 15 * s + 3 * mv → c0 ≤ c1 → N 31 s = (c0 : Int) → (∀ u, u < s → ∃ d0 d1 : Nat, N 31 u = (d0 : Int) ∧ N 31 (u + 1) = (d1 : Int) ∧ d1 ≤ c0 ∧ kx_D (M 4) (M 16) (M 17) N h u d0 d1 15) → kx_D (M 4) (M 16) (M 17) N h s c0 c1 (3 * mv) →
      mm_J X Y_X6_drawPaths 243 243 243 35 [(2, 29), (0, (c1 : Int)), (0, (s : Int)), (0, (b : Int)), (0, (mv : Int)), (9, 0)] [] N Φ := by
    intro s hs b c c0 hb hc hb5 hcA hc0 out
    have hst : ks_st (M 4) (s : Int) := ⟨by omega, by omega⟩
    refine mm_lp ?_
    intro mv hmv ih N c1 hU g1 g2 g3 g4 g5
    have hRN := hU.1
    by_cases hlt : mv < 5
    · have cm := c_X4_canMove (X := X) (M := N) (s := (s : Int)) (m := (mv : Int)) hRN (ck N hU) (by rw [e4 N hU]; exact hst) ⟨by omega, by omega⟩
      rw [e4 N hU] at cm
      by_cases hcm : ks_cm (M 4) s mv
      · rw [mm_b_t hcm] at cm
        obtain ⟨sw, hsw⟩ : ∃ sw : Nat, sw = (if ks_side (mv : Int) then 1 else 0) := ⟨_, rfl⟩
        have hsw2 : sw < 2 := by rw [hsw]; split <;> omega
        have hswi : sw = 1 ↔ ks_side (mv : Int) := by
          rw [hsw]
          constructor
          · intro z
            by_cases q : ks_side (mv : Int)
            · exact q
            · rw [if_neg q] at z; omega
          · intro q; rw [if_pos q]
        have cs := c_X4_isSideways (X := X) (M := N) (m := (mv : Int)) (by unfold mm_R; omega)
        have co := c_X6_optionOf (X := X) (M := N) (b := b) (c := c) (P := ks_side (mv : Int)) hb5 (by omega)
        rw [← hsw] at co
        have tab := (ck N hU).tab (by rw [e4 N hU]; exact hst)
        rw [e4 N hU, show ((s : Int)).toNat = s by omega] at tab
        have w := hW b c sw hb5 hcA hsw2
        have e16 : N 16 = M 16 := hU.2 16 (by decide) (by decide) (by decide) (by decide) (by decide)
        have e17 : N 17 = M 17 := hU.2 17 (by decide) (by decide) (by decide) (by decide) (by decide)
        have e29 : N 29 = M 29 := hU.2 29 (by decide) (by decide) (by decide) (by decide) (by decide)
        have e30 : N 30 = M 30 := hU.2 30 (by decide) (by decide) (by decide) (by decide) (by decide)
        have wN : kx_W N N h b c sw := by unfold kx_W at w ⊢; rw [e4 N hU, e16, e17, e29, e30]; exact w
        have gN : ∀ d, d < 3 → N 29 (((b * 6 + c) * 2 + sw) * 3 + d) ≠ -1 → -5800000 ≤ N 30 (((b * 6 + c) * 2 + sw) * 3 + d) ∧ N 30 (((b * 6 + c) * 2 + sw) * 3 + d) ≤ 5800000 := by
          intro d hd hne
          rw [e29] at hne
          rw [e30]
          rcases w d hd with ⟨q, -⟩ | ⟨j, j1, j2, j3, j4, -⟩
          · exact absurd q hne
          · rw [j4]
            have h10 : 1 ≤ M 4 10 ∧ M 4 10 ≤ 3 := by
              obtain ⟨-, -, -, -, -, -, -, -, -, -, q, -⟩ := hV
              exact q
            exact kx_gb hV (by omega) (by omega) (wb b hb5).1 (wb b hb5).2
        have cd := c_X6_drawMove (X := X) (M := N) (n := n) (h := h) (s := s) (mv := mv) (b := b) (c := c) (sw := sw) (c0 := c0) (c1 := c1) hRN (ck N hU) (by rw [e4 N hU]; exact hn) hs hlt (by rw [e4 N hU]; exact hb) (by rw [e4 N hU]; exact hc) hb5 (by omega) hsw2 hswi wN (by rw [e4 N hU]; exact hcm) g1 (by rw [e4 N hU, e16, e17]; exact g5) gN
        rw [e4 N hU, e16, e17] at cd
        refine mm_iload dX6_drawPaths_35 rfl rfl ?_
        refine mm_iconst dX6_drawPaths_37 rfl ?_
        refine mm_icge dX6_drawPaths_38 (by omega) (by omega) (fun h38 => ?_) (fun h38 => ?_)
        · exfalso; omega
        · refine mm_aload_n dX6_drawPaths_41 rfl rfl ?_
          refine mm_getr dX6_drawPaths_42 rfl fl_X6_55 (c := 28) rfl (by decide) rfl rfl (hRN.at (c := 28) (i := 0) (v := 4) rfl (by decide)) ?_
          refine mm_iload_n dX6_drawPaths_45 rfl rfl ?_
          refine mm_iload dX6_drawPaths_46 rfl rfl ?_
          refine mm_V2i dX6_drawPaths_48 rfl lk_X6_153 (c := 3) rfl (by decide) rfl (by simp) (by simp) rfl rfl rfl (cm) ?_
          refine mm_ifeq dX6_drawPaths_51 (by omega) (fun h => absurd h (by decide)) (fun _ => ?_)
          refine mm_iload_n dX6_drawPaths_54 rfl rfl ?_
          refine mm_aload_n dX6_drawPaths_55 rfl rfl ?_
          refine mm_getr dX6_drawPaths_56 rfl fl_X6_55 (c := 28) rfl (by decide) rfl rfl (hRN.at (c := 28) (i := 0) (v := 4) rfl (by decide)) ?_
          refine mm_getr dX6_drawPaths_59 rfl fl_X6_156 (c := 3) rfl (by decide) rfl rfl (hRN.at (c := 3) (i := 3) (v := 7) rfl (by decide)) ?_
          refine mm_iload_n dX6_drawPaths_62 rfl rfl ?_
          refine mm_ialk (k0 := s) dX6_drawPaths_63 rfl (c := 6) rfl (by decide) rfl (by omega) (by omega) ?_
          rw [tab.1, hc]
          refine mm_iload dX6_drawPaths_64 rfl rfl ?_
          refine mm_S1i dX6_drawPaths_66 rfl lk_X6_159 (by simp) rfl rfl rfl (cs) ?_
          refine mm_S3i dX6_drawPaths_69 rfl lk_X6_129 (by simp) (by simp) (by simp) rfl rfl rfl (co) ?_
          refine mm_istore dX6_drawPaths_72 rfl (Nat.le_of_ble_eq_true rfl) rfl ?_
          refine mm_aload_n dX6_drawPaths_74 rfl rfl ?_
          refine mm_iload_n dX6_drawPaths_75 rfl rfl ?_
          refine mm_iload dX6_drawPaths_76 rfl rfl ?_
          refine mm_iload dX6_drawPaths_78 rfl rfl ?_
          refine mm_iload_n dX6_drawPaths_80 rfl rfl ?_
          refine mm_V4g (M1 := N) dX6_drawPaths_81 rfl lk_X6_163 (c := 28) rfl (by decide) rfl (by simp) (by simp) (by simp) (by simp) rfl rfl rfl (cd) ?_
          rintro _ N81 ⟨x81, rfl, p81⟩
          change mm_J _ _ _ _ _ _ _ _ _ _
          have hR81 : mm_Rf N81 := p81.1
          refine mm_istore_n dX6_drawPaths_84 rfl (Nat.le_of_ble_eq_true rfl) rfl ?_
          refine mm_iinc dX6_drawPaths_85 rfl rfl (Nat.le_of_ble_eq_true rfl) rfl ?_
          refine mm_goto dX6_drawPaths_88 ?_
          obtain ⟨c2, k1, k2, k3, k4⟩ := p81.2.2
          have fF := p81.2.1
          have go := ih hlt N81 c2 ⟨hR81, fun a a1 a2 a3 a4 a5 => by rw [fF.2.1 a a2 a3 a4 a5]; exact hU.2 a a1 a2 a3 a4 a5⟩ (by omega) (by omega) (by rw [fF.2.1 31 (by decide) (by decide) (by decide) (by decide)]; exact g3) (fun u hu => by
            obtain ⟨d0, d1, q1, q2, q3, q4⟩ := g4 u hu
            rw [fF.2.1 31 (by decide) (by decide) (by decide) (by decide)]
            exact ⟨d0, d1, q1, q2, q3, q4.fr (fun p hp => fF.2.2 p (by omega))⟩) k4
          rw [show ((mv + 1 : Nat) : Int) = (mv : Int) + 1 by omega, ← k1] at go
          exact mm_drop (by repeat (first | exact trivial | refine And.intro (Or.inl rfl) ?_ | refine And.intro (Or.inr rfl) ?_)) go
      · rw [mm_b_f hcm] at cm
        have go := ih hlt N c1 hU (by omega) g2 g3 g4 (by
          refine ⟨g5.1, g5.2.1, fun a a1 a2 a3 => ?_⟩
          by_cases ca : a % 15 < ((3 * mv : Nat) : Int)
          · exact g5.2.2 a a1 a2 ca
          · exfalso
            have := a2.1.1
            rw [show ks_mv a = (mv : Int) by unfold ks_mv; omega] at this
            exact hcm this)
        rw [show ((mv + 1 : Nat) : Int) = (mv : Int) + 1 by omega] at go
        refine mm_iload dX6_drawPaths_35 rfl rfl ?_
        refine mm_iconst dX6_drawPaths_37 rfl ?_
        refine mm_icge dX6_drawPaths_38 (by omega) (by omega) (fun h38 => ?_) (fun h38 => ?_)
        · exfalso; omega
        · refine mm_aload_n dX6_drawPaths_41 rfl rfl ?_
          refine mm_getr dX6_drawPaths_42 rfl fl_X6_55 (c := 28) rfl (by decide) rfl rfl (hRN.at (c := 28) (i := 0) (v := 4) rfl (by decide)) ?_
          refine mm_iload_n dX6_drawPaths_45 rfl rfl ?_
          refine mm_iload dX6_drawPaths_46 rfl rfl ?_
          refine mm_V2i dX6_drawPaths_48 rfl lk_X6_153 (c := 3) rfl (by decide) rfl (by simp) (by simp) rfl rfl rfl (cm) ?_
          refine mm_ifeq dX6_drawPaths_51 (by omega) (fun _ => ?_) (fun h => absurd (by decide) h)
          refine mm_iinc dX6_drawPaths_85 rfl rfl (Nat.le_of_ble_eq_true rfl) rfl ?_
          refine mm_goto dX6_drawPaths_88 ?_
          exact go
    · have em : mv = 5 := by omega
      subst em
      have go := out N c1 hU (by omega) (fun u hu => by
        by_cases cu : u = s
        · rw [cu]
          exact ⟨c0, c1, g3, fun _ => rfl, fun z => absurd z (by omega), Nat.le_refl _, g5⟩
        · obtain ⟨d0, d1, q1, q2, q3, q4⟩ := g4 u (by omega)
          exact ⟨d0, d1, q1, fun z => absurd z (by omega), fun _ => q2, by omega, q4⟩)
      refine mm_iload dX6_drawPaths_35 rfl rfl ?_
      refine mm_iconst dX6_drawPaths_37 rfl ?_
      refine mm_icge dX6_drawPaths_38 (by omega) (by omega) (fun h38 => ?_) (fun h38 => ?_)
      · exact mm_drop (by repeat (first | exact trivial | refine And.intro (Or.inl rfl) ?_ | refine And.intro (Or.inr rfl) ?_)) go
      · exfalso; omega
  have loop : ∀ s : Nat, s ≤ n → ∀ N (c : Nat), kx_U M N → c ≤ 15 * s → kx_Q (M 4) (M 16) (M 17) N h s c → mm_J X Y_X6_drawPaths 243 243 243 4 [(2, 29), (0, (c : Int)), (0, (s : Int)), (9, 0), (9, 0), (9, 0)] [] N Φ := by
    refine mm_lp ?_
    intro s hs ih N c hU hc hQ
    have hRN := hU.1
    by_cases hlt : s < n
    · have hst : ks_st (M 4) (s : Int) := ⟨by omega, by omega⟩
      have tab := (ck N hU).tab (by rw [e4 N hU]; exact hst)
      rw [e4 N hU, show ((s : Int)).toNat = s by omega] at tab
      have bb := ks_bandb hV hst
      have cb : 0 ≤ ks_col (M 4) s ∧ ks_col (M 4) s < M 4 0 := by
        unfold ks_col
        exact ⟨Int.emod_nonneg _ (by omega), Int.emod_lt_of_pos _ (by omega)⟩
      obtain ⟨b, hb⟩ : ∃ b : Nat, ks_band (M 4) s = (b : Int) := ⟨(ks_band (M 4) s).toNat, by omega⟩
      obtain ⟨cc, hcc⟩ : ∃ cc : Nat, ks_col (M 4) s = (cc : Int) := ⟨(ks_col (M 4) s).toNat, by omega⟩
      have b91 : ∀ P (c1 : Nat), kx_U M P → c1 ≤ 15 * s + 15 → kx_Q (M 4) (M 16) (M 17) P h (s + 1) c1 → mm_J X Y_X6_drawPaths 243 243 243 91 [(2, 29), (0, (c1 : Int)), (0, (s : Int)), (9, 0), (9, 0), (9, 0)] [] P Φ := by
        intro P c1 hP q1 q2
        have hRP := hP.1
        have go := ih hlt P c1 hP (by omega) q2
        rw [show ((s + 1 : Nat) : Int) = (s : Int) + 1 by omega] at go
        refine mm_iinc dX6_drawPaths_91 rfl rfl (Nat.le_of_ble_eq_true rfl) rfl ?_
        refine mm_goto dX6_drawPaths_94 ?_
        exact go
      refine mm_iload_n dX6_drawPaths_4 rfl rfl ?_
      refine mm_aload_n dX6_drawPaths_5 rfl rfl ?_
      refine mm_getr dX6_drawPaths_6 rfl fl_X6_55 (c := 28) rfl (by decide) rfl rfl (hRN.at (c := 28) (i := 0) (v := 4) rfl (by decide)) ?_
      refine mm_get (kd := 0) dX6_drawPaths_9 rfl fl_X6_102 (c := 3) rfl (by decide) rfl rfl ?_
      rw [est N hU]
      refine mm_icge dX6_drawPaths_12 (by omega) (by omega) (fun h12 => ?_) (fun h12 => ?_)
      · exfalso; omega
      · refine mm_aload_n dX6_drawPaths_15 rfl rfl ?_
        refine mm_getr dX6_drawPaths_16 rfl fl_X6_20 (c := 28) rfl (by decide) rfl rfl (hRN.at (c := 28) (i := 4) (v := 32) rfl (by decide)) ?_
        refine mm_iload_n dX6_drawPaths_19 rfl rfl ?_
        refine mm_iload_n dX6_drawPaths_20 rfl rfl ?_
        refine mm_istk (k0 := s) dX6_drawPaths_21 rfl (c := 31) rfl (by decide) rfl (by omega) (by omega) (fun M21 hM21 => ?_)
        have hR21 : mm_Rf M21 := by rw [hM21]; exact hRN.up (mm_rt_ar (t := 0) rfl (by decide))
        refine mm_aload_n dX6_drawPaths_22 rfl rfl ?_
        refine mm_getr dX6_drawPaths_23 rfl fl_X6_55 (c := 28) rfl (by decide) rfl rfl (hR21.at (c := 28) (i := 0) (v := 4) rfl (by decide)) ?_
        refine mm_getr dX6_drawPaths_26 rfl fl_X6_150 (c := 3) rfl (by decide) rfl rfl (hR21.at (c := 3) (i := 7) (v := 11) rfl (by decide)) ?_
        refine mm_iload_n dX6_drawPaths_29 rfl rfl ?_
        refine mm_ialk (k0 := s) dX6_drawPaths_30 rfl (c := 10) rfl (by decide) rfl (by omega) (by omega) ?_
        rw [show M21 10 s = (b : Int) by rw [hM21, mm_up_row (by decide), tab.2.2.2.2, hb]]
        refine mm_istore_n dX6_drawPaths_31 rfl (Nat.le_of_ble_eq_true rfl) rfl ?_
        refine mm_iconst dX6_drawPaths_32 rfl ?_
        refine mm_istore dX6_drawPaths_33 rfl (Nat.le_of_ble_eq_true rfl) rfl ?_
        refine moves s hlt b cc c hb hcc (by omega) (by omega) hc b91 0 (Nat.zero_le _) _ c ⟨hR21, fun a a1 a2 a3 a4 a5 => by rw [hM21, mm_up_row a1]; exact hU.2 a a1 a2 a3 a4 a5⟩ (by omega) (Nat.le_refl _) (by rw [hM21, mm_up_s]) ?_ ?_
        · intro u hu
          obtain ⟨d0, d1, q1, q2, q3, q4, q5⟩ := hQ u hu
          have f5 : kx_D (M 4) (M 16) (M 17) M21 h u d0 d1 15 := q5.fr (fun p _ => by rw [hM21, mm_up_row (by decide), mm_up_row (by decide), mm_up_row (by decide), mm_up_row (by decide)]; exact ⟨rfl, rfl, rfl, rfl⟩)
          by_cases cu : u + 1 = s
          · exact ⟨d0, d1, by rw [hM21, mm_up_i (by omega)]; exact q1, by rw [cu, hM21, mm_up_s, q2 cu], q4, f5⟩
          · exact ⟨d0, d1, by rw [hM21, mm_up_i (by omega)]; exact q1, by rw [hM21, mm_up_i cu]; exact q3 (by omega), q4, f5⟩
        · exact ⟨Nat.le_refl _, fun p p1 p2 => absurd p2 (by omega), fun a a1 _ a3 => absurd a3 (by omega)⟩
    · have es : s = n := by omega
      subst es
      refine mm_iload_n dX6_drawPaths_4 rfl rfl ?_
      refine mm_aload_n dX6_drawPaths_5 rfl rfl ?_
      refine mm_getr dX6_drawPaths_6 rfl fl_X6_55 (c := 28) rfl (by decide) rfl rfl (hRN.at (c := 28) (i := 0) (v := 4) rfl (by decide)) ?_
      refine mm_get (kd := 0) dX6_drawPaths_9 rfl fl_X6_102 (c := 3) rfl (by decide) rfl rfl ?_
      rw [est N hU]
      refine mm_icge dX6_drawPaths_12 (by omega) (by omega) (fun h12 => ?_) (fun h12 => ?_)
      · refine mm_aload_n dX6_drawPaths_97 rfl rfl ?_
        refine mm_getr dX6_drawPaths_98 rfl fl_X6_20 (c := 28) rfl (by decide) rfl rfl (hRN.at (c := 28) (i := 4) (v := 32) rfl (by decide)) ?_
        refine mm_aload_n dX6_drawPaths_101 rfl rfl ?_
        refine mm_getr dX6_drawPaths_102 rfl fl_X6_55 (c := 28) rfl (by decide) rfl rfl (hRN.at (c := 28) (i := 0) (v := 4) rfl (by decide)) ?_
        refine mm_get (kd := 0) dX6_drawPaths_105 rfl fl_X6_102 (c := 3) rfl (by decide) rfl rfl ?_
        rw [est N hU]
        refine mm_iload_n dX6_drawPaths_108 rfl rfl ?_
        refine mm_istk (k0 := s) dX6_drawPaths_109 rfl (c := 31) rfl (by decide) rfl (by omega) (by omega) (fun M109 hM109 => ?_)
        have hR109 : mm_Rf M109 := by rw [hM109]; exact hRN.up (mm_rt_ar (t := 0) rfl (by decide))
        refine mm_vret dX6_drawPaths_110 rfl rfl ?_
        rw [hΦ]; refine ⟨rfl, hR109, ⟨hR109, fun a a1 a2 a3 a4 a5 => by rw [hM109, mm_up_row a1]; exact hU.2 a a1 a2 a3 a4 a5⟩, fun u hu => ?_⟩
        obtain ⟨d0, d1, q1, q2, q3, q4, q5⟩ := hQ u hu
        have f5 : kx_D (M 4) (M 16) (M 17) M109 h u d0 d1 15 := q5.fr (fun p _ => by rw [hM109, mm_up_row (by decide), mm_up_row (by decide), mm_up_row (by decide), mm_up_row (by decide)]; exact ⟨rfl, rfl, rfl, rfl⟩)
        by_cases cu : u + 1 = s
        · exact ⟨d0, d1, by rw [hM109, mm_up_i (by omega)]; exact q1, by rw [cu, hM109, mm_up_s, q2 cu], by omega, f5⟩
        · exact ⟨d0, d1, by rw [hM109, mm_up_i (by omega)]; exact q1, by rw [hM109, mm_up_i cu]; exact q3 (by omega), by omega, f5⟩
      · exfalso; omega
  refine mm_start (ls := [(2, 29), (9, 0), (9, 0), (9, 0), (9, 0), (9, 0)]) rfl ?_
  refine mm_iconst dX6_drawPaths_0 rfl ?_
  refine mm_istore_n dX6_drawPaths_1 rfl (Nat.le_of_ble_eq_true rfl) rfl ?_
  refine mm_iconst dX6_drawPaths_2 rfl ?_
  refine mm_istore_n dX6_drawPaths_3 rfl (Nat.le_of_ble_eq_true rfl) rfl ?_
  exact loop 0 (Nat.zero_le _) M 0 ⟨hR, fun _ _ _ _ _ _ => rfl⟩ (by omega) (fun u hu => absurd hu (by omega))
end
end
/-! HE.levels -/
section
/-! ===== KitePower$LoopFinder: levels, and which path raised a state ===== -/
/-- a path by its number, from u to v -/
def kv_p (N : mm_M) (n p u v : Nat) : Prop := p < 4320 ∧ u < n ∧ v < n ∧ N 31 u ≤ (p : Int) ∧ (p : Int) < N 31 (u + 1) ∧ N 32 p = (u : Int) ∧ N 33 p = (v : Int)
/-- what a path adds to a level -/
def kv_w (N : mm_M) (S C : Int) (p : Nat) : Int := N 34 p * C - S
/-- states that raised one another in a ring: r j leads from q j to q (j + 1) -/
def kv_R (N : mm_M) (n : Nat) (q r : Nat → Nat) (m : Nat) : Prop := 1 ≤ m ∧ q m = q 0 ∧ ∀ j, j < m → N 37 (q (j + 1)) = (r j : Int) ∧ kv_p N n (r j) (q j) (q (j + 1))
/-- levels of sweep t; T: when a state was raised latest -/
def kv_A (N : mm_M) (n : Nat) (S C : Int) (T : Nat → Nat) (t : Nat) (B : Int) : Prop :=
  (∀ v, v < n → 0 ≤ N 36 v ∧ N 36 v ≤ B) ∧
  (∀ v, v < n → (N 37 v = -1 ∧ T v = 0) ∨ ∃ p u : Nat, N 37 v = (p : Int) ∧ kv_p N n p u v ∧ 1 ≤ T v ∧ T v ≤ T u + 1 ∧ N 36 v ≤ N 36 u + kv_w N S C p) ∧
  (∀ q r m, kv_R N n q r m → ∃ j, j < m ∧ N 36 (q (j + 1)) < N 36 (q j) + kv_w N S C (r j)) ∧
  (∀ v, v < n → T v ≤ t) ∧ ∀ v, v < n → N 38 v = 0 ∨ N 38 v = 1
/-- no path from y raises -/
def kv_S (N : mm_M) (n : Nat) (S C : Int) (y : Nat) : Prop := ∀ p v : Nat, kv_p N n p y v → N 36 y + kv_w N S C p ≤ N 36 v
/-- a path has raised a state -/
def kv_up (N : mm_M) (v p : Nat) (x : Int) : mm_M := mm_up (mm_up (mm_up N 36 v x) 37 v (p : Int)) 38 v 1
section
variable {N : mm_M} {n : Nat} {S C B : Int} {T : Nat → Nat} {t : Nat}
theorem kv_up_row {v p a : Nat} {x : Int} (h1 : a ≠ 36) (h2 : a ≠ 37) (h3 : a ≠ 38) : kv_up N v p x a = N a := by
  unfold kv_up
  rw [mm_up_row h3, mm_up_row h2, mm_up_row h1]
theorem kv_up_36 {v p : Nat} {x : Int} : kv_up N v p x 36 v = x := by
  unfold kv_up
  rw [mm_up_c (by decide), mm_up_c (by decide), mm_up_s]
theorem kv_up_37 {v p : Nat} {x : Int} : kv_up N v p x 37 v = (p : Int) := by
  unfold kv_up
  rw [mm_up_c (by decide), mm_up_s]
theorem kv_up_38 {v p : Nat} {x : Int} : kv_up N v p x 38 v = 1 := by
  unfold kv_up
  rw [mm_up_s]
theorem kv_up_i {v p a y : Nat} {x : Int} (h : y ≠ v) : kv_up N v p x a y = N a y := by
  unfold kv_up
  rw [mm_up_n (fun q => h q.2), mm_up_n (fun q => h q.2), mm_up_n (fun q => h q.2)]
theorem kv_p.up {v p a u w : Nat} {x : Int} : kv_p (kv_up N v p x) n a u w ↔ kv_p N n a u w := by
  unfold kv_p
  rw [kv_up_row (by decide) (by decide) (by decide), kv_up_row (by decide) (by decide) (by decide), kv_up_row (by decide) (by decide) (by decide)]
theorem kv_w.up {v p a : Nat} {x : Int} : kv_w (kv_up N v p x) S C a = kv_w N S C a := by
  unfold kv_w
  rw [kv_up_row (by decide) (by decide) (by decide)]
theorem kv_up_ge {v p : Nat} {x : Int} (hx : N 36 v ≤ x) (y : Nat) : N 36 y ≤ kv_up N v p x 36 y := by
  by_cases c : y = v
  · rw [c, kv_up_36]; exact hx
  · rw [kv_up_i c]; exact Int.le_refl _
theorem kv_A.raise (h : kv_A N n S C T t B) {p u v : Nat} {lv x B' : Int} (hp : kv_p N n p u v) (hlv : lv ≤ N 36 u) (hx : x = lv + kv_w N S C p) (hr : N 36 v < x) (hB : x ≤ B') (hB2 : B ≤ B') (ht : t ≤ T u + 1) (h1 : 1 ≤ t) :
    kv_A (kv_up N v p x) n S C (fun y => if y = v then t else T y) t B' := by
  obtain ⟨a1, a2, a3, a4, a5⟩ := h
  have ge := kv_up_ge (N := N) (v := v) (p := p) (x := x) (by omega)
  have vn : v < n := hp.2.2.1
  have un : u < n := hp.2.1
  have Tge : ∀ y, y < n → T y ≤ (if y = v then t else T y) := fun y hy => by
    by_cases c : y = v
    · rw [if_pos c, c]; exact a4 v vn
    · rw [if_neg c]; exact Nat.le_refl _
  refine ⟨fun y hy => ?_, fun y hy => ?_, fun q r m hR => ?_, fun y hy => ?_, fun y hy => ?_⟩
  · by_cases c : y = v
    · rw [c, kv_up_36]
      have := (a1 v vn).1
      exact ⟨by omega, hB⟩
    · rw [kv_up_i c]
      have := a1 y hy
      exact ⟨this.1, by omega⟩
  · show (_ ∧ (if y = v then t else T y) = 0) ∨ _
    by_cases c : y = v
    · right
      refine ⟨p, u, by rw [c, kv_up_37], by rw [c]; exact kv_p.up.mpr hp, ?_, ?_, ?_⟩
      · show 1 ≤ (if y = v then t else T y); rw [if_pos c]; exact h1
      · show (if y = v then t else T y) ≤ (if u = v then t else T u) + 1
        rw [if_pos c]
        have := Tge u un
        omega
      · rw [c, kv_up_36, kv_w.up]
        have := ge u
        omega
    · rw [if_neg c]
      rcases a2 y hy with q | ⟨p', u', q1, q2, q3, q4, q5⟩
      · left
        rw [kv_up_i c]; exact q
      · right
        refine ⟨p', u', by rw [kv_up_i c]; exact q1, kv_p.up.mpr q2, ?_, ?_, ?_⟩
        · show 1 ≤ (if y = v then t else T y); rw [if_neg c]; exact q3
        · show (if y = v then t else T y) ≤ (if u' = v then t else T u') + 1
          rw [if_neg c]
          have := Tge u' q2.2.1
          omega
        · rw [kv_up_i c, kv_w.up]
          have := ge u'
          omega
  · obtain ⟨r1, r2, r3⟩ := hR
    by_cases c : ∃ i, i < m ∧ q i = v
    · obtain ⟨i, i1, i2⟩ := c
      obtain ⟨e1, e2⟩ := r3 i i1
      have e2 := kv_p.up.mp e2
      refine ⟨i, i1, ?_⟩
      by_cases z : q (i + 1) = v
      · rw [z, kv_up_37] at e1
        have ep : r i = p := by omega
        have eu : u = v := by
          have a := hp.2.2.2.2.2.1
          have b := e2.2.2.2.2.2.1
          rw [ep] at b
          omega
        rw [z, i2, kv_up_36, kv_w.up, ep]
        rw [eu] at hlv
        omega
      · rw [i2, kv_up_i z, kv_up_36, kv_w.up]
        rw [kv_up_i z] at e1
        have zn := e2.2.2.1
        rcases a2 (q (i + 1)) zn with y | ⟨p', u', y1, y2, y3, y4, y5⟩
        · omega
        · have ep : r i = p' := by omega
          have eu : u' = v := by
            have a := y2.2.2.2.2.2.1
            have b := e2.2.2.2.2.2.1
            rw [ep, i2] at b
            omega
          rw [eu, ← ep] at y5
          omega
    · have old : kv_R N n q r m := ⟨r1, r2, fun j hj => by
        obtain ⟨e1, e2⟩ := r3 j hj
        have ne : q (j + 1) ≠ v := by
          intro z
          by_cases cj : j + 1 = m
          · rw [cj, r2] at z; exact c ⟨0, by omega, z⟩
          · exact c ⟨j + 1, by omega, z⟩
        rw [kv_up_i ne] at e1
        exact ⟨e1, kv_p.up.mp e2⟩⟩
      obtain ⟨j, j1, j2⟩ := a3 q r m old
      refine ⟨j, j1, ?_⟩
      have ne : q (j + 1) ≠ v := by
        intro z
        by_cases cj : j + 1 = m
        · rw [cj, r2] at z; exact c ⟨0, by omega, z⟩
        · exact c ⟨j + 1, by omega, z⟩
      have ne2 : q j ≠ v := fun z => c ⟨j, j1, z⟩
      rw [kv_up_i ne, kv_up_i ne2, kv_w.up]
      exact j2
  · show (if y = v then t else T y) ≤ t
    by_cases c : y = v
    · rw [if_pos c]; exact Nat.le_refl _
    · rw [if_neg c]; exact a4 y hy
  · by_cases c : y = v
    · rw [c, kv_up_38]; exact Or.inr rfl
    · rw [kv_up_i c]; exact a5 y hy
/-- a ring gives more than the mean -/
theorem kv_A.ring (h : kv_A N n S C T t B) {q r : Nat → Nat} {m : Nat} (hR : kv_R N n q r m) : S * m < C * ka_sum (fun j => N 34 (r j)) m := by
  obtain ⟨a1, a2, a3, -⟩ := h
  have sl : ∀ j, j < m → N 36 (q (j + 1)) ≤ N 36 (q j) + kv_w N S C (r j) := by
    intro j hj
    obtain ⟨e1, e2⟩ := hR.2.2 j hj
    rcases a2 (q (j + 1)) e2.2.2.1 with y | ⟨p', u', y1, y2, y3, y4, y5⟩
    · omega
    · have ep : r j = p' := by omega
      have eu : u' = q j := by
        have a := y2.2.2.2.2.2.1
        have b := e2.2.2.2.2.2.1
        rw [ep] at b
        omega
      rw [eu, ← ep] at y5
      exact y5
  have tele : ∀ k, ka_sum (fun j => N 36 (q (j + 1)) - N 36 (q j)) k = N 36 (q k) - N 36 (q 0) := by
    intro k
    induction k with
    | zero => show (0 : Int) = _; omega
    | succ k ih => show ka_sum _ k + (N 36 (q (k + 1)) - N 36 (q k)) = _; rw [ih]; omega
  have lt := ka_sum_plt (f := fun j => N 36 (q (j + 1)) - N 36 (q j)) (g := fun j => C * N 34 (r j) - S) m (fun j hj => by
    have := sl j hj
    unfold kv_w at this
    rw [Int.mul_comm] at this
    show N 36 (q (j + 1)) - N 36 (q j) ≤ C * N 34 (r j) - S
    omega) (by
    obtain ⟨j, j1, j2⟩ := a3 q r m hR
    refine ⟨j, j1, ?_⟩
    unfold kv_w at j2
    rw [Int.mul_comm] at j2
    show N 36 (q (j + 1)) - N 36 (q j) < C * N 34 (r j) - S
    omega)
  rw [tele, hR.2.1, ka_sum_lin] at lt
  omega
end
end
/-! HF.raise -/
section
/-! ===== KitePower$LoopFinder: raiseFrom ===== -/
/-- the paths as numbers that can be -/
def kv_G (N : mm_M) (n : Nat) : Prop := ∀ u, u < n → ∃ c0 c1 : Nat, N 31 u = (c0 : Int) ∧ N 31 (u + 1) = (c1 : Int) ∧ c0 ≤ c1 ∧ c1 ≤ 4320 ∧ ∀ p, c0 ≤ p → p < c1 → N 32 p = (u : Int) ∧ (∃ v : Nat, v < n ∧ N 33 p = (v : Int)) ∧ -5800000 ≤ N 34 p ∧ N 34 p ≤ 5800000
def kv_f (M N : mm_M) : Prop := mm_Rf N ∧ ∀ a, a ≠ 36 → a ≠ 37 → a ≠ 38 → N a = M a
theorem kv_f.p {M N : mm_M} (f : kv_f M N) {n p u v : Nat} : kv_p N n p u v ↔ kv_p M n p u v := by
  unfold kv_p
  rw [f.2 31 (by decide) (by decide) (by decide), f.2 32 (by decide) (by decide) (by decide), f.2 33 (by decide) (by decide) (by decide)]
theorem kv_f.w {M N : mm_M} (f : kv_f M N) {S C : Int} {p : Nat} : kv_w N S C p = kv_w M S C p := by
  unfold kv_w
  rw [f.2 34 (by decide) (by decide) (by decide)]
theorem kv_f.G {M N : mm_M} (f : kv_f M N) {n : Nat} (h : kv_G M n) : kv_G N n := by
  unfold kv_G at h ⊢
  rw [f.2 31 (by decide) (by decide) (by decide), f.2 32 (by decide) (by decide) (by decide), f.2 33 (by decide) (by decide) (by decide), f.2 34 (by decide) (by decide) (by decide)]
  exact h
theorem kv_A.mono {N : mm_M} {n : Nat} {S C B B' : Int} {T : Nat → Nat} {t : Nat} (h : kv_A N n S C T t B) (hB : B ≤ B') : kv_A N n S C T t B' :=
  ⟨fun v hv => ⟨(h.1 v hv).1, by have := (h.1 v hv).2; omega⟩, h.2⟩
/-- how things stand within raiseFrom, ahead of path p -/
def kv_L (M N : mm_M) (n s c0 p : Nat) (S C B lv b : Int) (T T1 : Nat → Nat) (t : Nat) : Prop :=
  kv_f M N ∧ kv_A N n S C T1 t (B + 4000000000) ∧ ((b = 0 ∧ N = M ∧ T1 = T) ∨ (b = 1 ∧ ∃ v, v < n ∧ T1 v = t)) ∧ (lv ≤ N 36 s ∧ (N 38 s = 0 → N 36 s = lv)) ∧
  (∀ p' v, c0 ≤ p' → p' < p → kv_p N n p' s v → lv + kv_w N S C p' ≤ N 36 v) ∧ (∀ y, y < n → y ≠ s → N 38 y = 0 → kv_S N n S C y) ∧
  ∀ y, y < n → T y ≤ T1 y ∧ (T1 y = T y ∨ T1 y = t) ∧ (N 38 y = 1 → M 38 y = 1 ∨ T1 y = t)
section
variable {X : mm_X} {M : mm_M} {n : Nat}
theorem kv_L.keep {M N : mm_M} {n s c0 p : Nat} {S C B lv b : Int} {T T1 : Nat → Nat} {t : Nat} (h : kv_L M N n s c0 p S C B lv b T T1 t) (hk : ∀ v, kv_p N n p s v → lv + kv_w N S C p ≤ N 36 v) : kv_L M N n s c0 (p + 1) S C B lv b T T1 t := by
  obtain ⟨h1, h2, h3, h4, h5, h6, h7⟩ := h
  refine ⟨h1, h2, h3, h4, fun p' v a1 a2 a3 => ?_, h6, h7⟩
  by_cases c : p' = p
  · rw [c] at a3 ⊢; exact hk v a3
  · exact h5 p' v a1 (by omega) a3
theorem kv_L.up {M N : mm_M} {n s c0 p v : Nat} {S C B lv b x : Int} {T T1 : Nat → Nat} {t : Nat} (h : kv_L M N n s c0 p S C B lv b T T1 t) (hp : kv_p N n p s v) (hx : x = lv + kv_w N S C p) (hr : N 36 v < x) (hB : x ≤ B + 4000000000) (ht : t ≤ T s + 1) (h1t : 1 ≤ t) (hs : s < n) (hR : mm_Rf (kv_up N v p x)) : kv_L M (kv_up N v p x) n s c0 (p + 1) S C B lv 1 T (fun y => if y = v then t else T1 y) t := by
  obtain ⟨h1, h2, h3, h4, h5, h6, h7⟩ := h
  have ge := kv_up_ge (N := N) (v := v) (p := p) (x := x) (by omega)
  have vn := hp.2.2.1
  refine ⟨⟨hR, fun a a1 a2 a3 => by rw [kv_up_row a1 a2 a3]; exact h1.2 a a1 a2 a3⟩, h2.raise hp h4.1 hx hr hB (Int.le_refl _) (by have := (h7 s hs).1; omega) h1t, Or.inr ⟨rfl, v, vn, by show (if v = v then t else T1 v) = t; rw [if_pos rfl]⟩, ⟨by have := ge s; omega, fun z => ?_⟩, fun p' w a1 a2 a3 => ?_, fun y hy hys hy0 p' w a1 => ?_, fun y hy => ?_⟩
  · by_cases c : s = v
    · rw [c, kv_up_38] at z; omega
    · rw [kv_up_i c] at z ⊢
      exact h4.2 z
  · rw [kv_w.up]
    have a3 := kv_p.up.mp a3
    by_cases c : p' = p
    · rw [c] at a3 ⊢
      have e : w = v := by
        have a := a3.2.2.2.2.2.2
        have b := hp.2.2.2.2.2.2
        omega
      rw [e, kv_up_36, hx]
      exact Int.le_refl _
    · have := h5 p' w a1 (by omega) a3
      have := ge w
      omega
  · have c : y ≠ v := fun c => by rw [c, kv_up_38] at hy0; omega
    rw [kv_up_i c] at hy0
    have := h6 y hy hys hy0 p' w (kv_p.up.mp a1)
    have := ge w
    rw [kv_up_i c, kv_w.up]
    omega
  · have q := h7 y hy
    show T y ≤ (if y = v then t else T1 y) ∧ ((if y = v then t else T1 y) = T y ∨ (if y = v then t else T1 y) = t) ∧ (_ → M 38 y = 1 ∨ (if y = v then t else T1 y) = t)
    by_cases c : y = v
    · rw [if_pos c]
      exact ⟨by have := h2.2.2.2.1 y hy; omega, Or.inr rfl, fun _ => Or.inr rfl⟩
    · rw [if_neg c, kv_up_i c]
      exact q
/-- what raiseFrom leaves -/
def kv_M (M M' : mm_M) (n : Nat) (S C B b : Int) (T : Nat → Nat) (t : Nat) : Prop := kv_f M M' ∧ ∃ T1, kv_A M' n S C T1 t (B + 4000000000) ∧ ((b = 0 ∧ M' = M ∧ T1 = T) ∨ (b = 1 ∧ ∃ v, v < n ∧ T1 v = t)) ∧ (∀ y, y < n → M' 38 y = 0 → kv_S M' n S C y) ∧ ∀ y, y < n → T y ≤ T1 y ∧ (T1 y = T y ∨ T1 y = t) ∧ (M' 38 y = 1 → M 38 y = 1 ∨ T1 y = t)
theorem c_X6_raiseFrom {s t : Nat} {S C B : Int} {T : Nat → Nat} (hR : mm_Rf M) (hG : kv_G M n) (hn2 : n ≤ 288) (hS : M 28 16 = S) (hC : M 28 17 = C) (hSb : -2000000000 ≤ S ∧ S ≤ 2000000000) (hCb : 1 ≤ C ∧ C ≤ 288) (hBb : 0 ≤ B ∧ B ≤ 2000000000000000000) (hA : kv_A M n S C T t B) (hs : s < n) (hF : M 38 s = 0) (ht : t ≤ T s + 1) (h1 : 1 ≤ t) (hst : ∀ y, y < n → y ≠ s → M 38 y = 0 → kv_S M n S C y) :
    mm_C X Y_X6_raiseFrom 243 243 [(2, 29), (0, (s : Int))] M (fun r M' => ∃ b, r = (0, b) ∧ mm_Rf M' ∧ kv_M M M' n S C B b T t) := by
  obtain ⟨Φ, hΦ⟩ : ∃ Φ : mm_V → mm_M → Prop, Φ = (fun r M' => ∃ b, r = (0, b) ∧ mm_Rf M' ∧ kv_M M M' n S C B b T t) := ⟨_, rfl⟩
  rw [← hΦ]
  obtain ⟨c0, c1, g1, g2, g3, g4, g5⟩ := hG s hs
  obtain ⟨lv, hlv⟩ : ∃ lv, lv = M 36 s := ⟨_, rfl⟩
  have lvb := hA.1 s hs
  rw [← hlv] at lvb
  have loop : ∀ p : Nat, p ≤ c1 → ∀ N b T1, c0 ≤ p → kv_L M N n s c0 p S C B lv b T T1 t →
      mm_J X Y_X6_raiseFrom 243 243 243 22 [(2, 29), (0, (s : Int)), (0, b), (1, lv - S), (9, 0), (0, (p : Int)), (9, 0), (9, 0), (9, 0)] [] N Φ := by
    refine mm_lp ?_
    intro p hp ih N b T1 hc0 hL
    have hfN := hL.1
    have hRN := hfN.1
    have e31 : N 31 = M 31 := hfN.2 31 (by decide) (by decide) (by decide)
    have e32 : N 32 = M 32 := hfN.2 32 (by decide) (by decide) (by decide)
    have e33 : N 33 = M 33 := hfN.2 33 (by decide) (by decide) (by decide)
    have e34 : N 34 = M 34 := hfN.2 34 (by decide) (by decide) (by decide)
    have e28 : N 28 = M 28 := hfN.2 28 (by decide) (by decide) (by decide)
    have k1 : N 31 (s + 1) = (c1 : Int) := by rw [e31]; exact g2
    have k17 : N 28 17 = C := by rw [e28]; exact hC
    by_cases hlt : p < c1
    · obtain ⟨q1, ⟨v, v1, v2⟩, q3, q4⟩ := g5 p hc0 hlt
      have k33 : N 33 p = (v : Int) := by rw [e33]; exact v2
      have hpv : kv_p N n p s v := ⟨by omega, hs, v1, by rw [e31, g1]; omega, by rw [k1]; omega, by rw [e32]; exact q1, k33⟩
      have mb := mm_mulB (a := N 34 p) (b := C) (A := 5800000) (B := 288) (by rw [e34]; exact q3) (by rw [e34]; exact q4) (by omega) hCb.2
      obtain ⟨w, hw⟩ : ∃ w, w = N 34 p * C := ⟨_, rfl⟩
      have hww : kv_w N S C p = w - S := by unfold kv_w; rw [hw]
      rw [← hw] at mb
      have lN := hL.2.1.1 v v1
      have k34 : -5800000 ≤ N 34 p ∧ N 34 p ≤ 5800000 := by rw [e34]; exact ⟨q3, q4⟩
      have keep : lv - S + w ≤ N 36 v → mm_J X Y_X6_raiseFrom 243 243 243 22 [(2, 29), (0, (s : Int)), (0, b), (1, lv - S), (9, 0), (0, (p : Int) + 1), (9, 0), (9, 0), (9, 0)] [] N Φ := by
        intro z
        have go := ih hlt N b T1 (by omega) (hL.keep (fun v' hv' => by
          have e : v' = v := by have := hv'.2.2.2.2.2.2; omega
          rw [e, hww]; omega))
        rw [show ((p + 1 : Nat) : Int) = (p : Int) + 1 by omega] at go
        exact go
      have up : N 36 v < lv - S + w → ∀ P, mm_Rf P → P = kv_up N v p (lv - S + w) → mm_J X Y_X6_raiseFrom 243 243 243 22 [(2, 29), (0, (s : Int)), (0, 1), (1, lv - S), (9, 0), (0, (p : Int) + 1), (9, 0), (9, 0), (9, 0)] [] P Φ := by
        intro z P hRP hP
        rw [hP] at hRP
        have go := ih hlt P 1 _ (by omega) (by rw [hP]; exact hL.up hpv (by rw [hww]; omega) z (by omega) ht h1 hs hRP)
        rw [show ((p + 1 : Nat) : Int) = (p : Int) + 1 by omega] at go
        exact go
      refine mm_iload dX6_raiseFrom_22 rfl rfl ?_
      refine mm_aload_n dX6_raiseFrom_24 rfl rfl ?_
      refine mm_getr dX6_raiseFrom_25 rfl fl_X6_20 (c := 28) rfl (by decide) rfl rfl (hRN.at (c := 28) (i := 4) (v := 32) rfl (by decide)) ?_
      refine mm_iload_n dX6_raiseFrom_28 rfl rfl ?_
      refine mm_iconst dX6_raiseFrom_29 rfl ?_
      refine mm_iadd dX6_raiseFrom_30 rfl ?_
      refine mm_ialk (k0 := s + 1) dX6_raiseFrom_31 rfl (c := 31) rfl (by decide) rfl (by omega) (by omega) ?_
      rw [k1]
      refine mm_icge dX6_raiseFrom_32 (by omega) (by omega) (fun h32 => ?_) (fun h32 => ?_)
      · exfalso; omega
      · refine mm_lload_n dX6_raiseFrom_35 rfl rfl ?_
        refine mm_aload_n dX6_raiseFrom_36 rfl rfl ?_
        refine mm_getr dX6_raiseFrom_37 rfl fl_X6_29 (c := 28) rfl (by decide) rfl rfl (hRN.at (c := 28) (i := 7) (v := 35) rfl (by decide)) ?_
        refine mm_iload dX6_raiseFrom_40 rfl rfl ?_
        refine mm_ialk (k0 := p) dX6_raiseFrom_42 rfl (c := 34) rfl (by decide) rfl (by omega) (by omega) ?_
        refine mm_i2l dX6_raiseFrom_43 rfl (by omega) ?_
        refine mm_aload_n dX6_raiseFrom_44 rfl rfl ?_
        refine mm_get (kd := 1) dX6_raiseFrom_45 rfl fl_X6_82 (c := 28) rfl (by decide) rfl rfl ?_
        refine mm_lmul dX6_raiseFrom_48 rfl ?_
        rw [k17, ← hw]
        refine mm_ladd dX6_raiseFrom_49 rfl ?_
        refine mm_lstore dX6_raiseFrom_50 rfl (Nat.le_of_ble_eq_true rfl) rfl ?_
        refine mm_aload_n dX6_raiseFrom_52 rfl rfl ?_
        refine mm_getr dX6_raiseFrom_53 rfl fl_X6_26 (c := 28) rfl (by decide) rfl rfl (hRN.at (c := 28) (i := 6) (v := 34) rfl (by decide)) ?_
        refine mm_iload dX6_raiseFrom_56 rfl rfl ?_
        refine mm_ialk (k0 := p) dX6_raiseFrom_58 rfl (c := 33) rfl (by decide) rfl (by omega) (by omega) ?_
        rw [k33]
        refine mm_istore dX6_raiseFrom_59 rfl (Nat.le_of_ble_eq_true rfl) rfl ?_
        refine mm_lload dX6_raiseFrom_61 rfl rfl ?_
        refine mm_aload_n dX6_raiseFrom_63 rfl rfl ?_
        refine mm_getr dX6_raiseFrom_64 rfl fl_X6_35 (c := 28) rfl (by decide) rfl rfl (hRN.at (c := 28) (i := 9) (v := 37) rfl (by decide)) ?_
        refine mm_iload dX6_raiseFrom_67 rfl rfl ?_
        refine mm_lalk (k0 := v) dX6_raiseFrom_69 rfl (c := 36) rfl (by decide) rfl (by omega) (by omega) ?_
        refine mm_lcmp dX6_raiseFrom_70 rfl (by omega) (by omega) ?_
        refine mm_iflec dX6_raiseFrom_71 (fun h71 => ?_) (fun h71 => ?_)
        · refine mm_iinc dX6_raiseFrom_102 rfl rfl (Nat.le_of_ble_eq_true rfl) rfl ?_
          refine mm_goto dX6_raiseFrom_105 ?_
          first
          | exact mm_drop (by repeat (first | exact trivial | refine And.intro (Or.inl rfl) ?_ | refine And.intro (Or.inr rfl) ?_)) (keep (by omega))
          | exact mm_drop (by repeat (first | exact trivial | refine And.intro (Or.inl rfl) ?_ | refine And.intro (Or.inr rfl) ?_)) (up (by omega) _ hRN (by unfold kv_up; rw [hM99, hM91, hM82]))
        · refine mm_aload_n dX6_raiseFrom_74 rfl rfl ?_
          refine mm_getr dX6_raiseFrom_75 rfl fl_X6_35 (c := 28) rfl (by decide) rfl rfl (hRN.at (c := 28) (i := 9) (v := 37) rfl (by decide)) ?_
          refine mm_iload dX6_raiseFrom_78 rfl rfl ?_
          refine mm_lload dX6_raiseFrom_80 rfl rfl ?_
          refine mm_lstk (k0 := v) dX6_raiseFrom_82 rfl (c := 36) rfl (by decide) rfl (by omega) (by omega) (fun M82 hM82 => ?_)
          have hR82 : mm_Rf M82 := by rw [hM82]; exact hRN.up (mm_rt_ar (t := 3) rfl (by decide))
          refine mm_aload_n dX6_raiseFrom_83 rfl rfl ?_
          refine mm_getr dX6_raiseFrom_84 rfl fl_X6_39 (c := 28) rfl (by decide) rfl rfl (hR82.at (c := 28) (i := 10) (v := 38) rfl (by decide)) ?_
          refine mm_iload dX6_raiseFrom_87 rfl rfl ?_
          refine mm_iload dX6_raiseFrom_89 rfl rfl ?_
          refine mm_istk (k0 := v) dX6_raiseFrom_91 rfl (c := 37) rfl (by decide) rfl (by omega) (by omega) (fun M91 hM91 => ?_)
          have hR91 : mm_Rf M91 := by rw [hM91]; exact hR82.up (mm_rt_ar (t := 0) rfl (by decide))
          refine mm_aload_n dX6_raiseFrom_92 rfl rfl ?_
          refine mm_getr dX6_raiseFrom_93 rfl fl_X6_42 (c := 28) rfl (by decide) rfl rfl (hR91.at (c := 28) (i := 11) (v := 39) rfl (by decide)) ?_
          refine mm_iload dX6_raiseFrom_96 rfl rfl ?_
          refine mm_iconst dX6_raiseFrom_98 rfl ?_
          refine mm_zstk (k0 := v) dX6_raiseFrom_99 rfl (c := 38) rfl (by decide) rfl (by omega) (by omega) (Or.inr rfl) (fun M99 hM99 => ?_)
          have hR99 : mm_Rf M99 := by rw [hM99]; exact hR91.up (mm_rt_ar (t := 2) rfl (by decide))
          refine mm_iconst dX6_raiseFrom_100 rfl ?_
          refine mm_istore_n dX6_raiseFrom_101 rfl (Nat.le_of_ble_eq_true rfl) rfl ?_
          refine mm_iinc dX6_raiseFrom_102 rfl rfl (Nat.le_of_ble_eq_true rfl) rfl ?_
          refine mm_goto dX6_raiseFrom_105 ?_
          first
          | exact mm_drop (by repeat (first | exact trivial | refine And.intro (Or.inl rfl) ?_ | refine And.intro (Or.inr rfl) ?_)) (keep (by omega))
          | exact mm_drop (by repeat (first | exact trivial | refine And.intro (Or.inl rfl) ?_ | refine And.intro (Or.inr rfl) ?_)) (up (by omega) _ hR99 (by unfold kv_up; rw [hM99, hM91, hM82]))
    · have ep : p = c1 := by omega
      subst ep
      obtain ⟨h1', h2, h3, h4, h5, h6, h7⟩ := hL
      have fin : kv_M M N n S C B b T t := by
        refine ⟨h1', T1, h2, h3, fun y hy hy0 => ?_, h7⟩
        by_cases c : y = s
        · rw [c] at hy0 ⊢
          intro p' v hpv
          rw [h4.2 hy0]
          have x1 := hpv.2.2.2.1
          have x2 := hpv.2.2.2.2.1
          rw [e31, g1] at x1
          rw [k1] at x2
          exact h5 p' v (by omega) (by omega) hpv
        · exact h6 y hy c hy0
      refine mm_iload dX6_raiseFrom_22 rfl rfl ?_
      refine mm_aload_n dX6_raiseFrom_24 rfl rfl ?_
      refine mm_getr dX6_raiseFrom_25 rfl fl_X6_20 (c := 28) rfl (by decide) rfl rfl (hRN.at (c := 28) (i := 4) (v := 32) rfl (by decide)) ?_
      refine mm_iload_n dX6_raiseFrom_28 rfl rfl ?_
      refine mm_iconst dX6_raiseFrom_29 rfl ?_
      refine mm_iadd dX6_raiseFrom_30 rfl ?_
      refine mm_ialk (k0 := s + 1) dX6_raiseFrom_31 rfl (c := 31) rfl (by decide) rfl (by omega) (by omega) ?_
      rw [k1]
      refine mm_icge dX6_raiseFrom_32 (by omega) (by omega) (fun h32 => ?_) (fun h32 => ?_)
      · refine mm_iload_n dX6_raiseFrom_108 rfl rfl ?_
        refine mm_zret dX6_raiseFrom_109 rfl rfl (h3.imp And.left And.left) ?_
        rw [hΦ]; exact ⟨b, rfl, hRN, fin⟩
      · exfalso; omega
  refine mm_start (ls := [(2, 29), (0, (s : Int)), (9, 0), (9, 0), (9, 0), (9, 0), (9, 0), (9, 0), (9, 0)]) rfl ?_
  refine mm_iconst dX6_raiseFrom_0 rfl ?_
  refine mm_istore_n dX6_raiseFrom_1 rfl (Nat.le_of_ble_eq_true rfl) rfl ?_
  refine mm_aload_n dX6_raiseFrom_2 rfl rfl ?_
  refine mm_getr dX6_raiseFrom_3 rfl fl_X6_35 (c := 28) rfl (by decide) rfl rfl (hR.at (c := 28) (i := 9) (v := 37) rfl (by decide)) ?_
  refine mm_iload_n dX6_raiseFrom_6 rfl rfl ?_
  refine mm_lalk (k0 := s) dX6_raiseFrom_7 rfl (c := 36) rfl (by decide) rfl (by omega) (by omega) ?_
  rw [← hlv]
  refine mm_aload_n dX6_raiseFrom_8 rfl rfl ?_
  refine mm_get (kd := 1) dX6_raiseFrom_9 rfl fl_X6_78 (c := 28) rfl (by decide) rfl rfl ?_
  rw [hS]
  refine mm_lsub dX6_raiseFrom_12 rfl ?_
  refine mm_lstore_n dX6_raiseFrom_13 rfl (Nat.le_of_ble_eq_true rfl) rfl ?_
  refine mm_aload_n dX6_raiseFrom_14 rfl rfl ?_
  refine mm_getr dX6_raiseFrom_15 rfl fl_X6_20 (c := 28) rfl (by decide) rfl rfl (hR.at (c := 28) (i := 4) (v := 32) rfl (by decide)) ?_
  refine mm_iload_n dX6_raiseFrom_18 rfl rfl ?_
  refine mm_ialk (k0 := s) dX6_raiseFrom_19 rfl (c := 31) rfl (by decide) rfl (by omega) (by omega) ?_
  rw [g1]
  refine mm_istore dX6_raiseFrom_20 rfl (Nat.le_of_ble_eq_true rfl) rfl ?_
  exact loop c0 g3 M 0 T (Nat.le_refl _) ⟨⟨hR, fun _ _ _ _ => rfl⟩, hA.mono (by omega), Or.inl ⟨rfl, rfl, rfl⟩, ⟨by omega, fun _ => hlv.symm⟩, fun p' v a1 a2 => absurd a2 (by omega), hst, fun y hy => ⟨Nat.le_refl _, Or.inl rfl, fun z => Or.inl z⟩⟩
end
end
/-! HG.sweep -/
section
/-! ===== KitePower$LoopFinder: raiseLevels ===== -/
theorem kv_A.late {N : mm_M} {n : Nat} {S C B : Int} {T : Nat → Nat} {t t' : Nat} (h : kv_A N n S C T t B) (ht : t ≤ t') : kv_A N n S C T t' B :=
  ⟨h.1, h.2.1, h.2.2.1, fun v hv => by have := h.2.2.2.1 v hv; omega, h.2.2.2.2⟩
section
variable {X : mm_X} {M N : mm_M} {n : Nat}
theorem kv_p.fresh {s p u v : Nat} {x : Int} : kv_p (mm_up N 38 s x) n p u v ↔ kv_p N n p u v := by
  unfold kv_p
  rw [mm_up_row (by decide), mm_up_row (by decide), mm_up_row (by decide)]
theorem kv_w.fresh {s p : Nat} {x S C : Int} : kv_w (mm_up N 38 s x) S C p = kv_w N S C p := by
  unfold kv_w
  rw [mm_up_row (by decide)]
theorem kv_S.fresh {s y : Nat} {x S C : Int} : kv_S (mm_up N 38 s x) n S C y ↔ kv_S N n S C y := by
  unfold kv_S
  constructor
  · intro h p v hp
    have := h p v (kv_p.fresh.mpr hp)
    rw [kv_w.fresh, mm_up_row (by decide)] at this
    exact this
  · intro h p v hp
    have := h p v (kv_p.fresh.mp hp)
    rw [kv_w.fresh, mm_up_row (by decide)]
    exact this
theorem kv_A.fresh {S C B : Int} {T : Nat → Nat} {t s : Nat} (h : kv_A N n S C T t B) : kv_A (mm_up N 38 s 0) n S C T t B := by
  obtain ⟨a1, a2, a3, a4, a5⟩ := h
  have e36 : mm_up N 38 s 0 36 = N 36 := mm_up_row (by decide)
  have e37 : mm_up N 38 s 0 37 = N 37 := mm_up_row (by decide)
  refine ⟨by rw [e36]; exact a1, fun v hv => ?_, fun q r m hR => ?_, a4, fun v hv => ?_⟩
  · rw [e36, e37]
    rcases a2 v hv with z | ⟨p, u, y1, y2, y3, y4, y5⟩
    · exact Or.inl z
    · exact Or.inr ⟨p, u, y1, kv_p.fresh.mpr y2, y3, y4, by rw [kv_w.fresh]; exact y5⟩
  · obtain ⟨j, j1, j2⟩ := a3 q r m ⟨hR.1, hR.2.1, fun j hj => by
      have := hR.2.2 j hj
      rw [e37] at this
      exact ⟨this.1, kv_p.fresh.mp this.2⟩⟩
    exact ⟨j, j1, by rw [e36, kv_w.fresh]; exact j2⟩
  · by_cases c : v = s
    · rw [c, mm_up_s]; exact Or.inl rfl
    · rw [mm_up_i c]; exact a5 v hv
/-- what raiseLevels leaves -/
def kv_N (M M' : mm_M) (n : Nat) (S C B b : Int) (t : Nat) (T1 : Nat → Nat) : Prop := kv_f M M' ∧ kv_A M' n S C T1 t (B + 4000000000 * (n : Int)) ∧ (∀ y, y < n → M' 38 y = 1 → t ≤ T1 y) ∧ (∀ y, y < n → M' 38 y = 0 → kv_S M' n S C y) ∧ ((b = 0 ∧ ∀ y, y < n → kv_S M' n S C y) ∨ (b = 1 ∧ ∃ v, v < n ∧ T1 v = t))
/-- how things stand within a sweep, ahead of state s -/
def kv_O (M N : mm_M) (n s : Nat) (S C B b : Int) (T T1 : Nat → Nat) (t : Nat) : Prop :=
  kv_f M N ∧ kv_A N n S C T1 t (B + 4000000000 * (s : Int)) ∧ ((b = 0 ∧ T1 = T) ∨ (b = 1 ∧ ∃ v, v < n ∧ T1 v = t)) ∧ (∀ y, y < n → N 38 y = 0 → kv_S N n S C y) ∧ ∀ y, y < n → N 38 y = 1 → (s ≤ y → t ≤ T1 y + 1) ∧ (y < s → T1 y = t)
theorem kv_f.tr {M N P : mm_M} (f : kv_f M N) (g : kv_f N P) : kv_f M P := ⟨g.1, fun a a1 a2 a3 => by rw [g.2 a a1 a2 a3]; exact f.2 a a1 a2 a3⟩
theorem c_X6_raiseLevels {t : Nat} {S C B : Int} {T : Nat → Nat} (hR : mm_Rf M) (hG : kv_G M n) (hn : M 3 2 = (n : Int)) (hn2 : n ≤ 288) (hS : M 28 16 = S) (hC : M 28 17 = C) (hSb : -2000000000 ≤ S ∧ S ≤ 2000000000) (hCb : 1 ≤ C ∧ C ≤ 288) (hBb : 0 ≤ B ∧ B ≤ 1500000000000000000)
    (hA : kv_A M n S C T t B) (hF : ∀ y, y < n → M 38 y = 1 → t ≤ T y) (hst : ∀ y, y < n → M 38 y = 0 → kv_S M n S C y) :
    mm_C X Y_X6_raiseLevels 243 243 [(2, 29)] M (fun r M' => ∃ b, r = (0, b) ∧ mm_Rf M' ∧ ∃ T1, kv_N M M' n S C B b (t + 1) T1) := by
  obtain ⟨Φ, hΦ⟩ : ∃ Φ : mm_V → mm_M → Prop, Φ = (fun r M' => ∃ b, r = (0, b) ∧ mm_Rf M' ∧ ∃ T1, kv_N M M' n S C B b (t + 1) T1) := ⟨_, rfl⟩
  rw [← hΦ]
  have loop : ∀ s : Nat, s ≤ n → ∀ N b T1, kv_O M N n s S C B b T T1 (t + 1) → mm_J X Y_X6_raiseLevels 243 243 243 4 [(2, 29), (0, b), (0, (s : Int))] [] N Φ := by
    refine mm_lp ?_
    intro s hs ih N b T1 hO
    obtain ⟨o1, o2, o3, o4, o5⟩ := id hO
    have hRN := o1.1
    have est : N 3 2 = (n : Int) := by rw [o1.2 3 (by decide) (by decide) (by decide)]; exact hn
    by_cases hlt : s < n
    · have nx : ∀ P T2 b', kv_O M P n (s + 1) S C B b' T T2 (t + 1) → mm_J X Y_X6_raiseLevels 243 243 243 4 [(2, 29), (0, b'), (0, (s : Int) + 1)] [] P Φ := by
        intro P T2 b' hP
        have go := ih hlt P b' T2 hP
        rw [show ((s + 1 : Nat) : Int) = (s : Int) + 1 by omega] at go
        exact go
      rcases o2.2.2.2.2 s hlt with f0 | f1
      · have go := nx N T1 b ⟨o1, o2.mono (by omega), o3, o4, fun y hy z => ⟨fun a => (o5 y hy z).1 (by omega), fun a => by
          by_cases c : y = s
          · rw [c] at z; omega
          · exact (o5 y hy z).2 (by omega)⟩⟩
        refine mm_iload_n dX6_raiseLevels_4 rfl rfl ?_
        refine mm_aload_n dX6_raiseLevels_5 rfl rfl ?_
        refine mm_getr dX6_raiseLevels_6 rfl fl_X6_55 (c := 28) rfl (by decide) rfl rfl (hRN.at (c := 28) (i := 0) (v := 4) rfl (by decide)) ?_
        refine mm_get (kd := 0) dX6_raiseLevels_9 rfl fl_X6_102 (c := 3) rfl (by decide) rfl rfl ?_
        rw [est]
        refine mm_icge dX6_raiseLevels_12 (by omega) (by omega) (fun h12 => ?_) (fun h12 => ?_)
        · exfalso; omega
        · refine mm_aload_n dX6_raiseLevels_15 rfl rfl ?_
          refine mm_getr dX6_raiseLevels_16 rfl fl_X6_42 (c := 28) rfl (by decide) rfl rfl (hRN.at (c := 28) (i := 11) (v := 39) rfl (by decide)) ?_
          refine mm_iload_n dX6_raiseLevels_19 rfl rfl ?_
          refine mm_zalk (k0 := s) dX6_raiseLevels_20 rfl (c := 38) rfl (by decide) rfl (by omega) (by omega) ?_
          rw [f0]
          refine mm_ifeq dX6_raiseLevels_21 (by omega) (fun h21 => ?_) (fun h21 => ?_)
          · refine mm_iinc dX6_raiseLevels_49 rfl rfl (Nat.le_of_ble_eq_true rfl) rfl ?_
            refine mm_goto dX6_raiseLevels_52 ?_
            exact go
          · exfalso; omega
      · obtain ⟨N', hN'⟩ : ∃ Z, Z = mm_up N 38 s 0 := ⟨_, rfl⟩
        have fN : ∀ a, a ≠ 38 → N' a = N a := fun a ha => by rw [hN', mm_up_row ha]
        have call : mm_Rf N' → mm_C X Y_X6_raiseFrom 243 243 [(2, 29), (0, (s : Int))] N' (fun r M' => ∃ x, r = (0, x) ∧ mm_Rf M' ∧ (x = 0 ∨ x = 1) ∧ ∀ b', ((b' = 1 ∧ (x ≠ 0 ∨ b ≠ 0)) ∨ (b' = 0 ∧ x = 0 ∧ b = 0)) → ∃ T2, kv_O M M' n (s + 1) S C B b' T T2 (t + 1)) := by
          intro hRN'
          have fr : kv_f M N' := ⟨hRN', fun a a1 a2 a3 => by rw [fN a a3]; exact o1.2 a a1 a2 a3⟩
          refine mm_C.mono (c_X6_raiseFrom (S := S) (C := C) (B := B + 4000000000 * (s : Int)) (T := T1) (t := t + 1) hRN' (fr.G hG) hn2 (by rw [fN 28 (by decide), o1.2 28 (by decide) (by decide) (by decide)]; exact hS) (by rw [fN 28 (by decide), o1.2 28 (by decide) (by decide) (by decide)]; exact hC) hSb hCb ⟨by omega, by omega⟩ (by rw [hN']; exact o2.fresh) hlt (by rw [hN', mm_up_s]) ((o5 s hlt f1).1 (Nat.le_refl s)) (by omega) (fun y hy hys z => by
            rw [hN'] at z ⊢
            rw [mm_up_i hys] at z
            exact kv_S.fresh.mpr (o4 y hy z))) ?_
          rintro r P ⟨x, x1, x2, x3, T2, x4, x5, x6, x7⟩
          refine ⟨x, x1, x2, ?_, fun b' hb' => ⟨T2, fr.tr x3, ?_, ?_, x6, fun y hy z => ?_⟩⟩
          · rcases x5 with q | q
            · exact Or.inl q.1
            · exact Or.inr q.1
          · rw [show B + 4000000000 * ((s + 1 : Nat) : Int) = B + 4000000000 * (s : Int) + 4000000000 by omega]; exact x4
          · rcases hb' with ⟨q1, q2⟩ | ⟨q1, q2, q3⟩
            · right
              refine ⟨q1, ?_⟩
              rcases x5 with ⟨y1, y2, y3⟩ | y
              · rcases o3 with z | z
                · omega
                · rw [y3]; exact z.2
              · exact y.2
            · left
              refine ⟨q1, ?_⟩
              rcases x5 with ⟨y1, y2, y3⟩ | y
              · rcases o3 with z | z
                · rw [y3, z.2]
                · omega
              · omega
          · obtain ⟨w1, w2, w3⟩ := x7 y hy
            rcases w3 z with w | w
            · have ys : y ≠ s := fun c => by rw [c, hN', mm_up_s] at w; omega
              rw [hN', mm_up_i ys] at w
              have := o5 y hy w
              refine ⟨fun a => ?_, fun a => ?_⟩
              · have := this.1 (by omega)
                omega
              · have := this.2 (by omega)
                rcases w2 with q | q
                · rw [q]; exact this
                · exact q
            · exact ⟨fun _ => by omega, fun _ => w⟩
        refine mm_iload_n dX6_raiseLevels_4 rfl rfl ?_
        refine mm_aload_n dX6_raiseLevels_5 rfl rfl ?_
        refine mm_getr dX6_raiseLevels_6 rfl fl_X6_55 (c := 28) rfl (by decide) rfl rfl (hRN.at (c := 28) (i := 0) (v := 4) rfl (by decide)) ?_
        refine mm_get (kd := 0) dX6_raiseLevels_9 rfl fl_X6_102 (c := 3) rfl (by decide) rfl rfl ?_
        rw [est]
        refine mm_icge dX6_raiseLevels_12 (by omega) (by omega) (fun h12 => ?_) (fun h12 => ?_)
        · exfalso; omega
        · refine mm_aload_n dX6_raiseLevels_15 rfl rfl ?_
          refine mm_getr dX6_raiseLevels_16 rfl fl_X6_42 (c := 28) rfl (by decide) rfl rfl (hRN.at (c := 28) (i := 11) (v := 39) rfl (by decide)) ?_
          refine mm_iload_n dX6_raiseLevels_19 rfl rfl ?_
          refine mm_zalk (k0 := s) dX6_raiseLevels_20 rfl (c := 38) rfl (by decide) rfl (by omega) (by omega) ?_
          rw [f1]
          refine mm_ifeq dX6_raiseLevels_21 (by omega) (fun h21 => ?_) (fun h21 => ?_)
          · exfalso; omega
          · refine mm_aload_n dX6_raiseLevels_24 rfl rfl ?_
            refine mm_getr dX6_raiseLevels_25 rfl fl_X6_42 (c := 28) rfl (by decide) rfl rfl (hRN.at (c := 28) (i := 11) (v := 39) rfl (by decide)) ?_
            refine mm_iload_n dX6_raiseLevels_28 rfl rfl ?_
            refine mm_iconst dX6_raiseLevels_29 rfl ?_
            refine mm_zstk (k0 := s) dX6_raiseLevels_30 rfl (c := 38) rfl (by decide) rfl (by omega) (by omega) (Or.inl rfl) (fun M30 hM30 => ?_)
            have hR30 : mm_Rf M30 := by rw [hM30]; exact hRN.up (mm_rt_ar (t := 2) rfl (by decide))
            refine mm_aload_n dX6_raiseLevels_31 rfl rfl ?_
            refine mm_iload_n dX6_raiseLevels_32 rfl rfl ?_
            refine mm_V1g (M1 := M30) dX6_raiseLevels_33 rfl lk_X6_183 (c := 28) rfl (by decide) rfl (by simp) rfl rfl rfl ((by have := call (by rw [hN', ← hM30]; exact hR30); rw [hN', ← hM30] at this; exact this)) ?_
            rintro _ N33 ⟨x33, rfl, p33⟩
            change mm_J _ _ _ _ _ _ _ _ _ _
            have hR33 : mm_Rf N33 := p33.1
            have hx33 := p33.2.1
            refine mm_ifne dX6_raiseLevels_36 (by omega) (fun h36 => ?_) (fun h36 => ?_)
            · refine mm_iconst dX6_raiseLevels_43 rfl ?_
              refine mm_goto dX6_raiseLevels_44 ?_
              refine mm_istore_n dX6_raiseLevels_48 rfl (Nat.le_of_ble_eq_true rfl) rfl ?_
              refine mm_iinc dX6_raiseLevels_49 rfl rfl (Nat.le_of_ble_eq_true rfl) rfl ?_
              refine mm_goto dX6_raiseLevels_52 ?_
              first
              | (obtain ⟨T2, go⟩ := p33.2.2 1 (by omega)
                 exact nx N33 T2 1 go)
              | (obtain ⟨T2, go⟩ := p33.2.2 0 (by omega)
                 exact nx N33 T2 0 go)
            · refine mm_iload_n dX6_raiseLevels_39 rfl rfl ?_
              refine mm_ifeq dX6_raiseLevels_40 (by omega) (fun h40 => ?_) (fun h40 => ?_)
              · refine mm_iconst dX6_raiseLevels_47 rfl ?_
                refine mm_istore_n dX6_raiseLevels_48 rfl (Nat.le_of_ble_eq_true rfl) rfl ?_
                refine mm_iinc dX6_raiseLevels_49 rfl rfl (Nat.le_of_ble_eq_true rfl) rfl ?_
                refine mm_goto dX6_raiseLevels_52 ?_
                first
                | (obtain ⟨T2, go⟩ := p33.2.2 1 (by omega)
                   exact nx N33 T2 1 go)
                | (obtain ⟨T2, go⟩ := p33.2.2 0 (by omega)
                   exact nx N33 T2 0 go)
              · refine mm_iconst dX6_raiseLevels_43 rfl ?_
                refine mm_goto dX6_raiseLevels_44 ?_
                refine mm_istore_n dX6_raiseLevels_48 rfl (Nat.le_of_ble_eq_true rfl) rfl ?_
                refine mm_iinc dX6_raiseLevels_49 rfl rfl (Nat.le_of_ble_eq_true rfl) rfl ?_
                refine mm_goto dX6_raiseLevels_52 ?_
                first
                | (obtain ⟨T2, go⟩ := p33.2.2 1 (by omega)
                   exact nx N33 T2 1 go)
                | (obtain ⟨T2, go⟩ := p33.2.2 0 (by omega)
                   exact nx N33 T2 0 go)
    · have es : s = n := by omega
      subst es
      have fin : kv_N M N s S C B b (t + 1) T1 := by
        refine ⟨o1, o2, fun y hy z => by have := (o5 y hy z).2 hy; omega, o4, ?_⟩
        rcases o3 with ⟨q1, q2⟩ | q
        · left
          refine ⟨q1, fun y hy => ?_⟩
          rcases o2.2.2.2.2 y hy with z | z
          · exact o4 y hy z
          · have := (o5 y hy z).2 hy
            rw [q2] at this
            have := hA.2.2.2.1 y hy
            omega
        · exact Or.inr q
      refine mm_iload_n dX6_raiseLevels_4 rfl rfl ?_
      refine mm_aload_n dX6_raiseLevels_5 rfl rfl ?_
      refine mm_getr dX6_raiseLevels_6 rfl fl_X6_55 (c := 28) rfl (by decide) rfl rfl (hRN.at (c := 28) (i := 0) (v := 4) rfl (by decide)) ?_
      refine mm_get (kd := 0) dX6_raiseLevels_9 rfl fl_X6_102 (c := 3) rfl (by decide) rfl rfl ?_
      rw [est]
      refine mm_icge dX6_raiseLevels_12 (by omega) (by omega) (fun h12 => ?_) (fun h12 => ?_)
      · refine mm_iload_n dX6_raiseLevels_55 rfl rfl ?_
        refine mm_zret dX6_raiseLevels_56 rfl rfl (o3.imp And.left And.left) ?_
        rw [hΦ]; exact ⟨b, rfl, hRN, T1, fin⟩
      · exfalso; omega
  refine mm_start (ls := [(2, 29), (9, 0), (9, 0)]) rfl ?_
  refine mm_iconst dX6_raiseLevels_0 rfl ?_
  refine mm_istore_n dX6_raiseLevels_1 rfl (Nat.le_of_ble_eq_true rfl) rfl ?_
  refine mm_iconst dX6_raiseLevels_2 rfl ?_
  refine mm_istore_n dX6_raiseLevels_3 rfl (Nat.le_of_ble_eq_true rfl) rfl ?_
  exact loop 0 (Nat.zero_le _) M 0 T ⟨⟨hR, fun _ _ _ _ => rfl⟩, (hA.late (by omega)).mono (by omega), Or.inl ⟨rfl, rfl⟩, hst, fun y hy z => ⟨fun _ => by have := hF y hy z; omega, fun a => absurd a (by omega)⟩⟩
end
end
/-! HH.ring -/
section
/-! ===== KitePower$LoopFinder: takeRing ===== -/
theorem ka_sum_head (f : Nat → Int) : ∀ m : Nat, ka_sum f (m + 1) = f 0 + ka_sum (fun j => f (j + 1)) m
  | 0 => by show 0 + f 0 = f 0 + 0; omega
  | m + 1 => by
    have := ka_sum_head f m
    show ka_sum f (m + 1) + f (m + 1) = f 0 + (ka_sum (fun j => f (j + 1)) m + f (m + 1))
    omega
theorem ka_sum_rev (f : Nat → Int) : ∀ m : Nat, ka_sum (fun j => f (m - 1 - j)) m = ka_sum f m
  | 0 => rfl
  | m + 1 => by
    rw [ka_sum_head, ka_sum_congr (g := fun j => f (m - 1 - j)) (fun j hj => by show f (m + 1 - 1 - (j + 1)) = f (m - 1 - j); rw [show m + 1 - 1 - (j + 1) = m - 1 - j by omega]), ka_sum_rev f m]
    show f (m + 1 - 1 - 0) + ka_sum f m = ka_sum f m + f m
    rw [show m + 1 - 1 - 0 = m by omega]
    omega
/-- states, each raised by the next -/
def kv_C (N : mm_M) (n : Nat) (c r : Nat → Nat) (k : Nat) : Prop := ∀ j, j < k → N 37 (c j) = (r j : Int) ∧ kv_p N n (r j) (c (j + 1)) (c j)
theorem kv_C.ring {N : mm_M} {n m : Nat} {c r : Nat → Nat} (h : kv_C N n c r m) (h1 : 1 ≤ m) (he : c m = c 0) : kv_R N n (fun j => c (m - j)) (fun j => r (m - 1 - j)) m := by
  refine ⟨h1, by show c (m - m) = c (m - 0); rw [Nat.sub_self, Nat.sub_zero, he], fun j hj => ?_⟩
  have := h (m - 1 - j) (by omega)
  rw [show m - 1 - j + 1 = m - j by omega] at this
  show N 37 (c (m - (j + 1))) = _ ∧ kv_p N n _ (c (m - j)) (c (m - (j + 1)))
  rw [show m - (j + 1) = m - 1 - j by omega]
  exact this
section
variable {X : mm_X} {M : mm_M} {n : Nat}
theorem kv_G.w (hG : kv_G M n) {p u v : Nat} (hp : kv_p M n p u v) : -5800000 ≤ M 34 p ∧ M 34 p ≤ 5800000 := by
  obtain ⟨c0, c1, g1, g2, g3, g4, g5⟩ := hG u hp.2.1
  have a := hp.2.2.2.1
  have b := hp.2.2.2.2.1
  exact (g5 p (by omega) (by omega)).2.2
theorem c_X6_takeRing {c r : Nat → Nat} {m : Nat} {S C : Int} (hR : mm_Rf M) (hG : kv_G M n) (hn : M 3 2 = (n : Int)) (hn2 : n ≤ 288) (hS : M 28 16 = S) (hC : M 28 17 = C) (hSb : -2000000000 ≤ S ∧ S ≤ 2000000000) (hCb : 1 ≤ C ∧ C ≤ 288)
    (hc : kv_C M n c r m) (h1 : 1 ≤ m) (hm : m ≤ n) (he : c m = c 0) (hd : ∀ j, 0 < j → j < m → c j ≠ c 0) :
    mm_C X Y_X6_takeRing 243 243 [(2, 29), (0, (c 0 : Int))] M (fun r' M' => ∃ x, r' = (0, x) ∧ mm_Rf M' ∧ ((x = 0 ∧ M' = M ∧ C * ka_sum (fun j => M 34 (r j)) m ≤ S * m) ∨ (x = 1 ∧ S * m < C * ka_sum (fun j => M 34 (r j)) m ∧ M' = mm_up (mm_up M 28 16 (ka_sum (fun j => M 34 (r j)) m)) 28 17 (m : Int)))) := by
  obtain ⟨Φ, hΦ⟩ : ∃ Φ : mm_V → mm_M → Prop, Φ = (fun r' M' => ∃ x, r' = (0, x) ∧ mm_Rf M' ∧ ((x = 0 ∧ M' = M ∧ C * ka_sum (fun j => M 34 (r j)) m ≤ S * m) ∨ (x = 1 ∧ S * m < C * ka_sum (fun j => M 34 (r j)) m ∧ M' = mm_up (mm_up M 28 16 (ka_sum (fun j => M 34 (r j)) m)) 28 17 (m : Int)))) := ⟨_, rfl⟩
  rw [← hΦ]
  obtain ⟨g, hg⟩ : ∃ g, g = (fun j => M 34 (r j)) := ⟨_, rfl⟩
  have gb : ∀ j, j < m → -5800000 ≤ g j ∧ g j ≤ 5800000 := fun j hj => by rw [hg]; exact hG.w (hc j hj).2
  have sb : ∀ k, k ≤ m → -(5800000 * (k : Int)) ≤ ka_sum g k ∧ ka_sum g k ≤ 5800000 * (k : Int) := fun k hk => ka_sumb (fun j hj => gb j (by omega))
  rw [← hg] at hΦ
  have sm := sb m (Nat.le_refl m)
  have p1 := mm_mulB (a := ka_sum g m) (b := C) (A := 1670400000) (B := 288) (by omega) (by omega) (by omega) hCb.2
  have p2 := mm_mulB (a := S) (b := (m : Int)) (A := 2000000000) (B := 288) (by omega) (by omega) (by omega) (by omega)
  obtain ⟨y1, hy1⟩ : ∃ y, y = ka_sum g m * C := ⟨_, rfl⟩
  obtain ⟨y2, hy2⟩ : ∃ y, y = S * (m : Int) := ⟨_, rfl⟩
  rw [← hy1] at p1
  rw [← hy2] at p2
  rw [Int.mul_comm C, ← hy1, ← hy2] at hΦ
  have endd : mm_J X Y_X6_takeRing 243 243 243 59 [(2, 29), (0, (c 0 : Int)), (1, ka_sum g m), (9, 0), (0, (m : Int)), (9, 0)] [] M Φ := by
    refine mm_lload_n dX6_takeRing_59 rfl rfl ?_
    refine mm_aload_n dX6_takeRing_60 rfl rfl ?_
    refine mm_get (kd := 1) dX6_takeRing_61 rfl fl_X6_82 (c := 28) rfl (by decide) rfl rfl ?_
    refine mm_lmul dX6_takeRing_64 rfl ?_
    refine mm_aload_n dX6_takeRing_65 rfl rfl ?_
    refine mm_get (kd := 1) dX6_takeRing_66 rfl fl_X6_78 (c := 28) rfl (by decide) rfl rfl ?_
    refine mm_iload dX6_takeRing_69 rfl rfl ?_
    refine mm_i2l dX6_takeRing_71 rfl (by omega) ?_
    refine mm_lmul dX6_takeRing_72 rfl ?_
    rw [hC, hS, ← hy1, ← hy2]
    refine mm_lcmp dX6_takeRing_73 rfl (by omega) (by omega) ?_
    refine mm_ifgtc dX6_takeRing_74 (fun h74 => ?_) (fun h74 => ?_)
    · refine mm_aload_n dX6_takeRing_79 rfl rfl ?_
      refine mm_lload_n dX6_takeRing_80 rfl rfl ?_
      refine mm_putl dX6_takeRing_81 rfl fl_X6_78 (c := 28) rfl (by decide) rfl rfl (fun M81 hM81 => ?_)
      have hR81 : mm_Rf M81 := by rw [hM81]; exact hR.up rfl
      refine mm_aload_n dX6_takeRing_84 rfl rfl ?_
      refine mm_iload dX6_takeRing_85 rfl rfl ?_
      refine mm_i2l dX6_takeRing_87 rfl (by omega) ?_
      refine mm_putl dX6_takeRing_88 rfl fl_X6_82 (c := 28) rfl (by decide) rfl rfl (fun M88 hM88 => ?_)
      have hR88 : mm_Rf M88 := by rw [hM88]; exact hR81.up rfl
      refine mm_iconst dX6_takeRing_91 rfl ?_
      refine mm_zret dX6_takeRing_92 rfl rfl (Or.inr rfl) ?_
      rw [hΦ]; exact ⟨_, rfl, hR88, Or.inr ⟨rfl, by omega, by rw [hM88, hM81]⟩⟩
    · refine mm_iconst dX6_takeRing_77 rfl ?_
      refine mm_zret dX6_takeRing_78 rfl rfl (Or.inl rfl) ?_
      rw [hΦ]; exact ⟨_, rfl, hR, Or.inl ⟨rfl, rfl, by omega⟩⟩
  have loop : ∀ k : Nat, k ≤ m - 1 → mm_J X Y_X6_takeRing 243 243 243 8 [(2, 29), (0, (c 0 : Int)), (1, ka_sum g k), (9, 0), (0, (k : Int)), (0, (c k : Int))] [] M Φ := by
    refine mm_lp ?_
    intro k hk ih
    obtain ⟨q1, q2⟩ := hc k (by omega)
    have q3 := q2.2.2.1
    have q4 := q2.1
    have q5 := q2.2.2.2.2.2.1
    have eg : M 34 (r k) = g k := by rw [hg]
    have gk := gb k (by omega)
    have cn : c (k + 1) < n := q2.2.1
    have es : ka_sum g (k + 1) = ka_sum g k + g k := rfl
    have c0n : c 0 < n := (hc 0 (by omega)).2.2.2.1
    by_cases hlt : k + 1 < m
    · have go := ih (by omega)
      have ne := hd (k + 1) (by omega) hlt
      rw [es, show ((k + 1 : Nat) : Int) = (k : Int) + 1 by omega] at go
      refine mm_lload_n dX6_takeRing_8 rfl rfl ?_
      refine mm_aload_n dX6_takeRing_9 rfl rfl ?_
      refine mm_getr dX6_takeRing_10 rfl fl_X6_29 (c := 28) rfl (by decide) rfl rfl (hR.at (c := 28) (i := 7) (v := 35) rfl (by decide)) ?_
      refine mm_aload_n dX6_takeRing_13 rfl rfl ?_
      refine mm_getr dX6_takeRing_14 rfl fl_X6_39 (c := 28) rfl (by decide) rfl rfl (hR.at (c := 28) (i := 10) (v := 38) rfl (by decide)) ?_
      refine mm_iload dX6_takeRing_17 rfl rfl ?_
      refine mm_ialk (k0 := c k) dX6_takeRing_19 rfl (c := 37) rfl (by decide) rfl (by omega) (by omega) ?_
      rw [q1]
      refine mm_ialk (k0 := r k) dX6_takeRing_20 rfl (c := 34) rfl (by decide) rfl (by omega) (by omega) ?_
      rw [eg]
      refine mm_i2l dX6_takeRing_21 rfl (by omega) ?_
      refine mm_ladd dX6_takeRing_22 rfl ?_
      refine mm_lstore_n dX6_takeRing_23 rfl (Nat.le_of_ble_eq_true rfl) rfl ?_
      refine mm_iinc dX6_takeRing_24 rfl rfl (Nat.le_of_ble_eq_true rfl) rfl ?_
      refine mm_aload_n dX6_takeRing_27 rfl rfl ?_
      refine mm_getr dX6_takeRing_28 rfl fl_X6_23 (c := 28) rfl (by decide) rfl rfl (hR.at (c := 28) (i := 5) (v := 33) rfl (by decide)) ?_
      refine mm_aload_n dX6_takeRing_31 rfl rfl ?_
      refine mm_getr dX6_takeRing_32 rfl fl_X6_39 (c := 28) rfl (by decide) rfl rfl (hR.at (c := 28) (i := 10) (v := 38) rfl (by decide)) ?_
      refine mm_iload dX6_takeRing_35 rfl rfl ?_
      refine mm_ialk (k0 := c k) dX6_takeRing_37 rfl (c := 37) rfl (by decide) rfl (by omega) (by omega) ?_
      rw [q1]
      refine mm_ialk (k0 := r k) dX6_takeRing_38 rfl (c := 32) rfl (by decide) rfl (by omega) (by omega) ?_
      rw [q5]
      refine mm_istore dX6_takeRing_39 rfl (Nat.le_of_ble_eq_true rfl) rfl ?_
      refine mm_iload dX6_takeRing_41 rfl rfl ?_
      refine mm_iload_n dX6_takeRing_43 rfl rfl ?_
      refine mm_iceq dX6_takeRing_44 (by omega) (by omega) (fun h44 => ?_) (fun h44 => ?_)
      · exfalso; omega
      · refine mm_iload dX6_takeRing_47 rfl rfl ?_
        refine mm_aload_n dX6_takeRing_49 rfl rfl ?_
        refine mm_getr dX6_takeRing_50 rfl fl_X6_55 (c := 28) rfl (by decide) rfl rfl (hR.at (c := 28) (i := 0) (v := 4) rfl (by decide)) ?_
        refine mm_get (kd := 0) dX6_takeRing_53 rfl fl_X6_102 (c := 3) rfl (by decide) rfl rfl ?_
        rw [hn]
        refine mm_iclt dX6_takeRing_56 (by omega) (by omega) (fun h56 => ?_) (fun h56 => ?_)
        · exact go
        · exfalso; omega
    · have ek : k + 1 = m := by omega
      have ec : c (k + 1) = c 0 := by rw [ek, he]
      have go := endd
      rw [← ek, es, show ((k + 1 : Nat) : Int) = (k : Int) + 1 by omega] at go
      refine mm_lload_n dX6_takeRing_8 rfl rfl ?_
      refine mm_aload_n dX6_takeRing_9 rfl rfl ?_
      refine mm_getr dX6_takeRing_10 rfl fl_X6_29 (c := 28) rfl (by decide) rfl rfl (hR.at (c := 28) (i := 7) (v := 35) rfl (by decide)) ?_
      refine mm_aload_n dX6_takeRing_13 rfl rfl ?_
      refine mm_getr dX6_takeRing_14 rfl fl_X6_39 (c := 28) rfl (by decide) rfl rfl (hR.at (c := 28) (i := 10) (v := 38) rfl (by decide)) ?_
      refine mm_iload dX6_takeRing_17 rfl rfl ?_
      refine mm_ialk (k0 := c k) dX6_takeRing_19 rfl (c := 37) rfl (by decide) rfl (by omega) (by omega) ?_
      rw [q1]
      refine mm_ialk (k0 := r k) dX6_takeRing_20 rfl (c := 34) rfl (by decide) rfl (by omega) (by omega) ?_
      rw [eg]
      refine mm_i2l dX6_takeRing_21 rfl (by omega) ?_
      refine mm_ladd dX6_takeRing_22 rfl ?_
      refine mm_lstore_n dX6_takeRing_23 rfl (Nat.le_of_ble_eq_true rfl) rfl ?_
      refine mm_iinc dX6_takeRing_24 rfl rfl (Nat.le_of_ble_eq_true rfl) rfl ?_
      refine mm_aload_n dX6_takeRing_27 rfl rfl ?_
      refine mm_getr dX6_takeRing_28 rfl fl_X6_23 (c := 28) rfl (by decide) rfl rfl (hR.at (c := 28) (i := 5) (v := 33) rfl (by decide)) ?_
      refine mm_aload_n dX6_takeRing_31 rfl rfl ?_
      refine mm_getr dX6_takeRing_32 rfl fl_X6_39 (c := 28) rfl (by decide) rfl rfl (hR.at (c := 28) (i := 10) (v := 38) rfl (by decide)) ?_
      refine mm_iload dX6_takeRing_35 rfl rfl ?_
      refine mm_ialk (k0 := c k) dX6_takeRing_37 rfl (c := 37) rfl (by decide) rfl (by omega) (by omega) ?_
      rw [q1]
      refine mm_ialk (k0 := r k) dX6_takeRing_38 rfl (c := 32) rfl (by decide) rfl (by omega) (by omega) ?_
      rw [q5]
      refine mm_istore dX6_takeRing_39 rfl (Nat.le_of_ble_eq_true rfl) rfl ?_
      refine mm_iload dX6_takeRing_41 rfl rfl ?_
      refine mm_iload_n dX6_takeRing_43 rfl rfl ?_
      refine mm_iceq dX6_takeRing_44 (by omega) (by omega) (fun h44 => ?_) (fun h44 => ?_)
      · exact mm_drop (by repeat (first | exact trivial | refine And.intro (Or.inl rfl) ?_ | refine And.intro (Or.inr rfl) ?_)) go
      · exfalso; omega
  refine mm_start (ls := [(2, 29), (0, (c 0 : Int)), (9, 0), (9, 0), (9, 0), (9, 0)]) rfl ?_
  refine mm_lconst0 dX6_takeRing_0 rfl ?_
  refine mm_lstore_n dX6_takeRing_1 rfl (Nat.le_of_ble_eq_true rfl) rfl ?_
  refine mm_iconst dX6_takeRing_2 rfl ?_
  refine mm_istore dX6_takeRing_3 rfl (Nat.le_of_ble_eq_true rfl) rfl ?_
  refine mm_iload_n dX6_takeRing_5 rfl rfl ?_
  refine mm_istore dX6_takeRing_6 rfl (Nat.le_of_ble_eq_true rfl) rfl ?_
  exact loop 0 (Nat.zero_le _)
end
end
/-! HI.rings -/
section
/-! ===== KitePower$LoopFinder: takeBestRing ===== -/
/-- what raised a state, and what raised that, and so on: it ends behind d steps -/
def kv_e (N : mm_M) (n : Nat) : Nat → Nat → Prop
  | 0, v => N 37 v = -1
  | d + 1, v => ∃ p u : Nat, N 37 v = (p : Int) ∧ kv_p N n p u v ∧ kv_e N n d u
theorem kv_C.end {N : mm_M} {n k : Nat} {c r : Nat → Nat} (h : kv_C N n c r k) {d : Nat} (he : kv_e N n d (c k)) : ∀ i : Nat, i ≤ k → kv_e N n (d + i) (c (k - i)) := by
  intro i
  induction i with
  | zero => intro _; exact he
  | succ i ih =>
    intro hi
    have := h (k - (i + 1)) (by omega)
    rw [show k - (i + 1) + 1 = k - i by omega] at this
    exact ⟨r (k - (i + 1)), c (k - i), this.1, this.2, ih (by omega)⟩
def kv_h (M N : mm_M) : Prop := mm_Rf N ∧ (∀ a, a ≠ 28 → a ≠ 39 → N a = M a) ∧ ∀ b, b ≠ 16 → b ≠ 17 → N 28 b = M 28 b
theorem kv_h.p {M N : mm_M} (f : kv_h M N) {n p u v : Nat} : kv_p N n p u v ↔ kv_p M n p u v := by
  unfold kv_p
  rw [f.2.1 31 (by decide) (by decide), f.2.1 32 (by decide) (by decide), f.2.1 33 (by decide) (by decide)]
theorem kv_h.G {M N : mm_M} (f : kv_h M N) {n : Nat} (h : kv_G M n) : kv_G N n := by
  unfold kv_G at h ⊢
  rw [f.2.1 31 (by decide) (by decide), f.2.1 32 (by decide) (by decide), f.2.1 33 (by decide) (by decide), f.2.1 34 (by decide) (by decide)]
  exact h
theorem kv_h.C {M N : mm_M} (f : kv_h M N) {n k : Nat} {c r : Nat → Nat} (h : kv_C M n c r k) : kv_C N n c r k := fun j hj => by
  rw [f.2.1 37 (by decide) (by decide)]
  exact ⟨(h j hj).1, f.p.mpr (h j hj).2⟩
/-- the mean as it stands: that of a ring, or as it was -/
def kv_Q (M N : mm_M) (n : Nat) (S C b : Int) (P : Prop) : Prop := (b = 0 ∧ N 28 16 = S ∧ N 28 17 = C ∧ P) ∨ (b = 1 ∧ ∃ q r m, kv_R M n q r m ∧ m ≤ n ∧ N 28 16 = ka_sum (fun j => M 34 (r j)) m ∧ N 28 17 = (m : Int))
theorem kv_Q.b {M N : mm_M} {n : Nat} {S C b : Int} {P : Prop} (h : kv_Q M N n S C b P) (hG : kv_G M n) (hn2 : n ≤ 288) (hSb : -2000000000 ≤ S ∧ S ≤ 2000000000) (hCb : 1 ≤ C ∧ C ≤ 288) : (-2000000000 ≤ N 28 16 ∧ N 28 16 ≤ 2000000000) ∧ 1 ≤ N 28 17 ∧ N 28 17 ≤ 288 := by
  rcases h with ⟨-, q1, q2, -⟩ | ⟨-, q, r, m, r1, r2, r3, r4⟩
  · rw [q1, q2]; exact ⟨hSb, hCb⟩
  · have := ka_sumb (f := fun j => M 34 (r j)) (B := 5800000) (n := m) (fun j hj => hG.w (r1.2.2 j hj).2)
    have h1 := r1.1
    rw [r3, r4]
    omega
section
variable {X : mm_X} {M : mm_M} {n : Nat}
theorem c_X6_takeBestRing {t : Nat} {S C B : Int} {T : Nat → Nat} (hR : mm_Rf M) (hG : kv_G M n) (hn : M 3 2 = (n : Int)) (hn2 : n ≤ 288) (hS : M 28 16 = S) (hC : M 28 17 = C) (hSb : -2000000000 ≤ S ∧ S ≤ 2000000000) (hCb : 1 ≤ C ∧ C ≤ 288) (hA : kv_A M n S C T t B) :
    mm_C X Y_X6_takeBestRing 243 243 [(2, 29)] M (fun r M' => ∃ x, r = (0, x) ∧ mm_Rf M' ∧ kv_h M M' ∧ kv_Q M M' n S C x (∀ v, v < n → ∃ d, kv_e M n d v)) := by
  obtain ⟨Φ, hΦ⟩ : ∃ Φ : mm_V → mm_M → Prop, Φ = (fun r M' => ∃ x, r = (0, x) ∧ mm_Rf M' ∧ kv_h M M' ∧ kv_Q M M' n S C x (∀ v, v < n → ∃ d, kv_e M n d v)) := ⟨_, rfl⟩
  rw [← hΦ]
  -- marks, ahead of state s
  obtain ⟨J, hJ⟩ : ∃ J : mm_M → Int → Nat → Prop, J = (fun N b s => kv_h M N ∧ (∀ v, v < n → N 39 v = -1 ∨ ∃ a : Nat, a < s ∧ N 39 v = (a : Int)) ∧ kv_Q M N n S C b ((∀ v, v < n → N 39 v ≠ -1 → ∃ d, kv_e M n d v) ∧ ∀ v, v < s → N 39 v ≠ -1 ∨ M 37 v = -1)) := ⟨_, rfl⟩
  have par : ∀ v, v < n → M 37 v ≠ -1 → ∃ p u : Nat, M 37 v = (p : Int) ∧ kv_p M n p u v := by
    intro v hv hne
    rcases hA.2.1 v hv with q | ⟨p, u, q1, q2, -⟩
    · exact absurd q.1 hne
    · exact ⟨p, u, q1, q2⟩
  have m37 : ∀ v, v < n → -1 ≤ M 37 v ∧ M 37 v ≤ 4320 := by
    intro v hv
    rcases hA.2.1 v hv with q | ⟨p, u, q1, q2, -⟩
    · omega
    · have := q2.1; omega
  -- one walk
  have walk : ∀ s : Nat, s < n → ∀ b N0, J N0 b s →
      (∀ N b', J N b' (s + 1) → mm_J X Y_X6_takeBestRing 243 243 243 12 [(2, 29), (0, b'), (0, (s : Int) + 1), (9, 0), (9, 0)] [] N Φ) →
      ∀ i : Nat, i ≤ n → ∀ N (c r : Nat → Nat), kv_h M N → N 28 = N0 28 → c 0 = s → c i < n → kv_C M n c r i → (∀ j, j < i → c j < n ∧ N 39 (c j) = (s : Int)) → (∀ j j', j < j' → j' < i → c j ≠ c j') → (∀ v, (∀ j, j < i → c j ≠ v) → N 39 v = N0 39 v) →
      mm_J X Y_X6_takeBestRing 243 243 243 28 [(2, 29), (0, b), (0, (s : Int)), (0, (c i : Int)), (0, (i : Int))] [] N Φ := by
    intro s hs b N0 h0 out
    rw [hJ] at h0
    obtain ⟨j1, j2, j3⟩ := h0
    have hb01 : b = 0 ∨ b = 1 := j3.imp And.left And.left
    refine mm_lp ?_
    intro i hi ih N c r hh h28 hc0 hci hC1 hmk hdi hot
    have hRN := hh.1
    have est : N 3 2 = (n : Int) := by rw [hh.2.1 3 (by decide) (by decide)]; exact hn
    have e37 : N 37 = M 37 := hh.2.1 37 (by decide) (by decide)
    have e32 : N 32 = M 32 := hh.2.1 32 (by decide) (by decide)
    -- what is marked now was marked before, or in this walk
    have mkb : ∀ v, v < n → -1 ≤ N 39 v ∧ N 39 v ≤ (s : Int) := by
      intro v hv
      by_cases c1 : ∃ j, j < i ∧ c j = v
      · obtain ⟨j, a1, a2⟩ := c1
        rw [← a2, (hmk j a1).2]; omega
      · rw [hot v (fun j hj e => c1 ⟨j, hj, e⟩)]
        rcases j2 v hv with q | ⟨a, a1, a2⟩ <;> omega
    have mks : ∀ v, v < n → N 39 v = (s : Int) → ∃ j, j < i ∧ c j = v := by
      intro v hv e
      by_cases c1 : ∃ j, j < i ∧ c j = v
      · exact c1
      · exfalso
        rw [hot v (fun j hj e => c1 ⟨j, hj, e⟩)] at e
        rcases j2 v hv with q | ⟨a, a1, a2⟩ <;> omega
    -- the walk is over
    have over : (i = n ∨ N 39 (c i) ≠ -1 ∨ M 37 (c i) = -1) → mm_J X Y_X6_takeBestRing 243 243 243 85 [(2, 29), (0, b), (0, (s : Int)), (0, (c i : Int)), (9, 0)] [] N Φ := by
      intro stop
      have mb := mkb (c i) hci
      have J2 : ∀ P : mm_M, P 39 = N 39 → ∀ v, v < n → P 39 v = -1 ∨ ∃ a : Nat, a < s + 1 ∧ P 39 v = (a : Int) := by
        intro P hP v hv
        have := mkb v hv
        rw [hP]
        by_cases q : N 39 v = -1
        · exact Or.inl q
        · exact Or.inr ⟨(N 39 v).toNat, by omega, by omega⟩
      by_cases hit : N 39 (c i) = (s : Int)
      · obtain ⟨j0, a1, a2⟩ := mks (c i) hci hit
        have hC2 : kv_C M n (fun j => c (j0 + j)) (fun j => r (j0 + j)) (i - j0) := fun j hj => hC1 (j0 + j) (by omega)
        have hring := hC2.ring (by omega) (by show c (j0 + (i - j0)) = c (j0 + 0); rw [show j0 + (i - j0) = i by omega]; exact a2.symm)
        have big := hA.ring hring
        have er : ka_sum (fun j => M 34 (r (j0 + (i - j0 - 1 - j)))) (i - j0) = ka_sum (fun j => M 34 (r (j0 + j))) (i - j0) := ka_sum_rev (fun j => M 34 (r (j0 + j))) (i - j0)
        have big : S * ((i - j0 : Nat) : Int) < C * ka_sum (fun j => M 34 (r (j0 + j))) (i - j0) := by rw [← er]; exact big
        have qb := j3.b hG hn2 hSb hCb
        rw [← h28] at qb
        have ct := c_X6_takeRing (X := X) (M := N) (n := n) (c := fun j => c (j0 + j)) (r := fun j => r (j0 + j)) (m := i - j0) (S := N 28 16) (C := N 28 17) hRN (hh.G hG) est hn2 rfl rfl qb.1 qb.2 (hh.C hC2) (by omega) (by omega) (by show c (j0 + (i - j0)) = c (j0 + 0); rw [show j0 + (i - j0) = i by omega]; exact a2.symm) (fun j x1 x2 => by
          show c (j0 + j) ≠ c (j0 + 0)
          exact fun e => hdi (j0 + 0) (j0 + j) (by omega) (by omega) e.symm)
        have ct2 : mm_C X Y_X6_takeRing 243 243 [(2, 29), (0, (c i : Int))] N (fun r' M' => ∃ x, r' = (0, x) ∧ mm_Rf M' ∧ (x = 0 ∨ x = 1) ∧ ∀ b', ((b' = 1 ∧ (x ≠ 0 ∨ b ≠ 0)) ∨ (b' = 0 ∧ x = 0 ∧ b = 0)) → J M' b' (s + 1)) := by
          have e0 : c (j0 + 0) = c i := by rw [Nat.add_zero]; exact a2
          rw [← e0]
          refine mm_C.mono ct ?_
          rintro r' P ⟨x, x1, x2, x3⟩
          have e34 : N 34 = M 34 := hh.2.1 34 (by decide) (by decide)
          rw [e34] at x3
          rcases x3 with ⟨y1, y2, y3⟩ | ⟨y1, y2, y3⟩
          · refine ⟨x, x1, x2, Or.inl y1, fun b' hb' => ?_⟩
            rw [hJ, y2]
            refine ⟨hh, J2 N rfl, ?_⟩
            rcases j3 with ⟨z1, z2, z3, z4⟩ | ⟨z1, z2⟩
            · exfalso
              rw [h28, z2, z3] at y3
              omega
            · right
              rw [h28]
              exact ⟨by omega, z2⟩
          · refine ⟨x, x1, x2, Or.inr y1, fun b' hb' => ?_⟩
            rw [hJ]
            refine ⟨⟨x2, fun a a1' a2' => by rw [y3, mm_up_row a1', mm_up_row a1']; exact hh.2.1 a a1' a2', fun b b1 b2 => by rw [y3, mm_up_i b2, mm_up_i b1]; exact hh.2.2 b b1 b2⟩, J2 P (by rw [y3, mm_up_row (by decide), mm_up_row (by decide)]), Or.inr ⟨by omega, _, _, i - j0, hring, by omega, ?_, by rw [y3, mm_up_s]⟩⟩
            rw [y3, mm_up_i (by decide), mm_up_s]
            exact er.symm
        refine mm_aload_n dX6_takeBestRing_85 rfl rfl ?_
        refine mm_getr dX6_takeBestRing_86 rfl fl_X6_46 (c := 28) rfl (by decide) rfl rfl (hRN.at (c := 28) (i := 12) (v := 40) rfl (by decide)) ?_
        refine mm_iload_n dX6_takeBestRing_89 rfl rfl ?_
        refine mm_ialk (k0 := c i) dX6_takeBestRing_90 rfl (c := 39) rfl (by decide) rfl (by omega) (by omega) ?_
        rw [hit]
        refine mm_iload_n dX6_takeBestRing_91 rfl rfl ?_
        refine mm_icne dX6_takeBestRing_92 (by omega) (by omega) (fun h92 => ?_) (fun h92 => ?_)
        · exfalso; omega
        · refine mm_aload_n dX6_takeBestRing_95 rfl rfl ?_
          refine mm_iload_n dX6_takeBestRing_96 rfl rfl ?_
          refine mm_V1g (M1 := N) dX6_takeBestRing_97 rfl lk_X6_186 (c := 28) rfl (by decide) rfl (by simp) rfl rfl rfl (ct2) ?_
          rintro _ N97 ⟨x97, rfl, p97⟩
          change mm_J _ _ _ _ _ _ _ _ _ _
          have hR97 : mm_Rf N97 := p97.1
          have hx97 := p97.2.1
          refine mm_ifne dX6_takeBestRing_100 (by omega) (fun h100 => ?_) (fun h100 => ?_)
          · refine mm_iconst dX6_takeBestRing_107 rfl ?_
            refine mm_goto dX6_takeBestRing_108 ?_
            refine mm_istore_n dX6_takeBestRing_112 rfl (Nat.le_of_ble_eq_true rfl) rfl ?_
            refine mm_iinc dX6_takeBestRing_113 rfl rfl (Nat.le_of_ble_eq_true rfl) rfl ?_
            refine mm_goto dX6_takeBestRing_116 ?_
            first
            | exact mm_drop (by repeat (first | exact trivial | refine And.intro (Or.inl rfl) ?_ | refine And.intro (Or.inr rfl) ?_)) (out N97 1 (p97.2.2 1 (by omega)))
            | exact mm_drop (by repeat (first | exact trivial | refine And.intro (Or.inl rfl) ?_ | refine And.intro (Or.inr rfl) ?_)) (out N97 0 (p97.2.2 0 (by omega)))
          · refine mm_iload_n dX6_takeBestRing_103 rfl rfl ?_
            refine mm_ifeq dX6_takeBestRing_104 (by omega) (fun h104 => ?_) (fun h104 => ?_)
            · refine mm_iconst dX6_takeBestRing_111 rfl ?_
              refine mm_istore_n dX6_takeBestRing_112 rfl (Nat.le_of_ble_eq_true rfl) rfl ?_
              refine mm_iinc dX6_takeBestRing_113 rfl rfl (Nat.le_of_ble_eq_true rfl) rfl ?_
              refine mm_goto dX6_takeBestRing_116 ?_
              first
              | exact mm_drop (by repeat (first | exact trivial | refine And.intro (Or.inl rfl) ?_ | refine And.intro (Or.inr rfl) ?_)) (out N97 1 (p97.2.2 1 (by omega)))
              | exact mm_drop (by repeat (first | exact trivial | refine And.intro (Or.inl rfl) ?_ | refine And.intro (Or.inr rfl) ?_)) (out N97 0 (p97.2.2 0 (by omega)))
            · refine mm_iconst dX6_takeBestRing_107 rfl ?_
              refine mm_goto dX6_takeBestRing_108 ?_
              refine mm_istore_n dX6_takeBestRing_112 rfl (Nat.le_of_ble_eq_true rfl) rfl ?_
              refine mm_iinc dX6_takeBestRing_113 rfl rfl (Nat.le_of_ble_eq_true rfl) rfl ?_
              refine mm_goto dX6_takeBestRing_116 ?_
              first
              | exact mm_drop (by repeat (first | exact trivial | refine And.intro (Or.inl rfl) ?_ | refine And.intro (Or.inr rfl) ?_)) (out N97 1 (p97.2.2 1 (by omega)))
              | exact mm_drop (by repeat (first | exact trivial | refine And.intro (Or.inl rfl) ?_ | refine And.intro (Or.inr rfl) ?_)) (out N97 0 (p97.2.2 0 (by omega)))
      · have go : J N b (s + 1) := by
          rw [hJ]
          refine ⟨hh, J2 N rfl, ?_⟩
          rcases j3 with ⟨z1, z2, z3, z4, z5⟩ | ⟨z1, z2⟩
          · left
            have ends : ∃ d, kv_e M n d (c i) := by
              by_cases q1 : M 37 (c i) = -1
              · exact ⟨0, q1⟩
              · by_cases q2 : N 39 (c i) = -1
                · exfalso
                  have ei : i = n := by
                    rcases stop with q | q | q
                    · exact q
                    · exact absurd q2 q
                    · exact absurd q q1
                  obtain ⟨x, y, x1, x2, x3⟩ := gz_pig n c (fun k hk => by
                    by_cases ck : k = i
                    · rw [ck]; exact hci
                    · exact (hmk k (by omega)).1)
                  by_cases cy : y = i
                  · rw [cy] at x3
                    have := (hmk x (by omega)).2
                    rw [x3] at this
                    omega
                  · exact hdi x y x1 (by omega) x3
                · have ne : ∀ j, j < i → c j ≠ c i := fun j hj e => hit (by rw [← e]; exact (hmk j hj).2)
                  have old := hot (c i) ne
                  exact z4 (c i) hci (by rw [← old]; exact q2)
            obtain ⟨d, hd⟩ := ends
            refine ⟨z1, by rw [h28]; exact z2, by rw [h28]; exact z3, fun v hv hm => ?_, fun v hv => ?_⟩
            · by_cases c1 : ∃ j, j < i ∧ c j = v
              · obtain ⟨j, a1, a2⟩ := c1
                have := hC1.end hd (i - j) (by omega)
                rw [show i - (i - j) = j by omega, a2] at this
                exact ⟨_, this⟩
              · rw [hot v (fun j hj e => c1 ⟨j, hj, e⟩)] at hm
                exact z4 v hv hm
            · by_cases cv : v = s
              · rw [cv]
                by_cases i0 : i = 0
                · rw [i0, hc0] at stop
                  rcases stop with q | q | q
                  · omega
                  · exact Or.inl q
                  · exact Or.inr q
                · left
                  have := (hmk 0 (by omega)).2
                  rw [hc0] at this
                  rw [this]; omega
              · by_cases c1 : ∃ j, j < i ∧ c j = v
                · obtain ⟨j, a1, a2⟩ := c1
                  left
                  rw [← a2, (hmk j a1).2]; omega
                · rw [hot v (fun j hj e => c1 ⟨j, hj, e⟩)]
                  exact z5 v (by omega)
          · right
            rw [h28]
            exact ⟨z1, z2⟩
        have go2 := out N b go
        refine mm_aload_n dX6_takeBestRing_85 rfl rfl ?_
        refine mm_getr dX6_takeBestRing_86 rfl fl_X6_46 (c := 28) rfl (by decide) rfl rfl (hRN.at (c := 28) (i := 12) (v := 40) rfl (by decide)) ?_
        refine mm_iload_n dX6_takeBestRing_89 rfl rfl ?_
        refine mm_ialk (k0 := c i) dX6_takeBestRing_90 rfl (c := 39) rfl (by decide) rfl (by omega) (by omega) ?_
        refine mm_iload_n dX6_takeBestRing_91 rfl rfl ?_
        refine mm_icne dX6_takeBestRing_92 (by omega) (by omega) (fun h92 => ?_) (fun h92 => ?_)
        · refine mm_iinc dX6_takeBestRing_113 rfl rfl (Nat.le_of_ble_eq_true rfl) rfl ?_
          refine mm_goto dX6_takeBestRing_116 ?_
          exact mm_drop (by repeat (first | exact trivial | refine And.intro (Or.inl rfl) ?_ | refine And.intro (Or.inr rfl) ?_)) go2
        · exact absurd (by omega) hit
    have mb := mkb (c i) hci
    have mq := m37 (c i) hci
    by_cases hlt : i < n ∧ N 39 (c i) = -1 ∧ M 37 (c i) ≠ -1
    · obtain ⟨l1, l2, l3⟩ := hlt
      obtain ⟨p, u, p1, p2⟩ := par (c i) hci l3
      have p3 := p2.1
      have un := p2.2.1
      have p4 := p2.2.2.2.2.2.1
      have nw : ∀ j, j < i → c j ≠ c i := fun j hj e => by
        have := (hmk j hj).2
        rw [e] at this
        omega
      have go : ∀ P, mm_Rf P → P = mm_up N 39 (c i) (s : Int) → mm_J X Y_X6_takeBestRing 243 243 243 28 [(2, 29), (0, b), (0, (s : Int)), (0, (u : Int)), (0, (i : Int) + 1)] [] P Φ := by
        intro P hRP hP
        have ec : ∀ j, j ≤ i → (if j ≤ i then c j else u) = c j := fun j hj => if_pos hj
        have g := ih l1 P (fun j => if j ≤ i then c j else u) (fun j => if j < i then r j else p) ⟨hRP, fun a a1 a2 => by rw [hP, mm_up_row a2]; exact hh.2.1 a a1 a2, fun b b1 b2 => by rw [hP, mm_up_c (by decide)]; exact hh.2.2 b b1 b2⟩ (by rw [hP, mm_up_row (by decide)]; exact h28) (by show (if 0 ≤ i then c 0 else u) = s; rw [ec 0 (by omega)]; exact hc0) (by show (if i + 1 ≤ i then c (i + 1) else u) < n; rw [if_neg (by omega)]; exact un) (fun j hj => by
          show M 37 (if j ≤ i then c j else u) = ((if j < i then r j else p : Nat) : Int) ∧ kv_p M n (if j < i then r j else p) (if j + 1 ≤ i then c (j + 1) else u) (if j ≤ i then c j else u)
          rw [ec j (by omega)]
          by_cases cj : j = i
          · rw [cj, if_neg (by omega), if_neg (by omega)]
            exact ⟨p1, p2⟩
          · rw [if_pos (by omega), if_pos (by omega)]
            exact hC1 j (by omega)) (fun j hj => by
          show (if j ≤ i then c j else u) < n ∧ P 39 (if j ≤ i then c j else u) = (s : Int)
          rw [ec j (by omega), hP]
          by_cases cj : j = i
          · rw [cj, mm_up_s]; exact ⟨hci, rfl⟩
          · rw [mm_up_i (nw j (by omega))]
            exact hmk j (by omega)) (fun j j' x1 x2 => by
          show (if j ≤ i then c j else u) ≠ (if j' ≤ i then c j' else u)
          rw [ec j (by omega), ec j' (by omega)]
          by_cases cj : j' = i
          · rw [cj]; exact nw j (by omega)
          · exact hdi j j' x1 (by omega)) (fun v hv => by
          have h1 := hv i (by omega)
          have h1 : (if i ≤ i then c i else u) ≠ v := h1
          rw [ec i (Nat.le_refl i)] at h1
          rw [hP, mm_up_i (fun e => h1 e.symm)]
          exact hot v (fun j hj => by
            have h2 : (if j ≤ i then c j else u) ≠ v := hv j (by omega)
            rw [ec j (by omega)] at h2
            exact h2))
        have e1 : (if i + 1 ≤ i then c (i + 1) else u) = u := if_neg (by omega)
        have g : mm_J X Y_X6_takeBestRing 243 243 243 28 [(2, 29), (0, b), (0, (s : Int)), (0, ((if i + 1 ≤ i then c (i + 1) else u : Nat) : Int)), (0, ((i + 1 : Nat) : Int))] [] P Φ := g
        rw [e1, show ((i + 1 : Nat) : Int) = (i : Int) + 1 by omega] at g
        exact g
      refine mm_iload dX6_takeBestRing_28 rfl rfl ?_
      refine mm_aload_n dX6_takeBestRing_30 rfl rfl ?_
      refine mm_getr dX6_takeBestRing_31 rfl fl_X6_55 (c := 28) rfl (by decide) rfl rfl (hRN.at (c := 28) (i := 0) (v := 4) rfl (by decide)) ?_
      refine mm_get (kd := 0) dX6_takeBestRing_34 rfl fl_X6_102 (c := 3) rfl (by decide) rfl rfl ?_
      rw [est]
      refine mm_icge dX6_takeBestRing_37 (by omega) (by omega) (fun h37 => ?_) (fun h37 => ?_)
      · exfalso; omega
      · refine mm_aload_n dX6_takeBestRing_40 rfl rfl ?_
        refine mm_getr dX6_takeBestRing_41 rfl fl_X6_46 (c := 28) rfl (by decide) rfl rfl (hRN.at (c := 28) (i := 12) (v := 40) rfl (by decide)) ?_
        refine mm_iload_n dX6_takeBestRing_44 rfl rfl ?_
        refine mm_ialk (k0 := c i) dX6_takeBestRing_45 rfl (c := 39) rfl (by decide) rfl (by omega) (by omega) ?_
        refine mm_iconst dX6_takeBestRing_46 rfl ?_
        refine mm_icne dX6_takeBestRing_47 (by omega) (by omega) (fun h47 => ?_) (fun h47 => ?_)
        · exfalso; omega
        · refine mm_aload_n dX6_takeBestRing_50 rfl rfl ?_
          refine mm_getr dX6_takeBestRing_51 rfl fl_X6_39 (c := 28) rfl (by decide) rfl rfl (hRN.at (c := 28) (i := 10) (v := 38) rfl (by decide)) ?_
          refine mm_iload_n dX6_takeBestRing_54 rfl rfl ?_
          refine mm_ialk (k0 := c i) dX6_takeBestRing_55 rfl (c := 37) rfl (by decide) rfl (by omega) (by omega) ?_
          rw [e37]
          refine mm_iconst dX6_takeBestRing_56 rfl ?_
          refine mm_iceq dX6_takeBestRing_57 (by omega) (by omega) (fun h57 => ?_) (fun h57 => ?_)
          · exfalso; omega
          · refine mm_aload_n dX6_takeBestRing_60 rfl rfl ?_
            refine mm_getr dX6_takeBestRing_61 rfl fl_X6_46 (c := 28) rfl (by decide) rfl rfl (hRN.at (c := 28) (i := 12) (v := 40) rfl (by decide)) ?_
            refine mm_iload_n dX6_takeBestRing_64 rfl rfl ?_
            refine mm_iload_n dX6_takeBestRing_65 rfl rfl ?_
            refine mm_istk (k0 := c i) dX6_takeBestRing_66 rfl (c := 39) rfl (by decide) rfl (by omega) (by omega) (fun M66 hM66 => ?_)
            have hR66 : mm_Rf M66 := by rw [hM66]; exact hRN.up (mm_rt_ar (t := 0) rfl (by decide))
            refine mm_aload_n dX6_takeBestRing_67 rfl rfl ?_
            refine mm_getr dX6_takeBestRing_68 rfl fl_X6_23 (c := 28) rfl (by decide) rfl rfl (hR66.at (c := 28) (i := 5) (v := 33) rfl (by decide)) ?_
            refine mm_aload_n dX6_takeBestRing_71 rfl rfl ?_
            refine mm_getr dX6_takeBestRing_72 rfl fl_X6_39 (c := 28) rfl (by decide) rfl rfl (hR66.at (c := 28) (i := 10) (v := 38) rfl (by decide)) ?_
            refine mm_iload_n dX6_takeBestRing_75 rfl rfl ?_
            refine mm_ialk (k0 := c i) dX6_takeBestRing_76 rfl (c := 37) rfl (by decide) rfl (by omega) (by omega) ?_
            rw [show M66 37 = M 37 by rw [hM66, mm_up_row (by decide), e37], p1]
            refine mm_ialk (k0 := p) dX6_takeBestRing_77 rfl (c := 32) rfl (by decide) rfl (by omega) (by omega) ?_
            rw [show M66 32 = M 32 by rw [hM66, mm_up_row (by decide), e32], p4]
            refine mm_istore_n dX6_takeBestRing_78 rfl (Nat.le_of_ble_eq_true rfl) rfl ?_
            refine mm_iinc dX6_takeBestRing_79 rfl rfl (Nat.le_of_ble_eq_true rfl) rfl ?_
            refine mm_goto dX6_takeBestRing_82 ?_
            exact go _ hR66 hM66
    · have stop : i = n ∨ N 39 (c i) ≠ -1 ∨ M 37 (c i) = -1 := by omega
      have go := over stop
      refine mm_iload dX6_takeBestRing_28 rfl rfl ?_
      refine mm_aload_n dX6_takeBestRing_30 rfl rfl ?_
      refine mm_getr dX6_takeBestRing_31 rfl fl_X6_55 (c := 28) rfl (by decide) rfl rfl (hRN.at (c := 28) (i := 0) (v := 4) rfl (by decide)) ?_
      refine mm_get (kd := 0) dX6_takeBestRing_34 rfl fl_X6_102 (c := 3) rfl (by decide) rfl rfl ?_
      rw [est]
      refine mm_icge dX6_takeBestRing_37 (by omega) (by omega) (fun h37 => ?_) (fun h37 => ?_)
      · exact mm_drop (by repeat (first | exact trivial | refine And.intro (Or.inl rfl) ?_ | refine And.intro (Or.inr rfl) ?_)) go
      · refine mm_aload_n dX6_takeBestRing_40 rfl rfl ?_
        refine mm_getr dX6_takeBestRing_41 rfl fl_X6_46 (c := 28) rfl (by decide) rfl rfl (hRN.at (c := 28) (i := 12) (v := 40) rfl (by decide)) ?_
        refine mm_iload_n dX6_takeBestRing_44 rfl rfl ?_
        refine mm_ialk (k0 := c i) dX6_takeBestRing_45 rfl (c := 39) rfl (by decide) rfl (by omega) (by omega) ?_
        refine mm_iconst dX6_takeBestRing_46 rfl ?_
        refine mm_icne dX6_takeBestRing_47 (by omega) (by omega) (fun h47 => ?_) (fun h47 => ?_)
        · exact mm_drop (by repeat (first | exact trivial | refine And.intro (Or.inl rfl) ?_ | refine And.intro (Or.inr rfl) ?_)) go
        · refine mm_aload_n dX6_takeBestRing_50 rfl rfl ?_
          refine mm_getr dX6_takeBestRing_51 rfl fl_X6_39 (c := 28) rfl (by decide) rfl rfl (hRN.at (c := 28) (i := 10) (v := 38) rfl (by decide)) ?_
          refine mm_iload_n dX6_takeBestRing_54 rfl rfl ?_
          refine mm_ialk (k0 := c i) dX6_takeBestRing_55 rfl (c := 37) rfl (by decide) rfl (by omega) (by omega) ?_
          rw [e37]
          refine mm_iconst dX6_takeBestRing_56 rfl ?_
          refine mm_iceq dX6_takeBestRing_57 (by omega) (by omega) (fun h57 => ?_) (fun h57 => ?_)
          · exact mm_drop (by repeat (first | exact trivial | refine And.intro (Or.inl rfl) ?_ | refine And.intro (Or.inr rfl) ?_)) go
          · exfalso; omega
  have loop : ∀ s : Nat, s ≤ n → ∀ N b, J N b s → mm_J X Y_X6_takeBestRing 243 243 243 12 [(2, 29), (0, b), (0, (s : Int)), (9, 0), (9, 0)] [] N Φ := by
    refine mm_lp ?_
    intro s hs ih N b hJN
    have h0 := hJN
    rw [hJ] at h0
    obtain ⟨j1, j2, j3⟩ := h0
    have hRN := j1.1
    have est : N 3 2 = (n : Int) := by rw [j1.2.1 3 (by decide) (by decide)]; exact hn
    by_cases hlt : s < n
    · have go := walk s hlt b N hJN (fun P b' hP => by
        have := ih hlt P b' hP
        rw [show ((s + 1 : Nat) : Int) = (s : Int) + 1 by omega] at this
        exact this) 0 (Nat.zero_le _) N (fun _ => s) (fun _ => 0) j1 rfl rfl hlt (fun j hj => absurd hj (by omega)) (fun j hj => absurd hj (by omega)) (fun j j' x1 x2 => absurd x2 (by omega)) (fun v _ => rfl)
      refine mm_iload_n dX6_takeBestRing_12 rfl rfl ?_
      refine mm_aload_n dX6_takeBestRing_13 rfl rfl ?_
      refine mm_getr dX6_takeBestRing_14 rfl fl_X6_55 (c := 28) rfl (by decide) rfl rfl (hRN.at (c := 28) (i := 0) (v := 4) rfl (by decide)) ?_
      refine mm_get (kd := 0) dX6_takeBestRing_17 rfl fl_X6_102 (c := 3) rfl (by decide) rfl rfl ?_
      rw [est]
      refine mm_icge dX6_takeBestRing_20 (by omega) (by omega) (fun h20 => ?_) (fun h20 => ?_)
      · exfalso; omega
      · refine mm_iload_n dX6_takeBestRing_23 rfl rfl ?_
        refine mm_istore_n dX6_takeBestRing_24 rfl (Nat.le_of_ble_eq_true rfl) rfl ?_
        refine mm_iconst dX6_takeBestRing_25 rfl ?_
        refine mm_istore dX6_takeBestRing_26 rfl (Nat.le_of_ble_eq_true rfl) rfl ?_
        exact go
    · have es : s = n := by omega
      subst es
      refine mm_iload_n dX6_takeBestRing_12 rfl rfl ?_
      refine mm_aload_n dX6_takeBestRing_13 rfl rfl ?_
      refine mm_getr dX6_takeBestRing_14 rfl fl_X6_55 (c := 28) rfl (by decide) rfl rfl (hRN.at (c := 28) (i := 0) (v := 4) rfl (by decide)) ?_
      refine mm_get (kd := 0) dX6_takeBestRing_17 rfl fl_X6_102 (c := 3) rfl (by decide) rfl rfl ?_
      rw [est]
      refine mm_icge dX6_takeBestRing_20 (by omega) (by omega) (fun h20 => ?_) (fun h20 => ?_)
      · refine mm_iload_n dX6_takeBestRing_119 rfl rfl ?_
        refine mm_zret dX6_takeBestRing_120 rfl rfl (j3.imp And.left And.left) ?_
        rw [hΦ]; refine ⟨b, rfl, hRN, j1, ?_⟩
        rcases j3 with ⟨z1, z2, z3, z4, z5⟩ | z
        · refine Or.inl ⟨z1, z2, z3, fun v hv => ?_⟩
          rcases z5 v hv with q | q
          · exact z4 v hv q
          · exact ⟨0, q⟩
        · exact Or.inr z
      · exfalso; omega
  obtain ⟨N5, hN5⟩ : ∃ Z, Z = kf_mem M 39 (fun _ => -1) 288 := ⟨_, rfl⟩
  have hR5 : mm_Rf N5 := by rw [hN5]; exact hR.fm (len := 288) rfl
  have cf := c_J7_fill2 (X := X) (M := M) (n := 243) (c := 39) (len := 288) (v := -1) (by decide) rfl
  rw [← hN5] at cf
  have hh5 : kv_h M N5 := ⟨hR5, fun a _ a2 => by rw [hN5, kf_mem_n a2], fun b _ _ => by rw [hN5, kf_mem_n (by decide)]⟩
  have m5 : ∀ v, v < n → N5 39 v = -1 := fun v hv => by rw [hN5, kf_mem_lt (by omega)]
  have J0 : J N5 0 0 := by
    rw [hJ]
    exact ⟨hh5, fun v hv => Or.inl (m5 v hv), Or.inl ⟨rfl, by rw [hN5, kf_mem_n (by decide)]; exact hS, by rw [hN5, kf_mem_n (by decide)]; exact hC, fun v hv q => absurd (m5 v hv) q, fun v hv => absurd hv (by omega)⟩⟩
  refine mm_start (ls := [(2, 29), (9, 0), (9, 0), (9, 0), (9, 0)]) rfl ?_
  refine mm_aload_n dX6_takeBestRing_0 rfl rfl ?_
  refine mm_getr dX6_takeBestRing_1 rfl fl_X6_46 (c := 28) rfl (by decide) rfl rfl (hR.at (c := 28) (i := 12) (v := 40) rfl (by decide)) ?_
  refine mm_iconst dX6_takeBestRing_4 rfl ?_
  refine mm_S2v dX6_takeBestRing_5 rfl lk_X6_93 (by simp) (by simp) rfl rfl rfl (cf) ?_
  refine mm_iconst dX6_takeBestRing_8 rfl ?_
  refine mm_istore_n dX6_takeBestRing_9 rfl (Nat.le_of_ble_eq_true rfl) rfl ?_
  refine mm_iconst dX6_takeBestRing_10 rfl ?_
  refine mm_istore_n dX6_takeBestRing_11 rfl (Nat.le_of_ble_eq_true rfl) rfl ?_
  exact loop 0 (Nat.zero_le _) N5 0 J0
end
end
