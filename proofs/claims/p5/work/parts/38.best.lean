/-! HR.best -/
section
/-! ===== best, side by side ===== -/
theorem kb_lex.eq {A B : Nat → Int} {n : Nat} (h1 : kb_lex A B n) (h2 : kb_lex B A n) : ∀ j, j < n → A j = B j := by
  rcases h1 with q | ⟨i, i1, i2, i3⟩
  · exact q
  · rcases h2 with q | ⟨j, j1, j2, j3⟩
    · exact fun k hk => (q k hk).symm
    · exfalso
      by_cases c : i < j
      · have := j2 i c; omega
      · by_cases c2 : j < i
        · have := i2 j c2; omega
        · have : i = j := by omega
          rw [this] at i3
          omega
/-- there is but one best loop -/
theorem kb_is.one {K Lo Hi : Nat → Int} {h l1 l2 w1 w2 : Int} {A1 A2 T1 T2 : Nat → Int} (q1 : kb_is K Lo Hi h l1 w1 A1 T1) (q2 : kb_is K Lo Hi h l2 w2 A2 T2) : l1 = l2 ∧ (0 < l1 → w1 = w2 ∧ T1 0 = T2 0 ∧ ∀ j : Nat, (j : Int) < l1 → A1 j = A2 j) := by
  rcases q1 with ⟨a0, a1⟩ | ⟨n1, a1, a2, a3, a4, a5, a6⟩
  · rcases q2 with ⟨b0, b1⟩ | ⟨n2, b1, b2, b3, b4, b5, b6⟩
    · exact ⟨by omega, fun z => by omega⟩
    · exact absurd b3 (a1 _ _ _)
  · rcases q2 with ⟨b0, b1⟩ | ⟨n2, b1, b2, b3, b4, b5, b6⟩
    · exact absurd a3 (b1 _ _ _)
    · have x := a6 _ _ _ b3
      have y := b6 _ _ _ a3
      rw [← b4] at x
      rw [← a4] at y
      have hn1 := a3.1
      have hn2 := b3.1
      rcases x with x | ⟨x1, x⟩
      · rcases y with y | ⟨y1, -⟩ <;> omega
      · rcases y with y | ⟨y1, y⟩
        · omega
        · have en : n1 = n2 := by
            rcases x with x | ⟨x, -⟩
            · rcases y with y | ⟨y, -⟩ <;> omega
            · exact x
          subst en
          have ew : w1 = w2 := by
            have : w2 * (n1 : Int) = w1 * n1 := x1
            exact (Int.eq_of_mul_eq_mul_right (by omega) this).symm
          have x := x.resolve_left (by omega)
          have y := y.resolve_left (by omega)
          have es : T1 0 = T2 0 := by
            rcases x.2 with x | ⟨x, -⟩
            · rcases y.2 with y | ⟨y, -⟩ <;> omega
            · exact x
          have lx := (x.2.resolve_left (by omega)).2
          have ly := (y.2.resolve_left (by omega)).2
          exact ⟨by omega, fun _ => ⟨ew, es, fun j hj => lx.eq ly j (by omega)⟩⟩
section
variable {K Lo Hi : Nat → Int} {h s : Int} {A : Nat → Int} {n : Nat}
theorem nk_lp (hK : mm_KV K) : kb_lp (nK K) Lo Hi h s A n ↔ kb_lp K Lo Hi h s A n := by
  have e10 : nK K 10 = K 10 := nK_lt (by decide)
  constructor
  · rintro ⟨h1, h2, h3, h4⟩
    refine ⟨h1, h2, fun j hj => ?_, by rw [nk_run] at h4; exact h4⟩
    obtain ⟨q1, q2⟩ := h3 j hj
    have ha : ks_ac K (A j) := by unfold ks_ac at q1 ⊢; rw [e10] at q1; exact q1
    rw [nk_run, nk_safe hK ha] at q2
    exact ⟨ha, q2⟩
  · rintro ⟨h1, h2, h3, h4⟩
    refine ⟨h1, h2, fun j hj => ?_, by rw [nk_run]; exact h4⟩
    obtain ⟨q1, q2⟩ := h3 j hj
    exact ⟨by unfold ks_ac at q1 ⊢; rw [e10]; exact q1, by rw [nk_run, nk_safe hK q1]; exact q2⟩
theorem nk_sm (hK : mm_KV K) (hl : kb_lp K Lo Hi h s A n) : kb_sm (nK K) Lo Hi h s A n = kb_sm K Lo Hi h s A n := by
  unfold kb_sm
  refine ka_sum_congr (fun j hj => ?_)
  unfold kj_g
  rw [nk_run, nk_sure hK (hl.2.2.1 j hj).1]
theorem nk_is {l w : Int} {T : Nat → Int} (hK : mm_KV K) : kb_is (nK K) Lo Hi h l w A T ↔ kb_is K Lo Hi h l w A T := by
  constructor
  · rintro (⟨h1, h2⟩ | ⟨m, h1, h2, h3, h4, h5, h6⟩)
    · exact Or.inl ⟨h1, fun s B n q => h2 s B n ((nk_lp hK).mpr q)⟩
    · have h3 := (nk_lp hK).mp h3
      refine Or.inr ⟨m, h1, h2, h3, by rw [nk_sm hK h3] at h4; exact h4, fun j hj => by rw [h5 j hj, nk_run], fun s B n q => ?_⟩
      have := h6 s B n ((nk_lp hK).mpr q)
      rw [nk_sm hK q] at this
      exact this
  · rintro (⟨h1, h2⟩ | ⟨m, h1, h2, h3, h4, h5, h6⟩)
    · exact Or.inl ⟨h1, fun s B n q => h2 s B n ((nk_lp hK).mp q)⟩
    · refine Or.inr ⟨m, h1, h2, (nk_lp hK).mpr h3, by rw [nk_sm hK h3]; exact h4, fun j hj => by rw [h5 j hj, nk_run], fun s B n q => ?_⟩
      have q := (nk_lp hK).mp q
      rw [nk_sm hK q]
      exact h6 s B n q
end
theorem kR3.is {M : mm_M} (h : kR3 M) {Lo Hi A T : Nat → Int} {hr l w : Int} : kb_is (mm_rk M) Lo Hi hr l w A T ↔ kb_is (M 4) Lo Hi hr l w A T := by
  rw [← nk_is h.2.1, h.2.2.1, nk_is h.1.1]
/-- what best answers, and leaves -/
def kz_b (M M' : mm_M) (h x : Int) : Prop := (¬ ks_hr h ∧ x = -2 ∧ M' = M) ∨ ∃ H : Nat, h = (H : Int) ∧ H < 24 ∧ kR7 M' ∧ M' 23 H = 1 ∧ (∀ a, ¬ (28 ≤ a ∧ a ≤ 41) → a ≠ 23 → ¬ (42 ≤ a ∧ a ≤ 116) → M' a = M a) ∧
  ((x = -1 ∧ M' (42 + 3 * H) 2 = 0 ∧ M' 114 = M 114 ∧ M' 115 = M 115 ∧ M' 116 = M 116) ∨ (x = M' (42 + 3 * H) 2 ∧ 1 ≤ x ∧ M' 114 2 = x ∧ M' 114 3 = M' (42 + 3 * H) 3 ∧ ∀ i : Nat, (i : Int) < x → M' 115 i = M' (42 + 3 * H + 1) i ∧ M' 116 i = M' (42 + 3 * H + 2) i))
section
variable {X : mm_X} {M : mm_M}
theorem c_X11_best {h : Int} {n : Nat} (hR : mm_Rf M) (hK : mm_CK M) (hA : mm_CA M) (hn : ks_n (M 4) = (n : Int)) (hx : mm_R h) (h7 : kR7 M) (hZ : ∀ g, ks_hr g → kX_cut (M 4) (M 16) (M 17) g n → kZ) :
    mm_C X Y_X11_best 243 243 [(2, 1), (0, h)] M (fun r M' => ∃ x, r = (0, x) ∧ mm_Rf M' ∧ kz_b M M' h x) := by
  obtain ⟨Φ, hΦ⟩ : ∃ Φ : mm_V → mm_M → Prop, Φ = (fun r M' => ∃ x, r = (0, x) ∧ mm_Rf M' ∧ kz_b M M' h x) := ⟨_, rfl⟩
  rw [← hΦ]
  have ch := c_X11_isHour (X := X) (M := M) (n := h) hx
  refine mm_start (ls := [(2, 1), (0, h), (9, 0)]) rfl ?_
  by_cases hh : 0 ≤ h ∧ h ≤ 23
  · rw [mm_b_t hh] at ch
    obtain ⟨H, hH⟩ : ∃ H : Nat, h = (H : Int) := ⟨h.toNat, by omega⟩
    subst hH
    have hH : H < 24 := by omega
    have hrw := (mm_rw_loops H hH).1
    have cl := c_X3_loopAt (X := X) (h := H) (n := n) hR hK hA hn hH h7 (hZ _ hh)
    have wl := mm_rw_latest
    -- behind the search
    have back : ∀ N, mm_Rf N → kz_H M N → kR7 N → N 23 H = 1 → mm_J X Y_X11_best 243 243 243 19 [(2, 1), (0, (H : Int)), (2, ((42 + 3 * H : Nat) : Int) + 1)] [] N Φ := by
      intro N hRN hHN h7N h1
      have lN := (h7N H hH).2.1
      have fr : ∀ a, ¬ (28 ≤ a ∧ a ≤ 41) → a ≠ 23 → ¬ (42 ≤ a ∧ a ≤ 113) → N a = M a := hHN.2
      by_cases l0 : N (42 + 3 * H) 2 = 0
      · refine mm_aload_n dX11_best_19 rfl rfl ?_
        refine mm_get (kd := 0) dX11_best_20 rfl fl_X11_115 (c := 42+3*H) rfl hrw.c0 hrw.1 rfl ?_
        rw [l0]
        refine mm_ifne dX11_best_23 (by omega) (fun h23 => ?_) (fun h23 => ?_)
        · exfalso; omega
        · refine mm_iconst dX11_best_26 rfl ?_
          refine mm_iret dX11_best_27 rfl rfl ?_
          rw [hΦ]; exact ⟨_, rfl, hRN, Or.inr ⟨H, rfl, hH, h7N, h1, fun a a1 a2 a3 => fr a a1 a2 (by omega), Or.inl ⟨rfl, l0, fr 114 (by decide) (by decide) (by decide), fr 115 (by decide) (by decide) (by decide), fr 116 (by decide) (by decide) (by decide)⟩⟩⟩
      · have cc := c_X8_copyFrom (X := X) (M := N) (rc := 114) (rd := 42 + 3 * H) (len := 288) (len' := 288) hRN wl hrw (by omega) lN
        obtain ⟨U, hU⟩ : ∃ U, U = mm_cf N 114 (42 + 3 * H) 288 := ⟨_, rfl⟩
        rw [← hU] at cc
        have mn : min (N (42 + 3 * H) 2) ((288 : Nat) : Int) = N (42 + 3 * H) 2 := by omega
        have at1 : ∀ a b, U a b = if a = 114 ∧ b = 2 then N (42 + 3 * H) 2 else if a = 114 ∧ b = 3 then N (42 + 3 * H) 3 else if a = 114 + 1 ∧ (b : Int) < N (42 + 3 * H) 2 then N (42 + 3 * H + 1) b else if a = 114 + 2 ∧ (b : Int) < N (42 + 3 * H) 2 then N (42 + 3 * H + 2) b else N a b := by
          intro a b; rw [hU]; unfold mm_cf; rw [mn]
        have o1 : ∀ a, ¬ (114 ≤ a ∧ a ≤ 116) → U a = N a := by
          intro a ha
          funext b
          rw [at1, if_neg (by omega), if_neg (by omega), if_neg (by omega), if_neg (by omega)]
        have hRU : mm_Rf U := by
          intro a b hab
          rw [at1]
          by_cases z1 : a = 114 ∧ b = 2
          · exact absurd (by rw [z1.1, z1.2]; exact mm_rt_row wl (by decide)) hab
          by_cases z2 : a = 114 ∧ b = 3
          · exact absurd (by rw [z2.1, z2.2]; exact mm_rt_row wl (by decide)) hab
          by_cases z3 : a = 114 + 1 ∧ (b : Int) < N (42 + 3 * H) 2
          · exact absurd (by rw [z3.1]; exact mm_rt_arr wl.2.1 b) hab
          by_cases z4 : a = 114 + 2 ∧ (b : Int) < N (42 + 3 * H) 2
          · exact absurd (by rw [z4.1]; exact mm_rt_arr wl.2.2.1 b) hab
          rw [if_neg z1, if_neg z2, if_neg z3, if_neg z4]
          exact hRN a b hab
        have u2 : U 114 2 = N (42 + 3 * H) 2 := by rw [at1, if_pos ⟨rfl, rfl⟩]
        have u3 : U 114 3 = N (42 + 3 * H) 3 := by rw [at1, if_neg (by omega), if_pos ⟨rfl, rfl⟩]
        have h7U : kR7 U := by
          intro g hg
          rw [o1 23 (by decide), o1 4 (by decide), o1 16 (by decide), o1 17 (by decide), o1 (42 + 3 * g) (by omega), o1 (42 + 3 * g + 1) (by omega), o1 (42 + 3 * g + 2) (by omega)]
          exact h7N g hg
        have k2 : U (42 + 3 * H) 2 = N (42 + 3 * H) 2 := by rw [o1 (42 + 3 * H) (by omega)]
        refine mm_aload_n dX11_best_19 rfl rfl ?_
        refine mm_get (kd := 0) dX11_best_20 rfl fl_X11_115 (c := 42+3*H) rfl hrw.c0 hrw.1 rfl ?_
        refine mm_ifne dX11_best_23 (by omega) (fun h23 => ?_) (fun h23 => ?_)
        · refine mm_aload_n dX11_best_28 rfl rfl ?_
          refine mm_getr dX11_best_29 rfl fl_X11_53 (c := 0) rfl (by decide) rfl rfl (hRN.at (c := 0) (i := 5) (v := 115) rfl (by decide)) ?_
          refine mm_aload_n dX11_best_32 rfl rfl ?_
          refine mm_V1v dX11_best_33 rfl lk_X11_212 (c := 114) rfl (by decide) rfl (by simp) rfl rfl rfl (cc) ?_
          refine mm_aload_n dX11_best_36 rfl rfl ?_
          refine mm_get (kd := 0) dX11_best_37 rfl fl_X11_115 (c := 42+3*H) rfl hrw.c0 hrw.1 rfl ?_
          rw [k2]
          refine mm_iret dX11_best_40 rfl rfl ?_
          rw [hΦ]; exact ⟨_, rfl, hRU, Or.inr ⟨H, rfl, hH, h7U, by rw [o1 23 (by decide)]; exact h1, fun a a1 a2 a3 => by rw [o1 a (by omega)]; exact fr a a1 a2 (by omega), Or.inr ⟨k2.symm, by omega, u2, by rw [o1 (42 + 3 * H) (by omega)]; exact u3, fun i hi => ⟨by rw [at1, if_neg (by omega), if_neg (by omega), if_pos ⟨rfl, hi⟩, o1 (42 + 3 * H + 1) (by omega)], by rw [at1, if_neg (by omega), if_neg (by omega), if_neg (by omega), if_pos ⟨rfl, hi⟩, o1 (42 + 3 * H + 2) (by omega)]⟩⟩⟩⟩
        · exfalso; omega
    refine mm_iload_n dX11_best_0 rfl rfl ?_
    refine mm_S1i dX11_best_1 rfl lk_X11_165 (by simp) rfl rfl rfl (ch) ?_
    refine mm_ifne dX11_best_4 (by omega) (fun _ => ?_) (fun h => absurd h (by decide))
    refine mm_aload_n dX11_best_10 rfl rfl ?_
    refine mm_getr dX11_best_11 rfl fl_X11_44 (c := 0) rfl (by decide) rfl rfl (hR.at (c := 0) (i := 4) (v := 22) rfl (by decide)) ?_
    refine mm_iload_n dX11_best_14 rfl rfl ?_
    refine mm_V1g (M1 := M) dX11_best_15 rfl lk_X11_208 (c := 21) rfl (by decide) rfl (by simp) rfl rfl rfl (cl) ?_
    rintro _ N15 ⟨rfl, p15⟩
    change mm_J _ _ _ _ _ _ _ _ _ _
    have hR15 : mm_Rf N15 := p15.1
    refine mm_astore_n dX11_best_18 rfl (Nat.le_of_ble_eq_true rfl) rfl ?_
    exact back N15 hR15 p15.2.1 p15.2.2.1 p15.2.2.2
  · rw [mm_b_f hh] at ch
    refine mm_iload_n dX11_best_0 rfl rfl ?_
    refine mm_S1i dX11_best_1 rfl lk_X11_165 (by simp) rfl rfl rfl (ch) ?_
    refine mm_ifne dX11_best_4 (by omega) (fun h => absurd h (by decide)) (fun _ => ?_)
    refine mm_bipush dX11_best_7 rfl (by decide) ?_
    refine mm_iret dX11_best_9 rfl rfl ?_
    rw [hΦ]; exact ⟨_, rfl, hR, Or.inl ⟨hh, rfl, rfl⟩⟩
/-- no search is cut, where it matters -/
def kX_never : Prop := ∀ K Lo Hi h n, mm_KV K → ks_n K = ((n : Nat) : Int) → (∀ s, ks_st K s → (0 ≤ ks_wi Lo K s h ∧ ks_wi Lo K s h ≤ ks_wi Hi K s h) ∧ ks_wi Hi K s h ≤ 60) → kX_cut K Lo Hi h n → kZ
theorem kX_never.z (hN : kX_never) {M : mm_M} (hK : mm_CK M) (hA : mm_CA M) {n : Nat} (hn : ks_n (M 4) = (n : Int)) : ∀ g, ks_hr g → kX_cut (M 4) (M 16) (M 17) g n → kZ := by
  intro g hg hc
  refine hN _ _ _ _ _ hK.1 hn (fun s hs => ?_) hc
  have := hA _ (ks_plb hg (ks_bandb hK.1 hs))
  unfold ks_wi
  omega
/-- no search is cut, over this memory -/
def kX_at (M : mm_M) : Prop := ∀ n : Nat, ks_n (M 4) = (n : Int) → ∀ g, ks_hr g → kX_cut (M 4) (M 16) (M 17) g n → kZ
theorem kX_never.at (hN : kX_never) {M : mm_M} (hR : kR M) : kX_at M := by
  obtain ⟨hRf, h1, h2, h3, h4, h5, h6, h7, h8, h9, h10, h11, h12, h13, h14, h15, h16⟩ := id hR
  exact fun n hn => hN.z h3.1 h5.2.2.2.1 hn
theorem kf_best_at {M : mm_M} (hR : kR M) (hX : kX_at M) (h : Int) (hx : mm_R h) : kkZ X Y_X11_best Y_X13_best [(0, h)] M := by
  obtain ⟨hRf, h1, h2, h3, h4, h5, h6, h7, h8, h9, h10, h11, h12, h13, h14, h15, h16⟩ := id hR
  obtain ⟨n, hn⟩ : ∃ n : Nat, ks_n (M 4) = (n : Int) := ⟨(ks_n (M 4)).toNat, by have := ks_nb h3.1.1; omega⟩
  have hA := h5.2.2.2.1
  refine mm_C.mono (c_X11_best (X := X) hRf h3.1 hA hn hx h7 (hX n hn)) ?_
  rintro r M1 ⟨x, rfl, hRf1, hb⟩
  refine ⟨x, rfl, ?_⟩
  have e1 : ∀ a b, ¬ ((28 ≤ a ∧ a ≤ 41) ∨ a = 23 ∨ (42 ≤ a ∧ a ≤ 116)) → M1 a b = M a b := by
    intro a b z
    rcases hb with ⟨-, -, q⟩ | ⟨H, -, -, -, -, q, -⟩
    · rw [q]
    · rw [q a (by omega) (by omega) (by omega)]
  have k3 : kR3 M1 := h3.fr (fun a b y => e1 a b (by omega))
  have k5 : kR5 M1 := h5.fr (fun a b y => e1 a b (by omega))
  have n1 : ks_n (mm_rk M1) = (n : Int) := by
    rw [k3.n, show M1 4 = M 4 from funext fun b => e1 4 b (by omega)]; exact hn
  refine mm_C.mono (c_X13_best (X := X) (M := M1) (h := h) (n := n) hRf1 k3.2.1 k5.ra hx n1) ?_
  rintro r2 M2 ⟨y, rfl, hRf2, hv, hy⟩
  have e : ∀ a b, ¬ ((28 ≤ a ∧ a ≤ 41) ∨ a = 23 ∨ (42 ≤ a ∧ a ≤ 116) ∨ (a = 183 ∧ (b = 39 ∨ b = 40 ∨ (46 ≤ b ∧ b ≤ 54))) ∨ (205 ≤ a ∧ a ≤ 214)) → M2 a b = M a b := by
    intro a b z
    have : M2 a b = M1 a b := by
      by_cases c : a = 183
      · rw [c]; exact hv.2.2 b (by omega) (by omega) (by omega)
      · rw [hv.2.1 a c (by omega)]
    rw [this]
    exact e1 a b (by omega)
  have r1 : ∀ a, a < 183 → M2 a = M1 a := fun a ha => hv.2.1 a (by omega) (by omega)
  have s203 : M1 203 = M1 16 ∧ M1 204 = M1 17 := k5.2.2.1
  have k7 : kR7 M2 := by
    have h71 : kR7 M1 := by
      rcases hb with ⟨-, -, q⟩ | ⟨H, -, -, q, -⟩
      · rw [q]; exact h7
      · exact q
    intro g hg
    rw [r1 23 (by decide), r1 4 (by decide), r1 16 (by decide), r1 17 (by decide), r1 (42 + 3 * g) (by omega), r1 (42 + 3 * g + 1) (by omega), r1 (42 + 3 * g + 2) (by omega)]
    exact h71 g hg
  rcases hb with ⟨b1, b2, b3⟩ | ⟨H, bH, bh, b7, b1, bf, b2⟩
  · rcases hy with ⟨-, y2, y3, y4⟩ | ⟨y1, -⟩ | ⟨y1, -⟩
    · refine ⟨⟨_, rfl, Or.inr (by rw [b2, y2])⟩, ?_⟩
      have k6 : kR6 M2 := by
        refine h6.fr (fun a b q => ?_)
        rw [← b3]
        by_cases c : a = 183
        · rw [c]; exact y3 b (by omega)
        · by_cases c2 : a = 214
          · rw [c2, y4]
          · exact congrFun (hv.2.1 a c (by omega)) b
      exact ⟨hRf2, h1.fr (fun a b q => e a b (by omega)), h2.fr (fun a b q => e a b (by omega)), h3.fr (fun a b q => e a b (by omega)), h4.fr (fun a b q => e a b (by omega)), h5.fr (fun a b q => e a b (by omega)), k6, k7, h8.fr (fun a b q => e a b (by omega)), h9.fr (fun a b q => e a b (by omega)), h10.fr (fun a b q => e a b (by omega)), h11.fr (fun a b q => e a b (by omega)), h12.fr (fun a b q => e a b (by omega)), h13.fr (fun a b q => e a b (by omega)), h14.fr (fun a b q => e a b (by omega)), h15.fr (fun a b q => e a b (by omega)), h16.fr (fun a b q => e a b (by omega))⟩
    · exact absurd y1 b1
    · exact absurd y1 b1
  · have hhr : ks_hr h := by rw [bH]; exact ⟨by omega, by omega⟩
    have len1 := (b7 H bh).2.1
    have isZ := (b7 H bh).2.2 b1 |>.2
    rw [← bH] at isZ
    have l114 : 0 ≤ M1 114 2 ∧ M1 114 2 ≤ 288 := by
      rcases b2 with ⟨-, -, c, -⟩ | ⟨c1, c2, c3, -⟩
      · rw [c]; exact h6.1
      · omega
    have u50 : (0 ≤ M2 183 50 ∧ M2 183 50 ≤ 288) ∧ (M2 183 54 = 0 ∨ M2 183 54 = 1) := by
      have v50 : M1 183 50 = M 183 50 := e1 183 50 (by decide)
      have v54 : M1 183 54 = M 183 54 := e1 183 54 (by decide)
      rcases hy with ⟨y1, -⟩ | ⟨-, y2, y3, y4, y5⟩ | ⟨-, y2, y3, y4, y5⟩
      · exact absurd hhr y1
      · rw [y3 50 (by decide), y3 54 (by decide), v50, v54]; exact ⟨h6.2.1, h6.2.2.1⟩
      · refine ⟨?_, Or.inr y4⟩
        rcases y5 with ⟨q, -⟩ | ⟨m, q1, q2, -⟩ <;> omega
    have rest : kZ → ∀ w, (∃ w' : Int, (0, w) = ((0, w') : mm_V) ∧ (kZ ∨ w' = x)) ∧ kR M2 := by
      intro z w
      refine ⟨⟨w, rfl, Or.inl z⟩, ?_⟩
      have k6 : kR6 M2 := by
        unfold kR6
        rw [r1 114 (by decide)]
        exact ⟨l114, u50.1, u50.2, Or.inl z⟩
      exact ⟨hRf2, h1.fr (fun a b q => e a b (by omega)), h2.fr (fun a b q => e a b (by omega)), h3.fr (fun a b q => e a b (by omega)), h4.fr (fun a b q => e a b (by omega)), h5.fr (fun a b q => e a b (by omega)), k6, k7, h8.fr (fun a b q => e a b (by omega)), h9.fr (fun a b q => e a b (by omega)), h10.fr (fun a b q => e a b (by omega)), h11.fr (fun a b q => e a b (by omega)), h12.fr (fun a b q => e a b (by omega)), h13.fr (fun a b q => e a b (by omega)), h14.fr (fun a b q => e a b (by omega)), h15.fr (fun a b q => e a b (by omega)), h16.fr (fun a b q => e a b (by omega))⟩
    rcases isZ with z | is1
    · exact rest z _
    rcases hy with ⟨y1, -⟩ | ⟨-, y2, y3, y4, y5⟩ | ⟨-, y2, y3, y4, y5⟩
    · exact absurd hhr y1
    · rcases b2 with ⟨c1, c2, c3, c4, c5⟩ | ⟨c1, c2, -⟩
      · refine ⟨⟨_, rfl, Or.inr (by rw [c1, y2])⟩, ?_⟩
        have k6 : kR6 M2 := by
          refine h6.fr (fun a b q => ?_)
          have a1 : M1 a b = M a b := by
            by_cases d1 : a = 114
            · rw [d1, c3]
            · by_cases d2 : a = 115
              · rw [d2, c4]
              · by_cases d3 : a = 116
                · rw [d3, c5]
                · exact e1 a b (by omega)
          rw [← a1]
          by_cases c : a = 183
          · rw [c]; exact y3 b (by omega)
          · by_cases c2 : a = 214
            · rw [c2, y4]
            · exact congrFun (hv.2.1 a c (by omega)) b
        exact ⟨hRf2, h1.fr (fun a b q => e a b (by omega)), h2.fr (fun a b q => e a b (by omega)), h3.fr (fun a b q => e a b (by omega)), h4.fr (fun a b q => e a b (by omega)), h5.fr (fun a b q => e a b (by omega)), k6, k7, h8.fr (fun a b q => e a b (by omega)), h9.fr (fun a b q => e a b (by omega)), h10.fr (fun a b q => e a b (by omega)), h11.fr (fun a b q => e a b (by omega)), h12.fr (fun a b q => e a b (by omega)), h13.fr (fun a b q => e a b (by omega)), h14.fr (fun a b q => e a b (by omega)), h15.fr (fun a b q => e a b (by omega)), h16.fr (fun a b q => e a b (by omega))⟩
      · exfalso
        rw [s203.1, s203.2] at y5
        have none : kb_is (mm_rk M1) (M1 16) (M1 17) h 0 0 (fun _ => 0) (fun _ => 0) := Or.inl ⟨rfl, y5⟩
        have := (is1.one (k3.is.mp none)).1
        omega
    · rw [s203.1, s203.2] at y5
      have u := is1.one (k3.is.mp y5)
      rcases b2 with ⟨c1, c2, -⟩ | ⟨c1, c2, c3, c4, c5⟩
      · exfalso
        have := u.1
        omega
      · have eq := u.1
        obtain ⟨u1, u2, u3⟩ := u.2 (by omega)
        refine ⟨⟨_, rfl, Or.inr (by rw [y2, ← eq, c1])⟩, ?_⟩
        have k6 : kR6 M2 := by
          unfold kR6
          rw [r1 114 (by decide), r1 115 (by decide), r1 116 (by decide), c3]
          refine ⟨by omega, by omega, Or.inr y4, Or.inr (Or.inr ⟨by omega, y4, by omega, by rw [c4]; exact u1.symm, ?_, fun i hi => ?_⟩)⟩
          · have := (c5 0 (by omega)).2
            rw [this, u2]
            rfl
          · rw [(c5 i hi).1, ← u3 i (by omega)]
        exact ⟨hRf2, h1.fr (fun a b q => e a b (by omega)), h2.fr (fun a b q => e a b (by omega)), h3.fr (fun a b q => e a b (by omega)), h4.fr (fun a b q => e a b (by omega)), h5.fr (fun a b q => e a b (by omega)), k6, k7, h8.fr (fun a b q => e a b (by omega)), h9.fr (fun a b q => e a b (by omega)), h10.fr (fun a b q => e a b (by omega)), h11.fr (fun a b q => e a b (by omega)), h12.fr (fun a b q => e a b (by omega)), h13.fr (fun a b q => e a b (by omega)), h14.fr (fun a b q => e a b (by omega)), h15.fr (fun a b q => e a b (by omega)), h16.fr (fun a b q => e a b (by omega))⟩
theorem kf_best (hN : kX_never) : kF1Z X Y_X11_best Y_X13_best := fun M hR h hx => kf_best_at hR (hN.at hR) h hx
end
end
/-! HS.plan -/
section
/-! ===== hours to land and to fly ===== -/
/-- what a flown hour gives -/
def kP_g (K Lo Hi : Nat → Int) (h each fall x : Int) : Prop := ((∀ s B m, ¬ kb_lp K Lo Hi h s B m) ∧ x = -fall) ∨ ∃ S C : Int, 1 ≤ C ∧ (∀ s B m, kb_lp K Lo Hi h s B m → C * kb_sm K Lo Hi h s B m ≤ S * m) ∧ (∃ s B m, kb_lp K Lo Hi h s B m ∧ C * kb_sm K Lo Hi h s B m = S * m) ∧ x = (each * S).tdiv C
theorem tdiv_eq {a b c d : Int} (hb : 0 < b) (hd : 0 < d) (h : a * d = c * b) : a.tdiv b = c.tdiv d := by
  have e1 : (a * d).tdiv (b * d) = a.tdiv b := Int.mul_tdiv_mul_of_pos_left a b hd
  have e2 : (c * b).tdiv (d * b) = c.tdiv d := Int.mul_tdiv_mul_of_pos_left c d hb
  rw [← e1, ← e2, h, Int.mul_comm b d]
theorem kP_g.one {K Lo Hi : Nat → Int} {h each fall x y : Int} (q1 : kP_g K Lo Hi h each fall x) (q2 : kP_g K Lo Hi h each fall y) : x = y := by
  rcases q1 with ⟨a1, a2⟩ | ⟨S, C, a1, a2, ⟨s, B, m, a3, a4⟩, a5⟩
  · rcases q2 with ⟨b1, b2⟩ | ⟨S', C', b1, b2, ⟨s', B', m', b3, b4⟩, b5⟩
    · rw [a2, b2]
    · exact absurd b3 (a1 _ _ _)
  · rcases q2 with ⟨b1, b2⟩ | ⟨S', C', b1, b2, ⟨s', B', m', b3, b4⟩, b5⟩
    · exact absurd a3 (b1 _ _ _)
    · have x1 := b2 _ _ _ a3
      have x2 := a2 _ _ _ b3
      have m1 := a3.1
      have m2 := b3.1
      -- S / C = sm / m <= S' / C', and back
      have l1 : S * C' ≤ S' * C := fr_trans (b := C) (c := kb_sm K Lo Hi h s B m) (d := (m : Int)) (e := S') (f := C') (by omega) (by omega) (by omega) (by rw [← a4, Int.mul_comm]; exact Int.le_refl _) (by rw [Int.mul_comm]; exact x1)
      have l2 : S' * C ≤ S * C' := fr_trans (b := C') (c := kb_sm K Lo Hi h s' B' m') (d := (m' : Int)) (e := S) (f := C) (by omega) (by omega) (by omega) (by rw [← b4, Int.mul_comm]; exact Int.le_refl _) (by rw [Int.mul_comm]; exact x2)
      rw [a5, b5]
      refine tdiv_eq (by omega) (by omega) ?_
      rw [Int.mul_assoc, Int.mul_assoc, show S * C' = S' * C by omega]
/-- what hours behind one give at most: landed, and flown ahead of it -/
def kP_d (g : Nat → Int) (la ld : Int) (to : Nat) : Nat → Int × Int
  | 0 => (0, -ld)
  | k + 1 => (max (kP_d g la ld to k).1 (g (to - k) - la + (kP_d g la ld to k).2), max ((kP_d g la ld to k).1 - ld) (g (to - k) + (kP_d g la ld to k).2))
def kP_L (g : Nat → Int) (la ld : Int) (to h : Nat) : Int := (kP_d g la ld to (to + 1 - h)).1
def kP_F (g : Nat → Int) (la ld : Int) (to h : Nat) : Int := (kP_d g la ld to (to + 1 - h)).2
/-- whether one is up behind so many hours -/
def kP_u (g : Nat → Int) (la ld : Int) (to from' : Nat) : Nat → Int
  | 0 => 0
  | k + 1 => if kP_L g la ld to (from' + k + 1) - (if kP_u g la ld to from' k = 1 then ld else 0) < (if kP_u g la ld to from' k = 1 then kP_F g la ld to (from' + k) else kP_L g la ld to (from' + k)) then 1 else 0
theorem ite01 (P : Prop) [Decidable P] : (if P then (1 : Int) else 0) = 0 ∨ (if P then (1 : Int) else 0) = 1 := by
  by_cases c : P
  · rw [if_pos c]; exact Or.inr rfl
  · rw [if_neg c]; exact Or.inl rfl
theorem kP_u.b {g : Nat → Int} {la ld : Int} {to from' : Nat} : ∀ k, kP_u g la ld to from' k = 0 ∨ kP_u g la ld to from' k = 1
  | 0 => Or.inl rfl
  | k + 1 => ite01 _
section
variable {g : Nat → Int} {la ld : Int} {to : Nat}
theorem kP_d.b (hg : ∀ h, -60000000 ≤ g h ∧ g h ≤ 85536000) (hla : 0 ≤ la ∧ la ≤ 1000000) (hld : 0 ≤ ld ∧ ld ≤ 1000000) : ∀ k : Nat, (0 ≤ (kP_d g la ld to k).1 ∧ (kP_d g la ld to k).1 ≤ 85536000 * (k : Int)) ∧ -1000000 ≤ (kP_d g la ld to k).2 ∧ (kP_d g la ld to k).2 ≤ 85536000 * (k : Int)
  | 0 => by
    show (0 ≤ (0 : Int) ∧ (0 : Int) ≤ _) ∧ -1000000 ≤ -ld ∧ -ld ≤ _
    omega
  | k + 1 => by
    have := kP_d.b hg hla hld k
    have := hg (to - k)
    show (0 ≤ max (kP_d g la ld to k).1 (g (to - k) - la + (kP_d g la ld to k).2) ∧ max (kP_d g la ld to k).1 (g (to - k) - la + (kP_d g la ld to k).2) ≤ _) ∧ -1000000 ≤ max ((kP_d g la ld to k).1 - ld) (g (to - k) + (kP_d g la ld to k).2) ∧ max ((kP_d g la ld to k).1 - ld) (g (to - k) + (kP_d g la ld to k).2) ≤ _
    omega
theorem kP_step {h : Nat} (hh : h ≤ to) : kP_L g la ld to h = max (kP_L g la ld to (h + 1)) (g h - la + kP_F g la ld to (h + 1)) ∧ kP_F g la ld to h = max (kP_L g la ld to (h + 1) - ld) (g h + kP_F g la ld to (h + 1)) := by
  unfold kP_L kP_F
  have e : to + 1 - h = (to + 1 - (h + 1)) + 1 := by omega
  rw [e]
  have e2 : to - (to + 1 - (h + 1)) = h := by omega
  constructor
  · show max _ (g (to - (to + 1 - (h + 1))) - la + _) = _
    rw [e2]
  · show max _ (g (to - (to + 1 - (h + 1))) + _) = _
    rw [e2]
theorem kP_end : kP_L g la ld to (to + 1) = 0 ∧ kP_F g la ld to (to + 1) = -ld := by
  unfold kP_L kP_F
  rw [Nat.sub_self]
  exact ⟨rfl, rfl⟩
theorem kP_cg {g' : Nat → Int} {from' : Nat} (hg : ∀ h, from' ≤ h → h ≤ to → g' h = g h) : ∀ k : Nat, k ≤ to + 1 - from' → kP_d g' la ld to k = kP_d g la ld to k
  | 0, _ => rfl
  | k + 1, hk => by
    have := kP_cg hg k (by omega)
    unfold kP_d
    rw [this, hg (to - k) (by omega) (by omega)]
end
theorem kb_lp.sb {K Lo Hi : Nat → Int} {h s : Int} {A : Nat → Int} {n : Nat} (hK : mm_KV K) (hw : ∀ s, ks_st K s → (0 ≤ ks_wi Lo K s h ∧ ks_wi Lo K s h ≤ 60) ∧ (0 ≤ ks_wi Hi K s h ∧ ks_wi Hi K s h ≤ 60)) (hl : kb_lp K Lo Hi h s A n) : -1000000 * (n : Int) ≤ kb_sm K Lo Hi h s A n ∧ kb_sm K Lo Hi h s A n ≤ 1425600 * (n : Int) := by
  have st := hl.st hK
  have key : ∀ j, j < n → -1000000 ≤ kj_g K Lo Hi s h A j ∧ kj_g K Lo Hi s h A j ≤ 1425600 := by
    intro j hj
    obtain ⟨q1, q2⟩ := hl.2.2.1 j hj
    have w := hw _ (st j (by omega))
    have a := ks_low hK q1 q2 w
    have b := ks_high hK q1 w
    exact ⟨by show -1000000 ≤ ks_sure K Lo Hi (kf_run K s A j) (A j) h; omega, b⟩
  have c : ∀ (x : Int) (k : Nat), ka_sum (fun _ => x) k = x * (k : Int) := by
    intro x k
    induction k with
    | zero => show (0 : Int) = _; omega
    | succ k ih => show ka_sum (fun _ => x) k + x = _; rw [ih, show ((k + 1 : Nat) : Int) = (k : Int) + 1 by omega, Int.mul_add, Int.mul_one]
  have l := ka_sum_ple (f := fun _ => (-1000000 : Int)) (g := kj_g K Lo Hi s h A) n (fun j hj => (key j hj).1)
  have u := ka_sum_ple (f := kj_g K Lo Hi s h A) (g := fun _ => (1425600 : Int)) n (fun j hj => (key j hj).2)
  rw [c] at l u
  exact ⟨l, u⟩
theorem tdivb {a b A B : Int} (hb : 0 < b) (hA : 0 ≤ A) (hB : 0 ≤ B) (h1 : -(A * b) ≤ a) (h2 : a ≤ B * b) : -A ≤ a.tdiv b ∧ a.tdiv b ≤ B := by
  by_cases c : 0 ≤ a
  · rw [Int.tdiv_eq_ediv_of_nonneg c]
    have x1 := Int.ediv_nonneg c (show 0 ≤ b by omega)
    have x2 : a / b ≤ B := by
      have := Int.ediv_le_ediv hb h2
      rw [Int.mul_ediv_cancel _ (by omega)] at this
      exact this
    omega
  · have e : a.tdiv b = -((-a) / b) := by
      rw [← Int.tdiv_eq_ediv_of_nonneg (show 0 ≤ -a by omega), Int.neg_tdiv, Int.neg_neg]
    rw [e]
    have x1 := Int.ediv_nonneg (show 0 ≤ -a by omega) (show 0 ≤ b by omega)
    have x2 : -a / b ≤ A := by
      have := Int.ediv_le_ediv hb (show -a ≤ A * b by omega)
      rw [Int.mul_ediv_cancel _ (by omega)] at this
      exact this
    omega
theorem kP_g.b {K Lo Hi : Nat → Int} {h each fall x : Int} (hK : mm_KV K) (hw : ∀ s, ks_st K s → (0 ≤ ks_wi Lo K s h ∧ ks_wi Lo K s h ≤ 60) ∧ (0 ≤ ks_wi Hi K s h ∧ ks_wi Hi K s h ≤ 60)) (he : 1 ≤ each ∧ each ≤ 60) (hf : 0 ≤ fall ∧ fall ≤ 1000000) (q : kP_g K Lo Hi h each fall x) : -60000000 ≤ x ∧ x ≤ 85536000 := by
  rcases q with ⟨-, q⟩ | ⟨S, C, a1, a2, ⟨s, B, m, a3, a4⟩, a5⟩
  · omega
  · have sb := a3.sb hK hw
    have m1 := a3.1
    have e : (each * S).tdiv C = (each * kb_sm K Lo Hi h s B m).tdiv (m : Int) := by
      refine tdiv_eq (by omega) (by omega) ?_
      rw [Int.mul_assoc, ← a4, Int.mul_assoc, Int.mul_comm C]
    rw [a5, e]
    obtain ⟨w, hw0⟩ : ∃ w, w = kb_sm K Lo Hi h s B m := ⟨_, rfl⟩
    rw [← hw0] at sb ⊢
    have l := Int.mul_le_mul_of_nonneg_left sb.1 (by omega : 0 ≤ each)
    have u := Int.mul_le_mul_of_nonneg_left sb.2 (by omega : 0 ≤ each)
    have b1 : each * (1000000 * (m : Int)) ≤ 60 * (1000000 * (m : Int)) := Int.mul_le_mul_of_nonneg_right he.2 (by omega)
    have b2 : each * (1425600 * (m : Int)) ≤ 60 * (1425600 * (m : Int)) := Int.mul_le_mul_of_nonneg_right he.2 (by omega)
    have e3 : each * (-1000000 * (m : Int)) = -(each * (1000000 * (m : Int))) := by rw [show -1000000 * (m : Int) = -(1000000 * (m : Int)) by omega, Int.mul_neg]
    exact tdivb (by omega) (by omega) (by omega) (by omega) (by omega)
theorem kP_g.is {K Lo Hi : Nat → Int} {h each fall len w : Int} {A T : Nat → Int} (hK : mm_KV K) (q : kb_is K Lo Hi h len w A T) : kP_g K Lo Hi h each fall (if 0 < len then (each * w).tdiv len else -fall) := by
  rcases q with ⟨q1, q2⟩ | ⟨n, q1, q2, q3, q4, q5, q6⟩
  · rw [if_neg (by omega)]
    exact Or.inl ⟨q2, rfl⟩
  · have n1 := q3.1
    rw [if_pos (by omega), q1]
    refine Or.inr ⟨w, (n : Int), by omega, fun s B m hB => ?_, ⟨_, _, n, q3, by rw [← q4, Int.mul_comm]⟩, rfl⟩
    have := q6 s B m hB
    rw [Int.mul_comm]
    rcases this with z | ⟨z, -⟩ <;> omega
end
/-! HT.plan2 -/
section
/-! ===== KitePower$Hours: weigh, choose; KitePower: plan ===== -/
/-- what an hour is given to weigh -/
def kP_gz (K Lo Hi : Nat → Int) (h each fall x : Int) : Prop := (kZ ∨ kP_g K Lo Hi h each fall x) ∧ -60000000 ≤ x ∧ x ≤ 85536000
theorem kP_wb {each fall len w : Int} (he : 1 ≤ each ∧ each ≤ 60) (hf : 0 ≤ fall ∧ fall ≤ 1000000) (hl : 0 ≤ len) (hw : -1000000 * len ≤ w ∧ w ≤ 1425600 * len ∨ len = 0) : -60000000 ≤ (if 0 < len then (each * w).tdiv len else -fall) ∧ (if 0 < len then (each * w).tdiv len else -fall) ≤ 85536000 := by
  by_cases c : 0 < len
  · rw [if_pos c]
    have hw := hw.resolve_right (by omega)
    have l := Int.mul_le_mul_of_nonneg_left hw.1 (by omega : 0 ≤ each)
    have u := Int.mul_le_mul_of_nonneg_left hw.2 (by omega : 0 ≤ each)
    have b1 : each * (1000000 * len) ≤ 60 * (1000000 * len) := Int.mul_le_mul_of_nonneg_right he.2 (by omega)
    have b2 : each * (1425600 * len) ≤ 60 * (1425600 * len) := Int.mul_le_mul_of_nonneg_right he.2 (by omega)
    have e3 : each * (-1000000 * len) = -(each * (1000000 * len)) := by rw [show -1000000 * len = -(1000000 * len) by omega, Int.mul_neg]
    exact tdivb (by omega) (by omega) (by omega) (by omega) (by omega)
  · rw [if_neg c]
    omega
def kz_PW (M N : mm_M) : Prop := mm_Rf N ∧ (∀ a, ¬ (28 ≤ a ∧ a ≤ 41) → a ≠ 21 → a ≠ 23 → a ≠ 24 → ¬ (42 ≤ a ∧ a ≤ 113) → N a = M a) ∧ ∀ b, b ≠ 8 → b ≠ 9 → N 21 b = M 21 b
section
variable {X : mm_X} {M : mm_M}
theorem c_X3_weigh {f t n : Nat} {each fall : Int} (hX : kX_at M) (hR : mm_Rf M) (hK : mm_CK M) (hA : mm_CA M) (hn : ks_n (M 4) = (n : Int)) (h7 : kR7 M) (hft : f ≤ t) (ht : t < 24) (he : 1 ≤ each ∧ each ≤ 60) (hf : 0 ≤ fall ∧ fall ≤ 1000000) :
    mm_C X Y_X3_weigh 243 243 [(2, 22), (0, (f : Int)), (0, (t : Int)), (0, each), (0, fall)] M (fun r M' => r = (3, 0) ∧ mm_Rf M' ∧ kz_PW M M' ∧ kR7 M' ∧ M' 21 8 = (f : Int) ∧ M' 21 9 = (t : Int) ∧ ∀ h : Nat, f ≤ h → h ≤ t → kP_gz (M 4) (M 16) (M 17) h each fall (M' 24 h)) := by
  obtain ⟨Φ, hΦ⟩ : ∃ Φ : mm_V → mm_M → Prop, Φ = (fun r M' => r = (3, 0) ∧ mm_Rf M' ∧ kz_PW M M' ∧ kR7 M' ∧ M' 21 8 = (f : Int) ∧ M' 21 9 = (t : Int) ∧ ∀ h : Nat, f ≤ h → h ≤ t → kP_gz (M 4) (M 16) (M 17) h each fall (M' 24 h)) := ⟨_, rfl⟩
  rw [← hΦ]
  have hV := hK.1
  have loop : ∀ h : Nat, h ≤ t + 1 → ∀ N, f ≤ h → kz_PW M N → kR7 N → N 21 8 = (f : Int) → N 21 9 = (t : Int) → (∀ g : Nat, f ≤ g → g < h → kP_gz (M 4) (M 16) (M 17) g each fall (N 24 g)) →
      mm_J X Y_X3_weigh 243 243 243 13 [(2, 22), (0, (f : Int)), (0, (t : Int)), (0, each), (0, fall), (0, (h : Int)), (9, 0)] [] N Φ := by
    refine mm_lp ?_
    intro h hh ih N hfh hW h7N k8 k9 hg
    have hRN := hW.1
    by_cases hlt : h < t + 1
    · have h24 : h < 24 := by omega
      have eN : ∀ a, ¬ (28 ≤ a ∧ a ≤ 41) → a ≠ 21 → a ≠ 23 → a ≠ 24 → ¬ (42 ≤ a ∧ a ≤ 113) → N a = M a := hW.2.1
      have r4 : N 4 = M 4 := eN 4 (by decide) (by decide) (by decide) (by decide) (by decide)
      have r16 : N 16 = M 16 := eN 16 (by decide) (by decide) (by decide) (by decide) (by decide)
      have r17 : N 17 = M 17 := eN 17 (by decide) (by decide) (by decide) (by decide) (by decide)
      have ckN : mm_CK N := kx_ck (fun a a1 a2 => eN a (by omega) (by omega) (by omega) (by omega) (by omega)) hK
      have caN : mm_CA N := by unfold mm_CA at hA ⊢; rw [r16, r17]; exact hA
      have nN : ks_n (N 4) = (n : Int) := by rw [r4]; exact hn
      have cl := c_X3_loopAt (X := X) (M := N) (h := h) (n := n) hRN ckN caN nN h24 h7N (by rw [r4, r16, r17]; exact hX n hn _ ⟨by omega, by omega⟩)
      have hrw := (mm_rw_loops h h24).1
      -- behind loopAt
      have back : ∀ U, mm_Rf U → kz_H N U → kR7 U → U 23 h = 1 → mm_J X Y_X3_weigh 243 243 243 27 [(2, 22), (0, (f : Int)), (0, (t : Int)), (0, each), (0, fall), (0, (h : Int)), (2, ((42 + 3 * h : Nat) : Int) + 1)] [] U Φ := by
        intro U hRU hHU h7U h1
        obtain ⟨-, lb, isb⟩ := h7U h h24
        have isU := isb h1
        have fU : ∀ a, ¬ (28 ≤ a ∧ a ≤ 41) → a ≠ 23 → ¬ (42 ≤ a ∧ a ≤ 113) → U a = N a := hHU.2
        rw [fU 4 (by decide) (by decide) (by decide), r4, fU 16 (by decide) (by decide) (by decide), r16, fU 17 (by decide) (by decide) (by decide), r17] at isU
        have gx : kP_gz (M 4) (M 16) (M 17) h each fall (if 0 < U (42 + 3 * h) 2 then (each * U (42 + 3 * h) 3).tdiv (U (42 + 3 * h) 2) else -fall) := ⟨isU.2.imp id (kP_g.is hV), kP_wb he hf lb.1 isU.1⟩
        have gb := gx.2
        -- the gain is written
        have fin : ∀ P x, mm_Rf P → P = mm_up U 24 h x → x = (if 0 < U (42 + 3 * h) 2 then (each * U (42 + 3 * h) 3).tdiv (U (42 + 3 * h) 2) else -fall) → mm_J X Y_X3_weigh 243 243 243 13 [(2, 22), (0, (f : Int)), (0, (t : Int)), (0, each), (0, fall), (0, (h : Int) + 1), (9, 0)] [] P Φ := by
          intro P x hRP hP hx
          rw [← hx] at gx
          have rP : ∀ a, a ≠ 24 → P a = U a := fun a ha => by rw [hP, mm_up_row ha]
          have go := ih hlt P (by omega) ⟨hRP, fun a a1 a2 a3 a4 a5 => by rw [rP a a4, fU a a1 a3 a5]; exact eN a a1 a2 a3 a4 a5, fun b b1 b2 => by rw [rP 21 (by decide), fU 21 (by decide) (by decide) (by decide)]; exact hW.2.2 b b1 b2⟩ (by
            intro g hg
            rw [rP 23 (by decide), rP 4 (by decide), rP 16 (by decide), rP 17 (by decide), rP (42 + 3 * g) (by omega), rP (42 + 3 * g + 1) (by omega), rP (42 + 3 * g + 2) (by omega)]
            exact h7U g hg) (by rw [rP 21 (by decide), fU 21 (by decide) (by decide) (by decide)]; exact k8) (by rw [rP 21 (by decide), fU 21 (by decide) (by decide) (by decide)]; exact k9) (fun g g1 g2 => by
            by_cases c : g = h
            · rw [c, hP, mm_up_s]; exact gx
            · rw [hP, mm_up_i c, fU 24 (by decide) (by decide) (by decide)]
              exact hg g g1 (by omega))
          rw [show ((h + 1 : Nat) : Int) = (h : Int) + 1 by omega] at go
          exact go
        by_cases l0 : 0 < U (42 + 3 * h) 2
        · have wb : -410572800 ≤ U (42 + 3 * h) 3 ∧ U (42 + 3 * h) 3 ≤ 410572800 := by
            rcases isU.1 with q | q <;> omega
          have mb := mm_mulB (a := U (42 + 3 * h) 3) (b := each) (A := 410572800) (B := 60) wb.1 wb.2 (by omega) he.2
          rw [Int.mul_comm (U (42 + 3 * h) 3)] at mb
          refine mm_aload_n dX3_weigh_27 rfl rfl ?_
          refine mm_getr dX3_weigh_28 rfl fl_X3_23 (c := 21) rfl (by decide) rfl rfl (hRU.at (c := 21) (i := 4) (v := 25) rfl (by decide)) ?_
          refine mm_iload dX3_weigh_31 rfl rfl ?_
          refine mm_aload dX3_weigh_33 rfl rfl ?_
          refine mm_get (kd := 0) dX3_weigh_35 rfl fl_X3_81 (c := 42+3*h) rfl hrw.c0 hrw.1 rfl ?_
          refine mm_ifle dX3_weigh_38 (by omega) (fun h38 => ?_) (fun h38 => ?_)
          · exfalso; omega
          · refine mm_iload_n dX3_weigh_41 rfl rfl ?_
            refine mm_i2l dX3_weigh_42 rfl (by omega) ?_
            refine mm_aload dX3_weigh_43 rfl rfl ?_
            refine mm_get (kd := 0) dX3_weigh_45 rfl fl_X3_84 (c := 42+3*h) rfl hrw.c0 hrw.1 rfl ?_
            refine mm_i2l dX3_weigh_48 rfl (by omega) ?_
            refine mm_lmul dX3_weigh_49 rfl ?_
            refine mm_aload dX3_weigh_50 rfl rfl ?_
            refine mm_get (kd := 0) dX3_weigh_52 rfl fl_X3_81 (c := 42+3*h) rfl hrw.c0 hrw.1 rfl ?_
            refine mm_i2l dX3_weigh_55 rfl (by omega) ?_
            refine mm_ldiv dX3_weigh_56 rfl (by first | omega | (unfold mm_RL; omega)) (by first | omega | (unfold mm_RL; omega)) (by first | omega | (unfold mm_RL; omega)) ?_
            refine mm_l2i dX3_weigh_57 rfl ?_
            refine mm_goto dX3_weigh_58 ?_
            refine mm_istk (k0 := h) dX3_weigh_64 rfl (c := 24) rfl (by decide) rfl (by omega) (by omega) (fun M64 hM64 => ?_)
            have hR64 : mm_Rf M64 := by rw [hM64]; exact hRU.up (mm_rt_ar (t := 0) rfl (by decide))
            refine mm_iinc dX3_weigh_65 rfl rfl (Nat.le_of_ble_eq_true rfl) rfl ?_
            refine mm_goto dX3_weigh_68 ?_
            exact mm_drop (by repeat (first | exact trivial | refine And.intro (Or.inl rfl) ?_ | refine And.intro (Or.inr rfl) ?_)) (fin _ _ hR64 hM64 (by rw [if_pos l0]))
        · refine mm_aload_n dX3_weigh_27 rfl rfl ?_
          refine mm_getr dX3_weigh_28 rfl fl_X3_23 (c := 21) rfl (by decide) rfl rfl (hRU.at (c := 21) (i := 4) (v := 25) rfl (by decide)) ?_
          refine mm_iload dX3_weigh_31 rfl rfl ?_
          refine mm_aload dX3_weigh_33 rfl rfl ?_
          refine mm_get (kd := 0) dX3_weigh_35 rfl fl_X3_81 (c := 42+3*h) rfl hrw.c0 hrw.1 rfl ?_
          refine mm_ifle dX3_weigh_38 (by omega) (fun h38 => ?_) (fun h38 => ?_)
          · refine mm_iload dX3_weigh_61 rfl rfl ?_
            refine mm_ineg dX3_weigh_63 rfl ?_
            refine mm_istk (k0 := h) dX3_weigh_64 rfl (c := 24) rfl (by decide) rfl (by omega) (by omega) (fun M64 hM64 => ?_)
            have hR64 : mm_Rf M64 := by rw [hM64]; exact hRU.up (mm_rt_ar (t := 0) rfl (by decide))
            refine mm_iinc dX3_weigh_65 rfl rfl (Nat.le_of_ble_eq_true rfl) rfl ?_
            refine mm_goto dX3_weigh_68 ?_
            exact mm_drop (by repeat (first | exact trivial | refine And.intro (Or.inl rfl) ?_ | refine And.intro (Or.inr rfl) ?_)) (fin _ _ hR64 hM64 (by rw [if_neg l0]))
          · exfalso; omega
      refine mm_iload dX3_weigh_13 rfl rfl ?_
      refine mm_iload_n dX3_weigh_15 rfl rfl ?_
      refine mm_icgt dX3_weigh_16 (by omega) (by omega) (fun h16 => ?_) (fun h16 => ?_)
      · exfalso; omega
      · refine mm_aload_n dX3_weigh_19 rfl rfl ?_
        refine mm_iload dX3_weigh_20 rfl rfl ?_
        refine mm_V1g (M1 := N) dX3_weigh_22 rfl lk_X3_77 (c := 21) rfl (by decide) rfl (by simp) rfl rfl rfl (cl) ?_
        rintro _ N22 ⟨rfl, p22⟩
        change mm_J _ _ _ _ _ _ _ _ _ _
        have hR22 : mm_Rf N22 := p22.1
        refine mm_astore dX3_weigh_25 rfl (Nat.le_of_ble_eq_true rfl) rfl ?_
        exact back N22 hR22 p22.2.1 p22.2.2.1 p22.2.2.2
    · have eh : h = t + 1 := by omega
      subst eh
      refine mm_iload dX3_weigh_13 rfl rfl ?_
      refine mm_iload_n dX3_weigh_15 rfl rfl ?_
      refine mm_icgt dX3_weigh_16 (by omega) (by omega) (fun h16 => ?_) (fun h16 => ?_)
      · refine mm_vret dX3_weigh_71 rfl rfl ?_
        rw [hΦ]; exact ⟨rfl, hRN, hW, h7N, k8, k9, fun g g1 g2 => hg g g1 (by omega)⟩
      · exfalso; omega
  refine mm_start (ls := [(2, 22), (0, (f : Int)), (0, (t : Int)), (0, each), (0, fall), (9, 0), (9, 0)]) rfl ?_
  refine mm_aload_n dX3_weigh_0 rfl rfl ?_
  refine mm_iload_n dX3_weigh_1 rfl rfl ?_
  refine mm_puti dX3_weigh_2 rfl fl_X3_36 (c := 21) rfl (by decide) rfl rfl (fun M2 hM2 => ?_)
  have hR2 : mm_Rf M2 := by rw [hM2]; exact hR.up rfl
  refine mm_aload_n dX3_weigh_5 rfl rfl ?_
  refine mm_iload_n dX3_weigh_6 rfl rfl ?_
  refine mm_puti dX3_weigh_7 rfl fl_X3_40 (c := 21) rfl (by decide) rfl rfl (fun M7 hM7 => ?_)
  have hR7 : mm_Rf M7 := by rw [hM7]; exact hR2.up rfl
  refine mm_iload_n dX3_weigh_10 rfl rfl ?_
  refine mm_istore dX3_weigh_11 rfl (Nat.le_of_ble_eq_true rfl) rfl ?_
  have r7 : ∀ a, a ≠ 21 → M7 a = M a := fun a ha => by rw [hM7, mm_up_row ha, hM2, mm_up_row ha]
  exact loop f (by omega) M7 (Nat.le_refl _) ⟨hR7, fun a _ a2 _ _ _ => r7 a a2, fun b b1 b2 => by rw [hM7, mm_up_i b2, hM2, mm_up_i b1]⟩ (h7.fr (fun a b q => by rw [r7 a (by omega)])) (by rw [hM7, mm_up_i (by decide), hM2, mm_up_s]) (by rw [hM7, mm_up_s]) (fun g g1 g2 => absurd g2 (by omega))
theorem c_X3_choose {f t : Nat} {la ld : Int} {g : Nat → Int} (hR : mm_Rf M) (hft : f ≤ t) (ht : t < 24) (h8 : M 21 8 = (f : Int)) (h9 : M 21 9 = (t : Int)) (hg : g = M 24) (hgb : ∀ h : Nat, f ≤ h → h ≤ t → -60000000 ≤ g h ∧ g h ≤ 85536000) (hla : 0 ≤ la ∧ la ≤ 1000000) (hld : 0 ≤ ld ∧ ld ≤ 1000000) :
    mm_C X Y_X3_choose 243 243 [(2, 22), (0, la), (0, ld)] M (fun r M' => r = (0, kP_L g la ld t f) ∧ mm_Rf M' ∧ (∀ a, a ≠ 25 → a ≠ 26 → a ≠ 27 → M' a = M a) ∧ ∀ k : Nat, k ≤ t - f → M' 27 (f + k) = kP_u g la ld t f (k + 1)) := by
  obtain ⟨Φ, hΦ⟩ : ∃ Φ : mm_V → mm_M → Prop, Φ = (fun r M' => r = (0, kP_L g la ld t f) ∧ mm_Rf M' ∧ (∀ a, a ≠ 25 → a ≠ 26 → a ≠ 27 → M' a = M a) ∧ ∀ k : Nat, k ≤ t - f → M' 27 (f + k) = kP_u g la ld t f (k + 1)) := ⟨_, rfl⟩
  rw [← hΦ]
  -- bounds, at every hour
  obtain ⟨g', hg'⟩ : ∃ g' : Nat → Int, g' = fun h => if f ≤ h ∧ h ≤ t then g h else 0 := ⟨_, rfl⟩
  have g'b : ∀ h, -60000000 ≤ g' h ∧ g' h ≤ 85536000 := by
    intro h
    rw [hg']
    show -60000000 ≤ (if f ≤ h ∧ h ≤ t then g h else 0) ∧ (if f ≤ h ∧ h ≤ t then g h else 0) ≤ 85536000
    by_cases c : f ≤ h ∧ h ≤ t
    · rw [if_pos c]; exact hgb h c.1 c.2
    · rw [if_neg c]; omega
  have db : ∀ h, f ≤ h → h ≤ t + 1 → (0 ≤ kP_L g la ld t h ∧ kP_L g la ld t h ≤ 2052864000) ∧ -1000000 ≤ kP_F g la ld t h ∧ kP_F g la ld t h ≤ 2052864000 := by
    intro h h1 h2
    have e := kP_cg (g := g) (g' := g') (la := la) (ld := ld) (to := t) (from' := f) (fun h a b => by rw [hg']; exact if_pos ⟨a, b⟩) (t + 1 - h) (by omega)
    have := kP_d.b (g := g') (to := t) g'b hla hld (t + 1 - h)
    rw [e] at this
    unfold kP_L kP_F
    omega
  -- forth
  have forth : ∀ N0, mm_Rf N0 → (∀ a, a ≠ 25 → a ≠ 26 → a ≠ 27 → N0 a = M a) → (∀ h, f ≤ h → h ≤ t + 1 → N0 25 h = kP_L g la ld t h ∧ N0 26 h = kP_F g la ld t h) →
      ∀ k : Nat, k ≤ t + 1 - f → ∀ N, mm_Rf N → (∀ a, a ≠ 27 → N a = N0 a) → (∀ j, j < k → N 27 (f + j) = kP_u g la ld t f (j + 1)) →
      mm_J X Y_X3_choose 243 243 243 109 [(2, 22), (0, la), (0, ld), (0, kP_u g la ld t f k), (0, ((f + k : Nat) : Int)), (9, 0)] [] N Φ := by
    intro N0 hR0 f0 v0
    refine mm_lp ?_
    intro k hk ih N hRN fN vN
    have k9 : N 21 9 = (t : Int) := by rw [fN 21 (by decide), f0 21 (by decide) (by decide) (by decide)]; exact h9
    have k8 : N 21 8 = (f : Int) := by rw [fN 21 (by decide), f0 21 (by decide) (by decide) (by decide)]; exact h8
    have e25 : N 25 = N0 25 := fN 25 (by decide)
    have e26 : N 26 = N0 26 := fN 26 (by decide)
    by_cases hlt : k < t + 1 - f
    · have b0 := db (f + k) (by omega) (by omega)
      have b1 := db (f + k + 1) (by omega) (by omega)
      have l0 : N 25 (f + k) = kP_L g la ld t (f + k) := by rw [e25]; exact (v0 _ (by omega) (by omega)).1
      have l1 : N 25 (f + k + 1) = kP_L g la ld t (f + k + 1) := by rw [e25]; exact (v0 _ (by omega) (by omega)).1
      have fl : N 26 (f + k) = kP_F g la ld t (f + k) := by rw [e26]; exact (v0 _ (by omega) (by omega)).2
      obtain ⟨u, hu⟩ : ∃ u, u = kP_u g la ld t f k := ⟨_, rfl⟩
      have ub := kP_u.b (g := g) (la := la) (ld := ld) (to := t) (from' := f) k
      rw [← hu] at ub
      have un : kP_u g la ld t f (k + 1) = if kP_L g la ld t (f + k + 1) - (if u = 1 then ld else 0) < (if u = 1 then kP_F g la ld t (f + k) else kP_L g la ld t (f + k)) then 1 else 0 := by rw [hu]; rfl
      have nx : ∀ w P, w = kP_u g la ld t f (k + 1) → mm_Rf P → P = mm_up N 27 (f + k) w → mm_J X Y_X3_choose 243 243 243 109 [(2, 22), (0, la), (0, ld), (0, w), (0, ((f + k : Nat) : Int) + 1), (9, 0)] [] P Φ := by
        intro w P hw hRP hP
        have go := ih (by omega) P hRP (fun a ha => by rw [hP, mm_up_row ha]; exact fN a ha) (fun j hj => by
          by_cases c : j = k
          · rw [c, hP, mm_up_s, hw]
          · rw [hP, mm_up_i (by omega)]; exact vN j (by omega))
        rw [← hw, show ((f + (k + 1) : Nat) : Int) = ((f + k : Nat) : Int) + 1 by omega] at go
        exact go
      rw [← hu]
      rcases ub with u0 | u1
      · rw [u0, if_neg (show ¬ (0 : Int) = 1 by decide), if_neg (show ¬ (0 : Int) = 1 by decide)] at un
        rw [u0]
        by_cases c : kP_L g la ld t (f + k + 1) - 0 < kP_L g la ld t (f + k)
        · rw [if_pos c] at un
          refine mm_iload dX3_choose_109 rfl rfl ?_
          refine mm_aload_n dX3_choose_111 rfl rfl ?_
          refine mm_get (kd := 0) dX3_choose_112 rfl fl_X3_40 (c := 21) rfl (by decide) rfl rfl ?_
          rw [k9]
          refine mm_icgt dX3_choose_115 (by omega) (by omega) (fun h115 => ?_) (fun h115 => ?_)
          · exfalso; omega
          · refine mm_aload_n dX3_choose_118 rfl rfl ?_
            refine mm_getr dX3_choose_119 rfl fl_X3_27 (c := 21) rfl (by decide) rfl rfl (hRN.at (c := 21) (i := 5) (v := 26) rfl (by decide)) ?_
            refine mm_iload dX3_choose_122 rfl rfl ?_
            refine mm_iconst dX3_choose_124 rfl ?_
            refine mm_iadd dX3_choose_125 rfl ?_
            refine mm_ialk (k0 := f + k + 1) dX3_choose_126 rfl (c := 25) rfl (by decide) rfl (by omega) (by omega) ?_
            rw [l1]
            refine mm_iload_n dX3_choose_127 rfl rfl ?_
            refine mm_ifeq dX3_choose_128 (by omega) (fun _ => ?_) (fun h => absurd (by decide) h)
            refine mm_iconst dX3_choose_135 rfl ?_
            refine mm_isub dX3_choose_136 rfl ?_
            refine mm_istore dX3_choose_137 rfl (Nat.le_of_ble_eq_true rfl) rfl ?_
            refine mm_iload dX3_choose_139 rfl rfl ?_
            refine mm_iload_n dX3_choose_141 rfl rfl ?_
            refine mm_ifeq dX3_choose_142 (by omega) (fun _ => ?_) (fun h => absurd (by decide) h)
            refine mm_aload_n dX3_choose_155 rfl rfl ?_
            refine mm_getr dX3_choose_156 rfl fl_X3_27 (c := 21) rfl (by decide) rfl rfl (hRN.at (c := 21) (i := 5) (v := 26) rfl (by decide)) ?_
            refine mm_iload dX3_choose_159 rfl rfl ?_
            refine mm_ialk (k0 := f + k) dX3_choose_161 rfl (c := 25) rfl (by decide) rfl (by omega) (by omega) ?_
            rw [l0]
            refine mm_icge dX3_choose_162 (by omega) (by omega) (fun h162 => ?_) (fun h162 => ?_)
            · exfalso; omega
            · refine mm_iconst dX3_choose_165 rfl ?_
              refine mm_goto dX3_choose_166 ?_
              refine mm_istore_n dX3_choose_170 rfl (Nat.le_of_ble_eq_true rfl) rfl ?_
              refine mm_aload_n dX3_choose_171 rfl rfl ?_
              refine mm_getr dX3_choose_172 rfl fl_X3_33 (c := 21) rfl (by decide) rfl rfl (hRN.at (c := 21) (i := 7) (v := 28) rfl (by decide)) ?_
              refine mm_iload dX3_choose_175 rfl rfl ?_
              refine mm_iload_n dX3_choose_177 rfl rfl ?_
              refine mm_ifeq dX3_choose_178 (by omega) (fun h => absurd h (by decide)) (fun _ => ?_)
              refine mm_iconst dX3_choose_181 rfl ?_
              refine mm_goto dX3_choose_182 ?_
              refine mm_istk (k0 := f + k) dX3_choose_186 rfl (c := 27) rfl (by decide) rfl (by omega) (by omega) (fun M186 hM186 => ?_)
              have hR186 : mm_Rf M186 := by rw [hM186]; exact hRN.up (mm_rt_ar (t := 0) rfl (by decide))
              refine mm_iinc dX3_choose_187 rfl rfl (Nat.le_of_ble_eq_true rfl) rfl ?_
              refine mm_goto dX3_choose_190 ?_
              exact mm_drop (by repeat (first | exact trivial | refine And.intro (Or.inl rfl) ?_ | refine And.intro (Or.inr rfl) ?_)) (nx 1 _ un.symm hR186 hM186)
        · rw [if_neg c] at un
          refine mm_iload dX3_choose_109 rfl rfl ?_
          refine mm_aload_n dX3_choose_111 rfl rfl ?_
          refine mm_get (kd := 0) dX3_choose_112 rfl fl_X3_40 (c := 21) rfl (by decide) rfl rfl ?_
          rw [k9]
          refine mm_icgt dX3_choose_115 (by omega) (by omega) (fun h115 => ?_) (fun h115 => ?_)
          · exfalso; omega
          · refine mm_aload_n dX3_choose_118 rfl rfl ?_
            refine mm_getr dX3_choose_119 rfl fl_X3_27 (c := 21) rfl (by decide) rfl rfl (hRN.at (c := 21) (i := 5) (v := 26) rfl (by decide)) ?_
            refine mm_iload dX3_choose_122 rfl rfl ?_
            refine mm_iconst dX3_choose_124 rfl ?_
            refine mm_iadd dX3_choose_125 rfl ?_
            refine mm_ialk (k0 := f + k + 1) dX3_choose_126 rfl (c := 25) rfl (by decide) rfl (by omega) (by omega) ?_
            rw [l1]
            refine mm_iload_n dX3_choose_127 rfl rfl ?_
            refine mm_ifeq dX3_choose_128 (by omega) (fun _ => ?_) (fun h => absurd (by decide) h)
            refine mm_iconst dX3_choose_135 rfl ?_
            refine mm_isub dX3_choose_136 rfl ?_
            refine mm_istore dX3_choose_137 rfl (Nat.le_of_ble_eq_true rfl) rfl ?_
            refine mm_iload dX3_choose_139 rfl rfl ?_
            refine mm_iload_n dX3_choose_141 rfl rfl ?_
            refine mm_ifeq dX3_choose_142 (by omega) (fun _ => ?_) (fun h => absurd (by decide) h)
            refine mm_aload_n dX3_choose_155 rfl rfl ?_
            refine mm_getr dX3_choose_156 rfl fl_X3_27 (c := 21) rfl (by decide) rfl rfl (hRN.at (c := 21) (i := 5) (v := 26) rfl (by decide)) ?_
            refine mm_iload dX3_choose_159 rfl rfl ?_
            refine mm_ialk (k0 := f + k) dX3_choose_161 rfl (c := 25) rfl (by decide) rfl (by omega) (by omega) ?_
            rw [l0]
            refine mm_icge dX3_choose_162 (by omega) (by omega) (fun h162 => ?_) (fun h162 => ?_)
            · refine mm_iconst dX3_choose_169 rfl ?_
              refine mm_istore_n dX3_choose_170 rfl (Nat.le_of_ble_eq_true rfl) rfl ?_
              refine mm_aload_n dX3_choose_171 rfl rfl ?_
              refine mm_getr dX3_choose_172 rfl fl_X3_33 (c := 21) rfl (by decide) rfl rfl (hRN.at (c := 21) (i := 7) (v := 28) rfl (by decide)) ?_
              refine mm_iload dX3_choose_175 rfl rfl ?_
              refine mm_iload_n dX3_choose_177 rfl rfl ?_
              refine mm_ifeq dX3_choose_178 (by omega) (fun _ => ?_) (fun h => absurd (by decide) h)
              refine mm_iconst dX3_choose_185 rfl ?_
              refine mm_istk (k0 := f + k) dX3_choose_186 rfl (c := 27) rfl (by decide) rfl (by omega) (by omega) (fun M186 hM186 => ?_)
              have hR186 : mm_Rf M186 := by rw [hM186]; exact hRN.up (mm_rt_ar (t := 0) rfl (by decide))
              refine mm_iinc dX3_choose_187 rfl rfl (Nat.le_of_ble_eq_true rfl) rfl ?_
              refine mm_goto dX3_choose_190 ?_
              exact mm_drop (by repeat (first | exact trivial | refine And.intro (Or.inl rfl) ?_ | refine And.intro (Or.inr rfl) ?_)) (nx 0 _ un.symm hR186 hM186)
            · exfalso; omega
      · rw [u1, if_pos (show (1 : Int) = 1 from rfl), if_pos (show (1 : Int) = 1 from rfl)] at un
        rw [u1]
        by_cases c : kP_L g la ld t (f + k + 1) - ld < kP_F g la ld t (f + k)
        · rw [if_pos c] at un
          refine mm_iload dX3_choose_109 rfl rfl ?_
          refine mm_aload_n dX3_choose_111 rfl rfl ?_
          refine mm_get (kd := 0) dX3_choose_112 rfl fl_X3_40 (c := 21) rfl (by decide) rfl rfl ?_
          rw [k9]
          refine mm_icgt dX3_choose_115 (by omega) (by omega) (fun h115 => ?_) (fun h115 => ?_)
          · exfalso; omega
          · refine mm_aload_n dX3_choose_118 rfl rfl ?_
            refine mm_getr dX3_choose_119 rfl fl_X3_27 (c := 21) rfl (by decide) rfl rfl (hRN.at (c := 21) (i := 5) (v := 26) rfl (by decide)) ?_
            refine mm_iload dX3_choose_122 rfl rfl ?_
            refine mm_iconst dX3_choose_124 rfl ?_
            refine mm_iadd dX3_choose_125 rfl ?_
            refine mm_ialk (k0 := f + k + 1) dX3_choose_126 rfl (c := 25) rfl (by decide) rfl (by omega) (by omega) ?_
            rw [l1]
            refine mm_iload_n dX3_choose_127 rfl rfl ?_
            refine mm_ifeq dX3_choose_128 (by omega) (fun h => absurd h (by decide)) (fun _ => ?_)
            refine mm_iload_n dX3_choose_131 rfl rfl ?_
            refine mm_goto dX3_choose_132 ?_
            refine mm_isub dX3_choose_136 rfl ?_
            refine mm_istore dX3_choose_137 rfl (Nat.le_of_ble_eq_true rfl) rfl ?_
            refine mm_iload dX3_choose_139 rfl rfl ?_
            refine mm_iload_n dX3_choose_141 rfl rfl ?_
            refine mm_ifeq dX3_choose_142 (by omega) (fun h => absurd h (by decide)) (fun _ => ?_)
            refine mm_aload_n dX3_choose_145 rfl rfl ?_
            refine mm_getr dX3_choose_146 rfl fl_X3_30 (c := 21) rfl (by decide) rfl rfl (hRN.at (c := 21) (i := 6) (v := 27) rfl (by decide)) ?_
            refine mm_iload dX3_choose_149 rfl rfl ?_
            refine mm_ialk (k0 := f + k) dX3_choose_151 rfl (c := 26) rfl (by decide) rfl (by omega) (by omega) ?_
            rw [fl]
            refine mm_goto dX3_choose_152 ?_
            refine mm_icge dX3_choose_162 (by omega) (by omega) (fun h162 => ?_) (fun h162 => ?_)
            · exfalso; omega
            · refine mm_iconst dX3_choose_165 rfl ?_
              refine mm_goto dX3_choose_166 ?_
              refine mm_istore_n dX3_choose_170 rfl (Nat.le_of_ble_eq_true rfl) rfl ?_
              refine mm_aload_n dX3_choose_171 rfl rfl ?_
              refine mm_getr dX3_choose_172 rfl fl_X3_33 (c := 21) rfl (by decide) rfl rfl (hRN.at (c := 21) (i := 7) (v := 28) rfl (by decide)) ?_
              refine mm_iload dX3_choose_175 rfl rfl ?_
              refine mm_iload_n dX3_choose_177 rfl rfl ?_
              refine mm_ifeq dX3_choose_178 (by omega) (fun h => absurd h (by decide)) (fun _ => ?_)
              refine mm_iconst dX3_choose_181 rfl ?_
              refine mm_goto dX3_choose_182 ?_
              refine mm_istk (k0 := f + k) dX3_choose_186 rfl (c := 27) rfl (by decide) rfl (by omega) (by omega) (fun M186 hM186 => ?_)
              have hR186 : mm_Rf M186 := by rw [hM186]; exact hRN.up (mm_rt_ar (t := 0) rfl (by decide))
              refine mm_iinc dX3_choose_187 rfl rfl (Nat.le_of_ble_eq_true rfl) rfl ?_
              refine mm_goto dX3_choose_190 ?_
              exact mm_drop (by repeat (first | exact trivial | refine And.intro (Or.inl rfl) ?_ | refine And.intro (Or.inr rfl) ?_)) (nx 1 _ un.symm hR186 hM186)
        · rw [if_neg c] at un
          refine mm_iload dX3_choose_109 rfl rfl ?_
          refine mm_aload_n dX3_choose_111 rfl rfl ?_
          refine mm_get (kd := 0) dX3_choose_112 rfl fl_X3_40 (c := 21) rfl (by decide) rfl rfl ?_
          rw [k9]
          refine mm_icgt dX3_choose_115 (by omega) (by omega) (fun h115 => ?_) (fun h115 => ?_)
          · exfalso; omega
          · refine mm_aload_n dX3_choose_118 rfl rfl ?_
            refine mm_getr dX3_choose_119 rfl fl_X3_27 (c := 21) rfl (by decide) rfl rfl (hRN.at (c := 21) (i := 5) (v := 26) rfl (by decide)) ?_
            refine mm_iload dX3_choose_122 rfl rfl ?_
            refine mm_iconst dX3_choose_124 rfl ?_
            refine mm_iadd dX3_choose_125 rfl ?_
            refine mm_ialk (k0 := f + k + 1) dX3_choose_126 rfl (c := 25) rfl (by decide) rfl (by omega) (by omega) ?_
            rw [l1]
            refine mm_iload_n dX3_choose_127 rfl rfl ?_
            refine mm_ifeq dX3_choose_128 (by omega) (fun h => absurd h (by decide)) (fun _ => ?_)
            refine mm_iload_n dX3_choose_131 rfl rfl ?_
            refine mm_goto dX3_choose_132 ?_
            refine mm_isub dX3_choose_136 rfl ?_
            refine mm_istore dX3_choose_137 rfl (Nat.le_of_ble_eq_true rfl) rfl ?_
            refine mm_iload dX3_choose_139 rfl rfl ?_
            refine mm_iload_n dX3_choose_141 rfl rfl ?_
            refine mm_ifeq dX3_choose_142 (by omega) (fun h => absurd h (by decide)) (fun _ => ?_)
            refine mm_aload_n dX3_choose_145 rfl rfl ?_
            refine mm_getr dX3_choose_146 rfl fl_X3_30 (c := 21) rfl (by decide) rfl rfl (hRN.at (c := 21) (i := 6) (v := 27) rfl (by decide)) ?_
            refine mm_iload dX3_choose_149 rfl rfl ?_
            refine mm_ialk (k0 := f + k) dX3_choose_151 rfl (c := 26) rfl (by decide) rfl (by omega) (by omega) ?_
            rw [fl]
            refine mm_goto dX3_choose_152 ?_
            refine mm_icge dX3_choose_162 (by omega) (by omega) (fun h162 => ?_) (fun h162 => ?_)
            · refine mm_iconst dX3_choose_169 rfl ?_
              refine mm_istore_n dX3_choose_170 rfl (Nat.le_of_ble_eq_true rfl) rfl ?_
              refine mm_aload_n dX3_choose_171 rfl rfl ?_
              refine mm_getr dX3_choose_172 rfl fl_X3_33 (c := 21) rfl (by decide) rfl rfl (hRN.at (c := 21) (i := 7) (v := 28) rfl (by decide)) ?_
              refine mm_iload dX3_choose_175 rfl rfl ?_
              refine mm_iload_n dX3_choose_177 rfl rfl ?_
              refine mm_ifeq dX3_choose_178 (by omega) (fun _ => ?_) (fun h => absurd (by decide) h)
              refine mm_iconst dX3_choose_185 rfl ?_
              refine mm_istk (k0 := f + k) dX3_choose_186 rfl (c := 27) rfl (by decide) rfl (by omega) (by omega) (fun M186 hM186 => ?_)
              have hR186 : mm_Rf M186 := by rw [hM186]; exact hRN.up (mm_rt_ar (t := 0) rfl (by decide))
              refine mm_iinc dX3_choose_187 rfl rfl (Nat.le_of_ble_eq_true rfl) rfl ?_
              refine mm_goto dX3_choose_190 ?_
              exact mm_drop (by repeat (first | exact trivial | refine And.intro (Or.inl rfl) ?_ | refine And.intro (Or.inr rfl) ?_)) (nx 0 _ un.symm hR186 hM186)
            · exfalso; omega
    · have ek : k = t + 1 - f := by omega
      have lf : N 25 f = kP_L g la ld t f := by rw [e25]; exact (v0 f (Nat.le_refl _) (by omega)).1
      refine mm_iload dX3_choose_109 rfl rfl ?_
      refine mm_aload_n dX3_choose_111 rfl rfl ?_
      refine mm_get (kd := 0) dX3_choose_112 rfl fl_X3_40 (c := 21) rfl (by decide) rfl rfl ?_
      rw [k9]
      refine mm_icgt dX3_choose_115 (by omega) (by omega) (fun h115 => ?_) (fun h115 => ?_)
      · refine mm_aload_n dX3_choose_193 rfl rfl ?_
        refine mm_getr dX3_choose_194 rfl fl_X3_27 (c := 21) rfl (by decide) rfl rfl (hRN.at (c := 21) (i := 5) (v := 26) rfl (by decide)) ?_
        refine mm_aload_n dX3_choose_197 rfl rfl ?_
        refine mm_get (kd := 0) dX3_choose_198 rfl fl_X3_36 (c := 21) rfl (by decide) rfl rfl ?_
        rw [k8]
        refine mm_ialk (k0 := f) dX3_choose_201 rfl (c := 25) rfl (by decide) rfl (by omega) (by omega) ?_
        rw [lf]
        refine mm_iret dX3_choose_202 rfl rfl ?_
        rw [hΦ]; exact ⟨rfl, hRN, fun a a1 a2 a3 => by rw [fN a a3]; exact f0 a a1 a2 a3, fun j hj => vN j (by omega)⟩
      · exfalso; omega
  -- back
  have back : ∀ k : Nat, k ≤ t + 1 - f → ∀ N, mm_Rf N → (∀ a, a ≠ 25 → a ≠ 26 → N a = M a) → (∀ h, t + 1 - k ≤ h → h ≤ t + 1 → N 25 h = kP_L g la ld t h ∧ N 26 h = kP_F g la ld t h) →
      mm_J X Y_X3_choose 243 243 243 30 [(2, 22), (0, la), (0, ld), (0, (t : Int) - (k : Int)), (9, 0), (9, 0)] [] N Φ := by
    refine mm_lp ?_
    intro k hk ih N hRN fN vN
    have k8 : N 21 8 = (f : Int) := by rw [fN 21 (by decide) (by decide)]; exact h8
    by_cases hlt : k < t + 1 - f
    · obtain ⟨h, hh⟩ : ∃ h, h = t - k := ⟨_, rfl⟩
      have hi : (t : Int) - (k : Int) = (h : Int) := by omega
      have b1 := db (h + 1) (by omega) (by omega)
      have gh := hgb h (by omega) (by omega)
      have l1 : N 25 (h + 1) = kP_L g la ld t (h + 1) := (vN (h + 1) (by omega) (by omega)).1
      have f1 : N 26 (h + 1) = kP_F g la ld t (h + 1) := (vN (h + 1) (by omega) (by omega)).2
      have eg : N 24 h = g h := by rw [fN 24 (by decide) (by decide), hg]
      obtain ⟨s1, s2⟩ := kP_step (g := g) (la := la) (ld := ld) (to := t) (h := h) (by omega)
      have nx : ∀ P, mm_Rf P → P = mm_up (mm_up N 25 h (kP_L g la ld t h)) 26 h (kP_F g la ld t h) → mm_J X Y_X3_choose 243 243 243 30 [(2, 22), (0, la), (0, ld), (0, (h : Int) + -1), (9, 0), (9, 0)] [] P Φ := by
        intro P hRP hP
        have go := ih hlt P hRP (fun a a1 a2 => by rw [hP, mm_up_row a2, mm_up_row a1]; exact fN a a1 a2) (fun x x1 x2 => by
          by_cases c : x = h
          · rw [c, hP, mm_up_c (by decide), mm_up_s, mm_up_s]; exact ⟨rfl, rfl⟩
          · rw [hP, mm_up_i c, mm_up_i c, mm_up_i c, mm_up_i c]; exact vN x (by omega) x2)
        rw [show (t : Int) - ((k + 1 : Nat) : Int) = (h : Int) + -1 by omega] at go
        exact go
      rw [hi]
      refine mm_iload_n dX3_choose_30 rfl rfl ?_
      refine mm_aload_n dX3_choose_31 rfl rfl ?_
      refine mm_get (kd := 0) dX3_choose_32 rfl fl_X3_36 (c := 21) rfl (by decide) rfl rfl ?_
      rw [k8]
      refine mm_iclt dX3_choose_35 (by omega) (by omega) (fun h35 => ?_) (fun h35 => ?_)
      · exfalso; omega
      · refine mm_aload_n dX3_choose_38 rfl rfl ?_
        refine mm_getr dX3_choose_39 rfl fl_X3_27 (c := 21) rfl (by decide) rfl rfl (hRN.at (c := 21) (i := 5) (v := 26) rfl (by decide)) ?_
        refine mm_iload_n dX3_choose_42 rfl rfl ?_
        refine mm_iconst dX3_choose_43 rfl ?_
        refine mm_iadd dX3_choose_44 rfl ?_
        refine mm_ialk (k0 := h + 1) dX3_choose_45 rfl (c := 25) rfl (by decide) rfl (by omega) (by omega) ?_
        rw [l1]
        refine mm_istore dX3_choose_46 rfl (Nat.le_of_ble_eq_true rfl) rfl ?_
        refine mm_aload_n dX3_choose_48 rfl rfl ?_
        refine mm_getr dX3_choose_49 rfl fl_X3_23 (c := 21) rfl (by decide) rfl rfl (hRN.at (c := 21) (i := 4) (v := 25) rfl (by decide)) ?_
        refine mm_iload_n dX3_choose_52 rfl rfl ?_
        refine mm_ialk (k0 := h) dX3_choose_53 rfl (c := 24) rfl (by decide) rfl (by omega) (by omega) ?_
        rw [eg]
        refine mm_aload_n dX3_choose_54 rfl rfl ?_
        refine mm_getr dX3_choose_55 rfl fl_X3_30 (c := 21) rfl (by decide) rfl rfl (hRN.at (c := 21) (i := 6) (v := 27) rfl (by decide)) ?_
        refine mm_iload_n dX3_choose_58 rfl rfl ?_
        refine mm_iconst dX3_choose_59 rfl ?_
        refine mm_iadd dX3_choose_60 rfl ?_
        refine mm_ialk (k0 := h + 1) dX3_choose_61 rfl (c := 26) rfl (by decide) rfl (by omega) (by omega) ?_
        rw [f1]
        refine mm_iadd dX3_choose_62 rfl ?_
        refine mm_istore dX3_choose_63 rfl (Nat.le_of_ble_eq_true rfl) rfl ?_
        refine mm_aload_n dX3_choose_65 rfl rfl ?_
        refine mm_getr dX3_choose_66 rfl fl_X3_27 (c := 21) rfl (by decide) rfl rfl (hRN.at (c := 21) (i := 5) (v := 26) rfl (by decide)) ?_
        refine mm_iload_n dX3_choose_69 rfl rfl ?_
        refine mm_iload dX3_choose_70 rfl rfl ?_
        refine mm_iload dX3_choose_72 rfl rfl ?_
        refine mm_iload_n dX3_choose_74 rfl rfl ?_
        refine mm_isub dX3_choose_75 rfl ?_
        refine mm_max dX3_choose_76 rfl lm_X3_87 rfl rfl (by simp) (by omega) (by omega) ?_
        refine mm_istk (k0 := h) dX3_choose_79 rfl (c := 25) rfl (by decide) rfl (by omega) (by omega) (fun M79 hM79 => ?_)
        have hR79 : mm_Rf M79 := by rw [hM79]; exact hRN.up (mm_rt_ar (t := 0) rfl (by decide))
        refine mm_aload_n dX3_choose_80 rfl rfl ?_
        refine mm_getr dX3_choose_81 rfl fl_X3_30 (c := 21) rfl (by decide) rfl rfl (hR79.at (c := 21) (i := 6) (v := 27) rfl (by decide)) ?_
        refine mm_iload_n dX3_choose_84 rfl rfl ?_
        refine mm_iload dX3_choose_85 rfl rfl ?_
        refine mm_iload_n dX3_choose_87 rfl rfl ?_
        refine mm_isub dX3_choose_88 rfl ?_
        refine mm_iload dX3_choose_89 rfl rfl ?_
        refine mm_max dX3_choose_91 rfl lm_X3_87 rfl rfl (by simp) (by omega) (by omega) ?_
        refine mm_istk (k0 := h) dX3_choose_94 rfl (c := 26) rfl (by decide) rfl (by omega) (by omega) (fun M94 hM94 => ?_)
        have hR94 : mm_Rf M94 := by rw [hM94]; exact hR79.up (mm_rt_ar (t := 0) rfl (by decide))
        refine mm_iinc dX3_choose_95 rfl rfl (Nat.le_of_ble_eq_true rfl) rfl ?_
        refine mm_goto dX3_choose_98 ?_
        exact mm_drop (by repeat (first | exact trivial | refine And.intro (Or.inl rfl) ?_ | refine And.intro (Or.inr rfl) ?_)) (nx _ hR94 (by rw [hM94, hM79, s1, s2, show g h + kP_F g la ld t (h + 1) - la = g h - la + kP_F g la ld t (h + 1) by omega]))
    · have ek : k = t + 1 - f := by omega
      have go := forth N hRN (fun a a1 a2 _ => fN a a1 a2) (fun h h1 h2 => vN h (by omega) h2) 0 (Nat.zero_le _) N hRN (fun _ _ => rfl) (fun j hj => absurd hj (by omega))
      refine mm_iload_n dX3_choose_30 rfl rfl ?_
      refine mm_aload_n dX3_choose_31 rfl rfl ?_
      refine mm_get (kd := 0) dX3_choose_32 rfl fl_X3_36 (c := 21) rfl (by decide) rfl rfl ?_
      rw [k8]
      refine mm_iclt dX3_choose_35 (by omega) (by omega) (fun h35 => ?_) (fun h35 => ?_)
      · refine mm_iconst dX3_choose_101 rfl ?_
        refine mm_istore_n dX3_choose_102 rfl (Nat.le_of_ble_eq_true rfl) rfl ?_
        refine mm_aload_n dX3_choose_103 rfl rfl ?_
        refine mm_get (kd := 0) dX3_choose_104 rfl fl_X3_36 (c := 21) rfl (by decide) rfl rfl ?_
        rw [k8]
        refine mm_istore dX3_choose_107 rfl (Nat.le_of_ble_eq_true rfl) rfl ?_
        exact go
      · exfalso; omega
  refine mm_start (ls := [(2, 22), (0, la), (0, ld), (9, 0), (9, 0), (9, 0)]) rfl ?_
  obtain ⟨z1, z2⟩ := kP_end (g := g) (la := la) (ld := ld) (to := t)
  refine mm_aload_n dX3_choose_0 rfl rfl ?_
  refine mm_getr dX3_choose_1 rfl fl_X3_27 (c := 21) rfl (by decide) rfl rfl (hR.at (c := 21) (i := 5) (v := 26) rfl (by decide)) ?_
  refine mm_aload_n dX3_choose_4 rfl rfl ?_
  refine mm_get (kd := 0) dX3_choose_5 rfl fl_X3_40 (c := 21) rfl (by decide) rfl rfl ?_
  rw [h9]
  refine mm_iconst dX3_choose_8 rfl ?_
  refine mm_iadd dX3_choose_9 rfl ?_
  refine mm_iconst dX3_choose_10 rfl ?_
  refine mm_istk (k0 := t + 1) dX3_choose_11 rfl (c := 25) rfl (by decide) rfl (by omega) (by omega) (fun M11 hM11 => ?_)
  have hR11 : mm_Rf M11 := by rw [hM11]; exact hR.up (mm_rt_ar (t := 0) rfl (by decide))
  refine mm_aload_n dX3_choose_12 rfl rfl ?_
  refine mm_getr dX3_choose_13 rfl fl_X3_30 (c := 21) rfl (by decide) rfl rfl (hR11.at (c := 21) (i := 6) (v := 27) rfl (by decide)) ?_
  refine mm_aload_n dX3_choose_16 rfl rfl ?_
  refine mm_get (kd := 0) dX3_choose_17 rfl fl_X3_40 (c := 21) rfl (by decide) rfl rfl ?_
  rw [show M11 21 9 = (t : Int) by rw [hM11, mm_up_c (by decide), h9]]
  refine mm_iconst dX3_choose_20 rfl ?_
  refine mm_iadd dX3_choose_21 rfl ?_
  refine mm_iload_n dX3_choose_22 rfl rfl ?_
  refine mm_ineg dX3_choose_23 rfl ?_
  refine mm_istk (k0 := t + 1) dX3_choose_24 rfl (c := 26) rfl (by decide) rfl (by omega) (by omega) (fun M24 hM24 => ?_)
  have hR24 : mm_Rf M24 := by rw [hM24]; exact hR11.up (mm_rt_ar (t := 0) rfl (by decide))
  refine mm_aload_n dX3_choose_25 rfl rfl ?_
  refine mm_get (kd := 0) dX3_choose_26 rfl fl_X3_40 (c := 21) rfl (by decide) rfl rfl ?_
  rw [show M24 21 9 = (t : Int) by rw [hM24, mm_up_c (by decide), hM11, mm_up_c (by decide), h9]]
  refine mm_istore_n dX3_choose_29 rfl (Nat.le_of_ble_eq_true rfl) rfl ?_
  have go := back 0 (Nat.zero_le _) M24 hR24 (fun a a1 a2 => by rw [hM24, mm_up_row a2, hM11, mm_up_row a1]) (fun h x1 x2 => by
    have eh : h = t + 1 := by omega
    rw [eh, hM24, mm_up_c (by decide), hM11, mm_up_s, mm_up_s, z1, z2]
    exact ⟨rfl, rfl⟩)
  rw [show (t : Int) - ((0 : Nat) : Int) = (t : Int) by omega] at go
  exact go
end
end
/-! HU.plan3 -/
section
/-! ===== KitePower: plan ===== -/
def kP_ok (f t each la ld fall : Int) : Prop := (0 ≤ f ∧ f ≤ 23) ∧ (0 ≤ t ∧ t ≤ 23) ∧ f ≤ t ∧ (1 ≤ each ∧ each ≤ 60) ∧ (0 ≤ la ∧ la ≤ 1000000) ∧ (0 ≤ ld ∧ ld ≤ 1000000) ∧ 0 ≤ fall ∧ fall ≤ 1000000
/-- what plan of the class answers, and leaves -/
def kP_c (M M' : mm_M) (f t each la ld fall x : Int) : Prop := (¬ kP_ok f t each la ld fall ∧ x = -2000000000 ∧ M' = M) ∨ ∃ F T : Nat, f = (F : Int) ∧ t = (T : Int) ∧ kP_ok f t each la ld fall ∧ ∃ g : Nat → Int, (∀ h : Nat, F ≤ h → h ≤ T → kZ ∨ kP_g (M 4) (M 16) (M 17) h each fall (g h)) ∧ x = kP_L g la ld T F ∧
  (∀ a, ¬ (28 ≤ a ∧ a ≤ 41) → a ≠ 21 → ¬ (23 ≤ a ∧ a ≤ 27) → ¬ (42 ≤ a ∧ a ≤ 113) → M' a = M a) ∧ (∀ b, b ≠ 8 → b ≠ 9 → M' 21 b = M 21 b) ∧ kR7 M' ∧ M' 21 8 = (F : Int) ∧ M' 21 9 = (T : Int) ∧ ∀ k : Nat, k ≤ T - F → M' 27 (F + k) = kP_u g la ld T F (k + 1)
section
variable {X : mm_X} {M : mm_M}
theorem c_X11_plan {f t each la ld fall : Int} {n : Nat} (hX : kX_at M) (hR : mm_Rf M) (hK : mm_CK M) (hA : mm_CA M) (hn : ks_n (M 4) = (n : Int)) (h7 : kR7 M) (hf : mm_R f) (ht : mm_R t) (he : mm_R each) (hla : mm_R la) (hld : mm_R ld) (hfa : mm_R fall) :
    mm_C X Y_X11_plan 243 243 [(2, 1), (0, f), (0, t), (0, each), (0, la), (0, ld), (0, fall)] M (fun r M' => ∃ x, r = (0, x) ∧ mm_Rf M' ∧ kP_c M M' f t each la ld fall x) := by
  obtain ⟨Φ, hΦ⟩ : ∃ Φ : mm_V → mm_M → Prop, Φ = (fun r M' => ∃ x, r = (0, x) ∧ mm_Rf M' ∧ kP_c M M' f t each la ld fall x) := ⟨_, rfl⟩
  rw [← hΦ]
  have hV := hK.1
  have bad : ¬ kP_ok f t each la ld fall → Φ (0, -2000000000) M := by
    intro q
    rw [hΦ]
    exact ⟨_, rfl, hR, Or.inl ⟨q, rfl, rfl⟩⟩
  have good : kP_ok f t each la ld fall → mm_J X Y_X11_plan 243 243 243 66 [(2, 1), (0, f), (0, t), (0, each), (0, la), (0, ld), (0, fall), (9, 0)] [] M Φ := by
    intro ok
    obtain ⟨q1, q2, q3, q4, q5, q6, q7⟩ := id ok
    obtain ⟨F, hF⟩ : ∃ F : Nat, f = (F : Int) := ⟨f.toNat, by omega⟩
    obtain ⟨T, hT⟩ : ∃ T : Nat, t = (T : Int) := ⟨t.toNat, by omega⟩
    have cw := c_X3_weigh (X := X) (f := F) (t := T) (n := n) (each := each) (fall := fall) hX hR hK hA hn h7 (by omega) (by omega) q4 q7
    rw [← hF, ← hT] at cw
    have cc : ∀ N, (kz_PW M N ∧ kR7 N ∧ N 21 8 = f ∧ N 21 9 = t ∧ ∀ h : Nat, F ≤ h → h ≤ T → kP_gz (M 4) (M 16) (M 17) h each fall (N 24 h)) → mm_C X Y_X3_choose 243 243 [(2, 22), (0, la), (0, ld)] N (fun r M' => ∃ x, r = (0, x) ∧ mm_Rf M' ∧ Φ (0, x) M') := by
      rintro N ⟨n1, n2, n3, n4, n5⟩
      refine mm_C.mono (c_X3_choose (X := X) (M := N) (f := F) (t := T) (la := la) (ld := ld) (g := N 24) n1.1 (by omega) (by omega) (by rw [n3]; exact hF) (by rw [n4]; exact hT) rfl (fun h h1 h2 => (n5 h h1 h2).2) q5 q6) ?_
      rintro r U ⟨u1, u2, u3, u4⟩
      refine ⟨_, u1, u2, ?_⟩
      rw [hΦ]
      refine ⟨_, rfl, u2, Or.inr ⟨F, T, hF, hT, ok, N 24, fun h h1 h2 => (n5 h h1 h2).1, rfl, fun a a1 a2 a3 a4 => by rw [u3 a (by omega) (by omega) (by omega)]; exact n1.2.1 a a1 a2 (by omega) (by omega) a4, fun b b1 b2 => by rw [u3 21 (by decide) (by decide) (by decide)]; exact n1.2.2 b b1 b2, ?_, by rw [u3 21 (by decide) (by decide) (by decide), n3]; exact hF, by rw [u3 21 (by decide) (by decide) (by decide), n4]; exact hT, u4⟩⟩
      intro g hg
      rw [u3 23 (by decide) (by decide) (by decide), u3 4 (by decide) (by decide) (by decide), u3 16 (by decide) (by decide) (by decide), u3 17 (by decide) (by decide) (by decide), u3 (42 + 3 * g) (by omega) (by omega) (by omega), u3 (42 + 3 * g + 1) (by omega) (by omega) (by omega), u3 (42 + 3 * g + 2) (by omega) (by omega) (by omega)]
      exact n2 g hg
    refine mm_aload_n dX11_plan_66 rfl rfl ?_
    refine mm_getr dX11_plan_67 rfl fl_X11_44 (c := 0) rfl (by decide) rfl rfl (hR.at (c := 0) (i := 4) (v := 22) rfl (by decide)) ?_
    refine mm_iload_n dX11_plan_70 rfl rfl ?_
    refine mm_iload_n dX11_plan_71 rfl rfl ?_
    refine mm_iload_n dX11_plan_72 rfl rfl ?_
    refine mm_iload dX11_plan_73 rfl rfl ?_
    refine mm_V4g (M1 := M) dX11_plan_75 rfl lk_X11_299 (c := 21) rfl (by decide) rfl (by simp) (by simp) (by simp) (by simp) rfl rfl rfl (cw) ?_
    rintro _ N75 ⟨rfl, p75⟩
    change mm_J _ _ _ _ _ _ _ _ _ _
    have hR75 : mm_Rf N75 := p75.1
    refine mm_aload_n dX11_plan_78 rfl rfl ?_
    refine mm_getr dX11_plan_79 rfl fl_X11_44 (c := 0) rfl (by decide) rfl rfl (hR75.at (c := 0) (i := 4) (v := 22) rfl (by decide)) ?_
    refine mm_iload dX11_plan_82 rfl rfl ?_
    refine mm_iload dX11_plan_84 rfl rfl ?_
    refine mm_V2g (M1 := N75) dX11_plan_86 rfl lk_X11_303 (c := 21) rfl (by decide) rfl (by simp) (by simp) rfl rfl rfl (cc N75 p75.2) ?_
    rintro _ N86 ⟨x86, rfl, p86⟩
    change mm_J _ _ _ _ _ _ _ _ _ _
    have hR86 : mm_Rf N86 := p86.1
    refine mm_iret dX11_plan_89 rfl rfl ?_
    exact p86.2
  refine mm_start (ls := [(2, 1), (0, f), (0, t), (0, each), (0, la), (0, ld), (0, fall), (9, 0)]) rfl ?_
  refine mm_iload_n dX11_plan_0 rfl rfl ?_
  refine mm_S1i dX11_plan_1 rfl lk_X11_165 (by simp) rfl rfl rfl (c_X11_isHour hf) ?_
  refine mm_ifeqb dX11_plan_4 (fun h4 => ?_) (fun h4 => ?_)
  · refine mm_iconst dX11_plan_30 rfl ?_
    refine mm_istore dX11_plan_31 rfl (Nat.le_of_ble_eq_true rfl) rfl ?_
    refine mm_iload dX11_plan_33 rfl rfl ?_
    refine mm_ifeq dX11_plan_35 (by omega) (fun _ => ?_) (fun h => absurd (by decide) h)
    refine mm_ldcw dX11_plan_62 rfl kc_X11_298 ?_
    refine mm_iret dX11_plan_65 rfl rfl ?_
    exact bad (fun q => by unfold kP_ok at q; omega)
  · refine mm_iload_n dX11_plan_7 rfl rfl ?_
    refine mm_S1i dX11_plan_8 rfl lk_X11_165 (by simp) rfl rfl rfl (c_X11_isHour ht) ?_
    refine mm_ifeqb dX11_plan_11 (fun h11 => ?_) (fun h11 => ?_)
    · refine mm_iconst dX11_plan_30 rfl ?_
      refine mm_istore dX11_plan_31 rfl (Nat.le_of_ble_eq_true rfl) rfl ?_
      refine mm_iload dX11_plan_33 rfl rfl ?_
      refine mm_ifeq dX11_plan_35 (by omega) (fun _ => ?_) (fun h => absurd (by decide) h)
      refine mm_ldcw dX11_plan_62 rfl kc_X11_298 ?_
      refine mm_iret dX11_plan_65 rfl rfl ?_
      exact bad (fun q => by unfold kP_ok at q; omega)
    · refine mm_iload_n dX11_plan_14 rfl rfl ?_
      refine mm_iload_n dX11_plan_15 rfl rfl ?_
      refine mm_icgt dX11_plan_16 (by omega) (by omega) (fun h16 => ?_) (fun h16 => ?_)
      · refine mm_iconst dX11_plan_30 rfl ?_
        refine mm_istore dX11_plan_31 rfl (Nat.le_of_ble_eq_true rfl) rfl ?_
        refine mm_iload dX11_plan_33 rfl rfl ?_
        refine mm_ifeq dX11_plan_35 (by omega) (fun _ => ?_) (fun h => absurd (by decide) h)
        refine mm_ldcw dX11_plan_62 rfl kc_X11_298 ?_
        refine mm_iret dX11_plan_65 rfl rfl ?_
        exact bad (fun q => by unfold kP_ok at q; omega)
      · refine mm_iload_n dX11_plan_19 rfl rfl ?_
        refine mm_S1i dX11_plan_20 rfl lk_X11_257 (by simp) rfl rfl rfl (c_X11_isEach he) ?_
        refine mm_ifeqb dX11_plan_23 (fun h23 => ?_) (fun h23 => ?_)
        · refine mm_iconst dX11_plan_30 rfl ?_
          refine mm_istore dX11_plan_31 rfl (Nat.le_of_ble_eq_true rfl) rfl ?_
          refine mm_iload dX11_plan_33 rfl rfl ?_
          refine mm_ifeq dX11_plan_35 (by omega) (fun _ => ?_) (fun h => absurd (by decide) h)
          refine mm_ldcw dX11_plan_62 rfl kc_X11_298 ?_
          refine mm_iret dX11_plan_65 rfl rfl ?_
          exact bad (fun q => by unfold kP_ok at q; omega)
        · refine mm_iconst dX11_plan_26 rfl ?_
          refine mm_goto dX11_plan_27 ?_
          refine mm_istore dX11_plan_31 rfl (Nat.le_of_ble_eq_true rfl) rfl ?_
          refine mm_iload dX11_plan_33 rfl rfl ?_
          refine mm_ifeq dX11_plan_35 (by omega) (fun h => absurd h (by decide)) (fun _ => ?_)
          refine mm_iload dX11_plan_38 rfl rfl ?_
          refine mm_S1i dX11_plan_40 rfl lk_X11_295 (by simp) rfl rfl rfl (c_X11_isCost hla) ?_
          refine mm_ifeqb dX11_plan_43 (fun h43 => ?_) (fun h43 => ?_)
          · refine mm_ldcw dX11_plan_62 rfl kc_X11_298 ?_
            refine mm_iret dX11_plan_65 rfl rfl ?_
            exact bad (fun q => by unfold kP_ok at q; omega)
          · refine mm_iload dX11_plan_46 rfl rfl ?_
            refine mm_S1i dX11_plan_48 rfl lk_X11_295 (by simp) rfl rfl rfl (c_X11_isCost hld) ?_
            refine mm_ifeqb dX11_plan_51 (fun h51 => ?_) (fun h51 => ?_)
            · refine mm_ldcw dX11_plan_62 rfl kc_X11_298 ?_
              refine mm_iret dX11_plan_65 rfl rfl ?_
              exact bad (fun q => by unfold kP_ok at q; omega)
            · refine mm_iload dX11_plan_54 rfl rfl ?_
              refine mm_S1i dX11_plan_56 rfl lk_X11_295 (by simp) rfl rfl rfl (c_X11_isCost hfa) ?_
              refine mm_ifneb dX11_plan_59 (fun h59 => ?_) (fun h59 => ?_)
              · first
                | (exfalso; omega)
                | exact mm_drop (by repeat (first | exact trivial | refine And.intro (Or.inl rfl) ?_ | refine And.intro (Or.inr rfl) ?_)) (good (by unfold kP_ok; omega))
              · refine mm_ldcw dX11_plan_62 rfl kc_X11_298 ?_
                refine mm_iret dX11_plan_65 rfl rfl ?_
                exact bad (fun q => by unfold kP_ok at q; omega)
end
/-! ===== the reference: plan ===== -/
theorem kz_choice {P : Nat → Int → Prop} : ∀ m : Nat, (∀ j, j < m → ∃ a, P j a) → ∃ A : Nat → Int, ∀ j, j < m → P j (A j)
  | 0, _ => ⟨fun _ => 0, fun j hj => absurd hj (by omega)⟩
  | m + 1, h => by
    obtain ⟨A, hA⟩ := kz_choice m (fun j hj => h j (by omega))
    obtain ⟨a, ha⟩ := h m (by omega)
    refine ⟨fun j => if j = m then a else A j, fun j hj => ?_⟩
    show P j (if j = m then a else A j)
    by_cases c : j = m
    · rw [if_pos c, c]; exact ha
    · rw [if_neg c]; exact hA j (by omega)
section
variable {K Lo Hi F G : Nat → Int} {h : Int} {n : Nat}
/-- a loop of acts gives no more than one of steps -/
theorem ke_of_lp2 (hK : mm_KV K) (hn : ks_n K = (n : Int)) (hP : ∀ x, x < 15 * n → ke_P K Lo Hi h ((x / 15 : Nat) : Int) (x % 15) (K 10).toNat (F x) (G x)) (hS : ke_S K n F G)
    {s : Int} {B : Nat → Int} {m : Nat} (hl : kb_lp K Lo Hi h s B m) : ∃ p g, gL (ke_E K n F G) p g m ∧ kb_sm K Lo Hi h s B m ≤ ka_sum g m := by
  have st := hl.st hK
  refine ⟨fun j => (kf_run K s B j).toNat, fun j => G (15 * (kf_run K s B j).toNat + (B j % 15).toNat), ?_, ?_⟩
  · refine ⟨fun j hj => ?_, hl.1, ?_⟩
    · have q := st j (by omega)
      obtain ⟨a1, a2⟩ := hl.2.2.1 j hj
      obtain ⟨u, hu⟩ : ∃ u : Nat, kf_run K s B j = (u : Int) := ⟨(kf_run K s B j).toNat, by have := q.1; omega⟩
      obtain ⟨x, hx⟩ : ∃ x : Nat, B j % 15 = (x : Int) := ⟨(B j % 15).toNat, by omega⟩
      have hun : u < n := by have := q.2; omega
      have e1 : (15 * u + x) / 15 = u := by omega
      have e2 : (15 * u + x) % 15 = x := by omega
      have p := hP (15 * u + x) (by omega)
      rw [e1, e2] at p
      rw [hu] at a2
      obtain ⟨f1, -⟩ := (ke_P_act hK rfl (by omega) p).1 (B j) a1 hx a2
      have stt := (hS.t (i := 15 * u + x) (by omega) f1).1
      rw [e1, e2, ← ks_to_m a1 hx] at stt
      have er : kf_run K s B (j + 1) = ks_to K (u : Int) (B j) := by show ks_to K (kf_run K s B j) (B j) = _; rw [hu]
      refine ⟨15 * u + x, by omega, f1, ?_, ?_, ?_⟩
      · show (kf_run K s B j).toNat = _
        rw [hu, e1]; omega
      · show (kf_run K s B (j + 1)).toNat = _
        rw [er, ← stt]; omega
      · show G (15 * (kf_run K s B j).toNat + (B j % 15).toNat) = _
        rw [hu, hx, show ((u : Int)).toNat = u by omega, show ((x : Int)).toNat = x by omega]
    · show (kf_run K s B m).toNat = (kf_run K s B 0).toNat
      rw [hl.2.2.2]; rfl
  · unfold kb_sm
    refine ka_sum_ple m (fun j hj => ?_)
    have q := st j (by omega)
    obtain ⟨a1, a2⟩ := hl.2.2.1 j hj
    obtain ⟨u, hu⟩ : ∃ u : Nat, kf_run K s B j = (u : Int) := ⟨(kf_run K s B j).toNat, by have := q.1; omega⟩
    obtain ⟨x, hx⟩ : ∃ x : Nat, B j % 15 = (x : Int) := ⟨(B j % 15).toNat, by omega⟩
    have hun : u < n := by have := q.2; omega
    have e1 : (15 * u + x) / 15 = u := by omega
    have e2 : (15 * u + x) % 15 = x := by omega
    have p := hP (15 * u + x) (by omega)
    rw [e1, e2] at p
    rw [hu] at a2
    obtain ⟨-, f2⟩ := (ke_P_act hK rfl (by omega) p).1 (B j) a1 hx a2
    unfold kj_g
    rw [hu, hx, show ((u : Int)).toNat = u by omega, show ((x : Int)).toNat = x by omega]
    exact f2
/-- a loop of steps is one of acts -/
theorem ke_lp_of (hK : mm_KV K) (hn : ks_n K = (n : Int)) (hP : ∀ x, x < 15 * n → ke_P K Lo Hi h ((x / 15 : Nat) : Int) (x % 15) (K 10).toNat (F x) (G x)) (hS : ke_S K n F G)
    {p : Nat → Nat} {g : Nat → Int} {m : Nat} (hL : gL (ke_E K n F G) p g m) : ∃ s A, kb_lp K Lo Hi h s A m ∧ kb_sm K Lo Hi h s A m = ka_sum g m := by
  obtain ⟨A, hA⟩ := kz_choice (P := fun j a => ks_ac K a ∧ ks_safe K Lo Hi (p j : Int) a h ∧ ks_to K (p j : Int) a = (p (j + 1) : Int) ∧ ks_sure K Lo Hi (p j : Int) a h = g j) m (fun j hj => by
    obtain ⟨i, i1, i2, i3, i4, i5⟩ := hL.1 j hj
    have pq := hP i i1
    obtain ⟨a, a1, a2, a3, a4⟩ := (ke_P_act hK rfl (by omega) pq).2 i2
    have st := (hS.t (i := i) i1 i2).1
    rw [← ks_to_m a1 a2] at st
    refine ⟨a, a1, by rw [i3]; exact a3, by rw [i3, ← st, i4], by rw [i3, a4, i5]⟩)
  have run : ∀ j, j ≤ m → kf_run K (p 0 : Int) A j = (p j : Int) := by
    intro j
    induction j with
    | zero => intro _; rfl
    | succ j ih =>
      intro hj
      show ks_to K (kf_run K (p 0 : Int) A j) (A j) = _
      rw [ih (by omega)]
      exact (hA j (by omega)).2.2.1
  have p0 := (hS.n _ _ _ (hL.1 0 (by have := hL.2.1; omega))).1
  refine ⟨(p 0 : Int), A, ⟨hL.2.1, ⟨by omega, by omega⟩, fun j hj => by rw [run j (by omega)]; exact ⟨(hA j hj).1, (hA j hj).2.1⟩, by rw [run m (Nat.le_refl m), hL.2.2]⟩, ?_⟩
  unfold kb_sm
  refine ka_sum_congr (fun j hj => ?_)
  unfold kj_g
  rw [run j (by omega)]
  exact (hA j hj).2.2.2
theorem kP_g.ref {each fall S C : Int} (hK : mm_KV K) (hn : ks_n K = (n : Int)) (hP : ∀ x, x < 15 * n → ke_P K Lo Hi h ((x / 15 : Nat) : Int) (x % 15) (K 10).toNat (F x) (G x)) (hS : ke_S K n F G) (hm : kw_mean (ke_E K n F G) S C) : kP_g K Lo Hi h each fall ((each * S).tdiv C) := by
  obtain ⟨c1, c2, p, g, m, c3, c4⟩ := hm
  refine Or.inr ⟨S, C, c1, fun s B m hB => ?_, ?_, rfl⟩
  · obtain ⟨p, g, q1, q2⟩ := ke_of_lp2 hK hn hP hS hB
    have := c2 p g m q1
    have := Int.mul_le_mul_of_nonneg_left q2 (by omega : 0 ≤ C)
    omega
  · obtain ⟨s, A, q1, q2⟩ := ke_lp_of hK hn hP hS c3
    exact ⟨s, A, m, q1, by rw [q2]; exact c4⟩
end
end
