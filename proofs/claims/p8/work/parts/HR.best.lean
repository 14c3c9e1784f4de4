/-! ===== best, side by side ===== -/
theorem kb_lex.eq {A B : Nat → Int} {n : Nat} (h1 : kb_lex A B n) (h2 : kb_lex B A n) : ∀ j, j < n → A j = B j := by
  rcases h1 with q | ⟨i, i1, i2, i3⟩
  · exact q
  · rcases h2 with q | ⟨j, j1, j2, j3⟩
    · exact fun k hk => (q k hk).symm
    · exfalso
      by_cases c : i < j
      · have := j2 i c; omega
      · by_cases c2 : j < i
        · have := i2 j c2; omega
        · have : i = j := by omega
          rw [this] at i3
          omega
/-- there is but one best loop -/
theorem kb_is.one {K Lo Hi : Nat → Int} {h l1 l2 w1 w2 : Int} {A1 A2 T1 T2 : Nat → Int} (q1 : kb_is K Lo Hi h l1 w1 A1 T1) (q2 : kb_is K Lo Hi h l2 w2 A2 T2) : l1 = l2 ∧ (0 < l1 → w1 = w2 ∧ T1 0 = T2 0 ∧ ∀ j : Nat, (j : Int) < l1 → A1 j = A2 j) := by
  rcases q1 with ⟨a0, a1⟩ | ⟨n1, a1, a2, a3, a4, a5, a6⟩
  · rcases q2 with ⟨b0, b1⟩ | ⟨n2, b1, b2, b3, b4, b5, b6⟩
    · exact ⟨by omega, fun z => by omega⟩
    · exact absurd b3 (a1 _ _ _)
  · rcases q2 with ⟨b0, b1⟩ | ⟨n2, b1, b2, b3, b4, b5, b6⟩
    · exact absurd a3 (b1 _ _ _)
    · have x := a6 _ _ _ b3
      have y := b6 _ _ _ a3
      rw [← b4] at x
      rw [← a4] at y
      have hn1 := a3.1
      have hn2 := b3.1
      rcases x with x | ⟨x1, x⟩
      · rcases y with y | ⟨y1, -⟩ <;> omega
      · rcases y with y | ⟨y1, y⟩
        · omega
        · have en : n1 = n2 := by
            rcases x with x | ⟨x, -⟩
            · rcases y with y | ⟨y, -⟩ <;> omega
            · exact x
          subst en
          have ew : w1 = w2 := by
            have : w2 * (n1 : Int) = w1 * n1 := x1
            exact (Int.eq_of_mul_eq_mul_right (by omega) this).symm
          have x := x.resolve_left (by omega)
          have y := y.resolve_left (by omega)
          have es : T1 0 = T2 0 := by
            rcases x.2 with x | ⟨x, -⟩
            · rcases y.2 with y | ⟨y, -⟩ <;> omega
            · exact x
          have lx := (x.2.resolve_left (by omega)).2
          have ly := (y.2.resolve_left (by omega)).2
          exact ⟨by omega, fun _ => ⟨ew, es, fun j hj => lx.eq ly j (by omega)⟩⟩
section
variable {K Lo Hi : Nat → Int} {h s : Int} {A : Nat → Int} {n : Nat}
theorem nk_lp (hK : mm_KV K) : kb_lp (nK K) Lo Hi h s A n ↔ kb_lp K Lo Hi h s A n := by
  have e10 : nK K 10 = K 10 := nK_lt (by decide)
  constructor
  · rintro ⟨h1, h2, h3, h4⟩
    refine ⟨h1, h2, fun j hj => ?_, by rw [nk_run] at h4; exact h4⟩
    obtain ⟨q1, q2⟩ := h3 j hj
    have ha : ks_ac K (A j) := by unfold ks_ac at q1 ⊢; rw [e10] at q1; exact q1
    rw [nk_run, nk_safe hK ha] at q2
    exact ⟨ha, q2⟩
  · rintro ⟨h1, h2, h3, h4⟩
    refine ⟨h1, h2, fun j hj => ?_, by rw [nk_run]; exact h4⟩
    obtain ⟨q1, q2⟩ := h3 j hj
    exact ⟨by unfold ks_ac at q1 ⊢; rw [e10]; exact q1, by rw [nk_run, nk_safe hK q1]; exact q2⟩
theorem nk_sm (hK : mm_KV K) (hl : kb_lp K Lo Hi h s A n) : kb_sm (nK K) Lo Hi h s A n = kb_sm K Lo Hi h s A n := by
  unfold kb_sm
  refine ka_sum_congr (fun j hj => ?_)
  unfold kj_g
  rw [nk_run, nk_sure hK (hl.2.2.1 j hj).1]
theorem nk_is {l w : Int} {T : Nat → Int} (hK : mm_KV K) : kb_is (nK K) Lo Hi h l w A T ↔ kb_is K Lo Hi h l w A T := by
  constructor
  · rintro (⟨h1, h2⟩ | ⟨m, h1, h2, h3, h4, h5, h6⟩)
    · exact Or.inl ⟨h1, fun s B n q => h2 s B n ((nk_lp hK).mpr q)⟩
    · have h3 := (nk_lp hK).mp h3
      refine Or.inr ⟨m, h1, h2, h3, by rw [nk_sm hK h3] at h4; exact h4, fun j hj => by rw [h5 j hj, nk_run], fun s B n q => ?_⟩
      have := h6 s B n ((nk_lp hK).mpr q)
      rw [nk_sm hK q] at this
      exact this
  · rintro (⟨h1, h2⟩ | ⟨m, h1, h2, h3, h4, h5, h6⟩)
    · exact Or.inl ⟨h1, fun s B n q => h2 s B n ((nk_lp hK).mp q)⟩
    · refine Or.inr ⟨m, h1, h2, (nk_lp hK).mpr h3, by rw [nk_sm hK h3]; exact h4, fun j hj => by rw [h5 j hj, nk_run], fun s B n q => ?_⟩
      have q := (nk_lp hK).mp q
      rw [nk_sm hK q]
      exact h6 s B n q
end
theorem kR3.is {M : mm_M} (h : kR3 M) {Lo Hi A T : Nat → Int} {hr l w : Int} : kb_is (mm_rk M) Lo Hi hr l w A T ↔ kb_is (M 4) Lo Hi hr l w A T := by
  rw [← nk_is h.2.1, h.2.2.1, nk_is h.1.1]
/-- what best answers, and leaves -/
def kz_b (M M' : mm_M) (h x : Int) : Prop := (¬ ks_hr h ∧ x = -2 ∧ M' = M) ∨ ∃ H : Nat, h = (H : Int) ∧ H < 24 ∧ kR7 M' ∧ M' 23 H = 1 ∧ (∀ a, ¬ (28 ≤ a ∧ a ≤ 41) → a ≠ 23 → ¬ (42 ≤ a ∧ a ≤ 116) → M' a = M a) ∧
  ((x = -1 ∧ M' (42 + 3 * H) 2 = 0 ∧ M' 114 = M 114 ∧ M' 115 = M 115 ∧ M' 116 = M 116) ∨ (x = M' (42 + 3 * H) 2 ∧ 1 ≤ x ∧ M' 114 2 = x ∧ M' 114 3 = M' (42 + 3 * H) 3 ∧ ∀ i : Nat, (i : Int) < x → M' 115 i = M' (42 + 3 * H + 1) i ∧ M' 116 i = M' (42 + 3 * H + 2) i))
section
variable {X : mm_X} {M : mm_M}
theorem c_X11_best {h : Int} {n : Nat} (hR : mm_Rf M) (hK : mm_CK M) (hA : mm_CA M) (hn : ks_n (M 4) = (n : Int)) (hx : mm_R h) (h7 : kR7 M) (hZ : ∀ g, ks_hr g → kX_cut (M 4) (M 16) (M 17) g n → kZ) :
    mm_C X Y_X11_best 243 243 [(2, 1), (0, h)] M (fun r M' => ∃ x, r = (0, x) ∧ mm_Rf M' ∧ kz_b M M' h x) := by
  obtain ⟨Φ, hΦ⟩ : ∃ Φ : mm_V → mm_M → Prop, Φ = (fun r M' => ∃ x, r = (0, x) ∧ mm_Rf M' ∧ kz_b M M' h x) := ⟨_, rfl⟩
  rw [← hΦ]
  have ch := c_X11_isHour (X := X) (M := M) (n := h) hx
  refine mm_start (ls := [(2, 1), (0, h), (9, 0)]) rfl ?_
  by_cases hh : 0 ≤ h ∧ h ≤ 23
  · rw [mm_b_t hh] at ch
    obtain ⟨H, hH⟩ : ∃ H : Nat, h = (H : Int) := ⟨h.toNat, by omega⟩
    subst hH
    have hH : H < 24 := by omega
    have hrw := (mm_rw_loops H hH).1
    have cl := c_X3_loopAt (X := X) (h := H) (n := n) hR hK hA hn hH h7 (hZ _ hh)
    have wl := mm_rw_latest
    -- behind the search
    have back : ∀ N, mm_Rf N → kz_H M N → kR7 N → N 23 H = 1 → mm_J X Y_X11_best 243 243 243 19 [(2, 1), (0, (H : Int)), (2, ((42 + 3 * H : Nat) : Int) + 1)] [] N Φ := by
      intro N hRN hHN h7N h1
      have lN := (h7N H hH).2.1
      have fr : ∀ a, ¬ (28 ≤ a ∧ a ≤ 41) → a ≠ 23 → ¬ (42 ≤ a ∧ a ≤ 113) → N a = M a := hHN.2
      by_cases l0 : N (42 + 3 * H) 2 = 0
      · refine mm_aload_n dX11_best_19 rfl rfl ?_
        refine mm_get (kd := 0) dX11_best_20 rfl fl_X11_115 (c := 42+3*H) rfl hrw.c0 hrw.1 rfl ?_
        rw [l0]
        refine mm_ifne dX11_best_23 (by omega) (fun h23 => ?_) (fun h23 => ?_)
        · exfalso; omega
        · refine mm_iconst dX11_best_26 rfl ?_
          refine mm_iret dX11_best_27 rfl rfl ?_
          rw [hΦ]; exact ⟨_, rfl, hRN, Or.inr ⟨H, rfl, hH, h7N, h1, fun a a1 a2 a3 => fr a a1 a2 (by omega), Or.inl ⟨rfl, l0, fr 114 (by decide) (by decide) (by decide), fr 115 (by decide) (by decide) (by decide), fr 116 (by decide) (by decide) (by decide)⟩⟩⟩
      · have cc := c_X8_copyFrom (X := X) (M := N) (rc := 114) (rd := 42 + 3 * H) (len := 288) (len' := 288) hRN wl hrw (by omega) lN
        obtain ⟨U, hU⟩ : ∃ U, U = mm_cf N 114 (42 + 3 * H) 288 := ⟨_, rfl⟩
        rw [← hU] at cc
        have mn : min (N (42 + 3 * H) 2) ((288 : Nat) : Int) = N (42 + 3 * H) 2 := by omega
        have at1 : ∀ a b, U a b = if a = 114 ∧ b = 2 then N (42 + 3 * H) 2 else if a = 114 ∧ b = 3 then N (42 + 3 * H) 3 else if a = 114 + 1 ∧ (b : Int) < N (42 + 3 * H) 2 then N (42 + 3 * H + 1) b else if a = 114 + 2 ∧ (b : Int) < N (42 + 3 * H) 2 then N (42 + 3 * H + 2) b else N a b := by
          intro a b; rw [hU]; unfold mm_cf; rw [mn]
        have o1 : ∀ a, ¬ (114 ≤ a ∧ a ≤ 116) → U a = N a := by
          intro a ha
          funext b
          rw [at1, if_neg (by omega), if_neg (by omega), if_neg (by omega), if_neg (by omega)]
        have hRU : mm_Rf U := by
          intro a b hab
          rw [at1]
          by_cases z1 : a = 114 ∧ b = 2
          · exact absurd (by rw [z1.1, z1.2]; exact mm_rt_row wl (by decide)) hab
          by_cases z2 : a = 114 ∧ b = 3
          · exact absurd (by rw [z2.1, z2.2]; exact mm_rt_row wl (by decide)) hab
          by_cases z3 : a = 114 + 1 ∧ (b : Int) < N (42 + 3 * H) 2
          · exact absurd (by rw [z3.1]; exact mm_rt_arr wl.2.1 b) hab
          by_cases z4 : a = 114 + 2 ∧ (b : Int) < N (42 + 3 * H) 2
          · exact absurd (by rw [z4.1]; exact mm_rt_arr wl.2.2.1 b) hab
          rw [if_neg z1, if_neg z2, if_neg z3, if_neg z4]
          exact hRN a b hab
        have u2 : U 114 2 = N (42 + 3 * H) 2 := by rw [at1, if_pos ⟨rfl, rfl⟩]
        have u3 : U 114 3 = N (42 + 3 * H) 3 := by rw [at1, if_neg (by omega), if_pos ⟨rfl, rfl⟩]
        have h7U : kR7 U := by
          intro g hg
          rw [o1 23 (by decide), o1 4 (by decide), o1 16 (by decide), o1 17 (by decide), o1 (42 + 3 * g) (by omega), o1 (42 + 3 * g + 1) (by omega), o1 (42 + 3 * g + 2) (by omega)]
          exact h7N g hg
        have k2 : U (42 + 3 * H) 2 = N (42 + 3 * H) 2 := by rw [o1 (42 + 3 * H) (by omega)]
        refine mm_aload_n dX11_best_19 rfl rfl ?_
        refine mm_get (kd := 0) dX11_best_20 rfl fl_X11_115 (c := 42+3*H) rfl hrw.c0 hrw.1 rfl ?_
        refine mm_ifne dX11_best_23 (by omega) (fun h23 => ?_) (fun h23 => ?_)
        · refine mm_aload_n dX11_best_28 rfl rfl ?_
          refine mm_getr dX11_best_29 rfl fl_X11_53 (c := 0) rfl (by decide) rfl rfl (hRN.at (c := 0) (i := 5) (v := 115) rfl (by decide)) ?_
          refine mm_aload_n dX11_best_32 rfl rfl ?_
          refine mm_V1v dX11_best_33 rfl lk_X11_212 (c := 114) rfl (by decide) rfl (by simp) rfl rfl rfl (cc) ?_
          refine mm_aload_n dX11_best_36 rfl rfl ?_
          refine mm_get (kd := 0) dX11_best_37 rfl fl_X11_115 (c := 42+3*H) rfl hrw.c0 hrw.1 rfl ?_
          rw [k2]
          refine mm_iret dX11_best_40 rfl rfl ?_
          rw [hΦ]; exact ⟨_, rfl, hRU, Or.inr ⟨H, rfl, hH, h7U, by rw [o1 23 (by decide)]; exact h1, fun a a1 a2 a3 => by rw [o1 a (by omega)]; exact fr a a1 a2 (by omega), Or.inr ⟨k2.symm, by omega, u2, by rw [o1 (42 + 3 * H) (by omega)]; exact u3, fun i hi => ⟨by rw [at1, if_neg (by omega), if_neg (by omega), if_pos ⟨rfl, hi⟩, o1 (42 + 3 * H + 1) (by omega)], by rw [at1, if_neg (by omega), if_neg (by omega), if_neg (by omega), if_pos ⟨rfl, hi⟩, o1 (42 + 3 * H + 2) (by omega)]⟩⟩⟩⟩
        · exfalso; omega
    refine mm_iload_n dX11_best_0 rfl rfl ?_
    refine mm_S1i dX11_best_1 rfl lk_X11_165 (by simp) rfl rfl rfl (ch) ?_
    refine mm_ifne dX11_best_4 (by omega) (fun _ => ?_) (fun h => absurd h (by decide))
    refine mm_aload_n dX11_best_10 rfl rfl ?_
    refine mm_getr dX11_best_11 rfl fl_X11_44 (c := 0) rfl (by decide) rfl rfl (hR.at (c := 0) (i := 4) (v := 22) rfl (by decide)) ?_
    refine mm_iload_n dX11_best_14 rfl rfl ?_
    refine mm_V1g (M1 := M) dX11_best_15 rfl lk_X11_208 (c := 21) rfl (by decide) rfl (by simp) rfl rfl rfl (cl) ?_
    rintro _ N15 ⟨rfl, p15⟩
    change mm_J _ _ _ _ _ _ _ _ _ _
    have hR15 : mm_Rf N15 := p15.1
    refine mm_astore_n dX11_best_18 rfl (Nat.le_of_ble_eq_true rfl) rfl ?_
    exact back N15 hR15 p15.2.1 p15.2.2.1 p15.2.2.2
  · rw [mm_b_f hh] at ch
    refine mm_iload_n dX11_best_0 rfl rfl ?_
    refine mm_S1i dX11_best_1 rfl lk_X11_165 (by simp) rfl rfl rfl (ch) ?_
    refine mm_ifne dX11_best_4 (by omega) (fun h => absurd h (by decide)) (fun _ => ?_)
    refine mm_bipush dX11_best_7 rfl (by decide) ?_
    refine mm_iret dX11_best_9 rfl rfl ?_
    rw [hΦ]; exact ⟨_, rfl, hR, Or.inl ⟨hh, rfl, rfl⟩⟩
/-- no search is cut, where it matters -/
def kX_never : Prop := ∀ K Lo Hi h n, mm_KV K → ks_n K = ((n : Nat) : Int) → (∀ s, ks_st K s → (0 ≤ ks_wi Lo K s h ∧ ks_wi Lo K s h ≤ ks_wi Hi K s h) ∧ ks_wi Hi K s h ≤ 60) → kX_cut K Lo Hi h n → kZ
theorem kX_never.z (hN : kX_never) {M : mm_M} (hK : mm_CK M) (hA : mm_CA M) {n : Nat} (hn : ks_n (M 4) = (n : Int)) : ∀ g, ks_hr g → kX_cut (M 4) (M 16) (M 17) g n → kZ := by
  intro g hg hc
  refine hN _ _ _ _ _ hK.1 hn (fun s hs => ?_) hc
  have := hA _ (ks_plb hg (ks_bandb hK.1 hs))
  unfold ks_wi
  omega
/-- no search is cut, over this memory -/
def kX_at (M : mm_M) : Prop := ∀ n : Nat, ks_n (M 4) = (n : Int) → ∀ g, ks_hr g → kX_cut (M 4) (M 16) (M 17) g n → kZ
theorem kX_never.at (hN : kX_never) {M : mm_M} (hR : kR M) : kX_at M := by
  obtain ⟨hRf, h1, h2, h3, h4, h5, h6, h7, h8, h9, h10, h11, h12, h13, h14, h15, h16⟩ := id hR
  exact fun n hn => hN.z h3.1 h5.2.2.2.1 hn
theorem kf_best_at {M : mm_M} (hR : kR M) (hX : kX_at M) (h : Int) (hx : mm_R h) : kkZ X Y_X11_best Y_X13_best [(0, h)] M := by
  obtain ⟨hRf, h1, h2, h3, h4, h5, h6, h7, h8, h9, h10, h11, h12, h13, h14, h15, h16⟩ := id hR
  obtain ⟨n, hn⟩ : ∃ n : Nat, ks_n (M 4) = (n : Int) := ⟨(ks_n (M 4)).toNat, by have := ks_nb h3.1.1; omega⟩
  have hA := h5.2.2.2.1
  refine mm_C.mono (c_X11_best (X := X) hRf h3.1 hA hn hx h7 (hX n hn)) ?_
  rintro r M1 ⟨x, rfl, hRf1, hb⟩
  refine ⟨x, rfl, ?_⟩
  have e1 : ∀ a b, ¬ ((28 ≤ a ∧ a ≤ 41) ∨ a = 23 ∨ (42 ≤ a ∧ a ≤ 116)) → M1 a b = M a b := by
    intro a b z
    rcases hb with ⟨-, -, q⟩ | ⟨H, -, -, -, -, q, -⟩
    · rw [q]
    · rw [q a (by omega) (by omega) (by omega)]
  have k3 : kR3 M1 := h3.fr (fun a b y => e1 a b (by omega))
  have k5 : kR5 M1 := h5.fr (fun a b y => e1 a b (by omega))
  have n1 : ks_n (mm_rk M1) = (n : Int) := by
    rw [k3.n, show M1 4 = M 4 from funext fun b => e1 4 b (by omega)]; exact hn
  refine mm_C.mono (c_X13_best (X := X) (M := M1) (h := h) (n := n) hRf1 k3.2.1 k5.ra hx n1) ?_
  rintro r2 M2 ⟨y, rfl, hRf2, hv, hy⟩
  have e : ∀ a b, ¬ ((28 ≤ a ∧ a ≤ 41) ∨ a = 23 ∨ (42 ≤ a ∧ a ≤ 116) ∨ (a = 183 ∧ (b = 39 ∨ b = 40 ∨ (46 ≤ b ∧ b ≤ 54))) ∨ (205 ≤ a ∧ a ≤ 214)) → M2 a b = M a b := by
    intro a b z
    have : M2 a b = M1 a b := by
      by_cases c : a = 183
      · rw [c]; exact hv.2.2 b (by omega) (by omega) (by omega)
      · rw [hv.2.1 a c (by omega)]
    rw [this]
    exact e1 a b (by omega)
  have r1 : ∀ a, a < 183 → M2 a = M1 a := fun a ha => hv.2.1 a (by omega) (by omega)
  have s203 : M1 203 = M1 16 ∧ M1 204 = M1 17 := k5.2.2.1
  have k7 : kR7 M2 := by
    have h71 : kR7 M1 := by
      rcases hb with ⟨-, -, q⟩ | ⟨H, -, -, q, -⟩
      · rw [q]; exact h7
      · exact q
    intro g hg
    rw [r1 23 (by decide), r1 4 (by decide), r1 16 (by decide), r1 17 (by decide), r1 (42 + 3 * g) (by omega), r1 (42 + 3 * g + 1) (by omega), r1 (42 + 3 * g + 2) (by omega)]
    exact h71 g hg
  rcases hb with ⟨b1, b2, b3⟩ | ⟨H, bH, bh, b7, b1, bf, b2⟩
  · rcases hy with ⟨-, y2, y3, y4⟩ | ⟨y1, -⟩ | ⟨y1, -⟩
    · refine ⟨⟨_, rfl, Or.inr (by rw [b2, y2])⟩, ?_⟩
      have k6 : kR6 M2 := by
        refine h6.fr (fun a b q => ?_)
        rw [← b3]
        by_cases c : a = 183
        · rw [c]; exact y3 b (by omega)
        · by_cases c2 : a = 214
          · rw [c2, y4]
          · exact congrFun (hv.2.1 a c (by omega)) b
      exact ⟨hRf2, h1.fr (fun a b q => e a b (by omega)), h2.fr (fun a b q => e a b (by omega)), h3.fr (fun a b q => e a b (by omega)), h4.fr (fun a b q => e a b (by omega)), h5.fr (fun a b q => e a b (by omega)), k6, k7, h8.fr (fun a b q => e a b (by omega)), h9.fr (fun a b q => e a b (by omega)), h10.fr (fun a b q => e a b (by omega)), h11.fr (fun a b q => e a b (by omega)), h12.fr (fun a b q => e a b (by omega)), h13.fr (fun a b q => e a b (by omega)), h14.fr (fun a b q => e a b (by omega)), h15.fr (fun a b q => e a b (by omega)), h16.fr (fun a b q => e a b (by omega))⟩
    · exact absurd y1 b1
    · exact absurd y1 b1
  · have hhr : ks_hr h := by rw [bH]; exact ⟨by omega, by omega⟩
    have len1 := (b7 H bh).2.1
    have isZ := (b7 H bh).2.2 b1 |>.2
    rw [← bH] at isZ
    have l114 : 0 ≤ M1 114 2 ∧ M1 114 2 ≤ 288 := by
      rcases b2 with ⟨-, -, c, -⟩ | ⟨c1, c2, c3, -⟩
      · rw [c]; exact h6.1
      · omega
    have u50 : (0 ≤ M2 183 50 ∧ M2 183 50 ≤ 288) ∧ (M2 183 54 = 0 ∨ M2 183 54 = 1) := by
      have v50 : M1 183 50 = M 183 50 := e1 183 50 (by decide)
      have v54 : M1 183 54 = M 183 54 := e1 183 54 (by decide)
      rcases hy with ⟨y1, -⟩ | ⟨-, y2, y3, y4, y5⟩ | ⟨-, y2, y3, y4, y5⟩
      · exact absurd hhr y1
      · rw [y3 50 (by decide), y3 54 (by decide), v50, v54]; exact ⟨h6.2.1, h6.2.2.1⟩
      · refine ⟨?_, Or.inr y4⟩
        rcases y5 with ⟨q, -⟩ | ⟨m, q1, q2, -⟩ <;> omega
    have rest : kZ → ∀ w, (∃ w' : Int, (0, w) = ((0, w') : mm_V) ∧ (kZ ∨ w' = x)) ∧ kR M2 := by
      intro z w
      refine ⟨⟨w, rfl, Or.inl z⟩, ?_⟩
      have k6 : kR6 M2 := by
        unfold kR6
        rw [r1 114 (by decide)]
        exact ⟨l114, u50.1, u50.2, Or.inl z⟩
      exact ⟨hRf2, h1.fr (fun a b q => e a b (by omega)), h2.fr (fun a b q => e a b (by omega)), h3.fr (fun a b q => e a b (by omega)), h4.fr (fun a b q => e a b (by omega)), h5.fr (fun a b q => e a b (by omega)), k6, k7, h8.fr (fun a b q => e a b (by omega)), h9.fr (fun a b q => e a b (by omega)), h10.fr (fun a b q => e a b (by omega)), h11.fr (fun a b q => e a b (by omega)), h12.fr (fun a b q => e a b (by omega)), h13.fr (fun a b q => e a b (by omega)), h14.fr (fun a b q => e a b (by omega)), h15.fr (fun a b q => e a b (by omega)), h16.fr (fun a b q => e a b (by omega))⟩
    rcases isZ with z | is1
    · exact rest z _
    rcases hy with ⟨y1, -⟩ | ⟨-, y2, y3, y4, y5⟩ | ⟨-, y2, y3, y4, y5⟩
    · exact absurd hhr y1
    · rcases b2 with ⟨c1, c2, c3, c4, c5⟩ | ⟨c1, c2, -⟩
      · refine ⟨⟨_, rfl, Or.inr (by rw [c1, y2])⟩, ?_⟩
        have k6 : kR6 M2 := by
          refine h6.fr (fun a b q => ?_)
          have a1 : M1 a b = M a b := by
            by_cases d1 : a = 114
            · rw [d1, c3]
            · by_cases d2 : a = 115
              · rw [d2, c4]
              · by_cases d3 : a = 116
                · rw [d3, c5]
                · exact e1 a b (by omega)
          rw [← a1]
          by_cases c : a = 183
          · rw [c]; exact y3 b (by omega)
          · by_cases c2 : a = 214
            · rw [c2, y4]
            · exact congrFun (hv.2.1 a c (by omega)) b
        exact ⟨hRf2, h1.fr (fun a b q => e a b (by omega)), h2.fr (fun a b q => e a b (by omega)), h3.fr (fun a b q => e a b (by omega)), h4.fr (fun a b q => e a b (by omega)), h5.fr (fun a b q => e a b (by omega)), k6, k7, h8.fr (fun a b q => e a b (by omega)), h9.fr (fun a b q => e a b (by omega)), h10.fr (fun a b q => e a b (by omega)), h11.fr (fun a b q => e a b (by omega)), h12.fr (fun a b q => e a b (by omega)), h13.fr (fun a b q => e a b (by omega)), h14.fr (fun a b q => e a b (by omega)), h15.fr (fun a b q => e a b (by omega)), h16.fr (fun a b q => e a b (by omega))⟩
      · exfalso
        rw [s203.1, s203.2] at y5
        have none : kb_is (mm_rk M1) (M1 16) (M1 17) h 0 0 (fun _ => 0) (fun _ => 0) := Or.inl ⟨rfl, y5⟩
        have := (is1.one (k3.is.mp none)).1
        omega
    · rw [s203.1, s203.2] at y5
      have u := is1.one (k3.is.mp y5)
      rcases b2 with ⟨c1, c2, -⟩ | ⟨c1, c2, c3, c4, c5⟩
      · exfalso
        have := u.1
        omega
      · have eq := u.1
        obtain ⟨u1, u2, u3⟩ := u.2 (by omega)
        refine ⟨⟨_, rfl, Or.inr (by rw [y2, ← eq, c1])⟩, ?_⟩
        have k6 : kR6 M2 := by
          unfold kR6
          rw [r1 114 (by decide), r1 115 (by decide), r1 116 (by decide), c3]
          refine ⟨by omega, by omega, Or.inr y4, Or.inr (Or.inr ⟨by omega, y4, by omega, by rw [c4]; exact u1.symm, ?_, fun i hi => ?_⟩)⟩
          · have := (c5 0 (by omega)).2
            rw [this, u2]
            rfl
          · rw [(c5 i hi).1, ← u3 i (by omega)]
        exact ⟨hRf2, h1.fr (fun a b q => e a b (by omega)), h2.fr (fun a b q => e a b (by omega)), h3.fr (fun a b q => e a b (by omega)), h4.fr (fun a b q => e a b (by omega)), h5.fr (fun a b q => e a b (by omega)), k6, k7, h8.fr (fun a b q => e a b (by omega)), h9.fr (fun a b q => e a b (by omega)), h10.fr (fun a b q => e a b (by omega)), h11.fr (fun a b q => e a b (by omega)), h12.fr (fun a b q => e a b (by omega)), h13.fr (fun a b q => e a b (by omega)), h14.fr (fun a b q => e a b (by omega)), h15.fr (fun a b q => e a b (by omega)), h16.fr (fun a b q => e a b (by omega))⟩
theorem kf_best (hN : kX_never) : kF1Z X Y_X11_best Y_X13_best := fun M hR h hx => kf_best_at hR (hN.at hR) h hx
end

