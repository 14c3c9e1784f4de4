/-! ===== KitePower: plan ===== -/
def kP_ok (f t each la ld fall : Int) : Prop := (0 ≤ f ∧ f ≤ 23) ∧ (0 ≤ t ∧ t ≤ 23) ∧ f ≤ t ∧ (1 ≤ each ∧ each ≤ 60) ∧ (0 ≤ la ∧ la ≤ 1000000) ∧ (0 ≤ ld ∧ ld ≤ 1000000) ∧ 0 ≤ fall ∧ fall ≤ 1000000
/-- what plan of the class answers, and leaves -/
def kP_c (M M' : mm_M) (f t each la ld fall x : Int) : Prop := (¬ kP_ok f t each la ld fall ∧ x = -2000000000 ∧ M' = M) ∨ ∃ F T : Nat, f = (F : Int) ∧ t = (T : Int) ∧ kP_ok f t each la ld fall ∧ ∃ g : Nat → Int, (∀ h : Nat, F ≤ h → h ≤ T → kZ ∨ kP_g (M 4) (M 16) (M 17) h each fall (g h)) ∧ x = kP_L g la ld T F ∧
  (∀ a, ¬ (28 ≤ a ∧ a ≤ 41) → a ≠ 21 → ¬ (23 ≤ a ∧ a ≤ 27) → ¬ (42 ≤ a ∧ a ≤ 113) → M' a = M a) ∧ (∀ b, b ≠ 8 → b ≠ 9 → M' 21 b = M 21 b) ∧ kR7 M' ∧ M' 21 8 = (F : Int) ∧ M' 21 9 = (T : Int) ∧ ∀ k : Nat, k ≤ T - F → M' 27 (F + k) = kP_u g la ld T F (k + 1)
section
variable {X : mm_X} {M : mm_M}
theorem c_X11_plan {f t each la ld fall : Int} {n : Nat} (hX : kX_at M) (hR : mm_Rf M) (hK : mm_CK M) (hA : mm_CA M) (hn : ks_n (M 4) = (n : Int)) (h7 : kR7 M) (hf : mm_R f) (ht : mm_R t) (he : mm_R each) (hla : mm_R la) (hld : mm_R ld) (hfa : mm_R fall) :
    mm_C X Y_X11_plan 243 243 [(2, 1), (0, f), (0, t), (0, each), (0, la), (0, ld), (0, fall)] M (fun r M' => ∃ x, r = (0, x) ∧ mm_Rf M' ∧ kP_c M M' f t each la ld fall x) := by
  obtain ⟨Φ, hΦ⟩ : ∃ Φ : mm_V → mm_M → Prop, Φ = (fun r M' => ∃ x, r = (0, x) ∧ mm_Rf M' ∧ kP_c M M' f t each la ld fall x) := ⟨_, rfl⟩
  rw [← hΦ]
  have hV := hK.1
  have bad : ¬ kP_ok f t each la ld fall → Φ (0, -2000000000) M := by
    intro q
    rw [hΦ]
    exact ⟨_, rfl, hR, Or.inl ⟨q, rfl, rfl⟩⟩
  have good : kP_ok f t each la ld fall → mm_J X Y_X11_plan 243 243 243 66 [(2, 1), (0, f), (0, t), (0, each), (0, la), (0, ld), (0, fall), (9, 0)] [] M Φ := by
    intro ok
    obtain ⟨q1, q2, q3, q4, q5, q6, q7⟩ := id ok
    obtain ⟨F, hF⟩ : ∃ F : Nat, f = (F : Int) := ⟨f.toNat, by omega⟩
    obtain ⟨T, hT⟩ : ∃ T : Nat, t = (T : Int) := ⟨t.toNat, by omega⟩
    have cw := c_X3_weigh (X := X) (f := F) (t := T) (n := n) (each := each) (fall := fall) hX hR hK hA hn h7 (by omega) (by omega) q4 q7
    rw [← hF, ← hT] at cw
    have cc : ∀ N, (kz_PW M N ∧ kR7 N ∧ N 21 8 = f ∧ N 21 9 = t ∧ ∀ h : Nat, F ≤ h → h ≤ T → kP_gz (M 4) (M 16) (M 17) h each fall (N 24 h)) → mm_C X Y_X3_choose 243 243 [(2, 22), (0, la), (0, ld)] N (fun r M' => ∃ x, r = (0, x) ∧ mm_Rf M' ∧ Φ (0, x) M') := by
      rintro N ⟨n1, n2, n3, n4, n5⟩
      refine mm_C.mono (c_X3_choose (X := X) (M := N) (f := F) (t := T) (la := la) (ld := ld) (g := N 24) n1.1 (by omega) (by omega) (by rw [n3]; exact hF) (by rw [n4]; exact hT) rfl (fun h h1 h2 => (n5 h h1 h2).2) q5 q6) ?_
      rintro r U ⟨u1, u2, u3, u4⟩
      refine ⟨_, u1, u2, ?_⟩
      rw [hΦ]
      refine ⟨_, rfl, u2, Or.inr ⟨F, T, hF, hT, ok, N 24, fun h h1 h2 => (n5 h h1 h2).1, rfl, fun a a1 a2 a3 a4 => by rw [u3 a (by omega) (by omega) (by omega)]; exact n1.2.1 a a1 a2 (by omega) (by omega) a4, fun b b1 b2 => by rw [u3 21 (by decide) (by decide) (by decide)]; exact n1.2.2 b b1 b2, ?_, by rw [u3 21 (by decide) (by decide) (by decide), n3]; exact hF, by rw [u3 21 (by decide) (by decide) (by decide), n4]; exact hT, u4⟩⟩
      intro g hg
      rw [u3 23 (by decide) (by decide) (by decide), u3 4 (by decide) (by decide) (by decide), u3 16 (by decide) (by decide) (by decide), u3 17 (by decide) (by decide) (by decide), u3 (42 + 3 * g) (by omega) (by omega) (by omega), u3 (42 + 3 * g + 1) (by omega) (by omega) (by omega), u3 (42 + 3 * g + 2) (by omega) (by omega) (by omega)]
      exact n2 g hg
    refine mm_aload_n dX11_plan_66 rfl rfl ?_
    refine mm_getr dX11_plan_67 rfl fl_X11_44 (c := 0) rfl (by decide) rfl rfl (hR.at (c := 0) (i := 4) (v := 22) rfl (by decide)) ?_
    refine mm_iload_n dX11_plan_70 rfl rfl ?_
    refine mm_iload_n dX11_plan_71 rfl rfl ?_
    refine mm_iload_n dX11_plan_72 rfl rfl ?_
    refine mm_iload dX11_plan_73 rfl rfl ?_
    refine mm_V4g (M1 := M) dX11_plan_75 rfl lk_X11_299 (c := 21) rfl (by decide) rfl (by simp) (by simp) (by simp) (by simp) rfl rfl rfl (cw) ?_
    rintro _ N75 ⟨rfl, p75⟩
    change mm_J _ _ _ _ _ _ _ _ _ _
    have hR75 : mm_Rf N75 := p75.1
    refine mm_aload_n dX11_plan_78 rfl rfl ?_
    refine mm_getr dX11_plan_79 rfl fl_X11_44 (c := 0) rfl (by decide) rfl rfl (hR75.at (c := 0) (i := 4) (v := 22) rfl (by decide)) ?_
    refine mm_iload dX11_plan_82 rfl rfl ?_
    refine mm_iload dX11_plan_84 rfl rfl ?_
    refine mm_V2g (M1 := N75) dX11_plan_86 rfl lk_X11_303 (c := 21) rfl (by decide) rfl (by simp) (by simp) rfl rfl rfl (cc N75 p75.2) ?_
    rintro _ N86 ⟨x86, rfl, p86⟩
    change mm_J _ _ _ _ _ _ _ _ _ _
    have hR86 : mm_Rf N86 := p86.1
    refine mm_iret dX11_plan_89 rfl rfl ?_
    exact p86.2
  refine mm_start (ls := [(2, 1), (0, f), (0, t), (0, each), (0, la), (0, ld), (0, fall), (9, 0)]) rfl ?_
  refine mm_iload_n dX11_plan_0 rfl rfl ?_
  refine mm_S1i dX11_plan_1 rfl lk_X11_165 (by simp) rfl rfl rfl (c_X11_isHour hf) ?_
  refine mm_ifeqb dX11_plan_4 (fun h4 => ?_) (fun h4 => ?_)
  · refine mm_iconst dX11_plan_30 rfl ?_
    refine mm_istore dX11_plan_31 rfl (Nat.le_of_ble_eq_true rfl) rfl ?_
    refine mm_iload dX11_plan_33 rfl rfl ?_
    refine mm_ifeq dX11_plan_35 (by omega) (fun _ => ?_) (fun h => absurd (by decide) h)
    refine mm_ldcw dX11_plan_62 rfl kc_X11_298 ?_
    refine mm_iret dX11_plan_65 rfl rfl ?_
    exact bad (fun q => by unfold kP_ok at q; omega)
  · refine mm_iload_n dX11_plan_7 rfl rfl ?_
    refine mm_S1i dX11_plan_8 rfl lk_X11_165 (by simp) rfl rfl rfl (c_X11_isHour ht) ?_
    refine mm_ifeqb dX11_plan_11 (fun h11 => ?_) (fun h11 => ?_)
    · refine mm_iconst dX11_plan_30 rfl ?_
      refine mm_istore dX11_plan_31 rfl (Nat.le_of_ble_eq_true rfl) rfl ?_
      refine mm_iload dX11_plan_33 rfl rfl ?_
      refine mm_ifeq dX11_plan_35 (by omega) (fun _ => ?_) (fun h => absurd (by decide) h)
      refine mm_ldcw dX11_plan_62 rfl kc_X11_298 ?_
      refine mm_iret dX11_plan_65 rfl rfl ?_
      exact bad (fun q => by unfold kP_ok at q; omega)
    · refine mm_iload_n dX11_plan_14 rfl rfl ?_
      refine mm_iload_n dX11_plan_15 rfl rfl ?_
      refine mm_icgt dX11_plan_16 (by omega) (by omega) (fun h16 => ?_) (fun h16 => ?_)
      · refine mm_iconst dX11_plan_30 rfl ?_
        refine mm_istore dX11_plan_31 rfl (Nat.le_of_ble_eq_true rfl) rfl ?_
        refine mm_iload dX11_plan_33 rfl rfl ?_
        refine mm_ifeq dX11_plan_35 (by omega) (fun _ => ?_) (fun h => absurd (by decide) h)
        refine mm_ldcw dX11_plan_62 rfl kc_X11_298 ?_
        refine mm_iret dX11_plan_65 rfl rfl ?_
        exact bad (fun q => by unfold kP_ok at q; omega)
      · refine mm_iload_n dX11_plan_19 rfl rfl ?_
        refine mm_S1i dX11_plan_20 rfl lk_X11_257 (by simp) rfl rfl rfl (c_X11_isEach he) ?_
        refine mm_ifeqb dX11_plan_23 (fun h23 => ?_) (fun h23 => ?_)
        · refine mm_iconst dX11_plan_30 rfl ?_
          refine mm_istore dX11_plan_31 rfl (Nat.le_of_ble_eq_true rfl) rfl ?_
          refine mm_iload dX11_plan_33 rfl rfl ?_
          refine mm_ifeq dX11_plan_35 (by omega) (fun _ => ?_) (fun h => absurd (by decide) h)
          refine mm_ldcw dX11_plan_62 rfl kc_X11_298 ?_
          refine mm_iret dX11_plan_65 rfl rfl ?_
          exact bad (fun q => by unfold kP_ok at q; omega)
        · refine mm_iconst dX11_plan_26 rfl ?_
          refine mm_goto dX11_plan_27 ?_
          refine mm_istore dX11_plan_31 rfl (Nat.le_of_ble_eq_true rfl) rfl ?_
          refine mm_iload dX11_plan_33 rfl rfl ?_
          refine mm_ifeq dX11_plan_35 (by omega) (fun h => absurd h (by decide)) (fun _ => ?_)
          refine mm_iload dX11_plan_38 rfl rfl ?_
          refine mm_S1i dX11_plan_40 rfl lk_X11_295 (by simp) rfl rfl rfl (c_X11_isCost hla) ?_
          refine mm_ifeqb dX11_plan_43 (fun h43 => ?_) (fun h43 => ?_)
          · refine mm_ldcw dX11_plan_62 rfl kc_X11_298 ?_
            refine mm_iret dX11_plan_65 rfl rfl ?_
            exact bad (fun q => by unfold kP_ok at q; omega)
          · refine mm_iload dX11_plan_46 rfl rfl ?_
            refine mm_S1i dX11_plan_48 rfl lk_X11_295 (by simp) rfl rfl rfl (c_X11_isCost hld) ?_
            refine mm_ifeqb dX11_plan_51 (fun h51 => ?_) (fun h51 => ?_)
            · refine mm_ldcw dX11_plan_62 rfl kc_X11_298 ?_
              refine mm_iret dX11_plan_65 rfl rfl ?_
              exact bad (fun q => by unfold kP_ok at q; omega)
            · refine mm_iload dX11_plan_54 rfl rfl ?_
              refine mm_S1i dX11_plan_56 rfl lk_X11_295 (by simp) rfl rfl rfl (c_X11_isCost hfa) ?_
              refine mm_ifneb dX11_plan_59 (fun h59 => ?_) (fun h59 => ?_)
              · first
                | (exfalso; omega)
                | exact mm_drop (by repeat (first | exact trivial | refine And.intro (Or.inl rfl) ?_ | refine And.intro (Or.inr rfl) ?_)) (good (by unfold kP_ok; omega))
              · refine mm_ldcw dX11_plan_62 rfl kc_X11_298 ?_
                refine mm_iret dX11_plan_65 rfl rfl ?_
                exact bad (fun q => by unfold kP_ok at q; omega)
end
/-! ===== the reference: plan ===== -/
theorem kz_choice {P : Nat → Int → Prop} : ∀ m : Nat, (∀ j, j < m → ∃ a, P j a) → ∃ A : Nat → Int, ∀ j, j < m → P j (A j)
  | 0, _ => ⟨fun _ => 0, fun j hj => absurd hj (by omega)⟩
  | m + 1, h => by
    obtain ⟨A, hA⟩ := kz_choice m (fun j hj => h j (by omega))
    obtain ⟨a, ha⟩ := h m (by omega)
    refine ⟨fun j => if j = m then a else A j, fun j hj => ?_⟩
    show P j (if j = m then a else A j)
    by_cases c : j = m
    · rw [if_pos c, c]; exact ha
    · rw [if_neg c]; exact hA j (by omega)
section
variable {K Lo Hi F G : Nat → Int} {h : Int} {n : Nat}
/-- a loop of acts gives no more than one of steps -/
theorem ke_of_lp2 (hK : mm_KV K) (hn : ks_n K = (n : Int)) (hP : ∀ x, x < 15 * n → ke_P K Lo Hi h ((x / 15 : Nat) : Int) (x % 15) (K 10).toNat (F x) (G x)) (hS : ke_S K n F G)
    {s : Int} {B : Nat → Int} {m : Nat} (hl : kb_lp K Lo Hi h s B m) : ∃ p g, gL (ke_E K n F G) p g m ∧ kb_sm K Lo Hi h s B m ≤ ka_sum g m := by
  have st := hl.st hK
  refine ⟨fun j => (kf_run K s B j).toNat, fun j => G (15 * (kf_run K s B j).toNat + (B j % 15).toNat), ?_, ?_⟩
  · refine ⟨fun j hj => ?_, hl.1, ?_⟩
    · have q := st j (by omega)
      obtain ⟨a1, a2⟩ := hl.2.2.1 j hj
      obtain ⟨u, hu⟩ : ∃ u : Nat, kf_run K s B j = (u : Int) := ⟨(kf_run K s B j).toNat, by have := q.1; omega⟩
      obtain ⟨x, hx⟩ : ∃ x : Nat, B j % 15 = (x : Int) := ⟨(B j % 15).toNat, by omega⟩
      have hun : u < n := by have := q.2; omega
      have e1 : (15 * u + x) / 15 = u := by omega
      have e2 : (15 * u + x) % 15 = x := by omega
      have p := hP (15 * u + x) (by omega)
      rw [e1, e2] at p
      rw [hu] at a2
      obtain ⟨f1, -⟩ := (ke_P_act hK rfl (by omega) p).1 (B j) a1 hx a2
      have stt := (hS.t (i := 15 * u + x) (by omega) f1).1
      rw [e1, e2, ← ks_to_m a1 hx] at stt
      have er : kf_run K s B (j + 1) = ks_to K (u : Int) (B j) := by show ks_to K (kf_run K s B j) (B j) = _; rw [hu]
      refine ⟨15 * u + x, by omega, f1, ?_, ?_, ?_⟩
      · show (kf_run K s B j).toNat = _
        rw [hu, e1]; omega
      · show (kf_run K s B (j + 1)).toNat = _
        rw [er, ← stt]; omega
      · show G (15 * (kf_run K s B j).toNat + (B j % 15).toNat) = _
        rw [hu, hx, show ((u : Int)).toNat = u by omega, show ((x : Int)).toNat = x by omega]
    · show (kf_run K s B m).toNat = (kf_run K s B 0).toNat
      rw [hl.2.2.2]; rfl
  · unfold kb_sm
    refine ka_sum_ple m (fun j hj => ?_)
    have q := st j (by omega)
    obtain ⟨a1, a2⟩ := hl.2.2.1 j hj
    obtain ⟨u, hu⟩ : ∃ u : Nat, kf_run K s B j = (u : Int) := ⟨(kf_run K s B j).toNat, by have := q.1; omega⟩
    obtain ⟨x, hx⟩ : ∃ x : Nat, B j % 15 = (x : Int) := ⟨(B j % 15).toNat, by omega⟩
    have hun : u < n := by have := q.2; omega
    have e1 : (15 * u + x) / 15 = u := by omega
    have e2 : (15 * u + x) % 15 = x := by omega
    have p := hP (15 * u + x) (by omega)
    rw [e1, e2] at p
    rw [hu] at a2
    obtain ⟨-, f2⟩ := (ke_P_act hK rfl (by omega) p).1 (B j) a1 hx a2
    unfold kj_g
    rw [hu, hx, show ((u : Int)).toNat = u by omega, show ((x : Int)).toNat = x by omega]
    exact f2
/-- a loop of steps is one of acts -/
theorem ke_lp_of (hK : mm_KV K) (hn : ks_n K = (n : Int)) (hP : ∀ x, x < 15 * n → ke_P K Lo Hi h ((x / 15 : Nat) : Int) (x % 15) (K 10).toNat (F x) (G x)) (hS : ke_S K n F G)
    {p : Nat → Nat} {g : Nat → Int} {m : Nat} (hL : gL (ke_E K n F G) p g m) : ∃ s A, kb_lp K Lo Hi h s A m ∧ kb_sm K Lo Hi h s A m = ka_sum g m := by
  obtain ⟨A, hA⟩ := kz_choice (P := fun j a => ks_ac K a ∧ ks_safe K Lo Hi (p j : Int) a h ∧ ks_to K (p j : Int) a = (p (j + 1) : Int) ∧ ks_sure K Lo Hi (p j : Int) a h = g j) m (fun j hj => by
    obtain ⟨i, i1, i2, i3, i4, i5⟩ := hL.1 j hj
    have pq := hP i i1
    obtain ⟨a, a1, a2, a3, a4⟩ := (ke_P_act hK rfl (by omega) pq).2 i2
    have st := (hS.t (i := i) i1 i2).1
    rw [← ks_to_m a1 a2] at st
    refine ⟨a, a1, by rw [i3]; exact a3, by rw [i3, ← st, i4], by rw [i3, a4, i5]⟩)
  have run : ∀ j, j ≤ m → kf_run K (p 0 : Int) A j = (p j : Int) := by
    intro j
    induction j with
    | zero => intro _; rfl
    | succ j ih =>
      intro hj
      show ks_to K (kf_run K (p 0 : Int) A j) (A j) = _
      rw [ih (by omega)]
      exact (hA j (by omega)).2.2.1
  have p0 := (hS.n _ _ _ (hL.1 0 (by have := hL.2.1; omega))).1
  refine ⟨(p 0 : Int), A, ⟨hL.2.1, ⟨by omega, by omega⟩, fun j hj => by rw [run j (by omega)]; exact ⟨(hA j hj).1, (hA j hj).2.1⟩, by rw [run m (Nat.le_refl m), hL.2.2]⟩, ?_⟩
  unfold kb_sm
  refine ka_sum_congr (fun j hj => ?_)
  unfold kj_g
  rw [run j (by omega)]
  exact (hA j hj).2.2.2
theorem kP_g.ref {each fall S C : Int} (hK : mm_KV K) (hn : ks_n K = (n : Int)) (hP : ∀ x, x < 15 * n → ke_P K Lo Hi h ((x / 15 : Nat) : Int) (x % 15) (K 10).toNat (F x) (G x)) (hS : ke_S K n F G) (hm : kw_mean (ke_E K n F G) S C) : kP_g K Lo Hi h each fall ((each * S).tdiv C) := by
  obtain ⟨c1, c2, p, g, m, c3, c4⟩ := hm
  refine Or.inr ⟨S, C, c1, fun s B m hB => ?_, ?_, rfl⟩
  · obtain ⟨p, g, q1, q2⟩ := ke_of_lp2 hK hn hP hS hB
    have := c2 p g m q1
    have := Int.mul_le_mul_of_nonneg_left q2 (by omega : 0 ≤ C)
    omega
  · obtain ⟨s, A, q1, q2⟩ := ke_lp_of hK hn hP hS c3
    exact ⟨s, A, m, q1, by rw [q2]; exact c4⟩
end

