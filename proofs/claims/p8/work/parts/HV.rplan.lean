/-! ===== the reference: plan ===== -/
def kP_r (M N : mm_M) : Prop := mm_Rf N ∧ (∀ a, a ≠ 183 → ¬ (205 ≤ a ∧ a ≤ 207) → ¬ (222 ≤ a ∧ a ≤ 225) → N a = M a) ∧ ∀ b, b ≠ 39 → b ≠ 40 → b ≠ 84 → b ≠ 85 → N 183 b = M 183 b
theorem kP_r.k {M N : mm_M} (f : kP_r M N) : mm_rk N = mm_rk M := mm_rk.fr (fun a b q => by
  by_cases c : a = 183
  · rw [c]; exact f.2.2 b (by omega) (by omega) (by omega) (by omega)
  · rw [f.2.1 a c (by omega) (by omega)])
/-- what plan of the reference answers, and leaves -/
def kP_x (M M' : mm_M) (f t each la ld fall x : Int) : Prop := (¬ kP_ok f t each la ld fall ∧ x = -2000000000 ∧ M' = M) ∨ ∃ F T : Nat, f = (F : Int) ∧ t = (T : Int) ∧ kP_ok f t each la ld fall ∧ ∃ g : Nat → Int, (∀ h : Nat, F ≤ h → h ≤ T → kP_g (mm_rk M) (M 203) (M 204) h each fall (g h)) ∧ x = kP_L g la ld T F ∧ kP_r M M' ∧ M' 183 84 = (F : Int) ∧ M' 183 85 = (T : Int) ∧ ∀ k : Nat, k ≤ T - F → M' 223 (F + k) = kP_u g la ld T F (k + 1)
section
variable {X : mm_X} {M : mm_M}
theorem c_X13_plan {f t each la ld fall : Int} {n : Nat} (hR : mm_Rf M) (hK : mm_KV (mm_rk M)) (hA : mm_RA M) (hn : ks_n (mm_rk M) = (n : Int)) (hf : mm_R f) (ht : mm_R t) (he : mm_R each) (hla : mm_R la) (hld : mm_R ld) (hfa : mm_R fall) :
    mm_C X Y_X13_plan 243 243 [(2, 184), (0, f), (0, t), (0, each), (0, la), (0, ld), (0, fall)] M (fun r M' => ∃ x, r = (0, x) ∧ mm_Rf M' ∧ kP_x M M' f t each la ld fall x) := by
  obtain ⟨Φ, hΦ⟩ : ∃ Φ : mm_V → mm_M → Prop, Φ = (fun r M' => ∃ x, r = (0, x) ∧ mm_Rf M' ∧ kP_x M M' f t each la ld fall x) := ⟨_, rfl⟩
  rw [← hΦ]
  have hnb := ks_nb hK
  have bad : ¬ kP_ok f t each la ld fall → Φ (0, -2000000000) M := by
    intro q
    rw [hΦ]
    exact ⟨_, rfl, hR, Or.inl ⟨q, rfl, rfl⟩⟩
  have good : kP_ok f t each la ld fall → mm_J X Y_X13_plan 243 243 243 60 [(2, 184), (0, f), (0, t), (0, each), (0, la), (0, ld), (0, fall), (9, 0), (9, 0), (9, 0), (9, 0), (9, 0)] [] M Φ := by
    intro ok
    obtain ⟨q1, q2, q3, q4, q5, q6, q7⟩ := id ok
    obtain ⟨F, hF⟩ : ∃ F : Nat, f = (F : Int) := ⟨f.toNat, by omega⟩
    obtain ⟨T, hT⟩ : ∃ T : Nat, t = (T : Int) := ⟨t.toNat, by omega⟩
    have hFT : F ≤ T := by omega
    have hT24 : T < 24 := by omega
    have hw : ∀ h : Nat, h ≤ 23 → ∀ s, ks_st (mm_rk M) s → (0 ≤ ks_wi (M 203) (mm_rk M) s h ∧ ks_wi (M 203) (mm_rk M) s h ≤ 60) ∧ (0 ≤ ks_wi (M 204) (mm_rk M) s h ∧ ks_wi (M 204) (mm_rk M) s h ≤ 60) := fun h hh s hs => hA.wi hK hs ⟨by omega, by omega⟩
    -- forth
    have forth : ∀ (g : Nat → Int), (∀ h : Nat, F ≤ h → h ≤ T → kP_g (mm_rk M) (M 203) (M 204) h each fall (g h)) → ∀ N0, kP_r M N0 → (∀ h, F ≤ h → h ≤ T + 1 → N0 224 h = kP_L g la ld T h ∧ N0 225 h = kP_F g la ld T h) → (∀ h, F ≤ h → h ≤ T + 1 → (0 ≤ kP_L g la ld T h ∧ kP_L g la ld T h ≤ 2052864000) ∧ -1000000 ≤ kP_F g la ld T h ∧ kP_F g la ld T h ≤ 2052864000) →
        ∀ k : Nat, k ≤ T + 1 - F → ∀ N, mm_Rf N → (∀ a, a ≠ 223 → N a = N0 a) → (∀ j, j < k → N 223 (F + j) = kP_u g la ld T F (j + 1)) →
        mm_J X Y_X13_plan 243 243 243 232 [(2, 184), (0, f), (0, t), (0, each), (0, la), (0, ld), (0, fall), (0, kP_u g la ld T F k), (0, ((F + k : Nat) : Int)), (9, 0), (9, 0), (9, 0)] [] N Φ := by
      intro g hg N0 r0 v0 db
      refine mm_lp ?_
      intro k hk ih N hRN fN vN
      have e24 : N 224 = N0 224 := fN 224 (by decide)
      have e25 : N 225 = N0 225 := fN 225 (by decide)
      by_cases hlt : k < T + 1 - F
      · have b0 := db (F + k) (by omega) (by omega)
        have b1 := db (F + k + 1) (by omega) (by omega)
        have l0 : N 224 (F + k) = kP_L g la ld T (F + k) := by rw [e24]; exact (v0 _ (by omega) (by omega)).1
        have l1 : N 224 (F + k + 1) = kP_L g la ld T (F + k + 1) := by rw [e24]; exact (v0 _ (by omega) (by omega)).1
        have fl : N 225 (F + k) = kP_F g la ld T (F + k) := by rw [e25]; exact (v0 _ (by omega) (by omega)).2
        obtain ⟨s1, s2⟩ := kP_step (g := g) (la := la) (ld := ld) (to := T) (h := F + k) (by omega)
        obtain ⟨u, hu⟩ : ∃ u, u = kP_u g la ld T F k := ⟨_, rfl⟩
        have ub := kP_u.b (g := g) (la := la) (ld := ld) (to := T) (from' := F) k
        rw [← hu] at ub
        have un : kP_u g la ld T F (k + 1) = if kP_L g la ld T (F + k + 1) - (if u = 1 then ld else 0) < (if u = 1 then kP_F g la ld T (F + k) else kP_L g la ld T (F + k)) then 1 else 0 := by rw [hu]; rfl
        have nx : ∀ w P, w = kP_u g la ld T F (k + 1) → mm_Rf P → P = mm_up N 223 (F + k) w → mm_J X Y_X13_plan 243 243 243 232 [(2, 184), (0, f), (0, t), (0, each), (0, la), (0, ld), (0, fall), (0, w), (0, ((F + k : Nat) : Int) + 1), (9, 0), (9, 0), (9, 0)] [] P Φ := by
          intro w P hw' hRP hP
          have go := ih (by omega) P hRP (fun a ha => by rw [hP, mm_up_row ha]; exact fN a ha) (fun j hj => by
            by_cases c : j = k
            · rw [c, hP, mm_up_s, hw']
            · rw [hP, mm_up_i (by omega)]; exact vN j (by omega))
          rw [← hw', show ((F + (k + 1) : Nat) : Int) = ((F + k : Nat) : Int) + 1 by omega] at go
          exact go
        rw [← hu]
        rcases ub with u0 | u1
        · rw [u0, if_neg (show ¬ (0 : Int) = 1 by decide), if_neg (show ¬ (0 : Int) = 1 by decide)] at un
          rw [u0]
          by_cases c : kP_L g la ld T (F + k + 1) - 0 < kP_L g la ld T (F + k)
          · rw [if_pos c] at un
            refine mm_iload dX13_plan_232 rfl rfl ?_
            refine mm_iload_n dX13_plan_234 rfl rfl ?_
            refine mm_icgt dX13_plan_235 (by omega) (by omega) (fun h235 => ?_) (fun h235 => ?_)
            · exfalso; omega
            · refine mm_aload_n dX13_plan_238 rfl rfl ?_
              refine mm_getr dX13_plan_239 rfl fl_X13_319 (c := 183) rfl (by decide) rfl rfl (hRN.at (c := 183) (i := 82) (v := 225) rfl (by decide)) ?_
              refine mm_iload dX13_plan_242 rfl rfl ?_
              refine mm_iconst dX13_plan_244 rfl ?_
              refine mm_iadd dX13_plan_245 rfl ?_
              refine mm_lalk (k0 := F + k + 1) dX13_plan_246 rfl (c := 224) rfl (by decide) rfl (by omega) (by omega) ?_
              rw [l1]
              refine mm_iload dX13_plan_247 rfl rfl ?_
              refine mm_ifeq dX13_plan_249 (by omega) (fun _ => ?_) (fun h => absurd (by decide) h)
              refine mm_iconst dX13_plan_257 rfl ?_
              refine mm_i2l dX13_plan_258 rfl (by omega) ?_
              refine mm_lsub dX13_plan_259 rfl ?_
              refine mm_lstore dX13_plan_260 rfl (Nat.le_of_ble_eq_true rfl) rfl ?_
              refine mm_lload dX13_plan_262 rfl rfl ?_
              refine mm_iload dX13_plan_264 rfl rfl ?_
              refine mm_ifeq dX13_plan_266 (by omega) (fun _ => ?_) (fun h => absurd (by decide) h)
              refine mm_aload_n dX13_plan_279 rfl rfl ?_
              refine mm_getr dX13_plan_280 rfl fl_X13_319 (c := 183) rfl (by decide) rfl rfl (hRN.at (c := 183) (i := 82) (v := 225) rfl (by decide)) ?_
              refine mm_iload dX13_plan_283 rfl rfl ?_
              refine mm_lalk (k0 := F + k) dX13_plan_285 rfl (c := 224) rfl (by decide) rfl (by omega) (by omega) ?_
              rw [l0]
              refine mm_lcmp dX13_plan_286 rfl (by omega) (by omega) ?_
              refine mm_ifeqc dX13_plan_287 (fun h287 => ?_) (fun h287 => ?_)
              · exfalso; omega
              · refine mm_iconst dX13_plan_290 rfl ?_
                refine mm_goto dX13_plan_291 ?_
                refine mm_istore dX13_plan_295 rfl (Nat.le_of_ble_eq_true rfl) rfl ?_
                refine mm_aload_n dX13_plan_297 rfl rfl ?_
                refine mm_getr dX13_plan_298 rfl fl_X13_316 (c := 183) rfl (by decide) rfl rfl (hRN.at (c := 183) (i := 81) (v := 224) rfl (by decide)) ?_
                refine mm_iload dX13_plan_301 rfl rfl ?_
                refine mm_iload dX13_plan_303 rfl rfl ?_
                refine mm_ifeq dX13_plan_305 (by omega) (fun h => absurd h (by decide)) (fun _ => ?_)
                refine mm_iconst dX13_plan_308 rfl ?_
                refine mm_goto dX13_plan_309 ?_
                refine mm_istk (k0 := F + k) dX13_plan_313 rfl (c := 223) rfl (by decide) rfl (by omega) (by omega) (fun M313 hM313 => ?_)
                have hR313 : mm_Rf M313 := by rw [hM313]; exact hRN.up (mm_rt_ar (t := 0) rfl (by decide))
                refine mm_iload dX13_plan_314 rfl rfl ?_
                refine mm_istore dX13_plan_316 rfl (Nat.le_of_ble_eq_true rfl) rfl ?_
                refine mm_iinc dX13_plan_318 rfl rfl (Nat.le_of_ble_eq_true rfl) rfl ?_
                refine mm_goto dX13_plan_321 ?_
                exact mm_drop (by repeat (first | exact trivial | refine And.intro (Or.inl rfl) ?_ | refine And.intro (Or.inr rfl) ?_)) (nx 1 _ un.symm hR313 hM313)
          · rw [if_neg c] at un
            refine mm_iload dX13_plan_232 rfl rfl ?_
            refine mm_iload_n dX13_plan_234 rfl rfl ?_
            refine mm_icgt dX13_plan_235 (by omega) (by omega) (fun h235 => ?_) (fun h235 => ?_)
            · exfalso; omega
            · refine mm_aload_n dX13_plan_238 rfl rfl ?_
              refine mm_getr dX13_plan_239 rfl fl_X13_319 (c := 183) rfl (by decide) rfl rfl (hRN.at (c := 183) (i := 82) (v := 225) rfl (by decide)) ?_
              refine mm_iload dX13_plan_242 rfl rfl ?_
              refine mm_iconst dX13_plan_244 rfl ?_
              refine mm_iadd dX13_plan_245 rfl ?_
              refine mm_lalk (k0 := F + k + 1) dX13_plan_246 rfl (c := 224) rfl (by decide) rfl (by omega) (by omega) ?_
              rw [l1]
              refine mm_iload dX13_plan_247 rfl rfl ?_
              refine mm_ifeq dX13_plan_249 (by omega) (fun _ => ?_) (fun h => absurd (by decide) h)
              refine mm_iconst dX13_plan_257 rfl ?_
              refine mm_i2l dX13_plan_258 rfl (by omega) ?_
              refine mm_lsub dX13_plan_259 rfl ?_
              refine mm_lstore dX13_plan_260 rfl (Nat.le_of_ble_eq_true rfl) rfl ?_
              refine mm_lload dX13_plan_262 rfl rfl ?_
              refine mm_iload dX13_plan_264 rfl rfl ?_
              refine mm_ifeq dX13_plan_266 (by omega) (fun _ => ?_) (fun h => absurd (by decide) h)
              refine mm_aload_n dX13_plan_279 rfl rfl ?_
              refine mm_getr dX13_plan_280 rfl fl_X13_319 (c := 183) rfl (by decide) rfl rfl (hRN.at (c := 183) (i := 82) (v := 225) rfl (by decide)) ?_
              refine mm_iload dX13_plan_283 rfl rfl ?_
              refine mm_lalk (k0 := F + k) dX13_plan_285 rfl (c := 224) rfl (by decide) rfl (by omega) (by omega) ?_
              rw [l0]
              refine mm_lcmp dX13_plan_286 rfl (by omega) (by omega) ?_
              refine mm_ifeqc dX13_plan_287 (fun h287 => ?_) (fun h287 => ?_)
              · refine mm_iconst dX13_plan_294 rfl ?_
                refine mm_istore dX13_plan_295 rfl (Nat.le_of_ble_eq_true rfl) rfl ?_
                refine mm_aload_n dX13_plan_297 rfl rfl ?_
                refine mm_getr dX13_plan_298 rfl fl_X13_316 (c := 183) rfl (by decide) rfl rfl (hRN.at (c := 183) (i := 81) (v := 224) rfl (by decide)) ?_
                refine mm_iload dX13_plan_301 rfl rfl ?_
                refine mm_iload dX13_plan_303 rfl rfl ?_
                refine mm_ifeq dX13_plan_305 (by omega) (fun _ => ?_) (fun h => absurd (by decide) h)
                refine mm_iconst dX13_plan_312 rfl ?_
                refine mm_istk (k0 := F + k) dX13_plan_313 rfl (c := 223) rfl (by decide) rfl (by omega) (by omega) (fun M313 hM313 => ?_)
                have hR313 : mm_Rf M313 := by rw [hM313]; exact hRN.up (mm_rt_ar (t := 0) rfl (by decide))
                refine mm_iload dX13_plan_314 rfl rfl ?_
                refine mm_istore dX13_plan_316 rfl (Nat.le_of_ble_eq_true rfl) rfl ?_
                refine mm_iinc dX13_plan_318 rfl rfl (Nat.le_of_ble_eq_true rfl) rfl ?_
                refine mm_goto dX13_plan_321 ?_
                exact mm_drop (by repeat (first | exact trivial | refine And.intro (Or.inl rfl) ?_ | refine And.intro (Or.inr rfl) ?_)) (nx 0 _ un.symm hR313 hM313)
              · exfalso; omega
        · rw [u1, if_pos (show (1 : Int) = 1 from rfl), if_pos (show (1 : Int) = 1 from rfl)] at un
          rw [u1]
          by_cases c : kP_L g la ld T (F + k + 1) - ld < kP_F g la ld T (F + k)
          · rw [if_pos c] at un
            refine mm_iload dX13_plan_232 rfl rfl ?_
            refine mm_iload_n dX13_plan_234 rfl rfl ?_
            refine mm_icgt dX13_plan_235 (by omega) (by omega) (fun h235 => ?_) (fun h235 => ?_)
            · exfalso; omega
            · refine mm_aload_n dX13_plan_238 rfl rfl ?_
              refine mm_getr dX13_plan_239 rfl fl_X13_319 (c := 183) rfl (by decide) rfl rfl (hRN.at (c := 183) (i := 82) (v := 225) rfl (by decide)) ?_
              refine mm_iload dX13_plan_242 rfl rfl ?_
              refine mm_iconst dX13_plan_244 rfl ?_
              refine mm_iadd dX13_plan_245 rfl ?_
              refine mm_lalk (k0 := F + k + 1) dX13_plan_246 rfl (c := 224) rfl (by decide) rfl (by omega) (by omega) ?_
              rw [l1]
              refine mm_iload dX13_plan_247 rfl rfl ?_
              refine mm_ifeq dX13_plan_249 (by omega) (fun h => absurd h (by decide)) (fun _ => ?_)
              refine mm_iload dX13_plan_252 rfl rfl ?_
              refine mm_goto dX13_plan_254 ?_
              refine mm_i2l dX13_plan_258 rfl (by omega) ?_
              refine mm_lsub dX13_plan_259 rfl ?_
              refine mm_lstore dX13_plan_260 rfl (Nat.le_of_ble_eq_true rfl) rfl ?_
              refine mm_lload dX13_plan_262 rfl rfl ?_
              refine mm_iload dX13_plan_264 rfl rfl ?_
              refine mm_ifeq dX13_plan_266 (by omega) (fun h => absurd h (by decide)) (fun _ => ?_)
              refine mm_aload_n dX13_plan_269 rfl rfl ?_
              refine mm_getr dX13_plan_270 rfl fl_X13_322 (c := 183) rfl (by decide) rfl rfl (hRN.at (c := 183) (i := 83) (v := 226) rfl (by decide)) ?_
              refine mm_iload dX13_plan_273 rfl rfl ?_
              refine mm_lalk (k0 := F + k) dX13_plan_275 rfl (c := 225) rfl (by decide) rfl (by omega) (by omega) ?_
              rw [fl]
              refine mm_goto dX13_plan_276 ?_
              refine mm_lcmp dX13_plan_286 rfl (by omega) (by omega) ?_
              refine mm_ifeqc dX13_plan_287 (fun h287 => ?_) (fun h287 => ?_)
              · exfalso; omega
              · refine mm_iconst dX13_plan_290 rfl ?_
                refine mm_goto dX13_plan_291 ?_
                refine mm_istore dX13_plan_295 rfl (Nat.le_of_ble_eq_true rfl) rfl ?_
                refine mm_aload_n dX13_plan_297 rfl rfl ?_
                refine mm_getr dX13_plan_298 rfl fl_X13_316 (c := 183) rfl (by decide) rfl rfl (hRN.at (c := 183) (i := 81) (v := 224) rfl (by decide)) ?_
                refine mm_iload dX13_plan_301 rfl rfl ?_
                refine mm_iload dX13_plan_303 rfl rfl ?_
                refine mm_ifeq dX13_plan_305 (by omega) (fun h => absurd h (by decide)) (fun _ => ?_)
                refine mm_iconst dX13_plan_308 rfl ?_
                refine mm_goto dX13_plan_309 ?_
                refine mm_istk (k0 := F + k) dX13_plan_313 rfl (c := 223) rfl (by decide) rfl (by omega) (by omega) (fun M313 hM313 => ?_)
                have hR313 : mm_Rf M313 := by rw [hM313]; exact hRN.up (mm_rt_ar (t := 0) rfl (by decide))
                refine mm_iload dX13_plan_314 rfl rfl ?_
                refine mm_istore dX13_plan_316 rfl (Nat.le_of_ble_eq_true rfl) rfl ?_
                refine mm_iinc dX13_plan_318 rfl rfl (Nat.le_of_ble_eq_true rfl) rfl ?_
                refine mm_goto dX13_plan_321 ?_
                exact mm_drop (by repeat (first | exact trivial | refine And.intro (Or.inl rfl) ?_ | refine And.intro (Or.inr rfl) ?_)) (nx 1 _ un.symm hR313 hM313)
          · rw [if_neg c] at un
            refine mm_iload dX13_plan_232 rfl rfl ?_
            refine mm_iload_n dX13_plan_234 rfl rfl ?_
            refine mm_icgt dX13_plan_235 (by omega) (by omega) (fun h235 => ?_) (fun h235 => ?_)
            · exfalso; omega
            · refine mm_aload_n dX13_plan_238 rfl rfl ?_
              refine mm_getr dX13_plan_239 rfl fl_X13_319 (c := 183) rfl (by decide) rfl rfl (hRN.at (c := 183) (i := 82) (v := 225) rfl (by decide)) ?_
              refine mm_iload dX13_plan_242 rfl rfl ?_
              refine mm_iconst dX13_plan_244 rfl ?_
              refine mm_iadd dX13_plan_245 rfl ?_
              refine mm_lalk (k0 := F + k + 1) dX13_plan_246 rfl (c := 224) rfl (by decide) rfl (by omega) (by omega) ?_
              rw [l1]
              refine mm_iload dX13_plan_247 rfl rfl ?_
              refine mm_ifeq dX13_plan_249 (by omega) (fun h => absurd h (by decide)) (fun _ => ?_)
              refine mm_iload dX13_plan_252 rfl rfl ?_
              refine mm_goto dX13_plan_254 ?_
              refine mm_i2l dX13_plan_258 rfl (by omega) ?_
              refine mm_lsub dX13_plan_259 rfl ?_
              refine mm_lstore dX13_plan_260 rfl (Nat.le_of_ble_eq_true rfl) rfl ?_
              refine mm_lload dX13_plan_262 rfl rfl ?_
              refine mm_iload dX13_plan_264 rfl rfl ?_
              refine mm_ifeq dX13_plan_266 (by omega) (fun h => absurd h (by decide)) (fun _ => ?_)
              refine mm_aload_n dX13_plan_269 rfl rfl ?_
              refine mm_getr dX13_plan_270 rfl fl_X13_322 (c := 183) rfl (by decide) rfl rfl (hRN.at (c := 183) (i := 83) (v := 226) rfl (by decide)) ?_
              refine mm_iload dX13_plan_273 rfl rfl ?_
              refine mm_lalk (k0 := F + k) dX13_plan_275 rfl (c := 225) rfl (by decide) rfl (by omega) (by omega) ?_
              rw [fl]
              refine mm_goto dX13_plan_276 ?_
              refine mm_lcmp dX13_plan_286 rfl (by omega) (by omega) ?_
              refine mm_ifeqc dX13_plan_287 (fun h287 => ?_) (fun h287 => ?_)
              · refine mm_iconst dX13_plan_294 rfl ?_
                refine mm_istore dX13_plan_295 rfl (Nat.le_of_ble_eq_true rfl) rfl ?_
                refine mm_aload_n dX13_plan_297 rfl rfl ?_
                refine mm_getr dX13_plan_298 rfl fl_X13_316 (c := 183) rfl (by decide) rfl rfl (hRN.at (c := 183) (i := 81) (v := 224) rfl (by decide)) ?_
                refine mm_iload dX13_plan_301 rfl rfl ?_
                refine mm_iload dX13_plan_303 rfl rfl ?_
                refine mm_ifeq dX13_plan_305 (by omega) (fun _ => ?_) (fun h => absurd (by decide) h)
                refine mm_iconst dX13_plan_312 rfl ?_
                refine mm_istk (k0 := F + k) dX13_plan_313 rfl (c := 223) rfl (by decide) rfl (by omega) (by omega) (fun M313 hM313 => ?_)
                have hR313 : mm_Rf M313 := by rw [hM313]; exact hRN.up (mm_rt_ar (t := 0) rfl (by decide))
                refine mm_iload dX13_plan_314 rfl rfl ?_
                refine mm_istore dX13_plan_316 rfl (Nat.le_of_ble_eq_true rfl) rfl ?_
                refine mm_iinc dX13_plan_318 rfl rfl (Nat.le_of_ble_eq_true rfl) rfl ?_
                refine mm_goto dX13_plan_321 ?_
                exact mm_drop (by repeat (first | exact trivial | refine And.intro (Or.inl rfl) ?_ | refine And.intro (Or.inr rfl) ?_)) (nx 0 _ un.symm hR313 hM313)
              · exfalso; omega
      · have ek : k = T + 1 - F := by omega
        have lf : N 224 F = kP_L g la ld T F := by rw [e24]; exact (v0 F (Nat.le_refl _) (by omega)).1
        refine mm_iload dX13_plan_232 rfl rfl ?_
        refine mm_iload_n dX13_plan_234 rfl rfl ?_
        refine mm_icgt dX13_plan_235 (by omega) (by omega) (fun h235 => ?_) (fun h235 => ?_)
        · refine mm_aload_n dX13_plan_324 rfl rfl ?_
          refine mm_iload_n dX13_plan_325 rfl rfl ?_
          refine mm_puti dX13_plan_326 rfl fl_X13_325 (c := 183) rfl (by decide) rfl rfl (fun M326 hM326 => ?_)
          have hR326 : mm_Rf M326 := by rw [hM326]; exact hRN.up rfl
          refine mm_aload_n dX13_plan_329 rfl rfl ?_
          refine mm_iload_n dX13_plan_330 rfl rfl ?_
          refine mm_puti dX13_plan_331 rfl fl_X13_681 (c := 183) rfl (by decide) rfl rfl (fun M331 hM331 => ?_)
          have hR331 : mm_Rf M331 := by rw [hM331]; exact hR326.up rfl
          refine mm_aload_n dX13_plan_334 rfl rfl ?_
          refine mm_getr dX13_plan_335 rfl fl_X13_319 (c := 183) rfl (by decide) rfl rfl (hR331.at (c := 183) (i := 82) (v := 225) rfl (by decide)) ?_
          refine mm_iload_n dX13_plan_338 rfl rfl ?_
          refine mm_lalk (k0 := F) dX13_plan_339 rfl (c := 224) rfl (by decide) rfl (by omega) (by omega) ?_
          rw [show M331 224 F = kP_L g la ld T F by rw [hM331, mm_up_c (by decide), hM326, mm_up_c (by decide), lf]]
          refine mm_l2i dX13_plan_340 rfl ?_
          refine mm_iret dX13_plan_341 rfl rfl ?_
          rw [hΦ]; refine ⟨_, rfl, hR331, Or.inr ⟨F, T, hF, hT, ok, g, hg, rfl, ⟨hR331, fun a a1 a2 a3 => ?_, fun b b1 b2 b3 b4 => ?_⟩, ?_, ?_, fun j hj => ?_⟩⟩
          · rw [hM331, mm_up_row a1, hM326, mm_up_row a1, fN a (by omega)]; exact r0.2.1 a a1 a2 a3
          · rw [hM331, mm_up_i b4, hM326, mm_up_i b3, fN 183 (by decide)]; exact r0.2.2 b b1 b2 b3 b4
          · rw [hM331, mm_up_i (by decide), hM326, mm_up_s]; exact hF
          · rw [hM331, mm_up_s]; exact hT
          · rw [hM331, mm_up_row (by decide), hM326, mm_up_row (by decide)]; exact vN j (by omega)
        · exfalso; omega
    -- back
    have back : ∀ (g : Nat → Int), (∀ h : Nat, F ≤ h → h ≤ T → kP_g (mm_rk M) (M 203) (M 204) h each fall (g h)) → (∀ h, F ≤ h → h ≤ T + 1 → (0 ≤ kP_L g la ld T h ∧ kP_L g la ld T h ≤ 2052864000) ∧ -1000000 ≤ kP_F g la ld T h ∧ kP_F g la ld T h ≤ 2052864000) →
        ∀ k : Nat, k ≤ T + 1 - F → ∀ N, kP_r M N → (∀ h, F ≤ h → h ≤ T → N 222 h = g h) → (∀ h, T + 1 - k ≤ h → h ≤ T + 1 → N 224 h = kP_L g la ld T h ∧ N 225 h = kP_F g la ld T h) →
        mm_J X Y_X13_plan 243 243 243 134 [(2, 184), (0, f), (0, t), (0, each), (0, la), (0, ld), (0, fall), (0, (T : Int) - (k : Int)), (9, 0), (9, 0), (9, 0), (9, 0)] [] N Φ := by
      intro g hg db
      refine mm_lp ?_
      intro k hk ih N rN gN vN
      have hRN := rN.1
      by_cases hlt : k < T + 1 - F
      · obtain ⟨h, hh⟩ : ∃ h, h = T - k := ⟨_, rfl⟩
        have hi : (T : Int) - (k : Int) = (h : Int) := by omega
        have b1 := db (h + 1) (by omega) (by omega)
        have gh := (hg h (by omega) (by omega)).b hK (hw h (by omega)) q4 q7
        have l1 : N 224 (h + 1) = kP_L g la ld T (h + 1) := (vN (h + 1) (by omega) (by omega)).1
        have f1 : N 225 (h + 1) = kP_F g la ld T (h + 1) := (vN (h + 1) (by omega) (by omega)).2
        have eg : N 222 h = g h := gN h (by omega) (by omega)
        obtain ⟨s1, s2⟩ := kP_step (g := g) (la := la) (ld := ld) (to := T) (h := h) (by omega)
        have nx : ∀ P, mm_Rf P → P = mm_up (mm_up N 224 h (kP_L g la ld T h)) 225 h (kP_F g la ld T h) → mm_J X Y_X13_plan 243 243 243 134 [(2, 184), (0, f), (0, t), (0, each), (0, la), (0, ld), (0, fall), (0, (h : Int) + -1), (9, 0), (9, 0), (9, 0), (9, 0)] [] P Φ := by
          intro P hRP hP
          have go := ih hlt P ⟨hRP, fun a a1 a2 a3 => by rw [hP, mm_up_row (by omega), mm_up_row (by omega)]; exact rN.2.1 a a1 a2 a3, fun b b1 b2 b3 b4 => by rw [hP, mm_up_row (by decide), mm_up_row (by decide)]; exact rN.2.2 b b1 b2 b3 b4⟩ (fun x x1 x2 => by rw [hP, mm_up_row (by decide), mm_up_row (by decide)]; exact gN x x1 x2) (fun x x1 x2 => by
            by_cases c : x = h
            · rw [c, hP, mm_up_c (by decide), mm_up_s, mm_up_s]; exact ⟨rfl, rfl⟩
            · rw [hP, mm_up_i c, mm_up_i c, mm_up_i c, mm_up_i c]; exact vN x (by omega) x2)
          rw [show (T : Int) - ((k + 1 : Nat) : Int) = (h : Int) + -1 by omega] at go
          exact go
        rw [hi]
        refine mm_iload dX13_plan_134 rfl rfl ?_
        refine mm_iload_n dX13_plan_136 rfl rfl ?_
        refine mm_iclt dX13_plan_137 (by omega) (by omega) (fun h137 => ?_) (fun h137 => ?_)
        · exfalso; omega
        · refine mm_aload_n dX13_plan_140 rfl rfl ?_
          refine mm_getr dX13_plan_141 rfl fl_X13_319 (c := 183) rfl (by decide) rfl rfl (hRN.at (c := 183) (i := 82) (v := 225) rfl (by decide)) ?_
          refine mm_iload dX13_plan_144 rfl rfl ?_
          refine mm_aload_n dX13_plan_146 rfl rfl ?_
          refine mm_getr dX13_plan_147 rfl fl_X13_319 (c := 183) rfl (by decide) rfl rfl (hRN.at (c := 183) (i := 82) (v := 225) rfl (by decide)) ?_
          refine mm_iload dX13_plan_150 rfl rfl ?_
          refine mm_iconst dX13_plan_152 rfl ?_
          refine mm_iadd dX13_plan_153 rfl ?_
          refine mm_lalk (k0 := h + 1) dX13_plan_154 rfl (c := 224) rfl (by decide) rfl (by omega) (by omega) ?_
          rw [l1]
          refine mm_aload_n dX13_plan_155 rfl rfl ?_
          refine mm_getr dX13_plan_156 rfl fl_X13_313 (c := 183) rfl (by decide) rfl rfl (hRN.at (c := 183) (i := 80) (v := 223) rfl (by decide)) ?_
          refine mm_iload dX13_plan_159 rfl rfl ?_
          refine mm_lalk (k0 := h) dX13_plan_161 rfl (c := 222) rfl (by decide) rfl (by omega) (by omega) ?_
          rw [eg]
          refine mm_iload dX13_plan_162 rfl rfl ?_
          refine mm_i2l dX13_plan_164 rfl (by omega) ?_
          refine mm_lsub dX13_plan_165 rfl ?_
          refine mm_aload_n dX13_plan_166 rfl rfl ?_
          refine mm_getr dX13_plan_167 rfl fl_X13_322 (c := 183) rfl (by decide) rfl rfl (hRN.at (c := 183) (i := 83) (v := 226) rfl (by decide)) ?_
          refine mm_iload dX13_plan_170 rfl rfl ?_
          refine mm_iconst dX13_plan_172 rfl ?_
          refine mm_iadd dX13_plan_173 rfl ?_
          refine mm_lalk (k0 := h + 1) dX13_plan_174 rfl (c := 225) rfl (by decide) rfl (by omega) (by omega) ?_
          rw [f1]
          refine mm_ladd dX13_plan_175 rfl ?_
          refine mm_maxl dX13_plan_176 rfl lm_X13_523 rfl rfl (by simp) (by first | omega | (unfold mm_RL; omega)) (by first | omega | (unfold mm_RL; omega)) ?_
          refine mm_lstk (k0 := h) dX13_plan_179 rfl (c := 224) rfl (by decide) rfl (by omega) (by omega) (fun M179 hM179 => ?_)
          have hR179 : mm_Rf M179 := by rw [hM179]; exact hRN.up (mm_rt_ar (t := 3) rfl (by decide))
          refine mm_aload_n dX13_plan_180 rfl rfl ?_
          refine mm_getr dX13_plan_181 rfl fl_X13_322 (c := 183) rfl (by decide) rfl rfl (hR179.at (c := 183) (i := 83) (v := 226) rfl (by decide)) ?_
          refine mm_iload dX13_plan_184 rfl rfl ?_
          refine mm_aload_n dX13_plan_186 rfl rfl ?_
          refine mm_getr dX13_plan_187 rfl fl_X13_319 (c := 183) rfl (by decide) rfl rfl (hR179.at (c := 183) (i := 82) (v := 225) rfl (by decide)) ?_
          refine mm_iload dX13_plan_190 rfl rfl ?_
          refine mm_iconst dX13_plan_192 rfl ?_
          refine mm_iadd dX13_plan_193 rfl ?_
          refine mm_lalk (k0 := h + 1) dX13_plan_194 rfl (c := 224) rfl (by decide) rfl (by omega) (by omega) ?_
          rw [show M179 224 (h + 1) = kP_L g la ld T (h + 1) by rw [hM179, mm_up_i (by omega), l1]]
          refine mm_iload dX13_plan_195 rfl rfl ?_
          refine mm_i2l dX13_plan_197 rfl (by omega) ?_
          refine mm_lsub dX13_plan_198 rfl ?_
          refine mm_aload_n dX13_plan_199 rfl rfl ?_
          refine mm_getr dX13_plan_200 rfl fl_X13_313 (c := 183) rfl (by decide) rfl rfl (hR179.at (c := 183) (i := 80) (v := 223) rfl (by decide)) ?_
          refine mm_iload dX13_plan_203 rfl rfl ?_
          refine mm_lalk (k0 := h) dX13_plan_205 rfl (c := 222) rfl (by decide) rfl (by omega) (by omega) ?_
          rw [show M179 222 h = g h by rw [hM179, mm_up_c (by decide), eg]]
          refine mm_aload_n dX13_plan_206 rfl rfl ?_
          refine mm_getr dX13_plan_207 rfl fl_X13_322 (c := 183) rfl (by decide) rfl rfl (hR179.at (c := 183) (i := 83) (v := 226) rfl (by decide)) ?_
          refine mm_iload dX13_plan_210 rfl rfl ?_
          refine mm_iconst dX13_plan_212 rfl ?_
          refine mm_iadd dX13_plan_213 rfl ?_
          refine mm_lalk (k0 := h + 1) dX13_plan_214 rfl (c := 225) rfl (by decide) rfl (by omega) (by omega) ?_
          rw [show M179 225 (h + 1) = kP_F g la ld T (h + 1) by rw [hM179, mm_up_c (by decide), f1]]
          refine mm_ladd dX13_plan_215 rfl ?_
          refine mm_maxl dX13_plan_216 rfl lm_X13_523 rfl rfl (by simp) (by first | omega | (unfold mm_RL; omega)) (by first | omega | (unfold mm_RL; omega)) ?_
          refine mm_lstk (k0 := h) dX13_plan_219 rfl (c := 225) rfl (by decide) rfl (by omega) (by omega) (fun M219 hM219 => ?_)
          have hR219 : mm_Rf M219 := by rw [hM219]; exact hR179.up (mm_rt_ar (t := 3) rfl (by decide))
          refine mm_iinc dX13_plan_220 rfl rfl (Nat.le_of_ble_eq_true rfl) rfl ?_
          refine mm_goto dX13_plan_223 ?_
          exact mm_drop (by repeat (first | exact trivial | refine And.intro (Or.inl rfl) ?_ | refine And.intro (Or.inr rfl) ?_)) (nx _ hR219 (by rw [hM219, hM179, s1, s2]))
      · have ek : k = T + 1 - F := by omega
        have go := forth g hg N rN (fun h h1 h2 => vN h (by omega) h2) db 0 (Nat.zero_le _) N hRN (fun _ _ => rfl) (fun j hj => absurd hj (by omega))
        rw [show ((F + 0 : Nat) : Int) = f by omega] at go
        refine mm_iload dX13_plan_134 rfl rfl ?_
        refine mm_iload_n dX13_plan_136 rfl rfl ?_
        refine mm_iclt dX13_plan_137 (by omega) (by omega) (fun h137 => ?_) (fun h137 => ?_)
        · refine mm_iconst dX13_plan_226 rfl ?_
          refine mm_istore dX13_plan_227 rfl (Nat.le_of_ble_eq_true rfl) rfl ?_
          refine mm_iload_n dX13_plan_229 rfl rfl ?_
          refine mm_istore dX13_plan_230 rfl (Nat.le_of_ble_eq_true rfl) rfl ?_
          exact go
        · exfalso; omega
    -- what each hour gives
    have hours : ∀ h : Nat, h ≤ T + 1 → ∀ N, F ≤ h → kP_r M N → (∀ x : Nat, F ≤ x → x < h → kP_g (mm_rk M) (M 203) (M 204) x each fall (N 222 x)) →
        mm_J X Y_X13_plan 243 243 243 63 [(2, 184), (0, f), (0, t), (0, each), (0, la), (0, ld), (0, fall), (0, (h : Int)), (9, 0), (9, 0), (9, 0), (9, 0)] [] N Φ := by
      refine mm_lp ?_
      intro h hh ih N hFh rN gN
      have hRN := rN.1
      by_cases hlt : h < T + 1
      · have kN := rN.k
        have e3 : N 203 = M 203 := rN.2.1 203 (by decide) (by decide) (by decide)
        have e4 : N 204 = M 204 := rN.2.1 204 (by decide) (by decide) (by decide)
        have cl := c_X13_findLoop (X := X) (M := N) (h := (h : Int)) (n := n) hRN (by rw [kN]; exact hK) (by unfold mm_RA at hA ⊢; rw [e3, e4]; exact hA) ⟨by omega, by omega⟩ (by rw [kN]; exact hn)
        rw [kN] at cl
        have cl2 : mm_C X Y_X13_findLoop 243 243 [(2, 184), (0, (h : Int))] N (fun r M' => ∃ x, r = (0, x) ∧ mm_Rf M' ∧ (x = 0 ∨ x = 1) ∧ kP_r M M' ∧ M' 222 = N 222 ∧ (x = 0 → kP_g (mm_rk M) (M 203) (M 204) h each fall (-fall)) ∧ (x = 1 → (1 ≤ M' 183 40 ∧ M' 183 40 ≤ 288) ∧ (-3340800000 ≤ M' 183 39 ∧ M' 183 39 ≤ 3340800000) ∧ kP_g (mm_rk M) (M 203) (M 204) h each fall ((each * M' 183 39).tdiv (M' 183 40)))) := by
          refine mm_C.mono cl ?_
          rintro r U ⟨⟨u1, u2, u3, u4, u5, u6⟩, hu⟩
          rw [kN, e3, e4] at u4
          rw [kN] at u5
          have rU : kP_r M U := ⟨u1, fun a a1 a2 a3 => by rw [u2 a a1 (by omega) (by omega) (by omega)]; exact rN.2.1 a a1 a2 a3, fun b b1 b2 b3 b4 => by rw [u3 b b1 b2]; exact rN.2.2 b b1 b2 b3 b4⟩
          have r222 : U 222 = N 222 := u2 222 (by decide) (by decide) (by decide) (by decide)
          rcases hu with ⟨v1, v2, v3⟩ | ⟨v1, v2⟩
          · exact ⟨0, v1, u1, Or.inl rfl, rU, r222, fun _ => Or.inl ⟨fun s B m q => v3 (ke_of_lp hK hn u4 u5 q), rfl⟩, fun z => by omega⟩
          · obtain ⟨w1, w2, w3⟩ := u6
            have := v2.1
            exact ⟨1, v1, u1, Or.inr rfl, rU, r222, fun z => by omega, fun _ => ⟨by omega, w3 (by omega), kP_g.ref hK hn u4 u5 v2⟩⟩
        have nx : ∀ U P x, kP_r M U → U 222 = N 222 → mm_Rf P → P = mm_up U 222 h x → kP_g (mm_rk M) (M 203) (M 204) h each fall x → mm_J X Y_X13_plan 243 243 243 63 [(2, 184), (0, f), (0, t), (0, each), (0, la), (0, ld), (0, fall), (0, (h : Int) + 1), (9, 0), (9, 0), (9, 0), (9, 0)] [] P Φ := by
          intro U P x rU eU hRP hP hx
          have go := ih hlt P (by omega) ⟨hRP, fun a a1 a2 a3 => by rw [hP, mm_up_row (by omega)]; exact rU.2.1 a a1 a2 a3, fun b b1 b2 b3 b4 => by rw [hP, mm_up_row (by decide)]; exact rU.2.2 b b1 b2 b3 b4⟩ (fun y y1 y2 => by
            by_cases c : y = h
            · rw [c, hP, mm_up_s]; exact hx
            · rw [hP, mm_up_i c, eU]; exact gN y y1 (by omega))
          rw [show ((h + 1 : Nat) : Int) = (h : Int) + 1 by omega] at go
          exact go
        refine mm_iload dX13_plan_63 rfl rfl ?_
        refine mm_iload_n dX13_plan_65 rfl rfl ?_
        refine mm_icgt dX13_plan_66 (by omega) (by omega) (fun h66 => ?_) (fun h66 => ?_)
        · exfalso; omega
        · refine mm_aload_n dX13_plan_69 rfl rfl ?_
          refine mm_getr dX13_plan_70 rfl fl_X13_313 (c := 183) rfl (by decide) rfl rfl (hRN.at (c := 183) (i := 80) (v := 223) rfl (by decide)) ?_
          refine mm_iload dX13_plan_73 rfl rfl ?_
          refine mm_aload_n dX13_plan_75 rfl rfl ?_
          refine mm_iload dX13_plan_76 rfl rfl ?_
          refine mm_V1g (M1 := N) dX13_plan_78 rfl lk_X13_583 (c := 183) rfl (by decide) rfl (by simp) rfl rfl rfl (cl2) ?_
          rintro _ N78 ⟨x78, rfl, p78⟩
          change mm_J _ _ _ _ _ _ _ _ _ _
          have hR78 : mm_Rf N78 := p78.1
          have hx78 := p78.2.1
          obtain ⟨-, -, rU, eU, g0, g1⟩ := id p78
          have hmb : x78 = 1 → (1 ≤ N78 183 40 ∧ N78 183 40 ≤ 288) ∧ -200448000000 ≤ each * N78 183 39 ∧ each * N78 183 39 ≤ 200448000000 := by
            intro z
            obtain ⟨y1, y2, -⟩ := g1 z
            have := mm_mulB (a := N78 183 39) (b := each) (A := 3340800000) (B := 60) y2.1 y2.2 (by omega) q4.2
            rw [Int.mul_comm (N78 183 39)] at this
            exact ⟨y1, by omega, by omega⟩
          obtain ⟨w, hw'⟩ : ∃ w, w = each * N78 183 39 := ⟨_, rfl⟩
          rw [← hw'] at hmb
          refine mm_ifeq dX13_plan_81 (by omega) (fun h81 => ?_) (fun h81 => ?_)
          · refine mm_iload dX13_plan_99 rfl rfl ?_
            refine mm_ineg dX13_plan_101 rfl ?_
            refine mm_i2l dX13_plan_102 rfl (by omega) ?_
            refine mm_lstk (k0 := h) dX13_plan_103 rfl (c := 222) rfl (by decide) rfl (by omega) (by omega) (fun M103 hM103 => ?_)
            have hR103 : mm_Rf M103 := by rw [hM103]; exact hR78.up (mm_rt_ar (t := 3) rfl (by decide))
            refine mm_iinc dX13_plan_104 rfl rfl (Nat.le_of_ble_eq_true rfl) rfl ?_
            refine mm_goto dX13_plan_107 ?_
            first
            | exact mm_drop (by repeat (first | exact trivial | refine And.intro (Or.inl rfl) ?_ | refine And.intro (Or.inr rfl) ?_)) (nx N78 _ _ rU eU hR103 hM103 (by rw [hw']; exact (g1 (by omega)).2.2))
            | exact mm_drop (by repeat (first | exact trivial | refine And.intro (Or.inl rfl) ?_ | refine And.intro (Or.inr rfl) ?_)) (nx N78 _ _ rU eU hR103 hM103 (g0 (by omega)))
          · refine mm_iload_n dX13_plan_84 rfl rfl ?_
            refine mm_i2l dX13_plan_85 rfl (by omega) ?_
            refine mm_aload_n dX13_plan_86 rfl rfl ?_
            refine mm_get (kd := 1) dX13_plan_87 rfl fl_X13_530 (c := 183) rfl (by decide) rfl rfl ?_
            refine mm_lmul dX13_plan_90 rfl ?_
            refine mm_aload_n dX13_plan_91 rfl rfl ?_
            refine mm_get (kd := 1) dX13_plan_92 rfl fl_X13_526 (c := 183) rfl (by decide) rfl rfl ?_
            have hmb2 := hmb (by omega)
            rw [← hw']
            refine mm_ldiv dX13_plan_95 rfl (by first | omega | (unfold mm_RL; omega)) (by first | omega | (unfold mm_RL; omega)) (by first | omega | (unfold mm_RL; omega)) ?_
            refine mm_goto dX13_plan_96 ?_
            refine mm_lstk (k0 := h) dX13_plan_103 rfl (c := 222) rfl (by decide) rfl (by omega) (by omega) (fun M103 hM103 => ?_)
            have hR103 : mm_Rf M103 := by rw [hM103]; exact hR78.up (mm_rt_ar (t := 3) rfl (by decide))
            refine mm_iinc dX13_plan_104 rfl rfl (Nat.le_of_ble_eq_true rfl) rfl ?_
            refine mm_goto dX13_plan_107 ?_
            first
            | exact mm_drop (by repeat (first | exact trivial | refine And.intro (Or.inl rfl) ?_ | refine And.intro (Or.inr rfl) ?_)) (nx N78 _ _ rU eU hR103 hM103 (by rw [hw']; exact (g1 (by omega)).2.2))
            | exact mm_drop (by repeat (first | exact trivial | refine And.intro (Or.inl rfl) ?_ | refine And.intro (Or.inr rfl) ?_)) (nx N78 _ _ rU eU hR103 hM103 (g0 (by omega)))
      · have eh : h = T + 1 := by omega
        subst eh
        obtain ⟨g, hg0⟩ : ∃ g, g = N 222 := ⟨_, rfl⟩
        have hg : ∀ h : Nat, F ≤ h → h ≤ T → kP_g (mm_rk M) (M 203) (M 204) h each fall (g h) := fun x x1 x2 => by rw [hg0]; exact gN x x1 (by omega)
        obtain ⟨g', hg'⟩ : ∃ g' : Nat → Int, g' = fun h => if F ≤ h ∧ h ≤ T then g h else 0 := ⟨_, rfl⟩
        have g'b : ∀ h, -60000000 ≤ g' h ∧ g' h ≤ 85536000 := by
          intro x
          rw [hg']
          show -60000000 ≤ (if F ≤ x ∧ x ≤ T then g x else 0) ∧ (if F ≤ x ∧ x ≤ T then g x else 0) ≤ 85536000
          by_cases c : F ≤ x ∧ x ≤ T
          · rw [if_pos c]; exact (hg x c.1 c.2).b hK (hw x (by omega)) q4 q7
          · rw [if_neg c]; omega
        have db : ∀ h, F ≤ h → h ≤ T + 1 → (0 ≤ kP_L g la ld T h ∧ kP_L g la ld T h ≤ 2052864000) ∧ -1000000 ≤ kP_F g la ld T h ∧ kP_F g la ld T h ≤ 2052864000 := by
          intro x x1 x2
          have e := kP_cg (g := g) (g' := g') (la := la) (ld := ld) (to := T) (from' := F) (fun h a b => by rw [hg']; exact if_pos ⟨a, b⟩) (T + 1 - x) (by omega)
          have := kP_d.b (g := g') (to := T) g'b q5 q6 (T + 1 - x)
          rw [e] at this
          unfold kP_L kP_F
          omega
        obtain ⟨z1, z2⟩ := kP_end (g := g) (la := la) (ld := ld) (to := T)
        refine mm_iload dX13_plan_63 rfl rfl ?_
        refine mm_iload_n dX13_plan_65 rfl rfl ?_
        refine mm_icgt dX13_plan_66 (by omega) (by omega) (fun h66 => ?_) (fun h66 => ?_)
        · refine mm_aload_n dX13_plan_110 rfl rfl ?_
          refine mm_getr dX13_plan_111 rfl fl_X13_319 (c := 183) rfl (by decide) rfl rfl (hRN.at (c := 183) (i := 82) (v := 225) rfl (by decide)) ?_
          refine mm_iload_n dX13_plan_114 rfl rfl ?_
          refine mm_iconst dX13_plan_115 rfl ?_
          refine mm_iadd dX13_plan_116 rfl ?_
          refine mm_lconst0 dX13_plan_117 rfl ?_
          refine mm_lstk (k0 := T + 1) dX13_plan_118 rfl (c := 224) rfl (by decide) rfl (by omega) (by omega) (fun M118 hM118 => ?_)
          have hR118 : mm_Rf M118 := by rw [hM118]; exact hRN.up (mm_rt_ar (t := 3) rfl (by decide))
          refine mm_aload_n dX13_plan_119 rfl rfl ?_
          refine mm_getr dX13_plan_120 rfl fl_X13_322 (c := 183) rfl (by decide) rfl rfl (hR118.at (c := 183) (i := 83) (v := 226) rfl (by decide)) ?_
          refine mm_iload_n dX13_plan_123 rfl rfl ?_
          refine mm_iconst dX13_plan_124 rfl ?_
          refine mm_iadd dX13_plan_125 rfl ?_
          refine mm_iload dX13_plan_126 rfl rfl ?_
          refine mm_ineg dX13_plan_128 rfl ?_
          refine mm_i2l dX13_plan_129 rfl (by omega) ?_
          refine mm_lstk (k0 := T + 1) dX13_plan_130 rfl (c := 225) rfl (by decide) rfl (by omega) (by omega) (fun M130 hM130 => ?_)
          have hR130 : mm_Rf M130 := by rw [hM130]; exact hR118.up (mm_rt_ar (t := 3) rfl (by decide))
          refine mm_iload_n dX13_plan_131 rfl rfl ?_
          refine mm_istore dX13_plan_132 rfl (Nat.le_of_ble_eq_true rfl) rfl ?_
          have go := back g hg db 0 (Nat.zero_le _) M130 ⟨hR130, fun a a1 a2 a3 => by rw [hM130, mm_up_row (by omega), hM118, mm_up_row (by omega)]; exact rN.2.1 a a1 a2 a3, fun b b1 b2 b3 b4 => by rw [hM130, mm_up_row (by decide), hM118, mm_up_row (by decide)]; exact rN.2.2 b b1 b2 b3 b4⟩ (fun x x1 x2 => by rw [hM130, mm_up_row (by decide), hM118, mm_up_row (by decide), hg0]) (fun x x1 x2 => by
            have ex : x = T + 1 := by omega
            rw [ex, hM130, mm_up_c (by decide), hM118, mm_up_s, mm_up_s, z1, z2]
            exact ⟨rfl, rfl⟩)
          rw [show (T : Int) - ((0 : Nat) : Int) = t by omega] at go
          exact go
        · exfalso; omega
    have go := hours F (by omega) M (Nat.le_refl _) ⟨hR, fun _ _ _ _ => rfl, fun _ _ _ _ _ => rfl⟩ (fun x x1 x2 => absurd x2 (by omega))
    rw [← hF] at go
    refine mm_iload_n dX13_plan_60 rfl rfl ?_
    refine mm_istore dX13_plan_61 rfl (Nat.le_of_ble_eq_true rfl) rfl ?_
    exact go
  refine mm_start (ls := [(2, 184), (0, f), (0, t), (0, each), (0, la), (0, ld), (0, fall), (9, 0), (9, 0), (9, 0), (9, 0), (9, 0)]) rfl ?_
  have ci : ∀ x y z : Int, mm_R x → mm_R y → mm_R z → mm_Fn X Y_X13_in 243 [(1, x), (1, y), (1, z)] M (0, mm_b (y ≤ x ∧ x ≤ z)) M := fun x y z h1 h2 h3 => c_X13_in (by unfold mm_RL; omega) (by unfold mm_RL; omega) (by unfold mm_RL; omega)
  refine mm_iload_n dX13_plan_0 rfl rfl ?_
  refine mm_S1i dX13_plan_1 rfl lk_X13_486 (by simp) rfl rfl rfl (c_X13_isHour hf) ?_
  refine mm_ifeqb dX13_plan_4 (fun h4 => ?_) (fun h4 => ?_)
  · refine mm_ldcw dX13_plan_56 rfl kc_X13_680 ?_
    refine mm_iret dX13_plan_59 rfl rfl ?_
    exact bad (fun q => by unfold kP_ok at q; omega)
  · refine mm_iload_n dX13_plan_7 rfl rfl ?_
    refine mm_i2l dX13_plan_8 rfl (by omega) ?_
    refine mm_iload_n dX13_plan_9 rfl rfl ?_
    refine mm_i2l dX13_plan_10 rfl (by omega) ?_
    refine mm_ldc2 dX13_plan_11 rfl kc_X13_3 ?_
    refine mm_S3i dX13_plan_14 rfl lk_X13_5 (by simp) (by simp) (by simp) rfl rfl rfl (ci _ _ _ ht hf (by unfold mm_R; omega)) ?_
    refine mm_ifeqb dX13_plan_17 (fun h17 => ?_) (fun h17 => ?_)
    · refine mm_ldcw dX13_plan_56 rfl kc_X13_680 ?_
      refine mm_iret dX13_plan_59 rfl rfl ?_
      exact bad (fun q => by unfold kP_ok at q; omega)
    · refine mm_iload_n dX13_plan_20 rfl rfl ?_
      refine mm_i2l dX13_plan_21 rfl (by omega) ?_
      refine mm_lconst1 dX13_plan_22 rfl ?_
      refine mm_ldc2 dX13_plan_23 rfl kc_X13_492 ?_
      refine mm_S3i dX13_plan_26 rfl lk_X13_5 (by simp) (by simp) (by simp) rfl rfl rfl (ci _ _ _ he (by unfold mm_R; omega) (by unfold mm_R; omega)) ?_
      refine mm_ifeqb dX13_plan_29 (fun h29 => ?_) (fun h29 => ?_)
      · refine mm_ldcw dX13_plan_56 rfl kc_X13_680 ?_
        refine mm_iret dX13_plan_59 rfl rfl ?_
        exact bad (fun q => by unfold kP_ok at q; omega)
      · refine mm_iload dX13_plan_32 rfl rfl ?_
        refine mm_S1i dX13_plan_34 rfl lk_X13_677 (by simp) rfl rfl rfl (c_X13_isCost hla) ?_
        refine mm_ifeqb dX13_plan_37 (fun h37 => ?_) (fun h37 => ?_)
        · refine mm_ldcw dX13_plan_56 rfl kc_X13_680 ?_
          refine mm_iret dX13_plan_59 rfl rfl ?_
          exact bad (fun q => by unfold kP_ok at q; omega)
        · refine mm_iload dX13_plan_40 rfl rfl ?_
          refine mm_S1i dX13_plan_42 rfl lk_X13_677 (by simp) rfl rfl rfl (c_X13_isCost hld) ?_
          refine mm_ifeqb dX13_plan_45 (fun h45 => ?_) (fun h45 => ?_)
          · refine mm_ldcw dX13_plan_56 rfl kc_X13_680 ?_
            refine mm_iret dX13_plan_59 rfl rfl ?_
            exact bad (fun q => by unfold kP_ok at q; omega)
          · refine mm_iload dX13_plan_48 rfl rfl ?_
            refine mm_S1i dX13_plan_50 rfl lk_X13_677 (by simp) rfl rfl rfl (c_X13_isCost hfa) ?_
            refine mm_ifneb dX13_plan_53 (fun h53 => ?_) (fun h53 => ?_)
            · exact good (by unfold kP_ok; omega)
            · refine mm_ldcw dX13_plan_56 rfl kc_X13_680 ?_
              refine mm_iret dX13_plan_59 rfl rfl ?_
              exact bad (fun q => by unfold kP_ok at q; omega)
end

