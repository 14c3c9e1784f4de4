/-! ===== stand, of the reference ===== -/
section
variable {X : mm_X} {M : mm_M} {x y : Int} {n : Nat}
def kd_addR (M M' : mm_M) (x : Int) (y n : Nat) : Prop :=
  (∀ a, a ≠ 183 → a ≠ 216 → a ≠ 217 → a ≠ 218 → a ≠ 219 → a ≠ 226 → a ≠ 227 → a ≠ 228 → a ≠ 229 → M' a = M a) ∧ (∀ b, b ≠ 88 → b ≠ 89 → M' 183 b = M 183 b) ∧ M' 183 88 = (n : Int) + 1 ∧ M' 183 89 = 0 ∧
  (∀ b, b ≠ 6 + n → M' 216 b = M 216 b ∧ M' 217 b = M 217 b ∧ M' 218 b = M 218 b) ∧ M' 216 (6 + n) = M 216 y ∧ M' 217 (6 + n) = M 217 y ∧ M' 218 (6 + n) = M 218 y ∧ (∀ b, ¬ (100 * (6 + n) ≤ b ∧ b < 100 * (6 + n) + 100) → M' 219 b = M 219 b) ∧ (∀ j, j < 100 → M' 219 (100 * (6 + n) + j) = M 219 (100 * y + j)) ∧
  (∀ b, b ≠ n → M' 228 b = M 228 b) ∧ M' 228 n = x ∧ mm_RF M' (kd_mR M')
theorem kd_mR_congr {M N : mm_M} (h6 : N 216 = M 216) (h7 : N 217 = M 217) (h9 : N 219 = M 219) (h8 : N 228 = M 228) (hk : mm_rk N = mm_rk M) : kd_mR N = kd_mR M := by
  funext i j
  unfold kd_mR kl_S
  rw [h6, h7, h9, h8, hk]
theorem kl_ok_congr {M N : mm_M} (h6 : N 216 = M 216) (h7 : N 217 = M 217) (h9 : N 219 = M 219) (hk : mm_rk N = mm_rk M) {u : Nat} (h : kl_ok M u) : kl_ok N u := by
  unfold kl_ok kl_S at h ⊢
  rw [h6, h7, h9, hk]
  exact h
theorem kf_run_congr {K : Nat → Int} {s s' : Int} {A B : Nat → Int} (hs : s = s') : ∀ {n : Nat}, (∀ i, i < n → A i = B i) → kf_run K s A n = kf_run K s' B n
  | 0, _ => hs
  | n + 1, h => by unfold kf_run; rw [kf_run_congr hs (fun i hi => h i (by omega)), h n (by omega)]
set_option maxHeartbeats 4000000 in
theorem c_X13_stand1 (hR : mm_Rf M) (hK : mm_KV (mm_rk M)) (hF : mm_RF M (kd_mR M)) (hn : M 183 88 = (n : Int)) (hn8 : n < 8) (hx : 0 ≤ x ∧ x ≤ 40) (hy : 0 ≤ y ∧ y ≤ 5) (hok : kl_ok M y.toNat) (hpos : 0 < M 216 y.toNat) (hw : -75000000 ≤ M 218 y.toNat ∧ M 218 y.toNat ≤ 75000000) :
    mm_C X Y_X13_stand 243 243 [(2, 184), (0, x), (0, y)] M (fun r M' => r = (0, (n : Int)) ∧ mm_Rf M' ∧ mm_rg M M' ∧ kd_addR M M' x y.toNat n) := by
  have hG0 := mm_rg.rf M
  have hl := hok.1
  obtain ⟨Φ, hΦ⟩ : ∃ Φ : mm_V → mm_M → Prop, Φ = (fun r M' => r = (0, (n : Int)) ∧ mm_Rf M' ∧ mm_rg M M' ∧ kd_addR M M' x y.toNat n) := ⟨_, rfl⟩
  rw [← hΦ]
  refine mm_start (ls := [(2, 184), (0, x), (0, y), (9, 0), (9, 0)]) rfl ?_
  -- the pairs: P is the memory with the new loop in it
  have pairs : ∀ (P : mm_M), mm_rg M P → (∀ a, a ≠ 216 → a ≠ 217 → a ≠ 218 → a ≠ 219 → a ≠ 228 → P a = M a) → (∀ b, b ≠ 6 + n → P 216 b = M 216 b ∧ P 217 b = M 217 b ∧ P 218 b = M 218 b) → P 216 (6 + n) = M 216 y.toNat → P 217 (6 + n) = M 217 y.toNat → P 218 (6 + n) = M 218 y.toNat → (∀ b, ¬ (100 * (6 + n) ≤ b ∧ b < 100 * (6 + n) + 100) → P 219 b = M 219 b) → (∀ j, j < 100 → P 219 (100 * (6 + n) + j) = M 219 (100 * y.toNat + j)) → (∀ b, b ≠ n → P 228 b = M 228 b) → P 228 n = x →
      ∀ i : Nat, i ≤ n → ∀ N : mm_M, mm_Rf N → mm_rg M N → (∀ a, a ≠ 226 → a ≠ 227 → a ≠ 229 → N a = P a) → (∀ b, (∀ j, j < n → b ≠ 8 * j + n) → N 229 b = M 229 b) → (∀ j, j < i → (N 229 (8 * j + n) = 0 ∨ N 229 (8 * j + n) = 1) ∧ (N 229 (8 * j + n) = 1 ↔ kd_mR P j n)) →
      mm_J X Y_X13_stand 243 243 243 137 [(2, 184), (0, x), (0, y), (0, ((6 + n : Nat) : Int)), (0, (i : Int))] [] N Φ := by
    intro P hGP hPa hP6 hPm hPs hPw hP9 hP9n hP8 hP8n
    have kP : mm_rk P = mm_rk M := hGP.k
    have eS : ∀ i, i ≤ 100 → kl_S P (6 + n) i = kl_S M y.toNat i := by
      intro i hi
      unfold kl_S
      rw [kP]
      exact kf_run_congr hPs (fun k hk => hP9n k (by omega))
    have okn : kl_ok P (6 + n) := by
      obtain ⟨q1, q2, q3, q4⟩ := hok
      refine ⟨by rw [hPm]; exact q1, by rw [hPs]; exact q2, ?_, ?_⟩
      · intro i hi
        rw [hPm] at hi
        rw [hP9n i (by omega)]
        exact q3 i hi
      · intro i hi
        rw [hPm] at hi
        rw [eS i (by omega), kP]
        exact q4 i hi
    have eSo : ∀ j, j < n → ∀ i, i ≤ 100 → kl_S P (6 + j) i = kl_S M (6 + j) i := by
      intro j hj i hi
      unfold kl_S
      rw [kP]
      exact kf_run_congr (hP6 (6 + j) (by omega)).2.1 (fun k hk => hP9 _ (by omega))
    have oko : ∀ j, j < n → kl_ok P (6 + j) := by
      intro j hj
      obtain ⟨⟨⟨q1, q2, q3, q4⟩, q5⟩, q6, q7⟩ := hF.2.1 j (by omega)
      have e1 := (hP6 (6 + j) (by omega)).1
      refine ⟨by rw [e1]; exact q1, by rw [(hP6 (6 + j) (by omega)).2.1]; exact q2, ?_, ?_⟩
      · intro i hi
        rw [e1] at hi
        rw [hP9 _ (by omega)]
        exact q3 i hi
      · intro i hi
        rw [e1] at hi
        rw [eSo j hj i (by omega), kP]
        exact q4 i hi
    have eRo : ∀ j k, j < n → k < n → (kd_mR P j k ↔ kd_mR M j k) := by
      intro j k hj hk
      unfold kd_mR
      have a1 := (hF.2.1 j (by omega)).1
      have a2 := (hF.2.1 k (by omega)).1
      have b1 := a1.1.1
      have b2 := a2.1.1
      have c1 := a1.2
      have c2 := a2.2
      rw [(hP6 (6 + j) (by omega)).1, (hP6 (6 + k) (by omega)).1, hP8 j (by omega), hP8 k (by omega), kP, kn_ed, kn_ed, kn_d_congr (S' := kl_S M (6 + j)) (T' := kl_S M (6 + k)) (by omega) (by omega) (fun i hi => eSo j hj i (by omega)) (fun i hi => eSo k hk i (by omega))]
    refine mm_lp ?_
    intro i hi ih N hRN hG hfr h229 hm
    have f183 : N 183 = M 183 := (hfr 183 (by decide) (by decide) (by decide)).trans (hPa 183 (by decide) (by decide) (by decide) (by decide) (by decide))
    have fc : N 183 88 = (n : Int) := by rw [f183]; exact hn
    have f228 : N 228 = P 228 := hfr 228 (by decide) (by decide) (by decide)
    have f216 : N 216 = P 216 := hfr 216 (by decide) (by decide) (by decide)
    have f217 : N 217 = P 217 := hfr 217 (by decide) (by decide) (by decide)
    have f219 : N 219 = P 219 := hfr 219 (by decide) (by decide) (by decide)
    have kN : mm_rk N = mm_rk P := hG.k.trans kP.symm
    by_cases hlt : i < n
    · have q0 := (hF.2.1 i (by omega)).2.1
      have e8 : N 228 i = M 228 i := by rw [f228]; exact hP8 i (by omega)
      have cn := c_X13_leastApart (X := X) (M := N) (x := ((6 + i : Nat) : Int)) (y := M 228 i) (u := ((6 + n : Nat) : Int)) (v := x) (k := 0) hRN (by rw [hG.k]; exact hK) (by omega) (by omega) q0 hx (by decide) (by rw [Int.toNat_natCast]; exact kl_ok_congr f216 f217 f219 kN (oko i hlt)) (by rw [Int.toNat_natCast]; exact kl_ok_congr f216 f217 f219 kN okn)
        (by rw [Int.toNat_natCast, f216, (hP6 (6 + i) (by omega)).1]; exact (hF.2.1 i (by omega)).1.2) (by rw [Int.toNat_natCast, f216, hPm]; exact hpos)
      rw [Int.toNat_natCast, Int.toNat_natCast] at cn
      have em : kn_a 1000000 (kn_e (mm_rk N) (kl_S N (6 + i)) (kl_S N (6 + n)) (N 216 (6 + i)).toNat (N 216 (6 + n)).toNat (0 : Int).toNat (M 228 i) x) ((N 216 (6 + i)).toNat * (N 216 (6 + n)).toNat) < 2 ↔ kd_mR P i n := by
        rw [← kd_mR_congr f216 f217 f219 f228 kN]
        unfold kd_mR
        rw [f228, hP8 i (by omega), hP8n]
        rfl
      have hab := kn_ab (a := 1000000) (by decide) (fun t => (kn_eb (S := kl_S N (6 + i)) (T := kl_S N (6 + n)) (l := (N 216 (6 + i)).toNat) (m := (N 216 (6 + n)).toNat) (k := (0 : Int).toNat) (x := M 228 i) (y := x) (hG.k ▸ hK : mm_KV (mm_rk N)) q0 hx t).1) ((N 216 (6 + i)).toNat * (N 216 (6 + n)).toNat)
      obtain ⟨D, hD⟩ : ∃ D, D = kn_a 1000000 (kn_e (mm_rk N) (kl_S N (6 + i)) (kl_S N (6 + n)) (N 216 (6 + i)).toNat (N 216 (6 + n)).toNat (0 : Int).toNat (M 228 i) x) ((N 216 (6 + i)).toNat * (N 216 (6 + n)).toNat) := ⟨_, rfl⟩
      rw [← hD] at cn em hab
      have f6 : (6 : Int) + (i : Int) = ((6 + i : Nat) : Int) := by omega
      refine mm_iload dX13_stand_137 rfl rfl ?_
      refine mm_aload_n dX13_stand_139 rfl rfl ?_
      refine mm_get (kd := 0) dX13_stand_140 rfl fl_X13_397 (c := 183) rfl (by decide) rfl rfl ?_
      obtain ⟨v140, hv140⟩ : ∃ v, v = N 183 88 := ⟨_, rfl⟩
      rw [← hv140]
      rw [fc] at hv140
      subst hv140
      refine mm_icge dX13_stand_143 (by omega) (by omega) (fun h143 => ?_) (fun h143 => ?_)
      · exfalso; omega
      · refine mm_aload_n dX13_stand_146 rfl rfl ?_
        refine mm_getr dX13_stand_147 rfl fl_X13_337 (c := 183) rfl (by decide) rfl rfl (hRN.at (c := 183) (i := 91) (v := 230) rfl (by decide)) ?_
        refine mm_bipush dX13_stand_150 rfl (by decide) ?_
        refine mm_iload dX13_stand_152 rfl rfl ?_
        refine mm_imul dX13_stand_154 rfl ?_
        refine mm_aload_n dX13_stand_155 rfl rfl ?_
        refine mm_get (kd := 0) dX13_stand_156 rfl fl_X13_397 (c := 183) rfl (by decide) rfl rfl ?_
        obtain ⟨v156, hv156⟩ : ∃ v, v = N 183 88 := ⟨_, rfl⟩
        rw [← hv156]
        rw [fc] at hv156
        subst hv156
        refine mm_iadd dX13_stand_159 rfl ?_
        refine mm_aload_n dX13_stand_160 rfl rfl ?_
        refine mm_bipush dX13_stand_161 rfl (by decide) ?_
        refine mm_iload dX13_stand_163 rfl rfl ?_
        refine mm_iadd dX13_stand_165 rfl ?_
        refine mm_aload_n dX13_stand_166 rfl rfl ?_
        refine mm_getr dX13_stand_167 rfl fl_X13_334 (c := 183) rfl (by decide) rfl rfl (hRN.at (c := 183) (i := 90) (v := 229) rfl (by decide)) ?_
        refine mm_iload dX13_stand_170 rfl rfl ?_
        refine mm_ialk (k0 := i) dX13_stand_172 rfl (c := 228) rfl (by decide) rfl (by omega) (by omega) ?_
        rw [e8]
        refine mm_iload_n dX13_stand_173 rfl rfl ?_
        refine mm_iload_n dX13_stand_174 rfl rfl ?_
        refine mm_iconst dX13_stand_175 rfl ?_
        rw [f6]
        refine mm_V5g (M1 := N) dX13_stand_176 rfl lk_X13_698 (c := 183) rfl (by decide) rfl (by simp) (by simp) (by simp) (by simp) (by simp) rfl rfl rfl (cn) ?_
        rintro _ N176 ⟨rfl, p176⟩
        change mm_J _ _ _ _ _ _ _ _ _ _
        have hR176 : mm_Rf N176 := p176.1
        have hG176 : mm_rg M N176 := hG.tr p176.2.1
        refine mm_iconst dX13_stand_179 rfl ?_
        refine mm_icge_z (q2 := 188) dX13_stand_180 (by omega) (by omega) (fun k => mm_iconst dX13_stand_187 rfl k) (fun k => mm_iconst dX13_stand_183 rfl (mm_goto dX13_stand_184 k)) ?_
        refine mm_zstk (k0 := (8 * i + n)) dX13_stand_188 rfl (c := 229) rfl (by decide) rfl (by omega) (by omega) (mm_b_01 _) (fun M188 hM188 => ?_)
        have hR188 : mm_Rf M188 := by rw [hM188]; exact hR176.up (mm_rt_ar (t := 2) rfl (by decide))
        have hG188 : mm_rg M M188 := by rw [hM188]; exact hG176.upa (by decide)
        refine mm_iinc dX13_stand_189 rfl rfl (Nat.le_of_ble_eq_true rfl) rfl ?_
        refine mm_goto dX13_stand_192 ?_
        have u : ∀ a, a ≠ 229 → M188 a = N176 a := by intro a ha; funext b; simp [hM188, mm_up, ha]
        have u229 : ∀ b, b ≠ 8 * i + n → M188 229 b = N 229 b := by
          intro b hb
          simp [hM188, mm_up, hb]
          rw [p176.2.2 229 (by decide) (by decide)]
        refine ih hlt _ hR188 hG188 ?_ ?_ ?_
        · intro a a1 a2 a3; rw [u a a3, p176.2.2 a a1 a2]; exact hfr a a1 a2 a3
        · intro b hb; rw [u229 b (hb i hlt)]; exact h229 b hb
        · intro j hj
          by_cases q : j = i
          · have e9 : M188 229 (8 * j + n) = mm_b (D < 2) := by rw [q]; simp [hM188, mm_up]
            rw [e9, q, ← em]
            refine ⟨mm_b_01 _, ?_⟩
            unfold mm_b
            split <;> omega
          · rw [u229 _ (by omega)]; exact hm j (by omega)
    · rw [hΦ]
      refine mm_iload dX13_stand_137 rfl rfl ?_
      refine mm_aload_n dX13_stand_139 rfl rfl ?_
      refine mm_get (kd := 0) dX13_stand_140 rfl fl_X13_397 (c := 183) rfl (by decide) rfl rfl ?_
      obtain ⟨v140, hv140⟩ : ∃ v, v = N 183 88 := ⟨_, rfl⟩
      rw [← hv140]
      rw [fc] at hv140
      subst hv140
      refine mm_icge dX13_stand_143 (by omega) (by omega) (fun h143 => ?_) (fun h143 => ?_)
      · refine mm_aload_n dX13_stand_195 rfl rfl ?_
        refine mm_dup dX13_stand_196 rfl (by simp) ?_
        refine mm_get (kd := 0) dX13_stand_197 rfl fl_X13_397 (c := 183) rfl (by decide) rfl rfl ?_
        obtain ⟨v197, hv197⟩ : ∃ v, v = N 183 88 := ⟨_, rfl⟩
        rw [← hv197]
        rw [fc] at hv197
        subst hv197
        refine mm_iconst dX13_stand_200 rfl ?_
        refine mm_iadd dX13_stand_201 rfl ?_
        refine mm_puti dX13_stand_202 rfl fl_X13_397 (c := 183) rfl (by decide) rfl rfl (fun M202 hM202 => ?_)
        have hR202 : mm_Rf M202 := by rw [hM202]; exact hRN.up rfl
        have hG202 : mm_rg M M202 := by rw [hM202]; exact hG.up (by decide)
        refine mm_aload_n dX13_stand_205 rfl rfl ?_
        refine mm_iconst dX13_stand_206 rfl ?_
        refine mm_puti dX13_stand_207 rfl fl_X13_400 (c := 183) rfl (by decide) rfl rfl (fun M207 hM207 => ?_)
        have hR207 : mm_Rf M207 := by rw [hM207]; exact hR202.up rfl
        have hG207 : mm_rg M M207 := by rw [hM207]; exact hG202.up (by decide)
        refine mm_aload_n dX13_stand_210 rfl rfl ?_
        refine mm_get (kd := 0) dX13_stand_211 rfl fl_X13_397 (c := 183) rfl (by decide) rfl rfl ?_
        obtain ⟨v211, hv211⟩ : ∃ v, v = M207 183 88 := ⟨_, rfl⟩
        rw [← hv211]
        rw [hM207, mm_up_i (by decide), hM202, mm_up_s] at hv211
        subst hv211
        refine mm_iconst dX13_stand_214 rfl ?_
        refine mm_isub dX13_stand_215 rfl ?_
        refine mm_iret dX13_stand_216 rfl rfl ?_
        have u : ∀ a, a ≠ 183 → M207 a = N a := by intro a ha; funext b; simp [hM207, hM202, mm_up, ha]
        have uc : M207 183 88 = (n : Int) + 1 := by simp [hM207, hM202, mm_up]
        have kM : mm_rk M207 = mm_rk P := hG207.k.trans kP.symm
        have g216 : M207 216 = P 216 := (u 216 (by decide)).trans f216
        have g217 : M207 217 = P 217 := (u 217 (by decide)).trans f217
        have g218 : M207 218 = P 218 := (u 218 (by decide)).trans (hfr 218 (by decide) (by decide) (by decide))
        have g219 : M207 219 = P 219 := (u 219 (by decide)).trans f219
        have g228 : M207 228 = P 228 := (u 228 (by decide)).trans f228
        refine ⟨by simp [hM207, hM202, mm_up], hR207, hG207, ?_, ?_, uc, ?_, ?_, ?_, ?_, ?_, ?_, ?_, ?_, ?_, ?_⟩
        · intro a a1 a2 a3 a4 a5 a6 a7 a8 a9; rw [u a a1, hfr a a6 a7 a9]; exact hPa a a2 a3 a4 a5 a8
        · intro b b1 b2; simp [hM207, hM202, mm_up, b1, b2]; rw [f183]
        · simp [hM207, hM202, mm_up]
        · intro b hb; rw [g216, g217, g218]; exact hP6 b hb
        · rw [g216]; exact hPm
        · rw [g217]; exact hPs
        · rw [g218]; exact hPw
        · intro b hb; rw [g219]; exact hP9 b hb
        · intro j hj; rw [g219]; exact hP9n j hj
        · intro b hb; rw [g228]; exact hP8 b hb
        · rw [g228]; exact hP8n
        · refine ⟨by rw [uc]; omega, ?_, ?_⟩
          · intro j hj
            rw [uc] at hj
            by_cases q : j = n
            · rw [q, g216, g218, g228, hPm, hPw, hP8n]
              exact ⟨⟨kl_ok_congr g216 g217 g219 kM okn, hpos⟩, hx, hw⟩
            · have hj2 : j < n := by omega
              have := hF.2.1 j (by omega)
              rw [g216, g218, g228, (hP6 (6 + j) (by omega)).1, (hP6 (6 + j) (by omega)).2.2, hP8 j q]
              exact ⟨⟨kl_ok_congr g216 g217 g219 kM (oko j hj2), this.1.2⟩, this.2.1, this.2.2⟩
          · intro j k hjk hk
            rw [uc] at hk
            rw [kd_mR_congr g216 g217 g219 g228 kM, u 229 (by decide)]
            by_cases q : k = n
            · rw [q]; exact hm j (by omega)
            · have := hF.2.2 j k hjk (by omega)
              rw [h229 (8 * j + k) (fun l hl => by omega), eRo j k (by omega) (by omega)]
              exact this
      · exfalso; omega
  have e218 : mm_rk M = mm_rk M := rfl
  -- the acts are copied
  have copy : ∀ i : Nat, i ≤ 100 → ∀ N : mm_M, mm_Rf N → mm_rg M N → (∀ a, a ≠ 216 → a ≠ 217 → a ≠ 218 → a ≠ 219 → N a = M a) → (∀ b, b ≠ 6 + n → N 216 b = M 216 b ∧ N 217 b = M 217 b ∧ N 218 b = M 218 b) → N 216 (6 + n) = M 216 y.toNat → N 217 (6 + n) = M 217 y.toNat → N 218 (6 + n) = M 218 y.toNat → (∀ b, ¬ (100 * (6 + n) ≤ b ∧ b < 100 * (6 + n) + i) → N 219 b = M 219 b) → (∀ j, j < i → N 219 (100 * (6 + n) + j) = M 219 (100 * y.toNat + j)) →
      mm_J X Y_X13_stand 243 243 243 87 [(2, 184), (0, x), (0, y), (0, ((6 + n : Nat) : Int)), (0, (i : Int))] [] N Φ := by
    refine mm_lp ?_
    intro i hi ih N hRN hG hfr h6 h6m h6s h6w h9 h9n
    by_cases hlt : i < 100
    · have e1 := h9 (100 * y.toNat + i) (by omega)
      refine mm_iload dX13_stand_87 rfl rfl ?_
      refine mm_bipush dX13_stand_89 rfl (by decide) ?_
      refine mm_icge dX13_stand_91 (by omega) (by omega) (fun h91 => ?_) (fun h91 => ?_)
      · exfalso; omega
      · refine mm_aload_n dX13_stand_94 rfl rfl ?_
        refine mm_getr dX13_stand_95 rfl fl_X13_304 (c := 183) rfl (by decide) rfl rfl (hRN.at (c := 183) (i := 67) (v := 220) rfl (by decide)) ?_
        refine mm_bipush dX13_stand_98 rfl (by decide) ?_
        refine mm_iload_n dX13_stand_100 rfl rfl ?_
        refine mm_imul dX13_stand_101 rfl ?_
        refine mm_iload dX13_stand_102 rfl rfl ?_
        refine mm_iadd dX13_stand_104 rfl ?_
        refine mm_aload_n dX13_stand_105 rfl rfl ?_
        refine mm_getr dX13_stand_106 rfl fl_X13_304 (c := 183) rfl (by decide) rfl rfl (hRN.at (c := 183) (i := 67) (v := 220) rfl (by decide)) ?_
        refine mm_bipush dX13_stand_109 rfl (by decide) ?_
        refine mm_iload_n dX13_stand_111 rfl rfl ?_
        refine mm_imul dX13_stand_112 rfl ?_
        refine mm_iload dX13_stand_113 rfl rfl ?_
        refine mm_iadd dX13_stand_115 rfl ?_
        refine mm_ialk (k0 := (100 * y.toNat + i)) dX13_stand_116 rfl (c := 219) rfl (by decide) rfl (by omega) (by omega) ?_
        rw [e1]
        refine mm_istk (k0 := (100 * (6 + n) + i)) dX13_stand_117 rfl (c := 219) rfl (by decide) rfl (by omega) (by omega) (fun M117 hM117 => ?_)
        have hR117 : mm_Rf M117 := by rw [hM117]; exact hRN.up (mm_rt_ar (t := 0) rfl (by decide))
        have hG117 : mm_rg M M117 := by rw [hM117]; exact hG.upa (by decide)
        refine mm_iinc dX13_stand_118 rfl rfl (Nat.le_of_ble_eq_true rfl) rfl ?_
        refine mm_goto dX13_stand_121 ?_
        have u : ∀ a, a ≠ 219 → M117 a = N a := by intro a ha; funext b; simp [hM117, mm_up, ha]
        refine ih hlt _ hR117 hG117 ?_ ?_ ?_ ?_ ?_ ?_ ?_
        · intro a a1 a2 a3 a4; rw [u a a4]; exact hfr a a1 a2 a3 a4
        · intro b hb; rw [u 216 (by decide), u 217 (by decide), u 218 (by decide)]; exact h6 b hb
        · rw [u 216 (by decide)]; exact h6m
        · rw [u 217 (by decide)]; exact h6s
        · rw [u 218 (by decide)]; exact h6w
        · intro b hb
          have nb : b ≠ 100 * (6 + n) + i := by omega
          rw [hM117, mm_up_i nb]
          exact h9 b (by omega)
        · intro j hj
          by_cases q : j = i
          · rw [hM117, q, mm_up_s]
          · rw [hM117, mm_up_i (by omega)]; exact h9n j (by omega)
    · have f183 : N 183 = M 183 := hfr 183 (by decide) (by decide) (by decide) (by decide)
      have fc : N 183 88 = (n : Int) := by rw [f183]; exact hn
      refine mm_iload dX13_stand_87 rfl rfl ?_
      refine mm_bipush dX13_stand_89 rfl (by decide) ?_
      refine mm_icge dX13_stand_91 (by omega) (by omega) (fun h91 => ?_) (fun h91 => ?_)
      · refine mm_aload_n dX13_stand_124 rfl rfl ?_
        refine mm_getr dX13_stand_125 rfl fl_X13_334 (c := 183) rfl (by decide) rfl rfl (hRN.at (c := 183) (i := 90) (v := 229) rfl (by decide)) ?_
        refine mm_aload_n dX13_stand_128 rfl rfl ?_
        refine mm_get (kd := 0) dX13_stand_129 rfl fl_X13_397 (c := 183) rfl (by decide) rfl rfl ?_
        obtain ⟨v129, hv129⟩ : ∃ v, v = N 183 88 := ⟨_, rfl⟩
        rw [← hv129]
        rw [fc] at hv129
        subst hv129
        refine mm_iload_n dX13_stand_132 rfl rfl ?_
        refine mm_istk (k0 := n) dX13_stand_133 rfl (c := 228) rfl (by decide) rfl (by omega) (by omega) (fun M133 hM133 => ?_)
        have hR133 : mm_Rf M133 := by rw [hM133]; exact hRN.up (mm_rt_ar (t := 0) rfl (by decide))
        have hG133 : mm_rg M M133 := by rw [hM133]; exact hG.upa (by decide)
        refine mm_iconst dX13_stand_134 rfl ?_
        refine mm_istore dX13_stand_135 rfl (Nat.le_of_ble_eq_true rfl) rfl ?_
        have u : ∀ a, a ≠ 228 → M133 a = N a := by intro a ha; funext b; simp [hM133, mm_up, ha]
        refine pairs M133 hG133 ?_ ?_ ?_ ?_ ?_ ?_ ?_ ?_ ?_ 0 (Nat.zero_le _) M133 hR133 hG133 (fun _ _ _ _ => rfl) ?_ (fun j hj => absurd hj (Nat.not_lt_zero j))
        · intro a a1 a2 a3 a4 a5; rw [u a a5]; exact hfr a a1 a2 a3 a4
        · intro b hb; rw [u 216 (by decide), u 217 (by decide), u 218 (by decide)]; exact h6 b hb
        · rw [u 216 (by decide)]; exact h6m
        · rw [u 217 (by decide)]; exact h6s
        · rw [u 218 (by decide)]; exact h6w
        · intro b hb; rw [u 219 (by decide)]; exact h9 b (by omega)
        · intro j hj; rw [u 219 (by decide)]; exact h9n j (by omega)
        · intro b hb; rw [hM133, mm_up_i hb, hfr 228 (by decide) (by decide) (by decide) (by decide)]
        · rw [hM133, mm_up_s]
        · intro b hb; rw [u 229 (by decide), hfr 229 (by decide) (by decide) (by decide) (by decide)]
      · exfalso; omega
  have f6 : (6 : Int) + (n : Int) = ((6 + n : Nat) : Int) := by omega
  refine mm_iload_n dX13_stand_0 rfl rfl ?_
  refine mm_S1i dX13_stand_1 rfl lk_X13_693 (by simp) rfl rfl rfl (c_X13_isSite (by omega)) ?_
  refine mm_ifeqb dX13_stand_4 (fun h4 => ?_) (fun h4 => ?_)
  · exact absurd hx h4
  · refine mm_iload_n dX13_stand_7 rfl rfl ?_
    refine mm_S1i dX13_stand_8 rfl lk_X13_629 (by simp) rfl rfl rfl (c_X13_isSlot (by omega)) ?_
    refine mm_ifneb dX13_stand_11 (fun h11 => ?_) (fun h11 => ?_)
    · refine mm_aload_n dX13_stand_17 rfl rfl ?_
      refine mm_iload_n dX13_stand_18 rfl rfl ?_
      refine mm_V1i dX13_stand_19 rfl lk_X13_673 (c := 183) rfl (by decide) rfl (by simp) rfl rfl rfl (c_X13_isKept hR (by omega) (by omega)) ?_
      refine mm_ifneb dX13_stand_22 (fun h22 => ?_) (fun h22 => ?_)
      · refine mm_aload_n dX13_stand_28 rfl rfl ?_
        refine mm_get (kd := 0) dX13_stand_29 rfl fl_X13_397 (c := 183) rfl (by decide) rfl rfl ?_
        obtain ⟨v29, hv29⟩ : ∃ v, v = M 183 88 := ⟨_, rfl⟩
        rw [← hv29]
        rw [hn] at hv29
        subst hv29
        refine mm_bipush dX13_stand_32 rfl (by decide) ?_
        refine mm_icne dX13_stand_34 (by omega) (by omega) (fun h34 => ?_) (fun h34 => ?_)
        · refine mm_bipush dX13_stand_40 rfl (by decide) ?_
          refine mm_aload_n dX13_stand_42 rfl rfl ?_
          refine mm_get (kd := 0) dX13_stand_43 rfl fl_X13_397 (c := 183) rfl (by decide) rfl rfl ?_
          obtain ⟨v43, hv43⟩ : ∃ v, v = M 183 88 := ⟨_, rfl⟩
          rw [← hv43]
          rw [hn] at hv43
          subst hv43
          refine mm_iadd dX13_stand_46 rfl ?_
          rw [f6]
          refine mm_istore_n dX13_stand_47 rfl (Nat.le_of_ble_eq_true rfl) rfl ?_
          refine mm_aload_n dX13_stand_48 rfl rfl ?_
          refine mm_getr dX13_stand_49 rfl fl_X13_295 (c := 183) rfl (by decide) rfl rfl (hR.at (c := 183) (i := 64) (v := 217) rfl (by decide)) ?_
          refine mm_iload_n dX13_stand_52 rfl rfl ?_
          refine mm_aload_n dX13_stand_53 rfl rfl ?_
          refine mm_getr dX13_stand_54 rfl fl_X13_295 (c := 183) rfl (by decide) rfl rfl (hR.at (c := 183) (i := 64) (v := 217) rfl (by decide)) ?_
          refine mm_iload_n dX13_stand_57 rfl rfl ?_
          refine mm_ialk (k0 := y.toNat) dX13_stand_58 rfl (c := 216) rfl (by decide) rfl (by omega) (by omega) ?_
          refine mm_istk (k0 := (6 + n)) dX13_stand_59 rfl (c := 216) rfl (by decide) rfl (by omega) (by omega) (fun M59 hM59 => ?_)
          have hR59 : mm_Rf M59 := by rw [hM59]; exact hR.up (mm_rt_ar (t := 0) rfl (by decide))
          have hG59 : mm_rg M M59 := by rw [hM59]; exact hG0.upa (by decide)
          refine mm_aload_n dX13_stand_60 rfl rfl ?_
          refine mm_getr dX13_stand_61 rfl fl_X13_298 (c := 183) rfl (by decide) rfl rfl (hR59.at (c := 183) (i := 65) (v := 218) rfl (by decide)) ?_
          refine mm_iload_n dX13_stand_64 rfl rfl ?_
          refine mm_aload_n dX13_stand_65 rfl rfl ?_
          refine mm_getr dX13_stand_66 rfl fl_X13_298 (c := 183) rfl (by decide) rfl rfl (hR59.at (c := 183) (i := 65) (v := 218) rfl (by decide)) ?_
          refine mm_iload_n dX13_stand_69 rfl rfl ?_
          refine mm_ialk (k0 := y.toNat) dX13_stand_70 rfl (c := 217) rfl (by decide) rfl (by omega) (by omega) ?_
          rw [show M59 217 = M 217 from by rw [hM59, mm_up_row (by decide)]]
          refine mm_istk (k0 := (6 + n)) dX13_stand_71 rfl (c := 217) rfl (by decide) rfl (by omega) (by omega) (fun M71 hM71 => ?_)
          have hR71 : mm_Rf M71 := by rw [hM71]; exact hR59.up (mm_rt_ar (t := 0) rfl (by decide))
          have hG71 : mm_rg M M71 := by rw [hM71]; exact hG59.upa (by decide)
          refine mm_aload_n dX13_stand_72 rfl rfl ?_
          refine mm_getr dX13_stand_73 rfl fl_X13_301 (c := 183) rfl (by decide) rfl rfl (hR71.at (c := 183) (i := 66) (v := 219) rfl (by decide)) ?_
          refine mm_iload_n dX13_stand_76 rfl rfl ?_
          refine mm_aload_n dX13_stand_77 rfl rfl ?_
          refine mm_getr dX13_stand_78 rfl fl_X13_301 (c := 183) rfl (by decide) rfl rfl (hR71.at (c := 183) (i := 66) (v := 219) rfl (by decide)) ?_
          refine mm_iload_n dX13_stand_81 rfl rfl ?_
          refine mm_ialk (k0 := y.toNat) dX13_stand_82 rfl (c := 218) rfl (by decide) rfl (by omega) (by omega) ?_
          rw [show M71 218 = M 218 from by rw [hM71, mm_up_row (by decide), hM59, mm_up_row (by decide)]]
          refine mm_istk (k0 := (6 + n)) dX13_stand_83 rfl (c := 218) rfl (by decide) rfl (by omega) (by omega) (fun M83 hM83 => ?_)
          have hR83 : mm_Rf M83 := by rw [hM83]; exact hR71.up (mm_rt_ar (t := 0) rfl (by decide))
          have hG83 : mm_rg M M83 := by rw [hM83]; exact hG71.upa (by decide)
          refine mm_iconst dX13_stand_84 rfl ?_
          refine mm_istore dX13_stand_85 rfl (Nat.le_of_ble_eq_true rfl) rfl ?_
          refine copy 0 (by decide) _ hR83 hG83 ?_ ?_ ?_ ?_ ?_ ?_ (fun j hj => absurd hj (Nat.not_lt_zero j))
          · intro a a1 a2 a3 a4; funext b; simp [hM83, hM71, hM59, mm_up, a1, a2, a3]
          · intro b hb; simp [hM83, hM71, hM59, mm_up, hb]
          · simp [hM83, hM71, hM59, mm_up]
          · simp [hM83, hM71, hM59, mm_up]
          · simp [hM83, hM71, hM59, mm_up]
          · intro b hb; simp [hM83, hM71, hM59, mm_up]
        · exfalso; omega
      · exact absurd hpos h22
    · exact absurd hy h11
theorem c_X13_stand0 (hR : mm_Rf M) (hx : mm_R x) (hy : mm_R y) (hc : 0 ≤ M 183 88 ∧ M 183 88 ≤ 8) (hl : ∀ k : Nat, k < 6 → kl_ok M k) (hno : ¬ (((0 ≤ x ∧ x ≤ 40) ∧ 0 ≤ y ∧ y ≤ 5) ∧ 0 < M 216 y.toNat ∧ M 183 88 < 8)) :
    mm_Fn X Y_X13_stand 243 [(2, 184), (0, x), (0, y)] M (0, if (0 ≤ x ∧ x ≤ 40) ∧ 0 ≤ y ∧ y ≤ 5 then (if 0 < M 216 y.toNat then -3 else -4) else -2) M := by
  refine mm_startF (ls := [(2, 184), (0, x), (0, y), (9, 0), (9, 0)]) rfl ?_
  refine mm_iload_n dX13_stand_0 rfl rfl ?_
  refine mm_S1i dX13_stand_1 rfl lk_X13_693 (by simp) rfl rfl rfl (c_X13_isSite (by omega)) ?_
  refine mm_ifeqb dX13_stand_4 (fun h4 => ?_) (fun h4 => ?_)
  · refine mm_bipush dX13_stand_14 rfl (by decide) ?_
    refine mm_iret dX13_stand_16 rfl rfl ?_
    exact mm_fin (by rw [if_neg (by omega)]) rfl
  · refine mm_iload_n dX13_stand_7 rfl rfl ?_
    refine mm_S1i dX13_stand_8 rfl lk_X13_629 (by simp) rfl rfl rfl (c_X13_isSlot (by omega)) ?_
    refine mm_ifneb dX13_stand_11 (fun h11 => ?_) (fun h11 => ?_)
    · refine mm_aload_n dX13_stand_17 rfl rfl ?_
      refine mm_iload_n dX13_stand_18 rfl rfl ?_
      refine mm_V1i dX13_stand_19 rfl lk_X13_673 (c := 183) rfl (by decide) rfl (by simp) rfl rfl rfl (c_X13_isKept hR (by omega) (by have := (hl y.toNat (by omega)).1; omega)) ?_
      refine mm_ifneb dX13_stand_22 (fun h22 => ?_) (fun h22 => ?_)
      · refine mm_aload_n dX13_stand_28 rfl rfl ?_
        refine mm_get (kd := 0) dX13_stand_29 rfl fl_X13_397 (c := 183) rfl (by decide) rfl rfl ?_
        refine mm_bipush dX13_stand_32 rfl (by decide) ?_
        refine mm_icne dX13_stand_34 (by omega) (by omega) (fun h34 => ?_) (fun h34 => ?_)
        · exact absurd ⟨⟨h4, h11⟩, h22, by omega⟩ hno
        · refine mm_bipush dX13_stand_37 rfl (by decide) ?_
          refine mm_iret dX13_stand_39 rfl rfl ?_
          exact mm_fin (by rw [if_pos (by omega), if_pos h22]) rfl
      · refine mm_bipush dX13_stand_25 rfl (by decide) ?_
        refine mm_iret dX13_stand_27 rfl rfl ?_
        exact mm_fin (by rw [if_pos (by omega), if_neg h22]) rfl
    · refine mm_bipush dX13_stand_14 rfl (by decide) ?_
      refine mm_iret dX13_stand_16 rfl rfl ?_
      exact mm_fin (by rw [if_neg (by omega)]) rfl
end

