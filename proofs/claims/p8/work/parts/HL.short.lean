/-! ===== KitePower$LoopFinder: shortestFrom ===== -/
/-- the kept paths as numbers that can be -/
def kU_G (N : mm_M) (n : Nat) : Prop := ∀ u, u < n → ∃ c0 c1 : Nat, N 31 u = (c0 : Int) ∧ N 31 (u + 1) = (c1 : Int) ∧ c0 ≤ c1 ∧ c1 ≤ 4320 ∧ ∀ x, c0 ≤ x → x < c1 → ∃ v : Nat, v < n ∧ N 33 x = (v : Int)
/-- a kept path leads from u to v -/
def kU_t (N : mm_M) (n u v : Nat) : Prop := u < n ∧ ∃ x : Nat, N 31 u ≤ (x : Int) ∧ (x : Int) < N 31 (u + 1) ∧ N 33 x = (v : Int)
/-- and v is not below b -/
def kU_b (N : mm_M) (n b u v : Nat) : Prop := kU_t N n u v ∧ b ≤ v
theorem kU_G.lt {N : mm_M} {n : Nat} (h : kU_G N n) {u v : Nat} (q : kU_t N n u v) : v < n := by
  obtain ⟨hu, x, x1, x2, x3⟩ := q
  obtain ⟨c0, c1, g1, g2, g3, g4, g5⟩ := h u hu
  obtain ⟨w, w1, w2⟩ := g5 x (by omega) (by omega)
  omega
/-- the layers, of what is far -/
def kU_y (N : mm_M) (n b : Nat) (f : Nat → Int) : Prop := ∀ v, v < n → N 40 v = (if v = b then 0 else if f v = 1000000 then -1 else f v)
/-- only queued states have a layer -/
def kU_q (N : mm_M) (n : Nat) : Prop := ∃ e : Nat, N 28 15 = (e : Int) ∧ e ≤ n ∧ (∀ i, i < e → ∃ v : Nat, v < n ∧ N 41 i = (v : Int)) ∧ ∀ v, v < n → N 40 v = -1 ∨ ∃ i, i < e ∧ N 41 i = (v : Int)
def kU_f (M N : mm_M) : Prop := mm_Rf N ∧ (∀ a, a ≠ 28 → a ≠ 40 → a ≠ 41 → N a = M a) ∧ ∀ b, b ≠ 15 → N 28 b = M 28 b
theorem kU_f.t {M N : mm_M} (h : kU_f M N) {n u v : Nat} : kU_t N n u v ↔ kU_t M n u v := by
  unfold kU_t
  rw [h.2.1 31 (by decide) (by decide) (by decide), h.2.1 33 (by decide) (by decide) (by decide)]
theorem kU_f.G {M N : mm_M} (h : kU_f M N) {n : Nat} (g : kU_G M n) : kU_G N n := by
  unfold kU_G at g ⊢
  rw [h.2.1 31 (by decide) (by decide) (by decide), h.2.1 33 (by decide) (by decide) (by decide)]
  exact g
/-- how the search stands -/
def kU_I (M N : mm_M) (n b k e : Nat) (f : Nat → Int) : Prop := kU_f M N ∧ N 28 15 = (e : Int) ∧ kU_y N n b f ∧ kQ_I (kU_b M n b) n b k e f (N 41)
theorem kU_y.d {N : mm_M} {n b v : Nat} {f : Nat → Int} (h : kU_y N n b f) (hv : v < n) (hf : v = b ∨ f v ≠ 1000000) : N 40 v = kQ_d b f v := by
  rw [h v hv]
  unfold kQ_d
  by_cases c : v = b
  · rw [if_pos c, if_pos c]
  · rw [if_neg c, if_neg c]
    rcases hf with q | q
    · exact absurd q c
    · rw [if_neg q]
theorem kU_I.q {M N : mm_M} {n b k e : Nat} {f : Nat → Int} (hb : b < n) (h : kU_I M N n b k e f) : kU_q N n := by
  obtain ⟨h1, h2, h3, h4⟩ := h
  refine ⟨e, h2, h4.en, fun i hi => ⟨_, (h4.qn i hi).2, (h4.qn i hi).1⟩, fun v hv => ?_⟩
  rw [h3 v hv]
  by_cases c : v = b
  · right
    have := h4.e1
    refine ⟨0, by omega, ?_⟩
    have := (h4.qn 0 (by omega)).1
    rw [h4.q0] at this
    rw [this, c]
  · rw [if_neg c]
    rcases h4.fv v hv with q | ⟨d, d1, d2, d3, d4, d5, i, i1, i2⟩
    · rw [if_pos q]; exact Or.inl rfl
    · right
      refine ⟨i, i1, ?_⟩
      have := (h4.qn i i1).1
      rw [i2] at this
      exact this
/-- what shortestFrom answers -/
def kU_A (M N : mm_M) (n b : Nat) (m x : Int) : Prop := kU_f M N ∧ kU_q N n ∧ ((x = -1 ∧ ∀ l : Nat, 1 ≤ l → (l : Int) < m → ¬ kd_D (kU_b M n b) b l b) ∨ ∃ l k e : Nat, ∃ f, x = (l : Int) ∧ 1 ≤ l ∧ (l : Int) < m ∧ l ≤ n ∧ kd_D (kU_b M n b) b l b ∧ (∀ l' : Nat, 1 ≤ l' → l' < l → ¬ kd_D (kU_b M n b) b l' b) ∧ kU_I M N n b k e f ∧ k < e ∧ kQ_d b f (N 41 k).toNat + 1 = (l : Int))
section
variable {X : mm_X} {M : mm_M} {n : Nat}
theorem c_X6_shortestFrom {b : Nat} {m : Int} (hR : mm_Rf M) (hG : kU_G M n) (hn2 : n ≤ 288) (hq : kU_q M n) (hb : b < n) (hm : 1 ≤ m ∧ m ≤ 100000) :
    mm_C X Y_X6_shortestFrom 243 243 [(2, 29), (0, (b : Int)), (0, m)] M (fun r M' => ∃ x, r = (0, x) ∧ mm_Rf M' ∧ kU_A M M' n b m x) := by
  obtain ⟨Φ, hΦ⟩ : ∃ Φ : mm_V → mm_M → Prop, Φ = (fun r M' => ∃ x, r = (0, x) ∧ mm_Rf M' ∧ kU_A M M' n b m x) := ⟨_, rfl⟩
  rw [← hΦ]
  have hN : ∀ u v, kU_b M n b u v → v < n := fun u v h => hG.lt h.1
  -- the paths of a state
  have l3 : ∀ k u c0 c1 : Nat, ∀ d : Int, u < n → M 31 u = (c0 : Int) → M 31 (u + 1) = (c1 : Int) → c1 ≤ 4320 → 0 ≤ d → d + 1 < m → d ≤ (k : Int) →
      (∀ N (e : Nat) f, kU_I M N n b (k + 1) e f → mm_J X Y_X6_shortestFrom 243 243 243 209 [(2, 29), (0, (b : Int)), (0, m), (0, (k : Int)), (9, 0), (9, 0), (9, 0)] [] N Φ) →
      ∀ x : Nat, x ≤ c1 → ∀ N (e : Nat) f, c0 ≤ x → kU_I M N n b k e f → k < e → (N 41 k).toNat = u → kQ_d b f u = d →
      (∀ y : Nat, c0 ≤ y → y < x → ∀ v : Nat, M 33 y = (v : Int) → b ≤ v → v ≠ b ∧ f v ≤ d + 1 ∧ f v < 1000000) →
      mm_J X Y_X6_shortestFrom 243 243 243 98 [(2, 29), (0, (b : Int)), (0, m), (0, (k : Int)), (0, (u : Int)), (0, (x : Int)), (9, 0)] [] N Φ := by
    intro k u c0 c1 d hu hc0 hc1 hc4 hd0 hdm hdk out
    refine mm_lp ?_
    intro x hx ih N e f hcx hI hke hqu hqd hw
    obtain ⟨hf, he, hy, hQ⟩ := id hI
    have hRN := hf.1
    have hen := hQ.en
    have e31 : N 31 = M 31 := hf.2.1 31 (by decide) (by decide) (by decide)
    have e33 : N 33 = M 33 := hf.2.1 33 (by decide) (by decide) (by decide)
    have k1 : N 31 (u + 1) = (c1 : Int) := by rw [e31]; exact hc1
    have ul : N 40 u = d := by
      rw [← hqd]
      refine hy.d hu ?_
      by_cases cu : u = b
      · exact Or.inl cu
      · right
        have := hQ.fq k (by
          by_cases k0 : k = 0
          · rw [k0, hQ.q0] at hqu; omega
          · omega) hke
        rw [hqu] at this
        omega
    by_cases hlt : x < c1
    · obtain ⟨a0, a1, g1, g2, g3, g4, g5⟩ := hG u hu
      obtain ⟨v, hv, hve⟩ := g5 x (by omega) (by omega)
      have hvN : N 33 x = (v : Int) := by rw [e33]; exact hve
      have htv : kU_t M n u v := ⟨hu, x, by omega, by omega, hve⟩
      by_cases hvb : v = b
      · obtain ⟨d', d1, d2⟩ := hQ.close hke (by rw [hqu, ← hvb]; exact ⟨htv, Nat.le_refl v⟩)
        rw [hqu, hqd] at d1
        have hno := hQ.none hN d' (Or.inr ⟨hke, by rw [hqu, hqd, d1]; exact Int.le_refl _⟩)
        refine mm_iload dX6_shortestFrom_98 rfl rfl ?_
        refine mm_aload_n dX6_shortestFrom_100 rfl rfl ?_
        refine mm_getr dX6_shortestFrom_101 rfl fl_X6_20 (c := 28) rfl (by decide) rfl rfl (hRN.at (c := 28) (i := 4) (v := 32) rfl (by decide)) ?_
        refine mm_iload dX6_shortestFrom_104 rfl rfl ?_
        refine mm_iconst dX6_shortestFrom_106 rfl ?_
        refine mm_iadd dX6_shortestFrom_107 rfl ?_
        refine mm_ialk (k0 := u + 1) dX6_shortestFrom_108 rfl (c := 31) rfl (by decide) rfl (by omega) (by omega) ?_
        rw [k1]
        refine mm_icge dX6_shortestFrom_109 (by omega) (by omega) (fun h109 => ?_) (fun h109 => ?_)
        · exfalso; omega
        · refine mm_aload_n dX6_shortestFrom_112 rfl rfl ?_
          refine mm_getr dX6_shortestFrom_113 rfl fl_X6_26 (c := 28) rfl (by decide) rfl rfl (hRN.at (c := 28) (i := 6) (v := 34) rfl (by decide)) ?_
          refine mm_iload dX6_shortestFrom_116 rfl rfl ?_
          refine mm_ialk (k0 := x) dX6_shortestFrom_118 rfl (c := 33) rfl (by decide) rfl (by omega) (by omega) ?_
          rw [hvN]
          refine mm_istore dX6_shortestFrom_119 rfl (Nat.le_of_ble_eq_true rfl) rfl ?_
          refine mm_iload dX6_shortestFrom_121 rfl rfl ?_
          refine mm_iload_n dX6_shortestFrom_123 rfl rfl ?_
          refine mm_icne dX6_shortestFrom_124 (by omega) (by omega) (fun h124 => ?_) (fun h124 => ?_)
          · exfalso; omega
          · refine mm_aload_n dX6_shortestFrom_127 rfl rfl ?_
            refine mm_getr dX6_shortestFrom_128 rfl fl_X6_49 (c := 28) rfl (by decide) rfl rfl (hRN.at (c := 28) (i := 13) (v := 41) rfl (by decide)) ?_
            refine mm_iload dX6_shortestFrom_131 rfl rfl ?_
            refine mm_ialk (k0 := u) dX6_shortestFrom_133 rfl (c := 40) rfl (by decide) rfl (by omega) (by omega) ?_
            rw [ul]
            refine mm_iconst dX6_shortestFrom_134 rfl ?_
            refine mm_iadd dX6_shortestFrom_135 rfl ?_
            refine mm_iret dX6_shortestFrom_136 rfl rfl ?_
            rw [hΦ]; exact ⟨_, rfl, hRN, hf, hI.q hb, Or.inr ⟨d' + 1, k, e, f, by omega, by omega, by omega, by omega, d2, fun l' a z => by
            have := hno (l' - 1) (by omega)
            rw [show l' - 1 + 1 = l' by omega] at this
            exact this, hI, hke, by rw [hqu, hqd]; omega⟩⟩
      · by_cases hbv : b < v
        · have hfv := hQ.fv v hv
          have hkb : kU_b M n b u v := ⟨htv, by omega⟩
          by_cases hf0 : f v = 1000000
          · obtain ⟨no, hroom⟩ := hQ.room hv hvb hf0
            have lv : N 40 v = -1 := by rw [hy v hv, if_neg hvb, if_pos hf0]
            refine mm_iload dX6_shortestFrom_98 rfl rfl ?_
            refine mm_aload_n dX6_shortestFrom_100 rfl rfl ?_
            refine mm_getr dX6_shortestFrom_101 rfl fl_X6_20 (c := 28) rfl (by decide) rfl rfl (hRN.at (c := 28) (i := 4) (v := 32) rfl (by decide)) ?_
            refine mm_iload dX6_shortestFrom_104 rfl rfl ?_
            refine mm_iconst dX6_shortestFrom_106 rfl ?_
            refine mm_iadd dX6_shortestFrom_107 rfl ?_
            refine mm_ialk (k0 := u + 1) dX6_shortestFrom_108 rfl (c := 31) rfl (by decide) rfl (by omega) (by omega) ?_
            rw [k1]
            refine mm_icge dX6_shortestFrom_109 (by omega) (by omega) (fun h109 => ?_) (fun h109 => ?_)
            · exfalso; omega
            · refine mm_aload_n dX6_shortestFrom_112 rfl rfl ?_
              refine mm_getr dX6_shortestFrom_113 rfl fl_X6_26 (c := 28) rfl (by decide) rfl rfl (hRN.at (c := 28) (i := 6) (v := 34) rfl (by decide)) ?_
              refine mm_iload dX6_shortestFrom_116 rfl rfl ?_
              refine mm_ialk (k0 := x) dX6_shortestFrom_118 rfl (c := 33) rfl (by decide) rfl (by omega) (by omega) ?_
              rw [hvN]
              refine mm_istore dX6_shortestFrom_119 rfl (Nat.le_of_ble_eq_true rfl) rfl ?_
              refine mm_iload dX6_shortestFrom_121 rfl rfl ?_
              refine mm_iload_n dX6_shortestFrom_123 rfl rfl ?_
              refine mm_icne dX6_shortestFrom_124 (by omega) (by omega) (fun h124 => ?_) (fun h124 => ?_)
              · refine mm_iload dX6_shortestFrom_137 rfl rfl ?_
                refine mm_iload_n dX6_shortestFrom_139 rfl rfl ?_
                refine mm_icle dX6_shortestFrom_140 (by omega) (by omega) (fun h140 => ?_) (fun h140 => ?_)
                · exfalso; omega
                · refine mm_aload_n dX6_shortestFrom_143 rfl rfl ?_
                  refine mm_getr dX6_shortestFrom_144 rfl fl_X6_49 (c := 28) rfl (by decide) rfl rfl (hRN.at (c := 28) (i := 13) (v := 41) rfl (by decide)) ?_
                  refine mm_iload dX6_shortestFrom_147 rfl rfl ?_
                  refine mm_ialk (k0 := v) dX6_shortestFrom_149 rfl (c := 40) rfl (by decide) rfl (by omega) (by omega) ?_
                  rw [lv]
                  refine mm_iconst dX6_shortestFrom_150 rfl ?_
                  refine mm_icne dX6_shortestFrom_151 (by omega) (by omega) (fun h151 => ?_) (fun h151 => ?_)
                  · exfalso; omega
                  · refine mm_aload_n dX6_shortestFrom_154 rfl rfl ?_
                    refine mm_get (kd := 0) dX6_shortestFrom_155 rfl fl_X6_99 (c := 28) rfl (by decide) rfl rfl ?_
                    rw [he]
                    refine mm_aload_n dX6_shortestFrom_158 rfl rfl ?_
                    refine mm_getr dX6_shortestFrom_159 rfl fl_X6_52 (c := 28) rfl (by decide) rfl rfl (hRN.at (c := 28) (i := 14) (v := 42) rfl (by decide)) ?_
                    refine mm_aln dX6_shortestFrom_162 rfl (c := 41) rfl (by decide) rfl ?_
                    refine mm_icge dX6_shortestFrom_163 (by omega) (by omega) (fun h163 => ?_) (fun h163 => ?_)
                    · exfalso; omega
                    · refine mm_aload_n dX6_shortestFrom_166 rfl rfl ?_
                      refine mm_getr dX6_shortestFrom_167 rfl fl_X6_49 (c := 28) rfl (by decide) rfl rfl (hRN.at (c := 28) (i := 13) (v := 41) rfl (by decide)) ?_
                      refine mm_iload dX6_shortestFrom_170 rfl rfl ?_
                      refine mm_aload_n dX6_shortestFrom_172 rfl rfl ?_
                      refine mm_getr dX6_shortestFrom_173 rfl fl_X6_49 (c := 28) rfl (by decide) rfl rfl (hRN.at (c := 28) (i := 13) (v := 41) rfl (by decide)) ?_
                      refine mm_iload dX6_shortestFrom_176 rfl rfl ?_
                      refine mm_ialk (k0 := u) dX6_shortestFrom_178 rfl (c := 40) rfl (by decide) rfl (by omega) (by omega) ?_
                      rw [ul]
                      refine mm_iconst dX6_shortestFrom_179 rfl ?_
                      refine mm_iadd dX6_shortestFrom_180 rfl ?_
                      refine mm_istk (k0 := v) dX6_shortestFrom_181 rfl (c := 40) rfl (by decide) rfl (by omega) (by omega) (fun M181 hM181 => ?_)
                      have hR181 : mm_Rf M181 := by rw [hM181]; exact hRN.up (mm_rt_ar (t := 0) rfl (by decide))
                      refine mm_aload_n dX6_shortestFrom_182 rfl rfl ?_
                      refine mm_getr dX6_shortestFrom_183 rfl fl_X6_52 (c := 28) rfl (by decide) rfl rfl (hR181.at (c := 28) (i := 14) (v := 42) rfl (by decide)) ?_
                      refine mm_aload_n dX6_shortestFrom_186 rfl rfl ?_
                      refine mm_get (kd := 0) dX6_shortestFrom_187 rfl fl_X6_99 (c := 28) rfl (by decide) rfl rfl ?_
                      rw [show M181 28 15 = (e : Int) by rw [hM181, mm_up_row (by decide), he]]
                      refine mm_iload dX6_shortestFrom_190 rfl rfl ?_
                      refine mm_istk (k0 := e) dX6_shortestFrom_192 rfl (c := 41) rfl (by decide) rfl (by omega) (by omega) (fun M192 hM192 => ?_)
                      have hR192 : mm_Rf M192 := by rw [hM192]; exact hR181.up (mm_rt_ar (t := 0) rfl (by decide))
                      refine mm_aload_n dX6_shortestFrom_193 rfl rfl ?_
                      refine mm_dup dX6_shortestFrom_194 rfl (by simp) ?_
                      refine mm_get (kd := 0) dX6_shortestFrom_195 rfl fl_X6_99 (c := 28) rfl (by decide) rfl rfl ?_
                      rw [show M192 28 15 = (e : Int) by rw [hM192, mm_up_row (by decide), hM181, mm_up_row (by decide), he]]
                      refine mm_iconst dX6_shortestFrom_198 rfl ?_
                      refine mm_iadd dX6_shortestFrom_199 rfl ?_
                      refine mm_puti dX6_shortestFrom_200 rfl fl_X6_99 (c := 28) rfl (by decide) rfl rfl (fun M200 hM200 => ?_)
                      have hR200 : mm_Rf M200 := by rw [hM200]; exact hR192.up rfl
                      refine mm_iinc dX6_shortestFrom_203 rfl rfl (Nat.le_of_ble_eq_true rfl) rfl ?_
                      refine mm_goto dX6_shortestFrom_206 ?_
                      obtain ⟨f', hf'⟩ : ∃ f' : Nat → Int, f' = (fun w => if w = v then d + 1 else f w) := ⟨_, rfl⟩
                      have f1 : f' v = d + 1 := by rw [hf']; exact if_pos rfl
                      have f2 : ∀ w, w ≠ v → f' w = f w := fun w hw => by rw [hf']; exact if_neg hw
                      have r41 : M200 41 e = (v : Int) := by rw [hM200, mm_up_row (by decide), hM192, mm_up_s]
                      have r41' : ∀ w, w ≠ e → M200 41 w = N 41 w := fun w hw => by rw [hM200, mm_up_row (by decide), hM192, mm_up_i hw, hM181, mm_up_row (by decide)]
                      have r40 : M200 40 v = d + 1 := by rw [hM200, mm_up_row (by decide), hM192, mm_up_row (by decide), hM181, mm_up_s]
                      have r40' : ∀ w, w ≠ v → M200 40 w = N 40 w := fun w hw => by rw [hM200, mm_up_row (by decide), hM192, mm_up_row (by decide), hM181, mm_up_i hw]
                      obtain ⟨p1, p2⟩ := hQ.push hke hv hvb hf0 (by omega) (by rw [hqu]; exact hkb) (by rw [f1, hqu, hqd]) f2 r41 r41'
                      have go := ih hlt M200 (e + 1) f' (by omega) ⟨⟨hR200, fun a a1 a2 a3 => by rw [hM200, mm_up_row a1, hM192, mm_up_row a3, hM181, mm_up_row a2]; exact hf.2.1 a a1 a2 a3, fun b b1 => by rw [hM200, mm_up_i b1, hM192, mm_up_row (by decide), hM181, mm_up_row (by decide)]; exact hf.2.2 b b1⟩, by rw [hM200, mm_up_s]; omega, fun w hw => by
                        by_cases c : w = v
                        · rw [c, r40, if_neg hvb, f1, if_neg (by omega)]
                        · rw [r40' w c, f2 w c]
                          exact hy w hw, p1⟩ (by omega) (by rw [r41' k (by omega)]; exact hqu) (by rw [hqu, hqd, r41' k (by omega), hqu] at p2; exact p2) (fun y y1 y2 w hyw hbw => by
                        by_cases cj : y = x
                        · have wv : w = v := by rw [cj, hve] at hyw; omega
                          rw [wv, f1]
                          exact ⟨hvb, Int.le_refl _, by omega⟩
                        · obtain ⟨z1, z2, z3⟩ := hw y y1 (by omega) w hyw hbw
                          have wv : w ≠ v := fun z => by rw [z, hf0] at z3; omega
                          rw [f2 w wv]
                          exact ⟨z1, z2, z3⟩)
                      rw [show ((x + 1 : Nat) : Int) = (x : Int) + 1 by omega] at go
                      exact mm_drop (by repeat (first | exact trivial | refine And.intro (Or.inl rfl) ?_ | refine And.intro (Or.inr rfl) ?_)) go
              · exfalso; omega
          · obtain ⟨dv, v1, v2, v3, v4, -, z, z1, z2⟩ : ∃ dv : Nat, f v = (dv : Int) ∧ 1 ≤ dv ∧ dv ≤ n ∧ v ≠ b ∧ kd_R (kU_b M n b) b dv v ∧ ∃ z, z < e ∧ (N 41 z).toNat = v := by
              rcases hfv with q | q
              · exact absurd q hf0
              · exact q
            have vle : f v ≤ d + 1 := by
              have := hQ.up hke z z1
              rw [z2, hqu, hqd] at this
              have e : kQ_d b f v = f v := by unfold kQ_d; rw [if_neg hvb]
              omega
            have lv : N 40 v = (dv : Int) := by rw [hy v hv, if_neg hvb, if_neg hf0, v1]
            have go := ih hlt N e f (by omega) hI hke hqu hqd (fun y y1 y2 w hyw hbw => by
              by_cases cj : y = x
              · have wv : w = v := by rw [cj, hve] at hyw; omega
                rw [wv]
                exact ⟨hvb, vle, by omega⟩
              · exact hw y y1 (by omega) w hyw hbw)
            rw [show ((x + 1 : Nat) : Int) = (x : Int) + 1 by omega] at go
            refine mm_iload dX6_shortestFrom_98 rfl rfl ?_
            refine mm_aload_n dX6_shortestFrom_100 rfl rfl ?_
            refine mm_getr dX6_shortestFrom_101 rfl fl_X6_20 (c := 28) rfl (by decide) rfl rfl (hRN.at (c := 28) (i := 4) (v := 32) rfl (by decide)) ?_
            refine mm_iload dX6_shortestFrom_104 rfl rfl ?_
            refine mm_iconst dX6_shortestFrom_106 rfl ?_
            refine mm_iadd dX6_shortestFrom_107 rfl ?_
            refine mm_ialk (k0 := u + 1) dX6_shortestFrom_108 rfl (c := 31) rfl (by decide) rfl (by omega) (by omega) ?_
            rw [k1]
            refine mm_icge dX6_shortestFrom_109 (by omega) (by omega) (fun h109 => ?_) (fun h109 => ?_)
            · exfalso; omega
            · refine mm_aload_n dX6_shortestFrom_112 rfl rfl ?_
              refine mm_getr dX6_shortestFrom_113 rfl fl_X6_26 (c := 28) rfl (by decide) rfl rfl (hRN.at (c := 28) (i := 6) (v := 34) rfl (by decide)) ?_
              refine mm_iload dX6_shortestFrom_116 rfl rfl ?_
              refine mm_ialk (k0 := x) dX6_shortestFrom_118 rfl (c := 33) rfl (by decide) rfl (by omega) (by omega) ?_
              rw [hvN]
              refine mm_istore dX6_shortestFrom_119 rfl (Nat.le_of_ble_eq_true rfl) rfl ?_
              refine mm_iload dX6_shortestFrom_121 rfl rfl ?_
              refine mm_iload_n dX6_shortestFrom_123 rfl rfl ?_
              refine mm_icne dX6_shortestFrom_124 (by omega) (by omega) (fun h124 => ?_) (fun h124 => ?_)
              · refine mm_iload dX6_shortestFrom_137 rfl rfl ?_
                refine mm_iload_n dX6_shortestFrom_139 rfl rfl ?_
                refine mm_icle dX6_shortestFrom_140 (by omega) (by omega) (fun h140 => ?_) (fun h140 => ?_)
                · exfalso; omega
                · refine mm_aload_n dX6_shortestFrom_143 rfl rfl ?_
                  refine mm_getr dX6_shortestFrom_144 rfl fl_X6_49 (c := 28) rfl (by decide) rfl rfl (hRN.at (c := 28) (i := 13) (v := 41) rfl (by decide)) ?_
                  refine mm_iload dX6_shortestFrom_147 rfl rfl ?_
                  refine mm_ialk (k0 := v) dX6_shortestFrom_149 rfl (c := 40) rfl (by decide) rfl (by omega) (by omega) ?_
                  rw [lv]
                  refine mm_iconst dX6_shortestFrom_150 rfl ?_
                  refine mm_icne dX6_shortestFrom_151 (by omega) (by omega) (fun h151 => ?_) (fun h151 => ?_)
                  · refine mm_iinc dX6_shortestFrom_203 rfl rfl (Nat.le_of_ble_eq_true rfl) rfl ?_
                    refine mm_goto dX6_shortestFrom_206 ?_
                    exact mm_drop (by repeat (first | exact trivial | refine And.intro (Or.inl rfl) ?_ | refine And.intro (Or.inr rfl) ?_)) go
                  · exfalso; omega
              · exfalso; omega
        · have go := ih hlt N e f (by omega) hI hke hqu hqd (fun y y1 y2 w hyw hbw => by
            by_cases cj : y = x
            · have wv : w = v := by rw [cj, hve] at hyw; omega
              omega
            · exact hw y y1 (by omega) w hyw hbw)
          rw [show ((x + 1 : Nat) : Int) = (x : Int) + 1 by omega] at go
          refine mm_iload dX6_shortestFrom_98 rfl rfl ?_
          refine mm_aload_n dX6_shortestFrom_100 rfl rfl ?_
          refine mm_getr dX6_shortestFrom_101 rfl fl_X6_20 (c := 28) rfl (by decide) rfl rfl (hRN.at (c := 28) (i := 4) (v := 32) rfl (by decide)) ?_
          refine mm_iload dX6_shortestFrom_104 rfl rfl ?_
          refine mm_iconst dX6_shortestFrom_106 rfl ?_
          refine mm_iadd dX6_shortestFrom_107 rfl ?_
          refine mm_ialk (k0 := u + 1) dX6_shortestFrom_108 rfl (c := 31) rfl (by decide) rfl (by omega) (by omega) ?_
          rw [k1]
          refine mm_icge dX6_shortestFrom_109 (by omega) (by omega) (fun h109 => ?_) (fun h109 => ?_)
          · exfalso; omega
          · refine mm_aload_n dX6_shortestFrom_112 rfl rfl ?_
            refine mm_getr dX6_shortestFrom_113 rfl fl_X6_26 (c := 28) rfl (by decide) rfl rfl (hRN.at (c := 28) (i := 6) (v := 34) rfl (by decide)) ?_
            refine mm_iload dX6_shortestFrom_116 rfl rfl ?_
            refine mm_ialk (k0 := x) dX6_shortestFrom_118 rfl (c := 33) rfl (by decide) rfl (by omega) (by omega) ?_
            rw [hvN]
            refine mm_istore dX6_shortestFrom_119 rfl (Nat.le_of_ble_eq_true rfl) rfl ?_
            refine mm_iload dX6_shortestFrom_121 rfl rfl ?_
            refine mm_iload_n dX6_shortestFrom_123 rfl rfl ?_
            refine mm_icne dX6_shortestFrom_124 (by omega) (by omega) (fun h124 => ?_) (fun h124 => ?_)
            · refine mm_iload dX6_shortestFrom_137 rfl rfl ?_
              refine mm_iload_n dX6_shortestFrom_139 rfl rfl ?_
              refine mm_icle dX6_shortestFrom_140 (by omega) (by omega) (fun h140 => ?_) (fun h140 => ?_)
              · refine mm_iinc dX6_shortestFrom_203 rfl rfl (Nat.le_of_ble_eq_true rfl) rfl ?_
                refine mm_goto dX6_shortestFrom_206 ?_
                exact mm_drop (by repeat (first | exact trivial | refine And.intro (Or.inl rfl) ?_ | refine And.intro (Or.inr rfl) ?_)) go
              · exfalso; omega
            · exfalso; omega
    · have ex : x = c1 := by omega
      subst ex
      have go := out N e f ⟨hf, he, hy, hQ.next hke (fun v hv => by
        rw [hqu] at hv ⊢
        rw [hqd]
        obtain ⟨⟨-, y, y1, y2, y3⟩, hbv⟩ := hv
        exact hw y (by omega) (by omega) v y3 hbv)⟩
      refine mm_iload dX6_shortestFrom_98 rfl rfl ?_
      refine mm_aload_n dX6_shortestFrom_100 rfl rfl ?_
      refine mm_getr dX6_shortestFrom_101 rfl fl_X6_20 (c := 28) rfl (by decide) rfl rfl (hRN.at (c := 28) (i := 4) (v := 32) rfl (by decide)) ?_
      refine mm_iload dX6_shortestFrom_104 rfl rfl ?_
      refine mm_iconst dX6_shortestFrom_106 rfl ?_
      refine mm_iadd dX6_shortestFrom_107 rfl ?_
      refine mm_ialk (k0 := u + 1) dX6_shortestFrom_108 rfl (c := 31) rfl (by decide) rfl (by omega) (by omega) ?_
      rw [k1]
      refine mm_icge dX6_shortestFrom_109 (by omega) (by omega) (fun h109 => ?_) (fun h109 => ?_)
      · exact mm_drop (by repeat (first | exact trivial | refine And.intro (Or.inl rfl) ?_ | refine And.intro (Or.inr rfl) ?_)) go
      · exfalso; omega
  -- the states of the queue
  have l2 : ∀ k : Nat, k ≤ n → ∀ N (e : Nat) f, kU_I M N n b k e f → mm_J X Y_X6_shortestFrom 243 243 243 49 [(2, 29), (0, (b : Int)), (0, m), (0, (k : Int)), (9, 0), (9, 0), (9, 0)] [] N Φ := by
    refine mm_lp ?_
    intro k hk ih N e f hI
    obtain ⟨hf, he, hy, hQ⟩ := id hI
    have hRN := hf.1
    have hen := hQ.en
    have hke := hQ.ke
    by_cases hlt : k < e
    · obtain ⟨u, hu⟩ : ∃ u, u = (N 41 k).toNat := ⟨_, rfl⟩
      have hqn := hQ.qn k hlt
      rw [← hu] at hqn
      obtain ⟨hqu, hun⟩ := hqn
      obtain ⟨d, hd⟩ : ∃ d, d = kQ_d b f u := ⟨_, rfl⟩
      have hd0 := hQ.dge hlt
      have hdk := hQ.di k hlt
      rw [← hu, ← hd] at hd0 hdk
      obtain ⟨c0, c1, g1, g2, g3, g4, -⟩ := hG u hun
      have ul : N 40 u = d := by
        rw [hd]
        refine hy.d hun ?_
        by_cases cu : u = b
        · exact Or.inl cu
        · right
          have := hQ.fq k (by
            by_cases k0 : k = 0
            · rw [k0, hQ.q0] at hu; omega
            · omega) hlt
          rw [← hu] at this
          omega
      have k0' : N 31 u = (c0 : Int) := by rw [hf.2.1 31 (by decide) (by decide) (by decide)]; exact g1
      have hno : m ≤ d + 1 → ∀ l : Nat, 1 ≤ l → (l : Int) < m → ¬ kd_D (kU_b M n b) b l b := by
        intro z l l1 l2
        have := hQ.none hN d.toNat (Or.inr ⟨hlt, by rw [← hu, ← hd]; omega⟩) (l - 1) (by omega)
        rw [show l - 1 + 1 = l by omega] at this
        exact this
      have b209 : ∀ P (e : Nat) f, kU_I M P n b (k + 1) e f → mm_J X Y_X6_shortestFrom 243 243 243 209 [(2, 29), (0, (b : Int)), (0, m), (0, (k : Int)), (9, 0), (9, 0), (9, 0)] [] P Φ := by
        intro P e f hP
        have hRP := hP.1.1
        have go := ih (by omega) P e f hP
        rw [show ((k + 1 : Nat) : Int) = (k : Int) + 1 by omega] at go
        refine mm_iinc dX6_shortestFrom_209 rfl rfl (Nat.le_of_ble_eq_true rfl) rfl ?_
        refine mm_goto dX6_shortestFrom_212 ?_
        exact go
      have go : d + 1 < m → mm_J X Y_X6_shortestFrom 243 243 243 98 [(2, 29), (0, (b : Int)), (0, m), (0, (k : Int)), (0, (u : Int)), (0, (c0 : Int)), (9, 0)] [] N Φ := fun z => l3 k u c0 c1 d hun g1 g2 g4 hd0 z hdk b209 c0 g3 N e f (Nat.le_refl _) hI hlt hu.symm hd.symm (fun y y1 y2 => absurd y2 (by omega))
      refine mm_iload_n dX6_shortestFrom_49 rfl rfl ?_
      refine mm_aload_n dX6_shortestFrom_50 rfl rfl ?_
      refine mm_get (kd := 0) dX6_shortestFrom_51 rfl fl_X6_99 (c := 28) rfl (by decide) rfl rfl ?_
      rw [he]
      refine mm_icge dX6_shortestFrom_54 (by omega) (by omega) (fun h54 => ?_) (fun h54 => ?_)
      · exfalso; omega
      · refine mm_iload_n dX6_shortestFrom_57 rfl rfl ?_
        refine mm_aload_n dX6_shortestFrom_58 rfl rfl ?_
        refine mm_getr dX6_shortestFrom_59 rfl fl_X6_52 (c := 28) rfl (by decide) rfl rfl (hRN.at (c := 28) (i := 14) (v := 42) rfl (by decide)) ?_
        refine mm_aln dX6_shortestFrom_62 rfl (c := 41) rfl (by decide) rfl ?_
        refine mm_icge dX6_shortestFrom_63 (by omega) (by omega) (fun h63 => ?_) (fun h63 => ?_)
        · exfalso; omega
        · refine mm_aload_n dX6_shortestFrom_66 rfl rfl ?_
          refine mm_getr dX6_shortestFrom_67 rfl fl_X6_52 (c := 28) rfl (by decide) rfl rfl (hRN.at (c := 28) (i := 14) (v := 42) rfl (by decide)) ?_
          refine mm_iload_n dX6_shortestFrom_70 rfl rfl ?_
          refine mm_ialk (k0 := k) dX6_shortestFrom_71 rfl (c := 41) rfl (by decide) rfl (by omega) (by omega) ?_
          rw [hqu]
          refine mm_istore dX6_shortestFrom_72 rfl (Nat.le_of_ble_eq_true rfl) rfl ?_
          refine mm_aload_n dX6_shortestFrom_74 rfl rfl ?_
          refine mm_getr dX6_shortestFrom_75 rfl fl_X6_49 (c := 28) rfl (by decide) rfl rfl (hRN.at (c := 28) (i := 13) (v := 41) rfl (by decide)) ?_
          refine mm_iload dX6_shortestFrom_78 rfl rfl ?_
          refine mm_ialk (k0 := u) dX6_shortestFrom_80 rfl (c := 40) rfl (by decide) rfl (by omega) (by omega) ?_
          rw [ul]
          refine mm_iconst dX6_shortestFrom_81 rfl ?_
          refine mm_iadd dX6_shortestFrom_82 rfl ?_
          refine mm_iload_n dX6_shortestFrom_83 rfl rfl ?_
          refine mm_iclt dX6_shortestFrom_84 (by omega) (by omega) (fun h84 => ?_) (fun h84 => ?_)
          · refine mm_aload_n dX6_shortestFrom_89 rfl rfl ?_
            refine mm_getr dX6_shortestFrom_90 rfl fl_X6_20 (c := 28) rfl (by decide) rfl rfl (hRN.at (c := 28) (i := 4) (v := 32) rfl (by decide)) ?_
            refine mm_iload dX6_shortestFrom_93 rfl rfl ?_
            refine mm_ialk (k0 := u) dX6_shortestFrom_95 rfl (c := 31) rfl (by decide) rfl (by omega) (by omega) ?_
            rw [k0']
            refine mm_istore dX6_shortestFrom_96 rfl (Nat.le_of_ble_eq_true rfl) rfl ?_
            exact go (by omega)
          · refine mm_iconst dX6_shortestFrom_87 rfl ?_
            refine mm_iret dX6_shortestFrom_88 rfl rfl ?_
            rw [hΦ]; exact ⟨_, rfl, hRN, hf, hI.q hb, Or.inl ⟨rfl, hno (by omega)⟩⟩
    · have ek : k = e := by omega
      have hno : ∀ l : Nat, 1 ≤ l → (l : Int) < m → ¬ kd_D (kU_b M n b) b l b := by
        intro l l1 l2
        have := hQ.none hN l (Or.inl ek) (l - 1) (by omega)
        rw [show l - 1 + 1 = l by omega] at this
        exact this
      refine mm_iload_n dX6_shortestFrom_49 rfl rfl ?_
      refine mm_aload_n dX6_shortestFrom_50 rfl rfl ?_
      refine mm_get (kd := 0) dX6_shortestFrom_51 rfl fl_X6_99 (c := 28) rfl (by decide) rfl rfl ?_
      rw [he]
      refine mm_icge dX6_shortestFrom_54 (by omega) (by omega) (fun h54 => ?_) (fun h54 => ?_)
      · refine mm_iconst dX6_shortestFrom_215 rfl ?_
        refine mm_iret dX6_shortestFrom_216 rfl rfl ?_
        rw [hΦ]; exact ⟨_, rfl, hRN, hf, hI.q hb, Or.inl ⟨rfl, hno⟩⟩
      · exfalso; omega
  -- what was told is forgotten
  obtain ⟨e0, q1, q2, q3, q4⟩ := hq
  have l1 : ∀ i : Nat, i ≤ e0 → ∀ N, kU_f M N → N 28 15 = (e0 : Int) → N 41 = M 41 → (∀ v, v < n → N 40 v = -1 ∨ ∃ j, i ≤ j ∧ j < e0 ∧ M 41 j = (v : Int)) → mm_J X Y_X6_shortestFrom 243 243 243 2 [(2, 29), (0, (b : Int)), (0, m), (0, (i : Int)), (9, 0), (9, 0), (9, 0)] [] N Φ := by
    refine mm_lp ?_
    intro i hi ih N hf he h41 hz
    have hRN := hf.1
    by_cases hlt : i < e0
    · obtain ⟨v, v1, v2⟩ := q3 i hlt
      have k41 : N 41 i = (v : Int) := by rw [h41]; exact v2
      refine mm_iload_n dX6_shortestFrom_2 rfl rfl ?_
      refine mm_aload_n dX6_shortestFrom_3 rfl rfl ?_
      refine mm_get (kd := 0) dX6_shortestFrom_4 rfl fl_X6_99 (c := 28) rfl (by decide) rfl rfl ?_
      rw [he]
      refine mm_icge dX6_shortestFrom_7 (by omega) (by omega) (fun h7 => ?_) (fun h7 => ?_)
      · exfalso; omega
      · refine mm_aload_n dX6_shortestFrom_10 rfl rfl ?_
        refine mm_getr dX6_shortestFrom_11 rfl fl_X6_49 (c := 28) rfl (by decide) rfl rfl (hRN.at (c := 28) (i := 13) (v := 41) rfl (by decide)) ?_
        refine mm_aload_n dX6_shortestFrom_14 rfl rfl ?_
        refine mm_getr dX6_shortestFrom_15 rfl fl_X6_52 (c := 28) rfl (by decide) rfl rfl (hRN.at (c := 28) (i := 14) (v := 42) rfl (by decide)) ?_
        refine mm_iload_n dX6_shortestFrom_18 rfl rfl ?_
        refine mm_ialk (k0 := i) dX6_shortestFrom_19 rfl (c := 41) rfl (by decide) rfl (by omega) (by omega) ?_
        rw [k41]
        refine mm_iconst dX6_shortestFrom_20 rfl ?_
        refine mm_istk (k0 := v) dX6_shortestFrom_21 rfl (c := 40) rfl (by decide) rfl (by omega) (by omega) (fun M21 hM21 => ?_)
        have hR21 : mm_Rf M21 := by rw [hM21]; exact hRN.up (mm_rt_ar (t := 0) rfl (by decide))
        refine mm_iinc dX6_shortestFrom_22 rfl rfl (Nat.le_of_ble_eq_true rfl) rfl ?_
        refine mm_goto dX6_shortestFrom_25 ?_
        have go := ih hlt M21 ⟨hR21, fun a a1 a2 a3 => by rw [hM21, mm_up_row a2]; exact hf.2.1 a a1 a2 a3, fun b b1 => by rw [hM21, mm_up_row (by decide)]; exact hf.2.2 b b1⟩ (by rw [hM21, mm_up_row (by decide)]; exact he) (by rw [hM21, mm_up_row (by decide)]; exact h41) (fun w hw => by
          by_cases c : w = v
          · rw [c, hM21, mm_up_s]; exact Or.inl rfl
          · rw [hM21, mm_up_i c]
            rcases hz w hw with y | ⟨j, j1, j2, j3⟩
            · exact Or.inl y
            · right
              refine ⟨j, ?_, j2, j3⟩
              by_cases cj : j = i
              · rw [cj, v2] at j3; omega
              · omega)
        rw [show ((i + 1 : Nat) : Int) = (i : Int) + 1 by omega] at go
        exact go
    · have ei : i = e0 := by omega
      subst ei
      have all : ∀ v, v < n → N 40 v = -1 := fun v hv => by
        rcases hz v hv with y | ⟨j, j1, j2, -⟩
        · exact y
        · omega
      refine mm_iload_n dX6_shortestFrom_2 rfl rfl ?_
      refine mm_aload_n dX6_shortestFrom_3 rfl rfl ?_
      refine mm_get (kd := 0) dX6_shortestFrom_4 rfl fl_X6_99 (c := 28) rfl (by decide) rfl rfl ?_
      rw [he]
      refine mm_icge dX6_shortestFrom_7 (by omega) (by omega) (fun h7 => ?_) (fun h7 => ?_)
      · refine mm_aload_n dX6_shortestFrom_28 rfl rfl ?_
        refine mm_getr dX6_shortestFrom_29 rfl fl_X6_49 (c := 28) rfl (by decide) rfl rfl (hRN.at (c := 28) (i := 13) (v := 41) rfl (by decide)) ?_
        refine mm_iload_n dX6_shortestFrom_32 rfl rfl ?_
        refine mm_iconst dX6_shortestFrom_33 rfl ?_
        refine mm_istk (k0 := b) dX6_shortestFrom_34 rfl (c := 40) rfl (by decide) rfl (by omega) (by omega) (fun M34 hM34 => ?_)
        have hR34 : mm_Rf M34 := by rw [hM34]; exact hRN.up (mm_rt_ar (t := 0) rfl (by decide))
        refine mm_aload_n dX6_shortestFrom_35 rfl rfl ?_
        refine mm_getr dX6_shortestFrom_36 rfl fl_X6_52 (c := 28) rfl (by decide) rfl rfl (hR34.at (c := 28) (i := 14) (v := 42) rfl (by decide)) ?_
        refine mm_iconst dX6_shortestFrom_39 rfl ?_
        refine mm_iload_n dX6_shortestFrom_40 rfl rfl ?_
        refine mm_istk (k0 := 0) dX6_shortestFrom_41 rfl (c := 41) rfl (by decide) rfl rfl (by decide) (fun M41 hM41 => ?_)
        have hR41 : mm_Rf M41 := by rw [hM41]; exact hR34.up (mm_rt_ar (t := 0) rfl (by decide))
        refine mm_aload_n dX6_shortestFrom_42 rfl rfl ?_
        refine mm_iconst dX6_shortestFrom_43 rfl ?_
        refine mm_puti dX6_shortestFrom_44 rfl fl_X6_99 (c := 28) rfl (by decide) rfl rfl (fun M44 hM44 => ?_)
        have hR44 : mm_Rf M44 := by rw [hM44]; exact hR41.up rfl
        refine mm_iconst dX6_shortestFrom_47 rfl ?_
        refine mm_istore_n dX6_shortestFrom_48 rfl (Nat.le_of_ble_eq_true rfl) rfl ?_
        refine l2 0 (Nat.zero_le _) M44 1 (fun _ => 1000000) ⟨⟨hR44, fun a a1 a2 a3 => by rw [hM44, mm_up_row a1, hM41, mm_up_row a3, hM34, mm_up_row a2]; exact hf.2.1 a a1 a2 a3, fun b b1 => by rw [hM44, mm_up_i b1, hM41, mm_up_row (by decide), hM34, mm_up_row (by decide)]; exact hf.2.2 b b1⟩, by rw [hM44, mm_up_s]; rfl, fun v hv => ?_, kQ_I.zero hb (fun _ _ => rfl) (by rw [hM44, mm_up_row (by decide), hM41, mm_up_s])⟩
        rw [hM44, mm_up_row (by decide), hM41, mm_up_row (by decide), hM34]
        by_cases c : v = b
        · rw [c, mm_up_s, if_pos rfl]
        · rw [mm_up_i c, if_neg c, if_pos rfl]
          exact all v hv
      · exfalso; omega
  refine mm_start (ls := [(2, 29), (0, (b : Int)), (0, m), (9, 0), (9, 0), (9, 0), (9, 0)]) rfl ?_
  refine mm_iconst dX6_shortestFrom_0 rfl ?_
  refine mm_istore_n dX6_shortestFrom_1 rfl (Nat.le_of_ble_eq_true rfl) rfl ?_
  exact l1 0 (Nat.zero_le _) M ⟨hR, fun _ _ _ _ => rfl, fun _ _ => rfl⟩ q1 rfl (fun v hv => by
  rcases q4 v hv with y | ⟨i, i1, i2⟩
  · exact Or.inl y
  · exact Or.inr ⟨i, Nat.zero_le _, i1, i2⟩)
end

