/-! ===== KitePower$LoopFinder: find ===== -/
section
variable {M0 P : mm_M} {n b k e : Nat} {f : Nat → Int}
/-- on a shortest round each state has the layer of its place -/
theorem kU_I.lay {L i v : Nat} (hI : kU_I M0 P n b k e f) (hN : ∀ u v, kU_b M0 n b u v → v < n) (hk : k < e) (hl : kQ_d b f (P 41 k).toNat + 1 = (L : Int)) (hno : ∀ l' : Nat, 1 ≤ l' → l' < L → ¬ kd_D (kU_b M0 n b) b l' b) (h1 : 1 ≤ i) (hi : i < L) (hr : kd_R (kU_b M0 n b) b i v) (hd : kd_D (kU_b M0 n b) b (L - i) v) : P 40 v = (i : Int) := by
  obtain ⟨hf, he, hy, hQ⟩ := hI
  have hv : v < n := by
    obtain ⟨i', rfl⟩ : ∃ i', i = i' + 1 := ⟨i - 1, by omega⟩
    obtain ⟨u, -, q⟩ := hr
    exact hN _ _ q
  have vb : v ≠ b := fun q => by
    rw [q] at hr
    have := kd_RD (g := b) i 0 b hr rfl
    exact hno i h1 hi this
  have key : f v ≤ (i : Int) ∧ f v < 1000000 := by
    obtain ⟨i', rfl⟩ : ∃ i', i = i' + 1 := ⟨i - 1, by omega⟩
    obtain ⟨u, u1, u2⟩ := hr
    obtain ⟨x, x1, x2, x3⟩ := hQ.done hN (L - 1) (Or.inr ⟨hk, by omega⟩) i' (by omega) u u1
    obtain ⟨g1, g2, g3⟩ := hQ.go x x1 v (by rw [x2]; exact u2)
    rw [x2] at g2
    exact ⟨by omega, g3⟩
  rw [hy v hv, if_neg vb, if_neg (by omega)]
  rcases hQ.fv v hv with q | ⟨d, d1, d2, d3, d4, d5, -⟩
  · omega
  · by_cases c : d = i
    · rw [d1, c]
    · exfalso
      exact hno (d + (L - i)) (by omega) (by omega) (kd_RD d (L - i) v d5 hd)
theorem kU_I.g {L : Nat} (hI : kU_I M0 P n b k e f) (hb : b < n) (hN : ∀ u v, kU_b M0 n b u v → v < n) (hk : k < e) (hl : kQ_d b f (P 41 k).toNat + 1 = (L : Int)) (hno : ∀ l' : Nat, 1 ≤ l' → l' < L → ¬ kd_D (kU_b M0 n b) b l' b) : ∀ r : Nat, r ≤ L → ∀ v, kd_R (kU_b M0 n b) b (L - r) v → kd_D (kU_b M0 n b) b r v → kU_g (kU_t P n) (P 40) b (L : Int) r v := by
  intro r
  induction r with
  | zero => intro _ v _ h; exact h
  | succ r ih =>
    intro hr v h1 h2
    have hlay : P 40 v = (L : Int) - ((r + 1 : Nat) : Int) := by
      by_cases c : L = r + 1
      · rw [c, Nat.sub_self] at h1
        have h1 : v = b := h1
        rw [h1, hI.2.2.1 b hb, if_pos rfl]
        omega
      · rw [hI.lay hN hk hl hno (i := L - (r + 1)) (by omega) (by omega) h1 (by rw [show L - (L - (r + 1)) = r + 1 by omega]; exact h2)]
        omega
    obtain ⟨u, u1, u2⟩ := h2
    refine ⟨hlay, u, hI.1.t.mpr u1.1, ih (by omega) u ?_ u2⟩
    rw [show L - r = L - (r + 1) + 1 by omega]
    exact ⟨v, h1, u1⟩
end
theorem kx_P.cg {K Lo Hi : Nat → Int} {M N : mm_M} {h : Int} {n : Nat} (e : ∀ a, 31 ≤ a → a ≤ 35 → N a = M a) (hP : kx_P K Lo Hi M h n) : kx_P K Lo Hi N h n := by
  unfold kx_P kx_D kx_Z at hP ⊢
  rw [e 31 (by decide) (by decide), e 32 (by decide) (by decide), e 33 (by decide) (by decide), e 34 (by decide) (by decide), e 35 (by decide) (by decide)]
  exact hP
/-- from a mean to that of a round of paths that gives more -/
def kv_st (Q : mm_M) (n : Nat) (S C S' C' : Int) : Prop := ∃ q r m, kv_B Q n q r m ∧ S' = ka_sum (fun j => Q 34 (r j)) m ∧ C' = (m : Int) ∧ S * m < C * ka_sum (fun j => Q 34 (r j)) m
/-- means, one after the other -/
def kv_ch (Q : mm_M) (n : Nat) : Nat → Int → Int → Prop
  | 0, S, C => S = -1000000 ∧ C = 1
  | i + 1, S', C' => ∃ S C, kv_ch Q n i S C ∧ kv_st Q n S C S' C'
theorem kv_B.sum {Q : mm_M} {n : Nat} (hG : kv_G Q n) (hn2 : n ≤ 288) {q r : Nat → Nat} {m : Nat} (hB : kv_B Q n q r m) : -1670400000 ≤ ka_sum (fun j => Q 34 (r j)) m ∧ ka_sum (fun j => Q 34 (r j)) m ≤ 1670400000 := by
  have := ka_sumb (f := fun j => Q 34 (r j)) (B := 5800000) (n := m) (fun j hj => hG.w (hB.2.2.2 j hj))
  have := hB.2.1
  omega
theorem kv_ch.b {Q : mm_M} {n : Nat} (hG : kv_G Q n) (hn2 : n ≤ 288) : ∀ {i : Nat} {S C : Int}, kv_ch Q n i S C → (-2000000000 ≤ S ∧ S ≤ 2000000000) ∧ 1 ≤ C ∧ C ≤ 288
  | 0, S, C, ⟨h1, h2⟩ => by omega
  | _ + 1, S, C, ⟨S0, C0, _, q, r, m, h1, h2, h3, _⟩ => by
    have := h1.sum hG hn2
    have := h1.1
    have := h1.2.1
    omega
/-- there are so many rounds that the search is cut -/
def kX_cut (K Lo Hi : Nat → Int) (h : Int) (n : Nat) : Prop := ∃ Q S C, kx_P K Lo Hi Q h n ∧ kv_ch Q n 1000000 S C
/-- what find changes -/
def kz_F (M N : mm_M) (rc : Nat) : Prop := mm_Rf N ∧ (∀ a, ¬ (28 ≤ a ∧ a ≤ 41) → a ≠ rc → a ≠ rc + 1 → a ≠ rc + 2 → N a = M a) ∧ ∀ b, b ≠ 15 → b ≠ 16 → b ≠ 17 → N 28 b = M 28 b
section
variable {X : mm_X} {M : mm_M} {h : Int} {n : Nat}
theorem c_X6_find {rc : Nat} (hR : mm_Rf M) (hK : mm_CK M) (hA : mm_CA M) (hh : ks_hr h) (hn : ks_n (M 4) = (n : Int)) (hrw : mm_rw rc 288) (hrc : 42 ≤ rc) :
    mm_C X Y_X6_find 243 243 [(2, 29), (0, h), (2, (rc : Int) + 1)] M (fun r M' => r = (3, 0) ∧ mm_Rf M' ∧ kz_F M M' rc ∧ (0 ≤ M' rc 2 ∧ M' rc 2 ≤ 288) ∧ (-1000000 * M' rc 2 ≤ M' rc 3 ∧ M' rc 3 ≤ 1425600 * M' rc 2 ∨ M' rc 2 = 0) ∧ (kb_is (M 4) (M 16) (M 17) h (M' rc 2) (M' rc 3) (M' (rc + 1)) (M' (rc + 2)) ∨ kX_cut (M 4) (M 16) (M 17) h n)) := by
  obtain ⟨Φ, hΦ⟩ : ∃ Φ : mm_V → mm_M → Prop, Φ = (fun r M' => r = (3, 0) ∧ mm_Rf M' ∧ kz_F M M' rc ∧ (0 ≤ M' rc 2 ∧ M' rc 2 ≤ 288) ∧ (-1000000 * M' rc 2 ≤ M' rc 3 ∧ M' rc 3 ≤ 1425600 * M' rc 2 ∨ M' rc 2 = 0) ∧ (kb_is (M 4) (M 16) (M 17) h (M' rc 2) (M' rc 3) (M' (rc + 1)) (M' (rc + 2)) ∨ kX_cut (M 4) (M 16) (M 17) h n)) := ⟨_, rfl⟩
  rw [← hΦ]
  have hV := hK.1
  have hnb := ks_nb hV
  have hn1 : 1 ≤ n := by omega
  have hn2 : n ≤ 288 := by omega
  have hrc3 := hrw.2.2.2.1
  have hw : ∀ s, ks_st (M 4) s → (0 ≤ ks_wi (M 16) (M 4) s h ∧ ks_wi (M 16) (M 4) s h ≤ 60) ∧ (0 ≤ ks_wi (M 17) (M 4) s h ∧ ks_wi (M 17) (M 4) s h ≤ 60) := fun s hs => hA.wi hV hs hh
  have nst : M 3 2 = (n : Int) := by rw [← hn]; exact hK.2.1
  -- behind keepTightPaths: the shortest round is sought and written
  have tail : ∀ Q N P0 : mm_M, ∀ S C : Int, kx_P (M 4) (M 16) (M 17) Q h n → (∀ a, 31 ≤ a → a ≤ 35 → N a = Q a) → 0 < C → ((∃ j, kv_ch Q n j S C) ∧ (∀ y, y < n → kv_S N n S C y) ∨ kv_ch Q n 1000000 S C) → kt_K N P0 n S C → kz_F M P0 rc → P0 rc 2 = 0 → kU_q P0 n →
      mm_J X Y_X6_find 243 243 243 87 [(2, 29), (0, h), (2, (rc : Int) + 1), (9, 0), (0, -1), (0, (n : Int) + 1), (0, (0 : Int)), (9, 0)] [] P0 Φ := by
    intro Q N P0 S C hPQ eN hC hmean hk hF0 hrow hq0
    have hPN : kx_P (M 4) (M 16) (M 17) N h n := hPQ.cg eN
    have hWG := hk.W hPN hV hw hn
    have hUG := hWG.g
    obtain ⟨t, ht⟩ : ∃ t, t = kU_t P0 n := ⟨_, rfl⟩
    have tn : ∀ u v, t u v → u < n := fun u v q => by rw [ht] at q; exact q.1
    -- the end, where no round was found
    have none : ∀ P, kU_f P0 P → (∀ u, u < n → ∀ l : Nat, 1 ≤ l → ¬ kd_D t u l u) → Φ (3, 0) P := by
      intro P hf hno
      rw [hΦ]
      have e2 : P rc 2 = 0 := by rw [hf.2.1 rc (by omega) (by omega) (by omega)]; exact hrow
      refine ⟨rfl, hf.1, ⟨hf.1, fun a a1 a2 a3 a4 => by rw [hf.2.1 a (by omega) (by omega) (by omega)]; exact hF0.2.1 a a1 a2 a3 a4, fun b b1 b2 b3 => by rw [hf.2.2 b b1]; exact hF0.2.2 b b1 b2 b3⟩, by rw [e2]; omega, Or.inr e2, ?_⟩
      rcases hmean with ⟨⟨j, hj⟩, hS⟩ | hcut
      · left
        refine kb_none e2 ?_ hV
        have hup := hPN.up hV hn hC hS
        match j, hj with
        | 0, hj =>
          obtain ⟨j1, j2⟩ := hj
          rw [j1, j2] at hup
          exact kx_no_loop hV hw hup
        | j + 1, hj =>
          exfalso
          obtain ⟨S0, C0, -, q, r, m, r1, r2, r3, -⟩ := hj
          have r1N : kv_B N n q r m := by unfold kv_B kv_p at r1 ⊢; rw [eN 31 (by decide) (by decide), eN 32 (by decide) (by decide), eN 33 (by decide) (by decide)]; exact r1
          have hL := r1N.gl hPN hn
          have e34 : N 34 = Q 34 := eN 34 (by decide) (by decide)
          have tight := (kz_loop hup hL).mp (by rw [r3, r2, e34, Int.mul_comm])
          have tt : ∀ j, j < m → t (q j) (q (j + 1)) := by
            intro j hj
            rw [ht, hk.t hPN hV hn hC hS]
            have hp := r1N.2.2.2 j hj
            obtain ⟨z1, z2, z3, z4⟩ := hPN.at hp
            refine ⟨⟨by omega, by have := hp.2.1; omega⟩, N 35 (r j), ⟨z1, z2, ?_⟩, z3⟩
            rw [← z4, z3, show ((q j : Int)).toNat = q j by omega, show ((q (j + 1) : Int)).toNat = q (j + 1) by omega]
            exact tight j hj
          have d := kd_Dof (t := t) (p := q) m 0 (fun i hi => tt i (by omega))
          rw [Nat.zero_add, r1N.2.2.1] at d
          exact hno (q 0) (r1N.2.2.2 0 (by have := r1N.1; omega)).2.1 m r1N.1 d
      · right
        exact ⟨Q, S, C, hPQ, hcut⟩
    -- the end, where one was found
    have some : ∀ P (B L : Nat), kU_f P0 P → kU_q P n → B < n → 1 ≤ L → L ≤ n → kd_D t B L B → (∀ u, u < n → ∀ l : Nat, 1 ≤ l → kd_D t u l u → L < l ∨ (L = l ∧ B ≤ u)) →
        mm_J X Y_X6_find 243 243 243 135 [(2, 29), (0, h), (2, (rc : Int) + 1), (9, 0), (0, (B : Int)), (0, (L : Int)), (9, 0), (9, 0)] [] P Φ := by
      intro P B L hf hq hB hL1 hLn hD hall
      have hRP := hf.1
      have tP : kU_t P n = t := by rw [ht]; funext u v; exact propext hf.t
      have bP : ∀ b, kU_b P n b = fun u v => t u v ∧ b ≤ v := fun b => by funext u v; unfold kU_b; rw [tP]
      have GP := hf.G hUG
      -- a round of that length keeps above its begin
      have up : ∀ p : Nat → Nat, p 0 = B → p L = B → (∀ i, i < L → t (p i) (p (i + 1))) → ∀ i, i ≤ L → B ≤ p i := by
        intro p p0 pl hp i hi
        have r := kd_rot p0 pl hp hi
        have pn : p i < n := by
          by_cases c : i < L
          · exact tn _ _ (hp i c)
          · rw [show i = L by omega, pl]; exact hB
        rcases hall (p i) pn L hL1 r with z | z <;> omega
      have hDb : kd_D (kU_b P n B) B L B := by
        obtain ⟨p, p0, pl, hp⟩ := kd_walk L B hD
        have := kd_Dof (t := kU_b P n B) (p := p) L 0 (fun i hi => by rw [bP]; exact ⟨hp i (by omega), up p p0 pl hp (i + 1) (by omega)⟩)
        rw [Nat.zero_add, pl, p0] at this
        exact this
      have cs := c_X6_shortestFrom (X := X) (M := P) (n := n) (b := B) (m := (L : Int) + 1) hRP GP hn2 hq hB ⟨by omega, by omega⟩
      have cs2 : mm_C X Y_X6_shortestFrom 243 243 [(2, 29), (0, (B : Int)), (0, (L : Int) + 1)] P (fun r M' => ∃ x, r = (0, x) ∧ mm_Rf M' ∧ ∃ k e f, kU_I P M' n B k e f ∧ k < e ∧ kQ_d B f (M' 41 k).toNat + 1 = (L : Int) ∧ ∀ l' : Nat, 1 ≤ l' → l' < L → ¬ kd_D (kU_b P n B) B l' B) := by
        refine mm_C.mono cs ?_
        rintro r U ⟨x, x1, x2, x3, x4, x5⟩
        refine ⟨x, x1, x2, ?_⟩
        rcases x5 with ⟨-, q⟩ | ⟨l, k, e, f, y1, y2, y3, y4, y5, y6, y7, y8, y9⟩
        · exact absurd hDb (q L hL1 (by omega))
        · have el : l = L := by
            have a : kd_D t B l B := kd_mono (fun u v q => by rw [bP] at q; exact q.1) y5
            rcases hall B hB l y2 a with z | z <;> omega
          rw [el] at y6 y9
          exact ⟨k, e, f, y7, y8, y9, y6⟩
      have cm : ∀ U, (∃ k e f, kU_I P U n B k e f ∧ k < e ∧ kQ_d B f (U 41 k).toNat + 1 = (L : Int) ∧ ∀ l' : Nat, 1 ≤ l' → l' < L → ¬ kd_D (kU_b P n B) B l' B) → mm_C X Y_X6_markWaysBack 243 243 [(2, 29), (0, (B : Int)), (0, (L : Int))] U (fun r M' => r = (3, 0) ∧ mm_Rf M' ∧ (∀ a, a ≠ 39 → M' a = U a) ∧ ∀ v, v < n → kU_m U M' n B (L : Int) v) := by
        rintro U ⟨k, e, f, y1, y2, y3, y4⟩
        exact c_X6_markWaysBack y1.1.1 (y1.1.G GP) hn2 hB y1 y2 y3
      -- the loop is written
      have cw : ∀ U V, (∃ k e f, kU_I P U n B k e f ∧ k < e ∧ kQ_d B f (U 41 k).toNat + 1 = (L : Int) ∧ ∀ l' : Nat, 1 ≤ l' → l' < L → ¬ kd_D (kU_b P n B) B l' B) → mm_Rf V → (∀ a, a ≠ 39 → V a = U a) → (∀ v, v < n → kU_m U V n B (L : Int) v) → mm_C X Y_X6_writeLoop 243 243 [(2, 29), (0, (B : Int)), (0, (L : Int)), (2, (rc : Int) + 1)] V (fun r M' => r = (3, 0) ∧ mm_Rf M' ∧ Φ (3, 0) M') := by
        rintro U V ⟨k, e, f, y1, y2, y3, y4⟩ hRV fV mV
        obtain ⟨uf, ue, uy, uQ⟩ := id y1
        have tU : kU_t U n = t := by rw [← tP]; funext u v; exact propext uf.t
        have tV : kU_t V n = t := by rw [← tU]; unfold kU_t; rw [fV 31 (by decide), fV 33 (by decide)]
        have fP0 : ∀ a, a ≠ 28 → a ≠ 39 → a ≠ 40 → a ≠ 41 → V a = P0 a := fun a a1 a2 a3 a4 => by rw [fV a a2, uf.2.1 a a1 a3 a4]; exact hf.2.1 a a1 a3 a4
        have WV : kW_G V n := by unfold kW_G at hWG ⊢; rw [fP0 31 (by decide) (by decide) (by decide) (by decide), fP0 33 (by decide) (by decide) (by decide) (by decide), fP0 34 (by decide) (by decide) (by decide) (by decide), fP0 35 (by decide) (by decide) (by decide) (by decide)]; exact hWG
        have e40 : V 40 = U 40 := fV 40 (by decide)
        have lay : ∀ v, v < n → -1 ≤ U 40 v ∧ U 40 v ≤ (L : Int) := by
          intro v hv
          rw [uy v hv]
          by_cases c : v = B
          · rw [if_pos c]; omega
          · rw [if_neg c]
            rcases uQ.fv v hv with q | ⟨d, d1, d2, d3, d4, d5, i, i1, i2⟩
            · rw [if_pos q]; omega
            · rw [if_neg (by omega)]
              have := uQ.up y2 i i1
              have e : kQ_d B f (U 41 i).toNat = f v := by rw [i2]; unfold kQ_d; rw [if_neg c]
              omega
        have hNb : ∀ u v, kU_b P n B u v → v < n := fun u v q => GP.lt q.1
        have gg := y1.g hB hNb y2 y3 y4
        rw [tU] at gg
        have cw0 := c_X6_writeLoop (X := X) (M := V) (n := n) (b := B) (L := L) (rc := rc) hRV WV hn2 hB hrw hrc ⟨hL1, by omega⟩ (fun j x hj hx => by
          have := (mV x hx).go (j := j) (by rw [e40]) (lay x hx).2 hj
          rw [tU] at this
          rw [tV, e40]
          exact this) (fun x hx => by
          have := lay x hx
          have m39 : V 39 x = 1 ∨ V 39 x = 0 := by
            rcases mV x hx with q | q
            · exact Or.inl q.1
            · exact Or.inr q.1
          rw [e40]
          unfold mm_R
          omega) (by
          rw [tV, e40]
          exact gg L (Nat.le_refl _) B (by rw [Nat.sub_self]; rfl) hDb)
        refine mm_C.mono cw0 ?_
        rintro r W ⟨w1, w2, w3, v, y, w4, w5, w6, w7⟩
        refine ⟨w1, w2, ?_⟩
        rw [tV, e40] at w7
        rw [hΦ]
        refine ⟨rfl, w2, ⟨w2, fun a a1 a2 a3 a4 => ?_, fun b b1 b2 b3 => ?_⟩, by rw [w5]; omega, ?_, ?_⟩
        · rw [w3 a a2 a3 a4, fP0 a (by omega) (by omega) (by omega) (by omega)]
          exact hF0.2.1 a a1 a2 a3 a4
        · rw [w3 28 (by omega) (by omega) (by omega), fV 28 (by decide), uf.2.2 b b1, hf.2.2 b b1]
          exact hF0.2.2 b b1 b2 b3
        · left
          have wk : ∀ j, j < L → -1000000 ≤ V 34 (y j) ∧ V 34 (y j) ≤ 1425600 := by
            intro j hj
            obtain ⟨z1, z2, z3, -⟩ := w7 j hj
            rw [fP0 31 (by decide) (by decide) (by decide) (by decide)] at z2 z3
            obtain ⟨⟨k1, k2, -⟩, -, -, k4⟩ := hk.at hPN z1 z2 z3
            have st : ks_st (M 4) (v j : Int) := ⟨by omega, by omega⟩
            rw [fP0 34 (by decide) (by decide) (by decide) (by decide), k4]
            have a := ks_low hV k1 k2 (hw _ st)
            have b := ks_high hV k1 (hw _ st)
            exact ⟨by omega, b⟩
          have cs : ∀ (x : Int) (k : Nat), ka_sum (fun _ => x) k = x * (k : Int) := by
            intro x k
            induction k with
            | zero => show (0 : Int) = _; omega
            | succ k ih => show ka_sum (fun _ => x) k + x = _; rw [ih, show ((k + 1 : Nat) : Int) = (k : Int) + 1 by omega, Int.mul_add, Int.mul_one]
          have lo := ka_sum_ple (f := fun _ => (-1000000 : Int)) (g := fun j => V 34 (y j)) L (fun j hj => (wk j hj).1)
          have hi := ka_sum_ple (f := fun j => V 34 (y j)) (g := fun _ => (1425600 : Int)) L (fun j hj => (wk j hj).2)
          rw [cs] at lo hi
          rw [w5, w6]
          exact ⟨lo, hi⟩
        · rcases hmean with ⟨-, hS⟩ | hcut
          · left
            have hup := hPN.up hV hn hC hS
            have tk : t = kb_t (M 4) (M 16) (M 17) h (N 36) S C := by rw [ht]; exact hk.t hPN hV hn hC hS
            have r31 : V 31 = P0 31 := fP0 31 (by decide) (by decide) (by decide) (by decide)
            have r33 : V 33 = P0 33 := fP0 33 (by decide) (by decide) (by decide) (by decide)
            have r34 : V 34 = P0 34 := fP0 34 (by decide) (by decide) (by decide) (by decide)
            have r35 : V 35 = P0 35 := fP0 35 (by decide) (by decide) (by decide) (by decide)
            rw [r31, r33, r35] at w7
            -- the states of the loop
            have run : ∀ j, j ≤ L → kf_run (M 4) (B : Int) (W (rc + 1)) j = (v j : Int) := by
              intro j
              induction j with
              | zero => intro _; show (B : Int) = _; rw [w4]
              | succ j ih =>
                intro hj
                obtain ⟨z1, z2, z3, z4, z5, z6, z7, z8⟩ := w7 j (by omega)
                obtain ⟨k1, k2, k3, k4⟩ := hk.at hPN z1 z2 z3
                show ks_to (M 4) (kf_run (M 4) (B : Int) (W (rc + 1)) j) (W (rc + 1) j) = _
                rw [ih (by omega), z7, ← k3, z4]
            have vL : v L = B := by
              have := (w7 (L - 1) (by omega)).2.2.2.2.1
              rw [show L - (L - 1) - 1 = 0 by omega, show L - 1 + 1 = L by omega] at this
              exact this
            have tstep : ∀ j, j < L → t (v j) (v (j + 1)) := by
              intro j hj
              obtain ⟨z1, z2, z3, z4, -⟩ := w7 j hj
              rw [ht]
              exact ⟨z1, y j, z2, z3, z4⟩
            have sm : W rc 3 = kb_sm (M 4) (M 16) (M 17) h (B : Int) (W (rc + 1)) L := by
              rw [w6, r34]
              unfold kb_sm
              refine ka_sum_congr (fun j hj => ?_)
              obtain ⟨z1, z2, z3, z4, z5, z6, z7, z8⟩ := w7 j hj
              obtain ⟨k1, k2, k3, k4⟩ := hk.at hPN z1 z2 z3
              unfold kj_g
              rw [run j (by omega), z7]
              exact k4
            rw [w5, sm]
            refine kb_of hV hC hup ⟨by omega, by omega⟩ hL1 (by omega) (fun j hj => ?_) (by rw [run L (Nat.le_refl _), vL]) (fun s hs l l1 zD => by
              rw [← tk] at zD
              exact hall s (by have := hs.2; omega) l l1 zD) (fun j hj => by rw [run j (by omega)]; exact (w7 j hj).2.2.2.2.2.2.2)
            obtain ⟨z1, z2, z3, z4, z5, z6, z7, z8⟩ := w7 j hj
            obtain ⟨k1, k2, k3, k4⟩ := hk.at hPN z1 z2 z3
            rw [run j (by omega), z7]
            refine ⟨k1, fun a ta da => ?_⟩
            obtain ⟨x, x1, x2, x3, x4⟩ := hk.of hPN hV hn hC hS z1 ta
            have ast := ks_to_st hV ⟨by omega, by omega⟩ ta.2.1.1
            obtain ⟨c, hc⟩ : ∃ c : Nat, ks_to (M 4) (v j : Int) a = (c : Int) := ⟨(ks_to (M 4) (v j : Int) a).toNat, by omega⟩
            rw [hc, show ((c : Int)).toNat = c by omega] at da
            have tc : t (v j) c := by rw [tk]; exact ⟨⟨by omega, by omega⟩, a, ta, hc⟩
            rw [← tk] at da
            -- the round that goes on with this act
            obtain ⟨p, p0, pl, hp⟩ := kd_walk _ _ da
            have jp : ∀ i, i < L → t (if i ≤ j then v i else p (i - (j + 1))) (if i + 1 ≤ j then v (i + 1) else p (i + 1 - (j + 1))) := by
              intro i hi
              by_cases ci : i + 1 ≤ j
              · rw [if_pos (by omega), if_pos ci]; exact tstep i (by omega)
              · rw [if_neg ci]
                by_cases ce : i = j
                · rw [if_pos (by omega), ce, show j + 1 - (j + 1) = 0 by omega, p0]; exact tc
                · rw [if_neg (by omega), show i + 1 - (j + 1) = i - (j + 1) + 1 by omega]
                  exact hp (i - (j + 1)) (by omega)
            have ups := up (fun i => if i ≤ j then v i else p (i - (j + 1))) (by show (if 0 ≤ j then v 0 else p (0 - (j + 1))) = B; rw [if_pos (by omega)]; exact w4) (by show (if L ≤ j then v L else p (L - (j + 1))) = B; rw [if_neg (by omega), show L - (j + 1) = L - j - 1 by omega]; exact pl) jp
            have jb : ∀ i, i < L → kU_b P n B (if i ≤ j then v i else p (i - (j + 1))) (if i + 1 ≤ j then v (i + 1) else p (i + 1 - (j + 1))) := by
              intro i hi
              rw [bP]
              exact ⟨jp i hi, ups (i + 1) (by omega)⟩
            have rr := kd_Rof (t := kU_b P n B) (p := fun i => if i ≤ j then v i else p (i - (j + 1))) (j + 1) (fun i hi => jb i (by omega))
            have dd := kd_Dof (t := kU_b P n B) (p := fun i => if i ≤ j then v i else p (i - (j + 1))) (L - (j + 1)) (j + 1) (fun i hi => jb i (by omega))
            have rr : kd_R (kU_b P n B) (if 0 ≤ j then v 0 else p (0 - (j + 1))) (j + 1) (if j + 1 ≤ j then v (j + 1) else p (j + 1 - (j + 1))) := rr
            have dd : kd_D (kU_b P n B) (if j + 1 + (L - (j + 1)) ≤ j then v (j + 1 + (L - (j + 1))) else p (j + 1 + (L - (j + 1)) - (j + 1))) (L - (j + 1)) (if j + 1 ≤ j then v (j + 1) else p (j + 1 - (j + 1))) := dd
            rw [if_pos (by omega), if_neg (by omega), Nat.sub_self, p0, w4] at rr
            rw [if_neg (by omega), if_neg (by omega), Nat.sub_self, p0, show j + 1 + (L - (j + 1)) - (j + 1) = L - j - 1 by omega, pl] at dd
            have g := gg (L - j - 1) (by omega) c (by rw [show L - (L - j - 1) = j + 1 by omega]; exact rr) (by rw [show L - (j + 1) = L - j - 1 by omega] at dd; exact dd)
            have := z6 x c x1 x2 (by rw [x3, hc]) g
            omega
          · right
            exact ⟨Q, S, C, hPQ, hcut⟩
      refine mm_iload dX6_find_135 rfl rfl ?_
      refine mm_iconst dX6_find_137 rfl ?_
      refine mm_iceq dX6_find_138 (by omega) (by omega) (fun h138 => ?_) (fun h138 => ?_)
      · exfalso; omega
      · refine mm_aload_n dX6_find_141 rfl rfl ?_
        refine mm_iload dX6_find_142 rfl rfl ?_
        refine mm_iload dX6_find_144 rfl rfl ?_
        refine mm_iconst dX6_find_146 rfl ?_
        refine mm_iadd dX6_find_147 rfl ?_
        refine mm_V2g (M1 := P) dX6_find_148 rfl lk_X6_105 (c := 28) rfl (by decide) rfl (by simp) (by simp) rfl rfl rfl (cs2) ?_
        rintro _ N148 ⟨x148, rfl, p148⟩
        change mm_J _ _ _ _ _ _ _ _ _ _
        have hR148 : mm_Rf N148 := p148.1
        refine mm_pop dX6_find_151 rfl (by simp) ?_
        refine mm_aload_n dX6_find_152 rfl rfl ?_
        refine mm_iload dX6_find_153 rfl rfl ?_
        refine mm_iload dX6_find_155 rfl rfl ?_
        refine mm_V2g (M1 := N148) dX6_find_157 rfl lk_X6_109 (c := 28) rfl (by decide) rfl (by simp) (by simp) rfl rfl rfl (cm N148 p148.2) ?_
        rintro _ N157 ⟨rfl, p157⟩
        change mm_J _ _ _ _ _ _ _ _ _ _
        have hR157 : mm_Rf N157 := p157.1
        refine mm_aload_n dX6_find_160 rfl rfl ?_
        refine mm_iload dX6_find_161 rfl rfl ?_
        refine mm_iload dX6_find_163 rfl rfl ?_
        refine mm_aload_n dX6_find_165 rfl rfl ?_
        refine mm_V3g (M1 := N157) dX6_find_166 rfl lk_X6_113 (c := 28) rfl (by decide) rfl (by simp) (by simp) (by simp) rfl rfl rfl (cw N148 N157 p148.2 hR157 p157.2.1 p157.2.2) ?_
        rintro _ N166 ⟨rfl, p166⟩
        change mm_J _ _ _ _ _ _ _ _ _ _
        have hR166 : mm_Rf N166 := p166.1
        refine mm_vret dX6_find_169 rfl rfl ?_
        exact p166.2
    -- the search
    have loop : ∀ s : Nat, s ≤ n → ∀ P st sh, kU_f P0 P → kU_q P n → kU_B t n s st sh → mm_J X Y_X6_find 243 243 243 87 [(2, 29), (0, h), (2, (rc : Int) + 1), (9, 0), (0, st), (0, sh), (0, (s : Int)), (9, 0)] [] P Φ := by
      refine mm_lp ?_
      intro s hs ih P st sh hf hq hB
      have hRP := hf.1
      have est : P 3 2 = (n : Int) := by rw [hf.2.1 3 (by decide) (by decide) (by decide), hF0.2.1 3 (by decide) (by omega) (by omega) (by omega)]; exact nst
      have shb : 1 ≤ sh ∧ sh ≤ (n : Int) + 1 ∧ -1 ≤ st ∧ st < (n : Int) := by
        rcases hB with ⟨q1, q2, -⟩ | ⟨B, L, q1, q2, q3, q4, q5, -⟩ <;> omega
      have over : (s = n ∨ sh ≤ 1) → mm_J X Y_X6_find 243 243 243 135 [(2, 29), (0, h), (2, (rc : Int) + 1), (9, 0), (0, st), (0, sh), (9, 0), (9, 0)] [] P Φ := by
        intro hov
        rcases hB with ⟨q1, q2, q3⟩ | ⟨B, L, q1, q2, q3, q4, q5, q6, q7⟩
        · have es : s = n := by omega
          rw [es] at q3
          have fin := none P hf q3
          refine mm_iload dX6_find_135 rfl rfl ?_
          refine mm_iconst dX6_find_137 rfl ?_
          refine mm_iceq dX6_find_138 (by omega) (by omega) (fun h138 => ?_) (fun h138 => ?_)
          · refine mm_vret dX6_find_169 rfl rfl ?_
            exact fin
          · exfalso; omega
        · rw [q1, q2]
          refine some P B L hf hq (by omega) q4 q5 q6 (fun u hu l l1 hD => ?_)
          by_cases c : u < s
          · exact q7 u c l l1 hD
          · rcases hov with z | z
            · omega
            · omega
      by_cases hlt : s < n ∧ 1 < sh
      · have tP : kU_t P n = t := by rw [ht]; funext u v; exact propext hf.t
        have bP : kU_b P n s = fun u v => t u v ∧ s ≤ v := by funext u v; unfold kU_b; rw [tP]
        have cs := c_X6_shortestFrom (X := X) (M := P) (n := n) (b := s) (m := sh) hRP (hf.G hUG) hn2 hq hlt.1 ⟨by omega, by omega⟩
        have cs2 : mm_C X Y_X6_shortestFrom 243 243 [(2, 29), (0, (s : Int)), (0, sh)] P (fun r M' => ∃ x, r = (0, x) ∧ mm_Rf M' ∧ kU_f P0 M' ∧ kU_q M' n ∧ (-1 ≤ x ∧ x ≤ 1000) ∧ (x = -1 → kU_B t n (s + 1) st sh) ∧ (x ≠ -1 → kU_B t n (s + 1) (s : Int) x)) := by
          refine mm_C.mono cs ?_
          rintro r U ⟨x, x1, x2, x3, x4, x5⟩
          rw [bP] at x5
          refine ⟨x, x1, x2, ⟨x2, fun a a1 a2 a3 => by rw [x3.2.1 a a1 a2 a3]; exact hf.2.1 a a1 a2 a3, fun b b1 => by rw [x3.2.2 b b1]; exact hf.2.2 b b1⟩, x4, ?_, fun e => ?_, fun e => ?_⟩
          · rcases x5 with ⟨y1, -⟩ | ⟨l, k, e, f, y1, y2, y3, y4, -⟩ <;> omega
          · rcases x5 with ⟨-, y2⟩ | ⟨l, k, e', f, y1, -⟩
            · exact hB.no tn y2
            · omega
          · rcases x5 with ⟨y1, -⟩ | ⟨l, k, e', f, y1, y2, y3, y4, y5, y6, -⟩
            · exact absurd y1 e
            · rw [y1]
              exact hB.new y2 y3 y4 y5 y6
        refine mm_iload dX6_find_87 rfl rfl ?_
        refine mm_aload_n dX6_find_89 rfl rfl ?_
        refine mm_getr dX6_find_90 rfl fl_X6_55 (c := 28) rfl (by decide) rfl rfl (hRP.at (c := 28) (i := 0) (v := 4) rfl (by decide)) ?_
        refine mm_get (kd := 0) dX6_find_93 rfl fl_X6_102 (c := 3) rfl (by decide) rfl rfl ?_
        rw [est]
        refine mm_icge dX6_find_96 (by omega) (by omega) (fun h96 => ?_) (fun h96 => ?_)
        · exfalso; omega
        · refine mm_iload dX6_find_99 rfl rfl ?_
          refine mm_iconst dX6_find_101 rfl ?_
          refine mm_icle dX6_find_102 (by omega) (by omega) (fun h102 => ?_) (fun h102 => ?_)
          · exfalso; omega
          · refine mm_aload_n dX6_find_105 rfl rfl ?_
            refine mm_iload dX6_find_106 rfl rfl ?_
            refine mm_iload dX6_find_108 rfl rfl ?_
            refine mm_V2g (M1 := P) dX6_find_110 rfl lk_X6_105 (c := 28) rfl (by decide) rfl (by simp) (by simp) rfl rfl rfl (cs2) ?_
            rintro _ N110 ⟨x110, rfl, p110⟩
            change mm_J _ _ _ _ _ _ _ _ _ _
            have hR110 : mm_Rf N110 := p110.1
            have hx110 := p110.2.2.2.1
            refine mm_istore dX6_find_113 rfl (Nat.le_of_ble_eq_true rfl) rfl ?_
            refine mm_iload dX6_find_115 rfl rfl ?_
            refine mm_iconst dX6_find_117 rfl ?_
            refine mm_iceq dX6_find_118 (by omega) (by omega) (fun h118 => ?_) (fun h118 => ?_)
            · refine mm_iinc dX6_find_129 rfl rfl (Nat.le_of_ble_eq_true rfl) rfl ?_
              refine mm_goto dX6_find_132 ?_
              first
              | (have go := ih hlt.1 N110 _ _ p110.2.1 p110.2.2.1 (p110.2.2.2.2.1 (by omega))
                 rw [show ((s + 1 : Nat) : Int) = (s : Int) + 1 by omega] at go
                 exact mm_drop (by repeat (first | exact trivial | refine And.intro (Or.inl rfl) ?_ | refine And.intro (Or.inr rfl) ?_)) go)
              | (have go := ih hlt.1 N110 _ _ p110.2.1 p110.2.2.1 (p110.2.2.2.2.2 (by omega))
                 rw [show ((s + 1 : Nat) : Int) = (s : Int) + 1 by omega] at go
                 exact mm_drop (by repeat (first | exact trivial | refine And.intro (Or.inl rfl) ?_ | refine And.intro (Or.inr rfl) ?_)) go)
            · refine mm_iload dX6_find_121 rfl rfl ?_
              refine mm_istore dX6_find_123 rfl (Nat.le_of_ble_eq_true rfl) rfl ?_
              refine mm_iload dX6_find_125 rfl rfl ?_
              refine mm_istore dX6_find_127 rfl (Nat.le_of_ble_eq_true rfl) rfl ?_
              refine mm_iinc dX6_find_129 rfl rfl (Nat.le_of_ble_eq_true rfl) rfl ?_
              refine mm_goto dX6_find_132 ?_
              first
              | (have go := ih hlt.1 N110 _ _ p110.2.1 p110.2.2.1 (p110.2.2.2.2.1 (by omega))
                 rw [show ((s + 1 : Nat) : Int) = (s : Int) + 1 by omega] at go
                 exact mm_drop (by repeat (first | exact trivial | refine And.intro (Or.inl rfl) ?_ | refine And.intro (Or.inr rfl) ?_)) go)
              | (have go := ih hlt.1 N110 _ _ p110.2.1 p110.2.2.1 (p110.2.2.2.2.2 (by omega))
                 rw [show ((s + 1 : Nat) : Int) = (s : Int) + 1 by omega] at go
                 exact mm_drop (by repeat (first | exact trivial | refine And.intro (Or.inl rfl) ?_ | refine And.intro (Or.inr rfl) ?_)) go)
      · have go := over (by omega)
        refine mm_iload dX6_find_87 rfl rfl ?_
        refine mm_aload_n dX6_find_89 rfl rfl ?_
        refine mm_getr dX6_find_90 rfl fl_X6_55 (c := 28) rfl (by decide) rfl rfl (hRP.at (c := 28) (i := 0) (v := 4) rfl (by decide)) ?_
        refine mm_get (kd := 0) dX6_find_93 rfl fl_X6_102 (c := 3) rfl (by decide) rfl rfl ?_
        rw [est]
        refine mm_icge dX6_find_96 (by omega) (by omega) (fun h96 => ?_) (fun h96 => ?_)
        · exact mm_drop (by repeat (first | exact trivial | refine And.intro (Or.inl rfl) ?_ | refine And.intro (Or.inr rfl) ?_)) go
        · refine mm_iload dX6_find_99 rfl rfl ?_
          refine mm_iconst dX6_find_101 rfl ?_
          refine mm_icle dX6_find_102 (by omega) (by omega) (fun h102 => ?_) (fun h102 => ?_)
          · exact mm_drop (by repeat (first | exact trivial | refine And.intro (Or.inl rfl) ?_ | refine And.intro (Or.inr rfl) ?_)) go
          · exfalso; omega
    exact loop 0 (Nat.zero_le _) P0 (-1) ((n : Int) + 1) ⟨hF0.1, fun _ _ _ _ => rfl, fun _ _ => rfl⟩ hq0 (Or.inl ⟨rfl, rfl, fun u hu => absurd hu (by omega)⟩)
  -- the rounds, and what follows
  have rounds : ∀ Q : mm_M, kx_P (M 4) (M 16) (M 17) Q h n → kz_F M Q rc → Q rc 2 = 0 → Q 28 16 = -1000000 → Q 28 17 = 1 → mm_J X Y_X6_find 243 243 243 31 [(2, 29), (0, h), (2, (rc : Int) + 1), (0, 1), (0, (0 : Int)), (9, 0), (9, 0), (9, 0)] [] Q Φ := by
    intro Q hPQ hFQ hrow hQ16 hQ17
    have hGQ := hPQ.G hV hn hw
    have hRQ := hFQ.1
    have nstQ : Q 3 2 = (n : Int) := by rw [hFQ.2.1 3 (by decide) (by omega) (by omega) (by omega)]; exact nst
    have kept : ∀ N S C, kv_k Q N → N 28 16 = S → N 28 17 = C → (-2000000000 ≤ S ∧ S ≤ 2000000000) → (1 ≤ C ∧ C ≤ 288) → (∀ v, v < n → 0 ≤ N 36 v ∧ N 36 v ≤ 400000000000000) → ((∃ j, kv_ch Q n j S C) ∧ (∀ y, y < n → kv_S N n S C y) ∨ kv_ch Q n 1000000 S C) →
        mm_J X Y_X6_find 243 243 243 53 [(2, 29), (0, h), (2, (rc : Int) + 1), (9, 0), (9, 0), (9, 0), (9, 0), (9, 0)] [] N Φ := by
      intro N S C hk k16 k17 hSb hCb hL hmean
      have hRN := hk.1
      have eN : ∀ a, a ≠ 28 → a ≠ 36 → a ≠ 37 → a ≠ 38 → a ≠ 39 → N a = Q a := hk.2.1
      have nstN : N 3 2 = (n : Int) := by rw [eN 3 (by decide) (by decide) (by decide) (by decide) (by decide)]; exact nstQ
      have ck := c_X6_keepTightPaths (X := X) (M := N) (n := n) (S := S) (C := C) hRN (hGQ.cg (fun a a1 a2 => eN a (by omega) (by omega) (by omega) (by omega) (by omega))) nstN hn2 hn1 k16 k17 hSb hCb hL
      refine mm_aload_n dX6_find_53 rfl rfl ?_
      refine mm_V0g (M1 := N) dX6_find_54 rfl lk_X6_90 (c := 28) rfl (by decide) rfl  rfl rfl rfl (ck) ?_
      rintro _ N54 ⟨rfl, p54⟩
      change mm_J _ _ _ _ _ _ _ _ _ _
      have hR54 : mm_Rf N54 := p54.1
      obtain ⟨N62, hN62⟩ : ∃ Z, Z = kf_mem N54 40 (fun _ => -1) 288 := ⟨_, rfl⟩
      have hR62 : mm_Rf N62 := by rw [hN62]; exact hR54.fm (len := 288) rfl
      have cf := c_J7_fill2 (X := X) (M := N54) (n := 243) (c := 40) (len := 288) (v := -1) (by decide) rfl
      rw [← hN62] at cf
      have f62 : ∀ a, a ≠ 40 → N62 a = N54 a := fun a ha => by rw [hN62, kf_mem_n ha]
      have u54 := p54.2.1
      have k54 := p54.2.2
      have est62 : N62 3 2 = (n : Int) := by rw [f62 3 (by decide), u54.2 3 (by decide) (by decide) (by decide) (by decide)]; exact nstN
      refine mm_aload_n dX6_find_57 rfl rfl ?_
      refine mm_getr dX6_find_58 rfl fl_X6_49 (c := 28) rfl (by decide) rfl rfl (hR54.at (c := 28) (i := 13) (v := 41) rfl (by decide)) ?_
      refine mm_iconst dX6_find_61 rfl ?_
      refine mm_S2v dX6_find_62 rfl lk_X6_93 (by simp) (by simp) rfl rfl rfl (cf) ?_
      refine mm_aload_n dX6_find_65 rfl rfl ?_
      refine mm_iconst dX6_find_66 rfl ?_
      refine mm_puti dX6_find_67 rfl fl_X6_99 (c := 28) rfl (by decide) rfl rfl (fun M67 hM67 => ?_)
      have hR67 : mm_Rf M67 := by rw [hM67]; exact hR62.up rfl
      refine mm_iconst dX6_find_70 rfl ?_
      refine mm_istore dX6_find_71 rfl (Nat.le_of_ble_eq_true rfl) rfl ?_
      refine mm_aload_n dX6_find_73 rfl rfl ?_
      refine mm_getr dX6_find_74 rfl fl_X6_55 (c := 28) rfl (by decide) rfl rfl (hR67.at (c := 28) (i := 0) (v := 4) rfl (by decide)) ?_
      refine mm_get (kd := 0) dX6_find_77 rfl fl_X6_102 (c := 3) rfl (by decide) rfl rfl ?_
      rw [show M67 3 2 = (n : Int) by rw [hM67, mm_up_c (by decide)]; exact est62]
      refine mm_iconst dX6_find_80 rfl ?_
      refine mm_iadd dX6_find_81 rfl ?_
      refine mm_istore dX6_find_82 rfl (Nat.le_of_ble_eq_true rfl) rfl ?_
      refine mm_iconst dX6_find_84 rfl ?_
      refine mm_istore dX6_find_85 rfl (Nat.le_of_ble_eq_true rfl) rfl ?_
      have r67 : ∀ a, a ≠ 28 → a ≠ 40 → M67 a = N54 a := fun a a1 a2 => by rw [hM67, mm_up_row a1]; exact f62 a a2
      have rQ : ∀ a, ¬ (28 ≤ a ∧ a ≤ 41) → M67 a = Q a := fun a ha => by rw [r67 a (by omega) (by omega), u54.2 a (by omega) (by omega) (by omega) (by omega)]; exact eN a (by omega) (by omega) (by omega) (by omega) (by omega)
      have go := tail Q N M67 S C hPQ (fun a a1 a2 => eN a (by omega) (by omega) (by omega) (by omega) (by omega)) (by omega) hmean (by
        unfold kt_K kt_o at k54 ⊢
        rw [r67 31 (by decide) (by decide), r67 33 (by decide) (by decide), r67 34 (by decide) (by decide), r67 35 (by decide) (by decide)]
        exact k54) ⟨hR67, fun a a1 a2 a3 a4 => by rw [rQ a a1]; exact hFQ.2.1 a a1 a2 a3 a4, fun b b1 b2 b3 => by rw [hM67, mm_up_i b1, f62 28 (by decide), u54.2 28 (by decide) (by decide) (by decide) (by decide), hk.2.2 b b2 b3]; exact hFQ.2.2 b b1 b2 b3⟩ (by rw [rQ rc (by omega)]; exact hrow) ⟨0, by rw [hM67, mm_up_s]; rfl, Nat.zero_le _, fun i hi => absurd hi (by omega), fun v hv => Or.inl (by rw [hM67, mm_up_row (by decide), hN62, kf_mem_lt (by omega)])⟩
      exact mm_drop (by repeat (first | exact trivial | refine And.intro (Or.inl rfl) ?_ | refine And.intro (Or.inr rfl) ?_)) go
    have loop : ∀ i : Nat, i ≤ 1000000 → ∀ N b, kv_k Q N → ((b = 1 ∧ kv_ch Q n i (N 28 16) (N 28 17) ∧ (1 ≤ i → ∀ v, v < n → 0 ≤ N 36 v ∧ N 36 v ≤ 400000000000000)) ∨ (b = 0 ∧ (∃ j, kv_ch Q n j (N 28 16) (N 28 17)) ∧ (∀ y, y < n → kv_S N n (N 28 16) (N 28 17) y) ∧ ∀ v, v < n → 0 ≤ N 36 v ∧ N 36 v ≤ 400000000000000)) →
        mm_J X Y_X6_find 243 243 243 31 [(2, 29), (0, h), (2, (rc : Int) + 1), (0, b), (0, (i : Int)), (9, 0), (9, 0), (9, 0)] [] N Φ := by
      refine mm_lp ?_
      intro i hi ih N b hk hb
      have hRN := hk.1
      have eN : ∀ a, a ≠ 28 → a ≠ 36 → a ≠ 37 → a ≠ 38 → a ≠ 39 → N a = Q a := hk.2.1
      have nstN : N 3 2 = (n : Int) := by rw [eN 3 (by decide) (by decide) (by decide) (by decide) (by decide)]; exact nstQ
      have hGN : kv_G N n := hGQ.cg (fun a a1 a2 => eN a (by omega) (by omega) (by omega) (by omega) (by omega))
      have mb : (-2000000000 ≤ N 28 16 ∧ N 28 16 ≤ 2000000000) ∧ 1 ≤ N 28 17 ∧ N 28 17 ≤ 288 := by
        rcases hb with ⟨-, q, -⟩ | ⟨-, ⟨j, q⟩, -⟩ <;> exact q.b hGQ hn2
      have b01 : b = 0 ∨ b = 1 := by rcases hb with q | q; exact Or.inr q.1; exact Or.inl q.1
      by_cases hlt : i < 1000000 ∧ b = 1
      · obtain ⟨h1, h2⟩ := hlt
        have hch : kv_ch Q n i (N 28 16) (N 28 17) := by
          rcases hb with ⟨-, q, -⟩ | ⟨q, -⟩
          · exact q
          · omega
        have ct := c_X6_takeBetterMean (X := X) (M := N) (n := n) (S := N 28 16) (C := N 28 17) hRN hGN nstN hn2 rfl rfl mb.1 mb.2
        have ct2 : mm_C X Y_X6_takeBetterMean 243 243 [(2, 29)] N (fun r M' => ∃ x, r = (0, x) ∧ mm_Rf M' ∧ (x = 0 ∨ x = 1) ∧ mm_J X Y_X6_find 243 243 243 31 [(2, 29), (0, h), (2, (rc : Int) + 1), (0, x), (0, (i : Int) + 1), (9, 0), (9, 0), (9, 0)] [] M' Φ) := by
          refine mm_C.mono ct ?_
          rintro r U ⟨x, x1, x2, x3, x4, x5⟩
          have kU : kv_k Q U := ⟨x2, fun a a1 a2 a3 a4 a5 => by rw [x3.2.1 a a1 a2 a3 a4 a5]; exact eN a a1 a2 a3 a4 a5, fun b b1 b2 => by rw [x3.2.2 b b1 b2]; exact hk.2.2 b b1 b2⟩
          refine ⟨x, x1, x2, x5.imp And.left And.left, ?_⟩
          have go := ih h1 U x kU (by
            rcases x5 with ⟨y1, y2, y3, y4⟩ | ⟨y1, q, r, m, y2, y3, y4, y5⟩
            · right
              rw [y2, y3]
              exact ⟨y1, ⟨i, hch⟩, y4, x4⟩
            · left
              refine ⟨y1, ⟨N 28 16, N 28 17, hch, q, r, m, ?_, ?_, y4, ?_⟩, fun _ => x4⟩
              · unfold kv_B kv_p at y2 ⊢
                rw [eN 31 (by decide) (by decide) (by decide) (by decide) (by decide), eN 32 (by decide) (by decide) (by decide) (by decide) (by decide), eN 33 (by decide) (by decide) (by decide) (by decide) (by decide)] at y2
                exact y2
              · rw [y3, eN 34 (by decide) (by decide) (by decide) (by decide) (by decide)]
              · rw [eN 34 (by decide) (by decide) (by decide) (by decide) (by decide)] at y5
                exact y5)
          rw [show ((i + 1 : Nat) : Int) = (i : Int) + 1 by omega] at go
          exact go
        refine mm_iload dX6_find_31 rfl rfl ?_
        refine mm_ldc dX6_find_33 rfl kc_X6_85 ?_
        refine mm_icge dX6_find_35 (by omega) (by omega) (fun h35 => ?_) (fun h35 => ?_)
        · exfalso; omega
        · refine mm_iload_n dX6_find_38 rfl rfl ?_
          refine mm_ifeq dX6_find_39 (by omega) (fun h39 => ?_) (fun h39 => ?_)
          · exfalso; omega
          · refine mm_aload_n dX6_find_42 rfl rfl ?_
            refine mm_V0g (M1 := N) dX6_find_43 rfl lk_X6_86 (c := 28) rfl (by decide) rfl  rfl rfl rfl (ct2) ?_
            rintro _ N43 ⟨x43, rfl, p43⟩
            change mm_J _ _ _ _ _ _ _ _ _ _
            have hR43 : mm_Rf N43 := p43.1
            have hx43 := p43.2.1
            refine mm_istore_n dX6_find_46 rfl (Nat.le_of_ble_eq_true rfl) rfl ?_
            refine mm_iinc dX6_find_47 rfl rfl (Nat.le_of_ble_eq_true rfl) rfl ?_
            refine mm_goto dX6_find_50 ?_
            exact p43.2.2
      · have go := kept N (N 28 16) (N 28 17) hk rfl rfl mb.1 mb.2 (by
          rcases hb with ⟨q1, -, q2⟩ | ⟨-, -, -, q⟩
          · exact q2 (by omega)
          · exact q) (by
          rcases hb with ⟨q1, q2, -⟩ | ⟨-, q1, q2, -⟩
          · right
            rw [show i = 1000000 by omega] at q2
            exact q2
          · exact Or.inl ⟨q1, q2⟩)
        refine mm_iload dX6_find_31 rfl rfl ?_
        refine mm_ldc dX6_find_33 rfl kc_X6_85 ?_
        refine mm_icge dX6_find_35 (by omega) (by omega) (fun h35 => ?_) (fun h35 => ?_)
        · exact mm_drop (by repeat (first | exact trivial | refine And.intro (Or.inl rfl) ?_ | refine And.intro (Or.inr rfl) ?_)) go
        · refine mm_iload_n dX6_find_38 rfl rfl ?_
          refine mm_ifeq dX6_find_39 (by omega) (fun h39 => ?_) (fun h39 => ?_)
          · exact mm_drop (by repeat (first | exact trivial | refine And.intro (Or.inl rfl) ?_ | refine And.intro (Or.inr rfl) ?_)) go
          · exfalso; omega
    exact loop 0 (by omega) Q 1 ⟨hRQ, fun _ _ _ _ _ _ => rfl, fun _ _ _ => rfl⟩ (Or.inl ⟨rfl, ⟨hQ16, hQ17⟩, fun z => absurd z (by omega)⟩)
  refine mm_start (ls := [(2, 29), (0, h), (2, (rc : Int) + 1), (9, 0), (9, 0), (9, 0), (9, 0), (9, 0)]) rfl ?_
  refine mm_aload_n dX6_find_0 rfl rfl ?_
  refine mm_iconst dX6_find_1 rfl ?_
  refine mm_puti dX6_find_2 rfl fl_X6_63 (c := rc) rfl hrw.c0 hrw.1 rfl (fun M2 hM2 => ?_)
  have hR2 : mm_Rf M2 := by rw [hM2]; exact hR.up (mm_rt_row hrw (by omega))
  refine mm_aload_n dX6_find_5 rfl rfl ?_
  refine mm_iload_n dX6_find_6 rfl rfl ?_
  refine mm_V1g (M1 := M2) dX6_find_7 rfl lk_X6_69 (c := 28) rfl (by decide) rfl (by simp) rfl rfl rfl ((by have e : ∀ a, a ≠ rc → M2 a = M a := fun a ha => (by rw [hM2, mm_up_row ha]); have := c_X6_weighOptions (X := X) (M := M2) (h := h) hR2 (kx_ck (fun a a1 a2 => e a (by omega)) hK) (by unfold mm_CA at hA ⊢; rw [e 16 (by omega), e 17 (by omega)]; exact hA) hh; exact this)) ?_
  rintro _ N7 ⟨rfl, p7⟩
  change mm_J _ _ _ _ _ _ _ _ _ _
  have hR7 : mm_Rf N7 := p7.1
  have e7 : ∀ a, a ≠ rc → a ≠ 29 → a ≠ 30 → N7 a = M a := fun a a1 a2 a3 => by rw [p7.2.2.1 a a2 a3, hM2, mm_up_row a1]
  have row7 : N7 rc 2 = 0 := by rw [p7.2.2.1 rc (by omega) (by omega), hM2, mm_up_s]
  have cd : mm_C X Y_X6_drawPaths 243 243 [(2, 29)] N7 (fun r M' => r = (3, 0) ∧ mm_Rf M' ∧ kx_U N7 M' ∧ kx_P (M 4) (M 16) (M 17) M' h n) := by
    have := c_X6_drawPaths (X := X) (M := N7) (h := h) (n := n) hR7 (kx_ck (fun a a1 a2 => e7 a (by omega) (by omega) (by omega)) hK) (by unfold mm_CA at hA ⊢; rw [e7 16 (by omega) (by decide) (by decide), e7 17 (by omega) (by decide) (by decide)]; exact hA) hh (by rw [e7 4 (by omega) (by decide) (by decide)]; exact hn) (fun b c sw b1 c1 s1 => by
      have c2 : (c : Int) < M2 4 0 := by rw [hM2, mm_up_c (by omega)]; rw [e7 4 (by omega) (by decide) (by decide)] at c1; exact c1
      have cb : c < 6 := by
        have h0 : 2 ≤ M 4 0 ∧ M 4 0 ≤ 6 := hV.1
        rw [e7 4 (by omega) (by decide) (by decide)] at c1
        omega
      have := (p7.2.2.2 b c sw b1 c2 s1).1 (by omega)
      unfold kx_W at this ⊢
      rw [e7 4 (by omega) (by decide) (by decide), e7 16 (by omega) (by decide) (by decide), e7 17 (by omega) (by decide) (by decide)]
      rw [hM2, mm_up_row (by omega), mm_up_row (by omega), mm_up_row (by omega)] at this
      exact this)
    rw [e7 4 (by omega) (by decide) (by decide), e7 16 (by omega) (by decide) (by decide), e7 17 (by omega) (by decide) (by decide)] at this
    exact this
  refine mm_aload_n dX6_find_10 rfl rfl ?_
  refine mm_V0g (M1 := N7) dX6_find_11 rfl lk_X6_73 (c := 28) rfl (by decide) rfl  rfl rfl rfl (cd) ?_
  rintro _ N11 ⟨rfl, p11⟩
  change mm_J _ _ _ _ _ _ _ _ _ _
  have hR11 : mm_Rf N11 := p11.1
  refine mm_aload_n dX6_find_14 rfl rfl ?_
  refine mm_ldc2 dX6_find_15 rfl kc_X6_76 ?_
  refine mm_putl dX6_find_18 rfl fl_X6_78 (c := 28) rfl (by decide) rfl rfl (fun M18 hM18 => ?_)
  have hR18 : mm_Rf M18 := by rw [hM18]; exact hR11.up rfl
  refine mm_aload_n dX6_find_21 rfl rfl ?_
  refine mm_lconst1 dX6_find_22 rfl ?_
  refine mm_putl dX6_find_23 rfl fl_X6_82 (c := 28) rfl (by decide) rfl rfl (fun M23 hM23 => ?_)
  have hR23 : mm_Rf M23 := by rw [hM23]; exact hR18.up rfl
  refine mm_iconst dX6_find_26 rfl ?_
  refine mm_istore_n dX6_find_27 rfl (Nat.le_of_ble_eq_true rfl) rfl ?_
  refine mm_iconst dX6_find_28 rfl ?_
  refine mm_istore dX6_find_29 rfl (Nat.le_of_ble_eq_true rfl) rfl ?_
  have r23 : ∀ a, a ≠ 28 → M23 a = N11 a := fun a ha => by rw [hM23, mm_up_row ha, hM18, mm_up_row ha]
  have u11 := p11.2.1
  exact rounds M23 (p11.2.2.cg (fun a a1 a2 => r23 a (by omega))) ⟨hR23, fun a a1 a2 a3 a4 => by rw [r23 a (by omega), u11.2 a (by omega) (by omega) (by omega) (by omega) (by omega)]; exact e7 a a2 (by omega) (by omega), fun b b1 b2 b3 => by rw [hM23, mm_up_i b3, hM18, mm_up_i b2, u11.2 28 (by decide) (by decide) (by decide) (by decide) (by decide)]; exact congrFun (e7 28 (by omega) (by decide) (by decide)) b⟩ (by rw [r23 rc (by omega), u11.2 rc (by omega) (by omega) (by omega) (by omega) (by omega)]; exact row7) (by rw [hM23, mm_up_i (by decide), hM18, mm_up_s]) (by rw [hM23, mm_up_s])
end

