/-! ===== KitePower$LoopFinder: what slants give ===== -/
theorem ks_pa60 {K : Nat → Int} (h : mm_KV K) {sl c w : Int} {sw : Prop} [Decidable sw] (hs : 0 ≤ sl ∧ sl < 3) (hc : 0 ≤ c ∧ c < 6) (hw : 0 ≤ w ∧ w ≤ 60) : 0 ≤ ks_pa K sl c sw w ∧ ks_pa K sl c sw w ≤ 1425600 := by
  obtain ⟨-, -, -, -, -, -, -, -, h8, -, -, hl, hv⟩ := h
  have a := hl sl.toNat (by omega)
  have b := hv c.toNat (by omega)
  unfold ks_pa
  generalize K (20 + sl.toNat) = u at a ⊢
  generalize K (30 + c.toNat) = v at b ⊢
  have c1 := mm_mulb (a := u) (b := w) (A := 99) (B := 60) a.1 a.2 hw.1 hw.2
  have c2 := mm_mulb (a := u * w) (b := w) (A := 99 * 60) (B := 60) c1.1 c1.2 hw.1 hw.2
  have c3 := mm_mulb (a := u * w * w) (b := v) (A := 99 * 60 * 60) (B := 100) c2.1 c2.2 b.1 b.2
  have c4 : 0 ≤ u * w * w * v / 100 ∧ u * w * w * v / 100 ≤ 356400 := by omega
  have c5 := mm_mulb (a := u * w * w * v / 100) (b := K 8) (A := 356400) (B := 400) c4.1 c4.2 (by omega) h8.2
  split <;> omega
/-- what the first l slants tell of an option: the first of those that give most, and what -/
def kx_B (K : Nat → Int) (c : Int) (P : Prop) [Decidable P] (lo hi : Int) (i : Int) : Prop := ks_bears K (ks_pa K i c P lo) (ks_pa K i c P hi)
def kx_g (K : Nat → Int) (c : Int) (P : Prop) [Decidable P] (lo hi d : Int) (i : Int) : Int := ks_w K d (ks_pa K i c P (if d = 2 then hi else lo))
theorem kx_gb {K : Nat → Int} {c : Nat} {P : Prop} [Decidable P] {lo hi d : Int} {j : Nat} (hV : mm_KV K) (hc : c < 6) (hj : j < 3) (hlo : 0 ≤ lo ∧ lo ≤ 60) (hhi : 0 ≤ hi ∧ hi ≤ 60) : -5800000 ≤ kx_g K c P lo hi d j ∧ kx_g K c P lo hi d j ≤ 5800000 := by
  obtain ⟨w, hw⟩ : ∃ w, w = (if d = 2 then hi else lo) := ⟨_, rfl⟩
  have hwb : 0 ≤ w ∧ w ≤ 60 := by rw [hw]; split <;> omega
  have hp := ks_pa60 (sw := P) hV (sl := (j : Int)) (c := (c : Int)) ⟨by omega, by omega⟩ ⟨by omega, by omega⟩ hwb
  unfold kx_g
  rw [← hw]
  unfold ks_w
  obtain ⟨-, -, -, -, -, -, h6, h7, -⟩ := hV
  have := mm_mulb (a := ks_pa K j c P w) (b := K 7) (A := 1425600) (B := 400) hp.1 hp.2 h7.1 h7.2
  have e1 := Int.ediv_nonneg this.1 (show (0 : Int) ≤ 100 by omega)
  split
  · omega
  · split <;> omega
def kx_S (B : Int → Prop) (G : Int → Int) (l : Nat) (sl g : Int) : Prop := (sl = -1 ∧ ∀ i : Nat, i < l → ¬ B i) ∨ ∃ j : Nat, j < l ∧ sl = (j : Int) ∧ B j ∧ g = G j ∧ ∀ i : Nat, i < l → B i → G i ≤ g ∧ (G i = g → j ≤ i)
theorem kx_S.no {B : Int → Prop} {G : Int → Int} {l : Nat} {sl g : Int} (h : kx_S B G l sl g) (hn : ¬ B l) : kx_S B G (l + 1) sl g := by
  rcases h with ⟨q1, q2⟩ | ⟨j, j1, j2, j3, j4, j5⟩
  · refine Or.inl ⟨q1, fun i hi => ?_⟩
    by_cases c : i = l
    · rw [c]; exact hn
    · exact q2 i (by omega)
  · refine Or.inr ⟨j, by omega, j2, j3, j4, fun i hi hB => ?_⟩
    by_cases c : i = l
    · rw [c] at hB; exact absurd hB hn
    · exact j5 i (by omega) hB
theorem kx_S.old {B : Int → Prop} {G : Int → Int} {l : Nat} {sl g : Int} (h : kx_S B G l sl g) (h1 : sl ≠ -1) (h2 : G l ≤ g) : kx_S B G (l + 1) sl g := by
  rcases h with ⟨q1, q2⟩ | ⟨j, j1, j2, j3, j4, j5⟩
  · exact absurd q1 h1
  · refine Or.inr ⟨j, by omega, j2, j3, j4, fun i hi hB => ?_⟩
    by_cases c : i = l
    · rw [c]; exact ⟨h2, fun _ => by omega⟩
    · exact j5 i (by omega) hB
theorem kx_S.new {B : Int → Prop} {G : Int → Int} {l : Nat} {sl g : Int} (h : kx_S B G l sl g) (hB : B l) (h2 : sl = -1 ∨ g < G l) : kx_S B G (l + 1) (l : Int) (G l) := by
  refine Or.inr ⟨l, by omega, rfl, hB, rfl, fun i hi hBi => ?_⟩
  by_cases c : i = l
  · rw [c]; exact ⟨Int.le_refl _, fun _ => Nat.le_refl l⟩
  · rcases h with ⟨q1, q2⟩ | ⟨j, j1, j2, j3, j4, j5⟩
    · exact absurd hBi (q2 i (by omega))
    · have := (j5 i (by omega) hBi).1
      rcases h2 with z | z
      · omega
      · exact ⟨by omega, fun y => by omega⟩
/-- only slants and gains of an option change -/
def kx_OO (M N : mm_M) (o : Nat) : Prop := mm_Rf N ∧ (∀ a, a ≠ 29 → a ≠ 30 → N a = M a) ∧ ∀ i, i < o ∨ o + 3 ≤ i → N 29 i = M 29 i ∧ N 30 i = M 30 i
section
variable {X : mm_X} {M : mm_M}
theorem c_X6_optionOf {b c : Nat} {P : Prop} [Decidable P] (hb : b < 5) (hc : c < 6) : mm_Fn X Y_X6_optionOf 243 [(0, (b : Int)), (0, (c : Int)), (0, mm_b P)] M (0, (((b * 6 + c) * 2 + (if P then 1 else 0)) * 3 : Nat)) M := by
  refine mm_startF (ls := [(0, (b : Int)), (0, (c : Int)), (0, mm_b P)]) rfl ?_
  by_cases hP : P
  · rw [mm_b_t hP, if_pos hP]
    refine mm_iload_n dX6_optionOf_0 rfl rfl ?_
    refine mm_bipush dX6_optionOf_1 rfl (by decide) ?_
    refine mm_imul dX6_optionOf_3 rfl ?_
    refine mm_iload_n dX6_optionOf_4 rfl rfl ?_
    refine mm_iadd dX6_optionOf_5 rfl ?_
    refine mm_iconst dX6_optionOf_6 rfl ?_
    refine mm_imul dX6_optionOf_7 rfl ?_
    refine mm_iload_n dX6_optionOf_8 rfl rfl ?_
    refine mm_ifeq dX6_optionOf_9 (by omega) (fun h => absurd h (by decide)) (fun _ => ?_)
    refine mm_iconst dX6_optionOf_12 rfl ?_
    refine mm_goto dX6_optionOf_13 ?_
    refine mm_iadd dX6_optionOf_17 rfl ?_
    refine mm_iconst dX6_optionOf_18 rfl ?_
    refine mm_imul dX6_optionOf_19 rfl ?_
    refine mm_iret dX6_optionOf_20 rfl rfl ?_
    exact mm_fin (by omega) rfl
  · rw [mm_b_f hP, if_neg hP]
    refine mm_iload_n dX6_optionOf_0 rfl rfl ?_
    refine mm_bipush dX6_optionOf_1 rfl (by decide) ?_
    refine mm_imul dX6_optionOf_3 rfl ?_
    refine mm_iload_n dX6_optionOf_4 rfl rfl ?_
    refine mm_iadd dX6_optionOf_5 rfl ?_
    refine mm_iconst dX6_optionOf_6 rfl ?_
    refine mm_imul dX6_optionOf_7 rfl ?_
    refine mm_iload_n dX6_optionOf_8 rfl rfl ?_
    refine mm_ifeq dX6_optionOf_9 (by omega) (fun _ => ?_) (fun h => absurd (by decide) h)
    refine mm_iconst dX6_optionOf_16 rfl ?_
    refine mm_iadd dX6_optionOf_17 rfl ?_
    refine mm_iconst dX6_optionOf_18 rfl ?_
    refine mm_imul dX6_optionOf_19 rfl ?_
    refine mm_iret dX6_optionOf_20 rfl rfl ?_
    exact mm_fin (by omega) rfl
theorem c_X6_weighOption {o c : Nat} {P : Prop} [Decidable P] {lo hi : Int} (hR : mm_Rf M) (hK : mm_CK M) (ho : o + 3 ≤ 180) (hc : c < 6) (hlo : 0 ≤ lo ∧ lo ≤ 60) (hhi : 0 ≤ hi ∧ hi ≤ 60) (h0 : ∀ d, d < 3 → M 29 (o + d) = -1) :
    mm_C X Y_X6_weighOption 243 243 [(2, 29), (0, (o : Int)), (0, (c : Int)), (0, mm_b P), (0, lo), (0, hi)] M (fun r M' => r = (3, 0) ∧ mm_Rf M' ∧ kx_OO M M' o ∧ ∀ d : Nat, d < 3 → kx_S (kx_B (M 4) c P lo hi) (kx_g (M 4) c P lo hi d) (M 4 10).toNat (M' 29 (o + d)) (M' 30 (o + d))) := by
  obtain ⟨Φ, hΦ⟩ : ∃ Φ : mm_V → mm_M → Prop, Φ = (fun r M' => r = (3, 0) ∧ mm_Rf M' ∧ kx_OO M M' o ∧ ∀ d : Nat, d < 3 → kx_S (kx_B (M 4) c P lo hi) (kx_g (M 4) c P lo hi d) (M 4 10).toNat (M' 29 (o + d)) (M' 30 (o + d))) := ⟨_, rfl⟩
  rw [← hΦ]
  have hV := hK.1
  have h10 : 1 ≤ M 4 10 ∧ M 4 10 ≤ 3 := by
    obtain ⟨-, -, -, -, -, -, -, -, -, -, q, -⟩ := hV
    exact q
  obtain ⟨L, hL⟩ : ∃ L, L = (M 4 10).toNat := ⟨_, rfl⟩
  have hLi : M 4 10 = (L : Int) := by omega
  have e4 : ∀ N, kx_OO M N o → N 4 = M 4 := fun N h => h.2.1 4 (by decide) (by decide)
  have ck : ∀ N, kx_OO M N o → mm_CK N := fun N h => kx_ck (fun a a1 a2 => h.2.1 a (by omega) (by omega)) hK
  -- the drums
  have inner : ∀ l : Nat, l < L → kx_B (M 4) c P lo hi l →
      (∀ N, kx_OO M N o → (∀ d : Nat, d < 3 → kx_S (kx_B (M 4) c P lo hi) (kx_g (M 4) c P lo hi d) (l + 1) (N 29 (o + d)) (N 30 (o + d))) → mm_J X Y_X6_weighOption 243 243 243 147 [(2, 29), (0, (o : Int)), (0, (c : Int)), (0, mm_b P), (0, lo), (0, hi), (0, (l : Int)), (9, 0), (9, 0), (9, 0), (9, 0)] [] N Φ) →
      ∀ d : Nat, d ≤ 3 → ∀ N, kx_OO M N o → (∀ e : Nat, e < d → kx_S (kx_B (M 4) c P lo hi) (kx_g (M 4) c P lo hi e) (l + 1) (N 29 (o + e)) (N 30 (o + e))) → (∀ e : Nat, d ≤ e → e < 3 → kx_S (kx_B (M 4) c P lo hi) (kx_g (M 4) c P lo hi e) l (N 29 (o + e)) (N 30 (o + e))) →
      mm_J X Y_X6_weighOption 243 243 243 62 [(2, 29), (0, (o : Int)), (0, (c : Int)), (0, mm_b P), (0, lo), (0, hi), (0, (l : Int)), (0, ks_pa (M 4) l c P lo), (0, ks_pa (M 4) l c P hi), (0, (d : Int)), (9, 0)] [] N Φ := by
    intro l hl hB out
    have p1 := ks_pa60 (sw := P) hV (sl := (l : Int)) (c := (c : Int)) ⟨by omega, by omega⟩ ⟨by omega, by omega⟩ hlo
    have p2 := ks_pa60 (sw := P) hV (sl := (l : Int)) (c := (c : Int)) ⟨by omega, by omega⟩ ⟨by omega, by omega⟩ hhi
    refine mm_lp ?_
    intro d hd ih N hO w1 w2
    have hRN := hO.1
    by_cases hlt : d < 3
    · have hw := w2 d (Nat.le_refl d) hlt
      obtain ⟨p, hp⟩ : ∃ p, p = (if (d : Int) = 2 then ks_pa (M 4) l c P hi else ks_pa (M 4) l c P lo) := ⟨_, rfl⟩
      have hpb : 0 ≤ p ∧ p ≤ 1425600 := by rw [hp]; split <;> assumption
      have cw := c_X4_workOf (X := X) (M := N) (d := (d : Int)) (p := p) hRN (ck N hO) (by omega) hpb
      rw [e4 N hO] at cw
      have eg : ks_w (M 4) d p = kx_g (M 4) c P lo hi d l := by
        unfold kx_g
        rw [hp]
        split <;> rfl
      rw [eg] at cw
      have pick : ∀ U, kx_OO M U o → (∀ i, i ≠ o + d → U 29 i = N 29 i ∧ U 30 i = N 30 i) → kx_S (kx_B (M 4) c P lo hi) (kx_g (M 4) c P lo hi d) (l + 1) (U 29 (o + d)) (U 30 (o + d)) → mm_J X Y_X6_weighOption 243 243 243 62 [(2, 29), (0, (o : Int)), (0, (c : Int)), (0, mm_b P), (0, lo), (0, hi), (0, (l : Int)), (0, ks_pa (M 4) l c P lo), (0, ks_pa (M 4) l c P hi), (0, (d : Int) + 1), (9, 0)] [] U Φ := by
        intro U hU f1 f2
        have go := ih hlt U hU (fun e he => by
          by_cases ce : e = d
          · rw [ce]; exact f2
          · rw [(f1 (o + e) (by omega)).1, (f1 (o + e) (by omega)).2]; exact w1 e (by omega)) (fun e e1 e2 => by
          rw [(f1 (o + e) (by omega)).1, (f1 (o + e) (by omega)).2]; exact w2 e (by omega) e2)
        rw [show ((d + 1 : Nat) : Int) = (d : Int) + 1 by omega] at go
        exact go
      have fr : ∀ a b U, (U = mm_up (mm_up N 29 (o + d) a) 30 (o + d) b) → mm_Rf U → kx_OO M U o ∧ (∀ i, i ≠ o + d → U 29 i = N 29 i ∧ U 30 i = N 30 i) := by
        intro a b U hU hRU
        have f : ∀ i, i ≠ o + d → U 29 i = N 29 i ∧ U 30 i = N 30 i := fun i hi => ⟨by rw [hU, mm_up_c (by decide), mm_up_i hi], by rw [hU, mm_up_i hi, mm_up_c (by decide)]⟩
        refine ⟨⟨hRU, fun x x1 x2 => by rw [hU, mm_up_row x2, mm_up_row x1]; exact hO.2.1 x x1 x2, fun i hi => ?_⟩, f⟩
        have q := hO.2.2 i hi
        have q2 := f i (by omega)
        exact ⟨by rw [q2.1, q.1], by rw [q2.2, q.2]⟩
      have same : N 29 (o + d) ≠ -1 → kx_g (M 4) c P lo hi d l ≤ N 30 (o + d) → mm_J X Y_X6_weighOption 243 243 243 62 [(2, 29), (0, (o : Int)), (0, (c : Int)), (0, mm_b P), (0, lo), (0, hi), (0, (l : Int)), (0, ks_pa (M 4) l c P lo), (0, ks_pa (M 4) l c P hi), (0, (d : Int) + 1), (9, 0)] [] N Φ := fun a b => pick N hO (fun _ _ => ⟨rfl, rfl⟩) (hw.old a b)
      have news : (N 29 (o + d) = -1 ∨ N 30 (o + d) < kx_g (M 4) c P lo hi d l) → ∀ U, (U = mm_up (mm_up N 29 (o + d) (l : Int)) 30 (o + d) (kx_g (M 4) c P lo hi d l)) → mm_Rf U → mm_J X Y_X6_weighOption 243 243 243 62 [(2, 29), (0, (o : Int)), (0, (c : Int)), (0, mm_b P), (0, lo), (0, hi), (0, (l : Int)), (0, ks_pa (M 4) l c P lo), (0, ks_pa (M 4) l c P hi), (0, (d : Int) + 1), (9, 0)] [] U Φ := by
        intro a U hU hRU
        obtain ⟨f1, f2⟩ := fr _ _ U hU hRU
        refine pick U f1 f2 ?_
        rw [hU, mm_up_s, mm_up_c (by decide), mm_up_s]
        exact hw.new hB a
      have gbn : -5800000 ≤ kx_g (M 4) c P lo hi d l ∧ kx_g (M 4) c P lo hi d l ≤ 5800000 := by
        rw [← eg]
        unfold ks_w
        obtain ⟨-, -, -, -, -, -, h6, h7, -⟩ := hV
        have := mm_mulb (a := p) (b := M 4 7) (A := 1425600) (B := 400) hpb.1 hpb.2 h7.1 h7.2
        have e1 := Int.ediv_nonneg this.1 (show (0 : Int) ≤ 100 by omega)
        split
        · omega
        · split <;> omega
      have slb : -1 ≤ N 29 (o + d) ∧ N 29 (o + d) ≤ 2 := by
        rcases hw with ⟨q, -⟩ | ⟨j, j1, j2, -⟩ <;> omega
      have gb2 : N 29 (o + d) = -1 ∨ (-5800000 ≤ N 30 (o + d) ∧ N 30 (o + d) ≤ 5800000) := by
        rcases hw with ⟨q, -⟩ | ⟨j, j1, j2, j3, j4, -⟩
        · exact Or.inl q
        · right; rw [j4]; exact kx_gb hV hc (by omega) hlo hhi
      by_cases d2 : (d : Int) = 2
      · rw [if_pos d2] at hp
        rw [hp] at cw
        refine mm_iload dX6_weighOption_62 rfl rfl ?_
        refine mm_iconst dX6_weighOption_64 rfl ?_
        refine mm_icge dX6_weighOption_65 (by omega) (by omega) (fun h65 => ?_) (fun h65 => ?_)
        · exfalso; omega
        · refine mm_aload_n dX6_weighOption_68 rfl rfl ?_
          refine mm_getr dX6_weighOption_69 rfl fl_X6_55 (c := 28) rfl (by decide) rfl rfl (hRN.at (c := 28) (i := 0) (v := 4) rfl (by decide)) ?_
          refine mm_iload dX6_weighOption_72 rfl rfl ?_
          refine mm_iload dX6_weighOption_74 rfl rfl ?_
          refine mm_iconst dX6_weighOption_76 rfl ?_
          refine mm_icne dX6_weighOption_77 (by omega) (by omega) (fun h77 => ?_) (fun h77 => ?_)
          · exfalso; omega
          · refine mm_iload dX6_weighOption_80 rfl rfl ?_
            refine mm_goto dX6_weighOption_82 ?_
            refine mm_V2i dX6_weighOption_87 rfl lk_X6_147 (c := 3) rfl (by decide) rfl (by simp) (by simp) rfl rfl rfl (cw) ?_
            refine mm_istore dX6_weighOption_90 rfl (Nat.le_of_ble_eq_true rfl) rfl ?_
            refine mm_aload_n dX6_weighOption_92 rfl rfl ?_
            refine mm_getr dX6_weighOption_93 rfl fl_X6_13 (c := 28) rfl (by decide) rfl rfl (hRN.at (c := 28) (i := 2) (v := 30) rfl (by decide)) ?_
            refine mm_iload_n dX6_weighOption_96 rfl rfl ?_
            refine mm_iload dX6_weighOption_97 rfl rfl ?_
            refine mm_iadd dX6_weighOption_99 rfl ?_
            refine mm_ialk (k0 := o + d) dX6_weighOption_100 rfl (c := 29) rfl (by decide) rfl (by omega) (by omega) ?_
            refine mm_iconst dX6_weighOption_101 rfl ?_
            refine mm_iceq dX6_weighOption_102 (by omega) (by omega) (fun h102 => ?_) (fun h102 => ?_)
            · refine mm_aload_n dX6_weighOption_119 rfl rfl ?_
              refine mm_getr dX6_weighOption_120 rfl fl_X6_13 (c := 28) rfl (by decide) rfl rfl (hRN.at (c := 28) (i := 2) (v := 30) rfl (by decide)) ?_
              refine mm_iload_n dX6_weighOption_123 rfl rfl ?_
              refine mm_iload dX6_weighOption_124 rfl rfl ?_
              refine mm_iadd dX6_weighOption_126 rfl ?_
              refine mm_iload dX6_weighOption_127 rfl rfl ?_
              refine mm_istk (k0 := o + d) dX6_weighOption_129 rfl (c := 29) rfl (by decide) rfl (by omega) (by omega) (fun M129 hM129 => ?_)
              have hR129 : mm_Rf M129 := by rw [hM129]; exact hRN.up (mm_rt_ar (t := 0) rfl (by decide))
              refine mm_aload_n dX6_weighOption_130 rfl rfl ?_
              refine mm_getr dX6_weighOption_131 rfl fl_X6_17 (c := 28) rfl (by decide) rfl rfl (hR129.at (c := 28) (i := 3) (v := 31) rfl (by decide)) ?_
              refine mm_iload_n dX6_weighOption_134 rfl rfl ?_
              refine mm_iload dX6_weighOption_135 rfl rfl ?_
              refine mm_iadd dX6_weighOption_137 rfl ?_
              refine mm_iload dX6_weighOption_138 rfl rfl ?_
              refine mm_istk (k0 := o + d) dX6_weighOption_140 rfl (c := 30) rfl (by decide) rfl (by omega) (by omega) (fun M140 hM140 => ?_)
              have hR140 : mm_Rf M140 := by rw [hM140]; exact hR129.up (mm_rt_ar (t := 0) rfl (by decide))
              refine mm_iinc dX6_weighOption_141 rfl rfl (Nat.le_of_ble_eq_true rfl) rfl ?_
              refine mm_goto dX6_weighOption_144 ?_
              first
              | exact mm_drop (by repeat (first | exact trivial | refine And.intro (Or.inl rfl) ?_ | refine And.intro (Or.inr rfl) ?_)) (same (by omega) (by omega))
              | exact mm_drop (by repeat (first | exact trivial | refine And.intro (Or.inl rfl) ?_ | refine And.intro (Or.inr rfl) ?_)) (news (by omega) _ (by rw [hM140, hM129]) hR140)
            · refine mm_iload dX6_weighOption_105 rfl rfl ?_
              refine mm_aload_n dX6_weighOption_107 rfl rfl ?_
              refine mm_getr dX6_weighOption_108 rfl fl_X6_17 (c := 28) rfl (by decide) rfl rfl (hRN.at (c := 28) (i := 3) (v := 31) rfl (by decide)) ?_
              refine mm_iload_n dX6_weighOption_111 rfl rfl ?_
              refine mm_iload dX6_weighOption_112 rfl rfl ?_
              refine mm_iadd dX6_weighOption_114 rfl ?_
              refine mm_ialk (k0 := o + d) dX6_weighOption_115 rfl (c := 30) rfl (by decide) rfl (by omega) (by omega) ?_
              refine mm_icle dX6_weighOption_116 (by omega) (by omega) (fun h116 => ?_) (fun h116 => ?_)
              · refine mm_iinc dX6_weighOption_141 rfl rfl (Nat.le_of_ble_eq_true rfl) rfl ?_
                refine mm_goto dX6_weighOption_144 ?_
                first
                | exact mm_drop (by repeat (first | exact trivial | refine And.intro (Or.inl rfl) ?_ | refine And.intro (Or.inr rfl) ?_)) (same (by omega) (by omega))
                | exact mm_drop (by repeat (first | exact trivial | refine And.intro (Or.inl rfl) ?_ | refine And.intro (Or.inr rfl) ?_)) (news (by omega) _ (by rw [hM140, hM129]) hRN)
              · refine mm_aload_n dX6_weighOption_119 rfl rfl ?_
                refine mm_getr dX6_weighOption_120 rfl fl_X6_13 (c := 28) rfl (by decide) rfl rfl (hRN.at (c := 28) (i := 2) (v := 30) rfl (by decide)) ?_
                refine mm_iload_n dX6_weighOption_123 rfl rfl ?_
                refine mm_iload dX6_weighOption_124 rfl rfl ?_
                refine mm_iadd dX6_weighOption_126 rfl ?_
                refine mm_iload dX6_weighOption_127 rfl rfl ?_
                refine mm_istk (k0 := o + d) dX6_weighOption_129 rfl (c := 29) rfl (by decide) rfl (by omega) (by omega) (fun M129 hM129 => ?_)
                have hR129 : mm_Rf M129 := by rw [hM129]; exact hRN.up (mm_rt_ar (t := 0) rfl (by decide))
                refine mm_aload_n dX6_weighOption_130 rfl rfl ?_
                refine mm_getr dX6_weighOption_131 rfl fl_X6_17 (c := 28) rfl (by decide) rfl rfl (hR129.at (c := 28) (i := 3) (v := 31) rfl (by decide)) ?_
                refine mm_iload_n dX6_weighOption_134 rfl rfl ?_
                refine mm_iload dX6_weighOption_135 rfl rfl ?_
                refine mm_iadd dX6_weighOption_137 rfl ?_
                refine mm_iload dX6_weighOption_138 rfl rfl ?_
                refine mm_istk (k0 := o + d) dX6_weighOption_140 rfl (c := 30) rfl (by decide) rfl (by omega) (by omega) (fun M140 hM140 => ?_)
                have hR140 : mm_Rf M140 := by rw [hM140]; exact hR129.up (mm_rt_ar (t := 0) rfl (by decide))
                refine mm_iinc dX6_weighOption_141 rfl rfl (Nat.le_of_ble_eq_true rfl) rfl ?_
                refine mm_goto dX6_weighOption_144 ?_
                first
                | exact mm_drop (by repeat (first | exact trivial | refine And.intro (Or.inl rfl) ?_ | refine And.intro (Or.inr rfl) ?_)) (same (by omega) (by omega))
                | exact mm_drop (by repeat (first | exact trivial | refine And.intro (Or.inl rfl) ?_ | refine And.intro (Or.inr rfl) ?_)) (news (by omega) _ (by rw [hM140, hM129]) hR140)
      · rw [if_neg d2] at hp
        rw [hp] at cw
        refine mm_iload dX6_weighOption_62 rfl rfl ?_
        refine mm_iconst dX6_weighOption_64 rfl ?_
        refine mm_icge dX6_weighOption_65 (by omega) (by omega) (fun h65 => ?_) (fun h65 => ?_)
        · exfalso; omega
        · refine mm_aload_n dX6_weighOption_68 rfl rfl ?_
          refine mm_getr dX6_weighOption_69 rfl fl_X6_55 (c := 28) rfl (by decide) rfl rfl (hRN.at (c := 28) (i := 0) (v := 4) rfl (by decide)) ?_
          refine mm_iload dX6_weighOption_72 rfl rfl ?_
          refine mm_iload dX6_weighOption_74 rfl rfl ?_
          refine mm_iconst dX6_weighOption_76 rfl ?_
          refine mm_icne dX6_weighOption_77 (by omega) (by omega) (fun h77 => ?_) (fun h77 => ?_)
          · refine mm_iload dX6_weighOption_85 rfl rfl ?_
            refine mm_V2i dX6_weighOption_87 rfl lk_X6_147 (c := 3) rfl (by decide) rfl (by simp) (by simp) rfl rfl rfl (cw) ?_
            refine mm_istore dX6_weighOption_90 rfl (Nat.le_of_ble_eq_true rfl) rfl ?_
            refine mm_aload_n dX6_weighOption_92 rfl rfl ?_
            refine mm_getr dX6_weighOption_93 rfl fl_X6_13 (c := 28) rfl (by decide) rfl rfl (hRN.at (c := 28) (i := 2) (v := 30) rfl (by decide)) ?_
            refine mm_iload_n dX6_weighOption_96 rfl rfl ?_
            refine mm_iload dX6_weighOption_97 rfl rfl ?_
            refine mm_iadd dX6_weighOption_99 rfl ?_
            refine mm_ialk (k0 := o + d) dX6_weighOption_100 rfl (c := 29) rfl (by decide) rfl (by omega) (by omega) ?_
            refine mm_iconst dX6_weighOption_101 rfl ?_
            refine mm_iceq dX6_weighOption_102 (by omega) (by omega) (fun h102 => ?_) (fun h102 => ?_)
            · refine mm_aload_n dX6_weighOption_119 rfl rfl ?_
              refine mm_getr dX6_weighOption_120 rfl fl_X6_13 (c := 28) rfl (by decide) rfl rfl (hRN.at (c := 28) (i := 2) (v := 30) rfl (by decide)) ?_
              refine mm_iload_n dX6_weighOption_123 rfl rfl ?_
              refine mm_iload dX6_weighOption_124 rfl rfl ?_
              refine mm_iadd dX6_weighOption_126 rfl ?_
              refine mm_iload dX6_weighOption_127 rfl rfl ?_
              refine mm_istk (k0 := o + d) dX6_weighOption_129 rfl (c := 29) rfl (by decide) rfl (by omega) (by omega) (fun M129 hM129 => ?_)
              have hR129 : mm_Rf M129 := by rw [hM129]; exact hRN.up (mm_rt_ar (t := 0) rfl (by decide))
              refine mm_aload_n dX6_weighOption_130 rfl rfl ?_
              refine mm_getr dX6_weighOption_131 rfl fl_X6_17 (c := 28) rfl (by decide) rfl rfl (hR129.at (c := 28) (i := 3) (v := 31) rfl (by decide)) ?_
              refine mm_iload_n dX6_weighOption_134 rfl rfl ?_
              refine mm_iload dX6_weighOption_135 rfl rfl ?_
              refine mm_iadd dX6_weighOption_137 rfl ?_
              refine mm_iload dX6_weighOption_138 rfl rfl ?_
              refine mm_istk (k0 := o + d) dX6_weighOption_140 rfl (c := 30) rfl (by decide) rfl (by omega) (by omega) (fun M140 hM140 => ?_)
              have hR140 : mm_Rf M140 := by rw [hM140]; exact hR129.up (mm_rt_ar (t := 0) rfl (by decide))
              refine mm_iinc dX6_weighOption_141 rfl rfl (Nat.le_of_ble_eq_true rfl) rfl ?_
              refine mm_goto dX6_weighOption_144 ?_
              first
              | exact mm_drop (by repeat (first | exact trivial | refine And.intro (Or.inl rfl) ?_ | refine And.intro (Or.inr rfl) ?_)) (same (by omega) (by omega))
              | exact mm_drop (by repeat (first | exact trivial | refine And.intro (Or.inl rfl) ?_ | refine And.intro (Or.inr rfl) ?_)) (news (by omega) _ (by rw [hM140, hM129]) hR140)
            · refine mm_iload dX6_weighOption_105 rfl rfl ?_
              refine mm_aload_n dX6_weighOption_107 rfl rfl ?_
              refine mm_getr dX6_weighOption_108 rfl fl_X6_17 (c := 28) rfl (by decide) rfl rfl (hRN.at (c := 28) (i := 3) (v := 31) rfl (by decide)) ?_
              refine mm_iload_n dX6_weighOption_111 rfl rfl ?_
              refine mm_iload dX6_weighOption_112 rfl rfl ?_
              refine mm_iadd dX6_weighOption_114 rfl ?_
              refine mm_ialk (k0 := o + d) dX6_weighOption_115 rfl (c := 30) rfl (by decide) rfl (by omega) (by omega) ?_
              refine mm_icle dX6_weighOption_116 (by omega) (by omega) (fun h116 => ?_) (fun h116 => ?_)
              · refine mm_iinc dX6_weighOption_141 rfl rfl (Nat.le_of_ble_eq_true rfl) rfl ?_
                refine mm_goto dX6_weighOption_144 ?_
                first
                | exact mm_drop (by repeat (first | exact trivial | refine And.intro (Or.inl rfl) ?_ | refine And.intro (Or.inr rfl) ?_)) (same (by omega) (by omega))
                | exact mm_drop (by repeat (first | exact trivial | refine And.intro (Or.inl rfl) ?_ | refine And.intro (Or.inr rfl) ?_)) (news (by omega) _ (by rw [hM140, hM129]) hRN)
              · refine mm_aload_n dX6_weighOption_119 rfl rfl ?_
                refine mm_getr dX6_weighOption_120 rfl fl_X6_13 (c := 28) rfl (by decide) rfl rfl (hRN.at (c := 28) (i := 2) (v := 30) rfl (by decide)) ?_
                refine mm_iload_n dX6_weighOption_123 rfl rfl ?_
                refine mm_iload dX6_weighOption_124 rfl rfl ?_
                refine mm_iadd dX6_weighOption_126 rfl ?_
                refine mm_iload dX6_weighOption_127 rfl rfl ?_
                refine mm_istk (k0 := o + d) dX6_weighOption_129 rfl (c := 29) rfl (by decide) rfl (by omega) (by omega) (fun M129 hM129 => ?_)
                have hR129 : mm_Rf M129 := by rw [hM129]; exact hRN.up (mm_rt_ar (t := 0) rfl (by decide))
                refine mm_aload_n dX6_weighOption_130 rfl rfl ?_
                refine mm_getr dX6_weighOption_131 rfl fl_X6_17 (c := 28) rfl (by decide) rfl rfl (hR129.at (c := 28) (i := 3) (v := 31) rfl (by decide)) ?_
                refine mm_iload_n dX6_weighOption_134 rfl rfl ?_
                refine mm_iload dX6_weighOption_135 rfl rfl ?_
                refine mm_iadd dX6_weighOption_137 rfl ?_
                refine mm_iload dX6_weighOption_138 rfl rfl ?_
                refine mm_istk (k0 := o + d) dX6_weighOption_140 rfl (c := 30) rfl (by decide) rfl (by omega) (by omega) (fun M140 hM140 => ?_)
                have hR140 : mm_Rf M140 := by rw [hM140]; exact hR129.up (mm_rt_ar (t := 0) rfl (by decide))
                refine mm_iinc dX6_weighOption_141 rfl rfl (Nat.le_of_ble_eq_true rfl) rfl ?_
                refine mm_goto dX6_weighOption_144 ?_
                first
                | exact mm_drop (by repeat (first | exact trivial | refine And.intro (Or.inl rfl) ?_ | refine And.intro (Or.inr rfl) ?_)) (same (by omega) (by omega))
                | exact mm_drop (by repeat (first | exact trivial | refine And.intro (Or.inl rfl) ?_ | refine And.intro (Or.inr rfl) ?_)) (news (by omega) _ (by rw [hM140, hM129]) hR140)
          · exfalso; omega
    · have ed : d = 3 := by omega
      subst ed
      have go := out N hO w1
      refine mm_iload dX6_weighOption_62 rfl rfl ?_
      refine mm_iconst dX6_weighOption_64 rfl ?_
      refine mm_icge dX6_weighOption_65 (by omega) (by omega) (fun h65 => ?_) (fun h65 => ?_)
      · exact mm_drop (by repeat (first | exact trivial | refine And.intro (Or.inl rfl) ?_ | refine And.intro (Or.inr rfl) ?_)) go
      · exfalso; omega
  have loop : ∀ l : Nat, l ≤ L → ∀ N, kx_OO M N o → (∀ d : Nat, d < 3 → kx_S (kx_B (M 4) c P lo hi) (kx_g (M 4) c P lo hi d) l (N 29 (o + d)) (N 30 (o + d))) → mm_J X Y_X6_weighOption 243 243 243 3 [(2, 29), (0, (o : Int)), (0, (c : Int)), (0, mm_b P), (0, lo), (0, hi), (0, (l : Int)), (9, 0), (9, 0), (9, 0), (9, 0)] [] N Φ := by
    refine mm_lp ?_
    intro l hl ih N hO w
    have hRN := hO.1
    have cs := c_X4_slants (X := X) hRN
    rw [e4 N hO, hLi] at cs
    by_cases hlt : l < L
    · have p1 := ks_pa60 (sw := P) hV (sl := (l : Int)) (c := (c : Int)) ⟨by omega, by omega⟩ ⟨by omega, by omega⟩ hlo
      have p2 := ks_pa60 (sw := P) hV (sl := (l : Int)) (c := (c : Int)) ⟨by omega, by omega⟩ ⟨by omega, by omega⟩ hhi
      have c1 := c_X4_pullAt (X := X) (P := P) (M := N) (sl := (l : Int)) (c := (c : Int)) (w := lo) hRN (ck N hO) ⟨by omega, by omega⟩ ⟨by omega, by omega⟩ ⟨hlo.1, by omega⟩
      have c2 := c_X4_pullAt (X := X) (P := P) (M := N) (sl := (l : Int)) (c := (c : Int)) (w := hi) hRN (ck N hO) ⟨by omega, by omega⟩ ⟨by omega, by omega⟩ ⟨hhi.1, by omega⟩
      have c3 := c_X4_bears (X := X) (M := N) (p := ks_pa (M 4) l c P lo) (p2 := ks_pa (M 4) l c P hi) hRN (ck N hO) (by unfold mm_R; omega) (by unfold mm_R; omega)
      rw [e4 N hO] at c1 c2 c3
      have b147 : ∀ U, kx_OO M U o → (∀ d : Nat, d < 3 → kx_S (kx_B (M 4) c P lo hi) (kx_g (M 4) c P lo hi d) (l + 1) (U 29 (o + d)) (U 30 (o + d))) → mm_J X Y_X6_weighOption 243 243 243 147 [(2, 29), (0, (o : Int)), (0, (c : Int)), (0, mm_b P), (0, lo), (0, hi), (0, (l : Int)), (9, 0), (9, 0), (9, 0), (9, 0)] [] U Φ := by
        intro U hU u1
        have hRU := hU.1
        have go := ih hlt U hU u1
        rw [show ((l + 1 : Nat) : Int) = (l : Int) + 1 by omega] at go
        refine mm_iinc dX6_weighOption_147 rfl rfl (Nat.le_of_ble_eq_true rfl) rfl ?_
        refine mm_goto dX6_weighOption_150 ?_
        exact go
      by_cases hB : kx_B (M 4) c P lo hi l
      · have hB' : ks_bears (M 4) (ks_pa (M 4) l c P lo) (ks_pa (M 4) l c P hi) := hB
        rw [mm_b_t hB'] at c3
        have go := inner l hlt hB b147 0 (Nat.zero_le _) N hO (fun e he => absurd he (by omega)) (fun e _ e2 => w e e2)
        refine mm_iload dX6_weighOption_3 rfl rfl ?_
        refine mm_aload_n dX6_weighOption_5 rfl rfl ?_
        refine mm_getr dX6_weighOption_6 rfl fl_X6_55 (c := 28) rfl (by decide) rfl rfl (hRN.at (c := 28) (i := 0) (v := 4) rfl (by decide)) ?_
        refine mm_V0i dX6_weighOption_9 rfl lk_X6_137 (c := 3) rfl (by decide) rfl  rfl rfl rfl (cs) ?_
        refine mm_icge dX6_weighOption_12 (by omega) (by omega) (fun h12 => ?_) (fun h12 => ?_)
        · exfalso; omega
        · refine mm_aload_n dX6_weighOption_15 rfl rfl ?_
          refine mm_getr dX6_weighOption_16 rfl fl_X6_55 (c := 28) rfl (by decide) rfl rfl (hRN.at (c := 28) (i := 0) (v := 4) rfl (by decide)) ?_
          refine mm_iload dX6_weighOption_19 rfl rfl ?_
          refine mm_iload_n dX6_weighOption_21 rfl rfl ?_
          refine mm_iload_n dX6_weighOption_22 rfl rfl ?_
          refine mm_iload dX6_weighOption_23 rfl rfl ?_
          refine mm_V4i dX6_weighOption_25 rfl lk_X6_139 (c := 3) rfl (by decide) rfl (by simp) (by simp) (by simp) (by simp) rfl rfl rfl (c1) ?_
          refine mm_istore dX6_weighOption_28 rfl (Nat.le_of_ble_eq_true rfl) rfl ?_
          refine mm_aload_n dX6_weighOption_30 rfl rfl ?_
          refine mm_getr dX6_weighOption_31 rfl fl_X6_55 (c := 28) rfl (by decide) rfl rfl (hRN.at (c := 28) (i := 0) (v := 4) rfl (by decide)) ?_
          refine mm_iload dX6_weighOption_34 rfl rfl ?_
          refine mm_iload_n dX6_weighOption_36 rfl rfl ?_
          refine mm_iload_n dX6_weighOption_37 rfl rfl ?_
          refine mm_iload dX6_weighOption_38 rfl rfl ?_
          refine mm_V4i dX6_weighOption_40 rfl lk_X6_139 (c := 3) rfl (by decide) rfl (by simp) (by simp) (by simp) (by simp) rfl rfl rfl (c2) ?_
          refine mm_istore dX6_weighOption_43 rfl (Nat.le_of_ble_eq_true rfl) rfl ?_
          refine mm_aload_n dX6_weighOption_45 rfl rfl ?_
          refine mm_getr dX6_weighOption_46 rfl fl_X6_55 (c := 28) rfl (by decide) rfl rfl (hRN.at (c := 28) (i := 0) (v := 4) rfl (by decide)) ?_
          refine mm_iload dX6_weighOption_49 rfl rfl ?_
          refine mm_iload dX6_weighOption_51 rfl rfl ?_
          refine mm_V2i dX6_weighOption_53 rfl lk_X6_143 (c := 3) rfl (by decide) rfl (by simp) (by simp) rfl rfl rfl (c3) ?_
          refine mm_ifeq dX6_weighOption_56 (by omega) (fun h => absurd h (by decide)) (fun _ => ?_)
          refine mm_iconst dX6_weighOption_59 rfl ?_
          refine mm_istore dX6_weighOption_60 rfl (Nat.le_of_ble_eq_true rfl) rfl ?_
          exact go
      · have hB' : ¬ ks_bears (M 4) (ks_pa (M 4) l c P lo) (ks_pa (M 4) l c P hi) := hB
        rw [mm_b_f hB'] at c3
        have go := b147 N hO (fun d hd => (w d hd).no hB)
        refine mm_iload dX6_weighOption_3 rfl rfl ?_
        refine mm_aload_n dX6_weighOption_5 rfl rfl ?_
        refine mm_getr dX6_weighOption_6 rfl fl_X6_55 (c := 28) rfl (by decide) rfl rfl (hRN.at (c := 28) (i := 0) (v := 4) rfl (by decide)) ?_
        refine mm_V0i dX6_weighOption_9 rfl lk_X6_137 (c := 3) rfl (by decide) rfl  rfl rfl rfl (cs) ?_
        refine mm_icge dX6_weighOption_12 (by omega) (by omega) (fun h12 => ?_) (fun h12 => ?_)
        · exfalso; omega
        · refine mm_aload_n dX6_weighOption_15 rfl rfl ?_
          refine mm_getr dX6_weighOption_16 rfl fl_X6_55 (c := 28) rfl (by decide) rfl rfl (hRN.at (c := 28) (i := 0) (v := 4) rfl (by decide)) ?_
          refine mm_iload dX6_weighOption_19 rfl rfl ?_
          refine mm_iload_n dX6_weighOption_21 rfl rfl ?_
          refine mm_iload_n dX6_weighOption_22 rfl rfl ?_
          refine mm_iload dX6_weighOption_23 rfl rfl ?_
          refine mm_V4i dX6_weighOption_25 rfl lk_X6_139 (c := 3) rfl (by decide) rfl (by simp) (by simp) (by simp) (by simp) rfl rfl rfl (c1) ?_
          refine mm_istore dX6_weighOption_28 rfl (Nat.le_of_ble_eq_true rfl) rfl ?_
          refine mm_aload_n dX6_weighOption_30 rfl rfl ?_
          refine mm_getr dX6_weighOption_31 rfl fl_X6_55 (c := 28) rfl (by decide) rfl rfl (hRN.at (c := 28) (i := 0) (v := 4) rfl (by decide)) ?_
          refine mm_iload dX6_weighOption_34 rfl rfl ?_
          refine mm_iload_n dX6_weighOption_36 rfl rfl ?_
          refine mm_iload_n dX6_weighOption_37 rfl rfl ?_
          refine mm_iload dX6_weighOption_38 rfl rfl ?_
          refine mm_V4i dX6_weighOption_40 rfl lk_X6_139 (c := 3) rfl (by decide) rfl (by simp) (by simp) (by simp) (by simp) rfl rfl rfl (c2) ?_
          refine mm_istore dX6_weighOption_43 rfl (Nat.le_of_ble_eq_true rfl) rfl ?_
          refine mm_aload_n dX6_weighOption_45 rfl rfl ?_
          refine mm_getr dX6_weighOption_46 rfl fl_X6_55 (c := 28) rfl (by decide) rfl rfl (hRN.at (c := 28) (i := 0) (v := 4) rfl (by decide)) ?_
          refine mm_iload dX6_weighOption_49 rfl rfl ?_
          refine mm_iload dX6_weighOption_51 rfl rfl ?_
          refine mm_V2i dX6_weighOption_53 rfl lk_X6_143 (c := 3) rfl (by decide) rfl (by simp) (by simp) rfl rfl rfl (c3) ?_
          refine mm_ifeq dX6_weighOption_56 (by omega) (fun _ => ?_) (fun h => absurd (by decide) h)
          exact mm_drop (by repeat (first | exact trivial | refine And.intro (Or.inl rfl) ?_ | refine And.intro (Or.inr rfl) ?_)) go
    · have el : l = L := by omega
      subst el
      refine mm_iload dX6_weighOption_3 rfl rfl ?_
      refine mm_aload_n dX6_weighOption_5 rfl rfl ?_
      refine mm_getr dX6_weighOption_6 rfl fl_X6_55 (c := 28) rfl (by decide) rfl rfl (hRN.at (c := 28) (i := 0) (v := 4) rfl (by decide)) ?_
      refine mm_V0i dX6_weighOption_9 rfl lk_X6_137 (c := 3) rfl (by decide) rfl  rfl rfl rfl (cs) ?_
      refine mm_icge dX6_weighOption_12 (by omega) (by omega) (fun h12 => ?_) (fun h12 => ?_)
      · refine mm_vret dX6_weighOption_153 rfl rfl ?_
        rw [hΦ]; exact ⟨rfl, hRN, hO, by rw [← hL]; exact w⟩
      · exfalso; omega
  refine mm_start (ls := [(2, 29), (0, (o : Int)), (0, (c : Int)), (0, mm_b P), (0, lo), (0, hi), (9, 0), (9, 0), (9, 0), (9, 0), (9, 0)]) rfl ?_
  refine mm_iconst dX6_weighOption_0 rfl ?_
  refine mm_istore dX6_weighOption_1 rfl (Nat.le_of_ble_eq_true rfl) rfl ?_
  exact loop 0 (Nat.zero_le _) M ⟨hR, fun _ _ _ => rfl, fun _ _ => ⟨rfl, rfl⟩⟩ (fun d hd => Or.inl ⟨h0 d hd, fun i hi => absurd hi (by omega)⟩)
end

