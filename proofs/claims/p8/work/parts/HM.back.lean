/-! ===== KitePower$LoopFinder: goesOn, markWaysBack ===== -/
/-- as goesOn tells it -/
def kU_o (N : mm_M) (h : Nat) (layer start length : Int) : Prop := if layer = length then (h : Int) = start else N 40 h = layer ∧ N 39 h = 1
/-- so many steps are left on a round of l steps, one layer a step -/
def kU_g (t : Nat → Nat → Prop) (lay : Nat → Int) (b : Nat) (l : Int) : Nat → Nat → Prop
  | 0, v => v = b
  | r + 1, v => lay v = l - ((r + 1 : Nat) : Int) ∧ ∃ h, t v h ∧ kU_g t lay b l r h
theorem kU_g.D {t : Nat → Nat → Prop} {lay : Nat → Int} {b : Nat} {l : Int} : ∀ {r v : Nat}, kU_g t lay b l r v → kd_D t b r v
  | 0, _, h => h
  | _ + 1, _, ⟨_, h, h1, h2⟩ => ⟨h, h1, h2.D⟩
section
variable {X : mm_X} {M : mm_M} {n : Nat}
theorem c_X6_goesOn {h : Nat} {layer start length b : Int} (hR : mm_Rf M) (hh : h < 288) (h1 : mm_R layer) (h2 : mm_R start) (h3 : mm_R length) (h4 : mm_R (M 40 h)) (h5 : mm_R (M 39 h)) (hb : (b = 1 ∧ kU_o M h layer start length) ∨ (b = 0 ∧ ¬ kU_o M h layer start length)) :
    mm_Fn X Y_X6_goesOn 243 [(2, 29), (0, (h : Int)), (0, layer), (0, start), (0, length)] M (0, b) M := by
  refine mm_startF (ls := [(2, 29), (0, (h : Int)), (0, layer), (0, start), (0, length)]) rfl ?_
  unfold kU_o at hb
  by_cases c : layer = length
  · rw [if_pos c] at hb
    refine mm_iload_n dX6_goesOn_0 rfl rfl ?_
    refine mm_iload dX6_goesOn_1 rfl rfl ?_
    refine mm_icne dX6_goesOn_3 (by omega) (by omega) (fun h3 => ?_) (fun h3 => ?_)
    · exfalso; omega
    · refine mm_iload_n dX6_goesOn_6 rfl rfl ?_
      refine mm_iload_n dX6_goesOn_7 rfl rfl ?_
      refine mm_icne dX6_goesOn_8 (by omega) (by omega) (fun h8 => ?_) (fun h8 => ?_)
      · refine mm_iconst dX6_goesOn_15 rfl ?_
        refine mm_goto dX6_goesOn_16 ?_
        refine mm_zret dX6_goesOn_44 rfl rfl (Or.inl rfl) ?_
        exact mm_fin (by omega) rfl
      · refine mm_iconst dX6_goesOn_11 rfl ?_
        refine mm_goto dX6_goesOn_12 ?_
        refine mm_zret dX6_goesOn_44 rfl rfl (Or.inr rfl) ?_
        exact mm_fin (by omega) rfl
  · rw [if_neg c] at hb
    by_cases c1 : M 40 h = layer
    · by_cases c2 : M 39 h = 1
      · have b1 : b = 1 := by
          rcases hb with q | q
          · exact q.1
          · exact absurd ⟨c1, c2⟩ q.2
        refine mm_iload_n dX6_goesOn_0 rfl rfl ?_
        refine mm_iload dX6_goesOn_1 rfl rfl ?_
        refine mm_icne dX6_goesOn_3 (by omega) (by omega) (fun h3 => ?_) (fun h3 => ?_)
        · refine mm_aload_n dX6_goesOn_19 rfl rfl ?_
          refine mm_getr dX6_goesOn_20 rfl fl_X6_49 (c := 28) rfl (by decide) rfl rfl (hR.at (c := 28) (i := 13) (v := 41) rfl (by decide)) ?_
          refine mm_iload_n dX6_goesOn_23 rfl rfl ?_
          refine mm_ialk (k0 := h) dX6_goesOn_24 rfl (c := 40) rfl (by decide) rfl (by omega) (by omega) ?_
          refine mm_iload_n dX6_goesOn_25 rfl rfl ?_
          refine mm_icne dX6_goesOn_26 (by omega) (by omega) (fun h26 => ?_) (fun h26 => ?_)
          · exfalso; omega
          · refine mm_aload_n dX6_goesOn_29 rfl rfl ?_
            refine mm_getr dX6_goesOn_30 rfl fl_X6_46 (c := 28) rfl (by decide) rfl rfl (hR.at (c := 28) (i := 12) (v := 40) rfl (by decide)) ?_
            refine mm_iload_n dX6_goesOn_33 rfl rfl ?_
            refine mm_ialk (k0 := h) dX6_goesOn_34 rfl (c := 39) rfl (by decide) rfl (by omega) (by omega) ?_
            refine mm_iconst dX6_goesOn_35 rfl ?_
            refine mm_icne dX6_goesOn_36 (by omega) (by omega) (fun h36 => ?_) (fun h36 => ?_)
            · exfalso; omega
            · refine mm_iconst dX6_goesOn_39 rfl ?_
              refine mm_goto dX6_goesOn_40 ?_
              refine mm_zret dX6_goesOn_44 rfl rfl (Or.inr rfl) ?_
              exact mm_fin b1.symm rfl
        · exfalso; omega
      · have b0 : b = 0 := by
          rcases hb with q | q
          · exact absurd q.2.2 c2
          · exact q.1
        refine mm_iload_n dX6_goesOn_0 rfl rfl ?_
        refine mm_iload dX6_goesOn_1 rfl rfl ?_
        refine mm_icne dX6_goesOn_3 (by omega) (by omega) (fun h3 => ?_) (fun h3 => ?_)
        · refine mm_aload_n dX6_goesOn_19 rfl rfl ?_
          refine mm_getr dX6_goesOn_20 rfl fl_X6_49 (c := 28) rfl (by decide) rfl rfl (hR.at (c := 28) (i := 13) (v := 41) rfl (by decide)) ?_
          refine mm_iload_n dX6_goesOn_23 rfl rfl ?_
          refine mm_ialk (k0 := h) dX6_goesOn_24 rfl (c := 40) rfl (by decide) rfl (by omega) (by omega) ?_
          refine mm_iload_n dX6_goesOn_25 rfl rfl ?_
          refine mm_icne dX6_goesOn_26 (by omega) (by omega) (fun h26 => ?_) (fun h26 => ?_)
          · exfalso; omega
          · refine mm_aload_n dX6_goesOn_29 rfl rfl ?_
            refine mm_getr dX6_goesOn_30 rfl fl_X6_46 (c := 28) rfl (by decide) rfl rfl (hR.at (c := 28) (i := 12) (v := 40) rfl (by decide)) ?_
            refine mm_iload_n dX6_goesOn_33 rfl rfl ?_
            refine mm_ialk (k0 := h) dX6_goesOn_34 rfl (c := 39) rfl (by decide) rfl (by omega) (by omega) ?_
            refine mm_iconst dX6_goesOn_35 rfl ?_
            refine mm_icne dX6_goesOn_36 (by omega) (by omega) (fun h36 => ?_) (fun h36 => ?_)
            · refine mm_iconst dX6_goesOn_43 rfl ?_
              refine mm_zret dX6_goesOn_44 rfl rfl (Or.inl rfl) ?_
              exact mm_fin b0.symm rfl
            · exfalso; omega
        · exfalso; omega
    · have b0 : b = 0 := by
        rcases hb with q | q
        · exact absurd q.2.1 c1
        · exact q.1
      refine mm_iload_n dX6_goesOn_0 rfl rfl ?_
      refine mm_iload dX6_goesOn_1 rfl rfl ?_
      refine mm_icne dX6_goesOn_3 (by omega) (by omega) (fun h3 => ?_) (fun h3 => ?_)
      · refine mm_aload_n dX6_goesOn_19 rfl rfl ?_
        refine mm_getr dX6_goesOn_20 rfl fl_X6_49 (c := 28) rfl (by decide) rfl rfl (hR.at (c := 28) (i := 13) (v := 41) rfl (by decide)) ?_
        refine mm_iload_n dX6_goesOn_23 rfl rfl ?_
        refine mm_ialk (k0 := h) dX6_goesOn_24 rfl (c := 40) rfl (by decide) rfl (by omega) (by omega) ?_
        refine mm_iload_n dX6_goesOn_25 rfl rfl ?_
        refine mm_icne dX6_goesOn_26 (by omega) (by omega) (fun h26 => ?_) (fun h26 => ?_)
        · refine mm_iconst dX6_goesOn_43 rfl ?_
          refine mm_zret dX6_goesOn_44 rfl rfl (Or.inl rfl) ?_
          exact mm_fin b0.symm rfl
        · exfalso; omega
      · exfalso; omega
/-- the marks: from where the round is closed in what is left -/
def kU_m (M N : mm_M) (n b : Nat) (l : Int) (v : Nat) : Prop := (N 39 v = 1 ∧ ∃ r : Nat, 1 ≤ r ∧ (r : Int) ≤ l ∧ kU_g (kU_t M n) (M 40) b l r v) ∨ (N 39 v = 0 ∧ ¬ ∃ r : Nat, 1 ≤ r ∧ (r : Int) ≤ l ∧ kU_g (kU_t M n) (M 40) b l r v)
theorem kU_m.go {M N : mm_M} {b h : Nat} {l j : Int} (hm : kU_m M N n b l h) (h40 : N 40 h = M 40 h) (hl : M 40 h ≤ l) (hj : 0 ≤ j) : kU_o N h (j + 1) (b : Int) l ↔ (j + 1 ≤ l ∧ kU_g (kU_t M n) (M 40) b l (l - j - 1).toNat h) := by
  unfold kU_o
  by_cases c : j + 1 = l
  · rw [if_pos c]
    have e : (l - j - 1).toNat = 0 := by omega
    rw [e]
    constructor
    · intro q
      exact ⟨by omega, by show h = b; omega⟩
    · rintro ⟨-, q⟩
      have q : h = b := q
      omega
  · rw [if_neg c, h40]
    constructor
    · rintro ⟨q1, q2⟩
      rcases hm with ⟨-, r, r1, r2, r3⟩ | ⟨z, -⟩
      · have e : (l - j - 1).toNat = r := by
          obtain ⟨r', rfl⟩ : ∃ r', r = r' + 1 := ⟨r - 1, by omega⟩
          have := r3.1
          omega
        rw [e]
        exact ⟨by omega, r3⟩
      · omega
    · rintro ⟨q1, q2⟩
      obtain ⟨r, hr⟩ : ∃ r, (l - j - 1).toNat = r + 1 := ⟨(l - j - 1).toNat - 1, by omega⟩
      rw [hr] at q2
      have e := q2.1
      refine ⟨by omega, ?_⟩
      rcases hm with ⟨z, -⟩ | ⟨-, z⟩
      · exact z
      · exact absurd ⟨r + 1, by omega, by omega, q2⟩ z
theorem c_X6_markWaysBack {M0 : mm_M} {b k e : Nat} {l : Int} {f : Nat → Int} (hR : mm_Rf M) (hG : kU_G M n) (hn2 : n ≤ 288) (hb : b < n) (hI : kU_I M0 M n b k e f) (hk : k < e) (hl : kQ_d b f (M 41 k).toNat + 1 = l) :
    mm_C X Y_X6_markWaysBack 243 243 [(2, 29), (0, (b : Int)), (0, l)] M (fun r M' => r = (3, 0) ∧ mm_Rf M' ∧ (∀ a, a ≠ 39 → M' a = M a) ∧ ∀ v, v < n → kU_m M M' n b l v) := by
  obtain ⟨Φ, hΦ⟩ : ∃ Φ : mm_V → mm_M → Prop, Φ = (fun r M' => r = (3, 0) ∧ mm_Rf M' ∧ (∀ a, a ≠ 39 → M' a = M a) ∧ ∀ v, v < n → kU_m M M' n b l v) := ⟨_, rfl⟩
  rw [← hΦ]
  obtain ⟨hf, he, hy, hQ⟩ := id hI
  have hen := hQ.en
  -- the layers of the queue
  have lq : ∀ i, i < e → M 40 (M 41 i).toNat = kQ_d b f (M 41 i).toNat := by
    intro i hi
    refine hy.d (hQ.qn i hi).2 ?_
    by_cases i0 : i = 0
    · rw [i0]; exact Or.inl hQ.q0
    · right
      have := hQ.fq i (by omega) hi
      omega
  have lb : ∀ i, i < e → 0 ≤ M 40 (M 41 i).toNat ∧ M 40 (M 41 i).toNat ≤ l := by
    intro i hi
    rw [lq i hi]
    have := hQ.up hk i hi
    exact ⟨hQ.dge hi, by omega⟩
  have lall : ∀ v, v < n → -1 ≤ M 40 v ∧ M 40 v ≤ l := by
    intro v hv
    obtain ⟨e', e1, e2, e3, e4⟩ := hI.q hb
    have ee : e' = e := by omega
    rcases e4 v hv with q | ⟨i, i1, i2⟩
    · have := lb 0 (by omega); omega
    · have := lb i (by omega)
      rw [i2, show ((v : Int)).toNat = v by omega] at this
      omega
  have hlb : 1 ≤ l ∧ l ≤ 1000 := by
    have a := hQ.dge hk
    have c := hQ.di k hk
    omega
  have later : ∀ i v, i < e → v < n → M 40 v = M 40 (M 41 i).toNat + 1 → ∃ i', i < i' ∧ i' < e ∧ (M 41 i').toNat = v := by
    intro i v hi hv h
    obtain ⟨e', e1, e2, e3, e4⟩ := hI.q hb
    have ee : e' = e := by omega
    have l0 := lb i hi
    rcases e4 v hv with q | ⟨i', i1, i2⟩
    · omega
    · refine ⟨i', ?_, by omega, by rw [i2]; omega⟩
      by_cases c : i < i'
      · exact c
      · exfalso
        have ev : (M 41 i').toNat = v := by rw [i2]; omega
        by_cases c2 : i' = i
        · rw [c2] at ev; rw [ev] at h; omega
        · have := hQ.so i' i (by omega) hi
          rw [← lq i' (by omega), ← lq i hi, ev] at this
          omega
  -- the paths of a state
  have inner : ∀ i v c0 c1 : Nat, i < e → M 41 i = (v : Int) → v < n → M 31 v = (c0 : Int) → M 31 (v + 1) = (c1 : Int) → c1 ≤ 4320 →
      ∀ N0 : mm_M, (∀ a, a ≠ 39 → N0 a = M a) → (∀ i', i < i' → i' < e → kU_m M N0 n b l (M 41 i').toNat) → (∀ w, w < n → N0 39 w = 0 ∨ N0 39 w = 1) → N0 39 v = 0 →
      (∀ N, mm_Rf N → (∀ a, a ≠ 39 → N a = M a) → (∀ w, w ≠ v → N 39 w = N0 39 w) → kU_m M N n b l v → mm_J X Y_X6_markWaysBack 243 243 243 89 [(2, 29), (0, (b : Int)), (0, l), (0, (i : Int)), (9, 0), (9, 0)] [] N Φ) →
      ∀ x : Nat, x ≤ c1 → ∀ N, mm_Rf N → c0 ≤ x → (∀ a, a ≠ 39 → N a = M a) → (∀ w, w ≠ v → N 39 w = N0 39 w) → ((N 39 v = 0 ∧ ∀ y h : Nat, c0 ≤ y → y < x → M 33 y = (h : Int) → ¬ (M 40 v + 1 ≤ l ∧ kU_g (kU_t M n) (M 40) b l (l - M 40 v - 1).toNat h)) ∨ (N 39 v = 1 ∧ ∃ y h : Nat, c0 ≤ y ∧ y < c1 ∧ M 33 y = (h : Int) ∧ M 40 v + 1 ≤ l ∧ kU_g (kU_t M n) (M 40) b l (l - M 40 v - 1).toNat h)) →
      mm_J X Y_X6_markWaysBack 243 243 243 36 [(2, 29), (0, (b : Int)), (0, l), (0, (i : Int)), (0, (v : Int)), (0, (x : Int))] [] N Φ := by
    intro i v c0 c1 hi hv hvn hc0 hc1 hc4 N0 f0 m0 z0 zv out
    have lv := lb i hi
    have ev : (M 41 i).toNat = v := by rw [hv]; omega
    rw [ev] at lv
    refine mm_lp ?_
    intro x hx ih N hRN hcx hf hw hs
    have e31 : N 31 = M 31 := hf 31 (by decide)
    have e33 : N 33 = M 33 := hf 33 (by decide)
    have e40 : N 40 = M 40 := hf 40 (by decide)
    have k1 : N 31 (v + 1) = (c1 : Int) := by rw [e31]; exact hc1
    by_cases hlt : x < c1
    · obtain ⟨a0, a1, g1, g2, g3, g4, g5⟩ := hG v hvn
      obtain ⟨h, hh, hhe⟩ := g5 x (by omega) (by omega)
      have k33 : N 33 x = (h : Int) := by rw [e33]; exact hhe
      have k40 : N 40 v = M 40 v := by rw [e40]
      have lh := lall h hh
      have nh : N 39 h = 0 ∨ N 39 h = 1 := by
        by_cases c : h = v
        · rw [c]
          rcases hs with q | q
          · exact Or.inl q.1
          · exact Or.inr q.1
        · rw [hw h c]; exact z0 h hh
      have dec : kU_o N h (M 40 v + 1) (b : Int) l ↔ (M 40 v + 1 ≤ l ∧ kU_g (kU_t M n) (M 40) b l (l - M 40 v - 1).toNat h) := by
        by_cases c : M 40 h = M 40 v + 1
        · obtain ⟨i', i1, i2, i3⟩ := later i h hi hh (by rw [ev]; exact c)
          have mm := m0 i' i1 i2
          rw [i3] at mm
          have hv2 : h ≠ v := fun q => by rw [q] at c; omega
          have mN : kU_m M N n b l h := by unfold kU_m at mm ⊢; rw [hw h hv2]; exact mm
          exact mN.go (by rw [e40]) lh.2 lv.1
        · unfold kU_o
          by_cases c2 : M 40 v + 1 = l
          · rw [if_pos c2]
            have e : (l - M 40 v - 1).toNat = 0 := by omega
            rw [e]
            constructor
            · intro q
              exact ⟨by omega, by show h = b; omega⟩
            · rintro ⟨-, q⟩
              have q : h = b := q
              omega
          · rw [if_neg c2, e40]
            constructor
            · rintro ⟨q, -⟩; exact absurd q c
            · rintro ⟨q1, q2⟩
              obtain ⟨r, hr⟩ : ∃ r, (l - M 40 v - 1).toNat = r + 1 := ⟨(l - M 40 v - 1).toNat - 1, by omega⟩
              rw [hr] at q2
              have := q2.1
              omega
      have cg := fun z hz => c_X6_goesOn (X := X) (M := N) (h := h) (layer := M 40 v + 1) (start := (b : Int)) (length := l) (b := z) hRN (by omega) (by unfold mm_R; omega) (by unfold mm_R; omega) (by unfold mm_R; omega) (by rw [e40]; unfold mm_R; omega) (by unfold mm_R; omega) hz
      by_cases ho : kU_o N h (M 40 v + 1) (b : Int) l
      · have c1' := cg 1 (Or.inl ⟨rfl, ho⟩)
        obtain ⟨o1, o2⟩ := dec.mp ho
        refine mm_iload dX6_markWaysBack_36 rfl rfl ?_
        refine mm_aload_n dX6_markWaysBack_38 rfl rfl ?_
        refine mm_getr dX6_markWaysBack_39 rfl fl_X6_20 (c := 28) rfl (by decide) rfl rfl (hRN.at (c := 28) (i := 4) (v := 32) rfl (by decide)) ?_
        refine mm_iload dX6_markWaysBack_42 rfl rfl ?_
        refine mm_iconst dX6_markWaysBack_44 rfl ?_
        refine mm_iadd dX6_markWaysBack_45 rfl ?_
        refine mm_ialk (k0 := v + 1) dX6_markWaysBack_46 rfl (c := 31) rfl (by decide) rfl (by omega) (by omega) ?_
        rw [k1]
        refine mm_icge dX6_markWaysBack_47 (by omega) (by omega) (fun h47 => ?_) (fun h47 => ?_)
        · exfalso; omega
        · refine mm_aload_n dX6_markWaysBack_50 rfl rfl ?_
          refine mm_aload_n dX6_markWaysBack_51 rfl rfl ?_
          refine mm_getr dX6_markWaysBack_52 rfl fl_X6_26 (c := 28) rfl (by decide) rfl rfl (hRN.at (c := 28) (i := 6) (v := 34) rfl (by decide)) ?_
          refine mm_iload dX6_markWaysBack_55 rfl rfl ?_
          refine mm_ialk (k0 := x) dX6_markWaysBack_57 rfl (c := 33) rfl (by decide) rfl (by omega) (by omega) ?_
          rw [k33]
          refine mm_aload_n dX6_markWaysBack_58 rfl rfl ?_
          refine mm_getr dX6_markWaysBack_59 rfl fl_X6_49 (c := 28) rfl (by decide) rfl rfl (hRN.at (c := 28) (i := 13) (v := 41) rfl (by decide)) ?_
          refine mm_iload dX6_markWaysBack_62 rfl rfl ?_
          refine mm_ialk (k0 := v) dX6_markWaysBack_64 rfl (c := 40) rfl (by decide) rfl (by omega) (by omega) ?_
          rw [k40]
          refine mm_iconst dX6_markWaysBack_65 rfl ?_
          refine mm_iadd dX6_markWaysBack_66 rfl ?_
          refine mm_iload_n dX6_markWaysBack_67 rfl rfl ?_
          refine mm_iload_n dX6_markWaysBack_68 rfl rfl ?_
          refine mm_V4i dX6_markWaysBack_69 rfl lk_X6_189 (c := 28) rfl (by decide) rfl (by simp) (by simp) (by simp) (by simp) rfl rfl rfl (c1') ?_
          refine mm_ifeq dX6_markWaysBack_72 (by omega) (fun h => absurd h (by decide)) (fun _ => ?_)
          refine mm_aload_n dX6_markWaysBack_75 rfl rfl ?_
          refine mm_getr dX6_markWaysBack_76 rfl fl_X6_46 (c := 28) rfl (by decide) rfl rfl (hRN.at (c := 28) (i := 12) (v := 40) rfl (by decide)) ?_
          refine mm_iload dX6_markWaysBack_79 rfl rfl ?_
          refine mm_iconst dX6_markWaysBack_81 rfl ?_
          refine mm_istk (k0 := v) dX6_markWaysBack_82 rfl (c := 39) rfl (by decide) rfl (by omega) (by omega) (fun M82 hM82 => ?_)
          have hR82 : mm_Rf M82 := by rw [hM82]; exact hRN.up (mm_rt_ar (t := 0) rfl (by decide))
          refine mm_iinc dX6_markWaysBack_83 rfl rfl (Nat.le_of_ble_eq_true rfl) rfl ?_
          refine mm_goto dX6_markWaysBack_86 ?_
          have go := ih hlt M82 hR82 (by omega) (fun a ha => by rw [hM82, mm_up_row ha]; exact hf a ha) (fun w hw2 => by rw [hM82, mm_up_i hw2]; exact hw w hw2) (Or.inr ⟨by rw [hM82, mm_up_s], x, h, hcx, hlt, hhe, o1, o2⟩)
          rw [show ((x + 1 : Nat) : Int) = (x : Int) + 1 by omega] at go
          exact go
      · have c0' := cg 0 (Or.inr ⟨rfl, ho⟩)
        have go := ih hlt N hRN (by omega) hf hw (by
          rcases hs with ⟨s1, s2⟩ | s
          · refine Or.inl ⟨s1, fun y w y1 y2 y3 => ?_⟩
            by_cases cy : y = x
            · have ew : w = h := by rw [cy, hhe] at y3; omega
              rw [ew]
              exact fun q => ho (dec.mpr q)
            · exact s2 y w y1 (by omega) y3
          · exact Or.inr s)
        rw [show ((x + 1 : Nat) : Int) = (x : Int) + 1 by omega] at go
        refine mm_iload dX6_markWaysBack_36 rfl rfl ?_
        refine mm_aload_n dX6_markWaysBack_38 rfl rfl ?_
        refine mm_getr dX6_markWaysBack_39 rfl fl_X6_20 (c := 28) rfl (by decide) rfl rfl (hRN.at (c := 28) (i := 4) (v := 32) rfl (by decide)) ?_
        refine mm_iload dX6_markWaysBack_42 rfl rfl ?_
        refine mm_iconst dX6_markWaysBack_44 rfl ?_
        refine mm_iadd dX6_markWaysBack_45 rfl ?_
        refine mm_ialk (k0 := v + 1) dX6_markWaysBack_46 rfl (c := 31) rfl (by decide) rfl (by omega) (by omega) ?_
        rw [k1]
        refine mm_icge dX6_markWaysBack_47 (by omega) (by omega) (fun h47 => ?_) (fun h47 => ?_)
        · exfalso; omega
        · refine mm_aload_n dX6_markWaysBack_50 rfl rfl ?_
          refine mm_aload_n dX6_markWaysBack_51 rfl rfl ?_
          refine mm_getr dX6_markWaysBack_52 rfl fl_X6_26 (c := 28) rfl (by decide) rfl rfl (hRN.at (c := 28) (i := 6) (v := 34) rfl (by decide)) ?_
          refine mm_iload dX6_markWaysBack_55 rfl rfl ?_
          refine mm_ialk (k0 := x) dX6_markWaysBack_57 rfl (c := 33) rfl (by decide) rfl (by omega) (by omega) ?_
          rw [k33]
          refine mm_aload_n dX6_markWaysBack_58 rfl rfl ?_
          refine mm_getr dX6_markWaysBack_59 rfl fl_X6_49 (c := 28) rfl (by decide) rfl rfl (hRN.at (c := 28) (i := 13) (v := 41) rfl (by decide)) ?_
          refine mm_iload dX6_markWaysBack_62 rfl rfl ?_
          refine mm_ialk (k0 := v) dX6_markWaysBack_64 rfl (c := 40) rfl (by decide) rfl (by omega) (by omega) ?_
          rw [k40]
          refine mm_iconst dX6_markWaysBack_65 rfl ?_
          refine mm_iadd dX6_markWaysBack_66 rfl ?_
          refine mm_iload_n dX6_markWaysBack_67 rfl rfl ?_
          refine mm_iload_n dX6_markWaysBack_68 rfl rfl ?_
          refine mm_V4i dX6_markWaysBack_69 rfl lk_X6_189 (c := 28) rfl (by decide) rfl (by simp) (by simp) (by simp) (by simp) rfl rfl rfl (c0') ?_
          refine mm_ifeq dX6_markWaysBack_72 (by omega) (fun _ => ?_) (fun h => absurd (by decide) h)
          refine mm_iinc dX6_markWaysBack_83 rfl rfl (Nat.le_of_ble_eq_true rfl) rfl ?_
          refine mm_goto dX6_markWaysBack_86 ?_
          exact go
    · have ex : x = c1 := by omega
      subst ex
      have step : ∀ h : Nat, kU_t M n v h ↔ ∃ y : Nat, c0 ≤ y ∧ y < x ∧ M 33 y = (h : Int) := by
        intro h
        constructor
        · rintro ⟨-, y, y1, y2, y3⟩
          exact ⟨y, by omega, by omega, y3⟩
        · rintro ⟨y, y1, y2, y3⟩
          exact ⟨hvn, y, by omega, by omega, y3⟩
      have fin : kU_m M N n b l v := by
        rcases hs with ⟨s1, s2⟩ | ⟨s1, y, h, y1, y2, y3, y4, y5⟩
        · refine Or.inr ⟨s1, ?_⟩
          rintro ⟨r, r1, r2, r3⟩
          obtain ⟨r', rfl⟩ : ∃ r', r = r' + 1 := ⟨r - 1, by omega⟩
          obtain ⟨g1, h, g2, g3⟩ := r3
          obtain ⟨y, y1, y2, y3⟩ := (step h).mp g2
          refine s2 y h y1 y2 y3 ⟨by omega, ?_⟩
          rw [show (l - M 40 v - 1).toNat = r' by omega]
          exact g3
        · refine Or.inl ⟨s1, (l - M 40 v - 1).toNat + 1, by omega, by omega, by omega, h, (step h).mpr ⟨y, y1, y2, y3⟩, y5⟩
      have go := out N hRN hf hw fin
      refine mm_iload dX6_markWaysBack_36 rfl rfl ?_
      refine mm_aload_n dX6_markWaysBack_38 rfl rfl ?_
      refine mm_getr dX6_markWaysBack_39 rfl fl_X6_20 (c := 28) rfl (by decide) rfl rfl (hRN.at (c := 28) (i := 4) (v := 32) rfl (by decide)) ?_
      refine mm_iload dX6_markWaysBack_42 rfl rfl ?_
      refine mm_iconst dX6_markWaysBack_44 rfl ?_
      refine mm_iadd dX6_markWaysBack_45 rfl ?_
      refine mm_ialk (k0 := v + 1) dX6_markWaysBack_46 rfl (c := 31) rfl (by decide) rfl (by omega) (by omega) ?_
      rw [k1]
      refine mm_icge dX6_markWaysBack_47 (by omega) (by omega) (fun h47 => ?_) (fun h47 => ?_)
      · exact mm_drop (by repeat (first | exact trivial | refine And.intro (Or.inl rfl) ?_ | refine And.intro (Or.inr rfl) ?_)) go
      · exfalso; omega
  -- the queue, from its end
  have loop : ∀ c : Nat, c ≤ e → ∀ N, mm_Rf N → (∀ a, a ≠ 39 → N a = M a) → (∀ i, e - c ≤ i → i < e → kU_m M N n b l (M 41 i).toNat) → (∀ w, w < n → (∀ i, e - c ≤ i → i < e → (M 41 i).toNat ≠ w) → N 39 w = 0) → (∀ w, w < n → N 39 w = 0 ∨ N 39 w = 1) →
      mm_J X Y_X6_markWaysBack 243 243 243 15 [(2, 29), (0, (b : Int)), (0, l), (0, (e : Int) - 1 - (c : Int)), (9, 0), (9, 0)] [] N Φ := by
    refine mm_lp ?_
    intro c hc ih N hRN hf hm hz h01
    by_cases hlt : c < e
    · obtain ⟨i, hi⟩ : ∃ i, i = e - 1 - c := ⟨_, rfl⟩
      have ei : (e : Int) - 1 - (c : Int) = (i : Int) := by omega
      obtain ⟨v, hv⟩ : ∃ v, v = (M 41 i).toNat := ⟨_, rfl⟩
      have qi := hQ.qn i (by omega)
      rw [← hv] at qi
      obtain ⟨c0, c1, g1, g2, g3, g4, -⟩ := hG v qi.2
      have k31 : N 31 v = (c0 : Int) := by rw [hf 31 (by decide)]; exact g1
      have k41 : N 41 i = (v : Int) := by rw [hf 41 (by decide)]; exact qi.1
      have back : ∀ P, mm_Rf P → (∀ a, a ≠ 39 → P a = M a) → (∀ w, w ≠ v → P 39 w = N 39 w) → kU_m M P n b l v → mm_J X Y_X6_markWaysBack 243 243 243 89 [(2, 29), (0, (b : Int)), (0, l), (0, (i : Int)), (9, 0), (9, 0)] [] P Φ := by
        intro P hRP hPf hPw hPm
        have go := ih hlt P hRP hPf (fun i' i1 i2 => by
          by_cases ci : i' = i
          · rw [ci, ← hv]; exact hPm
          · have ne : (M 41 i').toNat ≠ v := fun q => hQ.ne i i' (by omega) i2 (by rw [← hv]; exact q.symm)
            have := hm i' (by omega) i2
            unfold kU_m at this ⊢
            rw [hPw _ ne]
            exact this) (fun w hw1 hw2 => by
          have ne : w ≠ v := fun q => hw2 i (by omega) (by omega) (by rw [← hv]; exact q.symm)
          rw [hPw w ne]
          exact hz w hw1 (fun i' i1 i2 => hw2 i' (by omega) i2)) (fun w hw1 => by
          by_cases cw : w = v
          · rw [cw]
            rcases hPm with q | q
            · exact Or.inr q.1
            · exact Or.inl q.1
          · rw [hPw w cw]; exact h01 w hw1)
        rw [show (e : Int) - 1 - ((c + 1 : Nat) : Int) = (i : Int) + -1 by omega] at go
        refine mm_iinc dX6_markWaysBack_89 rfl rfl (Nat.le_of_ble_eq_true rfl) rfl ?_
        refine mm_goto dX6_markWaysBack_92 ?_
        exact go
      have v0 : N 39 v = 0 := hz v qi.2 (fun i' i1 i2 q => hQ.ne i i' (by omega) i2 (by rw [← hv]; exact q.symm))
      have go := inner i v c0 c1 (by omega) qi.1 qi.2 g1 g2 g4 N hf (fun i' i1 i2 => hm i' (by omega) i2) h01 v0 back c0 g3 N hRN (Nat.le_refl _) hf (fun _ _ => rfl) (Or.inl ⟨v0, fun y h y1 y2 => absurd y2 (by omega)⟩)
      rw [ei]
      refine mm_iload_n dX6_markWaysBack_15 rfl rfl ?_
      refine mm_iflt dX6_markWaysBack_16 (by omega) (fun h16 => ?_) (fun h16 => ?_)
      · exfalso; omega
      · refine mm_aload_n dX6_markWaysBack_19 rfl rfl ?_
        refine mm_getr dX6_markWaysBack_20 rfl fl_X6_52 (c := 28) rfl (by decide) rfl rfl (hRN.at (c := 28) (i := 14) (v := 42) rfl (by decide)) ?_
        refine mm_iload_n dX6_markWaysBack_23 rfl rfl ?_
        refine mm_ialk (k0 := i) dX6_markWaysBack_24 rfl (c := 41) rfl (by decide) rfl (by omega) (by omega) ?_
        rw [k41]
        refine mm_istore dX6_markWaysBack_25 rfl (Nat.le_of_ble_eq_true rfl) rfl ?_
        refine mm_aload_n dX6_markWaysBack_27 rfl rfl ?_
        refine mm_getr dX6_markWaysBack_28 rfl fl_X6_20 (c := 28) rfl (by decide) rfl rfl (hRN.at (c := 28) (i := 4) (v := 32) rfl (by decide)) ?_
        refine mm_iload dX6_markWaysBack_31 rfl rfl ?_
        refine mm_ialk (k0 := v) dX6_markWaysBack_33 rfl (c := 31) rfl (by decide) rfl (by omega) (by omega) ?_
        rw [k31]
        refine mm_istore dX6_markWaysBack_34 rfl (Nat.le_of_ble_eq_true rfl) rfl ?_
        exact go
    · have ec : c = e := by omega
      subst ec
      refine mm_iload_n dX6_markWaysBack_15 rfl rfl ?_
      refine mm_iflt dX6_markWaysBack_16 (by omega) (fun h16 => ?_) (fun h16 => ?_)
      · refine mm_vret dX6_markWaysBack_95 rfl rfl ?_
        rw [hΦ]; refine ⟨rfl, hRN, hf, fun v hv => ?_⟩
        by_cases ex : ∃ i, i < c ∧ (M 41 i).toNat = v
        · obtain ⟨i, i1, i2⟩ := ex
          rw [← i2]
          exact hm i (by omega) i1
        · have z := hz v hv (fun i _ i2 q => ex ⟨i, i2, q⟩)
          refine Or.inr ⟨z, ?_⟩
          rintro ⟨r, r1, r2, r3⟩
          obtain ⟨r', rfl⟩ : ∃ r', r = r' + 1 := ⟨r - 1, by omega⟩
          have l0 := r3.1
          obtain ⟨e', e1, e2, e3, e4⟩ := hI.q hb
          have ee : e' = c := by omega
          rcases e4 v hv with q | ⟨i, i1, i2⟩
          · omega
          · exact ex ⟨i, by omega, by rw [i2]; omega⟩
      · exfalso; omega
  obtain ⟨N5, hN5⟩ : ∃ Z, Z = kf_mem M 39 (fun _ => 0) 288 := ⟨_, rfl⟩
  have hR5 : mm_Rf N5 := by rw [hN5]; exact hR.fm (len := 288) rfl
  have cf := c_J7_fill2 (X := X) (M := M) (n := 243) (c := 39) (len := 288) (v := 0) (by decide) rfl
  rw [← hN5] at cf
  have f5 : ∀ a, a ≠ 39 → N5 a = M a := fun a ha => by rw [hN5, kf_mem_n ha]
  have z5 : ∀ w, w < n → N5 39 w = 0 := fun w hw => by rw [hN5, kf_mem_lt (by omega)]
  have e5 : N5 28 15 = (e : Int) := by rw [f5 28 (by decide)]; exact he
  refine mm_start (ls := [(2, 29), (0, (b : Int)), (0, l), (9, 0), (9, 0), (9, 0)]) rfl ?_
  refine mm_aload_n dX6_markWaysBack_0 rfl rfl ?_
  refine mm_getr dX6_markWaysBack_1 rfl fl_X6_46 (c := 28) rfl (by decide) rfl rfl (hR.at (c := 28) (i := 12) (v := 40) rfl (by decide)) ?_
  refine mm_iconst dX6_markWaysBack_4 rfl ?_
  refine mm_S2v dX6_markWaysBack_5 rfl lk_X6_93 (by simp) (by simp) rfl rfl rfl (cf) ?_
  refine mm_aload_n dX6_markWaysBack_8 rfl rfl ?_
  refine mm_get (kd := 0) dX6_markWaysBack_9 rfl fl_X6_99 (c := 28) rfl (by decide) rfl rfl ?_
  rw [e5]
  refine mm_iconst dX6_markWaysBack_12 rfl ?_
  refine mm_isub dX6_markWaysBack_13 rfl ?_
  refine mm_istore_n dX6_markWaysBack_14 rfl (Nat.le_of_ble_eq_true rfl) rfl ?_
  have go := loop 0 (Nat.zero_le _) N5 hR5 f5 (fun i i1 i2 => absurd i1 (by omega)) (fun w hw _ => z5 w hw) (fun w hw => Or.inl (z5 w hw))
  rw [show (e : Int) - 1 - ((0 : Nat) : Int) = (e : Int) - 1 by omega] at go
  exact go
end

