/-! HN.write -/
section
/-! ===== KitePower$LoopFinder: writeLoop ===== -/
/-- the kept paths with works and acts that can be -/
def kW_G (N : mm_M) (n : Nat) : Prop := ∀ u, u < n → ∃ c0 c1 : Nat, N 31 u = (c0 : Int) ∧ N 31 (u + 1) = (c1 : Int) ∧ c0 ≤ c1 ∧ c1 ≤ 4320 ∧ ∀ x, c0 ≤ x → x < c1 → (∃ v : Nat, v < n ∧ N 33 x = (v : Int)) ∧ (-5800000 ≤ N 34 x ∧ N 34 x ≤ 5800000) ∧ 0 ≤ N 35 x ∧ N 35 x ≤ 1000
theorem kW_G.g {N : mm_M} {n : Nat} (h : kW_G N n) : kU_G N n := fun u hu => by
  obtain ⟨c0, c1, g1, g2, g3, g4, g5⟩ := h u hu
  exact ⟨c0, c1, g1, g2, g3, g4, fun x x1 x2 => (g5 x x1 x2).1⟩
/-- so many acts of the loop are written -/
def kW_I (M N : mm_M) (n b L rc i : Nat) (v y : Nat → Nat) : Prop := v 0 = b ∧ N rc 2 = (L : Int) ∧ N rc 3 = ka_sum (fun j => M 34 (y j)) i ∧ ∀ j, j < i → v j < n ∧ M 31 (v j) ≤ (y j : Int) ∧ (y j : Int) < M 31 (v j + 1) ∧ M 33 (y j) = (v (j + 1) : Int) ∧ kU_g (kU_t M n) (M 40) b (L : Int) (L - j - 1) (v (j + 1)) ∧ (∀ x h : Nat, M 31 (v j) ≤ (x : Int) → (x : Int) < M 31 (v j + 1) → M 33 x = (h : Int) → kU_g (kU_t M n) (M 40) b (L : Int) (L - j - 1) h → M 35 (y j) ≤ M 35 x) ∧ N (rc + 1) j = M 35 (y j) ∧ N (rc + 2) j = (v j : Int)
section
variable {X : mm_X} {M : mm_M} {n : Nat}
theorem c_X6_writeLoop {b L rc : Nat} (hR : mm_Rf M) (hG : kW_G M n) (hn2 : n ≤ 288) (hb : b < n) (hrw : mm_rw rc 288) (hrc : 42 ≤ rc) (hL : 1 ≤ L ∧ L ≤ 288) (hgo : ∀ (j : Int) (h : Nat), 0 ≤ j → h < n → (kU_o M h (j + 1) (b : Int) (L : Int) ↔ (j + 1 ≤ (L : Int) ∧ kU_g (kU_t M n) (M 40) b (L : Int) ((L : Int) - j - 1).toNat h)))
    (h40 : ∀ h, h < n → mm_R (M 40 h) ∧ mm_R (M 39 h)) (hst : kU_g (kU_t M n) (M 40) b (L : Int) L b) :
    mm_C X Y_X6_writeLoop 243 243 [(2, 29), (0, (b : Int)), (0, (L : Int)), (2, (rc : Int) + 1)] M (fun r M' => r = (3, 0) ∧ mm_Rf M' ∧ (∀ a, a ≠ rc → a ≠ rc + 1 → a ≠ rc + 2 → M' a = M a) ∧ ∃ v y, kW_I M M' n b L rc L v y) := by
  obtain ⟨Φ, hΦ⟩ : ∃ Φ : mm_V → mm_M → Prop, Φ = (fun r M' => r = (3, 0) ∧ mm_Rf M' ∧ (∀ a, a ≠ rc → a ≠ rc + 1 → a ≠ rc + 2 → M' a = M a) ∧ ∃ v y, kW_I M M' n b L rc L v y) := ⟨_, rfl⟩
  rw [← hΦ]
  have hrc3 := hrw.2.2.2.1
  have kU_t_of : ∀ u h c0 c1 : Nat, M 31 u = (c0 : Int) → M 31 (u + 1) = (c1 : Int) → ∀ r, kU_g (kU_t M n) (M 40) b (L : Int) (r + 1) u → ∃ x h : Nat, c0 ≤ x ∧ x < c1 ∧ M 33 x = (h : Int) ∧ kU_g (kU_t M n) (M 40) b (L : Int) r h := by
    rintro u _ c0 c1 g1 g2 r ⟨-, h, ⟨-, x, x1, x2, x3⟩, h2⟩
    exact ⟨x, h, by omega, by omega, x3, h2⟩
  -- the paths of a state
  have inner : ∀ i u c0 c1 : Nat, i < L → u < n → M 31 u = (c0 : Int) → M 31 (u + 1) = (c1 : Int) → c1 ≤ 4320 → ∀ N, mm_Rf N → (∀ a, a ≠ rc → a ≠ rc + 1 → a ≠ rc + 2 → N a = M a) →
      (∀ ch, ((ch = -1 ∧ ∀ x h : Nat, c0 ≤ x → x < c1 → M 33 x = (h : Int) → ¬ kU_g (kU_t M n) (M 40) b (L : Int) (L - i - 1) h) ∨ ∃ y h : Nat, ch = (y : Int) ∧ c0 ≤ y ∧ y < c1 ∧ M 33 y = (h : Int) ∧ kU_g (kU_t M n) (M 40) b (L : Int) (L - i - 1) h ∧ ∀ x h : Nat, c0 ≤ x → x < c1 → M 33 x = (h : Int) → kU_g (kU_t M n) (M 40) b (L : Int) (L - i - 1) h → M 35 y ≤ M 35 x) → mm_J X Y_X6_writeLoop 243 243 243 113 [(2, 29), (0, (b : Int)), (0, (L : Int)), (2, (rc : Int) + 1), (0, (u : Int)), (0, (i : Int)), (0, ch), (9, 0), (9, 0)] [] N Φ) →
      ∀ x : Nat, x ≤ c1 → ∀ ch, c0 ≤ x → ((ch = -1 ∧ ∀ y h : Nat, c0 ≤ y → y < x → M 33 y = (h : Int) → ¬ kU_g (kU_t M n) (M 40) b (L : Int) (L - i - 1) h) ∨ ∃ y h : Nat, ch = (y : Int) ∧ c0 ≤ y ∧ y < x ∧ M 33 y = (h : Int) ∧ kU_g (kU_t M n) (M 40) b (L : Int) (L - i - 1) h ∧ ∀ z h : Nat, c0 ≤ z → z < x → M 33 z = (h : Int) → kU_g (kU_t M n) (M 40) b (L : Int) (L - i - 1) h → M 35 y ≤ M 35 z) →
      mm_J X Y_X6_writeLoop 243 243 243 34 [(2, 29), (0, (b : Int)), (0, (L : Int)), (2, (rc : Int) + 1), (0, (u : Int)), (0, (i : Int)), (0, ch), (0, (x : Int)), (9, 0)] [] N Φ := by
    intro i u c0 c1 hi hu g1 g2 g4 N hRN hf out
    have e31 : N 31 = M 31 := hf 31 (by omega) (by omega) (by omega)
    have e33 : N 33 = M 33 := hf 33 (by omega) (by omega) (by omega)
    have e35 : N 35 = M 35 := hf 35 (by omega) (by omega) (by omega)
    have e39 : N 39 = M 39 := hf 39 (by omega) (by omega) (by omega)
    have e40 : N 40 = M 40 := hf 40 (by omega) (by omega) (by omega)
    have k1 : N 31 (u + 1) = (c1 : Int) := by rw [e31]; exact g2
    refine mm_lp ?_
    intro x hx ih ch hcx hs
    by_cases hlt : x < c1
    · obtain ⟨a0, a1, q1, q2, q3, q4, q5⟩ := hG u hu
      obtain ⟨⟨h, hh, hhe⟩, -, ab⟩ := q5 x (by omega) (by omega)
      have k33 : N 33 x = (h : Int) := by rw [e33]; exact hhe
      have k35 : N 35 x = M 35 x := by rw [e35]
      have dec : kU_o N h ((i : Int) + 1) (b : Int) (L : Int) ↔ kU_g (kU_t M n) (M 40) b (L : Int) (L - i - 1) h := by
        have := hgo (i : Int) h (by omega) hh
        rw [show ((L : Int) - (i : Int) - 1).toNat = L - i - 1 by omega] at this
        unfold kU_o at this ⊢
        rw [e40, e39]
        rw [this]
        constructor
        · exact fun q => q.2
        · exact fun q => ⟨by omega, q⟩
      have cg := fun z hz => c_X6_goesOn (X := X) (M := N) (h := h) (layer := (i : Int) + 1) (start := (b : Int)) (length := (L : Int)) (b := z) hRN (by omega) (by unfold mm_R; omega) (by unfold mm_R; omega) (by unfold mm_R; omega) (by rw [e40]; exact (h40 h hh).1) (by rw [e39]; exact (h40 h hh).2) hz
      have take : kU_g (kU_t M n) (M 40) b (L : Int) (L - i - 1) h → (ch = -1 ∨ ∃ y : Nat, ch = (y : Int) ∧ M 35 x ≤ M 35 y) → mm_J X Y_X6_writeLoop 243 243 243 34 [(2, 29), (0, (b : Int)), (0, (L : Int)), (2, (rc : Int) + 1), (0, (u : Int)), (0, (i : Int)), (0, (x : Int)), (0, (x : Int) + 1), (9, 0)] [] N Φ := by
        intro ho hc
        have go := ih hlt (x : Int) (by omega) (Or.inr ⟨x, h, rfl, hcx, by omega, hhe, ho, fun z w z1 z2 z3 z4 => by
          by_cases cz : z = x
          · rw [cz]; exact Int.le_refl _
          · rcases hs with ⟨s1, s2⟩ | ⟨y, w', s1, s2, s3, s4, s5, s6⟩
            · exact absurd z4 (s2 z w z1 (by omega) z3)
            · have := s6 z w z1 (by omega) z3 z4
              rcases hc with c | ⟨y', c1', c2⟩
              · omega
              · have : y' = y := by omega
                rw [this] at c2
                omega⟩)
        rw [show ((x + 1 : Nat) : Int) = (x : Int) + 1 by omega] at go
        exact go
      have keep : (kU_g (kU_t M n) (M 40) b (L : Int) (L - i - 1) h → ∃ y : Nat, ch = (y : Int) ∧ M 35 y ≤ M 35 x) → mm_J X Y_X6_writeLoop 243 243 243 34 [(2, 29), (0, (b : Int)), (0, (L : Int)), (2, (rc : Int) + 1), (0, (u : Int)), (0, (i : Int)), (0, ch), (0, (x : Int) + 1), (9, 0)] [] N Φ := by
        intro hc
        have go := ih hlt ch (by omega) (by
          rcases hs with ⟨s1, s2⟩ | ⟨y, w', s1, s2, s3, s4, s5, s6⟩
          · refine Or.inl ⟨s1, fun z w z1 z2 z3 z4 => ?_⟩
            by_cases cz : z = x
            · have ew : w = h := by rw [cz, hhe] at z3; omega
              rw [ew] at z4
              obtain ⟨y, y1, -⟩ := hc z4
              omega
            · exact s2 z w z1 (by omega) z3 z4
          · refine Or.inr ⟨y, w', s1, s2, by omega, s4, s5, fun z w z1 z2 z3 z4 => ?_⟩
            by_cases cz : z = x
            · have ew : w = h := by rw [cz, hhe] at z3; omega
              rw [ew] at z4
              obtain ⟨y', y1, y2⟩ := hc z4
              have : y' = y := by omega
              rw [this] at y2
              rw [cz]; exact y2
            · exact s6 z w z1 (by omega) z3 z4)
        rw [show ((x + 1 : Nat) : Int) = (x : Int) + 1 by omega] at go
        exact go
      have chb : ch = -1 ∨ ∃ y : Nat, ch = (y : Int) ∧ c0 ≤ y ∧ y < x := by
        rcases hs with ⟨s1, s2⟩ | ⟨y, w', s1, s2, s3, -⟩
        · exact Or.inl s1
        · exact Or.inr ⟨y, s1, s2, s3⟩
      by_cases ho : kU_o N h ((i : Int) + 1) (b : Int) (L : Int)
      · have cg1 := cg 1 (Or.inl ⟨rfl, ho⟩)
        have hg := dec.mp ho
        rcases chb with hch | ⟨y, hch, y1, y2⟩
        · refine mm_iload dX6_writeLoop_34 rfl rfl ?_
          refine mm_aload_n dX6_writeLoop_36 rfl rfl ?_
          refine mm_getr dX6_writeLoop_37 rfl fl_X6_20 (c := 28) rfl (by decide) rfl rfl (hRN.at (c := 28) (i := 4) (v := 32) rfl (by decide)) ?_
          refine mm_iload dX6_writeLoop_40 rfl rfl ?_
          refine mm_iconst dX6_writeLoop_42 rfl ?_
          refine mm_iadd dX6_writeLoop_43 rfl ?_
          refine mm_ialk (k0 := u + 1) dX6_writeLoop_44 rfl (c := 31) rfl (by decide) rfl (by omega) (by omega) ?_
          rw [k1]
          refine mm_icge dX6_writeLoop_45 (by omega) (by omega) (fun h45 => ?_) (fun h45 => ?_)
          · exfalso; omega
          · refine mm_iload dX6_writeLoop_48 rfl rfl ?_
            refine mm_iconst dX6_writeLoop_50 rfl ?_
            refine mm_iceq dX6_writeLoop_51 (by omega) (by omega) (fun h51 => ?_) (fun h51 => ?_)
            · refine mm_iconst dX6_writeLoop_71 rfl ?_
              refine mm_goto dX6_writeLoop_72 ?_
              refine mm_istore dX6_writeLoop_76 rfl (Nat.le_of_ble_eq_true rfl) rfl ?_
              refine mm_iload dX6_writeLoop_78 rfl rfl ?_
              refine mm_ifeq dX6_writeLoop_80 (by omega) (fun h => absurd h (by decide)) (fun _ => ?_)
              refine mm_aload_n dX6_writeLoop_83 rfl rfl ?_
              refine mm_aload_n dX6_writeLoop_84 rfl rfl ?_
              refine mm_getr dX6_writeLoop_85 rfl fl_X6_26 (c := 28) rfl (by decide) rfl rfl (hRN.at (c := 28) (i := 6) (v := 34) rfl (by decide)) ?_
              refine mm_iload dX6_writeLoop_88 rfl rfl ?_
              refine mm_ialk (k0 := x) dX6_writeLoop_90 rfl (c := 33) rfl (by decide) rfl (by omega) (by omega) ?_
              rw [k33]
              refine mm_iload dX6_writeLoop_91 rfl rfl ?_
              refine mm_iconst dX6_writeLoop_93 rfl ?_
              refine mm_iadd dX6_writeLoop_94 rfl ?_
              refine mm_iload_n dX6_writeLoop_95 rfl rfl ?_
              refine mm_iload_n dX6_writeLoop_96 rfl rfl ?_
              refine mm_V4i dX6_writeLoop_97 rfl lk_X6_189 (c := 28) rfl (by decide) rfl (by simp) (by simp) (by simp) (by simp) rfl rfl rfl (cg1) ?_
              refine mm_ifeq dX6_writeLoop_100 (by omega) (fun h => absurd h (by decide)) (fun _ => ?_)
              refine mm_iload dX6_writeLoop_103 rfl rfl ?_
              refine mm_istore dX6_writeLoop_105 rfl (Nat.le_of_ble_eq_true rfl) rfl ?_
              refine mm_iinc dX6_writeLoop_107 rfl rfl (Nat.le_of_ble_eq_true rfl) rfl ?_
              refine mm_goto dX6_writeLoop_110 ?_
              exact mm_drop (by repeat (first | exact trivial | refine And.intro (Or.inl rfl) ?_ | refine And.intro (Or.inr rfl) ?_)) (take hg (Or.inl hch))
            · exfalso; omega
        · obtain ⟨-, -, yb⟩ := q5 y (by omega) (by omega)
          have k35y : N 35 y = M 35 y := by rw [e35]
          subst hch
          refine mm_iload dX6_writeLoop_34 rfl rfl ?_
          refine mm_aload_n dX6_writeLoop_36 rfl rfl ?_
          refine mm_getr dX6_writeLoop_37 rfl fl_X6_20 (c := 28) rfl (by decide) rfl rfl (hRN.at (c := 28) (i := 4) (v := 32) rfl (by decide)) ?_
          refine mm_iload dX6_writeLoop_40 rfl rfl ?_
          refine mm_iconst dX6_writeLoop_42 rfl ?_
          refine mm_iadd dX6_writeLoop_43 rfl ?_
          refine mm_ialk (k0 := u + 1) dX6_writeLoop_44 rfl (c := 31) rfl (by decide) rfl (by omega) (by omega) ?_
          rw [k1]
          refine mm_icge dX6_writeLoop_45 (by omega) (by omega) (fun h45 => ?_) (fun h45 => ?_)
          · exfalso; omega
          · refine mm_iload dX6_writeLoop_48 rfl rfl ?_
            refine mm_iconst dX6_writeLoop_50 rfl ?_
            refine mm_iceq dX6_writeLoop_51 (by omega) (by omega) (fun h51 => ?_) (fun h51 => ?_)
            · exfalso; omega
            · refine mm_aload_n dX6_writeLoop_54 rfl rfl ?_
              refine mm_getr dX6_writeLoop_55 rfl fl_X6_32 (c := 28) rfl (by decide) rfl rfl (hRN.at (c := 28) (i := 8) (v := 36) rfl (by decide)) ?_
              refine mm_iload dX6_writeLoop_58 rfl rfl ?_
              refine mm_ialk (k0 := x) dX6_writeLoop_60 rfl (c := 35) rfl (by decide) rfl (by omega) (by omega) ?_
              rw [k35]
              refine mm_aload_n dX6_writeLoop_61 rfl rfl ?_
              refine mm_getr dX6_writeLoop_62 rfl fl_X6_32 (c := 28) rfl (by decide) rfl rfl (hRN.at (c := 28) (i := 8) (v := 36) rfl (by decide)) ?_
              refine mm_iload dX6_writeLoop_65 rfl rfl ?_
              refine mm_ialk (k0 := y) dX6_writeLoop_67 rfl (c := 35) rfl (by decide) rfl (by omega) (by omega) ?_
              rw [k35y]
              refine mm_icge dX6_writeLoop_68 (by omega) (by omega) (fun h68 => ?_) (fun h68 => ?_)
              · refine mm_iconst dX6_writeLoop_75 rfl ?_
                refine mm_istore dX6_writeLoop_76 rfl (Nat.le_of_ble_eq_true rfl) rfl ?_
                refine mm_iload dX6_writeLoop_78 rfl rfl ?_
                refine mm_ifeq dX6_writeLoop_80 (by omega) (fun _ => ?_) (fun h => absurd (by decide) h)
                refine mm_iinc dX6_writeLoop_107 rfl rfl (Nat.le_of_ble_eq_true rfl) rfl ?_
                refine mm_goto dX6_writeLoop_110 ?_
                first
                | exact mm_drop (by repeat (first | exact trivial | refine And.intro (Or.inl rfl) ?_ | refine And.intro (Or.inr rfl) ?_)) (take hg (Or.inr ⟨y, rfl, by omega⟩))
                | exact mm_drop (by repeat (first | exact trivial | refine And.intro (Or.inl rfl) ?_ | refine And.intro (Or.inr rfl) ?_)) (keep (fun _ => ⟨y, rfl, by omega⟩))
              · refine mm_iconst dX6_writeLoop_71 rfl ?_
                refine mm_goto dX6_writeLoop_72 ?_
                refine mm_istore dX6_writeLoop_76 rfl (Nat.le_of_ble_eq_true rfl) rfl ?_
                refine mm_iload dX6_writeLoop_78 rfl rfl ?_
                refine mm_ifeq dX6_writeLoop_80 (by omega) (fun h => absurd h (by decide)) (fun _ => ?_)
                refine mm_aload_n dX6_writeLoop_83 rfl rfl ?_
                refine mm_aload_n dX6_writeLoop_84 rfl rfl ?_
                refine mm_getr dX6_writeLoop_85 rfl fl_X6_26 (c := 28) rfl (by decide) rfl rfl (hRN.at (c := 28) (i := 6) (v := 34) rfl (by decide)) ?_
                refine mm_iload dX6_writeLoop_88 rfl rfl ?_
                refine mm_ialk (k0 := x) dX6_writeLoop_90 rfl (c := 33) rfl (by decide) rfl (by omega) (by omega) ?_
                rw [k33]
                refine mm_iload dX6_writeLoop_91 rfl rfl ?_
                refine mm_iconst dX6_writeLoop_93 rfl ?_
                refine mm_iadd dX6_writeLoop_94 rfl ?_
                refine mm_iload_n dX6_writeLoop_95 rfl rfl ?_
                refine mm_iload_n dX6_writeLoop_96 rfl rfl ?_
                refine mm_V4i dX6_writeLoop_97 rfl lk_X6_189 (c := 28) rfl (by decide) rfl (by simp) (by simp) (by simp) (by simp) rfl rfl rfl (cg1) ?_
                refine mm_ifeq dX6_writeLoop_100 (by omega) (fun h => absurd h (by decide)) (fun _ => ?_)
                refine mm_iload dX6_writeLoop_103 rfl rfl ?_
                refine mm_istore dX6_writeLoop_105 rfl (Nat.le_of_ble_eq_true rfl) rfl ?_
                refine mm_iinc dX6_writeLoop_107 rfl rfl (Nat.le_of_ble_eq_true rfl) rfl ?_
                refine mm_goto dX6_writeLoop_110 ?_
                first
                | exact mm_drop (by repeat (first | exact trivial | refine And.intro (Or.inl rfl) ?_ | refine And.intro (Or.inr rfl) ?_)) (take hg (Or.inr ⟨y, rfl, by omega⟩))
                | exact mm_drop (by repeat (first | exact trivial | refine And.intro (Or.inl rfl) ?_ | refine And.intro (Or.inr rfl) ?_)) (keep (fun _ => ⟨y, rfl, by omega⟩))
      · have cg0 := cg 0 (Or.inr ⟨rfl, ho⟩)
        have kp := keep (fun q => absurd (dec.mpr q) ho)
        rcases chb with hch | ⟨y, hch, y1, y2⟩
        · refine mm_iload dX6_writeLoop_34 rfl rfl ?_
          refine mm_aload_n dX6_writeLoop_36 rfl rfl ?_
          refine mm_getr dX6_writeLoop_37 rfl fl_X6_20 (c := 28) rfl (by decide) rfl rfl (hRN.at (c := 28) (i := 4) (v := 32) rfl (by decide)) ?_
          refine mm_iload dX6_writeLoop_40 rfl rfl ?_
          refine mm_iconst dX6_writeLoop_42 rfl ?_
          refine mm_iadd dX6_writeLoop_43 rfl ?_
          refine mm_ialk (k0 := u + 1) dX6_writeLoop_44 rfl (c := 31) rfl (by decide) rfl (by omega) (by omega) ?_
          rw [k1]
          refine mm_icge dX6_writeLoop_45 (by omega) (by omega) (fun h45 => ?_) (fun h45 => ?_)
          · exfalso; omega
          · refine mm_iload dX6_writeLoop_48 rfl rfl ?_
            refine mm_iconst dX6_writeLoop_50 rfl ?_
            refine mm_iceq dX6_writeLoop_51 (by omega) (by omega) (fun h51 => ?_) (fun h51 => ?_)
            · refine mm_iconst dX6_writeLoop_71 rfl ?_
              refine mm_goto dX6_writeLoop_72 ?_
              refine mm_istore dX6_writeLoop_76 rfl (Nat.le_of_ble_eq_true rfl) rfl ?_
              refine mm_iload dX6_writeLoop_78 rfl rfl ?_
              refine mm_ifeq dX6_writeLoop_80 (by omega) (fun h => absurd h (by decide)) (fun _ => ?_)
              refine mm_aload_n dX6_writeLoop_83 rfl rfl ?_
              refine mm_aload_n dX6_writeLoop_84 rfl rfl ?_
              refine mm_getr dX6_writeLoop_85 rfl fl_X6_26 (c := 28) rfl (by decide) rfl rfl (hRN.at (c := 28) (i := 6) (v := 34) rfl (by decide)) ?_
              refine mm_iload dX6_writeLoop_88 rfl rfl ?_
              refine mm_ialk (k0 := x) dX6_writeLoop_90 rfl (c := 33) rfl (by decide) rfl (by omega) (by omega) ?_
              rw [k33]
              refine mm_iload dX6_writeLoop_91 rfl rfl ?_
              refine mm_iconst dX6_writeLoop_93 rfl ?_
              refine mm_iadd dX6_writeLoop_94 rfl ?_
              refine mm_iload_n dX6_writeLoop_95 rfl rfl ?_
              refine mm_iload_n dX6_writeLoop_96 rfl rfl ?_
              refine mm_V4i dX6_writeLoop_97 rfl lk_X6_189 (c := 28) rfl (by decide) rfl (by simp) (by simp) (by simp) (by simp) rfl rfl rfl (cg0) ?_
              refine mm_ifeq dX6_writeLoop_100 (by omega) (fun _ => ?_) (fun h => absurd (by decide) h)
              refine mm_iinc dX6_writeLoop_107 rfl rfl (Nat.le_of_ble_eq_true rfl) rfl ?_
              refine mm_goto dX6_writeLoop_110 ?_
              exact mm_drop (by repeat (first | exact trivial | refine And.intro (Or.inl rfl) ?_ | refine And.intro (Or.inr rfl) ?_)) kp
            · exfalso; omega
        · obtain ⟨-, -, yb⟩ := q5 y (by omega) (by omega)
          have k35y : N 35 y = M 35 y := by rw [e35]
          subst hch
          refine mm_iload dX6_writeLoop_34 rfl rfl ?_
          refine mm_aload_n dX6_writeLoop_36 rfl rfl ?_
          refine mm_getr dX6_writeLoop_37 rfl fl_X6_20 (c := 28) rfl (by decide) rfl rfl (hRN.at (c := 28) (i := 4) (v := 32) rfl (by decide)) ?_
          refine mm_iload dX6_writeLoop_40 rfl rfl ?_
          refine mm_iconst dX6_writeLoop_42 rfl ?_
          refine mm_iadd dX6_writeLoop_43 rfl ?_
          refine mm_ialk (k0 := u + 1) dX6_writeLoop_44 rfl (c := 31) rfl (by decide) rfl (by omega) (by omega) ?_
          rw [k1]
          refine mm_icge dX6_writeLoop_45 (by omega) (by omega) (fun h45 => ?_) (fun h45 => ?_)
          · exfalso; omega
          · refine mm_iload dX6_writeLoop_48 rfl rfl ?_
            refine mm_iconst dX6_writeLoop_50 rfl ?_
            refine mm_iceq dX6_writeLoop_51 (by omega) (by omega) (fun h51 => ?_) (fun h51 => ?_)
            · exfalso; omega
            · refine mm_aload_n dX6_writeLoop_54 rfl rfl ?_
              refine mm_getr dX6_writeLoop_55 rfl fl_X6_32 (c := 28) rfl (by decide) rfl rfl (hRN.at (c := 28) (i := 8) (v := 36) rfl (by decide)) ?_
              refine mm_iload dX6_writeLoop_58 rfl rfl ?_
              refine mm_ialk (k0 := x) dX6_writeLoop_60 rfl (c := 35) rfl (by decide) rfl (by omega) (by omega) ?_
              rw [k35]
              refine mm_aload_n dX6_writeLoop_61 rfl rfl ?_
              refine mm_getr dX6_writeLoop_62 rfl fl_X6_32 (c := 28) rfl (by decide) rfl rfl (hRN.at (c := 28) (i := 8) (v := 36) rfl (by decide)) ?_
              refine mm_iload dX6_writeLoop_65 rfl rfl ?_
              refine mm_ialk (k0 := y) dX6_writeLoop_67 rfl (c := 35) rfl (by decide) rfl (by omega) (by omega) ?_
              rw [k35y]
              refine mm_icge dX6_writeLoop_68 (by omega) (by omega) (fun h68 => ?_) (fun h68 => ?_)
              · refine mm_iconst dX6_writeLoop_75 rfl ?_
                refine mm_istore dX6_writeLoop_76 rfl (Nat.le_of_ble_eq_true rfl) rfl ?_
                refine mm_iload dX6_writeLoop_78 rfl rfl ?_
                refine mm_ifeq dX6_writeLoop_80 (by omega) (fun _ => ?_) (fun h => absurd (by decide) h)
                refine mm_iinc dX6_writeLoop_107 rfl rfl (Nat.le_of_ble_eq_true rfl) rfl ?_
                refine mm_goto dX6_writeLoop_110 ?_
                exact mm_drop (by repeat (first | exact trivial | refine And.intro (Or.inl rfl) ?_ | refine And.intro (Or.inr rfl) ?_)) kp
              · refine mm_iconst dX6_writeLoop_71 rfl ?_
                refine mm_goto dX6_writeLoop_72 ?_
                refine mm_istore dX6_writeLoop_76 rfl (Nat.le_of_ble_eq_true rfl) rfl ?_
                refine mm_iload dX6_writeLoop_78 rfl rfl ?_
                refine mm_ifeq dX6_writeLoop_80 (by omega) (fun h => absurd h (by decide)) (fun _ => ?_)
                refine mm_aload_n dX6_writeLoop_83 rfl rfl ?_
                refine mm_aload_n dX6_writeLoop_84 rfl rfl ?_
                refine mm_getr dX6_writeLoop_85 rfl fl_X6_26 (c := 28) rfl (by decide) rfl rfl (hRN.at (c := 28) (i := 6) (v := 34) rfl (by decide)) ?_
                refine mm_iload dX6_writeLoop_88 rfl rfl ?_
                refine mm_ialk (k0 := x) dX6_writeLoop_90 rfl (c := 33) rfl (by decide) rfl (by omega) (by omega) ?_
                rw [k33]
                refine mm_iload dX6_writeLoop_91 rfl rfl ?_
                refine mm_iconst dX6_writeLoop_93 rfl ?_
                refine mm_iadd dX6_writeLoop_94 rfl ?_
                refine mm_iload_n dX6_writeLoop_95 rfl rfl ?_
                refine mm_iload_n dX6_writeLoop_96 rfl rfl ?_
                refine mm_V4i dX6_writeLoop_97 rfl lk_X6_189 (c := 28) rfl (by decide) rfl (by simp) (by simp) (by simp) (by simp) rfl rfl rfl (cg0) ?_
                refine mm_ifeq dX6_writeLoop_100 (by omega) (fun _ => ?_) (fun h => absurd (by decide) h)
                refine mm_iinc dX6_writeLoop_107 rfl rfl (Nat.le_of_ble_eq_true rfl) rfl ?_
                refine mm_goto dX6_writeLoop_110 ?_
                exact mm_drop (by repeat (first | exact trivial | refine And.intro (Or.inl rfl) ?_ | refine And.intro (Or.inr rfl) ?_)) kp
    · have ex : x = c1 := by omega
      subst ex
      have go := out ch hs
      refine mm_iload dX6_writeLoop_34 rfl rfl ?_
      refine mm_aload_n dX6_writeLoop_36 rfl rfl ?_
      refine mm_getr dX6_writeLoop_37 rfl fl_X6_20 (c := 28) rfl (by decide) rfl rfl (hRN.at (c := 28) (i := 4) (v := 32) rfl (by decide)) ?_
      refine mm_iload dX6_writeLoop_40 rfl rfl ?_
      refine mm_iconst dX6_writeLoop_42 rfl ?_
      refine mm_iadd dX6_writeLoop_43 rfl ?_
      refine mm_ialk (k0 := u + 1) dX6_writeLoop_44 rfl (c := 31) rfl (by decide) rfl (by omega) (by omega) ?_
      rw [k1]
      refine mm_icge dX6_writeLoop_45 (by omega) (by omega) (fun h45 => ?_) (fun h45 => ?_)
      · exact mm_drop (by repeat (first | exact trivial | refine And.intro (Or.inl rfl) ?_ | refine And.intro (Or.inr rfl) ?_)) go
      · exfalso; omega
  have loop : ∀ i : Nat, i ≤ L → ∀ N v y, mm_Rf N → (∀ a, a ≠ rc → a ≠ rc + 1 → a ≠ rc + 2 → N a = M a) → kW_I M N n b L rc i v y → kU_g (kU_t M n) (M 40) b (L : Int) (L - i) (v i) → v i < n →
      mm_J X Y_X6_writeLoop 243 243 243 16 [(2, 29), (0, (b : Int)), (0, (L : Int)), (2, (rc : Int) + 1), (0, (v i : Int)), (0, (i : Int)), (9, 0), (9, 0), (9, 0)] [] N Φ := by
    refine mm_lp ?_
    intro i hi ih N v y hRN hf hI hg hvn
    by_cases hlt : i < L
    · obtain ⟨u, hu⟩ : ∃ u, u = v i := ⟨_, rfl⟩
      rw [← hu] at hg hvn
      obtain ⟨c0, c1, g1, g2, g3, g4, g5⟩ := hG u hvn
      have e31 : N 31 = M 31 := hf 31 (by omega) (by omega) (by omega)
      have e33 : N 33 = M 33 := hf 33 (by omega) (by omega) (by omega)
      have e34 : N 34 = M 34 := hf 34 (by omega) (by omega) (by omega)
      have e35 : N 35 = M 35 := hf 35 (by omega) (by omega) (by omega)
      have k31 : N 31 u = (c0 : Int) := by rw [e31]; exact g1
      obtain ⟨i1, i2, i3, i4⟩ := id hI
      have sumb : -(5800000 * (i : Int)) ≤ N rc 3 ∧ N rc 3 ≤ 5800000 * (i : Int) := by
        rw [i3]
        refine ka_sumb (fun j hj => ?_)
        obtain ⟨z1, z2, z3, -⟩ := i4 j hj
        obtain ⟨a0, a1, y1, y2, y3, y4, y5⟩ := hG (v j) z1
        exact (y5 (y j) (by omega) (by omega)).2.1
      have out : ∀ ch, ((ch = -1 ∧ ∀ x h : Nat, c0 ≤ x → x < c1 → M 33 x = (h : Int) → ¬ kU_g (kU_t M n) (M 40) b (L : Int) (L - i - 1) h) ∨ ∃ y h : Nat, ch = (y : Int) ∧ c0 ≤ y ∧ y < c1 ∧ M 33 y = (h : Int) ∧ kU_g (kU_t M n) (M 40) b (L : Int) (L - i - 1) h ∧ ∀ x h : Nat, c0 ≤ x → x < c1 → M 33 x = (h : Int) → kU_g (kU_t M n) (M 40) b (L : Int) (L - i - 1) h → M 35 y ≤ M 35 x) → mm_J X Y_X6_writeLoop 243 243 243 113 [(2, 29), (0, (b : Int)), (0, (L : Int)), (2, (rc : Int) + 1), (0, (u : Int)), (0, (i : Int)), (0, ch), (9, 0), (9, 0)] [] N Φ := by
        intro ch hch
        rcases hch with ⟨-, q⟩ | ⟨z, h, z1, z2, z3, z4, z5, z6⟩
        · exfalso
          obtain ⟨x, h, x1, x2, x3, x4⟩ := kU_t_of u 0 c0 c1 g1 g2 (L - i - 1) (by rw [show L - i - 1 + 1 = L - i by omega]; exact hg)
          exact q x h x1 x2 x3 x4
        · obtain ⟨⟨w, w1, w2⟩, wb, -⟩ := g5 z z2 z3
          have hw : h = w := by omega
          have k33 : N 33 z = (h : Int) := by rw [e33]; exact z4
          rw [z1]
          have fin : ∀ P, mm_Rf P → P = mm_up (mm_up (mm_up N (rc + 2) i (u : Int)) (rc + 1) i (M 35 z)) rc 3 (N rc 3 + M 34 z) → mm_J X Y_X6_writeLoop 243 243 243 16 [(2, 29), (0, (b : Int)), (0, (L : Int)), (2, (rc : Int) + 1), (0, (h : Int)), (0, (i : Int) + 1), (9, 0), (9, 0), (9, 0)] [] P Φ := by
            intro P hRP hP
            have a1 : ∀ a, a ≠ rc → a ≠ rc + 1 → a ≠ rc + 2 → P a = M a := fun a b1 b2 b3 => by rw [hP, mm_up_row b1, mm_up_row b2, mm_up_row b3]; exact hf a b1 b2 b3
            have r1 : ∀ j, j ≠ i → P (rc + 1) j = N (rc + 1) j := fun j hj => by rw [hP, mm_up_c (by omega), mm_up_i hj, mm_up_c (by omega)]
            have r2 : ∀ j, j ≠ i → P (rc + 2) j = N (rc + 2) j := fun j hj => by rw [hP, mm_up_c (by omega), mm_up_c (by omega), mm_up_i hj]
            have ec : ∀ j, j ≤ i → (if j ≤ i then v j else h) = v j := fun j hj => if_pos hj
            have ey : ∀ j, j < i → (if j < i then y j else z) = y j := fun j hj => if_pos hj
            have go := ih hlt P (fun j => if j ≤ i then v j else h) (fun j => if j < i then y j else z) hRP a1 ⟨by show (if 0 ≤ i then v 0 else h) = b; rw [if_pos (by omega)]; exact i1, by rw [hP, mm_up_i (by decide), mm_up_c (by omega), mm_up_c (by omega)]; exact i2, by
              show P rc 3 = ka_sum (fun j => M 34 (if j < i then y j else z)) i + M 34 (if i < i then y i else z)
              rw [if_neg (Nat.lt_irrefl i), ka_sum_congr (g := fun j => M 34 (y j)) (fun j hj => by show M 34 (if j < i then y j else z) = M 34 (y j); rw [if_pos hj]), hP, mm_up_s, i3], fun j hj => by
              show (if j ≤ i then v j else h) < n ∧ M 31 (if j ≤ i then v j else h) ≤ ((if j < i then y j else z : Nat) : Int) ∧ ((if j < i then y j else z : Nat) : Int) < M 31 ((if j ≤ i then v j else h) + 1) ∧ M 33 (if j < i then y j else z) = ((if j + 1 ≤ i then v (j + 1) else h : Nat) : Int) ∧ kU_g (kU_t M n) (M 40) b (L : Int) (L - j - 1) (if j + 1 ≤ i then v (j + 1) else h) ∧ (∀ x h' : Nat, M 31 (if j ≤ i then v j else h) ≤ (x : Int) → (x : Int) < M 31 ((if j ≤ i then v j else h) + 1) → M 33 x = (h' : Int) → kU_g (kU_t M n) (M 40) b (L : Int) (L - j - 1) h' → M 35 (if j < i then y j else z) ≤ M 35 x) ∧ P (rc + 1) j = M 35 (if j < i then y j else z) ∧ P (rc + 2) j = ((if j ≤ i then v j else h : Nat) : Int)
              rw [ec j (by omega)]
              by_cases cj : j = i
              · rw [cj, if_neg (Nat.lt_irrefl i), if_neg (show ¬ i + 1 ≤ i by omega), ← hu]
                exact ⟨hvn, by omega, by omega, z4, z5, fun x h' x1 x2 x3 x4 => z6 x h' (by omega) (by omega) x3 x4, by rw [hP, mm_up_c (by omega), mm_up_s], by rw [hP, mm_up_c (by omega), mm_up_c (by omega), mm_up_s]⟩
              · rw [if_pos (show j < i by omega), if_pos (show j + 1 ≤ i by omega), r1 j cj, r2 j cj]
                exact i4 j (by omega)⟩ (by show kU_g _ _ _ _ _ (if i + 1 ≤ i then v (i + 1) else h); rw [if_neg (by omega), show L - (i + 1) = L - i - 1 by omega]; exact z5) (by show (if i + 1 ≤ i then v (i + 1) else h) < n; rw [if_neg (by omega)]; omega)
            have go : mm_J X Y_X6_writeLoop 243 243 243 16 [(2, 29), (0, (b : Int)), (0, (L : Int)), (2, (rc : Int) + 1), (0, ((if i + 1 ≤ i then v (i + 1) else h : Nat) : Int)), (0, ((i + 1 : Nat) : Int)), (9, 0), (9, 0), (9, 0)] [] P Φ := go
            rw [if_neg (by omega), show ((i + 1 : Nat) : Int) = (i : Int) + 1 by omega] at go
            exact go
          refine mm_iload dX6_writeLoop_113 rfl rfl ?_
          refine mm_iconst dX6_writeLoop_115 rfl ?_
          refine mm_iceq dX6_writeLoop_116 (by omega) (by omega) (fun h116 => ?_) (fun h116 => ?_)
          · exfalso; omega
          · refine mm_aload_n dX6_writeLoop_119 rfl rfl ?_
            refine mm_getr dX6_writeLoop_120 rfl fl_X6_196 (c := rc) rfl hrw.c0 hrw.1 rfl (hrw.states hRN) ?_
            refine mm_iload dX6_writeLoop_123 rfl rfl ?_
            refine mm_iload dX6_writeLoop_125 rfl rfl ?_
            refine mm_istk (k0 := i) dX6_writeLoop_127 rfl (c := rc + 2) rfl hrw.c2 hrw.2.2.1 (by omega) (by omega) (fun M127 hM127 => ?_)
            have hR127 : mm_Rf M127 := by rw [hM127]; exact hRN.up (mm_rt_arr hrw.2.2.1 _)
            refine mm_aload_n dX6_writeLoop_128 rfl rfl ?_
            refine mm_getr dX6_writeLoop_129 rfl fl_X6_198 (c := rc) rfl hrw.c0 hrw.1 rfl (hrw.acts hR127) ?_
            refine mm_iload dX6_writeLoop_132 rfl rfl ?_
            refine mm_aload_n dX6_writeLoop_134 rfl rfl ?_
            refine mm_getr dX6_writeLoop_135 rfl fl_X6_32 (c := 28) rfl (by decide) rfl rfl (hR127.at (c := 28) (i := 8) (v := 36) rfl (by decide)) ?_
            refine mm_iload dX6_writeLoop_138 rfl rfl ?_
            refine mm_ialk (k0 := z) dX6_writeLoop_140 rfl (c := 35) rfl (by decide) rfl (by omega) (by omega) ?_
            rw [show M127 35 z = M 35 z by rw [hM127, mm_up_c (by omega), e35]]
            refine mm_istk (k0 := i) dX6_writeLoop_141 rfl (c := rc + 1) rfl hrw.c1 hrw.2.1 (by omega) (by omega) (fun M141 hM141 => ?_)
            have hR141 : mm_Rf M141 := by rw [hM141]; exact hR127.up (mm_rt_arr hrw.2.1 _)
            refine mm_aload_n dX6_writeLoop_142 rfl rfl ?_
            refine mm_dup dX6_writeLoop_143 rfl (by simp) ?_
            refine mm_get (kd := 0) dX6_writeLoop_144 rfl fl_X6_193 (c := rc) rfl hrw.c0 hrw.1 rfl ?_
            refine mm_aload_n dX6_writeLoop_147 rfl rfl ?_
            refine mm_getr dX6_writeLoop_148 rfl fl_X6_29 (c := 28) rfl (by decide) rfl rfl (hR141.at (c := 28) (i := 7) (v := 35) rfl (by decide)) ?_
            refine mm_iload dX6_writeLoop_151 rfl rfl ?_
            refine mm_ialk (k0 := z) dX6_writeLoop_153 rfl (c := 34) rfl (by decide) rfl (by omega) (by omega) ?_
            rw [show M141 34 z = M 34 z by rw [hM141, mm_up_c (by omega), hM127, mm_up_c (by omega), e34]]
            refine mm_iadd dX6_writeLoop_154 rfl ?_
            refine mm_puti dX6_writeLoop_155 rfl fl_X6_193 (c := rc) rfl hrw.c0 hrw.1 rfl (fun M155 hM155 => ?_)
            have hR155 : mm_Rf M155 := by rw [hM155]; exact hR141.up (mm_rt_row hrw (by omega))
            refine mm_aload_n dX6_writeLoop_158 rfl rfl ?_
            refine mm_getr dX6_writeLoop_159 rfl fl_X6_26 (c := 28) rfl (by decide) rfl rfl (hR155.at (c := 28) (i := 6) (v := 34) rfl (by decide)) ?_
            refine mm_iload dX6_writeLoop_162 rfl rfl ?_
            refine mm_ialk (k0 := z) dX6_writeLoop_164 rfl (c := 33) rfl (by decide) rfl (by omega) (by omega) ?_
            rw [show M155 33 z = (h : Int) by rw [hM155, mm_up_c (by omega), hM141, mm_up_c (by omega), hM127, mm_up_c (by omega), k33]]
            refine mm_istore dX6_writeLoop_165 rfl (Nat.le_of_ble_eq_true rfl) rfl ?_
            refine mm_iinc dX6_writeLoop_167 rfl rfl (Nat.le_of_ble_eq_true rfl) rfl ?_
            refine mm_goto dX6_writeLoop_170 ?_
            exact mm_drop (by repeat (first | exact trivial | refine And.intro (Or.inl rfl) ?_ | refine And.intro (Or.inr rfl) ?_)) (fin _ hR155 (by rw [hM155, show M141 rc 3 = N rc 3 by rw [hM141, mm_up_c (by omega), hM127, mm_up_c (by omega)], hM141, hM127]))
      have go := inner i u c0 c1 hlt hvn g1 g2 g4 N hRN hf out c0 g3 (-1) (Nat.le_refl _) (Or.inl ⟨rfl, fun y h y1 y2 => absurd y2 (by omega)⟩)
      rw [← hu]
      refine mm_iload dX6_writeLoop_16 rfl rfl ?_
      refine mm_iload_n dX6_writeLoop_18 rfl rfl ?_
      refine mm_icge dX6_writeLoop_19 (by omega) (by omega) (fun h19 => ?_) (fun h19 => ?_)
      · exfalso; omega
      · refine mm_iconst dX6_writeLoop_22 rfl ?_
        refine mm_istore dX6_writeLoop_23 rfl (Nat.le_of_ble_eq_true rfl) rfl ?_
        refine mm_aload_n dX6_writeLoop_25 rfl rfl ?_
        refine mm_getr dX6_writeLoop_26 rfl fl_X6_20 (c := 28) rfl (by decide) rfl rfl (hRN.at (c := 28) (i := 4) (v := 32) rfl (by decide)) ?_
        refine mm_iload dX6_writeLoop_29 rfl rfl ?_
        refine mm_ialk (k0 := u) dX6_writeLoop_31 rfl (c := 31) rfl (by decide) rfl (by omega) (by omega) ?_
        rw [k31]
        refine mm_istore dX6_writeLoop_32 rfl (Nat.le_of_ble_eq_true rfl) rfl ?_
        exact go
    · have ei : i = L := by omega
      subst ei
      refine mm_iload dX6_writeLoop_16 rfl rfl ?_
      refine mm_iload_n dX6_writeLoop_18 rfl rfl ?_
      refine mm_icge dX6_writeLoop_19 (by omega) (by omega) (fun h19 => ?_) (fun h19 => ?_)
      · refine mm_vret dX6_writeLoop_173 rfl rfl ?_
        rw [hΦ]; exact ⟨rfl, hRN, hf, v, y, hI⟩
      · exfalso; omega
  refine mm_start (ls := [(2, 29), (0, (b : Int)), (0, (L : Int)), (2, (rc : Int) + 1), (9, 0), (9, 0), (9, 0), (9, 0), (9, 0)]) rfl ?_
  refine mm_iload_n dX6_writeLoop_0 rfl rfl ?_
  refine mm_istore dX6_writeLoop_1 rfl (Nat.le_of_ble_eq_true rfl) rfl ?_
  refine mm_aload_n dX6_writeLoop_3 rfl rfl ?_
  refine mm_iconst dX6_writeLoop_4 rfl ?_
  refine mm_puti dX6_writeLoop_5 rfl fl_X6_193 (c := rc) rfl hrw.c0 hrw.1 rfl (fun M5 hM5 => ?_)
  have hR5 : mm_Rf M5 := by rw [hM5]; exact hR.up (mm_rt_row hrw (by omega))
  refine mm_aload_n dX6_writeLoop_8 rfl rfl ?_
  refine mm_iload_n dX6_writeLoop_9 rfl rfl ?_
  refine mm_puti dX6_writeLoop_10 rfl fl_X6_63 (c := rc) rfl hrw.c0 hrw.1 rfl (fun M10 hM10 => ?_)
  have hR10 : mm_Rf M10 := by rw [hM10]; exact hR5.up (mm_rt_row hrw (by omega))
  refine mm_iconst dX6_writeLoop_13 rfl ?_
  refine mm_istore dX6_writeLoop_14 rfl (Nat.le_of_ble_eq_true rfl) rfl ?_
  exact loop 0 (Nat.zero_le _) M10 (fun _ => b) (fun _ => 0) hR10 (fun a a1 _ _ => by rw [hM10, mm_up_row a1, hM5, mm_up_row a1]) ⟨rfl, by rw [hM10, mm_up_s], by rw [hM10, mm_up_i (by decide), hM5, mm_up_s]; rfl, fun j hj => absurd hj (by omega)⟩ hst hb
end
end
/-! HO.pure -/
section
/-! ===== KitePower$LoopFinder: what paths, kept paths and rounds mean ===== -/
section
variable {K Lo Hi : Nat → Int} {M M2 P : mm_M} {h S C : Int} {n : Nat}
/-- a path is a safe act -/
theorem kx_P.at (hP : kx_P K Lo Hi M h n) {p u v : Nat} (hp : kv_p M n p u v) : ks_ac K (M 35 p) ∧ ks_safe K Lo Hi (u : Int) (M 35 p) h ∧ ks_to K (u : Int) (M 35 p) = (v : Int) ∧ M 34 p = ks_sure K Lo Hi (u : Int) (M 35 p) h := by
  obtain ⟨c0, c1, g1, g2, g3, g4, g5, -⟩ := hP u hp.2.1
  have a := hp.2.2.2.1
  have b := hp.2.2.2.2.1
  obtain ⟨z1, z2, z3, z4, z5⟩ := g5 p (by omega) (by omega)
  exact ⟨z2, z3, by rw [← z4]; exact hp.2.2.2.2.2.2, z5⟩
/-- every safe act has a path that gives no less -/
theorem kx_P.of (hP : kx_P K Lo Hi M h n) (hK : mm_KV K) (hn : ks_n K = (n : Int)) {u : Nat} {a : Int} (hu : u < n) (ha : ks_ac K a) (hs : ks_safe K Lo Hi (u : Int) a h) : ∃ p v : Nat, kv_p M n p u v ∧ ks_to K (u : Int) a = (v : Int) ∧ ks_sure K Lo Hi (u : Int) a h ≤ M 34 p ∧ (ks_sure K Lo Hi (u : Int) a h = M 34 p → M 35 p ≤ a) := by
  obtain ⟨c0, c1, g1, g2, g3, g4, g5, g6⟩ := hP u hu
  obtain ⟨p, p1, p2, p3, p4, p5⟩ := g6 a ha hs (by omega)
  obtain ⟨z1, z2, z3, z4, z5⟩ := g5 p p1 p2
  have st : ks_st K (u : Int) := ⟨by omega, by omega⟩
  have tst := ks_to_st hK st hs.1
  obtain ⟨x, hx⟩ : ∃ x : Nat, a % 15 = (x : Int) := ⟨(a % 15).toNat, by omega⟩
  have e1 := ks_to_m (s := (u : Int)) ha hx
  have e2 := ks_to_m (s := (u : Int)) z2 (by rw [p3]; exact hx)
  have et : ks_to K (u : Int) a = M 33 p := by rw [z4, e1, e2]
  obtain ⟨v, hv⟩ : ∃ v : Nat, ks_to K (u : Int) a = (v : Int) := ⟨(ks_to K (u : Int) a).toNat, by omega⟩
  exact ⟨p, v, ⟨by omega, hu, by omega, by omega, by omega, z1, by omega⟩, hv, p4, p5⟩
theorem kx_P.G (hP : kx_P K Lo Hi M h n) (hK : mm_KV K) (hn : ks_n K = (n : Int)) (hw : ∀ s, ks_st K s → (0 ≤ ks_wi Lo K s h ∧ ks_wi Lo K s h ≤ 60) ∧ (0 ≤ ks_wi Hi K s h ∧ ks_wi Hi K s h ≤ 60)) : kv_G M n := by
  intro u hu
  obtain ⟨c0, c1, g1, g2, g3, g4, g5, -⟩ := hP u hu
  refine ⟨c0, c1, g1, g2, g4, g3, fun p p1 p2 => ?_⟩
  obtain ⟨z1, z2, z3, z4, z5⟩ := g5 p p1 p2
  have st : ks_st K (u : Int) := ⟨by omega, by omega⟩
  have tst := ks_to_st hK st z3.1
  have gb := ks_sureb (Lo := Lo) (Hi := Hi) (s := (u : Int)) (hr := h) hK z2 (hw _ st).1 (hw _ st).2
  refine ⟨z1, ⟨(M 33 p).toNat, by rw [z4]; omega, by rw [z4]; omega⟩, by rw [z5]; exact gb.1, by rw [z5]; exact gb.2⟩
/-- levels that no path raises: no act leads higher -/
theorem kx_P.up (hP : kx_P K Lo Hi M h n) (hK : mm_KV K) (hn : ks_n K = (n : Int)) (hC : 0 < C) (hS : ∀ y, y < n → kv_S M n S C y) : ∀ u v w, kb_E K Lo Hi h u v w → M 36 u + (C * w - S) ≤ M 36 v := by
  rintro u v w ⟨hu, a, a1, a2, a3, a4⟩
  have hun : u < n := by have := hu.2; omega
  obtain ⟨p, v', p1, p2, p3, p4⟩ := hP.of hK hn hun a1 a2
  have ev : v' = v := by omega
  have q := hS u hun p v' p1
  unfold kv_w at q
  have := Int.mul_le_mul_of_nonneg_left p3 (by omega : 0 ≤ C)
  rw [Int.mul_comm (M 34 p)] at q
  rw [a4, ← ev]
  omega
/-- a round of paths is a loop of acts -/
theorem kv_B.gl (hP : kx_P K Lo Hi M h n) (hn : ks_n K = (n : Int)) {q r : Nat → Nat} {m : Nat} (hB : kv_B M n q r m) : gL (kb_E K Lo Hi h) q (fun j => M 34 (r j)) m := by
  refine ⟨fun j hj => ?_, hB.1, hB.2.2.1⟩
  have hp := hB.2.2.2 j hj
  obtain ⟨z1, z2, z3, z4⟩ := hP.at hp
  exact ⟨⟨by omega, by have := hp.2.1; omega⟩, M 35 (r j), z1, z2, z3, z4⟩
/-- what a safe act gives at least -/
theorem ks_low {s a : Int} (hK : mm_KV K) (ha : ks_ac K a) (hs : ks_safe K Lo Hi s a h) (hw : (0 ≤ ks_wi Lo K s h ∧ ks_wi Lo K s h ≤ 60) ∧ (0 ≤ ks_wi Hi K s h ∧ ks_wi Hi K s h ≤ 60)) : -1000000 < ks_sure K Lo Hi s a h := by
  have p1 := ks_pw hK (s := s) ha hw.1
  have p2 := ks_pw hK (s := s) ha hw.2
  have hb := hs.2.2
  obtain ⟨-, -, -, -, h4, h5, h6, h7, -⟩ := hK
  have m := mm_mulb (a := ks_p K s a (ks_wi Hi K s h)) (b := K 7) (A := 99999) (B := 400) p2.1 (by omega) h7.1 h7.2
  unfold ks_sure ks_w
  by_cases c1 : ks_dr a = 1
  · rw [if_pos c1, if_neg (by omega)]; omega
  · rw [if_neg c1]
    by_cases c2 : ks_dr a = 2
    · rw [if_pos c2, if_pos c2]
      have : ks_p K s a (ks_wi Hi K s h) * K 7 / 100 ≤ 99999 * 400 / 100 := Int.ediv_le_ediv (by omega) m.2
      omega
    · rw [if_neg c2]; omega
/-- what an act gives at most -/
theorem ks_high (hK : mm_KV K) {s a : Int} (ha : ks_ac K a) (hw : (0 ≤ ks_wi Lo K s h ∧ ks_wi Lo K s h ≤ 60) ∧ (0 ≤ ks_wi Hi K s h ∧ ks_wi Hi K s h ≤ 60)) : ks_sure K Lo Hi s a h ≤ 1425600 := by
  have p1 := ks_pw hK (s := s) ha hw.1
  have p2 := ks_pw hK (s := s) ha hw.2
  obtain ⟨-, -, -, -, h4, h5, h6, h7, -⟩ := hK
  have m := mm_mulb (a := ks_p K s a (ks_wi Hi K s h)) (b := K 7) (A := 1425600) (B := 400) p2.1 p2.2 h7.1 h7.2
  unfold ks_sure ks_w
  by_cases c1 : ks_dr a = 1
  · rw [if_pos c1, if_neg (by omega)]; omega
  · rw [if_neg c1]
    by_cases c2 : ks_dr a = 2
    · rw [if_pos c2, if_pos c2]
      have := Int.ediv_nonneg m.1 (show (0 : Int) ≤ 100 by omega)
      omega
    · rw [if_neg c2]; omega
/-- no loop, where the mean is still below all acts -/
theorem kx_no_loop (hK : mm_KV K) (hw : ∀ s, ks_st K s → (0 ≤ ks_wi Lo K s h ∧ ks_wi Lo K s h ≤ 60) ∧ (0 ≤ ks_wi Hi K s h ∧ ks_wi Hi K s h ≤ 60)) {H : Nat → Int} (hup : ∀ u v w, kb_E K Lo Hi h u v w → H u + (1 * w - (-1000000)) ≤ H v) : ¬ ∃ p g m, gL (kb_E K Lo Hi h) p g m := by
  rintro ⟨p, g, m, hL⟩
  have a := kz_le (S := -1000000) (C := 1) hup hL
  have b := ka_sum_ple (f := fun _ => (-999999 : Int)) (g := g) m (fun j hj => by
    obtain ⟨hu, x, x1, x2, x3, x4⟩ := hL.1 j hj
    have := ks_low hK x1 x2 (hw _ hu)
    rw [x4]
    show (-999999 : Int) ≤ _
    omega)
  have c : ∀ k : Nat, ka_sum (fun _ => (-999999 : Int)) k = -999999 * (k : Int) := by
    intro k
    induction k with
    | zero => rfl
    | succ k ih => show ka_sum (fun _ => (-999999 : Int)) k + -999999 = _; rw [ih]; omega
  rw [c] at b
  have := hL.2.1
  omega
/-- a kept path is an act that keeps the level -/
theorem kt_K.at (hP : kx_P K Lo Hi M h n) (hk : kt_K M P n S C) {u x : Nat} (hu : u < n) (h1 : P 31 u ≤ (x : Int)) (h2 : (x : Int) < P 31 (u + 1)) : kb_T K Lo Hi h (M 36) S C (u : Int) (P 35 x) ∧ (∃ v : Nat, v < n ∧ P 33 x = (v : Int)) ∧ P 33 x = ks_to K (u : Int) (P 35 x) ∧ P 34 x = ks_sure K Lo Hi (u : Int) (P 35 x) h := by
  obtain ⟨c0, c1, g1, g2, g3, g4, g5, -⟩ := hk u hu
  obtain ⟨p', v, p1, p2, p3, p4, p5⟩ := g5 x (by omega) (by omega)
  obtain ⟨z1, z2, z3, z4⟩ := hP.at p2.1
  have t := p2.2
  unfold kv_w at t
  rw [p5]
  refine ⟨⟨z1, z2, ?_⟩, ⟨v, p2.1.2.2.1, p3⟩, by rw [p3, z3], by rw [p4, z4]⟩
  rw [z3, ← z4, show ((u : Int)).toNat = u by omega, show ((v : Int)).toNat = v by omega, Int.mul_comm C]
  exact t
/-- every act that keeps the level has a kept path, its act no greater -/
theorem kt_K.of (hP : kx_P K Lo Hi M h n) (hK : mm_KV K) (hn : ks_n K = (n : Int)) (hC : 0 < C) (hS : ∀ y, y < n → kv_S M n S C y) (hk : kt_K M P n S C) {u : Nat} {a : Int} (hu : u < n) (hT : kb_T K Lo Hi h (M 36) S C (u : Int) a) : ∃ x : Nat, P 31 u ≤ (x : Int) ∧ (x : Int) < P 31 (u + 1) ∧ P 33 x = ks_to K (u : Int) a ∧ P 35 x ≤ a := by
  obtain ⟨t1, t2, t3⟩ := hT
  obtain ⟨p, v, p1, p2, p3, p4⟩ := hP.of hK hn hu t1 t2
  have q := hS u hu p v p1
  unfold kv_w at q
  rw [p2, show ((u : Int)).toNat = u by omega, show ((v : Int)).toNat = v by omega] at t3
  rw [Int.mul_comm (M 34 p)] at q
  have m1 := Int.mul_le_mul_of_nonneg_left p3 (by omega : 0 ≤ C)
  have eC : C * ks_sure K Lo Hi (u : Int) a h = C * M 34 p := by omega
  have eq : ks_sure K Lo Hi (u : Int) a h = M 34 p := Int.eq_of_mul_eq_mul_left (by omega) eC
  obtain ⟨c0, c1, g1, g2, g3, g4, -, g6⟩ := hk u hu
  obtain ⟨x, x1, x2, x3, x4, x5⟩ := g6 p v p1.1 ⟨p1, by unfold kv_w; rw [Int.mul_comm (M 34 p)]; omega⟩
  exact ⟨x, by omega, by omega, by rw [x3, p2], by rw [x5]; exact p4 eq⟩
theorem kt_K.W (hP : kx_P K Lo Hi M h n) (hK : mm_KV K) (hw : ∀ s, ks_st K s → (0 ≤ ks_wi Lo K s h ∧ ks_wi Lo K s h ≤ 60) ∧ (0 ≤ ks_wi Hi K s h ∧ ks_wi Hi K s h ≤ 60)) (hn : ks_n K = (n : Int)) (hk : kt_K M P n S C) : kW_G P n := by
  intro u hu
  obtain ⟨c0, c1, g1, g2, g3, g4⟩ := hk u hu
  refine ⟨c0, c1, g1, g2, g4.1, g3, fun x x1 x2 => ?_⟩
  obtain ⟨⟨z1, z2, -⟩, z3, z4, z5⟩ := hk.at hP hu (x := x) (by omega) (by omega)
  have st : ks_st K (u : Int) := ⟨by omega, by omega⟩
  have gb := ks_sureb (Lo := Lo) (Hi := Hi) (s := (u : Int)) (hr := h) hK z1 (hw _ st).1 (hw _ st).2
  have h10 : 1 ≤ K 10 ∧ K 10 ≤ 3 := by
    obtain ⟨-, -, -, -, -, -, -, -, -, -, q, -⟩ := hK
    exact q
  exact ⟨z3, by rw [z5]; exact gb, z1.1, by have := z1.2; omega⟩
theorem kt_K.t (hP : kx_P K Lo Hi M h n) (hK : mm_KV K) (hn : ks_n K = (n : Int)) (hC : 0 < C) (hS : ∀ y, y < n → kv_S M n S C y) (hk : kt_K M P n S C) : kU_t P n = kb_t K Lo Hi h (M 36) S C := by
  funext u v
  apply propext
  constructor
  · rintro ⟨hu, x, x1, x2, x3⟩
    obtain ⟨z1, -, z3, -⟩ := hk.at hP hu x1 x2
    exact ⟨⟨by omega, by omega⟩, P 35 x, z1, by rw [← z3, x3]⟩
  · rintro ⟨hu, a, a1, a2⟩
    have hun : u < n := by have := hu.2; omega
    obtain ⟨x, x1, x2, x3, -⟩ := hk.of hP hK hn hC hS hun a1
    exact ⟨hun, x, x1, x2, by rw [x3, a2]⟩
end
section
variable {t : Nat → Nat → Prop} {n : Nat}
theorem kd_mono {t t' : Nat → Nat → Prop} {g : Nat} (h : ∀ u v, t u v → t' u v) : ∀ {d v : Nat}, kd_D t g d v → kd_D t' g d v
  | 0, _, q => q
  | _ + 1, _, ⟨u, q1, q2⟩ => ⟨u, h _ _ q1, kd_mono h q2⟩
/-- a round goes through each of its states -/
theorem kd_rot {b l : Nat} {p : Nat → Nat} (p0 : p 0 = b) (pl : p l = b) (hp : ∀ i, i < l → t (p i) (p (i + 1))) {i : Nat} (hi : i ≤ l) : kd_D t (p i) l (p i) := by
  have a := kd_Dof (t := t) (p := p) i 0 (fun x hx => hp x (by omega))
  rw [Nat.zero_add, p0] at a
  have r := kd_Rof (t := t) (p := fun x => p (i + x)) (l - i) (fun x hx => by
    have := hp (i + x) (by omega)
    exact this)
  have r : kd_R t (p (i + 0)) (l - i) (p (i + (l - i))) := r
  rw [Nat.add_zero, show i + (l - i) = l by omega, pl] at r
  have := kd_RD (l - i) i b r a
  rw [show l - i + i = l by omega] at this
  exact this
/-- the shortest round of the states below s, and the least of those -/
def kU_B (t : Nat → Nat → Prop) (n s : Nat) (st sh : Int) : Prop := (st = -1 ∧ sh = (n : Int) + 1 ∧ ∀ u, u < s → ∀ l : Nat, 1 ≤ l → ¬ kd_D t u l u) ∨ ∃ B L : Nat, st = (B : Int) ∧ sh = (L : Int) ∧ B < s ∧ 1 ≤ L ∧ L ≤ n ∧ kd_D t B L B ∧ ∀ u, u < s → ∀ l : Nat, 1 ≤ l → kd_D t u l u → L < l ∨ (L = l ∧ B ≤ u)
theorem kU_B.in {s : Nat} {st sh : Int} (h : kU_B t n s st sh) {l : Nat} (h1 : 1 ≤ l) (hl : (l : Int) < sh) (hD : kd_D t s l s) : kd_D (fun u v => t u v ∧ s ≤ v) s l s := by
  obtain ⟨p, p0, pl, hp⟩ := kd_walk l s hD
  have ge : ∀ i, i ≤ l → s ≤ p i := by
    intro i hi
    by_cases c : s ≤ p i
    · exact c
    · exfalso
      have r := kd_rot p0 pl hp hi
      rcases h with ⟨-, -, q⟩ | ⟨B, L, q1, q2, q3, q4, q5, q6, q7⟩
      · exact q (p i) (by omega) l h1 r
      · rcases q7 (p i) (by omega) l h1 r with z | z <;> omega
  have := kd_Dof (t := fun u v => t u v ∧ s ≤ v) (p := p) l 0 (fun i hi => ⟨hp i (by omega), ge (i + 1) (by omega)⟩)
  rw [Nat.zero_add, pl, p0] at this
  exact this
theorem kU_B.no {s : Nat} {st sh : Int} (hN : ∀ u v, t u v → u < n) (h : kU_B t n s st sh) (hx : ∀ l : Nat, 1 ≤ l → (l : Int) < sh → ¬ kd_D (fun u v => t u v ∧ s ≤ v) s l s) : kU_B t n (s + 1) st sh := by
  have hx' : ∀ l : Nat, 1 ≤ l → (l : Int) < sh → ¬ kd_D t s l s := fun l l1 l2 q => hx l l1 l2 (h.in l1 l2 q)
  rcases h with ⟨q1, q2, q3⟩ | ⟨B, L, q1, q2, q3, q4, q5, q6, q7⟩
  · refine Or.inl ⟨q1, q2, fun u hu l l1 hD => ?_⟩
    by_cases c : u = s
    · rw [c] at hD
      obtain ⟨l', y1, y2, y3, y4⟩ := kd_short hN l1 hD
      exact hx' l' y1 (by omega) y4
    · exact q3 u (by omega) l l1 hD
  · refine Or.inr ⟨B, L, q1, q2, by omega, q4, q5, q6, fun u hu l l1 hD => ?_⟩
    by_cases c : u = s
    · rw [c] at hD ⊢
      have : ¬ (l : Int) < sh := fun z => hx' l l1 z hD
      omega
    · exact q7 u (by omega) l l1 hD
theorem kU_B.new {s l0 : Nat} {st sh : Int} (h : kU_B t n s st sh) (h1 : 1 ≤ l0) (hl : (l0 : Int) < sh) (hn : l0 ≤ n) (hD : kd_D (fun u v => t u v ∧ s ≤ v) s l0 s) (hm : ∀ l : Nat, 1 ≤ l → l < l0 → ¬ kd_D (fun u v => t u v ∧ s ≤ v) s l s) : kU_B t n (s + 1) (s : Int) (l0 : Int) := by
  refine Or.inr ⟨s, l0, rfl, rfl, by omega, h1, hn, kd_mono (fun _ _ q => q.1) hD, fun u hu l l1 hDu => ?_⟩
  by_cases c : u = s
  · rw [c] at hDu ⊢
    have : ¬ l < l0 := fun z => hm l l1 z (h.in l1 (by omega) hDu)
    omega
  · rcases h with ⟨q1, q2, q3⟩ | ⟨B, L, q1, q2, q3, q4, q5, q6, q7⟩
    · exact absurd hDu (q3 u (by omega) l l1)
    · rcases q7 u (by omega) l l1 hDu with z | z <;> omega
end
end
/-! HP.find -/
section
/-! ===== KitePower$LoopFinder: find ===== -/
section
variable {M0 P : mm_M} {n b k e : Nat} {f : Nat → Int}
/-- on a shortest round each state has the layer of its place -/
theorem kU_I.lay {L i v : Nat} (hI : kU_I M0 P n b k e f) (hN : ∀ u v, kU_b M0 n b u v → v < n) (hk : k < e) (hl : kQ_d b f (P 41 k).toNat + 1 = (L : Int)) (hno : ∀ l' : Nat, 1 ≤ l' → l' < L → ¬ kd_D (kU_b M0 n b) b l' b) (h1 : 1 ≤ i) (hi : i < L) (hr : kd_R (kU_b M0 n b) b i v) (hd : kd_D (kU_b M0 n b) b (L - i) v) : P 40 v = (i : Int) := by
  obtain ⟨hf, he, hy, hQ⟩ := hI
  have hv : v < n := by
    obtain ⟨i', rfl⟩ : ∃ i', i = i' + 1 := ⟨i - 1, by omega⟩
    obtain ⟨u, -, q⟩ := hr
    exact hN _ _ q
  have vb : v ≠ b := fun q => by
    rw [q] at hr
    have := kd_RD (g := b) i 0 b hr rfl
    exact hno i h1 hi this
  have key : f v ≤ (i : Int) ∧ f v < 1000000 := by
    obtain ⟨i', rfl⟩ : ∃ i', i = i' + 1 := ⟨i - 1, by omega⟩
    obtain ⟨u, u1, u2⟩ := hr
    obtain ⟨x, x1, x2, x3⟩ := hQ.done hN (L - 1) (Or.inr ⟨hk, by omega⟩) i' (by omega) u u1
    obtain ⟨g1, g2, g3⟩ := hQ.go x x1 v (by rw [x2]; exact u2)
    rw [x2] at g2
    exact ⟨by omega, g3⟩
  rw [hy v hv, if_neg vb, if_neg (by omega)]
  rcases hQ.fv v hv with q | ⟨d, d1, d2, d3, d4, d5, -⟩
  · omega
  · by_cases c : d = i
    · rw [d1, c]
    · exfalso
      exact hno (d + (L - i)) (by omega) (by omega) (kd_RD d (L - i) v d5 hd)
theorem kU_I.g {L : Nat} (hI : kU_I M0 P n b k e f) (hb : b < n) (hN : ∀ u v, kU_b M0 n b u v → v < n) (hk : k < e) (hl : kQ_d b f (P 41 k).toNat + 1 = (L : Int)) (hno : ∀ l' : Nat, 1 ≤ l' → l' < L → ¬ kd_D (kU_b M0 n b) b l' b) : ∀ r : Nat, r ≤ L → ∀ v, kd_R (kU_b M0 n b) b (L - r) v → kd_D (kU_b M0 n b) b r v → kU_g (kU_t P n) (P 40) b (L : Int) r v := by
  intro r
  induction r with
  | zero => intro _ v _ h; exact h
  | succ r ih =>
    intro hr v h1 h2
    have hlay : P 40 v = (L : Int) - ((r + 1 : Nat) : Int) := by
      by_cases c : L = r + 1
      · rw [c, Nat.sub_self] at h1
        have h1 : v = b := h1
        rw [h1, hI.2.2.1 b hb, if_pos rfl]
        omega
      · rw [hI.lay hN hk hl hno (i := L - (r + 1)) (by omega) (by omega) h1 (by rw [show L - (L - (r + 1)) = r + 1 by omega]; exact h2)]
        omega
    obtain ⟨u, u1, u2⟩ := h2
    refine ⟨hlay, u, hI.1.t.mpr u1.1, ih (by omega) u ?_ u2⟩
    rw [show L - r = L - (r + 1) + 1 by omega]
    exact ⟨v, h1, u1⟩
end
theorem kx_P.cg {K Lo Hi : Nat → Int} {M N : mm_M} {h : Int} {n : Nat} (e : ∀ a, 31 ≤ a → a ≤ 35 → N a = M a) (hP : kx_P K Lo Hi M h n) : kx_P K Lo Hi N h n := by
  unfold kx_P kx_D kx_Z at hP ⊢
  rw [e 31 (by decide) (by decide), e 32 (by decide) (by decide), e 33 (by decide) (by decide), e 34 (by decide) (by decide), e 35 (by decide) (by decide)]
  exact hP
/-- from a mean to that of a round of paths that gives more -/
def kv_st (Q : mm_M) (n : Nat) (S C S' C' : Int) : Prop := ∃ q r m, kv_B Q n q r m ∧ S' = ka_sum (fun j => Q 34 (r j)) m ∧ C' = (m : Int) ∧ S * m < C * ka_sum (fun j => Q 34 (r j)) m
/-- means, one after the other -/
def kv_ch (Q : mm_M) (n : Nat) : Nat → Int → Int → Prop
  | 0, S, C => S = -1000000 ∧ C = 1
  | i + 1, S', C' => ∃ S C, kv_ch Q n i S C ∧ kv_st Q n S C S' C'
theorem kv_B.sum {Q : mm_M} {n : Nat} (hG : kv_G Q n) (hn2 : n ≤ 288) {q r : Nat → Nat} {m : Nat} (hB : kv_B Q n q r m) : -1670400000 ≤ ka_sum (fun j => Q 34 (r j)) m ∧ ka_sum (fun j => Q 34 (r j)) m ≤ 1670400000 := by
  have := ka_sumb (f := fun j => Q 34 (r j)) (B := 5800000) (n := m) (fun j hj => hG.w (hB.2.2.2 j hj))
  have := hB.2.1
  omega
theorem kv_ch.b {Q : mm_M} {n : Nat} (hG : kv_G Q n) (hn2 : n ≤ 288) : ∀ {i : Nat} {S C : Int}, kv_ch Q n i S C → (-2000000000 ≤ S ∧ S ≤ 2000000000) ∧ 1 ≤ C ∧ C ≤ 288
  | 0, S, C, ⟨h1, h2⟩ => by omega
  | _ + 1, S, C, ⟨S0, C0, _, q, r, m, h1, h2, h3, _⟩ => by
    have := h1.sum hG hn2
    have := h1.1
    have := h1.2.1
    omega
/-- there are so many rounds that the search is cut -/
def kX_cut (K Lo Hi : Nat → Int) (h : Int) (n : Nat) : Prop := ∃ Q S C, kx_P K Lo Hi Q h n ∧ kv_ch Q n 1000000 S C
/-- what find changes -/
def kz_F (M N : mm_M) (rc : Nat) : Prop := mm_Rf N ∧ (∀ a, ¬ (28 ≤ a ∧ a ≤ 41) → a ≠ rc → a ≠ rc + 1 → a ≠ rc + 2 → N a = M a) ∧ ∀ b, b ≠ 15 → b ≠ 16 → b ≠ 17 → N 28 b = M 28 b
section
variable {X : mm_X} {M : mm_M} {h : Int} {n : Nat}
theorem c_X6_find {rc : Nat} (hR : mm_Rf M) (hK : mm_CK M) (hA : mm_CA M) (hh : ks_hr h) (hn : ks_n (M 4) = (n : Int)) (hrw : mm_rw rc 288) (hrc : 42 ≤ rc) :
    mm_C X Y_X6_find 243 243 [(2, 29), (0, h), (2, (rc : Int) + 1)] M (fun r M' => r = (3, 0) ∧ mm_Rf M' ∧ kz_F M M' rc ∧ (0 ≤ M' rc 2 ∧ M' rc 2 ≤ 288) ∧ (-1000000 * M' rc 2 ≤ M' rc 3 ∧ M' rc 3 ≤ 1425600 * M' rc 2 ∨ M' rc 2 = 0) ∧ (kb_is (M 4) (M 16) (M 17) h (M' rc 2) (M' rc 3) (M' (rc + 1)) (M' (rc + 2)) ∨ kX_cut (M 4) (M 16) (M 17) h n)) := by
  obtain ⟨Φ, hΦ⟩ : ∃ Φ : mm_V → mm_M → Prop, Φ = (fun r M' => r = (3, 0) ∧ mm_Rf M' ∧ kz_F M M' rc ∧ (0 ≤ M' rc 2 ∧ M' rc 2 ≤ 288) ∧ (-1000000 * M' rc 2 ≤ M' rc 3 ∧ M' rc 3 ≤ 1425600 * M' rc 2 ∨ M' rc 2 = 0) ∧ (kb_is (M 4) (M 16) (M 17) h (M' rc 2) (M' rc 3) (M' (rc + 1)) (M' (rc + 2)) ∨ kX_cut (M 4) (M 16) (M 17) h n)) := ⟨_, rfl⟩
  rw [← hΦ]
  have hV := hK.1
  have hnb := ks_nb hV
  have hn1 : 1 ≤ n := by omega
  have hn2 : n ≤ 288 := by omega
  have hrc3 := hrw.2.2.2.1
  have hw : ∀ s, ks_st (M 4) s → (0 ≤ ks_wi (M 16) (M 4) s h ∧ ks_wi (M 16) (M 4) s h ≤ 60) ∧ (0 ≤ ks_wi (M 17) (M 4) s h ∧ ks_wi (M 17) (M 4) s h ≤ 60) := fun s hs => hA.wi hV hs hh
  have nst : M 3 2 = (n : Int) := by rw [← hn]; exact hK.2.1
  -- behind keepTightPaths: the shortest round is sought and written
  have tail : ∀ Q N P0 : mm_M, ∀ S C : Int, kx_P (M 4) (M 16) (M 17) Q h n → (∀ a, 31 ≤ a → a ≤ 35 → N a = Q a) → 0 < C → ((∃ j, kv_ch Q n j S C) ∧ (∀ y, y < n → kv_S N n S C y) ∨ kv_ch Q n 1000000 S C) → kt_K N P0 n S C → kz_F M P0 rc → P0 rc 2 = 0 → kU_q P0 n →
      mm_J X Y_X6_find 243 243 243 87 [(2, 29), (0, h), (2, (rc : Int) + 1), (9, 0), (0, -1), (0, (n : Int) + 1), (0, (0 : Int)), (9, 0)] [] P0 Φ := by
    intro Q N P0 S C hPQ eN hC hmean hk hF0 hrow hq0
    have hPN : kx_P (M 4) (M 16) (M 17) N h n := hPQ.cg eN
    have hWG := hk.W hPN hV hw hn
    have hUG := hWG.g
    obtain ⟨t, ht⟩ : ∃ t, t = kU_t P0 n := ⟨_, rfl⟩
    have tn : ∀ u v, t u v → u < n := fun u v q => by rw [ht] at q; exact q.1
    -- the end, where no round was found
    have none : ∀ P, kU_f P0 P → (∀ u, u < n → ∀ l : Nat, 1 ≤ l → ¬ kd_D t u l u) → Φ (3, 0) P := by
      intro P hf hno
      rw [hΦ]
      have e2 : P rc 2 = 0 := by rw [hf.2.1 rc (by omega) (by omega) (by omega)]; exact hrow
      refine ⟨rfl, hf.1, ⟨hf.1, fun a a1 a2 a3 a4 => by rw [hf.2.1 a (by omega) (by omega) (by omega)]; exact hF0.2.1 a a1 a2 a3 a4, fun b b1 b2 b3 => by rw [hf.2.2 b b1]; exact hF0.2.2 b b1 b2 b3⟩, by rw [e2]; omega, Or.inr e2, ?_⟩
      rcases hmean with ⟨⟨j, hj⟩, hS⟩ | hcut
      · left
        refine kb_none e2 ?_ hV
        have hup := hPN.up hV hn hC hS
        match j, hj with
        | 0, hj =>
          obtain ⟨j1, j2⟩ := hj
          rw [j1, j2] at hup
          exact kx_no_loop hV hw hup
        | j + 1, hj =>
          exfalso
          obtain ⟨S0, C0, -, q, r, m, r1, r2, r3, -⟩ := hj
          have r1N : kv_B N n q r m := by unfold kv_B kv_p at r1 ⊢; rw [eN 31 (by decide) (by decide), eN 32 (by decide) (by decide), eN 33 (by decide) (by decide)]; exact r1
          have hL := r1N.gl hPN hn
          have e34 : N 34 = Q 34 := eN 34 (by decide) (by decide)
          have tight := (kz_loop hup hL).mp (by rw [r3, r2, e34, Int.mul_comm])
          have tt : ∀ j, j < m → t (q j) (q (j + 1)) := by
            intro j hj
            rw [ht, hk.t hPN hV hn hC hS]
            have hp := r1N.2.2.2 j hj
            obtain ⟨z1, z2, z3, z4⟩ := hPN.at hp
            refine ⟨⟨by omega, by have := hp.2.1; omega⟩, N 35 (r j), ⟨z1, z2, ?_⟩, z3⟩
            rw [← z4, z3, show ((q j : Int)).toNat = q j by omega, show ((q (j + 1) : Int)).toNat = q (j + 1) by omega]
            exact tight j hj
          have d := kd_Dof (t := t) (p := q) m 0 (fun i hi => tt i (by omega))
          rw [Nat.zero_add, r1N.2.2.1] at d
          exact hno (q 0) (r1N.2.2.2 0 (by have := r1N.1; omega)).2.1 m r1N.1 d
      · right
        exact ⟨Q, S, C, hPQ, hcut⟩
    -- the end, where one was found
    have some : ∀ P (B L : Nat), kU_f P0 P → kU_q P n → B < n → 1 ≤ L → L ≤ n → kd_D t B L B → (∀ u, u < n → ∀ l : Nat, 1 ≤ l → kd_D t u l u → L < l ∨ (L = l ∧ B ≤ u)) →
        mm_J X Y_X6_find 243 243 243 135 [(2, 29), (0, h), (2, (rc : Int) + 1), (9, 0), (0, (B : Int)), (0, (L : Int)), (9, 0), (9, 0)] [] P Φ := by
      intro P B L hf hq hB hL1 hLn hD hall
      have hRP := hf.1
      have tP : kU_t P n = t := by rw [ht]; funext u v; exact propext hf.t
      have bP : ∀ b, kU_b P n b = fun u v => t u v ∧ b ≤ v := fun b => by funext u v; unfold kU_b; rw [tP]
      have GP := hf.G hUG
      -- a round of that length keeps above its begin
      have up : ∀ p : Nat → Nat, p 0 = B → p L = B → (∀ i, i < L → t (p i) (p (i + 1))) → ∀ i, i ≤ L → B ≤ p i := by
        intro p p0 pl hp i hi
        have r := kd_rot p0 pl hp hi
        have pn : p i < n := by
          by_cases c : i < L
          · exact tn _ _ (hp i c)
          · rw [show i = L by omega, pl]; exact hB
        rcases hall (p i) pn L hL1 r with z | z <;> omega
      have hDb : kd_D (kU_b P n B) B L B := by
        obtain ⟨p, p0, pl, hp⟩ := kd_walk L B hD
        have := kd_Dof (t := kU_b P n B) (p := p) L 0 (fun i hi => by rw [bP]; exact ⟨hp i (by omega), up p p0 pl hp (i + 1) (by omega)⟩)
        rw [Nat.zero_add, pl, p0] at this
        exact this
      have cs := c_X6_shortestFrom (X := X) (M := P) (n := n) (b := B) (m := (L : Int) + 1) hRP GP hn2 hq hB ⟨by omega, by omega⟩
      have cs2 : mm_C X Y_X6_shortestFrom 243 243 [(2, 29), (0, (B : Int)), (0, (L : Int) + 1)] P (fun r M' => ∃ x, r = (0, x) ∧ mm_Rf M' ∧ ∃ k e f, kU_I P M' n B k e f ∧ k < e ∧ kQ_d B f (M' 41 k).toNat + 1 = (L : Int) ∧ ∀ l' : Nat, 1 ≤ l' → l' < L → ¬ kd_D (kU_b P n B) B l' B) := by
        refine mm_C.mono cs ?_
        rintro r U ⟨x, x1, x2, x3, x4, x5⟩
        refine ⟨x, x1, x2, ?_⟩
        rcases x5 with ⟨-, q⟩ | ⟨l, k, e, f, y1, y2, y3, y4, y5, y6, y7, y8, y9⟩
        · exact absurd hDb (q L hL1 (by omega))
        · have el : l = L := by
            have a : kd_D t B l B := kd_mono (fun u v q => by rw [bP] at q; exact q.1) y5
            rcases hall B hB l y2 a with z | z <;> omega
          rw [el] at y6 y9
          exact ⟨k, e, f, y7, y8, y9, y6⟩
      have cm : ∀ U, (∃ k e f, kU_I P U n B k e f ∧ k < e ∧ kQ_d B f (U 41 k).toNat + 1 = (L : Int) ∧ ∀ l' : Nat, 1 ≤ l' → l' < L → ¬ kd_D (kU_b P n B) B l' B) → mm_C X Y_X6_markWaysBack 243 243 [(2, 29), (0, (B : Int)), (0, (L : Int))] U (fun r M' => r = (3, 0) ∧ mm_Rf M' ∧ (∀ a, a ≠ 39 → M' a = U a) ∧ ∀ v, v < n → kU_m U M' n B (L : Int) v) := by
        rintro U ⟨k, e, f, y1, y2, y3, y4⟩
        exact c_X6_markWaysBack y1.1.1 (y1.1.G GP) hn2 hB y1 y2 y3
      -- the loop is written
      have cw : ∀ U V, (∃ k e f, kU_I P U n B k e f ∧ k < e ∧ kQ_d B f (U 41 k).toNat + 1 = (L : Int) ∧ ∀ l' : Nat, 1 ≤ l' → l' < L → ¬ kd_D (kU_b P n B) B l' B) → mm_Rf V → (∀ a, a ≠ 39 → V a = U a) → (∀ v, v < n → kU_m U V n B (L : Int) v) → mm_C X Y_X6_writeLoop 243 243 [(2, 29), (0, (B : Int)), (0, (L : Int)), (2, (rc : Int) + 1)] V (fun r M' => r = (3, 0) ∧ mm_Rf M' ∧ Φ (3, 0) M') := by
        rintro U V ⟨k, e, f, y1, y2, y3, y4⟩ hRV fV mV
        obtain ⟨uf, ue, uy, uQ⟩ := id y1
        have tU : kU_t U n = t := by rw [← tP]; funext u v; exact propext uf.t
        have tV : kU_t V n = t := by rw [← tU]; unfold kU_t; rw [fV 31 (by decide), fV 33 (by decide)]
        have fP0 : ∀ a, a ≠ 28 → a ≠ 39 → a ≠ 40 → a ≠ 41 → V a = P0 a := fun a a1 a2 a3 a4 => by rw [fV a a2, uf.2.1 a a1 a3 a4]; exact hf.2.1 a a1 a3 a4
        have WV : kW_G V n := by unfold kW_G at hWG ⊢; rw [fP0 31 (by decide) (by decide) (by decide) (by decide), fP0 33 (by decide) (by decide) (by decide) (by decide), fP0 34 (by decide) (by decide) (by decide) (by decide), fP0 35 (by decide) (by decide) (by decide) (by decide)]; exact hWG
        have e40 : V 40 = U 40 := fV 40 (by decide)
        have lay : ∀ v, v < n → -1 ≤ U 40 v ∧ U 40 v ≤ (L : Int) := by
          intro v hv
          rw [uy v hv]
          by_cases c : v = B
          · rw [if_pos c]; omega
          · rw [if_neg c]
            rcases uQ.fv v hv with q | ⟨d, d1, d2, d3, d4, d5, i, i1, i2⟩
            · rw [if_pos q]; omega
            · rw [if_neg (by omega)]
              have := uQ.up y2 i i1
              have e : kQ_d B f (U 41 i).toNat = f v := by rw [i2]; unfold kQ_d; rw [if_neg c]
              omega
        have hNb : ∀ u v, kU_b P n B u v → v < n := fun u v q => GP.lt q.1
        have gg := y1.g hB hNb y2 y3 y4
        rw [tU] at gg
        have cw0 := c_X6_writeLoop (X := X) (M := V) (n := n) (b := B) (L := L) (rc := rc) hRV WV hn2 hB hrw hrc ⟨hL1, by omega⟩ (fun j x hj hx => by
          have := (mV x hx).go (j := j) (by rw [e40]) (lay x hx).2 hj
          rw [tU] at this
          rw [tV, e40]
          exact this) (fun x hx => by
          have := lay x hx
          have m39 : V 39 x = 1 ∨ V 39 x = 0 := by
            rcases mV x hx with q | q
            · exact Or.inl q.1
            · exact Or.inr q.1
          rw [e40]
          unfold mm_R
          omega) (by
          rw [tV, e40]
          exact gg L (Nat.le_refl _) B (by rw [Nat.sub_self]; rfl) hDb)
        refine mm_C.mono cw0 ?_
        rintro r W ⟨w1, w2, w3, v, y, w4, w5, w6, w7⟩
        refine ⟨w1, w2, ?_⟩
        rw [tV, e40] at w7
        rw [hΦ]
        refine ⟨rfl, w2, ⟨w2, fun a a1 a2 a3 a4 => ?_, fun b b1 b2 b3 => ?_⟩, by rw [w5]; omega, ?_, ?_⟩
        · rw [w3 a a2 a3 a4, fP0 a (by omega) (by omega) (by omega) (by omega)]
          exact hF0.2.1 a a1 a2 a3 a4
        · rw [w3 28 (by omega) (by omega) (by omega), fV 28 (by decide), uf.2.2 b b1, hf.2.2 b b1]
          exact hF0.2.2 b b1 b2 b3
        · left
          have wk : ∀ j, j < L → -1000000 ≤ V 34 (y j) ∧ V 34 (y j) ≤ 1425600 := by
            intro j hj
            obtain ⟨z1, z2, z3, -⟩ := w7 j hj
            rw [fP0 31 (by decide) (by decide) (by decide) (by decide)] at z2 z3
            obtain ⟨⟨k1, k2, -⟩, -, -, k4⟩ := hk.at hPN z1 z2 z3
            have st : ks_st (M 4) (v j : Int) := ⟨by omega, by omega⟩
            rw [fP0 34 (by decide) (by decide) (by decide) (by decide), k4]
            have a := ks_low hV k1 k2 (hw _ st)
            have b := ks_high hV k1 (hw _ st)
            exact ⟨by omega, b⟩
          have cs : ∀ (x : Int) (k : Nat), ka_sum (fun _ => x) k = x * (k : Int) := by
            intro x k
            induction k with
            | zero => show (0 : Int) = _; omega
            | succ k ih => show ka_sum (fun _ => x) k + x = _; rw [ih, show ((k + 1 : Nat) : Int) = (k : Int) + 1 by omega, Int.mul_add, Int.mul_one]
          have lo := ka_sum_ple (f := fun _ => (-1000000 : Int)) (g := fun j => V 34 (y j)) L (fun j hj => (wk j hj).1)
          have hi := ka_sum_ple (f := fun j => V 34 (y j)) (g := fun _ => (1425600 : Int)) L (fun j hj => (wk j hj).2)
          rw [cs] at lo hi
          rw [w5, w6]
          exact ⟨lo, hi⟩
        · rcases hmean with ⟨-, hS⟩ | hcut
          · left
            have hup := hPN.up hV hn hC hS
            have tk : t = kb_t (M 4) (M 16) (M 17) h (N 36) S C := by rw [ht]; exact hk.t hPN hV hn hC hS
            have r31 : V 31 = P0 31 := fP0 31 (by decide) (by decide) (by decide) (by decide)
            have r33 : V 33 = P0 33 := fP0 33 (by decide) (by decide) (by decide) (by decide)
            have r34 : V 34 = P0 34 := fP0 34 (by decide) (by decide) (by decide) (by decide)
            have r35 : V 35 = P0 35 := fP0 35 (by decide) (by decide) (by decide) (by decide)
            rw [r31, r33, r35] at w7
            -- the states of the loop
            have run : ∀ j, j ≤ L → kf_run (M 4) (B : Int) (W (rc + 1)) j = (v j : Int) := by
              intro j
              induction j with
              | zero => intro _; show (B : Int) = _; rw [w4]
              | succ j ih =>
                intro hj
                obtain ⟨z1, z2, z3, z4, z5, z6, z7, z8⟩ := w7 j (by omega)
                obtain ⟨k1, k2, k3, k4⟩ := hk.at hPN z1 z2 z3
                show ks_to (M 4) (kf_run (M 4) (B : Int) (W (rc + 1)) j) (W (rc + 1) j) = _
                rw [ih (by omega), z7, ← k3, z4]
            have vL : v L = B := by
              have := (w7 (L - 1) (by omega)).2.2.2.2.1
              rw [show L - (L - 1) - 1 = 0 by omega, show L - 1 + 1 = L by omega] at this
              exact this
            have tstep : ∀ j, j < L → t (v j) (v (j + 1)) := by
              intro j hj
              obtain ⟨z1, z2, z3, z4, -⟩ := w7 j hj
              rw [ht]
              exact ⟨z1, y j, z2, z3, z4⟩
            have sm : W rc 3 = kb_sm (M 4) (M 16) (M 17) h (B : Int) (W (rc + 1)) L := by
              rw [w6, r34]
              unfold kb_sm
              refine ka_sum_congr (fun j hj => ?_)
              obtain ⟨z1, z2, z3, z4, z5, z6, z7, z8⟩ := w7 j hj
              obtain ⟨k1, k2, k3, k4⟩ := hk.at hPN z1 z2 z3
              unfold kj_g
              rw [run j (by omega), z7]
              exact k4
            rw [w5, sm]
            refine kb_of hV hC hup ⟨by omega, by omega⟩ hL1 (by omega) (fun j hj => ?_) (by rw [run L (Nat.le_refl _), vL]) (fun s hs l l1 zD => by
              rw [← tk] at zD
              exact hall s (by have := hs.2; omega) l l1 zD) (fun j hj => by rw [run j (by omega)]; exact (w7 j hj).2.2.2.2.2.2.2)
            obtain ⟨z1, z2, z3, z4, z5, z6, z7, z8⟩ := w7 j hj
            obtain ⟨k1, k2, k3, k4⟩ := hk.at hPN z1 z2 z3
            rw [run j (by omega), z7]
            refine ⟨k1, fun a ta da => ?_⟩
            obtain ⟨x, x1, x2, x3, x4⟩ := hk.of hPN hV hn hC hS z1 ta
            have ast := ks_to_st hV ⟨by omega, by omega⟩ ta.2.1.1
            obtain ⟨c, hc⟩ : ∃ c : Nat, ks_to (M 4) (v j : Int) a = (c : Int) := ⟨(ks_to (M 4) (v j : Int) a).toNat, by omega⟩
            rw [hc, show ((c : Int)).toNat = c by omega] at da
            have tc : t (v j) c := by rw [tk]; exact ⟨⟨by omega, by omega⟩, a, ta, hc⟩
            rw [← tk] at da
            -- the round that goes on with this act
            obtain ⟨p, p0, pl, hp⟩ := kd_walk _ _ da
            have jp : ∀ i, i < L → t (if i ≤ j then v i else p (i - (j + 1))) (if i + 1 ≤ j then v (i + 1) else p (i + 1 - (j + 1))) := by
              intro i hi
              by_cases ci : i + 1 ≤ j
              · rw [if_pos (by omega), if_pos ci]; exact tstep i (by omega)
              · rw [if_neg ci]
                by_cases ce : i = j
                · rw [if_pos (by omega), ce, show j + 1 - (j + 1) = 0 by omega, p0]; exact tc
                · rw [if_neg (by omega), show i + 1 - (j + 1) = i - (j + 1) + 1 by omega]
                  exact hp (i - (j + 1)) (by omega)
            have ups := up (fun i => if i ≤ j then v i else p (i - (j + 1))) (by show (if 0 ≤ j then v 0 else p (0 - (j + 1))) = B; rw [if_pos (by omega)]; exact w4) (by show (if L ≤ j then v L else p (L - (j + 1))) = B; rw [if_neg (by omega), show L - (j + 1) = L - j - 1 by omega]; exact pl) jp
            have jb : ∀ i, i < L → kU_b P n B (if i ≤ j then v i else p (i - (j + 1))) (if i + 1 ≤ j then v (i + 1) else p (i + 1 - (j + 1))) := by
              intro i hi
              rw [bP]
              exact ⟨jp i hi, ups (i + 1) (by omega)⟩
            have rr := kd_Rof (t := kU_b P n B) (p := fun i => if i ≤ j then v i else p (i - (j + 1))) (j + 1) (fun i hi => jb i (by omega))
            have dd := kd_Dof (t := kU_b P n B) (p := fun i => if i ≤ j then v i else p (i - (j + 1))) (L - (j + 1)) (j + 1) (fun i hi => jb i (by omega))
            have rr : kd_R (kU_b P n B) (if 0 ≤ j then v 0 else p (0 - (j + 1))) (j + 1) (if j + 1 ≤ j then v (j + 1) else p (j + 1 - (j + 1))) := rr
            have dd : kd_D (kU_b P n B) (if j + 1 + (L - (j + 1)) ≤ j then v (j + 1 + (L - (j + 1))) else p (j + 1 + (L - (j + 1)) - (j + 1))) (L - (j + 1)) (if j + 1 ≤ j then v (j + 1) else p (j + 1 - (j + 1))) := dd
            rw [if_pos (by omega), if_neg (by omega), Nat.sub_self, p0, w4] at rr
            rw [if_neg (by omega), if_neg (by omega), Nat.sub_self, p0, show j + 1 + (L - (j + 1)) - (j + 1) = L - j - 1 by omega, pl] at dd
            have g := gg (L - j - 1) (by omega) c (by rw [show L - (L - j - 1) = j + 1 by omega]; exact rr) (by rw [show L - (j + 1) = L - j - 1 by omega] at dd; exact dd)
            have := z6 x c x1 x2 (by rw [x3, hc]) g
            omega
          · right
            exact ⟨Q, S, C, hPQ, hcut⟩
      refine mm_iload dX6_find_135 rfl rfl ?_
      refine mm_iconst dX6_find_137 rfl ?_
      refine mm_iceq dX6_find_138 (by omega) (by omega) (fun h138 => ?_) (fun h138 => ?_)
      · exfalso; omega
      · refine mm_aload_n dX6_find_141 rfl rfl ?_
        refine mm_iload dX6_find_142 rfl rfl ?_
        refine mm_iload dX6_find_144 rfl rfl ?_
        refine mm_iconst dX6_find_146 rfl ?_
        refine mm_iadd dX6_find_147 rfl ?_
        refine mm_V2g (M1 := P) dX6_find_148 rfl lk_X6_105 (c := 28) rfl (by decide) rfl (by simp) (by simp) rfl rfl rfl (cs2) ?_
        rintro _ N148 ⟨x148, rfl, p148⟩
        change mm_J _ _ _ _ _ _ _ _ _ _
        have hR148 : mm_Rf N148 := p148.1
        refine mm_pop dX6_find_151 rfl (by simp) ?_
        refine mm_aload_n dX6_find_152 rfl rfl ?_
        refine mm_iload dX6_find_153 rfl rfl ?_
        refine mm_iload dX6_find_155 rfl rfl ?_
        refine mm_V2g (M1 := N148) dX6_find_157 rfl lk_X6_109 (c := 28) rfl (by decide) rfl (by simp) (by simp) rfl rfl rfl (cm N148 p148.2) ?_
        rintro _ N157 ⟨rfl, p157⟩
        change mm_J _ _ _ _ _ _ _ _ _ _
        have hR157 : mm_Rf N157 := p157.1
        refine mm_aload_n dX6_find_160 rfl rfl ?_
        refine mm_iload dX6_find_161 rfl rfl ?_
        refine mm_iload dX6_find_163 rfl rfl ?_
        refine mm_aload_n dX6_find_165 rfl rfl ?_
        refine mm_V3g (M1 := N157) dX6_find_166 rfl lk_X6_113 (c := 28) rfl (by decide) rfl (by simp) (by simp) (by simp) rfl rfl rfl (cw N148 N157 p148.2 hR157 p157.2.1 p157.2.2) ?_
        rintro _ N166 ⟨rfl, p166⟩
        change mm_J _ _ _ _ _ _ _ _ _ _
        have hR166 : mm_Rf N166 := p166.1
        refine mm_vret dX6_find_169 rfl rfl ?_
        exact p166.2
    -- the search
    have loop : ∀ s : Nat, s ≤ n → ∀ P st sh, kU_f P0 P → kU_q P n → kU_B t n s st sh → mm_J X Y_X6_find 243 243 243 87 [(2, 29), (0, h), (2, (rc : Int) + 1), (9, 0), (0, st), (0, sh), (0, (s : Int)), (9, 0)] [] P Φ := by
      refine mm_lp ?_
      intro s hs ih P st sh hf hq hB
      have hRP := hf.1
      have est : P 3 2 = (n : Int) := by rw [hf.2.1 3 (by decide) (by decide) (by decide), hF0.2.1 3 (by decide) (by omega) (by omega) (by omega)]; exact nst
      have shb : 1 ≤ sh ∧ sh ≤ (n : Int) + 1 ∧ -1 ≤ st ∧ st < (n : Int) := by
        rcases hB with ⟨q1, q2, -⟩ | ⟨B, L, q1, q2, q3, q4, q5, -⟩ <;> omega
      have over : (s = n ∨ sh ≤ 1) → mm_J X Y_X6_find 243 243 243 135 [(2, 29), (0, h), (2, (rc : Int) + 1), (9, 0), (0, st), (0, sh), (9, 0), (9, 0)] [] P Φ := by
        intro hov
        rcases hB with ⟨q1, q2, q3⟩ | ⟨B, L, q1, q2, q3, q4, q5, q6, q7⟩
        · have es : s = n := by omega
          rw [es] at q3
          have fin := none P hf q3
          refine mm_iload dX6_find_135 rfl rfl ?_
          refine mm_iconst dX6_find_137 rfl ?_
          refine mm_iceq dX6_find_138 (by omega) (by omega) (fun h138 => ?_) (fun h138 => ?_)
          · refine mm_vret dX6_find_169 rfl rfl ?_
            exact fin
          · exfalso; omega
        · rw [q1, q2]
          refine some P B L hf hq (by omega) q4 q5 q6 (fun u hu l l1 hD => ?_)
          by_cases c : u < s
          · exact q7 u c l l1 hD
          · rcases hov with z | z
            · omega
            · omega
      by_cases hlt : s < n ∧ 1 < sh
      · have tP : kU_t P n = t := by rw [ht]; funext u v; exact propext hf.t
        have bP : kU_b P n s = fun u v => t u v ∧ s ≤ v := by funext u v; unfold kU_b; rw [tP]
        have cs := c_X6_shortestFrom (X := X) (M := P) (n := n) (b := s) (m := sh) hRP (hf.G hUG) hn2 hq hlt.1 ⟨by omega, by omega⟩
        have cs2 : mm_C X Y_X6_shortestFrom 243 243 [(2, 29), (0, (s : Int)), (0, sh)] P (fun r M' => ∃ x, r = (0, x) ∧ mm_Rf M' ∧ kU_f P0 M' ∧ kU_q M' n ∧ (-1 ≤ x ∧ x ≤ 1000) ∧ (x = -1 → kU_B t n (s + 1) st sh) ∧ (x ≠ -1 → kU_B t n (s + 1) (s : Int) x)) := by
          refine mm_C.mono cs ?_
          rintro r U ⟨x, x1, x2, x3, x4, x5⟩
          rw [bP] at x5
          refine ⟨x, x1, x2, ⟨x2, fun a a1 a2 a3 => by rw [x3.2.1 a a1 a2 a3]; exact hf.2.1 a a1 a2 a3, fun b b1 => by rw [x3.2.2 b b1]; exact hf.2.2 b b1⟩, x4, ?_, fun e => ?_, fun e => ?_⟩
          · rcases x5 with ⟨y1, -⟩ | ⟨l, k, e, f, y1, y2, y3, y4, -⟩ <;> omega
          · rcases x5 with ⟨-, y2⟩ | ⟨l, k, e', f, y1, -⟩
            · exact hB.no tn y2
            · omega
          · rcases x5 with ⟨y1, -⟩ | ⟨l, k, e', f, y1, y2, y3, y4, y5, y6, -⟩
            · exact absurd y1 e
            · rw [y1]
              exact hB.new y2 y3 y4 y5 y6
        refine mm_iload dX6_find_87 rfl rfl ?_
        refine mm_aload_n dX6_find_89 rfl rfl ?_
        refine mm_getr dX6_find_90 rfl fl_X6_55 (c := 28) rfl (by decide) rfl rfl (hRP.at (c := 28) (i := 0) (v := 4) rfl (by decide)) ?_
        refine mm_get (kd := 0) dX6_find_93 rfl fl_X6_102 (c := 3) rfl (by decide) rfl rfl ?_
        rw [est]
        refine mm_icge dX6_find_96 (by omega) (by omega) (fun h96 => ?_) (fun h96 => ?_)
        · exfalso; omega
        · refine mm_iload dX6_find_99 rfl rfl ?_
          refine mm_iconst dX6_find_101 rfl ?_
          refine mm_icle dX6_find_102 (by omega) (by omega) (fun h102 => ?_) (fun h102 => ?_)
          · exfalso; omega
          · refine mm_aload_n dX6_find_105 rfl rfl ?_
            refine mm_iload dX6_find_106 rfl rfl ?_
            refine mm_iload dX6_find_108 rfl rfl ?_
            refine mm_V2g (M1 := P) dX6_find_110 rfl lk_X6_105 (c := 28) rfl (by decide) rfl (by simp) (by simp) rfl rfl rfl (cs2) ?_
            rintro _ N110 ⟨x110, rfl, p110⟩
            change mm_J _ _ _ _ _ _ _ _ _ _
            have hR110 : mm_Rf N110 := p110.1
            have hx110 := p110.2.2.2.1
            refine mm_istore dX6_find_113 rfl (Nat.le_of_ble_eq_true rfl) rfl ?_
            refine mm_iload dX6_find_115 rfl rfl ?_
            refine mm_iconst dX6_find_117 rfl ?_
            refine mm_iceq dX6_find_118 (by omega) (by omega) (fun h118 => ?_) (fun h118 => ?_)
            · refine mm_iinc dX6_find_129 rfl rfl (Nat.le_of_ble_eq_true rfl) rfl ?_
              refine mm_goto dX6_find_132 ?_
              first
              | (have go := ih hlt.1 N110 _ _ p110.2.1 p110.2.2.1 (p110.2.2.2.2.1 (by omega))
                 rw [show ((s + 1 : Nat) : Int) = (s : Int) + 1 by omega] at go
                 exact mm_drop (by repeat (first | exact trivial | refine And.intro (Or.inl rfl) ?_ | refine And.intro (Or.inr rfl) ?_)) go)
              | (have go := ih hlt.1 N110 _ _ p110.2.1 p110.2.2.1 (p110.2.2.2.2.2 (by omega))
                 rw [show ((s + 1 : Nat) : Int) = (s : Int) + 1 by omega] at go
                 exact mm_drop (by repeat (first | exact trivial | refine And.intro (Or.inl rfl) ?_ | refine And.intro (Or.inr rfl) ?_)) go)
            · refine mm_iload dX6_find_121 rfl rfl ?_
              refine mm_istore dX6_find_123 rfl (Nat.le_of_ble_eq_true rfl) rfl ?_
              refine mm_iload dX6_find_125 rfl rfl ?_
              refine mm_istore dX6_find_127 rfl (Nat.le_of_ble_eq_true rfl) rfl ?_
              refine mm_iinc dX6_find_129 rfl rfl (Nat.le_of_ble_eq_true rfl) rfl ?_
              refine mm_goto dX6_find_132 ?_
              first
              | (have go := ih hlt.1 N110 _ _ p110.2.1 p110.2.2.1 (p110.2.2.2.2.1 (by omega))
                 rw [show ((s + 1 : Nat) : Int) = (s : Int) + 1 by omega] at go
                 exact mm_drop (by repeat (first | exact trivial | refine And.intro (Or.inl rfl) ?_ | refine And.intro (Or.inr rfl) ?_)) go)
              | (have go := ih hlt.1 N110 _ _ p110.2.1 p110.2.2.1 (p110.2.2.2.2.2 (by omega))
                 rw [show ((s + 1 : Nat) : Int) = (s : Int) + 1 by omega] at go
                 exact mm_drop (by repeat (first | exact trivial | refine And.intro (Or.inl rfl) ?_ | refine And.intro (Or.inr rfl) ?_)) go)
      · have go := over (by omega)
        refine mm_iload dX6_find_87 rfl rfl ?_
        refine mm_aload_n dX6_find_89 rfl rfl ?_
        refine mm_getr dX6_find_90 rfl fl_X6_55 (c := 28) rfl (by decide) rfl rfl (hRP.at (c := 28) (i := 0) (v := 4) rfl (by decide)) ?_
        refine mm_get (kd := 0) dX6_find_93 rfl fl_X6_102 (c := 3) rfl (by decide) rfl rfl ?_
        rw [est]
        refine mm_icge dX6_find_96 (by omega) (by omega) (fun h96 => ?_) (fun h96 => ?_)
        · exact mm_drop (by repeat (first | exact trivial | refine And.intro (Or.inl rfl) ?_ | refine And.intro (Or.inr rfl) ?_)) go
        · refine mm_iload dX6_find_99 rfl rfl ?_
          refine mm_iconst dX6_find_101 rfl ?_
          refine mm_icle dX6_find_102 (by omega) (by omega) (fun h102 => ?_) (fun h102 => ?_)
          · exact mm_drop (by repeat (first | exact trivial | refine And.intro (Or.inl rfl) ?_ | refine And.intro (Or.inr rfl) ?_)) go
          · exfalso; omega
    exact loop 0 (Nat.zero_le _) P0 (-1) ((n : Int) + 1) ⟨hF0.1, fun _ _ _ _ => rfl, fun _ _ => rfl⟩ hq0 (Or.inl ⟨rfl, rfl, fun u hu => absurd hu (by omega)⟩)
  -- the rounds, and what follows
  have rounds : ∀ Q : mm_M, kx_P (M 4) (M 16) (M 17) Q h n → kz_F M Q rc → Q rc 2 = 0 → Q 28 16 = -1000000 → Q 28 17 = 1 → mm_J X Y_X6_find 243 243 243 31 [(2, 29), (0, h), (2, (rc : Int) + 1), (0, 1), (0, (0 : Int)), (9, 0), (9, 0), (9, 0)] [] Q Φ := by
    intro Q hPQ hFQ hrow hQ16 hQ17
    have hGQ := hPQ.G hV hn hw
    have hRQ := hFQ.1
    have nstQ : Q 3 2 = (n : Int) := by rw [hFQ.2.1 3 (by decide) (by omega) (by omega) (by omega)]; exact nst
    have kept : ∀ N S C, kv_k Q N → N 28 16 = S → N 28 17 = C → (-2000000000 ≤ S ∧ S ≤ 2000000000) → (1 ≤ C ∧ C ≤ 288) → (∀ v, v < n → 0 ≤ N 36 v ∧ N 36 v ≤ 400000000000000) → ((∃ j, kv_ch Q n j S C) ∧ (∀ y, y < n → kv_S N n S C y) ∨ kv_ch Q n 1000000 S C) →
        mm_J X Y_X6_find 243 243 243 53 [(2, 29), (0, h), (2, (rc : Int) + 1), (9, 0), (9, 0), (9, 0), (9, 0), (9, 0)] [] N Φ := by
      intro N S C hk k16 k17 hSb hCb hL hmean
      have hRN := hk.1
      have eN : ∀ a, a ≠ 28 → a ≠ 36 → a ≠ 37 → a ≠ 38 → a ≠ 39 → N a = Q a := hk.2.1
      have nstN : N 3 2 = (n : Int) := by rw [eN 3 (by decide) (by decide) (by decide) (by decide) (by decide)]; exact nstQ
      have ck := c_X6_keepTightPaths (X := X) (M := N) (n := n) (S := S) (C := C) hRN (hGQ.cg (fun a a1 a2 => eN a (by omega) (by omega) (by omega) (by omega) (by omega))) nstN hn2 hn1 k16 k17 hSb hCb hL
      refine mm_aload_n dX6_find_53 rfl rfl ?_
      refine mm_V0g (M1 := N) dX6_find_54 rfl lk_X6_90 (c := 28) rfl (by decide) rfl  rfl rfl rfl (ck) ?_
      rintro _ N54 ⟨rfl, p54⟩
      change mm_J _ _ _ _ _ _ _ _ _ _
      have hR54 : mm_Rf N54 := p54.1
      obtain ⟨N62, hN62⟩ : ∃ Z, Z = kf_mem N54 40 (fun _ => -1) 288 := ⟨_, rfl⟩
      have hR62 : mm_Rf N62 := by rw [hN62]; exact hR54.fm (len := 288) rfl
      have cf := c_J7_fill2 (X := X) (M := N54) (n := 243) (c := 40) (len := 288) (v := -1) (by decide) rfl
      rw [← hN62] at cf
      have f62 : ∀ a, a ≠ 40 → N62 a = N54 a := fun a ha => by rw [hN62, kf_mem_n ha]
      have u54 := p54.2.1
      have k54 := p54.2.2
      have est62 : N62 3 2 = (n : Int) := by rw [f62 3 (by decide), u54.2 3 (by decide) (by decide) (by decide) (by decide)]; exact nstN
      refine mm_aload_n dX6_find_57 rfl rfl ?_
      refine mm_getr dX6_find_58 rfl fl_X6_49 (c := 28) rfl (by decide) rfl rfl (hR54.at (c := 28) (i := 13) (v := 41) rfl (by decide)) ?_
      refine mm_iconst dX6_find_61 rfl ?_
      refine mm_S2v dX6_find_62 rfl lk_X6_93 (by simp) (by simp) rfl rfl rfl (cf) ?_
      refine mm_aload_n dX6_find_65 rfl rfl ?_
      refine mm_iconst dX6_find_66 rfl ?_
      refine mm_puti dX6_find_67 rfl fl_X6_99 (c := 28) rfl (by decide) rfl rfl (fun M67 hM67 => ?_)
      have hR67 : mm_Rf M67 := by rw [hM67]; exact hR62.up rfl
      refine mm_iconst dX6_find_70 rfl ?_
      refine mm_istore dX6_find_71 rfl (Nat.le_of_ble_eq_true rfl) rfl ?_
      refine mm_aload_n dX6_find_73 rfl rfl ?_
      refine mm_getr dX6_find_74 rfl fl_X6_55 (c := 28) rfl (by decide) rfl rfl (hR67.at (c := 28) (i := 0) (v := 4) rfl (by decide)) ?_
      refine mm_get (kd := 0) dX6_find_77 rfl fl_X6_102 (c := 3) rfl (by decide) rfl rfl ?_
      rw [show M67 3 2 = (n : Int) by rw [hM67, mm_up_c (by decide)]; exact est62]
      refine mm_iconst dX6_find_80 rfl ?_
      refine mm_iadd dX6_find_81 rfl ?_
      refine mm_istore dX6_find_82 rfl (Nat.le_of_ble_eq_true rfl) rfl ?_
      refine mm_iconst dX6_find_84 rfl ?_
      refine mm_istore dX6_find_85 rfl (Nat.le_of_ble_eq_true rfl) rfl ?_
      have r67 : ∀ a, a ≠ 28 → a ≠ 40 → M67 a = N54 a := fun a a1 a2 => by rw [hM67, mm_up_row a1]; exact f62 a a2
      have rQ : ∀ a, ¬ (28 ≤ a ∧ a ≤ 41) → M67 a = Q a := fun a ha => by rw [r67 a (by omega) (by omega), u54.2 a (by omega) (by omega) (by omega) (by omega)]; exact eN a (by omega) (by omega) (by omega) (by omega) (by omega)
      have go := tail Q N M67 S C hPQ (fun a a1 a2 => eN a (by omega) (by omega) (by omega) (by omega) (by omega)) (by omega) hmean (by
        unfold kt_K kt_o at k54 ⊢
        rw [r67 31 (by decide) (by decide), r67 33 (by decide) (by decide), r67 34 (by decide) (by decide), r67 35 (by decide) (by decide)]
        exact k54) ⟨hR67, fun a a1 a2 a3 a4 => by rw [rQ a a1]; exact hFQ.2.1 a a1 a2 a3 a4, fun b b1 b2 b3 => by rw [hM67, mm_up_i b1, f62 28 (by decide), u54.2 28 (by decide) (by decide) (by decide) (by decide), hk.2.2 b b2 b3]; exact hFQ.2.2 b b1 b2 b3⟩ (by rw [rQ rc (by omega)]; exact hrow) ⟨0, by rw [hM67, mm_up_s]; rfl, Nat.zero_le _, fun i hi => absurd hi (by omega), fun v hv => Or.inl (by rw [hM67, mm_up_row (by decide), hN62, kf_mem_lt (by omega)])⟩
      exact mm_drop (by repeat (first | exact trivial | refine And.intro (Or.inl rfl) ?_ | refine And.intro (Or.inr rfl) ?_)) go
    have loop : ∀ i : Nat, i ≤ 1000000 → ∀ N b, kv_k Q N → ((b = 1 ∧ kv_ch Q n i (N 28 16) (N 28 17) ∧ (1 ≤ i → ∀ v, v < n → 0 ≤ N 36 v ∧ N 36 v ≤ 400000000000000)) ∨ (b = 0 ∧ (∃ j, kv_ch Q n j (N 28 16) (N 28 17)) ∧ (∀ y, y < n → kv_S N n (N 28 16) (N 28 17) y) ∧ ∀ v, v < n → 0 ≤ N 36 v ∧ N 36 v ≤ 400000000000000)) →
        mm_J X Y_X6_find 243 243 243 31 [(2, 29), (0, h), (2, (rc : Int) + 1), (0, b), (0, (i : Int)), (9, 0), (9, 0), (9, 0)] [] N Φ := by
      refine mm_lp ?_
      intro i hi ih N b hk hb
      have hRN := hk.1
      have eN : ∀ a, a ≠ 28 → a ≠ 36 → a ≠ 37 → a ≠ 38 → a ≠ 39 → N a = Q a := hk.2.1
      have nstN : N 3 2 = (n : Int) := by rw [eN 3 (by decide) (by decide) (by decide) (by decide) (by decide)]; exact nstQ
      have hGN : kv_G N n := hGQ.cg (fun a a1 a2 => eN a (by omega) (by omega) (by omega) (by omega) (by omega))
      have mb : (-2000000000 ≤ N 28 16 ∧ N 28 16 ≤ 2000000000) ∧ 1 ≤ N 28 17 ∧ N 28 17 ≤ 288 := by
        rcases hb with ⟨-, q, -⟩ | ⟨-, ⟨j, q⟩, -⟩ <;> exact q.b hGQ hn2
      have b01 : b = 0 ∨ b = 1 := by rcases hb with q | q; exact Or.inr q.1; exact Or.inl q.1
      by_cases hlt : i < 1000000 ∧ b = 1
      · obtain ⟨h1, h2⟩ := hlt
        have hch : kv_ch Q n i (N 28 16) (N 28 17) := by
          rcases hb with ⟨-, q, -⟩ | ⟨q, -⟩
          · exact q
          · omega
        have ct := c_X6_takeBetterMean (X := X) (M := N) (n := n) (S := N 28 16) (C := N 28 17) hRN hGN nstN hn2 rfl rfl mb.1 mb.2
        have ct2 : mm_C X Y_X6_takeBetterMean 243 243 [(2, 29)] N (fun r M' => ∃ x, r = (0, x) ∧ mm_Rf M' ∧ (x = 0 ∨ x = 1) ∧ mm_J X Y_X6_find 243 243 243 31 [(2, 29), (0, h), (2, (rc : Int) + 1), (0, x), (0, (i : Int) + 1), (9, 0), (9, 0), (9, 0)] [] M' Φ) := by
          refine mm_C.mono ct ?_
          rintro r U ⟨x, x1, x2, x3, x4, x5⟩
          have kU : kv_k Q U := ⟨x2, fun a a1 a2 a3 a4 a5 => by rw [x3.2.1 a a1 a2 a3 a4 a5]; exact eN a a1 a2 a3 a4 a5, fun b b1 b2 => by rw [x3.2.2 b b1 b2]; exact hk.2.2 b b1 b2⟩
          refine ⟨x, x1, x2, x5.imp And.left And.left, ?_⟩
          have go := ih h1 U x kU (by
            rcases x5 with ⟨y1, y2, y3, y4⟩ | ⟨y1, q, r, m, y2, y3, y4, y5⟩
            · right
              rw [y2, y3]
              exact ⟨y1, ⟨i, hch⟩, y4, x4⟩
            · left
              refine ⟨y1, ⟨N 28 16, N 28 17, hch, q, r, m, ?_, ?_, y4, ?_⟩, fun _ => x4⟩
              · unfold kv_B kv_p at y2 ⊢
                rw [eN 31 (by decide) (by decide) (by decide) (by decide) (by decide), eN 32 (by decide) (by decide) (by decide) (by decide) (by decide), eN 33 (by decide) (by decide) (by decide) (by decide) (by decide)] at y2
                exact y2
              · rw [y3, eN 34 (by decide) (by decide) (by decide) (by decide) (by decide)]
              · rw [eN 34 (by decide) (by decide) (by decide) (by decide) (by decide)] at y5
                exact y5)
          rw [show ((i + 1 : Nat) : Int) = (i : Int) + 1 by omega] at go
          exact go
        refine mm_iload dX6_find_31 rfl rfl ?_
        refine mm_ldc dX6_find_33 rfl kc_X6_85 ?_
        refine mm_icge dX6_find_35 (by omega) (by omega) (fun h35 => ?_) (fun h35 => ?_)
        · exfalso; omega
        · refine mm_iload_n dX6_find_38 rfl rfl ?_
          refine mm_ifeq dX6_find_39 (by omega) (fun h39 => ?_) (fun h39 => ?_)
          · exfalso; omega
          · refine mm_aload_n dX6_find_42 rfl rfl ?_
            refine mm_V0g (M1 := N) dX6_find_43 rfl lk_X6_86 (c := 28) rfl (by decide) rfl  rfl rfl rfl (ct2) ?_
            rintro _ N43 ⟨x43, rfl, p43⟩
            change mm_J _ _ _ _ _ _ _ _ _ _
            have hR43 : mm_Rf N43 := p43.1
            have hx43 := p43.2.1
            refine mm_istore_n dX6_find_46 rfl (Nat.le_of_ble_eq_true rfl) rfl ?_
            refine mm_iinc dX6_find_47 rfl rfl (Nat.le_of_ble_eq_true rfl) rfl ?_
            refine mm_goto dX6_find_50 ?_
            exact p43.2.2
      · have go := kept N (N 28 16) (N 28 17) hk rfl rfl mb.1 mb.2 (by
          rcases hb with ⟨q1, -, q2⟩ | ⟨-, -, -, q⟩
          · exact q2 (by omega)
          · exact q) (by
          rcases hb with ⟨q1, q2, -⟩ | ⟨-, q1, q2, -⟩
          · right
            rw [show i = 1000000 by omega] at q2
            exact q2
          · exact Or.inl ⟨q1, q2⟩)
        refine mm_iload dX6_find_31 rfl rfl ?_
        refine mm_ldc dX6_find_33 rfl kc_X6_85 ?_
        refine mm_icge dX6_find_35 (by omega) (by omega) (fun h35 => ?_) (fun h35 => ?_)
        · exact mm_drop (by repeat (first | exact trivial | refine And.intro (Or.inl rfl) ?_ | refine And.intro (Or.inr rfl) ?_)) go
        · refine mm_iload_n dX6_find_38 rfl rfl ?_
          refine mm_ifeq dX6_find_39 (by omega) (fun h39 => ?_) (fun h39 => ?_)
          · exact mm_drop (by repeat (first | exact trivial | refine And.intro (Or.inl rfl) ?_ | refine And.intro (Or.inr rfl) ?_)) go
          · exfalso; omega
    exact loop 0 (by omega) Q 1 ⟨hRQ, fun _ _ _ _ _ _ => rfl, fun _ _ _ => rfl⟩ (Or.inl ⟨rfl, ⟨hQ16, hQ17⟩, fun z => absurd z (by omega)⟩)
  refine mm_start (ls := [(2, 29), (0, h), (2, (rc : Int) + 1), (9, 0), (9, 0), (9, 0), (9, 0), (9, 0)]) rfl ?_
  refine mm_aload_n dX6_find_0 rfl rfl ?_
  refine mm_iconst dX6_find_1 rfl ?_
  refine mm_puti dX6_find_2 rfl fl_X6_63 (c := rc) rfl hrw.c0 hrw.1 rfl (fun M2 hM2 => ?_)
  have hR2 : mm_Rf M2 := by rw [hM2]; exact hR.up (mm_rt_row hrw (by omega))
  refine mm_aload_n dX6_find_5 rfl rfl ?_
  refine mm_iload_n dX6_find_6 rfl rfl ?_
  refine mm_V1g (M1 := M2) dX6_find_7 rfl lk_X6_69 (c := 28) rfl (by decide) rfl (by simp) rfl rfl rfl ((by have e : ∀ a, a ≠ rc → M2 a = M a := fun a ha => (by rw [hM2, mm_up_row ha]); have := c_X6_weighOptions (X := X) (M := M2) (h := h) hR2 (kx_ck (fun a a1 a2 => e a (by omega)) hK) (by unfold mm_CA at hA ⊢; rw [e 16 (by omega), e 17 (by omega)]; exact hA) hh; exact this)) ?_
  rintro _ N7 ⟨rfl, p7⟩
  change mm_J _ _ _ _ _ _ _ _ _ _
  have hR7 : mm_Rf N7 := p7.1
  have e7 : ∀ a, a ≠ rc → a ≠ 29 → a ≠ 30 → N7 a = M a := fun a a1 a2 a3 => by rw [p7.2.2.1 a a2 a3, hM2, mm_up_row a1]
  have row7 : N7 rc 2 = 0 := by rw [p7.2.2.1 rc (by omega) (by omega), hM2, mm_up_s]
  have cd : mm_C X Y_X6_drawPaths 243 243 [(2, 29)] N7 (fun r M' => r = (3, 0) ∧ mm_Rf M' ∧ kx_U N7 M' ∧ kx_P (M 4) (M 16) (M 17) M' h n) := by
    have := c_X6_drawPaths (X := X) (M := N7) (h := h) (n := n) hR7 (kx_ck (fun a a1 a2 => e7 a (by omega) (by omega) (by omega)) hK) (by unfold mm_CA at hA ⊢; rw [e7 16 (by omega) (by decide) (by decide), e7 17 (by omega) (by decide) (by decide)]; exact hA) hh (by rw [e7 4 (by omega) (by decide) (by decide)]; exact hn) (fun b c sw b1 c1 s1 => by
      have c2 : (c : Int) < M2 4 0 := by rw [hM2, mm_up_c (by omega)]; rw [e7 4 (by omega) (by decide) (by decide)] at c1; exact c1
      have cb : c < 6 := by
        have h0 : 2 ≤ M 4 0 ∧ M 4 0 ≤ 6 := hV.1
        rw [e7 4 (by omega) (by decide) (by decide)] at c1
        omega
      have := (p7.2.2.2 b c sw b1 c2 s1).1 (by omega)
      unfold kx_W at this ⊢
      rw [e7 4 (by omega) (by decide) (by decide), e7 16 (by omega) (by decide) (by decide), e7 17 (by omega) (by decide) (by decide)]
      rw [hM2, mm_up_row (by omega), mm_up_row (by omega), mm_up_row (by omega)] at this
      exact this)
    rw [e7 4 (by omega) (by decide) (by decide), e7 16 (by omega) (by decide) (by decide), e7 17 (by omega) (by decide) (by decide)] at this
    exact this
  refine mm_aload_n dX6_find_10 rfl rfl ?_
  refine mm_V0g (M1 := N7) dX6_find_11 rfl lk_X6_73 (c := 28) rfl (by decide) rfl  rfl rfl rfl (cd) ?_
  rintro _ N11 ⟨rfl, p11⟩
  change mm_J _ _ _ _ _ _ _ _ _ _
  have hR11 : mm_Rf N11 := p11.1
  refine mm_aload_n dX6_find_14 rfl rfl ?_
  refine mm_ldc2 dX6_find_15 rfl kc_X6_76 ?_
  refine mm_putl dX6_find_18 rfl fl_X6_78 (c := 28) rfl (by decide) rfl rfl (fun M18 hM18 => ?_)
  have hR18 : mm_Rf M18 := by rw [hM18]; exact hR11.up rfl
  refine mm_aload_n dX6_find_21 rfl rfl ?_
  refine mm_lconst1 dX6_find_22 rfl ?_
  refine mm_putl dX6_find_23 rfl fl_X6_82 (c := 28) rfl (by decide) rfl rfl (fun M23 hM23 => ?_)
  have hR23 : mm_Rf M23 := by rw [hM23]; exact hR18.up rfl
  refine mm_iconst dX6_find_26 rfl ?_
  refine mm_istore_n dX6_find_27 rfl (Nat.le_of_ble_eq_true rfl) rfl ?_
  refine mm_iconst dX6_find_28 rfl ?_
  refine mm_istore dX6_find_29 rfl (Nat.le_of_ble_eq_true rfl) rfl ?_
  have r23 : ∀ a, a ≠ 28 → M23 a = N11 a := fun a ha => by rw [hM23, mm_up_row ha, hM18, mm_up_row ha]
  have u11 := p11.2.1
  exact rounds M23 (p11.2.2.cg (fun a a1 a2 => r23 a (by omega))) ⟨hR23, fun a a1 a2 a3 a4 => by rw [r23 a (by omega), u11.2 a (by omega) (by omega) (by omega) (by omega) (by omega)]; exact e7 a a2 (by omega) (by omega), fun b b1 b2 b3 => by rw [hM23, mm_up_i b3, hM18, mm_up_i b2, u11.2 28 (by decide) (by decide) (by decide) (by decide) (by decide)]; exact congrFun (e7 28 (by omega) (by decide) (by decide)) b⟩ (by rw [r23 rc (by omega), u11.2 rc (by omega) (by omega) (by omega) (by omega) (by omega)]; exact row7) (by rw [hM23, mm_up_i (by decide), hM18, mm_up_s]) (by rw [hM23, mm_up_s])
end
end
/-! HQ.hours -/
section
/-! ===== KitePower$Hours: foundAlike, loopAt ===== -/
section
variable {K Lo Hi : Nat → Int} {h g s : Int} {A : Nat → Int} {n : Nat}
theorem kb_lp.hour (hK : mm_KV K) (hw : ∀ s, ks_st K s → ks_wi Lo K s g = ks_wi Lo K s h ∧ ks_wi Hi K s g = ks_wi Hi K s h) (hl : kb_lp K Lo Hi h s A n) : kb_lp K Lo Hi g s A n ∧ kb_sm K Lo Hi g s A n = kb_sm K Lo Hi h s A n := by
  refine ⟨⟨hl.1, hl.2.1, fun j hj => ⟨(hl.2.2.1 j hj).1, (hl.2.2.1 j hj).2.1, ?_⟩, hl.2.2.2⟩, ?_⟩
  · have e := hw _ (hl.st hK j (by omega))
    have q := (hl.2.2.1 j hj).2.2
    rw [e.1, e.2]
    exact q
  · unfold kb_sm
    refine ka_sum_congr ?_
    intro j hj
    have e := hw _ (hl.st hK j (by omega))
    unfold kj_g ks_sure
    rw [e.1, e.2]
theorem kb_is.hour {len worth : Int} {S : Nat → Int} (hK : mm_KV K) (hw : ∀ s, ks_st K s → ks_wi Lo K s g = ks_wi Lo K s h ∧ ks_wi Hi K s g = ks_wi Hi K s h) (hl : kb_is K Lo Hi h len worth A S) : kb_is K Lo Hi g len worth A S := by
  have hw' : ∀ s, ks_st K s → ks_wi Lo K s h = ks_wi Lo K s g ∧ ks_wi Hi K s h = ks_wi Hi K s g := fun s hs => ⟨(hw s hs).1.symm, (hw s hs).2.symm⟩
  rcases hl with ⟨h1, h2⟩ | ⟨n, h1, h2, h3, h4, h5, h6⟩
  · exact Or.inl ⟨h1, fun s B n q => h2 s B n (q.hour hK hw').1⟩
  · refine Or.inr ⟨n, h1, h2, (h3.hour hK hw).1, ?_, h5, ?_⟩
    · rw [(h3.hour hK hw).2]; exact h4
    · intro s B m q
      have := q.hour hK hw'
      rw [← this.2]
      exact h6 s B m this.1
/-- two rows of the same begin -/
theorem kb_is.rows {K Lo Hi : Nat → Int} {h len w : Int} {A A' T T' : Nat → Int} (q : kb_is K Lo Hi h len w A T) (hA : ∀ j : Nat, (j : Int) < len → A' j = A j) (hT : ∀ j : Nat, (j : Int) < len → T' j = T j) : kb_is K Lo Hi h len w A' T' := by
  rcases q with ⟨h0, q⟩ | ⟨n, h1, q⟩
  · exact Or.inl ⟨h0, q⟩
  · rw [h1] at hA hT ⊢
    exact kb_is.acts (Or.inr ⟨n, rfl, q⟩) (fun j hj => hA j (by omega)) (fun j hj => hT j (by omega))
end
/-- what loopAt changes -/
def kz_H (M N : mm_M) : Prop := mm_Rf N ∧ ∀ a, ¬ (28 ≤ a ∧ a ≤ 41) → a ≠ 23 → ¬ (42 ≤ a ∧ a ≤ 113) → N a = M a
section
variable {X : mm_X} {M : mm_M}
theorem c_X3_foundAlike {h : Nat} (hR : mm_Rf M) (hA : mm_CA M) (hh : h < 24) (h7 : kR7 M) :
    mm_C X Y_X3_foundAlike 243 243 [(2, 22), (0, (h : Int))] M (fun r M' => ∃ x, r = (0, x) ∧ mm_Rf M' ∧ M' = M ∧ (x = -1 ∨ ∃ o : Nat, o < 24 ∧ x = (o : Int) ∧ M 23 o = 1 ∧ ∀ b : Nat, b < 5 → M 16 (ks_pl h b) = M 16 (ks_pl o b) ∧ M 17 (ks_pl h b) = M 17 (ks_pl o b))) := by
  obtain ⟨Φ, hΦ⟩ : ∃ Φ : mm_V → mm_M → Prop, Φ = (fun r M' => ∃ x, r = (0, x) ∧ mm_Rf M' ∧ M' = M ∧ (x = -1 ∨ ∃ o : Nat, o < 24 ∧ x = (o : Int) ∧ M 23 o = 1 ∧ ∀ b : Nat, b < 5 → M 16 (ks_pl h b) = M 16 (ks_pl o b) ∧ M 17 (ks_pl h b) = M 17 (ks_pl o b))) := ⟨_, rfl⟩
  rw [← hΦ]
  have loop : ∀ o : Nat, o ≤ 24 → mm_J X Y_X3_foundAlike 243 243 243 2 [(2, 22), (0, (h : Int)), (0, (o : Int))] [] M Φ := by
    refine mm_lp ?_
    intro o ho ih
    by_cases hlt : o < 24
    · have go := ih hlt
      rw [show ((o + 1 : Nat) : Int) = (o : Int) + 1 by omega] at go
      have ca := c_X0_isAlike (X := X) (M := M) (h := (h : Int)) (g := (o : Int)) hR hA ⟨by omega, by omega⟩ ⟨by omega, by omega⟩
      rcases (h7 o hlt).1 with f0 | f1
      · refine mm_iload_n dX3_foundAlike_2 rfl rfl ?_
        refine mm_aload_n dX3_foundAlike_3 rfl rfl ?_
        refine mm_getr dX3_foundAlike_4 rfl fl_X3_19 (c := 21) rfl (by decide) rfl rfl (hR.at (c := 21) (i := 3) (v := 24) rfl (by decide)) ?_
        refine mm_aln dX3_foundAlike_7 rfl (c := 23) rfl (by decide) rfl ?_
        refine mm_icge dX3_foundAlike_8 (by omega) (by omega) (fun h8 => ?_) (fun h8 => ?_)
        · exfalso; omega
        · refine mm_aload_n dX3_foundAlike_11 rfl rfl ?_
          refine mm_getr dX3_foundAlike_12 rfl fl_X3_19 (c := 21) rfl (by decide) rfl rfl (hR.at (c := 21) (i := 3) (v := 24) rfl (by decide)) ?_
          refine mm_iload_n dX3_foundAlike_15 rfl rfl ?_
          refine mm_zalk (k0 := o) dX3_foundAlike_16 rfl (c := 23) rfl (by decide) rfl (by omega) (by omega) ?_
          rw [f0]
          refine mm_ifeq dX3_foundAlike_17 (by omega) (fun h17 => ?_) (fun h17 => ?_)
          · refine mm_iinc dX3_foundAlike_34 rfl rfl (Nat.le_of_ble_eq_true rfl) rfl ?_
            refine mm_goto dX3_foundAlike_37 ?_
            exact go
          · exfalso; omega
      · by_cases al : ∀ b : Nat, b < 5 → M 16 (ks_pl h b) = M 16 (ks_pl o b) ∧ M 17 (ks_pl h b) = M 17 (ks_pl o b)
        · rw [mm_b_t al] at ca
          refine mm_iload_n dX3_foundAlike_2 rfl rfl ?_
          refine mm_aload_n dX3_foundAlike_3 rfl rfl ?_
          refine mm_getr dX3_foundAlike_4 rfl fl_X3_19 (c := 21) rfl (by decide) rfl rfl (hR.at (c := 21) (i := 3) (v := 24) rfl (by decide)) ?_
          refine mm_aln dX3_foundAlike_7 rfl (c := 23) rfl (by decide) rfl ?_
          refine mm_icge dX3_foundAlike_8 (by omega) (by omega) (fun h8 => ?_) (fun h8 => ?_)
          · exfalso; omega
          · refine mm_aload_n dX3_foundAlike_11 rfl rfl ?_
            refine mm_getr dX3_foundAlike_12 rfl fl_X3_19 (c := 21) rfl (by decide) rfl rfl (hR.at (c := 21) (i := 3) (v := 24) rfl (by decide)) ?_
            refine mm_iload_n dX3_foundAlike_15 rfl rfl ?_
            refine mm_zalk (k0 := o) dX3_foundAlike_16 rfl (c := 23) rfl (by decide) rfl (by omega) (by omega) ?_
            rw [f1]
            refine mm_ifeq dX3_foundAlike_17 (by omega) (fun h17 => ?_) (fun h17 => ?_)
            · exfalso; omega
            · refine mm_aload_n dX3_foundAlike_20 rfl rfl ?_
              refine mm_getr dX3_foundAlike_21 rfl fl_X3_43 (c := 21) rfl (by decide) rfl rfl (hR.at (c := 21) (i := 0) (v := 12) rfl (by decide)) ?_
              refine mm_iload_n dX3_foundAlike_24 rfl rfl ?_
              refine mm_iload_n dX3_foundAlike_25 rfl rfl ?_
              refine mm_V2i dX3_foundAlike_26 rfl lk_X3_73 (c := 11) rfl (by decide) rfl (by simp) (by simp) rfl rfl rfl (ca) ?_
              refine mm_ifeq dX3_foundAlike_29 (by omega) (fun h => absurd h (by decide)) (fun _ => ?_)
              refine mm_iload_n dX3_foundAlike_32 rfl rfl ?_
              refine mm_iret dX3_foundAlike_33 rfl rfl ?_
              rw [hΦ]; exact ⟨_, rfl, hR, rfl, Or.inr ⟨o, hlt, rfl, f1, al⟩⟩
        · rw [mm_b_f al] at ca
          refine mm_iload_n dX3_foundAlike_2 rfl rfl ?_
          refine mm_aload_n dX3_foundAlike_3 rfl rfl ?_
          refine mm_getr dX3_foundAlike_4 rfl fl_X3_19 (c := 21) rfl (by decide) rfl rfl (hR.at (c := 21) (i := 3) (v := 24) rfl (by decide)) ?_
          refine mm_aln dX3_foundAlike_7 rfl (c := 23) rfl (by decide) rfl ?_
          refine mm_icge dX3_foundAlike_8 (by omega) (by omega) (fun h8 => ?_) (fun h8 => ?_)
          · exfalso; omega
          · refine mm_aload_n dX3_foundAlike_11 rfl rfl ?_
            refine mm_getr dX3_foundAlike_12 rfl fl_X3_19 (c := 21) rfl (by decide) rfl rfl (hR.at (c := 21) (i := 3) (v := 24) rfl (by decide)) ?_
            refine mm_iload_n dX3_foundAlike_15 rfl rfl ?_
            refine mm_zalk (k0 := o) dX3_foundAlike_16 rfl (c := 23) rfl (by decide) rfl (by omega) (by omega) ?_
            rw [f1]
            refine mm_ifeq dX3_foundAlike_17 (by omega) (fun h17 => ?_) (fun h17 => ?_)
            · exfalso; omega
            · refine mm_aload_n dX3_foundAlike_20 rfl rfl ?_
              refine mm_getr dX3_foundAlike_21 rfl fl_X3_43 (c := 21) rfl (by decide) rfl rfl (hR.at (c := 21) (i := 0) (v := 12) rfl (by decide)) ?_
              refine mm_iload_n dX3_foundAlike_24 rfl rfl ?_
              refine mm_iload_n dX3_foundAlike_25 rfl rfl ?_
              refine mm_V2i dX3_foundAlike_26 rfl lk_X3_73 (c := 11) rfl (by decide) rfl (by simp) (by simp) rfl rfl rfl (ca) ?_
              refine mm_ifeq dX3_foundAlike_29 (by omega) (fun _ => ?_) (fun h => absurd (by decide) h)
              refine mm_iinc dX3_foundAlike_34 rfl rfl (Nat.le_of_ble_eq_true rfl) rfl ?_
              refine mm_goto dX3_foundAlike_37 ?_
              exact go
    · have eo : o = 24 := by omega
      subst eo
      refine mm_iload_n dX3_foundAlike_2 rfl rfl ?_
      refine mm_aload_n dX3_foundAlike_3 rfl rfl ?_
      refine mm_getr dX3_foundAlike_4 rfl fl_X3_19 (c := 21) rfl (by decide) rfl rfl (hR.at (c := 21) (i := 3) (v := 24) rfl (by decide)) ?_
      refine mm_aln dX3_foundAlike_7 rfl (c := 23) rfl (by decide) rfl ?_
      refine mm_icge dX3_foundAlike_8 (by omega) (by omega) (fun h8 => ?_) (fun h8 => ?_)
      · refine mm_iconst dX3_foundAlike_40 rfl ?_
        refine mm_iret dX3_foundAlike_41 rfl rfl ?_
        rw [hΦ]; exact ⟨_, rfl, hR, rfl, Or.inl rfl⟩
      · exfalso; omega
  refine mm_start (ls := [(2, 22), (0, (h : Int)), (9, 0)]) rfl ?_
  refine mm_iconst dX3_foundAlike_0 rfl ?_
  refine mm_istore_n dX3_foundAlike_1 rfl (Nat.le_of_ble_eq_true rfl) rfl ?_
  exact loop 0 (Nat.zero_le _)
theorem mm_loopref (hR : mm_Rf M) {h : Nat} (hh : h < 24) : M 22 h = ((42 + 3 * h : Nat) : Int) + 1 := hR.at (mm_rw_loops h hh).2 (by omega)
/-- a loop that was found anew -/
theorem kR7.new {M N : mm_M} {h : Nat} (h7 : kR7 M) (hh : h < 24) (f : ∀ a, ¬ (28 ≤ a ∧ a ≤ 41) → a ≠ 42 + 3 * h → a ≠ 42 + 3 * h + 1 → a ≠ 42 + 3 * h + 2 → N a = M a) (hl : 0 ≤ N (42 + 3 * h) 2 ∧ N (42 + 3 * h) 2 ≤ 288) (hb : (-1000000 * N (42 + 3 * h) 2 ≤ N (42 + 3 * h) 3 ∧ N (42 + 3 * h) 3 ≤ 1425600 * N (42 + 3 * h) 2 ∨ N (42 + 3 * h) 2 = 0) ∧ (kZ ∨ kb_is (M 4) (M 16) (M 17) h (N (42 + 3 * h) 2) (N (42 + 3 * h) 3) (N (42 + 3 * h + 1)) (N (42 + 3 * h + 2)))) : kR7 (mm_up N 23 h 1) := by
  intro g hg
  have r : ∀ a, a ≠ 23 → mm_up N 23 h 1 a = N a := fun a ha => mm_up_row ha
  rw [r 4 (by decide), r 16 (by decide), r 17 (by decide), r (42 + 3 * g) (by omega), r (42 + 3 * g + 1) (by omega), r (42 + 3 * g + 2) (by omega), f 4 (by omega) (by omega) (by omega) (by omega), f 16 (by omega) (by omega) (by omega) (by omega), f 17 (by omega) (by omega) (by omega) (by omega)]
  by_cases c : g = h
  · rw [c, mm_up_s]
    exact ⟨Or.inr rfl, hl, fun _ => hb⟩
  · rw [mm_up_i c, f 23 (by omega) (by omega) (by omega) (by omega), f (42 + 3 * g) (by omega) (by omega) (by omega) (by omega), f (42 + 3 * g + 1) (by omega) (by omega) (by omega) (by omega), f (42 + 3 * g + 2) (by omega) (by omega) (by omega) (by omega)]
    exact h7 g hg
theorem c_X3_loopAt {h n : Nat} (hR : mm_Rf M) (hK : mm_CK M) (hA : mm_CA M) (hn : ks_n (M 4) = (n : Int)) (hh : h < 24) (h7 : kR7 M) (hZ : kX_cut (M 4) (M 16) (M 17) h n → kZ) :
    mm_C X Y_X3_loopAt 243 243 [(2, 22), (0, (h : Int))] M (fun r M' => r = (2, ((42 + 3 * h : Nat) : Int) + 1) ∧ mm_Rf M' ∧ kz_H M M' ∧ kR7 M' ∧ M' 23 h = 1) := by
  obtain ⟨Φ, hΦ⟩ : ∃ Φ : mm_V → mm_M → Prop, Φ = (fun r M' => r = (2, ((42 + 3 * h : Nat) : Int) + 1) ∧ mm_Rf M' ∧ kz_H M M' ∧ kR7 M' ∧ M' 23 h = 1) := ⟨_, rfl⟩
  rw [← hΦ]
  have hrw := (mm_rw_loops h hh).1
  -- the end: the row is given back
  have last : ∀ N, kz_H M N → kR7 N → N 23 h = 1 → mm_J X Y_X3_loopAt 243 243 243 59 [(2, 22), (0, (h : Int)), (9, 0)] [] N Φ := by
    intro N hH h7N h1
    have hRN := hH.1
    refine mm_aload_n dX3_loopAt_59 rfl rfl ?_
    refine mm_getr dX3_loopAt_60 rfl fl_X3_13 (c := 21) rfl (by decide) rfl rfl (hRN.at (c := 21) (i := 2) (v := 23) rfl (by decide)) ?_
    refine mm_iload_n dX3_loopAt_63 rfl rfl ?_
    refine mm_aalk (k0 := h) dX3_loopAt_64 rfl (c := 22) rfl (by decide) rfl (by omega) (by omega) ?_
    rw [mm_loopref hRN hh]
    refine mm_aret dX3_loopAt_65 rfl rfl (Or.inl ⟨_, rfl⟩) ?_
    rw [hΦ]; exact ⟨rfl, hRN, hH, h7N, h1⟩
  have found : ∀ N, mm_Rf N → (∀ a, ¬ (28 ≤ a ∧ a ≤ 41) → a ≠ 42 + 3 * h → a ≠ 42 + 3 * h + 1 → a ≠ 42 + 3 * h + 2 → N a = M a) → (0 ≤ N (42 + 3 * h) 2 ∧ N (42 + 3 * h) 2 ≤ 288) → ((-1000000 * N (42 + 3 * h) 2 ≤ N (42 + 3 * h) 3 ∧ N (42 + 3 * h) 3 ≤ 1425600 * N (42 + 3 * h) 2 ∨ N (42 + 3 * h) 2 = 0) ∧ (kZ ∨ kb_is (M 4) (M 16) (M 17) h (N (42 + 3 * h) 2) (N (42 + 3 * h) 3) (N (42 + 3 * h + 1)) (N (42 + 3 * h + 2)))) → mm_J X Y_X3_loopAt 243 243 243 52 [(2, 22), (0, (h : Int)), (9, 0)] [] N Φ := by
    intro N hRN f hl hb
    refine mm_aload_n dX3_loopAt_52 rfl rfl ?_
    refine mm_getr dX3_loopAt_53 rfl fl_X3_19 (c := 21) rfl (by decide) rfl rfl (hRN.at (c := 21) (i := 3) (v := 24) rfl (by decide)) ?_
    refine mm_iload_n dX3_loopAt_56 rfl rfl ?_
    refine mm_iconst dX3_loopAt_57 rfl ?_
    refine mm_zstk (k0 := h) dX3_loopAt_58 rfl (c := 23) rfl (by decide) rfl (by omega) (by omega) (Or.inr rfl) (fun M58 hM58 => ?_)
    have hR58 : mm_Rf M58 := by rw [hM58]; exact hRN.up (mm_rt_ar (t := 2) rfl (by decide))
    refine last _ ⟨hR58, fun a a1 a2 a3 => by rw [hM58, mm_up_row a2]; exact f a a1 (by omega) (by omega) (by omega)⟩ (by rw [hM58]; exact h7.new hh f hl hb) (by rw [hM58, mm_up_s])
  refine mm_start (ls := [(2, 22), (0, (h : Int)), (9, 0)]) rfl ?_
  rcases (h7 h hh).1 with f0 | f1
  · have ca := c_X3_foundAlike (X := X) hR hA hh h7
    have cf := c_X6_find (X := X) (M := M) (h := (h : Int)) (n := n) (rc := 42 + 3 * h) hR hK hA ⟨by omega, by omega⟩ hn hrw (by omega)
    have fnd : ∀ o : Nat, o < 24 → M 23 o = 1 → (∀ b : Nat, b < 5 → M 16 (ks_pl h b) = M 16 (ks_pl o b) ∧ M 17 (ks_pl h b) = M 17 (ks_pl o b)) → mm_J X Y_X3_loopAt 243 243 243 52 [(2, 22), (0, (h : Int)), (9, 0)] [] (mm_cf M (42 + 3 * h) (42 + 3 * o) 288) Φ ∧ mm_Rf (mm_cf M (42 + 3 * h) (42 + 3 * o) 288) := by
      intro o ho fo al
      obtain ⟨U, hU⟩ : ∃ U, U = mm_cf M (42 + 3 * h) (42 + 3 * o) 288 := ⟨_, rfl⟩
      rw [← hU]
      obtain ⟨-, ol, ob⟩ := h7 o ho
      have mn : min (M (42 + 3 * o) 2) ((288 : Nat) : Int) = M (42 + 3 * o) 2 := by omega
      have at1 : ∀ a b, U a b = if a = 42 + 3 * h ∧ b = 2 then M (42 + 3 * o) 2 else if a = 42 + 3 * h ∧ b = 3 then M (42 + 3 * o) 3 else if a = 42 + 3 * h + 1 ∧ (b : Int) < M (42 + 3 * o) 2 then M (42 + 3 * o + 1) b else if a = 42 + 3 * h + 2 ∧ (b : Int) < M (42 + 3 * o) 2 then M (42 + 3 * o + 2) b else M a b := by
        intro a b; rw [hU]; unfold mm_cf; rw [mn]
      have hRU : mm_Rf U := by
        intro a b hab
        rw [at1]
        by_cases z1 : a = 42 + 3 * h ∧ b = 2
        · exact absurd (by rw [z1.1, z1.2]; exact mm_rt_row hrw (by decide)) hab
        by_cases z2 : a = 42 + 3 * h ∧ b = 3
        · exact absurd (by rw [z2.1, z2.2]; exact mm_rt_row hrw (by decide)) hab
        by_cases z3 : a = 42 + 3 * h + 1 ∧ (b : Int) < M (42 + 3 * o) 2
        · exact absurd (by rw [z3.1]; exact mm_rt_arr hrw.2.1 b) hab
        by_cases z4 : a = 42 + 3 * h + 2 ∧ (b : Int) < M (42 + 3 * o) 2
        · exact absurd (by rw [z4.1]; exact mm_rt_arr hrw.2.2.1 b) hab
        rw [if_neg z1, if_neg z2, if_neg z3, if_neg z4]
        exact hR a b hab
      have u2 : U (42 + 3 * h) 2 = M (42 + 3 * o) 2 := by rw [at1, if_pos ⟨rfl, rfl⟩]
      have u3 : U (42 + 3 * h) 3 = M (42 + 3 * o) 3 := by rw [at1, if_neg (by omega), if_pos ⟨rfl, rfl⟩]
      refine ⟨found U hRU (fun a a1 a2 a3 a4 => by
        funext b
        rw [at1, if_neg (fun q => a2 q.1), if_neg (fun q => a2 q.1), if_neg (fun q => a3 q.1), if_neg (fun q => a4 q.1)]) (by rw [u2]; exact ol) ?_, hRU⟩
      obtain ⟨ow, ob⟩ := ob fo
      refine ⟨by rw [u2, u3]; exact ow, ?_⟩
      rcases ob with q | q
      · exact Or.inl q
      · right
        rw [u2, u3]
        refine (q.hour (g := (h : Int)) hK.1 (fun s hs => ?_)).rows (fun j hj => by rw [at1, if_neg (by omega), if_neg (by omega), if_pos ⟨rfl, hj⟩]) (fun j hj => by rw [at1, if_neg (by omega), if_neg (by omega), if_neg (by omega), if_pos ⟨rfl, hj⟩])
        have bb := ks_bandb hK.1 hs
        have := al (ks_band (M 4) s).toNat (by omega)
        rw [show (((ks_band (M 4) s).toNat : Nat) : Int) = ks_band (M 4) s by omega] at this
        exact this
    have cf2 : mm_C X Y_X6_find 243 243 [(2, 29), (0, (h : Int)), (2, ((42 + 3 * h : Nat) : Int) + 1)] M (fun r M' => r = (3, 0) ∧ mm_Rf M' ∧ mm_J X Y_X3_loopAt 243 243 243 52 [(2, 22), (0, (h : Int)), (9, 0)] [] M' Φ) := by
      refine mm_C.mono cf ?_
      rintro r U ⟨u1, u2, u3, u4, u5, u6⟩
      exact ⟨u1, u2, found U u2 u3.2.1 u4 ⟨u5, (u6.imp id hZ).symm⟩⟩
    have goA : mm_J X Y_X3_loopAt 243 243 243 15 [(2, 22), (0, (h : Int)), (0, -1)] [] M Φ := by
      refine mm_iload_n dX3_loopAt_15 rfl rfl ?_
      refine mm_iconst dX3_loopAt_16 rfl ?_
      refine mm_iceq dX3_loopAt_17 (by omega) (by omega) (fun h17 => ?_) (fun h17 => ?_)
      · refine mm_aload_n dX3_loopAt_38 rfl rfl ?_
        refine mm_getr dX3_loopAt_39 rfl fl_X3_52 (c := 21) rfl (by decide) rfl rfl (hR.at (c := 21) (i := 1) (v := 29) rfl (by decide)) ?_
        refine mm_iload_n dX3_loopAt_42 rfl rfl ?_
        refine mm_aload_n dX3_loopAt_43 rfl rfl ?_
        refine mm_getr dX3_loopAt_44 rfl fl_X3_13 (c := 21) rfl (by decide) rfl rfl (hR.at (c := 21) (i := 2) (v := 23) rfl (by decide)) ?_
        refine mm_iload_n dX3_loopAt_47 rfl rfl ?_
        refine mm_aalk (k0 := h) dX3_loopAt_48 rfl (c := 22) rfl (by decide) rfl (by omega) (by omega) ?_
        rw [mm_loopref hR hh]
        refine mm_V2g (M1 := M) dX3_loopAt_49 rfl lk_X3_69 (c := 28) rfl (by decide) rfl (by simp) (by simp) rfl rfl rfl (cf2) ?_
        rintro _ N49 ⟨rfl, p49⟩
        change mm_J _ _ _ _ _ _ _ _ _ _
        have hR49 : mm_Rf N49 := p49.1
        exact mm_drop (by repeat (first | exact trivial | refine And.intro (Or.inl rfl) ?_ | refine And.intro (Or.inr rfl) ?_)) p49.2
      · exfalso; omega
    have goB : ∀ o : Nat, o < 24 → M 23 o = 1 → (∀ b : Nat, b < 5 → M 16 (ks_pl h b) = M 16 (ks_pl o b) ∧ M 17 (ks_pl h b) = M 17 (ks_pl o b)) → mm_J X Y_X3_loopAt 243 243 243 15 [(2, 22), (0, (h : Int)), (0, (o : Int))] [] M Φ := by
      intro o ho fo al
      have hne : o ≠ h := fun q => by rw [q] at fo; omega
      obtain ⟨g1, g2⟩ := fnd o ho fo al
      have cc := c_X8_copyFrom (X := X) (M := M) (rc := 42 + 3 * h) (rd := 42 + 3 * o) (len := 288) (len' := 288) hR hrw (mm_rw_loops o ho).1 (by omega) (h7 o ho).2.1
      obtain ⟨U, hU⟩ : ∃ U, U = mm_cf M (42 + 3 * h) (42 + 3 * o) 288 := ⟨_, rfl⟩
      rw [← hU] at g1 g2 cc
      refine mm_iload_n dX3_loopAt_15 rfl rfl ?_
      refine mm_iconst dX3_loopAt_16 rfl ?_
      refine mm_iceq dX3_loopAt_17 (by omega) (by omega) (fun h17 => ?_) (fun h17 => ?_)
      · exfalso; omega
      · refine mm_aload_n dX3_loopAt_20 rfl rfl ?_
        refine mm_getr dX3_loopAt_21 rfl fl_X3_13 (c := 21) rfl (by decide) rfl rfl (hR.at (c := 21) (i := 2) (v := 23) rfl (by decide)) ?_
        refine mm_iload_n dX3_loopAt_24 rfl rfl ?_
        refine mm_aalk (k0 := h) dX3_loopAt_25 rfl (c := 22) rfl (by decide) rfl (by omega) (by omega) ?_
        rw [mm_loopref hR hh]
        refine mm_aload_n dX3_loopAt_26 rfl rfl ?_
        refine mm_getr dX3_loopAt_27 rfl fl_X3_13 (c := 21) rfl (by decide) rfl rfl (hR.at (c := 21) (i := 2) (v := 23) rfl (by decide)) ?_
        refine mm_iload_n dX3_loopAt_30 rfl rfl ?_
        refine mm_aalk (k0 := o) dX3_loopAt_31 rfl (c := 22) rfl (by decide) rfl (by omega) (by omega) ?_
        rw [mm_loopref hR ho]
        refine mm_V1v dX3_loopAt_32 rfl lk_X3_65 (c := 42 + 3 * h) rfl hrw.c0 hrw.1 (by simp) rfl rfl rfl (cc) ?_
        refine mm_goto dX3_loopAt_35 ?_
        exact mm_drop (by repeat (first | exact trivial | refine And.intro (Or.inl rfl) ?_ | refine And.intro (Or.inr rfl) ?_)) g1
    refine mm_aload_n dX3_loopAt_0 rfl rfl ?_
    refine mm_getr dX3_loopAt_1 rfl fl_X3_19 (c := 21) rfl (by decide) rfl rfl (hR.at (c := 21) (i := 3) (v := 24) rfl (by decide)) ?_
    refine mm_iload_n dX3_loopAt_4 rfl rfl ?_
    refine mm_zalk (k0 := h) dX3_loopAt_5 rfl (c := 23) rfl (by decide) rfl (by omega) (by omega) ?_
    rw [f0]
    refine mm_ifne dX3_loopAt_6 (by omega) (fun h6 => ?_) (fun h6 => ?_)
    · exfalso; omega
    · refine mm_aload_n dX3_loopAt_9 rfl rfl ?_
      refine mm_iload_n dX3_loopAt_10 rfl rfl ?_
      refine mm_V1g (M1 := M) dX3_loopAt_11 rfl lk_X3_61 (c := 21) rfl (by decide) rfl (by simp) rfl rfl rfl (ca) ?_
      rintro _ N11 ⟨x11, rfl, p11⟩
      change mm_J _ _ _ _ _ _ _ _ _ _
      have hR11 : mm_Rf N11 := p11.1
      refine mm_istore_n dX3_loopAt_14 rfl (Nat.le_of_ble_eq_true rfl) rfl ?_
      obtain ⟨z1, z2, z3⟩ := p11
      rw [z2]
      rcases z3 with q | ⟨o, o1, o2, o3, o4⟩
      · rw [q]; exact goA
      · rw [o2]; exact goB o o1 o3 o4
  · refine mm_aload_n dX3_loopAt_0 rfl rfl ?_
    refine mm_getr dX3_loopAt_1 rfl fl_X3_19 (c := 21) rfl (by decide) rfl rfl (hR.at (c := 21) (i := 3) (v := 24) rfl (by decide)) ?_
    refine mm_iload_n dX3_loopAt_4 rfl rfl ?_
    refine mm_zalk (k0 := h) dX3_loopAt_5 rfl (c := 23) rfl (by decide) rfl (by omega) (by omega) ?_
    rw [f1]
    refine mm_ifne dX3_loopAt_6 (by omega) (fun h6 => ?_) (fun h6 => ?_)
    · exact last M ⟨hR, fun _ _ _ _ => rfl⟩ h7 f1
    · exfalso; omega
end
end
