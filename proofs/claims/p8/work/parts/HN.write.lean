/-! ===== KitePower$LoopFinder: writeLoop ===== -/
/-- the kept paths with works and acts that can be -/
def kW_G (N : mm_M) (n : Nat) : Prop := ∀ u, u < n → ∃ c0 c1 : Nat, N 31 u = (c0 : Int) ∧ N 31 (u + 1) = (c1 : Int) ∧ c0 ≤ c1 ∧ c1 ≤ 4320 ∧ ∀ x, c0 ≤ x → x < c1 → (∃ v : Nat, v < n ∧ N 33 x = (v : Int)) ∧ (-5800000 ≤ N 34 x ∧ N 34 x ≤ 5800000) ∧ 0 ≤ N 35 x ∧ N 35 x ≤ 1000
theorem kW_G.g {N : mm_M} {n : Nat} (h : kW_G N n) : kU_G N n := fun u hu => by
  obtain ⟨c0, c1, g1, g2, g3, g4, g5⟩ := h u hu
  exact ⟨c0, c1, g1, g2, g3, g4, fun x x1 x2 => (g5 x x1 x2).1⟩
/-- so many acts of the loop are written -/
def kW_I (M N : mm_M) (n b L rc i : Nat) (v y : Nat → Nat) : Prop := v 0 = b ∧ N rc 2 = (L : Int) ∧ N rc 3 = ka_sum (fun j => M 34 (y j)) i ∧ ∀ j, j < i → v j < n ∧ M 31 (v j) ≤ (y j : Int) ∧ (y j : Int) < M 31 (v j + 1) ∧ M 33 (y j) = (v (j + 1) : Int) ∧ kU_g (kU_t M n) (M 40) b (L : Int) (L - j - 1) (v (j + 1)) ∧ (∀ x h : Nat, M 31 (v j) ≤ (x : Int) → (x : Int) < M 31 (v j + 1) → M 33 x = (h : Int) → kU_g (kU_t M n) (M 40) b (L : Int) (L - j - 1) h → M 35 (y j) ≤ M 35 x) ∧ N (rc + 1) j = M 35 (y j) ∧ N (rc + 2) j = (v j : Int)
section
variable {X : mm_X} {M : mm_M} {n : Nat}
theorem c_X6_writeLoop {b L rc : Nat} (hR : mm_Rf M) (hG : kW_G M n) (hn2 : n ≤ 288) (hb : b < n) (hrw : mm_rw rc 288) (hrc : 42 ≤ rc) (hL : 1 ≤ L ∧ L ≤ 288) (hgo : ∀ (j : Int) (h : Nat), 0 ≤ j → h < n → (kU_o M h (j + 1) (b : Int) (L : Int) ↔ (j + 1 ≤ (L : Int) ∧ kU_g (kU_t M n) (M 40) b (L : Int) ((L : Int) - j - 1).toNat h)))
    (h40 : ∀ h, h < n → mm_R (M 40 h) ∧ mm_R (M 39 h)) (hst : kU_g (kU_t M n) (M 40) b (L : Int) L b) :
    mm_C X Y_X6_writeLoop 243 243 [(2, 29), (0, (b : Int)), (0, (L : Int)), (2, (rc : Int) + 1)] M (fun r M' => r = (3, 0) ∧ mm_Rf M' ∧ (∀ a, a ≠ rc → a ≠ rc + 1 → a ≠ rc + 2 → M' a = M a) ∧ ∃ v y, kW_I M M' n b L rc L v y) := by
  obtain ⟨Φ, hΦ⟩ : ∃ Φ : mm_V → mm_M → Prop, Φ = (fun r M' => r = (3, 0) ∧ mm_Rf M' ∧ (∀ a, a ≠ rc → a ≠ rc + 1 → a ≠ rc + 2 → M' a = M a) ∧ ∃ v y, kW_I M M' n b L rc L v y) := ⟨_, rfl⟩
  rw [← hΦ]
  have hrc3 := hrw.2.2.2.1
  have kU_t_of : ∀ u h c0 c1 : Nat, M 31 u = (c0 : Int) → M 31 (u + 1) = (c1 : Int) → ∀ r, kU_g (kU_t M n) (M 40) b (L : Int) (r + 1) u → ∃ x h : Nat, c0 ≤ x ∧ x < c1 ∧ M 33 x = (h : Int) ∧ kU_g (kU_t M n) (M 40) b (L : Int) r h := by
    rintro u _ c0 c1 g1 g2 r ⟨-, h, ⟨-, x, x1, x2, x3⟩, h2⟩
    exact ⟨x, h, by omega, by omega, x3, h2⟩
  -- the paths of a state
  have inner : ∀ i u c0 c1 : Nat, i < L → u < n → M 31 u = (c0 : Int) → M 31 (u + 1) = (c1 : Int) → c1 ≤ 4320 → ∀ N, mm_Rf N → (∀ a, a ≠ rc → a ≠ rc + 1 → a ≠ rc + 2 → N a = M a) →
      (∀ ch, ((ch = -1 ∧ ∀ x h : Nat, c0 ≤ x → x < c1 → M 33 x = (h : Int) → ¬ kU_g (kU_t M n) (M 40) b (L : Int) (L - i - 1) h) ∨ ∃ y h : Nat, ch = (y : Int) ∧ c0 ≤ y ∧ y < c1 ∧ M 33 y = (h : Int) ∧ kU_g (kU_t M n) (M 40) b (L : Int) (L - i - 1) h ∧ ∀ x h : Nat, c0 ≤ x → x < c1 → M 33 x = (h : Int) → kU_g (kU_t M n) (M 40) b (L : Int) (L - i - 1) h → M 35 y ≤ M 35 x) → mm_J X Y_X6_writeLoop 243 243 243 113 [(2, 29), (0, (b : Int)), (0, (L : Int)), (2, (rc : Int) + 1), (0, (u : Int)), (0, (i : Int)), (0, ch), (9, 0), (9, 0)] [] N Φ) →
      ∀ x : Nat, x ≤ c1 → ∀ ch, c0 ≤ x → ((ch = -1 ∧ ∀ y h : Nat, c0 ≤ y → y < x → M 33 y = (h : Int) → ¬ kU_g (kU_t M n) (M 40) b (L : Int) (L - i - 1) h) ∨ ∃ y h : Nat, ch = (y : Int) ∧ c0 ≤ y ∧ y < x ∧ M 33 y = (h : Int) ∧ kU_g (kU_t M n) (M 40) b (L : Int) (L - i - 1) h ∧ ∀ z h : Nat, c0 ≤ z → z < x → M 33 z = (h : Int) → kU_g (kU_t M n) (M 40) b (L : Int) (L - i - 1) h → M 35 y ≤ M 35 z) →
      mm_J X Y_X6_writeLoop 243 243 243 34 [(2, 29), (0, (b : Int)), (0, (L : Int)), (2, (rc : Int) + 1), (0, (u : Int)), (0, (i : Int)), (0, ch), (0, (x : Int)), (9, 0)] [] N Φ := by
    intro i u c0 c1 hi hu g1 g2 g4 N hRN hf out
    have e31 : N 31 = M 31 := hf 31 (by omega) (by omega) (by omega)
    have e33 : N 33 = M 33 := hf 33 (by omega) (by omega) (by omega)
    have e35 : N 35 = M 35 := hf 35 (by omega) (by omega) (by omega)
    have e39 : N 39 = M 39 := hf 39 (by omega) (by omega) (by omega)
    have e40 : N 40 = M 40 := hf 40 (by omega) (by omega) (by omega)
    have k1 : N 31 (u + 1) = (c1 : Int) := by rw [e31]; exact g2
    refine mm_lp ?_
    intro x hx ih ch hcx hs
    by_cases hlt : x < c1
    · obtain ⟨a0, a1, q1, q2, q3, q4, q5⟩ := hG u hu
      obtain ⟨⟨h, hh, hhe⟩, -, ab⟩ := q5 x (by omega) (by omega)
      have k33 : N 33 x = (h : Int) := by rw [e33]; exact hhe
      have k35 : N 35 x = M 35 x := by rw [e35]
      have dec : kU_o N h ((i : Int) + 1) (b : Int) (L : Int) ↔ kU_g (kU_t M n) (M 40) b (L : Int) (L - i - 1) h := by
        have := hgo (i : Int) h (by omega) hh
        rw [show ((L : Int) - (i : Int) - 1).toNat = L - i - 1 by omega] at this
        unfold kU_o at this ⊢
        rw [e40, e39]
        rw [this]
        constructor
        · exact fun q => q.2
        · exact fun q => ⟨by omega, q⟩
      have cg := fun z hz => c_X6_goesOn (X := X) (M := N) (h := h) (layer := (i : Int) + 1) (start := (b : Int)) (length := (L : Int)) (b := z) hRN (by omega) (by unfold mm_R; omega) (by unfold mm_R; omega) (by unfold mm_R; omega) (by rw [e40]; exact (h40 h hh).1) (by rw [e39]; exact (h40 h hh).2) hz
      have take : kU_g (kU_t M n) (M 40) b (L : Int) (L - i - 1) h → (ch = -1 ∨ ∃ y : Nat, ch = (y : Int) ∧ M 35 x ≤ M 35 y) → mm_J X Y_X6_writeLoop 243 243 243 34 [(2, 29), (0, (b : Int)), (0, (L : Int)), (2, (rc : Int) + 1), (0, (u : Int)), (0, (i : Int)), (0, (x : Int)), (0, (x : Int) + 1), (9, 0)] [] N Φ := by
        intro ho hc
        have go := ih hlt (x : Int) (by omega) (Or.inr ⟨x, h, rfl, hcx, by omega, hhe, ho, fun z w z1 z2 z3 z4 => by
          by_cases cz : z = x
          · rw [cz]; exact Int.le_refl _
          · rcases hs with ⟨s1, s2⟩ | ⟨y, w', s1, s2, s3, s4, s5, s6⟩
            · exact absurd z4 (s2 z w z1 (by omega) z3)
            · have := s6 z w z1 (by omega) z3 z4
              rcases hc with c | ⟨y', c1', c2⟩
              · omega
              · have : y' = y := by omega
                rw [this] at c2
                omega⟩)
        rw [show ((x + 1 : Nat) : Int) = (x : Int) + 1 by omega] at go
        exact go
      have keep : (kU_g (kU_t M n) (M 40) b (L : Int) (L - i - 1) h → ∃ y : Nat, ch = (y : Int) ∧ M 35 y ≤ M 35 x) → mm_J X Y_X6_writeLoop 243 243 243 34 [(2, 29), (0, (b : Int)), (0, (L : Int)), (2, (rc : Int) + 1), (0, (u : Int)), (0, (i : Int)), (0, ch), (0, (x : Int) + 1), (9, 0)] [] N Φ := by
        intro hc
        have go := ih hlt ch (by omega) (by
          rcases hs with ⟨s1, s2⟩ | ⟨y, w', s1, s2, s3, s4, s5, s6⟩
          · refine Or.inl ⟨s1, fun z w z1 z2 z3 z4 => ?_⟩
            by_cases cz : z = x
            · have ew : w = h := by rw [cz, hhe] at z3; omega
              rw [ew] at z4
              obtain ⟨y, y1, -⟩ := hc z4
              omega
            · exact s2 z w z1 (by omega) z3 z4
          · refine Or.inr ⟨y, w', s1, s2, by omega, s4, s5, fun z w z1 z2 z3 z4 => ?_⟩
            by_cases cz : z = x
            · have ew : w = h := by rw [cz, hhe] at z3; omega
              rw [ew] at z4
              obtain ⟨y', y1, y2⟩ := hc z4
              have : y' = y := by omega
              rw [this] at y2
              rw [cz]; exact y2
            · exact s6 z w z1 (by omega) z3 z4)
        rw [show ((x + 1 : Nat) : Int) = (x : Int) + 1 by omega] at go
        exact go
      have chb : ch = -1 ∨ ∃ y : Nat, ch = (y : Int) ∧ c0 ≤ y ∧ y < x := by
        rcases hs with ⟨s1, s2⟩ | ⟨y, w', s1, s2, s3, -⟩
        · exact Or.inl s1
        · exact Or.inr ⟨y, s1, s2, s3⟩
      by_cases ho : kU_o N h ((i : Int) + 1) (b : Int) (L : Int)
      · have cg1 := cg 1 (Or.inl ⟨rfl, ho⟩)
        have hg := dec.mp ho
        rcases chb with hch | ⟨y, hch, y1, y2⟩
        · refine mm_iload dX6_writeLoop_34 rfl rfl ?_
          refine mm_aload_n dX6_writeLoop_36 rfl rfl ?_
          refine mm_getr dX6_writeLoop_37 rfl fl_X6_20 (c := 28) rfl (by decide) rfl rfl (hRN.at (c := 28) (i := 4) (v := 32) rfl (by decide)) ?_
          refine mm_iload dX6_writeLoop_40 rfl rfl ?_
          refine mm_iconst dX6_writeLoop_42 rfl ?_
          refine mm_iadd dX6_writeLoop_43 rfl ?_
          refine mm_ialk (k0 := u + 1) dX6_writeLoop_44 rfl (c := 31) rfl (by decide) rfl (by omega) (by omega) ?_
          rw [k1]
          refine mm_icge dX6_writeLoop_45 (by omega) (by omega) (fun h45 => ?_) (fun h45 => ?_)
          · exfalso; omega
          · refine mm_iload dX6_writeLoop_48 rfl rfl ?_
            refine mm_iconst dX6_writeLoop_50 rfl ?_
            refine mm_iceq dX6_writeLoop_51 (by omega) (by omega) (fun h51 => ?_) (fun h51 => ?_)
            · refine mm_iconst dX6_writeLoop_71 rfl ?_
              refine mm_goto dX6_writeLoop_72 ?_
              refine mm_istore dX6_writeLoop_76 rfl (Nat.le_of_ble_eq_true rfl) rfl ?_
              refine mm_iload dX6_writeLoop_78 rfl rfl ?_
              refine mm_ifeq dX6_writeLoop_80 (by omega) (fun h => absurd h (by decide)) (fun _ => ?_)
              refine mm_aload_n dX6_writeLoop_83 rfl rfl ?_
              refine mm_aload_n dX6_writeLoop_84 rfl rfl ?_
              refine mm_getr dX6_writeLoop_85 rfl fl_X6_26 (c := 28) rfl (by decide) rfl rfl (hRN.at (c := 28) (i := 6) (v := 34) rfl (by decide)) ?_
              refine mm_iload dX6_writeLoop_88 rfl rfl ?_
              refine mm_ialk (k0 := x) dX6_writeLoop_90 rfl (c := 33) rfl (by decide) rfl (by omega) (by omega) ?_
              rw [k33]
              refine mm_iload dX6_writeLoop_91 rfl rfl ?_
              refine mm_iconst dX6_writeLoop_93 rfl ?_
              refine mm_iadd dX6_writeLoop_94 rfl ?_
              refine mm_iload_n dX6_writeLoop_95 rfl rfl ?_
              refine mm_iload_n dX6_writeLoop_96 rfl rfl ?_
              refine mm_V4i dX6_writeLoop_97 rfl lk_X6_189 (c := 28) rfl (by decide) rfl (by simp) (by simp) (by simp) (by simp) rfl rfl rfl (cg1) ?_
              refine mm_ifeq dX6_writeLoop_100 (by omega) (fun h => absurd h (by decide)) (fun _ => ?_)
              refine mm_iload dX6_writeLoop_103 rfl rfl ?_
              refine mm_istore dX6_writeLoop_105 rfl (Nat.le_of_ble_eq_true rfl) rfl ?_
              refine mm_iinc dX6_writeLoop_107 rfl rfl (Nat.le_of_ble_eq_true rfl) rfl ?_
              refine mm_goto dX6_writeLoop_110 ?_
              exact mm_drop (by repeat (first | exact trivial | refine And.intro (Or.inl rfl) ?_ | refine And.intro (Or.inr rfl) ?_)) (take hg (Or.inl hch))
            · exfalso; omega
        · obtain ⟨-, -, yb⟩ := q5 y (by omega) (by omega)
          have k35y : N 35 y = M 35 y := by rw [e35]
          subst hch
          refine mm_iload dX6_writeLoop_34 rfl rfl ?_
          refine mm_aload_n dX6_writeLoop_36 rfl rfl ?_
          refine mm_getr dX6_writeLoop_37 rfl fl_X6_20 (c := 28) rfl (by decide) rfl rfl (hRN.at (c := 28) (i := 4) (v := 32) rfl (by decide)) ?_
          refine mm_iload dX6_writeLoop_40 rfl rfl ?_
          refine mm_iconst dX6_writeLoop_42 rfl ?_
          refine mm_iadd dX6_writeLoop_43 rfl ?_
          refine mm_ialk (k0 := u + 1) dX6_writeLoop_44 rfl (c := 31) rfl (by decide) rfl (by omega) (by omega) ?_
          rw [k1]
          refine mm_icge dX6_writeLoop_45 (by omega) (by omega) (fun h45 => ?_) (fun h45 => ?_)
          · exfalso; omega
          · refine mm_iload dX6_writeLoop_48 rfl rfl ?_
            refine mm_iconst dX6_writeLoop_50 rfl ?_
            refine mm_iceq dX6_writeLoop_51 (by omega) (by omega) (fun h51 => ?_) (fun h51 => ?_)
            · exfalso; omega
            · refine mm_aload_n dX6_writeLoop_54 rfl rfl ?_
              refine mm_getr dX6_writeLoop_55 rfl fl_X6_32 (c := 28) rfl (by decide) rfl rfl (hRN.at (c := 28) (i := 8) (v := 36) rfl (by decide)) ?_
              refine mm_iload dX6_writeLoop_58 rfl rfl ?_
              refine mm_ialk (k0 := x) dX6_writeLoop_60 rfl (c := 35) rfl (by decide) rfl (by omega) (by omega) ?_
              rw [k35]
              refine mm_aload_n dX6_writeLoop_61 rfl rfl ?_
              refine mm_getr dX6_writeLoop_62 rfl fl_X6_32 (c := 28) rfl (by decide) rfl rfl (hRN.at (c := 28) (i := 8) (v := 36) rfl (by decide)) ?_
              refine mm_iload dX6_writeLoop_65 rfl rfl ?_
              refine mm_ialk (k0 := y) dX6_writeLoop_67 rfl (c := 35) rfl (by decide) rfl (by omega) (by omega) ?_
              rw [k35y]
              refine mm_icge dX6_writeLoop_68 (by omega) (by omega) (fun h68 => ?_) (fun h68 => ?_)
              · refine mm_iconst dX6_writeLoop_75 rfl ?_
                refine mm_istore dX6_writeLoop_76 rfl (Nat.le_of_ble_eq_true rfl) rfl ?_
                refine mm_iload dX6_writeLoop_78 rfl rfl ?_
                refine mm_ifeq dX6_writeLoop_80 (by omega) (fun _ => ?_) (fun h => absurd (by decide) h)
                refine mm_iinc dX6_writeLoop_107 rfl rfl (Nat.le_of_ble_eq_true rfl) rfl ?_
                refine mm_goto dX6_writeLoop_110 ?_
                first
                | exact mm_drop (by repeat (first | exact trivial | refine And.intro (Or.inl rfl) ?_ | refine And.intro (Or.inr rfl) ?_)) (take hg (Or.inr ⟨y, rfl, by omega⟩))
                | exact mm_drop (by repeat (first | exact trivial | refine And.intro (Or.inl rfl) ?_ | refine And.intro (Or.inr rfl) ?_)) (keep (fun _ => ⟨y, rfl, by omega⟩))
              · refine mm_iconst dX6_writeLoop_71 rfl ?_
                refine mm_goto dX6_writeLoop_72 ?_
                refine mm_istore dX6_writeLoop_76 rfl (Nat.le_of_ble_eq_true rfl) rfl ?_
                refine mm_iload dX6_writeLoop_78 rfl rfl ?_
                refine mm_ifeq dX6_writeLoop_80 (by omega) (fun h => absurd h (by decide)) (fun _ => ?_)
                refine mm_aload_n dX6_writeLoop_83 rfl rfl ?_
                refine mm_aload_n dX6_writeLoop_84 rfl rfl ?_
                refine mm_getr dX6_writeLoop_85 rfl fl_X6_26 (c := 28) rfl (by decide) rfl rfl (hRN.at (c := 28) (i := 6) (v := 34) rfl (by decide)) ?_
                refine mm_iload dX6_writeLoop_88 rfl rfl ?_
                refine mm_ialk (k0 := x) dX6_writeLoop_90 rfl (c := 33) rfl (by decide) rfl (by omega) (by omega) ?_
                rw [k33]
                refine mm_iload dX6_writeLoop_91 rfl rfl ?_
                refine mm_iconst dX6_writeLoop_93 rfl ?_
                refine mm_iadd dX6_writeLoop_94 rfl ?_
                refine mm_iload_n dX6_writeLoop_95 rfl rfl ?_
                refine mm_iload_n dX6_writeLoop_96 rfl rfl ?_
                refine mm_V4i dX6_writeLoop_97 rfl lk_X6_189 (c := 28) rfl (by decide) rfl (by simp) (by simp) (by simp) (by simp) rfl rfl rfl (cg1) ?_
                refine mm_ifeq dX6_writeLoop_100 (by omega) (fun h => absurd h (by decide)) (fun _ => ?_)
                refine mm_iload dX6_writeLoop_103 rfl rfl ?_
                refine mm_istore dX6_writeLoop_105 rfl (Nat.le_of_ble_eq_true rfl) rfl ?_
                refine mm_iinc dX6_writeLoop_107 rfl rfl (Nat.le_of_ble_eq_true rfl) rfl ?_
                refine mm_goto dX6_writeLoop_110 ?_
                first
                | exact mm_drop (by repeat (first | exact trivial | refine And.intro (Or.inl rfl) ?_ | refine And.intro (Or.inr rfl) ?_)) (take hg (Or.inr ⟨y, rfl, by omega⟩))
                | exact mm_drop (by repeat (first | exact trivial | refine And.intro (Or.inl rfl) ?_ | refine And.intro (Or.inr rfl) ?_)) (keep (fun _ => ⟨y, rfl, by omega⟩))
      · have cg0 := cg 0 (Or.inr ⟨rfl, ho⟩)
        have kp := keep (fun q => absurd (dec.mpr q) ho)
        rcases chb with hch | ⟨y, hch, y1, y2⟩
        · refine mm_iload dX6_writeLoop_34 rfl rfl ?_
          refine mm_aload_n dX6_writeLoop_36 rfl rfl ?_
          refine mm_getr dX6_writeLoop_37 rfl fl_X6_20 (c := 28) rfl (by decide) rfl rfl (hRN.at (c := 28) (i := 4) (v := 32) rfl (by decide)) ?_
          refine mm_iload dX6_writeLoop_40 rfl rfl ?_
          refine mm_iconst dX6_writeLoop_42 rfl ?_
          refine mm_iadd dX6_writeLoop_43 rfl ?_
          refine mm_ialk (k0 := u + 1) dX6_writeLoop_44 rfl (c := 31) rfl (by decide) rfl (by omega) (by omega) ?_
          rw [k1]
          refine mm_icge dX6_writeLoop_45 (by omega) (by omega) (fun h45 => ?_) (fun h45 => ?_)
          · exfalso; omega
          · refine mm_iload dX6_writeLoop_48 rfl rfl ?_
            refine mm_iconst dX6_writeLoop_50 rfl ?_
            refine mm_iceq dX6_writeLoop_51 (by omega) (by omega) (fun h51 => ?_) (fun h51 => ?_)
            · refine mm_iconst dX6_writeLoop_71 rfl ?_
              refine mm_goto dX6_writeLoop_72 ?_
              refine mm_istore dX6_writeLoop_76 rfl (Nat.le_of_ble_eq_true rfl) rfl ?_
              refine mm_iload dX6_writeLoop_78 rfl rfl ?_
              refine mm_ifeq dX6_writeLoop_80 (by omega) (fun h => absurd h (by decide)) (fun _ => ?_)
              refine mm_aload_n dX6_writeLoop_83 rfl rfl ?_
              refine mm_aload_n dX6_writeLoop_84 rfl rfl ?_
              refine mm_getr dX6_writeLoop_85 rfl fl_X6_26 (c := 28) rfl (by decide) rfl rfl (hRN.at (c := 28) (i := 6) (v := 34) rfl (by decide)) ?_
              refine mm_iload dX6_writeLoop_88 rfl rfl ?_
              refine mm_ialk (k0 := x) dX6_writeLoop_90 rfl (c := 33) rfl (by decide) rfl (by omega) (by omega) ?_
              rw [k33]
              refine mm_iload dX6_writeLoop_91 rfl rfl ?_
              refine mm_iconst dX6_writeLoop_93 rfl ?_
              refine mm_iadd dX6_writeLoop_94 rfl ?_
              refine mm_iload_n dX6_writeLoop_95 rfl rfl ?_
              refine mm_iload_n dX6_writeLoop_96 rfl rfl ?_
              refine mm_V4i dX6_writeLoop_97 rfl lk_X6_189 (c := 28) rfl (by decide) rfl (by simp) (by simp) (by simp) (by simp) rfl rfl rfl (cg0) ?_
              refine mm_ifeq dX6_writeLoop_100 (by omega) (fun _ => ?_) (fun h => absurd (by decide) h)
              refine mm_iinc dX6_writeLoop_107 rfl rfl (Nat.le_of_ble_eq_true rfl) rfl ?_
              refine mm_goto dX6_writeLoop_110 ?_
              exact mm_drop (by repeat (first | exact trivial | refine And.intro (Or.inl rfl) ?_ | refine And.intro (Or.inr rfl) ?_)) kp
            · exfalso; omega
        · obtain ⟨-, -, yb⟩ := q5 y (by omega) (by omega)
          have k35y : N 35 y = M 35 y := by rw [e35]
          subst hch
          refine mm_iload dX6_writeLoop_34 rfl rfl ?_
          refine mm_aload_n dX6_writeLoop_36 rfl rfl ?_
          refine mm_getr dX6_writeLoop_37 rfl fl_X6_20 (c := 28) rfl (by decide) rfl rfl (hRN.at (c := 28) (i := 4) (v := 32) rfl (by decide)) ?_
          refine mm_iload dX6_writeLoop_40 rfl rfl ?_
          refine mm_iconst dX6_writeLoop_42 rfl ?_
          refine mm_iadd dX6_writeLoop_43 rfl ?_
          refine mm_ialk (k0 := u + 1) dX6_writeLoop_44 rfl (c := 31) rfl (by decide) rfl (by omega) (by omega) ?_
          rw [k1]
          refine mm_icge dX6_writeLoop_45 (by omega) (by omega) (fun h45 => ?_) (fun h45 => ?_)
          · exfalso; omega
          · refine mm_iload dX6_writeLoop_48 rfl rfl ?_
            refine mm_iconst dX6_writeLoop_50 rfl ?_
            refine mm_iceq dX6_writeLoop_51 (by omega) (by omega) (fun h51 => ?_) (fun h51 => ?_)
            · exfalso; omega
            · refine mm_aload_n dX6_writeLoop_54 rfl rfl ?_
              refine mm_getr dX6_writeLoop_55 rfl fl_X6_32 (c := 28) rfl (by decide) rfl rfl (hRN.at (c := 28) (i := 8) (v := 36) rfl (by decide)) ?_
              refine mm_iload dX6_writeLoop_58 rfl rfl ?_
              refine mm_ialk (k0 := x) dX6_writeLoop_60 rfl (c := 35) rfl (by decide) rfl (by omega) (by omega) ?_
              rw [k35]
              refine mm_aload_n dX6_writeLoop_61 rfl rfl ?_
              refine mm_getr dX6_writeLoop_62 rfl fl_X6_32 (c := 28) rfl (by decide) rfl rfl (hRN.at (c := 28) (i := 8) (v := 36) rfl (by decide)) ?_
              refine mm_iload dX6_writeLoop_65 rfl rfl ?_
              refine mm_ialk (k0 := y) dX6_writeLoop_67 rfl (c := 35) rfl (by decide) rfl (by omega) (by omega) ?_
              rw [k35y]
              refine mm_icge dX6_writeLoop_68 (by omega) (by omega) (fun h68 => ?_) (fun h68 => ?_)
              · refine mm_iconst dX6_writeLoop_75 rfl ?_
                refine mm_istore dX6_writeLoop_76 rfl (Nat.le_of_ble_eq_true rfl) rfl ?_
                refine mm_iload dX6_writeLoop_78 rfl rfl ?_
                refine mm_ifeq dX6_writeLoop_80 (by omega) (fun _ => ?_) (fun h => absurd (by decide) h)
                refine mm_iinc dX6_writeLoop_107 rfl rfl (Nat.le_of_ble_eq_true rfl) rfl ?_
                refine mm_goto dX6_writeLoop_110 ?_
                exact mm_drop (by repeat (first | exact trivial | refine And.intro (Or.inl rfl) ?_ | refine And.intro (Or.inr rfl) ?_)) kp
              · refine mm_iconst dX6_writeLoop_71 rfl ?_
                refine mm_goto dX6_writeLoop_72 ?_
                refine mm_istore dX6_writeLoop_76 rfl (Nat.le_of_ble_eq_true rfl) rfl ?_
                refine mm_iload dX6_writeLoop_78 rfl rfl ?_
                refine mm_ifeq dX6_writeLoop_80 (by omega) (fun h => absurd h (by decide)) (fun _ => ?_)
                refine mm_aload_n dX6_writeLoop_83 rfl rfl ?_
                refine mm_aload_n dX6_writeLoop_84 rfl rfl ?_
                refine mm_getr dX6_writeLoop_85 rfl fl_X6_26 (c := 28) rfl (by decide) rfl rfl (hRN.at (c := 28) (i := 6) (v := 34) rfl (by decide)) ?_
                refine mm_iload dX6_writeLoop_88 rfl rfl ?_
                refine mm_ialk (k0 := x) dX6_writeLoop_90 rfl (c := 33) rfl (by decide) rfl (by omega) (by omega) ?_
                rw [k33]
                refine mm_iload dX6_writeLoop_91 rfl rfl ?_
                refine mm_iconst dX6_writeLoop_93 rfl ?_
                refine mm_iadd dX6_writeLoop_94 rfl ?_
                refine mm_iload_n dX6_writeLoop_95 rfl rfl ?_
                refine mm_iload_n dX6_writeLoop_96 rfl rfl ?_
                refine mm_V4i dX6_writeLoop_97 rfl lk_X6_189 (c := 28) rfl (by decide) rfl (by simp) (by simp) (by simp) (by simp) rfl rfl rfl (cg0) ?_
                refine mm_ifeq dX6_writeLoop_100 (by omega) (fun _ => ?_) (fun h => absurd (by decide) h)
                refine mm_iinc dX6_writeLoop_107 rfl rfl (Nat.le_of_ble_eq_true rfl) rfl ?_
                refine mm_goto dX6_writeLoop_110 ?_
                exact mm_drop (by repeat (first | exact trivial | refine And.intro (Or.inl rfl) ?_ | refine And.intro (Or.inr rfl) ?_)) kp
    · have ex : x = c1 := by omega
      subst ex
      have go := out ch hs
      refine mm_iload dX6_writeLoop_34 rfl rfl ?_
      refine mm_aload_n dX6_writeLoop_36 rfl rfl ?_
      refine mm_getr dX6_writeLoop_37 rfl fl_X6_20 (c := 28) rfl (by decide) rfl rfl (hRN.at (c := 28) (i := 4) (v := 32) rfl (by decide)) ?_
      refine mm_iload dX6_writeLoop_40 rfl rfl ?_
      refine mm_iconst dX6_writeLoop_42 rfl ?_
      refine mm_iadd dX6_writeLoop_43 rfl ?_
      refine mm_ialk (k0 := u + 1) dX6_writeLoop_44 rfl (c := 31) rfl (by decide) rfl (by omega) (by omega) ?_
      rw [k1]
      refine mm_icge dX6_writeLoop_45 (by omega) (by omega) (fun h45 => ?_) (fun h45 => ?_)
      · exact mm_drop (by repeat (first | exact trivial | refine And.intro (Or.inl rfl) ?_ | refine And.intro (Or.inr rfl) ?_)) go
      · exfalso; omega
  have loop : ∀ i : Nat, i ≤ L → ∀ N v y, mm_Rf N → (∀ a, a ≠ rc → a ≠ rc + 1 → a ≠ rc + 2 → N a = M a) → kW_I M N n b L rc i v y → kU_g (kU_t M n) (M 40) b (L : Int) (L - i) (v i) → v i < n →
      mm_J X Y_X6_writeLoop 243 243 243 16 [(2, 29), (0, (b : Int)), (0, (L : Int)), (2, (rc : Int) + 1), (0, (v i : Int)), (0, (i : Int)), (9, 0), (9, 0), (9, 0)] [] N Φ := by
    refine mm_lp ?_
    intro i hi ih N v y hRN hf hI hg hvn
    by_cases hlt : i < L
    · obtain ⟨u, hu⟩ : ∃ u, u = v i := ⟨_, rfl⟩
      rw [← hu] at hg hvn
      obtain ⟨c0, c1, g1, g2, g3, g4, g5⟩ := hG u hvn
      have e31 : N 31 = M 31 := hf 31 (by omega) (by omega) (by omega)
      have e33 : N 33 = M 33 := hf 33 (by omega) (by omega) (by omega)
      have e34 : N 34 = M 34 := hf 34 (by omega) (by omega) (by omega)
      have e35 : N 35 = M 35 := hf 35 (by omega) (by omega) (by omega)
      have k31 : N 31 u = (c0 : Int) := by rw [e31]; exact g1
      obtain ⟨i1, i2, i3, i4⟩ := id hI
      have sumb : -(5800000 * (i : Int)) ≤ N rc 3 ∧ N rc 3 ≤ 5800000 * (i : Int) := by
        rw [i3]
        refine ka_sumb (fun j hj => ?_)
        obtain ⟨z1, z2, z3, -⟩ := i4 j hj
        obtain ⟨a0, a1, y1, y2, y3, y4, y5⟩ := hG (v j) z1
        exact (y5 (y j) (by omega) (by omega)).2.1
      have out : ∀ ch, ((ch = -1 ∧ ∀ x h : Nat, c0 ≤ x → x < c1 → M 33 x = (h : Int) → ¬ kU_g (kU_t M n) (M 40) b (L : Int) (L - i - 1) h) ∨ ∃ y h : Nat, ch = (y : Int) ∧ c0 ≤ y ∧ y < c1 ∧ M 33 y = (h : Int) ∧ kU_g (kU_t M n) (M 40) b (L : Int) (L - i - 1) h ∧ ∀ x h : Nat, c0 ≤ x → x < c1 → M 33 x = (h : Int) → kU_g (kU_t M n) (M 40) b (L : Int) (L - i - 1) h → M 35 y ≤ M 35 x) → mm_J X Y_X6_writeLoop 243 243 243 113 [(2, 29), (0, (b : Int)), (0, (L : Int)), (2, (rc : Int) + 1), (0, (u : Int)), (0, (i : Int)), (0, ch), (9, 0), (9, 0)] [] N Φ := by
        intro ch hch
        rcases hch with ⟨-, q⟩ | ⟨z, h, z1, z2, z3, z4, z5, z6⟩
        · exfalso
          obtain ⟨x, h, x1, x2, x3, x4⟩ := kU_t_of u 0 c0 c1 g1 g2 (L - i - 1) (by rw [show L - i - 1 + 1 = L - i by omega]; exact hg)
          exact q x h x1 x2 x3 x4
        · obtain ⟨⟨w, w1, w2⟩, wb, -⟩ := g5 z z2 z3
          have hw : h = w := by omega
          have k33 : N 33 z = (h : Int) := by rw [e33]; exact z4
          rw [z1]
          have fin : ∀ P, mm_Rf P → P = mm_up (mm_up (mm_up N (rc + 2) i (u : Int)) (rc + 1) i (M 35 z)) rc 3 (N rc 3 + M 34 z) → mm_J X Y_X6_writeLoop 243 243 243 16 [(2, 29), (0, (b : Int)), (0, (L : Int)), (2, (rc : Int) + 1), (0, (h : Int)), (0, (i : Int) + 1), (9, 0), (9, 0), (9, 0)] [] P Φ := by
            intro P hRP hP
            have a1 : ∀ a, a ≠ rc → a ≠ rc + 1 → a ≠ rc + 2 → P a = M a := fun a b1 b2 b3 => by rw [hP, mm_up_row b1, mm_up_row b2, mm_up_row b3]; exact hf a b1 b2 b3
            have r1 : ∀ j, j ≠ i → P (rc + 1) j = N (rc + 1) j := fun j hj => by rw [hP, mm_up_c (by omega), mm_up_i hj, mm_up_c (by omega)]
            have r2 : ∀ j, j ≠ i → P (rc + 2) j = N (rc + 2) j := fun j hj => by rw [hP, mm_up_c (by omega), mm_up_c (by omega), mm_up_i hj]
            have ec : ∀ j, j ≤ i → (if j ≤ i then v j else h) = v j := fun j hj => if_pos hj
            have ey : ∀ j, j < i → (if j < i then y j else z) = y j := fun j hj => if_pos hj
            have go := ih hlt P (fun j => if j ≤ i then v j else h) (fun j => if j < i then y j else z) hRP a1 ⟨by show (if 0 ≤ i then v 0 else h) = b; rw [if_pos (by omega)]; exact i1, by rw [hP, mm_up_i (by decide), mm_up_c (by omega), mm_up_c (by omega)]; exact i2, by
              show P rc 3 = ka_sum (fun j => M 34 (if j < i then y j else z)) i + M 34 (if i < i then y i else z)
              rw [if_neg (Nat.lt_irrefl i), ka_sum_congr (g := fun j => M 34 (y j)) (fun j hj => by show M 34 (if j < i then y j else z) = M 34 (y j); rw [if_pos hj]), hP, mm_up_s, i3], fun j hj => by
              show (if j ≤ i then v j else h) < n ∧ M 31 (if j ≤ i then v j else h) ≤ ((if j < i then y j else z : Nat) : Int) ∧ ((if j < i then y j else z : Nat) : Int) < M 31 ((if j ≤ i then v j else h) + 1) ∧ M 33 (if j < i then y j else z) = ((if j + 1 ≤ i then v (j + 1) else h : Nat) : Int) ∧ kU_g (kU_t M n) (M 40) b (L : Int) (L - j - 1) (if j + 1 ≤ i then v (j + 1) else h) ∧ (∀ x h' : Nat, M 31 (if j ≤ i then v j else h) ≤ (x : Int) → (x : Int) < M 31 ((if j ≤ i then v j else h) + 1) → M 33 x = (h' : Int) → kU_g (kU_t M n) (M 40) b (L : Int) (L - j - 1) h' → M 35 (if j < i then y j else z) ≤ M 35 x) ∧ P (rc + 1) j = M 35 (if j < i then y j else z) ∧ P (rc + 2) j = ((if j ≤ i then v j else h : Nat) : Int)
              rw [ec j (by omega)]
              by_cases cj : j = i
              · rw [cj, if_neg (Nat.lt_irrefl i), if_neg (show ¬ i + 1 ≤ i by omega), ← hu]
                exact ⟨hvn, by omega, by omega, z4, z5, fun x h' x1 x2 x3 x4 => z6 x h' (by omega) (by omega) x3 x4, by rw [hP, mm_up_c (by omega), mm_up_s], by rw [hP, mm_up_c (by omega), mm_up_c (by omega), mm_up_s]⟩
              · rw [if_pos (show j < i by omega), if_pos (show j + 1 ≤ i by omega), r1 j cj, r2 j cj]
                exact i4 j (by omega)⟩ (by show kU_g _ _ _ _ _ (if i + 1 ≤ i then v (i + 1) else h); rw [if_neg (by omega), show L - (i + 1) = L - i - 1 by omega]; exact z5) (by show (if i + 1 ≤ i then v (i + 1) else h) < n; rw [if_neg (by omega)]; omega)
            have go : mm_J X Y_X6_writeLoop 243 243 243 16 [(2, 29), (0, (b : Int)), (0, (L : Int)), (2, (rc : Int) + 1), (0, ((if i + 1 ≤ i then v (i + 1) else h : Nat) : Int)), (0, ((i + 1 : Nat) : Int)), (9, 0), (9, 0), (9, 0)] [] P Φ := go
            rw [if_neg (by omega), show ((i + 1 : Nat) : Int) = (i : Int) + 1 by omega] at go
            exact go
          refine mm_iload dX6_writeLoop_113 rfl rfl ?_
          refine mm_iconst dX6_writeLoop_115 rfl ?_
          refine mm_iceq dX6_writeLoop_116 (by omega) (by omega) (fun h116 => ?_) (fun h116 => ?_)
          · exfalso; omega
          · refine mm_aload_n dX6_writeLoop_119 rfl rfl ?_
            refine mm_getr dX6_writeLoop_120 rfl fl_X6_196 (c := rc) rfl hrw.c0 hrw.1 rfl (hrw.states hRN) ?_
            refine mm_iload dX6_writeLoop_123 rfl rfl ?_
            refine mm_iload dX6_writeLoop_125 rfl rfl ?_
            refine mm_istk (k0 := i) dX6_writeLoop_127 rfl (c := rc + 2) rfl hrw.c2 hrw.2.2.1 (by omega) (by omega) (fun M127 hM127 => ?_)
            have hR127 : mm_Rf M127 := by rw [hM127]; exact hRN.up (mm_rt_arr hrw.2.2.1 _)
            refine mm_aload_n dX6_writeLoop_128 rfl rfl ?_
            refine mm_getr dX6_writeLoop_129 rfl fl_X6_198 (c := rc) rfl hrw.c0 hrw.1 rfl (hrw.acts hR127) ?_
            refine mm_iload dX6_writeLoop_132 rfl rfl ?_
            refine mm_aload_n dX6_writeLoop_134 rfl rfl ?_
            refine mm_getr dX6_writeLoop_135 rfl fl_X6_32 (c := 28) rfl (by decide) rfl rfl (hR127.at (c := 28) (i := 8) (v := 36) rfl (by decide)) ?_
            refine mm_iload dX6_writeLoop_138 rfl rfl ?_
            refine mm_ialk (k0 := z) dX6_writeLoop_140 rfl (c := 35) rfl (by decide) rfl (by omega) (by omega) ?_
            rw [show M127 35 z = M 35 z by rw [hM127, mm_up_c (by omega), e35]]
            refine mm_istk (k0 := i) dX6_writeLoop_141 rfl (c := rc + 1) rfl hrw.c1 hrw.2.1 (by omega) (by omega) (fun M141 hM141 => ?_)
            have hR141 : mm_Rf M141 := by rw [hM141]; exact hR127.up (mm_rt_arr hrw.2.1 _)
            refine mm_aload_n dX6_writeLoop_142 rfl rfl ?_
            refine mm_dup dX6_writeLoop_143 rfl (by simp) ?_
            refine mm_get (kd := 0) dX6_writeLoop_144 rfl fl_X6_193 (c := rc) rfl hrw.c0 hrw.1 rfl ?_
            refine mm_aload_n dX6_writeLoop_147 rfl rfl ?_
            refine mm_getr dX6_writeLoop_148 rfl fl_X6_29 (c := 28) rfl (by decide) rfl rfl (hR141.at (c := 28) (i := 7) (v := 35) rfl (by decide)) ?_
            refine mm_iload dX6_writeLoop_151 rfl rfl ?_
            refine mm_ialk (k0 := z) dX6_writeLoop_153 rfl (c := 34) rfl (by decide) rfl (by omega) (by omega) ?_
            rw [show M141 34 z = M 34 z by rw [hM141, mm_up_c (by omega), hM127, mm_up_c (by omega), e34]]
            refine mm_iadd dX6_writeLoop_154 rfl ?_
            refine mm_puti dX6_writeLoop_155 rfl fl_X6_193 (c := rc) rfl hrw.c0 hrw.1 rfl (fun M155 hM155 => ?_)
            have hR155 : mm_Rf M155 := by rw [hM155]; exact hR141.up (mm_rt_row hrw (by omega))
            refine mm_aload_n dX6_writeLoop_158 rfl rfl ?_
            refine mm_getr dX6_writeLoop_159 rfl fl_X6_26 (c := 28) rfl (by decide) rfl rfl (hR155.at (c := 28) (i := 6) (v := 34) rfl (by decide)) ?_
            refine mm_iload dX6_writeLoop_162 rfl rfl ?_
            refine mm_ialk (k0 := z) dX6_writeLoop_164 rfl (c := 33) rfl (by decide) rfl (by omega) (by omega) ?_
            rw [show M155 33 z = (h : Int) by rw [hM155, mm_up_c (by omega), hM141, mm_up_c (by omega), hM127, mm_up_c (by omega), k33]]
            refine mm_istore dX6_writeLoop_165 rfl (Nat.le_of_ble_eq_true rfl) rfl ?_
            refine mm_iinc dX6_writeLoop_167 rfl rfl (Nat.le_of_ble_eq_true rfl) rfl ?_
            refine mm_goto dX6_writeLoop_170 ?_
            exact mm_drop (by repeat (first | exact trivial | refine And.intro (Or.inl rfl) ?_ | refine And.intro (Or.inr rfl) ?_)) (fin _ hR155 (by rw [hM155, show M141 rc 3 = N rc 3 by rw [hM141, mm_up_c (by omega), hM127, mm_up_c (by omega)], hM141, hM127]))
      have go := inner i u c0 c1 hlt hvn g1 g2 g4 N hRN hf out c0 g3 (-1) (Nat.le_refl _) (Or.inl ⟨rfl, fun y h y1 y2 => absurd y2 (by omega)⟩)
      rw [← hu]
      refine mm_iload dX6_writeLoop_16 rfl rfl ?_
      refine mm_iload_n dX6_writeLoop_18 rfl rfl ?_
      refine mm_icge dX6_writeLoop_19 (by omega) (by omega) (fun h19 => ?_) (fun h19 => ?_)
      · exfalso; omega
      · refine mm_iconst dX6_writeLoop_22 rfl ?_
        refine mm_istore dX6_writeLoop_23 rfl (Nat.le_of_ble_eq_true rfl) rfl ?_
        refine mm_aload_n dX6_writeLoop_25 rfl rfl ?_
        refine mm_getr dX6_writeLoop_26 rfl fl_X6_20 (c := 28) rfl (by decide) rfl rfl (hRN.at (c := 28) (i := 4) (v := 32) rfl (by decide)) ?_
        refine mm_iload dX6_writeLoop_29 rfl rfl ?_
        refine mm_ialk (k0 := u) dX6_writeLoop_31 rfl (c := 31) rfl (by decide) rfl (by omega) (by omega) ?_
        rw [k31]
        refine mm_istore dX6_writeLoop_32 rfl (Nat.le_of_ble_eq_true rfl) rfl ?_
        exact go
    · have ei : i = L := by omega
      subst ei
      refine mm_iload dX6_writeLoop_16 rfl rfl ?_
      refine mm_iload_n dX6_writeLoop_18 rfl rfl ?_
      refine mm_icge dX6_writeLoop_19 (by omega) (by omega) (fun h19 => ?_) (fun h19 => ?_)
      · refine mm_vret dX6_writeLoop_173 rfl rfl ?_
        rw [hΦ]; exact ⟨rfl, hRN, hf, v, y, hI⟩
      · exfalso; omega
  refine mm_start (ls := [(2, 29), (0, (b : Int)), (0, (L : Int)), (2, (rc : Int) + 1), (9, 0), (9, 0), (9, 0), (9, 0), (9, 0)]) rfl ?_
  refine mm_iload_n dX6_writeLoop_0 rfl rfl ?_
  refine mm_istore dX6_writeLoop_1 rfl (Nat.le_of_ble_eq_true rfl) rfl ?_
  refine mm_aload_n dX6_writeLoop_3 rfl rfl ?_
  refine mm_iconst dX6_writeLoop_4 rfl ?_
  refine mm_puti dX6_writeLoop_5 rfl fl_X6_193 (c := rc) rfl hrw.c0 hrw.1 rfl (fun M5 hM5 => ?_)
  have hR5 : mm_Rf M5 := by rw [hM5]; exact hR.up (mm_rt_row hrw (by omega))
  refine mm_aload_n dX6_writeLoop_8 rfl rfl ?_
  refine mm_iload_n dX6_writeLoop_9 rfl rfl ?_
  refine mm_puti dX6_writeLoop_10 rfl fl_X6_63 (c := rc) rfl hrw.c0 hrw.1 rfl (fun M10 hM10 => ?_)
  have hR10 : mm_Rf M10 := by rw [hM10]; exact hR5.up (mm_rt_row hrw (by omega))
  refine mm_iconst dX6_writeLoop_13 rfl ?_
  refine mm_istore dX6_writeLoop_14 rfl (Nat.le_of_ble_eq_true rfl) rfl ?_
  exact loop 0 (Nat.zero_le _) M10 (fun _ => b) (fun _ => 0) hR10 (fun a a1 _ _ => by rw [hM10, mm_up_row a1, hM5, mm_up_row a1]) ⟨rfl, by rw [hM10, mm_up_s], by rw [hM10, mm_up_i (by decide), hM5, mm_up_s]; rfl, fun j hj => absurd hj (by omega)⟩ hst hb
end

