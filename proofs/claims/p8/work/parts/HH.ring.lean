/-! ===== KitePower$LoopFinder: takeRing ===== -/
theorem ka_sum_head (f : Nat → Int) : ∀ m : Nat, ka_sum f (m + 1) = f 0 + ka_sum (fun j => f (j + 1)) m
  | 0 => by show 0 + f 0 = f 0 + 0; omega
  | m + 1 => by
    have := ka_sum_head f m
    show ka_sum f (m + 1) + f (m + 1) = f 0 + (ka_sum (fun j => f (j + 1)) m + f (m + 1))
    omega
theorem ka_sum_rev (f : Nat → Int) : ∀ m : Nat, ka_sum (fun j => f (m - 1 - j)) m = ka_sum f m
  | 0 => rfl
  | m + 1 => by
    rw [ka_sum_head, ka_sum_congr (g := fun j => f (m - 1 - j)) (fun j hj => by show f (m + 1 - 1 - (j + 1)) = f (m - 1 - j); rw [show m + 1 - 1 - (j + 1) = m - 1 - j by omega]), ka_sum_rev f m]
    show f (m + 1 - 1 - 0) + ka_sum f m = ka_sum f m + f m
    rw [show m + 1 - 1 - 0 = m by omega]
    omega
/-- states, each raised by the next -/
def kv_C (N : mm_M) (n : Nat) (c r : Nat → Nat) (k : Nat) : Prop := ∀ j, j < k → N 37 (c j) = (r j : Int) ∧ kv_p N n (r j) (c (j + 1)) (c j)
theorem kv_C.ring {N : mm_M} {n m : Nat} {c r : Nat → Nat} (h : kv_C N n c r m) (h1 : 1 ≤ m) (he : c m = c 0) : kv_R N n (fun j => c (m - j)) (fun j => r (m - 1 - j)) m := by
  refine ⟨h1, by show c (m - m) = c (m - 0); rw [Nat.sub_self, Nat.sub_zero, he], fun j hj => ?_⟩
  have := h (m - 1 - j) (by omega)
  rw [show m - 1 - j + 1 = m - j by omega] at this
  show N 37 (c (m - (j + 1))) = _ ∧ kv_p N n _ (c (m - j)) (c (m - (j + 1)))
  rw [show m - (j + 1) = m - 1 - j by omega]
  exact this
section
variable {X : mm_X} {M : mm_M} {n : Nat}
theorem kv_G.w (hG : kv_G M n) {p u v : Nat} (hp : kv_p M n p u v) : -5800000 ≤ M 34 p ∧ M 34 p ≤ 5800000 := by
  obtain ⟨c0, c1, g1, g2, g3, g4, g5⟩ := hG u hp.2.1
  have a := hp.2.2.2.1
  have b := hp.2.2.2.2.1
  exact (g5 p (by omega) (by omega)).2.2
theorem c_X6_takeRing {c r : Nat → Nat} {m : Nat} {S C : Int} (hR : mm_Rf M) (hG : kv_G M n) (hn : M 3 2 = (n : Int)) (hn2 : n ≤ 288) (hS : M 28 16 = S) (hC : M 28 17 = C) (hSb : -2000000000 ≤ S ∧ S ≤ 2000000000) (hCb : 1 ≤ C ∧ C ≤ 288)
    (hc : kv_C M n c r m) (h1 : 1 ≤ m) (hm : m ≤ n) (he : c m = c 0) (hd : ∀ j, 0 < j → j < m → c j ≠ c 0) :
    mm_C X Y_X6_takeRing 243 243 [(2, 29), (0, (c 0 : Int))] M (fun r' M' => ∃ x, r' = (0, x) ∧ mm_Rf M' ∧ ((x = 0 ∧ M' = M ∧ C * ka_sum (fun j => M 34 (r j)) m ≤ S * m) ∨ (x = 1 ∧ S * m < C * ka_sum (fun j => M 34 (r j)) m ∧ M' = mm_up (mm_up M 28 16 (ka_sum (fun j => M 34 (r j)) m)) 28 17 (m : Int)))) := by
  obtain ⟨Φ, hΦ⟩ : ∃ Φ : mm_V → mm_M → Prop, Φ = (fun r' M' => ∃ x, r' = (0, x) ∧ mm_Rf M' ∧ ((x = 0 ∧ M' = M ∧ C * ka_sum (fun j => M 34 (r j)) m ≤ S * m) ∨ (x = 1 ∧ S * m < C * ka_sum (fun j => M 34 (r j)) m ∧ M' = mm_up (mm_up M 28 16 (ka_sum (fun j => M 34 (r j)) m)) 28 17 (m : Int)))) := ⟨_, rfl⟩
  rw [← hΦ]
  obtain ⟨g, hg⟩ : ∃ g, g = (fun j => M 34 (r j)) := ⟨_, rfl⟩
  have gb : ∀ j, j < m → -5800000 ≤ g j ∧ g j ≤ 5800000 := fun j hj => by rw [hg]; exact hG.w (hc j hj).2
  have sb : ∀ k, k ≤ m → -(5800000 * (k : Int)) ≤ ka_sum g k ∧ ka_sum g k ≤ 5800000 * (k : Int) := fun k hk => ka_sumb (fun j hj => gb j (by omega))
  rw [← hg] at hΦ
  have sm := sb m (Nat.le_refl m)
  have p1 := mm_mulB (a := ka_sum g m) (b := C) (A := 1670400000) (B := 288) (by omega) (by omega) (by omega) hCb.2
  have p2 := mm_mulB (a := S) (b := (m : Int)) (A := 2000000000) (B := 288) (by omega) (by omega) (by omega) (by omega)
  obtain ⟨y1, hy1⟩ : ∃ y, y = ka_sum g m * C := ⟨_, rfl⟩
  obtain ⟨y2, hy2⟩ : ∃ y, y = S * (m : Int) := ⟨_, rfl⟩
  rw [← hy1] at p1
  rw [← hy2] at p2
  rw [Int.mul_comm C, ← hy1, ← hy2] at hΦ
  have endd : mm_J X Y_X6_takeRing 243 243 243 59 [(2, 29), (0, (c 0 : Int)), (1, ka_sum g m), (9, 0), (0, (m : Int)), (9, 0)] [] M Φ := by
    refine mm_lload_n dX6_takeRing_59 rfl rfl ?_
    refine mm_aload_n dX6_takeRing_60 rfl rfl ?_
    refine mm_get (kd := 1) dX6_takeRing_61 rfl fl_X6_82 (c := 28) rfl (by decide) rfl rfl ?_
    refine mm_lmul dX6_takeRing_64 rfl ?_
    refine mm_aload_n dX6_takeRing_65 rfl rfl ?_
    refine mm_get (kd := 1) dX6_takeRing_66 rfl fl_X6_78 (c := 28) rfl (by decide) rfl rfl ?_
    refine mm_iload dX6_takeRing_69 rfl rfl ?_
    refine mm_i2l dX6_takeRing_71 rfl (by omega) ?_
    refine mm_lmul dX6_takeRing_72 rfl ?_
    rw [hC, hS, ← hy1, ← hy2]
    refine mm_lcmp dX6_takeRing_73 rfl (by omega) (by omega) ?_
    refine mm_ifgtc dX6_takeRing_74 (fun h74 => ?_) (fun h74 => ?_)
    · refine mm_aload_n dX6_takeRing_79 rfl rfl ?_
      refine mm_lload_n dX6_takeRing_80 rfl rfl ?_
      refine mm_putl dX6_takeRing_81 rfl fl_X6_78 (c := 28) rfl (by decide) rfl rfl (fun M81 hM81 => ?_)
      have hR81 : mm_Rf M81 := by rw [hM81]; exact hR.up rfl
      refine mm_aload_n dX6_takeRing_84 rfl rfl ?_
      refine mm_iload dX6_takeRing_85 rfl rfl ?_
      refine mm_i2l dX6_takeRing_87 rfl (by omega) ?_
      refine mm_putl dX6_takeRing_88 rfl fl_X6_82 (c := 28) rfl (by decide) rfl rfl (fun M88 hM88 => ?_)
      have hR88 : mm_Rf M88 := by rw [hM88]; exact hR81.up rfl
      refine mm_iconst dX6_takeRing_91 rfl ?_
      refine mm_zret dX6_takeRing_92 rfl rfl (Or.inr rfl) ?_
      rw [hΦ]; exact ⟨_, rfl, hR88, Or.inr ⟨rfl, by omega, by rw [hM88, hM81]⟩⟩
    · refine mm_iconst dX6_takeRing_77 rfl ?_
      refine mm_zret dX6_takeRing_78 rfl rfl (Or.inl rfl) ?_
      rw [hΦ]; exact ⟨_, rfl, hR, Or.inl ⟨rfl, rfl, by omega⟩⟩
  have loop : ∀ k : Nat, k ≤ m - 1 → mm_J X Y_X6_takeRing 243 243 243 8 [(2, 29), (0, (c 0 : Int)), (1, ka_sum g k), (9, 0), (0, (k : Int)), (0, (c k : Int))] [] M Φ := by
    refine mm_lp ?_
    intro k hk ih
    obtain ⟨q1, q2⟩ := hc k (by omega)
    have q3 := q2.2.2.1
    have q4 := q2.1
    have q5 := q2.2.2.2.2.2.1
    have eg : M 34 (r k) = g k := by rw [hg]
    have gk := gb k (by omega)
    have cn : c (k + 1) < n := q2.2.1
    have es : ka_sum g (k + 1) = ka_sum g k + g k := rfl
    have c0n : c 0 < n := (hc 0 (by omega)).2.2.2.1
    by_cases hlt : k + 1 < m
    · have go := ih (by omega)
      have ne := hd (k + 1) (by omega) hlt
      rw [es, show ((k + 1 : Nat) : Int) = (k : Int) + 1 by omega] at go
      refine mm_lload_n dX6_takeRing_8 rfl rfl ?_
      refine mm_aload_n dX6_takeRing_9 rfl rfl ?_
      refine mm_getr dX6_takeRing_10 rfl fl_X6_29 (c := 28) rfl (by decide) rfl rfl (hR.at (c := 28) (i := 7) (v := 35) rfl (by decide)) ?_
      refine mm_aload_n dX6_takeRing_13 rfl rfl ?_
      refine mm_getr dX6_takeRing_14 rfl fl_X6_39 (c := 28) rfl (by decide) rfl rfl (hR.at (c := 28) (i := 10) (v := 38) rfl (by decide)) ?_
      refine mm_iload dX6_takeRing_17 rfl rfl ?_
      refine mm_ialk (k0 := c k) dX6_takeRing_19 rfl (c := 37) rfl (by decide) rfl (by omega) (by omega) ?_
      rw [q1]
      refine mm_ialk (k0 := r k) dX6_takeRing_20 rfl (c := 34) rfl (by decide) rfl (by omega) (by omega) ?_
      rw [eg]
      refine mm_i2l dX6_takeRing_21 rfl (by omega) ?_
      refine mm_ladd dX6_takeRing_22 rfl ?_
      refine mm_lstore_n dX6_takeRing_23 rfl (Nat.le_of_ble_eq_true rfl) rfl ?_
      refine mm_iinc dX6_takeRing_24 rfl rfl (Nat.le_of_ble_eq_true rfl) rfl ?_
      refine mm_aload_n dX6_takeRing_27 rfl rfl ?_
      refine mm_getr dX6_takeRing_28 rfl fl_X6_23 (c := 28) rfl (by decide) rfl rfl (hR.at (c := 28) (i := 5) (v := 33) rfl (by decide)) ?_
      refine mm_aload_n dX6_takeRing_31 rfl rfl ?_
      refine mm_getr dX6_takeRing_32 rfl fl_X6_39 (c := 28) rfl (by decide) rfl rfl (hR.at (c := 28) (i := 10) (v := 38) rfl (by decide)) ?_
      refine mm_iload dX6_takeRing_35 rfl rfl ?_
      refine mm_ialk (k0 := c k) dX6_takeRing_37 rfl (c := 37) rfl (by decide) rfl (by omega) (by omega) ?_
      rw [q1]
      refine mm_ialk (k0 := r k) dX6_takeRing_38 rfl (c := 32) rfl (by decide) rfl (by omega) (by omega) ?_
      rw [q5]
      refine mm_istore dX6_takeRing_39 rfl (Nat.le_of_ble_eq_true rfl) rfl ?_
      refine mm_iload dX6_takeRing_41 rfl rfl ?_
      refine mm_iload_n dX6_takeRing_43 rfl rfl ?_
      refine mm_iceq dX6_takeRing_44 (by omega) (by omega) (fun h44 => ?_) (fun h44 => ?_)
      · exfalso; omega
      · refine mm_iload dX6_takeRing_47 rfl rfl ?_
        refine mm_aload_n dX6_takeRing_49 rfl rfl ?_
        refine mm_getr dX6_takeRing_50 rfl fl_X6_55 (c := 28) rfl (by decide) rfl rfl (hR.at (c := 28) (i := 0) (v := 4) rfl (by decide)) ?_
        refine mm_get (kd := 0) dX6_takeRing_53 rfl fl_X6_102 (c := 3) rfl (by decide) rfl rfl ?_
        rw [hn]
        refine mm_iclt dX6_takeRing_56 (by omega) (by omega) (fun h56 => ?_) (fun h56 => ?_)
        · exact go
        · exfalso; omega
    · have ek : k + 1 = m := by omega
      have ec : c (k + 1) = c 0 := by rw [ek, he]
      have go := endd
      rw [← ek, es, show ((k + 1 : Nat) : Int) = (k : Int) + 1 by omega] at go
      refine mm_lload_n dX6_takeRing_8 rfl rfl ?_
      refine mm_aload_n dX6_takeRing_9 rfl rfl ?_
      refine mm_getr dX6_takeRing_10 rfl fl_X6_29 (c := 28) rfl (by decide) rfl rfl (hR.at (c := 28) (i := 7) (v := 35) rfl (by decide)) ?_
      refine mm_aload_n dX6_takeRing_13 rfl rfl ?_
      refine mm_getr dX6_takeRing_14 rfl fl_X6_39 (c := 28) rfl (by decide) rfl rfl (hR.at (c := 28) (i := 10) (v := 38) rfl (by decide)) ?_
      refine mm_iload dX6_takeRing_17 rfl rfl ?_
      refine mm_ialk (k0 := c k) dX6_takeRing_19 rfl (c := 37) rfl (by decide) rfl (by omega) (by omega) ?_
      rw [q1]
      refine mm_ialk (k0 := r k) dX6_takeRing_20 rfl (c := 34) rfl (by decide) rfl (by omega) (by omega) ?_
      rw [eg]
      refine mm_i2l dX6_takeRing_21 rfl (by omega) ?_
      refine mm_ladd dX6_takeRing_22 rfl ?_
      refine mm_lstore_n dX6_takeRing_23 rfl (Nat.le_of_ble_eq_true rfl) rfl ?_
      refine mm_iinc dX6_takeRing_24 rfl rfl (Nat.le_of_ble_eq_true rfl) rfl ?_
      refine mm_aload_n dX6_takeRing_27 rfl rfl ?_
      refine mm_getr dX6_takeRing_28 rfl fl_X6_23 (c := 28) rfl (by decide) rfl rfl (hR.at (c := 28) (i := 5) (v := 33) rfl (by decide)) ?_
      refine mm_aload_n dX6_takeRing_31 rfl rfl ?_
      refine mm_getr dX6_takeRing_32 rfl fl_X6_39 (c := 28) rfl (by decide) rfl rfl (hR.at (c := 28) (i := 10) (v := 38) rfl (by decide)) ?_
      refine mm_iload dX6_takeRing_35 rfl rfl ?_
      refine mm_ialk (k0 := c k) dX6_takeRing_37 rfl (c := 37) rfl (by decide) rfl (by omega) (by omega) ?_
      rw [q1]
      refine mm_ialk (k0 := r k) dX6_takeRing_38 rfl (c := 32) rfl (by decide) rfl (by omega) (by omega) ?_
      rw [q5]
      refine mm_istore dX6_takeRing_39 rfl (Nat.le_of_ble_eq_true rfl) rfl ?_
      refine mm_iload dX6_takeRing_41 rfl rfl ?_
      refine mm_iload_n dX6_takeRing_43 rfl rfl ?_
      refine mm_iceq dX6_takeRing_44 (by omega) (by omega) (fun h44 => ?_) (fun h44 => ?_)
      · exact mm_drop (by repeat (first | exact trivial | refine And.intro (Or.inl rfl) ?_ | refine And.intro (Or.inr rfl) ?_)) go
      · exfalso; omega
  refine mm_start (ls := [(2, 29), (0, (c 0 : Int)), (9, 0), (9, 0), (9, 0), (9, 0)]) rfl ?_
  refine mm_lconst0 dX6_takeRing_0 rfl ?_
  refine mm_lstore_n dX6_takeRing_1 rfl (Nat.le_of_ble_eq_true rfl) rfl ?_
  refine mm_iconst dX6_takeRing_2 rfl ?_
  refine mm_istore dX6_takeRing_3 rfl (Nat.le_of_ble_eq_true rfl) rfl ?_
  refine mm_iload_n dX6_takeRing_5 rfl rfl ?_
  refine mm_istore dX6_takeRing_6 rfl (Nat.le_of_ble_eq_true rfl) rfl ?_
  exact loop 0 (Nat.zero_le _)
end

