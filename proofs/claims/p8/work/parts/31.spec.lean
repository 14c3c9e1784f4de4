/-! ===== the kite as numbers: K 0 .. K 9 the rules, K 10 how many slants, K 20 .. their lifts, K 30 .. the windows ===== -/
def mm_KV (K : Nat → Int) : Prop := (2 ≤ K 0 ∧ K 0 ≤ 6) ∧ (2 ≤ K 1 ∧ K 1 ≤ 6) ∧ (2 ≤ K 2 ∧ K 2 ≤ 8) ∧ (5 ≤ K 3 ∧ K 3 ≤ 50) ∧ (0 ≤ K 4 ∧ K 4 ≤ 9999) ∧ (1 ≤ K 5 ∧ K 5 ≤ 99999) ∧ (0 ≤ K 6 ∧ K 6 ≤ 9999) ∧ (0 ≤ K 7 ∧ K 7 ≤ 400) ∧ (100 ≤ K 8 ∧ K 8 ≤ 400) ∧ (0 ≤ K 9 ∧ K 9 ≤ 99999) ∧ (1 ≤ K 10 ∧ K 10 ≤ 3) ∧ (∀ i, i < 3 → 0 ≤ K (20 + i) ∧ K (20 + i) ≤ 99) ∧ (∀ i, i < 6 → 0 ≤ K (30 + i) ∧ K (30 + i) ≤ 100)
theorem mm_mulb {a b A B : Int} (h1 : 0 ≤ a) (h2 : a ≤ A) (h3 : 0 ≤ b) (h4 : b ≤ B) : 0 ≤ a * b ∧ a * b ≤ A * B :=
  ⟨Int.mul_nonneg h1 h3, Int.le_trans (Int.mul_le_mul_of_nonneg_right h2 h3) (Int.mul_le_mul_of_nonneg_left h4 (Int.le_trans h1 h2))⟩
theorem mm_tdiv {a b : Int} (h : 0 ≤ a) : a.tdiv b = a / b := Int.tdiv_eq_ediv_of_nonneg h
theorem mm_tmod {a b : Int} (h : 0 ≤ a) : a.tmod b = a % b := Int.tmod_eq_emod_of_nonneg h
theorem mm_divb {a b A : Int} (h1 : 0 ≤ a) (h2 : a ≤ A) (hb : 0 < b) : 0 ≤ a / b ∧ a / b ≤ A :=
  ⟨Int.ediv_nonneg h1 (by omega), Int.le_trans (Int.ediv_le_self b h1) h2⟩
/-- how many states -/
def ks_n (K : Nat → Int) : Int := K 0 * K 1 * K 2
def ks_col (K : Nat → Int) (s : Int) : Int := s % K 0
def ks_row (K : Nat → Int) (s : Int) : Int := s / K 0 % K 1
def ks_rope (K : Nat → Int) (s : Int) : Int := s / K 0 / K 1
def ks_h (K : Nat → Int) (s : Int) : Int := K 3 * (ks_rope K s + 1) * (ks_row K s + 1) / K 1
def ks_band (K : Nat → Int) (s : Int) : Int := min 4 (ks_h K s / 40)
def ks_mv (a : Int) : Int := a / 3 % 5
def ks_dr (a : Int) : Int := a % 3
abbrev ks_side (m : Int) : Prop := m = 1 ∨ m = 2
abbrev ks_cm (K : Nat → Int) (s m : Int) : Prop := (m = 1 → 0 < ks_col K s) ∧ (m = 2 → ks_col K s + 1 < K 0) ∧ (m = 3 → ks_row K s + 1 < K 1) ∧ (m = 4 → 0 < ks_row K s)
abbrev ks_cr (K : Nat → Int) (s d : Int) : Prop := (d = 1 → ks_rope K s + 1 < K 2) ∧ (d = 2 → 0 < ks_rope K s)
abbrev ks_can (K : Nat → Int) (s a : Int) : Prop := ks_cm K s (ks_mv a) ∧ ks_cr K s (ks_dr a)
def ks_ms (K : Nat → Int) (m : Int) : Int := if m = 1 then -1 else if m = 2 then 1 else if m = 3 then K 0 else if m = 4 then -K 0 else 0
def ks_ds (K : Nat → Int) (d : Int) : Int := if d = 1 then K 0 * K 1 else if d = 2 then -(K 0 * K 1) else 0
def ks_to (K : Nat → Int) (s a : Int) : Int := s + ks_ms K (ks_mv a) + ks_ds K (ks_dr a)
/-- the pull of a slant in a column by a wind, sideways or not -/
def ks_pa (K : Nat → Int) (sl c : Int) (sw : Prop) [Decidable sw] (w : Int) : Int := if sw then K (20 + sl.toNat) * w * w * K (30 + c.toNat) / 100 * K 8 / 100 else K (20 + sl.toNat) * w * w * K (30 + c.toNat) / 100
def ks_p (K : Nat → Int) (s a w : Int) : Int := ks_pa K (a / 15) (ks_col K s) (ks_side (ks_mv a)) w
def ks_w (K : Nat → Int) (d p : Int) : Int := if d = 1 then p - K 6 else if d = 2 then -(p * K 7 / 100) - K 6 else 0
abbrev ks_st (K : Nat → Int) (s : Int) : Prop := 0 ≤ s ∧ s < ks_n K
abbrev ks_ac (K : Nat → Int) (a : Int) : Prop := 0 ≤ a ∧ a < 15 * K 10
theorem ks_nb {K : Nat → Int} (h : mm_KV K) : 8 ≤ ks_n K ∧ ks_n K ≤ 288 := by
  obtain ⟨h0, h1, h2, -⟩ := h
  unfold ks_n
  have a := mm_mulb (a := K 0) (b := K 1) (A := 6) (B := 6) (by omega) h0.2 (by omega) h1.2
  have b := mm_mulb (a := K 0 * K 1) (b := K 2) (A := 36) (B := 8) a.1 a.2 (by omega) h2.2
  have c : 4 ≤ K 0 * K 1 := by
    have : 2 * 2 ≤ K 0 * K 1 := Int.mul_le_mul h0.1 h1.1 (by omega) (by omega)
    omega
  have d : 4 * 2 ≤ K 0 * K 1 * K 2 := Int.mul_le_mul c h2.1 (by omega) (by omega)
  omega
theorem ks_colb {K : Nat → Int} (h : mm_KV K) (s : Int) : 0 ≤ ks_col K s ∧ ks_col K s < K 0 := by
  obtain ⟨h0, -⟩ := h
  exact ⟨Int.emod_nonneg _ (by omega), Int.emod_lt_of_pos _ (by omega)⟩
theorem ks_rowb {K : Nat → Int} (h : mm_KV K) (s : Int) : 0 ≤ ks_row K s ∧ ks_row K s < K 1 := by
  obtain ⟨-, h1, -⟩ := h
  exact ⟨Int.emod_nonneg _ (by omega), Int.emod_lt_of_pos _ (by omega)⟩
theorem ks_ropeb {K : Nat → Int} (h : mm_KV K) {s : Int} (hs : ks_st K s) : 0 ≤ ks_rope K s ∧ ks_rope K s < K 2 := by
  obtain ⟨h0, h1, -⟩ := h
  unfold ks_rope
  refine ⟨Int.ediv_nonneg (Int.ediv_nonneg hs.1 (by omega)) (by omega), ?_⟩
  rw [Int.ediv_lt_iff_lt_mul (by omega), Int.ediv_lt_iff_lt_mul (by omega)]
  have e : K 2 * K 1 * K 0 = ks_n K := by unfold ks_n; rw [Int.mul_comm (K 2) (K 1), Int.mul_comm _ (K 0), ← Int.mul_assoc]
  rw [e]
  exact hs.2
theorem ks_hb {K : Nat → Int} (h : mm_KV K) {s : Int} (hs : ks_st K s) : 0 ≤ ks_h K s ∧ ks_h K s ≤ 2400 ∧ 0 ≤ K 3 * (ks_rope K s + 1) ∧ K 3 * (ks_rope K s + 1) ≤ 400 ∧ 0 ≤ K 3 * (ks_rope K s + 1) * (ks_row K s + 1) ∧ K 3 * (ks_rope K s + 1) * (ks_row K s + 1) ≤ 2400 := by
  have hr := ks_ropeb h hs
  have hw := ks_rowb h s
  obtain ⟨h0, h1, h2, h3, -⟩ := h
  have a := mm_mulb (a := K 3) (b := ks_rope K s + 1) (A := 50) (B := 8) (by omega) h3.2 (by omega) (by omega)
  have b := mm_mulb (a := K 3 * (ks_rope K s + 1)) (b := ks_row K s + 1) (A := 400) (B := 6) a.1 a.2 (by omega) (by omega)
  have c := mm_divb (b := K 1) b.1 b.2 (by omega)
  unfold ks_h
  omega
theorem ks_bandb {K : Nat → Int} (h : mm_KV K) {s : Int} (hs : ks_st K s) : 0 ≤ ks_band K s ∧ ks_band K s ≤ 4 := by
  have := (ks_hb h hs).1
  have : 0 ≤ ks_h K s / 40 := Int.ediv_nonneg this (by omega)
  unfold ks_band
  omega
theorem ks_mvb {a : Int} (h : 0 ≤ a) : 0 ≤ ks_mv a ∧ ks_mv a ≤ 4 := by unfold ks_mv; omega
theorem ks_drb {a : Int} (h : 0 ≤ a) : 0 ≤ ks_dr a ∧ ks_dr a ≤ 2 := by unfold ks_dr; omega
theorem ks_slb {K : Nat → Int} {a : Int} (h : mm_KV K) (ha : ks_ac K a) : 0 ≤ a / 15 ∧ a / 15 < K 10 ∧ a / 15 < 3 := by
  obtain ⟨-, -, -, -, -, -, -, -, -, -, h10, -⟩ := h
  have := ha.1
  have := ha.2
  omega
/-- the parts of a pull, with their bounds -/
theorem ks_pab {K : Nat → Int} (h : mm_KV K) {sl c w : Int} (hs : 0 ≤ sl ∧ sl < 3) (hc : 0 ≤ c ∧ c < 6) (hw : 0 ≤ w ∧ w ≤ 120) :
    (0 ≤ K (20 + sl.toNat) ∧ K (20 + sl.toNat) ≤ 99) ∧ (0 ≤ K (30 + c.toNat) ∧ K (30 + c.toNat) ≤ 100) ∧ (0 ≤ K (20 + sl.toNat) * w ∧ K (20 + sl.toNat) * w ≤ 11880) ∧ (0 ≤ K (20 + sl.toNat) * w * w ∧ K (20 + sl.toNat) * w * w ≤ 1425600) ∧ (0 ≤ K (20 + sl.toNat) * w * w * K (30 + c.toNat) ∧ K (20 + sl.toNat) * w * w * K (30 + c.toNat) ≤ 142560000) ∧ (0 ≤ K (20 + sl.toNat) * w * w * K (30 + c.toNat) / 100 ∧ K (20 + sl.toNat) * w * w * K (30 + c.toNat) / 100 ≤ 1425600) ∧ (0 ≤ K (20 + sl.toNat) * w * w * K (30 + c.toNat) / 100 * K 8 ∧ K (20 + sl.toNat) * w * w * K (30 + c.toNat) / 100 * K 8 ≤ 570240000) := by
  obtain ⟨-, -, -, -, -, -, -, -, h8, -, -, hl, hv⟩ := h
  have a := hl sl.toNat (by omega)
  have b := hv c.toNat (by omega)
  generalize K (20 + sl.toNat) = u at a ⊢
  generalize K (30 + c.toNat) = v at b ⊢
  have c1 := mm_mulb (a := u) (b := w) (A := 99) (B := 120) a.1 a.2 hw.1 hw.2
  have c2 := mm_mulb (a := u * w) (b := w) (A := 99 * 120) (B := 120) c1.1 c1.2 hw.1 hw.2
  have c3 := mm_mulb (a := u * w * w) (b := v) (A := 99 * 120 * 120) (B := 100) c2.1 c2.2 b.1 b.2
  have c4 : 0 ≤ u * w * w * v / 100 ∧ u * w * w * v / 100 ≤ 1425600 := by omega
  have c5 := mm_mulb (a := u * w * w * v / 100) (b := K 8) (A := 1425600) (B := 400) c4.1 c4.2 (by omega) h8.2
  exact ⟨a, b, by omega, by omega, by omega, c4, by omega⟩
theorem ks_pb {K : Nat → Int} (h : mm_KV K) {sl c w : Int} {sw : Prop} [Decidable sw] (hs : 0 ≤ sl ∧ sl < 3) (hc : 0 ≤ c ∧ c < 6) (hw : 0 ≤ w ∧ w ≤ 120) : 0 ≤ ks_pa K sl c sw w ∧ ks_pa K sl c sw w ≤ 5702400 := by
  have := ks_pab h hs hc hw
  unfold ks_pa
  split <;> omega

