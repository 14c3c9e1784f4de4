/-! ===== Integer.bitCount of numbers below 2 ^ 21 ===== -/
section
variable {X : mm_X} {Y : mm_Y} {n0 n1 n pc q : Nat} {ls st : List mm_V} {M : mm_M} {Φ : mm_V → mm_M → Prop} {x y : Int}
theorem mm_iushr (hd : mm_D Y.2.1 pc q .iushr) (hq : pc + 1 = q) (k : mm_J X Y n0 n1 n q ls ((0, ((mm_i x).toUInt32 >>> ((mm_i y).toUInt32 &&& Int32.toUInt32 31)).toInt32.toInt) :: st) M Φ) : mm_J X Y n0 n1 n pc ls ((0, y) :: (0, x) :: st) M Φ := by
  subst hq
  refine mm_go (fun p l e R s m args below meth c D cA bs ro H locs lsr cells slots Q hx hb hL kk => ?_) k
  refine lv_iushr hx hb (by simpa using hd.1) rfl ?_
  rw [← mm_i_of ((mm_i x).toUInt32 >>> ((mm_i y).toUInt32 &&& Int32.toUInt32 31)).toInt32]
  exact kk
end
theorem kc_J6_265 : mm_Wk (.constant RJ6 265 (mm_i 1431655765)) := mm_w1 5 98 rfl rfl
theorem kc_J6_266 : mm_Wk (.constant RJ6 266 (mm_i 858993459)) := mm_w1 5 99 rfl rfl
theorem kc_J6_267 : mm_Wk (.constant RJ6 267 (mm_i 252645135)) := mm_w1 5 100 rfl rfl
theorem kx_cnt : ∀ j : Fin 32, (UInt32.ofNat j.val &&& Int32.toUInt32 31).toNat % 32 = j.val := by decide +kernel
theorem kx_ush {k j : Nat} (hk : k < 2147483648) (hj : j < 32) : ((mm_i (k : Int)).toUInt32 >>> ((mm_i (j : Int)).toUInt32 &&& Int32.toUInt32 31)).toInt32.toInt = ((k >>> j : Nat) : Int) := by
  have hs : k >>> j ≤ k := by
    rw [Nat.shiftRight_eq_div_pow]
    exact Nat.div_le_self _ _
  rw [kx_nI, kx_nI]
  have e2 : UInt32.ofNat k >>> (UInt32.ofNat j &&& Int32.toUInt32 31) = UInt32.ofNat (k >>> j) := by
    apply UInt32.toNat_inj.1
    have h1 : (UInt32.ofNat k).toNat = k := Nat.mod_eq_of_lt (by omega)
    have h2 : (UInt32.ofNat (k >>> j)).toNat = k >>> j := Nat.mod_eq_of_lt (by omega)
    rw [UInt32.toNat_shiftRight, kx_cnt ⟨j, hj⟩, h1, h2]
  show (UInt32.ofNat k >>> (UInt32.ofNat j &&& Int32.toUInt32 31)).toInt32.toInt = _
  rw [e2]
  exact kx_to (by omega)
theorem kx_and8 {p r m s : Nat} (hr : r < 256) (hs : s < 256) : (256 * p + r) &&& (256 * m + s) = 256 * (p &&& m) + (r &&& s) := by
  apply Nat.eq_of_testBit_eq
  intro j
  have hrs : r &&& s < 2 ^ 8 := Nat.lt_of_le_of_lt Nat.and_le_left hr
  rw [Nat.testBit_and, Nat.testBit_two_pow_mul_add (i := 8) p hr, Nat.testBit_two_pow_mul_add (i := 8) m hs, Nat.testBit_two_pow_mul_add (i := 8) (p &&& m) hrs]
  split <;> rw [Nat.testBit_and]
theorem kx_and0 {r m s : Nat} (hr : r < 256) (hs : s < 256) : r &&& (256 * m + s) = r &&& s := by
  have := kx_and8 (p := 0) (m := m) hr hs
  rw [Nat.mul_zero, Nat.zero_add, Nat.zero_and, Nat.mul_zero, Nat.zero_add] at this
  exact this
/-- the bits of a byte -/
def kx_pb (a : Nat) : Nat := a % 2 + a / 2 % 2 + a / 4 % 2 + a / 8 % 2 + a / 16 % 2 + a / 32 % 2 + a / 64 % 2 + a / 128 % 2
def kx_c (a : Nat) : Nat := a - ((a / 2) &&& 85)
def kx_d (a : Nat) : Nat := (kx_c a &&& 51) + ((kx_c a / 4) &&& 51)
theorem kx_b1 : ∀ a, a < 256 → ∀ b, b < 2 → (a / 2 + 128 * b) &&& 85 = (a / 2) &&& 85 := by decide +kernel
theorem kx_b2 : ∀ a, a < 256 → ((a / 2) &&& 85) ≤ a := by decide +kernel
theorem kx_b3 : ∀ a, a < 256 → ∀ b, b < 4 → (a / 4 + 64 * b) &&& 51 = (a / 4) &&& 51 := by decide +kernel
theorem kx_b4 : ∀ a, a < 256 → kx_d a ≤ 68 ∧ kx_d a % 16 ≤ 4 ∧ kx_d a / 16 ≤ 4 ∧ kx_d a % 16 + kx_d a / 16 = kx_pb a := by decide +kernel
theorem kx_b5 : ∀ a, a < 16 → ∀ b, b < 16 → (16 * b + a) &&& 15 = a := by decide +kernel
theorem kx_pop {a0 a1 a2 : Nat} (h0 : a0 < 256) (h1 : a1 < 256) (h2 : a2 < 32) : ∃ x1 x2 x3 : Nat,
    x1 = (a0 + 256 * a1 + 65536 * a2) - (((a0 + 256 * a1 + 65536 * a2) >>> 1) &&& 1431655765) ∧ (((a0 + 256 * a1 + 65536 * a2) >>> 1) &&& 1431655765) ≤ a0 + 256 * a1 + 65536 * a2 ∧ x1 < 16777216 ∧
    x2 = (x1 &&& 858993459) + ((x1 >>> 2) &&& 858993459) ∧ x2 < 16777216 ∧ x3 = (x2 + (x2 >>> 4)) &&& 252645135 ∧ x3 < 16777216 ∧
    x3 + (x3 >>> 8) < 16777216 ∧ (x3 + (x3 >>> 8)) + ((x3 + (x3 >>> 8)) >>> 16) < 16777216 ∧ ((x3 + (x3 >>> 8)) + ((x3 + (x3 >>> 8)) >>> 16)) &&& 63 = kx_pb a0 + kx_pb a1 + kx_pb a2 := by
  have u : ((a0 + 256 * a1 + 65536 * a2) >>> 1) &&& 1431655765 = ((a0 / 2) &&& 85) + 256 * ((a1 / 2) &&& 85) + 65536 * ((a2 / 2) &&& 85) := by
    rw [Nat.shiftRight_eq_div_pow, show (a0 + 256 * a1 + 65536 * a2) / 2 ^ 1 = 256 * (256 * (a2 / 2) + (a1 / 2 + 128 * (a2 % 2))) + (a0 / 2 + 128 * (a1 % 2)) by omega, show 1431655765 = 256 * (256 * (256 * 85 + 85) + 85) + 85 from rfl, kx_and8 (by omega) (by decide), kx_and8 (by omega) (by decide), kx_b1 a0 h0 (a1 % 2) (by omega), kx_b1 a1 h1 (a2 % 2) (by omega),
      kx_and0 (by omega) (by decide)]
    omega
  have k0 := kx_b2 a0 h0
  have k1 := kx_b2 a1 h1
  have k2 := kx_b2 a2 (by omega)
  have ex1 : (a0 + 256 * a1 + 65536 * a2) - (((a0 + 256 * a1 + 65536 * a2) >>> 1) &&& 1431655765) = 256 * (256 * kx_c a2 + kx_c a1) + kx_c a0 := by
    rw [u]; unfold kx_c; omega
  have c0 : kx_c a0 < 256 := by unfold kx_c; omega
  have c1 : kx_c a1 < 256 := by unfold kx_c; omega
  have c2 : kx_c a2 < 256 := by unfold kx_c; omega
  have d0 := kx_b4 a0 h0
  have d1 := kx_b4 a1 h1
  have d2 := kx_b4 a2 (by omega)
  have ex2 : ((256 * (256 * kx_c a2 + kx_c a1) + kx_c a0) &&& 858993459) + (((256 * (256 * kx_c a2 + kx_c a1) + kx_c a0) >>> 2) &&& 858993459) = 256 * (256 * kx_d a2 + kx_d a1) + kx_d a0 := by
    have e1 : (256 * (256 * kx_c a2 + kx_c a1) + kx_c a0) &&& 858993459 = 256 * (256 * (kx_c a2 &&& 51) + (kx_c a1 &&& 51)) + (kx_c a0 &&& 51) := by
      rw [show 858993459 = 256 * (256 * (256 * 51 + 51) + 51) + 51 from rfl, kx_and8 c0 (by decide), kx_and8 c1 (by decide), kx_and0 c2 (by decide)]
    have e2 : ((256 * (256 * kx_c a2 + kx_c a1) + kx_c a0) >>> 2) &&& 858993459 = 256 * (256 * ((kx_c a2 / 4) &&& 51) + ((kx_c a1 / 4) &&& 51)) + ((kx_c a0 / 4) &&& 51) := by
      rw [Nat.shiftRight_eq_div_pow, show (256 * (256 * kx_c a2 + kx_c a1) + kx_c a0) / 2 ^ 2 = 256 * (256 * (kx_c a2 / 4) + (kx_c a1 / 4 + 64 * (kx_c a2 % 4))) + (kx_c a0 / 4 + 64 * (kx_c a1 % 4)) by omega, show 858993459 = 256 * (256 * (256 * 51 + 51) + 51) + 51 from rfl, kx_and8 (by omega) (by decide), kx_and8 (by omega) (by decide), kx_b3 _ c0 _ (by omega), kx_b3 _ c1 _ (by omega),
        kx_and0 (by omega) (by decide)]
    rw [e1, e2]; unfold kx_d; omega
  obtain ⟨D0, hD0⟩ : ∃ z, z = kx_d a0 := ⟨_, rfl⟩
  obtain ⟨D1, hD1⟩ : ∃ z, z = kx_d a1 := ⟨_, rfl⟩
  obtain ⟨D2, hD2⟩ : ∃ z, z = kx_d a2 := ⟨_, rfl⟩
  rw [← hD0] at d0
  rw [← hD1] at d1
  rw [← hD2] at d2
  rw [← hD0, ← hD1, ← hD2] at ex2
  have ex3 : ((256 * (256 * D2 + D1) + D0) + ((256 * (256 * D2 + D1) + D0) >>> 4)) &&& 252645135 = 256 * (256 * (D2 % 16 + D2 / 16) + (D1 % 16 + D1 / 16)) + (D0 % 16 + D0 / 16) := by
    rw [Nat.shiftRight_eq_div_pow, show (256 * (256 * D2 + D1) + D0) + (256 * (256 * D2 + D1) + D0) / 2 ^ 4 = 256 * (256 * (256 * 0 + (16 * (D2 / 16) + (D2 % 16 + D2 / 16))) + (16 * (D1 / 16 + D2 % 16) + (D1 % 16 + D1 / 16))) + (16 * (D0 / 16 + D1 % 16) + (D0 % 16 + D0 / 16)) by omega,
      show 252645135 = 256 * (256 * (256 * 15 + 15) + 15) + 15 from rfl, kx_and8 (by omega) (by decide), kx_and8 (by omega) (by decide), kx_and8 (by omega) (by decide), kx_b5 _ (by omega) _ (by omega), kx_b5 _ (by omega) _ (by omega), kx_b5 _ (by omega) _ (by omega), Nat.zero_and]
    omega
  refine ⟨256 * (256 * kx_c a2 + kx_c a1) + kx_c a0, 256 * (256 * D2 + D1) + D0, 256 * (256 * (D2 % 16 + D2 / 16) + (D1 % 16 + D1 / 16)) + (D0 % 16 + D0 / 16), ex1.symm, by rw [u]; omega, by omega, ex2.symm, by omega, ex3.symm, by omega, ?_, ?_, ?_⟩
  all_goals
    obtain ⟨E0, hE0⟩ : ∃ z, z = D0 % 16 + D0 / 16 := ⟨_, rfl⟩
    obtain ⟨E1, hE1⟩ : ∃ z, z = D1 % 16 + D1 / 16 := ⟨_, rfl⟩
    obtain ⟨E2, hE2⟩ : ∃ z, z = D2 % 16 + D2 / 16 := ⟨_, rfl⟩
    have g0 := d0.2.2.2
    have g1 := d1.2.2.2
    have g2 := d2.2.2.2
    have m0 : E0 ≤ 8 := by omega
    have m1 : E1 ≤ 8 := by omega
    have m2 : E2 ≤ 8 := by omega
    rw [← hE0] at g0
    rw [← hE1] at g1
    rw [← hE2] at g2
    rw [← hE0, ← hE1, ← hE2]
    clear hE0 hE1 hE2 d0 d1 d2 ex1 ex2 ex3 u k0 k1 k2 c0 c1 c2 hD0 hD1 hD2
    have y1 : (256 * (256 * E2 + E1) + E0) >>> 8 = 256 * E2 + E1 := by rw [Nat.shiftRight_eq_div_pow]; omega
    rw [y1]
    have y2 : (256 * (256 * E2 + E1) + E0 + (256 * E2 + E1)) >>> 16 = E2 := by rw [Nat.shiftRight_eq_div_pow]; omega
    try rw [y2]
  · omega
  · omega
  · rw [show (63 : Nat) = 2 ^ 6 - 1 from rfl, Nat.and_two_pow_sub_one_eq_mod]
    omega
/-- how many bits of a are set below 21 -/
def kx_n (a : Nat) : Int := ka_sum (fun q => if a.testBit q = true then 1 else 0) 21
theorem kx_e0 (a : Nat) : a / 2 ^ 0 % 2 = a % 256 / 1 % 2 := by omega
theorem kx_e1 (a : Nat) : a / 2 ^ 1 % 2 = a % 256 / 2 % 2 := by omega
theorem kx_e2 (a : Nat) : a / 2 ^ 2 % 2 = a % 256 / 4 % 2 := by omega
theorem kx_e3 (a : Nat) : a / 2 ^ 3 % 2 = a % 256 / 8 % 2 := by omega
theorem kx_e4 (a : Nat) : a / 2 ^ 4 % 2 = a % 256 / 16 % 2 := by omega
theorem kx_e5 (a : Nat) : a / 2 ^ 5 % 2 = a % 256 / 32 % 2 := by omega
theorem kx_e6 (a : Nat) : a / 2 ^ 6 % 2 = a % 256 / 64 % 2 := by omega
theorem kx_e7 (a : Nat) : a / 2 ^ 7 % 2 = a % 256 / 128 % 2 := by omega
theorem kx_e8 (a : Nat) : a / 2 ^ 8 % 2 = a / 256 % 256 / 1 % 2 := by omega
theorem kx_e9 (a : Nat) : a / 2 ^ 9 % 2 = a / 256 % 256 / 2 % 2 := by omega
theorem kx_e10 (a : Nat) : a / 2 ^ 10 % 2 = a / 256 % 256 / 4 % 2 := by omega
theorem kx_e11 (a : Nat) : a / 2 ^ 11 % 2 = a / 256 % 256 / 8 % 2 := by omega
theorem kx_e12 (a : Nat) : a / 2 ^ 12 % 2 = a / 256 % 256 / 16 % 2 := by omega
theorem kx_e13 (a : Nat) : a / 2 ^ 13 % 2 = a / 256 % 256 / 32 % 2 := by omega
theorem kx_e14 (a : Nat) : a / 2 ^ 14 % 2 = a / 256 % 256 / 64 % 2 := by omega
theorem kx_e15 (a : Nat) : a / 2 ^ 15 % 2 = a / 256 % 256 / 128 % 2 := by omega
theorem kx_e16 (a : Nat) : a / 2 ^ 16 % 2 = a / 65536 / 1 % 2 := by omega
theorem kx_e17 (a : Nat) : a / 2 ^ 17 % 2 = a / 65536 / 2 % 2 := by omega
theorem kx_e18 (a : Nat) : a / 2 ^ 18 % 2 = a / 65536 / 4 % 2 := by omega
theorem kx_e19 (a : Nat) : a / 2 ^ 19 % 2 = a / 65536 / 8 % 2 := by omega
theorem kx_e20 (a : Nat) : a / 2 ^ 20 % 2 = a / 65536 / 16 % 2 := by omega
theorem kx_z5 (a : Nat) (h : a < 2097152) : a / 65536 / 32 % 2 = 0 := by omega
theorem kx_z6 (a : Nat) (h : a < 2097152) : a / 65536 / 64 % 2 = 0 := by omega
theorem kx_z7 (a : Nat) (h : a < 2097152) : a / 65536 / 128 % 2 = 0 := by omega
theorem kx_n_eq {a : Nat} (h : a < 2097152) : kx_n a = ((kx_pb (a % 256) + kx_pb (a / 256 % 256) + kx_pb (a / 65536) : Nat) : Int) := by
  have key : ∀ q, (if a.testBit q = true then (1 : Int) else 0) = ((a / 2 ^ q % 2 : Nat) : Int) := by
    intro q
    rw [Nat.testBit_eq_decide_div_mod_eq]
    by_cases z : a / 2 ^ q % 2 = 1
    · rw [if_pos (by simp [z]), z]; rfl
    · rw [if_neg (by simp [z])]; omega
  unfold kx_n
  have e0 := kx_e0 a
  have e1 := kx_e1 a
  have e2 := kx_e2 a
  have e3 := kx_e3 a
  have e4 := kx_e4 a
  have e5 := kx_e5 a
  have e6 := kx_e6 a
  have e7 := kx_e7 a
  have e8 := kx_e8 a
  have e9 := kx_e9 a
  have e10 := kx_e10 a
  have e11 := kx_e11 a
  have e12 := kx_e12 a
  have e13 := kx_e13 a
  have e14 := kx_e14 a
  have e15 := kx_e15 a
  have e16 := kx_e16 a
  have e17 := kx_e17 a
  have e18 := kx_e18 a
  have e19 := kx_e19 a
  have e20 := kx_e20 a
  have z5 := kx_z5 a h
  have z6 := kx_z6 a h
  have z7 := kx_z7 a h
  simp only [ka_sum, key, e0, e1, e2, e3, e4, e5, e6, e7, e8, e9, e10, e11, e12, e13, e14, e15, e16, e17, e18, e19, e20]
  unfold kx_pb
  rw [z5, z6, z7]
  rw [show a % 256 % 2 = a % 256 / 1 % 2 by rw [Nat.div_one]]
  generalize a % 256 / 1 % 2 = p0
  generalize a % 256 / 2 % 2 = p1
  generalize a % 256 / 4 % 2 = p2
  generalize a % 256 / 8 % 2 = p3
  generalize a % 256 / 16 % 2 = p4
  generalize a % 256 / 32 % 2 = p5
  generalize a % 256 / 64 % 2 = p6
  generalize a % 256 / 128 % 2 = p7
  rw [show a / 256 % 256 % 2 = a / 256 % 256 / 1 % 2 by rw [Nat.div_one]]
  generalize a / 256 % 256 / 1 % 2 = q0
  generalize a / 256 % 256 / 2 % 2 = q1
  generalize a / 256 % 256 / 4 % 2 = q2
  generalize a / 256 % 256 / 8 % 2 = q3
  generalize a / 256 % 256 / 16 % 2 = q4
  generalize a / 256 % 256 / 32 % 2 = q5
  generalize a / 256 % 256 / 64 % 2 = q6
  generalize a / 256 % 256 / 128 % 2 = q7
  rw [show a / 65536 % 2 = a / 65536 / 1 % 2 by rw [Nat.div_one]]
  generalize a / 65536 / 1 % 2 = r0
  generalize a / 65536 / 2 % 2 = r1
  generalize a / 65536 / 4 % 2 = r2
  generalize a / 65536 / 8 % 2 = r3
  generalize a / 65536 / 16 % 2 = r4
  clear key e0 e1 e2 e3 e4 e5 e6 e7 e8 e9 e10 e11 e12 e13 e14 e15 e16 e17 e18 e19 e20 z5 z6 z7
  omega
section
variable {X : mm_X} {M : mm_M} {a : Nat}
theorem c_J6_bitCount_0f7a4 (h : a < 2097152) : mm_Fn X Y_J6_bitCount_0f7a4 243 [(0, (a : Int))] M (0, kx_n a) M := by
  rw [kx_n_eq h]
  obtain ⟨x1, x2, x3, e1, e1b, b1, e2, b2, e3, b3, b4, b5, e6⟩ := kx_pop (a0 := a % 256) (a1 := a / 256 % 256) (a2 := a / 65536) (by omega) (by omega) (by omega)
  rw [show a % 256 + 256 * (a / 256 % 256) + 65536 * (a / 65536) = a by omega] at e1 e1b
  have s1 := kx_ush (k := a) (j := 1) (by omega) (by decide)
  have s2 := kx_ush (k := x1) (j := 2) (by omega) (by decide)
  have s3 := kx_ush (k := x2) (j := 4) (by omega) (by decide)
  have s4 := kx_ush (k := x3) (j := 8) (by omega) (by decide)
  have s5 := kx_ush (k := x3 + (x3 >>> 8)) (j := 16) (by omega) (by decide)
  have l1 : a >>> 1 ≤ a := by rw [Nat.shiftRight_eq_div_pow]; exact Nat.div_le_self _ _
  have l2 : x1 >>> 2 ≤ x1 := by rw [Nat.shiftRight_eq_div_pow]; exact Nat.div_le_self _ _
  have l3 : x2 >>> 4 ≤ x2 := by rw [Nat.shiftRight_eq_div_pow]; exact Nat.div_le_self _ _
  have a1 := kx_and (a := a >>> 1) (b := 1431655765) (by omega)
  have a2 := kx_and (a := x1) (b := 858993459) (by omega)
  have a3 := kx_and (a := x1 >>> 2) (b := 858993459) (by omega)
  have a4 := kx_and (a := x2 + (x2 >>> 4)) (b := 252645135) (by omega)
  have a5 := kx_and (a := x3 + (x3 >>> 8) + ((x3 + (x3 >>> 8)) >>> 16)) (b := 63) (by omega)
  have f1 : (a : Int) - (((a >>> 1) &&& 1431655765 : Nat) : Int) = (x1 : Int) := by omega
  have f2 : ((x1 &&& 858993459 : Nat) : Int) + (((x1 >>> 2) &&& 858993459 : Nat) : Int) = (x2 : Int) := by omega
  have f3 : (x2 : Int) + ((x2 >>> 4 : Nat) : Int) = ((x2 + (x2 >>> 4) : Nat) : Int) := by omega
  have f4 : (x3 : Int) + ((x3 >>> 8 : Nat) : Int) = ((x3 + (x3 >>> 8) : Nat) : Int) := by omega
  have f5 : ((x3 + (x3 >>> 8) : Nat) : Int) + (((x3 + (x3 >>> 8)) >>> 16 : Nat) : Int) = ((x3 + (x3 >>> 8) + ((x3 + (x3 >>> 8)) >>> 16) : Nat) : Int) := by omega
  refine mm_startF (ls := [(0, (a : Int))]) rfl ?_
  refine mm_iload_n dJ6_bitCount_0f7a4_0 rfl rfl ?_
  refine mm_iload_n dJ6_bitCount_0f7a4_1 rfl rfl ?_
  refine mm_iconst dJ6_bitCount_0f7a4_2 rfl ?_
  refine mm_iushr dJ6_bitCount_0f7a4_3 rfl ?_
  rw [show (1 : Int) = ((1 : Nat) : Int) from rfl, s1]
  refine mm_ldcw dJ6_bitCount_0f7a4_4 rfl kc_J6_265 ?_
  refine mm_iand dJ6_bitCount_0f7a4_7 rfl ?_
  rw [show (1431655765 : Int) = ((1431655765 : Nat) : Int) from rfl, a1]
  refine mm_isub dJ6_bitCount_0f7a4_8 rfl ?_
  rw [f1]
  refine mm_istore_n dJ6_bitCount_0f7a4_9 rfl (Nat.le_of_ble_eq_true rfl) rfl ?_
  refine mm_iload_n dJ6_bitCount_0f7a4_10 rfl rfl ?_
  refine mm_ldcw dJ6_bitCount_0f7a4_11 rfl kc_J6_266 ?_
  refine mm_iand dJ6_bitCount_0f7a4_14 rfl ?_
  rw [show (858993459 : Int) = ((858993459 : Nat) : Int) from rfl, a2]
  refine mm_iload_n dJ6_bitCount_0f7a4_15 rfl rfl ?_
  refine mm_iconst dJ6_bitCount_0f7a4_16 rfl ?_
  refine mm_iushr dJ6_bitCount_0f7a4_17 rfl ?_
  rw [show (2 : Int) = ((2 : Nat) : Int) from rfl, s2]
  refine mm_ldcw dJ6_bitCount_0f7a4_18 rfl kc_J6_266 ?_
  refine mm_iand dJ6_bitCount_0f7a4_21 rfl ?_
  rw [show (858993459 : Int) = ((858993459 : Nat) : Int) from rfl, a3]
  refine mm_iadd dJ6_bitCount_0f7a4_22 rfl ?_
  rw [f2]
  refine mm_istore_n dJ6_bitCount_0f7a4_23 rfl (Nat.le_of_ble_eq_true rfl) rfl ?_
  refine mm_iload_n dJ6_bitCount_0f7a4_24 rfl rfl ?_
  refine mm_iload_n dJ6_bitCount_0f7a4_25 rfl rfl ?_
  refine mm_iconst dJ6_bitCount_0f7a4_26 rfl ?_
  refine mm_iushr dJ6_bitCount_0f7a4_27 rfl ?_
  rw [show (4 : Int) = ((4 : Nat) : Int) from rfl, s3]
  refine mm_iadd dJ6_bitCount_0f7a4_28 rfl ?_
  rw [f3]
  refine mm_ldcw dJ6_bitCount_0f7a4_29 rfl kc_J6_267 ?_
  refine mm_iand dJ6_bitCount_0f7a4_32 rfl ?_
  rw [show (252645135 : Int) = ((252645135 : Nat) : Int) from rfl, a4, ← e3]
  refine mm_istore_n dJ6_bitCount_0f7a4_33 rfl (Nat.le_of_ble_eq_true rfl) rfl ?_
  refine mm_iload_n dJ6_bitCount_0f7a4_34 rfl rfl ?_
  refine mm_iload_n dJ6_bitCount_0f7a4_35 rfl rfl ?_
  refine mm_bipush dJ6_bitCount_0f7a4_36 rfl (by decide) ?_
  refine mm_iushr dJ6_bitCount_0f7a4_38 rfl ?_
  rw [show (8 : Int) = ((8 : Nat) : Int) from rfl, s4]
  refine mm_iadd dJ6_bitCount_0f7a4_39 rfl ?_
  rw [f4]
  refine mm_istore_n dJ6_bitCount_0f7a4_40 rfl (Nat.le_of_ble_eq_true rfl) rfl ?_
  refine mm_iload_n dJ6_bitCount_0f7a4_41 rfl rfl ?_
  refine mm_iload_n dJ6_bitCount_0f7a4_42 rfl rfl ?_
  refine mm_bipush dJ6_bitCount_0f7a4_43 rfl (by decide) ?_
  refine mm_iushr dJ6_bitCount_0f7a4_45 rfl ?_
  rw [show (16 : Int) = ((16 : Nat) : Int) from rfl, s5]
  refine mm_iadd dJ6_bitCount_0f7a4_46 rfl ?_
  rw [f5]
  refine mm_istore_n dJ6_bitCount_0f7a4_47 rfl (Nat.le_of_ble_eq_true rfl) rfl ?_
  refine mm_iload_n dJ6_bitCount_0f7a4_48 rfl rfl ?_
  refine mm_bipush dJ6_bitCount_0f7a4_49 rfl (by decide) ?_
  refine mm_iand dJ6_bitCount_0f7a4_51 rfl ?_
  rw [show (63 : Int) = ((63 : Nat) : Int) from rfl, a5, e6]
  refine mm_iret dJ6_bitCount_0f7a4_52 rfl rfl ?_
  exact mm_fin rfl rfl
end

