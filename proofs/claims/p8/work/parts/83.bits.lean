/-! ===== bits of small numbers ===== -/
theorem kx_nI (a : Nat) : mm_i (a : Int) = nI a := by
  apply Int32.toBitVec_inj.1
  show BitVec.ofInt 32 (a : Int) = BitVec.ofNat 32 a
  exact BitVec.ofInt_natCast 32 a
theorem kx_to {n : Nat} (h : n < 2147483648) : (nI n).toInt = n := by rw [← kx_nI]; exact mm_i_to ⟨by omega, by omega⟩
theorem kx_andI (a b : Nat) : nI a &&& nI b = nI (a &&& b) := by
  apply Int32.toBitVec_inj.1
  show BitVec.ofNat 32 a &&& BitVec.ofNat 32 b = BitVec.ofNat 32 (a &&& b)
  apply BitVec.eq_of_getLsbD_eq
  intro i hi
  simp [hi]
theorem kx_orI (a b : Nat) : nI a ||| nI b = nI (a ||| b) := by
  apply Int32.toBitVec_inj.1
  show BitVec.ofNat 32 a ||| BitVec.ofNat 32 b = BitVec.ofNat 32 (a ||| b)
  apply BitVec.eq_of_getLsbD_eq
  intro i hi
  simp [hi]
theorem kx_and {a b : Nat} (h : a < 2147483648) : (mm_i (a : Int) &&& mm_i (b : Int)).toInt = ((a &&& b : Nat) : Int) := by
  have : a &&& b ≤ a := Nat.and_le_left
  rw [kx_nI, kx_nI, kx_andI, kx_to (by omega)]
theorem kx_or {a b : Nat} (ha : a < 2147483648) (hb : b < 2147483648) : (mm_i (a : Int) ||| mm_i (b : Int)).toInt = ((a ||| b : Nat) : Int) := by
  have : a ||| b < 2 ^ 31 := Nat.or_lt_two_pow ha hb
  rw [kx_nI, kx_nI, kx_orI, kx_to (by omega)]
theorem kx_shl : ∀ k : Nat, k < 31 → (mm_i 1 <<< (mm_i (k : Int) &&& 31)).toInt = ((2 ^ k : Nat) : Int) := by
  intro k hk
  rw [kx_nI]
  revert k
  decide +kernel
theorem kx_sl : ∀ n, n < 32 → ((nI n &&& 31).toBitVec.smod 32).toNat = n := by decide +kernel
theorem kx_shr {a k : Nat} (h : a < 2147483648) (hk : k < 32) : (mm_i (a : Int) >>> (mm_i (k : Int) &&& 31)).toInt = ((a >>> k : Nat) : Int) := by
  have hs : a >>> k ≤ a := by
    rw [Nat.shiftRight_eq_div_pow]
    exact Nat.div_le_self _ _
  have e : nI a >>> (nI k &&& 31) = nI (a >>> k) := by
    apply Int32.toBitVec_inj.1
    rw [Int32.toBitVec_shiftRight]
    show (BitVec.ofNat 32 a).sshiftRight ((nI k &&& 31).toBitVec.smod 32).toNat = BitVec.ofNat 32 (a >>> k)
    rw [kx_sl k hk, BitVec.sshiftRight_eq_of_msb_false]
    · apply BitVec.eq_of_toNat_eq
      rw [BitVec.toNat_ushiftRight, BitVec.toNat_ofNat, BitVec.toNat_ofNat, Nat.mod_eq_of_lt (by omega), Nat.mod_eq_of_lt (by omega)]
    · rw [BitVec.msb_eq_decide]
      simp
      rw [Nat.mod_eq_of_lt (by omega)]
      omega
  rw [kx_nI, kx_nI, e, kx_to (by omega)]
theorem kx_bit {a k : Nat} (h : a < 2147483648) (hk : k < 32) : (mm_i ((mm_i (a : Int) >>> (mm_i (k : Int) &&& 31)).toInt) &&& mm_i 1).toInt = if a.testBit k = true then 1 else 0 := by
  have hs : a >>> k ≤ a := by
    rw [Nat.shiftRight_eq_div_pow]
    exact Nat.div_le_self _ _
  rw [kx_shr h hk, show (1 : Int) = ((1 : Nat) : Int) from rfl, kx_and (by omega), Nat.and_one_is_mod, Nat.testBit_eq_decide_div_mod_eq, Nat.shiftRight_eq_div_pow]
  generalize a / 2 ^ k = z
  by_cases q : z % 2 = 1
  · rw [if_pos (by simp [q])]; omega
  · rw [if_neg (by simp [q])]; omega

