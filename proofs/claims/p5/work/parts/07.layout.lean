/-! 05.layout -/
section
/-- the cells of the world, in the order in which the constructors make them: (0, class), or (1 + kind, length): int, byte, boolean, long, Row -/
def mm_sl : List (Nat × Nat) := [(0, 11), (0, 10), (2, 800), (0, 4), (1, 36), (1, 36), (1, 288), (1, 288), (1, 288), (1, 288), (1, 288), (0, 0), (1, 200), (1, 200), (1, 200), (1, 200), (1, 120), (1, 120), (0, 9), (1, 88), (1, 88), (0, 3), (5, 24), (3, 24), (1, 24), (1, 25), (1, 25), (1, 24), (0, 6), (1, 180), (1, 180), (1, 289), (1, 4320), (1, 4320), (1, 4320), (1, 4320), (4, 288), (1, 288), (3, 288), (1, 288), (1, 288), (1, 288), (0, 8), (1, 288), (1, 288), (0, 8), (1, 288), (1, 288), (0, 8), (1, 288), (1, 288), (0, 8), (1, 288), (1, 288), (0, 8), (1, 288), (1, 288), (0, 8), (1, 288), (1, 288), (0, 8), (1, 288), (1, 288), (0, 8), (1, 288), (1, 288), (0, 8), (1, 288), (1, 288), (0, 8), (1, 288), (1, 288), (0, 8), (1, 288), (1, 288), (0, 8), (1, 288), (1, 288), (0, 8), (1, 288), (1, 288), (0, 8), (1, 288), (1, 288), (0, 8), (1, 288), (1, 288), (0, 8), (1, 288), (1, 288), (0, 8), (1, 288), (1, 288), (0, 8), (1, 288), (1, 288), (0, 8), (1, 288), (1, 288), (0, 8), (1, 288), (1, 288), (0, 8), (1, 288), (1, 288), (0, 8), (1, 288), (1, 288), (0, 8), (1, 288), (1, 288), (0, 8), (1, 288), (1, 288), (0, 8), (1, 288), (1, 288), (0, 8), (1, 100), (1, 100), (5, 6), (0, 8), (1, 100), (1, 100), (0, 8), (1, 100), (1, 100), (0, 8), (1, 100), (1, 100), (0, 8), (1, 100), (1, 100), (0, 8), (1, 100), (1, 100), (0, 8), (1, 100), (1, 100), (0, 2), (1, 500), (1, 288), (1, 288), (3, 288), (0, 1), (5, 8), (1, 8), (1, 8), (0, 8), (1, 100), (1, 100), (0, 8), (1, 100), (1, 100), (0, 8), (1, 100), (1, 100), (0, 8), (1, 100), (1, 100), (0, 8), (1, 100), (1, 100), (0, 8), (1, 100), (1, 100), (0, 8), (1, 100), (1, 100), (0, 8), (1, 100), (1, 100), (0, 5), (1, 24), (0, 7), (1, 30), (1, 30), (1, 30), (1, 30), (1, 50), (1, 50), (1, 20), (1, 20), (0, 13), (0, 12), (2, 800), (1, 10), (1, 10), (1, 3), (1, 3), (1, 6), (1, 6), (3, 12), (1, 48), (1, 48), (1, 48), (1, 16), (1, 16), (1, 200), (1, 200), (1, 200), (1, 200), (1, 200), (1, 120), (1, 120), (3, 4320), (1, 4320), (4, 83232), (4, 288), (1, 4320), (1, 288), (1, 288), (1, 288), (1, 288), (1, 288), (1, 100), (1, 14), (1, 14), (1, 14), (1, 1400), (1, 500), (1, 500), (4, 24), (1, 24), (4, 25), (4, 25), (1, 100), (1, 100), (1, 8), (3, 64), (1, 10), (1, 10), (1, 10), (1, 30), (1, 30), (1, 30), (1, 30), (1, 30), (1, 30), (1, 20), (1, 20), (1, 20), (1, 20)]
def mm_sh (c : Nat) : Nat × Nat := mm_sl.getD c (0, 99)
/-- how many fields an object of a class has -/
def mm_nl : List Nat := [9, 6, 12, 10, 8, 2, 18, 13, 10, 4, 8, 15, 6, 110]
def mm_nf (ci : Nat) : Nat := mm_nl.getD ci 0
/-- the kinds of the fields: 0 int, 1 long, 2 reference -/
def mm_kl : List (List Nat) := [[2, 0, 0, 2, 2, 2, 2, 2, 2], [2, 0, 0, 2, 2, 2], [2, 2, 2, 0, 0, 0, 0, 0, 2, 2, 2, 2], [2, 2, 2, 2, 2, 2, 2, 2, 0, 0], [2, 2, 0, 2, 2, 2, 2, 2], [0, 2], [2, 2, 2, 2, 2, 2, 2, 2, 2, 2, 2, 2, 2, 2, 2, 0, 1, 1], [2, 2, 0, 0, 0, 2, 2, 2, 2, 2, 2, 2, 2], [2, 2, 0, 0, 0, 0, 0, 0, 0, 0], [2, 0, 2, 2], [2, 0, 0, 0, 0, 0, 0, 0], [2, 2, 2, 2, 2, 2, 2, 2, 2, 2, 2, 2, 0, 0, 0], [2, 2, 2, 2, 2, 0], [2, 2, 0, 0, 0, 0, 0, 0, 0, 0, 2, 2, 2, 2, 2, 2, 0, 0, 0, 2, 0, 0, 2, 2, 2, 2, 2, 0, 0, 2, 2, 2, 2, 2, 2, 2, 2, 2, 2, 1, 1, 2, 2, 2, 2, 2, 0, 0, 0, 2, 0, 0, 0, 2, 0, 0, 0, 0, 0, 0, 0, 0, 0, 2, 2, 2, 2, 2, 0, 0, 0, 0, 0, 2, 2, 0, 0, 0, 0, 0, 2, 2, 2, 2, 0, 0, 2, 2, 0, 0, 2, 2, 0, 2, 2, 2, 0, 0, 0, 0, 2, 2, 2, 2, 2, 2, 2, 2, 2, 2]]
def mm_fk (ci i : Nat) : Nat := (mm_kl.getD ci []).getD i 0
def mm_zl : List Nat := [0, 15, 23, 823, 831, 867, 903, 1191, 1479, 1767, 2055, 2343, 2352, 2552, 2752, 2952, 3152, 3272, 3392, 3396, 3484, 3572, 3582, 3606, 3630, 3654, 3679, 3704, 3728, 3746, 3926, 4106, 4395, 8715, 13035, 17355, 21675, 21963, 22251, 22539, 22827, 23115, 23403, 23413, 23701, 23989, 23999, 24287, 24575, 24585, 24873, 25161, 25171, 25459, 25747, 25757, 26045, 26333, 26343, 26631, 26919, 26929, 27217, 27505, 27515, 27803, 28091, 28101, 28389, 28677, 28687, 28975, 29263, 29273, 29561, 29849, 29859, 30147, 30435, 30445, 30733, 31021, 31031, 31319, 31607, 31617, 31905, 32193, 32203, 32491, 32779, 32789, 33077, 33365, 33375, 33663, 33951, 33961, 34249, 34537, 34547, 34835, 35123, 35133, 35421, 35709, 35719, 36007, 36295, 36305, 36593, 36881, 36891, 37179, 37467, 37477, 37765, 38053, 38063, 38163, 38263, 38269, 38279, 38379, 38479, 38489, 38589, 38689, 38699, 38799, 38899, 38909, 39009, 39109, 39119, 39219, 39319, 39329, 39429, 39529, 39541, 40041, 40329, 40617, 40905, 40911, 40919, 40927, 40935, 40945, 41045, 41145, 41155, 41255, 41355, 41365, 41465, 41565, 41575, 41675, 41775, 41785, 41885, 41985, 41995, 42095, 42195, 42205, 42305, 42405, 42415, 42515, 42615, 42617, 42641, 42654, 42684, 42714, 42744, 42774, 42824, 42874, 42894, 42914, 43024, 43030, 43830, 43840, 43850, 43853, 43856, 43862, 43868, 43880, 43928, 43976, 44024, 44040, 44056, 44256, 44456, 44656, 44856, 45056, 45176, 45296, 49616, 53936, 137168, 137456, 141776, 142064, 142352, 142640, 142928, 143216, 143316, 143330, 143344, 143358, 144758, 145258, 145758, 145782, 145806, 145831, 145856, 145956, 146056, 146064, 146128, 146138, 146148, 146158, 146188, 146218, 146248, 146278, 146308, 146338, 146358, 146378, 146398, 146418]
/-- how many slots the first n cells have -/
def mm_sz (n : Nat) : Nat := mm_zl.getD n 0
/-- the references as they stand once both objects are made: c + 1 for the cell c -/
def mm_rl : List (Nat × Nat × Nat) := [(0, 0, 2), (0, 1, 4), (0, 2, 12), (0, 3, 19), (0, 4, 22), (0, 5, 115), (0, 6, 118), (0, 7, 121), (0, 8, 140), (0, 9, 145), (0, 10, 173), (0, 11, 175), (1, 0, 3), (3, 0, 5), (3, 1, 6), (3, 3, 7), (3, 4, 8), (3, 5, 9), (3, 6, 10), (3, 7, 11), (11, 0, 4), (11, 3, 13), (11, 4, 14), (11, 5, 15), (11, 6, 16), (11, 7, 17), (11, 8, 18), (18, 0, 4), (18, 2, 20), (18, 3, 21), (21, 0, 12), (21, 1, 29), (21, 2, 23), (21, 3, 24), (21, 4, 25), (21, 5, 26), (21, 6, 27), (21, 7, 28), (22, 0, 43), (22, 1, 46), (22, 2, 49), (22, 3, 52), (22, 4, 55), (22, 5, 58), (22, 6, 61), (22, 7, 64), (22, 8, 67), (22, 9, 70), (22, 10, 73), (22, 11, 76), (22, 12, 79), (22, 13, 82), (22, 14, 85), (22, 15, 88), (22, 16, 91), (22, 17, 94), (22, 18, 97), (22, 19, 100), (22, 20, 103), (22, 21, 106), (22, 22, 109), (22, 23, 112), (28, 0, 4), (28, 1, 12), (28, 2, 30), (28, 3, 31), (28, 4, 32), (28, 5, 33), (28, 6, 34), (28, 7, 35), (28, 8, 36), (28, 9, 37), (28, 10, 38), (28, 11, 39), (28, 12, 40), (28, 13, 41), (28, 14, 42), (42, 0, 44), (42, 1, 45), (45, 0, 47), (45, 1, 48), (48, 0, 50), (48, 1, 51), (51, 0, 53), (51, 1, 54), (54, 0, 56), (54, 1, 57), (57, 0, 59), (57, 1, 60), (60, 0, 62), (60, 1, 63), (63, 0, 65), (63, 1, 66), (66, 0, 68), (66, 1, 69), (69, 0, 71), (69, 1, 72), (72, 0, 74), (72, 1, 75), (75, 0, 77), (75, 1, 78), (78, 0, 80), (78, 1, 81), (81, 0, 83), (81, 1, 84), (84, 0, 86), (84, 1, 87), (87, 0, 89), (87, 1, 90), (90, 0, 92), (90, 1, 93), (93, 0, 95), (93, 1, 96), (96, 0, 98), (96, 1, 99), (99, 0, 101), (99, 1, 102), (102, 0, 104), (102, 1, 105), (105, 0, 107), (105, 1, 108), (108, 0, 110), (108, 1, 111), (111, 0, 113), (111, 1, 114), (114, 0, 116), (114, 1, 117), (117, 0, 119), (117, 1, 120), (120, 0, 122), (120, 1, 125), (120, 2, 128), (120, 3, 131), (120, 4, 134), (120, 5, 137), (121, 0, 123), (121, 1, 124), (124, 0, 126), (124, 1, 127), (127, 0, 129), (127, 1, 130), (130, 0, 132), (130, 1, 133), (133, 0, 135), (133, 1, 136), (136, 0, 138), (136, 1, 139), (139, 0, 4), (139, 1, 12), (139, 2, 19), (139, 8, 141), (139, 9, 142), (139, 10, 143), (139, 11, 144), (144, 0, 4), (144, 3, 146), (144, 4, 147), (144, 5, 148), (145, 0, 149), (145, 1, 152), (145, 2, 155), (145, 3, 158), (145, 4, 161), (145, 5, 164), (145, 6, 167), (145, 7, 170), (148, 0, 150), (148, 1, 151), (151, 0, 153), (151, 1, 154), (154, 0, 156), (154, 1, 157), (157, 0, 159), (157, 1, 160), (160, 0, 162), (160, 1, 163), (163, 0, 165), (163, 1, 166), (166, 0, 168), (166, 1, 169), (169, 0, 171), (169, 1, 172), (172, 1, 174), (174, 0, 4), (174, 1, 12), (174, 5, 176), (174, 6, 177), (174, 7, 178), (174, 8, 179), (174, 9, 180), (174, 10, 181), (174, 11, 182), (174, 12, 183), (183, 0, 185), (183, 1, 186), (183, 10, 187), (183, 11, 188), (183, 12, 189), (183, 13, 190), (183, 14, 191), (183, 15, 192), (183, 19, 193), (183, 22, 194), (183, 23, 195), (183, 24, 196), (183, 25, 197), (183, 26, 198), (183, 29, 199), (183, 30, 200), (183, 31, 201), (183, 32, 202), (183, 33, 203), (183, 34, 204), (183, 35, 205), (183, 36, 206), (183, 37, 207), (183, 38, 208), (183, 41, 209), (183, 42, 210), (183, 43, 211), (183, 44, 212), (183, 45, 213), (183, 49, 214), (183, 53, 215), (183, 63, 216), (183, 64, 217), (183, 65, 218), (183, 66, 219), (183, 67, 220), (183, 73, 221), (183, 74, 222), (183, 80, 223), (183, 81, 224), (183, 82, 225), (183, 83, 226), (183, 86, 227), (183, 87, 228), (183, 90, 229), (183, 91, 230), (183, 93, 231), (183, 94, 232), (183, 95, 233), (183, 100, 234), (183, 101, 235), (183, 102, 236), (183, 103, 237), (183, 104, 238), (183, 105, 239), (183, 106, 240), (183, 107, 241), (183, 108, 242), (183, 109, 243)]
end
/-! 10.mach -/
section
/-! ===== the small machine: numbers are whole numbers, references are numbers of cells ===== -/
abbrev mm_M : Type := Nat → Nat → Int
/-- a value: (0, x) an int, (1, x) a long, (2, x) a reference (0 null, c + 1 the cell c, below 0 what is only read), (3, 0) nothing, (4, x) thrown, (9, 0) unset -/
abbrev mm_V : Type := Nat × Int
abbrev mm_X : Type := Nat × (Nat → Int)
/-- a method: its name, its code, its locals, what it returns, its frames and words, its handlers -/
abbrev mm_Y : Type := MethodName × ByteArray × Nat × Option FieldType × Nat × Nat × List (Nat × Nat × Nat × Nat)
def mm_i (x : Int) : Int32 := Int32.ofInt x
def mm_l (x : Int) : Int64 := Int64.ofInt x
abbrev mm_R (x : Int) : Prop := -2147483648 ≤ x ∧ x ≤ 2147483647
abbrev mm_RL (x : Int) : Prop := -9223372036854775808 ≤ x ∧ x ≤ 9223372036854775807
theorem mm_i_add (x y : Int) : mm_i x + mm_i y = mm_i (x + y) := (Int32.ofInt_add x y).symm
theorem mm_i_sub (x y : Int) : mm_i x - mm_i y = mm_i (x - y) := (Int32.ofInt_sub x y).symm
theorem mm_i_mul (x y : Int) : mm_i x * mm_i y = mm_i (x * y) := (Int32.ofInt_mul x y).symm
theorem mm_i_neg (x : Int) : -mm_i x = mm_i (-x) := (Int32.ofInt_neg x).symm
theorem mm_l_add (x y : Int) : mm_l x + mm_l y = mm_l (x + y) := (Int64.ofInt_add x y).symm
theorem mm_l_sub (x y : Int) : mm_l x - mm_l y = mm_l (x - y) := (Int64.ofInt_sub x y).symm
theorem mm_l_mul (x y : Int) : mm_l x * mm_l y = mm_l (x * y) := (Int64.ofInt_mul x y).symm
theorem mm_l_neg (x : Int) : -mm_l x = mm_l (-x) := (Int64.ofInt_neg x).symm
theorem mm_i_to {x : Int} (h : mm_R x) : (mm_i x).toInt = x := Int32.toInt_ofInt_of_le (by omega) (by omega)
theorem mm_l_to {x : Int} (h : mm_RL x) : (mm_l x).toInt = x := Int64.toInt_ofInt_of_le (by omega) (by omega)
theorem mm_i_of (v : Int32) : mm_i v.toInt = v := Int32.ofInt_toInt v
theorem mm_i_R (v : Int32) : mm_R v.toInt := ⟨Int32.le_toInt v, by have := Int32.toInt_lt v; omega⟩
theorem mm_l_of (v : Int64) : mm_l v.toInt = v := Int64.ofInt_toInt v
theorem mm_i_inj {x y : Int} (hx : mm_R x) (hy : mm_R y) : mm_i x = mm_i y ↔ x = y := by
  rw [← Int32.toInt_inj, mm_i_to hx, mm_i_to hy]
theorem mm_i_le {x y : Int} (hx : mm_R x) (hy : mm_R y) : mm_i x ≤ mm_i y ↔ x ≤ y := by
  rw [Int32.le_iff_toInt_le, mm_i_to hx, mm_i_to hy]
theorem mm_i_lt {x y : Int} (hx : mm_R x) (hy : mm_R y) : mm_i x < mm_i y ↔ x < y := by
  rw [Int32.lt_iff_toInt_lt, mm_i_to hx, mm_i_to hy]
theorem mm_l_inj {x y : Int} (hx : mm_RL x) (hy : mm_RL y) : mm_l x = mm_l y ↔ x = y := by
  rw [← Int64.toInt_inj, mm_l_to hx, mm_l_to hy]
theorem mm_l_lt {x y : Int} (hx : mm_RL x) (hy : mm_RL y) : mm_l x < mm_l y ↔ x < y := by
  rw [Int64.lt_iff_toInt_lt, mm_l_to hx, mm_l_to hy]
theorem mm_i_0 : mm_i 0 = 0 := rfl
theorem mm_i_clamp {x : Int} (h0 : 0 ≤ x) (h : mm_R x) : (mm_i x).toNatClampNeg = x.toNat := by
  rw [Int32.toNatClampNeg, mm_i_to h]
theorem mm_i_in {x : Int} {n : Nat} (h0 : 0 ≤ x) (h1 : x < n) (hn : n ≤ 2147483647) : ¬ (mm_i x < 0 ∨ n ≤ (mm_i x).toNatClampNeg) := by
  have hR : mm_R x := ⟨by omega, by omega⟩
  rw [mm_i_clamp h0 hR, ← mm_i_0, mm_i_lt hR ⟨by omega, by omega⟩]
  omega
theorem mm_i_div {x y : Int} (hx : mm_R x) (hy : mm_R y) (h0 : y ≠ 0) : mm_i x / mm_i y = mm_i (x.tdiv y) := by
  rw [← Int32.toInt_inj, Int32.toInt_div, mm_i_to hx, mm_i_to hy, mm_i, Int32.toInt_ofInt]
theorem mm_l_div {x y : Int} (hx : mm_RL x) (hy : mm_RL y) (h0 : y ≠ 0) : mm_l x / mm_l y = mm_l (x.tdiv y) := by
  rw [← Int64.toInt_inj, Int64.toInt_div, mm_l_to hx, mm_l_to hy, mm_l, Int64.toInt_ofInt]
theorem mm_i_rem {x y : Int} (hx : mm_R x) (hy : mm_R y) (h0 : y ≠ 0) : mm_i x - mm_i x / mm_i y * mm_i y = mm_i (x.tmod y) := by
  rw [mm_i_div hx hy h0, mm_i_mul, mm_i_sub, Int.tmod_def, Int.mul_comm]
theorem mm_i_i2l {x : Int} (hx : mm_R x) : (mm_i x).toInt64 = mm_l x := by
  rw [← Int64.toInt_inj, Int32.toInt_toInt64, mm_i_to hx, mm_l_to (by omega)]
theorem mm_i_l2i (x : Int) : (mm_l x).toInt32 = mm_i x := by
  rw [← Int32.toInt_inj, Int64.toInt_toInt32, mm_l, mm_i, Int64.toInt_ofInt, Int32.toInt_ofInt]
  exact Int.bmod_bmod_of_dvd (by decide)
def mm_ad (bs : Nat) (ro : Nat → Nat) (x : Int) : Nat := if 0 < x then bs + (x.toNat - 1) else ro (-x).toNat
def mm_rf (bs : Nat) (ro : Nat → Nat) (x : Int) : Value := if x = 0 then .null else .ref (mm_ad bs ro x)
def mm_v (bs : Nat) (ro : Nat → Nat) (q : mm_V) : Value := match q.1 with
  | 0 => .int (mm_i q.2)
  | 1 => .long (mm_l q.2)
  | _ => mm_rf bs ro q.2
theorem mm_v0 (bs : Nat) (ro : Nat → Nat) (x : Int) : mm_v bs ro (0, x) = .int (mm_i x) := rfl
theorem mm_v1 (bs : Nat) (ro : Nat → Nat) (x : Int) : mm_v bs ro (1, x) = .long (mm_l x) := rfl
theorem mm_v2 (bs : Nat) (ro : Nat → Nat) (c : Nat) : mm_v bs ro (2, (c : Int) + 1) = .ref (bs + c) := by
  show mm_rf bs ro _ = _
  rw [mm_rf, if_neg (by omega), mm_ad, if_pos (by omega)]
  congr 1
theorem mm_v2n (bs : Nat) (ro : Nat → Nat) (k : Nat) (h : 0 < k) : mm_v bs ro (2, -(k : Int)) = .ref (ro k) := by
  show mm_rf bs ro _ = _
  rw [mm_rf, if_neg (by omega), mm_ad, if_neg (by omega)]
  congr 2
  omega
theorem mm_v20 (bs : Nat) (ro : Nat → Nat) : mm_v bs ro (2, 0) = .null := rfl
theorem mm_v2or (bs : Nat) (ro : Nat → Nat) (x : Int) : mm_v bs ro (2, x) = .null ∨ ∃ a, mm_v bs ro (2, x) = .ref a := by
  show mm_rf bs ro x = _ ∨ ∃ a, mm_rf bs ro x = _
  unfold mm_rf
  split
  · exact Or.inl rfl
  · exact Or.inr ⟨_, rfl⟩
theorem mm_cat1 {bs : Nat} {ro : Nat → Nat} {q : mm_V} (h : q.1 ≠ 1) : (mm_v bs ro q).category = 1 := by
  obtain ⟨t, x⟩ := q
  match t, h with
  | 0, _ => rfl
  | 1, h => exact absurd rfl h
  | t + 2, _ =>
    show (mm_rf bs ro x).category = 1
    unfold mm_rf
    split <;> rfl
theorem mm_cat2 {bs : Nat} {ro : Nat → Nat} {x : Int} : (mm_v bs ro (1, x)).category = 2 := rfl
/-- the kind of an array's elements -/
def mm_ek (t : Nat) : Nat := if t = 3 then 1 else if t = 4 then 2 else 0
def mm_ce (D : va_G) (cA : Nat → ClassId) (bs : Nat) (ro : Nat → Nat) (M : mm_M) (c : Nat) (H : Heap) : Prop :=
  match mm_sh c with
  | (0, ci) => t_OB (bs + c) (D.1 ci) (mm_nf ci) (D.2 ci) H (fun i => mm_v bs ro (mm_fk ci i, M c i))
  | (t + 1, n) => H[bs + c]? = some (arrV (cA t) n (fun j => mm_v bs ro (mm_ek t, M c j)))
/-- the heap holds the first n cells of the world, with M in them, from the address bs on, and nothing behind them -/
def mm_Wd (D : va_G) (cA : Nat → ClassId) (bs : Nat) (ro : Nat → Nat) (n : Nat) (M : mm_M) (H : Heap) : Prop := H.size = bs + n ∧ ∀ c, c < n → mm_ce D cA bs ro M c H
def mm_ty (cA : Nat → ClassId) : List (ClassId × FieldType) := [(cA 0, .int), (cA 1, .byte), (cA 2, .boolean), (cA 3, .long), (cA 4, .object "KitePower$Row")]
def mm_et (t : Nat) : FieldType := match t with
  | 0 => .int
  | 1 => .byte
  | 2 => .boolean
  | 3 => .long
  | _ => .object "KitePower$Row"
theorem mm_ty_at (cA : Nat → ClassId) {t : Nat} (h : t < 5) : (mm_ty cA)[t]? = some (cA t, mm_et t) := by
  match t, h with
  | 0, _ => rfl
  | 1, _ => rfl
  | 2, _ => rfl
  | 3, _ => rfl
  | 4, _ => rfl
/-- the tables that are only read: 1 the script, 2 to 7 the constants of the classes -/
def mm_ct : List (String × String × List Int) := [("KitePower$Kite", "LEAST", [2, 2, 2, 5, 0, 1, 0, 0, 100, 0]), ("KitePower$Kite", "MOST", [6, 6, 8, 50, 9999, 99999, 9999, 400, 400, 99999]), ("KitePower$Kite", "UNTOLD", [5, 4, 6, 20, 100, 20000, 0, 100, 150, 1000]), ("KitePowerModel", "PLAIN", [5, 4, 6, 20, 100, 20000, 0, 100, 150, 1000]), ("KitePowerModel", "LOW", [2, 2, 2, 5, 0, 1, 0, 0, 100, 0]), ("KitePowerModel", "MOST", [6, 6, 8, 50, 9999, 99999, 9999, 400, 400, 99999])]
def mm_rc (X : mm_X) (k : Nat) : mm_X := match k with
  | 1 => X
  | k => (10, fun j => ((mm_ct.getD (k - 2) ("", "", [])).2.2).getD j 0)
/-- the texts that are constants: class, entry, text, its bytes -/
def mm_sc : List (String × Nat × String × List Int) := [("KitePower$Kite", 51, "across high rope unit weight mark loss reel cross tire lift window", [97, 99, 114, 111, 115, 115, 32, 104, 105, 103, 104, 32, 114, 111, 112, 101, 32, 117, 110, 105, 116, 32, 119, 101, 105, 103, 104, 116, 32, 109, 97, 114, 107, 32, 108, 111, 115, 115, 32, 114, 101, 101, 108, 32, 99, 114, 111, 115, 115, 32, 116, 105, 114, 101, 32, 108, 105, 102, 116, 32, 119, 105, 110, 100, 111, 119]), ("KitePower$Rules", 48, "when", [119, 104, 101, 110]), ("KitePower$Rules", 69, "pull height rope column row", [112, 117, 108, 108, 32, 104, 101, 105, 103, 104, 116, 32, 114, 111, 112, 101, 32, 99, 111, 108, 117, 109, 110, 32, 114, 111, 119]), ("KitePower$Rules", 71, "above below is", [97, 98, 111, 118, 101, 32, 98, 101, 108, 111, 119, 32, 105, 115]), ("KitePower$Rules", 67, "and do", [97, 110, 100, 32, 100, 111]), ("KitePower$Rules", 87, "stay left right up down", [115, 116, 97, 121, 32, 108, 101, 102, 116, 32, 114, 105, 103, 104, 116, 32, 117, 112, 32, 100, 111, 119, 110]), ("KitePower$Rules", 89, "hold out in", [104, 111, 108, 100, 32, 111, 117, 116, 32, 105, 110]), ("KitePowerModel", 101, "across", [97, 99, 114, 111, 115, 115]), ("KitePowerModel", 107, "high", [104, 105, 103, 104]), ("KitePowerModel", 109, "rope", [114, 111, 112, 101]), ("KitePowerModel", 111, "unit", [117, 110, 105, 116]), ("KitePowerModel", 113, "weight", [119, 101, 105, 103, 104, 116]), ("KitePowerModel", 115, "mark", [109, 97, 114, 107]), ("KitePowerModel", 117, "loss", [108, 111, 115, 115]), ("KitePowerModel", 119, "reel", [114, 101, 101, 108]), ("KitePowerModel", 121, "cross", [99, 114, 111, 115, 115]), ("KitePowerModel", 123, "tire", [116, 105, 114, 101]), ("KitePowerModel", 125, "lift", [108, 105, 102, 116]), ("KitePowerModel", 127, "window", [119, 105, 110, 100, 111, 119]), ("KitePowerModel", 210, "when", [119, 104, 101, 110]), ("KitePowerModel", 166, "pull", [112, 117, 108, 108]), ("KitePowerModel", 168, "height", [104, 101, 105, 103, 104, 116]), ("KitePowerModel", 170, "column", [99, 111, 108, 117, 109, 110]), ("KitePowerModel", 172, "row", [114, 111, 119]), ("KitePowerModel", 177, "above", [97, 98, 111, 118, 101]), ("KitePowerModel", 179, "below", [98, 101, 108, 111, 119]), ("KitePowerModel", 181, "is", [105, 115]), ("KitePowerModel", 219, "and", [97, 110, 100]), ("KitePowerModel", 221, "do", [100, 111]), ("KitePowerModel", 195, "stay", [115, 116, 97, 121]), ("KitePowerModel", 197, "left", [108, 101, 102, 116]), ("KitePowerModel", 199, "right", [114, 105, 103, 104, 116]), ("KitePowerModel", 201, "up", [117, 112]), ("KitePowerModel", 203, "down", [100, 111, 119, 110]), ("KitePowerModel", 205, "hold", [104, 111, 108, 100]), ("KitePowerModel", 207, "out", [111, 117, 116]), ("KitePowerModel", 209, "in", [105, 110])]
def mm_sd : String × Nat × String × List Int := ("", 0, "", [])
/-- links to private members of the nest -/
def mm_nw : List (String × Nat × MethodName × String) := [("KitePower$Kite", 113, ⟨"KitePower", "isWithin", "(III)Z"⟩, "KitePower"), ("KitePower$Readings", 68, ⟨"KitePower", "isWithin", "(III)Z"⟩, "KitePower"), ("KitePower$Tape", 65, ⟨"KitePower", "isWithin", "(III)Z"⟩, "KitePower"), ("KitePower", 9, ⟨"KitePower$Tape", "<init>", "()V"⟩, "KitePower")]
/-- statics of which only a reference or null is said -/
def mm_zq : List (String × String × String) := [("jdk/internal/util/Preconditions", "SIOOBE_FORMATTER", "Ljava/util/function/BiFunction;"), ("java/lang/Throwable", "SUPPRESSED_SENTINEL", "Ljava/util/List;"), ("java/lang/Throwable", "UNASSIGNED_STACK", "[Ljava/lang/StackTraceElement;")]
/-- what is only read, and lies below the world -/
def mm_Ro (X : mm_X) (bs : Nat) (ro : Nat → Nat) (s : State) : Prop :=
  va_T .int (ro 1) X.1 (fun j => .int (mm_i (X.2 j))) (fun q => bs ≤ q) s s.heap ∧
  (∀ k, k < 6 → va_Z (mm_ct.getD k ("", "", [])).1 (mm_ct.getD k ("", "", [])).2.1 "[I" (.ref (ro (k + 2))) (fun q => bs ≤ q) s s.heap ∧ va_T .int (ro (k + 2)) 10 (fun j => .int (mm_i ((mm_rc X (k + 2)).2 j))) (fun q => bs ≤ q) s s.heap) ∧
  va_Z "java/lang/String" "COMPACT_STRINGS" "Z" (.int 1) (fun q => bs ≤ q) s s.heap ∧
  (∀ k, k < 37 → vk_R (mm_sc.getD k mm_sd).1 (mm_sc.getD k mm_sd).2.1 (mm_sc.getD k mm_sd).2.2.1 (ro (k + 100)) s ∧ va_O "java/lang/String" (ro (k + 100)) (fun q => bs ≤ q) s s.heap ∧
    va_OF "java/lang/String" "coder" "B" (.int 0) (ro (k + 100)) (fun q => bs ≤ q) s s.heap ∧ va_OF "java/lang/String" "value" "[B" (.ref (ro (k + 200))) (ro (k + 100)) (fun q => bs ≤ q) s s.heap ∧
    va_T .byte (ro (k + 200)) (mm_sc.getD k mm_sd).2.2.2.length (fun j => .int (mm_i ((mm_sc.getD k mm_sd).2.2.2.getD j 0))) (fun q => bs ≤ q) s s.heap) ∧
  (∀ q ∈ mm_nw, va_Nw (.methodLinkNest q.1 q.2.1 q.2.2.1 q.2.2.2) s) ∧ va_AO "KitePower$Row" s ∧
  (∀ j, j < 3 → va_Z (mm_zq.getD j ("", "", "")).1 (mm_zq.getD j ("", "", "")).2.1 (mm_zq.getD j ("", "", "")).2.2 .null (fun q => bs ≤ q) s s.heap ∨ va_Z (mm_zq.getD j ("", "", "")).1 (mm_zq.getD j ("", "", "")).2.1 (mm_zq.getD j ("", "", "")).2.2 (.ref (ro (50 + j))) (fun q => bs ≤ q) s s.heap)
/-- the words of the tables that every call carries on -/
def mm_T (args : Array Value) (s : State) : Prop := ∀ w ∈ lw_tbl, goodWord w = true → w.before args s = true
def mm_Hd (c : Code) (hs : List (Nat × Nat × Nat × Nat)) : Prop := c.exceptionTable.toList.map (fun h => (h.startPc, h.endPc, h.handlerPc, h.catchType)) = hs
/-- the locals -/
def mm_L (bs : Nat) (ro : Nat → Nat) (nL : Nat) (lsr : Array Slot) (ls : List mm_V) : Prop := lsr.size = nL ∧ lv_wf lsr ∧ ∀ (i : Nat) (v : mm_V), ls[i]? = some v → v.1 ≠ 9 → lsr[i]? = some (.val (mm_v bs ro v))
/-- where a method of the system stands: the machine, the code, the tables, the room -/
def mm_Cx (X : mm_X) (Y : mm_Y) (n0 n1 : Nat) (p : Program) (R : Room) (s : State) (m : MethodId) (args : Array Value) (meth : Method) (c : Code) (D : va_G) (cA : Nat → ClassId) (bs : Nat) (ro : Nat → Nat) : Prop :=
  p.tables.exec = Jvm.exec ∧ c.code = Y.2.1 ∧ meth.sig.returnType = Y.2.2.2.1 ∧ c.maxLocals = Y.2.2.1 ∧ s.vm.findClass Y.1.cls = some m.cls ∧ mm_T args s ∧ meth.locks = false ∧ meth.name = Y.1.name ∧ mm_Hd c Y.2.2.2.2.2.2 ∧
  Y.2.2.2.2.1 ≤ R.frames ∧ Y.2.2.2.2.2.1 ≤ R.locals ∧ n1 - n0 ≤ R.cells ∧ mm_sz n1 - mm_sz n0 ≤ R.slots ∧ va_K D vwCl (mm_ty cA) s ∧ mm_Ro X bs ro s ∧ s.heap.size = bs + n0
/-- how a call ends -/
def mm_oc (bs : Nat) (ro : Nat → Nat) (r : mm_V) (o : Outcome) : Prop := match r.1 with
  | 3 => o = .returned none
  | 4 => o = .threw (mm_ad bs ro r.2)
  | _ => o = .returned (some (mm_v bs ro r))
def mm_E (D : va_G) (cA : Nat → ClassId) (bs : Nat) (ro : Nat → Nat) (n0 n1 : Nat) (Φ : mm_V → mm_M → Prop) (below : List Frame) (s : State) : State → Prop := fun t =>
  ∃ (o : Outcome) (r : mm_V) (M : mm_M) (L : List Loc), t.status = .running ∧ Ended t below o ∧ mm_oc bs ro r o ∧ Φ r M ∧ mm_Wd D cA bs ro n1 M t.heap ∧ va_F (fun q => bs ≤ q) s t ∧ s.WarmedH t.vm ∧ s.sameButNew ({ t with vm := s.vm } : State) L (n1 - n0) (mm_sz n1 - mm_sz n0) ∧ ∀ q ∈ L, bs ≤ q.base
/-- THE JUDGEMENT: the method Y, entered with n0 cells of the world, now with n, at pc, with these locals, this stack and this memory, comes to its end, with n1 cells, so that Φ holds of its answer and its memory -/
def mm_J (X : mm_X) (Y : mm_Y) (n0 n1 n pc : Nat) (ls st : List mm_V) (M : mm_M) (Φ : mm_V → mm_M → Prop) : Prop :=
  ∀ (p : Program) (l : Launch) (e : Env) (R : Room) (s : State) (m : MethodId) (args : Array Value) (below : List Frame) (meth : Method) (c : Code) (D : va_G) (cA : Nat → ClassId) (bs : Nat) (ro : Nat → Nat) (H : Heap) (locs : List Loc) (lsr : Array Slot),
    mm_Cx X Y n0 n1 p R s m args meth c D cA bs ro → mm_Wd D cA bs ro n M H → va_S (fun q => bs ≤ q) s.heap H locs → mm_L bs ro Y.2.2.1 lsr ls →
    W p l e R s m args below meth c H locs (n - n0) (mm_sz n - mm_sz n0) (mm_E D cA bs ro n0 n1 Φ below s) (F0 m pc lsr (st.map (mm_v bs ro)))
/-- one step of the machine that touches neither heap nor locals -/
theorem mm_go {X : mm_X} {Y : mm_Y} {n0 n1 n pc q : Nat} {ls st st' : List mm_V} {M : mm_M} {Φ : mm_V → mm_M → Prop}
    (h : ∀ (p : Program) (l : Launch) (e : Env) (R : Room) (s : State) (m : MethodId) (args : Array Value) (below : List Frame) (meth : Method) (c : Code) (D : va_G) (cA : Nat → ClassId) (bs : Nat) (ro : Nat → Nat) (H : Heap) (locs : List Loc) (lsr : Array Slot) (cells slots : Nat) (Q : State → Prop),
      p.tables.exec = Jvm.exec → c.code = Y.2.1 → mm_L bs ro Y.2.2.1 lsr ls → W p l e R s m args below meth c H locs cells slots Q (F0 m q lsr (st'.map (mm_v bs ro))) → W p l e R s m args below meth c H locs cells slots Q (F0 m pc lsr (st.map (mm_v bs ro))))
    (k : mm_J X Y n0 n1 n q ls st' M Φ) : mm_J X Y n0 n1 n pc ls st M Φ := by
  intro p l e R s m args below meth c D cA bs ro H locs lsr C hP hS hL
  exact h p l e R s m args below meth c D cA bs ro H locs lsr _ _ _ C.1 C.2.1 hL (k p l e R s m args below meth c D cA bs ro H locs lsr C hP hS hL)
theorem mm_q1 {cd : ByteArray} {pc q : Nat} {i : Instr} (h : mm_D cd pc q i) {len : Nat} (hl : decode cd pc = .ok (i, len)) : pc + len = q := by
  have := h.1.symm.trans hl
  simp only [Except.ok.injEq, Prod.mk.injEq, true_and] at this
  omega
end
/-! 11.ops -/
section
section
variable {X : mm_X} {Y : mm_Y} {n0 n1 n pc q t : Nat} {ls st : List mm_V} {M : mm_M} {Φ : mm_V → mm_M → Prop} {x y : Int}
theorem mm_iconst {a : Int} (hd : mm_D Y.2.1 pc q (.iconst a)) (hq : pc + 1 = q) (k : mm_J X Y n0 n1 n q ls ((0, a) :: st) M Φ) : mm_J X Y n0 n1 n pc ls (st) M Φ := by
  subst hq
  refine mm_go (fun p l e R s m args below meth c D cA bs ro H locs lsr cells slots Q hx hb hL kk => ?_) k
  exact lv_iconst hx hb (by simpa using hd.1) rfl kk
theorem mm_bipush {a : Int} (hd : mm_D Y.2.1 pc q (.bipush a)) (hq : pc + 2 = q) (ha : -128 ≤ a ∧ a ≤ 127) (k : mm_J X Y n0 n1 n q ls ((0, a) :: st) M Φ) : mm_J X Y n0 n1 n pc ls (st) M Φ := by
  subst hq
  refine mm_go (fun p l e R s m args below meth c D cA bs ro H locs lsr cells slots Q hx hb hL kk => ?_) k
  refine lv_bipush hx hb (by simpa using hd.1) (v := mm_i a) ?_ kk
  rw [← Int32.toInt_inj, Int8.toInt_toInt32, Int8.toInt_ofInt_of_le (by omega) (by omega), mm_i_to (by omega)]
theorem mm_sipush {a : Int} (hd : mm_D Y.2.1 pc q (.sipush a)) (hq : pc + 3 = q) (ha : -32768 ≤ a ∧ a ≤ 32767) (k : mm_J X Y n0 n1 n q ls ((0, a) :: st) M Φ) : mm_J X Y n0 n1 n pc ls (st) M Φ := by
  subst hq
  refine mm_go (fun p l e R s m args below meth c D cA bs ro H locs lsr cells slots Q hx hb hL kk => ?_) k
  refine lv_sipush hx hb (by simpa using hd.1) (v := mm_i a) ?_ kk
  rw [← Int32.toInt_inj, Int16.toInt_toInt32, Int16.toInt_ofInt_of_le (by omega) (by omega), mm_i_to (by omega)]
theorem mm_lconst {a : Fin 2} (hd : mm_D Y.2.1 pc q (.lconst a)) (hq : pc + 1 = q) (k : mm_J X Y n0 n1 n q ls ((1, ((a : Nat) : Int)) :: st) M Φ) : mm_J X Y n0 n1 n pc ls (st) M Φ := by
  subst hq
  refine mm_go (fun p l e R s m args below meth c D cA bs ro H locs lsr cells slots Q hx hb hL kk => ?_) k
  refine lv_lconst hx hb (by simpa using hd.1) (v := mm_l ((a : Nat) : Int)) ?_ kk
  match a with
  | 0 => rfl
  | 1 => rfl
theorem mm_iadd (hd : mm_D Y.2.1 pc q .iadd) (hq : pc + 1 = q) (k : mm_J X Y n0 n1 n q ls ((0, x + y) :: st) M Φ) : mm_J X Y n0 n1 n pc ls ((0, y) :: (0, x) :: st) M Φ := by
  subst hq
  refine mm_go (fun p l e R s m args below meth c D cA bs ro H locs lsr cells slots Q hx hb hL kk => ?_) k
  refine lv_iadd hx hb (by simpa using hd.1) ?_
  rw [mm_i_add]
  exact kk
theorem mm_ladd (hd : mm_D Y.2.1 pc q .ladd) (hq : pc + 1 = q) (k : mm_J X Y n0 n1 n q ls ((1, x + y) :: st) M Φ) : mm_J X Y n0 n1 n pc ls ((1, y) :: (1, x) :: st) M Φ := by
  subst hq
  refine mm_go (fun p l e R s m args below meth c D cA bs ro H locs lsr cells slots Q hx hb hL kk => ?_) k
  refine lv_ladd hx hb (by simpa using hd.1) ?_
  rw [mm_l_add]
  exact kk
theorem mm_isub (hd : mm_D Y.2.1 pc q .isub) (hq : pc + 1 = q) (k : mm_J X Y n0 n1 n q ls ((0, x - y) :: st) M Φ) : mm_J X Y n0 n1 n pc ls ((0, y) :: (0, x) :: st) M Φ := by
  subst hq
  refine mm_go (fun p l e R s m args below meth c D cA bs ro H locs lsr cells slots Q hx hb hL kk => ?_) k
  refine lv_isub hx hb (by simpa using hd.1) ?_
  rw [mm_i_sub]
  exact kk
theorem mm_lsub (hd : mm_D Y.2.1 pc q .lsub) (hq : pc + 1 = q) (k : mm_J X Y n0 n1 n q ls ((1, x - y) :: st) M Φ) : mm_J X Y n0 n1 n pc ls ((1, y) :: (1, x) :: st) M Φ := by
  subst hq
  refine mm_go (fun p l e R s m args below meth c D cA bs ro H locs lsr cells slots Q hx hb hL kk => ?_) k
  refine lv_lsub hx hb (by simpa using hd.1) ?_
  rw [mm_l_sub]
  exact kk
theorem mm_imul (hd : mm_D Y.2.1 pc q .imul) (hq : pc + 1 = q) (k : mm_J X Y n0 n1 n q ls ((0, x * y) :: st) M Φ) : mm_J X Y n0 n1 n pc ls ((0, y) :: (0, x) :: st) M Φ := by
  subst hq
  refine mm_go (fun p l e R s m args below meth c D cA bs ro H locs lsr cells slots Q hx hb hL kk => ?_) k
  refine lv_imul hx hb (by simpa using hd.1) ?_
  rw [mm_i_mul]
  exact kk
theorem mm_lmul (hd : mm_D Y.2.1 pc q .lmul) (hq : pc + 1 = q) (k : mm_J X Y n0 n1 n q ls ((1, x * y) :: st) M Φ) : mm_J X Y n0 n1 n pc ls ((1, y) :: (1, x) :: st) M Φ := by
  subst hq
  refine mm_go (fun p l e R s m args below meth c D cA bs ro H locs lsr cells slots Q hx hb hL kk => ?_) k
  refine lv_lmul hx hb (by simpa using hd.1) ?_
  rw [mm_l_mul]
  exact kk
theorem mm_ineg (hd : mm_D Y.2.1 pc q .ineg) (hq : pc + 1 = q) (k : mm_J X Y n0 n1 n q ls ((0, -x) :: st) M Φ) : mm_J X Y n0 n1 n pc ls ((0, x) :: st) M Φ := by
  subst hq
  refine mm_go (fun p l e R s m args below meth c D cA bs ro H locs lsr cells slots Q hx hb hL kk => ?_) k
  refine lv_ineg hx hb (by simpa using hd.1) ?_
  rw [mm_i_neg]
  exact kk
theorem mm_lneg (hd : mm_D Y.2.1 pc q .lneg) (hq : pc + 1 = q) (k : mm_J X Y n0 n1 n q ls ((1, -x) :: st) M Φ) : mm_J X Y n0 n1 n pc ls ((1, x) :: st) M Φ := by
  subst hq
  refine mm_go (fun p l e R s m args below meth c D cA bs ro H locs lsr cells slots Q hx hb hL kk => ?_) k
  refine lv_lneg hx hb (by simpa using hd.1) ?_
  rw [mm_l_neg]
  exact kk
theorem mm_idiv (hd : mm_D Y.2.1 pc q .idiv) (hq : pc + 1 = q) (hx0 : mm_R x) (hy0 : mm_R y) (hz : y ≠ 0) (k : mm_J X Y n0 n1 n q ls ((0, x.tdiv y) :: st) M Φ) : mm_J X Y n0 n1 n pc ls ((0, y) :: (0, x) :: st) M Φ := by
  subst hq
  refine mm_go (fun p l e R s m args below meth c D cA bs ro H locs lsr cells slots Q hx hb hL kk => ?_) k
  refine lv_idiv hx hb (by simpa using hd.1) (fun h => hz ((mm_i_inj hy0 (by omega)).mp h)) ?_
  rw [mm_i_div hx0 hy0 hz]
  exact kk
theorem mm_ldiv (hd : mm_D Y.2.1 pc q .ldiv) (hq : pc + 1 = q) (hx0 : mm_RL x) (hy0 : mm_RL y) (hz : y ≠ 0) (k : mm_J X Y n0 n1 n q ls ((1, x.tdiv y) :: st) M Φ) : mm_J X Y n0 n1 n pc ls ((1, y) :: (1, x) :: st) M Φ := by
  subst hq
  refine mm_go (fun p l e R s m args below meth c D cA bs ro H locs lsr cells slots Q hx hb hL kk => ?_) k
  refine lv_ldiv hx hb (by simpa using hd.1) (fun h => hz ((mm_l_inj hy0 (by omega)).mp h)) ?_
  rw [mm_l_div hx0 hy0 hz]
  exact kk
theorem mm_irem (hd : mm_D Y.2.1 pc q .irem) (hq : pc + 1 = q) (hx0 : mm_R x) (hy0 : mm_R y) (hz : y ≠ 0) (k : mm_J X Y n0 n1 n q ls ((0, x.tmod y) :: st) M Φ) : mm_J X Y n0 n1 n pc ls ((0, y) :: (0, x) :: st) M Φ := by
  subst hq
  refine mm_go (fun p l e R s m args below meth c D cA bs ro H locs lsr cells slots Q hx hb hL kk => ?_) k
  refine lv_irem hx hb (by simpa using hd.1) (fun h => hz ((mm_i_inj hy0 (by omega)).mp h)) ?_
  rw [mm_i_rem hx0 hy0 hz]
  exact kk
theorem mm_i2l (hd : mm_D Y.2.1 pc q .i2l) (hq : pc + 1 = q) (hx0 : mm_R x) (k : mm_J X Y n0 n1 n q ls ((1, x) :: st) M Φ) : mm_J X Y n0 n1 n pc ls ((0, x) :: st) M Φ := by
  subst hq
  refine mm_go (fun p l e R s m args below meth c D cA bs ro H locs lsr cells slots Q hx hb hL kk => ?_) k
  exact lv_i2l hx hb (by simpa using hd.1) (mm_i_i2l hx0) kk
theorem mm_l2i (hd : mm_D Y.2.1 pc q .l2i) (hq : pc + 1 = q) (k : mm_J X Y n0 n1 n q ls ((0, x) :: st) M Φ) : mm_J X Y n0 n1 n pc ls ((1, x) :: st) M Φ := by
  subst hq
  refine mm_go (fun p l e R s m args below meth c D cA bs ro H locs lsr cells slots Q hx hb hL kk => ?_) k
  exact lv_l2i hx hb (by simpa using hd.1) (mm_i_l2i x) kk
theorem mm_i2b (hd : mm_D Y.2.1 pc q .i2b) (hq : pc + 1 = q) (k : mm_J X Y n0 n1 n q ls ((0, (mm_i x).toInt8.toInt) :: st) M Φ) : mm_J X Y n0 n1 n pc ls ((0, x) :: st) M Φ := by
  subst hq
  refine mm_go (fun p l e R s m args below meth c D cA bs ro H locs lsr cells slots Q hx hb hL kk => ?_) k
  refine lv_i2b hx hb (by simpa using hd.1) (v := mm_i (mm_i x).toInt8.toInt) ?_ kk
  show (mm_i x).toInt8.toInt32 = _
  rw [← Int32.toInt_inj, Int8.toInt_toInt32, mm_i_to (by have := Int8.le_toInt (mm_i x).toInt8; have := Int8.toInt_lt (mm_i x).toInt8; omega)]
theorem mm_iand (hd : mm_D Y.2.1 pc q .iand) (hq : pc + 1 = q) (k : mm_J X Y n0 n1 n q ls ((0, (mm_i x &&& mm_i y).toInt) :: st) M Φ) : mm_J X Y n0 n1 n pc ls ((0, y) :: (0, x) :: st) M Φ := by
  subst hq
  refine mm_go (fun p l e R s m args below meth c D cA bs ro H locs lsr cells slots Q hx hb hL kk => ?_) k
  refine lv_iand hx hb (by simpa using hd.1) ?_
  rw [← mm_i_of (mm_i x &&& mm_i y)]
  exact kk
theorem mm_ior (hd : mm_D Y.2.1 pc q .ior) (hq : pc + 1 = q) (k : mm_J X Y n0 n1 n q ls ((0, (mm_i x ||| mm_i y).toInt) :: st) M Φ) : mm_J X Y n0 n1 n pc ls ((0, y) :: (0, x) :: st) M Φ := by
  subst hq
  refine mm_go (fun p l e R s m args below meth c D cA bs ro H locs lsr cells slots Q hx hb hL kk => ?_) k
  refine lv_ior hx hb (by simpa using hd.1) ?_
  rw [← mm_i_of (mm_i x ||| mm_i y)]
  exact kk
theorem mm_ishl (hd : mm_D Y.2.1 pc q .ishl) (hq : pc + 1 = q) (k : mm_J X Y n0 n1 n q ls ((0, (mm_i x <<< (mm_i y &&& 31)).toInt) :: st) M Φ) : mm_J X Y n0 n1 n pc ls ((0, y) :: (0, x) :: st) M Φ := by
  subst hq
  refine mm_go (fun p l e R s m args below meth c D cA bs ro H locs lsr cells slots Q hx hb hL kk => ?_) k
  refine lv_ishl hx hb (by simpa using hd.1) ?_
  rw [← mm_i_of (mm_i x <<< (mm_i y &&& 31))]
  exact kk
theorem mm_ishr (hd : mm_D Y.2.1 pc q .ishr) (hq : pc + 1 = q) (k : mm_J X Y n0 n1 n q ls ((0, (mm_i x >>> (mm_i y &&& 31)).toInt) :: st) M Φ) : mm_J X Y n0 n1 n pc ls ((0, y) :: (0, x) :: st) M Φ := by
  subst hq
  refine mm_go (fun p l e R s m args below meth c D cA bs ro H locs lsr cells slots Q hx hb hL kk => ?_) k
  refine lv_ishr hx hb (by simpa using hd.1) ?_
  rw [← mm_i_of (mm_i x >>> (mm_i y &&& 31))]
  exact kk
theorem mm_lcmp (hd : mm_D Y.2.1 pc q .lcmp) (hq : pc + 1 = q) (hx0 : mm_RL x) (hy0 : mm_RL y) (k : mm_J X Y n0 n1 n q ls ((0, if y < x then 1 else if x = y then 0 else -1) :: st) M Φ) : mm_J X Y n0 n1 n pc ls ((1, y) :: (1, x) :: st) M Φ := by
  subst hq
  refine mm_go (fun p l e R s m args below meth c D cA bs ro H locs lsr cells slots Q hx hb hL kk => ?_) k
  refine W.lcmp hx hb (by simpa using hd.1) ?_
  have e : lg_cmp (mm_l x) (mm_l y) = mm_i (if y < x then 1 else if x = y then 0 else -1) := by
    unfold lg_cmp
    simp only [gt_iff_lt, mm_l_lt hy0 hx0, mm_l_inj hx0 hy0]
    split
    · rfl
    · split <;> rfl
  rw [e]
  exact kk
theorem mm_dup {v : mm_V} (hd : mm_D Y.2.1 pc q .dup) (hq : pc + 1 = q) (hv : v.1 ≠ 1) (k : mm_J X Y n0 n1 n q ls (v :: v :: st) M Φ) : mm_J X Y n0 n1 n pc ls (v :: st) M Φ := by
  subst hq
  refine mm_go (fun p l e R s m args below meth c D cA bs ro H locs lsr cells slots Q hx hb hL kk => ?_) k
  exact lv_dup hx hb (by simpa using hd.1) (mm_cat1 hv) kk
theorem mm_dup2 {v w : mm_V} (hd : mm_D Y.2.1 pc q .dup2) (hq : pc + 1 = q) (hv : v.1 ≠ 1) (hw : w.1 ≠ 1) (k : mm_J X Y n0 n1 n q ls (v :: w :: v :: w :: st) M Φ) : mm_J X Y n0 n1 n pc ls (v :: w :: st) M Φ := by
  subst hq
  refine mm_go (fun p l e R s m args below meth c D cA bs ro H locs lsr cells slots Q hx hb hL kk => ?_) k
  exact lv_dup2_11 hx hb (by simpa using hd.1) (mm_cat1 hv) (mm_cat1 hw) kk
theorem mm_pop {v : mm_V} (hd : mm_D Y.2.1 pc q .pop) (hq : pc + 1 = q) (hv : v.1 ≠ 1) (k : mm_J X Y n0 n1 n q ls (st) M Φ) : mm_J X Y n0 n1 n pc ls (v :: st) M Φ := by
  subst hq
  refine mm_go (fun p l e R s m args below meth c D cA bs ro H locs lsr cells slots Q hx hb hL kk => ?_) k
  exact lv_pop hx hb (by simpa using hd.1) (mm_cat1 hv) kk
theorem mm_null (hd : mm_D Y.2.1 pc q .aconst_null) (hq : pc + 1 = q) (k : mm_J X Y n0 n1 n q ls ((2, 0) :: st) M Φ) : mm_J X Y n0 n1 n pc ls (st) M Φ := by
  subst hq
  refine mm_go (fun p l e R s m args below meth c D cA bs ro H locs lsr cells slots Q hx hb hL kk => ?_) k
  exact lv_null hx hb (by simpa using hd.1) kk
theorem mm_iload_n {a : Fin 4} (hd : mm_D Y.2.1 pc q (.iload_n a)) (hq : pc + 1 = q) (hl : ls[(a : Nat)]? = some (0, x)) (k : mm_J X Y n0 n1 n q ls ((0, x) :: st) M Φ) : mm_J X Y n0 n1 n pc ls (st) M Φ := by
  subst hq
  refine mm_go (fun p l e R s m args below meth c D cA bs ro H locs lsr cells slots Q hx hb hL kk => ?_) k
  exact lv_iload_n hx hb (by simpa using hd.1) rfl (hL.2.2 _ _ hl (show _ ≠ 9 by simp)) kk
theorem mm_iload {a : Nat} (hd : mm_D Y.2.1 pc q (.iload a)) (hq : pc + 2 = q) (hl : ls[a]? = some (0, x)) (k : mm_J X Y n0 n1 n q ls ((0, x) :: st) M Φ) : mm_J X Y n0 n1 n pc ls (st) M Φ := by
  subst hq
  refine mm_go (fun p l e R s m args below meth c D cA bs ro H locs lsr cells slots Q hx hb hL kk => ?_) k
  exact lv_iload hx hb (by simpa using hd.1) (hL.2.2 _ _ hl (show _ ≠ 9 by simp)) kk
theorem mm_lload_n {a : Fin 4} (hd : mm_D Y.2.1 pc q (.lload_n a)) (hq : pc + 1 = q) (hl : ls[(a : Nat)]? = some (1, x)) (k : mm_J X Y n0 n1 n q ls ((1, x) :: st) M Φ) : mm_J X Y n0 n1 n pc ls (st) M Φ := by
  subst hq
  refine mm_go (fun p l e R s m args below meth c D cA bs ro H locs lsr cells slots Q hx hb hL kk => ?_) k
  exact lv_lload_n hx hb (by simpa using hd.1) rfl (hL.2.2 _ _ hl (show _ ≠ 9 by simp)) kk
theorem mm_lload {a : Nat} (hd : mm_D Y.2.1 pc q (.lload a)) (hq : pc + 2 = q) (hl : ls[a]? = some (1, x)) (k : mm_J X Y n0 n1 n q ls ((1, x) :: st) M Φ) : mm_J X Y n0 n1 n pc ls (st) M Φ := by
  subst hq
  refine mm_go (fun p l e R s m args below meth c D cA bs ro H locs lsr cells slots Q hx hb hL kk => ?_) k
  exact lv_lload hx hb (by simpa using hd.1) (hL.2.2 _ _ hl (show _ ≠ 9 by simp)) kk
theorem mm_aload_n {a : Fin 4} (hd : mm_D Y.2.1 pc q (.aload_n a)) (hq : pc + 1 = q) (hl : ls[(a : Nat)]? = some (2, x)) (k : mm_J X Y n0 n1 n q ls ((2, x) :: st) M Φ) : mm_J X Y n0 n1 n pc ls (st) M Φ := by
  subst hq
  refine mm_go (fun p l e R s m args below meth c D cA bs ro H locs lsr cells slots Q hx hb hL kk => ?_) k
  have hl := hL.2.2 _ _ hl (show _ ≠ 9 by simp)
  rcases mm_v2or bs ro x with h | ⟨w, h⟩
  · rw [List.map_cons, h] at kk
    rw [h] at hl
    exact lv_aload_nN hx hb (by simpa using hd.1) rfl hl kk
  · rw [List.map_cons, h] at kk
    rw [h] at hl
    exact lv_aload_n hx hb (by simpa using hd.1) rfl hl kk
theorem mm_aload {a : Nat} (hd : mm_D Y.2.1 pc q (.aload a)) (hq : pc + 2 = q) (hl : ls[a]? = some (2, x)) (k : mm_J X Y n0 n1 n q ls ((2, x) :: st) M Φ) : mm_J X Y n0 n1 n pc ls (st) M Φ := by
  subst hq
  refine mm_go (fun p l e R s m args below meth c D cA bs ro H locs lsr cells slots Q hx hb hL kk => ?_) k
  have hl := hL.2.2 _ _ hl (show _ ≠ 9 by simp)
  rcases mm_v2or bs ro x with h | ⟨w, h⟩
  · rw [List.map_cons, h] at kk
    rw [h] at hl
    exact lv_aloadN hx hb (by simpa using hd.1) hl kk
  · rw [List.map_cons, h] at kk
    rw [h] at hl
    exact lv_aload hx hb (by simpa using hd.1) hl kk
theorem mm_ifeq (hd : mm_Bz Y.2.1 pc q t .eq) (hx0 : mm_R x) (kt : x = 0 → mm_J X Y n0 n1 n t ls st M Φ) (kf : ¬ (x = 0) → mm_J X Y n0 n1 n q ls st M Φ) : mm_J X Y n0 n1 n pc ls ((0, x) :: st) M Φ := by
  obtain ⟨hd, rfl⟩ := hd
  intro p l e R s m args below meth c D cA bs ro H locs lsr C hP hS hL
  refine lv_if_eq C.1 C.2.1 (tgt := t) hd (by omega) (fun hc => kt ((mm_i_inj hx0 (by omega : mm_R 0)).mp hc) p l e R s m args below meth c D cA bs ro H locs lsr C hP hS hL) (fun hc => kf (fun h => hc ((mm_i_inj hx0 (by omega : mm_R 0)).mpr h)) p l e R s m args below meth c D cA bs ro H locs lsr C hP hS hL)
theorem mm_ifne (hd : mm_Bz Y.2.1 pc q t .ne) (hx0 : mm_R x) (kt : x ≠ 0 → mm_J X Y n0 n1 n t ls st M Φ) (kf : x = 0 → mm_J X Y n0 n1 n q ls st M Φ) : mm_J X Y n0 n1 n pc ls ((0, x) :: st) M Φ := by
  obtain ⟨hd, rfl⟩ := hd
  intro p l e R s m args below meth c D cA bs ro H locs lsr C hP hS hL
  refine lv_if_ne C.1 C.2.1 (tgt := t) hd (by omega) (fun hc => kt (fun h => hc ((mm_i_inj hx0 (by omega : mm_R 0)).mpr h)) p l e R s m args below meth c D cA bs ro H locs lsr C hP hS hL) (fun hc => kf ((mm_i_inj hx0 (by omega : mm_R 0)).mp hc) p l e R s m args below meth c D cA bs ro H locs lsr C hP hS hL)
theorem mm_iflt (hd : mm_Bz Y.2.1 pc q t .lt) (hx0 : mm_R x) (kt : x < 0 → mm_J X Y n0 n1 n t ls st M Φ) (kf : ¬ (x < 0) → mm_J X Y n0 n1 n q ls st M Φ) : mm_J X Y n0 n1 n pc ls ((0, x) :: st) M Φ := by
  obtain ⟨hd, rfl⟩ := hd
  intro p l e R s m args below meth c D cA bs ro H locs lsr C hP hS hL
  refine lv_if_lt C.1 C.2.1 (tgt := t) hd (by omega) (fun hc => kt ((mm_i_lt hx0 (by omega : mm_R 0)).mp hc) p l e R s m args below meth c D cA bs ro H locs lsr C hP hS hL) (fun hc => kf (fun h => hc ((mm_i_lt hx0 (by omega : mm_R 0)).mpr h)) p l e R s m args below meth c D cA bs ro H locs lsr C hP hS hL)
theorem mm_ifge (hd : mm_Bz Y.2.1 pc q t .ge) (hx0 : mm_R x) (kt : 0 ≤ x → mm_J X Y n0 n1 n t ls st M Φ) (kf : ¬ (0 ≤ x) → mm_J X Y n0 n1 n q ls st M Φ) : mm_J X Y n0 n1 n pc ls ((0, x) :: st) M Φ := by
  obtain ⟨hd, rfl⟩ := hd
  intro p l e R s m args below meth c D cA bs ro H locs lsr C hP hS hL
  refine lv_if_ge C.1 C.2.1 (tgt := t) hd (by omega) (fun hc => kt ((mm_i_le (by omega : mm_R 0) hx0).mp hc) p l e R s m args below meth c D cA bs ro H locs lsr C hP hS hL) (fun hc => kf (fun h => hc ((mm_i_le (by omega : mm_R 0) hx0).mpr h)) p l e R s m args below meth c D cA bs ro H locs lsr C hP hS hL)
theorem mm_ifgt (hd : mm_Bz Y.2.1 pc q t .gt) (hx0 : mm_R x) (kt : 0 < x → mm_J X Y n0 n1 n t ls st M Φ) (kf : ¬ (0 < x) → mm_J X Y n0 n1 n q ls st M Φ) : mm_J X Y n0 n1 n pc ls ((0, x) :: st) M Φ := by
  obtain ⟨hd, rfl⟩ := hd
  intro p l e R s m args below meth c D cA bs ro H locs lsr C hP hS hL
  refine lv_if_gt C.1 C.2.1 (tgt := t) hd (by omega) (fun hc => kt ((mm_i_lt (by omega : mm_R 0) hx0).mp hc) p l e R s m args below meth c D cA bs ro H locs lsr C hP hS hL) (fun hc => kf (fun h => hc ((mm_i_lt (by omega : mm_R 0) hx0).mpr h)) p l e R s m args below meth c D cA bs ro H locs lsr C hP hS hL)
theorem mm_ifle (hd : mm_Bz Y.2.1 pc q t .le) (hx0 : mm_R x) (kt : x ≤ 0 → mm_J X Y n0 n1 n t ls st M Φ) (kf : ¬ (x ≤ 0) → mm_J X Y n0 n1 n q ls st M Φ) : mm_J X Y n0 n1 n pc ls ((0, x) :: st) M Φ := by
  obtain ⟨hd, rfl⟩ := hd
  intro p l e R s m args below meth c D cA bs ro H locs lsr C hP hS hL
  refine lv_if_le C.1 C.2.1 (tgt := t) hd (by omega) (fun hc => kt ((mm_i_le hx0 (by omega : mm_R 0)).mp hc) p l e R s m args below meth c D cA bs ro H locs lsr C hP hS hL) (fun hc => kf (fun h => hc ((mm_i_le hx0 (by omega : mm_R 0)).mpr h)) p l e R s m args below meth c D cA bs ro H locs lsr C hP hS hL)
theorem mm_iceq (hd : mm_Bi Y.2.1 pc q t .eq) (hx0 : mm_R x) (hy0 : mm_R y) (kt : x = y → mm_J X Y n0 n1 n t ls st M Φ) (kf : ¬ (x = y) → mm_J X Y n0 n1 n q ls st M Φ) : mm_J X Y n0 n1 n pc ls ((0, y) :: (0, x) :: st) M Φ := by
  obtain ⟨hd, rfl⟩ := hd
  intro p l e R s m args below meth c D cA bs ro H locs lsr C hP hS hL
  refine lv_icmp_eq C.1 C.2.1 (tgt := t) hd (by omega) (fun hc => kt ((mm_i_inj hx0 hy0).mp hc) p l e R s m args below meth c D cA bs ro H locs lsr C hP hS hL) (fun hc => kf (fun h => hc ((mm_i_inj hx0 hy0).mpr h)) p l e R s m args below meth c D cA bs ro H locs lsr C hP hS hL)
theorem mm_icne (hd : mm_Bi Y.2.1 pc q t .ne) (hx0 : mm_R x) (hy0 : mm_R y) (kt : x ≠ y → mm_J X Y n0 n1 n t ls st M Φ) (kf : x = y → mm_J X Y n0 n1 n q ls st M Φ) : mm_J X Y n0 n1 n pc ls ((0, y) :: (0, x) :: st) M Φ := by
  obtain ⟨hd, rfl⟩ := hd
  intro p l e R s m args below meth c D cA bs ro H locs lsr C hP hS hL
  refine lv_icmp_ne C.1 C.2.1 (tgt := t) hd (by omega) (fun hc => kt (fun h => hc ((mm_i_inj hx0 hy0).mpr h)) p l e R s m args below meth c D cA bs ro H locs lsr C hP hS hL) (fun hc => kf ((mm_i_inj hx0 hy0).mp hc) p l e R s m args below meth c D cA bs ro H locs lsr C hP hS hL)
theorem mm_iclt (hd : mm_Bi Y.2.1 pc q t .lt) (hx0 : mm_R x) (hy0 : mm_R y) (kt : x < y → mm_J X Y n0 n1 n t ls st M Φ) (kf : ¬ (x < y) → mm_J X Y n0 n1 n q ls st M Φ) : mm_J X Y n0 n1 n pc ls ((0, y) :: (0, x) :: st) M Φ := by
  obtain ⟨hd, rfl⟩ := hd
  intro p l e R s m args below meth c D cA bs ro H locs lsr C hP hS hL
  refine lv_icmp_lt C.1 C.2.1 (tgt := t) hd (by omega) (fun hc => kt ((mm_i_lt hx0 hy0).mp hc) p l e R s m args below meth c D cA bs ro H locs lsr C hP hS hL) (fun hc => kf (fun h => hc ((mm_i_lt hx0 hy0).mpr h)) p l e R s m args below meth c D cA bs ro H locs lsr C hP hS hL)
theorem mm_icge (hd : mm_Bi Y.2.1 pc q t .ge) (hx0 : mm_R x) (hy0 : mm_R y) (kt : y ≤ x → mm_J X Y n0 n1 n t ls st M Φ) (kf : ¬ (y ≤ x) → mm_J X Y n0 n1 n q ls st M Φ) : mm_J X Y n0 n1 n pc ls ((0, y) :: (0, x) :: st) M Φ := by
  obtain ⟨hd, rfl⟩ := hd
  intro p l e R s m args below meth c D cA bs ro H locs lsr C hP hS hL
  refine lv_icmp_ge C.1 C.2.1 (tgt := t) hd (by omega) (fun hc => kt ((mm_i_le hy0 hx0).mp hc) p l e R s m args below meth c D cA bs ro H locs lsr C hP hS hL) (fun hc => kf (fun h => hc ((mm_i_le hy0 hx0).mpr h)) p l e R s m args below meth c D cA bs ro H locs lsr C hP hS hL)
theorem mm_icgt (hd : mm_Bi Y.2.1 pc q t .gt) (hx0 : mm_R x) (hy0 : mm_R y) (kt : y < x → mm_J X Y n0 n1 n t ls st M Φ) (kf : ¬ (y < x) → mm_J X Y n0 n1 n q ls st M Φ) : mm_J X Y n0 n1 n pc ls ((0, y) :: (0, x) :: st) M Φ := by
  obtain ⟨hd, rfl⟩ := hd
  intro p l e R s m args below meth c D cA bs ro H locs lsr C hP hS hL
  refine lv_icmp_gt C.1 C.2.1 (tgt := t) hd (by omega) (fun hc => kt ((mm_i_lt hy0 hx0).mp hc) p l e R s m args below meth c D cA bs ro H locs lsr C hP hS hL) (fun hc => kf (fun h => hc ((mm_i_lt hy0 hx0).mpr h)) p l e R s m args below meth c D cA bs ro H locs lsr C hP hS hL)
theorem mm_icle (hd : mm_Bi Y.2.1 pc q t .le) (hx0 : mm_R x) (hy0 : mm_R y) (kt : x ≤ y → mm_J X Y n0 n1 n t ls st M Φ) (kf : ¬ (x ≤ y) → mm_J X Y n0 n1 n q ls st M Φ) : mm_J X Y n0 n1 n pc ls ((0, y) :: (0, x) :: st) M Φ := by
  obtain ⟨hd, rfl⟩ := hd
  intro p l e R s m args below meth c D cA bs ro H locs lsr C hP hS hL
  refine lv_icmp_le C.1 C.2.1 (tgt := t) hd (by omega) (fun hc => kt ((mm_i_le hx0 hy0).mp hc) p l e R s m args below meth c D cA bs ro H locs lsr C hP hS hL) (fun hc => kf (fun h => hc ((mm_i_le hx0 hy0).mpr h)) p l e R s m args below meth c D cA bs ro H locs lsr C hP hS hL)
theorem mm_goto (hd : mm_Bg Y.2.1 pc t) (k : mm_J X Y n0 n1 n t ls st M Φ) : mm_J X Y n0 n1 n pc ls st M Φ := by
  refine mm_go (fun p l e R s m args below meth c D cA bs ro H locs lsr cells slots Q hx hb hL kk => ?_) k
  exact lv_goto hx hb hd (by omega) kk
end
end
/-! 12.cells -/
section
/-! ===== locals that are stored, fields, arrays, returns ===== -/
theorem mm_mono {p : Program} {l : Launch} {e : Env} {R : Room} {s : State} {m : MethodId} {args : Array Value} {below : List Frame} {meth : Method} {c : Code} {H : Heap} {locs : List Loc} {cells slots : Nat} {Q Q' : State → Prop} {g : JFrame}
    (k : W p l e R s m args below meth c H locs cells slots Q g) (h : ∀ t, Q t → Q' t) : W p l e R s m args below meth c H locs cells slots Q' g := by
  intro T hT X
  obtain ⟨t, a, b⟩ := k T hT X
  exact ⟨t, a, h t b⟩
def mm_as (bs : Nat) (ro : Nat → Nat) (ls : List mm_V) : List (Nat × Value) := (List.range ls.length).filterMap (fun i => if (ls.getD i (9, 0)).1 = 9 then none else some (i, mm_v bs ro (ls.getD i (9, 0))))
theorem mm_as_mem {bs : Nat} {ro : Nat → Nat} {ls : List mm_V} {i : Nat} {w : Value} : (i, w) ∈ mm_as bs ro ls ↔ ∃ v, ls[i]? = some v ∧ v.1 ≠ 9 ∧ w = mm_v bs ro v := by
  unfold mm_as
  rw [List.mem_filterMap]
  constructor
  · rintro ⟨j, hj, h⟩
    rw [List.mem_range] at hj
    split at h
    · cases h
    · simp only [Option.some.injEq, Prod.mk.injEq] at h
      obtain ⟨rfl, rfl⟩ := h
      have e : ls[j]? = some (ls.getD j (9, 0)) := by simp [hj]
      exact ⟨_, e, by assumption, rfl⟩
  · rintro ⟨v, h1, h2, rfl⟩
    have hj : i < ls.length := (List.getElem?_eq_some_iff.mp h1).1
    have e : ls.getD i (9, 0) = v := by simp [h1]
    exact ⟨i, List.mem_range.mpr hj, by rw [e, if_neg h2]⟩
theorem mm_L.has {bs : Nat} {ro : Nat → Nat} {nL : Nat} {lsr : Array Slot} {ls : List mm_V} (h : mm_L bs ro nL lsr ls) : lv_has lsr nL (mm_as bs ro ls) := by
  refine ⟨h.1, h.2.1, fun q hq => ?_⟩
  obtain ⟨i, w⟩ := q
  obtain ⟨v, h1, h2, rfl⟩ := mm_as_mem.mp hq
  exact h.2.2 i v h1 h2
/-- no long stands right ahead of the place -/
def mm_c1 (ls : List mm_V) (i : Nat) : Bool := i == 0 || (ls.getD (i - 1) (9, 0)).1 != 1
theorem mm_L.st1 {bs : Nat} {ro : Nat → Nat} {nL i : Nat} {lsr : Array Slot} {ls : List mm_V} {v : mm_V} (hv : v.1 ≠ 9) (hc : mm_c1 ls i = true)
    (h : lv_has lsr nL ((i, mm_v bs ro v) :: (mm_as bs ro ls).filter (fun q => !(q.1 == i) && !(q.1 + 1 == i && q.2.category == 2)))) : mm_L bs ro nL lsr (ls.set i v) := by
  refine ⟨h.1, h.2.1, fun j w hj hw => ?_⟩
  by_cases hji : j = i
  · subst hji
    rw [List.getElem?_set] at hj
    split at hj
    · split at hj
      · cases hj
        exact h.2.2 (j, _) List.mem_cons_self
      · cases hj
    · rename_i q; exact absurd rfl q
  · rw [List.getElem?_set_ne (fun q => hji q.symm)] at hj
    refine h.2.2 (j, mm_v bs ro w) (List.mem_cons_of_mem _ (List.mem_filter.mpr ⟨mm_as_mem.mpr ⟨w, hj, hw, rfl⟩, ?_⟩))
    simp only [Bool.and_eq_true, Bool.not_eq_true', beq_eq_false_iff_ne, Bool.and_eq_false_iff, beq_eq_false_iff_ne]
    refine ⟨hji, ?_⟩
    by_cases h1 : j + 1 = i
    · right
      have e : (ls.getD (i - 1) (9, 0)) = w := by
        have : i - 1 = j := by omega
        rw [this]; simp [hj]
      have : w.1 ≠ 1 := by
        unfold mm_c1 at hc
        rw [e] at hc
        simpa [show i ≠ 0 by omega] using hc
      rw [mm_cat1 this]
      decide
    · exact Or.inl h1
theorem mm_L.st2 {bs : Nat} {ro : Nat → Nat} {nL i : Nat} {lsr : Array Slot} {ls : List mm_V} {x : Int} (hc : mm_c1 ls i = true)
    (h : lv_has lsr nL ((i, mm_v bs ro (1, x)) :: (mm_as bs ro ls).filter (fun q => !(q.1 == i) && (!(q.1 == i + 1) && !(q.1 + 1 == i && q.2.category == 2))))) : mm_L bs ro nL lsr ((ls.set i (1, x)).set (i + 1) (9, 0)) := by
  refine ⟨h.1, h.2.1, fun j w hj hw => ?_⟩
  by_cases hj1 : j = i + 1
  · subst hj1
    rw [List.getElem?_set] at hj
    split at hj
    · split at hj
      · cases hj
        exact absurd rfl hw
      · cases hj
    · rename_i q; exact absurd rfl q
  · rw [List.getElem?_set_ne (fun q => hj1 q.symm)] at hj
    by_cases hji : j = i
    · subst hji
      rw [List.getElem?_set] at hj
      split at hj
      · split at hj
        · cases hj
          exact h.2.2 (j, _) List.mem_cons_self
        · cases hj
      · rename_i q; exact absurd rfl q
    · rw [List.getElem?_set_ne (fun q => hji q.symm)] at hj
      refine h.2.2 (j, mm_v bs ro w) (List.mem_cons_of_mem _ (List.mem_filter.mpr ⟨mm_as_mem.mpr ⟨w, hj, hw, rfl⟩, ?_⟩))
      simp only [Bool.and_eq_true, Bool.not_eq_true', beq_eq_false_iff_ne, Bool.and_eq_false_iff, beq_eq_false_iff_ne]
      refine ⟨hji, hj1, ?_⟩
      by_cases h1 : j + 1 = i
      · right
        have e : (ls.getD (i - 1) (9, 0)) = w := by
          have : i - 1 = j := by omega
          rw [this]; simp [hj]
        have : w.1 ≠ 1 := by
          unfold mm_c1 at hc
          rw [e] at hc
          simpa [show i ≠ 0 by omega] using hc
        rw [mm_cat1 this]
        decide
      · exact Or.inl h1
section
variable {X : mm_X} {Y : mm_Y} {n0 n1 n pc q t : Nat} {ls st : List mm_V} {M : mm_M} {Φ : mm_V → mm_M → Prop} {x y : Int}
theorem mm_istore_n {a : Fin 4} (hd : mm_D Y.2.1 pc q (.istore_n a)) (hq : pc + 1 = q) (ha : (a : Nat) < Y.2.2.1) (hc : mm_c1 ls a = true) (k : mm_J X Y n0 n1 n q (ls.set a (0, x)) st M Φ) : mm_J X Y n0 n1 n pc ls ((0, x) :: st) M Φ := by
  subst hq
  intro p l e R s m args below meth c D cA bs ro H locs lsr C hP hS hL
  exact lv_istore_n C.1 C.2.1 (by simpa using hd.1) rfl hL.has ha rfl (fun ls' h => k p l e R s m args below meth c D cA bs ro H locs ls' C hP hS (mm_L.st1 (v := (0, x)) (show (0 : Nat) ≠ 9 by decide) hc h))
theorem mm_istore {a : Nat} (hd : mm_D Y.2.1 pc q (.istore a)) (hq : pc + 2 = q) (ha : a < Y.2.2.1) (hc : mm_c1 ls a = true) (k : mm_J X Y n0 n1 n q (ls.set a (0, x)) st M Φ) : mm_J X Y n0 n1 n pc ls ((0, x) :: st) M Φ := by
  subst hq
  intro p l e R s m args below meth c D cA bs ro H locs lsr C hP hS hL
  exact lv_istore C.1 C.2.1 (by simpa using hd.1) hL.has ha rfl (fun ls' h => k p l e R s m args below meth c D cA bs ro H locs ls' C hP hS (mm_L.st1 (v := (0, x)) (show (0 : Nat) ≠ 9 by decide) hc h))
theorem mm_lstore_n {a : Fin 4} (hd : mm_D Y.2.1 pc q (.lstore_n a)) (hq : pc + 1 = q) (ha : (a : Nat) + 1 < Y.2.2.1) (hc : mm_c1 ls a = true) (k : mm_J X Y n0 n1 n q ((ls.set a (1, x)).set (a + 1) (9, 0)) st M Φ) : mm_J X Y n0 n1 n pc ls ((1, x) :: st) M Φ := by
  subst hq
  intro p l e R s m args below meth c D cA bs ro H locs lsr C hP hS hL
  exact lv_lstore_n C.1 C.2.1 (by simpa using hd.1) rfl hL.has ha rfl (fun ls' h => k p l e R s m args below meth c D cA bs ro H locs ls' C hP hS (mm_L.st2 hc h))
theorem mm_lstore {a : Nat} (hd : mm_D Y.2.1 pc q (.lstore a)) (hq : pc + 2 = q) (ha : a + 1 < Y.2.2.1) (hc : mm_c1 ls a = true) (k : mm_J X Y n0 n1 n q ((ls.set a (1, x)).set (a + 1) (9, 0)) st M Φ) : mm_J X Y n0 n1 n pc ls ((1, x) :: st) M Φ := by
  subst hq
  intro p l e R s m args below meth c D cA bs ro H locs lsr C hP hS hL
  exact lv_lstore C.1 C.2.1 (by simpa using hd.1) hL.has ha rfl (fun ls' h => k p l e R s m args below meth c D cA bs ro H locs ls' C hP hS (mm_L.st2 hc h))
theorem mm_astore_n {a : Fin 4} (hd : mm_D Y.2.1 pc q (.astore_n a)) (hq : pc + 1 = q) (ha : (a : Nat) < Y.2.2.1) (hc : mm_c1 ls a = true) (k : mm_J X Y n0 n1 n q (ls.set a (2, x)) st M Φ) : mm_J X Y n0 n1 n pc ls ((2, x) :: st) M Φ := by
  subst hq
  intro p l e R s m args below meth c D cA bs ro H locs lsr C hP hS hL
  have kk := fun ls' (h : lv_has ls' Y.2.2.1 (((a : Nat), mm_v bs ro (2, x)) :: (mm_as bs ro ls).filter (fun q => !(q.1 == (a : Nat)) && !(q.1 + 1 == (a : Nat) && q.2.category == 2)))) => k p l e R s m args below meth c D cA bs ro H locs ls' C hP hS (mm_L.st1 (v := (2, x)) (show (2 : Nat) ≠ 9 by decide) hc h)
  rw [List.map_cons]
  rcases mm_v2or bs ro x with h | ⟨w, h⟩
  · rw [h] at kk ⊢
    exact lv_astore_nN C.1 C.2.1 (by simpa using hd.1) rfl hL.has ha rfl kk
  · rw [h] at kk ⊢
    exact lv_astore_n C.1 C.2.1 (by simpa using hd.1) rfl hL.has ha rfl kk
theorem mm_astore {a : Nat} (hd : mm_D Y.2.1 pc q (.astore a)) (hq : pc + 2 = q) (ha : a < Y.2.2.1) (hc : mm_c1 ls a = true) (k : mm_J X Y n0 n1 n q (ls.set a (2, x)) st M Φ) : mm_J X Y n0 n1 n pc ls ((2, x) :: st) M Φ := by
  subst hq
  intro p l e R s m args below meth c D cA bs ro H locs lsr C hP hS hL
  have kk := fun ls' (h : lv_has ls' Y.2.2.1 ((a, mm_v bs ro (2, x)) :: (mm_as bs ro ls).filter (fun q => !(q.1 == a) && !(q.1 + 1 == a && q.2.category == 2)))) => k p l e R s m args below meth c D cA bs ro H locs ls' C hP hS (mm_L.st1 (v := (2, x)) (show (2 : Nat) ≠ 9 by decide) hc h)
  rw [List.map_cons]
  rcases mm_v2or bs ro x with h | ⟨w, h⟩
  · rw [h] at kk ⊢
    exact lv_astoreN C.1 C.2.1 (by simpa using hd.1) hL.has ha rfl kk
  · rw [h] at kk ⊢
    exact lv_astore C.1 C.2.1 (by simpa using hd.1) hL.has ha rfl kk
theorem mm_iinc {a : Nat} {b : Int} (hd : mm_D Y.2.1 pc q (.iinc a b)) (hq : pc + 3 = q) (hl : ls[a]? = some (0, x)) (ha : a < Y.2.2.1) (hc : mm_c1 ls a = true) (k : mm_J X Y n0 n1 n q (ls.set a (0, x + b)) st M Φ) : mm_J X Y n0 n1 n pc ls st M Φ := by
  subst hq
  intro p l e R s m args below meth c D cA bs ro H locs lsr C hP hS hL
  have hm : (a, mm_v bs ro (0, x)) ∈ mm_as bs ro ls := mm_as_mem.mpr ⟨_, hl, show (0 : Nat) ≠ 9 by decide, rfl⟩
  obtain ⟨j, hj⟩ := List.getElem?_of_mem hm
  exact lv_iinc C.1 C.2.1 (v := mm_i (x + b)) (by simpa using hd.1) hL.has hj (mm_i_add x b) ha rfl (fun ls' h => k p l e R s m args below meth c D cA bs ro H locs ls' C hP hS (mm_L.st1 (v := (0, x + b)) (show (0 : Nat) ≠ 9 by decide) hc h))
end
end
/-! 13.heap -/
section
/-! ===== fields and arrays ===== -/
def mm_Wk (w : Jvm.Cond) : Prop := w ∈ lw_tbl ∧ goodWord w = true
theorem mm_T.at {args : Array Value} {s : State} (h : mm_T args s) {w : Jvm.Cond} (hw : mm_Wk w) : w.before args s = true := h w hw.1 hw.2
/-- a class of the world: its fields stand in the tables -/
def mm_Cl (ci : Nat) (C : String) (T : u_T) (N : Nat) (ty : Nat → FieldType) : Prop :=
  vwCl[ci]? = some (C, T, N) ∧ mm_nf ci = N ∧ (∀ w ∈ u_ws C T N, mm_Wk w) ∧ (∀ k, k < N → parseFieldDescriptor (T k).2.2.1 = some (ty k)) ∧ (∀ a, a < N → ∀ b, b < N → a ≠ b → (T a).2.1 ≠ (T b).2.1)
/-- the entry idx of the class own is the field i of the class ci -/
def mm_F (own : String) (idx ci i : Nat) (fin : Bool) (t : FieldType) : Prop :=
  ∃ (C : String) (T : u_T) (N : Nat) (ty : Nat → FieldType), mm_Cl ci C T N ty ∧ i < N ∧ mm_Wk (.fieldLink own idx (T i).1 (T i).2.1 (T i).2.2.1) ∧ (T i).2.2.2 = fin ∧ ty i = t
def mm_up (M : mm_M) (c i : Nat) (v : Int) : mm_M := fun a b => if a = c ∧ b = i then v else M a b
theorem mm_up_s (M : mm_M) (c i : Nat) (v : Int) : mm_up M c i v c i = v := by simp [mm_up]
theorem mm_up_n {M : mm_M} {c i a b : Nat} {v : Int} (h : ¬ (a = c ∧ b = i)) : mm_up M c i v a b = M a b := by simp [mm_up, h]
theorem mm_up_c {M : mm_M} {c i a b : Nat} {v : Int} (h : a ≠ c) : mm_up M c i v a b = M a b := mm_up_n (fun q => h q.1)
theorem mm_up_i {M : mm_M} {c i a b : Nat} {v : Int} (h : b ≠ i) : mm_up M c i v a b = M a b := mm_up_n (fun q => h q.2)
section
variable {D : va_G} {cA : Nat → ClassId} {bs n : Nat} {ro : Nat → Nat} {M M' : mm_M} {H H' : Heap} {c : Nat}
theorem mm_ce.obj {ci : Nat} (hs : mm_sh c = (0, ci)) (h : mm_ce D cA bs ro M c H) : t_OB (bs + c) (D.1 ci) (mm_nf ci) (D.2 ci) H (fun i => mm_v bs ro (mm_fk ci i, M c i)) := by
  unfold mm_ce at h
  rw [hs] at h
  exact h
theorem mm_ce.arr {t len : Nat} (hs : mm_sh c = (t + 1, len)) (h : mm_ce D cA bs ro M c H) : H[bs + c]? = some (arrV (cA t) len (fun j => mm_v bs ro (mm_ek t, M c j))) := by
  unfold mm_ce at h
  rw [hs] at h
  exact h
theorem mm_ce.of_obj {ci : Nat} (hs : mm_sh c = (0, ci)) (h : t_OB (bs + c) (D.1 ci) (mm_nf ci) (D.2 ci) H (fun i => mm_v bs ro (mm_fk ci i, M c i))) : mm_ce D cA bs ro M c H := by
  unfold mm_ce
  rw [hs]
  exact h
theorem mm_ce.of_arr {t len : Nat} (hs : mm_sh c = (t + 1, len)) (h : H[bs + c]? = some (arrV (cA t) len (fun j => mm_v bs ro (mm_ek t, M c j)))) : mm_ce D cA bs ro M c H := by
  unfold mm_ce
  rw [hs]
  exact h
theorem mm_ce.keep (h : mm_ce D cA bs ro M c H) (hM : M' c = M c) (hH : H'[bs + c]? = H[bs + c]?) : mm_ce D cA bs ro M' c H' := by
  unfold mm_ce at h ⊢
  split
  · next ci e =>
    rw [e] at h
    rw [hM]
    exact t_OB.kept h hH
  · next t len e =>
    rw [e] at h
    rw [hM, hH]
    exact h
theorem mm_Wd.put (h : mm_Wd D cA bs ro n M H) (z : H'.size = H.size) (oq : ∀ q, q ≠ bs + c → H'[q]? = H[q]?) (hM : ∀ a, a ≠ c → M' a = M a) (hc : mm_ce D cA bs ro M' c H') : mm_Wd D cA bs ro n M' H' := by
  refine ⟨z.trans h.1, fun a ha => ?_⟩
  by_cases e : a = c
  · subst e; exact hc
  · exact (h.2 a ha).keep (hM a e) (oq _ (by omega))
theorem mm_up_row {i a : Nat} {v : Int} (h : a ≠ c) : mm_up M c i v a = M a := by
  funext b
  exact mm_up_c h
end
theorem mm_shA (c : Nat) {t len : Nat} (h : mm_sh c = (t + 1, len)) : len ≤ 100000 ∧ t < 5 := by
  have hc : c < mm_sl.length := by
    rcases Nat.lt_or_ge c mm_sl.length with q | q
    · exact q
    · have e : mm_sh c = (0, 99) := by simp [mm_sh, List.getD, List.getElem?_eq_none q]
      rw [e] at h
      simp only [Prod.mk.injEq] at h
      exfalso
      omega
  have key : ∀ c, c < mm_sl.length → (mm_sh c).2 ≤ 100000 ∧ (mm_sh c).1 < 6 := by decide +kernel
  have := key c hc
  rw [h] at this
  omega
section
variable {X : mm_X} {Y : mm_Y} {n0 n1 n pc q t c ci i idx len kd : Nat} {ls st : List mm_V} {M : mm_M} {Φ : mm_V → mm_M → Prop} {x y r j : Int}
theorem mm_get {fin : Bool} {ty : FieldType} (hd : mm_D Y.2.1 pc q (.getfield idx)) (hq : pc + 3 = q) (hf : mm_F Y.1.cls idx ci i fin ty) (hr : r = (c : Int) + 1) (hc : c < n) (hs : mm_sh c = (0, ci)) (hk : mm_fk ci i = kd)
    (k : mm_J X Y n0 n1 n q ls ((kd, M c i) :: st) M Φ) : mm_J X Y n0 n1 n pc ls ((2, r) :: st) M Φ := by
  subst hq; subst hr; subst hk
  intro p l e R s m args below meth cd D cA bs ro H locs lsr Cx hP hS hL
  obtain ⟨hx, hb, -, -, hown, hT, -, -, -, -, -, -, -, hK, -, -⟩ := id Cx
  obtain ⟨C, T, N, ty0, ⟨h1, h2, h3, h4, h5⟩, hi, hw, -, -⟩ := hf
  obtain ⟨cell, q1, q2, q3, q4⟩ := (hP.2 c hc).obj hs
  obtain ⟨hS1, hfc, kC, hkC, hkind⟩ := hK.1 ci _ h1
  obtain ⟨cf, kf, fi, f, hfi, hsl⟩ := hS1 i hi
  have hts : ∀ w ∈ u_ws C T N, w.before args s = true := fun w hw' => hT.at (h3 w hw')
  rw [List.map_cons, mm_v2]
  refine W.getf hx hb hown (hT.at hw) hfi (u_facts hfc hkC (u_lays hts (fun _ h => h) hi) hfi).1 q1 (by rw [q3]; exact fun h => by cases h) (v := mm_v bs ro (mm_fk ci i, M c i)) ?_ rfl rfl (by simpa using hd.1) (k p l e R s m args below meth cd D cA bs ro H locs lsr Cx hP hS hL)
  rw [hsl, q4 i (by rw [h2]; exact hi)]
theorem mm_put {ty : FieldType} (hd : mm_D Y.2.1 pc q (.putfield idx)) (hq : pc + 3 = q) (hf : mm_F Y.1.cls idx ci i false ty) (hr : r = (c : Int) + 1) (hc : c < n) (hs : mm_sh c = (0, ci)) (hk : mm_fk ci i = kd)
    (hn : ∀ bs ro, narrow ty (mm_v bs ro (kd, x)) = mm_v bs ro (kd, x) ∧ fits ty (mm_v bs ro (kd, x)) = true)
    (k : mm_J X Y n0 n1 n q ls st (mm_up M c i x) Φ) : mm_J X Y n0 n1 n pc ls ((kd, x) :: (2, r) :: st) M Φ := by
  subst hq; subst hr
  intro p l e R s m args below meth cd D cA bs ro H locs lsr Cx hP hS hL
  obtain ⟨hx, hb, -, -, hown, hT, -, -, -, -, -, -, -, hK, -, -⟩ := id Cx
  obtain ⟨C, T, N, ty0, ⟨h1, h2, h3, h4, h5⟩, hi, hw, hfin, rfl⟩ := hf
  obtain ⟨cell, q1, q2, q3, q4⟩ := (hP.2 c hc).obj hs
  obtain ⟨hS1, hfc, kC, hkC, hkind⟩ := hK.1 ci _ h1
  obtain ⟨cf, kf, fi, f, hfi, hsl⟩ := hS1 i hi
  have hts : ∀ w ∈ u_ws C T N, w.before args s = true := fun w hw' => hT.at (h3 w hw')
  have hap := va_apart (own := Y.1.cls) hts (fun _ h => h) ty0 h4 h5 hK h1
  have hlay := hts _ (u_in_lay hi)
  unfold u_lay at hlay
  rw [if_neg (by rw [hfin]; decide)] at hlay
  have hst := (u_facts hfc hkC (u_lays hts (fun _ h => h) hi) hfi).1
  obtain ⟨hn1, hn2⟩ := hn bs ro
  have h6 := u_store hfc hkC hkind hlay hfi (h4 i hi) hn1 hn2
  have hi' : i < mm_nf ci := by rw [h2]; exact hi
  rw [List.map_cons, List.map_cons, mm_v2]
  refine W.putK hx hb (f := f) ⟨hown, hT.at hw, ⟨_, _, _, hfi⟩, hst⟩ (by rw [q2]; exact h6) q1 q3 (by rw [hsl]; exact k2_hasslot (q4 i hi')) rfl rfl (by simpa using hd.1) fun H' e1 e2 e3 => ?_
  rw [hsl] at e1 ⊢
  refine k p l e R s m args below meth cd D cA bs ro H' _ lsr Cx (hP.put e2 e3 (fun a ha => mm_up_row ha) (mm_ce.of_obj hs ⟨_, e1, q2, q3, fun a ha => ?_⟩)) (hS.put e2 e3 (Nat.le_add_right bs c)) hL
  have := t_set q4 (by rw [h2]; exact hap) hi' (mm_v bs ro (kd, x)) a ha
  rw [this]
  congr 1
  unfold updV
  by_cases ea : a = i
  · subst ea; rw [if_pos rfl]; show _ = mm_v bs ro (_, mm_up M c a x c a); rw [mm_up_s, hk]
  · rw [if_neg ea]; show _ = mm_v bs ro (_, mm_up M c i x c a); rw [mm_up_i ea]
/-- a load from an array of the world -/
theorem mm_aln (hd : mm_D Y.2.1 pc q .arraylength) (hq : pc + 1 = q) (hr : r = (c : Int) + 1) (hc : c < n) (hs : mm_sh c = (t + 1, len)) (k : mm_J X Y n0 n1 n q ls ((0, (len : Int)) :: st) M Φ) : mm_J X Y n0 n1 n pc ls ((2, r) :: st) M Φ := by
  subst hq; subst hr
  intro p l e R s m args below meth cd D cA bs ro H locs lsr Cx hP hS hL
  obtain ⟨hx, hb, -, -, hown, hT, -, -, -, -, -, -, -, hK, -, -⟩ := id Cx
  have ha := (hP.2 c hc).arr hs
  rw [List.map_cons, mm_v2]
  refine W.alen hx hb (n := mm_i (len : Int)) ha ((hK.2 t _ (mm_ty_at cA (mm_shA c hs).2)).1 len _) ?_ rfl rfl (by simpa using hd.1) (k p l e R s m args below meth cd D cA bs ro H locs lsr Cx hP hS hL)
  rw [arrV_size]
  exact (Int32.ofInt_eq_ofNat).symm
theorem mm_iald (hd : mm_D Y.2.1 pc q .iaload) (hq : pc + 1 = q) (hr : r = (c : Int) + 1) (hc : c < n) (hs : mm_sh c = (1, len)) (h0 : 0 ≤ j) (h1 : j < len) (k : mm_J X Y n0 n1 n q ls ((0, M c j.toNat) :: st) M Φ) : mm_J X Y n0 n1 n pc ls ((0, j) :: (2, r) :: st) M Φ := by
  subst hq; subst hr
  intro p l e R s m args below meth cd D cA bs ro H locs lsr Cx hP hS hL
  obtain ⟨hx, hb, -, -, hown, hT, -, -, -, -, -, -, -, hK, -, -⟩ := id Cx
  have ha := (hP.2 c hc).arr hs
  have hl := (mm_shA c hs).1
  rw [List.map_cons, List.map_cons, mm_v2]
  refine W.iald hx hb (v := mm_v bs ro (0, M c j.toNat)) ha ((hK.2 0 _ rfl).1 len _) (fun h => by cases h) (by rw [arrV_size]; exact mm_i_in h0 h1 (by omega)) ?_ rfl rfl (by simpa using hd.1) (k p l e R s m args below meth cd D cA bs ro H locs lsr Cx hP hS hL)
  rw [mm_i_clamp h0 (by omega), arrV_read _ _ (by omega)]
  rfl
theorem mm_bald (hd : mm_D Y.2.1 pc q .baload) (hq : pc + 1 = q) (hr : r = (c : Int) + 1) (hc : c < n) (hs : mm_sh c = (2, len)) (h0 : 0 ≤ j) (h1 : j < len) (k : mm_J X Y n0 n1 n q ls ((0, M c j.toNat) :: st) M Φ) : mm_J X Y n0 n1 n pc ls ((0, j) :: (2, r) :: st) M Φ := by
  subst hq; subst hr
  intro p l e R s m args below meth cd D cA bs ro H locs lsr Cx hP hS hL
  obtain ⟨hx, hb, -, -, hown, hT, -, -, -, -, -, -, -, hK, -, -⟩ := id Cx
  have ha := (hP.2 c hc).arr hs
  have hl := (mm_shA c hs).1
  rw [List.map_cons, List.map_cons, mm_v2]
  refine W.bald hx hb (v := mm_v bs ro (0, M c j.toNat)) ha ((hK.2 1 _ rfl).1 len _) (fun h => by cases h) (by rw [arrV_size]; exact mm_i_in h0 h1 (by omega)) ?_ rfl rfl (by simpa using hd.1) (k p l e R s m args below meth cd D cA bs ro H locs lsr Cx hP hS hL)
  rw [mm_i_clamp h0 (by omega), arrV_read _ _ (by omega)]
  rfl
theorem mm_zald (hd : mm_D Y.2.1 pc q .baload) (hq : pc + 1 = q) (hr : r = (c : Int) + 1) (hc : c < n) (hs : mm_sh c = (3, len)) (h0 : 0 ≤ j) (h1 : j < len) (k : mm_J X Y n0 n1 n q ls ((0, M c j.toNat) :: st) M Φ) : mm_J X Y n0 n1 n pc ls ((0, j) :: (2, r) :: st) M Φ := by
  subst hq; subst hr
  intro p l e R s m args below meth cd D cA bs ro H locs lsr Cx hP hS hL
  obtain ⟨hx, hb, -, -, hown, hT, -, -, -, -, -, -, -, hK, -, -⟩ := id Cx
  have ha := (hP.2 c hc).arr hs
  have hl := (mm_shA c hs).1
  rw [List.map_cons, List.map_cons, mm_v2]
  refine W.zald hx hb (v := mm_v bs ro (0, M c j.toNat)) ha ((hK.2 2 _ rfl).1 len _) (fun h => by cases h) (by rw [arrV_size]; exact mm_i_in h0 h1 (by omega)) ?_ rfl rfl (by simpa using hd.1) (k p l e R s m args below meth cd D cA bs ro H locs lsr Cx hP hS hL)
  rw [mm_i_clamp h0 (by omega), arrV_read _ _ (by omega)]
  rfl
theorem mm_lald (hd : mm_D Y.2.1 pc q .laload) (hq : pc + 1 = q) (hr : r = (c : Int) + 1) (hc : c < n) (hs : mm_sh c = (4, len)) (h0 : 0 ≤ j) (h1 : j < len) (k : mm_J X Y n0 n1 n q ls ((1, M c j.toNat) :: st) M Φ) : mm_J X Y n0 n1 n pc ls ((0, j) :: (2, r) :: st) M Φ := by
  subst hq; subst hr
  intro p l e R s m args below meth cd D cA bs ro H locs lsr Cx hP hS hL
  obtain ⟨hx, hb, -, -, hown, hT, -, -, -, -, -, -, -, hK, -, -⟩ := id Cx
  have ha := (hP.2 c hc).arr hs
  have hl := (mm_shA c hs).1
  rw [List.map_cons, List.map_cons, mm_v2]
  refine W.lald hx hb (v := mm_v bs ro (1, M c j.toNat)) ha ((hK.2 3 _ rfl).1 len _) (fun h => by cases h) (by rw [arrV_size]; exact mm_i_in h0 h1 (by omega)) ?_ rfl rfl (by simpa using hd.1) (k p l e R s m args below meth cd D cA bs ro H locs lsr Cx hP hS hL)
  rw [mm_i_clamp h0 (by omega), arrV_read _ _ (by omega)]
  rfl
theorem mm_aald (hd : mm_D Y.2.1 pc q .aaload) (hq : pc + 1 = q) (hr : r = (c : Int) + 1) (hc : c < n) (hs : mm_sh c = (5, len)) (h0 : 0 ≤ j) (h1 : j < len) (k : mm_J X Y n0 n1 n q ls ((2, M c j.toNat) :: st) M Φ) : mm_J X Y n0 n1 n pc ls ((0, j) :: (2, r) :: st) M Φ := by
  subst hq; subst hr
  intro p l e R s m args below meth cd D cA bs ro H locs lsr Cx hP hS hL
  obtain ⟨hx, hb, -, -, hown, hT, -, -, -, -, -, -, -, hK, -, -⟩ := id Cx
  have ha := (hP.2 c hc).arr hs
  have hl := (mm_shA c hs).1
  rw [List.map_cons, List.map_cons, mm_v2]
  refine W.aald hx hb (v := mm_v bs ro (2, M c j.toNat)) ha ((hK.2 4 _ rfl).1 len _) rfl (fun h => by cases h) (by rw [arrV_size]; exact mm_i_in h0 h1 (by omega)) ?_ rfl rfl (by simpa using hd.1) (k p l e R s m args below meth cd D cA bs ro H locs lsr Cx hP hS hL)
  rw [mm_i_clamp h0 (by omega), arrV_read _ _ (by omega)]
  rfl
end
end
/-! 14.store -/
section
/-! ===== stores into arrays, what is only read, returns ===== -/
section
variable {X : mm_X} {Y : mm_Y} {n0 n1 n pc q t c ci i idx len kd : Nat} {ls st : List mm_V} {M : mm_M} {Φ : mm_V → mm_M → Prop} {x y r j : Int}
theorem mm_arr_put {D : va_G} {cA : Nat → ClassId} {bs : Nat} {ro : Nat → Nat} {H H' : Heap} {a : Nat} {v : Value} (hs : mm_sh c = (t + 1, len)) (hP : mm_Wd D cA bs ro n M H) (hv : v = mm_v bs ro (mm_ek t, x))
    (e1 : H'[bs + c]? = some ((arrV (cA t) len (fun j => mm_v bs ro (mm_ek t, M c j))).setSlot a v)) (e2 : H'.size = H.size) (e3 : ∀ q, q ≠ bs + c → H'[q]? = H[q]?) : mm_Wd D cA bs ro n (mm_up M c a x) H' := by
  refine hP.put e2 e3 (fun b hb => mm_up_row hb) (mm_ce.of_arr hs ?_)
  rw [e1, arrV_store, hv]
  congr 2
  funext b
  unfold updV
  by_cases eb : b = a
  · subst eb; rw [if_pos rfl, mm_up_s]
  · rw [if_neg eb, mm_up_i eb]
theorem mm_iast (hd : mm_D Y.2.1 pc q .iastore) (hq : pc + 1 = q) (hr : r = (c : Int) + 1) (hc : c < n) (hs : mm_sh c = (1, len)) (h0 : 0 ≤ j) (h1 : j < len) (k : mm_J X Y n0 n1 n q ls st (mm_up M c j.toNat x) Φ) : mm_J X Y n0 n1 n pc ls ((0, x) :: (0, j) :: (2, r) :: st) M Φ := by
  subst hq; subst hr
  intro p l e R s m args below meth cd D cA bs ro H locs lsr Cx hP hS hL
  obtain ⟨hx, hb, -, -, hown, hT, -, -, -, -, -, -, -, hK, -, -⟩ := id Cx
  have ha := (hP.2 c hc).arr hs
  have hl := (mm_shA c hs).1
  rw [List.map_cons, List.map_cons, List.map_cons, mm_v2]
  refine W.iast hx hb ha ((hK.2 0 _ rfl).1 len _) (fun h => by cases h) (by rw [arrV_size]; exact mm_i_in h0 h1 (by omega)) rfl rfl (by simpa using hd.1) fun H' e1 e2 e3 => ?_
  rw [mm_i_clamp h0 (by omega)] at e1 ⊢
  exact k p l e R s m args below meth cd D cA bs ro H' _ lsr Cx (mm_arr_put (t := 0) hs hP rfl e1 e2 e3) (hS.put e2 e3 (Nat.le_add_right bs c)) hL
theorem mm_bast (hd : mm_D Y.2.1 pc q .bastore) (hq : pc + 1 = q) (hr : r = (c : Int) + 1) (hc : c < n) (hs : mm_sh c = (2, len)) (h0 : 0 ≤ j) (h1 : j < len) (hb0 : -128 ≤ x ∧ x ≤ 127) (k : mm_J X Y n0 n1 n q ls st (mm_up M c j.toNat x) Φ) : mm_J X Y n0 n1 n pc ls ((0, x) :: (0, j) :: (2, r) :: st) M Φ := by
  subst hq; subst hr
  intro p l e R s m args below meth cd D cA bs ro H locs lsr Cx hP hS hL
  obtain ⟨hx, hb, -, -, hown, hT, -, -, -, -, -, -, -, hK, -, -⟩ := id Cx
  have ha := (hP.2 c hc).arr hs
  have hl := (mm_shA c hs).1
  rw [List.map_cons, List.map_cons, List.map_cons, mm_v2]
  refine W.bast hx hb ha ((hK.2 1 _ rfl).1 len _) (fun h => by cases h) (by rw [arrV_size]; exact mm_i_in h0 h1 (by omega)) rfl rfl (by simpa using hd.1) fun H' e1 e2 e3 => ?_
  rw [mm_i_clamp h0 (by omega)] at e1 ⊢
  refine k p l e R s m args below meth cd D cA bs ro H' _ lsr Cx (mm_arr_put (t := 1) hs hP ?_ e1 e2 e3) (hS.put e2 e3 (Nat.le_add_right bs c)) hL
  show Value.int (mm_i x).toInt8.toInt32 = Value.int (mm_i x)
  congr 1
  rw [← Int32.toInt_inj, Int8.toInt_toInt32, Int32.toInt_toInt8, mm_i_to (by omega)]
  exact Int.bmod_eq_of_le (by omega) (by omega)
theorem mm_zast (hd : mm_D Y.2.1 pc q .bastore) (hq : pc + 1 = q) (hr : r = (c : Int) + 1) (hc : c < n) (hs : mm_sh c = (3, len)) (h0 : 0 ≤ j) (h1 : j < len) (hb0 : x = 0 ∨ x = 1) (k : mm_J X Y n0 n1 n q ls st (mm_up M c j.toNat x) Φ) : mm_J X Y n0 n1 n pc ls ((0, x) :: (0, j) :: (2, r) :: st) M Φ := by
  subst hq; subst hr
  intro p l e R s m args below meth cd D cA bs ro H locs lsr Cx hP hS hL
  obtain ⟨hx, hb, -, -, hown, hT, -, -, -, -, -, -, -, hK, -, -⟩ := id Cx
  have ha := (hP.2 c hc).arr hs
  have hl := (mm_shA c hs).1
  rw [List.map_cons, List.map_cons, List.map_cons, mm_v2]
  refine W.zast hx hb ha ((hK.2 2 _ rfl).1 len _) (fun h => by cases h) (by rw [arrV_size]; exact mm_i_in h0 h1 (by omega)) rfl rfl (by simpa using hd.1) fun H' e1 e2 e3 => ?_
  rw [mm_i_clamp h0 (by omega)] at e1 ⊢
  refine k p l e R s m args below meth cd D cA bs ro H' _ lsr Cx (mm_arr_put (t := 2) hs hP ?_ e1 e2 e3) (hS.put e2 e3 (Nat.le_add_right bs c)) hL
  rcases hb0 with rfl | rfl <;> rfl
theorem mm_last (hd : mm_D Y.2.1 pc q .lastore) (hq : pc + 1 = q) (hr : r = (c : Int) + 1) (hc : c < n) (hs : mm_sh c = (4, len)) (h0 : 0 ≤ j) (h1 : j < len) (k : mm_J X Y n0 n1 n q ls st (mm_up M c j.toNat x) Φ) : mm_J X Y n0 n1 n pc ls ((1, x) :: (0, j) :: (2, r) :: st) M Φ := by
  subst hq; subst hr
  intro p l e R s m args below meth cd D cA bs ro H locs lsr Cx hP hS hL
  obtain ⟨hx, hb, -, -, hown, hT, -, -, -, -, -, -, -, hK, -, -⟩ := id Cx
  have ha := (hP.2 c hc).arr hs
  have hl := (mm_shA c hs).1
  rw [List.map_cons, List.map_cons, List.map_cons, mm_v2]
  refine W.last hx hb ha ((hK.2 3 _ rfl).1 len _) (fun h => by cases h) (by rw [arrV_size]; exact mm_i_in h0 h1 (by omega)) rfl rfl (by simpa using hd.1) fun H' e1 e2 e3 => ?_
  rw [mm_i_clamp h0 (by omega)] at e1 ⊢
  exact k p l e R s m args below meth cd D cA bs ro H' _ lsr Cx (mm_arr_put (t := 3) hs hP rfl e1 e2 e3) (hS.put e2 e3 (Nat.le_add_right bs c)) hL
/-- a load from the script, or from a constant table -/
theorem mm_roT {bs : Nat} {ro : Nat → Nat} {s : State} {k : Nat} (h : mm_Ro X bs ro s) (hk : 1 ≤ k ∧ k ≤ 7) : va_T .int (ro k) (mm_rc X k).1 (fun j => .int (mm_i ((mm_rc X k).2 j))) (fun q => bs ≤ q) s s.heap := by
  rcases Nat.eq_or_lt_of_le hk.1 with e | e
  · subst e; exact h.1
  · have := (h.2.1 (k - 2) (by omega)).2
    have e2 : k - 2 + 2 = k := by omega
    rw [e2] at this
    have e3 : (mm_rc X k).1 = 10 := by
      unfold mm_rc
      split
      · omega
      · rfl
    rw [e3]
    exact this
theorem mm_iaro {k0 : Nat} (hd : mm_D Y.2.1 pc q .iaload) (hq : pc + 1 = q) (hr : r = -(k0 : Int)) (hk : 1 ≤ k0 ∧ k0 ≤ 7) (h0 : 0 ≤ j) (h1 : j < ((mm_rc X k0).1 : Int)) (hlt : (mm_rc X k0).1 ≤ 2147483647) (k : mm_J X Y n0 n1 n q ls ((0, (mm_rc X k0).2 j.toNat) :: st) M Φ) : mm_J X Y n0 n1 n pc ls ((0, j) :: (2, r) :: st) M Φ := by
  subst hq; subst hr
  intro p l e R s m args below meth cd D cA bs ro H locs lsr Cx hP hS hL
  obtain ⟨hx, hb, -, -, hown, hT, -, -, -, -, -, -, -, hK, hRo, -⟩ := id Cx
  obtain ⟨cell, g1, g2, g3, g4, g5, g6, g7⟩ := mm_roT hRo hk
  have hb2 : ro k0 < s.heap.size := (Array.getElem?_eq_some_iff.mp g1).1
  rw [List.map_cons, List.map_cons, mm_v2n _ _ _ (by omega)]
  refine W.iald hx hb (v := .int (mm_i ((mm_rc X k0).2 j.toNat))) (by rw [hS.2.1 _ hb2 g7]; exact g1) g2 g3 ?_ ?_ rfl rfl (by simpa using hd.1) (k p l e R s m args below meth cd D cA bs ro H locs lsr Cx hP hS hL)
  · have := mm_i_in h0 h1 hlt
    intro h
    apply this
    rcases h with h | h
    · exact Or.inl h
    · exact Or.inr (Nat.le_trans g4 h)
  · rw [mm_i_clamp h0 (by omega)]
    exact g6 _ (by omega)
theorem mm_alro {k0 : Nat} (hd : mm_D Y.2.1 pc q .arraylength) (hq : pc + 1 = q) (hr : r = -(k0 : Int)) (hk : 1 ≤ k0 ∧ k0 ≤ 7) (k : mm_J X Y n0 n1 n q ls ((0, ((mm_rc X k0).1 : Int)) :: st) M Φ) : mm_J X Y n0 n1 n pc ls ((2, r) :: st) M Φ := by
  subst hq; subst hr
  intro p l e R s m args below meth cd D cA bs ro H locs lsr Cx hP hS hL
  obtain ⟨hx, hb, -, -, hown, hT, -, -, -, -, -, -, -, hK, hRo, -⟩ := id Cx
  obtain ⟨cell, g1, g2, g3, g4, g5, g6, g7⟩ := mm_roT hRo hk
  have hb2 : ro k0 < s.heap.size := (Array.getElem?_eq_some_iff.mp g1).1
  rw [List.map_cons, mm_v2n _ _ _ (by omega)]
  refine W.alen hx hb (n := mm_i (((mm_rc X k0).1 : Nat) : Int)) (by rw [hS.2.1 _ hb2 g7]; exact g1) g2 ?_ rfl rfl (by simpa using hd.1) (k p l e R s m args below meth cd D cA bs ro H locs lsr Cx hP hS hL)
  rw [g5]
  exact (Int32.ofInt_eq_ofNat).symm
/-- a constant table, by its static field -/
theorem mm_gets {k0 : Nat} (hd : mm_D Y.2.1 pc q (.getstatic idx)) (hq : pc + 3 = q) (hk : k0 < 6) (hw : mm_Wk (.fieldLink Y.1.cls idx (mm_ct.getD k0 ("", "", [])).1 (mm_ct.getD k0 ("", "", [])).2.1 "[I")) (k : mm_J X Y n0 n1 n q ls ((2, -((k0 + 2 : Nat) : Int)) :: st) M Φ) : mm_J X Y n0 n1 n pc ls st M Φ := by
  subst hq
  intro p l e R s m args below meth cd D cA bs ro H locs lsr Cx hP hS hL
  obtain ⟨hx, hb, -, -, hown, hT, -, -, -, -, -, -, -, hK, hRo, -⟩ := id Cx
  have kk := k p l e R s m args below meth cd D cA bs ro H locs lsr Cx hP hS hL
  rw [List.map_cons, mm_v2n _ _ _ (by omega)] at kk
  exact va_gets hx hb (hRo.2.1 k0 hk).1 hS hown (hT.at hw) (fun _ h => h) (by simpa using hd.1) kk
/-- the constants of the pool -/
theorem mm_ldc {v : Int} (hd : mm_D Y.2.1 pc q (.ldc idx)) (hq : pc + 2 = q) (hw : mm_Wk (.constant Y.1.cls idx (mm_i v))) (k : mm_J X Y n0 n1 n q ls ((0, v) :: st) M Φ) : mm_J X Y n0 n1 n pc ls st M Φ := by
  subst hq
  intro p l e R s m args below meth cd D cA bs ro H locs lsr Cx hP hS hL
  obtain ⟨hx, hb, -, -, hown, hT, -, -, -, -, -, -, -, hK, hRo, -⟩ := id Cx
  exact lv_ldc hx hb hown (hT.at hw) (by simpa using hd.1) (k p l e R s m args below meth cd D cA bs ro H locs lsr Cx hP hS hL)
theorem mm_ldcw {v : Int} (hd : mm_D Y.2.1 pc q (.ldc_w idx)) (hq : pc + 3 = q) (hw : mm_Wk (.constant Y.1.cls idx (mm_i v))) (k : mm_J X Y n0 n1 n q ls ((0, v) :: st) M Φ) : mm_J X Y n0 n1 n pc ls st M Φ := by
  subst hq
  intro p l e R s m args below meth cd D cA bs ro H locs lsr Cx hP hS hL
  obtain ⟨hx, hb, -, -, hown, hT, -, -, -, -, -, -, -, hK, hRo, -⟩ := id Cx
  exact lv_ldcw hx hb hown (hT.at hw) (by simpa using hd.1) (k p l e R s m args below meth cd D cA bs ro H locs lsr Cx hP hS hL)
theorem mm_ldc2 {v : Int} (hd : mm_D Y.2.1 pc q (.ldc2_w idx)) (hq : pc + 3 = q) (hw : mm_Wk (.constantLong Y.1.cls idx (mm_l v))) (k : mm_J X Y n0 n1 n q ls ((1, v) :: st) M Φ) : mm_J X Y n0 n1 n pc ls st M Φ := by
  subst hq
  intro p l e R s m args below meth cd D cA bs ro H locs lsr Cx hP hS hL
  obtain ⟨hx, hb, -, -, hown, hT, -, -, -, -, -, -, -, hK, hRo, -⟩ := id Cx
  exact lv_ldc2 hx hb hown (hT.at hw) (by simpa using hd.1) (k p l e R s m args below meth cd D cA bs ro H locs lsr Cx hP hS hL)
/-- the ends -/
theorem mm_end {p : Program} {R : Room} {s : State} {m : MethodId} {args : Array Value} {below : List Frame} {meth : Method} {cd : Code} {D : va_G} {cA : Nat → ClassId} {bs : Nat} {ro : Nat → Nat} {H : Heap} {locs : List Loc} {rv : mm_V} {o : Outcome} (ho : mm_oc bs ro rv o) (hP : mm_Wd D cA bs ro n1 M H) (hS : va_S (fun q => bs ≤ q) s.heap H locs) (hΦ : Φ rv M) :
    ∀ t : State, MQ below (fun _ _ o' t => o' = o ∧ t.heap = H) args s (n1 - n0) (mm_sz n1 - mm_sz n0) (fun q => bs ≤ q) t → mm_E D cA bs ro n0 n1 Φ below s t := by
  rintro t ⟨o', h1, h2, ⟨rfl, h4⟩, L, ⟨-, h6, h7⟩, h8⟩
  exact ⟨o', rv, M, L, h1, h2, ho, hΦ, by rw [h4]; exact hP, hS.F h4, h6, h7, h8⟩
theorem mm_iret (hd : mm_D Y.2.1 pc q .ireturn) (hq : pc + 1 = q) (hr : Y.2.2.2.1 = some .int) (hΦ : Φ (0, x) M) : mm_J X Y n0 n n pc ls [(0, x)] M Φ := by
  subst hq
  intro p l e R s m args below meth cd D cA bs ro H locs lsr Cx hP hS hL
  obtain ⟨hx, hb, hrt, -, hown, hT, hlk, -, -, -, -, -, -, hK, hRo, -⟩ := id Cx
  refine mm_mono (W.iret (Qc := fun _ _ o' t => o' = .returned (some (.int (mm_i x))) ∧ t.heap = H) (free := fun q => bs ≤ q) hx hb (hrt.trans hr) (fun t h1 h2 => ⟨rfl, h1⟩) hS.2.2 (by simpa using hd.1) hlk) (mm_end (p := p) (R := R) (m := m) (meth := meth) (cd := cd) (rv := (0, x)) rfl hP hS hΦ)
theorem mm_zret (hd : mm_D Y.2.1 pc q .ireturn) (hq : pc + 1 = q) (hr : Y.2.2.2.1 = some .boolean) (hz : x = 0 ∨ x = 1) (hΦ : Φ (0, x) M) : mm_J X Y n0 n n pc ls [(0, x)] M Φ := by
  subst hq
  intro p l e R s m args below meth cd D cA bs ro H locs lsr Cx hP hS hL
  obtain ⟨hx, hb, hrt, -, hown, hT, hlk, -, -, -, -, -, -, hK, hRo, -⟩ := id Cx
  refine mm_mono (W.zret (Qc := fun _ _ o' t => o' = .returned (some (.int (mm_i x))) ∧ t.heap = H) (free := fun q => bs ≤ q) hx hb (hrt.trans hr) (by rcases hz with rfl | rfl <;> rfl) (fun t h1 h2 => ⟨rfl, h1⟩) hS.2.2 (by simpa using hd.1) hlk) (mm_end (p := p) (R := R) (m := m) (meth := meth) (cd := cd) (rv := (0, x)) rfl hP hS hΦ)
theorem mm_lret (hd : mm_D Y.2.1 pc q .lreturn) (hq : pc + 1 = q) (hr : Y.2.2.2.1 = some .long) (hΦ : Φ (1, x) M) : mm_J X Y n0 n n pc ls [(1, x)] M Φ := by
  subst hq
  intro p l e R s m args below meth cd D cA bs ro H locs lsr Cx hP hS hL
  obtain ⟨hx, hb, hrt, -, hown, hT, hlk, -, -, -, -, -, -, hK, hRo, -⟩ := id Cx
  refine mm_mono (W.lret (Qc := fun _ _ o' t => o' = .returned (some (.long (mm_l x))) ∧ t.heap = H) (free := fun q => bs ≤ q) hx hb (hrt.trans hr) (fun t h1 h2 => ⟨rfl, h1⟩) hS.2.2 (by simpa using hd.1) hlk) (mm_end (p := p) (R := R) (m := m) (meth := meth) (cd := cd) (rv := (1, x)) rfl hP hS hΦ)
theorem mm_vret (hd : mm_D Y.2.1 pc q .return_) (hq : pc + 1 = q) (hr : Y.2.2.2.1 = none) (hΦ : Φ (3, 0) M) : mm_J X Y n0 n n pc ls [] M Φ := by
  subst hq
  intro p l e R s m args below meth cd D cA bs ro H locs lsr Cx hP hS hL
  obtain ⟨hx, hb, hrt, -, hown, hT, hlk, -, -, -, -, -, -, hK, hRo, -⟩ := id Cx
  refine mm_mono (W.vret (Qc := fun _ _ o' t => o' = .returned none ∧ t.heap = H) (free := fun q => bs ≤ q) hx hb (hrt.trans hr) (fun t h1 h2 => ⟨rfl, h1⟩) hS.2.2 (by simpa using hd.1) hlk) (mm_end (p := p) (R := R) (m := m) (meth := meth) (cd := cd) (rv := (3, 0)) rfl hP hS hΦ)
theorem mm_aret {rt : FieldType} (hd : mm_D Y.2.1 pc q .areturn) (hq : pc + 1 = q) (hr : Y.2.2.2.1 = some rt) (hrt2 : (∃ n, rt = .object n) ∨ ∃ t, rt = .array t) (hΦ : Φ (2, x) M) : mm_J X Y n0 n n pc ls [(2, x)] M Φ := by
  subst hq
  intro p l e R s m args below meth cd D cA bs ro H locs lsr Cx hP hS hL
  obtain ⟨hx, hb, hrt, -, hown, hT, hlk, -, -, -, -, -, -, hK, hRo, -⟩ := id Cx
  refine mm_mono (W.aret (v := mm_v bs ro (2, x)) (Qc := fun _ _ o' t => o' = .returned (some (mm_v bs ro (2, x))) ∧ t.heap = H) (free := fun q => bs ≤ q) hx hb (hrt.trans hr) hrt2 (mm_v2or bs ro x) (fun t h1 h2 => ⟨rfl, h1⟩) hS.2.2 (by simpa using hd.1) hlk) (mm_end (p := p) (R := R) (m := m) (meth := meth) (cd := cd) (rv := (2, x)) rfl hP hS hΦ)
end
end
/-! 15.call -/
section
/-! ===== calls ===== -/
def mm_dbl : List mm_V → List mm_V
  | [] => []
  | v :: vs => if v.1 = 1 then v :: (9, 0) :: mm_dbl vs else v :: mm_dbl vs
/-- the locals with which a method begins -/
def mm_pad (n : Nat) (as : List mm_V) : List mm_V := mm_dbl as ++ List.replicate (n - (mm_dbl as).length) (9, 0)
/-- the method Y, called with these values on this memory with n0 cells, comes back with n1 cells so that Ψ -/
def mm_C (X : mm_X) (Y : mm_Y) (n0 n1 : Nat) (as : List mm_V) (M : mm_M) (Ψ : mm_V → mm_M → Prop) : Prop := mm_J X Y n0 n1 n0 0 (mm_pad Y.2.2.1 as) [] M Ψ
def mm_wd : List mm_V → Nat
  | [] => 0
  | v :: vs => (if v.1 = 1 then 2 else 1) + mm_wd vs
/-- the word that pins a method's code -/
def mm_cw (Y : mm_Y) : Jvm.Cond := match Y.2.2.2.2.2.2 with
  | [] => .code Y.1 Y.2.1 Y.2.2.1 Y.2.2.2.1
  | h :: hs => .codeWith Y.1 Y.2.1 Y.2.2.1 Y.2.2.2.1 (h :: hs)
theorem mm_cw_spec {Y : mm_Y} {args : Array Value} {s : State} (h : (mm_cw Y).before args s = true) : ∃ m meth c, s.methodNamed? Y.1 = some m ∧ s.vm.method? m = some meth ∧ meth.code = some c ∧ c.code = Y.2.1 ∧ c.maxLocals = Y.2.2.1 ∧ mm_Hd c Y.2.2.2.2.2.2 ∧ meth.sig.returnType = Y.2.2.2.1 ∧ meth.locks = false ∧ parseMethodDescriptor Y.1.desc = some meth.sig := by
  unfold mm_cw at h
  split at h
  · next e =>
    obtain ⟨m, hn⟩ := Cond.code_named h
    obtain ⟨meth, c, h1, h2, h3, h4, h5, h6, h7, h8⟩ := Cond.code_spec hn h
    refine ⟨m, meth, c, hn, h1, h2, h3, h4, ?_, h5, h6, h8⟩
    unfold mm_Hd
    rw [e]
    have : c.exceptionTable = #[] := by simpa using h7
    rw [this]
    rfl
  · next a b e =>
    obtain ⟨m, meth, c, h1, h2, h3, h4, h5, h6, h7, h8, h9⟩ := Cond.codeWith_spec h
    exact ⟨m, meth, c, h1, h2, h3, h4, h5, by unfold mm_Hd; rw [e]; exact h6, h7, h8, h9⟩
theorem mm_cat (bs : Nat) (ro : Nat → Nat) (v : mm_V) : (mm_v bs ro v).category = if v.1 = 1 then 2 else 1 := by
  by_cases h : v.1 = 1
  · obtain ⟨t, x⟩ := v
    cases h
    rfl
  · rw [mm_cat1 h, if_neg h]
theorem mm_wd_eq (bs : Nat) (ro : Nat → Nat) (st : List mm_V) : ((st.map (mm_v bs ro)).map fun v => v.category).sum = mm_wd st := by
  induction st with
  | nil => rfl
  | cons v vs ih => rw [List.map_cons, List.map_cons, List.sum_cons, ih, mm_cat]; rfl
def mm_slot (bs : Nat) (ro : Nat → Nat) (v : mm_V) : Slot := if v.1 = 9 then .second else .val (mm_v bs ro v)
theorem mm_sl_eq (bs : Nat) (ro : Nat → Nat) (as : List mm_V) (h : ∀ v ∈ as, v.1 ≠ 9) : lg_sl (as.map (mm_v bs ro)) = (mm_dbl as).map (mm_slot bs ro) := by
  induction as with
  | nil => rfl
  | cons v vs ih =>
    have h9 : v.1 ≠ 9 := h v List.mem_cons_self
    have ih := ih (fun w hw => h w (List.mem_cons_of_mem _ hw))
    have e : lg_sl ((v :: vs).map (mm_v bs ro)) = (if (mm_v bs ro v).category = 2 then [Slot.val (mm_v bs ro v), .second] else [.val (mm_v bs ro v)]) ++ lg_sl (vs.map (mm_v bs ro)) := by
      simp only [lg_sl, List.map_cons, List.flatMap_cons]
    rw [e, ih]
    by_cases h1 : v.1 = 1
    · rw [mm_cat, if_pos h1, if_pos rfl]
      simp only [mm_dbl, if_pos h1, List.map_cons, mm_slot, if_neg h9]
      rfl
    · rw [mm_cat, if_neg h1, if_neg (by decide)]
      simp only [mm_dbl, if_neg h1, List.map_cons, mm_slot, if_neg h9]
      rfl
theorem mm_entry (bs : Nat) (ro : Nat → Nat) (as : List mm_V) {n : Nat} (h : ∀ v ∈ as, v.1 ≠ 9) (hn : (mm_dbl as).length ≤ n) : mm_L bs ro n ((lg_sl (as.map (mm_v bs ro)) ++ List.replicate (n - (lg_sl (as.map (mm_v bs ro))).length) Slot.unset).toArray) (mm_pad n as) := by
  have hl : (lg_sl (as.map (mm_v bs ro))).length = (mm_dbl as).length := by rw [mm_sl_eq bs ro as h, List.length_map]
  have he := lv_entry (as.map (mm_v bs ro)) (n := n) (by rw [hl]; exact hn)
  refine ⟨he.1, he.2.1, fun i v hi hv => ?_⟩
  rw [hl, mm_sl_eq bs ro as h, List.getElem?_toArray]
  unfold mm_pad at hi
  rcases Nat.lt_or_ge i (mm_dbl as).length with q | q
  · rw [List.getElem?_append_left q] at hi
    rw [List.getElem?_append_left (by rw [List.length_map]; exact q), List.getElem?_map, hi]
    show some (mm_slot bs ro v) = _
    unfold mm_slot
    rw [if_neg hv]
  · rw [List.getElem?_append_right q] at hi
    have : v = (9, 0) := by
      have := List.mem_of_getElem? hi
      exact (List.mem_replicate.mp this).2
    rw [this] at hv
    exact absurd rfl hv
theorem mm_weaken {tb : Tables} {e : Env} {mid below : List Frame} {a b : State} (h : Steps tb e (mid ++ below) a b) : Steps tb e below a b := by
  obtain ⟨n, hn, hw⟩ := h
  exact ⟨n, hn, fun k hk => (hw k hk).weaken⟩
theorem mm_T.on {args a' : Array Value} {s U : State} (h : mm_T args s) (hW : s.WarmedH U.vm) : mm_T a' U := fun w hw hg => word_at hW (good_of_word hg) (h w hw hg)
theorem mm_Ro.on {X : mm_X} {bs : Nat} {ro : Nat → Nat} {s U : State} (h : mm_Ro X bs ro s) (hW : s.WarmedH U.vm) (hq : ∀ a : Nat, a < s.heap.size → ¬ bs ≤ a → U.heap[a]? = s.heap[a]?) : mm_Ro X bs ro U := by
  have hv := hW.alike
  refine ⟨(h.1.moved hv).kept hq, fun k hk => ⟨((h.2.1 k hk).1.moved hv).kept hq, ((h.2.1 k hk).2.moved hv).kept hq⟩, (h.2.2.1.moved hv).kept hq, fun k hk => ?_, fun q hq => va_Nw.warmM hW (h.2.2.2.2.1 q hq), va_AO.moved hv h.2.2.2.2.2.1, fun j hj => (h.2.2.2.2.2.2 j hj).imp (fun z => (z.moved hv).kept hq) (fun z => (z.moved hv).kept hq)⟩
  obtain ⟨h1, h2, h3, h4, h5⟩ := h.2.2.2.1 k hk
  exact ⟨h1.warm hW, (h2.moved hv).kept hq, (h3.moved hv).kept hq, (h4.moved hv).kept hq, (h5.moved hv).kept hq⟩
end
/-! 16.callx -/
section
/-- what a call may lead to: nothing, a value, or what was thrown (and no handler) -/
def mm_Kc (X : mm_X) (Y : mm_Y) (n0 n1 n' q : Nat) (ls st : List mm_V) (Φ : mm_V → mm_M → Prop) (r : mm_V) (M' : mm_M) : Prop := match r.1 with
  | 0 => mm_J X Y n0 n1 n' q ls (r :: st) M' Φ
  | 1 => mm_J X Y n0 n1 n' q ls (r :: st) M' Φ
  | 2 => mm_J X Y n0 n1 n' q ls (r :: st) M' Φ
  | 3 => mm_J X Y n0 n1 n' q ls st M' Φ
  | 4 => Y.2.2.2.2.2.2 = [] ∧ n' = n1 ∧ Φ r M'
  | _ => False
def mm_le (n0 n n' n1 : Nat) : Prop := n0 ≤ n ∧ n ≤ n' ∧ n' ≤ n1 ∧ mm_sz n0 ≤ mm_sz n ∧ mm_sz n ≤ mm_sz n' ∧ mm_sz n' ≤ mm_sz n1
theorem mm_le_rf (n : Nat) : mm_le n n n n := ⟨Nat.le_refl _, Nat.le_refl _, Nat.le_refl _, Nat.le_refl _, Nat.le_refl _, Nat.le_refl _⟩
/-- the room that a method of the system wants -/
def mm_rm (Y : mm_Y) (n0 n1 : Nat) : Room := { frames := Y.2.2.2.2.1, cells := n1 - n0, slots := mm_sz n1 - mm_sz n0, locals := Y.2.2.2.2.2.1 }
set_option maxHeartbeats 1000000 in
theorem mm_callx {X : mm_X} {Y Y' : mm_Y} {n0 n1 n n' pc q : Nat} {ls st as : List mm_V} {M : mm_M} {Φ Ψ : mm_V → mm_M → Prop}
    {p : Program} {l : Launch} {e : Env} {R : Room} {s : State} {m : MethodId} {args : Array Value} {below : List Frame} {meth : Method} {c : Code} {D : va_G} {cA : Nat → ClassId} {bs : Nat} {ro : Nat → Nat} {H : Heap} {locs : List Loc} {lsr : Array Slot} {rst : List Value} {ig : Instr}
    (Cx : mm_Cx X Y n0 n1 p R s m args meth c D cA bs ro) (hP : mm_Wd D cA bs ro n M H) (hS : va_S (fun q => bs ≤ q) s.heap H locs) (hL : mm_L bs ro Y.2.2.1 lsr ls)
    (hn : mm_le n0 n n' n1) (hpl : plainName Y'.1.cls = true) (h9 : ∀ v ∈ as, v.1 ≠ 9) (hpad : (mm_dbl as).length ≤ Y'.2.2.1) (hcw : (mm_cw Y').before args s = true) (hgw : goodWord (mm_cw Y') = true)
    (hfr : Y'.2.2.2.2.1 + 1 ≤ Y.2.2.2.2.1) (hlo : mm_wd st + (Y'.2.2.1 + 11) + Y'.2.2.2.2.2.1 ≤ Y.2.2.2.2.2.1)
    (hd : decode Y.2.1 pc = .ok (ig, 3)) (hq : pc + 3 = q)
    (hlk : ∀ T : State, T.heap = H → Stand p l e R s m args below meth c T locs (n - n0) (mm_sz n - mm_sz n0) → ∃ vm₁ mk, Stand p l e R s m args below meth c (T.setVm vm₁) locs (n - n0) (mm_sz n - mm_sz n0) ∧ s.methodNamed? Y'.1 = some mk ∧
      ∀ target, (∀ acts, Steps p.tables e below (doInvoke e ((T.setVm vm₁).setTop (F0 m pc lsr (st.map (mm_v bs ro)))) acts mk (as.map (mm_v bs ro)).toArray).1 target) → Steps p.tables e below (T.setTop (F0 m pc lsr rst)) target)
    (hC : mm_C X Y' n n' as M Ψ) (hk : ∀ r M', Ψ r M' → mm_Kc X Y n0 n1 n' q ls st Φ r M') :
    W p l e R s m args below meth c H locs (n - n0) (mm_sz n - mm_sz n0) (mm_E D cA bs ro n0 n1 Φ below s) (F0 m pc lsr rst) := by
  subst hq
  intro T hT X0
  obtain ⟨vm₁, mk, X1, hnamed, hst⟩ := hlk T hT X0
  obtain ⟨hx, hb, hrt, hml, hown, hTb, hlocks, hname, hHd, hRf, hRl, hRc, hRs, hK, hRo, hsz⟩ := id Cx
  obtain ⟨mk', methk, ck, g1, g2, g3, g4, g5, g6, g7, g8, g9⟩ := mm_cw_spec hcw
  cases hnamed.symm.trans g1
  have hW1 := X1.warmed
  have hmk : (T.setVm vm₁).vm.method? mk = some methk := by
    have := hW1.alike.method? mk
    rw [this]; exact g2
  have hplk : (T.setVm vm₁).plainMethod mk := by
    refine State.plainMethod.of_name ?_
    intro k hk1
    obtain ⟨k', hk', hn'⟩ := className_of_methodNamed (X1.named hnamed)
    cases hk1.symm.trans hk'
    rw [hn']; exact hpl
  have hdg : decode c.code (F0 m pc lsr (st.map (mm_v bs ro))).pc = .ok (ig, 3) := by rw [hb]; exact hd
  have hsize : (F0 m pc lsr (st.map (mm_v bs ro))).locals.size = c.maxLocals := by rw [hml]; exact hL.1
  obtain ⟨q1, q2, q3, q4, q5, q6⟩ := id hn
  obtain ⟨XI, hin⟩ := X1.into (g := F0 m pc lsr (st.map (mm_v bs ro))) rfl hsize hdg (as.map (mm_v bs ro)).toArray (R' := mm_rm Y' n n') hmk g3 g8 hplk
    (by show Y'.2.2.2.2.1 + 1 ≤ R.frames; omega) (by
      show 2 * 0 + ((st.map (mm_v bs ro)).map fun v => v.category).sum + (ck.maxLocals + 11) + Y'.2.2.2.2.2.1 ≤ R.locals
      rw [mm_wd_eq, g5]; omega) (by show n - n0 + (n' - n) ≤ R.cells; omega) (by show mm_sz n - mm_sz n0 + (mm_sz n' - mm_sz n) ≤ R.slots; omega)
  rw [g5] at XI
  have hin : ∀ acts, (doInvoke e ((T.setVm vm₁).setTop (F0 m pc lsr (st.map (mm_v bs ro)))) acts mk (as.map (mm_v bs ro)).toArray).1 = _ := fun acts => by rw [hin acts, g5]
  have hWc : s.WarmedH ((T.setVm vm₁).calling (F0 m pc lsr (st.map (mm_v bs ro))) mk (as.map (mm_v bs ro)).toArray).vm := hW1
  have hhc : ((T.setVm vm₁).calling (F0 m pc lsr (st.map (mm_v bs ro))) mk (as.map (mm_v bs ro)).toArray).heap = H := hT
  have hfn : ((T.setVm vm₁).calling (F0 m pc lsr (st.map (mm_v bs ro))) mk (as.map (mm_v bs ro)).toArray).methodNamed? Y'.1 = some mk := X1.named hnamed
  have CxI : mm_Cx X Y' n n' p (mm_rm Y' n n') ((T.setVm vm₁).calling (F0 m pc lsr (st.map (mm_v bs ro))) mk (as.map (mm_v bs ro)).toArray) mk (as.map (mm_v bs ro)).toArray methk ck D cA bs ro := by
    refine ⟨hx, g4, g7, g5, findClass_of_methodNamed hfn, hTb.on hWc, g8, (name_of_methodNamed hfn hmk).1, g6, Nat.le_refl _, Nat.le_refl _, Nat.le_refl _, Nat.le_refl _, va_K.moved hWc.alike hK, hRo.on hWc (fun a h1 h2 => ?_), ?_⟩
    · rw [hhc]; exact hS.2.1 a h1 h2
    · rw [hhc]; exact hP.1
  have key := hC p l e (mm_rm Y' n n') _ mk _ (.java (F0 m pc lsr (st.map (mm_v bs ro))) :: below) methk ck D cA bs ro H [] _ CxI hP (by rw [hhc]; exact va_S.rf) (mm_entry bs ro as h9 hpad)
  rw [List.map_nil, ← lg_entry_eq, Nat.sub_self, Nat.sub_self] at key
  obtain ⟨t, ht, o, r, M', L, k1, k2, k3, k4, k5, k6, k7, k8, k9⟩ := (fun hh => key _ hh XI) hT
  have hsteps : Steps p.tables e below (T.setTop (F0 m pc lsr rst)) t := hst t (fun acts => by
    rw [hin acts]
    exact mm_weaken (mid := [.java (F0 m pc lsr (st.map (mm_v bs ro)))]) ht)
  have hS' : ∀ T' : State, T'.heap = t.heap → va_S (fun q => bs ≤ q) s.heap T'.heap (locs ++ L) := by
    intro T' e'
    have hF : va_F (fun q => bs ≤ q) ((T.setVm vm₁).calling (F0 m pc lsr (st.map (mm_v bs ro))) mk (as.map (mm_v bs ro)).toArray) t := k6
    obtain ⟨f1, f2⟩ := hF
    rw [hhc] at f1 f2
    refine ⟨by rw [e']; exact Nat.le_trans hS.1 f1, fun a h1 h2 => ?_, fun a ha => ?_⟩
    · rw [e', f2 a (Nat.lt_of_lt_of_le h1 hS.1) h2]
      exact hS.2.1 a h1 h2
    · rcases List.mem_append.mp ha with h | h
      · exact hS.2.2 a h
      · exact k9 a h
  have hcnt : n - n0 + (n' - n) = n' - n0 := by omega
  have hcns : mm_sz n - mm_sz n0 + (mm_sz n' - mm_sz n) = mm_sz n' - mm_sz n0 := by omega
  have hkk := hk r M' k4
  obtain ⟨tag, x⟩ := r
  have ret : ∀ (v : Option Value) (st' : List mm_V), o = .returned v → v.toList ++ st.map (mm_v bs ro) = st'.map (mm_v bs ro) → mm_J X Y n0 n1 n' (pc + 3) ls st' M' Φ → ∃ t, Steps p.tables e below (T.setTop (F0 m pc lsr rst)) t ∧ mm_E D cA bs ro n0 n1 Φ below s t := by
    intro v st' ho hv hJ
    subst ho
    obtain ⟨T', X', -, -, hte⟩ := X1.outOf rfl hdg k2 k7 k8
    have hheap : T'.heap = t.heap := by rw [hte]; rfl
    rw [hcnt, hcns] at X'
    have hPT : mm_Wd D cA bs ro n' M' T'.heap := by rw [hheap]; exact k5
    obtain ⟨t2, a1, b1⟩ := hJ p l e R s m args below meth c D cA bs ro T'.heap (locs ++ L) lsr Cx hPT (hS' T' hheap) hL T' rfl X'
    refine ⟨t2, hsteps.trans ?_, b1⟩
    rw [hte]
    rw [← hv] at a1
    exact a1
  match tag, hkk, k3 with
  | 0, hkk, k3 => exact ret _ ((0, x) :: st) k3 rfl hkk
  | 1, hkk, k3 => exact ret _ ((1, x) :: st) k3 rfl hkk
  | 2, hkk, k3 => exact ret _ ((2, x) :: st) k3 rfl hkk
  | 3, hkk, k3 => exact ret _ st k3 rfl hkk
  | 4, hkk, k3 =>
    obtain ⟨h1, rfl, h3⟩ := hkk
    have k3 : o = .threw (mm_ad bs ro x) := k3
    subst k3
    obtain ⟨T', X', -, -, hte⟩ := X1.outOfThrown rfl k2 k7 k8
    have hheap : T'.heap = t.heap := by rw [hte]; rfl
    rw [hcnt, hcns] at X'
    have hno : ∀ y ∈ c.exceptionTable.toList, covers y (F0 m pc lsr (st.map (mm_v bs ro))).pc = false := by
      have : c.exceptionTable.toList = [] := by
        have h := hHd
        unfold mm_Hd at h
        rw [h1] at h
        exact List.map_eq_nil_iff.mp h
      rw [this]
      intro y hy
      cases hy
    obtain ⟨u1, u2, u3, u4, u5⟩ := X'.leaveThrown (mm_ad bs ro x) (g := F0 m pc lsr (st.map (mm_v bs ro))) rfl rfl rfl hno hlocks
    refine ⟨_, hsteps.trans (by rw [hte]; exact u1), .threw (mm_ad bs ro x), (4, x), M', locs ++ L, u2, u3, rfl, h3, ?_, ?_, u4, u5, ?_⟩
    · show mm_Wd D cA bs ro n' M' T'.heap
      rw [hheap]; exact k5
    · exact va_S.F (H := T'.heap) (hS' T' hheap) rfl
    · exact (hS' T' hheap).2.2
end
