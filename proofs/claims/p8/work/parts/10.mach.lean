/-! ===== the small machine: numbers are whole numbers, references are numbers of cells ===== -/
abbrev mm_M : Type := Nat → Nat → Int
/-- a value: (0, x) an int, (1, x) a long, (2, x) a reference (0 null, c + 1 the cell c, below 0 what is only read), (3, 0) nothing, (4, x) thrown, (9, 0) unset -/
abbrev mm_V : Type := Nat × Int
abbrev mm_X : Type := Nat × (Nat → Int)
/-- a method: its name, its code, its locals, what it returns, its frames and words, its handlers -/
abbrev mm_Y : Type := MethodName × ByteArray × Nat × Option FieldType × Nat × Nat × List (Nat × Nat × Nat × Nat)
def mm_i (x : Int) : Int32 := Int32.ofInt x
def mm_l (x : Int) : Int64 := Int64.ofInt x
abbrev mm_R (x : Int) : Prop := -2147483648 ≤ x ∧ x ≤ 2147483647
abbrev mm_RL (x : Int) : Prop := -9223372036854775808 ≤ x ∧ x ≤ 9223372036854775807
theorem mm_i_add (x y : Int) : mm_i x + mm_i y = mm_i (x + y) := (Int32.ofInt_add x y).symm
theorem mm_i_sub (x y : Int) : mm_i x - mm_i y = mm_i (x - y) := (Int32.ofInt_sub x y).symm
theorem mm_i_mul (x y : Int) : mm_i x * mm_i y = mm_i (x * y) := (Int32.ofInt_mul x y).symm
theorem mm_i_neg (x : Int) : -mm_i x = mm_i (-x) := (Int32.ofInt_neg x).symm
theorem mm_l_add (x y : Int) : mm_l x + mm_l y = mm_l (x + y) := (Int64.ofInt_add x y).symm
theorem mm_l_sub (x y : Int) : mm_l x - mm_l y = mm_l (x - y) := (Int64.ofInt_sub x y).symm
theorem mm_l_mul (x y : Int) : mm_l x * mm_l y = mm_l (x * y) := (Int64.ofInt_mul x y).symm
theorem mm_l_neg (x : Int) : -mm_l x = mm_l (-x) := (Int64.ofInt_neg x).symm
theorem mm_i_to {x : Int} (h : mm_R x) : (mm_i x).toInt = x := Int32.toInt_ofInt_of_le (by omega) (by omega)
theorem mm_l_to {x : Int} (h : mm_RL x) : (mm_l x).toInt = x := Int64.toInt_ofInt_of_le (by omega) (by omega)
theorem mm_i_of (v : Int32) : mm_i v.toInt = v := Int32.ofInt_toInt v
theorem mm_i_R (v : Int32) : mm_R v.toInt := ⟨Int32.le_toInt v, by have := Int32.toInt_lt v; omega⟩
theorem mm_l_of (v : Int64) : mm_l v.toInt = v := Int64.ofInt_toInt v
theorem mm_i_inj {x y : Int} (hx : mm_R x) (hy : mm_R y) : mm_i x = mm_i y ↔ x = y := by
  rw [← Int32.toInt_inj, mm_i_to hx, mm_i_to hy]
theorem mm_i_le {x y : Int} (hx : mm_R x) (hy : mm_R y) : mm_i x ≤ mm_i y ↔ x ≤ y := by
  rw [Int32.le_iff_toInt_le, mm_i_to hx, mm_i_to hy]
theorem mm_i_lt {x y : Int} (hx : mm_R x) (hy : mm_R y) : mm_i x < mm_i y ↔ x < y := by
  rw [Int32.lt_iff_toInt_lt, mm_i_to hx, mm_i_to hy]
theorem mm_l_inj {x y : Int} (hx : mm_RL x) (hy : mm_RL y) : mm_l x = mm_l y ↔ x = y := by
  rw [← Int64.toInt_inj, mm_l_to hx, mm_l_to hy]
theorem mm_l_lt {x y : Int} (hx : mm_RL x) (hy : mm_RL y) : mm_l x < mm_l y ↔ x < y := by
  rw [Int64.lt_iff_toInt_lt, mm_l_to hx, mm_l_to hy]
theorem mm_i_0 : mm_i 0 = 0 := rfl
theorem mm_i_clamp {x : Int} (h0 : 0 ≤ x) (h : mm_R x) : (mm_i x).toNatClampNeg = x.toNat := by
  rw [Int32.toNatClampNeg, mm_i_to h]
theorem mm_i_in {x : Int} {n : Nat} (h0 : 0 ≤ x) (h1 : x < n) (hn : n ≤ 2147483647) : ¬ (mm_i x < 0 ∨ n ≤ (mm_i x).toNatClampNeg) := by
  have hR : mm_R x := ⟨by omega, by omega⟩
  rw [mm_i_clamp h0 hR, ← mm_i_0, mm_i_lt hR ⟨by omega, by omega⟩]
  omega
theorem mm_i_div {x y : Int} (hx : mm_R x) (hy : mm_R y) (h0 : y ≠ 0) : mm_i x / mm_i y = mm_i (x.tdiv y) := by
  rw [← Int32.toInt_inj, Int32.toInt_div, mm_i_to hx, mm_i_to hy, mm_i, Int32.toInt_ofInt]
theorem mm_l_div {x y : Int} (hx : mm_RL x) (hy : mm_RL y) (h0 : y ≠ 0) : mm_l x / mm_l y = mm_l (x.tdiv y) := by
  rw [← Int64.toInt_inj, Int64.toInt_div, mm_l_to hx, mm_l_to hy, mm_l, Int64.toInt_ofInt]
theorem mm_i_rem {x y : Int} (hx : mm_R x) (hy : mm_R y) (h0 : y ≠ 0) : mm_i x - mm_i x / mm_i y * mm_i y = mm_i (x.tmod y) := by
  rw [mm_i_div hx hy h0, mm_i_mul, mm_i_sub, Int.tmod_def, Int.mul_comm]
theorem mm_i_i2l {x : Int} (hx : mm_R x) : (mm_i x).toInt64 = mm_l x := by
  rw [← Int64.toInt_inj, Int32.toInt_toInt64, mm_i_to hx, mm_l_to (by omega)]
theorem mm_i_l2i (x : Int) : (mm_l x).toInt32 = mm_i x := by
  rw [← Int32.toInt_inj, Int64.toInt_toInt32, mm_l, mm_i, Int64.toInt_ofInt, Int32.toInt_ofInt]
  exact Int.bmod_bmod_of_dvd (by decide)
def mm_ad (bs : Nat) (ro : Nat → Nat) (x : Int) : Nat := if 0 < x then bs + (x.toNat - 1) else ro (-x).toNat
def mm_rf (bs : Nat) (ro : Nat → Nat) (x : Int) : Value := if x = 0 then .null else .ref (mm_ad bs ro x)
def mm_v (bs : Nat) (ro : Nat → Nat) (q : mm_V) : Value := match q.1 with
  | 0 => .int (mm_i q.2)
  | 1 => .long (mm_l q.2)
  | _ => mm_rf bs ro q.2
theorem mm_v0 (bs : Nat) (ro : Nat → Nat) (x : Int) : mm_v bs ro (0, x) = .int (mm_i x) := rfl
theorem mm_v1 (bs : Nat) (ro : Nat → Nat) (x : Int) : mm_v bs ro (1, x) = .long (mm_l x) := rfl
theorem mm_v2 (bs : Nat) (ro : Nat → Nat) (c : Nat) : mm_v bs ro (2, (c : Int) + 1) = .ref (bs + c) := by
  show mm_rf bs ro _ = _
  rw [mm_rf, if_neg (by omega), mm_ad, if_pos (by omega)]
  congr 1
theorem mm_v2n (bs : Nat) (ro : Nat → Nat) (k : Nat) (h : 0 < k) : mm_v bs ro (2, -(k : Int)) = .ref (ro k) := by
  show mm_rf bs ro _ = _
  rw [mm_rf, if_neg (by omega), mm_ad, if_neg (by omega)]
  congr 2
  omega
theorem mm_v20 (bs : Nat) (ro : Nat → Nat) : mm_v bs ro (2, 0) = .null := rfl
theorem mm_v2or (bs : Nat) (ro : Nat → Nat) (x : Int) : mm_v bs ro (2, x) = .null ∨ ∃ a, mm_v bs ro (2, x) = .ref a := by
  show mm_rf bs ro x = _ ∨ ∃ a, mm_rf bs ro x = _
  unfold mm_rf
  split
  · exact Or.inl rfl
  · exact Or.inr ⟨_, rfl⟩
theorem mm_cat1 {bs : Nat} {ro : Nat → Nat} {q : mm_V} (h : q.1 ≠ 1) : (mm_v bs ro q).category = 1 := by
  obtain ⟨t, x⟩ := q
  match t, h with
  | 0, _ => rfl
  | 1, h => exact absurd rfl h
  | t + 2, _ =>
    show (mm_rf bs ro x).category = 1
    unfold mm_rf
    split <;> rfl
theorem mm_cat2 {bs : Nat} {ro : Nat → Nat} {x : Int} : (mm_v bs ro (1, x)).category = 2 := rfl
/-- the kind of an array's elements -/
def mm_ek (t : Nat) : Nat := if t = 3 then 1 else if t = 4 then 2 else 0
def mm_ce (D : va_G) (cA : Nat → ClassId) (bs : Nat) (ro : Nat → Nat) (M : mm_M) (c : Nat) (H : Heap) : Prop :=
  match mm_sh c with
  | (0, ci) => t_OB (bs + c) (D.1 ci) (mm_nf ci) (D.2 ci) H (fun i => mm_v bs ro (mm_fk ci i, M c i))
  | (t + 1, n) => H[bs + c]? = some (arrV (cA t) n (fun j => mm_v bs ro (mm_ek t, M c j)))
/-- the heap holds the first n cells of the world, with M in them, from the address bs on, and nothing behind them -/
def mm_Wd (D : va_G) (cA : Nat → ClassId) (bs : Nat) (ro : Nat → Nat) (n : Nat) (M : mm_M) (H : Heap) : Prop := H.size = bs + n ∧ ∀ c, c < n → mm_ce D cA bs ro M c H
def mm_ty (cA : Nat → ClassId) : List (ClassId × FieldType) := [(cA 0, .int), (cA 1, .byte), (cA 2, .boolean), (cA 3, .long), (cA 4, .object "KitePower$Row")]
def mm_et (t : Nat) : FieldType := match t with
  | 0 => .int
  | 1 => .byte
  | 2 => .boolean
  | 3 => .long
  | _ => .object "KitePower$Row"
theorem mm_ty_at (cA : Nat → ClassId) {t : Nat} (h : t < 5) : (mm_ty cA)[t]? = some (cA t, mm_et t) := by
  match t, h with
  | 0, _ => rfl
  | 1, _ => rfl
  | 2, _ => rfl
  | 3, _ => rfl
  | 4, _ => rfl
/-- the tables that are only read: 1 the script, 2 to 7 the constants of the classes -/
def mm_ct : List (String × String × List Int) := [("KitePower$Kite", "LEAST", [2, 2, 2, 5, 0, 1, 0, 0, 100, 0]), ("KitePower$Kite", "MOST", [6, 6, 8, 50, 9999, 99999, 9999, 400, 400, 99999]), ("KitePower$Kite", "UNTOLD", [5, 4, 6, 20, 100, 20000, 0, 100, 150, 1000]), ("KitePowerModel", "PLAIN", [5, 4, 6, 20, 100, 20000, 0, 100, 150, 1000]), ("KitePowerModel", "LOW", [2, 2, 2, 5, 0, 1, 0, 0, 100, 0]), ("KitePowerModel", "MOST", [6, 6, 8, 50, 9999, 99999, 9999, 400, 400, 99999])]
def mm_rc (X : mm_X) (k : Nat) : mm_X := match k with
  | 1 => X
  | k => (10, fun j => ((mm_ct.getD (k - 2) ("", "", [])).2.2).getD j 0)
/-- the texts that are constants: class, entry, text, its bytes -/
def mm_sc : List (String × Nat × String × List Int) := [("KitePower$Kite", 51, "across high rope unit weight mark loss reel cross tire lift window", [97, 99, 114, 111, 115, 115, 32, 104, 105, 103, 104, 32, 114, 111, 112, 101, 32, 117, 110, 105, 116, 32, 119, 101, 105, 103, 104, 116, 32, 109, 97, 114, 107, 32, 108, 111, 115, 115, 32, 114, 101, 101, 108, 32, 99, 114, 111, 115, 115, 32, 116, 105, 114, 101, 32, 108, 105, 102, 116, 32, 119, 105, 110, 100, 111, 119]), ("KitePower$Rules", 48, "when", [119, 104, 101, 110]), ("KitePower$Rules", 69, "pull height rope column row", [112, 117, 108, 108, 32, 104, 101, 105, 103, 104, 116, 32, 114, 111, 112, 101, 32, 99, 111, 108, 117, 109, 110, 32, 114, 111, 119]), ("KitePower$Rules", 71, "above below is", [97, 98, 111, 118, 101, 32, 98, 101, 108, 111, 119, 32, 105, 115]), ("KitePower$Rules", 67, "and do", [97, 110, 100, 32, 100, 111]), ("KitePower$Rules", 87, "stay left right up down", [115, 116, 97, 121, 32, 108, 101, 102, 116, 32, 114, 105, 103, 104, 116, 32, 117, 112, 32, 100, 111, 119, 110]), ("KitePower$Rules", 89, "hold out in", [104, 111, 108, 100, 32, 111, 117, 116, 32, 105, 110]), ("KitePowerModel", 101, "across", [97, 99, 114, 111, 115, 115]), ("KitePowerModel", 107, "high", [104, 105, 103, 104]), ("KitePowerModel", 109, "rope", [114, 111, 112, 101]), ("KitePowerModel", 111, "unit", [117, 110, 105, 116]), ("KitePowerModel", 113, "weight", [119, 101, 105, 103, 104, 116]), ("KitePowerModel", 115, "mark", [109, 97, 114, 107]), ("KitePowerModel", 117, "loss", [108, 111, 115, 115]), ("KitePowerModel", 119, "reel", [114, 101, 101, 108]), ("KitePowerModel", 121, "cross", [99, 114, 111, 115, 115]), ("KitePowerModel", 123, "tire", [116, 105, 114, 101]), ("KitePowerModel", 125, "lift", [108, 105, 102, 116]), ("KitePowerModel", 127, "window", [119, 105, 110, 100, 111, 119]), ("KitePowerModel", 210, "when", [119, 104, 101, 110]), ("KitePowerModel", 166, "pull", [112, 117, 108, 108]), ("KitePowerModel", 168, "height", [104, 101, 105, 103, 104, 116]), ("KitePowerModel", 170, "column", [99, 111, 108, 117, 109, 110]), ("KitePowerModel", 172, "row", [114, 111, 119]), ("KitePowerModel", 177, "above", [97, 98, 111, 118, 101]), ("KitePowerModel", 179, "below", [98, 101, 108, 111, 119]), ("KitePowerModel", 181, "is", [105, 115]), ("KitePowerModel", 219, "and", [97, 110, 100]), ("KitePowerModel", 221, "do", [100, 111]), ("KitePowerModel", 195, "stay", [115, 116, 97, 121]), ("KitePowerModel", 197, "left", [108, 101, 102, 116]), ("KitePowerModel", 199, "right", [114, 105, 103, 104, 116]), ("KitePowerModel", 201, "up", [117, 112]), ("KitePowerModel", 203, "down", [100, 111, 119, 110]), ("KitePowerModel", 205, "hold", [104, 111, 108, 100]), ("KitePowerModel", 207, "out", [111, 117, 116]), ("KitePowerModel", 209, "in", [105, 110])]
def mm_sd : String × Nat × String × List Int := ("", 0, "", [])
/-- links to private members of the nest -/
def mm_nw : List (String × Nat × MethodName × String) := [("KitePower$Kite", 113, ⟨"KitePower", "isWithin", "(III)Z"⟩, "KitePower"), ("KitePower$Readings", 68, ⟨"KitePower", "isWithin", "(III)Z"⟩, "KitePower"), ("KitePower$Tape", 65, ⟨"KitePower", "isWithin", "(III)Z"⟩, "KitePower"), ("KitePower", 9, ⟨"KitePower$Tape", "<init>", "()V"⟩, "KitePower")]
/-- statics of which only a reference or null is said -/
def mm_zq : List (String × String × String) := [("jdk/internal/util/Preconditions", "SIOOBE_FORMATTER", "Ljava/util/function/BiFunction;"), ("java/lang/Throwable", "SUPPRESSED_SENTINEL", "Ljava/util/List;"), ("java/lang/Throwable", "UNASSIGNED_STACK", "[Ljava/lang/StackTraceElement;")]
/-- what is only read, and lies below the world -/
def mm_Ro (X : mm_X) (bs : Nat) (ro : Nat → Nat) (s : State) : Prop :=
  va_T .int (ro 1) X.1 (fun j => .int (mm_i (X.2 j))) (fun q => bs ≤ q) s s.heap ∧
  (∀ k, k < 6 → va_Z (mm_ct.getD k ("", "", [])).1 (mm_ct.getD k ("", "", [])).2.1 "[I" (.ref (ro (k + 2))) (fun q => bs ≤ q) s s.heap ∧ va_T .int (ro (k + 2)) 10 (fun j => .int (mm_i ((mm_rc X (k + 2)).2 j))) (fun q => bs ≤ q) s s.heap) ∧
  va_Z "java/lang/String" "COMPACT_STRINGS" "Z" (.int 1) (fun q => bs ≤ q) s s.heap ∧
  (∀ k, k < 37 → vk_R (mm_sc.getD k mm_sd).1 (mm_sc.getD k mm_sd).2.1 (mm_sc.getD k mm_sd).2.2.1 (ro (k + 100)) s ∧ va_O "java/lang/String" (ro (k + 100)) (fun q => bs ≤ q) s s.heap ∧
    va_OF "java/lang/String" "coder" "B" (.int 0) (ro (k + 100)) (fun q => bs ≤ q) s s.heap ∧ va_OF "java/lang/String" "value" "[B" (.ref (ro (k + 200))) (ro (k + 100)) (fun q => bs ≤ q) s s.heap ∧
    va_T .byte (ro (k + 200)) (mm_sc.getD k mm_sd).2.2.2.length (fun j => .int (mm_i ((mm_sc.getD k mm_sd).2.2.2.getD j 0))) (fun q => bs ≤ q) s s.heap) ∧
  (∀ q ∈ mm_nw, va_Nw (.methodLinkNest q.1 q.2.1 q.2.2.1 q.2.2.2) s) ∧ va_AO "KitePower$Row" s ∧
  (∀ j, j < 3 → va_Z (mm_zq.getD j ("", "", "")).1 (mm_zq.getD j ("", "", "")).2.1 (mm_zq.getD j ("", "", "")).2.2 .null (fun q => bs ≤ q) s s.heap ∨ va_Z (mm_zq.getD j ("", "", "")).1 (mm_zq.getD j ("", "", "")).2.1 (mm_zq.getD j ("", "", "")).2.2 (.ref (ro (50 + j))) (fun q => bs ≤ q) s s.heap)
/-- the words of the tables that every call carries on -/
def mm_T (args : Array Value) (s : State) : Prop := ∀ w ∈ lw_tbl, goodWord w = true → w.before args s = true
def mm_Hd (c : Code) (hs : List (Nat × Nat × Nat × Nat)) : Prop := c.exceptionTable.toList.map (fun h => (h.startPc, h.endPc, h.handlerPc, h.catchType)) = hs
/-- the locals -/
def mm_L (bs : Nat) (ro : Nat → Nat) (nL : Nat) (lsr : Array Slot) (ls : List mm_V) : Prop := lsr.size = nL ∧ lv_wf lsr ∧ ∀ (i : Nat) (v : mm_V), ls[i]? = some v → v.1 ≠ 9 → lsr[i]? = some (.val (mm_v bs ro v))
/-- where a method of the system stands: the machine, the code, the tables, the room -/
def mm_Cx (X : mm_X) (Y : mm_Y) (n0 n1 : Nat) (p : Program) (R : Room) (s : State) (m : MethodId) (args : Array Value) (meth : Method) (c : Code) (D : va_G) (cA : Nat → ClassId) (bs : Nat) (ro : Nat → Nat) : Prop :=
  p.tables.exec = Jvm.exec ∧ c.code = Y.2.1 ∧ meth.sig.returnType = Y.2.2.2.1 ∧ c.maxLocals = Y.2.2.1 ∧ s.vm.findClass Y.1.cls = some m.cls ∧ mm_T args s ∧ meth.locks = false ∧ meth.name = Y.1.name ∧ mm_Hd c Y.2.2.2.2.2.2 ∧
  Y.2.2.2.2.1 ≤ R.frames ∧ Y.2.2.2.2.2.1 ≤ R.locals ∧ n1 - n0 ≤ R.cells ∧ mm_sz n1 - mm_sz n0 ≤ R.slots ∧ va_K D vwCl (mm_ty cA) s ∧ mm_Ro X bs ro s ∧ s.heap.size = bs + n0
/-- how a call ends -/
def mm_oc (bs : Nat) (ro : Nat → Nat) (r : mm_V) (o : Outcome) : Prop := match r.1 with
  | 3 => o = .returned none
  | 4 => o = .threw (mm_ad bs ro r.2)
  | _ => o = .returned (some (mm_v bs ro r))
def mm_E (D : va_G) (cA : Nat → ClassId) (bs : Nat) (ro : Nat → Nat) (n0 n1 : Nat) (Φ : mm_V → mm_M → Prop) (below : List Frame) (s : State) : State → Prop := fun t =>
  ∃ (o : Outcome) (r : mm_V) (M : mm_M) (L : List Loc), t.status = .running ∧ Ended t below o ∧ mm_oc bs ro r o ∧ Φ r M ∧ mm_Wd D cA bs ro n1 M t.heap ∧ va_F (fun q => bs ≤ q) s t ∧ s.WarmedH t.vm ∧ s.sameButNew ({ t with vm := s.vm } : State) L (n1 - n0) (mm_sz n1 - mm_sz n0) ∧ ∀ q ∈ L, bs ≤ q.base
/-- THE JUDGEMENT: the method Y, entered with n0 cells of the world, now with n, at pc, with these locals, this stack and this memory, comes to its end, with n1 cells, so that Φ holds of its answer and its memory -/
def mm_J (X : mm_X) (Y : mm_Y) (n0 n1 n pc : Nat) (ls st : List mm_V) (M : mm_M) (Φ : mm_V → mm_M → Prop) : Prop :=
  ∀ (p : Program) (l : Launch) (e : Env) (R : Room) (s : State) (m : MethodId) (args : Array Value) (below : List Frame) (meth : Method) (c : Code) (D : va_G) (cA : Nat → ClassId) (bs : Nat) (ro : Nat → Nat) (H : Heap) (locs : List Loc) (lsr : Array Slot),
    mm_Cx X Y n0 n1 p R s m args meth c D cA bs ro → mm_Wd D cA bs ro n M H → va_S (fun q => bs ≤ q) s.heap H locs → mm_L bs ro Y.2.2.1 lsr ls →
    W p l e R s m args below meth c H locs (n - n0) (mm_sz n - mm_sz n0) (mm_E D cA bs ro n0 n1 Φ below s) (F0 m pc lsr (st.map (mm_v bs ro)))
/-- one step of the machine that touches neither heap nor locals -/
theorem mm_go {X : mm_X} {Y : mm_Y} {n0 n1 n pc q : Nat} {ls st st' : List mm_V} {M : mm_M} {Φ : mm_V → mm_M → Prop}
    (h : ∀ (p : Program) (l : Launch) (e : Env) (R : Room) (s : State) (m : MethodId) (args : Array Value) (below : List Frame) (meth : Method) (c : Code) (D : va_G) (cA : Nat → ClassId) (bs : Nat) (ro : Nat → Nat) (H : Heap) (locs : List Loc) (lsr : Array Slot) (cells slots : Nat) (Q : State → Prop),
      p.tables.exec = Jvm.exec → c.code = Y.2.1 → mm_L bs ro Y.2.2.1 lsr ls → W p l e R s m args below meth c H locs cells slots Q (F0 m q lsr (st'.map (mm_v bs ro))) → W p l e R s m args below meth c H locs cells slots Q (F0 m pc lsr (st.map (mm_v bs ro))))
    (k : mm_J X Y n0 n1 n q ls st' M Φ) : mm_J X Y n0 n1 n pc ls st M Φ := by
  intro p l e R s m args below meth c D cA bs ro H locs lsr C hP hS hL
  exact h p l e R s m args below meth c D cA bs ro H locs lsr _ _ _ C.1 C.2.1 hL (k p l e R s m args below meth c D cA bs ro H locs lsr C hP hS hL)
theorem mm_q1 {cd : ByteArray} {pc q : Nat} {i : Instr} (h : mm_D cd pc q i) {len : Nat} (hl : decode cd pc = .ok (i, len)) : pc + len = q := by
  have := h.1.symm.trans hl
  simp only [Except.ok.injEq, Prod.mk.injEq, true_and] at this
  omega
