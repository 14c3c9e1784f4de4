/-! ===== constructors: words of the tables ===== -/
/-- new idx makes an object of class ci -/
def mm_NwP (own : String) (idx ci : Nat) : Prop := ∃ C T N ty, mm_Cl ci C T N ty ∧ mm_Wk (.classLink own idx C) ∧ mm_Wk (.instantiable C N) ∧ mm_Wk (.initialized C) ∧ ∀ i, i < N → defaultValue (ty i) = mm_dv (mm_fk ci i)
def mm_OiP (own : String) (idx : Nat) : Prop := mm_Wk (.methodLink own idx Lib.objectInit) ∧ mm_Wk (.instanceMethod Lib.objectInit) ∧ mm_Wk (.code Lib.objectInit ⟨#[0xb1]⟩ 1 none)
/-- so many cells may still be made -/
def mm_mk (n0 n n1 len : Nat) : Prop := n0 ≤ n ∧ n + 1 ≤ n1 ∧ mm_sz n0 ≤ mm_sz n ∧ mm_sz (n + 1) = mm_sz n + len ∧ mm_sz (n + 1) ≤ mm_sz n1
section
variable {X : mm_X} {Y Y' : mm_Y} {n0 n1 n n' pc q idx ci c i len na : Nat} {ls st stk as : List mm_V} {M : mm_M} {Φ Ψ : mm_V → mm_M → Prop} {x r : Int}
theorem mm_new' (hd : mm_D Y.2.1 pc q (.new idx)) (hq : pc + 3 = q) (hs : mm_sh n = (0, ci)) (hw : mm_NwP Y.1.cls idx ci) (hn : mm_mk n0 n n1 (mm_nf ci))
    (k : ∀ M', M' = mm_z M n → mm_J X Y n0 n1 (n + 1) q ls ((2, (n : Int) + 1) :: st) M' Φ) : mm_J X Y n0 n1 n pc ls st M Φ := by
  obtain ⟨C, T, N, ty, h1, h2, h3, h4, h5⟩ := hw
  have hN := h1.2.1
  rw [hN] at hn
  exact mm_new hd hq hs h1 h2 h3 h4 h5 hn (k _ rfl)
theorem mm_newarr' {t : Nat} {at' : ArrayType} (hd : mm_D Y.2.1 pc q (.newarray at')) (hq : pc + 2 = q) (hs : mm_sh n = (t + 1, len)) (ht : t < 4) (hat : newarray.typeOf at' = mm_et t) (hx0 : x = (len : Int)) (hw : mm_Wk (.arrayClass (mm_et t))) (hn : mm_mk n0 n n1 len)
    (k : ∀ M', M' = mm_z M n → mm_J X Y n0 n1 (n + 1) q ls ((2, (n : Int) + 1) :: st) M' Φ) : mm_J X Y n0 n1 n pc ls ((0, x) :: st) M Φ := mm_newarr hd hq hs ht hat hx0 hw hn (k _ rfl)
theorem mm_anew' (hd : mm_D Y.2.1 pc q (.anewarray idx)) (hq : pc + 3 = q) (hs : mm_sh n = (5, len)) (hx0 : x = (len : Int)) (hw : mm_Wk (.classLink Y.1.cls idx "KitePower$Row")) (hn : mm_mk n0 n n1 len)
    (k : ∀ M', M' = mm_z M n → mm_J X Y n0 n1 (n + 1) q ls ((2, (n : Int) + 1) :: st) M' Φ) : mm_J X Y n0 n1 n pc ls ((0, x) :: st) M Φ := mm_anew hd hq hs hx0 hw hn (k _ rfl)
theorem mm_putr' {ty : FieldType} (hd : mm_D Y.2.1 pc q (.putfield idx)) (hq : pc + 3 = q) (hf : mm_F Y.1.cls idx ci i true ty) (hty : (∃ n, ty = .object n) ∨ ∃ t, ty = .array t) (hin : Y.1.name = "<init>") (hcls : ∃ T N, vwCl[ci]? = some (Y.1.cls, T, N) ∧ ∀ j, j < N → (T j).1 = Y.1.cls) (hr : r = (c : Int) + 1) (hc : c < n) (hs : mm_sh c = (0, ci)) (hk : mm_fk ci i = 2)
    (k : ∀ M', M' = mm_up M c i x → mm_J X Y n0 n1 n q ls st M' Φ) : mm_J X Y n0 n1 n pc ls ((2, x) :: (2, r) :: st) M Φ := mm_putr hd hq hf hty hin hcls hr hc hs hk (k _ rfl)
theorem mm_oinit' (hd : mm_D Y.2.1 pc q (.invokespecial idx)) (hq : pc + 3 = q) (hw : mm_OiP Y.1.cls idx) (hr : r = (c : Int) + 1) (hfr : Nat.ble 1 Y.2.2.2.2.1 = true) (hlo : Nat.ble (mm_wd st + 12) Y.2.2.2.2.2.1 = true)
    (k : mm_J X Y n0 n1 n q ls st M Φ) : mm_J X Y n0 n1 n pc ls ((2, r) :: st) M Φ := mm_oinit hd hq hw.1 hw.2.1 hw.2.2 hr hfr hlo k
theorem mm_aast' {j : Int} {d k0 : Nat} (hd : mm_D Y.2.1 pc q .aastore) (hq : pc + 1 = q) (hr : r = (c : Int) + 1) (hc : c < n) (hs : mm_sh c = (5, len)) (hx0 : x = (d : Int) + 1) (hdn : d < n) (hsd : mm_sh d = (0, 8)) (hj : j = (k0 : Int)) (h1 : k0 < len)
    (k : ∀ M', M' = mm_up M c k0 x → mm_J X Y n0 n1 n q ls st M' Φ) : mm_J X Y n0 n1 n pc ls ((2, x) :: (0, j) :: (2, r) :: st) M Φ := by
  subst hj
  exact mm_aast hd hq hr hc hs hx0 hdn hsd (by omega) (by omega) (k _ (by rw [Int.toNat_natCast]))
end
theorem ac_0 : mm_Wk (.arrayClass (mm_et 0)) := mm_w1 0 145 rfl rfl
theorem ac_1 : mm_Wk (.arrayClass (mm_et 1)) := mm_w1 0 70 rfl rfl
theorem ac_2 : mm_Wk (.arrayClass (mm_et 2)) := mm_w1 1 34 rfl rfl
theorem ac_3 : mm_Wk (.arrayClass (mm_et 3)) := mm_w1 1 35 rfl rfl
theorem dv_X0 : ∀ i, i < 9 → defaultValue (tyX0 i) = mm_dv (mm_fk 0 i) := by
  intro i hi
  match i, hi with
  | 0, _ => rfl
  | 1, _ => rfl
  | 2, _ => rfl
  | 3, _ => rfl
  | 4, _ => rfl
  | 5, _ => rfl
  | 6, _ => rfl
  | 7, _ => rfl
  | 8, _ => rfl
  | k + 9, h => exact absurd h (by omega)
theorem fr_X0 : ∃ T N, vwCl[0]? = some (RX0, T, N) ∧ ∀ j, j < N → (T j).1 = RX0 := ⟨TX0, 9, rfl, by
  intro j hj
  match j, hj with
  | 0, _ => rfl
  | 1, _ => rfl
  | 2, _ => rfl
  | 3, _ => rfl
  | 4, _ => rfl
  | 5, _ => rfl
  | 6, _ => rfl
  | 7, _ => rfl
  | 8, _ => rfl
  | k + 9, h => exact absurd h (by omega)⟩
theorem dv_X1 : ∀ i, i < 6 → defaultValue (tyX1 i) = mm_dv (mm_fk 1 i) := by
  intro i hi
  match i, hi with
  | 0, _ => rfl
  | 1, _ => rfl
  | 2, _ => rfl
  | 3, _ => rfl
  | 4, _ => rfl
  | 5, _ => rfl
  | k + 6, h => exact absurd h (by omega)
theorem fr_X1 : ∃ T N, vwCl[1]? = some (RX1, T, N) ∧ ∀ j, j < N → (T j).1 = RX1 := ⟨TX1, 6, rfl, by
  intro j hj
  match j, hj with
  | 0, _ => rfl
  | 1, _ => rfl
  | 2, _ => rfl
  | 3, _ => rfl
  | 4, _ => rfl
  | 5, _ => rfl
  | k + 6, h => exact absurd h (by omega)⟩
theorem dv_X2 : ∀ i, i < 12 → defaultValue (tyX2 i) = mm_dv (mm_fk 2 i) := by
  intro i hi
  match i, hi with
  | 0, _ => rfl
  | 1, _ => rfl
  | 2, _ => rfl
  | 3, _ => rfl
  | 4, _ => rfl
  | 5, _ => rfl
  | 6, _ => rfl
  | 7, _ => rfl
  | 8, _ => rfl
  | 9, _ => rfl
  | 10, _ => rfl
  | 11, _ => rfl
  | k + 12, h => exact absurd h (by omega)
theorem fr_X2 : ∃ T N, vwCl[2]? = some (RX2, T, N) ∧ ∀ j, j < N → (T j).1 = RX2 := ⟨TX2, 12, rfl, by
  intro j hj
  match j, hj with
  | 0, _ => rfl
  | 1, _ => rfl
  | 2, _ => rfl
  | 3, _ => rfl
  | 4, _ => rfl
  | 5, _ => rfl
  | 6, _ => rfl
  | 7, _ => rfl
  | 8, _ => rfl
  | 9, _ => rfl
  | 10, _ => rfl
  | 11, _ => rfl
  | k + 12, h => exact absurd h (by omega)⟩
theorem dv_X3 : ∀ i, i < 10 → defaultValue (tyX3 i) = mm_dv (mm_fk 3 i) := by
  intro i hi
  match i, hi with
  | 0, _ => rfl
  | 1, _ => rfl
  | 2, _ => rfl
  | 3, _ => rfl
  | 4, _ => rfl
  | 5, _ => rfl
  | 6, _ => rfl
  | 7, _ => rfl
  | 8, _ => rfl
  | 9, _ => rfl
  | k + 10, h => exact absurd h (by omega)
theorem fr_X3 : ∃ T N, vwCl[3]? = some (RX3, T, N) ∧ ∀ j, j < N → (T j).1 = RX3 := ⟨TX3, 10, rfl, by
  intro j hj
  match j, hj with
  | 0, _ => rfl
  | 1, _ => rfl
  | 2, _ => rfl
  | 3, _ => rfl
  | 4, _ => rfl
  | 5, _ => rfl
  | 6, _ => rfl
  | 7, _ => rfl
  | 8, _ => rfl
  | 9, _ => rfl
  | k + 10, h => exact absurd h (by omega)⟩
theorem dv_X4 : ∀ i, i < 8 → defaultValue (tyX4 i) = mm_dv (mm_fk 4 i) := by
  intro i hi
  match i, hi with
  | 0, _ => rfl
  | 1, _ => rfl
  | 2, _ => rfl
  | 3, _ => rfl
  | 4, _ => rfl
  | 5, _ => rfl
  | 6, _ => rfl
  | 7, _ => rfl
  | k + 8, h => exact absurd h (by omega)
theorem fr_X4 : ∃ T N, vwCl[4]? = some (RX4, T, N) ∧ ∀ j, j < N → (T j).1 = RX4 := ⟨TX4, 8, rfl, by
  intro j hj
  match j, hj with
  | 0, _ => rfl
  | 1, _ => rfl
  | 2, _ => rfl
  | 3, _ => rfl
  | 4, _ => rfl
  | 5, _ => rfl
  | 6, _ => rfl
  | 7, _ => rfl
  | k + 8, h => exact absurd h (by omega)⟩
theorem dv_X5 : ∀ i, i < 2 → defaultValue (tyX5 i) = mm_dv (mm_fk 5 i) := by
  intro i hi
  match i, hi with
  | 0, _ => rfl
  | 1, _ => rfl
  | k + 2, h => exact absurd h (by omega)
theorem fr_X5 : ∃ T N, vwCl[5]? = some (RX5, T, N) ∧ ∀ j, j < N → (T j).1 = RX5 := ⟨TX5, 2, rfl, by
  intro j hj
  match j, hj with
  | 0, _ => rfl
  | 1, _ => rfl
  | k + 2, h => exact absurd h (by omega)⟩
theorem dv_X6 : ∀ i, i < 18 → defaultValue (tyX6 i) = mm_dv (mm_fk 6 i) := by
  intro i hi
  match i, hi with
  | 0, _ => rfl
  | 1, _ => rfl
  | 2, _ => rfl
  | 3, _ => rfl
  | 4, _ => rfl
  | 5, _ => rfl
  | 6, _ => rfl
  | 7, _ => rfl
  | 8, _ => rfl
  | 9, _ => rfl
  | 10, _ => rfl
  | 11, _ => rfl
  | 12, _ => rfl
  | 13, _ => rfl
  | 14, _ => rfl
  | 15, _ => rfl
  | 16, _ => rfl
  | 17, _ => rfl
  | k + 18, h => exact absurd h (by omega)
theorem fr_X6 : ∃ T N, vwCl[6]? = some (RX6, T, N) ∧ ∀ j, j < N → (T j).1 = RX6 := ⟨TX6, 18, rfl, by
  intro j hj
  match j, hj with
  | 0, _ => rfl
  | 1, _ => rfl
  | 2, _ => rfl
  | 3, _ => rfl
  | 4, _ => rfl
  | 5, _ => rfl
  | 6, _ => rfl
  | 7, _ => rfl
  | 8, _ => rfl
  | 9, _ => rfl
  | 10, _ => rfl
  | 11, _ => rfl
  | 12, _ => rfl
  | 13, _ => rfl
  | 14, _ => rfl
  | 15, _ => rfl
  | 16, _ => rfl
  | 17, _ => rfl
  | k + 18, h => exact absurd h (by omega)⟩
theorem dv_X7 : ∀ i, i < 13 → defaultValue (tyX7 i) = mm_dv (mm_fk 7 i) := by
  intro i hi
  match i, hi with
  | 0, _ => rfl
  | 1, _ => rfl
  | 2, _ => rfl
  | 3, _ => rfl
  | 4, _ => rfl
  | 5, _ => rfl
  | 6, _ => rfl
  | 7, _ => rfl
  | 8, _ => rfl
  | 9, _ => rfl
  | 10, _ => rfl
  | 11, _ => rfl
  | 12, _ => rfl
  | k + 13, h => exact absurd h (by omega)
theorem fr_X7 : ∃ T N, vwCl[7]? = some (RX7, T, N) ∧ ∀ j, j < N → (T j).1 = RX7 := ⟨TX7, 13, rfl, by
  intro j hj
  match j, hj with
  | 0, _ => rfl
  | 1, _ => rfl
  | 2, _ => rfl
  | 3, _ => rfl
  | 4, _ => rfl
  | 5, _ => rfl
  | 6, _ => rfl
  | 7, _ => rfl
  | 8, _ => rfl
  | 9, _ => rfl
  | 10, _ => rfl
  | 11, _ => rfl
  | 12, _ => rfl
  | k + 13, h => exact absurd h (by omega)⟩
theorem dv_X8 : ∀ i, i < 10 → defaultValue (tyX8 i) = mm_dv (mm_fk 8 i) := by
  intro i hi
  match i, hi with
  | 0, _ => rfl
  | 1, _ => rfl
  | 2, _ => rfl
  | 3, _ => rfl
  | 4, _ => rfl
  | 5, _ => rfl
  | 6, _ => rfl
  | 7, _ => rfl
  | 8, _ => rfl
  | 9, _ => rfl
  | k + 10, h => exact absurd h (by omega)
theorem fr_X8 : ∃ T N, vwCl[8]? = some (RX8, T, N) ∧ ∀ j, j < N → (T j).1 = RX8 := ⟨TX8, 10, rfl, by
  intro j hj
  match j, hj with
  | 0, _ => rfl
  | 1, _ => rfl
  | 2, _ => rfl
  | 3, _ => rfl
  | 4, _ => rfl
  | 5, _ => rfl
  | 6, _ => rfl
  | 7, _ => rfl
  | 8, _ => rfl
  | 9, _ => rfl
  | k + 10, h => exact absurd h (by omega)⟩
theorem dv_X9 : ∀ i, i < 4 → defaultValue (tyX9 i) = mm_dv (mm_fk 9 i) := by
  intro i hi
  match i, hi with
  | 0, _ => rfl
  | 1, _ => rfl
  | 2, _ => rfl
  | 3, _ => rfl
  | k + 4, h => exact absurd h (by omega)
theorem fr_X9 : ∃ T N, vwCl[9]? = some (RX9, T, N) ∧ ∀ j, j < N → (T j).1 = RX9 := ⟨TX9, 4, rfl, by
  intro j hj
  match j, hj with
  | 0, _ => rfl
  | 1, _ => rfl
  | 2, _ => rfl
  | 3, _ => rfl
  | k + 4, h => exact absurd h (by omega)⟩
theorem dv_X10 : ∀ i, i < 8 → defaultValue (tyX10 i) = mm_dv (mm_fk 10 i) := by
  intro i hi
  match i, hi with
  | 0, _ => rfl
  | 1, _ => rfl
  | 2, _ => rfl
  | 3, _ => rfl
  | 4, _ => rfl
  | 5, _ => rfl
  | 6, _ => rfl
  | 7, _ => rfl
  | k + 8, h => exact absurd h (by omega)
theorem fr_X10 : ∃ T N, vwCl[10]? = some (RX10, T, N) ∧ ∀ j, j < N → (T j).1 = RX10 := ⟨TX10, 8, rfl, by
  intro j hj
  match j, hj with
  | 0, _ => rfl
  | 1, _ => rfl
  | 2, _ => rfl
  | 3, _ => rfl
  | 4, _ => rfl
  | 5, _ => rfl
  | 6, _ => rfl
  | 7, _ => rfl
  | k + 8, h => exact absurd h (by omega)⟩
theorem dv_X11 : ∀ i, i < 15 → defaultValue (tyX11 i) = mm_dv (mm_fk 11 i) := by
  intro i hi
  match i, hi with
  | 0, _ => rfl
  | 1, _ => rfl
  | 2, _ => rfl
  | 3, _ => rfl
  | 4, _ => rfl
  | 5, _ => rfl
  | 6, _ => rfl
  | 7, _ => rfl
  | 8, _ => rfl
  | 9, _ => rfl
  | 10, _ => rfl
  | 11, _ => rfl
  | 12, _ => rfl
  | 13, _ => rfl
  | 14, _ => rfl
  | k + 15, h => exact absurd h (by omega)
theorem fr_X11 : ∃ T N, vwCl[11]? = some (RX11, T, N) ∧ ∀ j, j < N → (T j).1 = RX11 := ⟨TX11, 15, rfl, by
  intro j hj
  match j, hj with
  | 0, _ => rfl
  | 1, _ => rfl
  | 2, _ => rfl
  | 3, _ => rfl
  | 4, _ => rfl
  | 5, _ => rfl
  | 6, _ => rfl
  | 7, _ => rfl
  | 8, _ => rfl
  | 9, _ => rfl
  | 10, _ => rfl
  | 11, _ => rfl
  | 12, _ => rfl
  | 13, _ => rfl
  | 14, _ => rfl
  | k + 15, h => exact absurd h (by omega)⟩
theorem dv_X13 : ∀ i, i < 110 → defaultValue (tyX13 i) = mm_dv (mm_fk 13 i) := by
  intro i hi
  match i, hi with
  | 0, _ => rfl
  | 1, _ => rfl
  | 2, _ => rfl
  | 3, _ => rfl
  | 4, _ => rfl
  | 5, _ => rfl
  | 6, _ => rfl
  | 7, _ => rfl
  | 8, _ => rfl
  | 9, _ => rfl
  | 10, _ => rfl
  | 11, _ => rfl
  | 12, _ => rfl
  | 13, _ => rfl
  | 14, _ => rfl
  | 15, _ => rfl
  | 16, _ => rfl
  | 17, _ => rfl
  | 18, _ => rfl
  | 19, _ => rfl
  | 20, _ => rfl
  | 21, _ => rfl
  | 22, _ => rfl
  | 23, _ => rfl
  | 24, _ => rfl
  | 25, _ => rfl
  | 26, _ => rfl
  | 27, _ => rfl
  | 28, _ => rfl
  | 29, _ => rfl
  | 30, _ => rfl
  | 31, _ => rfl
  | 32, _ => rfl
  | 33, _ => rfl
  | 34, _ => rfl
  | 35, _ => rfl
  | 36, _ => rfl
  | 37, _ => rfl
  | 38, _ => rfl
  | 39, _ => rfl
  | 40, _ => rfl
  | 41, _ => rfl
  | 42, _ => rfl
  | 43, _ => rfl
  | 44, _ => rfl
  | 45, _ => rfl
  | 46, _ => rfl
  | 47, _ => rfl
  | 48, _ => rfl
  | 49, _ => rfl
  | 50, _ => rfl
  | 51, _ => rfl
  | 52, _ => rfl
  | 53, _ => rfl
  | 54, _ => rfl
  | 55, _ => rfl
  | 56, _ => rfl
  | 57, _ => rfl
  | 58, _ => rfl
  | 59, _ => rfl
  | 60, _ => rfl
  | 61, _ => rfl
  | 62, _ => rfl
  | 63, _ => rfl
  | 64, _ => rfl
  | 65, _ => rfl
  | 66, _ => rfl
  | 67, _ => rfl
  | 68, _ => rfl
  | 69, _ => rfl
  | 70, _ => rfl
  | 71, _ => rfl
  | 72, _ => rfl
  | 73, _ => rfl
  | 74, _ => rfl
  | 75, _ => rfl
  | 76, _ => rfl
  | 77, _ => rfl
  | 78, _ => rfl
  | 79, _ => rfl
  | 80, _ => rfl
  | 81, _ => rfl
  | 82, _ => rfl
  | 83, _ => rfl
  | 84, _ => rfl
  | 85, _ => rfl
  | 86, _ => rfl
  | 87, _ => rfl
  | 88, _ => rfl
  | 89, _ => rfl
  | 90, _ => rfl
  | 91, _ => rfl
  | 92, _ => rfl
  | 93, _ => rfl
  | 94, _ => rfl
  | 95, _ => rfl
  | 96, _ => rfl
  | 97, _ => rfl
  | 98, _ => rfl
  | 99, _ => rfl
  | 100, _ => rfl
  | 101, _ => rfl
  | 102, _ => rfl
  | 103, _ => rfl
  | 104, _ => rfl
  | 105, _ => rfl
  | 106, _ => rfl
  | 107, _ => rfl
  | 108, _ => rfl
  | 109, _ => rfl
  | k + 110, h => exact absurd h (by omega)
theorem fr_X13 : ∃ T N, vwCl[13]? = some (RX13, T, N) ∧ ∀ j, j < N → (T j).1 = RX13 := ⟨TX13, 110, rfl, by
  intro j hj
  match j, hj with
  | 0, _ => rfl
  | 1, _ => rfl
  | 2, _ => rfl
  | 3, _ => rfl
  | 4, _ => rfl
  | 5, _ => rfl
  | 6, _ => rfl
  | 7, _ => rfl
  | 8, _ => rfl
  | 9, _ => rfl
  | 10, _ => rfl
  | 11, _ => rfl
  | 12, _ => rfl
  | 13, _ => rfl
  | 14, _ => rfl
  | 15, _ => rfl
  | 16, _ => rfl
  | 17, _ => rfl
  | 18, _ => rfl
  | 19, _ => rfl
  | 20, _ => rfl
  | 21, _ => rfl
  | 22, _ => rfl
  | 23, _ => rfl
  | 24, _ => rfl
  | 25, _ => rfl
  | 26, _ => rfl
  | 27, _ => rfl
  | 28, _ => rfl
  | 29, _ => rfl
  | 30, _ => rfl
  | 31, _ => rfl
  | 32, _ => rfl
  | 33, _ => rfl
  | 34, _ => rfl
  | 35, _ => rfl
  | 36, _ => rfl
  | 37, _ => rfl
  | 38, _ => rfl
  | 39, _ => rfl
  | 40, _ => rfl
  | 41, _ => rfl
  | 42, _ => rfl
  | 43, _ => rfl
  | 44, _ => rfl
  | 45, _ => rfl
  | 46, _ => rfl
  | 47, _ => rfl
  | 48, _ => rfl
  | 49, _ => rfl
  | 50, _ => rfl
  | 51, _ => rfl
  | 52, _ => rfl
  | 53, _ => rfl
  | 54, _ => rfl
  | 55, _ => rfl
  | 56, _ => rfl
  | 57, _ => rfl
  | 58, _ => rfl
  | 59, _ => rfl
  | 60, _ => rfl
  | 61, _ => rfl
  | 62, _ => rfl
  | 63, _ => rfl
  | 64, _ => rfl
  | 65, _ => rfl
  | 66, _ => rfl
  | 67, _ => rfl
  | 68, _ => rfl
  | 69, _ => rfl
  | 70, _ => rfl
  | 71, _ => rfl
  | 72, _ => rfl
  | 73, _ => rfl
  | 74, _ => rfl
  | 75, _ => rfl
  | 76, _ => rfl
  | 77, _ => rfl
  | 78, _ => rfl
  | 79, _ => rfl
  | 80, _ => rfl
  | 81, _ => rfl
  | 82, _ => rfl
  | 83, _ => rfl
  | 84, _ => rfl
  | 85, _ => rfl
  | 86, _ => rfl
  | 87, _ => rfl
  | 88, _ => rfl
  | 89, _ => rfl
  | 90, _ => rfl
  | 91, _ => rfl
  | 92, _ => rfl
  | 93, _ => rfl
  | 94, _ => rfl
  | 95, _ => rfl
  | 96, _ => rfl
  | 97, _ => rfl
  | 98, _ => rfl
  | 99, _ => rfl
  | 100, _ => rfl
  | 101, _ => rfl
  | 102, _ => rfl
  | 103, _ => rfl
  | 104, _ => rfl
  | 105, _ => rfl
  | 106, _ => rfl
  | 107, _ => rfl
  | 108, _ => rfl
  | 109, _ => rfl
  | k + 110, h => exact absurd h (by omega)⟩
theorem ck_L_7 : mm_Wk (.classLink RL 7 RX11) := mm_w1 0 25 rfl rfl
theorem nw_L_7 : mm_NwP RL 7 11 := ⟨RX11, TX11, 15, tyX11, cl_X11, ck_L_7, mm_w1 0 26 rfl rfl, mm_w1 0 1 rfl rfl, dv_X11⟩
theorem ck_X11_7 : mm_Wk (.classLink RX11 7 RX10) := mm_w1 0 33 rfl rfl
theorem nw_X11_7 : mm_NwP RX11 7 10 := ⟨RX10, TX10, 8, tyX10, cl_X10, ck_X11_7, mm_w1 0 34 rfl rfl, mm_w1 0 2 rfl rfl, dv_X10⟩
theorem ck_X11_16 : mm_Wk (.classLink RX11 16 RX4) := mm_w1 0 71 rfl rfl
theorem nw_X11_16 : mm_NwP RX11 16 4 := ⟨RX4, TX4, 8, tyX4, cl_X4, ck_X11_16, mm_w1 0 72 rfl rfl, mm_w1 0 3 rfl rfl, dv_X4⟩
theorem ck_X11_23 : mm_Wk (.classLink RX11 23 RX0) := mm_w1 0 146 rfl rfl
theorem nw_X11_23 : mm_NwP RX11 23 0 := ⟨RX0, TX0, 9, tyX0, cl_X0, ck_X11_23, mm_w1 0 147 rfl rfl, mm_w1 0 7 rfl rfl, dv_X0⟩
theorem ck_X11_32 : mm_Wk (.classLink RX11 32 RX9) := mm_w1 0 185 rfl rfl
theorem nw_X11_32 : mm_NwP RX11 32 9 := ⟨RX9, TX9, 4, tyX9, cl_X9, ck_X11_32, mm_w1 0 186 rfl rfl, mm_w1 0 8 rfl rfl, dv_X9⟩
theorem ck_X11_39 : mm_Wk (.classLink RX11 39 RX3) := mm_w1 0 205 rfl rfl
theorem nw_X11_39 : mm_NwP RX11 39 3 := ⟨RX3, TX3, 10, tyX3, cl_X3, ck_X11_39, mm_w1 0 206 rfl rfl, mm_w1 0 9 rfl rfl, dv_X3⟩
theorem ck_X3_11 : mm_Wk (.classLink RX3 11 RX8) := mm_w1 0 211 rfl rfl
theorem nw_X3_11 : mm_NwP RX3 11 8 := ⟨RX8, TX8, 10, tyX8, cl_X8, ck_X3_11, mm_w1 1 36 rfl rfl, mm_w1 0 11 rfl rfl, dv_X8⟩
theorem ck_X3_47 : mm_Wk (.classLink RX3 47 RX6) := mm_w1 0 213 rfl rfl
theorem nw_X3_47 : mm_NwP RX3 47 6 := ⟨RX6, TX6, 18, tyX6, cl_X6, ck_X3_47, mm_w1 0 214 rfl rfl, mm_w1 0 10 rfl rfl, dv_X6⟩
theorem ck_X11_48 : mm_Wk (.classLink RX11 48 RX8) := mm_w1 1 126 rfl rfl
theorem nw_X11_48 : mm_NwP RX11 48 8 := ⟨RX8, TX8, 10, tyX8, cl_X8, ck_X11_48, mm_w1 1 36 rfl rfl, mm_w1 0 11 rfl rfl, dv_X8⟩
theorem ck_X11_64 : mm_Wk (.classLink RX11 64 RX2) := mm_w1 1 128 rfl rfl
theorem nw_X11_64 : mm_NwP RX11 64 2 := ⟨RX2, TX2, 12, tyX2, cl_X2, ck_X11_64, mm_w1 1 129 rfl rfl, mm_w1 0 12 rfl rfl, dv_X2⟩
theorem ck_X11_73 : mm_Wk (.classLink RX11 73 RX1) := mm_w1 1 177 rfl rfl
theorem nw_X11_73 : mm_NwP RX11 73 1 := ⟨RX1, TX1, 6, tyX1, cl_X1, ck_X11_73, mm_w1 1 178 rfl rfl, mm_w1 0 13 rfl rfl, dv_X1⟩
theorem ck_X1_11 : mm_Wk (.classLink RX1 11 RX8) := mm_w1 1 183 rfl rfl
theorem nw_X1_11 : mm_NwP RX1 11 8 := ⟨RX8, TX8, 10, tyX8, cl_X8, ck_X1_11, mm_w1 1 36 rfl rfl, mm_w1 0 11 rfl rfl, dv_X8⟩
theorem ck_X11_80 : mm_Wk (.classLink RX11 80 RX5) := mm_w1 1 206 rfl rfl
theorem nw_X11_80 : mm_NwP RX11 80 5 := ⟨RX5, TX5, 2, tyX5, cl_X5, ck_X11_80, mm_w1 1 207 rfl rfl, mm_w1 0 14 rfl rfl, dv_X5⟩
theorem ck_X11_87 : mm_Wk (.classLink RX11 87 RX7) := mm_w1 1 221 rfl rfl
theorem nw_X11_87 : mm_NwP RX11 87 7 := ⟨RX7, TX7, 13, tyX7, cl_X7, ck_X11_87, mm_w1 1 222 rfl rfl, mm_w1 0 15 rfl rfl, dv_X7⟩
theorem ck_L_10 : mm_Wk (.classLink RL 10 RX13) := mm_w1 5 112 rfl rfl
theorem nw_L_10 : mm_NwP RL 10 13 := ⟨RX13, TX13, 110, tyX13, cl_X13, ck_L_10, mm_w1 5 113 rfl rfl, mm_w1 0 16 rfl rfl, dv_X13⟩
theorem oi_X11_1 : mm_OiP RX11 1 := ⟨mm_w1 0 30 rfl rfl, mm_w1 0 31 rfl rfl, mm_w1 0 32 rfl rfl⟩
theorem li_X11_18 : mm_LI RX11 18 Y_X4_init 0 := ⟨⟨mm_w1 0 73 rfl rfl, cw_X4_init, by decide +kernel, ⟨by decide +kernel, by decide +kernel⟩, by decide +kernel⟩, mm_w1 0 74 rfl rfl, rfl, rfl, rfl⟩
theorem li_X11_25 : mm_LI RX11 25 Y_X0_init 1 := ⟨⟨mm_w1 0 148 rfl rfl, cw_X0_init, by decide +kernel, ⟨by decide +kernel, by decide +kernel⟩, by decide +kernel⟩, mm_w1 0 149 rfl rfl, rfl, rfl, rfl⟩
theorem li_X11_34 : mm_LI RX11 34 Y_X9_init 1 := ⟨⟨mm_w1 0 187 rfl rfl, cw_X9_init, by decide +kernel, ⟨by decide +kernel, by decide +kernel⟩, by decide +kernel⟩, mm_w1 0 188 rfl rfl, rfl, rfl, rfl⟩
theorem li_X11_41 : mm_LI RX11 41 Y_X3_init 2 := ⟨⟨mm_w1 0 207 rfl rfl, cw_X3_init, by decide +kernel, ⟨by decide +kernel, by decide +kernel⟩, by decide +kernel⟩, mm_w1 0 208 rfl rfl, rfl, rfl, rfl⟩
theorem li_X11_50 : mm_LI RX11 50 Y_X8_init 1 := ⟨⟨mm_w1 1 127 rfl rfl, cw_X8_init, by decide +kernel, ⟨by decide +kernel, by decide +kernel⟩, by decide +kernel⟩, mm_w1 1 38 rfl rfl, rfl, rfl, rfl⟩
theorem li_X11_66 : mm_LI RX11 66 Y_X2_init 3 := ⟨⟨mm_w1 1 130 rfl rfl, cw_X2_init, by decide +kernel, ⟨by decide +kernel, by decide +kernel⟩, by decide +kernel⟩, mm_w1 1 131 rfl rfl, rfl, rfl, rfl⟩
theorem li_X11_75 : mm_LI RX11 75 Y_X1_init 1 := ⟨⟨mm_w1 1 179 rfl rfl, cw_X1_init, by decide +kernel, ⟨by decide +kernel, by decide +kernel⟩, by decide +kernel⟩, mm_w1 1 180 rfl rfl, rfl, rfl, rfl⟩
theorem li_X11_82 : mm_LI RX11 82 Y_X5_init 0 := ⟨⟨mm_w1 1 208 rfl rfl, cw_X5_init, by decide +kernel, ⟨by decide +kernel, by decide +kernel⟩, by decide +kernel⟩, mm_w1 1 209 rfl rfl, rfl, rfl, rfl⟩
theorem li_X11_89 : mm_LI RX11 89 Y_X7_init 2 := ⟨⟨mm_w1 1 223 rfl rfl, cw_X7_init, by decide +kernel, ⟨by decide +kernel, by decide +kernel⟩, by decide +kernel⟩, mm_w1 1 224 rfl rfl, rfl, rfl, rfl⟩
theorem oi_X0_3 : mm_OiP RX0 3 := ⟨mm_w1 0 151 rfl rfl, mm_w1 0 31 rfl rfl, mm_w1 0 32 rfl rfl⟩
theorem oi_X1_3 : mm_OiP RX1 3 := ⟨mm_w1 1 182 rfl rfl, mm_w1 0 31 rfl rfl, mm_w1 0 32 rfl rfl⟩
theorem li_X1_28 : mm_LI RX1 28 Y_X8_init 1 := ⟨⟨mm_w1 1 184 rfl rfl, cw_X8_init, by decide +kernel, ⟨by decide +kernel, by decide +kernel⟩, by decide +kernel⟩, mm_w1 1 38 rfl rfl, rfl, rfl, rfl⟩
theorem oi_X2_3 : mm_OiP RX2 3 := ⟨mm_w1 1 133 rfl rfl, mm_w1 0 31 rfl rfl, mm_w1 0 32 rfl rfl⟩
theorem oi_X3_3 : mm_OiP RX3 3 := ⟨mm_w1 0 210 rfl rfl, mm_w1 0 31 rfl rfl, mm_w1 0 32 rfl rfl⟩
theorem li_X3_49 : mm_LI RX3 49 Y_X6_init 2 := ⟨⟨mm_w1 0 215 rfl rfl, cw_X6_init, by decide +kernel, ⟨by decide +kernel, by decide +kernel⟩, by decide +kernel⟩, mm_w1 0 216 rfl rfl, rfl, rfl, rfl⟩
theorem li_X3_58 : mm_LI RX3 58 Y_X8_init 1 := ⟨⟨mm_w1 1 37 rfl rfl, cw_X8_init, by decide +kernel, ⟨by decide +kernel, by decide +kernel⟩, by decide +kernel⟩, mm_w1 1 38 rfl rfl, rfl, rfl, rfl⟩
theorem oi_X4_3 : mm_OiP RX4 3 := ⟨mm_w1 0 76 rfl rfl, mm_w1 0 31 rfl rfl, mm_w1 0 32 rfl rfl⟩
theorem oi_X5_3 : mm_OiP RX5 3 := ⟨mm_w1 1 211 rfl rfl, mm_w1 0 31 rfl rfl, mm_w1 0 32 rfl rfl⟩
theorem oi_X6_5 : mm_OiP RX6 5 := ⟨mm_w1 0 218 rfl rfl, mm_w1 0 31 rfl rfl, mm_w1 0 32 rfl rfl⟩
theorem oi_X7_3 : mm_OiP RX7 3 := ⟨mm_w1 1 226 rfl rfl, mm_w1 0 31 rfl rfl, mm_w1 0 32 rfl rfl⟩
theorem oi_X8_1 : mm_OiP RX8 1 := ⟨mm_w1 1 40 rfl rfl, mm_w1 0 31 rfl rfl, mm_w1 0 32 rfl rfl⟩
theorem oi_X9_5 : mm_OiP RX9 5 := ⟨mm_w1 0 190 rfl rfl, mm_w1 0 31 rfl rfl, mm_w1 0 32 rfl rfl⟩
theorem oi_X10_3 : mm_OiP RX10 3 := ⟨mm_w1 0 38 rfl rfl, mm_w1 0 31 rfl rfl, mm_w1 0 32 rfl rfl⟩
theorem li_L_9 : mm_LI RL 9 Y_X11_init 0 := ⟨⟨mm_w1 0 27 rfl rfl, cw_X11_init, by decide +kernel, ⟨by decide +kernel, by decide +kernel⟩, by decide +kernel⟩, mm_w1 0 28 rfl rfl, rfl, rfl, rfl⟩
theorem li_L_12 : mm_LI RL 12 Y_X13_init 0 := ⟨⟨mm_w1 5 114 rfl rfl, cw_X13_init, by decide +kernel, ⟨by decide +kernel, by decide +kernel⟩, by decide +kernel⟩, mm_w1 5 115 rfl rfl, rfl, rfl, rfl⟩
theorem oi_X13_232 : mm_OiP RX13 232 := ⟨mm_w1 5 117 rfl rfl, mm_w1 0 31 rfl rfl, mm_w1 0 32 rfl rfl⟩
theorem li_X13_239 : mm_LI RX13 239 Y_X12_init 0 := ⟨⟨mm_w1 5 155 rfl rfl, cw_X12_init, by decide +kernel, ⟨by decide +kernel, by decide +kernel⟩, by decide +kernel⟩, mm_w1 5 156 rfl rfl, rfl, rfl, rfl⟩
