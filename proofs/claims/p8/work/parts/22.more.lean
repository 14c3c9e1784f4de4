/-! ===== switches, throws, calls within the nest, booleans ===== -/
def mm_b (P : Prop) [Decidable P] : Int := if P then 1 else 0
theorem mm_b_t {P : Prop} [Decidable P] (h : P) : mm_b P = 1 := if_pos h
theorem mm_b_f {P : Prop} [Decidable P] (h : ¬ P) : mm_b P = 0 := if_neg h
theorem mm_b_01 (P : Prop) [Decidable P] : mm_b P = 0 ∨ mm_b P = 1 := by
  unfold mm_b
  split
  · exact Or.inr rfl
  · exact Or.inl rfl
theorem mm_b_R (P : Prop) [Decidable P] : mm_R (mm_b P) := by
  rcases mm_b_01 P with h | h <;> rw [h] <;> omega
theorem mm_b_congr {P Q : Prop} [Decidable P] [Decidable Q] (h : P ↔ Q) : mm_b P = mm_b Q := by
  unfold mm_b
  by_cases hp : P
  · rw [if_pos hp, if_pos (h.mp hp)]
  · rw [if_neg hp, if_neg (fun q => hp (h.mpr q))]
section
variable {X : mm_X} {Y : mm_Y} {n0 n1 n pc q t : Nat} {ls st : List mm_V} {M : mm_M} {Φ : mm_V → mm_M → Prop} {x y : Int}
theorem mm_ifeqb {P : Prop} [Decidable P] (hd : mm_Bz Y.2.1 pc q t .eq) (kt : ¬ P → mm_J X Y n0 n1 n t ls st M Φ) (kf : P → mm_J X Y n0 n1 n q ls st M Φ) : mm_J X Y n0 n1 n pc ls ((0, mm_b P) :: st) M Φ := by
  refine mm_ifeq hd (mm_b_R P) (fun h => kt (fun hp => ?_)) (fun h => kf ?_)
  · rw [mm_b_t hp] at h; exact absurd h (by decide)
  · by_cases hp : P
    · exact hp
    · exact absurd (mm_b_f hp) h
theorem mm_ifneb {P : Prop} [Decidable P] (hd : mm_Bz Y.2.1 pc q t .ne) (kt : P → mm_J X Y n0 n1 n t ls st M Φ) (kf : ¬ P → mm_J X Y n0 n1 n q ls st M Φ) : mm_J X Y n0 n1 n pc ls ((0, mm_b P) :: st) M Φ := by
  refine mm_ifne hd (mm_b_R P) (fun h => kt ?_) (fun h => kf (fun hp => ?_))
  · by_cases hp : P
    · exact hp
    · exact absurd (mm_b_f hp) h
  · rw [mm_b_t hp] at h; exact absurd h (by decide)
theorem mm_tsw {dflt lo hi : Int} {offs : Array Int} {len : Nat} {k : Nat} {off : Int} (hd : decode Y.2.1 pc = .ok (.tableswitch dflt lo hi offs, len)) (hx0 : mm_R x) (h1 : ¬ x < lo) (h2 : ¬ hi < x) (hk : (x - lo).toNat = k) (ho : offs[k]? = some off) (ht : (pc : Int) + off = (t : Int)) (kk : mm_J X Y n0 n1 n t ls st M Φ) : mm_J X Y n0 n1 n pc ls ((0, x) :: st) M Φ := by
  intro p l e R s m args below meth cd D cA bs ro H locs lsr Cx hP hS hL
  exact lv_tableIn Cx.1 Cx.2.1 hd (by show ¬ (mm_i x).toInt < lo; rw [mm_i_to hx0]; exact h1) (by show ¬ hi < (mm_i x).toInt; rw [mm_i_to hx0]; exact h2) (by show offs[((mm_i x).toInt - lo).toNat]? = _; rw [mm_i_to hx0, hk]; exact ho) ht (kk p l e R s m args below meth cd D cA bs ro H locs lsr Cx hP hS hL)
theorem mm_tsd {dflt lo hi : Int} {offs : Array Int} {len : Nat} (hd : decode Y.2.1 pc = .ok (.tableswitch dflt lo hi offs, len)) (hx0 : mm_R x) (h : x < lo ∨ hi < x) (ht : (pc : Int) + dflt = (t : Int)) (kk : mm_J X Y n0 n1 n t ls st M Φ) : mm_J X Y n0 n1 n pc ls ((0, x) :: st) M Φ := by
  intro p l e R s m args below meth cd D cA bs ro H locs lsr Cx hP hS hL
  exact lv_tableOut Cx.1 Cx.2.1 hd (by show (mm_i x).toInt < lo ∨ hi < (mm_i x).toInt; rw [mm_i_to hx0]; exact h) ht (kk p l e R s m args below meth cd D cA bs ro H locs lsr Cx hP hS hL)
/-- a throw that leaves the method -/
theorem mm_athrow (hd : mm_D Y.2.1 pc q .athrow) (hq : pc + 1 = q) (hh : Y.2.2.2.2.2.2 = []) (hr : 0 < x) (hΦ : Φ (4, x) M) : mm_J X Y n0 n n pc ls ((2, x) :: st) M Φ := by
  subst hq
  intro p l e R s m args below meth cd D cA bs ro H locs lsr Cx hP hS hL
  obtain ⟨hx, hb, hrt, -, hown, hT, hlk, -, hHd, -, -, -, -, hK, hRo, -⟩ := id Cx
  intro T hTH X0
  have hno : ∀ y ∈ cd.exceptionTable.toList, covers y pc = false := by
    have : cd.exceptionTable.toList = [] := by
      unfold mm_Hd at hHd
      rw [hh] at hHd
      exact List.map_eq_nil_iff.mp hHd
    rw [this]
    intro y hy
    cases hy
  have hst : (F0 m pc lsr (((2, x) :: st).map (mm_v bs ro))).stack = .ref (mm_ad bs ro x) :: st.map (mm_v bs ro) := by
    show mm_v bs ro (2, x) :: _ = _
    show mm_rf bs ro x :: _ = _
    rw [mm_rf, if_neg (by omega)]
  obtain ⟨u1, u2, u3, u4, u5⟩ := X0.athrowLeaves hx (g := F0 m pc lsr (((2, x) :: st).map (mm_v bs ro))) rfl rfl rfl hno hst (by rw [hb]; simpa using hd.1) hlk
  refine ⟨_, u1, .threw (mm_ad bs ro x), (4, x), M, locs, u2, u3, rfl, hΦ, ?_, ?_, u4, u5, hS.2.2⟩
  · show mm_Wd D cA bs ro n M T.heap
    rw [hTH]; exact hP
  · exact hS.F (t := T.setFrames _) hTH
end
/-- a static method of another class of the nest -/
def mm_LN (own : String) (idx : Nat) (Y' : mm_Y) (na : Nat) : Prop := (∃ host, (own, idx, Y'.1, host) ∈ mm_nw) ∧ mm_Wk (mm_cw Y') ∧ plainName Y'.1.cls = true ∧ (Y'.1.cls ≠ "java/lang/invoke/MethodHandle" ∧ Y'.1.cls ≠ "java/lang/invoke/VarHandle") ∧ (parseMethodDescriptor Y'.1.desc).map (fun g => g.parameters.length) = some na ∧ mm_Wk (.static Y'.1) ∧ mm_Wk (.initialized Y'.1.cls)
section
variable {X : mm_X} {Y Y' : mm_Y} {n pc q idx na : Nat} {ls st stk as : List mm_V} {M M1 : mm_M} {Φ Ψ : mm_V → mm_M → Prop} {r x : Int} {v1 v2 v3 : mm_V}
theorem mm_callN {n0 n1 n' : Nat} (hd : mm_D Y.2.1 pc q (.invokestatic idx)) (hq : pc + 3 = q) (hw : mm_LN Y.1.cls idx Y' na) (hna : as.length = na) (hst : stk = as.reverse ++ st)
    (hn : mm_le n0 n n' n1) (h9 : ∀ v ∈ as, v.1 ≠ 9) (hpad : (mm_dbl as).length ≤ Y'.2.2.1) (hfr : Y'.2.2.2.2.1 + 1 ≤ Y.2.2.2.2.1) (hlo : mm_wd st + (Y'.2.2.1 + 11) + Y'.2.2.2.2.2.1 ≤ Y.2.2.2.2.2.1)
    (hC : mm_C X Y' n n' as M Ψ) (hk : ∀ r M', Ψ r M' → mm_Kc X Y n0 n1 n' q ls st Φ r M') : mm_J X Y n0 n1 n pc ls stk M Φ := by
  subst hst
  intro p l e R s m args below meth cd D cA bs ro H locs lsr Cx hP hS hL
  obtain ⟨hx, hb, -, hml, hown, hT, -, -, -, -, -, -, -, hK, hRo, -⟩ := id Cx
  obtain ⟨⟨host, w1⟩, w2, w3, w4, w5, w6, w7⟩ := hw
  have hd3 : decode Y.2.1 pc = .ok (.invokestatic idx, 3) := by
    have := hd.1
    rw [← hq] at this
    simpa using this
  refine mm_callx (ig := .invokestatic idx) Cx hP hS hL hn w3 h9 hpad (hT.at w2) w2.2 hfr hlo hd3 hq ?_ hC hk
  intro T hTH X0
  obtain ⟨mk, methM, cM, hnamed, hmethM, -, -, -, -, -, -, hsigM⟩ := mm_cw_spec (hT.at w2)
  have hstatic : methM.isStatic = true := Cond.static_spec hnamed hmethM (hT.at w6)
  obtain ⟨kP, hkP, -⟩ := className_of_methodNamed hnamed
  have hinitP : kP.init = .initialized := Cond.initialized_spec (findClass_of_methodNamed hnamed) hkP (hT.at w7)
  obtain ⟨vm₁, X₁, hstep₁⟩ := X0.invokestaticNest hx hown (va_Nw.use rfl (hRo.2.2.2.2.1 _ w1)) hnamed hmethM hstatic hkP hinitP w4 (g := F0 m pc lsr ((as.reverse ++ st).map (mm_v bs ro))) rfl (argsL := as.map (mm_v bs ro)) (rest := st.map (mm_v bs ro)) (by rw [List.length_map, hna]; exact mm_lenOf w5 hsigM)
    (by rw [List.map_append, List.map_reverse]) (by rw [hb]; exact hd3)
  exact ⟨vm₁, mk, X₁, hnamed, fun target h => hstep₁ target (fun acts => h acts)⟩
theorem mm_N3i (hd : mm_D Y.2.1 pc q (.invokestatic idx)) (hq : pc + 3 = q) (hw : mm_LN Y.1.cls idx Y' 3) (hv1 : v1.1 ≠ 9) (hv2 : v2.1 ≠ 9) (hv3 : v3.1 ≠ 9) (hpad : Nat.ble (mm_dbl [v1, v2, v3]).length Y'.2.2.1 = true) (hfr : Nat.ble (Y'.2.2.2.2.1 + 1) Y.2.2.2.2.1 = true) (hlo : Nat.ble (mm_wd st + (Y'.2.2.1 + 11) + Y'.2.2.2.2.2.1) Y.2.2.2.2.2.1 = true) (hC : mm_Fn X Y' n [v1, v2, v3] M (0, x) M1) (k : mm_J X Y n n n q ls ((0, x) :: st) M1 Φ) : mm_J X Y n n n pc ls (v3 :: v2 :: v1 :: st) M Φ := by
  refine mm_callN hd hq hw (as := [v1, v2, v3]) rfl rfl (mm_le_rf n) (by simp; exact ⟨hv1, hv2, hv3⟩) (Nat.le_of_ble_eq_true hpad) (Nat.le_of_ble_eq_true hfr) (Nat.le_of_ble_eq_true hlo) hC ?_
  rintro _ _ ⟨rfl, rfl⟩
  exact k
end
/-- the references as both objects hold them once they are made -/
def mm_rt (c i : Nat) : Int := ((mm_rl.find? (fun q => q.1 == c && q.2.1 == i)).map (fun q => (q.2.2 : Int))).getD 0
def mm_Rf (M : mm_M) : Prop := ∀ c i, mm_rt c i ≠ 0 → M c i = mm_rt c i
theorem mm_Rf.at {M : mm_M} (h : mm_Rf M) {c i : Nat} {v : Int} (hv : mm_rt c i = v) (h0 : v ≠ 0) : M c i = v := by
  subst hv
  exact h c i h0
theorem mm_Rf.up {M : mm_M} (h : mm_Rf M) {c i : Nat} {v : Int} (h0 : mm_rt c i = 0) : mm_Rf (mm_up M c i v) := by
  intro a b hab
  rw [mm_up_n (fun q => hab (by rw [q.1, q.2]; exact h0))]
  exact h a b hab
/-- no reference stands in an array of numbers -/
theorem mm_rt_0 {c i : Nat} (h : mm_rl.all (fun q => q.1 != c) = true) : mm_rt c i = 0 := by
  unfold mm_rt
  have : mm_rl.find? (fun q => q.1 == c && q.2.1 == i) = none := by
    rw [List.find?_eq_none]
    intro q hq
    have := List.all_eq_true.mp h q hq
    simp only [bne_iff_ne] at this
    simp [this]
  rw [this]
  rfl
section
variable {X : mm_X} {Y : mm_Y} {n0 n1 n pc q t c ci i idx len kd : Nat} {ls st : List mm_V} {M : mm_M} {Φ : mm_V → mm_M → Prop} {x y r j v : Int}
/-- a field that holds a reference -/
theorem mm_getr {fin : Bool} {ty : FieldType} (hd : mm_D Y.2.1 pc q (.getfield idx)) (hq : pc + 3 = q) (hf : mm_F Y.1.cls idx ci i fin ty) (hr : r = (c : Int) + 1) (hc : c < n) (hs : mm_sh c = (0, ci)) (hk : mm_fk ci i = 2) (hM : M c i = v)
    (k : mm_J X Y n0 n1 n q ls ((2, v) :: st) M Φ) : mm_J X Y n0 n1 n pc ls ((2, r) :: st) M Φ := by
  subst hM
  exact mm_get hd hq hf hr hc hs hk k
end
theorem ln_X4_113 : mm_LN RX4 113 Y_X11_isWithin 3 := ⟨⟨"KitePower", by decide +kernel⟩, cw_X11_isWithin, by decide +kernel, ⟨by decide +kernel, by decide +kernel⟩, by decide +kernel, mm_w1 2 204 rfl rfl, mm_w1 0 1 rfl rfl⟩
theorem ln_X7_68 : mm_LN RX7 68 Y_X11_isWithin 3 := ⟨⟨"KitePower", by decide +kernel⟩, cw_X11_isWithin, by decide +kernel, ⟨by decide +kernel, by decide +kernel⟩, by decide +kernel, mm_w1 2 204 rfl rfl, mm_w1 0 1 rfl rfl⟩
theorem ln_X10_65 : mm_LN RX10 65 Y_X11_isWithin 3 := ⟨⟨"KitePower", by decide +kernel⟩, cw_X11_isWithin, by decide +kernel, ⟨by decide +kernel, by decide +kernel⟩, by decide +kernel, mm_w1 2 204 rfl rfl, mm_w1 0 1 rfl rfl⟩
