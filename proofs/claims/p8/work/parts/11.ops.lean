section
variable {X : mm_X} {Y : mm_Y} {n0 n1 n pc q t : Nat} {ls st : List mm_V} {M : mm_M} {Φ : mm_V → mm_M → Prop} {x y : Int}
theorem mm_iconst {a : Int} (hd : mm_D Y.2.1 pc q (.iconst a)) (hq : pc + 1 = q) (k : mm_J X Y n0 n1 n q ls ((0, a) :: st) M Φ) : mm_J X Y n0 n1 n pc ls (st) M Φ := by
  subst hq
  refine mm_go (fun p l e R s m args below meth c D cA bs ro H locs lsr cells slots Q hx hb hL kk => ?_) k
  exact lv_iconst hx hb (by simpa using hd.1) rfl kk
theorem mm_bipush {a : Int} (hd : mm_D Y.2.1 pc q (.bipush a)) (hq : pc + 2 = q) (ha : -128 ≤ a ∧ a ≤ 127) (k : mm_J X Y n0 n1 n q ls ((0, a) :: st) M Φ) : mm_J X Y n0 n1 n pc ls (st) M Φ := by
  subst hq
  refine mm_go (fun p l e R s m args below meth c D cA bs ro H locs lsr cells slots Q hx hb hL kk => ?_) k
  refine lv_bipush hx hb (by simpa using hd.1) (v := mm_i a) ?_ kk
  rw [← Int32.toInt_inj, Int8.toInt_toInt32, Int8.toInt_ofInt_of_le (by omega) (by omega), mm_i_to (by omega)]
theorem mm_sipush {a : Int} (hd : mm_D Y.2.1 pc q (.sipush a)) (hq : pc + 3 = q) (ha : -32768 ≤ a ∧ a ≤ 32767) (k : mm_J X Y n0 n1 n q ls ((0, a) :: st) M Φ) : mm_J X Y n0 n1 n pc ls (st) M Φ := by
  subst hq
  refine mm_go (fun p l e R s m args below meth c D cA bs ro H locs lsr cells slots Q hx hb hL kk => ?_) k
  refine lv_sipush hx hb (by simpa using hd.1) (v := mm_i a) ?_ kk
  rw [← Int32.toInt_inj, Int16.toInt_toInt32, Int16.toInt_ofInt_of_le (by omega) (by omega), mm_i_to (by omega)]
theorem mm_lconst {a : Fin 2} (hd : mm_D Y.2.1 pc q (.lconst a)) (hq : pc + 1 = q) (k : mm_J X Y n0 n1 n q ls ((1, ((a : Nat) : Int)) :: st) M Φ) : mm_J X Y n0 n1 n pc ls (st) M Φ := by
  subst hq
  refine mm_go (fun p l e R s m args below meth c D cA bs ro H locs lsr cells slots Q hx hb hL kk => ?_) k
  refine lv_lconst hx hb (by simpa using hd.1) (v := mm_l ((a : Nat) : Int)) ?_ kk
  match a with
  | 0 => rfl
  | 1 => rfl
theorem mm_iadd (hd : mm_D Y.2.1 pc q .iadd) (hq : pc + 1 = q) (k : mm_J X Y n0 n1 n q ls ((0, x + y) :: st) M Φ) : mm_J X Y n0 n1 n pc ls ((0, y) :: (0, x) :: st) M Φ := by
  subst hq
  refine mm_go (fun p l e R s m args below meth c D cA bs ro H locs lsr cells slots Q hx hb hL kk => ?_) k
  refine lv_iadd hx hb (by simpa using hd.1) ?_
  rw [mm_i_add]
  exact kk
theorem mm_ladd (hd : mm_D Y.2.1 pc q .ladd) (hq : pc + 1 = q) (k : mm_J X Y n0 n1 n q ls ((1, x + y) :: st) M Φ) : mm_J X Y n0 n1 n pc ls ((1, y) :: (1, x) :: st) M Φ := by
  subst hq
  refine mm_go (fun p l e R s m args below meth c D cA bs ro H locs lsr cells slots Q hx hb hL kk => ?_) k
  refine lv_ladd hx hb (by simpa using hd.1) ?_
  rw [mm_l_add]
  exact kk
theorem mm_isub (hd : mm_D Y.2.1 pc q .isub) (hq : pc + 1 = q) (k : mm_J X Y n0 n1 n q ls ((0, x - y) :: st) M Φ) : mm_J X Y n0 n1 n pc ls ((0, y) :: (0, x) :: st) M Φ := by
  subst hq
  refine mm_go (fun p l e R s m args below meth c D cA bs ro H locs lsr cells slots Q hx hb hL kk => ?_) k
  refine lv_isub hx hb (by simpa using hd.1) ?_
  rw [mm_i_sub]
  exact kk
theorem mm_lsub (hd : mm_D Y.2.1 pc q .lsub) (hq : pc + 1 = q) (k : mm_J X Y n0 n1 n q ls ((1, x - y) :: st) M Φ) : mm_J X Y n0 n1 n pc ls ((1, y) :: (1, x) :: st) M Φ := by
  subst hq
  refine mm_go (fun p l e R s m args below meth c D cA bs ro H locs lsr cells slots Q hx hb hL kk => ?_) k
  refine lv_lsub hx hb (by simpa using hd.1) ?_
  rw [mm_l_sub]
  exact kk
theorem mm_imul (hd : mm_D Y.2.1 pc q .imul) (hq : pc + 1 = q) (k : mm_J X Y n0 n1 n q ls ((0, x * y) :: st) M Φ) : mm_J X Y n0 n1 n pc ls ((0, y) :: (0, x) :: st) M Φ := by
  subst hq
  refine mm_go (fun p l e R s m args below meth c D cA bs ro H locs lsr cells slots Q hx hb hL kk => ?_) k
  refine lv_imul hx hb (by simpa using hd.1) ?_
  rw [mm_i_mul]
  exact kk
theorem mm_lmul (hd : mm_D Y.2.1 pc q .lmul) (hq : pc + 1 = q) (k : mm_J X Y n0 n1 n q ls ((1, x * y) :: st) M Φ) : mm_J X Y n0 n1 n pc ls ((1, y) :: (1, x) :: st) M Φ := by
  subst hq
  refine mm_go (fun p l e R s m args below meth c D cA bs ro H locs lsr cells slots Q hx hb hL kk => ?_) k
  refine lv_lmul hx hb (by simpa using hd.1) ?_
  rw [mm_l_mul]
  exact kk
theorem mm_ineg (hd : mm_D Y.2.1 pc q .ineg) (hq : pc + 1 = q) (k : mm_J X Y n0 n1 n q ls ((0, -x) :: st) M Φ) : mm_J X Y n0 n1 n pc ls ((0, x) :: st) M Φ := by
  subst hq
  refine mm_go (fun p l e R s m args below meth c D cA bs ro H locs lsr cells slots Q hx hb hL kk => ?_) k
  refine lv_ineg hx hb (by simpa using hd.1) ?_
  rw [mm_i_neg]
  exact kk
theorem mm_lneg (hd : mm_D Y.2.1 pc q .lneg) (hq : pc + 1 = q) (k : mm_J X Y n0 n1 n q ls ((1, -x) :: st) M Φ) : mm_J X Y n0 n1 n pc ls ((1, x) :: st) M Φ := by
  subst hq
  refine mm_go (fun p l e R s m args below meth c D cA bs ro H locs lsr cells slots Q hx hb hL kk => ?_) k
  refine lv_lneg hx hb (by simpa using hd.1) ?_
  rw [mm_l_neg]
  exact kk
theorem mm_idiv (hd : mm_D Y.2.1 pc q .idiv) (hq : pc + 1 = q) (hx0 : mm_R x) (hy0 : mm_R y) (hz : y ≠ 0) (k : mm_J X Y n0 n1 n q ls ((0, x.tdiv y) :: st) M Φ) : mm_J X Y n0 n1 n pc ls ((0, y) :: (0, x) :: st) M Φ := by
  subst hq
  refine mm_go (fun p l e R s m args below meth c D cA bs ro H locs lsr cells slots Q hx hb hL kk => ?_) k
  refine lv_idiv hx hb (by simpa using hd.1) (fun h => hz ((mm_i_inj hy0 (by omega)).mp h)) ?_
  rw [mm_i_div hx0 hy0 hz]
  exact kk
theorem mm_ldiv (hd : mm_D Y.2.1 pc q .ldiv) (hq : pc + 1 = q) (hx0 : mm_RL x) (hy0 : mm_RL y) (hz : y ≠ 0) (k : mm_J X Y n0 n1 n q ls ((1, x.tdiv y) :: st) M Φ) : mm_J X Y n0 n1 n pc ls ((1, y) :: (1, x) :: st) M Φ := by
  subst hq
  refine mm_go (fun p l e R s m args below meth c D cA bs ro H locs lsr cells slots Q hx hb hL kk => ?_) k
  refine lv_ldiv hx hb (by simpa using hd.1) (fun h => hz ((mm_l_inj hy0 (by omega)).mp h)) ?_
  rw [mm_l_div hx0 hy0 hz]
  exact kk
theorem mm_irem (hd : mm_D Y.2.1 pc q .irem) (hq : pc + 1 = q) (hx0 : mm_R x) (hy0 : mm_R y) (hz : y ≠ 0) (k : mm_J X Y n0 n1 n q ls ((0, x.tmod y) :: st) M Φ) : mm_J X Y n0 n1 n pc ls ((0, y) :: (0, x) :: st) M Φ := by
  subst hq
  refine mm_go (fun p l e R s m args below meth c D cA bs ro H locs lsr cells slots Q hx hb hL kk => ?_) k
  refine lv_irem hx hb (by simpa using hd.1) (fun h => hz ((mm_i_inj hy0 (by omega)).mp h)) ?_
  rw [mm_i_rem hx0 hy0 hz]
  exact kk
theorem mm_i2l (hd : mm_D Y.2.1 pc q .i2l) (hq : pc + 1 = q) (hx0 : mm_R x) (k : mm_J X Y n0 n1 n q ls ((1, x) :: st) M Φ) : mm_J X Y n0 n1 n pc ls ((0, x) :: st) M Φ := by
  subst hq
  refine mm_go (fun p l e R s m args below meth c D cA bs ro H locs lsr cells slots Q hx hb hL kk => ?_) k
  exact lv_i2l hx hb (by simpa using hd.1) (mm_i_i2l hx0) kk
theorem mm_l2i (hd : mm_D Y.2.1 pc q .l2i) (hq : pc + 1 = q) (k : mm_J X Y n0 n1 n q ls ((0, x) :: st) M Φ) : mm_J X Y n0 n1 n pc ls ((1, x) :: st) M Φ := by
  subst hq
  refine mm_go (fun p l e R s m args below meth c D cA bs ro H locs lsr cells slots Q hx hb hL kk => ?_) k
  exact lv_l2i hx hb (by simpa using hd.1) (mm_i_l2i x) kk
theorem mm_i2b (hd : mm_D Y.2.1 pc q .i2b) (hq : pc + 1 = q) (k : mm_J X Y n0 n1 n q ls ((0, (mm_i x).toInt8.toInt) :: st) M Φ) : mm_J X Y n0 n1 n pc ls ((0, x) :: st) M Φ := by
  subst hq
  refine mm_go (fun p l e R s m args below meth c D cA bs ro H locs lsr cells slots Q hx hb hL kk => ?_) k
  refine lv_i2b hx hb (by simpa using hd.1) (v := mm_i (mm_i x).toInt8.toInt) ?_ kk
  show (mm_i x).toInt8.toInt32 = _
  rw [← Int32.toInt_inj, Int8.toInt_toInt32, mm_i_to (by have := Int8.le_toInt (mm_i x).toInt8; have := Int8.toInt_lt (mm_i x).toInt8; omega)]
theorem mm_iand (hd : mm_D Y.2.1 pc q .iand) (hq : pc + 1 = q) (k : mm_J X Y n0 n1 n q ls ((0, (mm_i x &&& mm_i y).toInt) :: st) M Φ) : mm_J X Y n0 n1 n pc ls ((0, y) :: (0, x) :: st) M Φ := by
  subst hq
  refine mm_go (fun p l e R s m args below meth c D cA bs ro H locs lsr cells slots Q hx hb hL kk => ?_) k
  refine lv_iand hx hb (by simpa using hd.1) ?_
  rw [← mm_i_of (mm_i x &&& mm_i y)]
  exact kk
theorem mm_ior (hd : mm_D Y.2.1 pc q .ior) (hq : pc + 1 = q) (k : mm_J X Y n0 n1 n q ls ((0, (mm_i x ||| mm_i y).toInt) :: st) M Φ) : mm_J X Y n0 n1 n pc ls ((0, y) :: (0, x) :: st) M Φ := by
  subst hq
  refine mm_go (fun p l e R s m args below meth c D cA bs ro H locs lsr cells slots Q hx hb hL kk => ?_) k
  refine lv_ior hx hb (by simpa using hd.1) ?_
  rw [← mm_i_of (mm_i x ||| mm_i y)]
  exact kk
theorem mm_ishl (hd : mm_D Y.2.1 pc q .ishl) (hq : pc + 1 = q) (k : mm_J X Y n0 n1 n q ls ((0, (mm_i x <<< (mm_i y &&& 31)).toInt) :: st) M Φ) : mm_J X Y n0 n1 n pc ls ((0, y) :: (0, x) :: st) M Φ := by
  subst hq
  refine mm_go (fun p l e R s m args below meth c D cA bs ro H locs lsr cells slots Q hx hb hL kk => ?_) k
  refine lv_ishl hx hb (by simpa using hd.1) ?_
  rw [← mm_i_of (mm_i x <<< (mm_i y &&& 31))]
  exact kk
theorem mm_ishr (hd : mm_D Y.2.1 pc q .ishr) (hq : pc + 1 = q) (k : mm_J X Y n0 n1 n q ls ((0, (mm_i x >>> (mm_i y &&& 31)).toInt) :: st) M Φ) : mm_J X Y n0 n1 n pc ls ((0, y) :: (0, x) :: st) M Φ := by
  subst hq
  refine mm_go (fun p l e R s m args below meth c D cA bs ro H locs lsr cells slots Q hx hb hL kk => ?_) k
  refine lv_ishr hx hb (by simpa using hd.1) ?_
  rw [← mm_i_of (mm_i x >>> (mm_i y &&& 31))]
  exact kk
theorem mm_lcmp (hd : mm_D Y.2.1 pc q .lcmp) (hq : pc + 1 = q) (hx0 : mm_RL x) (hy0 : mm_RL y) (k : mm_J X Y n0 n1 n q ls ((0, if y < x then 1 else if x = y then 0 else -1) :: st) M Φ) : mm_J X Y n0 n1 n pc ls ((1, y) :: (1, x) :: st) M Φ := by
  subst hq
  refine mm_go (fun p l e R s m args below meth c D cA bs ro H locs lsr cells slots Q hx hb hL kk => ?_) k
  refine W.lcmp hx hb (by simpa using hd.1) ?_
  have e : lg_cmp (mm_l x) (mm_l y) = mm_i (if y < x then 1 else if x = y then 0 else -1) := by
    unfold lg_cmp
    simp only [gt_iff_lt, mm_l_lt hy0 hx0, mm_l_inj hx0 hy0]
    split
    · rfl
    · split <;> rfl
  rw [e]
  exact kk
theorem mm_dup {v : mm_V} (hd : mm_D Y.2.1 pc q .dup) (hq : pc + 1 = q) (hv : v.1 ≠ 1) (k : mm_J X Y n0 n1 n q ls (v :: v :: st) M Φ) : mm_J X Y n0 n1 n pc ls (v :: st) M Φ := by
  subst hq
  refine mm_go (fun p l e R s m args below meth c D cA bs ro H locs lsr cells slots Q hx hb hL kk => ?_) k
  exact lv_dup hx hb (by simpa using hd.1) (mm_cat1 hv) kk
theorem mm_dup2 {v w : mm_V} (hd : mm_D Y.2.1 pc q .dup2) (hq : pc + 1 = q) (hv : v.1 ≠ 1) (hw : w.1 ≠ 1) (k : mm_J X Y n0 n1 n q ls (v :: w :: v :: w :: st) M Φ) : mm_J X Y n0 n1 n pc ls (v :: w :: st) M Φ := by
  subst hq
  refine mm_go (fun p l e R s m args below meth c D cA bs ro H locs lsr cells slots Q hx hb hL kk => ?_) k
  exact lv_dup2_11 hx hb (by simpa using hd.1) (mm_cat1 hv) (mm_cat1 hw) kk
theorem mm_pop {v : mm_V} (hd : mm_D Y.2.1 pc q .pop) (hq : pc + 1 = q) (hv : v.1 ≠ 1) (k : mm_J X Y n0 n1 n q ls (st) M Φ) : mm_J X Y n0 n1 n pc ls (v :: st) M Φ := by
  subst hq
  refine mm_go (fun p l e R s m args below meth c D cA bs ro H locs lsr cells slots Q hx hb hL kk => ?_) k
  exact lv_pop hx hb (by simpa using hd.1) (mm_cat1 hv) kk
theorem mm_null (hd : mm_D Y.2.1 pc q .aconst_null) (hq : pc + 1 = q) (k : mm_J X Y n0 n1 n q ls ((2, 0) :: st) M Φ) : mm_J X Y n0 n1 n pc ls (st) M Φ := by
  subst hq
  refine mm_go (fun p l e R s m args below meth c D cA bs ro H locs lsr cells slots Q hx hb hL kk => ?_) k
  exact lv_null hx hb (by simpa using hd.1) kk
theorem mm_iload_n {a : Fin 4} (hd : mm_D Y.2.1 pc q (.iload_n a)) (hq : pc + 1 = q) (hl : ls[(a : Nat)]? = some (0, x)) (k : mm_J X Y n0 n1 n q ls ((0, x) :: st) M Φ) : mm_J X Y n0 n1 n pc ls (st) M Φ := by
  subst hq
  refine mm_go (fun p l e R s m args below meth c D cA bs ro H locs lsr cells slots Q hx hb hL kk => ?_) k
  exact lv_iload_n hx hb (by simpa using hd.1) rfl (hL.2.2 _ _ hl (show _ ≠ 9 by simp)) kk
theorem mm_iload {a : Nat} (hd : mm_D Y.2.1 pc q (.iload a)) (hq : pc + 2 = q) (hl : ls[a]? = some (0, x)) (k : mm_J X Y n0 n1 n q ls ((0, x) :: st) M Φ) : mm_J X Y n0 n1 n pc ls (st) M Φ := by
  subst hq
  refine mm_go (fun p l e R s m args below meth c D cA bs ro H locs lsr cells slots Q hx hb hL kk => ?_) k
  exact lv_iload hx hb (by simpa using hd.1) (hL.2.2 _ _ hl (show _ ≠ 9 by simp)) kk
theorem mm_lload_n {a : Fin 4} (hd : mm_D Y.2.1 pc q (.lload_n a)) (hq : pc + 1 = q) (hl : ls[(a : Nat)]? = some (1, x)) (k : mm_J X Y n0 n1 n q ls ((1, x) :: st) M Φ) : mm_J X Y n0 n1 n pc ls (st) M Φ := by
  subst hq
  refine mm_go (fun p l e R s m args below meth c D cA bs ro H locs lsr cells slots Q hx hb hL kk => ?_) k
  exact lv_lload_n hx hb (by simpa using hd.1) rfl (hL.2.2 _ _ hl (show _ ≠ 9 by simp)) kk
theorem mm_lload {a : Nat} (hd : mm_D Y.2.1 pc q (.lload a)) (hq : pc + 2 = q) (hl : ls[a]? = some (1, x)) (k : mm_J X Y n0 n1 n q ls ((1, x) :: st) M Φ) : mm_J X Y n0 n1 n pc ls (st) M Φ := by
  subst hq
  refine mm_go (fun p l e R s m args below meth c D cA bs ro H locs lsr cells slots Q hx hb hL kk => ?_) k
  exact lv_lload hx hb (by simpa using hd.1) (hL.2.2 _ _ hl (show _ ≠ 9 by simp)) kk
theorem mm_aload_n {a : Fin 4} (hd : mm_D Y.2.1 pc q (.aload_n a)) (hq : pc + 1 = q) (hl : ls[(a : Nat)]? = some (2, x)) (k : mm_J X Y n0 n1 n q ls ((2, x) :: st) M Φ) : mm_J X Y n0 n1 n pc ls (st) M Φ := by
  subst hq
  refine mm_go (fun p l e R s m args below meth c D cA bs ro H locs lsr cells slots Q hx hb hL kk => ?_) k
  have hl := hL.2.2 _ _ hl (show _ ≠ 9 by simp)
  rcases mm_v2or bs ro x with h | ⟨w, h⟩
  · rw [List.map_cons, h] at kk
    rw [h] at hl
    exact lv_aload_nN hx hb (by simpa using hd.1) rfl hl kk
  · rw [List.map_cons, h] at kk
    rw [h] at hl
    exact lv_aload_n hx hb (by simpa using hd.1) rfl hl kk
theorem mm_aload {a : Nat} (hd : mm_D Y.2.1 pc q (.aload a)) (hq : pc + 2 = q) (hl : ls[a]? = some (2, x)) (k : mm_J X Y n0 n1 n q ls ((2, x) :: st) M Φ) : mm_J X Y n0 n1 n pc ls (st) M Φ := by
  subst hq
  refine mm_go (fun p l e R s m args below meth c D cA bs ro H locs lsr cells slots Q hx hb hL kk => ?_) k
  have hl := hL.2.2 _ _ hl (show _ ≠ 9 by simp)
  rcases mm_v2or bs ro x with h | ⟨w, h⟩
  · rw [List.map_cons, h] at kk
    rw [h] at hl
    exact lv_aloadN hx hb (by simpa using hd.1) hl kk
  · rw [List.map_cons, h] at kk
    rw [h] at hl
    exact lv_aload hx hb (by simpa using hd.1) hl kk
theorem mm_ifeq (hd : mm_Bz Y.2.1 pc q t .eq) (hx0 : mm_R x) (kt : x = 0 → mm_J X Y n0 n1 n t ls st M Φ) (kf : ¬ (x = 0) → mm_J X Y n0 n1 n q ls st M Φ) : mm_J X Y n0 n1 n pc ls ((0, x) :: st) M Φ := by
  obtain ⟨hd, rfl⟩ := hd
  intro p l e R s m args below meth c D cA bs ro H locs lsr C hP hS hL
  refine lv_if_eq C.1 C.2.1 (tgt := t) hd (by omega) (fun hc => kt ((mm_i_inj hx0 (by omega : mm_R 0)).mp hc) p l e R s m args below meth c D cA bs ro H locs lsr C hP hS hL) (fun hc => kf (fun h => hc ((mm_i_inj hx0 (by omega : mm_R 0)).mpr h)) p l e R s m args below meth c D cA bs ro H locs lsr C hP hS hL)
theorem mm_ifne (hd : mm_Bz Y.2.1 pc q t .ne) (hx0 : mm_R x) (kt : x ≠ 0 → mm_J X Y n0 n1 n t ls st M Φ) (kf : x = 0 → mm_J X Y n0 n1 n q ls st M Φ) : mm_J X Y n0 n1 n pc ls ((0, x) :: st) M Φ := by
  obtain ⟨hd, rfl⟩ := hd
  intro p l e R s m args below meth c D cA bs ro H locs lsr C hP hS hL
  refine lv_if_ne C.1 C.2.1 (tgt := t) hd (by omega) (fun hc => kt (fun h => hc ((mm_i_inj hx0 (by omega : mm_R 0)).mpr h)) p l e R s m args below meth c D cA bs ro H locs lsr C hP hS hL) (fun hc => kf ((mm_i_inj hx0 (by omega : mm_R 0)).mp hc) p l e R s m args below meth c D cA bs ro H locs lsr C hP hS hL)
theorem mm_iflt (hd : mm_Bz Y.2.1 pc q t .lt) (hx0 : mm_R x) (kt : x < 0 → mm_J X Y n0 n1 n t ls st M Φ) (kf : ¬ (x < 0) → mm_J X Y n0 n1 n q ls st M Φ) : mm_J X Y n0 n1 n pc ls ((0, x) :: st) M Φ := by
  obtain ⟨hd, rfl⟩ := hd
  intro p l e R s m args below meth c D cA bs ro H locs lsr C hP hS hL
  refine lv_if_lt C.1 C.2.1 (tgt := t) hd (by omega) (fun hc => kt ((mm_i_lt hx0 (by omega : mm_R 0)).mp hc) p l e R s m args below meth c D cA bs ro H locs lsr C hP hS hL) (fun hc => kf (fun h => hc ((mm_i_lt hx0 (by omega : mm_R 0)).mpr h)) p l e R s m args below meth c D cA bs ro H locs lsr C hP hS hL)
theorem mm_ifge (hd : mm_Bz Y.2.1 pc q t .ge) (hx0 : mm_R x) (kt : 0 ≤ x → mm_J X Y n0 n1 n t ls st M Φ) (kf : ¬ (0 ≤ x) → mm_J X Y n0 n1 n q ls st M Φ) : mm_J X Y n0 n1 n pc ls ((0, x) :: st) M Φ := by
  obtain ⟨hd, rfl⟩ := hd
  intro p l e R s m args below meth c D cA bs ro H locs lsr C hP hS hL
  refine lv_if_ge C.1 C.2.1 (tgt := t) hd (by omega) (fun hc => kt ((mm_i_le (by omega : mm_R 0) hx0).mp hc) p l e R s m args below meth c D cA bs ro H locs lsr C hP hS hL) (fun hc => kf (fun h => hc ((mm_i_le (by omega : mm_R 0) hx0).mpr h)) p l e R s m args below meth c D cA bs ro H locs lsr C hP hS hL)
theorem mm_ifgt (hd : mm_Bz Y.2.1 pc q t .gt) (hx0 : mm_R x) (kt : 0 < x → mm_J X Y n0 n1 n t ls st M Φ) (kf : ¬ (0 < x) → mm_J X Y n0 n1 n q ls st M Φ) : mm_J X Y n0 n1 n pc ls ((0, x) :: st) M Φ := by
  obtain ⟨hd, rfl⟩ := hd
  intro p l e R s m args below meth c D cA bs ro H locs lsr C hP hS hL
  refine lv_if_gt C.1 C.2.1 (tgt := t) hd (by omega) (fun hc => kt ((mm_i_lt (by omega : mm_R 0) hx0).mp hc) p l e R s m args below meth c D cA bs ro H locs lsr C hP hS hL) (fun hc => kf (fun h => hc ((mm_i_lt (by omega : mm_R 0) hx0).mpr h)) p l e R s m args below meth c D cA bs ro H locs lsr C hP hS hL)
theorem mm_ifle (hd : mm_Bz Y.2.1 pc q t .le) (hx0 : mm_R x) (kt : x ≤ 0 → mm_J X Y n0 n1 n t ls st M Φ) (kf : ¬ (x ≤ 0) → mm_J X Y n0 n1 n q ls st M Φ) : mm_J X Y n0 n1 n pc ls ((0, x) :: st) M Φ := by
  obtain ⟨hd, rfl⟩ := hd
  intro p l e R s m args below meth c D cA bs ro H locs lsr C hP hS hL
  refine lv_if_le C.1 C.2.1 (tgt := t) hd (by omega) (fun hc => kt ((mm_i_le hx0 (by omega : mm_R 0)).mp hc) p l e R s m args below meth c D cA bs ro H locs lsr C hP hS hL) (fun hc => kf (fun h => hc ((mm_i_le hx0 (by omega : mm_R 0)).mpr h)) p l e R s m args below meth c D cA bs ro H locs lsr C hP hS hL)
theorem mm_iceq (hd : mm_Bi Y.2.1 pc q t .eq) (hx0 : mm_R x) (hy0 : mm_R y) (kt : x = y → mm_J X Y n0 n1 n t ls st M Φ) (kf : ¬ (x = y) → mm_J X Y n0 n1 n q ls st M Φ) : mm_J X Y n0 n1 n pc ls ((0, y) :: (0, x) :: st) M Φ := by
  obtain ⟨hd, rfl⟩ := hd
  intro p l e R s m args below meth c D cA bs ro H locs lsr C hP hS hL
  refine lv_icmp_eq C.1 C.2.1 (tgt := t) hd (by omega) (fun hc => kt ((mm_i_inj hx0 hy0).mp hc) p l e R s m args below meth c D cA bs ro H locs lsr C hP hS hL) (fun hc => kf (fun h => hc ((mm_i_inj hx0 hy0).mpr h)) p l e R s m args below meth c D cA bs ro H locs lsr C hP hS hL)
theorem mm_icne (hd : mm_Bi Y.2.1 pc q t .ne) (hx0 : mm_R x) (hy0 : mm_R y) (kt : x ≠ y → mm_J X Y n0 n1 n t ls st M Φ) (kf : x = y → mm_J X Y n0 n1 n q ls st M Φ) : mm_J X Y n0 n1 n pc ls ((0, y) :: (0, x) :: st) M Φ := by
  obtain ⟨hd, rfl⟩ := hd
  intro p l e R s m args below meth c D cA bs ro H locs lsr C hP hS hL
  refine lv_icmp_ne C.1 C.2.1 (tgt := t) hd (by omega) (fun hc => kt (fun h => hc ((mm_i_inj hx0 hy0).mpr h)) p l e R s m args below meth c D cA bs ro H locs lsr C hP hS hL) (fun hc => kf ((mm_i_inj hx0 hy0).mp hc) p l e R s m args below meth c D cA bs ro H locs lsr C hP hS hL)
theorem mm_iclt (hd : mm_Bi Y.2.1 pc q t .lt) (hx0 : mm_R x) (hy0 : mm_R y) (kt : x < y → mm_J X Y n0 n1 n t ls st M Φ) (kf : ¬ (x < y) → mm_J X Y n0 n1 n q ls st M Φ) : mm_J X Y n0 n1 n pc ls ((0, y) :: (0, x) :: st) M Φ := by
  obtain ⟨hd, rfl⟩ := hd
  intro p l e R s m args below meth c D cA bs ro H locs lsr C hP hS hL
  refine lv_icmp_lt C.1 C.2.1 (tgt := t) hd (by omega) (fun hc => kt ((mm_i_lt hx0 hy0).mp hc) p l e R s m args below meth c D cA bs ro H locs lsr C hP hS hL) (fun hc => kf (fun h => hc ((mm_i_lt hx0 hy0).mpr h)) p l e R s m args below meth c D cA bs ro H locs lsr C hP hS hL)
theorem mm_icge (hd : mm_Bi Y.2.1 pc q t .ge) (hx0 : mm_R x) (hy0 : mm_R y) (kt : y ≤ x → mm_J X Y n0 n1 n t ls st M Φ) (kf : ¬ (y ≤ x) → mm_J X Y n0 n1 n q ls st M Φ) : mm_J X Y n0 n1 n pc ls ((0, y) :: (0, x) :: st) M Φ := by
  obtain ⟨hd, rfl⟩ := hd
  intro p l e R s m args below meth c D cA bs ro H locs lsr C hP hS hL
  refine lv_icmp_ge C.1 C.2.1 (tgt := t) hd (by omega) (fun hc => kt ((mm_i_le hy0 hx0).mp hc) p l e R s m args below meth c D cA bs ro H locs lsr C hP hS hL) (fun hc => kf (fun h => hc ((mm_i_le hy0 hx0).mpr h)) p l e R s m args below meth c D cA bs ro H locs lsr C hP hS hL)
theorem mm_icgt (hd : mm_Bi Y.2.1 pc q t .gt) (hx0 : mm_R x) (hy0 : mm_R y) (kt : y < x → mm_J X Y n0 n1 n t ls st M Φ) (kf : ¬ (y < x) → mm_J X Y n0 n1 n q ls st M Φ) : mm_J X Y n0 n1 n pc ls ((0, y) :: (0, x) :: st) M Φ := by
  obtain ⟨hd, rfl⟩ := hd
  intro p l e R s m args below meth c D cA bs ro H locs lsr C hP hS hL
  refine lv_icmp_gt C.1 C.2.1 (tgt := t) hd (by omega) (fun hc => kt ((mm_i_lt hy0 hx0).mp hc) p l e R s m args below meth c D cA bs ro H locs lsr C hP hS hL) (fun hc => kf (fun h => hc ((mm_i_lt hy0 hx0).mpr h)) p l e R s m args below meth c D cA bs ro H locs lsr C hP hS hL)
theorem mm_icle (hd : mm_Bi Y.2.1 pc q t .le) (hx0 : mm_R x) (hy0 : mm_R y) (kt : x ≤ y → mm_J X Y n0 n1 n t ls st M Φ) (kf : ¬ (x ≤ y) → mm_J X Y n0 n1 n q ls st M Φ) : mm_J X Y n0 n1 n pc ls ((0, y) :: (0, x) :: st) M Φ := by
  obtain ⟨hd, rfl⟩ := hd
  intro p l e R s m args below meth c D cA bs ro H locs lsr C hP hS hL
  refine lv_icmp_le C.1 C.2.1 (tgt := t) hd (by omega) (fun hc => kt ((mm_i_le hx0 hy0).mp hc) p l e R s m args below meth c D cA bs ro H locs lsr C hP hS hL) (fun hc => kf (fun h => hc ((mm_i_le hx0 hy0).mpr h)) p l e R s m args below meth c D cA bs ro H locs lsr C hP hS hL)
theorem mm_goto (hd : mm_Bg Y.2.1 pc t) (k : mm_J X Y n0 n1 n t ls st M Φ) : mm_J X Y n0 n1 n pc ls st M Φ := by
  refine mm_go (fun p l e R s m args below meth c D cA bs ro H locs lsr cells slots Q hx hb hL kk => ?_) k
  exact lv_goto hx hb hd (by omega) kk
end
