/-! ===== memories that agree: class (cells 3 to 20), reference (kite and winds) ===== -/
def mm_ag (M N : mm_M) : Prop := ∀ a : Nat, 3 ≤ a → a ≤ 20 → N a = M a
theorem mm_ag.rf (M : mm_M) : mm_ag M M := fun _ _ _ => rfl
theorem mm_ag.up {M N : mm_M} (h : mm_ag M N) {c i : Nat} {v : Int} (hc : ¬ (3 ≤ c ∧ c ≤ 20)) : mm_ag M (mm_up N c i v) := fun a h1 h2 => by rw [mm_up_row (by omega)]; exact h a h1 h2
theorem mm_ag.tr {M N P : mm_M} (h : mm_ag M N) (k : mm_ag N P) : mm_ag M P := fun a h1 h2 => (k a h1 h2).trans (h a h1 h2)
theorem mm_ag.of {M N : mm_M} (h : ∀ a : Nat, a ≤ 20 → N a = M a) : mm_ag M N := fun a _ h2 => h a h2
theorem mm_ag.ck {M N : mm_M} (h : mm_ag M N) (hK : mm_CK M) : mm_CK N := by
  unfold mm_CK at hK ⊢
  rw [h 3 (by decide) (by decide), h 4 (by decide) (by decide), h 6 (by decide) (by decide), h 7 (by decide) (by decide), h 8 (by decide) (by decide), h 9 (by decide) (by decide), h 10 (by decide) (by decide)]
  exact hK
theorem mm_ag.ca {M N : mm_M} (h : mm_ag M N) (hA : mm_CA M) : mm_CA N := by
  unfold mm_CA at hA ⊢
  rw [h 16 (by decide) (by decide), h 17 (by decide) (by decide)]
  exact hA
def mm_rg (M N : mm_M) : Prop := N 186 = M 186 ∧ N 183 16 = M 183 16 ∧ N 188 = M 188 ∧ N 190 = M 190 ∧ N 203 = M 203 ∧ N 204 = M 204
theorem mm_rg.rf (M : mm_M) : mm_rg M M := ⟨rfl, rfl, rfl, rfl, rfl, rfl⟩
theorem mm_rg.tr {M N P : mm_M} (h : mm_rg M N) (k : mm_rg N P) : mm_rg M P := ⟨k.1.trans h.1, k.2.1.trans h.2.1, k.2.2.1.trans h.2.2.1, k.2.2.2.1.trans h.2.2.2.1, k.2.2.2.2.1.trans h.2.2.2.2.1, k.2.2.2.2.2.trans h.2.2.2.2.2⟩
theorem mm_rg.up {M N : mm_M} (h : mm_rg M N) {c i : Nat} {v : Int} (hc : c ≠ 186 ∧ c ≠ 188 ∧ c ≠ 190 ∧ c ≠ 203 ∧ c ≠ 204 ∧ ¬ (183 = c ∧ 16 = i)) : mm_rg M (mm_up N c i v) := by
  unfold mm_rg at h ⊢
  rw [mm_up_row (Ne.symm hc.1), mm_up_row (Ne.symm hc.2.1), mm_up_row (Ne.symm hc.2.2.1), mm_up_row (Ne.symm hc.2.2.2.1), mm_up_row (Ne.symm hc.2.2.2.2.1), mm_up_n hc.2.2.2.2.2]
  exact h
theorem mm_rg.upa {M N : mm_M} (h : mm_rg M N) {c i : Nat} {v : Int} (hc : c ≠ 183 ∧ c ≠ 186 ∧ c ≠ 188 ∧ c ≠ 190 ∧ c ≠ 203 ∧ c ≠ 204) : mm_rg M (mm_up N c i v) :=
  h.up ⟨hc.2.1, hc.2.2.1, hc.2.2.2.1, hc.2.2.2.2.1, hc.2.2.2.2.2, fun q => hc.1 q.1.symm⟩
theorem mm_rg.k {M N : mm_M} (h : mm_rg M N) : mm_rk N = mm_rk M := mm_rk_congr h.1 h.2.1 h.2.2.1 h.2.2.2.1
theorem mm_rg.ra {M N : mm_M} (h : mm_rg M N) (hA : mm_RA M) : mm_RA N := by
  unfold mm_RA at hA ⊢
  rw [h.2.2.2.2.1, h.2.2.2.2.2]
  exact hA
section
variable {X : mm_X} {M N : mm_M} {s a m w d p p2 sl c h g b t e sh x y z lo hi : Int}
theorem g_X4_slants (hR : mm_Rf N) (hG : mm_ag M N) : mm_Fn X Y_X4_slants 243 [(2, 4)] N (0, M 4 10) N := by
  have e4 : N 4 = M 4 := hG 4 (by decide) (by decide)
  rw [← e4] at ⊢
  exact c_X4_slants hR
theorem g_X4_across (hR : mm_Rf N) (hG : mm_ag M N) : mm_Fn X Y_X4_across 243 [(2, 4)] N (0, M 4 0) N := by
  have e4 : N 4 = M 4 := hG 4 (by decide) (by decide)
  rw [← e4] at ⊢
  exact c_X4_across hR
theorem g_X4_hasState (hR : mm_Rf N) (hG : mm_ag M N) (hK : mm_CK M) (hs : mm_R s) : mm_Fn X Y_X4_hasState 243 [(2, 4), (0, s)] N (0, mm_b (ks_st (M 4) s)) N := by
  have e4 : N 4 = M 4 := hG 4 (by decide) (by decide)
  rw [← e4] at ⊢
  exact c_X4_hasState hR (hG.ck hK) hs
theorem g_X4_actCount (hR : mm_Rf N) (hG : mm_ag M N) : mm_Fn X Y_X4_actCount 243 [(2, 4)] N (0, 15 * M 4 10) N := by
  have e4 : N 4 = M 4 := hG 4 (by decide) (by decide)
  rw [← e4] at ⊢
  exact c_X4_actCount hR
theorem g_X4_hasAct (hR : mm_Rf N) (hG : mm_ag M N) (hK : mm_CK M) (ha : mm_R a) : mm_Fn X Y_X4_hasAct 243 [(2, 4), (0, a)] N (0, mm_b (ks_ac (M 4) a)) N := by
  have e4 : N 4 = M 4 := hG 4 (by decide) (by decide)
  rw [← e4] at ⊢
  exact c_X4_hasAct hR (hG.ck hK) ha
theorem g_X4_canMove (hR : mm_Rf N) (hG : mm_ag M N) (hK : mm_CK M) (hs : ks_st (M 4) s) (hm : 0 ≤ m ∧ m ≤ 4) : mm_Fn X Y_X4_canMove 243 [(2, 4), (0, s), (0, m)] N (0, mm_b (ks_cm (M 4) s m)) N := by
  have e4 : N 4 = M 4 := hG 4 (by decide) (by decide)
  rw [← e4] at hs ⊢
  exact c_X4_canMove hR (hG.ck hK) hs hm
theorem g_X4_canReel (hR : mm_Rf N) (hG : mm_ag M N) (hK : mm_CK M) (hs : ks_st (M 4) s) (hd : 0 ≤ d ∧ d ≤ 2) : mm_Fn X Y_X4_canReel 243 [(2, 4), (0, s), (0, d)] N (0, mm_b (ks_cr (M 4) s d)) N := by
  have e4 : N 4 = M 4 := hG 4 (by decide) (by decide)
  rw [← e4] at hs ⊢
  exact c_X4_canReel hR (hG.ck hK) hs hd
theorem g_X4_moveStep (hR : mm_Rf N) (hG : mm_ag M N) (hm : 0 ≤ m ∧ m ≤ 4) : mm_Fn X Y_X4_moveStep 243 [(2, 4), (0, m)] N (0, ks_ms (M 4) m) N := by
  have e4 : N 4 = M 4 := hG 4 (by decide) (by decide)
  rw [← e4] at ⊢
  exact c_X4_moveStep hR hm
theorem g_X4_drumStep (hR : mm_Rf N) (hG : mm_ag M N) (hK : mm_CK M) (hd : 0 ≤ d ∧ d ≤ 2) : mm_Fn X Y_X4_drumStep 243 [(2, 4), (0, d)] N (0, ks_ds (M 4) d) N := by
  have e4 : N 4 = M 4 := hG 4 (by decide) (by decide)
  rw [← e4] at ⊢
  exact c_X4_drumStep hR (hG.ck hK) hd
theorem g_X4_goal (hR : mm_Rf N) (hG : mm_ag M N) (hK : mm_CK M) (hs : ks_st (M 4) s) (ha : ks_ac (M 4) a) : mm_Fn X Y_X4_goal 243 [(2, 4), (0, s), (0, a)] N (0, if ks_can (M 4) s a then ks_to (M 4) s a else -1) N := by
  have e4 : N 4 = M 4 := hG 4 (by decide) (by decide)
  rw [← e4] at hs ha ⊢
  exact c_X4_goal hR (hG.ck hK) hs ha
theorem g_X4_withinStates (hR : mm_Rf N) (hG : mm_ag M N) (hK : mm_CK M) (hs : ks_st (M 4) s) (ha : ks_ac (M 4) a) : mm_Fn X Y_X4_withinStates 243 [(2, 4), (0, s), (0, a)] N (0, ks_in (M 4) s a) N := by
  have e4 : N 4 = M 4 := hG 4 (by decide) (by decide)
  rw [← e4] at hs ha ⊢
  exact c_X4_withinStates hR (hG.ck hK) hs ha
theorem g_X4_pullAt {P : Prop} [Decidable P] (hR : mm_Rf N) (hG : mm_ag M N) (hK : mm_CK M) (hsl : 0 ≤ sl ∧ sl < 3) (hc : 0 ≤ c ∧ c < 6) (hw : 0 ≤ w ∧ w ≤ 120) : mm_Fn X Y_X4_pullAt 243 [(2, 4), (0, sl), (0, c), (0, mm_b P), (0, w)] N (0, ks_pa (M 4) sl c P w) N := by
  have e4 : N 4 = M 4 := hG 4 (by decide) (by decide)
  rw [← e4] at ⊢
  exact c_X4_pullAt hR (hG.ck hK) hsl hc hw
theorem g_X4_pullOf (hR : mm_Rf N) (hG : mm_ag M N) (hK : mm_CK M) (hs : ks_st (M 4) s) (ha : ks_ac (M 4) a) (hw : 0 ≤ w ∧ w ≤ 120) : mm_Fn X Y_X4_pullOf 243 [(2, 4), (0, s), (0, a), (0, w)] N (0, ks_p (M 4) s a w) N := by
  have e4 : N 4 = M 4 := hG 4 (by decide) (by decide)
  rw [← e4] at hs ha ⊢
  exact c_X4_pullOf hR (hG.ck hK) hs ha hw
theorem g_X4_workOf (hR : mm_Rf N) (hG : mm_ag M N) (hK : mm_CK M) (hd : 0 ≤ d ∧ d ≤ 2) (hp : 0 ≤ p ∧ p ≤ 1425600) : mm_Fn X Y_X4_workOf 243 [(2, 4), (0, d), (0, p)] N (0, ks_w (M 4) d p) N := by
  have e4 : N 4 = M 4 := hG 4 (by decide) (by decide)
  rw [← e4] at ⊢
  exact c_X4_workOf hR (hG.ck hK) hd hp
theorem g_X4_fateOf (hR : mm_Rf N) (hG : mm_ag M N) (hK : mm_CK M) (hp : mm_R p) : mm_Fn X Y_X4_fateOf 243 [(2, 4), (0, p)] N (0, ks_fate (M 4) p) N := by
  have e4 : N 4 = M 4 := hG 4 (by decide) (by decide)
  rw [← e4] at ⊢
  exact c_X4_fateOf hR (hG.ck hK) hp
theorem g_X4_bears (hR : mm_Rf N) (hG : mm_ag M N) (hK : mm_CK M) (hp : mm_R p) (hp2 : mm_R p2) : mm_Fn X Y_X4_bears 243 [(2, 4), (0, p), (0, p2)] N (0, mm_b (ks_bears (M 4) p p2)) N := by
  have e4 : N 4 = M 4 := hG 4 (by decide) (by decide)
  rw [← e4] at ⊢
  exact c_X4_bears hR (hG.ck hK) hp hp2
theorem g_X4_tiringOf (hR : mm_Rf N) (hG : mm_ag M N) (hK : mm_CK M) (hp : 0 ≤ p ∧ p ≤ 10000000) : mm_Fn X Y_X4_tiringOf 243 [(2, 4), (0, p)] N (0, max (p - M 4 9) 0 / 100) N := by
  have e4 : N 4 = M 4 := hG 4 (by decide) (by decide)
  rw [← e4] at ⊢
  exact c_X4_tiringOf hR (hG.ck hK) hp
theorem g_X0_lowAt (hR : mm_Rf N) (hG : mm_ag M N) (hh : ks_hr h) (hb : 0 ≤ b ∧ b ≤ 4) : mm_Fn X Y_X0_lowAt 243 [(2, 12), (0, h), (0, b)] N (0, M 16 (ks_pl h b)) N := by
  have e16 : N 16 = M 16 := hG 16 (by decide) (by decide)
  rw [← e16] at ⊢
  exact c_X0_lowAt hR hh hb
theorem g_X0_highAt (hR : mm_Rf N) (hG : mm_ag M N) (hh : ks_hr h) (hb : 0 ≤ b ∧ b ≤ 4) : mm_Fn X Y_X0_highAt 243 [(2, 12), (0, h), (0, b)] N (0, M 17 (ks_pl h b)) N := by
  have e17 : N 17 = M 17 := hG 17 (by decide) (by decide)
  rw [← e17] at ⊢
  exact c_X0_highAt hR hh hb
theorem g_X0_windIn {P : Prop} [Decidable P] (hR : mm_Rf N) (hG : mm_ag M N) (hK : mm_CK M) (hs : ks_st (M 4) s) (hh : ks_hr h) : mm_Fn X Y_X0_windIn 243 [(2, 12), (0, s), (0, h), (0, mm_b P)] N (0, if P then ks_wi (M 17) (M 4) s h else ks_wi (M 16) (M 4) s h) N := by
  have e4 : N 4 = M 4 := hG 4 (by decide) (by decide)
  rw [← e4] at hs ⊢
  have e16 : N 16 = M 16 := hG 16 (by decide) (by decide)
  rw [← e16] at ⊢
  have e17 : N 17 = M 17 := hG 17 (by decide) (by decide)
  rw [← e17] at ⊢
  exact c_X0_windIn hR (hG.ck hK) hs hh
theorem g_X0_pullBy {P : Prop} [Decidable P] (hR : mm_Rf N) (hG : mm_ag M N) (hK : mm_CK M) (hA : mm_CA M) (hs : ks_st (M 4) s) (ha : ks_ac (M 4) a) (hh : ks_hr h) : mm_Fn X Y_X0_pullBy 243 [(2, 12), (0, s), (0, a), (0, h), (0, mm_b P)] N (0, ks_p (M 4) s a (if P then ks_wi (M 17) (M 4) s h else ks_wi (M 16) (M 4) s h)) N := by
  have e4 : N 4 = M 4 := hG 4 (by decide) (by decide)
  rw [← e4] at hs ha ⊢
  have e16 : N 16 = M 16 := hG 16 (by decide) (by decide)
  rw [← e16] at ⊢
  have e17 : N 17 = M 17 := hG 17 (by decide) (by decide)
  rw [← e17] at ⊢
  exact c_X0_pullBy hR (hG.ck hK) (hG.ca hA) hs ha hh
theorem g_X0_pullBy0 (hR : mm_Rf N) (hG : mm_ag M N) (hK : mm_CK M) (hA : mm_CA M) (hs : ks_st (M 4) s) (ha : ks_ac (M 4) a) (hh : ks_hr h) : mm_Fn X Y_X0_pullBy 243 [(2, 12), (0, s), (0, a), (0, h), (0, 0)] N (0, ks_p (M 4) s a (ks_wi (M 16) (M 4) s h)) N := by
  have e4 : N 4 = M 4 := hG 4 (by decide) (by decide)
  rw [← e4] at hs ha ⊢
  have e16 : N 16 = M 16 := hG 16 (by decide) (by decide)
  rw [← e16] at ⊢
  exact c_X0_pullBy0 hR (hG.ck hK) (hG.ca hA) hs ha hh
theorem g_X0_pullBy1 (hR : mm_Rf N) (hG : mm_ag M N) (hK : mm_CK M) (hA : mm_CA M) (hs : ks_st (M 4) s) (ha : ks_ac (M 4) a) (hh : ks_hr h) : mm_Fn X Y_X0_pullBy 243 [(2, 12), (0, s), (0, a), (0, h), (0, 1)] N (0, ks_p (M 4) s a (ks_wi (M 17) (M 4) s h)) N := by
  have e4 : N 4 = M 4 := hG 4 (by decide) (by decide)
  rw [← e4] at hs ha ⊢
  have e17 : N 17 = M 17 := hG 17 (by decide) (by decide)
  rw [← e17] at ⊢
  exact c_X0_pullBy1 hR (hG.ck hK) (hG.ca hA) hs ha hh
theorem g_X0_windIn0 (hR : mm_Rf N) (hG : mm_ag M N) (hK : mm_CK M) (hs : ks_st (M 4) s) (hh : ks_hr h) : mm_Fn X Y_X0_windIn 243 [(2, 12), (0, s), (0, h), (0, 0)] N (0, ks_wi (M 16) (M 4) s h) N := by
  have e4 : N 4 = M 4 := hG 4 (by decide) (by decide)
  rw [← e4] at hs ⊢
  have e16 : N 16 = M 16 := hG 16 (by decide) (by decide)
  rw [← e16] at ⊢
  exact c_X0_windIn0 hR (hG.ck hK) hs hh
theorem g_X0_isSafe (hR : mm_Rf N) (hG : mm_ag M N) (hK : mm_CK M) (hA : mm_CA M) (hs : ks_st (M 4) s) (ha : ks_ac (M 4) a) (hh : ks_hr h) : mm_Fn X Y_X0_isSafe 243 [(2, 12), (0, s), (0, a), (0, h)] N (0, mm_b (ks_safe (M 4) (M 16) (M 17) s a h)) N := by
  have e4 : N 4 = M 4 := hG 4 (by decide) (by decide)
  rw [← e4] at hs ha ⊢
  have e16 : N 16 = M 16 := hG 16 (by decide) (by decide)
  rw [← e16] at ⊢
  have e17 : N 17 = M 17 := hG 17 (by decide) (by decide)
  rw [← e17] at ⊢
  exact c_X0_isSafe hR (hG.ck hK) (hG.ca hA) hs ha hh
theorem g_X0_sureWork (hR : mm_Rf N) (hG : mm_ag M N) (hK : mm_CK M) (hA : mm_CA M) (hs : ks_st (M 4) s) (ha : ks_ac (M 4) a) (hh : ks_hr h) : mm_Fn X Y_X0_sureWork 243 [(2, 12), (0, s), (0, a), (0, h)] N (0, ks_sure (M 4) (M 16) (M 17) s a h) N := by
  have e4 : N 4 = M 4 := hG 4 (by decide) (by decide)
  rw [← e4] at hs ha ⊢
  have e16 : N 16 = M 16 := hG 16 (by decide) (by decide)
  rw [← e16] at ⊢
  have e17 : N 17 = M 17 := hG 17 (by decide) (by decide)
  rw [← e17] at ⊢
  exact c_X0_sureWork hR (hG.ck hK) (hG.ca hA) hs ha hh
theorem g_X0_sharedPull (hR : mm_Rf N) (hG : mm_ag M N) (hK : mm_CK M) (hA : mm_CA M) (hs : ks_st (M 4) s) (ha : ks_ac (M 4) a) (hh : ks_hr h) (hsh : 0 ≤ sh ∧ sh ≤ 20) : mm_Fn X Y_X0_sharedPull 243 [(2, 12), (0, s), (0, a), (0, h), (0, sh)] N (0, ks_p (M 4) s a (ks_wi (M 16) (M 4) s h * sh / 10)) N := by
  have e4 : N 4 = M 4 := hG 4 (by decide) (by decide)
  rw [← e4] at hs ha ⊢
  have e16 : N 16 = M 16 := hG 16 (by decide) (by decide)
  rw [← e16] at ⊢
  exact c_X0_sharedPull hR (hG.ck hK) (hG.ca hA) hs ha hh hsh
end
section
variable {X : mm_X} {M N : mm_M} {s a m w d p p2 sl c h g b t e sh x y z lo hi : Int}
theorem g_X13_states (hR : mm_Rf N) (hG : mm_rg M N) : mm_Fn X Y_X13_states 243 [(2, 184)] N (0, ks_n (mm_rk M)) N := by
  have ek : mm_rk N = mm_rk M := hG.k
  rw [← ek] at ⊢
  exact c_X13_states hR
theorem g_X13_columnOf (hR : mm_Rf N) (hG : mm_rg M N) (hK : mm_KV (mm_rk M)) (hs : ks_st (mm_rk M) s) : mm_Fn X Y_X13_columnOf 243 [(2, 184), (0, s)] N (0, ks_col (mm_rk M) s) N := by
  have ek : mm_rk N = mm_rk M := hG.k
  rw [← ek] at hK hs ⊢
  exact c_X13_columnOf hR hK hs
theorem g_X13_rowOf (hR : mm_Rf N) (hG : mm_rg M N) (hK : mm_KV (mm_rk M)) (hs : ks_st (mm_rk M) s) : mm_Fn X Y_X13_rowOf 243 [(2, 184), (0, s)] N (0, ks_row (mm_rk M) s) N := by
  have ek : mm_rk N = mm_rk M := hG.k
  rw [← ek] at hK hs ⊢
  exact c_X13_rowOf hR hK hs
theorem g_X13_ropeOf (hR : mm_Rf N) (hG : mm_rg M N) (hK : mm_KV (mm_rk M)) (hs : ks_st (mm_rk M) s) : mm_Fn X Y_X13_ropeOf 243 [(2, 184), (0, s)] N (0, ks_rope (mm_rk M) s) N := by
  have ek : mm_rk N = mm_rk M := hG.k
  rw [← ek] at hK hs ⊢
  exact c_X13_ropeOf hR hK hs
theorem g_X13_heightOf (hR : mm_Rf N) (hG : mm_rg M N) (hK : mm_KV (mm_rk M)) (hs : ks_st (mm_rk M) s) : mm_Fn X Y_X13_heightOf 243 [(2, 184), (0, s)] N (0, ks_h (mm_rk M) s) N := by
  have ek : mm_rk N = mm_rk M := hG.k
  rw [← ek] at hK hs ⊢
  exact c_X13_heightOf hR hK hs
theorem g_X13_bandOf (hR : mm_Rf N) (hG : mm_rg M N) (hK : mm_KV (mm_rk M)) (hs : ks_st (mm_rk M) s) : mm_Fn X Y_X13_bandOf 243 [(2, 184), (0, s)] N (0, ks_band (mm_rk M) s) N := by
  have ek : mm_rk N = mm_rk M := hG.k
  rw [← ek] at hK hs ⊢
  exact c_X13_bandOf hR hK hs
theorem g_X13_acts (hR : mm_Rf N) (hG : mm_rg M N) : mm_Fn X Y_X13_acts 243 [(2, 184)] N (0, 15 * mm_rk M 10) N := by
  have ek : mm_rk N = mm_rk M := hG.k
  rw [← ek] at ⊢
  exact c_X13_acts hR
theorem g_X13_canMove (hR : mm_Rf N) (hG : mm_rg M N) (hK : mm_KV (mm_rk M)) (hs : ks_st (mm_rk M) s) (hm : 0 ≤ m ∧ m ≤ 4) : mm_Fn X Y_X13_canMove 243 [(2, 184), (0, s), (0, m)] N (0, mm_b (ks_cm (mm_rk M) s m)) N := by
  have ek : mm_rk N = mm_rk M := hG.k
  rw [← ek] at hK hs ⊢
  exact c_X13_canMove hR hK hs hm
theorem g_X13_canReel (hR : mm_Rf N) (hG : mm_rg M N) (hK : mm_KV (mm_rk M)) (hs : ks_st (mm_rk M) s) (hd : 0 ≤ d ∧ d ≤ 2) : mm_Fn X Y_X13_canReel 243 [(2, 184), (0, s), (0, d)] N (0, mm_b (ks_cr (mm_rk M) s d)) N := by
  have ek : mm_rk N = mm_rk M := hG.k
  rw [← ek] at hK hs ⊢
  exact c_X13_canReel hR hK hs hd
theorem g_X13_canDo (hR : mm_Rf N) (hG : mm_rg M N) (hK : mm_KV (mm_rk M)) (hs : ks_st (mm_rk M) s) (ha : 0 ≤ a ∧ a < 1000) : mm_Fn X Y_X13_canDo 243 [(2, 184), (0, s), (0, a)] N (0, mm_b (ks_can (mm_rk M) s a)) N := by
  have ek : mm_rk N = mm_rk M := hG.k
  rw [← ek] at hK hs ⊢
  exact c_X13_canDo hR hK hs ha
theorem g_X13_after (hR : mm_Rf N) (hG : mm_rg M N) (ha : 0 ≤ a ∧ a < 1000) : mm_Fn X Y_X13_after 243 [(2, 184), (0, s), (0, a)] N (0, ks_to (mm_rk M) s a) N := by
  have ek : mm_rk N = mm_rk M := hG.k
  rw [← ek] at ⊢
  exact c_X13_after hR ha
theorem g_X13_pullOf (hR : mm_Rf N) (hG : mm_rg M N) (hK : mm_KV (mm_rk M)) (hs : ks_st (mm_rk M) s) (ha : ks_ac (mm_rk M) a) (hw : 0 ≤ w ∧ w ≤ 120) : mm_Fn X Y_X13_pullOf 243 [(2, 184), (0, s), (0, a), (0, w)] N (0, ks_p (mm_rk M) s a w) N := by
  have ek : mm_rk N = mm_rk M := hG.k
  rw [← ek] at hK hs ha ⊢
  exact c_X13_pullOf hR hK hs ha hw
theorem g_X13_workOf (hR : mm_Rf N) (hG : mm_rg M N) (hK : mm_KV (mm_rk M)) (ha : 0 ≤ a ∧ a < 1000) (hp : 0 ≤ p ∧ p ≤ 1425600) : mm_Fn X Y_X13_workOf 243 [(2, 184), (0, a), (0, p)] N (0, ks_w (mm_rk M) (ks_dr a) p) N := by
  have ek : mm_rk N = mm_rk M := hG.k
  rw [← ek] at hK ⊢
  exact c_X13_workOf hR hK ha hp
theorem g_X13_isState (hR : mm_Rf N) (hG : mm_rg M N) (hK : mm_KV (mm_rk M)) (hx : mm_R x) : mm_Fn X Y_X13_isState 243 [(2, 184), (0, x)] N (0, mm_b (ks_st (mm_rk M) x)) N := by
  have ek : mm_rk N = mm_rk M := hG.k
  rw [← ek] at hK ⊢
  exact c_X13_isState hR hK hx
theorem g_X13_isAct (hR : mm_Rf N) (hG : mm_rg M N) (hK : mm_KV (mm_rk M)) (hx : mm_R x) : mm_Fn X Y_X13_isAct 243 [(2, 184), (0, x)] N (0, mm_b (ks_ac (mm_rk M) x)) N := by
  have ek : mm_rk N = mm_rk M := hG.k
  rw [← ek] at hK ⊢
  exact c_X13_isAct hR hK hx
theorem g_X13_lowAt (hR : mm_Rf N) (hG : mm_rg M N) (hK : mm_KV (mm_rk M)) (hs : ks_st (mm_rk M) s) (hh : ks_hr h) : mm_Fn X Y_X13_lowAt 243 [(2, 184), (0, s), (0, h)] N (0, ks_wi (M 203) (mm_rk M) s h) N := by
  have ek : mm_rk N = mm_rk M := hG.k
  rw [← ek] at hK hs ⊢
  have e203 : N 203 = M 203 := hG.2.2.2.2.1
  rw [← e203] at ⊢
  exact c_X13_lowAt hR hK hs hh
theorem g_X13_highAt (hR : mm_Rf N) (hG : mm_rg M N) (hK : mm_KV (mm_rk M)) (hs : ks_st (mm_rk M) s) (hh : ks_hr h) : mm_Fn X Y_X13_highAt 243 [(2, 184), (0, s), (0, h)] N (0, ks_wi (M 204) (mm_rk M) s h) N := by
  have ek : mm_rk N = mm_rk M := hG.k
  rw [← ek] at hK hs ⊢
  have e204 : N 204 = M 204 := hG.2.2.2.2.2
  rw [← e204] at ⊢
  exact c_X13_highAt hR hK hs hh
theorem g_X13_isSafe (hR : mm_Rf N) (hG : mm_rg M N) (hK : mm_KV (mm_rk M)) (hA : mm_RA M) (hs : ks_st (mm_rk M) s) (ha : ks_ac (mm_rk M) a) (hh : ks_hr h) : mm_Fn X Y_X13_isSafe 243 [(2, 184), (0, s), (0, a), (0, h)] N (0, mm_b (ks_safe (mm_rk M) (M 203) (M 204) s a h)) N := by
  have ek : mm_rk N = mm_rk M := hG.k
  rw [← ek] at hK hs ha ⊢
  have e203 : N 203 = M 203 := hG.2.2.2.2.1
  rw [← e203] at ⊢
  have e204 : N 204 = M 204 := hG.2.2.2.2.2
  rw [← e204] at ⊢
  exact c_X13_isSafe hR hK (hG.ra hA) hs ha hh
theorem g_X13_surely (hR : mm_Rf N) (hG : mm_rg M N) (hK : mm_KV (mm_rk M)) (hA : mm_RA M) (hs : ks_st (mm_rk M) s) (ha : ks_ac (mm_rk M) a) (hh : ks_hr h) : mm_Fn X Y_X13_surely 243 [(2, 184), (0, s), (0, a), (0, h)] N (0, ks_sure (mm_rk M) (M 203) (M 204) s a h) N := by
  have ek : mm_rk N = mm_rk M := hG.k
  rw [← ek] at hK hs ha ⊢
  have e203 : N 203 = M 203 := hG.2.2.2.2.1
  rw [← e203] at ⊢
  have e204 : N 204 = M 204 := hG.2.2.2.2.2
  rw [← e204] at ⊢
  exact c_X13_surely hR hK (hG.ra hA) hs ha hh
theorem g_X13_pullBy (hR : mm_Rf N) (hG : mm_rg M N) (hK : mm_KV (mm_rk M)) (hA : mm_RA M) (hs : ks_st (mm_rk M) s) (ha : ks_ac (mm_rk M) a) (hh : ks_hr h) (hsh : 0 ≤ sh ∧ sh ≤ 20) : mm_Fn X Y_X13_pullBy 243 [(2, 184), (0, s), (0, a), (0, h), (0, sh)] N (0, ks_p (mm_rk M) s a (ks_wi (M 203) (mm_rk M) s h * sh / 10)) N := by
  have ek : mm_rk N = mm_rk M := hG.k
  rw [← ek] at hK hs ha ⊢
  have e203 : N 203 = M 203 := hG.2.2.2.2.1
  rw [← e203] at ⊢
  exact c_X13_pullBy hR hK (hG.ra hA) hs ha hh hsh
end
