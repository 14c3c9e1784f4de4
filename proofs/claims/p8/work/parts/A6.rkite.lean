/-! ===== the text of a kite, of the reference ===== -/
/-- while a kite's text is read: only the tokens and what is read of the kite have changed -/
def kq_bd (N : mm_M) : Prop := ∀ i, i < 3 → 0 ≤ N 189 i ∧ N 189 i ≤ 99
def kq_F (A S : Nat → Prop) (M N : mm_M) : Prop := (∀ a, a ≠ 183 → ¬ A a → N a = M a) ∧ (∀ b, ¬ (4 ≤ b ∧ b ≤ 9) → ¬ S b → N 183 b = M 183 b) ∧ (kq_bd M → kq_bd N)
theorem kq_bd.fr {M N : mm_M} (h : kq_bd M) (h1 : N 189 = M 189) : kq_bd N := by unfold kq_bd at h ⊢; rw [h1]; exact h
theorem kq_bd.up {N : mm_M} {t i : Nat} {v : Int} (h : kq_bd N) (hv : t = 189 → 0 ≤ v ∧ v ≤ 99) : kq_bd (mm_up N t i v) := by
  intro j hj
  by_cases q : t = 189
  · subst q
    by_cases w : j = i
    · rw [w, mm_up_s]; exact hv rfl
    · rw [mm_up_i w]; exact h j hj
  · rw [mm_up_row (fun z => q z.symm)]; exact h j hj
def kq_I (A S : Nat → Prop) (M N : mm_M) (n p : Nat) : Prop := mm_Rf N ∧ kq_F A S M N ∧ N 185 = M 185 ∧ mm_RT N n ∧ p ≤ n ∧ kt_H N n p
/-- a fault of kind k at s was found -/
def kq_X (A S : Nat → Prop) (M M' : mm_M) (k : Int) (s : Nat) : Prop := kq_F A S M M' ∧ M' 183 8 = k ∧ M' 183 9 = (s : Int)
/-- what a kite's text may change -/
def kq_A (a : Nat) : Prop := a = 187 ∨ a = 189 ∨ a = 191 ∨ a = 192
def kq_S (b : Nat) : Prop := b = 17 ∨ b = 18
section
variable {A S : Nat → Prop}
theorem kq_I.tp {M N : mm_M} {n p : Nat} (h : kq_I A S M N n p) : N 185 = M 185 := h.2.2.1
theorem kq_F.tr {M N P : mm_M} (h : kq_F A S M N) (h1 : ∀ a, a ≠ 183 → P a = N a) (h2 : ∀ b, ¬ (4 ≤ b ∧ b ≤ 9) → P 183 b = N 183 b) : kq_F A S M P :=
  ⟨fun a a1 a2 => (h1 a a1).trans (h.1 a a1 a2), fun b b1 b2 => (h2 b b1).trans (h.2.1 b b1 b2), fun q => (h.2.2 q).fr (h1 189 (by decide))⟩
theorem kq_I.bad {M N M' : mm_M} {n p : Nat} {x : Int} (h : kq_I A S M N n p) (hW : kt_W N M' x) : kq_X A S M M' x (kt_s (M 185) n p) := by
  refine ⟨h.2.1.tr hW.1 (fun b hb => hW.2.1 b (by omega) (by omega)), hW.2.2.1, ?_⟩
  rw [hW.2.2.2, h.2.2.2.2.2.2.1, h.tp]
/-- what is read has changed, the tokens haven't -/
theorem kq_I.fr {M N P : mm_M} {n p : Nat} (h : kq_I A S M N n p) (h0 : mm_Rf P) (h1 : ∀ a, a ≠ 183 → ¬ A a → P a = N a) (h2 : ∀ b, ¬ S b → P 183 b = N 183 b) (h3 : ∀ b, 3 ≤ b → b ≤ 7 → ¬ S b) (h4 : ¬ A 185) (h5 : kq_bd N → kq_bd P) : kq_I A S M P n p := by
  obtain ⟨i1, i2, i3, i4, i5, i6⟩ := h
  have e := h1 185 (by decide) h4
  refine ⟨h0, ⟨fun a a1 a2 => (h1 a a1 a2).trans (i2.1 a a1 a2), fun b b1 b2 => (h2 b b2).trans (i2.2.1 b b1 b2), fun q => h5 (i2.2.2 q)⟩, e.trans i3, ⟨?_, i4.2.1, ?_⟩, i5, ?_⟩
  · rw [h2 3 (h3 3 (by omega) (by omega))]; exact i4.1
  · rw [e]; exact i4.2.2
  · unfold kt_H at i6 ⊢
    rw [e, h2 4 (h3 4 (by omega) (by omega)), h2 5 (h3 5 (by omega) (by omega)), h2 6 (h3 6 (by omega) (by omega)), h2 7 (h3 7 (by omega) (by omega))]
    exact i6
theorem kq_I.up {M N : mm_M} {n p t i : Nat} {v : Int} (h : kq_I A S M N n p) (ht : A t) (ht3 : t ≠ 183) (h4 : ¬ A 185) (h3 : ∀ b, 3 ≤ b → b ≤ 7 → ¬ S b) (hs : mm_rt t i = 0) (hv : t = 189 → 0 ≤ v ∧ v ≤ 99) : kq_I A S M (mm_up N t i v) n p :=
  h.fr (h.1.up hs) (fun a a1 a2 => mm_up_row (fun z => a2 (z ▸ ht))) (fun b b1 => by rw [mm_up_row (Ne.symm ht3)]) h3 h4 (fun q => q.up hv)
theorem kq_I.uf {M N : mm_M} {n p i : Nat} {v : Int} (h : kq_I A S M N n p) (ht : S i) (h4 : ¬ A 185) (h3 : ∀ b, 3 ≤ b → b ≤ 7 → ¬ S b) (hs : mm_rt 183 i = 0) : kq_I A S M (mm_up N 183 i v) n p :=
  h.fr (h.1.up hs) (fun a a1 a2 => mm_up_row a1) (fun b b1 => mm_up_i (fun z => b1 (z ▸ ht))) h3 h4 (fun q => q.up (fun z => absurd z (by decide)))
end
/-- a list as it lies in cell t, of which j are read -/
def kq_L (T D0 D : Nat → Int) (pl room j : Nat) : Prop := (∀ i, i < j → T i = D (pl + i)) ∧ (0 < j → ∀ i, j ≤ i → i < room → T (j - 1) = D (pl + i)) ∧ (∀ i, ¬ (pl ≤ i ∧ i < pl + room) → ¬ (pl = 20 ∧ i = 10) → D i = D0 i) ∧ (pl = 20 → 0 < j → D 10 = (j : Int))
theorem kq_L.put {T D0 D : Nat → Int} {pl room j : Nat} {v : Int} (h : kq_L T D0 D pl room j) (hj : j < room) (hp : 20 ≤ pl) (T' : Nat → Int) (h1 : T' j = v) (h2 : ∀ i, i ≠ j → T' i = T i) : kq_L T' D0 (kp_put D pl room j v) pl room (j + 1) := by
  refine ⟨?_, ?_, ?_, ?_⟩
  · intro i hi
    unfold kp_put
    rw [if_neg (by omega)]
    by_cases q : i = j
    · rw [if_pos (by omega), q, h1]
    · rw [if_neg (by omega), h2 i q]; exact h.1 i (by omega)
  · intro _ i hi1 hi2
    unfold kp_put
    rw [if_neg (by omega), if_pos (by omega), Nat.add_sub_cancel, h1]
  · intro i h3 h4
    unfold kp_put
    rw [if_neg h4, if_neg (by omega)]
    exact h.2.2.1 i h3 h4
  · intro hpl _
    unfold kp_put
    rw [if_pos ⟨hpl, rfl⟩]
    omega
section
variable {X : mm_X} {A S : Nat → Prop} {M N : mm_M} {n p t pl room : Nat} {most lo hi : Int}
theorem kq_sc (hI : kq_I A S M N n p) : mm_C X Y_X13_scan 243 243 [(2, 184)] N (fun r M' => r = (3, 0) ∧ mm_Rf M' ∧ kq_I A S M M' n (kt_e (M 185) n p) ∧ (∀ a, a ≠ 183 → M' a = N a) ∧ (∀ b, ¬ (4 ≤ b ∧ b ≤ 7) → M' 183 b = N 183 b)) := by
  have e := hI.tp
  obtain ⟨h1, h2, hq, h3, h4, h5⟩ := hI
  have heb := kt_eb (B := M 185) h4
  have hb := h5.2.2.1
  rw [e] at hb
  refine mm_Cmono (c_X13_scan h1 h3 heb.2 hb) ?_
  rintro r M' ⟨r1, r2, r3, r4⟩
  exact ⟨r1, r2, ⟨r2, h2.tr r4.1 (fun b hb => r4.2.1 b (by omega)), (r4.1 185 (by decide)).trans hq, h3.sc r4, heb.2, r4.h⟩, r4.1, r4.2.1⟩
theorem kq_hd (hI : kq_I A S M N n p) : N 183 6 = kt_k (M 185) n p ∧ (kt_k (M 185) n p = 2 → N 183 7 = kt_v (M 185) n p) ∧ mm_R (N 183 6) ∧ (N 183 6 = 2 → mm_R (N 183 7)) := by
  have e := hI.tp
  obtain ⟨h1, h2, hq, h3, h4, h5⟩ := hI
  refine ⟨?_, ?_, h5.b.1, h5.b.2⟩
  · rw [h5.1, e]
  · intro z; rw [h5.2.2.2 (by rw [e]; exact z), e]
theorem kq_num (hI : kq_I A S M N n p) (hlo : mm_R lo) (hhi : mm_R hi) : mm_C X Y_X13_number 243 243 [(2, 184), (0, lo), (0, hi)] N (fun r M' =>
    (r = (4, 185) ∧ mm_Rf M' ∧ ¬ (kt_k (M 185) n p = 2 ∧ lo ≤ kt_v (M 185) n p ∧ kt_v (M 185) n p ≤ hi) ∧ kq_X A S M M' (if kt_k (M 185) n p = 2 then 2 else 1) (kt_s (M 185) n p) ∧ (∀ a, a ≠ 183 → M' a = N a)) ∨
    (∃ x, r = (0, x) ∧ mm_Rf M' ∧ (kt_k (M 185) n p = 2 ∧ lo ≤ kt_v (M 185) n p ∧ kt_v (M 185) n p ≤ hi) ∧ x = kt_v (M 185) n p ∧ kq_I A S M M' n (kt_e (M 185) n p) ∧ (∀ a, a ≠ 183 → M' a = N a) ∧ (∀ b, ¬ (4 ≤ b ∧ b ≤ 7) → M' 183 b = N 183 b))) := by
  obtain ⟨k1, k2, k3, k4⟩ := kq_hd hI
  have hI2 := hI
  obtain ⟨h1, h2, hq, h3, h4, h5⟩ := hI
  have heb := kt_eb (B := M 185) h4
  refine mm_Cmono (c_X13_number h1 h3 h4 h5 hlo hhi) ?_
  rw [k1, hq]
  rintro r M' (⟨r1, r2, r3, r4⟩ | ⟨x, r1, r2, r3, r4, r5, r6⟩)
  · refine Or.inl ⟨r1, r2, ?_, hI2.bad r4, r4.1⟩
    rintro ⟨q1, q2, q3⟩
    exact r3 ⟨q1, by rw [k2 q1]; exact q2, by rw [k2 q1]; exact q3⟩
  · rw [k2 r3.1] at r3 r4
    exact Or.inr ⟨x, r1, r2, r3, r4, ⟨r2, h2.tr r6.1 (fun b hb => r6.2.1 b (by omega)), (r6.1 185 (by decide)).trans hq, h3.sc r6, heb.2, r6.h⟩, r6.1, r6.2.1⟩
theorem kq_close (hI : kq_I A S M N n p) : mm_C X Y_X13_close 243 243 [(2, 184)] N (fun r M' =>
    (r = (4, 185) ∧ mm_Rf M' ∧ ¬ kt_k (M 185) n p = 3 ∧ kq_X A S M M' 1 (kt_s (M 185) n p) ∧ (∀ a, a ≠ 183 → M' a = N a)) ∨
    (r = (3, 0) ∧ mm_Rf M' ∧ kt_k (M 185) n p = 3 ∧ kq_I A S M M' n (kt_e (M 185) n p) ∧ (∀ a, a ≠ 183 → M' a = N a) ∧ (∀ b, ¬ (4 ≤ b ∧ b ≤ 7) → M' 183 b = N 183 b))) := by
  obtain ⟨k1, k2, k3, k4⟩ := kq_hd hI
  have hI2 := hI
  obtain ⟨h1, h2, hq, h3, h4, h5⟩ := hI
  have heb := kt_eb (B := M 185) h4
  refine mm_Cmono (c_X13_close h1 h3 h4 h5) ?_
  rw [k1, hq]
  rintro r M' (⟨r1, r2, r3, r4⟩ | ⟨r1, r2, r3, r5, r6⟩)
  · exact Or.inl ⟨r1, r2, r3, hI2.bad r4, r4.1⟩
  · exact Or.inr ⟨r1, r2, r3, ⟨r2, h2.tr r6.1 (fun b hb => r6.2.1 b (by omega)), (r6.1 185 (by decide)).trans hq, h3.sc r6, heb.2, r6.h⟩, r6.1, r6.2.1⟩
theorem kq_is {k0 : Nat} (hI : kq_I A S M N n p) (hk : k0 < 37) : mm_Fn X Y_X13_is 243 [(2, 184), (2, -((k0 + 100 : Nat) : Int))] N (0, mm_b (kt_iw (M 185) n p k0)) N := by
  have := kt_is (X := X) (k0 := k0) hI.1 hI.2.2.2.1 hI.2.2.2.2.1 hI.2.2.2.2.2 hk
  rw [hI.tp] at this
  exact this
theorem kq_need {P : Prop} [Decidable P] {x : Int} (hI : kq_I A S M N n p) : mm_C X Y_X13_need 243 243 [(2, 184), (0, mm_b P), (0, x)] N (fun r M' => (r = (4, 185) ∧ mm_Rf M' ∧ ¬ P ∧ kq_X A S M M' x (kt_s (M 185) n p) ∧ (∀ a, a ≠ 183 → M' a = N a)) ∨ (r = (3, 0) ∧ mm_Rf M' ∧ P ∧ M' = N)) := by
  refine mm_Cmono (c_X13_need hI.1) ?_
  rintro r M' (⟨r1, r2, r3, r4⟩ | r)
  · exact Or.inl ⟨r1, r2, r3, hI.bad r4, r4.1⟩
  · exact Or.inr r
theorem c_X13_readRow (ht : (t = 189 ∧ pl = 20 ∧ room = 3 ∧ most = 99) ∨ (t = 191 ∧ pl = 30 ∧ room = 6 ∧ most = 100)) (hI : kq_I kq_A kq_S M N n p) (D0 : Nat → Int) :
    mm_C X Y_X13_readRow 243 243 [(2, 184), (2, (t : Int) + 1), (0, (room : Int)), (0, most)] N (fun r M' =>
      (r = (4, 185) ∧ mm_Rf M' ∧ ∃ k s, kp_list (M 185) n pl room most (room + 1) 0 p D0 = .error (k, s) ∧ kq_X kq_A kq_S M M' k s) ∨
      (∃ x, r = (0, x) ∧ mm_Rf M' ∧ ∃ j : Nat, x = (j : Int) ∧ 1 ≤ j ∧ j ≤ room ∧ ∃ p' D', kq_I kq_A kq_S M M' n p' ∧ kq_L (M' t) D0 D' pl room j ∧ (∀ a, a ≠ 183 → a ≠ t → M' a = N a) ∧ (∀ b, ¬ (4 ≤ b ∧ b ≤ 7) → M' 183 b = N 183 b) ∧
        kp_list (M 185) n pl room most (room + 1) 0 p D0 = (if kt_k (M 185) n p' = 3 then .ok (kt_e (M 185) n p', D') else .error (1, kt_s (M 185) n p')))) := by
  have htc : t < 243 := by omega
  have hts : mm_sh t = (1, room) := by
    rcases ht with ⟨rfl, -, rfl, -⟩ | ⟨rfl, -, rfl, -⟩ <;> rfl
  have hroom : 3 ≤ room ∧ room ≤ 6 := by omega
  have hmost : 0 ≤ most ∧ most ≤ 100 := by omega
  have ht4 : kq_A t := by unfold kq_A; omega
  have hpl : 20 ≤ pl := by omega
  have ht9 : t ≠ 183 := by omega
  have h99 : t = 189 → most = 99 := by omega
  obtain ⟨E, hE⟩ : ∃ E, E = kp_list (M 185) n pl room most (room + 1) 0 p D0 := ⟨_, rfl⟩
  rw [← hE]
  obtain ⟨Φ, hΦ⟩ : ∃ Φ : mm_V → mm_M → Prop, Φ = (fun r M' =>
      (r = (4, 185) ∧ mm_Rf M' ∧ ∃ k s, E = .error (k, s) ∧ kq_X kq_A kq_S M M' k s) ∨
      (∃ x, r = (0, x) ∧ mm_Rf M' ∧ ∃ j : Nat, x = (j : Int) ∧ 1 ≤ j ∧ j ≤ room ∧ ∃ p' D', kq_I kq_A kq_S M M' n p' ∧ kq_L (M' t) D0 D' pl room j ∧ (∀ a, a ≠ 183 → a ≠ t → M' a = N a) ∧ (∀ b, ¬ (4 ≤ b ∧ b ≤ 7) → M' 183 b = N 183 b) ∧
        E = (if kt_k (M 185) n p' = 3 then .ok (kt_e (M 185) n p', D') else .error (1, kt_s (M 185) n p')))) := ⟨_, rfl⟩
  rw [← hΦ]
  clear ht
  refine mm_start (ls := [(2, 184), (2, (t : Int) + 1), (0, (room : Int)), (0, most), (9, 0), (9, 0)]) rfl ?_
  have loop : ∀ j : Nat, j ≤ room → ∀ (Q : mm_M) (p : Nat) (D : Nat → Int) (l5 : mm_V), kq_I kq_A kq_S M Q n p → (0 < j → kt_k (M 185) n p = 2) → kq_L (Q t) D0 D pl room j → (∀ a, a ≠ 183 → a ≠ t → Q a = N a) → (∀ b, ¬ (4 ≤ b ∧ b ≤ 7) → Q 183 b = N 183 b) → kp_list (M 185) n pl room most (room + 1 - j) j p D = E →
      mm_J X Y_X13_readRow 243 243 243 3 [(2, 184), (2, (t : Int) + 1), (0, (room : Int)), (0, most), (0, (j : Int)), l5] [] Q Φ := by
    refine mm_lp ?_
    intro j hj ih Q p D l5 hQ h2 hL hfa hfb hE2
    have hRQ := hQ.1
    obtain ⟨k1, k2, k3, k4⟩ := kq_hd hQ
    have hvb := kt_vb (B := M 185) (n := n) (p := p)
    rw [show room + 1 - j = (room - j) + 1 by omega, kp_list, if_neg (by rintro ⟨q1, q2⟩; have := h2 q1; omega)] at hE2
    refine mm_aload_n dX13_readRow_3 rfl rfl ?_
    refine mm_iconst dX13_readRow_4 rfl ?_
    refine mm_iload_n dX13_readRow_5 rfl rfl ?_
    refine mm_V2g (M1 := Q) dX13_readRow_6 rfl lk_X13_67 (c := 183) rfl (by decide) rfl (by simp) (by simp) rfl rfl rfl (c_X13_look hRQ k3 k4 (by omega) (by omega)) ?_
    rintro _ N6 (⟨rfl, p6⟩ | ⟨x6, rfl, p6⟩)
    · refine ⟨rfl, rfl, ?_⟩
      rw [hΦ]
      refine Or.inl ⟨rfl, p6.1, ?_⟩
      have hW := p6.2.2
      have hno := p6.2.1
      rw [k1] at hW hno
      by_cases q : kt_k (M 185) n p = 2
      · rw [if_pos q] at hW
        rw [if_neg (fun z => z q), if_pos (by have := k2 q; omega)] at hE2
        exact ⟨_, _, hE2.symm, hQ.bad hW⟩
      · rw [if_neg q] at hW
        rw [if_pos q] at hE2
        exact ⟨_, _, hE2.symm, hQ.bad hW⟩
    change mm_J _ _ _ _ _ _ _ _ _ _
    have hR6 : mm_Rf N6 := p6.1
    obtain ⟨-, hh, hx, eN⟩ := p6
    rw [eN]
    rw [k1] at hh
    have hv := k2 hh.1
    rw [hv] at hx hh
    rw [if_neg (fun z => z hh.1), if_neg (by omega)] at hE2
    refine mm_istore dX13_readRow_9 rfl (Nat.le_of_ble_eq_true rfl) rfl ?_
    refine mm_aload_n dX13_readRow_11 rfl rfl ?_
    refine mm_iload dX13_readRow_12 rfl rfl ?_
    refine mm_iload_n dX13_readRow_14 rfl rfl ?_
    refine mm_icge_z (q2 := 23) dX13_readRow_15 (by omega) (by omega) (fun k => mm_iconst dX13_readRow_22 rfl k) (fun k => mm_iconst dX13_readRow_18 rfl (mm_goto dX13_readRow_19 k)) ?_
    refine mm_iconst dX13_readRow_23 rfl ?_
    refine mm_V2g (M1 := Q) dX13_readRow_24 rfl lk_X13_63 (c := 183) rfl (by decide) rfl (by simp) (by simp) rfl rfl rfl (c_X13_need (P := (j : Int) < (room : Int)) (x := 4) hRQ) ?_
    rintro _ N24 (⟨rfl, p24⟩ | ⟨rfl, p24⟩)
    · refine ⟨rfl, rfl, ?_⟩
      rw [hΦ]
      rw [if_pos (by have := p24.2.1; omega)] at hE2
      exact Or.inl ⟨rfl, p24.1, _, _, hE2.symm, hQ.bad p24.2.2⟩
    change mm_J _ _ _ _ _ _ _ _ _ _
    have hR24 : mm_Rf N24 := p24.1
    obtain ⟨-, hlt, eN2⟩ := p24
    rw [eN2]
    rw [if_neg (by omega)] at hE2
    refine mm_aload_n dX13_readRow_27 rfl rfl ?_
    refine mm_V0g (M1 := Q) dX13_readRow_28 rfl lk_X13_71 (c := 183) rfl (by decide) rfl  rfl rfl rfl (kq_sc hQ) ?_
    rintro _ N28 ⟨rfl, p28⟩
    change mm_J _ _ _ _ _ _ _ _ _ _
    have hR28 : mm_Rf N28 := p28.1
    obtain ⟨-, hI8, u1, u2⟩ := p28
    refine mm_aload_n dX13_readRow_31 rfl rfl ?_
    refine mm_iload dX13_readRow_32 rfl rfl ?_
    refine mm_iload dX13_readRow_34 rfl rfl ?_
    refine mm_istk (k0 := j) dX13_readRow_36 rfl (c := t) rfl htc hts (by omega) (by omega) (fun M36 hM36 => ?_)
    have hR36 : mm_Rf M36 := by rw [hM36]; exact hR28.up (mm_rt_arr hts _)
    have hI9 : kq_I kq_A kq_S M M36 n (kt_e (M 185) n p) := by rw [hM36]; exact hI8.up ht4 (by omega) (by unfold kq_A; omega) (by intro b b1 b2; unfold kq_S; omega) (mm_rt_arr hts _) (fun z => by have := h99 z; omega)
    have m1 := (kq_hd hI8).1
    have hkb2 := kt_kb (B := M 185) (n := n) (p := kt_e (M 185) n p)
    have hput : kq_L (M36 t) D0 (kp_put D pl room j (kt_v (M 185) n p)) pl room (j + 1) := by
      refine hL.put (by omega) hpl _ ?_ ?_
      · rw [hM36, mm_up_s, hx]
      · intro i hi; rw [hM36, mm_up_i hi, u1 t (by omega)]
    have fa : ∀ a, a ≠ 183 → a ≠ t → M36 a = N a := by intro a a1 a2; rw [hM36, mm_up_row a2, u1 a a1]; exact hfa a a1 a2
    have fb : ∀ b, ¬ (4 ≤ b ∧ b ≤ 7) → M36 183 b = N 183 b := by intro b hb; rw [hM36, mm_up_row (by omega), u2 b hb]; exact hfb b hb
    refine mm_iinc dX13_readRow_37 rfl rfl (Nat.le_of_ble_eq_true rfl) rfl ?_
    refine mm_aload_n dX13_readRow_40 rfl rfl ?_
    refine mm_get (kd := 0) dX13_readRow_41 rfl fl_X13_37 (c := 183) rfl (by decide) rfl rfl ?_
    obtain ⟨v41, hv41⟩ : ∃ v, v = M36 183 6 := ⟨_, rfl⟩
    rw [← hv41]
    rw [hM36, mm_up_c (by omega), m1] at hv41
    subst hv41
    refine mm_iconst dX13_readRow_44 rfl ?_
    refine mm_iceq dX13_readRow_45 (by omega) (by omega) (fun h45 => ?_) (fun h45 => ?_)
    · exact ih (by omega) _ _ _ _ hI9 (fun _ => h45) hput fa fb (by rw [show room + 1 - (j + 1) = room - j by omega]; exact hE2)
    · refine mm_iload dX13_readRow_48 rfl rfl ?_
      refine mm_iret dX13_readRow_50 rfl rfl ?_
      rw [hΦ]
      rw [show room - j = (room - j - 1) + 1 by omega, kp_list] at hE2
      refine Or.inr ⟨_, rfl, hR36, j + 1, by omega, by omega, by omega, _, _, hI9, hput, fa, fb, ?_⟩
      rw [← hE2]
      by_cases q : kt_k (M 185) n (kt_e (M 185) n p) = 3
      · rw [if_pos ⟨by omega, q⟩, if_pos q]
      · rw [if_neg (fun z => q z.2), if_neg q, if_pos h45]
  have hRN := hI.1
  refine mm_iconst dX13_readRow_0 rfl ?_
  refine mm_istore dX13_readRow_1 rfl (Nat.le_of_ble_eq_true rfl) rfl ?_
  exact loop 0 (Nat.zero_le _) N p D0 _ hI (fun z => absurd z (Nat.lt_irrefl 0)) ⟨fun i hi => absurd hi (Nat.not_lt_zero i), fun z => absurd z (Nat.lt_irrefl 0), fun _ _ _ => rfl, fun _ z => absurd z (Nat.lt_irrefl 0)⟩ (fun _ _ _ => rfl) (fun _ _ => rfl) hE.symm
end

