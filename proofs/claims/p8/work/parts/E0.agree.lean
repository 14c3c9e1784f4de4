/-! ===== a kite's numbers, cut to those that count ===== -/
def nK (K : Nat → Int) : Nat → Int := fun i => if i < 11 ∨ (30 ≤ i ∧ i < 36) then K i else if (20 ≤ i ∧ i < 23) ∧ (i : Int) - 20 < K 10 then K i else 0
/-- two kites that are the same as far as it counts -/
def kA (K K' : Nat → Int) : Prop := (∀ i, i < 11 → K i = K' i) ∧ (∀ i : Nat, i < 3 → (i : Int) < K 10 → K (20 + i) = K' (20 + i)) ∧ ∀ i, i < 6 → K (30 + i) = K' (30 + i)
section
variable {K K' : Nat → Int} {s a w h m d p c sl x : Int}
theorem nK_lt {i : Nat} (h : i < 11) : nK K i = K i := if_pos (Or.inl h)
theorem kA.nk (h : kA K K') : nK K = nK K' := by
  obtain ⟨h1, h2, h3⟩ := h
  funext i
  unfold nK
  by_cases q : i < 11 ∨ (30 ≤ i ∧ i < 36)
  · rw [if_pos q, if_pos q]
    rcases q with q | q
    · exact h1 i q
    · have := h3 (i - 30) (by omega)
      rw [show 30 + (i - 30) = i by omega] at this
      exact this
  · rw [if_neg q, if_neg q, ← h1 10 (by decide)]
    by_cases q2 : (20 ≤ i ∧ i < 23) ∧ (i : Int) - 20 < K 10
    · rw [if_pos q2, if_pos q2]
      have := h2 (i - 20) (by omega) (by omega)
      rw [show 20 + (i - 20) = i by omega] at this
      exact this
    · rw [if_neg q2, if_neg q2]
theorem nk_n : ks_n (nK K) = ks_n K := rfl
theorem nk_col : ks_col (nK K) s = ks_col K s := rfl
theorem nk_row : ks_row (nK K) s = ks_row K s := rfl
theorem nk_rope : ks_rope (nK K) s = ks_rope K s := rfl
theorem nk_h : ks_h (nK K) s = ks_h K s := rfl
theorem nk_band : ks_band (nK K) s = ks_band K s := rfl
theorem nk_cm : ks_cm (nK K) s m = ks_cm K s m := rfl
theorem nk_cr : ks_cr (nK K) s d = ks_cr K s d := rfl
theorem nk_can : ks_can (nK K) s a = ks_can K s a := rfl
theorem nk_to : ks_to (nK K) s a = ks_to K s a := rfl
theorem nk_w : ks_w (nK K) d p = ks_w K d p := rfl
theorem nk_in : ks_in (nK K) s a = ks_in K s a := rfl
theorem nk_fate : ks_fate (nK K) p = ks_fate K p := rfl
theorem nk_wi {L : Nat → Int} : ks_wi L (nK K) s h = ks_wi L K s h := rfl
theorem nk_p (hK : mm_KV K) (ha : ks_ac K a) : ks_p (nK K) s a w = ks_p K s a w := by
  have hc := ks_colb hK s
  obtain ⟨h0, -, -, -, -, -, -, -, -, -, h10, -⟩ := id hK
  have e1 : nK K (20 + (a / 15).toNat) = K (20 + (a / 15).toNat) := by
    unfold nK
    rw [if_neg (by omega), if_pos (by omega)]
  have e2 : nK K (30 + (ks_col K s).toNat) = K (30 + (ks_col K s).toNat) := by
    unfold nK
    rw [if_pos (by omega)]
  unfold ks_p ks_pa
  rw [nk_col, e1, e2, nK_lt (by decide)]
theorem nk_run {A : Nat → Int} : ∀ k, kf_run (nK K) s A k = kf_run K s A k
  | 0 => rfl
  | k + 1 => by unfold kf_run; rw [nk_run k]; rfl
theorem nk_safe {Lo Hi : Nat → Int} (hK : mm_KV K) (ha : ks_ac K a) : ks_safe (nK K) Lo Hi s a h = ks_safe K Lo Hi s a h := by
  show (ks_can K s a ∧ ks_bears K (ks_p (nK K) s a (ks_wi Lo K s h)) (ks_p (nK K) s a (ks_wi Hi K s h))) = _
  rw [nk_p hK ha, nk_p hK ha]
theorem nk_sure {Lo Hi : Nat → Int} (hK : mm_KV K) (ha : ks_ac K a) : ks_sure (nK K) Lo Hi s a h = ks_sure K Lo Hi s a h := by
  show ks_w K (ks_dr a) (ks_p (nK K) s a (if ks_dr a = 2 then ks_wi Hi K s h else ks_wi Lo K s h)) = _
  rw [nk_p hK ha]
  rfl
theorem nk_state : kv_state (nK K) s x = kv_state K s x := rfl
theorem nk_leads : kv_leads (nK K) s a = kv_leads K s a := rfl
theorem nk_pull (hK : mm_KV K) : kv_pull (nK K) s a w = kv_pull K s a w := by
  show (if ks_st K s ∧ ks_ac K a ∧ 0 ≤ w ∧ w ≤ 60 then ks_p (nK K) s a w else -2) = _
  unfold kv_pull
  by_cases q : ks_st K s ∧ ks_ac K a ∧ 0 ≤ w ∧ w ≤ 60
  · rw [if_pos q, if_pos q, nk_p hK q.2.1]
  · rw [if_neg q, if_neg q]
theorem nk_kvsafe {Lo Hi : Nat → Int} (hK : mm_KV K) : kv_safe (nK K) Lo Hi s a h = kv_safe K Lo Hi s a h := by
  show (if ks_st K s ∧ ks_ac K a ∧ ks_hr h then mm_b (ks_safe (nK K) Lo Hi s a h) else -2) = _
  unfold kv_safe
  by_cases q : ks_st K s ∧ ks_ac K a ∧ ks_hr h
  · rw [if_pos q, if_pos q]
    have e := nk_safe (s := s) (h := h) (Lo := Lo) (Hi := Hi) hK q.2.1
    by_cases z : ks_safe K Lo Hi s a h
    · rw [mm_b_t z, mm_b_t (e.mpr z)]
    · rw [mm_b_f z, mm_b_f (fun y => z (e.mp y))]
  · rw [if_neg q, if_neg q]
theorem nk_gives {Lo Hi : Nat → Int} (hK : mm_KV K) : kv_gives (nK K) Lo Hi s a h = kv_gives K Lo Hi s a h := by
  show (if ks_st K s ∧ ks_ac K a ∧ ks_hr h then ks_sure (nK K) Lo Hi s a h else -100000000) = _
  unfold kv_gives
  by_cases q : ks_st K s ∧ ks_ac K a ∧ ks_hr h
  · rw [if_pos q, if_pos q, nk_sure hK q.2.1]
  · rw [if_neg q, if_neg q]
theorem nk_pulls {Lo : Nat → Int} {sh : Int} (hK : mm_KV K) : kv_pulls (nK K) Lo sh s a h = kv_pulls K Lo sh s a h := by
  show (if ks_st K s ∧ ks_ac K a ∧ ks_hr h then ks_p (nK K) s a (ks_wi Lo K s h * sh / 10) else -2) = _
  unfold kv_pulls
  by_cases q : ks_st K s ∧ ks_ac K a ∧ ks_hr h
  · rw [if_pos q, if_pos q, nk_p hK q.2.1]
  · rw [if_neg q, if_neg q]
theorem nk_told (hK : mm_KV K) : ks_told (nK K) x = ks_told K x := by
  show (if (0 ≤ x ∧ x ≤ 10) ∨ (20 ≤ x ∧ x - 20 < K 10) ∨ (30 ≤ x ∧ x - 30 < K 0) then nK K x.toNat else -1) = _
  obtain ⟨h0, -, -, -, -, -, -, -, -, -, h10, -⟩ := id hK
  unfold ks_told
  by_cases q : (0 ≤ x ∧ x ≤ 10) ∨ (20 ≤ x ∧ x - 20 < K 10) ∨ (30 ≤ x ∧ x - 30 < K 0)
  · rw [if_pos q, if_pos q]
    unfold nK
    rcases q with q | q | q
    · rw [if_pos (by omega)]
    · rw [if_neg (by omega), if_pos (by omega)]
    · rw [if_pos (by omega)]
  · rw [if_neg q, if_neg q]
end

