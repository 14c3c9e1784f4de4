/-! ===== constructors: the reference ===== -/
/-- the constructor, with the room that it needs -/
def Y_M_init : mm_Y := (yX13_init, cX13_init, 2, none, 5, 150, [])
def kx_v (b : Nat) : Int := if b = 9 then -1 else if b = 84 then -1 else if b = 96 then 10 else mm_rt 183 b
/-- the reference while it is built: so many cells, so many fields -/
def kx_I (M N : mm_M) (n k : Nat) : Prop := (∀ a, a < 183 → N a = M a) ∧ (∀ a b, 184 ≤ a → a < n → N a b = mm_rt a b) ∧ (∀ b, b < k → N 183 b = kx_v b) ∧ ∀ b, k ≤ b → N 183 b = 0
theorem kx_I.arr {M N : mm_M} {n k i : Nat} (h : kx_I M N n k) (hn : 184 ≤ n) (hki : k ≤ i) (hv : kx_v i = (n : Int) + 1) (hg : ∀ b, b < i → k ≤ b → kx_v b = 0) (hz : ∀ b, mm_rt n b = 0) : kx_I M (mm_up (mm_z N n) 183 i ((n : Int) + 1)) (n + 1) (i + 1) := by
  obtain ⟨h1, h2, h3, h4⟩ := h
  refine ⟨fun a ha => ?_, fun a b a1 a2 => ?_, fun b hb => ?_, fun b hb => ?_⟩
  · rw [mm_up_row (by omega), mm_z_n (by omega)]; exact h1 a ha
  · rw [mm_up_row (by omega)]
    by_cases q : a = n
    · rw [q, mm_z_0]; exact (hz b).symm
    · rw [mm_z_n q]; exact h2 a b a1 (by omega)
  · by_cases q : b = i
    · rw [q, mm_up_s, hv]
    · rw [mm_up_i q, mm_z_n (by omega)]
      by_cases q2 : b < k
      · exact h3 b q2
      · rw [h4 b (by omega)]; exact (hg b (by omega) (by omega)).symm
  · rw [mm_up_i (by omega), mm_z_n (by omega)]; exact h4 b (by omega)
theorem kx_I.int {M N : mm_M} {n k i : Nat} {v : Int} (h : kx_I M N n k) (hki : k ≤ i) (hv : kx_v i = v) (hg : ∀ b, b < i → k ≤ b → kx_v b = 0) : kx_I M (mm_up N 183 i v) n (i + 1) := by
  obtain ⟨h1, h2, h3, h4⟩ := h
  refine ⟨fun a ha => ?_, fun a b a1 a2 => ?_, fun b hb => ?_, fun b hb => ?_⟩
  · rw [mm_up_row (by omega)]; exact h1 a ha
  · rw [mm_up_row (by omega)]; exact h2 a b a1 a2
  · by_cases q : b = i
    · rw [q, mm_up_s, hv]
    · rw [mm_up_i q]
      by_cases q2 : b < k
      · exact h3 b q2
      · rw [h4 b (by omega)]; exact (hg b (by omega) (by omega)).symm
  · rw [mm_up_i (by omega)]; exact h4 b (by omega)
theorem kx_big {c i : Nat} (h : mm_rt c i ≠ 0) : c < 243 ∧ (c = 183 → i < 110) := by
  unfold mm_rt at h
  match hf : mm_rl.find? (fun q => q.1 == c && q.2.1 == i) with
  | none => rw [hf] at h; exact absurd rfl h
  | some q =>
    have hm := List.mem_of_find?_eq_some hf
    have hp := List.find?_some hf
    have ha : mm_rl.all (fun q => decide (q.1 < 243) && (q.1 != 183 || decide (q.2.1 < 110))) = true := by decide +kernel
    have hq := List.all_eq_true.mp ha q hm
    simp at hp hq
    obtain ⟨e1, e2⟩ := hp
    refine ⟨by rw [← e1]; exact hq.1, fun e => ?_⟩
    rcases hq.2 with z | z
    · exact absurd (e1.trans e) z
    · rw [← e2]; exact z
theorem kx_I.rf {M N : mm_M} (h : kx_I M N 243 110) (hM : ∀ c i, c < 183 → mm_rt c i ≠ 0 → M c i = mm_rt c i) : mm_Rf N := by
  intro c i hne
  obtain ⟨b1, b2⟩ := kx_big hne
  by_cases q : c < 183
  · rw [h.1 c q]; exact hM c i q hne
  · by_cases q2 : c = 183
    · subst q2
      rw [h.2.2.1 i (b2 rfl)]
      unfold kx_v
      by_cases e1 : i = 9
      · exact absurd (by rw [e1]; rfl) hne
      by_cases e2 : i = 84
      · exact absurd (by rw [e2]; rfl) hne
      by_cases e3 : i = 96
      · exact absurd (by rw [e3]; rfl) hne
      rw [if_neg e1, if_neg e2, if_neg e3]
    · exact h.2.1 c i (by omega) b1
/-- the reference as its constructor leaves it -/
def kx_R0 (N : mm_M) : Prop := ((∀ i, i < 10 → N 186 i = kp_D0 (fun _ => 0) i) ∧ N 183 16 = 2 ∧ (N 188 0 = 10 ∧ N 188 1 = 2) ∧ (∀ i, i < 3 → 0 ≤ N 188 i ∧ N 188 i ≤ 99) ∧ (∀ i : Nat, i < 6 → N 190 i = 100)) ∧ kq_bd N ∧ (∀ b, b < 120 → N 203 b = 10 ∧ N 204 b = 10) ∧ (∀ b, 120 ≤ b → N 203 b = 0 ∧ N 204 b = 0) ∧ N 183 9 = -1 ∧ N 183 84 = -1 ∧ N 183 96 = 10 ∧
  (∀ b, b ≠ 9 → ¬ (16 ≤ b ∧ b ≤ 18) → b ≠ 84 → b ≠ 96 → N 183 b = mm_rt 183 b) ∧ ∀ a b, 184 ≤ a → a < 243 → ¬ (186 ≤ a ∧ a ≤ 192) → a ≠ 203 → a ≠ 204 → N a b = mm_rt a b
theorem kx_first {M M5 N9 : mm_M} (hz : ∀ b, M 183 b = 0) (hM5 : M5 = mm_z M 184) (p9 : kx_T M5 N9) : kx_I M (mm_up N9 183 0 185) 185 1 := by
  refine ⟨fun a ha => ?_, fun a b a1 a2 => ?_, fun b hb => ?_, fun b hb => ?_⟩
  · rw [mm_up_row (by omega), p9.1 a (by omega), hM5, mm_z_n (by omega)]
  · have e : a = 184 := by omega
    subst e
    rw [mm_up_row (by decide), p9.2 b]
    exact (mm_rt_no [] (by decide +kernel) (by simp)).symm
  · have e : b = 0 := by omega
    subst e
    rw [mm_up_s]; rfl
  · rw [mm_up_i (by omega), p9.1 183 (by decide), hM5, mm_z_n (by decide)]; exact hz b
section
variable {X : mm_X} {M : mm_M}
theorem kx_now (P : mm_M) (hRP : mm_Rf P) (Φ : mm_V → mm_M → Prop) (hΦ : ∀ N, mm_Rf N → (∀ a, a ≠ 203 → a ≠ 204 → N a = P a) → (∀ b, b < 120 → N 203 b = 10 ∧ N 204 b = 10) → (∀ b, 120 ≤ b → N 203 b = P 203 b ∧ N 204 b = P 204 b) → Φ (3, 0) N) : ∀ i : Nat, i ≤ 120 → ∀ N : mm_M, mm_Rf N → (∀ a, a ≠ 203 → a ≠ 204 → N a = P a) → (∀ b, b < i → N 203 b = 10 ∧ N 204 b = 10) → (∀ b, 120 ≤ b → N 203 b = P 203 b ∧ N 204 b = P 204 b) →
    mm_J X Y_M_init 184 243 243 522 [(2, 184), (0, (i : Int))] [] N Φ := by
  refine mm_lp ?_
  intro i hi ih N hRN h1 h2 h3
  by_cases hlt : i < 120
  · refine mm_iload_n dX13_init_522 rfl rfl ?_
    refine mm_bipush dX13_init_523 rfl (by decide) ?_
    refine mm_icge dX13_init_525 (by omega) (by omega) (fun h525 => ?_) (fun h525 => ?_)
    · exfalso; omega
    · refine mm_aload_n dX13_init_528 rfl rfl ?_
      refine mm_getr dX13_init_529 rfl fl_X13_255 (c := 183) rfl (by decide) rfl rfl (hRN.at (c := 183) (i := 34) (v := 204) rfl (by decide)) ?_
      refine mm_iload_n dX13_init_532 rfl rfl ?_
      refine mm_bipush dX13_init_533 rfl (by decide) ?_
      refine mm_istk (k0 := i) dX13_init_535 rfl (c := 203) rfl (by decide) rfl (by omega) (by omega) (fun M535 hM535 => ?_)
      have hR535 : mm_Rf M535 := by rw [hM535]; exact hRN.up (mm_rt_ar (t := 0) rfl (by decide))
      refine mm_aload_n dX13_init_536 rfl rfl ?_
      refine mm_getr dX13_init_537 rfl fl_X13_258 (c := 183) rfl (by decide) rfl rfl (hR535.at (c := 183) (i := 35) (v := 205) rfl (by decide)) ?_
      refine mm_iload_n dX13_init_540 rfl rfl ?_
      refine mm_bipush dX13_init_541 rfl (by decide) ?_
      refine mm_istk (k0 := i) dX13_init_543 rfl (c := 204) rfl (by decide) rfl (by omega) (by omega) (fun M543 hM543 => ?_)
      have hR543 : mm_Rf M543 := by rw [hM543]; exact hR535.up (mm_rt_ar (t := 0) rfl (by decide))
      refine mm_iinc dX13_init_544 rfl rfl (Nat.le_of_ble_eq_true rfl) rfl ?_
      refine mm_goto dX13_init_547 ?_
      refine ih hlt _ hR543 ?_ ?_ ?_
      · intro a a1 a2; rw [hM543, mm_up_row a2, hM535, mm_up_row a1]; exact h1 a a1 a2
      · intro b hb
        by_cases q : b = i
        · rw [q]
          exact ⟨by rw [hM543, mm_up_row (by decide), hM535, mm_up_s], by rw [hM543, mm_up_s]⟩
        · rw [hM543, mm_up_row (by decide), mm_up_i q, hM535, mm_up_i q, mm_up_row (by decide)]; exact h2 b (by omega)
      · intro b hb
        rw [hM543, mm_up_row (by decide), mm_up_i (by omega), hM535, mm_up_i (by omega), mm_up_row (by decide)]; exact h3 b hb
  · have ei : i = 120 := by omega
    subst ei
    refine mm_iload_n dX13_init_522 rfl rfl ?_
    refine mm_bipush dX13_init_523 rfl (by decide) ?_
    refine mm_icge dX13_init_525 (by omega) (by omega) (fun h525 => ?_) (fun h525 => ?_)
    · refine mm_vret dX13_init_550 rfl rfl ?_
      exact hΦ N hRN h1 h2 h3
    · exfalso; omega
theorem c_M_init (hz : ∀ b, M 183 b = 0) (hM : ∀ c i, c < 183 → mm_rt c i ≠ 0 → M c i = mm_rt c i) : mm_C X Y_M_init 184 243 [(2, 184)] M (fun r M' => r = (3, 0) ∧ mm_Rf M' ∧ (∀ a, a < 183 → M' a = M a) ∧ kx_R0 M') := by
  obtain ⟨Φ, hΦ⟩ : ∃ Φ : mm_V → mm_M → Prop, Φ = (fun r M' => r = (3, 0) ∧ mm_Rf M' ∧ (∀ a, a < 183 → M' a = M a) ∧ kx_R0 M') := ⟨_, rfl⟩
  rw [← hΦ]
  refine mm_start (ls := [(2, 184), (9, 0)]) rfl ?_
  refine mm_aload_n dX13_init_0 rfl rfl ?_
  refine mm_oinit' (c := 183) dX13_init_1 rfl oi_X13_232 rfl rfl rfl ?_
  refine mm_aload_n dX13_init_4 rfl rfl ?_
  refine mm_new' (n := 184) dX13_init_5 rfl rfl nw_X13_237 ⟨by decide, by decide, by decide +kernel, by decide +kernel, by decide +kernel⟩ (fun M5 hM5 => ?_)
  refine mm_dup dX13_init_8 rfl (by simp) ?_
  refine mm_I0g (c := 184) (n := 185) (n' := 185) dX13_init_9 rfl li_X13_S rfl ⟨by decide, by decide, by decide, by decide +kernel, by decide +kernel, by decide +kernel⟩  rfl rfl rfl (c_S_init (by intro b; rw [hM5, mm_z_0])) ?_
  rintro _ N9 ⟨rfl, p9⟩
  change mm_J _ _ _ _ _ _ _ _ _ _
  refine mm_putr' dX13_init_12 rfl fl_X13_19 (by first | exact Or.inl ⟨_, rfl⟩ | exact Or.inr ⟨_, rfl⟩) rfl fr_X13 (c := 183) rfl (by decide) rfl rfl (fun M12 hM12 => ?_)
  have I12 : kx_I M M12 185 1 := by rw [hM12]; exact kx_first hz hM5 p9
  refine mm_aload_n dX13_init_15 rfl rfl ?_
  refine mm_sipush dX13_init_16 rfl (by decide) ?_
  refine mm_newarr' (n := 185) (t := 1) dX13_init_19 rfl rfl (by decide) rfl rfl ac_1 ⟨by decide, by decide, by decide +kernel, by decide +kernel, by decide +kernel⟩ (fun M19 hM19 => ?_)
  refine mm_putr' dX13_init_21 rfl fl_X13_26 (by first | exact Or.inl ⟨_, rfl⟩ | exact Or.inr ⟨_, rfl⟩) rfl fr_X13 (c := 183) rfl (by decide) rfl rfl (fun M21 hM21 => ?_)
  have I21 : kx_I M M21 186 2 := by rw [hM21, hM19]; exact I12.arr (by decide) (by decide) rfl (by decide +kernel) (fun b => mm_rt_ar (t := 1) rfl (by decide))
  refine mm_aload_n dX13_init_24 rfl rfl ?_
  refine mm_iconst dX13_init_25 rfl ?_
  refine mm_puti dX13_init_26 rfl fl_X13_16 (c := 183) rfl (by decide) rfl rfl (fun M26 hM26 => ?_)
  have I26 : kx_I M M26 186 10 := by rw [hM26]; exact I21.int (by decide) rfl (by decide +kernel)
  refine mm_aload_n dX13_init_29 rfl rfl ?_
  refine mm_bipush dX13_init_30 rfl (by decide) ?_
  refine mm_newarr' (n := 186) (t := 0) dX13_init_32 rfl rfl (by decide) rfl rfl ac_0 ⟨by decide, by decide, by decide +kernel, by decide +kernel, by decide +kernel⟩ (fun M32 hM32 => ?_)
  refine mm_putr' dX13_init_34 rfl fl_X13_151 (by first | exact Or.inl ⟨_, rfl⟩ | exact Or.inr ⟨_, rfl⟩) rfl fr_X13 (c := 183) rfl (by decide) rfl rfl (fun M34 hM34 => ?_)
  have I34 : kx_I M M34 187 11 := by rw [hM34, hM32]; exact I26.arr (by decide) (by decide) rfl (by decide +kernel) (fun b => mm_rt_ar (t := 0) rfl (by decide))
  refine mm_aload_n dX13_init_37 rfl rfl ?_
  refine mm_bipush dX13_init_38 rfl (by decide) ?_
  refine mm_newarr' (n := 187) (t := 0) dX13_init_40 rfl rfl (by decide) rfl rfl ac_0 ⟨by decide, by decide, by decide +kernel, by decide +kernel, by decide +kernel⟩ (fun M40 hM40 => ?_)
  refine mm_putr' dX13_init_42 rfl fl_X13_78 (by first | exact Or.inl ⟨_, rfl⟩ | exact Or.inr ⟨_, rfl⟩) rfl fr_X13 (c := 183) rfl (by decide) rfl rfl (fun M42 hM42 => ?_)
  have I42 : kx_I M M42 188 12 := by rw [hM42, hM40]; exact I34.arr (by decide) (by decide) rfl (by decide +kernel) (fun b => mm_rt_ar (t := 0) rfl (by decide))
  refine mm_aload_n dX13_init_45 rfl rfl ?_
  refine mm_iconst dX13_init_46 rfl ?_
  refine mm_newarr' (n := 188) (t := 0) dX13_init_47 rfl rfl (by decide) rfl rfl ac_0 ⟨by decide, by decide, by decide +kernel, by decide +kernel, by decide +kernel⟩ (fun M47 hM47 => ?_)
  refine mm_putr' dX13_init_49 rfl fl_X13_157 (by first | exact Or.inl ⟨_, rfl⟩ | exact Or.inr ⟨_, rfl⟩) rfl fr_X13 (c := 183) rfl (by decide) rfl rfl (fun M49 hM49 => ?_)
  have I49 : kx_I M M49 189 13 := by rw [hM49, hM47]; exact I42.arr (by decide) (by decide) rfl (by decide +kernel) (fun b => mm_rt_ar (t := 0) rfl (by decide))
  refine mm_aload_n dX13_init_52 rfl rfl ?_
  refine mm_iconst dX13_init_53 rfl ?_
  refine mm_newarr' (n := 189) (t := 0) dX13_init_54 rfl rfl (by decide) rfl rfl ac_0 ⟨by decide, by decide, by decide +kernel, by decide +kernel, by decide +kernel⟩ (fun M54 hM54 => ?_)
  refine mm_putr' dX13_init_56 rfl fl_X13_85 (by first | exact Or.inl ⟨_, rfl⟩ | exact Or.inr ⟨_, rfl⟩) rfl fr_X13 (c := 183) rfl (by decide) rfl rfl (fun M56 hM56 => ?_)
  have I56 : kx_I M M56 190 14 := by rw [hM56, hM54]; exact I49.arr (by decide) (by decide) rfl (by decide +kernel) (fun b => mm_rt_ar (t := 0) rfl (by decide))
  refine mm_aload_n dX13_init_59 rfl rfl ?_
  refine mm_bipush dX13_init_60 rfl (by decide) ?_
  refine mm_newarr' (n := 190) (t := 0) dX13_init_62 rfl rfl (by decide) rfl rfl ac_0 ⟨by decide, by decide, by decide +kernel, by decide +kernel, by decide +kernel⟩ (fun M62 hM62 => ?_)
  refine mm_putr' dX13_init_64 rfl fl_X13_159 (by first | exact Or.inl ⟨_, rfl⟩ | exact Or.inr ⟨_, rfl⟩) rfl fr_X13 (c := 183) rfl (by decide) rfl rfl (fun M64 hM64 => ?_)
  have I64 : kx_I M M64 191 15 := by rw [hM64, hM62]; exact I56.arr (by decide) (by decide) rfl (by decide +kernel) (fun b => mm_rt_ar (t := 0) rfl (by decide))
  refine mm_aload_n dX13_init_67 rfl rfl ?_
  refine mm_bipush dX13_init_68 rfl (by decide) ?_
  refine mm_newarr' (n := 191) (t := 0) dX13_init_70 rfl rfl (by decide) rfl rfl ac_0 ⟨by decide, by decide, by decide +kernel, by decide +kernel, by decide +kernel⟩ (fun M70 hM70 => ?_)
  refine mm_putr' dX13_init_72 rfl fl_X13_91 (by first | exact Or.inl ⟨_, rfl⟩ | exact Or.inr ⟨_, rfl⟩) rfl fr_X13 (c := 183) rfl (by decide) rfl rfl (fun M72 hM72 => ?_)
  have I72 : kx_I M M72 192 16 := by rw [hM72, hM70]; exact I64.arr (by decide) (by decide) rfl (by decide +kernel) (fun b => mm_rt_ar (t := 0) rfl (by decide))
  refine mm_aload_n dX13_init_75 rfl rfl ?_
  refine mm_bipush dX13_init_76 rfl (by decide) ?_
  refine mm_newarr' (n := 192) (t := 2) dX13_init_78 rfl rfl (by decide) rfl rfl ac_2 ⟨by decide, by decide, by decide +kernel, by decide +kernel, by decide +kernel⟩ (fun M78 hM78 => ?_)
  refine mm_putr' dX13_init_80 rfl fl_X13_97 (by first | exact Or.inl ⟨_, rfl⟩ | exact Or.inr ⟨_, rfl⟩) rfl fr_X13 (c := 183) rfl (by decide) rfl rfl (fun M80 hM80 => ?_)
  have I80 : kx_I M M80 193 20 := by rw [hM80, hM78]; exact I72.arr (by decide) (by decide) rfl (by decide +kernel) (fun b => mm_rt_ar (t := 2) rfl (by decide))
  refine mm_aload_n dX13_init_83 rfl rfl ?_
  refine mm_bipush dX13_init_84 rfl (by decide) ?_
  refine mm_newarr' (n := 193) (t := 0) dX13_init_86 rfl rfl (by decide) rfl rfl ac_0 ⟨by decide, by decide, by decide +kernel, by decide +kernel, by decide +kernel⟩ (fun M86 hM86 => ?_)
  refine mm_putr' dX13_init_88 rfl fl_X13_185 (by first | exact Or.inl ⟨_, rfl⟩ | exact Or.inr ⟨_, rfl⟩) rfl fr_X13 (c := 183) rfl (by decide) rfl rfl (fun M88 hM88 => ?_)
  have I88 : kx_I M M88 194 23 := by rw [hM88, hM86]; exact I80.arr (by decide) (by decide) rfl (by decide +kernel) (fun b => mm_rt_ar (t := 0) rfl (by decide))
  refine mm_aload_n dX13_init_91 rfl rfl ?_
  refine mm_bipush dX13_init_92 rfl (by decide) ?_
  refine mm_newarr' (n := 194) (t := 0) dX13_init_94 rfl rfl (by decide) rfl rfl ac_0 ⟨by decide, by decide, by decide +kernel, by decide +kernel, by decide +kernel⟩ (fun M94 hM94 => ?_)
  refine mm_putr' dX13_init_96 rfl fl_X13_188 (by first | exact Or.inl ⟨_, rfl⟩ | exact Or.inr ⟨_, rfl⟩) rfl fr_X13 (c := 183) rfl (by decide) rfl rfl (fun M96 hM96 => ?_)
  have I96 : kx_I M M96 195 24 := by rw [hM96, hM94]; exact I88.arr (by decide) (by decide) rfl (by decide +kernel) (fun b => mm_rt_ar (t := 0) rfl (by decide))
  refine mm_aload_n dX13_init_99 rfl rfl ?_
  refine mm_bipush dX13_init_100 rfl (by decide) ?_
  refine mm_newarr' (n := 195) (t := 0) dX13_init_102 rfl rfl (by decide) rfl rfl ac_0 ⟨by decide, by decide, by decide +kernel, by decide +kernel, by decide +kernel⟩ (fun M102 hM102 => ?_)
  refine mm_putr' dX13_init_104 rfl fl_X13_191 (by first | exact Or.inl ⟨_, rfl⟩ | exact Or.inr ⟨_, rfl⟩) rfl fr_X13 (c := 183) rfl (by decide) rfl rfl (fun M104 hM104 => ?_)
  have I104 : kx_I M M104 196 25 := by rw [hM104, hM102]; exact I96.arr (by decide) (by decide) rfl (by decide +kernel) (fun b => mm_rt_ar (t := 0) rfl (by decide))
  refine mm_aload_n dX13_init_107 rfl rfl ?_
  refine mm_bipush dX13_init_108 rfl (by decide) ?_
  refine mm_newarr' (n := 196) (t := 0) dX13_init_110 rfl rfl (by decide) rfl rfl ac_0 ⟨by decide, by decide, by decide +kernel, by decide +kernel, by decide +kernel⟩ (fun M110 hM110 => ?_)
  refine mm_putr' dX13_init_112 rfl fl_X13_182 (by first | exact Or.inl ⟨_, rfl⟩ | exact Or.inr ⟨_, rfl⟩) rfl fr_X13 (c := 183) rfl (by decide) rfl rfl (fun M112 hM112 => ?_)
  have I112 : kx_I M M112 197 26 := by rw [hM112, hM110]; exact I104.arr (by decide) (by decide) rfl (by decide +kernel) (fun b => mm_rt_ar (t := 0) rfl (by decide))
  refine mm_aload_n dX13_init_115 rfl rfl ?_
  refine mm_bipush dX13_init_116 rfl (by decide) ?_
  refine mm_newarr' (n := 197) (t := 0) dX13_init_118 rfl rfl (by decide) rfl rfl ac_0 ⟨by decide, by decide, by decide +kernel, by decide +kernel, by decide +kernel⟩ (fun M118 hM118 => ?_)
  refine mm_putr' dX13_init_120 rfl fl_X13_229 (by first | exact Or.inl ⟨_, rfl⟩ | exact Or.inr ⟨_, rfl⟩) rfl fr_X13 (c := 183) rfl (by decide) rfl rfl (fun M120 hM120 => ?_)
  have I120 : kx_I M M120 198 27 := by rw [hM120, hM118]; exact I112.arr (by decide) (by decide) rfl (by decide +kernel) (fun b => mm_rt_ar (t := 0) rfl (by decide))
  refine mm_aload_n dX13_init_123 rfl rfl ?_
  refine mm_sipush dX13_init_124 rfl (by decide) ?_
  refine mm_newarr' (n := 198) (t := 0) dX13_init_127 rfl rfl (by decide) rfl rfl ac_0 ⟨by decide, by decide, by decide +kernel, by decide +kernel, by decide +kernel⟩ (fun M127 hM127 => ?_)
  refine mm_putr' dX13_init_129 rfl fl_X13_240 (by first | exact Or.inl ⟨_, rfl⟩ | exact Or.inr ⟨_, rfl⟩) rfl fr_X13 (c := 183) rfl (by decide) rfl rfl (fun M129 hM129 => ?_)
  have I129 : kx_I M M129 199 30 := by rw [hM129, hM127]; exact I120.arr (by decide) (by decide) rfl (by decide +kernel) (fun b => mm_rt_ar (t := 0) rfl (by decide))
  refine mm_aload_n dX13_init_132 rfl rfl ?_
  refine mm_sipush dX13_init_133 rfl (by decide) ?_
  refine mm_newarr' (n := 199) (t := 0) dX13_init_136 rfl rfl (by decide) rfl rfl ac_0 ⟨by decide, by decide, by decide +kernel, by decide +kernel, by decide +kernel⟩ (fun M136 hM136 => ?_)
  refine mm_putr' dX13_init_138 rfl fl_X13_243 (by first | exact Or.inl ⟨_, rfl⟩ | exact Or.inr ⟨_, rfl⟩) rfl fr_X13 (c := 183) rfl (by decide) rfl rfl (fun M138 hM138 => ?_)
  have I138 : kx_I M M138 200 31 := by rw [hM138, hM136]; exact I129.arr (by decide) (by decide) rfl (by decide +kernel) (fun b => mm_rt_ar (t := 0) rfl (by decide))
  refine mm_aload_n dX13_init_141 rfl rfl ?_
  refine mm_sipush dX13_init_142 rfl (by decide) ?_
  refine mm_newarr' (n := 200) (t := 0) dX13_init_145 rfl rfl (by decide) rfl rfl ac_0 ⟨by decide, by decide, by decide +kernel, by decide +kernel, by decide +kernel⟩ (fun M145 hM145 => ?_)
  refine mm_putr' dX13_init_147 rfl fl_X13_246 (by first | exact Or.inl ⟨_, rfl⟩ | exact Or.inr ⟨_, rfl⟩) rfl fr_X13 (c := 183) rfl (by decide) rfl rfl (fun M147 hM147 => ?_)
  have I147 : kx_I M M147 201 32 := by rw [hM147, hM145]; exact I138.arr (by decide) (by decide) rfl (by decide +kernel) (fun b => mm_rt_ar (t := 0) rfl (by decide))
  refine mm_aload_n dX13_init_150 rfl rfl ?_
  refine mm_sipush dX13_init_151 rfl (by decide) ?_
  refine mm_newarr' (n := 201) (t := 0) dX13_init_154 rfl rfl (by decide) rfl rfl ac_0 ⟨by decide, by decide, by decide +kernel, by decide +kernel, by decide +kernel⟩ (fun M154 hM154 => ?_)
  refine mm_putr' dX13_init_156 rfl fl_X13_249 (by first | exact Or.inl ⟨_, rfl⟩ | exact Or.inr ⟨_, rfl⟩) rfl fr_X13 (c := 183) rfl (by decide) rfl rfl (fun M156 hM156 => ?_)
  have I156 : kx_I M M156 202 33 := by rw [hM156, hM154]; exact I147.arr (by decide) (by decide) rfl (by decide +kernel) (fun b => mm_rt_ar (t := 0) rfl (by decide))
  refine mm_aload_n dX13_init_159 rfl rfl ?_
  refine mm_sipush dX13_init_160 rfl (by decide) ?_
  refine mm_newarr' (n := 202) (t := 0) dX13_init_163 rfl rfl (by decide) rfl rfl ac_0 ⟨by decide, by decide, by decide +kernel, by decide +kernel, by decide +kernel⟩ (fun M163 hM163 => ?_)
  refine mm_putr' dX13_init_165 rfl fl_X13_252 (by first | exact Or.inl ⟨_, rfl⟩ | exact Or.inr ⟨_, rfl⟩) rfl fr_X13 (c := 183) rfl (by decide) rfl rfl (fun M165 hM165 => ?_)
  have I165 : kx_I M M165 203 34 := by rw [hM165, hM163]; exact I156.arr (by decide) (by decide) rfl (by decide +kernel) (fun b => mm_rt_ar (t := 0) rfl (by decide))
  refine mm_aload_n dX13_init_168 rfl rfl ?_
  refine mm_bipush dX13_init_169 rfl (by decide) ?_
  refine mm_newarr' (n := 203) (t := 0) dX13_init_171 rfl rfl (by decide) rfl rfl ac_0 ⟨by decide, by decide, by decide +kernel, by decide +kernel, by decide +kernel⟩ (fun M171 hM171 => ?_)
  refine mm_putr' dX13_init_173 rfl fl_X13_255 (by first | exact Or.inl ⟨_, rfl⟩ | exact Or.inr ⟨_, rfl⟩) rfl fr_X13 (c := 183) rfl (by decide) rfl rfl (fun M173 hM173 => ?_)
  have I173 : kx_I M M173 204 35 := by rw [hM173, hM171]; exact I165.arr (by decide) (by decide) rfl (by decide +kernel) (fun b => mm_rt_ar (t := 0) rfl (by decide))
  refine mm_aload_n dX13_init_176 rfl rfl ?_
  refine mm_bipush dX13_init_177 rfl (by decide) ?_
  refine mm_newarr' (n := 204) (t := 0) dX13_init_179 rfl rfl (by decide) rfl rfl ac_0 ⟨by decide, by decide, by decide +kernel, by decide +kernel, by decide +kernel⟩ (fun M179 hM179 => ?_)
  refine mm_putr' dX13_init_181 rfl fl_X13_258 (by first | exact Or.inl ⟨_, rfl⟩ | exact Or.inr ⟨_, rfl⟩) rfl fr_X13 (c := 183) rfl (by decide) rfl rfl (fun M181 hM181 => ?_)
  have I181 : kx_I M M181 205 36 := by rw [hM181, hM179]; exact I173.arr (by decide) (by decide) rfl (by decide +kernel) (fun b => mm_rt_ar (t := 0) rfl (by decide))
  refine mm_aload_n dX13_init_184 rfl rfl ?_
  refine mm_sipush dX13_init_185 rfl (by decide) ?_
  refine mm_newarr' (n := 205) (t := 2) dX13_init_188 rfl rfl (by decide) rfl rfl ac_2 ⟨by decide, by decide, by decide +kernel, by decide +kernel, by decide +kernel⟩ (fun M188 hM188 => ?_)
  refine mm_putr' dX13_init_190 rfl fl_X13_261 (by first | exact Or.inl ⟨_, rfl⟩ | exact Or.inr ⟨_, rfl⟩) rfl fr_X13 (c := 183) rfl (by decide) rfl rfl (fun M190 hM190 => ?_)
  have I190 : kx_I M M190 206 37 := by rw [hM190, hM188]; exact I181.arr (by decide) (by decide) rfl (by decide +kernel) (fun b => mm_rt_ar (t := 2) rfl (by decide))
  refine mm_aload_n dX13_init_193 rfl rfl ?_
  refine mm_sipush dX13_init_194 rfl (by decide) ?_
  refine mm_newarr' (n := 206) (t := 0) dX13_init_197 rfl rfl (by decide) rfl rfl ac_0 ⟨by decide, by decide, by decide +kernel, by decide +kernel, by decide +kernel⟩ (fun M197 hM197 => ?_)
  refine mm_putr' dX13_init_199 rfl fl_X13_264 (by first | exact Or.inl ⟨_, rfl⟩ | exact Or.inr ⟨_, rfl⟩) rfl fr_X13 (c := 183) rfl (by decide) rfl rfl (fun M199 hM199 => ?_)
  have I199 : kx_I M M199 207 38 := by rw [hM199, hM197]; exact I190.arr (by decide) (by decide) rfl (by decide +kernel) (fun b => mm_rt_ar (t := 0) rfl (by decide))
  refine mm_aload_n dX13_init_202 rfl rfl ?_
  refine mm_ldcw dX13_init_203 rfl kc_X13_267 ?_
  refine mm_newarr' (n := 207) (t := 3) dX13_init_206 rfl rfl (by decide) rfl rfl ac_3 ⟨by decide, by decide, by decide +kernel, by decide +kernel, by decide +kernel⟩ (fun M206 hM206 => ?_)
  refine mm_putr' dX13_init_208 rfl fl_X13_268 (by first | exact Or.inl ⟨_, rfl⟩ | exact Or.inr ⟨_, rfl⟩) rfl fr_X13 (c := 183) rfl (by decide) rfl rfl (fun M208 hM208 => ?_)
  have I208 : kx_I M M208 208 39 := by rw [hM208, hM206]; exact I199.arr (by decide) (by decide) rfl (by decide +kernel) (fun b => mm_rt_ar (t := 3) rfl (by decide))
  refine mm_aload_n dX13_init_211 rfl rfl ?_
  refine mm_sipush dX13_init_212 rfl (by decide) ?_
  refine mm_newarr' (n := 208) (t := 3) dX13_init_215 rfl rfl (by decide) rfl rfl ac_3 ⟨by decide, by decide, by decide +kernel, by decide +kernel, by decide +kernel⟩ (fun M215 hM215 => ?_)
  refine mm_putr' dX13_init_217 rfl fl_X13_272 (by first | exact Or.inl ⟨_, rfl⟩ | exact Or.inr ⟨_, rfl⟩) rfl fr_X13 (c := 183) rfl (by decide) rfl rfl (fun M217 hM217 => ?_)
  have I217 : kx_I M M217 209 42 := by rw [hM217, hM215]; exact I208.arr (by decide) (by decide) rfl (by decide +kernel) (fun b => mm_rt_ar (t := 3) rfl (by decide))
  refine mm_aload_n dX13_init_220 rfl rfl ?_
  refine mm_sipush dX13_init_221 rfl (by decide) ?_
  refine mm_newarr' (n := 209) (t := 0) dX13_init_224 rfl rfl (by decide) rfl rfl ac_0 ⟨by decide, by decide, by decide +kernel, by decide +kernel, by decide +kernel⟩ (fun M224 hM224 => ?_)
  refine mm_putr' dX13_init_226 rfl fl_X13_274 (by first | exact Or.inl ⟨_, rfl⟩ | exact Or.inr ⟨_, rfl⟩) rfl fr_X13 (c := 183) rfl (by decide) rfl rfl (fun M226 hM226 => ?_)
  have I226 : kx_I M M226 210 43 := by rw [hM226, hM224]; exact I217.arr (by decide) (by decide) rfl (by decide +kernel) (fun b => mm_rt_ar (t := 0) rfl (by decide))
  refine mm_aload_n dX13_init_229 rfl rfl ?_
  refine mm_sipush dX13_init_230 rfl (by decide) ?_
  refine mm_newarr' (n := 210) (t := 0) dX13_init_233 rfl rfl (by decide) rfl rfl ac_0 ⟨by decide, by decide, by decide +kernel, by decide +kernel, by decide +kernel⟩ (fun M233 hM233 => ?_)
  refine mm_putr' dX13_init_235 rfl fl_X13_277 (by first | exact Or.inl ⟨_, rfl⟩ | exact Or.inr ⟨_, rfl⟩) rfl fr_X13 (c := 183) rfl (by decide) rfl rfl (fun M235 hM235 => ?_)
  have I235 : kx_I M M235 211 44 := by rw [hM235, hM233]; exact I226.arr (by decide) (by decide) rfl (by decide +kernel) (fun b => mm_rt_ar (t := 0) rfl (by decide))
  refine mm_aload_n dX13_init_238 rfl rfl ?_
  refine mm_sipush dX13_init_239 rfl (by decide) ?_
  refine mm_newarr' (n := 211) (t := 0) dX13_init_242 rfl rfl (by decide) rfl rfl ac_0 ⟨by decide, by decide, by decide +kernel, by decide +kernel, by decide +kernel⟩ (fun M242 hM242 => ?_)
  refine mm_putr' dX13_init_244 rfl fl_X13_280 (by first | exact Or.inl ⟨_, rfl⟩ | exact Or.inr ⟨_, rfl⟩) rfl fr_X13 (c := 183) rfl (by decide) rfl rfl (fun M244 hM244 => ?_)
  have I244 : kx_I M M244 212 45 := by rw [hM244, hM242]; exact I235.arr (by decide) (by decide) rfl (by decide +kernel) (fun b => mm_rt_ar (t := 0) rfl (by decide))
  refine mm_aload_n dX13_init_247 rfl rfl ?_
  refine mm_sipush dX13_init_248 rfl (by decide) ?_
  refine mm_newarr' (n := 212) (t := 0) dX13_init_251 rfl rfl (by decide) rfl rfl ac_0 ⟨by decide, by decide, by decide +kernel, by decide +kernel, by decide +kernel⟩ (fun M251 hM251 => ?_)
  refine mm_putr' dX13_init_253 rfl fl_X13_283 (by first | exact Or.inl ⟨_, rfl⟩ | exact Or.inr ⟨_, rfl⟩) rfl fr_X13 (c := 183) rfl (by decide) rfl rfl (fun M253 hM253 => ?_)
  have I253 : kx_I M M253 213 46 := by rw [hM253, hM251]; exact I244.arr (by decide) (by decide) rfl (by decide +kernel) (fun b => mm_rt_ar (t := 0) rfl (by decide))
  refine mm_aload_n dX13_init_256 rfl rfl ?_
  refine mm_sipush dX13_init_257 rfl (by decide) ?_
  refine mm_newarr' (n := 213) (t := 0) dX13_init_260 rfl rfl (by decide) rfl rfl ac_0 ⟨by decide, by decide, by decide +kernel, by decide +kernel, by decide +kernel⟩ (fun M260 hM260 => ?_)
  refine mm_putr' dX13_init_262 rfl fl_X13_286 (by first | exact Or.inl ⟨_, rfl⟩ | exact Or.inr ⟨_, rfl⟩) rfl fr_X13 (c := 183) rfl (by decide) rfl rfl (fun M262 hM262 => ?_)
  have I262 : kx_I M M262 214 50 := by rw [hM262, hM260]; exact I253.arr (by decide) (by decide) rfl (by decide +kernel) (fun b => mm_rt_ar (t := 0) rfl (by decide))
  refine mm_aload_n dX13_init_265 rfl rfl ?_
  refine mm_sipush dX13_init_266 rfl (by decide) ?_
  refine mm_newarr' (n := 214) (t := 0) dX13_init_269 rfl rfl (by decide) rfl rfl ac_0 ⟨by decide, by decide, by decide +kernel, by decide +kernel, by decide +kernel⟩ (fun M269 hM269 => ?_)
  refine mm_putr' dX13_init_271 rfl fl_X13_289 (by first | exact Or.inl ⟨_, rfl⟩ | exact Or.inr ⟨_, rfl⟩) rfl fr_X13 (c := 183) rfl (by decide) rfl rfl (fun M271 hM271 => ?_)
  have I271 : kx_I M M271 215 54 := by rw [hM271, hM269]; exact I262.arr (by decide) (by decide) rfl (by decide +kernel) (fun b => mm_rt_ar (t := 0) rfl (by decide))
  refine mm_aload_n dX13_init_274 rfl rfl ?_
  refine mm_bipush dX13_init_275 rfl (by decide) ?_
  refine mm_newarr' (n := 215) (t := 0) dX13_init_277 rfl rfl (by decide) rfl rfl ac_0 ⟨by decide, by decide, by decide +kernel, by decide +kernel, by decide +kernel⟩ (fun M277 hM277 => ?_)
  refine mm_putr' dX13_init_279 rfl fl_X13_292 (by first | exact Or.inl ⟨_, rfl⟩ | exact Or.inr ⟨_, rfl⟩) rfl fr_X13 (c := 183) rfl (by decide) rfl rfl (fun M279 hM279 => ?_)
  have I279 : kx_I M M279 216 64 := by rw [hM279, hM277]; exact I271.arr (by decide) (by decide) rfl (by decide +kernel) (fun b => mm_rt_ar (t := 0) rfl (by decide))
  refine mm_aload_n dX13_init_282 rfl rfl ?_
  refine mm_bipush dX13_init_283 rfl (by decide) ?_
  refine mm_newarr' (n := 216) (t := 0) dX13_init_285 rfl rfl (by decide) rfl rfl ac_0 ⟨by decide, by decide, by decide +kernel, by decide +kernel, by decide +kernel⟩ (fun M285 hM285 => ?_)
  refine mm_putr' dX13_init_287 rfl fl_X13_295 (by first | exact Or.inl ⟨_, rfl⟩ | exact Or.inr ⟨_, rfl⟩) rfl fr_X13 (c := 183) rfl (by decide) rfl rfl (fun M287 hM287 => ?_)
  have I287 : kx_I M M287 217 65 := by rw [hM287, hM285]; exact I279.arr (by decide) (by decide) rfl (by decide +kernel) (fun b => mm_rt_ar (t := 0) rfl (by decide))
  refine mm_aload_n dX13_init_290 rfl rfl ?_
  refine mm_bipush dX13_init_291 rfl (by decide) ?_
  refine mm_newarr' (n := 217) (t := 0) dX13_init_293 rfl rfl (by decide) rfl rfl ac_0 ⟨by decide, by decide, by decide +kernel, by decide +kernel, by decide +kernel⟩ (fun M293 hM293 => ?_)
  refine mm_putr' dX13_init_295 rfl fl_X13_298 (by first | exact Or.inl ⟨_, rfl⟩ | exact Or.inr ⟨_, rfl⟩) rfl fr_X13 (c := 183) rfl (by decide) rfl rfl (fun M295 hM295 => ?_)
  have I295 : kx_I M M295 218 66 := by rw [hM295, hM293]; exact I287.arr (by decide) (by decide) rfl (by decide +kernel) (fun b => mm_rt_ar (t := 0) rfl (by decide))
  refine mm_aload_n dX13_init_298 rfl rfl ?_
  refine mm_bipush dX13_init_299 rfl (by decide) ?_
  refine mm_newarr' (n := 218) (t := 0) dX13_init_301 rfl rfl (by decide) rfl rfl ac_0 ⟨by decide, by decide, by decide +kernel, by decide +kernel, by decide +kernel⟩ (fun M301 hM301 => ?_)
  refine mm_putr' dX13_init_303 rfl fl_X13_301 (by first | exact Or.inl ⟨_, rfl⟩ | exact Or.inr ⟨_, rfl⟩) rfl fr_X13 (c := 183) rfl (by decide) rfl rfl (fun M303 hM303 => ?_)
  have I303 : kx_I M M303 219 67 := by rw [hM303, hM301]; exact I295.arr (by decide) (by decide) rfl (by decide +kernel) (fun b => mm_rt_ar (t := 0) rfl (by decide))
  refine mm_aload_n dX13_init_306 rfl rfl ?_
  refine mm_sipush dX13_init_307 rfl (by decide) ?_
  refine mm_newarr' (n := 219) (t := 0) dX13_init_310 rfl rfl (by decide) rfl rfl ac_0 ⟨by decide, by decide, by decide +kernel, by decide +kernel, by decide +kernel⟩ (fun M310 hM310 => ?_)
  refine mm_putr' dX13_init_312 rfl fl_X13_304 (by first | exact Or.inl ⟨_, rfl⟩ | exact Or.inr ⟨_, rfl⟩) rfl fr_X13 (c := 183) rfl (by decide) rfl rfl (fun M312 hM312 => ?_)
  have I312 : kx_I M M312 220 68 := by rw [hM312, hM310]; exact I303.arr (by decide) (by decide) rfl (by decide +kernel) (fun b => mm_rt_ar (t := 0) rfl (by decide))
  refine mm_aload_n dX13_init_315 rfl rfl ?_
  refine mm_sipush dX13_init_316 rfl (by decide) ?_
  refine mm_newarr' (n := 220) (t := 0) dX13_init_319 rfl rfl (by decide) rfl rfl ac_0 ⟨by decide, by decide, by decide +kernel, by decide +kernel, by decide +kernel⟩ (fun M319 hM319 => ?_)
  refine mm_putr' dX13_init_321 rfl fl_X13_307 (by first | exact Or.inl ⟨_, rfl⟩ | exact Or.inr ⟨_, rfl⟩) rfl fr_X13 (c := 183) rfl (by decide) rfl rfl (fun M321 hM321 => ?_)
  have I321 : kx_I M M321 221 74 := by rw [hM321, hM319]; exact I312.arr (by decide) (by decide) rfl (by decide +kernel) (fun b => mm_rt_ar (t := 0) rfl (by decide))
  refine mm_aload_n dX13_init_324 rfl rfl ?_
  refine mm_sipush dX13_init_325 rfl (by decide) ?_
  refine mm_newarr' (n := 221) (t := 0) dX13_init_328 rfl rfl (by decide) rfl rfl ac_0 ⟨by decide, by decide, by decide +kernel, by decide +kernel, by decide +kernel⟩ (fun M328 hM328 => ?_)
  refine mm_putr' dX13_init_330 rfl fl_X13_310 (by first | exact Or.inl ⟨_, rfl⟩ | exact Or.inr ⟨_, rfl⟩) rfl fr_X13 (c := 183) rfl (by decide) rfl rfl (fun M330 hM330 => ?_)
  have I330 : kx_I M M330 222 75 := by rw [hM330, hM328]; exact I321.arr (by decide) (by decide) rfl (by decide +kernel) (fun b => mm_rt_ar (t := 0) rfl (by decide))
  refine mm_aload_n dX13_init_333 rfl rfl ?_
  refine mm_bipush dX13_init_334 rfl (by decide) ?_
  refine mm_newarr' (n := 222) (t := 3) dX13_init_336 rfl rfl (by decide) rfl rfl ac_3 ⟨by decide, by decide, by decide +kernel, by decide +kernel, by decide +kernel⟩ (fun M336 hM336 => ?_)
  refine mm_putr' dX13_init_338 rfl fl_X13_313 (by first | exact Or.inl ⟨_, rfl⟩ | exact Or.inr ⟨_, rfl⟩) rfl fr_X13 (c := 183) rfl (by decide) rfl rfl (fun M338 hM338 => ?_)
  have I338 : kx_I M M338 223 81 := by rw [hM338, hM336]; exact I330.arr (by decide) (by decide) rfl (by decide +kernel) (fun b => mm_rt_ar (t := 3) rfl (by decide))
  refine mm_aload_n dX13_init_341 rfl rfl ?_
  refine mm_bipush dX13_init_342 rfl (by decide) ?_
  refine mm_newarr' (n := 223) (t := 0) dX13_init_344 rfl rfl (by decide) rfl rfl ac_0 ⟨by decide, by decide, by decide +kernel, by decide +kernel, by decide +kernel⟩ (fun M344 hM344 => ?_)
  refine mm_putr' dX13_init_346 rfl fl_X13_316 (by first | exact Or.inl ⟨_, rfl⟩ | exact Or.inr ⟨_, rfl⟩) rfl fr_X13 (c := 183) rfl (by decide) rfl rfl (fun M346 hM346 => ?_)
  have I346 : kx_I M M346 224 82 := by rw [hM346, hM344]; exact I338.arr (by decide) (by decide) rfl (by decide +kernel) (fun b => mm_rt_ar (t := 0) rfl (by decide))
  refine mm_aload_n dX13_init_349 rfl rfl ?_
  refine mm_bipush dX13_init_350 rfl (by decide) ?_
  refine mm_newarr' (n := 224) (t := 3) dX13_init_352 rfl rfl (by decide) rfl rfl ac_3 ⟨by decide, by decide, by decide +kernel, by decide +kernel, by decide +kernel⟩ (fun M352 hM352 => ?_)
  refine mm_putr' dX13_init_354 rfl fl_X13_319 (by first | exact Or.inl ⟨_, rfl⟩ | exact Or.inr ⟨_, rfl⟩) rfl fr_X13 (c := 183) rfl (by decide) rfl rfl (fun M354 hM354 => ?_)
  have I354 : kx_I M M354 225 83 := by rw [hM354, hM352]; exact I346.arr (by decide) (by decide) rfl (by decide +kernel) (fun b => mm_rt_ar (t := 3) rfl (by decide))
  refine mm_aload_n dX13_init_357 rfl rfl ?_
  refine mm_bipush dX13_init_358 rfl (by decide) ?_
  refine mm_newarr' (n := 225) (t := 3) dX13_init_360 rfl rfl (by decide) rfl rfl ac_3 ⟨by decide, by decide, by decide +kernel, by decide +kernel, by decide +kernel⟩ (fun M360 hM360 => ?_)
  refine mm_putr' dX13_init_362 rfl fl_X13_322 (by first | exact Or.inl ⟨_, rfl⟩ | exact Or.inr ⟨_, rfl⟩) rfl fr_X13 (c := 183) rfl (by decide) rfl rfl (fun M362 hM362 => ?_)
  have I362 : kx_I M M362 226 84 := by rw [hM362, hM360]; exact I354.arr (by decide) (by decide) rfl (by decide +kernel) (fun b => mm_rt_ar (t := 3) rfl (by decide))
  refine mm_aload_n dX13_init_365 rfl rfl ?_
  refine mm_iconst dX13_init_366 rfl ?_
  refine mm_puti dX13_init_367 rfl fl_X13_325 (c := 183) rfl (by decide) rfl rfl (fun M367 hM367 => ?_)
  have I367 : kx_I M M367 226 85 := by rw [hM367]; exact I362.int (by decide) rfl (by decide +kernel)
  refine mm_aload_n dX13_init_370 rfl rfl ?_
  refine mm_bipush dX13_init_371 rfl (by decide) ?_
  refine mm_newarr' (n := 226) (t := 0) dX13_init_373 rfl rfl (by decide) rfl rfl ac_0 ⟨by decide, by decide, by decide +kernel, by decide +kernel, by decide +kernel⟩ (fun M373 hM373 => ?_)
  refine mm_putr' dX13_init_375 rfl fl_X13_328 (by first | exact Or.inl ⟨_, rfl⟩ | exact Or.inr ⟨_, rfl⟩) rfl fr_X13 (c := 183) rfl (by decide) rfl rfl (fun M375 hM375 => ?_)
  have I375 : kx_I M M375 227 87 := by rw [hM375, hM373]; exact I367.arr (by decide) (by decide) rfl (by decide +kernel) (fun b => mm_rt_ar (t := 0) rfl (by decide))
  refine mm_aload_n dX13_init_378 rfl rfl ?_
  refine mm_bipush dX13_init_379 rfl (by decide) ?_
  refine mm_newarr' (n := 227) (t := 0) dX13_init_381 rfl rfl (by decide) rfl rfl ac_0 ⟨by decide, by decide, by decide +kernel, by decide +kernel, by decide +kernel⟩ (fun M381 hM381 => ?_)
  refine mm_putr' dX13_init_383 rfl fl_X13_331 (by first | exact Or.inl ⟨_, rfl⟩ | exact Or.inr ⟨_, rfl⟩) rfl fr_X13 (c := 183) rfl (by decide) rfl rfl (fun M383 hM383 => ?_)
  have I383 : kx_I M M383 228 88 := by rw [hM383, hM381]; exact I375.arr (by decide) (by decide) rfl (by decide +kernel) (fun b => mm_rt_ar (t := 0) rfl (by decide))
  refine mm_aload_n dX13_init_386 rfl rfl ?_
  refine mm_bipush dX13_init_387 rfl (by decide) ?_
  refine mm_newarr' (n := 228) (t := 0) dX13_init_389 rfl rfl (by decide) rfl rfl ac_0 ⟨by decide, by decide, by decide +kernel, by decide +kernel, by decide +kernel⟩ (fun M389 hM389 => ?_)
  refine mm_putr' dX13_init_391 rfl fl_X13_334 (by first | exact Or.inl ⟨_, rfl⟩ | exact Or.inr ⟨_, rfl⟩) rfl fr_X13 (c := 183) rfl (by decide) rfl rfl (fun M391 hM391 => ?_)
  have I391 : kx_I M M391 229 91 := by rw [hM391, hM389]; exact I383.arr (by decide) (by decide) rfl (by decide +kernel) (fun b => mm_rt_ar (t := 0) rfl (by decide))
  refine mm_aload_n dX13_init_394 rfl rfl ?_
  refine mm_bipush dX13_init_395 rfl (by decide) ?_
  refine mm_newarr' (n := 229) (t := 2) dX13_init_397 rfl rfl (by decide) rfl rfl ac_2 ⟨by decide, by decide, by decide +kernel, by decide +kernel, by decide +kernel⟩ (fun M397 hM397 => ?_)
  refine mm_putr' dX13_init_399 rfl fl_X13_337 (by first | exact Or.inl ⟨_, rfl⟩ | exact Or.inr ⟨_, rfl⟩) rfl fr_X13 (c := 183) rfl (by decide) rfl rfl (fun M399 hM399 => ?_)
  have I399 : kx_I M M399 230 92 := by rw [hM399, hM397]; exact I391.arr (by decide) (by decide) rfl (by decide +kernel) (fun b => mm_rt_ar (t := 2) rfl (by decide))
  refine mm_aload_n dX13_init_402 rfl rfl ?_
  refine mm_bipush dX13_init_403 rfl (by decide) ?_
  refine mm_newarr' (n := 230) (t := 0) dX13_init_405 rfl rfl (by decide) rfl rfl ac_0 ⟨by decide, by decide, by decide +kernel, by decide +kernel, by decide +kernel⟩ (fun M405 hM405 => ?_)
  refine mm_putr' dX13_init_407 rfl fl_X13_340 (by first | exact Or.inl ⟨_, rfl⟩ | exact Or.inr ⟨_, rfl⟩) rfl fr_X13 (c := 183) rfl (by decide) rfl rfl (fun M407 hM407 => ?_)
  have I407 : kx_I M M407 231 94 := by rw [hM407, hM405]; exact I399.arr (by decide) (by decide) rfl (by decide +kernel) (fun b => mm_rt_ar (t := 0) rfl (by decide))
  refine mm_aload_n dX13_init_410 rfl rfl ?_
  refine mm_bipush dX13_init_411 rfl (by decide) ?_
  refine mm_newarr' (n := 231) (t := 0) dX13_init_413 rfl rfl (by decide) rfl rfl ac_0 ⟨by decide, by decide, by decide +kernel, by decide +kernel, by decide +kernel⟩ (fun M413 hM413 => ?_)
  refine mm_putr' dX13_init_415 rfl fl_X13_343 (by first | exact Or.inl ⟨_, rfl⟩ | exact Or.inr ⟨_, rfl⟩) rfl fr_X13 (c := 183) rfl (by decide) rfl rfl (fun M415 hM415 => ?_)
  have I415 : kx_I M M415 232 95 := by rw [hM415, hM413]; exact I407.arr (by decide) (by decide) rfl (by decide +kernel) (fun b => mm_rt_ar (t := 0) rfl (by decide))
  refine mm_aload_n dX13_init_418 rfl rfl ?_
  refine mm_bipush dX13_init_419 rfl (by decide) ?_
  refine mm_newarr' (n := 232) (t := 0) dX13_init_421 rfl rfl (by decide) rfl rfl ac_0 ⟨by decide, by decide, by decide +kernel, by decide +kernel, by decide +kernel⟩ (fun M421 hM421 => ?_)
  refine mm_putr' dX13_init_423 rfl fl_X13_346 (by first | exact Or.inl ⟨_, rfl⟩ | exact Or.inr ⟨_, rfl⟩) rfl fr_X13 (c := 183) rfl (by decide) rfl rfl (fun M423 hM423 => ?_)
  have I423 : kx_I M M423 233 96 := by rw [hM423, hM421]; exact I415.arr (by decide) (by decide) rfl (by decide +kernel) (fun b => mm_rt_ar (t := 0) rfl (by decide))
  refine mm_aload_n dX13_init_426 rfl rfl ?_
  refine mm_bipush dX13_init_427 rfl (by decide) ?_
  refine mm_puti dX13_init_429 rfl fl_X13_349 (c := 183) rfl (by decide) rfl rfl (fun M429 hM429 => ?_)
  have I429 : kx_I M M429 233 97 := by rw [hM429]; exact I423.int (by decide) rfl (by decide +kernel)
  refine mm_aload_n dX13_init_432 rfl rfl ?_
  refine mm_bipush dX13_init_433 rfl (by decide) ?_
  refine mm_newarr' (n := 233) (t := 0) dX13_init_435 rfl rfl (by decide) rfl rfl ac_0 ⟨by decide, by decide, by decide +kernel, by decide +kernel, by decide +kernel⟩ (fun M435 hM435 => ?_)
  refine mm_putr' dX13_init_437 rfl fl_X13_352 (by first | exact Or.inl ⟨_, rfl⟩ | exact Or.inr ⟨_, rfl⟩) rfl fr_X13 (c := 183) rfl (by decide) rfl rfl (fun M437 hM437 => ?_)
  have I437 : kx_I M M437 234 101 := by rw [hM437, hM435]; exact I429.arr (by decide) (by decide) rfl (by decide +kernel) (fun b => mm_rt_ar (t := 0) rfl (by decide))
  refine mm_aload_n dX13_init_440 rfl rfl ?_
  refine mm_bipush dX13_init_441 rfl (by decide) ?_
  refine mm_newarr' (n := 234) (t := 0) dX13_init_443 rfl rfl (by decide) rfl rfl ac_0 ⟨by decide, by decide, by decide +kernel, by decide +kernel, by decide +kernel⟩ (fun M443 hM443 => ?_)
  refine mm_putr' dX13_init_445 rfl fl_X13_355 (by first | exact Or.inl ⟨_, rfl⟩ | exact Or.inr ⟨_, rfl⟩) rfl fr_X13 (c := 183) rfl (by decide) rfl rfl (fun M445 hM445 => ?_)
  have I445 : kx_I M M445 235 102 := by rw [hM445, hM443]; exact I437.arr (by decide) (by decide) rfl (by decide +kernel) (fun b => mm_rt_ar (t := 0) rfl (by decide))
  refine mm_aload_n dX13_init_448 rfl rfl ?_
  refine mm_bipush dX13_init_449 rfl (by decide) ?_
  refine mm_newarr' (n := 235) (t := 0) dX13_init_451 rfl rfl (by decide) rfl rfl ac_0 ⟨by decide, by decide, by decide +kernel, by decide +kernel, by decide +kernel⟩ (fun M451 hM451 => ?_)
  refine mm_putr' dX13_init_453 rfl fl_X13_358 (by first | exact Or.inl ⟨_, rfl⟩ | exact Or.inr ⟨_, rfl⟩) rfl fr_X13 (c := 183) rfl (by decide) rfl rfl (fun M453 hM453 => ?_)
  have I453 : kx_I M M453 236 103 := by rw [hM453, hM451]; exact I445.arr (by decide) (by decide) rfl (by decide +kernel) (fun b => mm_rt_ar (t := 0) rfl (by decide))
  refine mm_aload_n dX13_init_456 rfl rfl ?_
  refine mm_bipush dX13_init_457 rfl (by decide) ?_
  refine mm_newarr' (n := 236) (t := 0) dX13_init_459 rfl rfl (by decide) rfl rfl ac_0 ⟨by decide, by decide, by decide +kernel, by decide +kernel, by decide +kernel⟩ (fun M459 hM459 => ?_)
  refine mm_putr' dX13_init_461 rfl fl_X13_361 (by first | exact Or.inl ⟨_, rfl⟩ | exact Or.inr ⟨_, rfl⟩) rfl fr_X13 (c := 183) rfl (by decide) rfl rfl (fun M461 hM461 => ?_)
  have I461 : kx_I M M461 237 104 := by rw [hM461, hM459]; exact I453.arr (by decide) (by decide) rfl (by decide +kernel) (fun b => mm_rt_ar (t := 0) rfl (by decide))
  refine mm_aload_n dX13_init_464 rfl rfl ?_
  refine mm_bipush dX13_init_465 rfl (by decide) ?_
  refine mm_newarr' (n := 237) (t := 0) dX13_init_467 rfl rfl (by decide) rfl rfl ac_0 ⟨by decide, by decide, by decide +kernel, by decide +kernel, by decide +kernel⟩ (fun M467 hM467 => ?_)
  refine mm_putr' dX13_init_469 rfl fl_X13_364 (by first | exact Or.inl ⟨_, rfl⟩ | exact Or.inr ⟨_, rfl⟩) rfl fr_X13 (c := 183) rfl (by decide) rfl rfl (fun M469 hM469 => ?_)
  have I469 : kx_I M M469 238 105 := by rw [hM469, hM467]; exact I461.arr (by decide) (by decide) rfl (by decide +kernel) (fun b => mm_rt_ar (t := 0) rfl (by decide))
  refine mm_aload_n dX13_init_472 rfl rfl ?_
  refine mm_bipush dX13_init_473 rfl (by decide) ?_
  refine mm_newarr' (n := 238) (t := 0) dX13_init_475 rfl rfl (by decide) rfl rfl ac_0 ⟨by decide, by decide, by decide +kernel, by decide +kernel, by decide +kernel⟩ (fun M475 hM475 => ?_)
  refine mm_putr' dX13_init_477 rfl fl_X13_367 (by first | exact Or.inl ⟨_, rfl⟩ | exact Or.inr ⟨_, rfl⟩) rfl fr_X13 (c := 183) rfl (by decide) rfl rfl (fun M477 hM477 => ?_)
  have I477 : kx_I M M477 239 106 := by rw [hM477, hM475]; exact I469.arr (by decide) (by decide) rfl (by decide +kernel) (fun b => mm_rt_ar (t := 0) rfl (by decide))
  refine mm_aload_n dX13_init_480 rfl rfl ?_
  refine mm_bipush dX13_init_481 rfl (by decide) ?_
  refine mm_newarr' (n := 239) (t := 0) dX13_init_483 rfl rfl (by decide) rfl rfl ac_0 ⟨by decide, by decide, by decide +kernel, by decide +kernel, by decide +kernel⟩ (fun M483 hM483 => ?_)
  refine mm_putr' dX13_init_485 rfl fl_X13_370 (by first | exact Or.inl ⟨_, rfl⟩ | exact Or.inr ⟨_, rfl⟩) rfl fr_X13 (c := 183) rfl (by decide) rfl rfl (fun M485 hM485 => ?_)
  have I485 : kx_I M M485 240 107 := by rw [hM485, hM483]; exact I477.arr (by decide) (by decide) rfl (by decide +kernel) (fun b => mm_rt_ar (t := 0) rfl (by decide))
  refine mm_aload_n dX13_init_488 rfl rfl ?_
  refine mm_bipush dX13_init_489 rfl (by decide) ?_
  refine mm_newarr' (n := 240) (t := 0) dX13_init_491 rfl rfl (by decide) rfl rfl ac_0 ⟨by decide, by decide, by decide +kernel, by decide +kernel, by decide +kernel⟩ (fun M491 hM491 => ?_)
  refine mm_putr' dX13_init_493 rfl fl_X13_373 (by first | exact Or.inl ⟨_, rfl⟩ | exact Or.inr ⟨_, rfl⟩) rfl fr_X13 (c := 183) rfl (by decide) rfl rfl (fun M493 hM493 => ?_)
  have I493 : kx_I M M493 241 108 := by rw [hM493, hM491]; exact I485.arr (by decide) (by decide) rfl (by decide +kernel) (fun b => mm_rt_ar (t := 0) rfl (by decide))
  refine mm_aload_n dX13_init_496 rfl rfl ?_
  refine mm_bipush dX13_init_497 rfl (by decide) ?_
  refine mm_newarr' (n := 241) (t := 0) dX13_init_499 rfl rfl (by decide) rfl rfl ac_0 ⟨by decide, by decide, by decide +kernel, by decide +kernel, by decide +kernel⟩ (fun M499 hM499 => ?_)
  refine mm_putr' dX13_init_501 rfl fl_X13_376 (by first | exact Or.inl ⟨_, rfl⟩ | exact Or.inr ⟨_, rfl⟩) rfl fr_X13 (c := 183) rfl (by decide) rfl rfl (fun M501 hM501 => ?_)
  have I501 : kx_I M M501 242 109 := by rw [hM501, hM499]; exact I493.arr (by decide) (by decide) rfl (by decide +kernel) (fun b => mm_rt_ar (t := 0) rfl (by decide))
  refine mm_aload_n dX13_init_504 rfl rfl ?_
  refine mm_bipush dX13_init_505 rfl (by decide) ?_
  refine mm_newarr' (n := 242) (t := 0) dX13_init_507 rfl rfl (by decide) rfl rfl ac_0 ⟨by decide, by decide, by decide +kernel, by decide +kernel, by decide +kernel⟩ (fun M507 hM507 => ?_)
  refine mm_putr' dX13_init_509 rfl fl_X13_379 (by first | exact Or.inl ⟨_, rfl⟩ | exact Or.inr ⟨_, rfl⟩) rfl fr_X13 (c := 183) rfl (by decide) rfl rfl (fun M509 hM509 => ?_)
  have I509 : kx_I M M509 243 110 := by rw [hM509, hM507]; exact I501.arr (by decide) (by decide) rfl (by decide +kernel) (fun b => mm_rt_ar (t := 0) rfl (by decide))
  have hR9 : mm_Rf M509 := I509.rf hM
  refine mm_aload_n dX13_init_512 rfl rfl ?_
  refine mm_V0c dX13_init_513 rfl lk_X13_129 (c := 183) rfl (by decide) rfl ⟨by decide, by decide, by decide, by decide +kernel, by decide +kernel, by decide +kernel⟩  rfl rfl rfl (c_X13_plain hR9) ?_
  rintro _ N513 ⟨rfl, p513⟩
  change mm_J _ _ _ _ _ _ _ _ _ _
  obtain ⟨pR, f1, f2, f3, f4, f5⟩ := p513
  refine mm_aload_n dX13_init_516 rfl rfl ?_
  refine mm_V0c dX13_init_517 rfl lk_X13_382 (c := 183) rfl (by decide) rfl ⟨by decide, by decide, by decide, by decide +kernel, by decide +kernel, by decide +kernel⟩  rfl rfl rfl (c_X13_takeKite pR (by exact (f4 (fun _ => 0)).2.2.2.2.1)) ?_
  rintro _ N517 ⟨rfl, p517⟩
  change mm_J _ _ _ _ _ _ _ _ _ _
  obtain ⟨qR, g1, g2, g3, g4, g5, g6⟩ := p517
  refine mm_iconst dX13_init_520 rfl ?_
  refine mm_istore_n dX13_init_521 rfl (Nat.le_of_ble_eq_true rfl) rfl ?_
  refine kx_now N517 qR Φ ?_ 0 (by omega) _ qR (fun _ _ _ => rfl) (fun b hb => absurd hb (by omega)) (fun _ _ => ⟨rfl, rfl⟩)
  intro N hRN e1 e2 e3
  rw [hΦ]
  obtain ⟨i1, i2, i3, i4⟩ := I509
  have hbd : kq_bd M509 := by
    intro i hi
    rw [i2 189 i (by decide) (by decide), mm_rt_ar (t := 0) rfl (by decide)]
    exact ⟨by decide, by decide⟩
  have hbd2 := f3 hbd
  obtain ⟨k1, k2, k3, k4, k5, k6⟩ := f4 (fun _ => 0)
  refine ⟨rfl, hRN, ?_, ⟨?_, ?_, ?_, ?_, ?_⟩, ?_, e2, ?_, ?_, ?_, ?_, ?_, ?_⟩
  · intro a ha
    rw [e1 a (by omega) (by omega), g1 a (by omega) (by omega) (by omega) (by omega), f1 a (by omega) (by unfold kq_A; omega)]
    exact i1 a ha
  · intro i hi
    rw [e1 186 (by decide) (by decide), g4 i hi]; exact k1 i hi
  · rw [e1 183 (by decide) (by decide), g3]; exact k2
  · rw [e1 188 (by decide) (by decide), g5 0 (by decide), g5 1 (by decide)]
    exact ⟨k4 0 (by decide), k4 1 (by decide)⟩
  · intro i hi
    rw [e1 188 (by decide) (by decide), g5 i hi]; exact hbd2 i hi
  · intro i hi
    rw [e1 190 (by decide) (by decide), g6 i hi, k6 i hi]
    unfold kp_D0
    rw [if_neg (by omega), if_neg (by omega), if_neg (by omega), if_neg (by omega), if_pos (by omega)]
  · intro i hi
    rw [e1 189 (by decide) (by decide), g1 189 (by decide) (by decide) (by decide) (by decide)]; exact hbd2 i hi
  · intro b hb
    rw [(e3 b hb).1, (e3 b hb).2, g1 203 (by decide) (by decide) (by decide) (by decide), g1 204 (by decide) (by decide) (by decide) (by decide), f1 203 (by decide) (by unfold kq_A; omega), f1 204 (by decide) (by unfold kq_A; omega), i2 203 b (by decide) (by decide), i2 204 b (by decide) (by decide), mm_rt_ar (t := 0) rfl (by decide), mm_rt_ar (t := 0) rfl (by decide)]
    exact ⟨rfl, rfl⟩
  · rw [e1 183 (by decide) (by decide), g2 9 (by decide), f2 9 (by unfold kq_S; omega), i3 9 (by decide)]; rfl
  · rw [e1 183 (by decide) (by decide), g2 84 (by decide), f2 84 (by unfold kq_S; omega), i3 84 (by decide)]; rfl
  · rw [e1 183 (by decide) (by decide), g2 96 (by decide), f2 96 (by unfold kq_S; omega), i3 96 (by decide)]; rfl
  · intro b b1 b2 b3 b4
    rw [e1 183 (by decide) (by decide), g2 b (by omega), f2 b (by unfold kq_S; omega)]
    by_cases q : b < 110
    · rw [i3 b q]; unfold kx_v; rw [if_neg b1, if_neg b3, if_neg b4]
    · rw [i4 b (by omega)]
      by_cases z : mm_rt 183 b = 0
      · exact z.symm
      · exact absurd ((kx_big z).2 rfl) q
  · intro a b a1 a2 a3 a4 a5
    rw [e1 a a4 a5, g1 a (by omega) (by omega) (by omega) (by omega), f1 a (by omega) (by unfold kq_A; omega)]
    exact i2 a b a1 a2
end

