/-! ===== constructors: the kite ===== -/
section
variable {X : mm_X} {Y Y' : mm_Y} {n0 n1 n pc q idx ci c : Nat} {ls st : List mm_V} {M : mm_M} {Φ Ψ : mm_V → mm_M → Prop} {r : Int}
theorem mm_V0c (hd : mm_D Y.2.1 pc q (.invokevirtual idx)) (hq : pc + 3 = q) (hw : mm_LV Y.1.cls idx Y' ci 0) (hr : r = (c : Int) + 1) (hc : c < n) (hs : mm_sh c = (0, ci)) (hn : mm_le n0 n n n1) (hpad : Nat.ble (mm_dbl [(2, r)]).length Y'.2.2.1 = true) (hfr : Nat.ble (Y'.2.2.2.2.1 + 1) Y.2.2.2.2.1 = true) (hlo : Nat.ble (mm_wd st + (Y'.2.2.1 + 11) + Y'.2.2.2.2.2.1) Y.2.2.2.2.2.1 = true)
    (hC : mm_C X Y' n n [(2, r)] M Ψ) (k : ∀ r M1, Ψ r M1 → mm_Kc X Y n0 n1 n q ls st Φ r M1) : mm_J X Y n0 n1 n pc ls ((2, r) :: st) M Φ :=
  mm_callV hd hq hw hr hc hs (as := []) rfl rfl hn (by simp) (Nat.le_of_ble_eq_true hpad) (Nat.le_of_ble_eq_true hfr) (Nat.le_of_ble_eq_true hlo) hC k
end
section
variable {X : mm_X} {M : mm_M}
theorem c_X4_init (hz : ∀ b, M 3 b = 0) : mm_C X Y_X4_init 4 11 [(2, 4)] M (fun r M' => r = (3, 0) ∧ (∀ a, a < 3 → M' a = M a) ∧ kc_rf M' ∧ mm_CK M' ∧ (∀ b, b < 36 → M' 4 b = kp_D0 (fun _ => 0) b) ∧ M' 5 = kp_D0 (fun _ => 0)) := by
  refine mm_start (ls := [(2, 4)]) rfl ?_
  refine mm_aload_n dX4_init_0 rfl rfl ?_
  refine mm_oinit' (c := 3) dX4_init_1 rfl oi_X4_3 rfl rfl rfl ?_
  refine mm_aload_n dX4_init_4 rfl rfl ?_
  refine mm_bipush dX4_init_5 rfl (by decide) ?_
  refine mm_newarr' (n := 4) (t := 0) dX4_init_7 rfl rfl (by decide) rfl rfl ac_0 ⟨by decide, by decide, by decide +kernel, by decide +kernel, by decide +kernel⟩ (fun M7 hM7 => ?_)
  refine mm_putr' dX4_init_9 rfl fl_X4_11 (by first | exact Or.inl ⟨_, rfl⟩ | exact Or.inr ⟨_, rfl⟩) rfl fr_X4 (c := 3) rfl (by decide) rfl rfl (fun M9 hM9 => ?_)
  refine mm_aload_n dX4_init_12 rfl rfl ?_
  refine mm_bipush dX4_init_13 rfl (by decide) ?_
  refine mm_newarr' (n := 5) (t := 0) dX4_init_15 rfl rfl (by decide) rfl rfl ac_0 ⟨by decide, by decide, by decide +kernel, by decide +kernel, by decide +kernel⟩ (fun M15 hM15 => ?_)
  refine mm_putr' dX4_init_17 rfl fl_X4_15 (by first | exact Or.inl ⟨_, rfl⟩ | exact Or.inr ⟨_, rfl⟩) rfl fr_X4 (c := 3) rfl (by decide) rfl rfl (fun M17 hM17 => ?_)
  refine mm_aload_n dX4_init_20 rfl rfl ?_
  refine mm_sipush dX4_init_21 rfl (by decide) ?_
  refine mm_newarr' (n := 6) (t := 0) dX4_init_24 rfl rfl (by decide) rfl rfl ac_0 ⟨by decide, by decide, by decide +kernel, by decide +kernel, by decide +kernel⟩ (fun M24 hM24 => ?_)
  refine mm_putr' dX4_init_26 rfl fl_X4_18 (by first | exact Or.inl ⟨_, rfl⟩ | exact Or.inr ⟨_, rfl⟩) rfl fr_X4 (c := 3) rfl (by decide) rfl rfl (fun M26 hM26 => ?_)
  refine mm_aload_n dX4_init_29 rfl rfl ?_
  refine mm_sipush dX4_init_30 rfl (by decide) ?_
  refine mm_newarr' (n := 7) (t := 0) dX4_init_33 rfl rfl (by decide) rfl rfl ac_0 ⟨by decide, by decide, by decide +kernel, by decide +kernel, by decide +kernel⟩ (fun M33 hM33 => ?_)
  refine mm_putr' dX4_init_35 rfl fl_X4_21 (by first | exact Or.inl ⟨_, rfl⟩ | exact Or.inr ⟨_, rfl⟩) rfl fr_X4 (c := 3) rfl (by decide) rfl rfl (fun M35 hM35 => ?_)
  refine mm_aload_n dX4_init_38 rfl rfl ?_
  refine mm_sipush dX4_init_39 rfl (by decide) ?_
  refine mm_newarr' (n := 8) (t := 0) dX4_init_42 rfl rfl (by decide) rfl rfl ac_0 ⟨by decide, by decide, by decide +kernel, by decide +kernel, by decide +kernel⟩ (fun M42 hM42 => ?_)
  refine mm_putr' dX4_init_44 rfl fl_X4_24 (by first | exact Or.inl ⟨_, rfl⟩ | exact Or.inr ⟨_, rfl⟩) rfl fr_X4 (c := 3) rfl (by decide) rfl rfl (fun M44 hM44 => ?_)
  refine mm_aload_n dX4_init_47 rfl rfl ?_
  refine mm_sipush dX4_init_48 rfl (by decide) ?_
  refine mm_newarr' (n := 9) (t := 0) dX4_init_51 rfl rfl (by decide) rfl rfl ac_0 ⟨by decide, by decide, by decide +kernel, by decide +kernel, by decide +kernel⟩ (fun M51 hM51 => ?_)
  refine mm_putr' dX4_init_53 rfl fl_X4_27 (by first | exact Or.inl ⟨_, rfl⟩ | exact Or.inr ⟨_, rfl⟩) rfl fr_X4 (c := 3) rfl (by decide) rfl rfl (fun M53 hM53 => ?_)
  refine mm_aload_n dX4_init_56 rfl rfl ?_
  refine mm_sipush dX4_init_57 rfl (by decide) ?_
  refine mm_newarr' (n := 10) (t := 0) dX4_init_60 rfl rfl (by decide) rfl rfl ac_0 ⟨by decide, by decide, by decide +kernel, by decide +kernel, by decide +kernel⟩ (fun M60 hM60 => ?_)
  refine mm_putr' dX4_init_62 rfl fl_X4_30 (by first | exact Or.inl ⟨_, rfl⟩ | exact Or.inr ⟨_, rfl⟩) rfl fr_X4 (c := 3) rfl (by decide) rfl rfl (fun M62 hM62 => ?_)
  refine mm_aload_n dX4_init_65 rfl rfl ?_
  have hk : kc_rf M62 := by refine ⟨?_, ?_, ?_, ?_, ?_, ?_, ?_⟩ <;> simp [hM62, hM60, hM53, hM51, hM44, hM42, hM35, hM33, hM26, hM24, hM17, hM15, hM9, hM7, mm_up, mm_z]
  have h5 : M62 5 = fun _ => 0 := by funext b; simp [hM62, hM60, hM53, hM51, hM44, hM42, hM35, hM33, hM26, hM24, hM17, hM15, hM9, hM7, mm_up, mm_z]
  have hf : ∀ a, a < 3 → M62 a = M a := by
    intro a ha
    have e3 : a ≠ 3 := by omega
    have e4 : a ≠ 4 := by omega
    have e5 : a ≠ 5 := by omega
    have e6 : a ≠ 6 := by omega
    have e7 : a ≠ 7 := by omega
    have e8 : a ≠ 8 := by omega
    have e9 : a ≠ 9 := by omega
    have e10 : a ≠ 10 := by omega
    funext b; simp [hM62, hM60, hM53, hM51, hM44, hM42, hM35, hM33, hM26, hM24, hM17, hM15, hM9, hM7, mm_up, mm_z, e3, e4, e5, e6, e7, e8, e9, e10]
  refine mm_V0c dX4_init_66 rfl lk_X4_33 (c := 3) rfl (by decide) rfl ⟨by decide, by decide, by decide, by decide +kernel, by decide +kernel, by decide +kernel⟩  rfl rfl rfl (c_X4_startDraft (by decide) hk) ?_
  rintro _ N66 ⟨rfl, p66⟩
  change mm_J _ _ _ _ _ _ _ _ _ _
  obtain ⟨s1, s2⟩ := p66
  rw [h5] at s2
  have hk2 : kc_rf N66 := hk.fr (fun b _ => by rw [s1 3 (by decide)])
  refine mm_aload_n dX4_init_69 rfl rfl ?_
  refine mm_V0c dX4_init_70 rfl lk_X4_36 (c := 3) rfl (by decide) rfl ⟨by decide, by decide, by decide, by decide +kernel, by decide +kernel, by decide +kernel⟩  rfl rfl rfl (c_X4_useDraft (by decide) hk2 (by rw [s2]; exact kp_D0_KV (by decide))) ?_
  rintro _ N70 ⟨rfl, p70⟩
  change mm_J _ _ _ _ _ _ _ _ _ _
  refine mm_vret dX4_init_73 rfl rfl ?_
  obtain ⟨u1, u2, u3, u4⟩ := p70
  refine ⟨rfl, ?_, hk2.fr u2, u4, ?_, ?_⟩
  · intro a ha; rw [u1 a (by omega) (by omega) (by omega), s1 a (by omega)]; exact hf a ha
  · intro b hb; rw [u3 b hb, s2]
  · rw [u1 5 (by decide) (by decide) (by omega), s2]
end

