/-! ===== a byte of the tape ===== -/
section
variable {X : mm_X} {M : mm_M} {i : Int}
theorem kb_and {v : Int} (h : -128 ≤ v ∧ v ≤ 127) : (mm_i v &&& mm_i 255).toInt = v % 256 := by
  obtain ⟨k, rfl⟩ : ∃ k : Nat, v = (k : Int) - 128 := ⟨(v + 128).toNat, by omega⟩
  have hk : k < 256 := by omega
  clear h
  revert k
  decide +kernel
theorem c_X10_byteAt (hR : mm_Rf M) (hi : mm_R i) (hl : 0 ≤ M 1 1 ∧ M 1 1 ≤ 800) (hv : ∀ k : Nat, k < 800 → -128 ≤ M 2 k ∧ M 2 k ≤ 127) :
    mm_Fn X Y_X10_byteAt 243 [(2, 2), (0, i)] M (0, if 0 ≤ i ∧ i < M 1 1 then M 2 i.toNat % 256 else -1) M := by
  refine mm_startF (ls := [(2, 2), (0, i)]) rfl ?_
  refine mm_iload_n dX10_byteAt_0 rfl rfl ?_
  refine mm_iflt dX10_byteAt_1 (by omega) (fun h1 => ?_) (fun h1 => ?_)
  · refine mm_iconst dX10_byteAt_25 rfl ?_
    refine mm_iret dX10_byteAt_26 rfl rfl ?_
    refine mm_fin ?_ rfl
    first
    | (rw [if_pos (by omega)]; exact kb_and (hv _ (by omega)))
    | (rw [if_neg (by omega)]; done)
  · refine mm_iload_n dX10_byteAt_4 rfl rfl ?_
    refine mm_aload_n dX10_byteAt_5 rfl rfl ?_
    refine mm_get (kd := 0) dX10_byteAt_6 rfl fl_X10_19 (c := 1) rfl (by decide) rfl rfl ?_
    refine mm_icge dX10_byteAt_9 (by omega) (by omega) (fun h9 => ?_) (fun h9 => ?_)
    · refine mm_iconst dX10_byteAt_25 rfl ?_
      refine mm_iret dX10_byteAt_26 rfl rfl ?_
      refine mm_fin ?_ rfl
      first
      | (rw [if_pos (by omega)]; exact kb_and (hv _ (by omega)))
      | (rw [if_neg (by omega)]; done)
    · refine mm_aload_n dX10_byteAt_12 rfl rfl ?_
      refine mm_getr dX10_byteAt_13 rfl fl_X10_11 (c := 1) rfl (by decide) rfl rfl (hR.at (c := 1) (i := 0) (v := 3) rfl (by decide)) ?_
      refine mm_iload_n dX10_byteAt_16 rfl rfl ?_
      refine mm_bald dX10_byteAt_17 rfl (c := 2) rfl (by decide) rfl (by omega) (by omega) ?_
      refine mm_sipush dX10_byteAt_18 rfl (by decide) ?_
      refine mm_iand dX10_byteAt_21 rfl ?_
      refine mm_goto dX10_byteAt_22 ?_
      refine mm_iret dX10_byteAt_26 rfl rfl ?_
      refine mm_fin ?_ rfl
      first
      | (rw [if_pos (by omega)]; exact kb_and (hv _ (by omega)))
      | (rw [if_neg (by omega)]; done)
end

