/-! ===== the reference: findMean ===== -/
def kw_bd (n : Nat) (S C : Int) : Prop := 0 ≤ C ∧ C ≤ n ∧ (0 < C → -3340800000 ≤ S ∧ S ≤ 3340800000)
section
variable {X : mm_X} {M : mm_M} {n : Nat}
/-- what findMean leaves -/
def kw_F (M N : mm_M) : Prop := mm_Rf N ∧ (∀ a, a ≠ 183 → N a = M a) ∧ ∀ b, b ≠ 39 → b ≠ 40 → N 183 b = M 183 b
theorem c_X13_findMean (hR : mm_Rf M) (hn : ks_n (mm_rk M) = (n : Int)) (hn1 : 1 ≤ n) (hn2 : n ≤ 288) {e : Nat → Nat → Int → Prop} (hN : ∀ u v w, e u v w → u < n ∧ v < n) (hB : ∀ u v w, e u v w → -5800000 ≤ w ∧ w ≤ 5800000)
    (hV : ∀ k, k ≤ n → ∀ v, v < n → kw_V e k v (M 207 (288 * k + v))) :
    mm_C X Y_X13_findMean 243 243 [(2, 184)] M (fun r M' => kw_F M M' ∧ kw_bd n (M' 183 39) (M' 183 40) ∧ ((r = (0, 0) ∧ M' 183 40 = 0 ∧ ¬ ∃ p g m, gL e p g m) ∨ (r = (0, 1) ∧ kw_mean e (M' 183 39) (M' 183 40)))) := by
  obtain ⟨Φ, hΦ⟩ : ∃ Φ : mm_V → mm_M → Prop, Φ = (fun r M' => kw_F M M' ∧ kw_bd n (M' 183 39) (M' 183 40) ∧ ((r = (0, 0) ∧ M' 183 40 = 0 ∧ ¬ ∃ p g m, gL e p g m) ∨ (r = (0, 1) ∧ kw_mean e (M' 183 39) (M' 183 40)))) := ⟨_, rfl⟩
  rw [← hΦ]
  obtain ⟨V, hVd⟩ : ∃ V : Nat → Nat → Int, V = fun k s => M 207 (288 * k + s) := ⟨_, rfl⟩
  have hVe : ∀ k s, M 207 (288 * k + s) = V k s := fun k s => by rw [hVd]
  have hVb : ∀ k, k ≤ n → ∀ s, s < n → V k s = -4000000000000000000 ∨ (-1670400000 ≤ V k s ∧ V k s ≤ 1670400000) := by
    intro k hk s hs
    have := (hV k hk s hs).b hB
    rw [hVe] at this
    omega
  -- the parts of a state
  have inner : ∀ s : Nat, s < n → ∀ N : mm_M, kw_F M N → V n s ≠ -4000000000000000000 →
      (∀ S C, kw_N (V n s) (fun k => V k s) n n S C → kw_bd n S C → mm_J X Y_X13_findMean 243 243 243 131 [(2, 184), (0, (n : Int)), (0, (s : Int)), (9, 0), (9, 0), (1, S), (9, 0), (1, C), (9, 0), (9, 0), (9, 0), (9, 0)] [] N Φ) →
      ∀ k : Nat, k ≤ n → ∀ S C, kw_N (V n s) (fun k => V k s) n k S C → kw_bd n S C →
      mm_J X Y_X13_findMean 243 243 243 50 [(2, 184), (0, (n : Int)), (0, (s : Int)), (1, V n s), (9, 0), (1, S), (9, 0), (1, C), (9, 0), (0, (k : Int)), (9, 0), (9, 0)] [] N Φ := by
    intro s hs N hF hA out
    obtain ⟨hRN, f1, f2⟩ := id hF
    have e207 : N 207 = M 207 := f1 207 (by decide)
    have hAb := hVb n (Nat.le_refl n) s hs
    refine mm_lp ?_
    intro k hk ih S C hNN hbd
    obtain ⟨b1, b2, b3⟩ := id hbd
    by_cases hlt : k < n
    · have hpb := hVb k hk s hs
      by_cases hp : V k s = -4000000000000000000
      · have go := ih hlt S C (hNN.no hp) hbd
        rw [show ((k + 1 : Nat) : Int) = (k : Int) + 1 by omega] at go
        refine mm_iload dX13_findMean_50 rfl rfl ?_
        refine mm_iload_n dX13_findMean_52 rfl rfl ?_
        refine mm_icge dX13_findMean_53 (by omega) (by omega) (fun h53 => ?_) (fun h53 => ?_)
        · exfalso; omega
        · refine mm_aload_n dX13_findMean_56 rfl rfl ?_
          refine mm_getr dX13_findMean_57 rfl fl_X13_268 (c := 183) rfl (by decide) rfl rfl (hRN.at (c := 183) (i := 38) (v := 208) rfl (by decide)) ?_
          refine mm_sipush dX13_findMean_60 rfl (by decide) ?_
          refine mm_iload dX13_findMean_63 rfl rfl ?_
          refine mm_imul dX13_findMean_65 rfl ?_
          refine mm_iload_n dX13_findMean_66 rfl rfl ?_
          refine mm_iadd dX13_findMean_67 rfl ?_
          refine mm_lalk (k0 := 288 * k + s) dX13_findMean_68 rfl (c := 207) rfl (by decide) rfl (by omega) (by omega) ?_
          rw [e207, hVe]
          refine mm_lstore dX13_findMean_69 rfl (Nat.le_of_ble_eq_true rfl) rfl ?_
          refine mm_lload dX13_findMean_71 rfl rfl ?_
          refine mm_ldc2 dX13_findMean_73 rfl kc_X13_521 ?_
          refine mm_lcmp dX13_findMean_76 rfl (by omega) (by omega) ?_
          refine mm_ifgtc dX13_findMean_77 (fun h77 => ?_) (fun h77 => ?_)
          · exfalso; omega
          · refine mm_goto dX13_findMean_80 ?_
            refine mm_iinc dX13_findMean_125 rfl rfl (Nat.le_of_ble_eq_true rfl) rfl ?_
            refine mm_goto dX13_findMean_128 ?_
            exact mm_drop (ls' := [(2, 184), (0, (n : Int)), (0, (s : Int)), (1, V n s), (9, 0), (1, S), (9, 0), (1, C), (9, 0), (0, (k : Int) + 1), (9, 0), (9, 0)]) (by simp [mm_dr]) go
      · have new : (C ≤ 0 ∨ (V n s - V k s) * C < S * ((n : Int) - k)) → mm_J X Y_X13_findMean 243 243 243 50 [(2, 184), (0, (n : Int)), (0, (s : Int)), (1, V n s), (9, 0), (1, V n s - V k s), (9, 0), (1, (n : Int) - k), (9, 0), (0, (k : Int) + 1), (9, 0), (9, 0)] [] N Φ := by
          intro q
          have go := ih hlt _ _ (hNN.new hlt hp q) ⟨by omega, by omega, fun _ => by omega⟩
          rw [show ((k + 1 : Nat) : Int) = (k : Int) + 1 by omega] at go
          exact go
        have old : 0 < C → S * ((n : Int) - k) ≤ (V n s - V k s) * C → mm_J X Y_X13_findMean 243 243 243 50 [(2, 184), (0, (n : Int)), (0, (s : Int)), (1, V n s), (9, 0), (1, S), (9, 0), (1, C), (9, 0), (0, (k : Int) + 1), (9, 0), (9, 0)] [] N Φ := by
          intro q1 q2
          have go := ih hlt _ _ (hNN.old q1 q2) hbd
          rw [show ((k + 1 : Nat) : Int) = (k : Int) + 1 by omega] at go
          exact go
        have m1 := mm_mulB (a := V n s - V k s) (b := C) (A := 3340800000) (B := 288) (by omega) (by omega) b1 (by omega)
        have m2 : 0 < C → -(3340800000 * 288) ≤ S * ((n : Int) - k) ∧ S * ((n : Int) - k) ≤ 3340800000 * 288 := fun q => mm_mulB (a := S) (b := (n : Int) - k) (A := 3340800000) (B := 288) (b3 q).1 (b3 q).2 (by omega) (by omega)
        refine mm_iload dX13_findMean_50 rfl rfl ?_
        refine mm_iload_n dX13_findMean_52 rfl rfl ?_
        refine mm_icge dX13_findMean_53 (by omega) (by omega) (fun h53 => ?_) (fun h53 => ?_)
        · exfalso; omega
        · refine mm_aload_n dX13_findMean_56 rfl rfl ?_
          refine mm_getr dX13_findMean_57 rfl fl_X13_268 (c := 183) rfl (by decide) rfl rfl (hRN.at (c := 183) (i := 38) (v := 208) rfl (by decide)) ?_
          refine mm_sipush dX13_findMean_60 rfl (by decide) ?_
          refine mm_iload dX13_findMean_63 rfl rfl ?_
          refine mm_imul dX13_findMean_65 rfl ?_
          refine mm_iload_n dX13_findMean_66 rfl rfl ?_
          refine mm_iadd dX13_findMean_67 rfl ?_
          refine mm_lalk (k0 := 288 * k + s) dX13_findMean_68 rfl (c := 207) rfl (by decide) rfl (by omega) (by omega) ?_
          rw [e207, hVe]
          refine mm_lstore dX13_findMean_69 rfl (Nat.le_of_ble_eq_true rfl) rfl ?_
          refine mm_lload dX13_findMean_71 rfl rfl ?_
          refine mm_ldc2 dX13_findMean_73 rfl kc_X13_521 ?_
          refine mm_lcmp dX13_findMean_76 rfl (by omega) (by omega) ?_
          refine mm_ifgtc dX13_findMean_77 (fun h77 => ?_) (fun h77 => ?_)
          · refine mm_lload dX13_findMean_83 rfl rfl ?_
            refine mm_lconst0 dX13_findMean_85 rfl ?_
            refine mm_lcmp dX13_findMean_86 rfl (by omega) (by omega) ?_
            refine mm_iflec dX13_findMean_87 (fun h87 => ?_) (fun h87 => ?_)
            · refine mm_lload_n dX13_findMean_112 rfl rfl ?_
              refine mm_lload dX13_findMean_113 rfl rfl ?_
              refine mm_lsub dX13_findMean_115 rfl ?_
              refine mm_lstore dX13_findMean_116 rfl (Nat.le_of_ble_eq_true rfl) rfl ?_
              refine mm_iload_n dX13_findMean_118 rfl rfl ?_
              refine mm_iload dX13_findMean_119 rfl rfl ?_
              refine mm_isub dX13_findMean_121 rfl ?_
              refine mm_i2l dX13_findMean_122 rfl (by omega) ?_
              refine mm_lstore dX13_findMean_123 rfl (Nat.le_of_ble_eq_true rfl) rfl ?_
              refine mm_iinc dX13_findMean_125 rfl rfl (Nat.le_of_ble_eq_true rfl) rfl ?_
              refine mm_goto dX13_findMean_128 ?_
              first
              | exact mm_drop (ls' := [(2, 184), (0, (n : Int)), (0, (s : Int)), (1, V n s), (9, 0), (1, S), (9, 0), (1, C), (9, 0), (0, (k : Int) + 1), (9, 0), (9, 0)]) (by simp [mm_dr]) (old (by omega) (by omega))
              | exact mm_drop (ls' := [(2, 184), (0, (n : Int)), (0, (s : Int)), (1, V n s), (9, 0), (1, V n s - V k s), (9, 0), (1, (n : Int) - k), (9, 0), (0, (k : Int) + 1), (9, 0), (9, 0)]) (by simp [mm_dr]) (new (Or.inr (by omega)))
              | exact mm_drop (ls' := [(2, 184), (0, (n : Int)), (0, (s : Int)), (1, V n s), (9, 0), (1, V n s - V k s), (9, 0), (1, (n : Int) - k), (9, 0), (0, (k : Int) + 1), (9, 0), (9, 0)]) (by simp [mm_dr]) (new (Or.inl (by omega)))
            · refine mm_lload_n dX13_findMean_90 rfl rfl ?_
              refine mm_lload dX13_findMean_91 rfl rfl ?_
              refine mm_lsub dX13_findMean_93 rfl ?_
              refine mm_lload dX13_findMean_94 rfl rfl ?_
              refine mm_lmul dX13_findMean_96 rfl ?_
              refine mm_lload dX13_findMean_97 rfl rfl ?_
              refine mm_iload_n dX13_findMean_99 rfl rfl ?_
              refine mm_iload dX13_findMean_100 rfl rfl ?_
              refine mm_isub dX13_findMean_102 rfl ?_
              refine mm_i2l dX13_findMean_103 rfl (by omega) ?_
              refine mm_lmul dX13_findMean_104 rfl ?_
              have m3 := m2 (by omega)
              refine mm_lcmp dX13_findMean_105 rfl (by omega) (by omega) ?_
              refine mm_ifltc dX13_findMean_106 (fun h106 => ?_) (fun h106 => ?_)
              · refine mm_lload_n dX13_findMean_112 rfl rfl ?_
                refine mm_lload dX13_findMean_113 rfl rfl ?_
                refine mm_lsub dX13_findMean_115 rfl ?_
                refine mm_lstore dX13_findMean_116 rfl (Nat.le_of_ble_eq_true rfl) rfl ?_
                refine mm_iload_n dX13_findMean_118 rfl rfl ?_
                refine mm_iload dX13_findMean_119 rfl rfl ?_
                refine mm_isub dX13_findMean_121 rfl ?_
                refine mm_i2l dX13_findMean_122 rfl (by omega) ?_
                refine mm_lstore dX13_findMean_123 rfl (Nat.le_of_ble_eq_true rfl) rfl ?_
                refine mm_iinc dX13_findMean_125 rfl rfl (Nat.le_of_ble_eq_true rfl) rfl ?_
                refine mm_goto dX13_findMean_128 ?_
                first
                | exact mm_drop (ls' := [(2, 184), (0, (n : Int)), (0, (s : Int)), (1, V n s), (9, 0), (1, S), (9, 0), (1, C), (9, 0), (0, (k : Int) + 1), (9, 0), (9, 0)]) (by simp [mm_dr]) (old (by omega) (by omega))
                | exact mm_drop (ls' := [(2, 184), (0, (n : Int)), (0, (s : Int)), (1, V n s), (9, 0), (1, V n s - V k s), (9, 0), (1, (n : Int) - k), (9, 0), (0, (k : Int) + 1), (9, 0), (9, 0)]) (by simp [mm_dr]) (new (Or.inr (by omega)))
                | exact mm_drop (ls' := [(2, 184), (0, (n : Int)), (0, (s : Int)), (1, V n s), (9, 0), (1, V n s - V k s), (9, 0), (1, (n : Int) - k), (9, 0), (0, (k : Int) + 1), (9, 0), (9, 0)]) (by simp [mm_dr]) (new (Or.inl (by omega)))
              · refine mm_goto dX13_findMean_109 ?_
                refine mm_iinc dX13_findMean_125 rfl rfl (Nat.le_of_ble_eq_true rfl) rfl ?_
                refine mm_goto dX13_findMean_128 ?_
                first
                | exact mm_drop (ls' := [(2, 184), (0, (n : Int)), (0, (s : Int)), (1, V n s), (9, 0), (1, S), (9, 0), (1, C), (9, 0), (0, (k : Int) + 1), (9, 0), (9, 0)]) (by simp [mm_dr]) (old (by omega) (by omega))
                | exact mm_drop (ls' := [(2, 184), (0, (n : Int)), (0, (s : Int)), (1, V n s), (9, 0), (1, V n s - V k s), (9, 0), (1, (n : Int) - k), (9, 0), (0, (k : Int) + 1), (9, 0), (9, 0)]) (by simp [mm_dr]) (new (Or.inr (by omega)))
                | exact mm_drop (ls' := [(2, 184), (0, (n : Int)), (0, (s : Int)), (1, V n s), (9, 0), (1, V n s - V k s), (9, 0), (1, (n : Int) - k), (9, 0), (0, (k : Int) + 1), (9, 0), (9, 0)]) (by simp [mm_dr]) (new (Or.inl (by omega)))
          · exfalso; omega
    · have ek : k = n := by omega
      subst ek
      have go := out S C hNN hbd
      refine mm_iload dX13_findMean_50 rfl rfl ?_
      refine mm_iload_n dX13_findMean_52 rfl rfl ?_
      refine mm_icge dX13_findMean_53 (by omega) (by omega) (fun h53 => ?_) (fun h53 => ?_)
      · exact mm_drop (ls' := [(2, 184), (0, (k : Int)), (0, (s : Int)), (9, 0), (9, 0), (1, S), (9, 0), (1, C), (9, 0), (9, 0), (9, 0), (9, 0)]) (by simp [mm_dr]) go
      · exfalso; omega
  have outer : ∀ s : Nat, s ≤ n → ∀ N : mm_M, kw_F M N → kw_bd n (N 183 39) (N 183 40) → kw_O V n s (N 183 39) (N 183 40) →
      mm_J X Y_X13_findMean 243 243 243 12 [(2, 184), (0, (n : Int)), (0, (s : Int)), (9, 0), (9, 0), (9, 0), (9, 0), (9, 0), (9, 0), (9, 0), (9, 0), (9, 0)] [] N Φ := by
    refine mm_lp ?_
    intro s hs ih N hF hbd hO
    obtain ⟨hRN, f1, f2⟩ := id hF
    have e207 : N 207 = M 207 := f1 207 (by decide)
    by_cases hlt : s < n
    · have hAb := hVb n (Nat.le_refl n) s hlt
      by_cases hA : V n s = -4000000000000000000
      · have go := ih hlt N hF hbd (hO.no hA)
        rw [show ((s + 1 : Nat) : Int) = (s : Int) + 1 by omega] at go
        refine mm_iload_n dX13_findMean_12 rfl rfl ?_
        refine mm_iload_n dX13_findMean_13 rfl rfl ?_
        refine mm_icge dX13_findMean_14 (by omega) (by omega) (fun h14 => ?_) (fun h14 => ?_)
        · exfalso; omega
        · refine mm_aload_n dX13_findMean_17 rfl rfl ?_
          refine mm_getr dX13_findMean_18 rfl fl_X13_268 (c := 183) rfl (by decide) rfl rfl (hRN.at (c := 183) (i := 38) (v := 208) rfl (by decide)) ?_
          refine mm_sipush dX13_findMean_21 rfl (by decide) ?_
          refine mm_iload_n dX13_findMean_24 rfl rfl ?_
          refine mm_imul dX13_findMean_25 rfl ?_
          refine mm_iload_n dX13_findMean_26 rfl rfl ?_
          refine mm_iadd dX13_findMean_27 rfl ?_
          refine mm_lalk (k0 := 288 * n + s) dX13_findMean_28 rfl (c := 207) rfl (by decide) rfl (by omega) (by omega) ?_
          rw [e207, hVe]
          refine mm_lstore_n dX13_findMean_29 rfl (Nat.le_of_ble_eq_true rfl) rfl ?_
          refine mm_lload_n dX13_findMean_30 rfl rfl ?_
          refine mm_ldc2 dX13_findMean_31 rfl kc_X13_521 ?_
          refine mm_lcmp dX13_findMean_34 rfl (by omega) (by omega) ?_
          refine mm_ifgtc dX13_findMean_35 (fun h35 => ?_) (fun h35 => ?_)
          · exfalso; omega
          · refine mm_goto dX13_findMean_38 ?_
            refine mm_iinc dX13_findMean_173 rfl rfl (Nat.le_of_ble_eq_true rfl) rfl ?_
            refine mm_goto dX13_findMean_176 ?_
            exact mm_drop (ls' := [(2, 184), (0, (n : Int)), (0, (s : Int) + 1), (9, 0), (9, 0), (9, 0), (9, 0), (9, 0), (9, 0), (9, 0), (9, 0), (9, 0)]) (by repeat (first | exact trivial | refine And.intro (Or.inl rfl) ?_ | refine And.intro (Or.inr rfl) ?_)) go
      · obtain ⟨c1, c2, c3⟩ := id hbd
        have out : ∀ S C, kw_N (V n s) (fun k => V k s) n n S C → kw_bd n S C → mm_J X Y_X13_findMean 243 243 243 131 [(2, 184), (0, (n : Int)), (0, (s : Int)), (9, 0), (9, 0), (1, S), (9, 0), (1, C), (9, 0), (9, 0), (9, 0), (9, 0)] [] N Φ := by
          intro S C hNN hb2
          obtain ⟨b1, b2, b3⟩ := id hb2
          have hC : 1 ≤ C := by
            rcases hNN with ⟨-, q⟩ | ⟨q, -⟩
            · exfalso
              have q0 := q 0 (by omega)
              have := hV 0 (Nat.zero_le _) s hlt
              rw [hVe] at this
              rcases this with ⟨-, z⟩ | ⟨-, z⟩
              · exact z (fun _ => s) (fun _ => 0) (fun j hj => absurd hj (by omega)) rfl
              · have := z (fun _ => s) (fun _ => 0) (fun j hj => absurd hj (by omega)) rfl
                have q0' : V 0 s = -4000000000000000000 := q0
                have : (0 : Int) ≤ V 0 s := this
                omega
            · exact q
          have b3 := b3 (by omega)
          have m1 := mm_mulB (a := S) (b := N 183 40) (A := 3340800000) (B := 288) b3.1 b3.2 c1 (by omega)
          have m2 : 0 < N 183 40 → -(3340800000 * 288) ≤ N 183 39 * C ∧ N 183 39 * C ≤ 3340800000 * 288 := fun q => mm_mulB (a := N 183 39) (b := C) (A := 3340800000) (B := 288) (c3 q).1 (c3 q).2 (by omega) (by omega)
          have old : 0 < N 183 40 → S * N 183 40 ≤ N 183 39 * C → mm_J X Y_X13_findMean 243 243 243 12 [(2, 184), (0, (n : Int)), (0, (s : Int) + 1), (9, 0), (9, 0), (9, 0), (9, 0), (9, 0), (9, 0), (9, 0), (9, 0), (9, 0)] [] N Φ := by
            intro q1 q2
            have go := ih hlt N hF hbd (hO.old q1 hNN hC q2)
            rw [show ((s + 1 : Nat) : Int) = (s : Int) + 1 by omega] at go
            exact go
          have new : (N 183 40 ≤ 0 ∨ N 183 39 * C < S * N 183 40) → ∀ P : mm_M, P = mm_up (mm_up N 183 39 S) 183 40 C → mm_Rf P → mm_J X Y_X13_findMean 243 243 243 12 [(2, 184), (0, (n : Int)), (0, (s : Int) + 1), (9, 0), (9, 0), (9, 0), (9, 0), (9, 0), (9, 0), (9, 0), (9, 0), (9, 0)] [] P Φ := by
            intro q P hP hRP
            have p39 : P 183 39 = S := by rw [hP, mm_up_i (by decide), mm_up_s]
            have p40 : P 183 40 = C := by rw [hP, mm_up_s]
            have go := ih hlt P ⟨hRP, fun a ha => by rw [hP, mm_up_row ha, mm_up_row ha]; exact f1 a ha, fun b h1 h2 => by rw [hP, mm_up_i (fun q => h2 q), mm_up_i (fun q => h1 q)]; exact f2 b h1 h2⟩ (by rw [p39, p40]; exact hb2) (by rw [p39, p40]; exact hO.new hA hNN hC q)
            rw [show ((s + 1 : Nat) : Int) = (s : Int) + 1 by omega] at go
            exact go
          refine mm_aload_n dX13_findMean_131 rfl rfl ?_
          refine mm_get (kd := 1) dX13_findMean_132 rfl fl_X13_526 (c := 183) rfl (by decide) rfl rfl ?_
          refine mm_lconst0 dX13_findMean_135 rfl ?_
          refine mm_lcmp dX13_findMean_136 rfl (by omega) (by omega) ?_
          refine mm_iflec dX13_findMean_137 (fun h137 => ?_) (fun h137 => ?_)
          · refine mm_aload_n dX13_findMean_161 rfl rfl ?_
            refine mm_lload dX13_findMean_162 rfl rfl ?_
            refine mm_putl dX13_findMean_164 rfl fl_X13_530 (c := 183) rfl (by decide) rfl rfl (fun M164 hM164 => ?_)
            have hR164 : mm_Rf M164 := by rw [hM164]; exact hRN.up rfl
            refine mm_aload_n dX13_findMean_167 rfl rfl ?_
            refine mm_lload dX13_findMean_168 rfl rfl ?_
            refine mm_putl dX13_findMean_170 rfl fl_X13_526 (c := 183) rfl (by decide) rfl rfl (fun M170 hM170 => ?_)
            have hR170 : mm_Rf M170 := by rw [hM170]; exact hR164.up rfl
            refine mm_iinc dX13_findMean_173 rfl rfl (Nat.le_of_ble_eq_true rfl) rfl ?_
            refine mm_goto dX13_findMean_176 ?_
            first
            | exact mm_drop (ls' := [(2, 184), (0, (n : Int)), (0, (s : Int) + 1), (9, 0), (9, 0), (9, 0), (9, 0), (9, 0), (9, 0), (9, 0), (9, 0), (9, 0)]) (by simp [mm_dr]) (old (by omega) (by omega))
            | exact mm_drop (ls' := [(2, 184), (0, (n : Int)), (0, (s : Int) + 1), (9, 0), (9, 0), (9, 0), (9, 0), (9, 0), (9, 0), (9, 0), (9, 0), (9, 0)]) (by simp [mm_dr]) (new (Or.inr (by omega)) _ (by rw [hM170, hM164]) hR170)
            | exact mm_drop (ls' := [(2, 184), (0, (n : Int)), (0, (s : Int) + 1), (9, 0), (9, 0), (9, 0), (9, 0), (9, 0), (9, 0), (9, 0), (9, 0), (9, 0)]) (by simp [mm_dr]) (new (Or.inl (by omega)) _ (by rw [hM170, hM164]) hR170)
          · refine mm_lload dX13_findMean_140 rfl rfl ?_
            refine mm_aload_n dX13_findMean_142 rfl rfl ?_
            refine mm_get (kd := 1) dX13_findMean_143 rfl fl_X13_526 (c := 183) rfl (by decide) rfl rfl ?_
            refine mm_lmul dX13_findMean_146 rfl ?_
            refine mm_aload_n dX13_findMean_147 rfl rfl ?_
            refine mm_get (kd := 1) dX13_findMean_148 rfl fl_X13_530 (c := 183) rfl (by decide) rfl rfl ?_
            refine mm_lload dX13_findMean_151 rfl rfl ?_
            refine mm_lmul dX13_findMean_153 rfl ?_
            have m3 := m2 (by omega)
            refine mm_lcmp dX13_findMean_154 rfl (by omega) (by omega) ?_
            refine mm_ifgtc dX13_findMean_155 (fun h155 => ?_) (fun h155 => ?_)
            · refine mm_aload_n dX13_findMean_161 rfl rfl ?_
              refine mm_lload dX13_findMean_162 rfl rfl ?_
              refine mm_putl dX13_findMean_164 rfl fl_X13_530 (c := 183) rfl (by decide) rfl rfl (fun M164 hM164 => ?_)
              have hR164 : mm_Rf M164 := by rw [hM164]; exact hRN.up rfl
              refine mm_aload_n dX13_findMean_167 rfl rfl ?_
              refine mm_lload dX13_findMean_168 rfl rfl ?_
              refine mm_putl dX13_findMean_170 rfl fl_X13_526 (c := 183) rfl (by decide) rfl rfl (fun M170 hM170 => ?_)
              have hR170 : mm_Rf M170 := by rw [hM170]; exact hR164.up rfl
              refine mm_iinc dX13_findMean_173 rfl rfl (Nat.le_of_ble_eq_true rfl) rfl ?_
              refine mm_goto dX13_findMean_176 ?_
              first
              | exact mm_drop (ls' := [(2, 184), (0, (n : Int)), (0, (s : Int) + 1), (9, 0), (9, 0), (9, 0), (9, 0), (9, 0), (9, 0), (9, 0), (9, 0), (9, 0)]) (by simp [mm_dr]) (old (by omega) (by omega))
              | exact mm_drop (ls' := [(2, 184), (0, (n : Int)), (0, (s : Int) + 1), (9, 0), (9, 0), (9, 0), (9, 0), (9, 0), (9, 0), (9, 0), (9, 0), (9, 0)]) (by simp [mm_dr]) (new (Or.inr (by omega)) _ (by rw [hM170, hM164]) hR170)
              | exact mm_drop (ls' := [(2, 184), (0, (n : Int)), (0, (s : Int) + 1), (9, 0), (9, 0), (9, 0), (9, 0), (9, 0), (9, 0), (9, 0), (9, 0), (9, 0)]) (by simp [mm_dr]) (new (Or.inl (by omega)) _ (by rw [hM170, hM164]) hR170)
            · refine mm_goto dX13_findMean_158 ?_
              refine mm_iinc dX13_findMean_173 rfl rfl (Nat.le_of_ble_eq_true rfl) rfl ?_
              refine mm_goto dX13_findMean_176 ?_
              first
              | exact mm_drop (ls' := [(2, 184), (0, (n : Int)), (0, (s : Int) + 1), (9, 0), (9, 0), (9, 0), (9, 0), (9, 0), (9, 0), (9, 0), (9, 0), (9, 0)]) (by simp [mm_dr]) (old (by omega) (by omega))
              | exact mm_drop (ls' := [(2, 184), (0, (n : Int)), (0, (s : Int) + 1), (9, 0), (9, 0), (9, 0), (9, 0), (9, 0), (9, 0), (9, 0), (9, 0), (9, 0)]) (by simp [mm_dr]) (new (Or.inr (by omega)) _ (by rw [hM170, hM164]) hRN)
              | exact mm_drop (ls' := [(2, 184), (0, (n : Int)), (0, (s : Int) + 1), (9, 0), (9, 0), (9, 0), (9, 0), (9, 0), (9, 0), (9, 0), (9, 0), (9, 0)]) (by simp [mm_dr]) (new (Or.inl (by omega)) _ (by rw [hM170, hM164]) hRN)
        have go := inner s hlt N hF hA out 0 (Nat.zero_le _) 0 0 (Or.inl ⟨rfl, fun k hk => absurd hk (by omega)⟩) ⟨by omega, by omega, fun q => by omega⟩
        refine mm_iload_n dX13_findMean_12 rfl rfl ?_
        refine mm_iload_n dX13_findMean_13 rfl rfl ?_
        refine mm_icge dX13_findMean_14 (by omega) (by omega) (fun h14 => ?_) (fun h14 => ?_)
        · exfalso; omega
        · refine mm_aload_n dX13_findMean_17 rfl rfl ?_
          refine mm_getr dX13_findMean_18 rfl fl_X13_268 (c := 183) rfl (by decide) rfl rfl (hRN.at (c := 183) (i := 38) (v := 208) rfl (by decide)) ?_
          refine mm_sipush dX13_findMean_21 rfl (by decide) ?_
          refine mm_iload_n dX13_findMean_24 rfl rfl ?_
          refine mm_imul dX13_findMean_25 rfl ?_
          refine mm_iload_n dX13_findMean_26 rfl rfl ?_
          refine mm_iadd dX13_findMean_27 rfl ?_
          refine mm_lalk (k0 := 288 * n + s) dX13_findMean_28 rfl (c := 207) rfl (by decide) rfl (by omega) (by omega) ?_
          rw [e207, hVe]
          refine mm_lstore_n dX13_findMean_29 rfl (Nat.le_of_ble_eq_true rfl) rfl ?_
          refine mm_lload_n dX13_findMean_30 rfl rfl ?_
          refine mm_ldc2 dX13_findMean_31 rfl kc_X13_521 ?_
          refine mm_lcmp dX13_findMean_34 rfl (by omega) (by omega) ?_
          refine mm_ifgtc dX13_findMean_35 (fun h35 => ?_) (fun h35 => ?_)
          · refine mm_lconst0 dX13_findMean_41 rfl ?_
            refine mm_lstore dX13_findMean_42 rfl (Nat.le_of_ble_eq_true rfl) rfl ?_
            refine mm_lconst0 dX13_findMean_44 rfl ?_
            refine mm_lstore dX13_findMean_45 rfl (Nat.le_of_ble_eq_true rfl) rfl ?_
            refine mm_iconst dX13_findMean_47 rfl ?_
            refine mm_istore dX13_findMean_48 rfl (Nat.le_of_ble_eq_true rfl) rfl ?_
            exact go
          · exfalso; omega
    · have es : s = n := by omega
      subst es
      have fin := kw_karp hN hB hn1 hn2 (V := V) (fun k hk v hv => by rw [← hVe]; exact hV k hk v hv) hO
      obtain ⟨c1, c2, c3⟩ := id hbd
      refine mm_iload_n dX13_findMean_12 rfl rfl ?_
      refine mm_iload_n dX13_findMean_13 rfl rfl ?_
      refine mm_icge dX13_findMean_14 (by omega) (by omega) (fun h14 => ?_) (fun h14 => ?_)
      · refine mm_aload_n dX13_findMean_179 rfl rfl ?_
        refine mm_get (kd := 1) dX13_findMean_180 rfl fl_X13_526 (c := 183) rfl (by decide) rfl rfl ?_
        refine mm_lconst0 dX13_findMean_183 rfl ?_
        refine mm_lcmp dX13_findMean_184 rfl (by omega) (by omega) ?_
        refine mm_iflec dX13_findMean_185 (fun h185 => ?_) (fun h185 => ?_)
        · refine mm_iconst dX13_findMean_192 rfl ?_
          refine mm_zret dX13_findMean_193 rfl rfl (Or.inl rfl) ?_
          rw [hΦ]
          refine ⟨hF, hbd, ?_⟩
          rcases fin with ⟨q1, q2⟩ | q
          · first
              | exact Or.inl ⟨rfl, q1, q2⟩
              | (exfalso; omega)
          · have := q.1
            first
              | exact Or.inr ⟨rfl, q⟩
              | (exfalso; omega)
        · refine mm_iconst dX13_findMean_188 rfl ?_
          refine mm_goto dX13_findMean_189 ?_
          refine mm_zret dX13_findMean_193 rfl rfl (Or.inr rfl) ?_
          rw [hΦ]
          refine ⟨hF, hbd, ?_⟩
          rcases fin with ⟨q1, q2⟩ | q
          · first
              | exact Or.inl ⟨rfl, q1, q2⟩
              | (exfalso; omega)
          · have := q.1
            first
              | exact Or.inr ⟨rfl, q⟩
              | (exfalso; omega)
      · exfalso; omega
  have cn := c_X13_states (X := X) hR
  rw [hn] at cn
  refine mm_start (ls := [(2, 184), (9, 0), (9, 0), (9, 0), (9, 0), (9, 0), (9, 0), (9, 0), (9, 0), (9, 0), (9, 0), (9, 0)]) rfl ?_
  refine mm_aload_n dX13_findMean_0 rfl rfl ?_
  refine mm_V0i dX13_findMean_1 rfl lk_X13_458 (c := 183) rfl (by decide) rfl  rfl rfl rfl (cn) ?_
  refine mm_istore_n dX13_findMean_4 rfl (Nat.le_of_ble_eq_true rfl) rfl ?_
  refine mm_aload_n dX13_findMean_5 rfl rfl ?_
  refine mm_lconst0 dX13_findMean_6 rfl ?_
  refine mm_putl dX13_findMean_7 rfl fl_X13_526 (c := 183) rfl (by decide) rfl rfl (fun M7 hM7 => ?_)
  have hR7 : mm_Rf M7 := by rw [hM7]; exact hR.up rfl
  refine mm_iconst dX13_findMean_10 rfl ?_
  refine mm_istore_n dX13_findMean_11 rfl (Nat.le_of_ble_eq_true rfl) rfl ?_
  refine outer 0 (Nat.zero_le _) _ ⟨hR7, ?_, ?_⟩ ?_ ?_
  · intro a ha; rw [hM7, mm_up_row ha]
  · intro b h1 h2; rw [hM7, mm_up_i (fun q => h2 q)]
  · rw [hM7, mm_up_s]; exact ⟨by omega, by omega, fun q => absurd q (by omega)⟩
  · rw [hM7, mm_up_s]; exact Or.inl ⟨rfl, fun s hs => absurd hs (by omega)⟩
end

