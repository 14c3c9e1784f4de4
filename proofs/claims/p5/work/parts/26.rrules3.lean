/-! B4.rrules3 -/
section
/-! ===== rules, of the reference ===== -/
/-- line l as it is told -/
def kr_T (N : mm_M) (D : Nat → Int) (l : Nat) : Prop := N 196 l = D (11 * l) ∧ (1 ≤ D (11 * l) ∧ D (11 * l) ≤ 3) ∧ (∀ i : Nat, (i : Int) < D (11 * l) → N 193 (3 * l + i) = D (11 * l + 1 + 3 * i) ∧ N 194 (3 * l + i) = D (11 * l + 1 + 3 * i + 1) ∧ N 195 (3 * l + i) = D (11 * l + 1 + 3 * i + 2)) ∧ N 197 l = D (11 * l + 10)
def kr_KQ (M M' : mm_M) (e : kp_E) (r : mm_V) : Prop := mm_Rf M' ∧ M' 183 2 = 0 ∧ (∀ a, a ≠ 183 → ¬ kr_A a → M' a = M a) ∧ (∀ b, ¬ (2 ≤ b ∧ b ≤ 9) → b ≠ 20 → b ≠ 21 → M' 183 b = M 183 b) ∧ match e with
  | .ok (c, D) => r = (0, (c : Int)) ∧ M' 183 8 = 0 ∧ M' 183 9 = -1 ∧ M' 183 20 = (c : Int) ∧ c ≤ 8 ∧ ∀ l, l < c → kr_T M' D l
  | .error (k, s) => r = (0, -1) ∧ M' 183 8 = k ∧ M' 183 9 = (s : Int) ∧ M' 183 20 = M 183 20 ∧ kr_U 0 M M'
/-- so much of what is read is taken -/
def kr_cp (U Q : mm_M) (l m : Nat) : Prop := (∀ a, a ≠ 193 → a ≠ 194 → a ≠ 195 → a ≠ 196 → a ≠ 197 → Q a = U a) ∧ (∀ b, 24 ≤ b → Q 193 b = U 193 b ∧ Q 194 b = U 194 b ∧ Q 195 b = U 195 b) ∧ (∀ b, 8 ≤ b → Q 196 b = U 196 b ∧ Q 197 b = U 197 b) ∧ (∀ b, b < l → Q 196 b = U 196 (8 + b) ∧ Q 197 b = U 197 (8 + b)) ∧ (∀ b, b < m → Q 193 b = U 193 (24 + b) ∧ Q 194 b = U 194 (24 + b) ∧ Q 195 b = U 195 (24 + b))
section
variable {X : mm_X} {M : mm_M} {n : Nat}
theorem kl_textb {B : Nat → Int} {sl : Int} : ∀ {k c p c' : Nat} {D D' : Nat → Int}, c + k ≤ 9 → kl_text B n sl k c p D = .ok (c', D') → c' ≤ 8
  | 0, c, p, c', D, D', _, h => by unfold kl_text at h; cases h
  | k + 1, c, p, c', D, D', hk, h => by
    unfold kl_text at h
    split at h
    · cases h; omega
    · split at h
      · cases h
      · exact kl_textb (by omega) h
theorem c_X13_rules {sl : Int} (hR : mm_Rf M) (hn : M 183 2 = (n : Int) ∧ n ≤ 800) (hb : ∀ k : Nat, k < 800 → -128 ≤ M 185 k ∧ M 185 k ≤ 127) (hsl : M 183 16 = sl ∧ 1 ≤ sl ∧ sl ≤ 3) (D0 : Nat → Int) :
    mm_C X Y_X13_rules 243 243 [(2, 184)] M (fun r M' => kr_KQ M M' (kl_text (M 185) n sl 9 0 0 D0) r) := by
  obtain ⟨E, hE⟩ : ∃ E, E = kl_text (M 185) n sl 9 0 0 D0 := ⟨_, rfl⟩
  have hEb : ∀ c D, E = .ok (c, D) → c ≤ 8 := fun c D h => kl_textb (k := 9) (c := 0) (Nat.le_refl _) (hE.symm.trans h)
  rw [← hE]
  refine mm_start (ls := [(2, 184), (9, 0), (9, 0)]) rfl ?_
  have bad : ∀ (N T : mm_M) (k : Int) (s : Nat), E = .error (k, s) → mm_Rf T → (∀ a, a ≠ 183 → N a = M a) → (∀ b, ¬ (2 ≤ b ∧ b ≤ 9) → N 183 b = M 183 b) → N 183 2 = 0 → kq_X kr_A kr_S N T k s → kr_U 0 N T → mm_J X Y_X13_rules 243 243 243 26 [(2, 184), (9, 0), (9, 0)] [(2, 185)] T (fun r M' => kr_KQ M M' E r) := by
    intro N T k s hEe hRT g1 g2 g3 hX hU
    obtain ⟨⟨x1, x2, x3⟩, x4, x5⟩ := hX
    refine mm_astore_n dX13_rules_26 rfl (Nat.le_of_ble_eq_true rfl) rfl ?_
    refine mm_iconst dX13_rules_27 rfl ?_
    refine mm_iret dX13_rules_28 rfl rfl ?_
    rw [hEe]
    refine ⟨hRT, ?_, ?_, ?_, rfl, x4, x5, ?_, ?_⟩
    · rw [x2 2 (by decide) (by unfold kr_S; decide)]; exact g3
    · intro a a1 a2; rw [x1 a a1 a2]; exact g1 a a1
    · intro b b1 b2 b3; rw [x2 b (by omega) b3]; exact g2 b b1
    · rw [x2 20 (by decide) (by unfold kr_S; decide)]; exact g2 20 (by decide)
    · unfold kr_U at hU ⊢
      rw [← g1 193 (by decide), ← g1 194 (by decide), ← g1 195 (by decide), ← g1 196 (by decide), ← g1 197 (by decide)]
      exact hU
  -- what is read is taken
  have take : ∀ (U : mm_M) (c : Nat) (D : Nat → Int), E = .ok (c, D) → mm_Rf U → c ≤ 8 → U 183 20 = (c : Int) → U 183 2 = 0 → U 183 8 = 0 → U 183 9 = -1 → (∀ a, a ≠ 183 → ¬ kr_A a → U a = M a) → (∀ b, ¬ (2 ≤ b ∧ b ≤ 9) → b ≠ 20 → b ≠ 21 → U 183 b = M 183 b) → (∀ l, l < c → kr_L U D l) →
      ∀ l : Nat, l ≤ c → ∀ (Q : mm_M) (l2 : mm_V), mm_Rf Q → kr_cp U Q l (3 * l) → mm_J X Y_X13_rules 243 243 243 39 [(2, 184), (0, (l : Int)), l2] [] Q (fun r M' => kr_KQ M M' E r) := by
    intro U c D hEe hRU hc8 u20 u2 u8 u9 ua ub uL
    refine mm_lp ?_
    intro l hl ih Q l2 hRQ hcp
    have q20 : Q 183 20 = (c : Int) := by rw [hcp.1 183 (by decide) (by decide) (by decide) (by decide) (by decide)]; exact u20
    by_cases hlt : l < c
    · have inner : ∀ k : Nat, k ≤ 3 → ∀ Q : mm_M, mm_Rf Q → kr_cp U Q (l + 1) (3 * l + k) → mm_J X Y_X13_rules 243 243 243 79 [(2, 184), (0, (l : Int)), (0, (k : Int))] [] Q (fun r M' => kr_KQ M M' E r) := by
        refine mm_lp ?_
        intro k hk ihk Q hRQ hcp
        by_cases hkl : k < 3
        · obtain ⟨c1, c2, c3, c4, c5⟩ := hcp
          have b24 := c2 (24 + 3 * l + k) (by omega)
          refine mm_iload_n dX13_rules_79 rfl rfl ?_
          refine mm_iconst dX13_rules_80 rfl ?_
          refine mm_icge dX13_rules_81 (by omega) (by omega) (fun h81 => ?_) (fun h81 => ?_)
          · exfalso; omega
          · refine mm_aload_n dX13_rules_84 rfl rfl ?_
            refine mm_getr dX13_rules_85 rfl fl_X13_185 (c := 183) rfl (by decide) rfl rfl (hRQ.at (c := 183) (i := 22) (v := 194) rfl (by decide)) ?_
            refine mm_iconst dX13_rules_88 rfl ?_
            refine mm_iload_n dX13_rules_89 rfl rfl ?_
            refine mm_imul dX13_rules_90 rfl ?_
            refine mm_iload_n dX13_rules_91 rfl rfl ?_
            refine mm_iadd dX13_rules_92 rfl ?_
            refine mm_aload_n dX13_rules_93 rfl rfl ?_
            refine mm_getr dX13_rules_94 rfl fl_X13_185 (c := 183) rfl (by decide) rfl rfl (hRQ.at (c := 183) (i := 22) (v := 194) rfl (by decide)) ?_
            refine mm_iconst dX13_rules_97 rfl ?_
            refine mm_bipush dX13_rules_98 rfl (by decide) ?_
            refine mm_iload_n dX13_rules_100 rfl rfl ?_
            refine mm_iadd dX13_rules_101 rfl ?_
            refine mm_imul dX13_rules_102 rfl ?_
            refine mm_iload_n dX13_rules_103 rfl rfl ?_
            refine mm_iadd dX13_rules_104 rfl ?_
            refine mm_ialk (k0 := (24 + 3 * l + k)) dX13_rules_105 rfl (c := 193) rfl (by decide) rfl (by omega) (by omega) ?_
            refine mm_istk (k0 := (3 * l + k)) dX13_rules_106 rfl (c := 193) rfl (by decide) rfl (by omega) (by omega) (fun M106 hM106 => ?_)
            have hR106 : mm_Rf M106 := by rw [hM106]; exact hRQ.up (mm_rt_ar (t := 0) rfl (by decide))
            refine mm_aload_n dX13_rules_107 rfl rfl ?_
            refine mm_getr dX13_rules_108 rfl fl_X13_188 (c := 183) rfl (by decide) rfl rfl (hR106.at (c := 183) (i := 23) (v := 195) rfl (by decide)) ?_
            refine mm_iconst dX13_rules_111 rfl ?_
            refine mm_iload_n dX13_rules_112 rfl rfl ?_
            refine mm_imul dX13_rules_113 rfl ?_
            refine mm_iload_n dX13_rules_114 rfl rfl ?_
            refine mm_iadd dX13_rules_115 rfl ?_
            refine mm_aload_n dX13_rules_116 rfl rfl ?_
            refine mm_getr dX13_rules_117 rfl fl_X13_188 (c := 183) rfl (by decide) rfl rfl (hR106.at (c := 183) (i := 23) (v := 195) rfl (by decide)) ?_
            refine mm_iconst dX13_rules_120 rfl ?_
            refine mm_bipush dX13_rules_121 rfl (by decide) ?_
            refine mm_iload_n dX13_rules_123 rfl rfl ?_
            refine mm_iadd dX13_rules_124 rfl ?_
            refine mm_imul dX13_rules_125 rfl ?_
            refine mm_iload_n dX13_rules_126 rfl rfl ?_
            refine mm_iadd dX13_rules_127 rfl ?_
            refine mm_ialk (k0 := (24 + 3 * l + k)) dX13_rules_128 rfl (c := 194) rfl (by decide) rfl (by omega) (by omega) ?_
            rw [show M106 194 = Q 194 from by rw [hM106, mm_up_row (by decide)]]
            refine mm_istk (k0 := (3 * l + k)) dX13_rules_129 rfl (c := 194) rfl (by decide) rfl (by omega) (by omega) (fun M129 hM129 => ?_)
            have hR129 : mm_Rf M129 := by rw [hM129]; exact hR106.up (mm_rt_ar (t := 0) rfl (by decide))
            refine mm_aload_n dX13_rules_130 rfl rfl ?_
            refine mm_getr dX13_rules_131 rfl fl_X13_191 (c := 183) rfl (by decide) rfl rfl (hR129.at (c := 183) (i := 24) (v := 196) rfl (by decide)) ?_
            refine mm_iconst dX13_rules_134 rfl ?_
            refine mm_iload_n dX13_rules_135 rfl rfl ?_
            refine mm_imul dX13_rules_136 rfl ?_
            refine mm_iload_n dX13_rules_137 rfl rfl ?_
            refine mm_iadd dX13_rules_138 rfl ?_
            refine mm_aload_n dX13_rules_139 rfl rfl ?_
            refine mm_getr dX13_rules_140 rfl fl_X13_191 (c := 183) rfl (by decide) rfl rfl (hR129.at (c := 183) (i := 24) (v := 196) rfl (by decide)) ?_
            refine mm_iconst dX13_rules_143 rfl ?_
            refine mm_bipush dX13_rules_144 rfl (by decide) ?_
            refine mm_iload_n dX13_rules_146 rfl rfl ?_
            refine mm_iadd dX13_rules_147 rfl ?_
            refine mm_imul dX13_rules_148 rfl ?_
            refine mm_iload_n dX13_rules_149 rfl rfl ?_
            refine mm_iadd dX13_rules_150 rfl ?_
            refine mm_ialk (k0 := (24 + 3 * l + k)) dX13_rules_151 rfl (c := 195) rfl (by decide) rfl (by omega) (by omega) ?_
            rw [show M129 195 = Q 195 from by rw [hM129, mm_up_row (by decide), hM106, mm_up_row (by decide)]]
            refine mm_istk (k0 := (3 * l + k)) dX13_rules_152 rfl (c := 195) rfl (by decide) rfl (by omega) (by omega) (fun M152 hM152 => ?_)
            have hR152 : mm_Rf M152 := by rw [hM152]; exact hR129.up (mm_rt_ar (t := 0) rfl (by decide))
            refine mm_iinc dX13_rules_153 rfl rfl (Nat.le_of_ble_eq_true rfl) rfl ?_
            refine mm_goto dX13_rules_156 ?_
            refine ihk hkl _ hR152 ⟨?_, ?_, ?_, ?_, ?_⟩
            · intro a a1 a2 a3 a4 a5; rw [hM152, mm_up_row a3, hM129, mm_up_row a2, hM106, mm_up_row a1]; exact c1 a a1 a2 a3 a4 a5
            · intro b hb
              rw [hM152, mm_up_row (by decide), mm_up_row (by decide), mm_up_i (by omega), hM129, mm_up_row (by decide), mm_up_i (by omega), mm_up_row (by decide), hM106, mm_up_i (by omega), mm_up_row (by decide), mm_up_row (by decide)]
              exact c2 b hb
            · intro b hb
              rw [hM152, mm_up_row (by decide), mm_up_row (by decide), hM129, mm_up_row (by decide), mm_up_row (by decide), hM106, mm_up_row (by decide), mm_up_row (by decide)]
              exact c3 b hb
            · intro b hb
              rw [hM152, mm_up_row (by decide), mm_up_row (by decide), hM129, mm_up_row (by decide), mm_up_row (by decide), hM106, mm_up_row (by decide), mm_up_row (by decide)]
              exact c4 b hb
            · intro b hb
              rw [hM152, mm_up_row (by decide), mm_up_row (by decide), hM129, mm_up_row (by decide)]
              by_cases q : b = 3 * l + k
              · rw [q, mm_up_s, mm_up_s, hM106, mm_up_s, b24.1, b24.2.1, b24.2.2, show 24 + (3 * l + k) = 24 + 3 * l + k by omega]
                exact ⟨rfl, rfl, rfl⟩
              · rw [mm_up_i q, mm_up_i q, mm_up_row (by decide), hM106, mm_up_i q, mm_up_row (by decide), mm_up_row (by decide)]
                exact c5 b (by omega)
        · refine mm_iload_n dX13_rules_79 rfl rfl ?_
          refine mm_iconst dX13_rules_80 rfl ?_
          refine mm_icge dX13_rules_81 (by omega) (by omega) (fun h81 => ?_) (fun h81 => ?_)
          · refine mm_iinc dX13_rules_159 rfl rfl (Nat.le_of_ble_eq_true rfl) rfl ?_
            refine mm_goto dX13_rules_162 ?_
            refine ih hlt Q _ hRQ ?_
            rw [show 3 * (l + 1) = 3 * l + k by omega]
            exact hcp
          · exfalso; omega
      obtain ⟨c1, c2, c3, c4, c5⟩ := hcp
      have b8 := c3 (8 + l) (by omega)
      refine mm_iload_n dX13_rules_39 rfl rfl ?_
      refine mm_aload_n dX13_rules_40 rfl rfl ?_
      refine mm_get (kd := 0) dX13_rules_41 rfl fl_X13_394 (c := 183) rfl (by decide) rfl rfl ?_
      obtain ⟨v41, hv41⟩ : ∃ v, v = Q 183 20 := ⟨_, rfl⟩
      rw [← hv41]
      rw [q20] at hv41
      subst hv41
      refine mm_icge dX13_rules_44 (by omega) (by omega) (fun h44 => ?_) (fun h44 => ?_)
      · exfalso; omega
      · refine mm_aload_n dX13_rules_47 rfl rfl ?_
        refine mm_getr dX13_rules_48 rfl fl_X13_182 (c := 183) rfl (by decide) rfl rfl (hRQ.at (c := 183) (i := 25) (v := 197) rfl (by decide)) ?_
        refine mm_iload_n dX13_rules_51 rfl rfl ?_
        refine mm_aload_n dX13_rules_52 rfl rfl ?_
        refine mm_getr dX13_rules_53 rfl fl_X13_182 (c := 183) rfl (by decide) rfl rfl (hRQ.at (c := 183) (i := 25) (v := 197) rfl (by decide)) ?_
        refine mm_bipush dX13_rules_56 rfl (by decide) ?_
        refine mm_iload_n dX13_rules_58 rfl rfl ?_
        refine mm_iadd dX13_rules_59 rfl ?_
        refine mm_ialk (k0 := (8 + l)) dX13_rules_60 rfl (c := 196) rfl (by decide) rfl (by omega) (by omega) ?_
        refine mm_istk (k0 := l) dX13_rules_61 rfl (c := 196) rfl (by decide) rfl (by omega) (by omega) (fun M61 hM61 => ?_)
        have hR61 : mm_Rf M61 := by rw [hM61]; exact hRQ.up (mm_rt_ar (t := 0) rfl (by decide))
        refine mm_aload_n dX13_rules_62 rfl rfl ?_
        refine mm_getr dX13_rules_63 rfl fl_X13_229 (c := 183) rfl (by decide) rfl rfl (hR61.at (c := 183) (i := 26) (v := 198) rfl (by decide)) ?_
        refine mm_iload_n dX13_rules_66 rfl rfl ?_
        refine mm_aload_n dX13_rules_67 rfl rfl ?_
        refine mm_getr dX13_rules_68 rfl fl_X13_229 (c := 183) rfl (by decide) rfl rfl (hR61.at (c := 183) (i := 26) (v := 198) rfl (by decide)) ?_
        refine mm_bipush dX13_rules_71 rfl (by decide) ?_
        refine mm_iload_n dX13_rules_73 rfl rfl ?_
        refine mm_iadd dX13_rules_74 rfl ?_
        refine mm_ialk (k0 := (8 + l)) dX13_rules_75 rfl (c := 197) rfl (by decide) rfl (by omega) (by omega) ?_
        rw [show M61 197 = Q 197 from by rw [hM61, mm_up_row (by decide)]]
        refine mm_istk (k0 := l) dX13_rules_76 rfl (c := 197) rfl (by decide) rfl (by omega) (by omega) (fun M76 hM76 => ?_)
        have hR76 : mm_Rf M76 := by rw [hM76]; exact hR61.up (mm_rt_ar (t := 0) rfl (by decide))
        refine mm_iconst dX13_rules_77 rfl ?_
        refine mm_istore_n dX13_rules_78 rfl (Nat.le_of_ble_eq_true rfl) rfl ?_
        refine inner 0 (Nat.zero_le _) _ hR76 ⟨?_, ?_, ?_, ?_, ?_⟩
        · intro a a1 a2 a3 a4 a5; rw [hM76, mm_up_row a5, hM61, mm_up_row a4]; exact c1 a a1 a2 a3 a4 a5
        · intro b hb
          rw [hM76, mm_up_row (by decide), mm_up_row (by decide), mm_up_row (by decide), hM61, mm_up_row (by decide), mm_up_row (by decide), mm_up_row (by decide)]
          exact c2 b hb
        · intro b hb
          rw [hM76, mm_up_row (by decide), mm_up_i (by omega), hM61, mm_up_i (by omega), mm_up_row (by decide)]
          exact c3 b hb
        · intro b hb
          rw [hM76, mm_up_row (by decide)]
          by_cases q : b = l
          · rw [q, mm_up_s, hM61, mm_up_s]; exact b8
          · rw [mm_up_i q, hM61, mm_up_i q, mm_up_row (by decide)]; exact c4 b (by omega)
        · intro b hb
          rw [hM76, mm_up_row (by decide), mm_up_row (by decide), mm_up_row (by decide), hM61, mm_up_row (by decide), mm_up_row (by decide), mm_up_row (by decide)]
          exact c5 b (by omega)
    · refine mm_iload_n dX13_rules_39 rfl rfl ?_
      refine mm_aload_n dX13_rules_40 rfl rfl ?_
      refine mm_get (kd := 0) dX13_rules_41 rfl fl_X13_394 (c := 183) rfl (by decide) rfl rfl ?_
      obtain ⟨v41, hv41⟩ : ∃ v, v = Q 183 20 := ⟨_, rfl⟩
      rw [← hv41]
      rw [q20] at hv41
      subst hv41
      refine mm_icge dX13_rules_44 (by omega) (by omega) (fun h44 => ?_) (fun h44 => ?_)
      · refine mm_aload_n dX13_rules_165 rfl rfl ?_
        refine mm_get (kd := 0) dX13_rules_166 rfl fl_X13_394 (c := 183) rfl (by decide) rfl rfl ?_
        obtain ⟨v166, hv166⟩ : ∃ v, v = Q 183 20 := ⟨_, rfl⟩
        rw [← hv166]
        rw [q20] at hv166
        subst hv166
        refine mm_iret dX13_rules_169 rfl rfl ?_
        obtain ⟨c1, c2, c3, c4, c5⟩ := hcp
        have e183 : Q 183 = U 183 := c1 183 (by decide) (by decide) (by decide) (by decide) (by decide)
        rw [hEe]
        refine ⟨hRQ, ?_, ?_, ?_, rfl, ?_, ?_, q20, hc8, ?_⟩
        · rw [e183]; exact u2
        · intro a a1 a2; unfold kr_A at a2; rw [c1 a (by omega) (by omega) (by omega) (by omega) (by omega)]; exact ua a a1 (by unfold kr_A; omega)
        · intro b b1 b2 b3; rw [e183]; exact ub b b1 b2 b3
        · rw [e183]; exact u8
        · rw [e183]; exact u9
        · intro k hk
          obtain ⟨z1, z2, z3, z4⟩ := uL k hk
          refine ⟨(c4 k (by omega)).1.trans z1, z2, ?_, (c4 k (by omega)).2.trans z4⟩
          intro i hi
          obtain ⟨y1, y2, y3⟩ := c5 (3 * k + i) (by omega)
          obtain ⟨x1, x2, x3⟩ := z3 i hi
          rw [y1, y2, y3, show 24 + (3 * k + i) = 24 + 3 * k + i by omega]
          exact ⟨x1, x2, x3⟩
      · exfalso; omega
  have loop : ∀ (N : mm_M), (∀ a, a ≠ 183 → N a = M a) → (∀ b, ¬ (2 ≤ b ∧ b ≤ 9) → N 183 b = M 183 b) → N 183 2 = 0 →
      ∀ c : Nat, c ≤ 8 → ∀ (Q : mm_M) (p : Nat) (D : Nat → Int), kq_I kr_A kr_S N Q n p → Q 183 21 = (c : Int) → Q 183 8 = 0 → Q 183 9 = -1 → kr_U 0 N Q → (∀ l, l < c → kr_L Q D l) → kl_text (M 185) n sl (9 - c) c p D = E → mm_J X Y_X13_rules 243 243 243 9 [(2, 184), (9, 0), (9, 0)] [] Q (fun r M' => kr_KQ M M' E r) := by
    intro N g1 g2 g3
    refine mm_lp ?_
    intro c hc ih Q p D hQ q21 q8 q9 hU hLs hL
    have hRQ := hQ.1
    have e185 : N 185 = M 185 := g1 185 (by decide)
    have hk1 := (kq_hd hQ).1
    rw [e185] at hk1
    have hkb := kt_kb (B := M 185) (n := n) (p := p)
    have q16 : Q 183 16 = sl := by rw [hQ.2.1.2.1 16 (by decide) (by unfold kr_S; decide), g2 16 (by decide)]; exact hsl.1
    rw [show 9 - c = (8 - c) + 1 by omega, kl_text] at hL
    have nx : ∀ T : mm_M, mm_J X Y_X13_rules 243 243 243 9 [(2, 184), (9, 0), (9, 0)] [] T (fun r M' => kr_KQ M M' E r) → mm_J X Y_X13_rules 243 243 243 20 [(2, 184), (9, 0), (9, 0)] [] T (fun r M' => kr_KQ M M' E r) := by
      intro T h
      refine mm_goto dX13_rules_20 ?_
      exact h
    refine mm_aload_n dX13_rules_9 rfl rfl ?_
    refine mm_get (kd := 0) dX13_rules_10 rfl fl_X13_37 (c := 183) rfl (by decide) rfl rfl ?_
    obtain ⟨v10, hv10⟩ : ∃ v, v = Q 183 6 := ⟨_, rfl⟩
    rw [← hv10]
    rw [hk1] at hv10
    subst hv10
    refine mm_ifeq dX13_rules_13 (by omega) (fun h13 => ?_) (fun h13 => ?_)
    · refine mm_goto dX13_rules_23 ?_
      refine mm_aload_n dX13_rules_29 rfl rfl ?_
      refine mm_aload_n dX13_rules_30 rfl rfl ?_
      refine mm_get (kd := 0) dX13_rules_31 rfl fl_X13_212 (c := 183) rfl (by decide) rfl rfl ?_
      obtain ⟨v31, hv31⟩ : ∃ v, v = Q 183 21 := ⟨_, rfl⟩
      rw [← hv31]
      rw [q21] at hv31
      subst hv31
      refine mm_puti dX13_rules_34 rfl fl_X13_394 (c := 183) rfl (by decide) rfl rfl (fun M34 hM34 => ?_)
      have hR34 : mm_Rf M34 := by rw [hM34]; exact hRQ.up rfl
      refine mm_iconst dX13_rules_37 rfl ?_
      refine mm_istore_n dX13_rules_38 rfl (Nat.le_of_ble_eq_true rfl) rfl ?_
      rw [if_pos h13] at hL
      refine take _ c D hL.symm hR34 hc ?_ ?_ ?_ ?_ ?_ ?_ ?_ 0 (Nat.zero_le _) _ _ hR34 ⟨fun _ _ _ _ _ _ => rfl, fun _ _ => ⟨rfl, rfl, rfl⟩, fun _ _ => ⟨rfl, rfl⟩, fun b hb => absurd hb (Nat.not_lt_zero b), fun b hb => absurd hb (Nat.not_lt_zero b)⟩
      · rw [hM34, mm_up_s]
      · rw [hM34, mm_up_i (by decide), hQ.2.1.2.1 2 (by decide) (by unfold kr_S; decide)]; exact g3
      · rw [hM34, mm_up_i (by decide)]; exact q8
      · rw [hM34, mm_up_i (by decide)]; exact q9
      · intro a a1 a2; rw [hM34, mm_up_row a1, hQ.2.1.1 a a1 a2]; exact g1 a a1
      · intro b b1 b2 b3; rw [hM34, mm_up_i b2, hQ.2.1.2.1 b (by omega) b3]; exact g2 b b1
      · intro l hl
        have := hLs l hl
        unfold kr_L at this ⊢
        rw [hM34, mm_up_row (by decide), mm_up_row (by decide), mm_up_row (by decide), mm_up_row (by decide), mm_up_row (by decide)]
        exact this
    · refine mm_aload_n dX13_rules_16 rfl rfl ?_
      rw [if_neg h13] at hL
      have cR := c_X13_readLine (X := X) (c := c) (sl := sl) hc hQ q21 ⟨q16, hsl.2⟩ D
      rw [e185] at cR
      refine mm_V0h dX13_rules_17 rfl lk_X13_416 (c := 183) rfl (by decide) rfl rfl rfl rfl rfl (by decide) cl_X13_237 (by decide) cR ?_
      have uu : ∀ T, kr_U c Q T → kr_U 0 N T := by
        intro T h
        exact ⟨fun b hb => ⟨(h.1 b (by omega)).1.trans (hU.1 b hb).1, (h.1 b (by omega)).2.1.trans (hU.1 b hb).2.1, (h.1 b (by omega)).2.2.trans (hU.1 b hb).2.2⟩, fun b hb => ⟨(h.2 b (by omega)).1.trans (hU.2 b hb).1, (h.2 b (by omega)).2.trans (hU.2 b hb).2⟩⟩
      rintro r T (⟨rfl, h1, k, s, h2, h3, h4⟩ | ⟨rfl, h1, p', D', h2, h3, h4, h5, h6, h7, h8⟩)
      · rw [h2] at hL
        exact ⟨rfl, bad N T k s hL.symm h1 g1 g2 g3 h3 (uu T h4)⟩
      · rw [h2] at hL
        have hc8 : c < 8 := by
          rcases Nat.lt_or_ge c 8 with z | z
          · exact z
          · exfalso
            unfold kl_line at h2
            split at h2
            · cases h2
            · cases h2
        refine nx T ?_
        refine ih hc8 T p' D' h3 (by rw [h7]; rfl) ?_ ?_ (uu T h4) ?_ (by rw [show 9 - (c + 1) = 8 - c by omega]; exact hL)
        · rw [h8 8 (by decide) (by decide)]; exact q8
        · rw [h8 9 (by decide) (by decide)]; exact q9
        · intro l hl
          by_cases q : l = c
          · rw [q]; exact h5
          · obtain ⟨z1, z2, z3, z4⟩ := hLs l (by omega)
            refine ⟨?_, ?_, ?_, ?_⟩
            · rw [(h4.2 (8 + l) (by omega)).1, h6 _ (by omega)]; exact z1
            · rw [h6 _ (by omega)]; exact z2
            · intro i hi
              rw [h6 _ (by omega)] at hi
              obtain ⟨y1, y2, y3⟩ := h4.1 (24 + 3 * l + i) (by omega)
              rw [y1, y2, y3, h6 _ (by omega), h6 _ (by omega), h6 _ (by omega)]
              exact z3 i hi
            · rw [(h4.2 (8 + l) (by omega)).2, h6 _ (by omega)]; exact z4
  refine mm_aload_n dX13_rules_0 rfl rfl ?_
  refine mm_V0g (M1 := M) dX13_rules_1 rfl lk_X13_388 (c := 183) rfl (by decide) rfl  rfl rfl rfl (c_X13_begin hR hn hb) ?_
  rintro _ N1 ⟨rfl, p1⟩
  change mm_J _ _ _ _ _ _ _ _ _ _
  have hR1 : mm_Rf N1 := p1.1
  refine mm_aload_n dX13_rules_4 rfl rfl ?_
  refine mm_iconst dX13_rules_5 rfl ?_
  refine mm_puti dX13_rules_6 rfl fl_X13_212 (c := 183) rfl (by decide) rfl rfl (fun M6 hM6 => ?_)
  have hR6 : mm_Rf M6 := by rw [hM6]; exact hR1.up rfl
  obtain ⟨-, gg, gT, gH, g1, g2, g3, g4, g5⟩ := p1
  have hI0 : kq_I kr_A kr_S N1 N1 n 0 := ⟨hR1, ⟨fun _ _ _ => rfl, fun _ _ _ => rfl, id⟩, rfl, gT, Nat.zero_le _, gH⟩
  have hI : kq_I kr_A kr_S N1 M6 n 0 := by rw [hM6]; exact hI0.uf rfl kr_A185 kr_S37 rfl
  refine loop N1 g1 g2 g3 0 (Nat.zero_le _) _ 0 D0 hI ?_ ?_ ?_ ?_ (fun l hl => absurd hl (Nat.not_lt_zero l)) hE.symm
  · rw [hM6, mm_up_s]; rfl
  · rw [hM6, mm_up_i (by decide)]; exact g4
  · rw [hM6, mm_up_i (by decide)]; exact g5
  · rw [hM6]; exact ⟨fun b _ => by rw [mm_up_row (by decide), mm_up_row (by decide), mm_up_row (by decide)]; exact ⟨rfl, rfl, rfl⟩, fun b _ => by rw [mm_up_row (by decide), mm_up_row (by decide)]; exact ⟨rfl, rfl⟩⟩
end
end
/-! C0.ctor -/
section
/-! ===== constructors: words of the tables ===== -/
/-- new idx makes an object of class ci -/
def mm_NwP (own : String) (idx ci : Nat) : Prop := ∃ C T N ty, mm_Cl ci C T N ty ∧ mm_Wk (.classLink own idx C) ∧ mm_Wk (.instantiable C N) ∧ mm_Wk (.initialized C) ∧ ∀ i, i < N → defaultValue (ty i) = mm_dv (mm_fk ci i)
def mm_OiP (own : String) (idx : Nat) : Prop := mm_Wk (.methodLink own idx Lib.objectInit) ∧ mm_Wk (.instanceMethod Lib.objectInit) ∧ mm_Wk (.code Lib.objectInit ⟨#[0xb1]⟩ 1 none)
/-- so many cells may still be made -/
def mm_mk (n0 n n1 len : Nat) : Prop := n0 ≤ n ∧ n + 1 ≤ n1 ∧ mm_sz n0 ≤ mm_sz n ∧ mm_sz (n + 1) = mm_sz n + len ∧ mm_sz (n + 1) ≤ mm_sz n1
section
variable {X : mm_X} {Y Y' : mm_Y} {n0 n1 n n' pc q idx ci c i len na : Nat} {ls st stk as : List mm_V} {M : mm_M} {Φ Ψ : mm_V → mm_M → Prop} {x r : Int}
theorem mm_new' (hd : mm_D Y.2.1 pc q (.new idx)) (hq : pc + 3 = q) (hs : mm_sh n = (0, ci)) (hw : mm_NwP Y.1.cls idx ci) (hn : mm_mk n0 n n1 (mm_nf ci))
    (k : ∀ M', M' = mm_z M n → mm_J X Y n0 n1 (n + 1) q ls ((2, (n : Int) + 1) :: st) M' Φ) : mm_J X Y n0 n1 n pc ls st M Φ := by
  obtain ⟨C, T, N, ty, h1, h2, h3, h4, h5⟩ := hw
  have hN := h1.2.1
  rw [hN] at hn
  exact mm_new hd hq hs h1 h2 h3 h4 h5 hn (k _ rfl)
theorem mm_newarr' {t : Nat} {at' : ArrayType} (hd : mm_D Y.2.1 pc q (.newarray at')) (hq : pc + 2 = q) (hs : mm_sh n = (t + 1, len)) (ht : t < 4) (hat : newarray.typeOf at' = mm_et t) (hx0 : x = (len : Int)) (hw : mm_Wk (.arrayClass (mm_et t))) (hn : mm_mk n0 n n1 len)
    (k : ∀ M', M' = mm_z M n → mm_J X Y n0 n1 (n + 1) q ls ((2, (n : Int) + 1) :: st) M' Φ) : mm_J X Y n0 n1 n pc ls ((0, x) :: st) M Φ := mm_newarr hd hq hs ht hat hx0 hw hn (k _ rfl)
theorem mm_anew' (hd : mm_D Y.2.1 pc q (.anewarray idx)) (hq : pc + 3 = q) (hs : mm_sh n = (5, len)) (hx0 : x = (len : Int)) (hw : mm_Wk (.classLink Y.1.cls idx "KitePower$Row")) (hn : mm_mk n0 n n1 len)
    (k : ∀ M', M' = mm_z M n → mm_J X Y n0 n1 (n + 1) q ls ((2, (n : Int) + 1) :: st) M' Φ) : mm_J X Y n0 n1 n pc ls ((0, x) :: st) M Φ := mm_anew hd hq hs hx0 hw hn (k _ rfl)
theorem mm_putr' {ty : FieldType} (hd : mm_D Y.2.1 pc q (.putfield idx)) (hq : pc + 3 = q) (hf : mm_F Y.1.cls idx ci i true ty) (hty : (∃ n, ty = .object n) ∨ ∃ t, ty = .array t) (hin : Y.1.name = "<init>") (hcls : ∃ T N, vwCl[ci]? = some (Y.1.cls, T, N) ∧ ∀ j, j < N → (T j).1 = Y.1.cls) (hr : r = (c : Int) + 1) (hc : c < n) (hs : mm_sh c = (0, ci)) (hk : mm_fk ci i = 2)
    (k : ∀ M', M' = mm_up M c i x → mm_J X Y n0 n1 n q ls st M' Φ) : mm_J X Y n0 n1 n pc ls ((2, x) :: (2, r) :: st) M Φ := mm_putr hd hq hf hty hin hcls hr hc hs hk (k _ rfl)
theorem mm_oinit' (hd : mm_D Y.2.1 pc q (.invokespecial idx)) (hq : pc + 3 = q) (hw : mm_OiP Y.1.cls idx) (hr : r = (c : Int) + 1) (hfr : Nat.ble 1 Y.2.2.2.2.1 = true) (hlo : Nat.ble (mm_wd st + 12) Y.2.2.2.2.2.1 = true)
    (k : mm_J X Y n0 n1 n q ls st M Φ) : mm_J X Y n0 n1 n pc ls ((2, r) :: st) M Φ := mm_oinit hd hq hw.1 hw.2.1 hw.2.2 hr hfr hlo k
theorem mm_aast' {j : Int} {d k0 : Nat} (hd : mm_D Y.2.1 pc q .aastore) (hq : pc + 1 = q) (hr : r = (c : Int) + 1) (hc : c < n) (hs : mm_sh c = (5, len)) (hx0 : x = (d : Int) + 1) (hdn : d < n) (hsd : mm_sh d = (0, 8)) (hj : j = (k0 : Int)) (h1 : k0 < len)
    (k : ∀ M', M' = mm_up M c k0 x → mm_J X Y n0 n1 n q ls st M' Φ) : mm_J X Y n0 n1 n pc ls ((2, x) :: (0, j) :: (2, r) :: st) M Φ := by
  subst hj
  exact mm_aast hd hq hr hc hs hx0 hdn hsd (by omega) (by omega) (k _ (by rw [Int.toNat_natCast]))
end
theorem ac_0 : mm_Wk (.arrayClass (mm_et 0)) := mm_w1 0 145 rfl rfl
theorem ac_1 : mm_Wk (.arrayClass (mm_et 1)) := mm_w1 0 70 rfl rfl
theorem ac_2 : mm_Wk (.arrayClass (mm_et 2)) := mm_w1 1 34 rfl rfl
theorem ac_3 : mm_Wk (.arrayClass (mm_et 3)) := mm_w1 1 35 rfl rfl
theorem dv_X0 : ∀ i, i < 9 → defaultValue (tyX0 i) = mm_dv (mm_fk 0 i) := by
  intro i hi
  match i, hi with
  | 0, _ => rfl
  | 1, _ => rfl
  | 2, _ => rfl
  | 3, _ => rfl
  | 4, _ => rfl
  | 5, _ => rfl
  | 6, _ => rfl
  | 7, _ => rfl
  | 8, _ => rfl
  | k + 9, h => exact absurd h (by omega)
theorem fr_X0 : ∃ T N, vwCl[0]? = some (RX0, T, N) ∧ ∀ j, j < N → (T j).1 = RX0 := ⟨TX0, 9, rfl, by
  intro j hj
  match j, hj with
  | 0, _ => rfl
  | 1, _ => rfl
  | 2, _ => rfl
  | 3, _ => rfl
  | 4, _ => rfl
  | 5, _ => rfl
  | 6, _ => rfl
  | 7, _ => rfl
  | 8, _ => rfl
  | k + 9, h => exact absurd h (by omega)⟩
theorem dv_X1 : ∀ i, i < 6 → defaultValue (tyX1 i) = mm_dv (mm_fk 1 i) := by
  intro i hi
  match i, hi with
  | 0, _ => rfl
  | 1, _ => rfl
  | 2, _ => rfl
  | 3, _ => rfl
  | 4, _ => rfl
  | 5, _ => rfl
  | k + 6, h => exact absurd h (by omega)
theorem fr_X1 : ∃ T N, vwCl[1]? = some (RX1, T, N) ∧ ∀ j, j < N → (T j).1 = RX1 := ⟨TX1, 6, rfl, by
  intro j hj
  match j, hj with
  | 0, _ => rfl
  | 1, _ => rfl
  | 2, _ => rfl
  | 3, _ => rfl
  | 4, _ => rfl
  | 5, _ => rfl
  | k + 6, h => exact absurd h (by omega)⟩
theorem dv_X2 : ∀ i, i < 12 → defaultValue (tyX2 i) = mm_dv (mm_fk 2 i) := by
  intro i hi
  match i, hi with
  | 0, _ => rfl
  | 1, _ => rfl
  | 2, _ => rfl
  | 3, _ => rfl
  | 4, _ => rfl
  | 5, _ => rfl
  | 6, _ => rfl
  | 7, _ => rfl
  | 8, _ => rfl
  | 9, _ => rfl
  | 10, _ => rfl
  | 11, _ => rfl
  | k + 12, h => exact absurd h (by omega)
theorem fr_X2 : ∃ T N, vwCl[2]? = some (RX2, T, N) ∧ ∀ j, j < N → (T j).1 = RX2 := ⟨TX2, 12, rfl, by
  intro j hj
  match j, hj with
  | 0, _ => rfl
  | 1, _ => rfl
  | 2, _ => rfl
  | 3, _ => rfl
  | 4, _ => rfl
  | 5, _ => rfl
  | 6, _ => rfl
  | 7, _ => rfl
  | 8, _ => rfl
  | 9, _ => rfl
  | 10, _ => rfl
  | 11, _ => rfl
  | k + 12, h => exact absurd h (by omega)⟩
theorem dv_X3 : ∀ i, i < 10 → defaultValue (tyX3 i) = mm_dv (mm_fk 3 i) := by
  intro i hi
  match i, hi with
  | 0, _ => rfl
  | 1, _ => rfl
  | 2, _ => rfl
  | 3, _ => rfl
  | 4, _ => rfl
  | 5, _ => rfl
  | 6, _ => rfl
  | 7, _ => rfl
  | 8, _ => rfl
  | 9, _ => rfl
  | k + 10, h => exact absurd h (by omega)
theorem fr_X3 : ∃ T N, vwCl[3]? = some (RX3, T, N) ∧ ∀ j, j < N → (T j).1 = RX3 := ⟨TX3, 10, rfl, by
  intro j hj
  match j, hj with
  | 0, _ => rfl
  | 1, _ => rfl
  | 2, _ => rfl
  | 3, _ => rfl
  | 4, _ => rfl
  | 5, _ => rfl
  | 6, _ => rfl
  | 7, _ => rfl
  | 8, _ => rfl
  | 9, _ => rfl
  | k + 10, h => exact absurd h (by omega)⟩
theorem dv_X4 : ∀ i, i < 8 → defaultValue (tyX4 i) = mm_dv (mm_fk 4 i) := by
  intro i hi
  match i, hi with
  | 0, _ => rfl
  | 1, _ => rfl
  | 2, _ => rfl
  | 3, _ => rfl
  | 4, _ => rfl
  | 5, _ => rfl
  | 6, _ => rfl
  | 7, _ => rfl
  | k + 8, h => exact absurd h (by omega)
theorem fr_X4 : ∃ T N, vwCl[4]? = some (RX4, T, N) ∧ ∀ j, j < N → (T j).1 = RX4 := ⟨TX4, 8, rfl, by
  intro j hj
  match j, hj with
  | 0, _ => rfl
  | 1, _ => rfl
  | 2, _ => rfl
  | 3, _ => rfl
  | 4, _ => rfl
  | 5, _ => rfl
  | 6, _ => rfl
  | 7, _ => rfl
  | k + 8, h => exact absurd h (by omega)⟩
theorem dv_X5 : ∀ i, i < 2 → defaultValue (tyX5 i) = mm_dv (mm_fk 5 i) := by
  intro i hi
  match i, hi with
  | 0, _ => rfl
  | 1, _ => rfl
  | k + 2, h => exact absurd h (by omega)
theorem fr_X5 : ∃ T N, vwCl[5]? = some (RX5, T, N) ∧ ∀ j, j < N → (T j).1 = RX5 := ⟨TX5, 2, rfl, by
  intro j hj
  match j, hj with
  | 0, _ => rfl
  | 1, _ => rfl
  | k + 2, h => exact absurd h (by omega)⟩
theorem dv_X6 : ∀ i, i < 18 → defaultValue (tyX6 i) = mm_dv (mm_fk 6 i) := by
  intro i hi
  match i, hi with
  | 0, _ => rfl
  | 1, _ => rfl
  | 2, _ => rfl
  | 3, _ => rfl
  | 4, _ => rfl
  | 5, _ => rfl
  | 6, _ => rfl
  | 7, _ => rfl
  | 8, _ => rfl
  | 9, _ => rfl
  | 10, _ => rfl
  | 11, _ => rfl
  | 12, _ => rfl
  | 13, _ => rfl
  | 14, _ => rfl
  | 15, _ => rfl
  | 16, _ => rfl
  | 17, _ => rfl
  | k + 18, h => exact absurd h (by omega)
theorem fr_X6 : ∃ T N, vwCl[6]? = some (RX6, T, N) ∧ ∀ j, j < N → (T j).1 = RX6 := ⟨TX6, 18, rfl, by
  intro j hj
  match j, hj with
  | 0, _ => rfl
  | 1, _ => rfl
  | 2, _ => rfl
  | 3, _ => rfl
  | 4, _ => rfl
  | 5, _ => rfl
  | 6, _ => rfl
  | 7, _ => rfl
  | 8, _ => rfl
  | 9, _ => rfl
  | 10, _ => rfl
  | 11, _ => rfl
  | 12, _ => rfl
  | 13, _ => rfl
  | 14, _ => rfl
  | 15, _ => rfl
  | 16, _ => rfl
  | 17, _ => rfl
  | k + 18, h => exact absurd h (by omega)⟩
theorem dv_X7 : ∀ i, i < 13 → defaultValue (tyX7 i) = mm_dv (mm_fk 7 i) := by
  intro i hi
  match i, hi with
  | 0, _ => rfl
  | 1, _ => rfl
  | 2, _ => rfl
  | 3, _ => rfl
  | 4, _ => rfl
  | 5, _ => rfl
  | 6, _ => rfl
  | 7, _ => rfl
  | 8, _ => rfl
  | 9, _ => rfl
  | 10, _ => rfl
  | 11, _ => rfl
  | 12, _ => rfl
  | k + 13, h => exact absurd h (by omega)
theorem fr_X7 : ∃ T N, vwCl[7]? = some (RX7, T, N) ∧ ∀ j, j < N → (T j).1 = RX7 := ⟨TX7, 13, rfl, by
  intro j hj
  match j, hj with
  | 0, _ => rfl
  | 1, _ => rfl
  | 2, _ => rfl
  | 3, _ => rfl
  | 4, _ => rfl
  | 5, _ => rfl
  | 6, _ => rfl
  | 7, _ => rfl
  | 8, _ => rfl
  | 9, _ => rfl
  | 10, _ => rfl
  | 11, _ => rfl
  | 12, _ => rfl
  | k + 13, h => exact absurd h (by omega)⟩
theorem dv_X8 : ∀ i, i < 10 → defaultValue (tyX8 i) = mm_dv (mm_fk 8 i) := by
  intro i hi
  match i, hi with
  | 0, _ => rfl
  | 1, _ => rfl
  | 2, _ => rfl
  | 3, _ => rfl
  | 4, _ => rfl
  | 5, _ => rfl
  | 6, _ => rfl
  | 7, _ => rfl
  | 8, _ => rfl
  | 9, _ => rfl
  | k + 10, h => exact absurd h (by omega)
theorem fr_X8 : ∃ T N, vwCl[8]? = some (RX8, T, N) ∧ ∀ j, j < N → (T j).1 = RX8 := ⟨TX8, 10, rfl, by
  intro j hj
  match j, hj with
  | 0, _ => rfl
  | 1, _ => rfl
  | 2, _ => rfl
  | 3, _ => rfl
  | 4, _ => rfl
  | 5, _ => rfl
  | 6, _ => rfl
  | 7, _ => rfl
  | 8, _ => rfl
  | 9, _ => rfl
  | k + 10, h => exact absurd h (by omega)⟩
theorem dv_X9 : ∀ i, i < 4 → defaultValue (tyX9 i) = mm_dv (mm_fk 9 i) := by
  intro i hi
  match i, hi with
  | 0, _ => rfl
  | 1, _ => rfl
  | 2, _ => rfl
  | 3, _ => rfl
  | k + 4, h => exact absurd h (by omega)
theorem fr_X9 : ∃ T N, vwCl[9]? = some (RX9, T, N) ∧ ∀ j, j < N → (T j).1 = RX9 := ⟨TX9, 4, rfl, by
  intro j hj
  match j, hj with
  | 0, _ => rfl
  | 1, _ => rfl
  | 2, _ => rfl
  | 3, _ => rfl
  | k + 4, h => exact absurd h (by omega)⟩
theorem dv_X10 : ∀ i, i < 8 → defaultValue (tyX10 i) = mm_dv (mm_fk 10 i) := by
  intro i hi
  match i, hi with
  | 0, _ => rfl
  | 1, _ => rfl
  | 2, _ => rfl
  | 3, _ => rfl
  | 4, _ => rfl
  | 5, _ => rfl
  | 6, _ => rfl
  | 7, _ => rfl
  | k + 8, h => exact absurd h (by omega)
theorem fr_X10 : ∃ T N, vwCl[10]? = some (RX10, T, N) ∧ ∀ j, j < N → (T j).1 = RX10 := ⟨TX10, 8, rfl, by
  intro j hj
  match j, hj with
  | 0, _ => rfl
  | 1, _ => rfl
  | 2, _ => rfl
  | 3, _ => rfl
  | 4, _ => rfl
  | 5, _ => rfl
  | 6, _ => rfl
  | 7, _ => rfl
  | k + 8, h => exact absurd h (by omega)⟩
theorem dv_X11 : ∀ i, i < 15 → defaultValue (tyX11 i) = mm_dv (mm_fk 11 i) := by
  intro i hi
  match i, hi with
  | 0, _ => rfl
  | 1, _ => rfl
  | 2, _ => rfl
  | 3, _ => rfl
  | 4, _ => rfl
  | 5, _ => rfl
  | 6, _ => rfl
  | 7, _ => rfl
  | 8, _ => rfl
  | 9, _ => rfl
  | 10, _ => rfl
  | 11, _ => rfl
  | 12, _ => rfl
  | 13, _ => rfl
  | 14, _ => rfl
  | k + 15, h => exact absurd h (by omega)
theorem fr_X11 : ∃ T N, vwCl[11]? = some (RX11, T, N) ∧ ∀ j, j < N → (T j).1 = RX11 := ⟨TX11, 15, rfl, by
  intro j hj
  match j, hj with
  | 0, _ => rfl
  | 1, _ => rfl
  | 2, _ => rfl
  | 3, _ => rfl
  | 4, _ => rfl
  | 5, _ => rfl
  | 6, _ => rfl
  | 7, _ => rfl
  | 8, _ => rfl
  | 9, _ => rfl
  | 10, _ => rfl
  | 11, _ => rfl
  | 12, _ => rfl
  | 13, _ => rfl
  | 14, _ => rfl
  | k + 15, h => exact absurd h (by omega)⟩
theorem dv_X13 : ∀ i, i < 110 → defaultValue (tyX13 i) = mm_dv (mm_fk 13 i) := by
  intro i hi
  match i, hi with
  | 0, _ => rfl
  | 1, _ => rfl
  | 2, _ => rfl
  | 3, _ => rfl
  | 4, _ => rfl
  | 5, _ => rfl
  | 6, _ => rfl
  | 7, _ => rfl
  | 8, _ => rfl
  | 9, _ => rfl
  | 10, _ => rfl
  | 11, _ => rfl
  | 12, _ => rfl
  | 13, _ => rfl
  | 14, _ => rfl
  | 15, _ => rfl
  | 16, _ => rfl
  | 17, _ => rfl
  | 18, _ => rfl
  | 19, _ => rfl
  | 20, _ => rfl
  | 21, _ => rfl
  | 22, _ => rfl
  | 23, _ => rfl
  | 24, _ => rfl
  | 25, _ => rfl
  | 26, _ => rfl
  | 27, _ => rfl
  | 28, _ => rfl
  | 29, _ => rfl
  | 30, _ => rfl
  | 31, _ => rfl
  | 32, _ => rfl
  | 33, _ => rfl
  | 34, _ => rfl
  | 35, _ => rfl
  | 36, _ => rfl
  | 37, _ => rfl
  | 38, _ => rfl
  | 39, _ => rfl
  | 40, _ => rfl
  | 41, _ => rfl
  | 42, _ => rfl
  | 43, _ => rfl
  | 44, _ => rfl
  | 45, _ => rfl
  | 46, _ => rfl
  | 47, _ => rfl
  | 48, _ => rfl
  | 49, _ => rfl
  | 50, _ => rfl
  | 51, _ => rfl
  | 52, _ => rfl
  | 53, _ => rfl
  | 54, _ => rfl
  | 55, _ => rfl
  | 56, _ => rfl
  | 57, _ => rfl
  | 58, _ => rfl
  | 59, _ => rfl
  | 60, _ => rfl
  | 61, _ => rfl
  | 62, _ => rfl
  | 63, _ => rfl
  | 64, _ => rfl
  | 65, _ => rfl
  | 66, _ => rfl
  | 67, _ => rfl
  | 68, _ => rfl
  | 69, _ => rfl
  | 70, _ => rfl
  | 71, _ => rfl
  | 72, _ => rfl
  | 73, _ => rfl
  | 74, _ => rfl
  | 75, _ => rfl
  | 76, _ => rfl
  | 77, _ => rfl
  | 78, _ => rfl
  | 79, _ => rfl
  | 80, _ => rfl
  | 81, _ => rfl
  | 82, _ => rfl
  | 83, _ => rfl
  | 84, _ => rfl
  | 85, _ => rfl
  | 86, _ => rfl
  | 87, _ => rfl
  | 88, _ => rfl
  | 89, _ => rfl
  | 90, _ => rfl
  | 91, _ => rfl
  | 92, _ => rfl
  | 93, _ => rfl
  | 94, _ => rfl
  | 95, _ => rfl
  | 96, _ => rfl
  | 97, _ => rfl
  | 98, _ => rfl
  | 99, _ => rfl
  | 100, _ => rfl
  | 101, _ => rfl
  | 102, _ => rfl
  | 103, _ => rfl
  | 104, _ => rfl
  | 105, _ => rfl
  | 106, _ => rfl
  | 107, _ => rfl
  | 108, _ => rfl
  | 109, _ => rfl
  | k + 110, h => exact absurd h (by omega)
theorem fr_X13 : ∃ T N, vwCl[13]? = some (RX13, T, N) ∧ ∀ j, j < N → (T j).1 = RX13 := ⟨TX13, 110, rfl, by
  intro j hj
  match j, hj with
  | 0, _ => rfl
  | 1, _ => rfl
  | 2, _ => rfl
  | 3, _ => rfl
  | 4, _ => rfl
  | 5, _ => rfl
  | 6, _ => rfl
  | 7, _ => rfl
  | 8, _ => rfl
  | 9, _ => rfl
  | 10, _ => rfl
  | 11, _ => rfl
  | 12, _ => rfl
  | 13, _ => rfl
  | 14, _ => rfl
  | 15, _ => rfl
  | 16, _ => rfl
  | 17, _ => rfl
  | 18, _ => rfl
  | 19, _ => rfl
  | 20, _ => rfl
  | 21, _ => rfl
  | 22, _ => rfl
  | 23, _ => rfl
  | 24, _ => rfl
  | 25, _ => rfl
  | 26, _ => rfl
  | 27, _ => rfl
  | 28, _ => rfl
  | 29, _ => rfl
  | 30, _ => rfl
  | 31, _ => rfl
  | 32, _ => rfl
  | 33, _ => rfl
  | 34, _ => rfl
  | 35, _ => rfl
  | 36, _ => rfl
  | 37, _ => rfl
  | 38, _ => rfl
  | 39, _ => rfl
  | 40, _ => rfl
  | 41, _ => rfl
  | 42, _ => rfl
  | 43, _ => rfl
  | 44, _ => rfl
  | 45, _ => rfl
  | 46, _ => rfl
  | 47, _ => rfl
  | 48, _ => rfl
  | 49, _ => rfl
  | 50, _ => rfl
  | 51, _ => rfl
  | 52, _ => rfl
  | 53, _ => rfl
  | 54, _ => rfl
  | 55, _ => rfl
  | 56, _ => rfl
  | 57, _ => rfl
  | 58, _ => rfl
  | 59, _ => rfl
  | 60, _ => rfl
  | 61, _ => rfl
  | 62, _ => rfl
  | 63, _ => rfl
  | 64, _ => rfl
  | 65, _ => rfl
  | 66, _ => rfl
  | 67, _ => rfl
  | 68, _ => rfl
  | 69, _ => rfl
  | 70, _ => rfl
  | 71, _ => rfl
  | 72, _ => rfl
  | 73, _ => rfl
  | 74, _ => rfl
  | 75, _ => rfl
  | 76, _ => rfl
  | 77, _ => rfl
  | 78, _ => rfl
  | 79, _ => rfl
  | 80, _ => rfl
  | 81, _ => rfl
  | 82, _ => rfl
  | 83, _ => rfl
  | 84, _ => rfl
  | 85, _ => rfl
  | 86, _ => rfl
  | 87, _ => rfl
  | 88, _ => rfl
  | 89, _ => rfl
  | 90, _ => rfl
  | 91, _ => rfl
  | 92, _ => rfl
  | 93, _ => rfl
  | 94, _ => rfl
  | 95, _ => rfl
  | 96, _ => rfl
  | 97, _ => rfl
  | 98, _ => rfl
  | 99, _ => rfl
  | 100, _ => rfl
  | 101, _ => rfl
  | 102, _ => rfl
  | 103, _ => rfl
  | 104, _ => rfl
  | 105, _ => rfl
  | 106, _ => rfl
  | 107, _ => rfl
  | 108, _ => rfl
  | 109, _ => rfl
  | k + 110, h => exact absurd h (by omega)⟩
theorem ck_L_7 : mm_Wk (.classLink RL 7 RX11) := mm_w1 0 25 rfl rfl
theorem nw_L_7 : mm_NwP RL 7 11 := ⟨RX11, TX11, 15, tyX11, cl_X11, ck_L_7, mm_w1 0 26 rfl rfl, mm_w1 0 1 rfl rfl, dv_X11⟩
theorem ck_X11_7 : mm_Wk (.classLink RX11 7 RX10) := mm_w1 0 33 rfl rfl
theorem nw_X11_7 : mm_NwP RX11 7 10 := ⟨RX10, TX10, 8, tyX10, cl_X10, ck_X11_7, mm_w1 0 34 rfl rfl, mm_w1 0 2 rfl rfl, dv_X10⟩
theorem ck_X11_16 : mm_Wk (.classLink RX11 16 RX4) := mm_w1 0 71 rfl rfl
theorem nw_X11_16 : mm_NwP RX11 16 4 := ⟨RX4, TX4, 8, tyX4, cl_X4, ck_X11_16, mm_w1 0 72 rfl rfl, mm_w1 0 3 rfl rfl, dv_X4⟩
theorem ck_X11_23 : mm_Wk (.classLink RX11 23 RX0) := mm_w1 0 146 rfl rfl
theorem nw_X11_23 : mm_NwP RX11 23 0 := ⟨RX0, TX0, 9, tyX0, cl_X0, ck_X11_23, mm_w1 0 147 rfl rfl, mm_w1 0 7 rfl rfl, dv_X0⟩
theorem ck_X11_32 : mm_Wk (.classLink RX11 32 RX9) := mm_w1 0 185 rfl rfl
theorem nw_X11_32 : mm_NwP RX11 32 9 := ⟨RX9, TX9, 4, tyX9, cl_X9, ck_X11_32, mm_w1 0 186 rfl rfl, mm_w1 0 8 rfl rfl, dv_X9⟩
theorem ck_X11_39 : mm_Wk (.classLink RX11 39 RX3) := mm_w1 0 205 rfl rfl
theorem nw_X11_39 : mm_NwP RX11 39 3 := ⟨RX3, TX3, 10, tyX3, cl_X3, ck_X11_39, mm_w1 0 206 rfl rfl, mm_w1 0 9 rfl rfl, dv_X3⟩
theorem ck_X3_11 : mm_Wk (.classLink RX3 11 RX8) := mm_w1 0 211 rfl rfl
theorem nw_X3_11 : mm_NwP RX3 11 8 := ⟨RX8, TX8, 10, tyX8, cl_X8, ck_X3_11, mm_w1 1 36 rfl rfl, mm_w1 0 11 rfl rfl, dv_X8⟩
theorem ck_X3_47 : mm_Wk (.classLink RX3 47 RX6) := mm_w1 0 213 rfl rfl
theorem nw_X3_47 : mm_NwP RX3 47 6 := ⟨RX6, TX6, 18, tyX6, cl_X6, ck_X3_47, mm_w1 0 214 rfl rfl, mm_w1 0 10 rfl rfl, dv_X6⟩
theorem ck_X11_48 : mm_Wk (.classLink RX11 48 RX8) := mm_w1 1 126 rfl rfl
theorem nw_X11_48 : mm_NwP RX11 48 8 := ⟨RX8, TX8, 10, tyX8, cl_X8, ck_X11_48, mm_w1 1 36 rfl rfl, mm_w1 0 11 rfl rfl, dv_X8⟩
theorem ck_X11_64 : mm_Wk (.classLink RX11 64 RX2) := mm_w1 1 128 rfl rfl
theorem nw_X11_64 : mm_NwP RX11 64 2 := ⟨RX2, TX2, 12, tyX2, cl_X2, ck_X11_64, mm_w1 1 129 rfl rfl, mm_w1 0 12 rfl rfl, dv_X2⟩
theorem ck_X11_73 : mm_Wk (.classLink RX11 73 RX1) := mm_w1 1 177 rfl rfl
theorem nw_X11_73 : mm_NwP RX11 73 1 := ⟨RX1, TX1, 6, tyX1, cl_X1, ck_X11_73, mm_w1 1 178 rfl rfl, mm_w1 0 13 rfl rfl, dv_X1⟩
theorem ck_X1_11 : mm_Wk (.classLink RX1 11 RX8) := mm_w1 1 183 rfl rfl
theorem nw_X1_11 : mm_NwP RX1 11 8 := ⟨RX8, TX8, 10, tyX8, cl_X8, ck_X1_11, mm_w1 1 36 rfl rfl, mm_w1 0 11 rfl rfl, dv_X8⟩
theorem ck_X11_80 : mm_Wk (.classLink RX11 80 RX5) := mm_w1 1 206 rfl rfl
theorem nw_X11_80 : mm_NwP RX11 80 5 := ⟨RX5, TX5, 2, tyX5, cl_X5, ck_X11_80, mm_w1 1 207 rfl rfl, mm_w1 0 14 rfl rfl, dv_X5⟩
theorem ck_X11_87 : mm_Wk (.classLink RX11 87 RX7) := mm_w1 1 221 rfl rfl
theorem nw_X11_87 : mm_NwP RX11 87 7 := ⟨RX7, TX7, 13, tyX7, cl_X7, ck_X11_87, mm_w1 1 222 rfl rfl, mm_w1 0 15 rfl rfl, dv_X7⟩
theorem ck_L_10 : mm_Wk (.classLink RL 10 RX13) := mm_w1 5 112 rfl rfl
theorem nw_L_10 : mm_NwP RL 10 13 := ⟨RX13, TX13, 110, tyX13, cl_X13, ck_L_10, mm_w1 5 113 rfl rfl, mm_w1 0 16 rfl rfl, dv_X13⟩
theorem oi_X11_1 : mm_OiP RX11 1 := ⟨mm_w1 0 30 rfl rfl, mm_w1 0 31 rfl rfl, mm_w1 0 32 rfl rfl⟩
theorem li_X11_18 : mm_LI RX11 18 Y_X4_init 0 := ⟨⟨mm_w1 0 73 rfl rfl, cw_X4_init, by decide +kernel, ⟨by decide +kernel, by decide +kernel⟩, by decide +kernel⟩, mm_w1 0 74 rfl rfl, rfl, rfl, rfl⟩
theorem li_X11_25 : mm_LI RX11 25 Y_X0_init 1 := ⟨⟨mm_w1 0 148 rfl rfl, cw_X0_init, by decide +kernel, ⟨by decide +kernel, by decide +kernel⟩, by decide +kernel⟩, mm_w1 0 149 rfl rfl, rfl, rfl, rfl⟩
theorem li_X11_34 : mm_LI RX11 34 Y_X9_init 1 := ⟨⟨mm_w1 0 187 rfl rfl, cw_X9_init, by decide +kernel, ⟨by decide +kernel, by decide +kernel⟩, by decide +kernel⟩, mm_w1 0 188 rfl rfl, rfl, rfl, rfl⟩
theorem li_X11_41 : mm_LI RX11 41 Y_X3_init 2 := ⟨⟨mm_w1 0 207 rfl rfl, cw_X3_init, by decide +kernel, ⟨by decide +kernel, by decide +kernel⟩, by decide +kernel⟩, mm_w1 0 208 rfl rfl, rfl, rfl, rfl⟩
theorem li_X11_50 : mm_LI RX11 50 Y_X8_init 1 := ⟨⟨mm_w1 1 127 rfl rfl, cw_X8_init, by decide +kernel, ⟨by decide +kernel, by decide +kernel⟩, by decide +kernel⟩, mm_w1 1 38 rfl rfl, rfl, rfl, rfl⟩
theorem li_X11_66 : mm_LI RX11 66 Y_X2_init 3 := ⟨⟨mm_w1 1 130 rfl rfl, cw_X2_init, by decide +kernel, ⟨by decide +kernel, by decide +kernel⟩, by decide +kernel⟩, mm_w1 1 131 rfl rfl, rfl, rfl, rfl⟩
theorem li_X11_75 : mm_LI RX11 75 Y_X1_init 1 := ⟨⟨mm_w1 1 179 rfl rfl, cw_X1_init, by decide +kernel, ⟨by decide +kernel, by decide +kernel⟩, by decide +kernel⟩, mm_w1 1 180 rfl rfl, rfl, rfl, rfl⟩
theorem li_X11_82 : mm_LI RX11 82 Y_X5_init 0 := ⟨⟨mm_w1 1 208 rfl rfl, cw_X5_init, by decide +kernel, ⟨by decide +kernel, by decide +kernel⟩, by decide +kernel⟩, mm_w1 1 209 rfl rfl, rfl, rfl, rfl⟩
theorem li_X11_89 : mm_LI RX11 89 Y_X7_init 2 := ⟨⟨mm_w1 1 223 rfl rfl, cw_X7_init, by decide +kernel, ⟨by decide +kernel, by decide +kernel⟩, by decide +kernel⟩, mm_w1 1 224 rfl rfl, rfl, rfl, rfl⟩
theorem oi_X0_3 : mm_OiP RX0 3 := ⟨mm_w1 0 151 rfl rfl, mm_w1 0 31 rfl rfl, mm_w1 0 32 rfl rfl⟩
theorem oi_X1_3 : mm_OiP RX1 3 := ⟨mm_w1 1 182 rfl rfl, mm_w1 0 31 rfl rfl, mm_w1 0 32 rfl rfl⟩
theorem li_X1_28 : mm_LI RX1 28 Y_X8_init 1 := ⟨⟨mm_w1 1 184 rfl rfl, cw_X8_init, by decide +kernel, ⟨by decide +kernel, by decide +kernel⟩, by decide +kernel⟩, mm_w1 1 38 rfl rfl, rfl, rfl, rfl⟩
theorem oi_X2_3 : mm_OiP RX2 3 := ⟨mm_w1 1 133 rfl rfl, mm_w1 0 31 rfl rfl, mm_w1 0 32 rfl rfl⟩
theorem oi_X3_3 : mm_OiP RX3 3 := ⟨mm_w1 0 210 rfl rfl, mm_w1 0 31 rfl rfl, mm_w1 0 32 rfl rfl⟩
theorem li_X3_49 : mm_LI RX3 49 Y_X6_init 2 := ⟨⟨mm_w1 0 215 rfl rfl, cw_X6_init, by decide +kernel, ⟨by decide +kernel, by decide +kernel⟩, by decide +kernel⟩, mm_w1 0 216 rfl rfl, rfl, rfl, rfl⟩
theorem li_X3_58 : mm_LI RX3 58 Y_X8_init 1 := ⟨⟨mm_w1 1 37 rfl rfl, cw_X8_init, by decide +kernel, ⟨by decide +kernel, by decide +kernel⟩, by decide +kernel⟩, mm_w1 1 38 rfl rfl, rfl, rfl, rfl⟩
theorem oi_X4_3 : mm_OiP RX4 3 := ⟨mm_w1 0 76 rfl rfl, mm_w1 0 31 rfl rfl, mm_w1 0 32 rfl rfl⟩
theorem oi_X5_3 : mm_OiP RX5 3 := ⟨mm_w1 1 211 rfl rfl, mm_w1 0 31 rfl rfl, mm_w1 0 32 rfl rfl⟩
theorem oi_X6_5 : mm_OiP RX6 5 := ⟨mm_w1 0 218 rfl rfl, mm_w1 0 31 rfl rfl, mm_w1 0 32 rfl rfl⟩
theorem oi_X7_3 : mm_OiP RX7 3 := ⟨mm_w1 1 226 rfl rfl, mm_w1 0 31 rfl rfl, mm_w1 0 32 rfl rfl⟩
theorem oi_X8_1 : mm_OiP RX8 1 := ⟨mm_w1 1 40 rfl rfl, mm_w1 0 31 rfl rfl, mm_w1 0 32 rfl rfl⟩
theorem oi_X9_5 : mm_OiP RX9 5 := ⟨mm_w1 0 190 rfl rfl, mm_w1 0 31 rfl rfl, mm_w1 0 32 rfl rfl⟩
theorem oi_X10_3 : mm_OiP RX10 3 := ⟨mm_w1 0 38 rfl rfl, mm_w1 0 31 rfl rfl, mm_w1 0 32 rfl rfl⟩
theorem li_L_9 : mm_LI RL 9 Y_X11_init 0 := ⟨⟨mm_w1 0 27 rfl rfl, cw_X11_init, by decide +kernel, ⟨by decide +kernel, by decide +kernel⟩, by decide +kernel⟩, mm_w1 0 28 rfl rfl, rfl, rfl, rfl⟩
theorem li_L_12 : mm_LI RL 12 Y_X13_init 0 := ⟨⟨mm_w1 5 114 rfl rfl, cw_X13_init, by decide +kernel, ⟨by decide +kernel, by decide +kernel⟩, by decide +kernel⟩, mm_w1 5 115 rfl rfl, rfl, rfl, rfl⟩
theorem oi_X13_232 : mm_OiP RX13 232 := ⟨mm_w1 5 117 rfl rfl, mm_w1 0 31 rfl rfl, mm_w1 0 32 rfl rfl⟩
theorem li_X13_239 : mm_LI RX13 239 Y_X12_init 0 := ⟨⟨mm_w1 5 155 rfl rfl, cw_X12_init, by decide +kernel, ⟨by decide +kernel, by decide +kernel⟩, by decide +kernel⟩, mm_w1 5 156 rfl rfl, rfl, rfl, rfl⟩
end
/-! C1.ctor1 -/
section
/-! ===== constructors ===== -/
section
variable {X : mm_X} {Y Y' : mm_Y} {n0 n1 n n' pc q idx ci c : Nat} {ls st : List mm_V} {M : mm_M} {Φ Ψ : mm_V → mm_M → Prop} {r : Int} {a1 a2 a3 : mm_V}
theorem mm_I0g (hd : mm_D Y.2.1 pc q (.invokespecial idx)) (hq : pc + 3 = q) (hw : mm_LI Y.1.cls idx Y' 0) (hr : r = (c : Int) + 1) (hn : mm_le n0 n n' n1) (hpad : Nat.ble (mm_dbl [(2, r)]).length Y'.2.2.1 = true) (hfr : Nat.ble (Y'.2.2.2.2.1 + 1) Y.2.2.2.2.1 = true) (hlo : Nat.ble (mm_wd st + (Y'.2.2.1 + 11) + Y'.2.2.2.2.2.1) Y.2.2.2.2.2.1 = true)
    (hC : mm_C X Y' n n' [(2, r)] M Ψ) (k : ∀ r M1, Ψ r M1 → mm_Kc X Y n0 n1 n' q ls st Φ r M1) : mm_J X Y n0 n1 n pc ls ((2, r) :: st) M Φ :=
  mm_callI hd hq hw hr (as := []) rfl rfl hn (by simp) (Nat.le_of_ble_eq_true hpad) (Nat.le_of_ble_eq_true hfr) (Nat.le_of_ble_eq_true hlo) hC k
theorem mm_I1g (hd : mm_D Y.2.1 pc q (.invokespecial idx)) (hq : pc + 3 = q) (hw : mm_LI Y.1.cls idx Y' 1) (hr : r = (c : Int) + 1) (hn : mm_le n0 n n' n1) (h1 : a1.1 ≠ 9) (hpad : Nat.ble (mm_dbl [(2, r), a1]).length Y'.2.2.1 = true) (hfr : Nat.ble (Y'.2.2.2.2.1 + 1) Y.2.2.2.2.1 = true) (hlo : Nat.ble (mm_wd st + (Y'.2.2.1 + 11) + Y'.2.2.2.2.2.1) Y.2.2.2.2.2.1 = true)
    (hC : mm_C X Y' n n' [(2, r), a1] M Ψ) (k : ∀ r M1, Ψ r M1 → mm_Kc X Y n0 n1 n' q ls st Φ r M1) : mm_J X Y n0 n1 n pc ls (a1 :: (2, r) :: st) M Φ :=
  mm_callI hd hq hw hr (as := [a1]) rfl rfl hn (by intro v hv; simp at hv; rw [hv]; exact h1) (Nat.le_of_ble_eq_true hpad) (Nat.le_of_ble_eq_true hfr) (Nat.le_of_ble_eq_true hlo) hC k
theorem mm_I2g (hd : mm_D Y.2.1 pc q (.invokespecial idx)) (hq : pc + 3 = q) (hw : mm_LI Y.1.cls idx Y' 2) (hr : r = (c : Int) + 1) (hn : mm_le n0 n n' n1) (h1 : a1.1 ≠ 9) (h2 : a2.1 ≠ 9) (hpad : Nat.ble (mm_dbl [(2, r), a1, a2]).length Y'.2.2.1 = true) (hfr : Nat.ble (Y'.2.2.2.2.1 + 1) Y.2.2.2.2.1 = true) (hlo : Nat.ble (mm_wd st + (Y'.2.2.1 + 11) + Y'.2.2.2.2.2.1) Y.2.2.2.2.2.1 = true)
    (hC : mm_C X Y' n n' [(2, r), a1, a2] M Ψ) (k : ∀ r M1, Ψ r M1 → mm_Kc X Y n0 n1 n' q ls st Φ r M1) : mm_J X Y n0 n1 n pc ls (a2 :: a1 :: (2, r) :: st) M Φ :=
  mm_callI hd hq hw hr (as := [a1, a2]) rfl rfl hn (by intro v hv; simp at hv; rcases hv with rfl | rfl; exact h1; exact h2) (Nat.le_of_ble_eq_true hpad) (Nat.le_of_ble_eq_true hfr) (Nat.le_of_ble_eq_true hlo) hC k
theorem mm_I3g (hd : mm_D Y.2.1 pc q (.invokespecial idx)) (hq : pc + 3 = q) (hw : mm_LI Y.1.cls idx Y' 3) (hr : r = (c : Int) + 1) (hn : mm_le n0 n n' n1) (h1 : a1.1 ≠ 9) (h2 : a2.1 ≠ 9) (h3 : a3.1 ≠ 9) (hpad : Nat.ble (mm_dbl [(2, r), a1, a2, a3]).length Y'.2.2.1 = true) (hfr : Nat.ble (Y'.2.2.2.2.1 + 1) Y.2.2.2.2.1 = true) (hlo : Nat.ble (mm_wd st + (Y'.2.2.1 + 11) + Y'.2.2.2.2.2.1) Y.2.2.2.2.2.1 = true)
    (hC : mm_C X Y' n n' [(2, r), a1, a2, a3] M Ψ) (k : ∀ r M1, Ψ r M1 → mm_Kc X Y n0 n1 n' q ls st Φ r M1) : mm_J X Y n0 n1 n pc ls (a3 :: a2 :: a1 :: (2, r) :: st) M Φ :=
  mm_callI hd hq hw hr (as := [a1, a2, a3]) rfl rfl hn (by intro v hv; simp at hv; rcases hv with rfl | rfl | rfl; exact h1; exact h2; exact h3) (Nat.le_of_ble_eq_true hpad) (Nat.le_of_ble_eq_true hfr) (Nat.le_of_ble_eq_true hlo) hC k
end
/-- the memory with the cells c .. n - 1 just made: nothing in them but the references of the layout and what is excepted; the cells before are as they were -/
def mm_bn (M M' : mm_M) (c n : Nat) (E : Nat → Nat → Prop) : Prop := (∀ a, a < c → M' a = M a) ∧ ∀ a b, c ≤ a → a < n → ¬ E a b → M' a b = mm_rt a b
theorem mm_rt_no {c b : Nat} (L : List Nat) (h : mm_rl.all (fun q => q.1 != c || L.contains q.2.1) = true) (hb : ¬ L.contains b = true) : mm_rt c b = 0 := by
  unfold mm_rt
  have : mm_rl.find? (fun q => q.1 == c && q.2.1 == b) = none := by
    rw [List.find?_eq_none]
    intro q hq hc
    have k := List.all_eq_true.mp h q hq
    simp only [Bool.and_eq_true, beq_iff_eq] at hc
    rw [hc.1, hc.2] at k
    simp only [bne_self_eq_false, Bool.false_or] at k
    exact hb k
  rw [this]
  rfl
section
variable {X : mm_X} {M : mm_M}
theorem c_X9_init (hz : ∀ b, M 18 b = 0) : mm_C X Y_X9_init 19 21 [(2, 19), (2, 4)] M (fun r M' => r = (3, 0) ∧ mm_bn M M' 18 21 (fun a b => False)) := by
  refine mm_start (ls := [(2, 19), (2, 4)]) rfl ?_
  refine mm_aload_n dX9_init_0 rfl rfl ?_
  refine mm_oinit' (c := 18) dX9_init_1 rfl oi_X9_5 rfl rfl rfl ?_
  refine mm_aload_n dX9_init_4 rfl rfl ?_
  refine mm_bipush dX9_init_5 rfl (by decide) ?_
  refine mm_newarr' (n := 19) (t := 0) dX9_init_7 rfl rfl (by decide) rfl rfl ac_0 ⟨by decide, by decide, by decide +kernel, by decide +kernel, by decide +kernel⟩ (fun M7 hM7 => ?_)
  refine mm_putr' dX9_init_9 rfl fl_X9_11 (by first | exact Or.inl ⟨_, rfl⟩ | exact Or.inr ⟨_, rfl⟩) rfl fr_X9 (c := 18) rfl (by decide) rfl rfl (fun M9 hM9 => ?_)
  refine mm_aload_n dX9_init_12 rfl rfl ?_
  refine mm_bipush dX9_init_13 rfl (by decide) ?_
  refine mm_newarr' (n := 20) (t := 0) dX9_init_15 rfl rfl (by decide) rfl rfl ac_0 ⟨by decide, by decide, by decide +kernel, by decide +kernel, by decide +kernel⟩ (fun M15 hM15 => ?_)
  refine mm_putr' dX9_init_17 rfl fl_X9_15 (by first | exact Or.inl ⟨_, rfl⟩ | exact Or.inr ⟨_, rfl⟩) rfl fr_X9 (c := 18) rfl (by decide) rfl rfl (fun M17 hM17 => ?_)
  refine mm_aload_n dX9_init_20 rfl rfl ?_
  refine mm_aload_n dX9_init_21 rfl rfl ?_
  refine mm_putr' dX9_init_22 rfl fl_X9_18 (by first | exact Or.inl ⟨_, rfl⟩ | exact Or.inr ⟨_, rfl⟩) rfl fr_X9 (c := 18) rfl (by decide) rfl rfl (fun M22 hM22 => ?_)
  refine mm_vret dX9_init_25 rfl rfl ?_
  refine ⟨rfl, ⟨?_, ?_⟩⟩
  · intro a ha
    have e18 : a ≠ 18 := by omega
    have e19 : a ≠ 19 := by omega
    have e20 : a ≠ 20 := by omega
    funext b; simp [hM22, hM17, hM15, hM9, hM7, mm_up, mm_z, e18, e19, e20]
  · intro a b h1 h2 hE
    rcases (show a = 18 ∨ a = 19 ∨ a = 20 by omega) with e | e | e
    · subst e
      by_cases q0 : b = 0
      · subst q0; simp [hM22, hM17, hM15, hM9, hM7, mm_up, mm_z]; rfl
      by_cases q2 : b = 2
      · subst q2; simp [hM22, hM17, hM15, hM9, hM7, mm_up, mm_z]; rfl
      by_cases q3 : b = 3
      · subst q3; simp [hM22, hM17, hM15, hM9, hM7, mm_up, mm_z]; rfl
      rw [mm_rt_no [0, 2, 3] (by decide +kernel) (by simp [q0, q2, q3])]
      simp [hM22, hM17, hM15, hM9, hM7, mm_up, mm_z, q0, q2, q3]; exact hz b
    · subst e; rw [mm_rt_ar (t := 0) rfl (by decide)]; simp [hM22, hM17, hM15, hM9, hM7, mm_up, mm_z]
    · subst e; rw [mm_rt_ar (t := 0) rfl (by decide)]; simp [hM22, hM17, hM15, hM9, hM7, mm_up, mm_z]
theorem c_X2_init (hz : ∀ b, M 139 b = 0) : mm_C X Y_X2_init 140 144 [(2, 140), (2, 4), (2, 12), (2, 19)] M (fun r M' => r = (3, 0) ∧ mm_bn M M' 139 144 (fun a b => False)) := by
  refine mm_start (ls := [(2, 140), (2, 4), (2, 12), (2, 19)]) rfl ?_
  refine mm_aload_n dX2_init_0 rfl rfl ?_
  refine mm_oinit' (c := 139) dX2_init_1 rfl oi_X2_3 rfl rfl rfl ?_
  refine mm_aload_n dX2_init_4 rfl rfl ?_
  refine mm_sipush dX2_init_5 rfl (by decide) ?_
  refine mm_newarr' (n := 140) (t := 0) dX2_init_8 rfl rfl (by decide) rfl rfl ac_0 ⟨by decide, by decide, by decide +kernel, by decide +kernel, by decide +kernel⟩ (fun M8 hM8 => ?_)
  refine mm_putr' dX2_init_10 rfl fl_X2_11 (by first | exact Or.inl ⟨_, rfl⟩ | exact Or.inr ⟨_, rfl⟩) rfl fr_X2 (c := 139) rfl (by decide) rfl rfl (fun M10 hM10 => ?_)
  refine mm_aload_n dX2_init_13 rfl rfl ?_
  refine mm_sipush dX2_init_14 rfl (by decide) ?_
  refine mm_newarr' (n := 141) (t := 0) dX2_init_17 rfl rfl (by decide) rfl rfl ac_0 ⟨by decide, by decide, by decide +kernel, by decide +kernel, by decide +kernel⟩ (fun M17 hM17 => ?_)
  refine mm_putr' dX2_init_19 rfl fl_X2_17 (by first | exact Or.inl ⟨_, rfl⟩ | exact Or.inr ⟨_, rfl⟩) rfl fr_X2 (c := 139) rfl (by decide) rfl rfl (fun M19 hM19 => ?_)
  refine mm_aload_n dX2_init_22 rfl rfl ?_
  refine mm_sipush dX2_init_23 rfl (by decide) ?_
  refine mm_newarr' (n := 142) (t := 0) dX2_init_26 rfl rfl (by decide) rfl rfl ac_0 ⟨by decide, by decide, by decide +kernel, by decide +kernel, by decide +kernel⟩ (fun M26 hM26 => ?_)
  refine mm_putr' dX2_init_28 rfl fl_X2_20 (by first | exact Or.inl ⟨_, rfl⟩ | exact Or.inr ⟨_, rfl⟩) rfl fr_X2 (c := 139) rfl (by decide) rfl rfl (fun M28 hM28 => ?_)
  refine mm_aload_n dX2_init_31 rfl rfl ?_
  refine mm_sipush dX2_init_32 rfl (by decide) ?_
  refine mm_newarr' (n := 143) (t := 2) dX2_init_35 rfl rfl (by decide) rfl rfl ac_2 ⟨by decide, by decide, by decide +kernel, by decide +kernel, by decide +kernel⟩ (fun M35 hM35 => ?_)
  refine mm_putr' dX2_init_37 rfl fl_X2_23 (by first | exact Or.inl ⟨_, rfl⟩ | exact Or.inr ⟨_, rfl⟩) rfl fr_X2 (c := 139) rfl (by decide) rfl rfl (fun M37 hM37 => ?_)
  refine mm_aload_n dX2_init_40 rfl rfl ?_
  refine mm_aload_n dX2_init_41 rfl rfl ?_
  refine mm_putr' dX2_init_42 rfl fl_X2_27 (by first | exact Or.inl ⟨_, rfl⟩ | exact Or.inr ⟨_, rfl⟩) rfl fr_X2 (c := 139) rfl (by decide) rfl rfl (fun M42 hM42 => ?_)
  refine mm_aload_n dX2_init_45 rfl rfl ?_
  refine mm_aload_n dX2_init_46 rfl rfl ?_
  refine mm_putr' dX2_init_47 rfl fl_X2_31 (by first | exact Or.inl ⟨_, rfl⟩ | exact Or.inr ⟨_, rfl⟩) rfl fr_X2 (c := 139) rfl (by decide) rfl rfl (fun M47 hM47 => ?_)
  refine mm_aload_n dX2_init_50 rfl rfl ?_
  refine mm_aload_n dX2_init_51 rfl rfl ?_
  refine mm_putr' dX2_init_52 rfl fl_X2_35 (by first | exact Or.inl ⟨_, rfl⟩ | exact Or.inr ⟨_, rfl⟩) rfl fr_X2 (c := 139) rfl (by decide) rfl rfl (fun M52 hM52 => ?_)
  refine mm_vret dX2_init_55 rfl rfl ?_
  refine ⟨rfl, ⟨?_, ?_⟩⟩
  · intro a ha
    have e139 : a ≠ 139 := by omega
    have e140 : a ≠ 140 := by omega
    have e141 : a ≠ 141 := by omega
    have e142 : a ≠ 142 := by omega
    have e143 : a ≠ 143 := by omega
    funext b; simp [hM52, hM47, hM42, hM37, hM35, hM28, hM26, hM19, hM17, hM10, hM8, mm_up, mm_z, e139, e140, e141, e142, e143]
  · intro a b h1 h2 hE
    rcases (show a = 139 ∨ a = 140 ∨ a = 141 ∨ a = 142 ∨ a = 143 by omega) with e | e | e | e | e
    · subst e
      by_cases q0 : b = 0
      · subst q0; simp [hM52, hM47, hM42, hM37, hM35, hM28, hM26, hM19, hM17, hM10, hM8, mm_up, mm_z]; rfl
      by_cases q1 : b = 1
      · subst q1; simp [hM52, hM47, hM42, hM37, hM35, hM28, hM26, hM19, hM17, hM10, hM8, mm_up, mm_z]; rfl
      by_cases q2 : b = 2
      · subst q2; simp [hM52, hM47, hM42, hM37, hM35, hM28, hM26, hM19, hM17, hM10, hM8, mm_up, mm_z]; rfl
      by_cases q8 : b = 8
      · subst q8; simp [hM52, hM47, hM42, hM37, hM35, hM28, hM26, hM19, hM17, hM10, hM8, mm_up, mm_z]; rfl
      by_cases q9 : b = 9
      · subst q9; simp [hM52, hM47, hM42, hM37, hM35, hM28, hM26, hM19, hM17, hM10, hM8, mm_up, mm_z]; rfl
      by_cases q10 : b = 10
      · subst q10; simp [hM52, hM47, hM42, hM37, hM35, hM28, hM26, hM19, hM17, hM10, hM8, mm_up, mm_z]; rfl
      by_cases q11 : b = 11
      · subst q11; simp [hM52, hM47, hM42, hM37, hM35, hM28, hM26, hM19, hM17, hM10, hM8, mm_up, mm_z]; rfl
      rw [mm_rt_no [0, 1, 2, 8, 9, 10, 11] (by decide +kernel) (by simp [q0, q1, q2, q8, q9, q10, q11])]
      simp [hM52, hM47, hM42, hM37, hM35, hM28, hM26, hM19, hM17, hM10, hM8, mm_up, mm_z, q0, q1, q2, q8, q9, q10, q11]; exact hz b
    · subst e; rw [mm_rt_ar (t := 0) rfl (by decide)]; simp [hM52, hM47, hM42, hM37, hM35, hM28, hM26, hM19, hM17, hM10, hM8, mm_up, mm_z]
    · subst e; rw [mm_rt_ar (t := 0) rfl (by decide)]; simp [hM52, hM47, hM42, hM37, hM35, hM28, hM26, hM19, hM17, hM10, hM8, mm_up, mm_z]
    · subst e; rw [mm_rt_ar (t := 0) rfl (by decide)]; simp [hM52, hM47, hM42, hM37, hM35, hM28, hM26, hM19, hM17, hM10, hM8, mm_up, mm_z]
    · subst e; rw [mm_rt_ar (t := 2) rfl (by decide)]; simp [hM52, hM47, hM42, hM37, hM35, hM28, hM26, hM19, hM17, hM10, hM8, mm_up, mm_z]
theorem c_X6_init (hz : ∀ b, M 28 b = 0) : mm_C X Y_X6_init 29 42 [(2, 29), (2, 4), (2, 12)] M (fun r M' => r = (3, 0) ∧ mm_bn M M' 28 42 (fun a b => False)) := by
  refine mm_start (ls := [(2, 29), (2, 4), (2, 12)]) rfl ?_
  refine mm_aload_n dX6_init_0 rfl rfl ?_
  refine mm_oinit' (c := 28) dX6_init_1 rfl oi_X6_5 rfl rfl rfl ?_
  refine mm_aload_n dX6_init_4 rfl rfl ?_
  refine mm_sipush dX6_init_5 rfl (by decide) ?_
  refine mm_newarr' (n := 29) (t := 0) dX6_init_8 rfl rfl (by decide) rfl rfl ac_0 ⟨by decide, by decide, by decide +kernel, by decide +kernel, by decide +kernel⟩ (fun M8 hM8 => ?_)
  refine mm_putr' dX6_init_10 rfl fl_X6_13 (by first | exact Or.inl ⟨_, rfl⟩ | exact Or.inr ⟨_, rfl⟩) rfl fr_X6 (c := 28) rfl (by decide) rfl rfl (fun M10 hM10 => ?_)
  refine mm_aload_n dX6_init_13 rfl rfl ?_
  refine mm_sipush dX6_init_14 rfl (by decide) ?_
  refine mm_newarr' (n := 30) (t := 0) dX6_init_17 rfl rfl (by decide) rfl rfl ac_0 ⟨by decide, by decide, by decide +kernel, by decide +kernel, by decide +kernel⟩ (fun M17 hM17 => ?_)
  refine mm_putr' dX6_init_19 rfl fl_X6_17 (by first | exact Or.inl ⟨_, rfl⟩ | exact Or.inr ⟨_, rfl⟩) rfl fr_X6 (c := 28) rfl (by decide) rfl rfl (fun M19 hM19 => ?_)
  refine mm_aload_n dX6_init_22 rfl rfl ?_
  refine mm_sipush dX6_init_23 rfl (by decide) ?_
  refine mm_newarr' (n := 31) (t := 0) dX6_init_26 rfl rfl (by decide) rfl rfl ac_0 ⟨by decide, by decide, by decide +kernel, by decide +kernel, by decide +kernel⟩ (fun M26 hM26 => ?_)
  refine mm_putr' dX6_init_28 rfl fl_X6_20 (by first | exact Or.inl ⟨_, rfl⟩ | exact Or.inr ⟨_, rfl⟩) rfl fr_X6 (c := 28) rfl (by decide) rfl rfl (fun M28 hM28 => ?_)
  refine mm_aload_n dX6_init_31 rfl rfl ?_
  refine mm_sipush dX6_init_32 rfl (by decide) ?_
  refine mm_newarr' (n := 32) (t := 0) dX6_init_35 rfl rfl (by decide) rfl rfl ac_0 ⟨by decide, by decide, by decide +kernel, by decide +kernel, by decide +kernel⟩ (fun M35 hM35 => ?_)
  refine mm_putr' dX6_init_37 rfl fl_X6_23 (by first | exact Or.inl ⟨_, rfl⟩ | exact Or.inr ⟨_, rfl⟩) rfl fr_X6 (c := 28) rfl (by decide) rfl rfl (fun M37 hM37 => ?_)
  refine mm_aload_n dX6_init_40 rfl rfl ?_
  refine mm_sipush dX6_init_41 rfl (by decide) ?_
  refine mm_newarr' (n := 33) (t := 0) dX6_init_44 rfl rfl (by decide) rfl rfl ac_0 ⟨by decide, by decide, by decide +kernel, by decide +kernel, by decide +kernel⟩ (fun M44 hM44 => ?_)
  refine mm_putr' dX6_init_46 rfl fl_X6_26 (by first | exact Or.inl ⟨_, rfl⟩ | exact Or.inr ⟨_, rfl⟩) rfl fr_X6 (c := 28) rfl (by decide) rfl rfl (fun M46 hM46 => ?_)
  refine mm_aload_n dX6_init_49 rfl rfl ?_
  refine mm_sipush dX6_init_50 rfl (by decide) ?_
  refine mm_newarr' (n := 34) (t := 0) dX6_init_53 rfl rfl (by decide) rfl rfl ac_0 ⟨by decide, by decide, by decide +kernel, by decide +kernel, by decide +kernel⟩ (fun M53 hM53 => ?_)
  refine mm_putr' dX6_init_55 rfl fl_X6_29 (by first | exact Or.inl ⟨_, rfl⟩ | exact Or.inr ⟨_, rfl⟩) rfl fr_X6 (c := 28) rfl (by decide) rfl rfl (fun M55 hM55 => ?_)
  refine mm_aload_n dX6_init_58 rfl rfl ?_
  refine mm_sipush dX6_init_59 rfl (by decide) ?_
  refine mm_newarr' (n := 35) (t := 0) dX6_init_62 rfl rfl (by decide) rfl rfl ac_0 ⟨by decide, by decide, by decide +kernel, by decide +kernel, by decide +kernel⟩ (fun M62 hM62 => ?_)
  refine mm_putr' dX6_init_64 rfl fl_X6_32 (by first | exact Or.inl ⟨_, rfl⟩ | exact Or.inr ⟨_, rfl⟩) rfl fr_X6 (c := 28) rfl (by decide) rfl rfl (fun M64 hM64 => ?_)
  refine mm_aload_n dX6_init_67 rfl rfl ?_
  refine mm_sipush dX6_init_68 rfl (by decide) ?_
  refine mm_newarr' (n := 36) (t := 3) dX6_init_71 rfl rfl (by decide) rfl rfl ac_3 ⟨by decide, by decide, by decide +kernel, by decide +kernel, by decide +kernel⟩ (fun M71 hM71 => ?_)
  refine mm_putr' dX6_init_73 rfl fl_X6_35 (by first | exact Or.inl ⟨_, rfl⟩ | exact Or.inr ⟨_, rfl⟩) rfl fr_X6 (c := 28) rfl (by decide) rfl rfl (fun M73 hM73 => ?_)
  refine mm_aload_n dX6_init_76 rfl rfl ?_
  refine mm_sipush dX6_init_77 rfl (by decide) ?_
  refine mm_newarr' (n := 37) (t := 0) dX6_init_80 rfl rfl (by decide) rfl rfl ac_0 ⟨by decide, by decide, by decide +kernel, by decide +kernel, by decide +kernel⟩ (fun M80 hM80 => ?_)
  refine mm_putr' dX6_init_82 rfl fl_X6_39 (by first | exact Or.inl ⟨_, rfl⟩ | exact Or.inr ⟨_, rfl⟩) rfl fr_X6 (c := 28) rfl (by decide) rfl rfl (fun M82 hM82 => ?_)
  refine mm_aload_n dX6_init_85 rfl rfl ?_
  refine mm_sipush dX6_init_86 rfl (by decide) ?_
  refine mm_newarr' (n := 38) (t := 2) dX6_init_89 rfl rfl (by decide) rfl rfl ac_2 ⟨by decide, by decide, by decide +kernel, by decide +kernel, by decide +kernel⟩ (fun M89 hM89 => ?_)
  refine mm_putr' dX6_init_91 rfl fl_X6_42 (by first | exact Or.inl ⟨_, rfl⟩ | exact Or.inr ⟨_, rfl⟩) rfl fr_X6 (c := 28) rfl (by decide) rfl rfl (fun M91 hM91 => ?_)
  refine mm_aload_n dX6_init_94 rfl rfl ?_
  refine mm_sipush dX6_init_95 rfl (by decide) ?_
  refine mm_newarr' (n := 39) (t := 0) dX6_init_98 rfl rfl (by decide) rfl rfl ac_0 ⟨by decide, by decide, by decide +kernel, by decide +kernel, by decide +kernel⟩ (fun M98 hM98 => ?_)
  refine mm_putr' dX6_init_100 rfl fl_X6_46 (by first | exact Or.inl ⟨_, rfl⟩ | exact Or.inr ⟨_, rfl⟩) rfl fr_X6 (c := 28) rfl (by decide) rfl rfl (fun M100 hM100 => ?_)
  refine mm_aload_n dX6_init_103 rfl rfl ?_
  refine mm_sipush dX6_init_104 rfl (by decide) ?_
  refine mm_newarr' (n := 40) (t := 0) dX6_init_107 rfl rfl (by decide) rfl rfl ac_0 ⟨by decide, by decide, by decide +kernel, by decide +kernel, by decide +kernel⟩ (fun M107 hM107 => ?_)
  refine mm_putr' dX6_init_109 rfl fl_X6_49 (by first | exact Or.inl ⟨_, rfl⟩ | exact Or.inr ⟨_, rfl⟩) rfl fr_X6 (c := 28) rfl (by decide) rfl rfl (fun M109 hM109 => ?_)
  refine mm_aload_n dX6_init_112 rfl rfl ?_
  refine mm_sipush dX6_init_113 rfl (by decide) ?_
  refine mm_newarr' (n := 41) (t := 0) dX6_init_116 rfl rfl (by decide) rfl rfl ac_0 ⟨by decide, by decide, by decide +kernel, by decide +kernel, by decide +kernel⟩ (fun M116 hM116 => ?_)
  refine mm_putr' dX6_init_118 rfl fl_X6_52 (by first | exact Or.inl ⟨_, rfl⟩ | exact Or.inr ⟨_, rfl⟩) rfl fr_X6 (c := 28) rfl (by decide) rfl rfl (fun M118 hM118 => ?_)
  refine mm_aload_n dX6_init_121 rfl rfl ?_
  refine mm_aload_n dX6_init_122 rfl rfl ?_
  refine mm_putr' dX6_init_123 rfl fl_X6_55 (by first | exact Or.inl ⟨_, rfl⟩ | exact Or.inr ⟨_, rfl⟩) rfl fr_X6 (c := 28) rfl (by decide) rfl rfl (fun M123 hM123 => ?_)
  refine mm_aload_n dX6_init_126 rfl rfl ?_
  refine mm_aload_n dX6_init_127 rfl rfl ?_
  refine mm_putr' dX6_init_128 rfl fl_X6_59 (by first | exact Or.inl ⟨_, rfl⟩ | exact Or.inr ⟨_, rfl⟩) rfl fr_X6 (c := 28) rfl (by decide) rfl rfl (fun M128 hM128 => ?_)
  refine mm_vret dX6_init_131 rfl rfl ?_
  refine ⟨rfl, ⟨?_, ?_⟩⟩
  · intro a ha
    have e28 : a ≠ 28 := by omega
    have e29 : a ≠ 29 := by omega
    have e30 : a ≠ 30 := by omega
    have e31 : a ≠ 31 := by omega
    have e32 : a ≠ 32 := by omega
    have e33 : a ≠ 33 := by omega
    have e34 : a ≠ 34 := by omega
    have e35 : a ≠ 35 := by omega
    have e36 : a ≠ 36 := by omega
    have e37 : a ≠ 37 := by omega
    have e38 : a ≠ 38 := by omega
    have e39 : a ≠ 39 := by omega
    have e40 : a ≠ 40 := by omega
    have e41 : a ≠ 41 := by omega
    funext b; simp [hM128, hM123, hM118, hM116, hM109, hM107, hM100, hM98, hM91, hM89, hM82, hM80, hM73, hM71, hM64, hM62, hM55, hM53, hM46, hM44, hM37, hM35, hM28, hM26, hM19, hM17, hM10, hM8, mm_up, mm_z, e28, e29, e30, e31, e32, e33, e34, e35, e36, e37, e38, e39, e40, e41]
  · intro a b h1 h2 hE
    rcases (show a = 28 ∨ a = 29 ∨ a = 30 ∨ a = 31 ∨ a = 32 ∨ a = 33 ∨ a = 34 ∨ a = 35 ∨ a = 36 ∨ a = 37 ∨ a = 38 ∨ a = 39 ∨ a = 40 ∨ a = 41 by omega) with e | e | e | e | e | e | e | e | e | e | e | e | e | e
    · subst e
      by_cases q0 : b = 0
      · subst q0; simp [hM128, hM123, hM118, hM116, hM109, hM107, hM100, hM98, hM91, hM89, hM82, hM80, hM73, hM71, hM64, hM62, hM55, hM53, hM46, hM44, hM37, hM35, hM28, hM26, hM19, hM17, hM10, hM8, mm_up, mm_z]; rfl
      by_cases q1 : b = 1
      · subst q1; simp [hM128, hM123, hM118, hM116, hM109, hM107, hM100, hM98, hM91, hM89, hM82, hM80, hM73, hM71, hM64, hM62, hM55, hM53, hM46, hM44, hM37, hM35, hM28, hM26, hM19, hM17, hM10, hM8, mm_up, mm_z]; rfl
      by_cases q2 : b = 2
      · subst q2; simp [hM128, hM123, hM118, hM116, hM109, hM107, hM100, hM98, hM91, hM89, hM82, hM80, hM73, hM71, hM64, hM62, hM55, hM53, hM46, hM44, hM37, hM35, hM28, hM26, hM19, hM17, hM10, hM8, mm_up, mm_z]; rfl
      by_cases q3 : b = 3
      · subst q3; simp [hM128, hM123, hM118, hM116, hM109, hM107, hM100, hM98, hM91, hM89, hM82, hM80, hM73, hM71, hM64, hM62, hM55, hM53, hM46, hM44, hM37, hM35, hM28, hM26, hM19, hM17, hM10, hM8, mm_up, mm_z]; rfl
      by_cases q4 : b = 4
      · subst q4; simp [hM128, hM123, hM118, hM116, hM109, hM107, hM100, hM98, hM91, hM89, hM82, hM80, hM73, hM71, hM64, hM62, hM55, hM53, hM46, hM44, hM37, hM35, hM28, hM26, hM19, hM17, hM10, hM8, mm_up, mm_z]; rfl
      by_cases q5 : b = 5
      · subst q5; simp [hM128, hM123, hM118, hM116, hM109, hM107, hM100, hM98, hM91, hM89, hM82, hM80, hM73, hM71, hM64, hM62, hM55, hM53, hM46, hM44, hM37, hM35, hM28, hM26, hM19, hM17, hM10, hM8, mm_up, mm_z]; rfl
      by_cases q6 : b = 6
      · subst q6; simp [hM128, hM123, hM118, hM116, hM109, hM107, hM100, hM98, hM91, hM89, hM82, hM80, hM73, hM71, hM64, hM62, hM55, hM53, hM46, hM44, hM37, hM35, hM28, hM26, hM19, hM17, hM10, hM8, mm_up, mm_z]; rfl
      by_cases q7 : b = 7
      · subst q7; simp [hM128, hM123, hM118, hM116, hM109, hM107, hM100, hM98, hM91, hM89, hM82, hM80, hM73, hM71, hM64, hM62, hM55, hM53, hM46, hM44, hM37, hM35, hM28, hM26, hM19, hM17, hM10, hM8, mm_up, mm_z]; rfl
      by_cases q8 : b = 8
      · subst q8; simp [hM128, hM123, hM118, hM116, hM109, hM107, hM100, hM98, hM91, hM89, hM82, hM80, hM73, hM71, hM64, hM62, hM55, hM53, hM46, hM44, hM37, hM35, hM28, hM26, hM19, hM17, hM10, hM8, mm_up, mm_z]; rfl
      by_cases q9 : b = 9
      · subst q9; simp [hM128, hM123, hM118, hM116, hM109, hM107, hM100, hM98, hM91, hM89, hM82, hM80, hM73, hM71, hM64, hM62, hM55, hM53, hM46, hM44, hM37, hM35, hM28, hM26, hM19, hM17, hM10, hM8, mm_up, mm_z]; rfl
      by_cases q10 : b = 10
      · subst q10; simp [hM128, hM123, hM118, hM116, hM109, hM107, hM100, hM98, hM91, hM89, hM82, hM80, hM73, hM71, hM64, hM62, hM55, hM53, hM46, hM44, hM37, hM35, hM28, hM26, hM19, hM17, hM10, hM8, mm_up, mm_z]; rfl
      by_cases q11 : b = 11
      · subst q11; simp [hM128, hM123, hM118, hM116, hM109, hM107, hM100, hM98, hM91, hM89, hM82, hM80, hM73, hM71, hM64, hM62, hM55, hM53, hM46, hM44, hM37, hM35, hM28, hM26, hM19, hM17, hM10, hM8, mm_up, mm_z]; rfl
      by_cases q12 : b = 12
      · subst q12; simp [hM128, hM123, hM118, hM116, hM109, hM107, hM100, hM98, hM91, hM89, hM82, hM80, hM73, hM71, hM64, hM62, hM55, hM53, hM46, hM44, hM37, hM35, hM28, hM26, hM19, hM17, hM10, hM8, mm_up, mm_z]; rfl
      by_cases q13 : b = 13
      · subst q13; simp [hM128, hM123, hM118, hM116, hM109, hM107, hM100, hM98, hM91, hM89, hM82, hM80, hM73, hM71, hM64, hM62, hM55, hM53, hM46, hM44, hM37, hM35, hM28, hM26, hM19, hM17, hM10, hM8, mm_up, mm_z]; rfl
      by_cases q14 : b = 14
      · subst q14; simp [hM128, hM123, hM118, hM116, hM109, hM107, hM100, hM98, hM91, hM89, hM82, hM80, hM73, hM71, hM64, hM62, hM55, hM53, hM46, hM44, hM37, hM35, hM28, hM26, hM19, hM17, hM10, hM8, mm_up, mm_z]; rfl
      rw [mm_rt_no [0, 1, 2, 3, 4, 5, 6, 7, 8, 9, 10, 11, 12, 13, 14] (by decide +kernel) (by simp [q0, q1, q2, q3, q4, q5, q6, q7, q8, q9, q10, q11, q12, q13, q14])]
      simp [hM128, hM123, hM118, hM116, hM109, hM107, hM100, hM98, hM91, hM89, hM82, hM80, hM73, hM71, hM64, hM62, hM55, hM53, hM46, hM44, hM37, hM35, hM28, hM26, hM19, hM17, hM10, hM8, mm_up, mm_z, q0, q1, q2, q3, q4, q5, q6, q7, q8, q9, q10, q11, q12, q13, q14]; exact hz b
    · subst e; rw [mm_rt_ar (t := 0) rfl (by decide)]; simp [hM128, hM123, hM118, hM116, hM109, hM107, hM100, hM98, hM91, hM89, hM82, hM80, hM73, hM71, hM64, hM62, hM55, hM53, hM46, hM44, hM37, hM35, hM28, hM26, hM19, hM17, hM10, hM8, mm_up, mm_z]
    · subst e; rw [mm_rt_ar (t := 0) rfl (by decide)]; simp [hM128, hM123, hM118, hM116, hM109, hM107, hM100, hM98, hM91, hM89, hM82, hM80, hM73, hM71, hM64, hM62, hM55, hM53, hM46, hM44, hM37, hM35, hM28, hM26, hM19, hM17, hM10, hM8, mm_up, mm_z]
    · subst e; rw [mm_rt_ar (t := 0) rfl (by decide)]; simp [hM128, hM123, hM118, hM116, hM109, hM107, hM100, hM98, hM91, hM89, hM82, hM80, hM73, hM71, hM64, hM62, hM55, hM53, hM46, hM44, hM37, hM35, hM28, hM26, hM19, hM17, hM10, hM8, mm_up, mm_z]
    · subst e; rw [mm_rt_ar (t := 0) rfl (by decide)]; simp [hM128, hM123, hM118, hM116, hM109, hM107, hM100, hM98, hM91, hM89, hM82, hM80, hM73, hM71, hM64, hM62, hM55, hM53, hM46, hM44, hM37, hM35, hM28, hM26, hM19, hM17, hM10, hM8, mm_up, mm_z]
    · subst e; rw [mm_rt_ar (t := 0) rfl (by decide)]; simp [hM128, hM123, hM118, hM116, hM109, hM107, hM100, hM98, hM91, hM89, hM82, hM80, hM73, hM71, hM64, hM62, hM55, hM53, hM46, hM44, hM37, hM35, hM28, hM26, hM19, hM17, hM10, hM8, mm_up, mm_z]
    · subst e; rw [mm_rt_ar (t := 0) rfl (by decide)]; simp [hM128, hM123, hM118, hM116, hM109, hM107, hM100, hM98, hM91, hM89, hM82, hM80, hM73, hM71, hM64, hM62, hM55, hM53, hM46, hM44, hM37, hM35, hM28, hM26, hM19, hM17, hM10, hM8, mm_up, mm_z]
    · subst e; rw [mm_rt_ar (t := 0) rfl (by decide)]; simp [hM128, hM123, hM118, hM116, hM109, hM107, hM100, hM98, hM91, hM89, hM82, hM80, hM73, hM71, hM64, hM62, hM55, hM53, hM46, hM44, hM37, hM35, hM28, hM26, hM19, hM17, hM10, hM8, mm_up, mm_z]
    · subst e; rw [mm_rt_ar (t := 3) rfl (by decide)]; simp [hM128, hM123, hM118, hM116, hM109, hM107, hM100, hM98, hM91, hM89, hM82, hM80, hM73, hM71, hM64, hM62, hM55, hM53, hM46, hM44, hM37, hM35, hM28, hM26, hM19, hM17, hM10, hM8, mm_up, mm_z]
    · subst e; rw [mm_rt_ar (t := 0) rfl (by decide)]; simp [hM128, hM123, hM118, hM116, hM109, hM107, hM100, hM98, hM91, hM89, hM82, hM80, hM73, hM71, hM64, hM62, hM55, hM53, hM46, hM44, hM37, hM35, hM28, hM26, hM19, hM17, hM10, hM8, mm_up, mm_z]
    · subst e; rw [mm_rt_ar (t := 2) rfl (by decide)]; simp [hM128, hM123, hM118, hM116, hM109, hM107, hM100, hM98, hM91, hM89, hM82, hM80, hM73, hM71, hM64, hM62, hM55, hM53, hM46, hM44, hM37, hM35, hM28, hM26, hM19, hM17, hM10, hM8, mm_up, mm_z]
    · subst e; rw [mm_rt_ar (t := 0) rfl (by decide)]; simp [hM128, hM123, hM118, hM116, hM109, hM107, hM100, hM98, hM91, hM89, hM82, hM80, hM73, hM71, hM64, hM62, hM55, hM53, hM46, hM44, hM37, hM35, hM28, hM26, hM19, hM17, hM10, hM8, mm_up, mm_z]
    · subst e; rw [mm_rt_ar (t := 0) rfl (by decide)]; simp [hM128, hM123, hM118, hM116, hM109, hM107, hM100, hM98, hM91, hM89, hM82, hM80, hM73, hM71, hM64, hM62, hM55, hM53, hM46, hM44, hM37, hM35, hM28, hM26, hM19, hM17, hM10, hM8, mm_up, mm_z]
    · subst e; rw [mm_rt_ar (t := 0) rfl (by decide)]; simp [hM128, hM123, hM118, hM116, hM109, hM107, hM100, hM98, hM91, hM89, hM82, hM80, hM73, hM71, hM64, hM62, hM55, hM53, hM46, hM44, hM37, hM35, hM28, hM26, hM19, hM17, hM10, hM8, mm_up, mm_z]
theorem c_X7_init (hz : ∀ b, M 174 b = 0) : mm_C X Y_X7_init 175 183 [(2, 175), (2, 4), (2, 12)] M (fun r M' => r = (3, 0) ∧ mm_bn M M' 174 183 (fun a b => False)) := by
  refine mm_start (ls := [(2, 175), (2, 4), (2, 12)]) rfl ?_
  refine mm_aload_n dX7_init_0 rfl rfl ?_
  refine mm_oinit' (c := 174) dX7_init_1 rfl oi_X7_3 rfl rfl rfl ?_
  refine mm_aload_n dX7_init_4 rfl rfl ?_
  refine mm_bipush dX7_init_5 rfl (by decide) ?_
  refine mm_newarr' (n := 175) (t := 0) dX7_init_7 rfl rfl (by decide) rfl rfl ac_0 ⟨by decide, by decide, by decide +kernel, by decide +kernel, by decide +kernel⟩ (fun M7 hM7 => ?_)
  refine mm_putr' dX7_init_9 rfl fl_X7_11 (by first | exact Or.inl ⟨_, rfl⟩ | exact Or.inr ⟨_, rfl⟩) rfl fr_X7 (c := 174) rfl (by decide) rfl rfl (fun M9 hM9 => ?_)
  refine mm_aload_n dX7_init_12 rfl rfl ?_
  refine mm_bipush dX7_init_13 rfl (by decide) ?_
  refine mm_newarr' (n := 176) (t := 0) dX7_init_15 rfl rfl (by decide) rfl rfl ac_0 ⟨by decide, by decide, by decide +kernel, by decide +kernel, by decide +kernel⟩ (fun M15 hM15 => ?_)
  refine mm_putr' dX7_init_17 rfl fl_X7_15 (by first | exact Or.inl ⟨_, rfl⟩ | exact Or.inr ⟨_, rfl⟩) rfl fr_X7 (c := 174) rfl (by decide) rfl rfl (fun M17 hM17 => ?_)
  refine mm_aload_n dX7_init_20 rfl rfl ?_
  refine mm_bipush dX7_init_21 rfl (by decide) ?_
  refine mm_newarr' (n := 177) (t := 0) dX7_init_23 rfl rfl (by decide) rfl rfl ac_0 ⟨by decide, by decide, by decide +kernel, by decide +kernel, by decide +kernel⟩ (fun M23 hM23 => ?_)
  refine mm_putr' dX7_init_25 rfl fl_X7_18 (by first | exact Or.inl ⟨_, rfl⟩ | exact Or.inr ⟨_, rfl⟩) rfl fr_X7 (c := 174) rfl (by decide) rfl rfl (fun M25 hM25 => ?_)
  refine mm_aload_n dX7_init_28 rfl rfl ?_
  refine mm_bipush dX7_init_29 rfl (by decide) ?_
  refine mm_newarr' (n := 178) (t := 0) dX7_init_31 rfl rfl (by decide) rfl rfl ac_0 ⟨by decide, by decide, by decide +kernel, by decide +kernel, by decide +kernel⟩ (fun M31 hM31 => ?_)
  refine mm_putr' dX7_init_33 rfl fl_X7_21 (by first | exact Or.inl ⟨_, rfl⟩ | exact Or.inr ⟨_, rfl⟩) rfl fr_X7 (c := 174) rfl (by decide) rfl rfl (fun M33 hM33 => ?_)
  refine mm_aload_n dX7_init_36 rfl rfl ?_
  refine mm_bipush dX7_init_37 rfl (by decide) ?_
  refine mm_newarr' (n := 179) (t := 0) dX7_init_39 rfl rfl (by decide) rfl rfl ac_0 ⟨by decide, by decide, by decide +kernel, by decide +kernel, by decide +kernel⟩ (fun M39 hM39 => ?_)
  refine mm_putr' dX7_init_41 rfl fl_X7_24 (by first | exact Or.inl ⟨_, rfl⟩ | exact Or.inr ⟨_, rfl⟩) rfl fr_X7 (c := 174) rfl (by decide) rfl rfl (fun M41 hM41 => ?_)
  refine mm_aload_n dX7_init_44 rfl rfl ?_
  refine mm_bipush dX7_init_45 rfl (by decide) ?_
  refine mm_newarr' (n := 180) (t := 0) dX7_init_47 rfl rfl (by decide) rfl rfl ac_0 ⟨by decide, by decide, by decide +kernel, by decide +kernel, by decide +kernel⟩ (fun M47 hM47 => ?_)
  refine mm_putr' dX7_init_49 rfl fl_X7_27 (by first | exact Or.inl ⟨_, rfl⟩ | exact Or.inr ⟨_, rfl⟩) rfl fr_X7 (c := 174) rfl (by decide) rfl rfl (fun M49 hM49 => ?_)
  refine mm_aload_n dX7_init_52 rfl rfl ?_
  refine mm_bipush dX7_init_53 rfl (by decide) ?_
  refine mm_newarr' (n := 181) (t := 0) dX7_init_55 rfl rfl (by decide) rfl rfl ac_0 ⟨by decide, by decide, by decide +kernel, by decide +kernel, by decide +kernel⟩ (fun M55 hM55 => ?_)
  refine mm_putr' dX7_init_57 rfl fl_X7_30 (by first | exact Or.inl ⟨_, rfl⟩ | exact Or.inr ⟨_, rfl⟩) rfl fr_X7 (c := 174) rfl (by decide) rfl rfl (fun M57 hM57 => ?_)
  refine mm_aload_n dX7_init_60 rfl rfl ?_
  refine mm_bipush dX7_init_61 rfl (by decide) ?_
  refine mm_newarr' (n := 182) (t := 0) dX7_init_63 rfl rfl (by decide) rfl rfl ac_0 ⟨by decide, by decide, by decide +kernel, by decide +kernel, by decide +kernel⟩ (fun M63 hM63 => ?_)
  refine mm_putr' dX7_init_65 rfl fl_X7_33 (by first | exact Or.inl ⟨_, rfl⟩ | exact Or.inr ⟨_, rfl⟩) rfl fr_X7 (c := 174) rfl (by decide) rfl rfl (fun M65 hM65 => ?_)
  refine mm_aload_n dX7_init_68 rfl rfl ?_
  refine mm_aload_n dX7_init_69 rfl rfl ?_
  refine mm_putr' dX7_init_70 rfl fl_X7_36 (by first | exact Or.inl ⟨_, rfl⟩ | exact Or.inr ⟨_, rfl⟩) rfl fr_X7 (c := 174) rfl (by decide) rfl rfl (fun M70 hM70 => ?_)
  refine mm_aload_n dX7_init_73 rfl rfl ?_
  refine mm_aload_n dX7_init_74 rfl rfl ?_
  refine mm_putr' dX7_init_75 rfl fl_X7_40 (by first | exact Or.inl ⟨_, rfl⟩ | exact Or.inr ⟨_, rfl⟩) rfl fr_X7 (c := 174) rfl (by decide) rfl rfl (fun M75 hM75 => ?_)
  refine mm_vret dX7_init_78 rfl rfl ?_
  refine ⟨rfl, ⟨?_, ?_⟩⟩
  · intro a ha
    have e174 : a ≠ 174 := by omega
    have e175 : a ≠ 175 := by omega
    have e176 : a ≠ 176 := by omega
    have e177 : a ≠ 177 := by omega
    have e178 : a ≠ 178 := by omega
    have e179 : a ≠ 179 := by omega
    have e180 : a ≠ 180 := by omega
    have e181 : a ≠ 181 := by omega
    have e182 : a ≠ 182 := by omega
    funext b; simp [hM75, hM70, hM65, hM63, hM57, hM55, hM49, hM47, hM41, hM39, hM33, hM31, hM25, hM23, hM17, hM15, hM9, hM7, mm_up, mm_z, e174, e175, e176, e177, e178, e179, e180, e181, e182]
  · intro a b h1 h2 hE
    rcases (show a = 174 ∨ a = 175 ∨ a = 176 ∨ a = 177 ∨ a = 178 ∨ a = 179 ∨ a = 180 ∨ a = 181 ∨ a = 182 by omega) with e | e | e | e | e | e | e | e | e
    · subst e
      by_cases q0 : b = 0
      · subst q0; simp [hM75, hM70, hM65, hM63, hM57, hM55, hM49, hM47, hM41, hM39, hM33, hM31, hM25, hM23, hM17, hM15, hM9, hM7, mm_up, mm_z]; rfl
      by_cases q1 : b = 1
      · subst q1; simp [hM75, hM70, hM65, hM63, hM57, hM55, hM49, hM47, hM41, hM39, hM33, hM31, hM25, hM23, hM17, hM15, hM9, hM7, mm_up, mm_z]; rfl
      by_cases q5 : b = 5
      · subst q5; simp [hM75, hM70, hM65, hM63, hM57, hM55, hM49, hM47, hM41, hM39, hM33, hM31, hM25, hM23, hM17, hM15, hM9, hM7, mm_up, mm_z]; rfl
      by_cases q6 : b = 6
      · subst q6; simp [hM75, hM70, hM65, hM63, hM57, hM55, hM49, hM47, hM41, hM39, hM33, hM31, hM25, hM23, hM17, hM15, hM9, hM7, mm_up, mm_z]; rfl
      by_cases q7 : b = 7
      · subst q7; simp [hM75, hM70, hM65, hM63, hM57, hM55, hM49, hM47, hM41, hM39, hM33, hM31, hM25, hM23, hM17, hM15, hM9, hM7, mm_up, mm_z]; rfl
      by_cases q8 : b = 8
      · subst q8; simp [hM75, hM70, hM65, hM63, hM57, hM55, hM49, hM47, hM41, hM39, hM33, hM31, hM25, hM23, hM17, hM15, hM9, hM7, mm_up, mm_z]; rfl
      by_cases q9 : b = 9
      · subst q9; simp [hM75, hM70, hM65, hM63, hM57, hM55, hM49, hM47, hM41, hM39, hM33, hM31, hM25, hM23, hM17, hM15, hM9, hM7, mm_up, mm_z]; rfl
      by_cases q10 : b = 10
      · subst q10; simp [hM75, hM70, hM65, hM63, hM57, hM55, hM49, hM47, hM41, hM39, hM33, hM31, hM25, hM23, hM17, hM15, hM9, hM7, mm_up, mm_z]; rfl
      by_cases q11 : b = 11
      · subst q11; simp [hM75, hM70, hM65, hM63, hM57, hM55, hM49, hM47, hM41, hM39, hM33, hM31, hM25, hM23, hM17, hM15, hM9, hM7, mm_up, mm_z]; rfl
      by_cases q12 : b = 12
      · subst q12; simp [hM75, hM70, hM65, hM63, hM57, hM55, hM49, hM47, hM41, hM39, hM33, hM31, hM25, hM23, hM17, hM15, hM9, hM7, mm_up, mm_z]; rfl
      rw [mm_rt_no [0, 1, 5, 6, 7, 8, 9, 10, 11, 12] (by decide +kernel) (by simp [q0, q1, q5, q6, q7, q8, q9, q10, q11, q12])]
      simp [hM75, hM70, hM65, hM63, hM57, hM55, hM49, hM47, hM41, hM39, hM33, hM31, hM25, hM23, hM17, hM15, hM9, hM7, mm_up, mm_z, q0, q1, q5, q6, q7, q8, q9, q10, q11, q12]; exact hz b
    · subst e; rw [mm_rt_ar (t := 0) rfl (by decide)]; simp [hM75, hM70, hM65, hM63, hM57, hM55, hM49, hM47, hM41, hM39, hM33, hM31, hM25, hM23, hM17, hM15, hM9, hM7, mm_up, mm_z]
    · subst e; rw [mm_rt_ar (t := 0) rfl (by decide)]; simp [hM75, hM70, hM65, hM63, hM57, hM55, hM49, hM47, hM41, hM39, hM33, hM31, hM25, hM23, hM17, hM15, hM9, hM7, mm_up, mm_z]
    · subst e; rw [mm_rt_ar (t := 0) rfl (by decide)]; simp [hM75, hM70, hM65, hM63, hM57, hM55, hM49, hM47, hM41, hM39, hM33, hM31, hM25, hM23, hM17, hM15, hM9, hM7, mm_up, mm_z]
    · subst e; rw [mm_rt_ar (t := 0) rfl (by decide)]; simp [hM75, hM70, hM65, hM63, hM57, hM55, hM49, hM47, hM41, hM39, hM33, hM31, hM25, hM23, hM17, hM15, hM9, hM7, mm_up, mm_z]
    · subst e; rw [mm_rt_ar (t := 0) rfl (by decide)]; simp [hM75, hM70, hM65, hM63, hM57, hM55, hM49, hM47, hM41, hM39, hM33, hM31, hM25, hM23, hM17, hM15, hM9, hM7, mm_up, mm_z]
    · subst e; rw [mm_rt_ar (t := 0) rfl (by decide)]; simp [hM75, hM70, hM65, hM63, hM57, hM55, hM49, hM47, hM41, hM39, hM33, hM31, hM25, hM23, hM17, hM15, hM9, hM7, mm_up, mm_z]
    · subst e; rw [mm_rt_ar (t := 0) rfl (by decide)]; simp [hM75, hM70, hM65, hM63, hM57, hM55, hM49, hM47, hM41, hM39, hM33, hM31, hM25, hM23, hM17, hM15, hM9, hM7, mm_up, mm_z]
    · subst e; rw [mm_rt_ar (t := 0) rfl (by decide)]; simp [hM75, hM70, hM65, hM63, hM57, hM55, hM49, hM47, hM41, hM39, hM33, hM31, hM25, hM23, hM17, hM15, hM9, hM7, mm_up, mm_z]
theorem c_X10_init (hz : ∀ b, M 1 b = 0) : mm_C X Y_X10_init 2 3 [(2, 2)] M (fun r M' => r = (3, 0) ∧ mm_bn M M' 1 3 (fun a b => a = 1 ∧ b = 3) ∧ M' 1 3 = -1) := by
  refine mm_start (ls := [(2, 2)]) rfl ?_
  refine mm_aload_n dX10_init_0 rfl rfl ?_
  refine mm_oinit' (c := 1) dX10_init_1 rfl oi_X10_3 rfl rfl rfl ?_
  refine mm_aload_n dX10_init_4 rfl rfl ?_
  refine mm_sipush dX10_init_5 rfl (by decide) ?_
  refine mm_newarr' (n := 2) (t := 1) dX10_init_8 rfl rfl (by decide) rfl rfl ac_1 ⟨by decide, by decide, by decide +kernel, by decide +kernel, by decide +kernel⟩ (fun M8 hM8 => ?_)
  refine mm_putr' dX10_init_10 rfl fl_X10_11 (by first | exact Or.inl ⟨_, rfl⟩ | exact Or.inr ⟨_, rfl⟩) rfl fr_X10 (c := 1) rfl (by decide) rfl rfl (fun M10 hM10 => ?_)
  refine mm_aload_n dX10_init_13 rfl rfl ?_
  refine mm_iconst dX10_init_14 rfl ?_
  refine mm_puti dX10_init_15 rfl fl_X10_15 (c := 1) rfl (by decide) rfl rfl (fun M15 hM15 => ?_)
  refine mm_vret dX10_init_18 rfl rfl ?_
  refine ⟨rfl, ⟨?_, ?_⟩, ?_⟩
  · intro a ha
    have e1 : a ≠ 1 := by omega
    have e2 : a ≠ 2 := by omega
    funext b; simp [hM15, hM10, hM8, mm_up, mm_z, e1, e2]
  · intro a b h1 h2 hE
    rcases (show a = 1 ∨ a = 2 by omega) with e | e
    · subst e
      by_cases q0 : b = 0
      · subst q0; simp [hM15, hM10, hM8, mm_up, mm_z]; rfl
      by_cases q3 : b = 3
      · exact absurd (by simp [q3]) hE
      rw [mm_rt_no [0] (by decide +kernel) (by simp [q0])]
      simp [hM15, hM10, hM8, mm_up, mm_z, q0, q3]; exact hz b
    · subst e; rw [mm_rt_ar (t := 1) rfl (by decide)]; simp [hM15, hM10, hM8, mm_up, mm_z]
  · simp [hM15, hM10, hM8, mm_up, mm_z]
end
end
/-! C2.ctor2 -/
section
/-! ===== constructors: rows, laws, air ===== -/
section
variable {X : mm_X} {M : mm_M} {c len : Nat}
theorem c_X8_init (h0 : mm_sh c = (0, 8)) (h1 : mm_sh (c + 1) = (1, len)) (h2 : mm_sh (c + 1 + 1) = (1, len)) (hl : 1 ≤ len ∧ len ≤ 288) (hs1 : mm_sz (c + 1 + 1) = mm_sz (c + 1) + len) (hs2 : mm_sz (c + 1 + 1 + 1) = mm_sz (c + 1 + 1) + len) :
    mm_C X Y_X8_init (c + 1) (c + 1 + 1 + 1) [(2, (c : Int) + 1), (0, (len : Int))] M (fun r M' => r = (3, 0) ∧ (∀ a, a < c → M' a = M a) ∧ (∀ b, M' c b = if b = 0 then (c : Int) + 2 else if b = 1 then (c : Int) + 3 else M c b) ∧ (∀ b, M' (c + 1) b = 0) ∧ (∀ b, M' (c + 2) b = 0)) := by
  refine mm_start (ls := [(2, (c : Int) + 1), (0, (len : Int)), (9, 0)]) rfl ?_
  refine mm_aload_n dX8_init_0 rfl rfl ?_
  refine mm_oinit' (c := c) dX8_init_1 rfl oi_X8_1 rfl rfl rfl ?_
  refine mm_iload_n dX8_init_4 rfl rfl ?_
  refine mm_iconst dX8_init_5 rfl ?_
  refine mm_max dX8_init_6 rfl lm_X8_7 rfl rfl (by simp; omega) (by omega) (by omega) ?_
  rw [show max (len : Int) 1 = (len : Int) by omega]
  refine mm_istore_n dX8_init_9 rfl (Nat.le_of_ble_eq_true rfl) rfl ?_
  refine mm_aload_n dX8_init_10 rfl rfl ?_
  refine mm_iload_n dX8_init_11 rfl rfl ?_
  refine mm_newarr' (n := c+1) (t := 0) dX8_init_12 rfl h1 (by decide) rfl rfl ac_0 ⟨by omega, by omega, by omega, hs1, by omega⟩ (fun M12 hM12 => ?_)
  refine mm_putr' dX8_init_14 rfl fl_X8_13 (by first | exact Or.inl ⟨_, rfl⟩ | exact Or.inr ⟨_, rfl⟩) rfl fr_X8 (c := c) rfl (by omega)   h0 rfl (fun M14 hM14 => ?_)
  refine mm_aload_n dX8_init_17 rfl rfl ?_
  refine mm_iload_n dX8_init_18 rfl rfl ?_
  refine mm_newarr' (n := c+1 + 1) (t := 0) dX8_init_19 rfl h2 (by decide) rfl rfl ac_0 ⟨by omega, by omega, by omega, hs2, by omega⟩ (fun M19 hM19 => ?_)
  refine mm_putr' dX8_init_21 rfl fl_X8_19 (by first | exact Or.inl ⟨_, rfl⟩ | exact Or.inr ⟨_, rfl⟩) rfl fr_X8 (c := c) rfl (by omega)   h0 rfl (fun M21 hM21 => ?_)
  refine mm_vret dX8_init_24 rfl rfl ?_
  refine ⟨rfl, ?_, ?_, ?_, ?_⟩
  · intro a ha
    have e0 : a ≠ c := by omega
    have e1 : a ≠ c + 1 := by omega
    have e2 : a ≠ c + 1 + 1 := by omega
    funext b; simp [hM21, hM19, hM14, hM12, mm_up, mm_z, e0, e1, e2]
  · intro b
    by_cases q0 : b = 0
    · subst q0; simp [hM21, hM19, hM14, hM12, mm_up, mm_z]; omega
    · by_cases q1 : b = 1
      · subst q1; simp [hM21, hM19, hM14, hM12, mm_up, mm_z]; omega
      · simp [hM21, hM19, hM14, hM12, mm_up, mm_z, q0, q1]; omega
  · intro b; simp [hM21, hM19, hM14, hM12, mm_up, mm_z]
  · intro b; simp [hM21, hM19, hM14, hM12, mm_up, mm_z]
end
section
variable {X : mm_X} {Y Y' : mm_Y} {n0 n1 n pc q idx : Nat} {ls st : List mm_V} {M M1 : mm_M} {Φ : mm_V → mm_M → Prop} {a1 a2 : mm_V}
theorem mm_S2c (hd : mm_D Y.2.1 pc q (.invokestatic idx)) (hq : pc + 3 = q) (hw : mm_LS Y.1.cls idx Y' 2) (hn : mm_le n0 n n n1) (h1 : a1.1 ≠ 9) (h2 : a2.1 ≠ 9) (hpad : Nat.ble (mm_dbl [a1, a2]).length Y'.2.2.1 = true) (hfr : Nat.ble (Y'.2.2.2.2.1 + 1) Y.2.2.2.2.1 = true) (hlo : Nat.ble (mm_wd st + (Y'.2.2.1 + 11) + Y'.2.2.2.2.2.1) Y.2.2.2.2.2.1 = true)
    (hC : mm_Fn X Y' n [a1, a2] M (3, 0) M1) (k : ∀ M', M' = M1 → mm_J X Y n0 n1 n q ls st M' Φ) : mm_J X Y n0 n1 n pc ls (a2 :: a1 :: st) M Φ := by
  refine mm_callS hd hq hw (as := [a1, a2]) rfl rfl hn (by intro v hv; simp at hv; rcases hv with rfl | rfl; exact h1; exact h2) (Nat.le_of_ble_eq_true hpad) (Nat.le_of_ble_eq_true hfr) (Nat.le_of_ble_eq_true hlo) hC ?_
  rintro _ _ ⟨rfl, rfl⟩
  exact k _ rfl
end
section
variable {X : mm_X} {M : mm_M}
theorem c_X5_init (hz : ∀ b, M 172 b = 0) : mm_C X Y_X5_init 173 174 [(2, 173)] M (fun r M' => r = (3, 0) ∧ mm_bn M M' 172 174 (fun a b => (a = 173 ∧ b < 24)) ∧ (∀ b, b < 24 → M' 173 b = 9999)) := by
  refine mm_start (ls := [(2, 173)]) rfl ?_
  refine mm_aload_n dX5_init_0 rfl rfl ?_
  refine mm_oinit' (c := 172) dX5_init_1 rfl oi_X5_3 rfl rfl rfl ?_
  refine mm_aload_n dX5_init_4 rfl rfl ?_
  refine mm_bipush dX5_init_5 rfl (by decide) ?_
  refine mm_newarr' (n := 173) (t := 0) dX5_init_7 rfl rfl (by decide) rfl rfl ac_0 ⟨by decide, by decide, by decide +kernel, by decide +kernel, by decide +kernel⟩ (fun M7 hM7 => ?_)
  refine mm_putr' dX5_init_9 rfl fl_X5_11 (by first | exact Or.inl ⟨_, rfl⟩ | exact Or.inr ⟨_, rfl⟩) rfl fr_X5 (c := 172) rfl (by decide) rfl rfl (fun M9 hM9 => ?_)
  refine mm_aload_n dX5_init_12 rfl rfl ?_
  refine mm_getr dX5_init_13 rfl fl_X5_11 (c := 172) rfl (by decide) rfl rfl (show M9 172 1 = 174 by simp [hM9, hM7, mm_up, mm_z]) ?_
  refine mm_sipush dX5_init_16 rfl (by decide) ?_
  refine mm_S2c dX5_init_19 rfl lk_X5_17 ⟨by decide, by decide, by decide, by decide +kernel, by decide +kernel, by decide +kernel⟩ (by simp) (by simp) rfl rfl rfl (c_J7_fill2 (c := 173) (len := 24) (by decide) rfl) (fun N19 hN19 => ?_)
  refine mm_vret dX5_init_22 rfl rfl ?_
  refine ⟨rfl, ⟨?_, ?_⟩, ?_⟩
  · intro a ha
    have e172 : a ≠ 172 := by omega
    have e173 : a ≠ 173 := by omega
    funext b; simp [hN19, hM9, hM7, mm_up, mm_z, kf_mem, e172, e173]
  · intro a b h1 h2 hE
    rcases (show a = 172 ∨ a = 173 by omega) with e | e
    · subst e
      by_cases q1 : b = 1
      · subst q1; simp [hN19, hM9, hM7, mm_up, mm_z, kf_mem]; rfl
      rw [mm_rt_no [1] (by decide +kernel) (by simp [q1])]
      simp [hN19, hM9, hM7, mm_up, mm_z, kf_mem, q1]; exact hz b
    · subst e
      have hb : ¬ b < 24 := fun q => hE (by simp [q])
      rw [mm_rt_ar (t := 0) rfl (by decide)]; simp [hN19, hM9, hM7, mm_up, mm_z, kf_mem, hb]
  · intro b hb; simp [hN19, hM9, hM7, mm_up, mm_z, kf_mem, hb]
theorem c_X0_init (hz : ∀ b, M 11 b = 0) : mm_C X Y_X0_init 12 18 [(2, 12), (2, 4)] M (fun r M' => r = (3, 0) ∧ mm_bn M M' 11 18 (fun a b => (a = 16 ∧ b < 120) ∨ (a = 17 ∧ b < 120)) ∧ (∀ b, b < 120 → M' 16 b = 10) ∧ (∀ b, b < 120 → M' 17 b = 10)) := by
  refine mm_start (ls := [(2, 12), (2, 4)]) rfl ?_
  refine mm_aload_n dX0_init_0 rfl rfl ?_
  refine mm_oinit' (c := 11) dX0_init_1 rfl oi_X0_3 rfl rfl rfl ?_
  refine mm_aload_n dX0_init_4 rfl rfl ?_
  refine mm_sipush dX0_init_5 rfl (by decide) ?_
  refine mm_newarr' (n := 12) (t := 0) dX0_init_8 rfl rfl (by decide) rfl rfl ac_0 ⟨by decide, by decide, by decide +kernel, by decide +kernel, by decide +kernel⟩ (fun M8 hM8 => ?_)
  refine mm_putr' dX0_init_10 rfl fl_X0_11 (by first | exact Or.inl ⟨_, rfl⟩ | exact Or.inr ⟨_, rfl⟩) rfl fr_X0 (c := 11) rfl (by decide) rfl rfl (fun M10 hM10 => ?_)
  refine mm_aload_n dX0_init_13 rfl rfl ?_
  refine mm_sipush dX0_init_14 rfl (by decide) ?_
  refine mm_newarr' (n := 13) (t := 0) dX0_init_17 rfl rfl (by decide) rfl rfl ac_0 ⟨by decide, by decide, by decide +kernel, by decide +kernel, by decide +kernel⟩ (fun M17 hM17 => ?_)
  refine mm_putr' dX0_init_19 rfl fl_X0_15 (by first | exact Or.inl ⟨_, rfl⟩ | exact Or.inr ⟨_, rfl⟩) rfl fr_X0 (c := 11) rfl (by decide) rfl rfl (fun M19 hM19 => ?_)
  refine mm_aload_n dX0_init_22 rfl rfl ?_
  refine mm_sipush dX0_init_23 rfl (by decide) ?_
  refine mm_newarr' (n := 14) (t := 0) dX0_init_26 rfl rfl (by decide) rfl rfl ac_0 ⟨by decide, by decide, by decide +kernel, by decide +kernel, by decide +kernel⟩ (fun M26 hM26 => ?_)
  refine mm_putr' dX0_init_28 rfl fl_X0_18 (by first | exact Or.inl ⟨_, rfl⟩ | exact Or.inr ⟨_, rfl⟩) rfl fr_X0 (c := 11) rfl (by decide) rfl rfl (fun M28 hM28 => ?_)
  refine mm_aload_n dX0_init_31 rfl rfl ?_
  refine mm_sipush dX0_init_32 rfl (by decide) ?_
  refine mm_newarr' (n := 15) (t := 0) dX0_init_35 rfl rfl (by decide) rfl rfl ac_0 ⟨by decide, by decide, by decide +kernel, by decide +kernel, by decide +kernel⟩ (fun M35 hM35 => ?_)
  refine mm_putr' dX0_init_37 rfl fl_X0_21 (by first | exact Or.inl ⟨_, rfl⟩ | exact Or.inr ⟨_, rfl⟩) rfl fr_X0 (c := 11) rfl (by decide) rfl rfl (fun M37 hM37 => ?_)
  refine mm_aload_n dX0_init_40 rfl rfl ?_
  refine mm_bipush dX0_init_41 rfl (by decide) ?_
  refine mm_newarr' (n := 16) (t := 0) dX0_init_43 rfl rfl (by decide) rfl rfl ac_0 ⟨by decide, by decide, by decide +kernel, by decide +kernel, by decide +kernel⟩ (fun M43 hM43 => ?_)
  refine mm_putr' dX0_init_45 rfl fl_X0_26 (by first | exact Or.inl ⟨_, rfl⟩ | exact Or.inr ⟨_, rfl⟩) rfl fr_X0 (c := 11) rfl (by decide) rfl rfl (fun M45 hM45 => ?_)
  refine mm_aload_n dX0_init_48 rfl rfl ?_
  refine mm_bipush dX0_init_49 rfl (by decide) ?_
  refine mm_newarr' (n := 17) (t := 0) dX0_init_51 rfl rfl (by decide) rfl rfl ac_0 ⟨by decide, by decide, by decide +kernel, by decide +kernel, by decide +kernel⟩ (fun M51 hM51 => ?_)
  refine mm_putr' dX0_init_53 rfl fl_X0_29 (by first | exact Or.inl ⟨_, rfl⟩ | exact Or.inr ⟨_, rfl⟩) rfl fr_X0 (c := 11) rfl (by decide) rfl rfl (fun M53 hM53 => ?_)
  refine mm_aload_n dX0_init_56 rfl rfl ?_
  refine mm_aload_n dX0_init_57 rfl rfl ?_
  refine mm_putr' dX0_init_58 rfl fl_X0_32 (by first | exact Or.inl ⟨_, rfl⟩ | exact Or.inr ⟨_, rfl⟩) rfl fr_X0 (c := 11) rfl (by decide) rfl rfl (fun M58 hM58 => ?_)
  refine mm_aload_n dX0_init_61 rfl rfl ?_
  refine mm_getr dX0_init_62 rfl fl_X0_26 (c := 11) rfl (by decide) rfl rfl (show M58 11 7 = 17 by simp [hM58, hM53, hM51, hM45, hM43, hM37, hM35, hM28, hM26, hM19, hM17, hM10, hM8, mm_up, mm_z]) ?_
  refine mm_bipush dX0_init_65 rfl (by decide) ?_
  refine mm_S2c dX0_init_67 rfl lk_X0_36 ⟨by decide, by decide, by decide, by decide +kernel, by decide +kernel, by decide +kernel⟩ (by simp) (by simp) rfl rfl rfl (c_J7_fill2 (c := 16) (len := 120) (by decide) rfl) (fun N67 hN67 => ?_)
  refine mm_aload_n dX0_init_70 rfl rfl ?_
  refine mm_getr dX0_init_71 rfl fl_X0_29 (c := 11) rfl (by decide) rfl rfl (show N67 11 8 = 18 by simp [hN67, hM58, hM53, hM51, hM45, hM43, hM37, hM35, hM28, hM26, hM19, hM17, hM10, hM8, mm_up, mm_z, kf_mem]) ?_
  refine mm_bipush dX0_init_74 rfl (by decide) ?_
  refine mm_S2c dX0_init_76 rfl lk_X0_36 ⟨by decide, by decide, by decide, by decide +kernel, by decide +kernel, by decide +kernel⟩ (by simp) (by simp) rfl rfl rfl (c_J7_fill2 (c := 17) (len := 120) (by decide) rfl) (fun N76 hN76 => ?_)
  refine mm_vret dX0_init_79 rfl rfl ?_
  refine ⟨rfl, ⟨?_, ?_⟩, ?_, ?_⟩
  · intro a ha
    have e11 : a ≠ 11 := by omega
    have e12 : a ≠ 12 := by omega
    have e13 : a ≠ 13 := by omega
    have e14 : a ≠ 14 := by omega
    have e15 : a ≠ 15 := by omega
    have e16 : a ≠ 16 := by omega
    have e17 : a ≠ 17 := by omega
    funext b; simp [hN76, hN67, hM58, hM53, hM51, hM45, hM43, hM37, hM35, hM28, hM26, hM19, hM17, hM10, hM8, mm_up, mm_z, kf_mem, e11, e12, e13, e14, e15, e16, e17]
  · intro a b h1 h2 hE
    rcases (show a = 11 ∨ a = 12 ∨ a = 13 ∨ a = 14 ∨ a = 15 ∨ a = 16 ∨ a = 17 by omega) with e | e | e | e | e | e | e
    · subst e
      by_cases q0 : b = 0
      · subst q0; simp [hN76, hN67, hM58, hM53, hM51, hM45, hM43, hM37, hM35, hM28, hM26, hM19, hM17, hM10, hM8, mm_up, mm_z, kf_mem]; rfl
      by_cases q3 : b = 3
      · subst q3; simp [hN76, hN67, hM58, hM53, hM51, hM45, hM43, hM37, hM35, hM28, hM26, hM19, hM17, hM10, hM8, mm_up, mm_z, kf_mem]; rfl
      by_cases q4 : b = 4
      · subst q4; simp [hN76, hN67, hM58, hM53, hM51, hM45, hM43, hM37, hM35, hM28, hM26, hM19, hM17, hM10, hM8, mm_up, mm_z, kf_mem]; rfl
      by_cases q5 : b = 5
      · subst q5; simp [hN76, hN67, hM58, hM53, hM51, hM45, hM43, hM37, hM35, hM28, hM26, hM19, hM17, hM10, hM8, mm_up, mm_z, kf_mem]; rfl
      by_cases q6 : b = 6
      · subst q6; simp [hN76, hN67, hM58, hM53, hM51, hM45, hM43, hM37, hM35, hM28, hM26, hM19, hM17, hM10, hM8, mm_up, mm_z, kf_mem]; rfl
      by_cases q7 : b = 7
      · subst q7; simp [hN76, hN67, hM58, hM53, hM51, hM45, hM43, hM37, hM35, hM28, hM26, hM19, hM17, hM10, hM8, mm_up, mm_z, kf_mem]; rfl
      by_cases q8 : b = 8
      · subst q8; simp [hN76, hN67, hM58, hM53, hM51, hM45, hM43, hM37, hM35, hM28, hM26, hM19, hM17, hM10, hM8, mm_up, mm_z, kf_mem]; rfl
      rw [mm_rt_no [0, 3, 4, 5, 6, 7, 8] (by decide +kernel) (by simp [q0, q3, q4, q5, q6, q7, q8])]
      simp [hN76, hN67, hM58, hM53, hM51, hM45, hM43, hM37, hM35, hM28, hM26, hM19, hM17, hM10, hM8, mm_up, mm_z, kf_mem, q0, q3, q4, q5, q6, q7, q8]; exact hz b
    · subst e; rw [mm_rt_ar (t := 0) rfl (by decide)]; simp [hN76, hN67, hM58, hM53, hM51, hM45, hM43, hM37, hM35, hM28, hM26, hM19, hM17, hM10, hM8, mm_up, mm_z, kf_mem]
    · subst e; rw [mm_rt_ar (t := 0) rfl (by decide)]; simp [hN76, hN67, hM58, hM53, hM51, hM45, hM43, hM37, hM35, hM28, hM26, hM19, hM17, hM10, hM8, mm_up, mm_z, kf_mem]
    · subst e; rw [mm_rt_ar (t := 0) rfl (by decide)]; simp [hN76, hN67, hM58, hM53, hM51, hM45, hM43, hM37, hM35, hM28, hM26, hM19, hM17, hM10, hM8, mm_up, mm_z, kf_mem]
    · subst e; rw [mm_rt_ar (t := 0) rfl (by decide)]; simp [hN76, hN67, hM58, hM53, hM51, hM45, hM43, hM37, hM35, hM28, hM26, hM19, hM17, hM10, hM8, mm_up, mm_z, kf_mem]
    · subst e
      have hb : ¬ b < 120 := fun q => hE (by simp [q])
      rw [mm_rt_ar (t := 0) rfl (by decide)]; simp [hN76, hN67, hM58, hM53, hM51, hM45, hM43, hM37, hM35, hM28, hM26, hM19, hM17, hM10, hM8, mm_up, mm_z, kf_mem, hb]
    · subst e
      have hb : ¬ b < 120 := fun q => hE (by simp [q])
      rw [mm_rt_ar (t := 0) rfl (by decide)]; simp [hN76, hN67, hM58, hM53, hM51, hM45, hM43, hM37, hM35, hM28, hM26, hM19, hM17, hM10, hM8, mm_up, mm_z, kf_mem, hb]
  · intro b hb; simp [hN76, hN67, hM58, hM53, hM51, hM45, hM43, hM37, hM35, hM28, hM26, hM19, hM17, hM10, hM8, mm_up, mm_z, kf_mem, hb]
  · intro b hb; simp [hN76, hN67, hM58, hM53, hM51, hM45, hM43, hM37, hM35, hM28, hM26, hM19, hM17, hM10, hM8, mm_up, mm_z, kf_mem, hb]
end
end
/-! C3.ctor3 -/
section
/-! ===== constructors: the kite ===== -/
section
variable {X : mm_X} {Y Y' : mm_Y} {n0 n1 n pc q idx ci c : Nat} {ls st : List mm_V} {M : mm_M} {Φ Ψ : mm_V → mm_M → Prop} {r : Int}
theorem mm_V0c (hd : mm_D Y.2.1 pc q (.invokevirtual idx)) (hq : pc + 3 = q) (hw : mm_LV Y.1.cls idx Y' ci 0) (hr : r = (c : Int) + 1) (hc : c < n) (hs : mm_sh c = (0, ci)) (hn : mm_le n0 n n n1) (hpad : Nat.ble (mm_dbl [(2, r)]).length Y'.2.2.1 = true) (hfr : Nat.ble (Y'.2.2.2.2.1 + 1) Y.2.2.2.2.1 = true) (hlo : Nat.ble (mm_wd st + (Y'.2.2.1 + 11) + Y'.2.2.2.2.2.1) Y.2.2.2.2.2.1 = true)
    (hC : mm_C X Y' n n [(2, r)] M Ψ) (k : ∀ r M1, Ψ r M1 → mm_Kc X Y n0 n1 n q ls st Φ r M1) : mm_J X Y n0 n1 n pc ls ((2, r) :: st) M Φ :=
  mm_callV hd hq hw hr hc hs (as := []) rfl rfl hn (by simp) (Nat.le_of_ble_eq_true hpad) (Nat.le_of_ble_eq_true hfr) (Nat.le_of_ble_eq_true hlo) hC k
end
section
variable {X : mm_X} {M : mm_M}
theorem c_X4_init (hz : ∀ b, M 3 b = 0) : mm_C X Y_X4_init 4 11 [(2, 4)] M (fun r M' => r = (3, 0) ∧ (∀ a, a < 3 → M' a = M a) ∧ kc_rf M' ∧ mm_CK M' ∧ (∀ b, b < 36 → M' 4 b = kp_D0 (fun _ => 0) b) ∧ M' 5 = kp_D0 (fun _ => 0)) := by
  refine mm_start (ls := [(2, 4)]) rfl ?_
  refine mm_aload_n dX4_init_0 rfl rfl ?_
  refine mm_oinit' (c := 3) dX4_init_1 rfl oi_X4_3 rfl rfl rfl ?_
  refine mm_aload_n dX4_init_4 rfl rfl ?_
  refine mm_bipush dX4_init_5 rfl (by decide) ?_
  refine mm_newarr' (n := 4) (t := 0) dX4_init_7 rfl rfl (by decide) rfl rfl ac_0 ⟨by decide, by decide, by decide +kernel, by decide +kernel, by decide +kernel⟩ (fun M7 hM7 => ?_)
  refine mm_putr' dX4_init_9 rfl fl_X4_11 (by first | exact Or.inl ⟨_, rfl⟩ | exact Or.inr ⟨_, rfl⟩) rfl fr_X4 (c := 3) rfl (by decide) rfl rfl (fun M9 hM9 => ?_)
  refine mm_aload_n dX4_init_12 rfl rfl ?_
  refine mm_bipush dX4_init_13 rfl (by decide) ?_
  refine mm_newarr' (n := 5) (t := 0) dX4_init_15 rfl rfl (by decide) rfl rfl ac_0 ⟨by decide, by decide, by decide +kernel, by decide +kernel, by decide +kernel⟩ (fun M15 hM15 => ?_)
  refine mm_putr' dX4_init_17 rfl fl_X4_15 (by first | exact Or.inl ⟨_, rfl⟩ | exact Or.inr ⟨_, rfl⟩) rfl fr_X4 (c := 3) rfl (by decide) rfl rfl (fun M17 hM17 => ?_)
  refine mm_aload_n dX4_init_20 rfl rfl ?_
  refine mm_sipush dX4_init_21 rfl (by decide) ?_
  refine mm_newarr' (n := 6) (t := 0) dX4_init_24 rfl rfl (by decide) rfl rfl ac_0 ⟨by decide, by decide, by decide +kernel, by decide +kernel, by decide +kernel⟩ (fun M24 hM24 => ?_)
  refine mm_putr' dX4_init_26 rfl fl_X4_18 (by first | exact Or.inl ⟨_, rfl⟩ | exact Or.inr ⟨_, rfl⟩) rfl fr_X4 (c := 3) rfl (by decide) rfl rfl (fun M26 hM26 => ?_)
  refine mm_aload_n dX4_init_29 rfl rfl ?_
  refine mm_sipush dX4_init_30 rfl (by decide) ?_
  refine mm_newarr' (n := 7) (t := 0) dX4_init_33 rfl rfl (by decide) rfl rfl ac_0 ⟨by decide, by decide, by decide +kernel, by decide +kernel, by decide +kernel⟩ (fun M33 hM33 => ?_)
  refine mm_putr' dX4_init_35 rfl fl_X4_21 (by first | exact Or.inl ⟨_, rfl⟩ | exact Or.inr ⟨_, rfl⟩) rfl fr_X4 (c := 3) rfl (by decide) rfl rfl (fun M35 hM35 => ?_)
  refine mm_aload_n dX4_init_38 rfl rfl ?_
  refine mm_sipush dX4_init_39 rfl (by decide) ?_
  refine mm_newarr' (n := 8) (t := 0) dX4_init_42 rfl rfl (by decide) rfl rfl ac_0 ⟨by decide, by decide, by decide +kernel, by decide +kernel, by decide +kernel⟩ (fun M42 hM42 => ?_)
  refine mm_putr' dX4_init_44 rfl fl_X4_24 (by first | exact Or.inl ⟨_, rfl⟩ | exact Or.inr ⟨_, rfl⟩) rfl fr_X4 (c := 3) rfl (by decide) rfl rfl (fun M44 hM44 => ?_)
  refine mm_aload_n dX4_init_47 rfl rfl ?_
  refine mm_sipush dX4_init_48 rfl (by decide) ?_
  refine mm_newarr' (n := 9) (t := 0) dX4_init_51 rfl rfl (by decide) rfl rfl ac_0 ⟨by decide, by decide, by decide +kernel, by decide +kernel, by decide +kernel⟩ (fun M51 hM51 => ?_)
  refine mm_putr' dX4_init_53 rfl fl_X4_27 (by first | exact Or.inl ⟨_, rfl⟩ | exact Or.inr ⟨_, rfl⟩) rfl fr_X4 (c := 3) rfl (by decide) rfl rfl (fun M53 hM53 => ?_)
  refine mm_aload_n dX4_init_56 rfl rfl ?_
  refine mm_sipush dX4_init_57 rfl (by decide) ?_
  refine mm_newarr' (n := 10) (t := 0) dX4_init_60 rfl rfl (by decide) rfl rfl ac_0 ⟨by decide, by decide, by decide +kernel, by decide +kernel, by decide +kernel⟩ (fun M60 hM60 => ?_)
  refine mm_putr' dX4_init_62 rfl fl_X4_30 (by first | exact Or.inl ⟨_, rfl⟩ | exact Or.inr ⟨_, rfl⟩) rfl fr_X4 (c := 3) rfl (by decide) rfl rfl (fun M62 hM62 => ?_)
  refine mm_aload_n dX4_init_65 rfl rfl ?_
  have hk : kc_rf M62 := by refine ⟨?_, ?_, ?_, ?_, ?_, ?_, ?_⟩ <;> simp [hM62, hM60, hM53, hM51, hM44, hM42, hM35, hM33, hM26, hM24, hM17, hM15, hM9, hM7, mm_up, mm_z]
  have h5 : M62 5 = fun _ => 0 := by funext b; simp [hM62, hM60, hM53, hM51, hM44, hM42, hM35, hM33, hM26, hM24, hM17, hM15, hM9, hM7, mm_up, mm_z]
  have hf : ∀ a, a < 3 → M62 a = M a := by
    intro a ha
    have e3 : a ≠ 3 := by omega
    have e4 : a ≠ 4 := by omega
    have e5 : a ≠ 5 := by omega
    have e6 : a ≠ 6 := by omega
    have e7 : a ≠ 7 := by omega
    have e8 : a ≠ 8 := by omega
    have e9 : a ≠ 9 := by omega
    have e10 : a ≠ 10 := by omega
    funext b; simp [hM62, hM60, hM53, hM51, hM44, hM42, hM35, hM33, hM26, hM24, hM17, hM15, hM9, hM7, mm_up, mm_z, e3, e4, e5, e6, e7, e8, e9, e10]
  refine mm_V0c dX4_init_66 rfl lk_X4_33 (c := 3) rfl (by decide) rfl ⟨by decide, by decide, by decide, by decide +kernel, by decide +kernel, by decide +kernel⟩  rfl rfl rfl (c_X4_startDraft (by decide) hk) ?_
  rintro _ N66 ⟨rfl, p66⟩
  change mm_J _ _ _ _ _ _ _ _ _ _
  obtain ⟨s1, s2⟩ := p66
  rw [h5] at s2
  have hk2 : kc_rf N66 := hk.fr (fun b _ => by rw [s1 3 (by decide)])
  refine mm_aload_n dX4_init_69 rfl rfl ?_
  refine mm_V0c dX4_init_70 rfl lk_X4_36 (c := 3) rfl (by decide) rfl ⟨by decide, by decide, by decide, by decide +kernel, by decide +kernel, by decide +kernel⟩  rfl rfl rfl (c_X4_useDraft (by decide) hk2 (by rw [s2]; exact kp_D0_KV (by decide))) ?_
  rintro _ N70 ⟨rfl, p70⟩
  change mm_J _ _ _ _ _ _ _ _ _ _
  refine mm_vret dX4_init_73 rfl rfl ?_
  obtain ⟨u1, u2, u3, u4⟩ := p70
  refine ⟨rfl, ?_, hk2.fr u2, u4, ?_, ?_⟩
  · intro a ha; rw [u1 a (by omega) (by omega) (by omega), s1 a (by omega)]; exact hf a ha
  · intro b hb; rw [u3 b hb, s2]
  · rw [u1 5 (by decide) (by decide) (by omega), s2]
end
end
/-! C4.ctor4 -/
section
/-! ===== constructors: the field, the hours ===== -/
theorem kz_rows : (∀ i : Nat, i < 8 → mm_sh (148 + 3 * i) = (0, 8) ∧ mm_sh (148 + 3 * i + 1) = (1, 100) ∧ mm_sh (148 + 3 * i + 1 + 1) = (1, 100) ∧ mm_sz (148 + 3 * i + 1) = mm_sz (148 + 3 * i) + mm_nf 8 ∧ mm_sz (148 + 3 * i + 1 + 1) = mm_sz (148 + 3 * i + 1) + 100 ∧ mm_sz (148 + 3 * i + 1 + 1 + 1) = mm_sz (148 + 3 * i + 1 + 1) + 100 ∧ mm_sz 145 ≤ mm_sz (148 + 3 * i) ∧ mm_sz (148 + 3 * i + 1 + 1 + 1) ≤ mm_sz 172) ∧
    (∀ i : Nat, i < 24 → mm_sh (42 + 3 * i) = (0, 8) ∧ mm_sh (42 + 3 * i + 1) = (1, 288) ∧ mm_sh (42 + 3 * i + 1 + 1) = (1, 288) ∧ mm_sz (42 + 3 * i + 1) = mm_sz (42 + 3 * i) + mm_nf 8 ∧ mm_sz (42 + 3 * i + 1 + 1) = mm_sz (42 + 3 * i + 1) + 288 ∧ mm_sz (42 + 3 * i + 1 + 1 + 1) = mm_sz (42 + 3 * i + 1 + 1) + 288 ∧ mm_sz 22 ≤ mm_sz (42 + 3 * i) ∧ mm_sz (42 + 3 * i + 1 + 1 + 1) ≤ mm_sz 114) := by decide +kernel
section
variable {X : mm_X} {M : mm_M}
theorem c_X1_init (hz : ∀ b, M 144 b = 0) : mm_C X Y_X1_init 145 172 [(2, 145), (2, 4)] M (fun r M' => r = (3, 0) ∧ mm_bn M M' 144 172 (fun _ _ => False)) := by
  refine mm_start (ls := [(2, 145), (2, 4), (9, 0)]) rfl ?_
  have loop : ∀ i : Nat, i ≤ 8 → ∀ N : mm_M, (∀ a, a < 144 → N a = M a) → (∀ a b, 144 ≤ a → a ≠ 145 → a < 148 + 3 * i → N a b = mm_rt a b) → (∀ b, N 145 b = if b < i then mm_rt 145 b else 0) →
      mm_J X Y_X1_init 145 172 (148 + 3 * i) 36 [(2, 145), (2, 4), (0, (i : Int))] [] N (fun r M' => r = (3, 0) ∧ mm_bn M M' 144 172 (fun _ _ => False)) := by
    refine mm_lp ?_
    intro i hi ih N h1 h2 h3
    by_cases hlt : i < 8
    · obtain ⟨w0, w1, w2, w3, w4, w5, w6, w7⟩ := kz_rows.1 i hlt
      have wr := mm_rw_stands i hlt
      have rr : N 144 3 = 146 := h2 144 3 (by omega) (by decide) (by omega)
      refine mm_iload_n dX1_init_36 rfl rfl ?_
      refine mm_bipush dX1_init_37 rfl (by decide) ?_
      refine mm_icge dX1_init_39 (by omega) (by omega) (fun h39 => ?_) (fun h39 => ?_)
      · exfalso; omega
      · refine mm_aload_n dX1_init_42 rfl rfl ?_
        refine mm_getr dX1_init_43 rfl fl_X1_13 (c := 144) rfl (by omega) rfl rfl (rr) ?_
        refine mm_iload_n dX1_init_46 rfl rfl ?_
        refine mm_new' (n := 148+3*i) dX1_init_47 rfl w0 nw_X1_11 ⟨by omega, by omega, w6, w3, by omega⟩ (fun M47 hM47 => ?_)
        refine mm_dup dX1_init_50 rfl (by simp) ?_
        refine mm_bipush dX1_init_51 rfl (by decide) ?_
        refine mm_I1g (c := 148+3*i) (n := 148+3*i + 1) (n' := 148+3*i+1+1+1) dX1_init_53 rfl li_X1_28 rfl ⟨by omega, by omega, by omega, by omega, by omega, by omega⟩ (by simp) rfl rfl rfl (c_X8_init (c := 148 + 3 * i) (len := 100) w0 w1 w2 (by decide) w4 w5) ?_
        rintro _ N53 ⟨rfl, p53⟩
        change mm_J _ _ _ _ _ _ _ _ _ _
        refine mm_aast' (k0 := i) dX1_init_56 rfl (c := 145) rfl (by omega) rfl (d := 148+3*i) rfl (by omega)   w0 (by omega) (by omega) (fun M56 hM56 => ?_)
        refine mm_iinc dX1_init_57 rfl rfl (Nat.le_of_ble_eq_true rfl) rfl ?_
        refine mm_goto dX1_init_60 ?_
        obtain ⟨p1, p2, p3, p4⟩ := p53
        have e : 148 + 3 * (i + 1) = 148 + 3 * i + 1 + 1 + 1 := by omega
        have go := ih hlt M56 ?_ ?_ ?_
        · rw [e] at go; exact go
        · intro a ha; rw [hM56, mm_up_row (by omega), p1 a (by omega), hM47, mm_z_n (by omega)]; exact h1 a ha
        · intro a b a1 a2 a3
          rw [hM56, mm_up_row a2]
          by_cases q : a < 148 + 3 * i
          · rw [p1 a q, hM47, mm_z_n (by omega)]; exact h2 a b a1 a2 q
          · rcases (show a = 148 + 3 * i ∨ a = 148 + 3 * i + 1 ∨ a = 148 + 3 * i + 1 + 1 by omega) with q | q | q
            · rw [q, p2 b]
              by_cases b0 : b = 0
              · rw [if_pos b0, b0, wr.1.2.2.2.2.1]; omega
              · by_cases b1 : b = 1
                · rw [if_neg b0, if_pos b1, b1, wr.1.2.2.2.2.2.1]; omega
                · rw [if_neg b0, if_neg b1, hM47, mm_z_0, mm_rt_row wr.1 (by omega)]
            · rw [q, p3 b, mm_rt_arr w1]
            · rw [q, mm_rt_arr w2]; exact p4 b
        · intro b
          by_cases q : b = i
          · rw [q, hM56, mm_up_s, if_pos (by omega)]; exact wr.2.symm
          · rw [hM56, mm_up_i q, p1 145 (by omega), hM47, mm_z_n (by omega), h3 b]
            by_cases w : b < i
            · rw [if_pos w, if_pos (by omega)]
            · rw [if_neg w, if_neg (by omega)]
    · have ei : i = 8 := by omega
      subst ei
      refine mm_iload_n dX1_init_36 rfl rfl ?_
      refine mm_bipush dX1_init_37 rfl (by decide) ?_
      refine mm_icge dX1_init_39 (by omega) (by omega) (fun h39 => ?_) (fun h39 => ?_)
      · refine mm_vret dX1_init_63 rfl rfl ?_
        refine ⟨rfl, h1, fun a b a1 a2 _ => ?_⟩
        by_cases q : a = 145
        · rw [q, h3 b]
          by_cases w : b < 8
          · rw [if_pos w]
          · rw [if_neg w, mm_rt_no [0, 1, 2, 3, 4, 5, 6, 7] (by decide +kernel) (by simp; omega)]
        · exact h2 a b a1 q (by omega)
      · exfalso; omega
  refine mm_aload_n dX1_init_0 rfl rfl ?_
  refine mm_oinit' (c := 144) dX1_init_1 rfl oi_X1_3 rfl rfl rfl ?_
  refine mm_aload_n dX1_init_4 rfl rfl ?_
  refine mm_bipush dX1_init_5 rfl (by decide) ?_
  refine mm_anew' (n := 145) dX1_init_7 rfl rfl rfl ck_X1_11 ⟨by decide, by decide, by decide +kernel, by decide +kernel, by decide +kernel⟩ (fun M7 hM7 => ?_)
  refine mm_putr' dX1_init_10 rfl fl_X1_13 (by first | exact Or.inl ⟨_, rfl⟩ | exact Or.inr ⟨_, rfl⟩) rfl fr_X1 (c := 144) rfl (by decide) rfl rfl (fun M10 hM10 => ?_)
  refine mm_aload_n dX1_init_13 rfl rfl ?_
  refine mm_bipush dX1_init_14 rfl (by decide) ?_
  refine mm_newarr' (n := 146) (t := 0) dX1_init_16 rfl rfl (by decide) rfl rfl ac_0 ⟨by decide, by decide, by decide +kernel, by decide +kernel, by decide +kernel⟩ (fun M16 hM16 => ?_)
  refine mm_putr' dX1_init_18 rfl fl_X1_17 (by first | exact Or.inl ⟨_, rfl⟩ | exact Or.inr ⟨_, rfl⟩) rfl fr_X1 (c := 144) rfl (by decide) rfl rfl (fun M18 hM18 => ?_)
  refine mm_aload_n dX1_init_21 rfl rfl ?_
  refine mm_bipush dX1_init_22 rfl (by decide) ?_
  refine mm_newarr' (n := 147) (t := 0) dX1_init_24 rfl rfl (by decide) rfl rfl ac_0 ⟨by decide, by decide, by decide +kernel, by decide +kernel, by decide +kernel⟩ (fun M24 hM24 => ?_)
  refine mm_putr' dX1_init_26 rfl fl_X1_21 (by first | exact Or.inl ⟨_, rfl⟩ | exact Or.inr ⟨_, rfl⟩) rfl fr_X1 (c := 144) rfl (by decide) rfl rfl (fun M26 hM26 => ?_)
  refine mm_aload_n dX1_init_29 rfl rfl ?_
  refine mm_aload_n dX1_init_30 rfl rfl ?_
  refine mm_putr' dX1_init_31 rfl fl_X1_24 (by first | exact Or.inl ⟨_, rfl⟩ | exact Or.inr ⟨_, rfl⟩) rfl fr_X1 (c := 144) rfl (by decide) rfl rfl (fun M31 hM31 => ?_)
  refine mm_iconst dX1_init_34 rfl ?_
  refine mm_istore_n dX1_init_35 rfl (Nat.le_of_ble_eq_true rfl) rfl ?_
  refine loop 0 (Nat.zero_le _) _ ?_ ?_ ?_
  · intro a ha
    have e144 : a ≠ 144 := by omega
    have e145 : a ≠ 145 := by omega
    have e146 : a ≠ 146 := by omega
    have e147 : a ≠ 147 := by omega
    funext b; simp [hM31, hM26, hM24, hM18, hM16, hM10, hM7, mm_up, mm_z, e144, e145, e146, e147]
  · intro a b a1 a2 a3
    rcases (show a = 144 ∨ a = 146 ∨ a = 147 by omega) with e | e | e
    · subst e
      by_cases q0 : b = 0
      · subst q0; simp [hM31, hM26, hM24, hM18, hM16, hM10, hM7, mm_up, mm_z]; rfl
      by_cases q3 : b = 3
      · subst q3; simp [hM31, hM26, hM24, hM18, hM16, hM10, hM7, mm_up, mm_z]; rfl
      by_cases q4 : b = 4
      · subst q4; simp [hM31, hM26, hM24, hM18, hM16, hM10, hM7, mm_up, mm_z]; rfl
      by_cases q5 : b = 5
      · subst q5; simp [hM31, hM26, hM24, hM18, hM16, hM10, hM7, mm_up, mm_z]; rfl
      rw [mm_rt_no [0, 3, 4, 5] (by decide +kernel) (by simp [q0, q3, q4, q5])]
      simp [hM31, hM26, hM24, hM18, hM16, hM10, hM7, mm_up, mm_z, q0, q3, q4, q5]; exact hz b
    · subst e; rw [mm_rt_ar (t := 0) rfl (by decide)]; simp [hM31, hM26, hM24, hM18, hM16, hM10, hM7, mm_up, mm_z]
    · subst e; rw [mm_rt_ar (t := 0) rfl (by decide)]; simp [hM31, hM26, hM24, hM18, hM16, hM10, hM7, mm_up, mm_z]
  · intro b; simp [hM31, hM26, hM24, hM18, hM16, hM10, hM7, mm_up, mm_z]
end
end
