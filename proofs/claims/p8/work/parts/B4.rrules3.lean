/-! ===== rules, of the reference ===== -/
/-- line l as it is told -/
def kr_T (N : mm_M) (D : Nat → Int) (l : Nat) : Prop := N 196 l = D (11 * l) ∧ (1 ≤ D (11 * l) ∧ D (11 * l) ≤ 3) ∧ (∀ i : Nat, (i : Int) < D (11 * l) → N 193 (3 * l + i) = D (11 * l + 1 + 3 * i) ∧ N 194 (3 * l + i) = D (11 * l + 1 + 3 * i + 1) ∧ N 195 (3 * l + i) = D (11 * l + 1 + 3 * i + 2)) ∧ N 197 l = D (11 * l + 10)
def kr_KQ (M M' : mm_M) (e : kp_E) (r : mm_V) : Prop := mm_Rf M' ∧ M' 183 2 = 0 ∧ (∀ a, a ≠ 183 → ¬ kr_A a → M' a = M a) ∧ (∀ b, ¬ (2 ≤ b ∧ b ≤ 9) → b ≠ 20 → b ≠ 21 → M' 183 b = M 183 b) ∧ match e with
  | .ok (c, D) => r = (0, (c : Int)) ∧ M' 183 8 = 0 ∧ M' 183 9 = -1 ∧ M' 183 20 = (c : Int) ∧ c ≤ 8 ∧ ∀ l, l < c → kr_T M' D l
  | .error (k, s) => r = (0, -1) ∧ M' 183 8 = k ∧ M' 183 9 = (s : Int) ∧ M' 183 20 = M 183 20 ∧ kr_U 0 M M'
/-- so much of what is read is taken -/
def kr_cp (U Q : mm_M) (l m : Nat) : Prop := (∀ a, a ≠ 193 → a ≠ 194 → a ≠ 195 → a ≠ 196 → a ≠ 197 → Q a = U a) ∧ (∀ b, 24 ≤ b → Q 193 b = U 193 b ∧ Q 194 b = U 194 b ∧ Q 195 b = U 195 b) ∧ (∀ b, 8 ≤ b → Q 196 b = U 196 b ∧ Q 197 b = U 197 b) ∧ (∀ b, b < l → Q 196 b = U 196 (8 + b) ∧ Q 197 b = U 197 (8 + b)) ∧ (∀ b, b < m → Q 193 b = U 193 (24 + b) ∧ Q 194 b = U 194 (24 + b) ∧ Q 195 b = U 195 (24 + b))
section
variable {X : mm_X} {M : mm_M} {n : Nat}
theorem kl_textb {B : Nat → Int} {sl : Int} : ∀ {k c p c' : Nat} {D D' : Nat → Int}, c + k ≤ 9 → kl_text B n sl k c p D = .ok (c', D') → c' ≤ 8
  | 0, c, p, c', D, D', _, h => by unfold kl_text at h; cases h
  | k + 1, c, p, c', D, D', hk, h => by
    unfold kl_text at h
    split at h
    · cases h; omega
    · split at h
      · cases h
      · exact kl_textb (by omega) h
theorem c_X13_rules {sl : Int} (hR : mm_Rf M) (hn : M 183 2 = (n : Int) ∧ n ≤ 800) (hb : ∀ k : Nat, k < 800 → -128 ≤ M 185 k ∧ M 185 k ≤ 127) (hsl : M 183 16 = sl ∧ 1 ≤ sl ∧ sl ≤ 3) (D0 : Nat → Int) :
    mm_C X Y_X13_rules 243 243 [(2, 184)] M (fun r M' => kr_KQ M M' (kl_text (M 185) n sl 9 0 0 D0) r) := by
  obtain ⟨E, hE⟩ : ∃ E, E = kl_text (M 185) n sl 9 0 0 D0 := ⟨_, rfl⟩
  have hEb : ∀ c D, E = .ok (c, D) → c ≤ 8 := fun c D h => kl_textb (k := 9) (c := 0) (Nat.le_refl _) (hE.symm.trans h)
  rw [← hE]
  refine mm_start (ls := [(2, 184), (9, 0), (9, 0)]) rfl ?_
  have bad : ∀ (N T : mm_M) (k : Int) (s : Nat), E = .error (k, s) → mm_Rf T → (∀ a, a ≠ 183 → N a = M a) → (∀ b, ¬ (2 ≤ b ∧ b ≤ 9) → N 183 b = M 183 b) → N 183 2 = 0 → kq_X kr_A kr_S N T k s → kr_U 0 N T → mm_J X Y_X13_rules 243 243 243 26 [(2, 184), (9, 0), (9, 0)] [(2, 185)] T (fun r M' => kr_KQ M M' E r) := by
    intro N T k s hEe hRT g1 g2 g3 hX hU
    obtain ⟨⟨x1, x2, x3⟩, x4, x5⟩ := hX
    refine mm_astore_n dX13_rules_26 rfl (Nat.le_of_ble_eq_true rfl) rfl ?_
    refine mm_iconst dX13_rules_27 rfl ?_
    refine mm_iret dX13_rules_28 rfl rfl ?_
    rw [hEe]
    refine ⟨hRT, ?_, ?_, ?_, rfl, x4, x5, ?_, ?_⟩
    · rw [x2 2 (by decide) (by unfold kr_S; decide)]; exact g3
    · intro a a1 a2; rw [x1 a a1 a2]; exact g1 a a1
    · intro b b1 b2 b3; rw [x2 b (by omega) b3]; exact g2 b b1
    · rw [x2 20 (by decide) (by unfold kr_S; decide)]; exact g2 20 (by decide)
    · unfold kr_U at hU ⊢
      rw [← g1 193 (by decide), ← g1 194 (by decide), ← g1 195 (by decide), ← g1 196 (by decide), ← g1 197 (by decide)]
      exact hU
  -- what is read is taken
  have take : ∀ (U : mm_M) (c : Nat) (D : Nat → Int), E = .ok (c, D) → mm_Rf U → c ≤ 8 → U 183 20 = (c : Int) → U 183 2 = 0 → U 183 8 = 0 → U 183 9 = -1 → (∀ a, a ≠ 183 → ¬ kr_A a → U a = M a) → (∀ b, ¬ (2 ≤ b ∧ b ≤ 9) → b ≠ 20 → b ≠ 21 → U 183 b = M 183 b) → (∀ l, l < c → kr_L U D l) →
      ∀ l : Nat, l ≤ c → ∀ (Q : mm_M) (l2 : mm_V), mm_Rf Q → kr_cp U Q l (3 * l) → mm_J X Y_X13_rules 243 243 243 39 [(2, 184), (0, (l : Int)), l2] [] Q (fun r M' => kr_KQ M M' E r) := by
    intro U c D hEe hRU hc8 u20 u2 u8 u9 ua ub uL
    refine mm_lp ?_
    intro l hl ih Q l2 hRQ hcp
    have q20 : Q 183 20 = (c : Int) := by rw [hcp.1 183 (by decide) (by decide) (by decide) (by decide) (by decide)]; exact u20
    by_cases hlt : l < c
    · have inner : ∀ k : Nat, k ≤ 3 → ∀ Q : mm_M, mm_Rf Q → kr_cp U Q (l + 1) (3 * l + k) → mm_J X Y_X13_rules 243 243 243 79 [(2, 184), (0, (l : Int)), (0, (k : Int))] [] Q (fun r M' => kr_KQ M M' E r) := by
        refine mm_lp ?_
        intro k hk ihk Q hRQ hcp
        by_cases hkl : k < 3
        · obtain ⟨c1, c2, c3, c4, c5⟩ := hcp
          have b24 := c2 (24 + 3 * l + k) (by omega)
          refine mm_iload_n dX13_rules_79 rfl rfl ?_
          refine mm_iconst dX13_rules_80 rfl ?_
          refine mm_icge dX13_rules_81 (by omega) (by omega) (fun h81 => ?_) (fun h81 => ?_)
          · exfalso; omega
          · refine mm_aload_n dX13_rules_84 rfl rfl ?_
            refine mm_getr dX13_rules_85 rfl fl_X13_185 (c := 183) rfl (by decide) rfl rfl (hRQ.at (c := 183) (i := 22) (v := 194) rfl (by decide)) ?_
            refine mm_iconst dX13_rules_88 rfl ?_
            refine mm_iload_n dX13_rules_89 rfl rfl ?_
            refine mm_imul dX13_rules_90 rfl ?_
            refine mm_iload_n dX13_rules_91 rfl rfl ?_
            refine mm_iadd dX13_rules_92 rfl ?_
            refine mm_aload_n dX13_rules_93 rfl rfl ?_
            refine mm_getr dX13_rules_94 rfl fl_X13_185 (c := 183) rfl (by decide) rfl rfl (hRQ.at (c := 183) (i := 22) (v := 194) rfl (by decide)) ?_
            refine mm_iconst dX13_rules_97 rfl ?_
            refine mm_bipush dX13_rules_98 rfl (by decide) ?_
            refine mm_iload_n dX13_rules_100 rfl rfl ?_
            refine mm_iadd dX13_rules_101 rfl ?_
            refine mm_imul dX13_rules_102 rfl ?_
            refine mm_iload_n dX13_rules_103 rfl rfl ?_
            refine mm_iadd dX13_rules_104 rfl ?_
            refine mm_ialk (k0 := (24 + 3 * l + k)) dX13_rules_105 rfl (c := 193) rfl (by decide) rfl (by omega) (by omega) ?_
            refine mm_istk (k0 := (3 * l + k)) dX13_rules_106 rfl (c := 193) rfl (by decide) rfl (by omega) (by omega) (fun M106 hM106 => ?_)
            have hR106 : mm_Rf M106 := by rw [hM106]; exact hRQ.up (mm_rt_ar (t := 0) rfl (by decide))
            refine mm_aload_n dX13_rules_107 rfl rfl ?_
            refine mm_getr dX13_rules_108 rfl fl_X13_188 (c := 183) rfl (by decide) rfl rfl (hR106.at (c := 183) (i := 23) (v := 195) rfl (by decide)) ?_
            refine mm_iconst dX13_rules_111 rfl ?_
            refine mm_iload_n dX13_rules_112 rfl rfl ?_
            refine mm_imul dX13_rules_113 rfl ?_
            refine mm_iload_n dX13_rules_114 rfl rfl ?_
            refine mm_iadd dX13_rules_115 rfl ?_
            refine mm_aload_n dX13_rules_116 rfl rfl ?_
            refine mm_getr dX13_rules_117 rfl fl_X13_188 (c := 183) rfl (by decide) rfl rfl (hR106.at (c := 183) (i := 23) (v := 195) rfl (by decide)) ?_
            refine mm_iconst dX13_rules_120 rfl ?_
            refine mm_bipush dX13_rules_121 rfl (by decide) ?_
            refine mm_iload_n dX13_rules_123 rfl rfl ?_
            refine mm_iadd dX13_rules_124 rfl ?_
            refine mm_imul dX13_rules_125 rfl ?_
            refine mm_iload_n dX13_rules_126 rfl rfl ?_
            refine mm_iadd dX13_rules_127 rfl ?_
            refine mm_ialk (k0 := (24 + 3 * l + k)) dX13_rules_128 rfl (c := 194) rfl (by decide) rfl (by omega) (by omega) ?_
            rw [show M106 194 = Q 194 from by rw [hM106, mm_up_row (by decide)]]
            refine mm_istk (k0 := (3 * l + k)) dX13_rules_129 rfl (c := 194) rfl (by decide) rfl (by omega) (by omega) (fun M129 hM129 => ?_)
            have hR129 : mm_Rf M129 := by rw [hM129]; exact hR106.up (mm_rt_ar (t := 0) rfl (by decide))
            refine mm_aload_n dX13_rules_130 rfl rfl ?_
            refine mm_getr dX13_rules_131 rfl fl_X13_191 (c := 183) rfl (by decide) rfl rfl (hR129.at (c := 183) (i := 24) (v := 196) rfl (by decide)) ?_
            refine mm_iconst dX13_rules_134 rfl ?_
            refine mm_iload_n dX13_rules_135 rfl rfl ?_
            refine mm_imul dX13_rules_136 rfl ?_
            refine mm_iload_n dX13_rules_137 rfl rfl ?_
            refine mm_iadd dX13_rules_138 rfl ?_
            refine mm_aload_n dX13_rules_139 rfl rfl ?_
            refine mm_getr dX13_rules_140 rfl fl_X13_191 (c := 183) rfl (by decide) rfl rfl (hR129.at (c := 183) (i := 24) (v := 196) rfl (by decide)) ?_
            refine mm_iconst dX13_rules_143 rfl ?_
            refine mm_bipush dX13_rules_144 rfl (by decide) ?_
            refine mm_iload_n dX13_rules_146 rfl rfl ?_
            refine mm_iadd dX13_rules_147 rfl ?_
            refine mm_imul dX13_rules_148 rfl ?_
            refine mm_iload_n dX13_rules_149 rfl rfl ?_
            refine mm_iadd dX13_rules_150 rfl ?_
            refine mm_ialk (k0 := (24 + 3 * l + k)) dX13_rules_151 rfl (c := 195) rfl (by decide) rfl (by omega) (by omega) ?_
            rw [show M129 195 = Q 195 from by rw [hM129, mm_up_row (by decide), hM106, mm_up_row (by decide)]]
            refine mm_istk (k0 := (3 * l + k)) dX13_rules_152 rfl (c := 195) rfl (by decide) rfl (by omega) (by omega) (fun M152 hM152 => ?_)
            have hR152 : mm_Rf M152 := by rw [hM152]; exact hR129.up (mm_rt_ar (t := 0) rfl (by decide))
            refine mm_iinc dX13_rules_153 rfl rfl (Nat.le_of_ble_eq_true rfl) rfl ?_
            refine mm_goto dX13_rules_156 ?_
            refine ihk hkl _ hR152 ⟨?_, ?_, ?_, ?_, ?_⟩
            · intro a a1 a2 a3 a4 a5; rw [hM152, mm_up_row a3, hM129, mm_up_row a2, hM106, mm_up_row a1]; exact c1 a a1 a2 a3 a4 a5
            · intro b hb
              rw [hM152, mm_up_row (by decide), mm_up_row (by decide), mm_up_i (by omega), hM129, mm_up_row (by decide), mm_up_i (by omega), mm_up_row (by decide), hM106, mm_up_i (by omega), mm_up_row (by decide), mm_up_row (by decide)]
              exact c2 b hb
            · intro b hb
              rw [hM152, mm_up_row (by decide), mm_up_row (by decide), hM129, mm_up_row (by decide), mm_up_row (by decide), hM106, mm_up_row (by decide), mm_up_row (by decide)]
              exact c3 b hb
            · intro b hb
              rw [hM152, mm_up_row (by decide), mm_up_row (by decide), hM129, mm_up_row (by decide), mm_up_row (by decide), hM106, mm_up_row (by decide), mm_up_row (by decide)]
              exact c4 b hb
            · intro b hb
              rw [hM152, mm_up_row (by decide), mm_up_row (by decide), hM129, mm_up_row (by decide)]
              by_cases q : b = 3 * l + k
              · rw [q, mm_up_s, mm_up_s, hM106, mm_up_s, b24.1, b24.2.1, b24.2.2, show 24 + (3 * l + k) = 24 + 3 * l + k by omega]
                exact ⟨rfl, rfl, rfl⟩
              · rw [mm_up_i q, mm_up_i q, mm_up_row (by decide), hM106, mm_up_i q, mm_up_row (by decide), mm_up_row (by decide)]
                exact c5 b (by omega)
        · refine mm_iload_n dX13_rules_79 rfl rfl ?_
          refine mm_iconst dX13_rules_80 rfl ?_
          refine mm_icge dX13_rules_81 (by omega) (by omega) (fun h81 => ?_) (fun h81 => ?_)
          · refine mm_iinc dX13_rules_159 rfl rfl (Nat.le_of_ble_eq_true rfl) rfl ?_
            refine mm_goto dX13_rules_162 ?_
            refine ih hlt Q _ hRQ ?_
            rw [show 3 * (l + 1) = 3 * l + k by omega]
            exact hcp
          · exfalso; omega
      obtain ⟨c1, c2, c3, c4, c5⟩ := hcp
      have b8 := c3 (8 + l) (by omega)
      refine mm_iload_n dX13_rules_39 rfl rfl ?_
      refine mm_aload_n dX13_rules_40 rfl rfl ?_
      refine mm_get (kd := 0) dX13_rules_41 rfl fl_X13_394 (c := 183) rfl (by decide) rfl rfl ?_
      obtain ⟨v41, hv41⟩ : ∃ v, v = Q 183 20 := ⟨_, rfl⟩
      rw [← hv41]
      rw [q20] at hv41
      subst hv41
      refine mm_icge dX13_rules_44 (by omega) (by omega) (fun h44 => ?_) (fun h44 => ?_)
      · exfalso; omega
      · refine mm_aload_n dX13_rules_47 rfl rfl ?_
        refine mm_getr dX13_rules_48 rfl fl_X13_182 (c := 183) rfl (by decide) rfl rfl (hRQ.at (c := 183) (i := 25) (v := 197) rfl (by decide)) ?_
        refine mm_iload_n dX13_rules_51 rfl rfl ?_
        refine mm_aload_n dX13_rules_52 rfl rfl ?_
        refine mm_getr dX13_rules_53 rfl fl_X13_182 (c := 183) rfl (by decide) rfl rfl (hRQ.at (c := 183) (i := 25) (v := 197) rfl (by decide)) ?_
        refine mm_bipush dX13_rules_56 rfl (by decide) ?_
        refine mm_iload_n dX13_rules_58 rfl rfl ?_
        refine mm_iadd dX13_rules_59 rfl ?_
        refine mm_ialk (k0 := (8 + l)) dX13_rules_60 rfl (c := 196) rfl (by decide) rfl (by omega) (by omega) ?_
        refine mm_istk (k0 := l) dX13_rules_61 rfl (c := 196) rfl (by decide) rfl (by omega) (by omega) (fun M61 hM61 => ?_)
        have hR61 : mm_Rf M61 := by rw [hM61]; exact hRQ.up (mm_rt_ar (t := 0) rfl (by decide))
        refine mm_aload_n dX13_rules_62 rfl rfl ?_
        refine mm_getr dX13_rules_63 rfl fl_X13_229 (c := 183) rfl (by decide) rfl rfl (hR61.at (c := 183) (i := 26) (v := 198) rfl (by decide)) ?_
        refine mm_iload_n dX13_rules_66 rfl rfl ?_
        refine mm_aload_n dX13_rules_67 rfl rfl ?_
        refine mm_getr dX13_rules_68 rfl fl_X13_229 (c := 183) rfl (by decide) rfl rfl (hR61.at (c := 183) (i := 26) (v := 198) rfl (by decide)) ?_
        refine mm_bipush dX13_rules_71 rfl (by decide) ?_
        refine mm_iload_n dX13_rules_73 rfl rfl ?_
        refine mm_iadd dX13_rules_74 rfl ?_
        refine mm_ialk (k0 := (8 + l)) dX13_rules_75 rfl (c := 197) rfl (by decide) rfl (by omega) (by omega) ?_
        rw [show M61 197 = Q 197 from by rw [hM61, mm_up_row (by decide)]]
        refine mm_istk (k0 := l) dX13_rules_76 rfl (c := 197) rfl (by decide) rfl (by omega) (by omega) (fun M76 hM76 => ?_)
        have hR76 : mm_Rf M76 := by rw [hM76]; exact hR61.up (mm_rt_ar (t := 0) rfl (by decide))
        refine mm_iconst dX13_rules_77 rfl ?_
        refine mm_istore_n dX13_rules_78 rfl (Nat.le_of_ble_eq_true rfl) rfl ?_
        refine inner 0 (Nat.zero_le _) _ hR76 ⟨?_, ?_, ?_, ?_, ?_⟩
        · intro a a1 a2 a3 a4 a5; rw [hM76, mm_up_row a5, hM61, mm_up_row a4]; exact c1 a a1 a2 a3 a4 a5
        · intro b hb
          rw [hM76, mm_up_row (by decide), mm_up_row (by decide), mm_up_row (by decide), hM61, mm_up_row (by decide), mm_up_row (by decide), mm_up_row (by decide)]
          exact c2 b hb
        · intro b hb
          rw [hM76, mm_up_row (by decide), mm_up_i (by omega), hM61, mm_up_i (by omega), mm_up_row (by decide)]
          exact c3 b hb
        · intro b hb
          rw [hM76, mm_up_row (by decide)]
          by_cases q : b = l
          · rw [q, mm_up_s, hM61, mm_up_s]; exact b8
          · rw [mm_up_i q, hM61, mm_up_i q, mm_up_row (by decide)]; exact c4 b (by omega)
        · intro b hb
          rw [hM76, mm_up_row (by decide), mm_up_row (by decide), mm_up_row (by decide), hM61, mm_up_row (by decide), mm_up_row (by decide), mm_up_row (by decide)]
          exact c5 b (by omega)
    · refine mm_iload_n dX13_rules_39 rfl rfl ?_
      refine mm_aload_n dX13_rules_40 rfl rfl ?_
      refine mm_get (kd := 0) dX13_rules_41 rfl fl_X13_394 (c := 183) rfl (by decide) rfl rfl ?_
      obtain ⟨v41, hv41⟩ : ∃ v, v = Q 183 20 := ⟨_, rfl⟩
      rw [← hv41]
      rw [q20] at hv41
      subst hv41
      refine mm_icge dX13_rules_44 (by omega) (by omega) (fun h44 => ?_) (fun h44 => ?_)
      · refine mm_aload_n dX13_rules_165 rfl rfl ?_
        refine mm_get (kd := 0) dX13_rules_166 rfl fl_X13_394 (c := 183) rfl (by decide) rfl rfl ?_
        obtain ⟨v166, hv166⟩ : ∃ v, v = Q 183 20 := ⟨_, rfl⟩
        rw [← hv166]
        rw [q20] at hv166
        subst hv166
        refine mm_iret dX13_rules_169 rfl rfl ?_
        obtain ⟨c1, c2, c3, c4, c5⟩ := hcp
        have e183 : Q 183 = U 183 := c1 183 (by decide) (by decide) (by decide) (by decide) (by decide)
        rw [hEe]
        refine ⟨hRQ, ?_, ?_, ?_, rfl, ?_, ?_, q20, hc8, ?_⟩
        · rw [e183]; exact u2
        · intro a a1 a2; unfold kr_A at a2; rw [c1 a (by omega) (by omega) (by omega) (by omega) (by omega)]; exact ua a a1 (by unfold kr_A; omega)
        · intro b b1 b2 b3; rw [e183]; exact ub b b1 b2 b3
        · rw [e183]; exact u8
        · rw [e183]; exact u9
        · intro k hk
          obtain ⟨z1, z2, z3, z4⟩ := uL k hk
          refine ⟨(c4 k (by omega)).1.trans z1, z2, ?_, (c4 k (by omega)).2.trans z4⟩
          intro i hi
          obtain ⟨y1, y2, y3⟩ := c5 (3 * k + i) (by omega)
          obtain ⟨x1, x2, x3⟩ := z3 i hi
          rw [y1, y2, y3, show 24 + (3 * k + i) = 24 + 3 * k + i by omega]
          exact ⟨x1, x2, x3⟩
      · exfalso; omega
  have loop : ∀ (N : mm_M), (∀ a, a ≠ 183 → N a = M a) → (∀ b, ¬ (2 ≤ b ∧ b ≤ 9) → N 183 b = M 183 b) → N 183 2 = 0 →
      ∀ c : Nat, c ≤ 8 → ∀ (Q : mm_M) (p : Nat) (D : Nat → Int), kq_I kr_A kr_S N Q n p → Q 183 21 = (c : Int) → Q 183 8 = 0 → Q 183 9 = -1 → kr_U 0 N Q → (∀ l, l < c → kr_L Q D l) → kl_text (M 185) n sl (9 - c) c p D = E → mm_J X Y_X13_rules 243 243 243 9 [(2, 184), (9, 0), (9, 0)] [] Q (fun r M' => kr_KQ M M' E r) := by
    intro N g1 g2 g3
    refine mm_lp ?_
    intro c hc ih Q p D hQ q21 q8 q9 hU hLs hL
    have hRQ := hQ.1
    have e185 : N 185 = M 185 := g1 185 (by decide)
    have hk1 := (kq_hd hQ).1
    rw [e185] at hk1
    have hkb := kt_kb (B := M 185) (n := n) (p := p)
    have q16 : Q 183 16 = sl := by rw [hQ.2.1.2.1 16 (by decide) (by unfold kr_S; decide), g2 16 (by decide)]; exact hsl.1
    rw [show 9 - c = (8 - c) + 1 by omega, kl_text] at hL
    have nx : ∀ T : mm_M, mm_J X Y_X13_rules 243 243 243 9 [(2, 184), (9, 0), (9, 0)] [] T (fun r M' => kr_KQ M M' E r) → mm_J X Y_X13_rules 243 243 243 20 [(2, 184), (9, 0), (9, 0)] [] T (fun r M' => kr_KQ M M' E r) := by
      intro T h
      refine mm_goto dX13_rules_20 ?_
      exact h
    refine mm_aload_n dX13_rules_9 rfl rfl ?_
    refine mm_get (kd := 0) dX13_rules_10 rfl fl_X13_37 (c := 183) rfl (by decide) rfl rfl ?_
    obtain ⟨v10, hv10⟩ : ∃ v, v = Q 183 6 := ⟨_, rfl⟩
    rw [← hv10]
    rw [hk1] at hv10
    subst hv10
    refine mm_ifeq dX13_rules_13 (by omega) (fun h13 => ?_) (fun h13 => ?_)
    · refine mm_goto dX13_rules_23 ?_
      refine mm_aload_n dX13_rules_29 rfl rfl ?_
      refine mm_aload_n dX13_rules_30 rfl rfl ?_
      refine mm_get (kd := 0) dX13_rules_31 rfl fl_X13_212 (c := 183) rfl (by decide) rfl rfl ?_
      obtain ⟨v31, hv31⟩ : ∃ v, v = Q 183 21 := ⟨_, rfl⟩
      rw [← hv31]
      rw [q21] at hv31
      subst hv31
      refine mm_puti dX13_rules_34 rfl fl_X13_394 (c := 183) rfl (by decide) rfl rfl (fun M34 hM34 => ?_)
      have hR34 : mm_Rf M34 := by rw [hM34]; exact hRQ.up rfl
      refine mm_iconst dX13_rules_37 rfl ?_
      refine mm_istore_n dX13_rules_38 rfl (Nat.le_of_ble_eq_true rfl) rfl ?_
      rw [if_pos h13] at hL
      refine take _ c D hL.symm hR34 hc ?_ ?_ ?_ ?_ ?_ ?_ ?_ 0 (Nat.zero_le _) _ _ hR34 ⟨fun _ _ _ _ _ _ => rfl, fun _ _ => ⟨rfl, rfl, rfl⟩, fun _ _ => ⟨rfl, rfl⟩, fun b hb => absurd hb (Nat.not_lt_zero b), fun b hb => absurd hb (Nat.not_lt_zero b)⟩
      · rw [hM34, mm_up_s]
      · rw [hM34, mm_up_i (by decide), hQ.2.1.2.1 2 (by decide) (by unfold kr_S; decide)]; exact g3
      · rw [hM34, mm_up_i (by decide)]; exact q8
      · rw [hM34, mm_up_i (by decide)]; exact q9
      · intro a a1 a2; rw [hM34, mm_up_row a1, hQ.2.1.1 a a1 a2]; exact g1 a a1
      · intro b b1 b2 b3; rw [hM34, mm_up_i b2, hQ.2.1.2.1 b (by omega) b3]; exact g2 b b1
      · intro l hl
        have := hLs l hl
        unfold kr_L at this ⊢
        rw [hM34, mm_up_row (by decide), mm_up_row (by decide), mm_up_row (by decide), mm_up_row (by decide), mm_up_row (by decide)]
        exact this
    · refine mm_aload_n dX13_rules_16 rfl rfl ?_
      rw [if_neg h13] at hL
      have cR := c_X13_readLine (X := X) (c := c) (sl := sl) hc hQ q21 ⟨q16, hsl.2⟩ D
      rw [e185] at cR
      refine mm_V0h dX13_rules_17 rfl lk_X13_416 (c := 183) rfl (by decide) rfl rfl rfl rfl rfl (by decide) cl_X13_237 (by decide) cR ?_
      have uu : ∀ T, kr_U c Q T → kr_U 0 N T := by
        intro T h
        exact ⟨fun b hb => ⟨(h.1 b (by omega)).1.trans (hU.1 b hb).1, (h.1 b (by omega)).2.1.trans (hU.1 b hb).2.1, (h.1 b (by omega)).2.2.trans (hU.1 b hb).2.2⟩, fun b hb => ⟨(h.2 b (by omega)).1.trans (hU.2 b hb).1, (h.2 b (by omega)).2.trans (hU.2 b hb).2⟩⟩
      rintro r T (⟨rfl, h1, k, s, h2, h3, h4⟩ | ⟨rfl, h1, p', D', h2, h3, h4, h5, h6, h7, h8⟩)
      · rw [h2] at hL
        exact ⟨rfl, bad N T k s hL.symm h1 g1 g2 g3 h3 (uu T h4)⟩
      · rw [h2] at hL
        have hc8 : c < 8 := by
          rcases Nat.lt_or_ge c 8 with z | z
          · exact z
          · exfalso
            unfold kl_line at h2
            split at h2
            · cases h2
            · cases h2
        refine nx T ?_
        refine ih hc8 T p' D' h3 (by rw [h7]; rfl) ?_ ?_ (uu T h4) ?_ (by rw [show 9 - (c + 1) = 8 - c by omega]; exact hL)
        · rw [h8 8 (by decide) (by decide)]; exact q8
        · rw [h8 9 (by decide) (by decide)]; exact q9
        · intro l hl
          by_cases q : l = c
          · rw [q]; exact h5
          · obtain ⟨z1, z2, z3, z4⟩ := hLs l (by omega)
            refine ⟨?_, ?_, ?_, ?_⟩
            · rw [(h4.2 (8 + l) (by omega)).1, h6 _ (by omega)]; exact z1
            · rw [h6 _ (by omega)]; exact z2
            · intro i hi
              rw [h6 _ (by omega)] at hi
              obtain ⟨y1, y2, y3⟩ := h4.1 (24 + 3 * l + i) (by omega)
              rw [y1, y2, y3, h6 _ (by omega), h6 _ (by omega), h6 _ (by omega)]
              exact z3 i hi
            · rw [(h4.2 (8 + l) (by omega)).2, h6 _ (by omega)]; exact z4
  refine mm_aload_n dX13_rules_0 rfl rfl ?_
  refine mm_V0g (M1 := M) dX13_rules_1 rfl lk_X13_388 (c := 183) rfl (by decide) rfl  rfl rfl rfl (c_X13_begin hR hn hb) ?_
  rintro _ N1 ⟨rfl, p1⟩
  change mm_J _ _ _ _ _ _ _ _ _ _
  have hR1 : mm_Rf N1 := p1.1
  refine mm_aload_n dX13_rules_4 rfl rfl ?_
  refine mm_iconst dX13_rules_5 rfl ?_
  refine mm_puti dX13_rules_6 rfl fl_X13_212 (c := 183) rfl (by decide) rfl rfl (fun M6 hM6 => ?_)
  have hR6 : mm_Rf M6 := by rw [hM6]; exact hR1.up rfl
  obtain ⟨-, gg, gT, gH, g1, g2, g3, g4, g5⟩ := p1
  have hI0 : kq_I kr_A kr_S N1 N1 n 0 := ⟨hR1, ⟨fun _ _ _ => rfl, fun _ _ _ => rfl, id⟩, rfl, gT, Nat.zero_le _, gH⟩
  have hI : kq_I kr_A kr_S N1 M6 n 0 := by rw [hM6]; exact hI0.uf rfl kr_A185 kr_S37 rfl
  refine loop N1 g1 g2 g3 0 (Nat.zero_le _) _ 0 D0 hI ?_ ?_ ?_ ?_ (fun l hl => absurd hl (Nat.not_lt_zero l)) hE.symm
  · rw [hM6, mm_up_s]; rfl
  · rw [hM6, mm_up_i (by decide)]; exact g4
  · rw [hM6, mm_up_i (by decide)]; exact g5
  · rw [hM6]; exact ⟨fun b _ => by rw [mm_up_row (by decide), mm_up_row (by decide), mm_up_row (by decide)]; exact ⟨rfl, rfl, rfl⟩, fun b _ => by rw [mm_up_row (by decide), mm_up_row (by decide)]; exact ⟨rfl, rfl⟩⟩
end

