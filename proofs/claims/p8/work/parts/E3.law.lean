/-! ===== the law: words, cases, loop ===== -/
def Y_L (nm : String) (hs : List (Nat × Nat × Nat × Nat)) : mm_Y := (⟨RL, nm, "([I)Z"⟩, cL_law, 4, some .boolean, 13, 488, hs)
theorem lm_L_12 : mm_LI RL 12 Y_M_init 0 := ⟨⟨mm_w1 5 114 rfl rfl, cw_X13_init, by decide +kernel, ⟨by decide +kernel, by decide +kernel⟩, by decide +kernel⟩, mm_w1 5 115 rfl rfl, rfl, rfl, rfl⟩
theorem lk_L_13 : mm_LV RL 13 Y_X11_feed 11 5 := ⟨⟨mm_w1 2 76 rfl rfl, cw_X11_feed, by decide +kernel, ⟨by decide +kernel, by decide +kernel⟩, by decide +kernel⟩, mm_w1 2 77 rfl rfl, RX11, TX11, 15, rfl, mm_w1 2 78 rfl rfl⟩
theorem lk_L_17 : mm_LV RL 17 Y_X13_feed 13 5 := ⟨⟨mm_w1 7 40 rfl rfl, cw_X13_feed, by decide +kernel, ⟨by decide +kernel, by decide +kernel⟩, by decide +kernel⟩, mm_w1 7 41 rfl rfl, RX13, TX13, 110, rfl, mm_w1 7 42 rfl rfl⟩
theorem lk_L_18 : mm_LV RL 18 Y_X11_end 11 1 := ⟨⟨mm_w1 2 88 rfl rfl, cw_X11_end, by decide +kernel, ⟨by decide +kernel, by decide +kernel⟩, by decide +kernel⟩, mm_w1 2 89 rfl rfl, RX11, TX11, 15, rfl, mm_w1 2 90 rfl rfl⟩
theorem lk_L_22 : mm_LV RL 22 Y_X13_end 13 1 := ⟨⟨mm_w1 7 48 rfl rfl, cw_X13_end, by decide +kernel, ⟨by decide +kernel, by decide +kernel⟩, by decide +kernel⟩, mm_w1 7 49 rfl rfl, RX13, TX13, 110, rfl, mm_w1 7 50 rfl rfl⟩
theorem lk_L_23 : mm_LV RL 23 Y_X11_kite 11 0 := ⟨⟨mm_w1 2 92 rfl rfl, cw_X11_kite, by decide +kernel, ⟨by decide +kernel, by decide +kernel⟩, by decide +kernel⟩, mm_w1 2 93 rfl rfl, RX11, TX11, 15, rfl, mm_w1 2 94 rfl rfl⟩
theorem lk_L_27 : mm_LV RL 27 Y_X13_kite 13 0 := ⟨⟨mm_w1 7 55 rfl rfl, cw_X13_kite, by decide +kernel, ⟨by decide +kernel, by decide +kernel⟩, by decide +kernel⟩, mm_w1 7 56 rfl rfl, RX13, TX13, 110, rfl, mm_w1 7 57 rfl rfl⟩
theorem lk_L_28 : mm_LV RL 28 Y_X11_rules 11 0 := ⟨⟨mm_w1 2 226 rfl rfl, cw_X11_rules, by decide +kernel, ⟨by decide +kernel, by decide +kernel⟩, by decide +kernel⟩, mm_w1 2 227 rfl rfl, RX11, TX11, 15, rfl, mm_w1 2 228 rfl rfl⟩
theorem lk_L_31 : mm_LV RL 31 Y_X13_rules 13 0 := ⟨⟨mm_w1 7 131 rfl rfl, cw_X13_rules, by decide +kernel, ⟨by decide +kernel, by decide +kernel⟩, by decide +kernel⟩, mm_w1 7 132 rfl rfl, RX13, TX13, 110, rfl, mm_w1 7 133 rfl rfl⟩
theorem lk_L_32 : mm_LV RL 32 Y_X11_fault 11 1 := ⟨⟨mm_w1 3 29 rfl rfl, cw_X11_fault, by decide +kernel, ⟨by decide +kernel, by decide +kernel⟩, by decide +kernel⟩, mm_w1 3 30 rfl rfl, RX11, TX11, 15, rfl, mm_w1 3 31 rfl rfl⟩
theorem lk_L_35 : mm_LV RL 35 Y_X13_fault 13 1 := ⟨⟨mm_w1 7 174 rfl rfl, cw_X13_fault, by decide +kernel, ⟨by decide +kernel, by decide +kernel⟩, by decide +kernel⟩, mm_w1 7 175 rfl rfl, RX13, TX13, 110, rfl, mm_w1 7 176 rfl rfl⟩
theorem lk_L_36 : mm_LV RL 36 Y_X11_told 11 1 := ⟨⟨mm_w1 3 33 rfl rfl, cw_X11_told, by decide +kernel, ⟨by decide +kernel, by decide +kernel⟩, by decide +kernel⟩, mm_w1 3 34 rfl rfl, RX11, TX11, 15, rfl, mm_w1 3 35 rfl rfl⟩
theorem lk_L_39 : mm_LV RL 39 Y_X13_told 13 1 := ⟨⟨mm_w1 7 178 rfl rfl, cw_X13_told, by decide +kernel, ⟨by decide +kernel, by decide +kernel⟩, by decide +kernel⟩, mm_w1 7 179 rfl rfl, RX13, TX13, 110, rfl, mm_w1 7 180 rfl rfl⟩
theorem lk_L_40 : mm_LV RL 40 Y_X11_state 11 2 := ⟨⟨mm_w1 3 42 rfl rfl, cw_X11_state, by decide +kernel, ⟨by decide +kernel, by decide +kernel⟩, by decide +kernel⟩, mm_w1 3 43 rfl rfl, RX11, TX11, 15, rfl, mm_w1 3 44 rfl rfl⟩
theorem lk_L_44 : mm_LV RL 44 Y_X13_state 13 2 := ⟨⟨mm_w1 7 187 rfl rfl, cw_X13_state, by decide +kernel, ⟨by decide +kernel, by decide +kernel⟩, by decide +kernel⟩, mm_w1 7 188 rfl rfl, RX13, TX13, 110, rfl, mm_w1 7 189 rfl rfl⟩
theorem lk_L_45 : mm_LV RL 45 Y_X11_leads 11 2 := ⟨⟨mm_w1 3 50 rfl rfl, cw_X11_leads, by decide +kernel, ⟨by decide +kernel, by decide +kernel⟩, by decide +kernel⟩, mm_w1 3 51 rfl rfl, RX11, TX11, 15, rfl, mm_w1 3 52 rfl rfl⟩
theorem lk_L_48 : mm_LV RL 48 Y_X13_leads 13 2 := ⟨⟨mm_w1 7 219 rfl rfl, cw_X13_leads, by decide +kernel, ⟨by decide +kernel, by decide +kernel⟩, by decide +kernel⟩, mm_w1 7 220 rfl rfl, RX13, TX13, 110, rfl, mm_w1 7 221 rfl rfl⟩
theorem lk_L_49 : mm_LV RL 49 Y_X11_wind 11 5 := ⟨⟨mm_w1 3 88 rfl rfl, cw_X11_wind, by decide +kernel, ⟨by decide +kernel, by decide +kernel⟩, by decide +kernel⟩, mm_w1 3 89 rfl rfl, RX11, TX11, 15, rfl, mm_w1 3 90 rfl rfl⟩
theorem lk_L_52 : mm_LV RL 52 Y_X13_wind 13 5 := ⟨⟨mm_w1 8 13 rfl rfl, cw_X13_wind, by decide +kernel, ⟨by decide +kernel, by decide +kernel⟩, by decide +kernel⟩, mm_w1 8 14 rfl rfl, RX13, TX13, 110, rfl, mm_w1 8 15 rfl rfl⟩
theorem lk_L_53 : mm_LV RL 53 Y_X11_winds 11 3 := ⟨⟨mm_w1 3 110 rfl rfl, cw_X11_winds, by decide +kernel, ⟨by decide +kernel, by decide +kernel⟩, by decide +kernel⟩, mm_w1 3 111 rfl rfl, RX11, TX11, 15, rfl, mm_w1 3 112 rfl rfl⟩
theorem lk_L_57 : mm_LV RL 57 Y_X13_winds 13 3 := ⟨⟨mm_w1 8 27 rfl rfl, cw_X13_winds, by decide +kernel, ⟨by decide +kernel, by decide +kernel⟩, by decide +kernel⟩, mm_w1 8 28 rfl rfl, RX13, TX13, 110, rfl, mm_w1 8 29 rfl rfl⟩
theorem lk_L_58 : mm_LV RL 58 Y_X11_pull 11 3 := ⟨⟨mm_w1 3 121 rfl rfl, cw_X11_pull, by decide +kernel, ⟨by decide +kernel, by decide +kernel⟩, by decide +kernel⟩, mm_w1 3 122 rfl rfl, RX11, TX11, 15, rfl, mm_w1 3 123 rfl rfl⟩
theorem lk_L_61 : mm_LV RL 61 Y_X13_pull 13 3 := ⟨⟨mm_w1 8 31 rfl rfl, cw_X13_pull, by decide +kernel, ⟨by decide +kernel, by decide +kernel⟩, by decide +kernel⟩, mm_w1 8 32 rfl rfl, RX13, TX13, 110, rfl, mm_w1 8 33 rfl rfl⟩
theorem lk_L_62 : mm_LV RL 62 Y_X11_safe 11 3 := ⟨⟨mm_w1 3 136 rfl rfl, cw_X11_safe, by decide +kernel, ⟨by decide +kernel, by decide +kernel⟩, by decide +kernel⟩, mm_w1 3 137 rfl rfl, RX11, TX11, 15, rfl, mm_w1 3 138 rfl rfl⟩
theorem lk_L_65 : mm_LV RL 65 Y_X13_safe 13 3 := ⟨⟨mm_w1 8 40 rfl rfl, cw_X13_safe, by decide +kernel, ⟨by decide +kernel, by decide +kernel⟩, by decide +kernel⟩, mm_w1 8 41 rfl rfl, RX13, TX13, 110, rfl, mm_w1 8 42 rfl rfl⟩
theorem lk_L_66 : mm_LV RL 66 Y_X11_gives 11 3 := ⟨⟨mm_w1 3 170 rfl rfl, cw_X11_gives, by decide +kernel, ⟨by decide +kernel, by decide +kernel⟩, by decide +kernel⟩, mm_w1 3 171 rfl rfl, RX11, TX11, 15, rfl, mm_w1 3 172 rfl rfl⟩
theorem lk_L_69 : mm_LV RL 69 Y_X13_gives 13 3 := ⟨⟨mm_w1 8 56 rfl rfl, cw_X13_gives, by decide +kernel, ⟨by decide +kernel, by decide +kernel⟩, by decide +kernel⟩, mm_w1 8 57 rfl rfl, RX13, TX13, 110, rfl, mm_w1 8 58 rfl rfl⟩
theorem lk_L_70 : mm_LV RL 70 Y_X11_best 11 1 := ⟨⟨mm_w1 3 184 rfl rfl, cw_X11_best, by decide +kernel, ⟨by decide +kernel, by decide +kernel⟩, by decide +kernel⟩, mm_w1 3 185 rfl rfl, RX11, TX11, 15, rfl, mm_w1 3 186 rfl rfl⟩
theorem lk_L_73 : mm_LV RL 73 Y_X13_best 13 1 := ⟨⟨mm_w1 8 70 rfl rfl, cw_X13_best, by decide +kernel, ⟨by decide +kernel, by decide +kernel⟩, by decide +kernel⟩, mm_w1 8 71 rfl rfl, RX13, TX13, 110, rfl, mm_w1 8 72 rfl rfl⟩
theorem lk_L_74 : mm_LV RL 74 Y_X11_looped 11 1 := ⟨⟨mm_w1 4 48 rfl rfl, cw_X11_looped, by decide +kernel, ⟨by decide +kernel, by decide +kernel⟩, by decide +kernel⟩, mm_w1 4 49 rfl rfl, RX11, TX11, 15, rfl, mm_w1 4 50 rfl rfl⟩
theorem lk_L_77 : mm_LV RL 77 Y_X13_looped 13 1 := ⟨⟨mm_w1 8 136 rfl rfl, cw_X13_looped, by decide +kernel, ⟨by decide +kernel, by decide +kernel⟩, by decide +kernel⟩, mm_w1 8 137 rfl rfl, RX13, TX13, 110, rfl, mm_w1 8 138 rfl rfl⟩
theorem lk_L_78 : mm_LV RL 78 Y_X11_judge 11 2 := ⟨⟨mm_w1 4 52 rfl rfl, cw_X11_judge, by decide +kernel, ⟨by decide +kernel, by decide +kernel⟩, by decide +kernel⟩, mm_w1 4 53 rfl rfl, RX11, TX11, 15, rfl, mm_w1 4 54 rfl rfl⟩
theorem lk_L_81 : mm_LV RL 81 Y_X13_judge 13 2 := ⟨⟨mm_w1 8 141 rfl rfl, cw_X13_judge, by decide +kernel, ⟨by decide +kernel, by decide +kernel⟩, by decide +kernel⟩, mm_w1 8 142 rfl rfl, RX13, TX13, 110, rfl, mm_w1 8 143 rfl rfl⟩
theorem lk_L_82 : mm_LV RL 82 Y_X11_judged 11 1 := ⟨⟨mm_w1 4 78 rfl rfl, cw_X11_judged, by decide +kernel, ⟨by decide +kernel, by decide +kernel⟩, by decide +kernel⟩, mm_w1 4 79 rfl rfl, RX11, TX11, 15, rfl, mm_w1 4 80 rfl rfl⟩
theorem lk_L_85 : mm_LV RL 85 Y_X13_judged 13 1 := ⟨⟨mm_w1 8 145 rfl rfl, cw_X13_judged, by decide +kernel, ⟨by decide +kernel, by decide +kernel⟩, by decide +kernel⟩, mm_w1 8 146 rfl rfl, RX13, TX13, 110, rfl, mm_w1 8 147 rfl rfl⟩
theorem lk_L_86 : mm_LV RL 86 Y_X11_keep 11 1 := ⟨⟨mm_w1 4 82 rfl rfl, cw_X11_keep, by decide +kernel, ⟨by decide +kernel, by decide +kernel⟩, by decide +kernel⟩, mm_w1 4 83 rfl rfl, RX11, TX11, 15, rfl, mm_w1 4 84 rfl rfl⟩
theorem lk_L_89 : mm_LV RL 89 Y_X13_keep 13 1 := ⟨⟨mm_w1 8 149 rfl rfl, cw_X13_keep, by decide +kernel, ⟨by decide +kernel, by decide +kernel⟩, by decide +kernel⟩, mm_w1 8 150 rfl rfl, RX13, TX13, 110, rfl, mm_w1 8 151 rfl rfl⟩
theorem lk_L_90 : mm_LV RL 90 Y_X11_fly 11 5 := ⟨⟨mm_w1 4 89 rfl rfl, cw_X11_fly, by decide +kernel, ⟨by decide +kernel, by decide +kernel⟩, by decide +kernel⟩, mm_w1 4 90 rfl rfl, RX11, TX11, 15, rfl, mm_w1 4 91 rfl rfl⟩
theorem lk_L_94 : mm_LV RL 94 Y_X13_fly 13 5 := ⟨⟨mm_w1 8 157 rfl rfl, cw_X13_fly, by decide +kernel, ⟨by decide +kernel, by decide +kernel⟩, by decide +kernel⟩, mm_w1 8 158 rfl rfl, RX13, TX13, 110, rfl, mm_w1 8 159 rfl rfl⟩
theorem lk_L_95 : mm_LV RL 95 Y_X11_flown 11 1 := ⟨⟨mm_w1 4 134 rfl rfl, cw_X11_flown, by decide +kernel, ⟨by decide +kernel, by decide +kernel⟩, by decide +kernel⟩, mm_w1 4 135 rfl rfl, RX11, TX11, 15, rfl, mm_w1 4 136 rfl rfl⟩
theorem lk_L_98 : mm_LV RL 98 Y_X13_flown 13 1 := ⟨⟨mm_w1 8 174 rfl rfl, cw_X13_flown, by decide +kernel, ⟨by decide +kernel, by decide +kernel⟩, by decide +kernel⟩, mm_w1 8 175 rfl rfl, RX13, TX13, 110, rfl, mm_w1 8 176 rfl rfl⟩
theorem lk_L_99 : mm_LV RL 99 Y_X11_held 11 1 := ⟨⟨mm_w1 4 138 rfl rfl, cw_X11_held, by decide +kernel, ⟨by decide +kernel, by decide +kernel⟩, by decide +kernel⟩, mm_w1 4 139 rfl rfl, RX11, TX11, 15, rfl, mm_w1 4 140 rfl rfl⟩
theorem lk_L_102 : mm_LV RL 102 Y_X13_held 13 1 := ⟨⟨mm_w1 8 178 rfl rfl, cw_X13_held, by decide +kernel, ⟨by decide +kernel, by decide +kernel⟩, by decide +kernel⟩, mm_w1 8 179 rfl rfl, RX13, TX13, 110, rfl, mm_w1 8 180 rfl rfl⟩
theorem lk_L_103 : mm_LV RL 103 Y_X11_tired 11 1 := ⟨⟨mm_w1 4 150 rfl rfl, cw_X11_tired, by decide +kernel, ⟨by decide +kernel, by decide +kernel⟩, by decide +kernel⟩, mm_w1 4 151 rfl rfl, RX11, TX11, 15, rfl, mm_w1 4 152 rfl rfl⟩
theorem lk_L_106 : mm_LV RL 106 Y_X13_tired 13 1 := ⟨⟨mm_w1 8 182 rfl rfl, cw_X13_tired, by decide +kernel, ⟨by decide +kernel, by decide +kernel⟩, by decide +kernel⟩, mm_w1 8 183 rfl rfl, RX13, TX13, 110, rfl, mm_w1 8 184 rfl rfl⟩
theorem lk_L_107 : mm_LV RL 107 Y_X11_rounds 11 3 := ⟨⟨mm_w1 4 155 rfl rfl, cw_X11_rounds, by decide +kernel, ⟨by decide +kernel, by decide +kernel⟩, by decide +kernel⟩, mm_w1 4 156 rfl rfl, RX11, TX11, 15, rfl, mm_w1 4 157 rfl rfl⟩
theorem lk_L_110 : mm_LV RL 110 Y_X13_rounds 13 3 := ⟨⟨mm_w1 8 187 rfl rfl, cw_X13_rounds, by decide +kernel, ⟨by decide +kernel, by decide +kernel⟩, by decide +kernel⟩, mm_w1 8 188 rfl rfl, RX13, TX13, 110, rfl, mm_w1 8 189 rfl rfl⟩
theorem lk_L_111 : mm_LV RL 111 Y_X11_plan 11 6 := ⟨⟨mm_w1 4 169 rfl rfl, cw_X11_plan, by decide +kernel, ⟨by decide +kernel, by decide +kernel⟩, by decide +kernel⟩, mm_w1 4 170 rfl rfl, RX11, TX11, 15, rfl, mm_w1 4 171 rfl rfl⟩
theorem lk_L_115 : mm_LV RL 115 Y_X13_plan 13 6 := ⟨⟨mm_w1 8 196 rfl rfl, cw_X13_plan, by decide +kernel, ⟨by decide +kernel, by decide +kernel⟩, by decide +kernel⟩, mm_w1 8 197 rfl rfl, RX13, TX13, 110, rfl, mm_w1 8 198 rfl rfl⟩
theorem lk_L_116 : mm_LV RL 116 Y_X11_planned 11 1 := ⟨⟨mm_w1 4 187 rfl rfl, cw_X11_planned, by decide +kernel, ⟨by decide +kernel, by decide +kernel⟩, by decide +kernel⟩, mm_w1 4 188 rfl rfl, RX11, TX11, 15, rfl, mm_w1 4 189 rfl rfl⟩
theorem lk_L_119 : mm_LV RL 119 Y_X13_planned 13 1 := ⟨⟨mm_w1 8 204 rfl rfl, cw_X13_planned, by decide +kernel, ⟨by decide +kernel, by decide +kernel⟩, by decide +kernel⟩, mm_w1 8 205 rfl rfl, RX13, TX13, 110, rfl, mm_w1 8 206 rfl rfl⟩
theorem lk_L_120 : mm_LV RL 120 Y_X11_apart 11 5 := ⟨⟨mm_w1 4 195 rfl rfl, cw_X11_apart, by decide +kernel, ⟨by decide +kernel, by decide +kernel⟩, by decide +kernel⟩, mm_w1 4 196 rfl rfl, RX11, TX11, 15, rfl, mm_w1 4 197 rfl rfl⟩
theorem lk_L_123 : mm_LV RL 123 Y_X13_apart 13 5 := ⟨⟨mm_w1 8 208 rfl rfl, cw_X13_apart, by decide +kernel, ⟨by decide +kernel, by decide +kernel⟩, by decide +kernel⟩, mm_w1 8 209 rfl rfl, RX13, TX13, 110, rfl, mm_w1 8 210 rfl rfl⟩
theorem lk_L_124 : mm_LV RL 124 Y_X11_shift 11 4 := ⟨⟨mm_w1 4 222 rfl rfl, cw_X11_shift, by decide +kernel, ⟨by decide +kernel, by decide +kernel⟩, by decide +kernel⟩, mm_w1 4 223 rfl rfl, RX11, TX11, 15, rfl, mm_w1 4 224 rfl rfl⟩
theorem lk_L_128 : mm_LV RL 128 Y_X13_shift 13 4 := ⟨⟨mm_w1 8 226 rfl rfl, cw_X13_shift, by decide +kernel, ⟨by decide +kernel, by decide +kernel⟩, by decide +kernel⟩, mm_w1 8 227 rfl rfl, RX13, TX13, 110, rfl, mm_w1 8 228 rfl rfl⟩
theorem lk_L_129 : mm_LV RL 129 Y_X11_stand 11 2 := ⟨⟨mm_w1 4 231 rfl rfl, cw_X11_stand, by decide +kernel, ⟨by decide +kernel, by decide +kernel⟩, by decide +kernel⟩, mm_w1 4 232 rfl rfl, RX11, TX11, 15, rfl, mm_w1 4 233 rfl rfl⟩
theorem lk_L_132 : mm_LV RL 132 Y_X13_stand 13 2 := ⟨⟨mm_w1 8 230 rfl rfl, cw_X13_stand, by decide +kernel, ⟨by decide +kernel, by decide +kernel⟩, by decide +kernel⟩, mm_w1 8 231 rfl rfl, RX13, TX13, 110, rfl, mm_w1 8 232 rfl rfl⟩
theorem lk_L_133 : mm_LV RL 133 Y_X11_field 11 0 := ⟨⟨mm_w1 5 0 rfl rfl, cw_X11_field, by decide +kernel, ⟨by decide +kernel, by decide +kernel⟩, by decide +kernel⟩, mm_w1 5 1 rfl rfl, RX11, TX11, 15, rfl, mm_w1 5 2 rfl rfl⟩
theorem lk_L_136 : mm_LV RL 136 Y_X13_field 13 0 := ⟨⟨mm_w1 8 234 rfl rfl, cw_X13_field, by decide +kernel, ⟨by decide +kernel, by decide +kernel⟩, by decide +kernel⟩, mm_w1 8 235 rfl rfl, RX13, TX13, 110, rfl, mm_w1 8 236 rfl rfl⟩
theorem lk_L_137 : mm_LV RL 137 Y_X11_fielded 11 0 := ⟨⟨mm_w1 5 12 rfl rfl, cw_X11_fielded, by decide +kernel, ⟨by decide +kernel, by decide +kernel⟩, by decide +kernel⟩, mm_w1 5 13 rfl rfl, RX11, TX11, 15, rfl, mm_w1 5 14 rfl rfl⟩
theorem lk_L_140 : mm_LV RL 140 Y_X13_fielded 13 0 := ⟨⟨mm_w1 8 238 rfl rfl, cw_X13_fielded, by decide +kernel, ⟨by decide +kernel, by decide +kernel⟩, by decide +kernel⟩, mm_w1 8 239 rfl rfl, RX13, TX13, 110, rfl, mm_w1 9 0 rfl rfl⟩
theorem lk_L_141 : mm_LV RL 141 Y_X11_law 11 3 := ⟨⟨mm_w1 5 16 rfl rfl, cw_X11_law, by decide +kernel, ⟨by decide +kernel, by decide +kernel⟩, by decide +kernel⟩, mm_w1 5 17 rfl rfl, RX11, TX11, 15, rfl, mm_w1 5 18 rfl rfl⟩
theorem lk_L_144 : mm_LV RL 144 Y_X13_law 13 3 := ⟨⟨mm_w1 9 2 rfl rfl, cw_X13_law, by decide +kernel, ⟨by decide +kernel, by decide +kernel⟩, by decide +kernel⟩, mm_w1 9 3 rfl rfl, RX13, TX13, 110, rfl, mm_w1 9 4 rfl rfl⟩
theorem lk_L_145 : mm_LV RL 145 Y_X11_breach 11 4 := ⟨⟨mm_w1 5 25 rfl rfl, cw_X11_breach, by decide +kernel, ⟨by decide +kernel, by decide +kernel⟩, by decide +kernel⟩, mm_w1 5 26 rfl rfl, RX11, TX11, 15, rfl, mm_w1 5 27 rfl rfl⟩
theorem lk_L_148 : mm_LV RL 148 Y_X13_breach 13 4 := ⟨⟨mm_w1 9 7 rfl rfl, cw_X13_breach, by decide +kernel, ⟨by decide +kernel, by decide +kernel⟩, by decide +kernel⟩, mm_w1 9 8 rfl rfl, RX13, TX13, 110, rfl, mm_w1 9 9 rfl rfl⟩
theorem lk_L_149 : mm_LV RL 149 Y_X11_hidden 11 1 := ⟨⟨mm_w1 5 34 rfl rfl, cw_X11_hidden, by decide +kernel, ⟨by decide +kernel, by decide +kernel⟩, by decide +kernel⟩, mm_w1 5 35 rfl rfl, RX11, TX11, 15, rfl, mm_w1 5 36 rfl rfl⟩
theorem lk_L_152 : mm_LV RL 152 Y_X13_hidden 13 1 := ⟨⟨mm_w1 9 12 rfl rfl, cw_X13_hidden, by decide +kernel, ⟨by decide +kernel, by decide +kernel⟩, by decide +kernel⟩, mm_w1 9 13 rfl rfl, RX13, TX13, 110, rfl, mm_w1 9 14 rfl rfl⟩
theorem lk_L_153 : mm_LV RL 153 Y_X11_pulls 11 3 := ⟨⟨mm_w1 5 38 rfl rfl, cw_X11_pulls, by decide +kernel, ⟨by decide +kernel, by decide +kernel⟩, by decide +kernel⟩, mm_w1 5 39 rfl rfl, RX11, TX11, 15, rfl, mm_w1 5 40 rfl rfl⟩
theorem lk_L_156 : mm_LV RL 156 Y_X13_pulls 13 3 := ⟨⟨mm_w1 9 16 rfl rfl, cw_X13_pulls, by decide +kernel, ⟨by decide +kernel, by decide +kernel⟩, by decide +kernel⟩, mm_w1 9 17 rfl rfl, RX13, TX13, 110, rfl, mm_w1 9 18 rfl rfl⟩
theorem lk_L_157 : mm_LV RL 157 Y_X11_read 11 6 := ⟨⟨mm_w1 5 46 rfl rfl, cw_X11_read, by decide +kernel, ⟨by decide +kernel, by decide +kernel⟩, by decide +kernel⟩, mm_w1 5 47 rfl rfl, RX11, TX11, 15, rfl, mm_w1 5 48 rfl rfl⟩
theorem lk_L_160 : mm_LV RL 160 Y_X13_read 13 6 := ⟨⟨mm_w1 9 24 rfl rfl, cw_X13_read, by decide +kernel, ⟨by decide +kernel, by decide +kernel⟩, by decide +kernel⟩, mm_w1 9 25 rfl rfl, RX13, TX13, 110, rfl, mm_w1 9 26 rfl rfl⟩
theorem lk_L_161 : mm_LV RL 161 Y_X11_right 11 4 := ⟨⟨mm_w1 5 59 rfl rfl, cw_X11_right, by decide +kernel, ⟨by decide +kernel, by decide +kernel⟩, by decide +kernel⟩, mm_w1 5 60 rfl rfl, RX11, TX11, 15, rfl, mm_w1 5 61 rfl rfl⟩
theorem lk_L_164 : mm_LV RL 164 Y_X13_right 13 4 := ⟨⟨mm_w1 9 32 rfl rfl, cw_X13_right, by decide +kernel, ⟨by decide +kernel, by decide +kernel⟩, by decide +kernel⟩, mm_w1 9 33 rfl rfl, RX13, TX13, 110, rfl, mm_w1 9 34 rfl rfl⟩
theorem lk_L_165 : mm_LV RL 165 Y_X11_fit 11 1 := ⟨⟨mm_w1 5 67 rfl rfl, cw_X11_fit, by decide +kernel, ⟨by decide +kernel, by decide +kernel⟩, by decide +kernel⟩, mm_w1 5 68 rfl rfl, RX11, TX11, 15, rfl, mm_w1 5 69 rfl rfl⟩
theorem lk_L_168 : mm_LV RL 168 Y_X13_fit 13 1 := ⟨⟨mm_w1 9 36 rfl rfl, cw_X13_fit, by decide +kernel, ⟨by decide +kernel, by decide +kernel⟩, by decide +kernel⟩, mm_w1 9 37 rfl rfl, RX13, TX13, 110, rfl, mm_w1 9 38 rfl rfl⟩
theorem lk_L_169 : mm_LV RL 169 Y_X11_next 11 2 := ⟨⟨mm_w1 5 86 rfl rfl, cw_X11_next, by decide +kernel, ⟨by decide +kernel, by decide +kernel⟩, by decide +kernel⟩, mm_w1 5 87 rfl rfl, RX11, TX11, 15, rfl, mm_w1 5 88 rfl rfl⟩
theorem lk_L_172 : mm_LV RL 172 Y_X13_next 13 2 := ⟨⟨mm_w1 9 48 rfl rfl, cw_X13_next, by decide +kernel, ⟨by decide +kernel, by decide +kernel⟩, by decide +kernel⟩, mm_w1 9 49 rfl rfl, RX13, TX13, 110, rfl, mm_w1 9 50 rfl rfl⟩
theorem lk_L_173 : mm_LV RL 173 Y_X11_count 11 1 := ⟨⟨mm_w1 5 108 rfl rfl, cw_X11_count, by decide +kernel, ⟨by decide +kernel, by decide +kernel⟩, by decide +kernel⟩, mm_w1 5 109 rfl rfl, RX11, TX11, 15, rfl, mm_w1 5 110 rfl rfl⟩
theorem lk_L_176 : mm_LV RL 176 Y_X13_count 13 1 := ⟨⟨mm_w1 9 52 rfl rfl, cw_X13_count, by decide +kernel, ⟨by decide +kernel, by decide +kernel⟩, by decide +kernel⟩, mm_w1 9 53 rfl rfl, RX13, TX13, 110, rfl, mm_w1 9 54 rfl rfl⟩
theorem kL_le : mm_le 0 243 243 243 := ⟨by decide, by decide, by decide, by decide +kernel, by decide +kernel, by decide +kernel⟩
/-- one row a call, over this memory -/
def kAt (X : mm_X) (M : mm_M) : Prop := kg5 (fun as => kkZ X Y_X11_feed Y_X13_feed as M) ∧ kg1 (fun as => kkZ X Y_X11_end Y_X13_end as M) ∧ kg0 (fun as => kkZ X Y_X11_kite Y_X13_kite as M) ∧ kg0 (fun as => kkZ X Y_X11_rules Y_X13_rules as M) ∧ kg1 (fun as => kkZ X Y_X11_fault Y_X13_fault as M) ∧ kg1 (fun as => kkZ X Y_X11_told Y_X13_told as M) ∧ kg2 (fun as => kk X Y_X11_state Y_X13_state as M) ∧ kg2 (fun as => kkZ X Y_X11_leads Y_X13_leads as M) ∧ kg5 (fun as => kkZ X Y_X11_wind Y_X13_wind as M) ∧ kg3 (fun as => kkZ X Y_X11_winds Y_X13_winds as M) ∧ kg3 (fun as => kkZ X Y_X11_pull Y_X13_pull as M) ∧ kg3 (fun as => kkZ X Y_X11_safe Y_X13_safe as M) ∧ kg3 (fun as => kkZ X Y_X11_gives Y_X13_gives as M) ∧ kg1 (fun as => kkZ X Y_X11_best Y_X13_best as M) ∧ kg1 (fun as => kkZ X Y_X11_looped Y_X13_looped as M) ∧ kg2 (fun as => kkZ X Y_X11_judge Y_X13_judge as M) ∧ kg1 (fun as => kkZ X Y_X11_judged Y_X13_judged as M) ∧ kg1 (fun as => kkZ X Y_X11_keep Y_X13_keep as M) ∧ kgb (fun as => kkZ X Y_X11_fly Y_X13_fly as M) ∧ kg1 (fun as => kkZ X Y_X11_flown Y_X13_flown as M) ∧ kg1 (fun as => kkZ X Y_X11_held Y_X13_held as M) ∧ kg1 (fun as => kkZ X Y_X11_tired Y_X13_tired as M) ∧ kg3 (fun as => kkZ X Y_X11_rounds Y_X13_rounds as M) ∧ kg6 (fun as => kkZ X Y_X11_plan Y_X13_plan as M) ∧ kg1 (fun as => kkZ X Y_X11_planned Y_X13_planned as M) ∧ kg5 (fun as => kkZ X Y_X11_apart Y_X13_apart as M) ∧ kg4 (fun as => kkZ X Y_X11_shift Y_X13_shift as M) ∧ kg2 (fun as => kkZ X Y_X11_stand Y_X13_stand as M) ∧ kg0 (fun as => kkZ X Y_X11_field Y_X13_field as M) ∧ kg0 (fun as => kkZ X Y_X11_fielded Y_X13_fielded as M) ∧ kg3 (fun as => kkZ X Y_X11_law Y_X13_law as M) ∧ kg4 (fun as => kkZ X Y_X11_breach Y_X13_breach as M) ∧ kg1 (fun as => kkZ X Y_X11_hidden Y_X13_hidden as M) ∧ kg3 (fun as => kkZ X Y_X11_pulls Y_X13_pulls as M) ∧ kg6 (fun as => kkZ X Y_X11_read Y_X13_read as M) ∧ kg4 (fun as => kkZ X Y_X11_right Y_X13_right as M) ∧ kg1 (fun as => kkZ X Y_X11_fit Y_X13_fit as M) ∧ kg2 (fun as => kkZ X Y_X11_next Y_X13_next as M) ∧ kg1 (fun as => kkZ X Y_X11_count Y_X13_count as M)
section
variable {X : mm_X} {nm : String} {hs : List (Nat × Nat × Nat × Nat)} {M : mm_M} {j : Nat} {Φ : mm_V → mm_M → Prop}
theorem kL_c0 (hX : ∀ i, mm_R (X.2 i)) (hb : X.1 ≤ 3584) (h : kg5 (fun as => kkZ X Y_X11_feed Y_X13_feed as M)) (hj : 7 * j + 7 ≤ X.1) (next : ∀ M2, kR M2 → mm_J X (Y_L nm hs) 0 243 243 1621 [(2, -1), (2, 1), (2, 184), (0, ((7 * j : Nat) : Int))] [] M2 Φ) : mm_J X (Y_L nm hs) 0 243 243 204 [(2, -1), (2, 1), (2, 184), (0, ((7 * j : Nat) : Int))] [] M Φ := by
  refine mm_aload_n dL_law_204 rfl rfl ?_
  refine mm_aload_n dL_law_205 rfl rfl ?_
  refine mm_iload_n dL_law_206 rfl rfl ?_
  refine mm_iconst dL_law_207 rfl ?_
  refine mm_iadd dL_law_208 rfl ?_
  refine mm_iark (k1 := 1) (k0 := 7 * j + 1) dL_law_209 rfl rfl (by decide) (by omega) (show 7 * j + 1 < X.1 by omega) (show X.1 ≤ 2147483647 by omega) ?_
  refine mm_aload_n dL_law_210 rfl rfl ?_
  refine mm_iload_n dL_law_211 rfl rfl ?_
  refine mm_iconst dL_law_212 rfl ?_
  refine mm_iadd dL_law_213 rfl ?_
  refine mm_iark (k1 := 1) (k0 := 7 * j + 2) dL_law_214 rfl rfl (by decide) (by omega) (show 7 * j + 2 < X.1 by omega) (show X.1 ≤ 2147483647 by omega) ?_
  refine mm_aload_n dL_law_215 rfl rfl ?_
  refine mm_iload_n dL_law_216 rfl rfl ?_
  refine mm_iconst dL_law_217 rfl ?_
  refine mm_iadd dL_law_218 rfl ?_
  refine mm_iark (k1 := 1) (k0 := 7 * j + 3) dL_law_219 rfl rfl (by decide) (by omega) (show 7 * j + 3 < X.1 by omega) (show X.1 ≤ 2147483647 by omega) ?_
  refine mm_aload_n dL_law_220 rfl rfl ?_
  refine mm_iload_n dL_law_221 rfl rfl ?_
  refine mm_iconst dL_law_222 rfl ?_
  refine mm_iadd dL_law_223 rfl ?_
  refine mm_iark (k1 := 1) (k0 := 7 * j + 4) dL_law_224 rfl rfl (by decide) (by omega) (show 7 * j + 4 < X.1 by omega) (show X.1 ≤ 2147483647 by omega) ?_
  refine mm_aload_n dL_law_225 rfl rfl ?_
  refine mm_iload_n dL_law_226 rfl rfl ?_
  refine mm_iconst dL_law_227 rfl ?_
  refine mm_iadd dL_law_228 rfl ?_
  refine mm_iark (k1 := 1) (k0 := 7 * j + 5) dL_law_229 rfl rfl (by decide) (by omega) (show 7 * j + 5 < X.1 by omega) (show X.1 ≤ 2147483647 by omega) ?_
  refine mm_callV (c := 0) (n := 243) (n' := 243) (as := [(0, X.2 (7 * j + 1)), (0, X.2 (7 * j + 2)), (0, X.2 (7 * j + 3)), (0, X.2 (7 * j + 4)), (0, X.2 (7 * j + 5))]) dL_law_230 rfl lk_L_13 rfl (by decide) rfl rfl rfl kL_le (by simp) (Nat.le_of_ble_eq_true rfl) (Nat.le_of_ble_eq_true rfl) (Nat.le_of_ble_eq_true rfl) (h _ _ _ _ _ (hX _) (hX _) (hX _) (hX _) (hX _)) ?_
  rintro _ M1 ⟨v, rfl, hc⟩
  change mm_J _ _ _ _ _ _ _ _ _ _
  refine mm_pop dL_law_233 rfl (show (0 : Nat) ≠ 1 by decide) ?_
  refine mm_aload_n dL_law_234 rfl rfl ?_
  refine mm_aload_n dL_law_235 rfl rfl ?_
  refine mm_iload_n dL_law_236 rfl rfl ?_
  refine mm_iconst dL_law_237 rfl ?_
  refine mm_iadd dL_law_238 rfl ?_
  refine mm_iark (k1 := 1) (k0 := 7 * j + 1) dL_law_239 rfl rfl (by decide) (by omega) (show 7 * j + 1 < X.1 by omega) (show X.1 ≤ 2147483647 by omega) ?_
  refine mm_aload_n dL_law_240 rfl rfl ?_
  refine mm_iload_n dL_law_241 rfl rfl ?_
  refine mm_iconst dL_law_242 rfl ?_
  refine mm_iadd dL_law_243 rfl ?_
  refine mm_iark (k1 := 1) (k0 := 7 * j + 2) dL_law_244 rfl rfl (by decide) (by omega) (show 7 * j + 2 < X.1 by omega) (show X.1 ≤ 2147483647 by omega) ?_
  refine mm_aload_n dL_law_245 rfl rfl ?_
  refine mm_iload_n dL_law_246 rfl rfl ?_
  refine mm_iconst dL_law_247 rfl ?_
  refine mm_iadd dL_law_248 rfl ?_
  refine mm_iark (k1 := 1) (k0 := 7 * j + 3) dL_law_249 rfl rfl (by decide) (by omega) (show 7 * j + 3 < X.1 by omega) (show X.1 ≤ 2147483647 by omega) ?_
  refine mm_aload_n dL_law_250 rfl rfl ?_
  refine mm_iload_n dL_law_251 rfl rfl ?_
  refine mm_iconst dL_law_252 rfl ?_
  refine mm_iadd dL_law_253 rfl ?_
  refine mm_iark (k1 := 1) (k0 := 7 * j + 4) dL_law_254 rfl rfl (by decide) (by omega) (show 7 * j + 4 < X.1 by omega) (show X.1 ≤ 2147483647 by omega) ?_
  refine mm_aload_n dL_law_255 rfl rfl ?_
  refine mm_iload_n dL_law_256 rfl rfl ?_
  refine mm_iconst dL_law_257 rfl ?_
  refine mm_iadd dL_law_258 rfl ?_
  refine mm_iark (k1 := 1) (k0 := 7 * j + 5) dL_law_259 rfl rfl (by decide) (by omega) (show 7 * j + 5 < X.1 by omega) (show X.1 ≤ 2147483647 by omega) ?_
  refine mm_callV (c := 183) (n := 243) (n' := 243) (as := [(0, X.2 (7 * j + 1)), (0, X.2 (7 * j + 2)), (0, X.2 (7 * j + 3)), (0, X.2 (7 * j + 4)), (0, X.2 (7 * j + 5))]) dL_law_260 rfl lk_L_17 rfl (by decide) rfl rfl rfl kL_le (by simp) (Nat.le_of_ble_eq_true rfl) (Nat.le_of_ble_eq_true rfl) (Nat.le_of_ble_eq_true rfl) (hc) ?_
  rintro _ M2 ⟨⟨w, rfl, -⟩, hR2⟩
  change mm_J _ _ _ _ _ _ _ _ _ _
  refine mm_pop dL_law_263 rfl (show (0 : Nat) ≠ 1 by decide) ?_
  exact mm_goto dL_law_264 (next M2 hR2)
theorem kL_c1 (hX : ∀ i, mm_R (X.2 i)) (hb : X.1 ≤ 3584) (h : kg1 (fun as => kkZ X Y_X11_end Y_X13_end as M)) (hj : 7 * j + 7 ≤ X.1) (next : ∀ M2, kR M2 → mm_J X (Y_L nm hs) 0 243 243 1621 [(2, -1), (2, 1), (2, 184), (0, ((7 * j : Nat) : Int))] [] M2 Φ) : mm_J X (Y_L nm hs) 0 243 243 267 [(2, -1), (2, 1), (2, 184), (0, ((7 * j : Nat) : Int))] [] M Φ := by
  refine mm_aload_n dL_law_267 rfl rfl ?_
  refine mm_aload_n dL_law_268 rfl rfl ?_
  refine mm_iload_n dL_law_269 rfl rfl ?_
  refine mm_iconst dL_law_270 rfl ?_
  refine mm_iadd dL_law_271 rfl ?_
  refine mm_iark (k1 := 1) (k0 := 7 * j + 1) dL_law_272 rfl rfl (by decide) (by omega) (show 7 * j + 1 < X.1 by omega) (show X.1 ≤ 2147483647 by omega) ?_
  refine mm_callV (c := 0) (n := 243) (n' := 243) (as := [(0, X.2 (7 * j + 1))]) dL_law_273 rfl lk_L_18 rfl (by decide) rfl rfl rfl kL_le (by simp) (Nat.le_of_ble_eq_true rfl) (Nat.le_of_ble_eq_true rfl) (Nat.le_of_ble_eq_true rfl) (h _ (hX _)) ?_
  rintro _ M1 ⟨v, rfl, hc⟩
  change mm_J _ _ _ _ _ _ _ _ _ _
  refine mm_pop dL_law_276 rfl (show (0 : Nat) ≠ 1 by decide) ?_
  refine mm_aload_n dL_law_277 rfl rfl ?_
  refine mm_aload_n dL_law_278 rfl rfl ?_
  refine mm_iload_n dL_law_279 rfl rfl ?_
  refine mm_iconst dL_law_280 rfl ?_
  refine mm_iadd dL_law_281 rfl ?_
  refine mm_iark (k1 := 1) (k0 := 7 * j + 1) dL_law_282 rfl rfl (by decide) (by omega) (show 7 * j + 1 < X.1 by omega) (show X.1 ≤ 2147483647 by omega) ?_
  refine mm_callV (c := 183) (n := 243) (n' := 243) (as := [(0, X.2 (7 * j + 1))]) dL_law_283 rfl lk_L_22 rfl (by decide) rfl rfl rfl kL_le (by simp) (Nat.le_of_ble_eq_true rfl) (Nat.le_of_ble_eq_true rfl) (Nat.le_of_ble_eq_true rfl) (hc) ?_
  rintro _ M2 ⟨⟨w, rfl, -⟩, hR2⟩
  change mm_J _ _ _ _ _ _ _ _ _ _
  refine mm_pop dL_law_286 rfl (show (0 : Nat) ≠ 1 by decide) ?_
  exact mm_goto dL_law_287 (next M2 hR2)
theorem kL_c2 (hX : ∀ i, mm_R (X.2 i)) (hb : X.1 ≤ 3584) (h : kg0 (fun as => kkZ X Y_X11_kite Y_X13_kite as M)) (hj : 7 * j + 7 ≤ X.1) (next : ∀ M2, kR M2 → mm_J X (Y_L nm hs) 0 243 243 1621 [(2, -1), (2, 1), (2, 184), (0, ((7 * j : Nat) : Int))] [] M2 Φ) : mm_J X (Y_L nm hs) 0 243 243 290 [(2, -1), (2, 1), (2, 184), (0, ((7 * j : Nat) : Int))] [] M Φ := by
  refine mm_aload_n dL_law_290 rfl rfl ?_
  refine mm_callV (c := 0) (n := 243) (n' := 243) (as := []) dL_law_291 rfl lk_L_23 rfl (by decide) rfl rfl rfl kL_le (by simp) (Nat.le_of_ble_eq_true rfl) (Nat.le_of_ble_eq_true rfl) (Nat.le_of_ble_eq_true rfl) (h) ?_
  rintro _ M1 ⟨v, rfl, hc⟩
  change mm_J _ _ _ _ _ _ _ _ _ _
  refine mm_pop dL_law_294 rfl (show (0 : Nat) ≠ 1 by decide) ?_
  refine mm_aload_n dL_law_295 rfl rfl ?_
  refine mm_callV (c := 183) (n := 243) (n' := 243) (as := []) dL_law_296 rfl lk_L_27 rfl (by decide) rfl rfl rfl kL_le (by simp) (Nat.le_of_ble_eq_true rfl) (Nat.le_of_ble_eq_true rfl) (Nat.le_of_ble_eq_true rfl) (hc) ?_
  rintro _ M2 ⟨⟨w, rfl, -⟩, hR2⟩
  change mm_J _ _ _ _ _ _ _ _ _ _
  refine mm_pop dL_law_299 rfl (show (0 : Nat) ≠ 1 by decide) ?_
  exact mm_goto dL_law_300 (next M2 hR2)
theorem kL_c3 (hX : ∀ i, mm_R (X.2 i)) (hb : X.1 ≤ 3584) (h : kg0 (fun as => kkZ X Y_X11_rules Y_X13_rules as M)) (hj : 7 * j + 7 ≤ X.1) (next : ∀ M2, kR M2 → mm_J X (Y_L nm hs) 0 243 243 1621 [(2, -1), (2, 1), (2, 184), (0, ((7 * j : Nat) : Int))] [] M2 Φ) : mm_J X (Y_L nm hs) 0 243 243 303 [(2, -1), (2, 1), (2, 184), (0, ((7 * j : Nat) : Int))] [] M Φ := by
  refine mm_aload_n dL_law_303 rfl rfl ?_
  refine mm_callV (c := 0) (n := 243) (n' := 243) (as := []) dL_law_304 rfl lk_L_28 rfl (by decide) rfl rfl rfl kL_le (by simp) (Nat.le_of_ble_eq_true rfl) (Nat.le_of_ble_eq_true rfl) (Nat.le_of_ble_eq_true rfl) (h) ?_
  rintro _ M1 ⟨v, rfl, hc⟩
  change mm_J _ _ _ _ _ _ _ _ _ _
  refine mm_pop dL_law_307 rfl (show (0 : Nat) ≠ 1 by decide) ?_
  refine mm_aload_n dL_law_308 rfl rfl ?_
  refine mm_callV (c := 183) (n := 243) (n' := 243) (as := []) dL_law_309 rfl lk_L_31 rfl (by decide) rfl rfl rfl kL_le (by simp) (Nat.le_of_ble_eq_true rfl) (Nat.le_of_ble_eq_true rfl) (Nat.le_of_ble_eq_true rfl) (hc) ?_
  rintro _ M2 ⟨⟨w, rfl, -⟩, hR2⟩
  change mm_J _ _ _ _ _ _ _ _ _ _
  refine mm_pop dL_law_312 rfl (show (0 : Nat) ≠ 1 by decide) ?_
  exact mm_goto dL_law_313 (next M2 hR2)
theorem kL_c4 (hX : ∀ i, mm_R (X.2 i)) (hb : X.1 ≤ 3584) (h : kg1 (fun as => kkZ X Y_X11_fault Y_X13_fault as M)) (hj : 7 * j + 7 ≤ X.1) (next : ∀ M2, kR M2 → mm_J X (Y_L nm hs) 0 243 243 1621 [(2, -1), (2, 1), (2, 184), (0, ((7 * j : Nat) : Int))] [] M2 Φ) : mm_J X (Y_L nm hs) 0 243 243 316 [(2, -1), (2, 1), (2, 184), (0, ((7 * j : Nat) : Int))] [] M Φ := by
  refine mm_aload_n dL_law_316 rfl rfl ?_
  refine mm_aload_n dL_law_317 rfl rfl ?_
  refine mm_iload_n dL_law_318 rfl rfl ?_
  refine mm_iconst dL_law_319 rfl ?_
  refine mm_iadd dL_law_320 rfl ?_
  refine mm_iark (k1 := 1) (k0 := 7 * j + 1) dL_law_321 rfl rfl (by decide) (by omega) (show 7 * j + 1 < X.1 by omega) (show X.1 ≤ 2147483647 by omega) ?_
  refine mm_callV (c := 0) (n := 243) (n' := 243) (as := [(0, X.2 (7 * j + 1))]) dL_law_322 rfl lk_L_32 rfl (by decide) rfl rfl rfl kL_le (by simp) (Nat.le_of_ble_eq_true rfl) (Nat.le_of_ble_eq_true rfl) (Nat.le_of_ble_eq_true rfl) (h _ (hX _)) ?_
  rintro _ M1 ⟨v, rfl, hc⟩
  change mm_J _ _ _ _ _ _ _ _ _ _
  refine mm_pop dL_law_325 rfl (show (0 : Nat) ≠ 1 by decide) ?_
  refine mm_aload_n dL_law_326 rfl rfl ?_
  refine mm_aload_n dL_law_327 rfl rfl ?_
  refine mm_iload_n dL_law_328 rfl rfl ?_
  refine mm_iconst dL_law_329 rfl ?_
  refine mm_iadd dL_law_330 rfl ?_
  refine mm_iark (k1 := 1) (k0 := 7 * j + 1) dL_law_331 rfl rfl (by decide) (by omega) (show 7 * j + 1 < X.1 by omega) (show X.1 ≤ 2147483647 by omega) ?_
  refine mm_callV (c := 183) (n := 243) (n' := 243) (as := [(0, X.2 (7 * j + 1))]) dL_law_332 rfl lk_L_35 rfl (by decide) rfl rfl rfl kL_le (by simp) (Nat.le_of_ble_eq_true rfl) (Nat.le_of_ble_eq_true rfl) (Nat.le_of_ble_eq_true rfl) (hc) ?_
  rintro _ M2 ⟨⟨w, rfl, -⟩, hR2⟩
  change mm_J _ _ _ _ _ _ _ _ _ _
  refine mm_pop dL_law_335 rfl (show (0 : Nat) ≠ 1 by decide) ?_
  exact mm_goto dL_law_336 (next M2 hR2)
theorem kL_c5 (hX : ∀ i, mm_R (X.2 i)) (hb : X.1 ≤ 3584) (h : kg1 (fun as => kkZ X Y_X11_told Y_X13_told as M)) (hj : 7 * j + 7 ≤ X.1) (next : ∀ M2, kR M2 → mm_J X (Y_L nm hs) 0 243 243 1621 [(2, -1), (2, 1), (2, 184), (0, ((7 * j : Nat) : Int))] [] M2 Φ) : mm_J X (Y_L nm hs) 0 243 243 339 [(2, -1), (2, 1), (2, 184), (0, ((7 * j : Nat) : Int))] [] M Φ := by
  refine mm_aload_n dL_law_339 rfl rfl ?_
  refine mm_aload_n dL_law_340 rfl rfl ?_
  refine mm_iload_n dL_law_341 rfl rfl ?_
  refine mm_iconst dL_law_342 rfl ?_
  refine mm_iadd dL_law_343 rfl ?_
  refine mm_iark (k1 := 1) (k0 := 7 * j + 1) dL_law_344 rfl rfl (by decide) (by omega) (show 7 * j + 1 < X.1 by omega) (show X.1 ≤ 2147483647 by omega) ?_
  refine mm_callV (c := 0) (n := 243) (n' := 243) (as := [(0, X.2 (7 * j + 1))]) dL_law_345 rfl lk_L_36 rfl (by decide) rfl rfl rfl kL_le (by simp) (Nat.le_of_ble_eq_true rfl) (Nat.le_of_ble_eq_true rfl) (Nat.le_of_ble_eq_true rfl) (h _ (hX _)) ?_
  rintro _ M1 ⟨v, rfl, hc⟩
  change mm_J _ _ _ _ _ _ _ _ _ _
  refine mm_pop dL_law_348 rfl (show (0 : Nat) ≠ 1 by decide) ?_
  refine mm_aload_n dL_law_349 rfl rfl ?_
  refine mm_aload_n dL_law_350 rfl rfl ?_
  refine mm_iload_n dL_law_351 rfl rfl ?_
  refine mm_iconst dL_law_352 rfl ?_
  refine mm_iadd dL_law_353 rfl ?_
  refine mm_iark (k1 := 1) (k0 := 7 * j + 1) dL_law_354 rfl rfl (by decide) (by omega) (show 7 * j + 1 < X.1 by omega) (show X.1 ≤ 2147483647 by omega) ?_
  refine mm_callV (c := 183) (n := 243) (n' := 243) (as := [(0, X.2 (7 * j + 1))]) dL_law_355 rfl lk_L_39 rfl (by decide) rfl rfl rfl kL_le (by simp) (Nat.le_of_ble_eq_true rfl) (Nat.le_of_ble_eq_true rfl) (Nat.le_of_ble_eq_true rfl) (hc) ?_
  rintro _ M2 ⟨⟨w, rfl, -⟩, hR2⟩
  change mm_J _ _ _ _ _ _ _ _ _ _
  refine mm_pop dL_law_358 rfl (show (0 : Nat) ≠ 1 by decide) ?_
  exact mm_goto dL_law_359 (next M2 hR2)
theorem kL_c6 (hX : ∀ i, mm_R (X.2 i)) (hb : X.1 ≤ 3584) (h : kg2 (fun as => kk X Y_X11_state Y_X13_state as M)) (hj : 7 * j + 7 ≤ X.1) (next : ∀ M2, kR M2 → mm_J X (Y_L nm hs) 0 243 243 1621 [(2, -1), (2, 1), (2, 184), (0, ((7 * j : Nat) : Int))] [] M2 Φ) : mm_J X (Y_L nm hs) 0 243 243 362 [(2, -1), (2, 1), (2, 184), (0, ((7 * j : Nat) : Int))] [] M Φ := by
  refine mm_aload_n dL_law_362 rfl rfl ?_
  refine mm_aload_n dL_law_363 rfl rfl ?_
  refine mm_iload_n dL_law_364 rfl rfl ?_
  refine mm_iconst dL_law_365 rfl ?_
  refine mm_iadd dL_law_366 rfl ?_
  refine mm_iark (k1 := 1) (k0 := 7 * j + 1) dL_law_367 rfl rfl (by decide) (by omega) (show 7 * j + 1 < X.1 by omega) (show X.1 ≤ 2147483647 by omega) ?_
  refine mm_aload_n dL_law_368 rfl rfl ?_
  refine mm_iload_n dL_law_369 rfl rfl ?_
  refine mm_iconst dL_law_370 rfl ?_
  refine mm_iadd dL_law_371 rfl ?_
  refine mm_iark (k1 := 1) (k0 := 7 * j + 2) dL_law_372 rfl rfl (by decide) (by omega) (show 7 * j + 2 < X.1 by omega) (show X.1 ≤ 2147483647 by omega) ?_
  refine mm_callV (c := 0) (n := 243) (n' := 243) (as := [(0, X.2 (7 * j + 1)), (0, X.2 (7 * j + 2))]) dL_law_373 rfl lk_L_40 rfl (by decide) rfl rfl rfl kL_le (by simp) (Nat.le_of_ble_eq_true rfl) (Nat.le_of_ble_eq_true rfl) (Nat.le_of_ble_eq_true rfl) (h _ _ (hX _) (hX _)) ?_
  rintro _ M1 ⟨v, rfl, hc⟩
  change mm_J _ _ _ _ _ _ _ _ _ _
  refine mm_aload_n dL_law_376 rfl rfl ?_
  refine mm_aload_n dL_law_377 rfl rfl ?_
  refine mm_iload_n dL_law_378 rfl rfl ?_
  refine mm_iconst dL_law_379 rfl ?_
  refine mm_iadd dL_law_380 rfl ?_
  refine mm_iark (k1 := 1) (k0 := 7 * j + 1) dL_law_381 rfl rfl (by decide) (by omega) (show 7 * j + 1 < X.1 by omega) (show X.1 ≤ 2147483647 by omega) ?_
  refine mm_aload_n dL_law_382 rfl rfl ?_
  refine mm_iload_n dL_law_383 rfl rfl ?_
  refine mm_iconst dL_law_384 rfl ?_
  refine mm_iadd dL_law_385 rfl ?_
  refine mm_iark (k1 := 1) (k0 := 7 * j + 2) dL_law_386 rfl rfl (by decide) (by omega) (show 7 * j + 2 < X.1 by omega) (show X.1 ≤ 2147483647 by omega) ?_
  refine mm_callV (c := 183) (n := 243) (n' := 243) (as := [(0, X.2 (7 * j + 1)), (0, X.2 (7 * j + 2))]) dL_law_387 rfl lk_L_44 rfl (by decide) rfl rfl rfl kL_le (by simp) (Nat.le_of_ble_eq_true rfl) (Nat.le_of_ble_eq_true rfl) (Nat.le_of_ble_eq_true rfl) (hc) ?_
  rintro _ M2 ⟨rfl, hR2⟩
  change mm_J _ _ _ _ _ _ _ _ _ _
  exact mm_iceqs dL_law_390 (next M2 hR2)
theorem kL_c7 (hX : ∀ i, mm_R (X.2 i)) (hb : X.1 ≤ 3584) (h : kg2 (fun as => kkZ X Y_X11_leads Y_X13_leads as M)) (hj : 7 * j + 7 ≤ X.1) (next : ∀ M2, kR M2 → mm_J X (Y_L nm hs) 0 243 243 1621 [(2, -1), (2, 1), (2, 184), (0, ((7 * j : Nat) : Int))] [] M2 Φ) : mm_J X (Y_L nm hs) 0 243 243 395 [(2, -1), (2, 1), (2, 184), (0, ((7 * j : Nat) : Int))] [] M Φ := by
  refine mm_aload_n dL_law_395 rfl rfl ?_
  refine mm_aload_n dL_law_396 rfl rfl ?_
  refine mm_iload_n dL_law_397 rfl rfl ?_
  refine mm_iconst dL_law_398 rfl ?_
  refine mm_iadd dL_law_399 rfl ?_
  refine mm_iark (k1 := 1) (k0 := 7 * j + 1) dL_law_400 rfl rfl (by decide) (by omega) (show 7 * j + 1 < X.1 by omega) (show X.1 ≤ 2147483647 by omega) ?_
  refine mm_aload_n dL_law_401 rfl rfl ?_
  refine mm_iload_n dL_law_402 rfl rfl ?_
  refine mm_iconst dL_law_403 rfl ?_
  refine mm_iadd dL_law_404 rfl ?_
  refine mm_iark (k1 := 1) (k0 := 7 * j + 2) dL_law_405 rfl rfl (by decide) (by omega) (show 7 * j + 2 < X.1 by omega) (show X.1 ≤ 2147483647 by omega) ?_
  refine mm_callV (c := 0) (n := 243) (n' := 243) (as := [(0, X.2 (7 * j + 1)), (0, X.2 (7 * j + 2))]) dL_law_406 rfl lk_L_45 rfl (by decide) rfl rfl rfl kL_le (by simp) (Nat.le_of_ble_eq_true rfl) (Nat.le_of_ble_eq_true rfl) (Nat.le_of_ble_eq_true rfl) (h _ _ (hX _) (hX _)) ?_
  rintro _ M1 ⟨v, rfl, hc⟩
  change mm_J _ _ _ _ _ _ _ _ _ _
  refine mm_pop dL_law_409 rfl (show (0 : Nat) ≠ 1 by decide) ?_
  refine mm_aload_n dL_law_410 rfl rfl ?_
  refine mm_aload_n dL_law_411 rfl rfl ?_
  refine mm_iload_n dL_law_412 rfl rfl ?_
  refine mm_iconst dL_law_413 rfl ?_
  refine mm_iadd dL_law_414 rfl ?_
  refine mm_iark (k1 := 1) (k0 := 7 * j + 1) dL_law_415 rfl rfl (by decide) (by omega) (show 7 * j + 1 < X.1 by omega) (show X.1 ≤ 2147483647 by omega) ?_
  refine mm_aload_n dL_law_416 rfl rfl ?_
  refine mm_iload_n dL_law_417 rfl rfl ?_
  refine mm_iconst dL_law_418 rfl ?_
  refine mm_iadd dL_law_419 rfl ?_
  refine mm_iark (k1 := 1) (k0 := 7 * j + 2) dL_law_420 rfl rfl (by decide) (by omega) (show 7 * j + 2 < X.1 by omega) (show X.1 ≤ 2147483647 by omega) ?_
  refine mm_callV (c := 183) (n := 243) (n' := 243) (as := [(0, X.2 (7 * j + 1)), (0, X.2 (7 * j + 2))]) dL_law_421 rfl lk_L_48 rfl (by decide) rfl rfl rfl kL_le (by simp) (Nat.le_of_ble_eq_true rfl) (Nat.le_of_ble_eq_true rfl) (Nat.le_of_ble_eq_true rfl) (hc) ?_
  rintro _ M2 ⟨⟨w, rfl, -⟩, hR2⟩
  change mm_J _ _ _ _ _ _ _ _ _ _
  refine mm_pop dL_law_424 rfl (show (0 : Nat) ≠ 1 by decide) ?_
  exact mm_goto dL_law_425 (next M2 hR2)
theorem kL_c8 (hX : ∀ i, mm_R (X.2 i)) (hb : X.1 ≤ 3584) (h : kg5 (fun as => kkZ X Y_X11_wind Y_X13_wind as M)) (hj : 7 * j + 7 ≤ X.1) (next : ∀ M2, kR M2 → mm_J X (Y_L nm hs) 0 243 243 1621 [(2, -1), (2, 1), (2, 184), (0, ((7 * j : Nat) : Int))] [] M2 Φ) : mm_J X (Y_L nm hs) 0 243 243 428 [(2, -1), (2, 1), (2, 184), (0, ((7 * j : Nat) : Int))] [] M Φ := by
  refine mm_aload_n dL_law_428 rfl rfl ?_
  refine mm_aload_n dL_law_429 rfl rfl ?_
  refine mm_iload_n dL_law_430 rfl rfl ?_
  refine mm_iconst dL_law_431 rfl ?_
  refine mm_iadd dL_law_432 rfl ?_
  refine mm_iark (k1 := 1) (k0 := 7 * j + 1) dL_law_433 rfl rfl (by decide) (by omega) (show 7 * j + 1 < X.1 by omega) (show X.1 ≤ 2147483647 by omega) ?_
  refine mm_aload_n dL_law_434 rfl rfl ?_
  refine mm_iload_n dL_law_435 rfl rfl ?_
  refine mm_iconst dL_law_436 rfl ?_
  refine mm_iadd dL_law_437 rfl ?_
  refine mm_iark (k1 := 1) (k0 := 7 * j + 2) dL_law_438 rfl rfl (by decide) (by omega) (show 7 * j + 2 < X.1 by omega) (show X.1 ≤ 2147483647 by omega) ?_
  refine mm_aload_n dL_law_439 rfl rfl ?_
  refine mm_iload_n dL_law_440 rfl rfl ?_
  refine mm_iconst dL_law_441 rfl ?_
  refine mm_iadd dL_law_442 rfl ?_
  refine mm_iark (k1 := 1) (k0 := 7 * j + 3) dL_law_443 rfl rfl (by decide) (by omega) (show 7 * j + 3 < X.1 by omega) (show X.1 ≤ 2147483647 by omega) ?_
  refine mm_aload_n dL_law_444 rfl rfl ?_
  refine mm_iload_n dL_law_445 rfl rfl ?_
  refine mm_iconst dL_law_446 rfl ?_
  refine mm_iadd dL_law_447 rfl ?_
  refine mm_iark (k1 := 1) (k0 := 7 * j + 4) dL_law_448 rfl rfl (by decide) (by omega) (show 7 * j + 4 < X.1 by omega) (show X.1 ≤ 2147483647 by omega) ?_
  refine mm_aload_n dL_law_449 rfl rfl ?_
  refine mm_iload_n dL_law_450 rfl rfl ?_
  refine mm_iconst dL_law_451 rfl ?_
  refine mm_iadd dL_law_452 rfl ?_
  refine mm_iark (k1 := 1) (k0 := 7 * j + 5) dL_law_453 rfl rfl (by decide) (by omega) (show 7 * j + 5 < X.1 by omega) (show X.1 ≤ 2147483647 by omega) ?_
  refine mm_callV (c := 0) (n := 243) (n' := 243) (as := [(0, X.2 (7 * j + 1)), (0, X.2 (7 * j + 2)), (0, X.2 (7 * j + 3)), (0, X.2 (7 * j + 4)), (0, X.2 (7 * j + 5))]) dL_law_454 rfl lk_L_49 rfl (by decide) rfl rfl rfl kL_le (by simp) (Nat.le_of_ble_eq_true rfl) (Nat.le_of_ble_eq_true rfl) (Nat.le_of_ble_eq_true rfl) (h _ _ _ _ _ (hX _) (hX _) (hX _) (hX _) (hX _)) ?_
  rintro _ M1 ⟨v, rfl, hc⟩
  change mm_J _ _ _ _ _ _ _ _ _ _
  refine mm_pop dL_law_457 rfl (show (0 : Nat) ≠ 1 by decide) ?_
  refine mm_aload_n dL_law_458 rfl rfl ?_
  refine mm_aload_n dL_law_459 rfl rfl ?_
  refine mm_iload_n dL_law_460 rfl rfl ?_
  refine mm_iconst dL_law_461 rfl ?_
  refine mm_iadd dL_law_462 rfl ?_
  refine mm_iark (k1 := 1) (k0 := 7 * j + 1) dL_law_463 rfl rfl (by decide) (by omega) (show 7 * j + 1 < X.1 by omega) (show X.1 ≤ 2147483647 by omega) ?_
  refine mm_aload_n dL_law_464 rfl rfl ?_
  refine mm_iload_n dL_law_465 rfl rfl ?_
  refine mm_iconst dL_law_466 rfl ?_
  refine mm_iadd dL_law_467 rfl ?_
  refine mm_iark (k1 := 1) (k0 := 7 * j + 2) dL_law_468 rfl rfl (by decide) (by omega) (show 7 * j + 2 < X.1 by omega) (show X.1 ≤ 2147483647 by omega) ?_
  refine mm_aload_n dL_law_469 rfl rfl ?_
  refine mm_iload_n dL_law_470 rfl rfl ?_
  refine mm_iconst dL_law_471 rfl ?_
  refine mm_iadd dL_law_472 rfl ?_
  refine mm_iark (k1 := 1) (k0 := 7 * j + 3) dL_law_473 rfl rfl (by decide) (by omega) (show 7 * j + 3 < X.1 by omega) (show X.1 ≤ 2147483647 by omega) ?_
  refine mm_aload_n dL_law_474 rfl rfl ?_
  refine mm_iload_n dL_law_475 rfl rfl ?_
  refine mm_iconst dL_law_476 rfl ?_
  refine mm_iadd dL_law_477 rfl ?_
  refine mm_iark (k1 := 1) (k0 := 7 * j + 4) dL_law_478 rfl rfl (by decide) (by omega) (show 7 * j + 4 < X.1 by omega) (show X.1 ≤ 2147483647 by omega) ?_
  refine mm_aload_n dL_law_479 rfl rfl ?_
  refine mm_iload_n dL_law_480 rfl rfl ?_
  refine mm_iconst dL_law_481 rfl ?_
  refine mm_iadd dL_law_482 rfl ?_
  refine mm_iark (k1 := 1) (k0 := 7 * j + 5) dL_law_483 rfl rfl (by decide) (by omega) (show 7 * j + 5 < X.1 by omega) (show X.1 ≤ 2147483647 by omega) ?_
  refine mm_callV (c := 183) (n := 243) (n' := 243) (as := [(0, X.2 (7 * j + 1)), (0, X.2 (7 * j + 2)), (0, X.2 (7 * j + 3)), (0, X.2 (7 * j + 4)), (0, X.2 (7 * j + 5))]) dL_law_484 rfl lk_L_52 rfl (by decide) rfl rfl rfl kL_le (by simp) (Nat.le_of_ble_eq_true rfl) (Nat.le_of_ble_eq_true rfl) (Nat.le_of_ble_eq_true rfl) (hc) ?_
  rintro _ M2 ⟨⟨w, rfl, -⟩, hR2⟩
  change mm_J _ _ _ _ _ _ _ _ _ _
  refine mm_pop dL_law_487 rfl (show (0 : Nat) ≠ 1 by decide) ?_
  exact mm_goto dL_law_488 (next M2 hR2)
theorem kL_c9 (hX : ∀ i, mm_R (X.2 i)) (hb : X.1 ≤ 3584) (h : kg3 (fun as => kkZ X Y_X11_winds Y_X13_winds as M)) (hj : 7 * j + 7 ≤ X.1) (next : ∀ M2, kR M2 → mm_J X (Y_L nm hs) 0 243 243 1621 [(2, -1), (2, 1), (2, 184), (0, ((7 * j : Nat) : Int))] [] M2 Φ) : mm_J X (Y_L nm hs) 0 243 243 491 [(2, -1), (2, 1), (2, 184), (0, ((7 * j : Nat) : Int))] [] M Φ := by
  refine mm_aload_n dL_law_491 rfl rfl ?_
  refine mm_aload_n dL_law_492 rfl rfl ?_
  refine mm_iload_n dL_law_493 rfl rfl ?_
  refine mm_iconst dL_law_494 rfl ?_
  refine mm_iadd dL_law_495 rfl ?_
  refine mm_iark (k1 := 1) (k0 := 7 * j + 1) dL_law_496 rfl rfl (by decide) (by omega) (show 7 * j + 1 < X.1 by omega) (show X.1 ≤ 2147483647 by omega) ?_
  refine mm_aload_n dL_law_497 rfl rfl ?_
  refine mm_iload_n dL_law_498 rfl rfl ?_
  refine mm_iconst dL_law_499 rfl ?_
  refine mm_iadd dL_law_500 rfl ?_
  refine mm_iark (k1 := 1) (k0 := 7 * j + 2) dL_law_501 rfl rfl (by decide) (by omega) (show 7 * j + 2 < X.1 by omega) (show X.1 ≤ 2147483647 by omega) ?_
  refine mm_aload_n dL_law_502 rfl rfl ?_
  refine mm_iload_n dL_law_503 rfl rfl ?_
  refine mm_iconst dL_law_504 rfl ?_
  refine mm_iadd dL_law_505 rfl ?_
  refine mm_iark (k1 := 1) (k0 := 7 * j + 3) dL_law_506 rfl rfl (by decide) (by omega) (show 7 * j + 3 < X.1 by omega) (show X.1 ≤ 2147483647 by omega) ?_
  refine mm_callV (c := 0) (n := 243) (n' := 243) (as := [(0, X.2 (7 * j + 1)), (0, X.2 (7 * j + 2)), (0, X.2 (7 * j + 3))]) dL_law_507 rfl lk_L_53 rfl (by decide) rfl rfl rfl kL_le (by simp) (Nat.le_of_ble_eq_true rfl) (Nat.le_of_ble_eq_true rfl) (Nat.le_of_ble_eq_true rfl) (h _ _ _ (hX _) (hX _) (hX _)) ?_
  rintro _ M1 ⟨v, rfl, hc⟩
  change mm_J _ _ _ _ _ _ _ _ _ _
  refine mm_pop dL_law_510 rfl (show (0 : Nat) ≠ 1 by decide) ?_
  refine mm_aload_n dL_law_511 rfl rfl ?_
  refine mm_aload_n dL_law_512 rfl rfl ?_
  refine mm_iload_n dL_law_513 rfl rfl ?_
  refine mm_iconst dL_law_514 rfl ?_
  refine mm_iadd dL_law_515 rfl ?_
  refine mm_iark (k1 := 1) (k0 := 7 * j + 1) dL_law_516 rfl rfl (by decide) (by omega) (show 7 * j + 1 < X.1 by omega) (show X.1 ≤ 2147483647 by omega) ?_
  refine mm_aload_n dL_law_517 rfl rfl ?_
  refine mm_iload_n dL_law_518 rfl rfl ?_
  refine mm_iconst dL_law_519 rfl ?_
  refine mm_iadd dL_law_520 rfl ?_
  refine mm_iark (k1 := 1) (k0 := 7 * j + 2) dL_law_521 rfl rfl (by decide) (by omega) (show 7 * j + 2 < X.1 by omega) (show X.1 ≤ 2147483647 by omega) ?_
  refine mm_aload_n dL_law_522 rfl rfl ?_
  refine mm_iload_n dL_law_523 rfl rfl ?_
  refine mm_iconst dL_law_524 rfl ?_
  refine mm_iadd dL_law_525 rfl ?_
  refine mm_iark (k1 := 1) (k0 := 7 * j + 3) dL_law_526 rfl rfl (by decide) (by omega) (show 7 * j + 3 < X.1 by omega) (show X.1 ≤ 2147483647 by omega) ?_
  refine mm_callV (c := 183) (n := 243) (n' := 243) (as := [(0, X.2 (7 * j + 1)), (0, X.2 (7 * j + 2)), (0, X.2 (7 * j + 3))]) dL_law_527 rfl lk_L_57 rfl (by decide) rfl rfl rfl kL_le (by simp) (Nat.le_of_ble_eq_true rfl) (Nat.le_of_ble_eq_true rfl) (Nat.le_of_ble_eq_true rfl) (hc) ?_
  rintro _ M2 ⟨⟨w, rfl, -⟩, hR2⟩
  change mm_J _ _ _ _ _ _ _ _ _ _
  refine mm_pop dL_law_530 rfl (show (0 : Nat) ≠ 1 by decide) ?_
  exact mm_goto dL_law_531 (next M2 hR2)
theorem kL_c10 (hX : ∀ i, mm_R (X.2 i)) (hb : X.1 ≤ 3584) (h : kg3 (fun as => kkZ X Y_X11_pull Y_X13_pull as M)) (hj : 7 * j + 7 ≤ X.1) (next : ∀ M2, kR M2 → mm_J X (Y_L nm hs) 0 243 243 1621 [(2, -1), (2, 1), (2, 184), (0, ((7 * j : Nat) : Int))] [] M2 Φ) : mm_J X (Y_L nm hs) 0 243 243 534 [(2, -1), (2, 1), (2, 184), (0, ((7 * j : Nat) : Int))] [] M Φ := by
  refine mm_aload_n dL_law_534 rfl rfl ?_
  refine mm_aload_n dL_law_535 rfl rfl ?_
  refine mm_iload_n dL_law_536 rfl rfl ?_
  refine mm_iconst dL_law_537 rfl ?_
  refine mm_iadd dL_law_538 rfl ?_
  refine mm_iark (k1 := 1) (k0 := 7 * j + 1) dL_law_539 rfl rfl (by decide) (by omega) (show 7 * j + 1 < X.1 by omega) (show X.1 ≤ 2147483647 by omega) ?_
  refine mm_aload_n dL_law_540 rfl rfl ?_
  refine mm_iload_n dL_law_541 rfl rfl ?_
  refine mm_iconst dL_law_542 rfl ?_
  refine mm_iadd dL_law_543 rfl ?_
  refine mm_iark (k1 := 1) (k0 := 7 * j + 2) dL_law_544 rfl rfl (by decide) (by omega) (show 7 * j + 2 < X.1 by omega) (show X.1 ≤ 2147483647 by omega) ?_
  refine mm_aload_n dL_law_545 rfl rfl ?_
  refine mm_iload_n dL_law_546 rfl rfl ?_
  refine mm_iconst dL_law_547 rfl ?_
  refine mm_iadd dL_law_548 rfl ?_
  refine mm_iark (k1 := 1) (k0 := 7 * j + 3) dL_law_549 rfl rfl (by decide) (by omega) (show 7 * j + 3 < X.1 by omega) (show X.1 ≤ 2147483647 by omega) ?_
  refine mm_callV (c := 0) (n := 243) (n' := 243) (as := [(0, X.2 (7 * j + 1)), (0, X.2 (7 * j + 2)), (0, X.2 (7 * j + 3))]) dL_law_550 rfl lk_L_58 rfl (by decide) rfl rfl rfl kL_le (by simp) (Nat.le_of_ble_eq_true rfl) (Nat.le_of_ble_eq_true rfl) (Nat.le_of_ble_eq_true rfl) (h _ _ _ (hX _) (hX _) (hX _)) ?_
  rintro _ M1 ⟨v, rfl, hc⟩
  change mm_J _ _ _ _ _ _ _ _ _ _
  refine mm_pop dL_law_553 rfl (show (0 : Nat) ≠ 1 by decide) ?_
  refine mm_aload_n dL_law_554 rfl rfl ?_
  refine mm_aload_n dL_law_555 rfl rfl ?_
  refine mm_iload_n dL_law_556 rfl rfl ?_
  refine mm_iconst dL_law_557 rfl ?_
  refine mm_iadd dL_law_558 rfl ?_
  refine mm_iark (k1 := 1) (k0 := 7 * j + 1) dL_law_559 rfl rfl (by decide) (by omega) (show 7 * j + 1 < X.1 by omega) (show X.1 ≤ 2147483647 by omega) ?_
  refine mm_aload_n dL_law_560 rfl rfl ?_
  refine mm_iload_n dL_law_561 rfl rfl ?_
  refine mm_iconst dL_law_562 rfl ?_
  refine mm_iadd dL_law_563 rfl ?_
  refine mm_iark (k1 := 1) (k0 := 7 * j + 2) dL_law_564 rfl rfl (by decide) (by omega) (show 7 * j + 2 < X.1 by omega) (show X.1 ≤ 2147483647 by omega) ?_
  refine mm_aload_n dL_law_565 rfl rfl ?_
  refine mm_iload_n dL_law_566 rfl rfl ?_
  refine mm_iconst dL_law_567 rfl ?_
  refine mm_iadd dL_law_568 rfl ?_
  refine mm_iark (k1 := 1) (k0 := 7 * j + 3) dL_law_569 rfl rfl (by decide) (by omega) (show 7 * j + 3 < X.1 by omega) (show X.1 ≤ 2147483647 by omega) ?_
  refine mm_callV (c := 183) (n := 243) (n' := 243) (as := [(0, X.2 (7 * j + 1)), (0, X.2 (7 * j + 2)), (0, X.2 (7 * j + 3))]) dL_law_570 rfl lk_L_61 rfl (by decide) rfl rfl rfl kL_le (by simp) (Nat.le_of_ble_eq_true rfl) (Nat.le_of_ble_eq_true rfl) (Nat.le_of_ble_eq_true rfl) (hc) ?_
  rintro _ M2 ⟨⟨w, rfl, -⟩, hR2⟩
  change mm_J _ _ _ _ _ _ _ _ _ _
  refine mm_pop dL_law_573 rfl (show (0 : Nat) ≠ 1 by decide) ?_
  exact mm_goto dL_law_574 (next M2 hR2)
theorem kL_c11 (hX : ∀ i, mm_R (X.2 i)) (hb : X.1 ≤ 3584) (h : kg3 (fun as => kkZ X Y_X11_safe Y_X13_safe as M)) (hj : 7 * j + 7 ≤ X.1) (next : ∀ M2, kR M2 → mm_J X (Y_L nm hs) 0 243 243 1621 [(2, -1), (2, 1), (2, 184), (0, ((7 * j : Nat) : Int))] [] M2 Φ) : mm_J X (Y_L nm hs) 0 243 243 577 [(2, -1), (2, 1), (2, 184), (0, ((7 * j : Nat) : Int))] [] M Φ := by
  refine mm_aload_n dL_law_577 rfl rfl ?_
  refine mm_aload_n dL_law_578 rfl rfl ?_
  refine mm_iload_n dL_law_579 rfl rfl ?_
  refine mm_iconst dL_law_580 rfl ?_
  refine mm_iadd dL_law_581 rfl ?_
  refine mm_iark (k1 := 1) (k0 := 7 * j + 1) dL_law_582 rfl rfl (by decide) (by omega) (show 7 * j + 1 < X.1 by omega) (show X.1 ≤ 2147483647 by omega) ?_
  refine mm_aload_n dL_law_583 rfl rfl ?_
  refine mm_iload_n dL_law_584 rfl rfl ?_
  refine mm_iconst dL_law_585 rfl ?_
  refine mm_iadd dL_law_586 rfl ?_
  refine mm_iark (k1 := 1) (k0 := 7 * j + 2) dL_law_587 rfl rfl (by decide) (by omega) (show 7 * j + 2 < X.1 by omega) (show X.1 ≤ 2147483647 by omega) ?_
  refine mm_aload_n dL_law_588 rfl rfl ?_
  refine mm_iload_n dL_law_589 rfl rfl ?_
  refine mm_iconst dL_law_590 rfl ?_
  refine mm_iadd dL_law_591 rfl ?_
  refine mm_iark (k1 := 1) (k0 := 7 * j + 3) dL_law_592 rfl rfl (by decide) (by omega) (show 7 * j + 3 < X.1 by omega) (show X.1 ≤ 2147483647 by omega) ?_
  refine mm_callV (c := 0) (n := 243) (n' := 243) (as := [(0, X.2 (7 * j + 1)), (0, X.2 (7 * j + 2)), (0, X.2 (7 * j + 3))]) dL_law_593 rfl lk_L_62 rfl (by decide) rfl rfl rfl kL_le (by simp) (Nat.le_of_ble_eq_true rfl) (Nat.le_of_ble_eq_true rfl) (Nat.le_of_ble_eq_true rfl) (h _ _ _ (hX _) (hX _) (hX _)) ?_
  rintro _ M1 ⟨v, rfl, hc⟩
  change mm_J _ _ _ _ _ _ _ _ _ _
  refine mm_pop dL_law_596 rfl (show (0 : Nat) ≠ 1 by decide) ?_
  refine mm_aload_n dL_law_597 rfl rfl ?_
  refine mm_aload_n dL_law_598 rfl rfl ?_
  refine mm_iload_n dL_law_599 rfl rfl ?_
  refine mm_iconst dL_law_600 rfl ?_
  refine mm_iadd dL_law_601 rfl ?_
  refine mm_iark (k1 := 1) (k0 := 7 * j + 1) dL_law_602 rfl rfl (by decide) (by omega) (show 7 * j + 1 < X.1 by omega) (show X.1 ≤ 2147483647 by omega) ?_
  refine mm_aload_n dL_law_603 rfl rfl ?_
  refine mm_iload_n dL_law_604 rfl rfl ?_
  refine mm_iconst dL_law_605 rfl ?_
  refine mm_iadd dL_law_606 rfl ?_
  refine mm_iark (k1 := 1) (k0 := 7 * j + 2) dL_law_607 rfl rfl (by decide) (by omega) (show 7 * j + 2 < X.1 by omega) (show X.1 ≤ 2147483647 by omega) ?_
  refine mm_aload_n dL_law_608 rfl rfl ?_
  refine mm_iload_n dL_law_609 rfl rfl ?_
  refine mm_iconst dL_law_610 rfl ?_
  refine mm_iadd dL_law_611 rfl ?_
  refine mm_iark (k1 := 1) (k0 := 7 * j + 3) dL_law_612 rfl rfl (by decide) (by omega) (show 7 * j + 3 < X.1 by omega) (show X.1 ≤ 2147483647 by omega) ?_
  refine mm_callV (c := 183) (n := 243) (n' := 243) (as := [(0, X.2 (7 * j + 1)), (0, X.2 (7 * j + 2)), (0, X.2 (7 * j + 3))]) dL_law_613 rfl lk_L_65 rfl (by decide) rfl rfl rfl kL_le (by simp) (Nat.le_of_ble_eq_true rfl) (Nat.le_of_ble_eq_true rfl) (Nat.le_of_ble_eq_true rfl) (hc) ?_
  rintro _ M2 ⟨⟨w, rfl, -⟩, hR2⟩
  change mm_J _ _ _ _ _ _ _ _ _ _
  refine mm_pop dL_law_616 rfl (show (0 : Nat) ≠ 1 by decide) ?_
  exact mm_goto dL_law_617 (next M2 hR2)
theorem kL_c12 (hX : ∀ i, mm_R (X.2 i)) (hb : X.1 ≤ 3584) (h : kg3 (fun as => kkZ X Y_X11_gives Y_X13_gives as M)) (hj : 7 * j + 7 ≤ X.1) (next : ∀ M2, kR M2 → mm_J X (Y_L nm hs) 0 243 243 1621 [(2, -1), (2, 1), (2, 184), (0, ((7 * j : Nat) : Int))] [] M2 Φ) : mm_J X (Y_L nm hs) 0 243 243 620 [(2, -1), (2, 1), (2, 184), (0, ((7 * j : Nat) : Int))] [] M Φ := by
  refine mm_aload_n dL_law_620 rfl rfl ?_
  refine mm_aload_n dL_law_621 rfl rfl ?_
  refine mm_iload_n dL_law_622 rfl rfl ?_
  refine mm_iconst dL_law_623 rfl ?_
  refine mm_iadd dL_law_624 rfl ?_
  refine mm_iark (k1 := 1) (k0 := 7 * j + 1) dL_law_625 rfl rfl (by decide) (by omega) (show 7 * j + 1 < X.1 by omega) (show X.1 ≤ 2147483647 by omega) ?_
  refine mm_aload_n dL_law_626 rfl rfl ?_
  refine mm_iload_n dL_law_627 rfl rfl ?_
  refine mm_iconst dL_law_628 rfl ?_
  refine mm_iadd dL_law_629 rfl ?_
  refine mm_iark (k1 := 1) (k0 := 7 * j + 2) dL_law_630 rfl rfl (by decide) (by omega) (show 7 * j + 2 < X.1 by omega) (show X.1 ≤ 2147483647 by omega) ?_
  refine mm_aload_n dL_law_631 rfl rfl ?_
  refine mm_iload_n dL_law_632 rfl rfl ?_
  refine mm_iconst dL_law_633 rfl ?_
  refine mm_iadd dL_law_634 rfl ?_
  refine mm_iark (k1 := 1) (k0 := 7 * j + 3) dL_law_635 rfl rfl (by decide) (by omega) (show 7 * j + 3 < X.1 by omega) (show X.1 ≤ 2147483647 by omega) ?_
  refine mm_callV (c := 0) (n := 243) (n' := 243) (as := [(0, X.2 (7 * j + 1)), (0, X.2 (7 * j + 2)), (0, X.2 (7 * j + 3))]) dL_law_636 rfl lk_L_66 rfl (by decide) rfl rfl rfl kL_le (by simp) (Nat.le_of_ble_eq_true rfl) (Nat.le_of_ble_eq_true rfl) (Nat.le_of_ble_eq_true rfl) (h _ _ _ (hX _) (hX _) (hX _)) ?_
  rintro _ M1 ⟨v, rfl, hc⟩
  change mm_J _ _ _ _ _ _ _ _ _ _
  refine mm_pop dL_law_639 rfl (show (0 : Nat) ≠ 1 by decide) ?_
  refine mm_aload_n dL_law_640 rfl rfl ?_
  refine mm_aload_n dL_law_641 rfl rfl ?_
  refine mm_iload_n dL_law_642 rfl rfl ?_
  refine mm_iconst dL_law_643 rfl ?_
  refine mm_iadd dL_law_644 rfl ?_
  refine mm_iark (k1 := 1) (k0 := 7 * j + 1) dL_law_645 rfl rfl (by decide) (by omega) (show 7 * j + 1 < X.1 by omega) (show X.1 ≤ 2147483647 by omega) ?_
  refine mm_aload_n dL_law_646 rfl rfl ?_
  refine mm_iload_n dL_law_647 rfl rfl ?_
  refine mm_iconst dL_law_648 rfl ?_
  refine mm_iadd dL_law_649 rfl ?_
  refine mm_iark (k1 := 1) (k0 := 7 * j + 2) dL_law_650 rfl rfl (by decide) (by omega) (show 7 * j + 2 < X.1 by omega) (show X.1 ≤ 2147483647 by omega) ?_
  refine mm_aload_n dL_law_651 rfl rfl ?_
  refine mm_iload_n dL_law_652 rfl rfl ?_
  refine mm_iconst dL_law_653 rfl ?_
  refine mm_iadd dL_law_654 rfl ?_
  refine mm_iark (k1 := 1) (k0 := 7 * j + 3) dL_law_655 rfl rfl (by decide) (by omega) (show 7 * j + 3 < X.1 by omega) (show X.1 ≤ 2147483647 by omega) ?_
  refine mm_callV (c := 183) (n := 243) (n' := 243) (as := [(0, X.2 (7 * j + 1)), (0, X.2 (7 * j + 2)), (0, X.2 (7 * j + 3))]) dL_law_656 rfl lk_L_69 rfl (by decide) rfl rfl rfl kL_le (by simp) (Nat.le_of_ble_eq_true rfl) (Nat.le_of_ble_eq_true rfl) (Nat.le_of_ble_eq_true rfl) (hc) ?_
  rintro _ M2 ⟨⟨w, rfl, -⟩, hR2⟩
  change mm_J _ _ _ _ _ _ _ _ _ _
  refine mm_pop dL_law_659 rfl (show (0 : Nat) ≠ 1 by decide) ?_
  exact mm_goto dL_law_660 (next M2 hR2)
theorem kL_c13 (hX : ∀ i, mm_R (X.2 i)) (hb : X.1 ≤ 3584) (h : kg1 (fun as => kkZ X Y_X11_best Y_X13_best as M)) (hj : 7 * j + 7 ≤ X.1) (next : ∀ M2, kR M2 → mm_J X (Y_L nm hs) 0 243 243 1621 [(2, -1), (2, 1), (2, 184), (0, ((7 * j : Nat) : Int))] [] M2 Φ) : mm_J X (Y_L nm hs) 0 243 243 663 [(2, -1), (2, 1), (2, 184), (0, ((7 * j : Nat) : Int))] [] M Φ := by
  refine mm_aload_n dL_law_663 rfl rfl ?_
  refine mm_aload_n dL_law_664 rfl rfl ?_
  refine mm_iload_n dL_law_665 rfl rfl ?_
  refine mm_iconst dL_law_666 rfl ?_
  refine mm_iadd dL_law_667 rfl ?_
  refine mm_iark (k1 := 1) (k0 := 7 * j + 1) dL_law_668 rfl rfl (by decide) (by omega) (show 7 * j + 1 < X.1 by omega) (show X.1 ≤ 2147483647 by omega) ?_
  refine mm_callV (c := 0) (n := 243) (n' := 243) (as := [(0, X.2 (7 * j + 1))]) dL_law_669 rfl lk_L_70 rfl (by decide) rfl rfl rfl kL_le (by simp) (Nat.le_of_ble_eq_true rfl) (Nat.le_of_ble_eq_true rfl) (Nat.le_of_ble_eq_true rfl) (h _ (hX _)) ?_
  rintro _ M1 ⟨v, rfl, hc⟩
  change mm_J _ _ _ _ _ _ _ _ _ _
  refine mm_pop dL_law_672 rfl (show (0 : Nat) ≠ 1 by decide) ?_
  refine mm_aload_n dL_law_673 rfl rfl ?_
  refine mm_aload_n dL_law_674 rfl rfl ?_
  refine mm_iload_n dL_law_675 rfl rfl ?_
  refine mm_iconst dL_law_676 rfl ?_
  refine mm_iadd dL_law_677 rfl ?_
  refine mm_iark (k1 := 1) (k0 := 7 * j + 1) dL_law_678 rfl rfl (by decide) (by omega) (show 7 * j + 1 < X.1 by omega) (show X.1 ≤ 2147483647 by omega) ?_
  refine mm_callV (c := 183) (n := 243) (n' := 243) (as := [(0, X.2 (7 * j + 1))]) dL_law_679 rfl lk_L_73 rfl (by decide) rfl rfl rfl kL_le (by simp) (Nat.le_of_ble_eq_true rfl) (Nat.le_of_ble_eq_true rfl) (Nat.le_of_ble_eq_true rfl) (hc) ?_
  rintro _ M2 ⟨⟨w, rfl, -⟩, hR2⟩
  change mm_J _ _ _ _ _ _ _ _ _ _
  refine mm_pop dL_law_682 rfl (show (0 : Nat) ≠ 1 by decide) ?_
  exact mm_goto dL_law_683 (next M2 hR2)
theorem kL_c14 (hX : ∀ i, mm_R (X.2 i)) (hb : X.1 ≤ 3584) (h : kg1 (fun as => kkZ X Y_X11_looped Y_X13_looped as M)) (hj : 7 * j + 7 ≤ X.1) (next : ∀ M2, kR M2 → mm_J X (Y_L nm hs) 0 243 243 1621 [(2, -1), (2, 1), (2, 184), (0, ((7 * j : Nat) : Int))] [] M2 Φ) : mm_J X (Y_L nm hs) 0 243 243 686 [(2, -1), (2, 1), (2, 184), (0, ((7 * j : Nat) : Int))] [] M Φ := by
  refine mm_aload_n dL_law_686 rfl rfl ?_
  refine mm_aload_n dL_law_687 rfl rfl ?_
  refine mm_iload_n dL_law_688 rfl rfl ?_
  refine mm_iconst dL_law_689 rfl ?_
  refine mm_iadd dL_law_690 rfl ?_
  refine mm_iark (k1 := 1) (k0 := 7 * j + 1) dL_law_691 rfl rfl (by decide) (by omega) (show 7 * j + 1 < X.1 by omega) (show X.1 ≤ 2147483647 by omega) ?_
  refine mm_callV (c := 0) (n := 243) (n' := 243) (as := [(0, X.2 (7 * j + 1))]) dL_law_692 rfl lk_L_74 rfl (by decide) rfl rfl rfl kL_le (by simp) (Nat.le_of_ble_eq_true rfl) (Nat.le_of_ble_eq_true rfl) (Nat.le_of_ble_eq_true rfl) (h _ (hX _)) ?_
  rintro _ M1 ⟨v, rfl, hc⟩
  change mm_J _ _ _ _ _ _ _ _ _ _
  refine mm_pop dL_law_695 rfl (show (0 : Nat) ≠ 1 by decide) ?_
  refine mm_aload_n dL_law_696 rfl rfl ?_
  refine mm_aload_n dL_law_697 rfl rfl ?_
  refine mm_iload_n dL_law_698 rfl rfl ?_
  refine mm_iconst dL_law_699 rfl ?_
  refine mm_iadd dL_law_700 rfl ?_
  refine mm_iark (k1 := 1) (k0 := 7 * j + 1) dL_law_701 rfl rfl (by decide) (by omega) (show 7 * j + 1 < X.1 by omega) (show X.1 ≤ 2147483647 by omega) ?_
  refine mm_callV (c := 183) (n := 243) (n' := 243) (as := [(0, X.2 (7 * j + 1))]) dL_law_702 rfl lk_L_77 rfl (by decide) rfl rfl rfl kL_le (by simp) (Nat.le_of_ble_eq_true rfl) (Nat.le_of_ble_eq_true rfl) (Nat.le_of_ble_eq_true rfl) (hc) ?_
  rintro _ M2 ⟨⟨w, rfl, -⟩, hR2⟩
  change mm_J _ _ _ _ _ _ _ _ _ _
  refine mm_pop dL_law_705 rfl (show (0 : Nat) ≠ 1 by decide) ?_
  exact mm_goto dL_law_706 (next M2 hR2)
theorem kL_c15 (hX : ∀ i, mm_R (X.2 i)) (hb : X.1 ≤ 3584) (h : kg2 (fun as => kkZ X Y_X11_judge Y_X13_judge as M)) (hj : 7 * j + 7 ≤ X.1) (next : ∀ M2, kR M2 → mm_J X (Y_L nm hs) 0 243 243 1621 [(2, -1), (2, 1), (2, 184), (0, ((7 * j : Nat) : Int))] [] M2 Φ) : mm_J X (Y_L nm hs) 0 243 243 709 [(2, -1), (2, 1), (2, 184), (0, ((7 * j : Nat) : Int))] [] M Φ := by
  refine mm_aload_n dL_law_709 rfl rfl ?_
  refine mm_aload_n dL_law_710 rfl rfl ?_
  refine mm_iload_n dL_law_711 rfl rfl ?_
  refine mm_iconst dL_law_712 rfl ?_
  refine mm_iadd dL_law_713 rfl ?_
  refine mm_iark (k1 := 1) (k0 := 7 * j + 1) dL_law_714 rfl rfl (by decide) (by omega) (show 7 * j + 1 < X.1 by omega) (show X.1 ≤ 2147483647 by omega) ?_
  refine mm_aload_n dL_law_715 rfl rfl ?_
  refine mm_iload_n dL_law_716 rfl rfl ?_
  refine mm_iconst dL_law_717 rfl ?_
  refine mm_iadd dL_law_718 rfl ?_
  refine mm_iark (k1 := 1) (k0 := 7 * j + 2) dL_law_719 rfl rfl (by decide) (by omega) (show 7 * j + 2 < X.1 by omega) (show X.1 ≤ 2147483647 by omega) ?_
  refine mm_callV (c := 0) (n := 243) (n' := 243) (as := [(0, X.2 (7 * j + 1)), (0, X.2 (7 * j + 2))]) dL_law_720 rfl lk_L_78 rfl (by decide) rfl rfl rfl kL_le (by simp) (Nat.le_of_ble_eq_true rfl) (Nat.le_of_ble_eq_true rfl) (Nat.le_of_ble_eq_true rfl) (h _ _ (hX _) (hX _)) ?_
  rintro _ M1 ⟨v, rfl, hc⟩
  change mm_J _ _ _ _ _ _ _ _ _ _
  refine mm_pop dL_law_723 rfl (show (0 : Nat) ≠ 1 by decide) ?_
  refine mm_aload_n dL_law_724 rfl rfl ?_
  refine mm_aload_n dL_law_725 rfl rfl ?_
  refine mm_iload_n dL_law_726 rfl rfl ?_
  refine mm_iconst dL_law_727 rfl ?_
  refine mm_iadd dL_law_728 rfl ?_
  refine mm_iark (k1 := 1) (k0 := 7 * j + 1) dL_law_729 rfl rfl (by decide) (by omega) (show 7 * j + 1 < X.1 by omega) (show X.1 ≤ 2147483647 by omega) ?_
  refine mm_aload_n dL_law_730 rfl rfl ?_
  refine mm_iload_n dL_law_731 rfl rfl ?_
  refine mm_iconst dL_law_732 rfl ?_
  refine mm_iadd dL_law_733 rfl ?_
  refine mm_iark (k1 := 1) (k0 := 7 * j + 2) dL_law_734 rfl rfl (by decide) (by omega) (show 7 * j + 2 < X.1 by omega) (show X.1 ≤ 2147483647 by omega) ?_
  refine mm_callV (c := 183) (n := 243) (n' := 243) (as := [(0, X.2 (7 * j + 1)), (0, X.2 (7 * j + 2))]) dL_law_735 rfl lk_L_81 rfl (by decide) rfl rfl rfl kL_le (by simp) (Nat.le_of_ble_eq_true rfl) (Nat.le_of_ble_eq_true rfl) (Nat.le_of_ble_eq_true rfl) (hc) ?_
  rintro _ M2 ⟨⟨w, rfl, -⟩, hR2⟩
  change mm_J _ _ _ _ _ _ _ _ _ _
  refine mm_pop dL_law_738 rfl (show (0 : Nat) ≠ 1 by decide) ?_
  exact mm_goto dL_law_739 (next M2 hR2)
theorem kL_c16 (hX : ∀ i, mm_R (X.2 i)) (hb : X.1 ≤ 3584) (h : kg1 (fun as => kkZ X Y_X11_judged Y_X13_judged as M)) (hj : 7 * j + 7 ≤ X.1) (next : ∀ M2, kR M2 → mm_J X (Y_L nm hs) 0 243 243 1621 [(2, -1), (2, 1), (2, 184), (0, ((7 * j : Nat) : Int))] [] M2 Φ) : mm_J X (Y_L nm hs) 0 243 243 742 [(2, -1), (2, 1), (2, 184), (0, ((7 * j : Nat) : Int))] [] M Φ := by
  refine mm_aload_n dL_law_742 rfl rfl ?_
  refine mm_aload_n dL_law_743 rfl rfl ?_
  refine mm_iload_n dL_law_744 rfl rfl ?_
  refine mm_iconst dL_law_745 rfl ?_
  refine mm_iadd dL_law_746 rfl ?_
  refine mm_iark (k1 := 1) (k0 := 7 * j + 1) dL_law_747 rfl rfl (by decide) (by omega) (show 7 * j + 1 < X.1 by omega) (show X.1 ≤ 2147483647 by omega) ?_
  refine mm_callV (c := 0) (n := 243) (n' := 243) (as := [(0, X.2 (7 * j + 1))]) dL_law_748 rfl lk_L_82 rfl (by decide) rfl rfl rfl kL_le (by simp) (Nat.le_of_ble_eq_true rfl) (Nat.le_of_ble_eq_true rfl) (Nat.le_of_ble_eq_true rfl) (h _ (hX _)) ?_
  rintro _ M1 ⟨v, rfl, hc⟩
  change mm_J _ _ _ _ _ _ _ _ _ _
  refine mm_pop dL_law_751 rfl (show (0 : Nat) ≠ 1 by decide) ?_
  refine mm_aload_n dL_law_752 rfl rfl ?_
  refine mm_aload_n dL_law_753 rfl rfl ?_
  refine mm_iload_n dL_law_754 rfl rfl ?_
  refine mm_iconst dL_law_755 rfl ?_
  refine mm_iadd dL_law_756 rfl ?_
  refine mm_iark (k1 := 1) (k0 := 7 * j + 1) dL_law_757 rfl rfl (by decide) (by omega) (show 7 * j + 1 < X.1 by omega) (show X.1 ≤ 2147483647 by omega) ?_
  refine mm_callV (c := 183) (n := 243) (n' := 243) (as := [(0, X.2 (7 * j + 1))]) dL_law_758 rfl lk_L_85 rfl (by decide) rfl rfl rfl kL_le (by simp) (Nat.le_of_ble_eq_true rfl) (Nat.le_of_ble_eq_true rfl) (Nat.le_of_ble_eq_true rfl) (hc) ?_
  rintro _ M2 ⟨⟨w, rfl, -⟩, hR2⟩
  change mm_J _ _ _ _ _ _ _ _ _ _
  refine mm_pop dL_law_761 rfl (show (0 : Nat) ≠ 1 by decide) ?_
  exact mm_goto dL_law_762 (next M2 hR2)
theorem kL_c17 (hX : ∀ i, mm_R (X.2 i)) (hb : X.1 ≤ 3584) (h : kg1 (fun as => kkZ X Y_X11_keep Y_X13_keep as M)) (hj : 7 * j + 7 ≤ X.1) (next : ∀ M2, kR M2 → mm_J X (Y_L nm hs) 0 243 243 1621 [(2, -1), (2, 1), (2, 184), (0, ((7 * j : Nat) : Int))] [] M2 Φ) : mm_J X (Y_L nm hs) 0 243 243 765 [(2, -1), (2, 1), (2, 184), (0, ((7 * j : Nat) : Int))] [] M Φ := by
  refine mm_aload_n dL_law_765 rfl rfl ?_
  refine mm_aload_n dL_law_766 rfl rfl ?_
  refine mm_iload_n dL_law_767 rfl rfl ?_
  refine mm_iconst dL_law_768 rfl ?_
  refine mm_iadd dL_law_769 rfl ?_
  refine mm_iark (k1 := 1) (k0 := 7 * j + 1) dL_law_770 rfl rfl (by decide) (by omega) (show 7 * j + 1 < X.1 by omega) (show X.1 ≤ 2147483647 by omega) ?_
  refine mm_callV (c := 0) (n := 243) (n' := 243) (as := [(0, X.2 (7 * j + 1))]) dL_law_771 rfl lk_L_86 rfl (by decide) rfl rfl rfl kL_le (by simp) (Nat.le_of_ble_eq_true rfl) (Nat.le_of_ble_eq_true rfl) (Nat.le_of_ble_eq_true rfl) (h _ (hX _)) ?_
  rintro _ M1 ⟨v, rfl, hc⟩
  change mm_J _ _ _ _ _ _ _ _ _ _
  refine mm_pop dL_law_774 rfl (show (0 : Nat) ≠ 1 by decide) ?_
  refine mm_aload_n dL_law_775 rfl rfl ?_
  refine mm_aload_n dL_law_776 rfl rfl ?_
  refine mm_iload_n dL_law_777 rfl rfl ?_
  refine mm_iconst dL_law_778 rfl ?_
  refine mm_iadd dL_law_779 rfl ?_
  refine mm_iark (k1 := 1) (k0 := 7 * j + 1) dL_law_780 rfl rfl (by decide) (by omega) (show 7 * j + 1 < X.1 by omega) (show X.1 ≤ 2147483647 by omega) ?_
  refine mm_callV (c := 183) (n := 243) (n' := 243) (as := [(0, X.2 (7 * j + 1))]) dL_law_781 rfl lk_L_89 rfl (by decide) rfl rfl rfl kL_le (by simp) (Nat.le_of_ble_eq_true rfl) (Nat.le_of_ble_eq_true rfl) (Nat.le_of_ble_eq_true rfl) (hc) ?_
  rintro _ M2 ⟨⟨w, rfl, -⟩, hR2⟩
  change mm_J _ _ _ _ _ _ _ _ _ _
  refine mm_pop dL_law_784 rfl (show (0 : Nat) ≠ 1 by decide) ?_
  exact mm_goto dL_law_785 (next M2 hR2)
theorem kL_c18 (hX : ∀ i, mm_R (X.2 i)) (hb : X.1 ≤ 3584) (h : kgb (fun as => kkZ X Y_X11_fly Y_X13_fly as M)) (hj : 7 * j + 7 ≤ X.1) (next : ∀ M2, kR M2 → mm_J X (Y_L nm hs) 0 243 243 1621 [(2, -1), (2, 1), (2, 184), (0, ((7 * j : Nat) : Int))] [] M2 Φ) : mm_J X (Y_L nm hs) 0 243 243 788 [(2, -1), (2, 1), (2, 184), (0, ((7 * j : Nat) : Int))] [] M Φ := by
  refine mm_aload_n dL_law_788 rfl rfl ?_
  refine mm_aload_n dL_law_789 rfl rfl ?_
  refine mm_iload_n dL_law_790 rfl rfl ?_
  refine mm_iconst dL_law_791 rfl ?_
  refine mm_iadd dL_law_792 rfl ?_
  refine mm_iark (k1 := 1) (k0 := 7 * j + 1) dL_law_793 rfl rfl (by decide) (by omega) (show 7 * j + 1 < X.1 by omega) (show X.1 ≤ 2147483647 by omega) ?_
  refine mm_aload_n dL_law_794 rfl rfl ?_
  refine mm_iload_n dL_law_795 rfl rfl ?_
  refine mm_iconst dL_law_796 rfl ?_
  refine mm_iadd dL_law_797 rfl ?_
  refine mm_iark (k1 := 1) (k0 := 7 * j + 2) dL_law_798 rfl rfl (by decide) (by omega) (show 7 * j + 2 < X.1 by omega) (show X.1 ≤ 2147483647 by omega) ?_
  refine mm_aload_n dL_law_799 rfl rfl ?_
  refine mm_iload_n dL_law_800 rfl rfl ?_
  refine mm_iconst dL_law_801 rfl ?_
  refine mm_iadd dL_law_802 rfl ?_
  refine mm_iark (k1 := 1) (k0 := 7 * j + 3) dL_law_803 rfl rfl (by decide) (by omega) (show 7 * j + 3 < X.1 by omega) (show X.1 ≤ 2147483647 by omega) ?_
  refine mm_aload_n dL_law_804 rfl rfl ?_
  refine mm_iload_n dL_law_805 rfl rfl ?_
  refine mm_iconst dL_law_806 rfl ?_
  refine mm_iadd dL_law_807 rfl ?_
  refine mm_iark (k1 := 1) (k0 := 7 * j + 4) dL_law_808 rfl rfl (by decide) (by omega) (show 7 * j + 4 < X.1 by omega) (show X.1 ≤ 2147483647 by omega) ?_
  refine mm_aload_n dL_law_809 rfl rfl ?_
  refine mm_iload_n dL_law_810 rfl rfl ?_
  refine mm_iconst dL_law_811 rfl ?_
  refine mm_iadd dL_law_812 rfl ?_
  refine mm_iark (k1 := 1) (k0 := 7 * j + 5) dL_law_813 rfl rfl (by decide) (by omega) (show 7 * j + 5 < X.1 by omega) (show X.1 ≤ 2147483647 by omega) ?_
  refine mm_ifeq_z (q2 := 822) dL_law_814 (hX _) (fun k => mm_iconst dL_law_821 rfl k) (fun k => mm_iconst dL_law_817 rfl (mm_goto dL_law_818 k)) ?_
  refine mm_callV (c := 0) (n := 243) (n' := 243) (as := [(0, X.2 (7 * j + 1)), (0, X.2 (7 * j + 2)), (0, X.2 (7 * j + 3)), (0, X.2 (7 * j + 4)), (0, mm_b (X.2 (7 * j + 5) ≠ 0))]) dL_law_822 rfl lk_L_90 rfl (by decide) rfl rfl rfl kL_le (by simp) (Nat.le_of_ble_eq_true rfl) (Nat.le_of_ble_eq_true rfl) (Nat.le_of_ble_eq_true rfl) (h _ _ _ _ _ (hX _) (hX _) (hX _) (hX _)) ?_
  rintro _ M1 ⟨v, rfl, hc⟩
  change mm_J _ _ _ _ _ _ _ _ _ _
  refine mm_pop dL_law_825 rfl (show (0 : Nat) ≠ 1 by decide) ?_
  refine mm_aload_n dL_law_826 rfl rfl ?_
  refine mm_aload_n dL_law_827 rfl rfl ?_
  refine mm_iload_n dL_law_828 rfl rfl ?_
  refine mm_iconst dL_law_829 rfl ?_
  refine mm_iadd dL_law_830 rfl ?_
  refine mm_iark (k1 := 1) (k0 := 7 * j + 1) dL_law_831 rfl rfl (by decide) (by omega) (show 7 * j + 1 < X.1 by omega) (show X.1 ≤ 2147483647 by omega) ?_
  refine mm_aload_n dL_law_832 rfl rfl ?_
  refine mm_iload_n dL_law_833 rfl rfl ?_
  refine mm_iconst dL_law_834 rfl ?_
  refine mm_iadd dL_law_835 rfl ?_
  refine mm_iark (k1 := 1) (k0 := 7 * j + 2) dL_law_836 rfl rfl (by decide) (by omega) (show 7 * j + 2 < X.1 by omega) (show X.1 ≤ 2147483647 by omega) ?_
  refine mm_aload_n dL_law_837 rfl rfl ?_
  refine mm_iload_n dL_law_838 rfl rfl ?_
  refine mm_iconst dL_law_839 rfl ?_
  refine mm_iadd dL_law_840 rfl ?_
  refine mm_iark (k1 := 1) (k0 := 7 * j + 3) dL_law_841 rfl rfl (by decide) (by omega) (show 7 * j + 3 < X.1 by omega) (show X.1 ≤ 2147483647 by omega) ?_
  refine mm_aload_n dL_law_842 rfl rfl ?_
  refine mm_iload_n dL_law_843 rfl rfl ?_
  refine mm_iconst dL_law_844 rfl ?_
  refine mm_iadd dL_law_845 rfl ?_
  refine mm_iark (k1 := 1) (k0 := 7 * j + 4) dL_law_846 rfl rfl (by decide) (by omega) (show 7 * j + 4 < X.1 by omega) (show X.1 ≤ 2147483647 by omega) ?_
  refine mm_aload_n dL_law_847 rfl rfl ?_
  refine mm_iload_n dL_law_848 rfl rfl ?_
  refine mm_iconst dL_law_849 rfl ?_
  refine mm_iadd dL_law_850 rfl ?_
  refine mm_iark (k1 := 1) (k0 := 7 * j + 5) dL_law_851 rfl rfl (by decide) (by omega) (show 7 * j + 5 < X.1 by omega) (show X.1 ≤ 2147483647 by omega) ?_
  refine mm_ifeq_z (q2 := 860) dL_law_852 (hX _) (fun k => mm_iconst dL_law_859 rfl k) (fun k => mm_iconst dL_law_855 rfl (mm_goto dL_law_856 k)) ?_
  refine mm_callV (c := 183) (n := 243) (n' := 243) (as := [(0, X.2 (7 * j + 1)), (0, X.2 (7 * j + 2)), (0, X.2 (7 * j + 3)), (0, X.2 (7 * j + 4)), (0, mm_b (X.2 (7 * j + 5) ≠ 0))]) dL_law_860 rfl lk_L_94 rfl (by decide) rfl rfl rfl kL_le (by simp) (Nat.le_of_ble_eq_true rfl) (Nat.le_of_ble_eq_true rfl) (Nat.le_of_ble_eq_true rfl) (hc) ?_
  rintro _ M2 ⟨⟨w, rfl, -⟩, hR2⟩
  change mm_J _ _ _ _ _ _ _ _ _ _
  refine mm_pop dL_law_863 rfl (show (0 : Nat) ≠ 1 by decide) ?_
  exact mm_goto dL_law_864 (next M2 hR2)
theorem kL_c19 (hX : ∀ i, mm_R (X.2 i)) (hb : X.1 ≤ 3584) (h : kg1 (fun as => kkZ X Y_X11_flown Y_X13_flown as M)) (hj : 7 * j + 7 ≤ X.1) (next : ∀ M2, kR M2 → mm_J X (Y_L nm hs) 0 243 243 1621 [(2, -1), (2, 1), (2, 184), (0, ((7 * j : Nat) : Int))] [] M2 Φ) : mm_J X (Y_L nm hs) 0 243 243 867 [(2, -1), (2, 1), (2, 184), (0, ((7 * j : Nat) : Int))] [] M Φ := by
  refine mm_aload_n dL_law_867 rfl rfl ?_
  refine mm_aload_n dL_law_868 rfl rfl ?_
  refine mm_iload_n dL_law_869 rfl rfl ?_
  refine mm_iconst dL_law_870 rfl ?_
  refine mm_iadd dL_law_871 rfl ?_
  refine mm_iark (k1 := 1) (k0 := 7 * j + 1) dL_law_872 rfl rfl (by decide) (by omega) (show 7 * j + 1 < X.1 by omega) (show X.1 ≤ 2147483647 by omega) ?_
  refine mm_callV (c := 0) (n := 243) (n' := 243) (as := [(0, X.2 (7 * j + 1))]) dL_law_873 rfl lk_L_95 rfl (by decide) rfl rfl rfl kL_le (by simp) (Nat.le_of_ble_eq_true rfl) (Nat.le_of_ble_eq_true rfl) (Nat.le_of_ble_eq_true rfl) (h _ (hX _)) ?_
  rintro _ M1 ⟨v, rfl, hc⟩
  change mm_J _ _ _ _ _ _ _ _ _ _
  refine mm_pop dL_law_876 rfl (show (0 : Nat) ≠ 1 by decide) ?_
  refine mm_aload_n dL_law_877 rfl rfl ?_
  refine mm_aload_n dL_law_878 rfl rfl ?_
  refine mm_iload_n dL_law_879 rfl rfl ?_
  refine mm_iconst dL_law_880 rfl ?_
  refine mm_iadd dL_law_881 rfl ?_
  refine mm_iark (k1 := 1) (k0 := 7 * j + 1) dL_law_882 rfl rfl (by decide) (by omega) (show 7 * j + 1 < X.1 by omega) (show X.1 ≤ 2147483647 by omega) ?_
  refine mm_callV (c := 183) (n := 243) (n' := 243) (as := [(0, X.2 (7 * j + 1))]) dL_law_883 rfl lk_L_98 rfl (by decide) rfl rfl rfl kL_le (by simp) (Nat.le_of_ble_eq_true rfl) (Nat.le_of_ble_eq_true rfl) (Nat.le_of_ble_eq_true rfl) (hc) ?_
  rintro _ M2 ⟨⟨w, rfl, -⟩, hR2⟩
  change mm_J _ _ _ _ _ _ _ _ _ _
  refine mm_pop dL_law_886 rfl (show (0 : Nat) ≠ 1 by decide) ?_
  exact mm_goto dL_law_887 (next M2 hR2)
theorem kL_c20 (hX : ∀ i, mm_R (X.2 i)) (hb : X.1 ≤ 3584) (h : kg1 (fun as => kkZ X Y_X11_held Y_X13_held as M)) (hj : 7 * j + 7 ≤ X.1) (next : ∀ M2, kR M2 → mm_J X (Y_L nm hs) 0 243 243 1621 [(2, -1), (2, 1), (2, 184), (0, ((7 * j : Nat) : Int))] [] M2 Φ) : mm_J X (Y_L nm hs) 0 243 243 890 [(2, -1), (2, 1), (2, 184), (0, ((7 * j : Nat) : Int))] [] M Φ := by
  refine mm_aload_n dL_law_890 rfl rfl ?_
  refine mm_aload_n dL_law_891 rfl rfl ?_
  refine mm_iload_n dL_law_892 rfl rfl ?_
  refine mm_iconst dL_law_893 rfl ?_
  refine mm_iadd dL_law_894 rfl ?_
  refine mm_iark (k1 := 1) (k0 := 7 * j + 1) dL_law_895 rfl rfl (by decide) (by omega) (show 7 * j + 1 < X.1 by omega) (show X.1 ≤ 2147483647 by omega) ?_
  refine mm_callV (c := 0) (n := 243) (n' := 243) (as := [(0, X.2 (7 * j + 1))]) dL_law_896 rfl lk_L_99 rfl (by decide) rfl rfl rfl kL_le (by simp) (Nat.le_of_ble_eq_true rfl) (Nat.le_of_ble_eq_true rfl) (Nat.le_of_ble_eq_true rfl) (h _ (hX _)) ?_
  rintro _ M1 ⟨v, rfl, hc⟩
  change mm_J _ _ _ _ _ _ _ _ _ _
  refine mm_pop dL_law_899 rfl (show (0 : Nat) ≠ 1 by decide) ?_
  refine mm_aload_n dL_law_900 rfl rfl ?_
  refine mm_aload_n dL_law_901 rfl rfl ?_
  refine mm_iload_n dL_law_902 rfl rfl ?_
  refine mm_iconst dL_law_903 rfl ?_
  refine mm_iadd dL_law_904 rfl ?_
  refine mm_iark (k1 := 1) (k0 := 7 * j + 1) dL_law_905 rfl rfl (by decide) (by omega) (show 7 * j + 1 < X.1 by omega) (show X.1 ≤ 2147483647 by omega) ?_
  refine mm_callV (c := 183) (n := 243) (n' := 243) (as := [(0, X.2 (7 * j + 1))]) dL_law_906 rfl lk_L_102 rfl (by decide) rfl rfl rfl kL_le (by simp) (Nat.le_of_ble_eq_true rfl) (Nat.le_of_ble_eq_true rfl) (Nat.le_of_ble_eq_true rfl) (hc) ?_
  rintro _ M2 ⟨⟨w, rfl, -⟩, hR2⟩
  change mm_J _ _ _ _ _ _ _ _ _ _
  refine mm_pop dL_law_909 rfl (show (0 : Nat) ≠ 1 by decide) ?_
  exact mm_goto dL_law_910 (next M2 hR2)
theorem kL_c21 (hX : ∀ i, mm_R (X.2 i)) (hb : X.1 ≤ 3584) (h : kg1 (fun as => kkZ X Y_X11_tired Y_X13_tired as M)) (hj : 7 * j + 7 ≤ X.1) (next : ∀ M2, kR M2 → mm_J X (Y_L nm hs) 0 243 243 1621 [(2, -1), (2, 1), (2, 184), (0, ((7 * j : Nat) : Int))] [] M2 Φ) : mm_J X (Y_L nm hs) 0 243 243 913 [(2, -1), (2, 1), (2, 184), (0, ((7 * j : Nat) : Int))] [] M Φ := by
  refine mm_aload_n dL_law_913 rfl rfl ?_
  refine mm_aload_n dL_law_914 rfl rfl ?_
  refine mm_iload_n dL_law_915 rfl rfl ?_
  refine mm_iconst dL_law_916 rfl ?_
  refine mm_iadd dL_law_917 rfl ?_
  refine mm_iark (k1 := 1) (k0 := 7 * j + 1) dL_law_918 rfl rfl (by decide) (by omega) (show 7 * j + 1 < X.1 by omega) (show X.1 ≤ 2147483647 by omega) ?_
  refine mm_callV (c := 0) (n := 243) (n' := 243) (as := [(0, X.2 (7 * j + 1))]) dL_law_919 rfl lk_L_103 rfl (by decide) rfl rfl rfl kL_le (by simp) (Nat.le_of_ble_eq_true rfl) (Nat.le_of_ble_eq_true rfl) (Nat.le_of_ble_eq_true rfl) (h _ (hX _)) ?_
  rintro _ M1 ⟨v, rfl, hc⟩
  change mm_J _ _ _ _ _ _ _ _ _ _
  refine mm_pop dL_law_922 rfl (show (0 : Nat) ≠ 1 by decide) ?_
  refine mm_aload_n dL_law_923 rfl rfl ?_
  refine mm_aload_n dL_law_924 rfl rfl ?_
  refine mm_iload_n dL_law_925 rfl rfl ?_
  refine mm_iconst dL_law_926 rfl ?_
  refine mm_iadd dL_law_927 rfl ?_
  refine mm_iark (k1 := 1) (k0 := 7 * j + 1) dL_law_928 rfl rfl (by decide) (by omega) (show 7 * j + 1 < X.1 by omega) (show X.1 ≤ 2147483647 by omega) ?_
  refine mm_callV (c := 183) (n := 243) (n' := 243) (as := [(0, X.2 (7 * j + 1))]) dL_law_929 rfl lk_L_106 rfl (by decide) rfl rfl rfl kL_le (by simp) (Nat.le_of_ble_eq_true rfl) (Nat.le_of_ble_eq_true rfl) (Nat.le_of_ble_eq_true rfl) (hc) ?_
  rintro _ M2 ⟨⟨w, rfl, -⟩, hR2⟩
  change mm_J _ _ _ _ _ _ _ _ _ _
  refine mm_pop dL_law_932 rfl (show (0 : Nat) ≠ 1 by decide) ?_
  exact mm_goto dL_law_933 (next M2 hR2)
theorem kL_c22 (hX : ∀ i, mm_R (X.2 i)) (hb : X.1 ≤ 3584) (h : kg3 (fun as => kkZ X Y_X11_rounds Y_X13_rounds as M)) (hj : 7 * j + 7 ≤ X.1) (next : ∀ M2, kR M2 → mm_J X (Y_L nm hs) 0 243 243 1621 [(2, -1), (2, 1), (2, 184), (0, ((7 * j : Nat) : Int))] [] M2 Φ) : mm_J X (Y_L nm hs) 0 243 243 936 [(2, -1), (2, 1), (2, 184), (0, ((7 * j : Nat) : Int))] [] M Φ := by
  refine mm_aload_n dL_law_936 rfl rfl ?_
  refine mm_aload_n dL_law_937 rfl rfl ?_
  refine mm_iload_n dL_law_938 rfl rfl ?_
  refine mm_iconst dL_law_939 rfl ?_
  refine mm_iadd dL_law_940 rfl ?_
  refine mm_iark (k1 := 1) (k0 := 7 * j + 1) dL_law_941 rfl rfl (by decide) (by omega) (show 7 * j + 1 < X.1 by omega) (show X.1 ≤ 2147483647 by omega) ?_
  refine mm_aload_n dL_law_942 rfl rfl ?_
  refine mm_iload_n dL_law_943 rfl rfl ?_
  refine mm_iconst dL_law_944 rfl ?_
  refine mm_iadd dL_law_945 rfl ?_
  refine mm_iark (k1 := 1) (k0 := 7 * j + 2) dL_law_946 rfl rfl (by decide) (by omega) (show 7 * j + 2 < X.1 by omega) (show X.1 ≤ 2147483647 by omega) ?_
  refine mm_aload_n dL_law_947 rfl rfl ?_
  refine mm_iload_n dL_law_948 rfl rfl ?_
  refine mm_iconst dL_law_949 rfl ?_
  refine mm_iadd dL_law_950 rfl ?_
  refine mm_iark (k1 := 1) (k0 := 7 * j + 3) dL_law_951 rfl rfl (by decide) (by omega) (show 7 * j + 3 < X.1 by omega) (show X.1 ≤ 2147483647 by omega) ?_
  refine mm_callV (c := 0) (n := 243) (n' := 243) (as := [(0, X.2 (7 * j + 1)), (0, X.2 (7 * j + 2)), (0, X.2 (7 * j + 3))]) dL_law_952 rfl lk_L_107 rfl (by decide) rfl rfl rfl kL_le (by simp) (Nat.le_of_ble_eq_true rfl) (Nat.le_of_ble_eq_true rfl) (Nat.le_of_ble_eq_true rfl) (h _ _ _ (hX _) (hX _) (hX _)) ?_
  rintro _ M1 ⟨v, rfl, hc⟩
  change mm_J _ _ _ _ _ _ _ _ _ _
  refine mm_pop dL_law_955 rfl (show (0 : Nat) ≠ 1 by decide) ?_
  refine mm_aload_n dL_law_956 rfl rfl ?_
  refine mm_aload_n dL_law_957 rfl rfl ?_
  refine mm_iload_n dL_law_958 rfl rfl ?_
  refine mm_iconst dL_law_959 rfl ?_
  refine mm_iadd dL_law_960 rfl ?_
  refine mm_iark (k1 := 1) (k0 := 7 * j + 1) dL_law_961 rfl rfl (by decide) (by omega) (show 7 * j + 1 < X.1 by omega) (show X.1 ≤ 2147483647 by omega) ?_
  refine mm_aload_n dL_law_962 rfl rfl ?_
  refine mm_iload_n dL_law_963 rfl rfl ?_
  refine mm_iconst dL_law_964 rfl ?_
  refine mm_iadd dL_law_965 rfl ?_
  refine mm_iark (k1 := 1) (k0 := 7 * j + 2) dL_law_966 rfl rfl (by decide) (by omega) (show 7 * j + 2 < X.1 by omega) (show X.1 ≤ 2147483647 by omega) ?_
  refine mm_aload_n dL_law_967 rfl rfl ?_
  refine mm_iload_n dL_law_968 rfl rfl ?_
  refine mm_iconst dL_law_969 rfl ?_
  refine mm_iadd dL_law_970 rfl ?_
  refine mm_iark (k1 := 1) (k0 := 7 * j + 3) dL_law_971 rfl rfl (by decide) (by omega) (show 7 * j + 3 < X.1 by omega) (show X.1 ≤ 2147483647 by omega) ?_
  refine mm_callV (c := 183) (n := 243) (n' := 243) (as := [(0, X.2 (7 * j + 1)), (0, X.2 (7 * j + 2)), (0, X.2 (7 * j + 3))]) dL_law_972 rfl lk_L_110 rfl (by decide) rfl rfl rfl kL_le (by simp) (Nat.le_of_ble_eq_true rfl) (Nat.le_of_ble_eq_true rfl) (Nat.le_of_ble_eq_true rfl) (hc) ?_
  rintro _ M2 ⟨⟨w, rfl, -⟩, hR2⟩
  change mm_J _ _ _ _ _ _ _ _ _ _
  refine mm_pop dL_law_975 rfl (show (0 : Nat) ≠ 1 by decide) ?_
  exact mm_goto dL_law_976 (next M2 hR2)
theorem kL_c23 (hX : ∀ i, mm_R (X.2 i)) (hb : X.1 ≤ 3584) (h : kg6 (fun as => kkZ X Y_X11_plan Y_X13_plan as M)) (hj : 7 * j + 7 ≤ X.1) (next : ∀ M2, kR M2 → mm_J X (Y_L nm hs) 0 243 243 1621 [(2, -1), (2, 1), (2, 184), (0, ((7 * j : Nat) : Int))] [] M2 Φ) : mm_J X (Y_L nm hs) 0 243 243 979 [(2, -1), (2, 1), (2, 184), (0, ((7 * j : Nat) : Int))] [] M Φ := by
  refine mm_aload_n dL_law_979 rfl rfl ?_
  refine mm_aload_n dL_law_980 rfl rfl ?_
  refine mm_iload_n dL_law_981 rfl rfl ?_
  refine mm_iconst dL_law_982 rfl ?_
  refine mm_iadd dL_law_983 rfl ?_
  refine mm_iark (k1 := 1) (k0 := 7 * j + 1) dL_law_984 rfl rfl (by decide) (by omega) (show 7 * j + 1 < X.1 by omega) (show X.1 ≤ 2147483647 by omega) ?_
  refine mm_aload_n dL_law_985 rfl rfl ?_
  refine mm_iload_n dL_law_986 rfl rfl ?_
  refine mm_iconst dL_law_987 rfl ?_
  refine mm_iadd dL_law_988 rfl ?_
  refine mm_iark (k1 := 1) (k0 := 7 * j + 2) dL_law_989 rfl rfl (by decide) (by omega) (show 7 * j + 2 < X.1 by omega) (show X.1 ≤ 2147483647 by omega) ?_
  refine mm_aload_n dL_law_990 rfl rfl ?_
  refine mm_iload_n dL_law_991 rfl rfl ?_
  refine mm_iconst dL_law_992 rfl ?_
  refine mm_iadd dL_law_993 rfl ?_
  refine mm_iark (k1 := 1) (k0 := 7 * j + 3) dL_law_994 rfl rfl (by decide) (by omega) (show 7 * j + 3 < X.1 by omega) (show X.1 ≤ 2147483647 by omega) ?_
  refine mm_aload_n dL_law_995 rfl rfl ?_
  refine mm_iload_n dL_law_996 rfl rfl ?_
  refine mm_iconst dL_law_997 rfl ?_
  refine mm_iadd dL_law_998 rfl ?_
  refine mm_iark (k1 := 1) (k0 := 7 * j + 4) dL_law_999 rfl rfl (by decide) (by omega) (show 7 * j + 4 < X.1 by omega) (show X.1 ≤ 2147483647 by omega) ?_
  refine mm_aload_n dL_law_1000 rfl rfl ?_
  refine mm_iload_n dL_law_1001 rfl rfl ?_
  refine mm_iconst dL_law_1002 rfl ?_
  refine mm_iadd dL_law_1003 rfl ?_
  refine mm_iark (k1 := 1) (k0 := 7 * j + 5) dL_law_1004 rfl rfl (by decide) (by omega) (show 7 * j + 5 < X.1 by omega) (show X.1 ≤ 2147483647 by omega) ?_
  refine mm_aload_n dL_law_1005 rfl rfl ?_
  refine mm_iload_n dL_law_1006 rfl rfl ?_
  refine mm_bipush dL_law_1007 rfl (by decide) ?_
  refine mm_iadd dL_law_1009 rfl ?_
  refine mm_iark (k1 := 1) (k0 := 7 * j + 6) dL_law_1010 rfl rfl (by decide) (by omega) (show 7 * j + 6 < X.1 by omega) (show X.1 ≤ 2147483647 by omega) ?_
  refine mm_callV (c := 0) (n := 243) (n' := 243) (as := [(0, X.2 (7 * j + 1)), (0, X.2 (7 * j + 2)), (0, X.2 (7 * j + 3)), (0, X.2 (7 * j + 4)), (0, X.2 (7 * j + 5)), (0, X.2 (7 * j + 6))]) dL_law_1011 rfl lk_L_111 rfl (by decide) rfl rfl rfl kL_le (by simp) (Nat.le_of_ble_eq_true rfl) (Nat.le_of_ble_eq_true rfl) (Nat.le_of_ble_eq_true rfl) (h _ _ _ _ _ _ (hX _) (hX _) (hX _) (hX _) (hX _) (hX _)) ?_
  rintro _ M1 ⟨v, rfl, hc⟩
  change mm_J _ _ _ _ _ _ _ _ _ _
  refine mm_pop dL_law_1014 rfl (show (0 : Nat) ≠ 1 by decide) ?_
  refine mm_aload_n dL_law_1015 rfl rfl ?_
  refine mm_aload_n dL_law_1016 rfl rfl ?_
  refine mm_iload_n dL_law_1017 rfl rfl ?_
  refine mm_iconst dL_law_1018 rfl ?_
  refine mm_iadd dL_law_1019 rfl ?_
  refine mm_iark (k1 := 1) (k0 := 7 * j + 1) dL_law_1020 rfl rfl (by decide) (by omega) (show 7 * j + 1 < X.1 by omega) (show X.1 ≤ 2147483647 by omega) ?_
  refine mm_aload_n dL_law_1021 rfl rfl ?_
  refine mm_iload_n dL_law_1022 rfl rfl ?_
  refine mm_iconst dL_law_1023 rfl ?_
  refine mm_iadd dL_law_1024 rfl ?_
  refine mm_iark (k1 := 1) (k0 := 7 * j + 2) dL_law_1025 rfl rfl (by decide) (by omega) (show 7 * j + 2 < X.1 by omega) (show X.1 ≤ 2147483647 by omega) ?_
  refine mm_aload_n dL_law_1026 rfl rfl ?_
  refine mm_iload_n dL_law_1027 rfl rfl ?_
  refine mm_iconst dL_law_1028 rfl ?_
  refine mm_iadd dL_law_1029 rfl ?_
  refine mm_iark (k1 := 1) (k0 := 7 * j + 3) dL_law_1030 rfl rfl (by decide) (by omega) (show 7 * j + 3 < X.1 by omega) (show X.1 ≤ 2147483647 by omega) ?_
  refine mm_aload_n dL_law_1031 rfl rfl ?_
  refine mm_iload_n dL_law_1032 rfl rfl ?_
  refine mm_iconst dL_law_1033 rfl ?_
  refine mm_iadd dL_law_1034 rfl ?_
  refine mm_iark (k1 := 1) (k0 := 7 * j + 4) dL_law_1035 rfl rfl (by decide) (by omega) (show 7 * j + 4 < X.1 by omega) (show X.1 ≤ 2147483647 by omega) ?_
  refine mm_aload_n dL_law_1036 rfl rfl ?_
  refine mm_iload_n dL_law_1037 rfl rfl ?_
  refine mm_iconst dL_law_1038 rfl ?_
  refine mm_iadd dL_law_1039 rfl ?_
  refine mm_iark (k1 := 1) (k0 := 7 * j + 5) dL_law_1040 rfl rfl (by decide) (by omega) (show 7 * j + 5 < X.1 by omega) (show X.1 ≤ 2147483647 by omega) ?_
  refine mm_aload_n dL_law_1041 rfl rfl ?_
  refine mm_iload_n dL_law_1042 rfl rfl ?_
  refine mm_bipush dL_law_1043 rfl (by decide) ?_
  refine mm_iadd dL_law_1045 rfl ?_
  refine mm_iark (k1 := 1) (k0 := 7 * j + 6) dL_law_1046 rfl rfl (by decide) (by omega) (show 7 * j + 6 < X.1 by omega) (show X.1 ≤ 2147483647 by omega) ?_
  refine mm_callV (c := 183) (n := 243) (n' := 243) (as := [(0, X.2 (7 * j + 1)), (0, X.2 (7 * j + 2)), (0, X.2 (7 * j + 3)), (0, X.2 (7 * j + 4)), (0, X.2 (7 * j + 5)), (0, X.2 (7 * j + 6))]) dL_law_1047 rfl lk_L_115 rfl (by decide) rfl rfl rfl kL_le (by simp) (Nat.le_of_ble_eq_true rfl) (Nat.le_of_ble_eq_true rfl) (Nat.le_of_ble_eq_true rfl) (hc) ?_
  rintro _ M2 ⟨⟨w, rfl, -⟩, hR2⟩
  change mm_J _ _ _ _ _ _ _ _ _ _
  refine mm_pop dL_law_1050 rfl (show (0 : Nat) ≠ 1 by decide) ?_
  exact mm_goto dL_law_1051 (next M2 hR2)
theorem kL_c24 (hX : ∀ i, mm_R (X.2 i)) (hb : X.1 ≤ 3584) (h : kg1 (fun as => kkZ X Y_X11_planned Y_X13_planned as M)) (hj : 7 * j + 7 ≤ X.1) (next : ∀ M2, kR M2 → mm_J X (Y_L nm hs) 0 243 243 1621 [(2, -1), (2, 1), (2, 184), (0, ((7 * j : Nat) : Int))] [] M2 Φ) : mm_J X (Y_L nm hs) 0 243 243 1054 [(2, -1), (2, 1), (2, 184), (0, ((7 * j : Nat) : Int))] [] M Φ := by
  refine mm_aload_n dL_law_1054 rfl rfl ?_
  refine mm_aload_n dL_law_1055 rfl rfl ?_
  refine mm_iload_n dL_law_1056 rfl rfl ?_
  refine mm_iconst dL_law_1057 rfl ?_
  refine mm_iadd dL_law_1058 rfl ?_
  refine mm_iark (k1 := 1) (k0 := 7 * j + 1) dL_law_1059 rfl rfl (by decide) (by omega) (show 7 * j + 1 < X.1 by omega) (show X.1 ≤ 2147483647 by omega) ?_
  refine mm_callV (c := 0) (n := 243) (n' := 243) (as := [(0, X.2 (7 * j + 1))]) dL_law_1060 rfl lk_L_116 rfl (by decide) rfl rfl rfl kL_le (by simp) (Nat.le_of_ble_eq_true rfl) (Nat.le_of_ble_eq_true rfl) (Nat.le_of_ble_eq_true rfl) (h _ (hX _)) ?_
  rintro _ M1 ⟨v, rfl, hc⟩
  change mm_J _ _ _ _ _ _ _ _ _ _
  refine mm_pop dL_law_1063 rfl (show (0 : Nat) ≠ 1 by decide) ?_
  refine mm_aload_n dL_law_1064 rfl rfl ?_
  refine mm_aload_n dL_law_1065 rfl rfl ?_
  refine mm_iload_n dL_law_1066 rfl rfl ?_
  refine mm_iconst dL_law_1067 rfl ?_
  refine mm_iadd dL_law_1068 rfl ?_
  refine mm_iark (k1 := 1) (k0 := 7 * j + 1) dL_law_1069 rfl rfl (by decide) (by omega) (show 7 * j + 1 < X.1 by omega) (show X.1 ≤ 2147483647 by omega) ?_
  refine mm_callV (c := 183) (n := 243) (n' := 243) (as := [(0, X.2 (7 * j + 1))]) dL_law_1070 rfl lk_L_119 rfl (by decide) rfl rfl rfl kL_le (by simp) (Nat.le_of_ble_eq_true rfl) (Nat.le_of_ble_eq_true rfl) (Nat.le_of_ble_eq_true rfl) (hc) ?_
  rintro _ M2 ⟨⟨w, rfl, -⟩, hR2⟩
  change mm_J _ _ _ _ _ _ _ _ _ _
  refine mm_pop dL_law_1073 rfl (show (0 : Nat) ≠ 1 by decide) ?_
  exact mm_goto dL_law_1074 (next M2 hR2)
theorem kL_c25 (hX : ∀ i, mm_R (X.2 i)) (hb : X.1 ≤ 3584) (h : kg5 (fun as => kkZ X Y_X11_apart Y_X13_apart as M)) (hj : 7 * j + 7 ≤ X.1) (next : ∀ M2, kR M2 → mm_J X (Y_L nm hs) 0 243 243 1621 [(2, -1), (2, 1), (2, 184), (0, ((7 * j : Nat) : Int))] [] M2 Φ) : mm_J X (Y_L nm hs) 0 243 243 1077 [(2, -1), (2, 1), (2, 184), (0, ((7 * j : Nat) : Int))] [] M Φ := by
  refine mm_aload_n dL_law_1077 rfl rfl ?_
  refine mm_aload_n dL_law_1078 rfl rfl ?_
  refine mm_iload_n dL_law_1079 rfl rfl ?_
  refine mm_iconst dL_law_1080 rfl ?_
  refine mm_iadd dL_law_1081 rfl ?_
  refine mm_iark (k1 := 1) (k0 := 7 * j + 1) dL_law_1082 rfl rfl (by decide) (by omega) (show 7 * j + 1 < X.1 by omega) (show X.1 ≤ 2147483647 by omega) ?_
  refine mm_aload_n dL_law_1083 rfl rfl ?_
  refine mm_iload_n dL_law_1084 rfl rfl ?_
  refine mm_iconst dL_law_1085 rfl ?_
  refine mm_iadd dL_law_1086 rfl ?_
  refine mm_iark (k1 := 1) (k0 := 7 * j + 2) dL_law_1087 rfl rfl (by decide) (by omega) (show 7 * j + 2 < X.1 by omega) (show X.1 ≤ 2147483647 by omega) ?_
  refine mm_aload_n dL_law_1088 rfl rfl ?_
  refine mm_iload_n dL_law_1089 rfl rfl ?_
  refine mm_iconst dL_law_1090 rfl ?_
  refine mm_iadd dL_law_1091 rfl ?_
  refine mm_iark (k1 := 1) (k0 := 7 * j + 3) dL_law_1092 rfl rfl (by decide) (by omega) (show 7 * j + 3 < X.1 by omega) (show X.1 ≤ 2147483647 by omega) ?_
  refine mm_aload_n dL_law_1093 rfl rfl ?_
  refine mm_iload_n dL_law_1094 rfl rfl ?_
  refine mm_iconst dL_law_1095 rfl ?_
  refine mm_iadd dL_law_1096 rfl ?_
  refine mm_iark (k1 := 1) (k0 := 7 * j + 4) dL_law_1097 rfl rfl (by decide) (by omega) (show 7 * j + 4 < X.1 by omega) (show X.1 ≤ 2147483647 by omega) ?_
  refine mm_aload_n dL_law_1098 rfl rfl ?_
  refine mm_iload_n dL_law_1099 rfl rfl ?_
  refine mm_iconst dL_law_1100 rfl ?_
  refine mm_iadd dL_law_1101 rfl ?_
  refine mm_iark (k1 := 1) (k0 := 7 * j + 5) dL_law_1102 rfl rfl (by decide) (by omega) (show 7 * j + 5 < X.1 by omega) (show X.1 ≤ 2147483647 by omega) ?_
  refine mm_callV (c := 0) (n := 243) (n' := 243) (as := [(0, X.2 (7 * j + 1)), (0, X.2 (7 * j + 2)), (0, X.2 (7 * j + 3)), (0, X.2 (7 * j + 4)), (0, X.2 (7 * j + 5))]) dL_law_1103 rfl lk_L_120 rfl (by decide) rfl rfl rfl kL_le (by simp) (Nat.le_of_ble_eq_true rfl) (Nat.le_of_ble_eq_true rfl) (Nat.le_of_ble_eq_true rfl) (h _ _ _ _ _ (hX _) (hX _) (hX _) (hX _) (hX _)) ?_
  rintro _ M1 ⟨v, rfl, hc⟩
  change mm_J _ _ _ _ _ _ _ _ _ _
  refine mm_pop dL_law_1106 rfl (show (0 : Nat) ≠ 1 by decide) ?_
  refine mm_aload_n dL_law_1107 rfl rfl ?_
  refine mm_aload_n dL_law_1108 rfl rfl ?_
  refine mm_iload_n dL_law_1109 rfl rfl ?_
  refine mm_iconst dL_law_1110 rfl ?_
  refine mm_iadd dL_law_1111 rfl ?_
  refine mm_iark (k1 := 1) (k0 := 7 * j + 1) dL_law_1112 rfl rfl (by decide) (by omega) (show 7 * j + 1 < X.1 by omega) (show X.1 ≤ 2147483647 by omega) ?_
  refine mm_aload_n dL_law_1113 rfl rfl ?_
  refine mm_iload_n dL_law_1114 rfl rfl ?_
  refine mm_iconst dL_law_1115 rfl ?_
  refine mm_iadd dL_law_1116 rfl ?_
  refine mm_iark (k1 := 1) (k0 := 7 * j + 2) dL_law_1117 rfl rfl (by decide) (by omega) (show 7 * j + 2 < X.1 by omega) (show X.1 ≤ 2147483647 by omega) ?_
  refine mm_aload_n dL_law_1118 rfl rfl ?_
  refine mm_iload_n dL_law_1119 rfl rfl ?_
  refine mm_iconst dL_law_1120 rfl ?_
  refine mm_iadd dL_law_1121 rfl ?_
  refine mm_iark (k1 := 1) (k0 := 7 * j + 3) dL_law_1122 rfl rfl (by decide) (by omega) (show 7 * j + 3 < X.1 by omega) (show X.1 ≤ 2147483647 by omega) ?_
  refine mm_aload_n dL_law_1123 rfl rfl ?_
  refine mm_iload_n dL_law_1124 rfl rfl ?_
  refine mm_iconst dL_law_1125 rfl ?_
  refine mm_iadd dL_law_1126 rfl ?_
  refine mm_iark (k1 := 1) (k0 := 7 * j + 4) dL_law_1127 rfl rfl (by decide) (by omega) (show 7 * j + 4 < X.1 by omega) (show X.1 ≤ 2147483647 by omega) ?_
  refine mm_aload_n dL_law_1128 rfl rfl ?_
  refine mm_iload_n dL_law_1129 rfl rfl ?_
  refine mm_iconst dL_law_1130 rfl ?_
  refine mm_iadd dL_law_1131 rfl ?_
  refine mm_iark (k1 := 1) (k0 := 7 * j + 5) dL_law_1132 rfl rfl (by decide) (by omega) (show 7 * j + 5 < X.1 by omega) (show X.1 ≤ 2147483647 by omega) ?_
  refine mm_callV (c := 183) (n := 243) (n' := 243) (as := [(0, X.2 (7 * j + 1)), (0, X.2 (7 * j + 2)), (0, X.2 (7 * j + 3)), (0, X.2 (7 * j + 4)), (0, X.2 (7 * j + 5))]) dL_law_1133 rfl lk_L_123 rfl (by decide) rfl rfl rfl kL_le (by simp) (Nat.le_of_ble_eq_true rfl) (Nat.le_of_ble_eq_true rfl) (Nat.le_of_ble_eq_true rfl) (hc) ?_
  rintro _ M2 ⟨⟨w, rfl, -⟩, hR2⟩
  change mm_J _ _ _ _ _ _ _ _ _ _
  refine mm_pop dL_law_1136 rfl (show (0 : Nat) ≠ 1 by decide) ?_
  exact mm_goto dL_law_1137 (next M2 hR2)
theorem kL_c26 (hX : ∀ i, mm_R (X.2 i)) (hb : X.1 ≤ 3584) (h : kg4 (fun as => kkZ X Y_X11_shift Y_X13_shift as M)) (hj : 7 * j + 7 ≤ X.1) (next : ∀ M2, kR M2 → mm_J X (Y_L nm hs) 0 243 243 1621 [(2, -1), (2, 1), (2, 184), (0, ((7 * j : Nat) : Int))] [] M2 Φ) : mm_J X (Y_L nm hs) 0 243 243 1140 [(2, -1), (2, 1), (2, 184), (0, ((7 * j : Nat) : Int))] [] M Φ := by
  refine mm_aload_n dL_law_1140 rfl rfl ?_
  refine mm_aload_n dL_law_1141 rfl rfl ?_
  refine mm_iload_n dL_law_1142 rfl rfl ?_
  refine mm_iconst dL_law_1143 rfl ?_
  refine mm_iadd dL_law_1144 rfl ?_
  refine mm_iark (k1 := 1) (k0 := 7 * j + 1) dL_law_1145 rfl rfl (by decide) (by omega) (show 7 * j + 1 < X.1 by omega) (show X.1 ≤ 2147483647 by omega) ?_
  refine mm_aload_n dL_law_1146 rfl rfl ?_
  refine mm_iload_n dL_law_1147 rfl rfl ?_
  refine mm_iconst dL_law_1148 rfl ?_
  refine mm_iadd dL_law_1149 rfl ?_
  refine mm_iark (k1 := 1) (k0 := 7 * j + 2) dL_law_1150 rfl rfl (by decide) (by omega) (show 7 * j + 2 < X.1 by omega) (show X.1 ≤ 2147483647 by omega) ?_
  refine mm_aload_n dL_law_1151 rfl rfl ?_
  refine mm_iload_n dL_law_1152 rfl rfl ?_
  refine mm_iconst dL_law_1153 rfl ?_
  refine mm_iadd dL_law_1154 rfl ?_
  refine mm_iark (k1 := 1) (k0 := 7 * j + 3) dL_law_1155 rfl rfl (by decide) (by omega) (show 7 * j + 3 < X.1 by omega) (show X.1 ≤ 2147483647 by omega) ?_
  refine mm_aload_n dL_law_1156 rfl rfl ?_
  refine mm_iload_n dL_law_1157 rfl rfl ?_
  refine mm_iconst dL_law_1158 rfl ?_
  refine mm_iadd dL_law_1159 rfl ?_
  refine mm_iark (k1 := 1) (k0 := 7 * j + 4) dL_law_1160 rfl rfl (by decide) (by omega) (show 7 * j + 4 < X.1 by omega) (show X.1 ≤ 2147483647 by omega) ?_
  refine mm_callV (c := 0) (n := 243) (n' := 243) (as := [(0, X.2 (7 * j + 1)), (0, X.2 (7 * j + 2)), (0, X.2 (7 * j + 3)), (0, X.2 (7 * j + 4))]) dL_law_1161 rfl lk_L_124 rfl (by decide) rfl rfl rfl kL_le (by simp) (Nat.le_of_ble_eq_true rfl) (Nat.le_of_ble_eq_true rfl) (Nat.le_of_ble_eq_true rfl) (h _ _ _ _ (hX _) (hX _) (hX _) (hX _)) ?_
  rintro _ M1 ⟨v, rfl, hc⟩
  change mm_J _ _ _ _ _ _ _ _ _ _
  refine mm_pop dL_law_1164 rfl (show (0 : Nat) ≠ 1 by decide) ?_
  refine mm_aload_n dL_law_1165 rfl rfl ?_
  refine mm_aload_n dL_law_1166 rfl rfl ?_
  refine mm_iload_n dL_law_1167 rfl rfl ?_
  refine mm_iconst dL_law_1168 rfl ?_
  refine mm_iadd dL_law_1169 rfl ?_
  refine mm_iark (k1 := 1) (k0 := 7 * j + 1) dL_law_1170 rfl rfl (by decide) (by omega) (show 7 * j + 1 < X.1 by omega) (show X.1 ≤ 2147483647 by omega) ?_
  refine mm_aload_n dL_law_1171 rfl rfl ?_
  refine mm_iload_n dL_law_1172 rfl rfl ?_
  refine mm_iconst dL_law_1173 rfl ?_
  refine mm_iadd dL_law_1174 rfl ?_
  refine mm_iark (k1 := 1) (k0 := 7 * j + 2) dL_law_1175 rfl rfl (by decide) (by omega) (show 7 * j + 2 < X.1 by omega) (show X.1 ≤ 2147483647 by omega) ?_
  refine mm_aload_n dL_law_1176 rfl rfl ?_
  refine mm_iload_n dL_law_1177 rfl rfl ?_
  refine mm_iconst dL_law_1178 rfl ?_
  refine mm_iadd dL_law_1179 rfl ?_
  refine mm_iark (k1 := 1) (k0 := 7 * j + 3) dL_law_1180 rfl rfl (by decide) (by omega) (show 7 * j + 3 < X.1 by omega) (show X.1 ≤ 2147483647 by omega) ?_
  refine mm_aload_n dL_law_1181 rfl rfl ?_
  refine mm_iload_n dL_law_1182 rfl rfl ?_
  refine mm_iconst dL_law_1183 rfl ?_
  refine mm_iadd dL_law_1184 rfl ?_
  refine mm_iark (k1 := 1) (k0 := 7 * j + 4) dL_law_1185 rfl rfl (by decide) (by omega) (show 7 * j + 4 < X.1 by omega) (show X.1 ≤ 2147483647 by omega) ?_
  refine mm_callV (c := 183) (n := 243) (n' := 243) (as := [(0, X.2 (7 * j + 1)), (0, X.2 (7 * j + 2)), (0, X.2 (7 * j + 3)), (0, X.2 (7 * j + 4))]) dL_law_1186 rfl lk_L_128 rfl (by decide) rfl rfl rfl kL_le (by simp) (Nat.le_of_ble_eq_true rfl) (Nat.le_of_ble_eq_true rfl) (Nat.le_of_ble_eq_true rfl) (hc) ?_
  rintro _ M2 ⟨⟨w, rfl, -⟩, hR2⟩
  change mm_J _ _ _ _ _ _ _ _ _ _
  refine mm_pop dL_law_1189 rfl (show (0 : Nat) ≠ 1 by decide) ?_
  exact mm_goto dL_law_1190 (next M2 hR2)
theorem kL_c27 (hX : ∀ i, mm_R (X.2 i)) (hb : X.1 ≤ 3584) (h : kg2 (fun as => kkZ X Y_X11_stand Y_X13_stand as M)) (hj : 7 * j + 7 ≤ X.1) (next : ∀ M2, kR M2 → mm_J X (Y_L nm hs) 0 243 243 1621 [(2, -1), (2, 1), (2, 184), (0, ((7 * j : Nat) : Int))] [] M2 Φ) : mm_J X (Y_L nm hs) 0 243 243 1193 [(2, -1), (2, 1), (2, 184), (0, ((7 * j : Nat) : Int))] [] M Φ := by
  refine mm_aload_n dL_law_1193 rfl rfl ?_
  refine mm_aload_n dL_law_1194 rfl rfl ?_
  refine mm_iload_n dL_law_1195 rfl rfl ?_
  refine mm_iconst dL_law_1196 rfl ?_
  refine mm_iadd dL_law_1197 rfl ?_
  refine mm_iark (k1 := 1) (k0 := 7 * j + 1) dL_law_1198 rfl rfl (by decide) (by omega) (show 7 * j + 1 < X.1 by omega) (show X.1 ≤ 2147483647 by omega) ?_
  refine mm_aload_n dL_law_1199 rfl rfl ?_
  refine mm_iload_n dL_law_1200 rfl rfl ?_
  refine mm_iconst dL_law_1201 rfl ?_
  refine mm_iadd dL_law_1202 rfl ?_
  refine mm_iark (k1 := 1) (k0 := 7 * j + 2) dL_law_1203 rfl rfl (by decide) (by omega) (show 7 * j + 2 < X.1 by omega) (show X.1 ≤ 2147483647 by omega) ?_
  refine mm_callV (c := 0) (n := 243) (n' := 243) (as := [(0, X.2 (7 * j + 1)), (0, X.2 (7 * j + 2))]) dL_law_1204 rfl lk_L_129 rfl (by decide) rfl rfl rfl kL_le (by simp) (Nat.le_of_ble_eq_true rfl) (Nat.le_of_ble_eq_true rfl) (Nat.le_of_ble_eq_true rfl) (h _ _ (hX _) (hX _)) ?_
  rintro _ M1 ⟨v, rfl, hc⟩
  change mm_J _ _ _ _ _ _ _ _ _ _
  refine mm_pop dL_law_1207 rfl (show (0 : Nat) ≠ 1 by decide) ?_
  refine mm_aload_n dL_law_1208 rfl rfl ?_
  refine mm_aload_n dL_law_1209 rfl rfl ?_
  refine mm_iload_n dL_law_1210 rfl rfl ?_
  refine mm_iconst dL_law_1211 rfl ?_
  refine mm_iadd dL_law_1212 rfl ?_
  refine mm_iark (k1 := 1) (k0 := 7 * j + 1) dL_law_1213 rfl rfl (by decide) (by omega) (show 7 * j + 1 < X.1 by omega) (show X.1 ≤ 2147483647 by omega) ?_
  refine mm_aload_n dL_law_1214 rfl rfl ?_
  refine mm_iload_n dL_law_1215 rfl rfl ?_
  refine mm_iconst dL_law_1216 rfl ?_
  refine mm_iadd dL_law_1217 rfl ?_
  refine mm_iark (k1 := 1) (k0 := 7 * j + 2) dL_law_1218 rfl rfl (by decide) (by omega) (show 7 * j + 2 < X.1 by omega) (show X.1 ≤ 2147483647 by omega) ?_
  refine mm_callV (c := 183) (n := 243) (n' := 243) (as := [(0, X.2 (7 * j + 1)), (0, X.2 (7 * j + 2))]) dL_law_1219 rfl lk_L_132 rfl (by decide) rfl rfl rfl kL_le (by simp) (Nat.le_of_ble_eq_true rfl) (Nat.le_of_ble_eq_true rfl) (Nat.le_of_ble_eq_true rfl) (hc) ?_
  rintro _ M2 ⟨⟨w, rfl, -⟩, hR2⟩
  change mm_J _ _ _ _ _ _ _ _ _ _
  refine mm_pop dL_law_1222 rfl (show (0 : Nat) ≠ 1 by decide) ?_
  exact mm_goto dL_law_1223 (next M2 hR2)
theorem kL_c28 (hX : ∀ i, mm_R (X.2 i)) (hb : X.1 ≤ 3584) (h : kg0 (fun as => kkZ X Y_X11_field Y_X13_field as M)) (hj : 7 * j + 7 ≤ X.1) (next : ∀ M2, kR M2 → mm_J X (Y_L nm hs) 0 243 243 1621 [(2, -1), (2, 1), (2, 184), (0, ((7 * j : Nat) : Int))] [] M2 Φ) : mm_J X (Y_L nm hs) 0 243 243 1226 [(2, -1), (2, 1), (2, 184), (0, ((7 * j : Nat) : Int))] [] M Φ := by
  refine mm_aload_n dL_law_1226 rfl rfl ?_
  refine mm_callV (c := 0) (n := 243) (n' := 243) (as := []) dL_law_1227 rfl lk_L_133 rfl (by decide) rfl rfl rfl kL_le (by simp) (Nat.le_of_ble_eq_true rfl) (Nat.le_of_ble_eq_true rfl) (Nat.le_of_ble_eq_true rfl) (h) ?_
  rintro _ M1 ⟨v, rfl, hc⟩
  change mm_J _ _ _ _ _ _ _ _ _ _
  refine mm_pop dL_law_1230 rfl (show (0 : Nat) ≠ 1 by decide) ?_
  refine mm_aload_n dL_law_1231 rfl rfl ?_
  refine mm_callV (c := 183) (n := 243) (n' := 243) (as := []) dL_law_1232 rfl lk_L_136 rfl (by decide) rfl rfl rfl kL_le (by simp) (Nat.le_of_ble_eq_true rfl) (Nat.le_of_ble_eq_true rfl) (Nat.le_of_ble_eq_true rfl) (hc) ?_
  rintro _ M2 ⟨⟨w, rfl, -⟩, hR2⟩
  change mm_J _ _ _ _ _ _ _ _ _ _
  refine mm_pop dL_law_1235 rfl (show (0 : Nat) ≠ 1 by decide) ?_
  exact mm_goto dL_law_1236 (next M2 hR2)
theorem kL_c29 (hX : ∀ i, mm_R (X.2 i)) (hb : X.1 ≤ 3584) (h : kg0 (fun as => kkZ X Y_X11_fielded Y_X13_fielded as M)) (hj : 7 * j + 7 ≤ X.1) (next : ∀ M2, kR M2 → mm_J X (Y_L nm hs) 0 243 243 1621 [(2, -1), (2, 1), (2, 184), (0, ((7 * j : Nat) : Int))] [] M2 Φ) : mm_J X (Y_L nm hs) 0 243 243 1239 [(2, -1), (2, 1), (2, 184), (0, ((7 * j : Nat) : Int))] [] M Φ := by
  refine mm_aload_n dL_law_1239 rfl rfl ?_
  refine mm_callV (c := 0) (n := 243) (n' := 243) (as := []) dL_law_1240 rfl lk_L_137 rfl (by decide) rfl rfl rfl kL_le (by simp) (Nat.le_of_ble_eq_true rfl) (Nat.le_of_ble_eq_true rfl) (Nat.le_of_ble_eq_true rfl) (h) ?_
  rintro _ M1 ⟨v, rfl, hc⟩
  change mm_J _ _ _ _ _ _ _ _ _ _
  refine mm_pop dL_law_1243 rfl (show (0 : Nat) ≠ 1 by decide) ?_
  refine mm_aload_n dL_law_1244 rfl rfl ?_
  refine mm_callV (c := 183) (n := 243) (n' := 243) (as := []) dL_law_1245 rfl lk_L_140 rfl (by decide) rfl rfl rfl kL_le (by simp) (Nat.le_of_ble_eq_true rfl) (Nat.le_of_ble_eq_true rfl) (Nat.le_of_ble_eq_true rfl) (hc) ?_
  rintro _ M2 ⟨⟨w, rfl, -⟩, hR2⟩
  change mm_J _ _ _ _ _ _ _ _ _ _
  refine mm_pop dL_law_1248 rfl (show (0 : Nat) ≠ 1 by decide) ?_
  exact mm_goto dL_law_1249 (next M2 hR2)
theorem kL_c30 (hX : ∀ i, mm_R (X.2 i)) (hb : X.1 ≤ 3584) (h : kg3 (fun as => kkZ X Y_X11_law Y_X13_law as M)) (hj : 7 * j + 7 ≤ X.1) (next : ∀ M2, kR M2 → mm_J X (Y_L nm hs) 0 243 243 1621 [(2, -1), (2, 1), (2, 184), (0, ((7 * j : Nat) : Int))] [] M2 Φ) : mm_J X (Y_L nm hs) 0 243 243 1252 [(2, -1), (2, 1), (2, 184), (0, ((7 * j : Nat) : Int))] [] M Φ := by
  refine mm_aload_n dL_law_1252 rfl rfl ?_
  refine mm_aload_n dL_law_1253 rfl rfl ?_
  refine mm_iload_n dL_law_1254 rfl rfl ?_
  refine mm_iconst dL_law_1255 rfl ?_
  refine mm_iadd dL_law_1256 rfl ?_
  refine mm_iark (k1 := 1) (k0 := 7 * j + 1) dL_law_1257 rfl rfl (by decide) (by omega) (show 7 * j + 1 < X.1 by omega) (show X.1 ≤ 2147483647 by omega) ?_
  refine mm_aload_n dL_law_1258 rfl rfl ?_
  refine mm_iload_n dL_law_1259 rfl rfl ?_
  refine mm_iconst dL_law_1260 rfl ?_
  refine mm_iadd dL_law_1261 rfl ?_
  refine mm_iark (k1 := 1) (k0 := 7 * j + 2) dL_law_1262 rfl rfl (by decide) (by omega) (show 7 * j + 2 < X.1 by omega) (show X.1 ≤ 2147483647 by omega) ?_
  refine mm_aload_n dL_law_1263 rfl rfl ?_
  refine mm_iload_n dL_law_1264 rfl rfl ?_
  refine mm_iconst dL_law_1265 rfl ?_
  refine mm_iadd dL_law_1266 rfl ?_
  refine mm_iark (k1 := 1) (k0 := 7 * j + 3) dL_law_1267 rfl rfl (by decide) (by omega) (show 7 * j + 3 < X.1 by omega) (show X.1 ≤ 2147483647 by omega) ?_
  refine mm_callV (c := 0) (n := 243) (n' := 243) (as := [(0, X.2 (7 * j + 1)), (0, X.2 (7 * j + 2)), (0, X.2 (7 * j + 3))]) dL_law_1268 rfl lk_L_141 rfl (by decide) rfl rfl rfl kL_le (by simp) (Nat.le_of_ble_eq_true rfl) (Nat.le_of_ble_eq_true rfl) (Nat.le_of_ble_eq_true rfl) (h _ _ _ (hX _) (hX _) (hX _)) ?_
  rintro _ M1 ⟨v, rfl, hc⟩
  change mm_J _ _ _ _ _ _ _ _ _ _
  refine mm_pop dL_law_1271 rfl (show (0 : Nat) ≠ 1 by decide) ?_
  refine mm_aload_n dL_law_1272 rfl rfl ?_
  refine mm_aload_n dL_law_1273 rfl rfl ?_
  refine mm_iload_n dL_law_1274 rfl rfl ?_
  refine mm_iconst dL_law_1275 rfl ?_
  refine mm_iadd dL_law_1276 rfl ?_
  refine mm_iark (k1 := 1) (k0 := 7 * j + 1) dL_law_1277 rfl rfl (by decide) (by omega) (show 7 * j + 1 < X.1 by omega) (show X.1 ≤ 2147483647 by omega) ?_
  refine mm_aload_n dL_law_1278 rfl rfl ?_
  refine mm_iload_n dL_law_1279 rfl rfl ?_
  refine mm_iconst dL_law_1280 rfl ?_
  refine mm_iadd dL_law_1281 rfl ?_
  refine mm_iark (k1 := 1) (k0 := 7 * j + 2) dL_law_1282 rfl rfl (by decide) (by omega) (show 7 * j + 2 < X.1 by omega) (show X.1 ≤ 2147483647 by omega) ?_
  refine mm_aload_n dL_law_1283 rfl rfl ?_
  refine mm_iload_n dL_law_1284 rfl rfl ?_
  refine mm_iconst dL_law_1285 rfl ?_
  refine mm_iadd dL_law_1286 rfl ?_
  refine mm_iark (k1 := 1) (k0 := 7 * j + 3) dL_law_1287 rfl rfl (by decide) (by omega) (show 7 * j + 3 < X.1 by omega) (show X.1 ≤ 2147483647 by omega) ?_
  refine mm_callV (c := 183) (n := 243) (n' := 243) (as := [(0, X.2 (7 * j + 1)), (0, X.2 (7 * j + 2)), (0, X.2 (7 * j + 3))]) dL_law_1288 rfl lk_L_144 rfl (by decide) rfl rfl rfl kL_le (by simp) (Nat.le_of_ble_eq_true rfl) (Nat.le_of_ble_eq_true rfl) (Nat.le_of_ble_eq_true rfl) (hc) ?_
  rintro _ M2 ⟨⟨w, rfl, -⟩, hR2⟩
  change mm_J _ _ _ _ _ _ _ _ _ _
  refine mm_pop dL_law_1291 rfl (show (0 : Nat) ≠ 1 by decide) ?_
  exact mm_goto dL_law_1292 (next M2 hR2)
theorem kL_c31 (hX : ∀ i, mm_R (X.2 i)) (hb : X.1 ≤ 3584) (h : kg4 (fun as => kkZ X Y_X11_breach Y_X13_breach as M)) (hj : 7 * j + 7 ≤ X.1) (next : ∀ M2, kR M2 → mm_J X (Y_L nm hs) 0 243 243 1621 [(2, -1), (2, 1), (2, 184), (0, ((7 * j : Nat) : Int))] [] M2 Φ) : mm_J X (Y_L nm hs) 0 243 243 1295 [(2, -1), (2, 1), (2, 184), (0, ((7 * j : Nat) : Int))] [] M Φ := by
  refine mm_aload_n dL_law_1295 rfl rfl ?_
  refine mm_aload_n dL_law_1296 rfl rfl ?_
  refine mm_iload_n dL_law_1297 rfl rfl ?_
  refine mm_iconst dL_law_1298 rfl ?_
  refine mm_iadd dL_law_1299 rfl ?_
  refine mm_iark (k1 := 1) (k0 := 7 * j + 1) dL_law_1300 rfl rfl (by decide) (by omega) (show 7 * j + 1 < X.1 by omega) (show X.1 ≤ 2147483647 by omega) ?_
  refine mm_aload_n dL_law_1301 rfl rfl ?_
  refine mm_iload_n dL_law_1302 rfl rfl ?_
  refine mm_iconst dL_law_1303 rfl ?_
  refine mm_iadd dL_law_1304 rfl ?_
  refine mm_iark (k1 := 1) (k0 := 7 * j + 2) dL_law_1305 rfl rfl (by decide) (by omega) (show 7 * j + 2 < X.1 by omega) (show X.1 ≤ 2147483647 by omega) ?_
  refine mm_aload_n dL_law_1306 rfl rfl ?_
  refine mm_iload_n dL_law_1307 rfl rfl ?_
  refine mm_iconst dL_law_1308 rfl ?_
  refine mm_iadd dL_law_1309 rfl ?_
  refine mm_iark (k1 := 1) (k0 := 7 * j + 3) dL_law_1310 rfl rfl (by decide) (by omega) (show 7 * j + 3 < X.1 by omega) (show X.1 ≤ 2147483647 by omega) ?_
  refine mm_aload_n dL_law_1311 rfl rfl ?_
  refine mm_iload_n dL_law_1312 rfl rfl ?_
  refine mm_iconst dL_law_1313 rfl ?_
  refine mm_iadd dL_law_1314 rfl ?_
  refine mm_iark (k1 := 1) (k0 := 7 * j + 4) dL_law_1315 rfl rfl (by decide) (by omega) (show 7 * j + 4 < X.1 by omega) (show X.1 ≤ 2147483647 by omega) ?_
  refine mm_callV (c := 0) (n := 243) (n' := 243) (as := [(0, X.2 (7 * j + 1)), (0, X.2 (7 * j + 2)), (0, X.2 (7 * j + 3)), (0, X.2 (7 * j + 4))]) dL_law_1316 rfl lk_L_145 rfl (by decide) rfl rfl rfl kL_le (by simp) (Nat.le_of_ble_eq_true rfl) (Nat.le_of_ble_eq_true rfl) (Nat.le_of_ble_eq_true rfl) (h _ _ _ _ (hX _) (hX _) (hX _) (hX _)) ?_
  rintro _ M1 ⟨v, rfl, hc⟩
  change mm_J _ _ _ _ _ _ _ _ _ _
  refine mm_pop dL_law_1319 rfl (show (0 : Nat) ≠ 1 by decide) ?_
  refine mm_aload_n dL_law_1320 rfl rfl ?_
  refine mm_aload_n dL_law_1321 rfl rfl ?_
  refine mm_iload_n dL_law_1322 rfl rfl ?_
  refine mm_iconst dL_law_1323 rfl ?_
  refine mm_iadd dL_law_1324 rfl ?_
  refine mm_iark (k1 := 1) (k0 := 7 * j + 1) dL_law_1325 rfl rfl (by decide) (by omega) (show 7 * j + 1 < X.1 by omega) (show X.1 ≤ 2147483647 by omega) ?_
  refine mm_aload_n dL_law_1326 rfl rfl ?_
  refine mm_iload_n dL_law_1327 rfl rfl ?_
  refine mm_iconst dL_law_1328 rfl ?_
  refine mm_iadd dL_law_1329 rfl ?_
  refine mm_iark (k1 := 1) (k0 := 7 * j + 2) dL_law_1330 rfl rfl (by decide) (by omega) (show 7 * j + 2 < X.1 by omega) (show X.1 ≤ 2147483647 by omega) ?_
  refine mm_aload_n dL_law_1331 rfl rfl ?_
  refine mm_iload_n dL_law_1332 rfl rfl ?_
  refine mm_iconst dL_law_1333 rfl ?_
  refine mm_iadd dL_law_1334 rfl ?_
  refine mm_iark (k1 := 1) (k0 := 7 * j + 3) dL_law_1335 rfl rfl (by decide) (by omega) (show 7 * j + 3 < X.1 by omega) (show X.1 ≤ 2147483647 by omega) ?_
  refine mm_aload_n dL_law_1336 rfl rfl ?_
  refine mm_iload_n dL_law_1337 rfl rfl ?_
  refine mm_iconst dL_law_1338 rfl ?_
  refine mm_iadd dL_law_1339 rfl ?_
  refine mm_iark (k1 := 1) (k0 := 7 * j + 4) dL_law_1340 rfl rfl (by decide) (by omega) (show 7 * j + 4 < X.1 by omega) (show X.1 ≤ 2147483647 by omega) ?_
  refine mm_callV (c := 183) (n := 243) (n' := 243) (as := [(0, X.2 (7 * j + 1)), (0, X.2 (7 * j + 2)), (0, X.2 (7 * j + 3)), (0, X.2 (7 * j + 4))]) dL_law_1341 rfl lk_L_148 rfl (by decide) rfl rfl rfl kL_le (by simp) (Nat.le_of_ble_eq_true rfl) (Nat.le_of_ble_eq_true rfl) (Nat.le_of_ble_eq_true rfl) (hc) ?_
  rintro _ M2 ⟨⟨w, rfl, -⟩, hR2⟩
  change mm_J _ _ _ _ _ _ _ _ _ _
  refine mm_pop dL_law_1344 rfl (show (0 : Nat) ≠ 1 by decide) ?_
  exact mm_goto dL_law_1345 (next M2 hR2)
theorem kL_c32 (hX : ∀ i, mm_R (X.2 i)) (hb : X.1 ≤ 3584) (h : kg1 (fun as => kkZ X Y_X11_hidden Y_X13_hidden as M)) (hj : 7 * j + 7 ≤ X.1) (next : ∀ M2, kR M2 → mm_J X (Y_L nm hs) 0 243 243 1621 [(2, -1), (2, 1), (2, 184), (0, ((7 * j : Nat) : Int))] [] M2 Φ) : mm_J X (Y_L nm hs) 0 243 243 1348 [(2, -1), (2, 1), (2, 184), (0, ((7 * j : Nat) : Int))] [] M Φ := by
  refine mm_aload_n dL_law_1348 rfl rfl ?_
  refine mm_aload_n dL_law_1349 rfl rfl ?_
  refine mm_iload_n dL_law_1350 rfl rfl ?_
  refine mm_iconst dL_law_1351 rfl ?_
  refine mm_iadd dL_law_1352 rfl ?_
  refine mm_iark (k1 := 1) (k0 := 7 * j + 1) dL_law_1353 rfl rfl (by decide) (by omega) (show 7 * j + 1 < X.1 by omega) (show X.1 ≤ 2147483647 by omega) ?_
  refine mm_callV (c := 0) (n := 243) (n' := 243) (as := [(0, X.2 (7 * j + 1))]) dL_law_1354 rfl lk_L_149 rfl (by decide) rfl rfl rfl kL_le (by simp) (Nat.le_of_ble_eq_true rfl) (Nat.le_of_ble_eq_true rfl) (Nat.le_of_ble_eq_true rfl) (h _ (hX _)) ?_
  rintro _ M1 ⟨v, rfl, hc⟩
  change mm_J _ _ _ _ _ _ _ _ _ _
  refine mm_pop dL_law_1357 rfl (show (0 : Nat) ≠ 1 by decide) ?_
  refine mm_aload_n dL_law_1358 rfl rfl ?_
  refine mm_aload_n dL_law_1359 rfl rfl ?_
  refine mm_iload_n dL_law_1360 rfl rfl ?_
  refine mm_iconst dL_law_1361 rfl ?_
  refine mm_iadd dL_law_1362 rfl ?_
  refine mm_iark (k1 := 1) (k0 := 7 * j + 1) dL_law_1363 rfl rfl (by decide) (by omega) (show 7 * j + 1 < X.1 by omega) (show X.1 ≤ 2147483647 by omega) ?_
  refine mm_callV (c := 183) (n := 243) (n' := 243) (as := [(0, X.2 (7 * j + 1))]) dL_law_1364 rfl lk_L_152 rfl (by decide) rfl rfl rfl kL_le (by simp) (Nat.le_of_ble_eq_true rfl) (Nat.le_of_ble_eq_true rfl) (Nat.le_of_ble_eq_true rfl) (hc) ?_
  rintro _ M2 ⟨⟨w, rfl, -⟩, hR2⟩
  change mm_J _ _ _ _ _ _ _ _ _ _
  refine mm_pop dL_law_1367 rfl (show (0 : Nat) ≠ 1 by decide) ?_
  exact mm_goto dL_law_1368 (next M2 hR2)
theorem kL_c33 (hX : ∀ i, mm_R (X.2 i)) (hb : X.1 ≤ 3584) (h : kg3 (fun as => kkZ X Y_X11_pulls Y_X13_pulls as M)) (hj : 7 * j + 7 ≤ X.1) (next : ∀ M2, kR M2 → mm_J X (Y_L nm hs) 0 243 243 1621 [(2, -1), (2, 1), (2, 184), (0, ((7 * j : Nat) : Int))] [] M2 Φ) : mm_J X (Y_L nm hs) 0 243 243 1371 [(2, -1), (2, 1), (2, 184), (0, ((7 * j : Nat) : Int))] [] M Φ := by
  refine mm_aload_n dL_law_1371 rfl rfl ?_
  refine mm_aload_n dL_law_1372 rfl rfl ?_
  refine mm_iload_n dL_law_1373 rfl rfl ?_
  refine mm_iconst dL_law_1374 rfl ?_
  refine mm_iadd dL_law_1375 rfl ?_
  refine mm_iark (k1 := 1) (k0 := 7 * j + 1) dL_law_1376 rfl rfl (by decide) (by omega) (show 7 * j + 1 < X.1 by omega) (show X.1 ≤ 2147483647 by omega) ?_
  refine mm_aload_n dL_law_1377 rfl rfl ?_
  refine mm_iload_n dL_law_1378 rfl rfl ?_
  refine mm_iconst dL_law_1379 rfl ?_
  refine mm_iadd dL_law_1380 rfl ?_
  refine mm_iark (k1 := 1) (k0 := 7 * j + 2) dL_law_1381 rfl rfl (by decide) (by omega) (show 7 * j + 2 < X.1 by omega) (show X.1 ≤ 2147483647 by omega) ?_
  refine mm_aload_n dL_law_1382 rfl rfl ?_
  refine mm_iload_n dL_law_1383 rfl rfl ?_
  refine mm_iconst dL_law_1384 rfl ?_
  refine mm_iadd dL_law_1385 rfl ?_
  refine mm_iark (k1 := 1) (k0 := 7 * j + 3) dL_law_1386 rfl rfl (by decide) (by omega) (show 7 * j + 3 < X.1 by omega) (show X.1 ≤ 2147483647 by omega) ?_
  refine mm_callV (c := 0) (n := 243) (n' := 243) (as := [(0, X.2 (7 * j + 1)), (0, X.2 (7 * j + 2)), (0, X.2 (7 * j + 3))]) dL_law_1387 rfl lk_L_153 rfl (by decide) rfl rfl rfl kL_le (by simp) (Nat.le_of_ble_eq_true rfl) (Nat.le_of_ble_eq_true rfl) (Nat.le_of_ble_eq_true rfl) (h _ _ _ (hX _) (hX _) (hX _)) ?_
  rintro _ M1 ⟨v, rfl, hc⟩
  change mm_J _ _ _ _ _ _ _ _ _ _
  refine mm_pop dL_law_1390 rfl (show (0 : Nat) ≠ 1 by decide) ?_
  refine mm_aload_n dL_law_1391 rfl rfl ?_
  refine mm_aload_n dL_law_1392 rfl rfl ?_
  refine mm_iload_n dL_law_1393 rfl rfl ?_
  refine mm_iconst dL_law_1394 rfl ?_
  refine mm_iadd dL_law_1395 rfl ?_
  refine mm_iark (k1 := 1) (k0 := 7 * j + 1) dL_law_1396 rfl rfl (by decide) (by omega) (show 7 * j + 1 < X.1 by omega) (show X.1 ≤ 2147483647 by omega) ?_
  refine mm_aload_n dL_law_1397 rfl rfl ?_
  refine mm_iload_n dL_law_1398 rfl rfl ?_
  refine mm_iconst dL_law_1399 rfl ?_
  refine mm_iadd dL_law_1400 rfl ?_
  refine mm_iark (k1 := 1) (k0 := 7 * j + 2) dL_law_1401 rfl rfl (by decide) (by omega) (show 7 * j + 2 < X.1 by omega) (show X.1 ≤ 2147483647 by omega) ?_
  refine mm_aload_n dL_law_1402 rfl rfl ?_
  refine mm_iload_n dL_law_1403 rfl rfl ?_
  refine mm_iconst dL_law_1404 rfl ?_
  refine mm_iadd dL_law_1405 rfl ?_
  refine mm_iark (k1 := 1) (k0 := 7 * j + 3) dL_law_1406 rfl rfl (by decide) (by omega) (show 7 * j + 3 < X.1 by omega) (show X.1 ≤ 2147483647 by omega) ?_
  refine mm_callV (c := 183) (n := 243) (n' := 243) (as := [(0, X.2 (7 * j + 1)), (0, X.2 (7 * j + 2)), (0, X.2 (7 * j + 3))]) dL_law_1407 rfl lk_L_156 rfl (by decide) rfl rfl rfl kL_le (by simp) (Nat.le_of_ble_eq_true rfl) (Nat.le_of_ble_eq_true rfl) (Nat.le_of_ble_eq_true rfl) (hc) ?_
  rintro _ M2 ⟨⟨w, rfl, -⟩, hR2⟩
  change mm_J _ _ _ _ _ _ _ _ _ _
  refine mm_pop dL_law_1410 rfl (show (0 : Nat) ≠ 1 by decide) ?_
  exact mm_goto dL_law_1411 (next M2 hR2)
theorem kL_c34 (hX : ∀ i, mm_R (X.2 i)) (hb : X.1 ≤ 3584) (h : kg6 (fun as => kkZ X Y_X11_read Y_X13_read as M)) (hj : 7 * j + 7 ≤ X.1) (next : ∀ M2, kR M2 → mm_J X (Y_L nm hs) 0 243 243 1621 [(2, -1), (2, 1), (2, 184), (0, ((7 * j : Nat) : Int))] [] M2 Φ) : mm_J X (Y_L nm hs) 0 243 243 1414 [(2, -1), (2, 1), (2, 184), (0, ((7 * j : Nat) : Int))] [] M Φ := by
  refine mm_aload_n dL_law_1414 rfl rfl ?_
  refine mm_aload_n dL_law_1415 rfl rfl ?_
  refine mm_iload_n dL_law_1416 rfl rfl ?_
  refine mm_iconst dL_law_1417 rfl ?_
  refine mm_iadd dL_law_1418 rfl ?_
  refine mm_iark (k1 := 1) (k0 := 7 * j + 1) dL_law_1419 rfl rfl (by decide) (by omega) (show 7 * j + 1 < X.1 by omega) (show X.1 ≤ 2147483647 by omega) ?_
  refine mm_aload_n dL_law_1420 rfl rfl ?_
  refine mm_iload_n dL_law_1421 rfl rfl ?_
  refine mm_iconst dL_law_1422 rfl ?_
  refine mm_iadd dL_law_1423 rfl ?_
  refine mm_iark (k1 := 1) (k0 := 7 * j + 2) dL_law_1424 rfl rfl (by decide) (by omega) (show 7 * j + 2 < X.1 by omega) (show X.1 ≤ 2147483647 by omega) ?_
  refine mm_aload_n dL_law_1425 rfl rfl ?_
  refine mm_iload_n dL_law_1426 rfl rfl ?_
  refine mm_iconst dL_law_1427 rfl ?_
  refine mm_iadd dL_law_1428 rfl ?_
  refine mm_iark (k1 := 1) (k0 := 7 * j + 3) dL_law_1429 rfl rfl (by decide) (by omega) (show 7 * j + 3 < X.1 by omega) (show X.1 ≤ 2147483647 by omega) ?_
  refine mm_aload_n dL_law_1430 rfl rfl ?_
  refine mm_iload_n dL_law_1431 rfl rfl ?_
  refine mm_iconst dL_law_1432 rfl ?_
  refine mm_iadd dL_law_1433 rfl ?_
  refine mm_iark (k1 := 1) (k0 := 7 * j + 4) dL_law_1434 rfl rfl (by decide) (by omega) (show 7 * j + 4 < X.1 by omega) (show X.1 ≤ 2147483647 by omega) ?_
  refine mm_aload_n dL_law_1435 rfl rfl ?_
  refine mm_iload_n dL_law_1436 rfl rfl ?_
  refine mm_iconst dL_law_1437 rfl ?_
  refine mm_iadd dL_law_1438 rfl ?_
  refine mm_iark (k1 := 1) (k0 := 7 * j + 5) dL_law_1439 rfl rfl (by decide) (by omega) (show 7 * j + 5 < X.1 by omega) (show X.1 ≤ 2147483647 by omega) ?_
  refine mm_aload_n dL_law_1440 rfl rfl ?_
  refine mm_iload_n dL_law_1441 rfl rfl ?_
  refine mm_bipush dL_law_1442 rfl (by decide) ?_
  refine mm_iadd dL_law_1444 rfl ?_
  refine mm_iark (k1 := 1) (k0 := 7 * j + 6) dL_law_1445 rfl rfl (by decide) (by omega) (show 7 * j + 6 < X.1 by omega) (show X.1 ≤ 2147483647 by omega) ?_
  refine mm_callV (c := 0) (n := 243) (n' := 243) (as := [(0, X.2 (7 * j + 1)), (0, X.2 (7 * j + 2)), (0, X.2 (7 * j + 3)), (0, X.2 (7 * j + 4)), (0, X.2 (7 * j + 5)), (0, X.2 (7 * j + 6))]) dL_law_1446 rfl lk_L_157 rfl (by decide) rfl rfl rfl kL_le (by simp) (Nat.le_of_ble_eq_true rfl) (Nat.le_of_ble_eq_true rfl) (Nat.le_of_ble_eq_true rfl) (h _ _ _ _ _ _ (hX _) (hX _) (hX _) (hX _) (hX _) (hX _)) ?_
  rintro _ M1 ⟨v, rfl, hc⟩
  change mm_J _ _ _ _ _ _ _ _ _ _
  refine mm_pop dL_law_1449 rfl (show (0 : Nat) ≠ 1 by decide) ?_
  refine mm_aload_n dL_law_1450 rfl rfl ?_
  refine mm_aload_n dL_law_1451 rfl rfl ?_
  refine mm_iload_n dL_law_1452 rfl rfl ?_
  refine mm_iconst dL_law_1453 rfl ?_
  refine mm_iadd dL_law_1454 rfl ?_
  refine mm_iark (k1 := 1) (k0 := 7 * j + 1) dL_law_1455 rfl rfl (by decide) (by omega) (show 7 * j + 1 < X.1 by omega) (show X.1 ≤ 2147483647 by omega) ?_
  refine mm_aload_n dL_law_1456 rfl rfl ?_
  refine mm_iload_n dL_law_1457 rfl rfl ?_
  refine mm_iconst dL_law_1458 rfl ?_
  refine mm_iadd dL_law_1459 rfl ?_
  refine mm_iark (k1 := 1) (k0 := 7 * j + 2) dL_law_1460 rfl rfl (by decide) (by omega) (show 7 * j + 2 < X.1 by omega) (show X.1 ≤ 2147483647 by omega) ?_
  refine mm_aload_n dL_law_1461 rfl rfl ?_
  refine mm_iload_n dL_law_1462 rfl rfl ?_
  refine mm_iconst dL_law_1463 rfl ?_
  refine mm_iadd dL_law_1464 rfl ?_
  refine mm_iark (k1 := 1) (k0 := 7 * j + 3) dL_law_1465 rfl rfl (by decide) (by omega) (show 7 * j + 3 < X.1 by omega) (show X.1 ≤ 2147483647 by omega) ?_
  refine mm_aload_n dL_law_1466 rfl rfl ?_
  refine mm_iload_n dL_law_1467 rfl rfl ?_
  refine mm_iconst dL_law_1468 rfl ?_
  refine mm_iadd dL_law_1469 rfl ?_
  refine mm_iark (k1 := 1) (k0 := 7 * j + 4) dL_law_1470 rfl rfl (by decide) (by omega) (show 7 * j + 4 < X.1 by omega) (show X.1 ≤ 2147483647 by omega) ?_
  refine mm_aload_n dL_law_1471 rfl rfl ?_
  refine mm_iload_n dL_law_1472 rfl rfl ?_
  refine mm_iconst dL_law_1473 rfl ?_
  refine mm_iadd dL_law_1474 rfl ?_
  refine mm_iark (k1 := 1) (k0 := 7 * j + 5) dL_law_1475 rfl rfl (by decide) (by omega) (show 7 * j + 5 < X.1 by omega) (show X.1 ≤ 2147483647 by omega) ?_
  refine mm_aload_n dL_law_1476 rfl rfl ?_
  refine mm_iload_n dL_law_1477 rfl rfl ?_
  refine mm_bipush dL_law_1478 rfl (by decide) ?_
  refine mm_iadd dL_law_1480 rfl ?_
  refine mm_iark (k1 := 1) (k0 := 7 * j + 6) dL_law_1481 rfl rfl (by decide) (by omega) (show 7 * j + 6 < X.1 by omega) (show X.1 ≤ 2147483647 by omega) ?_
  refine mm_callV (c := 183) (n := 243) (n' := 243) (as := [(0, X.2 (7 * j + 1)), (0, X.2 (7 * j + 2)), (0, X.2 (7 * j + 3)), (0, X.2 (7 * j + 4)), (0, X.2 (7 * j + 5)), (0, X.2 (7 * j + 6))]) dL_law_1482 rfl lk_L_160 rfl (by decide) rfl rfl rfl kL_le (by simp) (Nat.le_of_ble_eq_true rfl) (Nat.le_of_ble_eq_true rfl) (Nat.le_of_ble_eq_true rfl) (hc) ?_
  rintro _ M2 ⟨⟨w, rfl, -⟩, hR2⟩
  change mm_J _ _ _ _ _ _ _ _ _ _
  refine mm_pop dL_law_1485 rfl (show (0 : Nat) ≠ 1 by decide) ?_
  exact mm_goto dL_law_1486 (next M2 hR2)
theorem kL_c35 (hX : ∀ i, mm_R (X.2 i)) (hb : X.1 ≤ 3584) (h : kg4 (fun as => kkZ X Y_X11_right Y_X13_right as M)) (hj : 7 * j + 7 ≤ X.1) (next : ∀ M2, kR M2 → mm_J X (Y_L nm hs) 0 243 243 1621 [(2, -1), (2, 1), (2, 184), (0, ((7 * j : Nat) : Int))] [] M2 Φ) : mm_J X (Y_L nm hs) 0 243 243 1489 [(2, -1), (2, 1), (2, 184), (0, ((7 * j : Nat) : Int))] [] M Φ := by
  refine mm_aload_n dL_law_1489 rfl rfl ?_
  refine mm_aload_n dL_law_1490 rfl rfl ?_
  refine mm_iload_n dL_law_1491 rfl rfl ?_
  refine mm_iconst dL_law_1492 rfl ?_
  refine mm_iadd dL_law_1493 rfl ?_
  refine mm_iark (k1 := 1) (k0 := 7 * j + 1) dL_law_1494 rfl rfl (by decide) (by omega) (show 7 * j + 1 < X.1 by omega) (show X.1 ≤ 2147483647 by omega) ?_
  refine mm_aload_n dL_law_1495 rfl rfl ?_
  refine mm_iload_n dL_law_1496 rfl rfl ?_
  refine mm_iconst dL_law_1497 rfl ?_
  refine mm_iadd dL_law_1498 rfl ?_
  refine mm_iark (k1 := 1) (k0 := 7 * j + 2) dL_law_1499 rfl rfl (by decide) (by omega) (show 7 * j + 2 < X.1 by omega) (show X.1 ≤ 2147483647 by omega) ?_
  refine mm_aload_n dL_law_1500 rfl rfl ?_
  refine mm_iload_n dL_law_1501 rfl rfl ?_
  refine mm_iconst dL_law_1502 rfl ?_
  refine mm_iadd dL_law_1503 rfl ?_
  refine mm_iark (k1 := 1) (k0 := 7 * j + 3) dL_law_1504 rfl rfl (by decide) (by omega) (show 7 * j + 3 < X.1 by omega) (show X.1 ≤ 2147483647 by omega) ?_
  refine mm_aload_n dL_law_1505 rfl rfl ?_
  refine mm_iload_n dL_law_1506 rfl rfl ?_
  refine mm_iconst dL_law_1507 rfl ?_
  refine mm_iadd dL_law_1508 rfl ?_
  refine mm_iark (k1 := 1) (k0 := 7 * j + 4) dL_law_1509 rfl rfl (by decide) (by omega) (show 7 * j + 4 < X.1 by omega) (show X.1 ≤ 2147483647 by omega) ?_
  refine mm_callV (c := 0) (n := 243) (n' := 243) (as := [(0, X.2 (7 * j + 1)), (0, X.2 (7 * j + 2)), (0, X.2 (7 * j + 3)), (0, X.2 (7 * j + 4))]) dL_law_1510 rfl lk_L_161 rfl (by decide) rfl rfl rfl kL_le (by simp) (Nat.le_of_ble_eq_true rfl) (Nat.le_of_ble_eq_true rfl) (Nat.le_of_ble_eq_true rfl) (h _ _ _ _ (hX _) (hX _) (hX _) (hX _)) ?_
  rintro _ M1 ⟨v, rfl, hc⟩
  change mm_J _ _ _ _ _ _ _ _ _ _
  refine mm_pop dL_law_1513 rfl (show (0 : Nat) ≠ 1 by decide) ?_
  refine mm_aload_n dL_law_1514 rfl rfl ?_
  refine mm_aload_n dL_law_1515 rfl rfl ?_
  refine mm_iload_n dL_law_1516 rfl rfl ?_
  refine mm_iconst dL_law_1517 rfl ?_
  refine mm_iadd dL_law_1518 rfl ?_
  refine mm_iark (k1 := 1) (k0 := 7 * j + 1) dL_law_1519 rfl rfl (by decide) (by omega) (show 7 * j + 1 < X.1 by omega) (show X.1 ≤ 2147483647 by omega) ?_
  refine mm_aload_n dL_law_1520 rfl rfl ?_
  refine mm_iload_n dL_law_1521 rfl rfl ?_
  refine mm_iconst dL_law_1522 rfl ?_
  refine mm_iadd dL_law_1523 rfl ?_
  refine mm_iark (k1 := 1) (k0 := 7 * j + 2) dL_law_1524 rfl rfl (by decide) (by omega) (show 7 * j + 2 < X.1 by omega) (show X.1 ≤ 2147483647 by omega) ?_
  refine mm_aload_n dL_law_1525 rfl rfl ?_
  refine mm_iload_n dL_law_1526 rfl rfl ?_
  refine mm_iconst dL_law_1527 rfl ?_
  refine mm_iadd dL_law_1528 rfl ?_
  refine mm_iark (k1 := 1) (k0 := 7 * j + 3) dL_law_1529 rfl rfl (by decide) (by omega) (show 7 * j + 3 < X.1 by omega) (show X.1 ≤ 2147483647 by omega) ?_
  refine mm_aload_n dL_law_1530 rfl rfl ?_
  refine mm_iload_n dL_law_1531 rfl rfl ?_
  refine mm_iconst dL_law_1532 rfl ?_
  refine mm_iadd dL_law_1533 rfl ?_
  refine mm_iark (k1 := 1) (k0 := 7 * j + 4) dL_law_1534 rfl rfl (by decide) (by omega) (show 7 * j + 4 < X.1 by omega) (show X.1 ≤ 2147483647 by omega) ?_
  refine mm_callV (c := 183) (n := 243) (n' := 243) (as := [(0, X.2 (7 * j + 1)), (0, X.2 (7 * j + 2)), (0, X.2 (7 * j + 3)), (0, X.2 (7 * j + 4))]) dL_law_1535 rfl lk_L_164 rfl (by decide) rfl rfl rfl kL_le (by simp) (Nat.le_of_ble_eq_true rfl) (Nat.le_of_ble_eq_true rfl) (Nat.le_of_ble_eq_true rfl) (hc) ?_
  rintro _ M2 ⟨⟨w, rfl, -⟩, hR2⟩
  change mm_J _ _ _ _ _ _ _ _ _ _
  refine mm_pop dL_law_1538 rfl (show (0 : Nat) ≠ 1 by decide) ?_
  exact mm_goto dL_law_1539 (next M2 hR2)
theorem kL_c36 (hX : ∀ i, mm_R (X.2 i)) (hb : X.1 ≤ 3584) (h : kg1 (fun as => kkZ X Y_X11_fit Y_X13_fit as M)) (hj : 7 * j + 7 ≤ X.1) (next : ∀ M2, kR M2 → mm_J X (Y_L nm hs) 0 243 243 1621 [(2, -1), (2, 1), (2, 184), (0, ((7 * j : Nat) : Int))] [] M2 Φ) : mm_J X (Y_L nm hs) 0 243 243 1542 [(2, -1), (2, 1), (2, 184), (0, ((7 * j : Nat) : Int))] [] M Φ := by
  refine mm_aload_n dL_law_1542 rfl rfl ?_
  refine mm_aload_n dL_law_1543 rfl rfl ?_
  refine mm_iload_n dL_law_1544 rfl rfl ?_
  refine mm_iconst dL_law_1545 rfl ?_
  refine mm_iadd dL_law_1546 rfl ?_
  refine mm_iark (k1 := 1) (k0 := 7 * j + 1) dL_law_1547 rfl rfl (by decide) (by omega) (show 7 * j + 1 < X.1 by omega) (show X.1 ≤ 2147483647 by omega) ?_
  refine mm_callV (c := 0) (n := 243) (n' := 243) (as := [(0, X.2 (7 * j + 1))]) dL_law_1548 rfl lk_L_165 rfl (by decide) rfl rfl rfl kL_le (by simp) (Nat.le_of_ble_eq_true rfl) (Nat.le_of_ble_eq_true rfl) (Nat.le_of_ble_eq_true rfl) (h _ (hX _)) ?_
  rintro _ M1 ⟨v, rfl, hc⟩
  change mm_J _ _ _ _ _ _ _ _ _ _
  refine mm_pop dL_law_1551 rfl (show (0 : Nat) ≠ 1 by decide) ?_
  refine mm_aload_n dL_law_1552 rfl rfl ?_
  refine mm_aload_n dL_law_1553 rfl rfl ?_
  refine mm_iload_n dL_law_1554 rfl rfl ?_
  refine mm_iconst dL_law_1555 rfl ?_
  refine mm_iadd dL_law_1556 rfl ?_
  refine mm_iark (k1 := 1) (k0 := 7 * j + 1) dL_law_1557 rfl rfl (by decide) (by omega) (show 7 * j + 1 < X.1 by omega) (show X.1 ≤ 2147483647 by omega) ?_
  refine mm_callV (c := 183) (n := 243) (n' := 243) (as := [(0, X.2 (7 * j + 1))]) dL_law_1558 rfl lk_L_168 rfl (by decide) rfl rfl rfl kL_le (by simp) (Nat.le_of_ble_eq_true rfl) (Nat.le_of_ble_eq_true rfl) (Nat.le_of_ble_eq_true rfl) (hc) ?_
  rintro _ M2 ⟨⟨w, rfl, -⟩, hR2⟩
  change mm_J _ _ _ _ _ _ _ _ _ _
  refine mm_pop dL_law_1561 rfl (show (0 : Nat) ≠ 1 by decide) ?_
  exact mm_goto dL_law_1562 (next M2 hR2)
theorem kL_c37 (hX : ∀ i, mm_R (X.2 i)) (hb : X.1 ≤ 3584) (h : kg2 (fun as => kkZ X Y_X11_next Y_X13_next as M)) (hj : 7 * j + 7 ≤ X.1) (next : ∀ M2, kR M2 → mm_J X (Y_L nm hs) 0 243 243 1621 [(2, -1), (2, 1), (2, 184), (0, ((7 * j : Nat) : Int))] [] M2 Φ) : mm_J X (Y_L nm hs) 0 243 243 1565 [(2, -1), (2, 1), (2, 184), (0, ((7 * j : Nat) : Int))] [] M Φ := by
  refine mm_aload_n dL_law_1565 rfl rfl ?_
  refine mm_aload_n dL_law_1566 rfl rfl ?_
  refine mm_iload_n dL_law_1567 rfl rfl ?_
  refine mm_iconst dL_law_1568 rfl ?_
  refine mm_iadd dL_law_1569 rfl ?_
  refine mm_iark (k1 := 1) (k0 := 7 * j + 1) dL_law_1570 rfl rfl (by decide) (by omega) (show 7 * j + 1 < X.1 by omega) (show X.1 ≤ 2147483647 by omega) ?_
  refine mm_aload_n dL_law_1571 rfl rfl ?_
  refine mm_iload_n dL_law_1572 rfl rfl ?_
  refine mm_iconst dL_law_1573 rfl ?_
  refine mm_iadd dL_law_1574 rfl ?_
  refine mm_iark (k1 := 1) (k0 := 7 * j + 2) dL_law_1575 rfl rfl (by decide) (by omega) (show 7 * j + 2 < X.1 by omega) (show X.1 ≤ 2147483647 by omega) ?_
  refine mm_callV (c := 0) (n := 243) (n' := 243) (as := [(0, X.2 (7 * j + 1)), (0, X.2 (7 * j + 2))]) dL_law_1576 rfl lk_L_169 rfl (by decide) rfl rfl rfl kL_le (by simp) (Nat.le_of_ble_eq_true rfl) (Nat.le_of_ble_eq_true rfl) (Nat.le_of_ble_eq_true rfl) (h _ _ (hX _) (hX _)) ?_
  rintro _ M1 ⟨v, rfl, hc⟩
  change mm_J _ _ _ _ _ _ _ _ _ _
  refine mm_pop dL_law_1579 rfl (show (0 : Nat) ≠ 1 by decide) ?_
  refine mm_aload_n dL_law_1580 rfl rfl ?_
  refine mm_aload_n dL_law_1581 rfl rfl ?_
  refine mm_iload_n dL_law_1582 rfl rfl ?_
  refine mm_iconst dL_law_1583 rfl ?_
  refine mm_iadd dL_law_1584 rfl ?_
  refine mm_iark (k1 := 1) (k0 := 7 * j + 1) dL_law_1585 rfl rfl (by decide) (by omega) (show 7 * j + 1 < X.1 by omega) (show X.1 ≤ 2147483647 by omega) ?_
  refine mm_aload_n dL_law_1586 rfl rfl ?_
  refine mm_iload_n dL_law_1587 rfl rfl ?_
  refine mm_iconst dL_law_1588 rfl ?_
  refine mm_iadd dL_law_1589 rfl ?_
  refine mm_iark (k1 := 1) (k0 := 7 * j + 2) dL_law_1590 rfl rfl (by decide) (by omega) (show 7 * j + 2 < X.1 by omega) (show X.1 ≤ 2147483647 by omega) ?_
  refine mm_callV (c := 183) (n := 243) (n' := 243) (as := [(0, X.2 (7 * j + 1)), (0, X.2 (7 * j + 2))]) dL_law_1591 rfl lk_L_172 rfl (by decide) rfl rfl rfl kL_le (by simp) (Nat.le_of_ble_eq_true rfl) (Nat.le_of_ble_eq_true rfl) (Nat.le_of_ble_eq_true rfl) (hc) ?_
  rintro _ M2 ⟨⟨w, rfl, -⟩, hR2⟩
  change mm_J _ _ _ _ _ _ _ _ _ _
  refine mm_pop dL_law_1594 rfl (show (0 : Nat) ≠ 1 by decide) ?_
  exact mm_goto dL_law_1595 (next M2 hR2)
theorem kL_c38 (hX : ∀ i, mm_R (X.2 i)) (hb : X.1 ≤ 3584) (h : kg1 (fun as => kkZ X Y_X11_count Y_X13_count as M)) (hj : 7 * j + 7 ≤ X.1) (next : ∀ M2, kR M2 → mm_J X (Y_L nm hs) 0 243 243 1621 [(2, -1), (2, 1), (2, 184), (0, ((7 * j : Nat) : Int))] [] M2 Φ) : mm_J X (Y_L nm hs) 0 243 243 1598 [(2, -1), (2, 1), (2, 184), (0, ((7 * j : Nat) : Int))] [] M Φ := by
  refine mm_aload_n dL_law_1598 rfl rfl ?_
  refine mm_aload_n dL_law_1599 rfl rfl ?_
  refine mm_iload_n dL_law_1600 rfl rfl ?_
  refine mm_iconst dL_law_1601 rfl ?_
  refine mm_iadd dL_law_1602 rfl ?_
  refine mm_iark (k1 := 1) (k0 := 7 * j + 1) dL_law_1603 rfl rfl (by decide) (by omega) (show 7 * j + 1 < X.1 by omega) (show X.1 ≤ 2147483647 by omega) ?_
  refine mm_callV (c := 0) (n := 243) (n' := 243) (as := [(0, X.2 (7 * j + 1))]) dL_law_1604 rfl lk_L_173 rfl (by decide) rfl rfl rfl kL_le (by simp) (Nat.le_of_ble_eq_true rfl) (Nat.le_of_ble_eq_true rfl) (Nat.le_of_ble_eq_true rfl) (h _ (hX _)) ?_
  rintro _ M1 ⟨v, rfl, hc⟩
  change mm_J _ _ _ _ _ _ _ _ _ _
  refine mm_pop dL_law_1607 rfl (show (0 : Nat) ≠ 1 by decide) ?_
  refine mm_aload_n dL_law_1608 rfl rfl ?_
  refine mm_aload_n dL_law_1609 rfl rfl ?_
  refine mm_iload_n dL_law_1610 rfl rfl ?_
  refine mm_iconst dL_law_1611 rfl ?_
  refine mm_iadd dL_law_1612 rfl ?_
  refine mm_iark (k1 := 1) (k0 := 7 * j + 1) dL_law_1613 rfl rfl (by decide) (by omega) (show 7 * j + 1 < X.1 by omega) (show X.1 ≤ 2147483647 by omega) ?_
  refine mm_callV (c := 183) (n := 243) (n' := 243) (as := [(0, X.2 (7 * j + 1))]) dL_law_1614 rfl lk_L_176 rfl (by decide) rfl rfl rfl kL_le (by simp) (Nat.le_of_ble_eq_true rfl) (Nat.le_of_ble_eq_true rfl) (Nat.le_of_ble_eq_true rfl) (hc) ?_
  rintro _ M2 ⟨⟨w, rfl, -⟩, hR2⟩
  change mm_J _ _ _ _ _ _ _ _ _ _
  refine mm_pop dL_law_1617 rfl (show (0 : Nat) ≠ 1 by decide) ?_
  exact mm_goto dL_law_1618 (next M2 hR2)
theorem kL_and (v : Int) : ∃ q : Nat, q ≤ 63 ∧ (mm_i v &&& mm_i 63).toInt = (q : Int) := by
  refine ⟨(mm_i v).toBitVec.toNat &&& 63, Nat.and_le_right, ?_⟩
  have e : mm_i v = nI (mm_i v).toBitVec.toNat := by
    apply Int32.toBitVec_inj.1
    show _ = BitVec.ofNat 32 _
    rw [BitVec.ofNat_toNat, BitVec.setWidth_eq]
  have hle : (mm_i v).toBitVec.toNat &&& 63 ≤ 63 := Nat.and_le_right
  rw [show (mm_i v &&& mm_i 63) = nI ((mm_i v).toBitVec.toNat &&& 63) from by
    rw [← kx_andI, ← e]
    exact congrArg _ (kx_nI 63)]
  exact kx_to (by omega)
theorem kL_one (hX : ∀ i, mm_R (X.2 i)) (hb : X.1 ≤ 3584) (H : kAt X M) (hj : 7 * j + 7 ≤ X.1) (next : ∀ M2, kR M2 → mm_J X (Y_L nm hs) 0 243 243 1621 [(2, -1), (2, 1), (2, 184), (0, ((7 * j : Nat) : Int))] [] M2 Φ) (hR : kR M) : mm_J X (Y_L nm hs) 0 243 243 27 [(2, -1), (2, 1), (2, 184), (0, ((7 * j : Nat) : Int))] [] M Φ := by
  obtain ⟨h0, h1, h2, h3, h4, h5, h6, h7, h8, h9, h10, h11, h12, h13, h14, h15, h16, h17, h18, h19, h20, h21, h22, h23, h24, h25, h26, h27, h28, h29, h30, h31, h32, h33, h34, h35, h36, h37, h38⟩ := H
  refine mm_aload_n dL_law_27 rfl rfl ?_
  refine mm_iload_n dL_law_28 rfl rfl ?_
  refine mm_iark (k1 := 1) (k0 := 7 * j) dL_law_29 rfl rfl (by decide) rfl (show 7 * j < X.1 by omega) (show X.1 ≤ 2147483647 by omega) ?_
  refine mm_bipush dL_law_30 rfl (by decide) ?_
  refine mm_iand dL_law_32 rfl ?_
  obtain ⟨q, hq, eq⟩ := kL_and (X.2 (7 * j))
  rw [show (mm_i ((mm_rc X 1).2 (7 * j)) &&& mm_i 63).toInt = (q : Int) from eq]
  by_cases h39 : q < 39
  · rcases (show q = 0 ∨ q = 1 ∨ q = 2 ∨ q = 3 ∨ q = 4 ∨ q = 5 ∨ q = 6 ∨ q = 7 ∨ q = 8 ∨ q = 9 ∨ q = 10 ∨ q = 11 ∨ q = 12 ∨ q = 13 ∨ q = 14 ∨ q = 15 ∨ q = 16 ∨ q = 17 ∨ q = 18 ∨ q = 19 ∨ q = 20 ∨ q = 21 ∨ q = 22 ∨ q = 23 ∨ q = 24 ∨ q = 25 ∨ q = 26 ∨ q = 27 ∨ q = 28 ∨ q = 29 ∨ q = 30 ∨ q = 31 ∨ q = 32 ∨ q = 33 ∨ q = 34 ∨ q = 35 ∨ q = 36 ∨ q = 37 ∨ q = 38 by omega) with rfl | rfl | rfl | rfl | rfl | rfl | rfl | rfl | rfl | rfl | rfl | rfl | rfl | rfl | rfl | rfl | rfl | rfl | rfl | rfl | rfl | rfl | rfl | rfl | rfl | rfl | rfl | rfl | rfl | rfl | rfl | rfl | rfl | rfl | rfl | rfl | rfl | rfl | rfl
    · exact mm_tsw (t := 204) (k := 0) dL_law_33.1 (by unfold mm_R; omega) (by omega) (by omega) (by omega) rfl (by decide) (kL_c0 hX hb h0 hj next)
    · exact mm_tsw (t := 267) (k := 1) dL_law_33.1 (by unfold mm_R; omega) (by omega) (by omega) (by omega) rfl (by decide) (kL_c1 hX hb h1 hj next)
    · exact mm_tsw (t := 290) (k := 2) dL_law_33.1 (by unfold mm_R; omega) (by omega) (by omega) (by omega) rfl (by decide) (kL_c2 hX hb h2 hj next)
    · exact mm_tsw (t := 303) (k := 3) dL_law_33.1 (by unfold mm_R; omega) (by omega) (by omega) (by omega) rfl (by decide) (kL_c3 hX hb h3 hj next)
    · exact mm_tsw (t := 316) (k := 4) dL_law_33.1 (by unfold mm_R; omega) (by omega) (by omega) (by omega) rfl (by decide) (kL_c4 hX hb h4 hj next)
    · exact mm_tsw (t := 339) (k := 5) dL_law_33.1 (by unfold mm_R; omega) (by omega) (by omega) (by omega) rfl (by decide) (kL_c5 hX hb h5 hj next)
    · exact mm_tsw (t := 362) (k := 6) dL_law_33.1 (by unfold mm_R; omega) (by omega) (by omega) (by omega) rfl (by decide) (kL_c6 hX hb h6 hj next)
    · exact mm_tsw (t := 395) (k := 7) dL_law_33.1 (by unfold mm_R; omega) (by omega) (by omega) (by omega) rfl (by decide) (kL_c7 hX hb h7 hj next)
    · exact mm_tsw (t := 428) (k := 8) dL_law_33.1 (by unfold mm_R; omega) (by omega) (by omega) (by omega) rfl (by decide) (kL_c8 hX hb h8 hj next)
    · exact mm_tsw (t := 491) (k := 9) dL_law_33.1 (by unfold mm_R; omega) (by omega) (by omega) (by omega) rfl (by decide) (kL_c9 hX hb h9 hj next)
    · exact mm_tsw (t := 534) (k := 10) dL_law_33.1 (by unfold mm_R; omega) (by omega) (by omega) (by omega) rfl (by decide) (kL_c10 hX hb h10 hj next)
    · exact mm_tsw (t := 577) (k := 11) dL_law_33.1 (by unfold mm_R; omega) (by omega) (by omega) (by omega) rfl (by decide) (kL_c11 hX hb h11 hj next)
    · exact mm_tsw (t := 620) (k := 12) dL_law_33.1 (by unfold mm_R; omega) (by omega) (by omega) (by omega) rfl (by decide) (kL_c12 hX hb h12 hj next)
    · exact mm_tsw (t := 663) (k := 13) dL_law_33.1 (by unfold mm_R; omega) (by omega) (by omega) (by omega) rfl (by decide) (kL_c13 hX hb h13 hj next)
    · exact mm_tsw (t := 686) (k := 14) dL_law_33.1 (by unfold mm_R; omega) (by omega) (by omega) (by omega) rfl (by decide) (kL_c14 hX hb h14 hj next)
    · exact mm_tsw (t := 709) (k := 15) dL_law_33.1 (by unfold mm_R; omega) (by omega) (by omega) (by omega) rfl (by decide) (kL_c15 hX hb h15 hj next)
    · exact mm_tsw (t := 742) (k := 16) dL_law_33.1 (by unfold mm_R; omega) (by omega) (by omega) (by omega) rfl (by decide) (kL_c16 hX hb h16 hj next)
    · exact mm_tsw (t := 765) (k := 17) dL_law_33.1 (by unfold mm_R; omega) (by omega) (by omega) (by omega) rfl (by decide) (kL_c17 hX hb h17 hj next)
    · exact mm_tsw (t := 788) (k := 18) dL_law_33.1 (by unfold mm_R; omega) (by omega) (by omega) (by omega) rfl (by decide) (kL_c18 hX hb h18 hj next)
    · exact mm_tsw (t := 867) (k := 19) dL_law_33.1 (by unfold mm_R; omega) (by omega) (by omega) (by omega) rfl (by decide) (kL_c19 hX hb h19 hj next)
    · exact mm_tsw (t := 890) (k := 20) dL_law_33.1 (by unfold mm_R; omega) (by omega) (by omega) (by omega) rfl (by decide) (kL_c20 hX hb h20 hj next)
    · exact mm_tsw (t := 913) (k := 21) dL_law_33.1 (by unfold mm_R; omega) (by omega) (by omega) (by omega) rfl (by decide) (kL_c21 hX hb h21 hj next)
    · exact mm_tsw (t := 936) (k := 22) dL_law_33.1 (by unfold mm_R; omega) (by omega) (by omega) (by omega) rfl (by decide) (kL_c22 hX hb h22 hj next)
    · exact mm_tsw (t := 979) (k := 23) dL_law_33.1 (by unfold mm_R; omega) (by omega) (by omega) (by omega) rfl (by decide) (kL_c23 hX hb h23 hj next)
    · exact mm_tsw (t := 1054) (k := 24) dL_law_33.1 (by unfold mm_R; omega) (by omega) (by omega) (by omega) rfl (by decide) (kL_c24 hX hb h24 hj next)
    · exact mm_tsw (t := 1077) (k := 25) dL_law_33.1 (by unfold mm_R; omega) (by omega) (by omega) (by omega) rfl (by decide) (kL_c25 hX hb h25 hj next)
    · exact mm_tsw (t := 1140) (k := 26) dL_law_33.1 (by unfold mm_R; omega) (by omega) (by omega) (by omega) rfl (by decide) (kL_c26 hX hb h26 hj next)
    · exact mm_tsw (t := 1193) (k := 27) dL_law_33.1 (by unfold mm_R; omega) (by omega) (by omega) (by omega) rfl (by decide) (kL_c27 hX hb h27 hj next)
    · exact mm_tsw (t := 1226) (k := 28) dL_law_33.1 (by unfold mm_R; omega) (by omega) (by omega) (by omega) rfl (by decide) (kL_c28 hX hb h28 hj next)
    · exact mm_tsw (t := 1239) (k := 29) dL_law_33.1 (by unfold mm_R; omega) (by omega) (by omega) (by omega) rfl (by decide) (kL_c29 hX hb h29 hj next)
    · exact mm_tsw (t := 1252) (k := 30) dL_law_33.1 (by unfold mm_R; omega) (by omega) (by omega) (by omega) rfl (by decide) (kL_c30 hX hb h30 hj next)
    · exact mm_tsw (t := 1295) (k := 31) dL_law_33.1 (by unfold mm_R; omega) (by omega) (by omega) (by omega) rfl (by decide) (kL_c31 hX hb h31 hj next)
    · exact mm_tsw (t := 1348) (k := 32) dL_law_33.1 (by unfold mm_R; omega) (by omega) (by omega) (by omega) rfl (by decide) (kL_c32 hX hb h32 hj next)
    · exact mm_tsw (t := 1371) (k := 33) dL_law_33.1 (by unfold mm_R; omega) (by omega) (by omega) (by omega) rfl (by decide) (kL_c33 hX hb h33 hj next)
    · exact mm_tsw (t := 1414) (k := 34) dL_law_33.1 (by unfold mm_R; omega) (by omega) (by omega) (by omega) rfl (by decide) (kL_c34 hX hb h34 hj next)
    · exact mm_tsw (t := 1489) (k := 35) dL_law_33.1 (by unfold mm_R; omega) (by omega) (by omega) (by omega) rfl (by decide) (kL_c35 hX hb h35 hj next)
    · exact mm_tsw (t := 1542) (k := 36) dL_law_33.1 (by unfold mm_R; omega) (by omega) (by omega) (by omega) rfl (by decide) (kL_c36 hX hb h36 hj next)
    · exact mm_tsw (t := 1565) (k := 37) dL_law_33.1 (by unfold mm_R; omega) (by omega) (by omega) (by omega) rfl (by decide) (kL_c37 hX hb h37 hj next)
    · exact mm_tsw (t := 1598) (k := 38) dL_law_33.1 (by unfold mm_R; omega) (by omega) (by omega) (by omega) rfl (by decide) (kL_c38 hX hb h38 hj next)
  · exact mm_tsd (t := 1621) dL_law_33.1 (by unfold mm_R; omega) (Or.inr (by omega)) (by decide) (next M hR)
theorem kL_loop (hX : ∀ i, mm_R (X.2 i)) (hb : X.1 ≤ 3584) {U : mm_M → Prop} (H : ∀ (j : Nat) M, 7 * j + 7 ≤ X.1 → kR M → (j = 0 → U M) → kAt X M) (hΦ : ∀ M, Φ (0, 1) M) : ∀ j : Nat, j ≤ 513 → ∀ M : mm_M, kR M → (j = 0 → U M) → mm_J X (Y_L nm hs) 0 243 243 18 [(2, -1), (2, 1), (2, 184), (0, ((7 * j : Nat) : Int))] [] M Φ := by
  refine mm_lp ?_
  intro j hj ih M hR hU
  refine mm_iload_n dL_law_18 rfl rfl ?_
  refine mm_aload_n dL_law_19 rfl rfl ?_
  refine mm_alro (k0 := 1) dL_law_20 rfl rfl (by decide) ?_
  refine mm_bipush dL_law_21 rfl (by decide) ?_
  refine mm_isub dL_law_23 rfl ?_
  have e1 : (mm_rc X 1).1 = X.1 := rfl
  rw [e1]
  refine mm_icgt dL_law_24 (by unfold mm_R; omega) (by unfold mm_R; omega) (fun h => ?_) (fun h => ?_)
  · refine mm_iconst dL_law_1627 rfl ?_
    exact mm_zret dL_law_1628 rfl rfl (Or.inr rfl) (hΦ M)
  · refine kL_one hX hb (H j M (by omega) hR hU) (by omega) ?_ hR
    intro M2 hR2
    refine mm_iinc dL_law_1621 rfl rfl (Nat.le_of_ble_eq_true rfl) rfl ?_
    refine mm_goto dL_law_1624 ?_
    have := ih (by omega) M2 hR2 (fun q => absurd q (by omega))
    rw [show ((7 * (j + 1) : Nat) : Int) = ((7 * j : Nat) : Int) + 7 by omega] at this
    exact this
end
