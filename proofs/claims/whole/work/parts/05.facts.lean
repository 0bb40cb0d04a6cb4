theorem tm_0 {w : Cond} (i : Nat) (h : (k2_sels lw_privs)[i]? = some w) (hg : goodWord w = true) : w ∈ tb := List.mem_filter.mpr ⟨List.mem_append_left _ (List.mem_of_getElem? h), hg⟩
theorem tm_1 {w : Cond} (i : Nat) (h : tables_1_1[i]? = some w) (hg : goodWord w = true) : w ∈ tb := List.mem_filter.mpr ⟨List.mem_append_right _ (List.mem_append_left _ (List.mem_of_getElem? h)), hg⟩
theorem tm_2 {w : Cond} (i : Nat) (h : tables_1_2[i]? = some w) (hg : goodWord w = true) : w ∈ tb := List.mem_filter.mpr ⟨List.mem_append_right _ (List.mem_append_right _ (List.mem_append_left _ (List.mem_of_getElem? h))), hg⟩
theorem tm_3 {w : Cond} (i : Nat) (h : tables_1_3[i]? = some w) (hg : goodWord w = true) : w ∈ tb := List.mem_filter.mpr ⟨List.mem_append_right _ (List.mem_append_right _ (List.mem_append_right _ (List.mem_append_left _ (List.mem_of_getElem? h)))), hg⟩
theorem tm_4 {w : Cond} (i : Nat) (h : tables_1_4[i]? = some w) (hg : goodWord w = true) : w ∈ tb := List.mem_filter.mpr ⟨List.mem_append_right _ (List.mem_append_right _ (List.mem_append_right _ (List.mem_append_right _ (List.mem_append_left _ (List.mem_of_getElem? h))))), hg⟩
theorem tm_5 {w : Cond} (i : Nat) (h : tables_1_5[i]? = some w) (hg : goodWord w = true) : w ∈ tb := List.mem_filter.mpr ⟨List.mem_append_right _ (List.mem_append_right _ (List.mem_append_right _ (List.mem_append_right _ (List.mem_append_right _ (List.mem_append_left _ (List.mem_of_getElem? h)))))), hg⟩
theorem tm_6 {w : Cond} (i : Nat) (h : tables_1_6[i]? = some w) (hg : goodWord w = true) : w ∈ tb := List.mem_filter.mpr ⟨List.mem_append_right _ (List.mem_append_right _ (List.mem_append_right _ (List.mem_append_right _ (List.mem_append_right _ (List.mem_append_right _ (List.mem_append_left _ (List.mem_of_getElem? h))))))), hg⟩
theorem tm_7 {w : Cond} (i : Nat) (h : tables_1_7[i]? = some w) (hg : goodWord w = true) : w ∈ tb := List.mem_filter.mpr ⟨List.mem_append_right _ (List.mem_append_right _ (List.mem_append_right _ (List.mem_append_right _ (List.mem_append_right _ (List.mem_append_right _ (List.mem_append_right _ (List.mem_of_getElem? h))))))), hg⟩
set_option maxRecDepth 30000 in
theorem l_L_101 : Cond.methodLink RL 101 yX7_book ∈ tb := tm_6 149 rfl rfl
set_option maxRecDepth 30000 in
theorem l_L_102 : Cond.methodLink RL 102 yX6_looked ∈ tb := tm_4 39 rfl rfl
set_option maxRecDepth 30000 in
theorem l_L_105 : Cond.methodLink RL 105 yX7_looked ∈ tb := tm_6 153 rfl rfl
set_option maxRecDepth 30000 in
theorem l_L_106 : Cond.methodLink RL 106 yX6_judge ∈ tb := tm_4 43 rfl rfl
set_option maxRecDepth 30000 in
theorem l_L_109 : Cond.methodLink RL 109 yX7_judge ∈ tb := tm_6 157 rfl rfl
set_option maxRecDepth 30000 in
theorem l_L_110 : Cond.methodLink RL 110 yX6_image ∈ tb := tm_4 51 rfl rfl
set_option maxRecDepth 30000 in
theorem l_L_113 : Cond.methodLink RL 113 yX7_image ∈ tb := tm_6 165 rfl rfl
set_option maxRecDepth 30000 in
theorem l_L_114 : Cond.methodLink RL 114 yX6_undo ∈ tb := tm_4 55 rfl rfl
set_option maxRecDepth 30000 in
theorem l_L_117 : Cond.methodLink RL 117 yX7_undo ∈ tb := tm_6 169 rfl rfl
set_option maxRecDepth 30000 in
theorem l_L_118 : Cond.methodLink RL 118 yX6_act ∈ tb := tm_4 59 rfl rfl
set_option maxRecDepth 30000 in
theorem l_L_12 : Cond.methodLink RL 12 yX7_init ∈ tb := tm_4 134 rfl rfl
set_option maxRecDepth 30000 in
theorem l_L_121 : Cond.methodLink RL 121 yX7_act ∈ tb := tm_6 173 rfl rfl
set_option maxRecDepth 30000 in
theorem l_L_122 : Cond.methodLink RL 122 yX6_trace ∈ tb := tm_4 84 rfl rfl
set_option maxRecDepth 30000 in
theorem l_L_125 : Cond.methodLink RL 125 yX7_trace ∈ tb := tm_6 209 rfl rfl
set_option maxRecDepth 30000 in
theorem l_L_126 : Cond.methodLink RL 126 yX6_taken ∈ tb := tm_4 88 rfl rfl
set_option maxRecDepth 30000 in
theorem l_L_129 : Cond.methodLink RL 129 yX7_taken ∈ tb := tm_6 213 rfl rfl
set_option maxRecDepth 30000 in
theorem l_L_13 : Cond.methodLink RL 13 yX6_eater ∈ tb := tm_2 78 rfl rfl
set_option maxRecDepth 30000 in
theorem l_L_130 : Cond.methodLink RL 130 yX6_count ∈ tb := tm_4 96 rfl rfl
set_option maxRecDepth 30000 in
theorem l_L_133 : Cond.methodLink RL 133 yX7_count ∈ tb := tm_6 217 rfl rfl
set_option maxRecDepth 30000 in
theorem l_L_134 : Cond.methodLink RL 134 yX6_tape ∈ tb := tm_4 100 rfl rfl
set_option maxRecDepth 30000 in
theorem l_L_137 : Cond.methodLink RL 137 yX7_tape ∈ tb := tm_6 221 rfl rfl
set_option maxRecDepth 30000 in
theorem n_L_138 : Cond.constantLong RL 138 (4294967295) ∈ tb := tm_7 1 rfl rfl
set_option maxRecDepth 30000 in
theorem l_L_140 : Cond.methodLink RL 140 yX6_item ∈ tb := tm_4 111 rfl rfl
set_option maxRecDepth 30000 in
theorem l_L_144 : Cond.methodLink RL 144 yX7_item ∈ tb := tm_6 225 rfl rfl
set_option maxRecDepth 30000 in
theorem l_L_145 : Cond.methodLink RL 145 yX6_read ∈ tb := tm_4 120 rfl rfl
set_option maxRecDepth 30000 in
theorem l_L_148 : Cond.methodLink RL 148 yX7_read ∈ tb := tm_6 233 rfl rfl
set_option maxRecDepth 30000 in
theorem l_L_149 : Cond.methodLink RL 149 yX6_shift ∈ tb := tm_4 124 rfl rfl
set_option maxRecDepth 30000 in
theorem l_L_153 : Cond.methodLink RL 153 yX7_shift ∈ tb := tm_6 237 rfl rfl
set_option maxRecDepth 30000 in
theorem l_L_17 : Cond.methodLink RL 17 yX7_eater ∈ tb := tm_5 98 rfl rfl
set_option maxRecDepth 30000 in
theorem l_L_18 : Cond.methodLink RL 18 yX6_of ∈ tb := tm_2 89 rfl rfl
set_option maxRecDepth 30000 in
theorem l_L_22 : Cond.methodLink RL 22 yX7_of ∈ tb := tm_6 42 rfl rfl
set_option maxRecDepth 30000 in
theorem l_L_23 : Cond.methodLink RL 23 yX6_hunger ∈ tb := tm_2 169 rfl rfl
set_option maxRecDepth 30000 in
theorem l_L_26 : Cond.methodLink RL 26 yX7_hunger ∈ tb := tm_5 110 rfl rfl
set_option maxRecDepth 30000 in
theorem l_L_27 : Cond.methodLink RL 27 yX6_row ∈ tb := tm_2 173 rfl rfl
set_option maxRecDepth 30000 in
theorem l_L_30 : Cond.methodLink RL 30 yX7_row ∈ tb := tm_5 118 rfl rfl
set_option maxRecDepth 30000 in
theorem l_L_31 : Cond.methodLink RL 31 yX6_bin ∈ tb := tm_2 177 rfl rfl
set_option maxRecDepth 30000 in
theorem l_L_35 : Cond.methodLink RL 35 yX7_bin ∈ tb := tm_5 122 rfl rfl
set_option maxRecDepth 30000 in
theorem l_L_36 : Cond.methodLink RL 36 yX6_feed ∈ tb := tm_2 181 rfl rfl
set_option maxRecDepth 30000 in
theorem l_L_39 : Cond.methodLink RL 39 yX7_feed ∈ tb := tm_5 126 rfl rfl
set_option maxRecDepth 30000 in
theorem l_L_40 : Cond.methodLink RL 40 yX6_house ∈ tb := tm_2 189 rfl rfl
set_option maxRecDepth 30000 in
theorem l_L_44 : Cond.methodLink RL 44 yX7_house ∈ tb := tm_5 130 rfl rfl
set_option maxRecDepth 30000 in
theorem l_L_45 : Cond.methodLink RL 45 yX6_told ∈ tb := tm_3 129 rfl rfl
set_option maxRecDepth 30000 in
theorem l_L_48 : Cond.methodLink RL 48 yX7_told ∈ tb := tm_6 47 rfl rfl
set_option maxRecDepth 30000 in
theorem l_L_49 : Cond.methodLink RL 49 yX6_supper ∈ tb := tm_3 133 rfl rfl
set_option maxRecDepth 30000 in
theorem l_L_52 : Cond.methodLink RL 52 yX7_supper ∈ tb := tm_5 194 rfl rfl
set_option maxRecDepth 30000 in
theorem l_L_53 : Cond.methodLink RL 53 yX6_run ∈ tb := tm_3 147 rfl rfl
set_option maxRecDepth 30000 in
theorem l_L_56 : Cond.methodLink RL 56 yX7_run ∈ tb := tm_6 51 rfl rfl
set_option maxRecDepth 30000 in
theorem l_L_57 : Cond.methodLink RL 57 yX6_round ∈ tb := tm_3 167 rfl rfl
set_option maxRecDepth 30000 in
theorem l_L_60 : Cond.methodLink RL 60 yX7_round ∈ tb := tm_6 68 rfl rfl
set_option maxRecDepth 30000 in
theorem l_L_61 : Cond.methodLink RL 61 yX6_still ∈ tb := tm_3 175 rfl rfl
set_option maxRecDepth 30000 in
theorem l_L_64 : Cond.methodLink RL 64 yX7_still ∈ tb := tm_6 76 rfl rfl
set_option maxRecDepth 30000 in
theorem l_L_65 : Cond.methodLink RL 65 yX6_allBest ∈ tb := tm_3 202 rfl rfl
set_option maxRecDepth 30000 in
theorem l_L_68 : Cond.methodLink RL 68 yX7_allBest ∈ tb := tm_6 96 rfl rfl
set_option maxRecDepth 30000 in
theorem l_L_69 : Cond.methodLink RL 69 yX6_laws ∈ tb := tm_3 210 rfl rfl
set_option maxRecDepth 30000 in
theorem l_L_72 : Cond.methodLink RL 72 yX7_laws ∈ tb := tm_6 100 rfl rfl
set_option maxRecDepth 30000 in
theorem l_L_73 : Cond.methodLink RL 73 yX6_cook ∈ tb := tm_3 218 rfl rfl
set_option maxRecDepth 30000 in
theorem l_L_76 : Cond.methodLink RL 76 yX7_cook ∈ tb := tm_6 108 rfl rfl
set_option maxRecDepth 30000 in
theorem l_L_77 : Cond.methodLink RL 77 yX6_thin ∈ tb := tm_3 222 rfl rfl
set_option maxRecDepth 30000 in
theorem l_L_80 : Cond.methodLink RL 80 yX7_thin ∈ tb := tm_6 116 rfl rfl
set_option maxRecDepth 30000 in
theorem l_L_81 : Cond.methodLink RL 81 yX6_pact ∈ tb := tm_3 234 rfl rfl
set_option maxRecDepth 30000 in
theorem l_L_84 : Cond.methodLink RL 84 yX7_pact ∈ tb := tm_6 124 rfl rfl
set_option maxRecDepth 30000 in
theorem l_L_85 : Cond.methodLink RL 85 yX6_guest ∈ tb := tm_4 4 rfl rfl
set_option maxRecDepth 30000 in
theorem l_L_88 : Cond.methodLink RL 88 yX7_guest ∈ tb := tm_6 128 rfl rfl
set_option maxRecDepth 30000 in
theorem l_L_89 : Cond.methodLink RL 89 yX6_odds ∈ tb := tm_4 8 rfl rfl
set_option maxRecDepth 30000 in
theorem l_L_9 : Cond.methodLink RL 9 yX6_init ∈ tb := tm_1 19 rfl rfl
set_option maxRecDepth 30000 in
theorem l_L_93 : Cond.methodLink RL 93 yX7_odds ∈ tb := tm_6 132 rfl rfl
set_option maxRecDepth 30000 in
theorem l_L_94 : Cond.methodLink RL 94 yX6_mean ∈ tb := tm_4 31 rfl rfl
set_option maxRecDepth 30000 in
theorem l_L_97 : Cond.methodLink RL 97 yX7_mean ∈ tb := tm_6 145 rfl rfl
set_option maxRecDepth 30000 in
theorem l_L_98 : Cond.methodLink RL 98 yX6_book ∈ tb := tm_4 35 rfl rfl
set_option maxRecDepth 30000 in
theorem k_X6_100 : FLK RX6 100 4 2 := tm_1 37 rfl rfl
set_option maxRecDepth 30000 in
theorem k_X6_103 : FLK RX6 103 4 3 := tm_1 40 rfl rfl
set_option maxRecDepth 30000 in
theorem k_X6_106 : FLK RX6 106 4 4 := tm_1 43 rfl rfl
set_option maxRecDepth 30000 in
theorem l_X6_109 : Cond.methodLink RX6 109 yX6_reckonedOf ∈ tb := tm_2 98 rfl rfl
set_option maxRecDepth 30000 in
theorem l_X6_11 : Cond.methodLink RX6 11 yX4_init ∈ tb := tm_1 27 rfl rfl
set_option maxRecDepth 30000 in
theorem l_X6_113 : Cond.methodLink RX6 113 yX6_holding ∈ tb := tm_2 102 rfl rfl
set_option maxRecDepth 30000 in
theorem l_X6_117 : Cond.methodLink RX6 117 yX3_begin ∈ tb := tm_2 106 rfl rfl
set_option maxRecDepth 30000 in
theorem k_X6_12 : FLK RX6 12 6 0 := tm_2 38 rfl rfl
set_option maxRecDepth 30000 in
theorem l_X6_121 : Cond.methodLink RX6 121 yX3_wishOf ∈ tb := tm_2 113 rfl rfl
set_option maxRecDepth 30000 in
theorem l_X6_125 : Cond.methodLink RX6 125 yX3_ask ∈ tb := tm_2 165 rfl rfl
set_option maxRecDepth 30000 in
theorem k_X6_128 : FLK RX6 128 4 5 := tm_1 46 rfl rfl
set_option maxRecDepth 30000 in
theorem k_X6_131 : FLK RX6 131 4 8 := tm_1 54 rfl rfl
set_option maxRecDepth 30000 in
theorem k_X6_134 : FLK RX6 134 2 1 := tm_1 217 rfl rfl
set_option maxRecDepth 30000 in
theorem l_X6_137 : Cond.methodLink RX6 137 yX2_append ∈ tb := tm_2 185 rfl rfl
set_option maxRecDepth 30000 in
theorem l_X6_141 : Cond.methodLink RX6 141 yX2_faultOf ∈ tb := tm_2 193 rfl rfl
set_option maxRecDepth 30000 in
theorem k_X6_145 : FLK RX6 145 4 12 := tm_1 64 rfl rfl
set_option maxRecDepth 30000 in
theorem k_X6_148 : FLK RX6 148 1 9 := tm_1 110 rfl rfl
set_option maxRecDepth 30000 in
theorem k_X6_151 : FLK RX6 151 1 10 := tm_1 113 rfl rfl
set_option maxRecDepth 30000 in
theorem k_X6_154 : FLK RX6 154 1 11 := tm_1 116 rfl rfl
set_option maxRecDepth 30000 in
theorem k_X6_157 : FLK RX6 157 4 9 := tm_1 57 rfl rfl
set_option maxRecDepth 30000 in
theorem k_X6_160 : FLK RX6 160 4 10 := tm_1 60 rfl rfl
set_option maxRecDepth 30000 in
theorem l_X6_163 : Cond.methodLink RX6 163 yX3_hold ∈ tb := tm_3 137 rfl rfl
set_option maxRecDepth 30000 in
theorem n_X6_166 : Cond.constant RX6 166 (-1000002) ∈ tb := tm_3 151 rfl rfl
set_option maxRecDepth 30000 in
theorem l_X6_167 : Cond.methodLink RX6 167 yX6_timesBaker ∈ tb := tm_3 152 rfl rfl
set_option maxRecDepth 30000 in
theorem l_X6_170 : Cond.methodLink RX6 170 yX6_ahead ∈ tb := tm_3 163 rfl rfl
set_option maxRecDepth 30000 in
theorem l_X6_174 : Cond.methodLink RX6 174 yX4_becomes ∈ tb := tm_3 156 rfl rfl
set_option maxRecDepth 30000 in
theorem l_X6_178 : Cond.methodLink RX6 178 yX4_looksLike ∈ tb := tm_3 171 rfl rfl
set_option maxRecDepth 30000 in
theorem k_X6_18 : FLK RX6 18 6 1 := tm_2 39 rfl rfl
set_option maxRecDepth 30000 in
theorem l_X6_182 : Cond.methodLink RX6 182 yX6_rowsInAll ∈ tb := tm_3 179 rfl rfl
set_option maxRecDepth 30000 in
theorem l_X6_186 : Cond.methodLink RX6 186 yX6_becomesRow ∈ tb := tm_3 183 rfl rfl
set_option maxRecDepth 30000 in
theorem l_X6_189 : Cond.methodLink RX6 189 yX6_nobodyGains ∈ tb := tm_3 187 rfl rfl
set_option maxRecDepth 30000 in
theorem l_X6_193 : Cond.methodLink RX6 193 yX6_keepIf ∈ tb := tm_3 197 rfl rfl
set_option maxRecDepth 30000 in
theorem l_X6_197 : Cond.methodLink RX6 197 yX3_serve ∈ tb := tm_3 195 rfl rfl
set_option maxRecDepth 30000 in
theorem l_X6_201 : Cond.methodLink RX6 201 yX3_haveTogether ∈ tb := tm_3 206 rfl rfl
set_option maxRecDepth 30000 in
theorem l_X6_204 : ACW RX6 204 := tm_3 201 rfl rfl
set_option maxRecDepth 30000 in
theorem k_X6_21 : FLK RX6 21 6 2 := tm_2 40 rfl rfl
set_option maxRecDepth 30000 in
theorem l_X6_210 : Cond.methodLink RX6 210 yX6_gains ∈ tb := tm_3 191 rfl rfl
set_option maxRecDepth 30000 in
theorem l_X6_213 : Cond.methodLink RX6 213 yX3_has ∈ tb := tm_3 196 rfl rfl
set_option maxRecDepth 30000 in
theorem k_X6_216 : FLK RX6 216 3 13 := tm_1 167 rfl rfl
set_option maxRecDepth 30000 in
theorem l_X6_219 : Cond.methodLink RX6 219 yX4_gladTogether ∈ tb := tm_3 214 rfl rfl
set_option maxRecDepth 30000 in
theorem k_X6_222 : FLK RX6 222 3 14 := tm_1 169 rfl rfl
set_option maxRecDepth 30000 in
theorem l_X6_225 : Cond.methodLink RX6 225 yX6_lasts ∈ tb := tm_3 226 rfl rfl
set_option maxRecDepth 30000 in
theorem l_X6_228 : Cond.methodLink RX6 228 yX3_someoneWentShort ∈ tb := tm_3 230 rfl rfl
set_option maxRecDepth 30000 in
theorem l_X6_231 : Cond.methodLink RX6 231 yJ9_min_7cf53 ∈ tb := tm_3 238 rfl rfl
set_option maxRecDepth 30000 in
theorem l_X6_236 : Cond.methodLink RX6 236 yJ9_max_7cf53 ∈ tb := tm_3 239 rfl rfl
set_option maxRecDepth 30000 in
theorem l_X6_239 : Cond.methodLink RX6 239 yX3_agree ∈ tb := tm_4 0 rfl rfl
set_option maxRecDepth 30000 in
theorem n_X6_243 : Cond.constantLong RX6 243 (-9223372036854775808) ∈ tb := tm_4 12 rfl rfl
set_option maxRecDepth 30000 in
theorem l_X6_245 : Cond.methodLink RX6 245 yX3_isLikeBaker ∈ tb := tm_4 13 rfl rfl
set_option maxRecDepth 30000 in
theorem l_X6_248 : Cond.methodLink RX6 248 yX3_likeBaker ∈ tb := tm_4 17 rfl rfl
set_option maxRecDepth 30000 in
theorem l_X6_251 : Cond.methodLink RX6 251 yX6_fraction ∈ tb := tm_4 22 rfl rfl
set_option maxRecDepth 30000 in
theorem l_X6_255 : Cond.methodLink RX6 255 yJ9_abs_067f4 ∈ tb := tm_4 25 rfl rfl
set_option maxRecDepth 30000 in
theorem l_X6_259 : Cond.methodLink RX6 259 yJ9_max_f86c9 ∈ tb := tm_4 28 rfl rfl
set_option maxRecDepth 30000 in
theorem l_X6_26 : Cond.methodLink RX6 26 yX1_init ∈ tb := tm_1 95 rfl rfl
set_option maxRecDepth 30000 in
theorem k_X6_262 : FLK RX6 262 4 11 := tm_1 62 rfl rfl
set_option maxRecDepth 30000 in
theorem k_X6_265 : FLK RX6 265 4 6 := tm_1 48 rfl rfl
set_option maxRecDepth 30000 in
theorem k_X6_268 : FLK RX6 268 5 1 := tm_2 27 rfl rfl
set_option maxRecDepth 30000 in
theorem k_X6_27 : FLK RX6 27 6 3 := tm_2 41 rfl rfl
set_option maxRecDepth 30000 in
theorem k_X6_271 : FLK RX6 271 5 2 := tm_2 29 rfl rfl
set_option maxRecDepth 30000 in
theorem l_X6_272 : Cond.methodLink RX6 272 yX5_has ∈ tb := tm_4 47 rfl rfl
set_option maxRecDepth 30000 in
theorem k_X6_274 : FLK RX6 274 5 0 := tm_2 25 rfl rfl
set_option maxRecDepth 30000 in
theorem k_X6_278 : FLK RX6 278 0 1 := tm_2 2 rfl rfl
set_option maxRecDepth 30000 in
theorem l_X6_281 : Cond.methodLink RX6 281 yX0_does ∈ tb := tm_4 63 rfl rfl
set_option maxRecDepth 30000 in
theorem k_X6_285 : FLK RX6 285 0 0 := tm_2 0 rfl rfl
set_option maxRecDepth 30000 in
theorem l_X6_288 : Cond.methodLink RX6 288 yX0_isUnder ∈ tb := tm_4 92 rfl rfl
set_option maxRecDepth 30000 in
theorem l_X6_291 : Cond.methodLink RX6 291 yX5_becomesEmpty ∈ tb := tm_4 104 rfl rfl
set_option maxRecDepth 30000 in
theorem l_X6_294 : Cond.methodLink RX6 294 yX5_put ∈ tb := tm_4 115 rfl rfl
set_option maxRecDepth 30000 in
theorem l_X6_298 : Cond.methodLink RX6 298 yX5_hasStretch ∈ tb := tm_4 128 rfl rfl
set_option maxRecDepth 30000 in
theorem k_X6_31 : FLK RX6 31 6 4 := tm_2 42 rfl rfl
set_option maxRecDepth 30000 in
theorem l_X6_37 : Cond.methodLink RX6 37 yX3_init ∈ tb := tm_1 145 rfl rfl
set_option maxRecDepth 30000 in
theorem k_X6_38 : FLK RX6 38 6 5 := tm_2 43 rfl rfl
set_option maxRecDepth 30000 in
theorem l_X6_44 : Cond.methodLink RX6 44 yX2_init ∈ tb := tm_1 209 rfl rfl
set_option maxRecDepth 30000 in
theorem k_X6_45 : FLK RX6 45 6 6 := tm_2 44 rfl rfl
set_option maxRecDepth 30000 in
theorem l_X6_51 : Cond.methodLink RX6 51 yX0_init ∈ tb := tm_1 235 rfl rfl
set_option maxRecDepth 30000 in
theorem k_X6_52 : FLK RX6 52 6 7 := tm_2 45 rfl rfl
set_option maxRecDepth 30000 in
theorem k_X6_58 : FLK RX6 58 6 8 := tm_2 46 rfl rfl
set_option maxRecDepth 30000 in
theorem k_X6_62 : FLK RX6 62 6 9 := tm_2 47 rfl rfl
set_option maxRecDepth 30000 in
theorem k_X6_66 : FLK RX6 66 6 10 := tm_2 48 rfl rfl
set_option maxRecDepth 30000 in
theorem k_X6_69 : FLK RX6 69 6 11 := tm_2 49 rfl rfl
set_option maxRecDepth 30000 in
theorem k_X6_73 : FLK RX6 73 6 12 := tm_2 50 rfl rfl
set_option maxRecDepth 30000 in
theorem l_X6_77 : Cond.methodLink RX6 77 yX5_init ∈ tb := tm_2 20 rfl rfl
set_option maxRecDepth 30000 in
theorem l_X6_78 : Cond.methodLink RX6 78 yX6_within ∈ tb := tm_2 82 rfl rfl
set_option maxRecDepth 30000 in
theorem k_X6_82 : FLK RX6 82 4 7 := tm_1 50 rfl rfl
set_option maxRecDepth 30000 in
theorem l_X6_85 : Cond.methodLink RX6 85 yX4_seat ∈ tb := tm_2 85 rfl rfl
set_option maxRecDepth 30000 in
theorem l_X6_89 : Cond.methodLink RX6 89 yX6_isEater ∈ tb := tm_2 93 rfl rfl
set_option maxRecDepth 30000 in
theorem n_X6_93 : Cond.constant RX6 93 (-1000001) ∈ tb := tm_2 97 rfl rfl
set_option maxRecDepth 30000 in
theorem k_X6_94 : FLK RX6 94 4 0 := tm_1 32 rfl rfl
set_option maxRecDepth 30000 in
theorem k_X6_97 : FLK RX6 97 4 1 := tm_1 35 rfl rfl
set_option maxRecDepth 30000 in
theorem k_X4_15 : FLK RX4 15 4 1 := tm_1 34 rfl rfl
set_option maxRecDepth 30000 in
theorem k_X4_18 : FLK RX4 18 4 2 := tm_1 36 rfl rfl
set_option maxRecDepth 30000 in
theorem k_X4_21 : FLK RX4 21 4 3 := tm_1 39 rfl rfl
set_option maxRecDepth 30000 in
theorem k_X4_24 : FLK RX4 24 4 4 := tm_1 42 rfl rfl
set_option maxRecDepth 30000 in
theorem k_X4_27 : FLK RX4 27 4 5 := tm_1 45 rfl rfl
set_option maxRecDepth 30000 in
theorem k_X4_30 : FLK RX4 30 4 6 := tm_1 47 rfl rfl
set_option maxRecDepth 30000 in
theorem k_X4_33 : FLK RX4 33 4 7 := tm_1 49 rfl rfl
set_option maxRecDepth 30000 in
theorem k_X4_37 : FLK RX4 37 4 8 := tm_1 52 rfl rfl
set_option maxRecDepth 30000 in
theorem k_X4_40 : FLK RX4 40 4 9 := tm_1 55 rfl rfl
set_option maxRecDepth 30000 in
theorem k_X4_43 : FLK RX4 43 4 10 := tm_1 58 rfl rfl
set_option maxRecDepth 30000 in
theorem k_X4_46 : FLK RX4 46 4 11 := tm_1 61 rfl rfl
set_option maxRecDepth 30000 in
theorem k_X4_49 : FLK RX4 49 4 12 := tm_1 63 rfl rfl
set_option maxRecDepth 30000 in
theorem l_X4_52 : ACW RX4 52 := tm_3 160 rfl rfl
set_option maxRecDepth 30000 in
theorem l_X4_58 : Cond.methodLink RX4 58 yJ9_min_7cf53 ∈ tb := tm_2 121 rfl rfl
set_option maxRecDepth 30000 in
theorem l_X4_64 : Cond.methodLink RX4 64 yX4_crumbMore ∈ tb := tm_2 124 rfl rfl
set_option maxRecDepth 30000 in
theorem l_X4_68 : Cond.methodLink RX4 68 yJ9_max_7cf53 ∈ tb := tm_2 128 rfl rfl
set_option maxRecDepth 30000 in
theorem k_X4_9 : FLK RX4 9 4 0 := tm_1 31 rfl rfl
set_option maxRecDepth 30000 in
theorem l_X3_100 : Cond.methodLink RX3 100 yX3_serve ∈ tb := tm_2 131 rfl rfl
set_option maxRecDepth 30000 in
theorem k_X3_104 : FLK RX3 104 4 3 := tm_1 41 rfl rfl
set_option maxRecDepth 30000 in
theorem k_X3_107 : FLK RX3 107 4 4 := tm_1 44 rfl rfl
set_option maxRecDepth 30000 in
theorem l_X3_110 : Cond.methodLink RX3 110 yX3_has ∈ tb := tm_2 149 rfl rfl
set_option maxRecDepth 30000 in
theorem k_X3_113 : FLK RX3 113 1 9 := tm_1 109 rfl rfl
set_option maxRecDepth 30000 in
theorem l_X3_116 : Cond.methodLink RX3 116 yJ9_min_7cf53 ∈ tb := tm_2 135 rfl rfl
set_option maxRecDepth 30000 in
theorem k_X3_122 : FLK RX3 122 4 10 := tm_1 59 rfl rfl
set_option maxRecDepth 30000 in
theorem k_X3_123 : FLK RX3 123 4 0 := tm_1 33 rfl rfl
set_option maxRecDepth 30000 in
theorem l_X3_126 : Cond.methodLink RX3 126 yX4_plainWish ∈ tb := tm_2 117 rfl rfl
set_option maxRecDepth 30000 in
theorem k_X3_129 : FLK RX3 129 1 11 := tm_1 115 rfl rfl
set_option maxRecDepth 30000 in
theorem l_X3_132 : Cond.methodLink RX3 132 yJ9_max_7cf53 ∈ tb := tm_2 136 rfl rfl
set_option maxRecDepth 30000 in
theorem l_X3_135 : Cond.methodLink RX3 135 yX3_middle ∈ tb := tm_2 137 rfl rfl
set_option maxRecDepth 30000 in
theorem l_X3_139 : Cond.methodLink RX3 139 yX3_outermost ∈ tb := tm_2 145 rfl rfl
set_option maxRecDepth 30000 in
theorem l_X3_142 : Cond.methodLink RX3 142 yX3_placeOf ∈ tb := tm_2 141 rfl rfl
set_option maxRecDepth 30000 in
theorem l_X3_145 : Cond.methodLink RX3 145 yX3_isLikeBaker ∈ tb := tm_4 21 rfl rfl
set_option maxRecDepth 30000 in
theorem l_X3_149 : Cond.methodLink RX3 149 yX3_turnTo ∈ tb := tm_2 153 rfl rfl
set_option maxRecDepth 30000 in
theorem k_X3_15 : FLK RX3 15 3 1 := tm_1 154 rfl rfl
set_option maxRecDepth 30000 in
theorem l_X3_153 : Cond.methodLink RX3 153 yX1_together ∈ tb := tm_2 157 rfl rfl
set_option maxRecDepth 30000 in
theorem k_X3_157 : FLK RX3 157 4 2 := tm_1 38 rfl rfl
set_option maxRecDepth 30000 in
theorem k_X3_18 : FLK RX3 18 3 2 := tm_1 155 rfl rfl
set_option maxRecDepth 30000 in
theorem k_X3_21 : FLK RX3 21 3 3 := tm_1 156 rfl rfl
set_option maxRecDepth 30000 in
theorem k_X3_24 : FLK RX3 24 3 4 := tm_1 157 rfl rfl
set_option maxRecDepth 30000 in
theorem k_X3_27 : FLK RX3 27 3 5 := tm_1 158 rfl rfl
set_option maxRecDepth 30000 in
theorem k_X3_30 : FLK RX3 30 3 6 := tm_1 159 rfl rfl
set_option maxRecDepth 30000 in
theorem k_X3_33 : FLK RX3 33 3 7 := tm_1 160 rfl rfl
set_option maxRecDepth 30000 in
theorem l_X3_38 : Cond.methodLink RX3 38 yX4_init ∈ tb := tm_1 150 rfl rfl
set_option maxRecDepth 30000 in
theorem k_X3_39 : FLK RX3 39 3 8 := tm_1 161 rfl rfl
set_option maxRecDepth 30000 in
theorem l_X3_45 : Cond.methodLink RX3 45 yX1_init ∈ tb := tm_1 152 rfl rfl
set_option maxRecDepth 30000 in
theorem k_X3_46 : FLK RX3 46 3 9 := tm_1 162 rfl rfl
set_option maxRecDepth 30000 in
theorem k_X3_50 : FLK RX3 50 3 10 := tm_1 163 rfl rfl
set_option maxRecDepth 30000 in
theorem k_X3_54 : FLK RX3 54 3 11 := tm_1 164 rfl rfl
set_option maxRecDepth 30000 in
theorem k_X3_57 : FLK RX3 57 3 12 := tm_1 165 rfl rfl
set_option maxRecDepth 30000 in
theorem k_X3_60 : FLK RX3 60 3 13 := tm_1 166 rfl rfl
set_option maxRecDepth 30000 in
theorem k_X3_63 : FLK RX3 63 3 14 := tm_1 168 rfl rfl
set_option maxRecDepth 30000 in
theorem k_X3_67 : FLK RX3 67 3 15 := tm_1 170 rfl rfl
set_option maxRecDepth 30000 in
theorem k_X3_70 : FLK RX3 70 3 16 := tm_1 171 rfl rfl
set_option maxRecDepth 30000 in
theorem k_X3_73 : FLK RX3 73 1 10 := tm_1 112 rfl rfl
set_option maxRecDepth 30000 in
theorem k_X3_74 : FLK RX3 74 4 8 := tm_1 53 rfl rfl
set_option maxRecDepth 30000 in
theorem k_X3_77 : FLK RX3 77 4 9 := tm_1 56 rfl rfl
set_option maxRecDepth 30000 in
theorem l_X3_80 : Cond.methodLink RX3 80 yJ7_fill_53178 ∈ tb := tm_2 110 rfl rfl
set_option maxRecDepth 30000 in
theorem k_X3_86 : FLK RX3 86 4 7 := tm_1 51 rfl rfl
set_option maxRecDepth 30000 in
theorem l_X3_89 : Cond.methodLink RX3 89 yX3_begin ∈ tb := tm_3 141 rfl rfl
set_option maxRecDepth 30000 in
theorem k_X3_9 : FLK RX3 9 3 0 := tm_1 153 rfl rfl
set_option maxRecDepth 30000 in
theorem l_X3_93 : Cond.methodLink RX3 93 yX3_wishOf ∈ tb := tm_3 142 rfl rfl
set_option maxRecDepth 30000 in
theorem l_X3_97 : Cond.methodLink RX3 97 yX3_keepPact ∈ tb := tm_3 143 rfl rfl
set_option maxRecDepth 30000 in
theorem k_X1_15 : FLK RX1 15 1 1 := tm_1 100 rfl rfl
set_option maxRecDepth 30000 in
theorem k_X1_18 : FLK RX1 18 1 2 := tm_1 101 rfl rfl
set_option maxRecDepth 30000 in
theorem k_X1_21 : FLK RX1 21 1 3 := tm_1 102 rfl rfl
set_option maxRecDepth 30000 in
theorem k_X1_24 : FLK RX1 24 1 4 := tm_1 103 rfl rfl
set_option maxRecDepth 30000 in
theorem k_X1_27 : FLK RX1 27 1 5 := tm_1 104 rfl rfl
set_option maxRecDepth 30000 in
theorem k_X1_30 : FLK RX1 30 1 6 := tm_1 105 rfl rfl
set_option maxRecDepth 30000 in
theorem k_X1_33 : FLK RX1 33 1 7 := tm_1 106 rfl rfl
set_option maxRecDepth 30000 in
theorem k_X1_37 : FLK RX1 37 1 8 := tm_1 107 rfl rfl
set_option maxRecDepth 30000 in
theorem k_X1_40 : FLK RX1 40 1 9 := tm_1 108 rfl rfl
set_option maxRecDepth 30000 in
theorem k_X1_43 : FLK RX1 43 1 10 := tm_1 111 rfl rfl
set_option maxRecDepth 30000 in
theorem k_X1_46 : FLK RX1 46 1 11 := tm_1 114 rfl rfl
set_option maxRecDepth 30000 in
theorem l_X1_49 : Cond.methodLink RX1 49 yJ9_max_7cf53 ∈ tb := tm_3 127 rfl rfl
set_option maxRecDepth 30000 in
theorem l_X1_55 : Cond.methodLink RX1 55 yX1_holds ∈ tb := tm_2 161 rfl rfl
set_option maxRecDepth 30000 in
theorem k_X1_9 : FLK RX1 9 1 0 := tm_1 99 rfl rfl
set_option maxRecDepth 30000 in
theorem l_X2_100 : Cond.methodLink RX2 100 yX2_readOne ∈ tb := tm_3 50 rfl rfl
set_option maxRecDepth 30000 in
theorem l_X2_103 : Cond.methodLink RX2 103 yX2_readTest ∈ tb := tm_3 54 rfl rfl
set_option maxRecDepth 30000 in
theorem l_X2_108 : Cond.methodLink RX2 108 yJ0_indexOf_0f7a4 ∈ tb := tm_3 59 rfl rfl
set_option maxRecDepth 30000 in
theorem l_X2_114 : Cond.methodLink RX2 114 yX1_addTest ∈ tb := tm_3 115 rfl rfl
set_option maxRecDepth 30000 in
theorem k_X2_15 : FLK RX2 15 2 1 := tm_1 216 rfl rfl
set_option maxRecDepth 30000 in
theorem k_X2_19 : FLK RX2 19 2 2 := tm_1 218 rfl rfl
set_option maxRecDepth 30000 in
theorem k_X2_22 : FLK RX2 22 2 3 := tm_1 219 rfl rfl
set_option maxRecDepth 30000 in
theorem l_X2_27 : Cond.methodLink RX2 27 yX1_init ∈ tb := tm_1 214 rfl rfl
set_option maxRecDepth 30000 in
theorem k_X2_28 : FLK RX2 28 2 4 := tm_1 220 rfl rfl
set_option maxRecDepth 30000 in
theorem l_X2_32 : Cond.methodLink RX2 32 yX1_clear ∈ tb := tm_2 197 rfl rfl
set_option maxRecDepth 30000 in
theorem l_X2_35 : Cond.methodLink RX2 35 yX2_readClause ∈ tb := tm_2 201 rfl rfl
set_option maxRecDepth 30000 in
theorem l_X2_39 : Cond.methodLink RX2 39 yX2_sees ∈ tb := tm_3 34 rfl rfl
set_option maxRecDepth 30000 in
theorem l_X2_43 : Cond.methodLink RX2 43 yX2_readWord ∈ tb := tm_2 205 rfl rfl
set_option maxRecDepth 30000 in
theorem l_X2_47 : Cond.methodLink RX2 47 yX2_takes ∈ tb := tm_3 30 rfl rfl
set_option maxRecDepth 30000 in
theorem l_X2_50 : Cond.methodLink RX2 50 yX2_readNumber ∈ tb := tm_3 38 rfl rfl
set_option maxRecDepth 30000 in
theorem l_X2_53 : Cond.methodLink RX2 53 yX2_readEither ∈ tb := tm_3 42 rfl rfl
set_option maxRecDepth 30000 in
theorem l_X2_57 : Cond.methodLink RX2 57 yX1_addClause ∈ tb := tm_3 123 rfl rfl
set_option maxRecDepth 30000 in
theorem l_X2_61 : Cond.methodLink RX2 61 yX2_wordOf ∈ tb := tm_2 209 rfl rfl
set_option maxRecDepth 30000 in
theorem l_X2_65 : Cond.methodLink RX2 65 yX2_alike ∈ tb := tm_2 217 rfl rfl
set_option maxRecDepth 30000 in
theorem l_X2_69 : Cond.methodLink RX2 69 yJ0_length_8abf5 ∈ tb := tm_2 221 rfl rfl
set_option maxRecDepth 30000 in
theorem l_X2_73 : Cond.methodLink RX2 73 yJ9_max_7cf53 ∈ tb := tm_3 29 rfl rfl
set_option maxRecDepth 30000 in
theorem l_X2_89 : Cond.methodLink RX2 89 yJ0_charAt_5068e ∈ tb := tm_2 231 rfl rfl
set_option maxRecDepth 30000 in
theorem k_X2_9 : FLK RX2 9 2 0 := tm_1 215 rfl rfl
set_option maxRecDepth 30000 in
theorem l_X2_93 : Cond.methodLink RX2 93 yX2_readBoth ∈ tb := tm_3 46 rfl rfl
set_option maxRecDepth 30000 in
theorem l_X2_96 : Cond.methodLink RX2 96 yX1_addSign ∈ tb := tm_3 119 rfl rfl
set_option maxRecDepth 30000 in
theorem k_X0_15 : FLK RX0 15 0 1 := tm_2 1 rfl rfl
set_option maxRecDepth 30000 in
theorem k_X0_19 : FLK RX0 19 0 2 := tm_2 3 rfl rfl
set_option maxRecDepth 30000 in
theorem k_X0_22 : FLK RX0 22 0 3 := tm_2 4 rfl rfl
set_option maxRecDepth 30000 in
theorem k_X0_25 : FLK RX0 25 0 4 := tm_2 5 rfl rfl
set_option maxRecDepth 30000 in
theorem l_X0_28 : Cond.methodLink RX0 28 yX0_own ∈ tb := tm_4 67 rfl rfl
set_option maxRecDepth 30000 in
theorem k_X0_32 : GSW RX0 32 "AteLeast$Acts" "ABOVE" "[I" := tm_4 81 rfl rfl
set_option maxRecDepth 30000 in
theorem k_X0_35 : GSW RX0 35 "AteLeast$Acts" "BODY" "[I" := tm_4 71 rfl rfl
set_option maxRecDepth 30000 in
theorem l_X0_38 : Cond.methodLink RX0 38 yX0_runs ∈ tb := tm_4 73 rfl rfl
set_option maxRecDepth 30000 in
theorem l_X0_41 : Cond.methodLink RX0 41 yJ9_max_7cf53 ∈ tb := tm_4 83 rfl rfl
set_option maxRecDepth 30000 in
theorem l_X0_47 : Cond.methodLink RX0 47 yX0_above ∈ tb := tm_4 77 rfl rfl
set_option maxRecDepth 30000 in
theorem k_X0_9 : FLK RX0 9 0 0 := tm_1 239 rfl rfl
set_option maxRecDepth 30000 in
theorem k_X5_15 : FLK RX5 15 5 1 := tm_2 26 rfl rfl
set_option maxRecDepth 30000 in
theorem k_X5_19 : FLK RX5 19 5 2 := tm_2 28 rfl rfl
set_option maxRecDepth 30000 in
theorem l_X5_22 : Cond.methodLink RX5 22 yJ7_fill_d0a16 ∈ tb := tm_4 108 rfl rfl
set_option maxRecDepth 30000 in
theorem l_X5_28 : Cond.methodLink RX5 28 yX5_has ∈ tb := tm_4 119 rfl rfl
set_option maxRecDepth 30000 in
theorem k_X5_9 : FLK RX5 9 5 0 := tm_2 24 rfl rfl
set_option maxRecDepth 30000 in
theorem k_J0_1053 : GSW RJ0 1053 "jdk/internal/util/Preconditions" "SIOOBE_FORMATTER" "Ljava/util/function/BiFunction;" := tm_3 5 rfl rfl
set_option maxRecDepth 30000 in
theorem l_J0_1059 : Cond.methodLink RJ0 1059 yJ3_checkIndex_8e157 ∈ tb := tm_3 7 rfl rfl
set_option maxRecDepth 30000 in
theorem l_J0_1062 : Cond.methodLink RJ0 1062 yJ3_checkFromToIndex_8c36e ∈ tb := tm_3 94 rfl rfl
set_option maxRecDepth 30000 in
theorem k_J0_15 : GSW RJ0 15 "java/lang/String" "coder" "B" := tm_7 3 rfl rfl
set_option maxRecDepth 30000 in
theorem l_J0_335 : Cond.methodLink RJ0 335 yJ0_coder_7d493 ∈ tb := tm_2 225 rfl rfl
set_option maxRecDepth 30000 in
theorem k_J0_38 : GSW RJ0 38 "java/lang/String" "COMPACT_STRINGS" "Z" := tm_2 229 rfl rfl
set_option maxRecDepth 30000 in
theorem l_J0_492 : Cond.methodLink RJ0 492 yJ0_isLatin1_aae02 ∈ tb := tm_2 235 rfl rfl
set_option maxRecDepth 30000 in
theorem l_J0_495 : Cond.methodLink RJ0 495 yJ1_charAt_3b067 ∈ tb := tm_2 239 rfl rfl
set_option maxRecDepth 30000 in
theorem l_J0_498 : Cond.methodLink RJ0 498 yJ2_charAt_3b067 ∈ tb := tm_3 10 rfl rfl
set_option maxRecDepth 30000 in
theorem l_J0_505 : Cond.methodLink RJ0 505 yJ0_length_8abf5 ∈ tb := tm_3 67 rfl rfl
set_option maxRecDepth 30000 in
theorem l_J0_633 : Cond.methodLink RJ0 633 yJ0_indexOf_7cf53 ∈ tb := tm_3 63 rfl rfl
set_option maxRecDepth 30000 in
theorem l_J0_637 : Cond.methodLink RJ0 637 yJ1_indexOf_4cfef ∈ tb := tm_3 68 rfl rfl
set_option maxRecDepth 30000 in
theorem l_J0_640 : Cond.methodLink RJ0 640 yJ2_indexOf_4cfef ∈ tb := tm_3 79 rfl rfl
set_option maxRecDepth 30000 in
theorem k_J0_9 : GSW RJ0 9 "java/lang/String" "value" "[B" := tm_7 2 rfl rfl
set_option maxRecDepth 30000 in
theorem l_J1_38 : Cond.methodLink RJ1 38 yJ9_min_7cf53 ∈ tb := tm_3 75 rfl rfl
set_option maxRecDepth 30000 in
theorem l_J1_88 : Cond.methodLink RJ1 88 yJ1_canEncode_9a6ad ∈ tb := tm_3 71 rfl rfl
set_option maxRecDepth 30000 in
theorem l_J1_9 : Cond.methodLink RJ1 9 yJ0_checkIndex_df160 ∈ tb := tm_3 2 rfl rfl
set_option maxRecDepth 30000 in
theorem l_J1_92 : Cond.methodLink RJ1 92 yJ9_max_7cf53 ∈ tb := tm_3 74 rfl rfl
set_option maxRecDepth 30000 in
theorem l_J1_95 : Cond.methodLink RJ1 95 yJ1_indexOfChar_4cfef ∈ tb := tm_3 76 rfl rfl
set_option maxRecDepth 30000 in
theorem l_J2_157 : Cond.methodLink RJ2 157 yJ11_highSurrogate_5068e ∈ tb := tm_3 106 rfl rfl
set_option maxRecDepth 30000 in
theorem l_J2_161 : Cond.methodLink RJ2 161 yJ11_lowSurrogate_5068e ∈ tb := tm_3 110 rfl rfl
set_option maxRecDepth 30000 in
theorem l_J2_164 : Cond.methodLink RJ2 164 yJ11_isValidCodePoint_9a6ad ∈ tb := tm_3 103 rfl rfl
set_option maxRecDepth 30000 in
theorem l_J2_183 : Cond.methodLink RJ2 183 yJ9_min_7cf53 ∈ tb := tm_3 83 rfl rfl
set_option maxRecDepth 30000 in
theorem l_J2_224 : Cond.methodLink RJ2 224 yJ9_max_7cf53 ∈ tb := tm_3 82 rfl rfl
set_option maxRecDepth 30000 in
theorem n_J2_227 : Cond.constant RJ2 227 (65536) ∈ tb := tm_3 84 rfl rfl
set_option maxRecDepth 30000 in
theorem l_J2_228 : Cond.methodLink RJ2 228 yJ2_indexOfChar_4cfef ∈ tb := tm_3 85 rfl rfl
set_option maxRecDepth 30000 in
theorem l_J2_232 : Cond.methodLink RJ2 232 yJ2_indexOfSupplementary_4cfef ∈ tb := tm_3 100 rfl rfl
set_option maxRecDepth 30000 in
theorem l_J2_241 : Cond.methodLink RJ2 241 yJ0_checkBoundsBeginEnd_23922 ∈ tb := tm_3 91 rfl rfl
set_option maxRecDepth 30000 in
theorem l_J2_244 : Cond.methodLink RJ2 244 yJ2_indexOfCharUnsafe_4cfef ∈ tb := tm_3 97 rfl rfl
set_option maxRecDepth 30000 in
theorem l_J2_414 : Cond.methodLink RJ2 414 yJ0_checkIndex_df160 ∈ tb := tm_3 19 rfl rfl
set_option maxRecDepth 30000 in
theorem k_J2_44 : GSW RJ2 44 "java/lang/StringUTF16" "$assertionsDisabled" "Z" := tm_3 23 rfl rfl
set_option maxRecDepth 30000 in
theorem l_J2_48 : Cond.methodLink RJ2 48 yJ2_length_9d52b ∈ tb := tm_3 16 rfl rfl
set_option maxRecDepth 30000 in
theorem k_J2_59 : GSW RJ2 59 "java/lang/StringUTF16" "HI_BYTE_SHIFT" "I" := tm_3 25 rfl rfl
set_option maxRecDepth 30000 in
theorem k_J2_63 : GSW RJ2 63 "java/lang/StringUTF16" "LO_BYTE_SHIFT" "I" := tm_3 27 rfl rfl
set_option maxRecDepth 30000 in
theorem l_J2_67 : Cond.methodLink RJ2 67 yJ2_checkIndex_2214a ∈ tb := tm_3 13 rfl rfl
set_option maxRecDepth 30000 in
theorem l_J2_71 : Cond.methodLink RJ2 71 yJ2_getChar_3b067 ∈ tb := tm_3 20 rfl rfl
set_option maxRecDepth 30000 in
theorem l_J2_96 : Cond.methodLink RJ2 96 yJ2_checkBoundsBeginEnd_d044e ∈ tb := tm_3 88 rfl rfl
set_option maxRecDepth 30000 in
theorem n_J11_110 : Cond.constant RJ11 110 (55232) ∈ tb := tm_3 109 rfl rfl
set_option maxRecDepth 30000 in
theorem n_J11_76 : Cond.constant RJ11 76 (56320) ∈ tb := tm_3 113 rfl rfl
set_option maxRecDepth 30000 in
theorem k_X7_100 : FLK RX7 100 7 29 := tm_4 167 rfl rfl
set_option maxRecDepth 30000 in
theorem k_X7_103 : FLK RX7 103 7 30 := tm_4 168 rfl rfl
set_option maxRecDepth 30000 in
theorem k_X7_106 : FLK RX7 106 7 31 := tm_4 169 rfl rfl
set_option maxRecDepth 30000 in
theorem k_X7_109 : FLK RX7 109 7 32 := tm_4 170 rfl rfl
set_option maxRecDepth 30000 in
theorem k_X7_112 : FLK RX7 112 7 33 := tm_4 171 rfl rfl
set_option maxRecDepth 30000 in
theorem k_X7_115 : FLK RX7 115 7 34 := tm_4 172 rfl rfl
set_option maxRecDepth 30000 in
theorem k_X7_118 : FLK RX7 118 7 35 := tm_4 173 rfl rfl
set_option maxRecDepth 30000 in
theorem k_X7_121 : FLK RX7 121 7 36 := tm_4 174 rfl rfl
set_option maxRecDepth 30000 in
theorem k_X7_124 : FLK RX7 124 7 37 := tm_4 175 rfl rfl
set_option maxRecDepth 30000 in
theorem k_X7_127 : FLK RX7 127 7 38 := tm_4 176 rfl rfl
set_option maxRecDepth 30000 in
theorem k_X7_13 : FLK RX7 13 7 1 := tm_4 139 rfl rfl
set_option maxRecDepth 30000 in
theorem k_X7_130 : FLK RX7 130 7 39 := tm_4 177 rfl rfl
set_option maxRecDepth 30000 in
theorem k_X7_133 : FLK RX7 133 7 40 := tm_4 178 rfl rfl
set_option maxRecDepth 30000 in
theorem k_X7_136 : FLK RX7 136 7 41 := tm_4 179 rfl rfl
set_option maxRecDepth 30000 in
theorem k_X7_139 : FLK RX7 139 7 42 := tm_4 180 rfl rfl
set_option maxRecDepth 30000 in
theorem k_X7_142 : FLK RX7 142 7 43 := tm_4 181 rfl rfl
set_option maxRecDepth 30000 in
theorem k_X7_145 : FLK RX7 145 7 44 := tm_4 182 rfl rfl
set_option maxRecDepth 30000 in
theorem k_X7_148 : FLK RX7 148 7 45 := tm_4 183 rfl rfl
set_option maxRecDepth 30000 in
theorem k_X7_151 : FLK RX7 151 7 46 := tm_4 184 rfl rfl
set_option maxRecDepth 30000 in
theorem k_X7_154 : FLK RX7 154 7 47 := tm_4 185 rfl rfl
set_option maxRecDepth 30000 in
theorem k_X7_157 : FLK RX7 157 7 48 := tm_4 186 rfl rfl
set_option maxRecDepth 30000 in
theorem k_X7_16 : FLK RX7 16 7 2 := tm_4 140 rfl rfl
set_option maxRecDepth 30000 in
theorem k_X7_160 : FLK RX7 160 7 49 := tm_4 187 rfl rfl
set_option maxRecDepth 30000 in
theorem k_X7_163 : FLK RX7 163 7 50 := tm_4 188 rfl rfl
set_option maxRecDepth 30000 in
theorem k_X7_166 : FLK RX7 166 7 51 := tm_4 189 rfl rfl
set_option maxRecDepth 30000 in
theorem k_X7_169 : FLK RX7 169 7 52 := tm_4 190 rfl rfl
set_option maxRecDepth 30000 in
theorem k_X7_172 : FLK RX7 172 7 53 := tm_4 191 rfl rfl
set_option maxRecDepth 30000 in
theorem k_X7_175 : FLK RX7 175 7 54 := tm_4 192 rfl rfl
set_option maxRecDepth 30000 in
theorem k_X7_178 : FLK RX7 178 7 55 := tm_4 193 rfl rfl
set_option maxRecDepth 30000 in
theorem k_X7_181 : FLK RX7 181 7 56 := tm_4 194 rfl rfl
set_option maxRecDepth 30000 in
theorem k_X7_184 : FLK RX7 184 7 57 := tm_4 195 rfl rfl
set_option maxRecDepth 30000 in
theorem k_X7_187 : FLK RX7 187 7 58 := tm_4 196 rfl rfl
set_option maxRecDepth 30000 in
theorem k_X7_19 : FLK RX7 19 7 3 := tm_4 141 rfl rfl
set_option maxRecDepth 30000 in
theorem k_X7_190 : FLK RX7 190 7 59 := tm_4 197 rfl rfl
set_option maxRecDepth 30000 in
theorem k_X7_193 : FLK RX7 193 7 60 := tm_4 198 rfl rfl
set_option maxRecDepth 30000 in
theorem k_X7_196 : FLK RX7 196 7 61 := tm_4 199 rfl rfl
set_option maxRecDepth 30000 in
theorem k_X7_199 : FLK RX7 199 7 62 := tm_4 200 rfl rfl
set_option maxRecDepth 30000 in
theorem k_X7_202 : FLK RX7 202 7 63 := tm_4 201 rfl rfl
set_option maxRecDepth 30000 in
theorem k_X7_205 : FLK RX7 205 7 64 := tm_4 202 rfl rfl
set_option maxRecDepth 30000 in
theorem k_X7_209 : FLK RX7 209 7 65 := tm_4 203 rfl rfl
set_option maxRecDepth 30000 in
theorem l_X7_212 : Cond.methodLink RX7 212 yX7_in ∈ tb := tm_5 102 rfl rfl
set_option maxRecDepth 30000 in
theorem l_X7_216 : Cond.methodLink RX7 216 yX7_lay ∈ tb := tm_5 106 rfl rfl
set_option maxRecDepth 30000 in
theorem k_X7_22 : FLK RX7 22 7 4 := tm_4 142 rfl rfl
set_option maxRecDepth 30000 in
theorem l_X7_220 : Cond.methodLink RX7 220 yX7_isEater ∈ tb := tm_5 114 rfl rfl
set_option maxRecDepth 30000 in
theorem l_X7_224 : Cond.methodLink RX7 224 yX7_next ∈ tb := tm_5 150 rfl rfl
set_option maxRecDepth 30000 in
theorem l_X7_228 : Cond.methodLink RX7 228 yX7_takes ∈ tb := tm_5 158 rfl rfl
set_option maxRecDepth 30000 in
theorem l_X7_231 : Cond.methodLink RX7 231 yX7_isDigit ∈ tb := tm_5 166 rfl rfl
set_option maxRecDepth 30000 in
theorem l_X7_235 : Cond.methodLink RX7 235 yX7_put ∈ tb := tm_5 182 rfl rfl
set_option maxRecDepth 30000 in
theorem l_X7_239 : Cond.methodLink RX7 239 yX7_place ∈ tb := tm_5 178 rfl rfl
set_option maxRecDepth 30000 in
theorem l_X7_243 : Cond.methodLink RX7 243 yX7_takesNumber ∈ tb := tm_5 162 rfl rfl
set_option maxRecDepth 30000 in
theorem l_X7_246 : Cond.methodLink RX7 246 yX7_whole ∈ tb := tm_5 186 rfl rfl
set_option maxRecDepth 30000 in
theorem l_X7_249 : Cond.methodLink RX7 249 yX7_takesTest ∈ tb := tm_5 174 rfl rfl
set_option maxRecDepth 30000 in
theorem l_X7_252 : Cond.methodLink RX7 252 yX7_settle ∈ tb := tm_5 190 rfl rfl
set_option maxRecDepth 30000 in
theorem l_X7_255 : Cond.methodLink RX7 255 yX7_second ∈ tb := tm_5 146 rfl rfl
set_option maxRecDepth 30000 in
theorem l_X7_258 : Cond.methodLink RX7 258 yX7_takesWord ∈ tb := tm_5 154 rfl rfl
set_option maxRecDepth 30000 in
theorem k_X7_26 : FLK RX7 26 7 5 := tm_4 143 rfl rfl
set_option maxRecDepth 30000 in
theorem l_X7_262 : Cond.methodLink RX7 262 yX7_takesHead ∈ tb := tm_5 142 rfl rfl
set_option maxRecDepth 30000 in
theorem l_X7_265 : Cond.methodLink RX7 265 yX7_takesE ∈ tb := tm_5 170 rfl rfl
set_option maxRecDepth 30000 in
theorem l_X7_268 : Cond.methodLink RX7 268 yX7_takesClause ∈ tb := tm_5 138 rfl rfl
set_option maxRecDepth 30000 in
theorem l_X7_271 : Cond.methodLink RX7 271 yX7_goesText ∈ tb := tm_5 134 rfl rfl
set_option maxRecDepth 30000 in
theorem l_X7_274 : Cond.methodLink RX7 274 yX7_begin ∈ tb := tm_6 2 rfl rfl
set_option maxRecDepth 30000 in
theorem l_X7_277 : Cond.methodLink RX7 277 yX7_behind ∈ tb := tm_6 6 rfl rfl
set_option maxRecDepth 30000 in
theorem l_X7_280 : Cond.methodLink RX7 280 yX7_factOf ∈ tb := tm_6 34 rfl rfl
set_option maxRecDepth 30000 in
theorem l_X7_284 : Cond.methodLink RX7 284 yX7_holds ∈ tb := tm_6 30 rfl rfl
set_option maxRecDepth 30000 in
theorem l_X7_287 : Cond.methodLink RX7 287 yX7_hasOf ∈ tb := tm_6 22 rfl rfl
set_option maxRecDepth 30000 in
theorem k_X7_29 : FLK RX7 29 7 6 := tm_4 144 rfl rfl
set_option maxRecDepth 30000 in
theorem l_X7_290 : Cond.methodLink RX7 290 yX7_sumOf ∈ tb := tm_6 26 rfl rfl
set_option maxRecDepth 30000 in
theorem l_X7_293 : Cond.methodLink RX7 293 yX7_lastOf ∈ tb := tm_5 238 rfl rfl
set_option maxRecDepth 30000 in
theorem l_X7_297 : Cond.methodLink RX7 297 yX7_scaleNow ∈ tb := tm_5 234 rfl rfl
set_option maxRecDepth 30000 in
theorem l_X7_300 : Cond.methodLink RX7 300 yX7_lawNow ∈ tb := tm_6 10 rfl rfl
set_option maxRecDepth 30000 in
theorem l_X7_303 : Cond.methodLink RX7 303 yX7_isAhead ∈ tb := tm_6 14 rfl rfl
set_option maxRecDepth 30000 in
theorem l_X7_306 : Cond.methodLink RX7 306 yX7_bakerNow ∈ tb := tm_5 230 rfl rfl
set_option maxRecDepth 30000 in
theorem l_X7_309 : Cond.methodLink RX7 309 yX7_costOf ∈ tb := tm_6 18 rfl rfl
set_option maxRecDepth 30000 in
theorem l_X7_312 : Cond.methodLink RX7 312 yX7_worthOf ∈ tb := tm_6 38 rfl rfl
set_option maxRecDepth 30000 in
theorem l_X7_315 : Cond.methodLink RX7 315 yX7_least ∈ tb := tm_5 218 rfl rfl
set_option maxRecDepth 30000 in
theorem l_X7_318 : Cond.methodLink RX7 318 yX7_crumb ∈ tb := tm_5 222 rfl rfl
set_option maxRecDepth 30000 in
theorem k_X7_32 : FLK RX7 32 7 7 := tm_4 145 rfl rfl
set_option maxRecDepth 30000 in
theorem l_X7_321 : Cond.methodLink RX7 321 yX7_plainWish ∈ tb := tm_5 214 rfl rfl
set_option maxRecDepth 30000 in
theorem l_X7_324 : Cond.methodLink RX7 324 yX7_laySupper ∈ tb := tm_5 226 rfl rfl
set_option maxRecDepth 30000 in
theorem l_X7_327 : Cond.methodLink RX7 327 yX7_bestWish ∈ tb := tm_5 210 rfl rfl
set_option maxRecDepth 30000 in
theorem l_X7_330 : Cond.methodLink RX7 330 yX7_wishOf ∈ tb := tm_5 206 rfl rfl
set_option maxRecDepth 30000 in
theorem l_X7_333 : Cond.methodLink RX7 333 yX7_layWishes ∈ tb := tm_5 202 rfl rfl
set_option maxRecDepth 30000 in
theorem l_X7_336 : Cond.methodLink RX7 336 yX7_goSupper ∈ tb := tm_5 198 rfl rfl
set_option maxRecDepth 30000 in
theorem n_X7_339 : Cond.constant RX7 339 (-1000001) ∈ tb := tm_6 46 rfl rfl
set_option maxRecDepth 30000 in
theorem n_X7_340 : Cond.constant RX7 340 (-1000002) ∈ tb := tm_6 55 rfl rfl
set_option maxRecDepth 30000 in
theorem l_X7_341 : Cond.methodLink RX7 341 yX7_keep ∈ tb := tm_6 56 rfl rfl
set_option maxRecDepth 30000 in
theorem l_X7_344 : Cond.methodLink RX7 344 yX7_goOn ∈ tb := tm_6 60 rfl rfl
set_option maxRecDepth 30000 in
theorem l_X7_347 : Cond.methodLink RX7 347 yX7_putBack ∈ tb := tm_6 64 rfl rfl
set_option maxRecDepth 30000 in
theorem k_X7_35 : FLK RX7 35 7 8 := tm_4 146 rfl rfl
set_option maxRecDepth 30000 in
theorem l_X7_350 : Cond.methodLink RX7 350 yX7_isAsKept ∈ tb := tm_6 72 rfl rfl
set_option maxRecDepth 30000 in
theorem l_X7_353 : Cond.methodLink RX7 353 yX7_layRow ∈ tb := tm_6 88 rfl rfl
set_option maxRecDepth 30000 in
theorem l_X7_356 : Cond.methodLink RX7 356 yX7_rowsNow ∈ tb := tm_6 80 rfl rfl
set_option maxRecDepth 30000 in
theorem l_X7_359 : Cond.methodLink RX7 359 yX7_isStill ∈ tb := tm_6 84 rfl rfl
set_option maxRecDepth 30000 in
theorem l_X7_362 : Cond.methodLink RX7 362 yX7_digit ∈ tb := tm_6 92 rfl rfl
set_option maxRecDepth 30000 in
theorem l_X7_365 : Cond.methodLink RX7 365 yX7_allGlad ∈ tb := tm_6 104 rfl rfl
set_option maxRecDepth 30000 in
theorem l_X7_368 : Cond.methodLink RX7 368 yX7_gladBehind ∈ tb := tm_6 112 rfl rfl
set_option maxRecDepth 30000 in
theorem l_X7_371 : Cond.methodLink RX7 371 yX7_isEnough ∈ tb := tm_6 120 rfl rfl
set_option maxRecDepth 30000 in
theorem l_X7_374 : Cond.methodLink RX7 374 yX7_divisor ∈ tb := tm_6 141 rfl rfl
set_option maxRecDepth 30000 in
theorem n_X7_378 : Cond.constantLong RX7 378 (-9223372036854775808) ∈ tb := tm_6 136 rfl rfl
set_option maxRecDepth 30000 in
theorem k_X7_38 : FLK RX7 38 7 9 := tm_4 147 rfl rfl
set_option maxRecDepth 30000 in
theorem l_X7_380 : Cond.methodLink RX7 380 yX7_lowest ∈ tb := tm_6 137 rfl rfl
set_option maxRecDepth 30000 in
theorem l_X7_384 : Cond.methodLink RX7 384 yX7_isTape ∈ tb := tm_6 161 rfl rfl
set_option maxRecDepth 30000 in
theorem l_X7_387 : Cond.methodLink RX7 387 yX7_body ∈ tb := tm_6 181 rfl rfl
set_option maxRecDepth 30000 in
theorem l_X7_390 : Cond.methodLink RX7 390 yX7_eaterEats ∈ tb := tm_6 185 rfl rfl
set_option maxRecDepth 30000 in
theorem l_X7_393 : Cond.methodLink RX7 393 yX7_eatsAct ∈ tb := tm_6 177 rfl rfl
set_option maxRecDepth 30000 in
theorem l_X7_396 : Cond.methodLink RX7 396 yX7_eaterBakes ∈ tb := tm_6 197 rfl rfl
set_option maxRecDepth 30000 in
theorem l_X7_399 : Cond.methodLink RX7 399 yX7_hungryBakes ∈ tb := tm_6 193 rfl rfl
set_option maxRecDepth 30000 in
theorem l_X7_402 : Cond.methodLink RX7 402 yX7_bakesAct ∈ tb := tm_6 189 rfl rfl
set_option maxRecDepth 30000 in
theorem l_X7_405 : Cond.methodLink RX7 405 yX7_eaterTells ∈ tb := tm_6 205 rfl rfl
set_option maxRecDepth 30000 in
theorem l_X7_408 : Cond.methodLink RX7 408 yX7_tellsAct ∈ tb := tm_6 201 rfl rfl
set_option maxRecDepth 30000 in
theorem k_X7_41 : FLK RX7 41 7 10 := tm_4 148 rfl rfl
set_option maxRecDepth 30000 in
theorem l_X7_411 : Cond.methodLink RX7 411 yX7_narrow ∈ tb := tm_6 229 rfl rfl
set_option maxRecDepth 30000 in
theorem k_X7_44 : FLK RX7 44 7 11 := tm_4 149 rfl rfl
set_option maxRecDepth 30000 in
theorem k_X7_47 : FLK RX7 47 7 12 := tm_4 150 rfl rfl
set_option maxRecDepth 30000 in
theorem k_X7_50 : FLK RX7 50 7 13 := tm_4 151 rfl rfl
set_option maxRecDepth 30000 in
theorem k_X7_53 : FLK RX7 53 7 14 := tm_4 152 rfl rfl
set_option maxRecDepth 30000 in
theorem k_X7_56 : FLK RX7 56 7 15 := tm_4 153 rfl rfl
set_option maxRecDepth 30000 in
theorem k_X7_59 : FLK RX7 59 7 16 := tm_4 154 rfl rfl
set_option maxRecDepth 30000 in
theorem k_X7_62 : FLK RX7 62 7 17 := tm_4 155 rfl rfl
set_option maxRecDepth 30000 in
theorem k_X7_65 : FLK RX7 65 7 18 := tm_4 156 rfl rfl
set_option maxRecDepth 30000 in
theorem k_X7_68 : FLK RX7 68 7 19 := tm_4 157 rfl rfl
set_option maxRecDepth 30000 in
theorem k_X7_7 : FLK RX7 7 7 0 := tm_4 138 rfl rfl
set_option maxRecDepth 30000 in
theorem k_X7_71 : FLK RX7 71 7 20 := tm_4 158 rfl rfl
set_option maxRecDepth 30000 in
theorem k_X7_74 : FLK RX7 74 7 21 := tm_4 159 rfl rfl
set_option maxRecDepth 30000 in
theorem k_X7_77 : FLK RX7 77 7 22 := tm_4 160 rfl rfl
set_option maxRecDepth 30000 in
theorem k_X7_80 : FLK RX7 80 7 23 := tm_4 161 rfl rfl
set_option maxRecDepth 30000 in
theorem k_X7_83 : FLK RX7 83 7 24 := tm_4 162 rfl rfl
set_option maxRecDepth 30000 in
theorem k_X7_86 : FLK RX7 86 7 25 := tm_4 163 rfl rfl
set_option maxRecDepth 30000 in
theorem k_X7_89 : FLK RX7 89 7 26 := tm_4 164 rfl rfl
set_option maxRecDepth 30000 in
theorem k_X7_92 : FLK RX7 92 7 27 := tm_4 165 rfl rfl
set_option maxRecDepth 30000 in
theorem k_X7_96 : FLK RX7 96 7 28 := tm_4 166 rfl rfl
set_option maxRecDepth 30000 in
theorem o_X0_init : MO yX0_init cX0_init 1 none 0 := ⟨⟨tm_1 6 rfl rfl, tm_1 237 rfl rfl⟩, by decide +kernel, by decide⟩
set_option maxRecDepth 30000 in
theorem o_X0_does : MO yX0_does cX0_does 6 (some .int) 5 := ⟨⟨tm_1 6 rfl rfl, tm_4 66 rfl rfl⟩, by decide +kernel, by decide⟩
set_option maxRecDepth 30000 in
theorem v_X0_does : MV yX0_does := ⟨tm_4 64 rfl rfl, tm_4 65 rfl rfl⟩
set_option maxRecDepth 30000 in
theorem o_X0_isUnder : MO yX0_isUnder cX0_isUnder 5 (some .boolean) 2 := ⟨⟨tm_1 6 rfl rfl, tm_4 95 rfl rfl⟩, by decide +kernel, by decide⟩
set_option maxRecDepth 30000 in
theorem v_X0_isUnder : MV yX0_isUnder := ⟨tm_4 93 rfl rfl, tm_4 94 rfl rfl⟩
set_option maxRecDepth 30000 in
theorem o_X0_own : MO yX0_own cX0_own 4 (some .int) 3 := ⟨⟨tm_1 6 rfl rfl, tm_4 70 rfl rfl⟩, by decide +kernel, by decide⟩
set_option maxRecDepth 30000 in
theorem v_X0_own : MV yX0_own := ⟨tm_4 69 rfl rfl, tm_0 28 rfl rfl⟩
set_option maxRecDepth 30000 in
theorem o_X0_above : MO yX0_above cX0_above 6 (some .int) 4 := ⟨⟨tm_1 6 rfl rfl, tm_4 80 rfl rfl⟩, by decide +kernel, by decide⟩
set_option maxRecDepth 30000 in
theorem v_X0_above : MV yX0_above := ⟨tm_4 79 rfl rfl, tm_0 30 rfl rfl⟩
set_option maxRecDepth 30000 in
theorem o_X0_runs : MO yX0_runs cX0_runs 4 (some .int) 3 := ⟨⟨tm_1 6 rfl rfl, tm_4 76 rfl rfl⟩, by decide +kernel, by decide⟩
set_option maxRecDepth 30000 in
theorem v_X0_runs : MV yX0_runs := ⟨tm_4 75 rfl rfl, tm_0 29 rfl rfl⟩
set_option maxRecDepth 30000 in
theorem o_X1_init : MO yX1_init cX1_init 1 none 0 := ⟨⟨tm_1 3 rfl rfl, tm_1 97 rfl rfl⟩, by decide +kernel, by decide⟩
set_option maxRecDepth 30000 in
theorem o_X1_clear : MO yX1_clear cX1_clear 1 none 0 := ⟨⟨tm_1 3 rfl rfl, tm_2 200 rfl rfl⟩, by decide +kernel, by decide⟩
set_option maxRecDepth 30000 in
theorem v_X1_clear : MV yX1_clear := ⟨tm_2 198 rfl rfl, tm_2 199 rfl rfl⟩
set_option maxRecDepth 30000 in
theorem o_X1_addSign : MO yX1_addSign cX1_addSign 2 none 1 := ⟨⟨tm_1 3 rfl rfl, tm_3 122 rfl rfl⟩, by decide +kernel, by decide⟩
set_option maxRecDepth 30000 in
theorem v_X1_addSign : MV yX1_addSign := ⟨tm_3 120 rfl rfl, tm_3 121 rfl rfl⟩
set_option maxRecDepth 30000 in
theorem o_X1_addTest : MO yX1_addTest cX1_addTest 4 none 3 := ⟨⟨tm_1 3 rfl rfl, tm_3 118 rfl rfl⟩, by decide +kernel, by decide⟩
set_option maxRecDepth 30000 in
theorem v_X1_addTest : MV yX1_addTest := ⟨tm_3 116 rfl rfl, tm_3 117 rfl rfl⟩
set_option maxRecDepth 30000 in
theorem o_X1_addClause : MO yX1_addClause cX1_addClause 3 none 2 := ⟨⟨tm_1 3 rfl rfl, tm_3 126 rfl rfl⟩, by decide +kernel, by decide⟩
set_option maxRecDepth 30000 in
theorem v_X1_addClause : MV yX1_addClause := ⟨tm_3 124 rfl rfl, tm_3 125 rfl rfl⟩
set_option maxRecDepth 30000 in
theorem o_X1_together : MO yX1_together cX1_together 6 (some .int) 2 := ⟨⟨tm_1 3 rfl rfl, tm_2 160 rfl rfl⟩, by decide +kernel, by decide⟩
set_option maxRecDepth 30000 in
theorem v_X1_together : MV yX1_together := ⟨tm_2 158 rfl rfl, tm_2 159 rfl rfl⟩
set_option maxRecDepth 30000 in
theorem o_X1_holds : MO yX1_holds cX1_holds 6 (some .boolean) 2 := ⟨⟨tm_1 3 rfl rfl, tm_2 164 rfl rfl⟩, by decide +kernel, by decide⟩
set_option maxRecDepth 30000 in
theorem v_X1_holds : MV yX1_holds := ⟨tm_2 163 rfl rfl, tm_0 8 rfl rfl⟩
set_option maxRecDepth 30000 in
theorem o_X2_init : MO yX2_init cX2_init 1 none 0 := ⟨⟨tm_1 5 rfl rfl, tm_1 211 rfl rfl⟩, by decide +kernel, by decide⟩
set_option maxRecDepth 30000 in
theorem o_X2_append : MO yX2_append cX2_append 2 (some .int) 1 := ⟨⟨tm_1 5 rfl rfl, tm_2 188 rfl rfl⟩, by decide +kernel, by decide⟩
set_option maxRecDepth 30000 in
theorem v_X2_append : MV yX2_append := ⟨tm_2 186 rfl rfl, tm_2 187 rfl rfl⟩
set_option maxRecDepth 30000 in
theorem o_X2_faultOf : MO yX2_faultOf cX2_faultOf 4 (some .int) 1 := ⟨⟨tm_1 5 rfl rfl, tm_2 196 rfl rfl⟩, by decide +kernel, by decide⟩
set_option maxRecDepth 30000 in
theorem v_X2_faultOf : MV yX2_faultOf := ⟨tm_2 194 rfl rfl, tm_2 195 rfl rfl⟩
set_option maxRecDepth 30000 in
theorem o_X2_readClause : MO yX2_readClause cX2_readClause 4 (some .boolean) 0 := ⟨⟨tm_1 5 rfl rfl, tm_2 204 rfl rfl⟩, by decide +kernel, by decide⟩
set_option maxRecDepth 30000 in
theorem v_X2_readClause : MV yX2_readClause := ⟨tm_2 203 rfl rfl, tm_0 9 rfl rfl⟩
set_option maxRecDepth 30000 in
theorem o_X2_readWord : MO yX2_readWord cX2_readWord 5 (some .int) 0 := ⟨⟨tm_1 5 rfl rfl, tm_2 208 rfl rfl⟩, by decide +kernel, by decide⟩
set_option maxRecDepth 30000 in
theorem v_X2_readWord : MV yX2_readWord := ⟨tm_2 207 rfl rfl, tm_0 10 rfl rfl⟩
set_option maxRecDepth 30000 in
theorem o_X2_wordOf : MO yX2_wordOf cX2_wordOf 1 (some (.object "java/lang/String")) 1 := ⟨⟨tm_1 5 rfl rfl, tm_2 211 rfl rfl⟩, by decide +kernel, by decide⟩
set_option maxRecDepth 30000 in
theorem s_X2_wordOf : Cond.static yX2_wordOf ∈ tb := tm_2 210 rfl rfl
set_option maxRecDepth 30000 in
theorem o_X2_alike : MO yX2_alike cX2_alike 4 (some .int) 1 := ⟨⟨tm_1 5 rfl rfl, tm_2 220 rfl rfl⟩, by decide +kernel, by decide⟩
set_option maxRecDepth 30000 in
theorem v_X2_alike : MV yX2_alike := ⟨tm_2 219 rfl rfl, tm_0 11 rfl rfl⟩
set_option maxRecDepth 30000 in
theorem o_X2_readNumber : MO yX2_readNumber cX2_readNumber 2 (some .boolean) 0 := ⟨⟨tm_1 5 rfl rfl, tm_3 41 rfl rfl⟩, by decide +kernel, by decide⟩
set_option maxRecDepth 30000 in
theorem v_X2_readNumber : MV yX2_readNumber := ⟨tm_3 40 rfl rfl, tm_0 14 rfl rfl⟩
set_option maxRecDepth 30000 in
theorem o_X2_readEither : MO yX2_readEither cX2_readEither 4 (some .boolean) 1 := ⟨⟨tm_1 5 rfl rfl, tm_3 45 rfl rfl⟩, by decide +kernel, by decide⟩
set_option maxRecDepth 30000 in
theorem v_X2_readEither : MV yX2_readEither := ⟨tm_3 44 rfl rfl, tm_0 15 rfl rfl⟩
set_option maxRecDepth 30000 in
theorem o_X2_readBoth : MO yX2_readBoth cX2_readBoth 4 (some .boolean) 1 := ⟨⟨tm_1 5 rfl rfl, tm_3 49 rfl rfl⟩, by decide +kernel, by decide⟩
set_option maxRecDepth 30000 in
theorem v_X2_readBoth : MV yX2_readBoth := ⟨tm_3 48 rfl rfl, tm_0 16 rfl rfl⟩
set_option maxRecDepth 30000 in
theorem o_X2_readOne : MO yX2_readOne cX2_readOne 4 (some .boolean) 1 := ⟨⟨tm_1 5 rfl rfl, tm_3 53 rfl rfl⟩, by decide +kernel, by decide⟩
set_option maxRecDepth 30000 in
theorem v_X2_readOne : MV yX2_readOne := ⟨tm_3 52 rfl rfl, tm_0 17 rfl rfl⟩
set_option maxRecDepth 30000 in
theorem o_X2_readTest : MO yX2_readTest cX2_readTest 3 (some .boolean) 0 := ⟨⟨tm_1 5 rfl rfl, tm_3 57 rfl rfl⟩, by decide +kernel, by decide⟩
set_option maxRecDepth 30000 in
theorem v_X2_readTest : MV yX2_readTest := ⟨tm_3 56 rfl rfl, tm_0 18 rfl rfl⟩
set_option maxRecDepth 30000 in
theorem o_X2_sees : MO yX2_sees cX2_sees 2 (some .boolean) 1 := ⟨⟨tm_1 5 rfl rfl, tm_3 37 rfl rfl⟩, by decide +kernel, by decide⟩
set_option maxRecDepth 30000 in
theorem v_X2_sees : MV yX2_sees := ⟨tm_3 36 rfl rfl, tm_0 13 rfl rfl⟩
set_option maxRecDepth 30000 in
theorem o_X2_takes : MO yX2_takes cX2_takes 2 (some .boolean) 1 := ⟨⟨tm_1 5 rfl rfl, tm_3 33 rfl rfl⟩, by decide +kernel, by decide⟩
set_option maxRecDepth 30000 in
theorem v_X2_takes : MV yX2_takes := ⟨tm_3 32 rfl rfl, tm_0 12 rfl rfl⟩
set_option maxRecDepth 30000 in
theorem o_X3_init : MO yX3_init cX3_init 1 none 0 := ⟨⟨tm_1 4 rfl rfl, tm_1 147 rfl rfl⟩, by decide +kernel, by decide⟩
set_option maxRecDepth 30000 in
theorem o_X3_agree : MO yX3_agree cX3_agree 3 none 2 := ⟨⟨tm_1 4 rfl rfl, tm_4 3 rfl rfl⟩, by decide +kernel, by decide⟩
set_option maxRecDepth 30000 in
theorem v_X3_agree : MV yX3_agree := ⟨tm_4 1 rfl rfl, tm_4 2 rfl rfl⟩
set_option maxRecDepth 30000 in
theorem o_X3_begin : MO yX3_begin cX3_begin 3 none 2 := ⟨⟨tm_1 4 rfl rfl, tm_2 109 rfl rfl⟩, by decide +kernel, by decide⟩
set_option maxRecDepth 30000 in
theorem v_X3_begin : MV yX3_begin := ⟨tm_2 107 rfl rfl, tm_2 108 rfl rfl⟩
set_option maxRecDepth 30000 in
theorem o_X3_hold : MO yX3_hold cX3_hold 4 none 2 := ⟨⟨tm_1 4 rfl rfl, tm_3 140 rfl rfl⟩, by decide +kernel, by decide⟩
set_option maxRecDepth 30000 in
theorem v_X3_hold : MV yX3_hold := ⟨tm_3 138 rfl rfl, tm_3 139 rfl rfl⟩
set_option maxRecDepth 30000 in
theorem o_X3_keepPact : MO yX3_keepPact cX3_keepPact 2 none 0 := ⟨⟨tm_1 4 rfl rfl, tm_3 146 rfl rfl⟩, by decide +kernel, by decide⟩
set_option maxRecDepth 30000 in
theorem v_X3_keepPact : MV yX3_keepPact := ⟨tm_3 145 rfl rfl, tm_0 19 rfl rfl⟩
set_option maxRecDepth 30000 in
theorem o_X3_wishOf : MO yX3_wishOf cX3_wishOf 6 (some .int) 1 := ⟨⟨tm_1 4 rfl rfl, tm_2 116 rfl rfl⟩, by decide +kernel, by decide⟩
set_option maxRecDepth 30000 in
theorem v_X3_wishOf : MV yX3_wishOf := ⟨tm_2 114 rfl rfl, tm_2 115 rfl rfl⟩
set_option maxRecDepth 30000 in
theorem o_X3_serve : MO yX3_serve cX3_serve 3 none 1 := ⟨⟨tm_1 4 rfl rfl, tm_2 134 rfl rfl⟩, by decide +kernel, by decide⟩
set_option maxRecDepth 30000 in
theorem v_X3_serve : MV yX3_serve := ⟨tm_2 132 rfl rfl, tm_2 133 rfl rfl⟩
set_option maxRecDepth 30000 in
theorem o_X3_outermost : MO yX3_outermost cX3_outermost 4 (some .int) 0 := ⟨⟨tm_1 4 rfl rfl, tm_2 148 rfl rfl⟩, by decide +kernel, by decide⟩
set_option maxRecDepth 30000 in
theorem v_X3_outermost : MV yX3_outermost := ⟨tm_2 147 rfl rfl, tm_0 6 rfl rfl⟩
set_option maxRecDepth 30000 in
theorem o_X3_middle : MO yX3_middle cX3_middle 2 (some .int) 0 := ⟨⟨tm_1 4 rfl rfl, tm_2 140 rfl rfl⟩, by decide +kernel, by decide⟩
set_option maxRecDepth 30000 in
theorem v_X3_middle : MV yX3_middle := ⟨tm_2 139 rfl rfl, tm_0 4 rfl rfl⟩
set_option maxRecDepth 30000 in
theorem o_X3_placeOf : MO yX3_placeOf cX3_placeOf 5 (some .int) 1 := ⟨⟨tm_1 4 rfl rfl, tm_2 144 rfl rfl⟩, by decide +kernel, by decide⟩
set_option maxRecDepth 30000 in
theorem v_X3_placeOf : MV yX3_placeOf := ⟨tm_2 143 rfl rfl, tm_0 5 rfl rfl⟩
set_option maxRecDepth 30000 in
theorem o_X3_isLikeBaker : MO yX3_isLikeBaker cX3_isLikeBaker 2 (some .boolean) 1 := ⟨⟨tm_1 4 rfl rfl, tm_4 16 rfl rfl⟩, by decide +kernel, by decide⟩
set_option maxRecDepth 30000 in
theorem v_X3_isLikeBaker : MV yX3_isLikeBaker := ⟨tm_4 14 rfl rfl, tm_4 15 rfl rfl⟩
set_option maxRecDepth 30000 in
theorem o_X3_likeBaker : MO yX3_likeBaker cX3_likeBaker 3 (some .int) 0 := ⟨⟨tm_1 4 rfl rfl, tm_4 20 rfl rfl⟩, by decide +kernel, by decide⟩
set_option maxRecDepth 30000 in
theorem v_X3_likeBaker : MV yX3_likeBaker := ⟨tm_4 18 rfl rfl, tm_4 19 rfl rfl⟩
set_option maxRecDepth 30000 in
theorem o_X3_someoneWentShort : MO yX3_someoneWentShort cX3_someoneWentShort 3 (some .boolean) 0 := ⟨⟨tm_1 4 rfl rfl, tm_3 233 rfl rfl⟩, by decide +kernel, by decide⟩
set_option maxRecDepth 30000 in
theorem v_X3_someoneWentShort : MV yX3_someoneWentShort := ⟨tm_3 231 rfl rfl, tm_3 232 rfl rfl⟩
set_option maxRecDepth 30000 in
theorem o_X3_haveTogether : MO yX3_haveTogether cX3_haveTogether 3 (some .int) 0 := ⟨⟨tm_1 4 rfl rfl, tm_3 209 rfl rfl⟩, by decide +kernel, by decide⟩
set_option maxRecDepth 30000 in
theorem v_X3_haveTogether : MV yX3_haveTogether := ⟨tm_3 207 rfl rfl, tm_3 208 rfl rfl⟩
set_option maxRecDepth 30000 in
theorem o_X3_has : MO yX3_has cX3_has 4 (some .int) 1 := ⟨⟨tm_1 4 rfl rfl, tm_2 152 rfl rfl⟩, by decide +kernel, by decide⟩
set_option maxRecDepth 30000 in
theorem v_X3_has : MV yX3_has := ⟨tm_2 150 rfl rfl, tm_2 151 rfl rfl⟩
set_option maxRecDepth 30000 in
theorem o_X3_ask : MO yX3_ask cX3_ask 4 (some .int) 3 := ⟨⟨tm_1 4 rfl rfl, tm_2 168 rfl rfl⟩, by decide +kernel, by decide⟩
set_option maxRecDepth 30000 in
theorem v_X3_ask : MV yX3_ask := ⟨tm_2 166 rfl rfl, tm_2 167 rfl rfl⟩
set_option maxRecDepth 30000 in
theorem o_X3_turnTo : MO yX3_turnTo cX3_turnTo 2 none 1 := ⟨⟨tm_1 4 rfl rfl, tm_2 156 rfl rfl⟩, by decide +kernel, by decide⟩
set_option maxRecDepth 30000 in
theorem v_X3_turnTo : MV yX3_turnTo := ⟨tm_2 155 rfl rfl, tm_0 7 rfl rfl⟩
set_option maxRecDepth 30000 in
theorem o_X4_init : MO yX4_init cX4_init 1 none 0 := ⟨⟨tm_1 2 rfl rfl, tm_1 29 rfl rfl⟩, by decide +kernel, by decide⟩
set_option maxRecDepth 30000 in
theorem o_X4_becomes : MO yX4_becomes cX4_becomes 2 none 1 := ⟨⟨tm_1 2 rfl rfl, tm_3 159 rfl rfl⟩, by decide +kernel, by decide⟩
set_option maxRecDepth 30000 in
theorem v_X4_becomes : MV yX4_becomes := ⟨tm_3 157 rfl rfl, tm_3 158 rfl rfl⟩
set_option maxRecDepth 30000 in
theorem o_X4_seat : MO yX4_seat cX4_seat 5 (some .int) 3 := ⟨⟨tm_1 2 rfl rfl, tm_2 88 rfl rfl⟩, by decide +kernel, by decide⟩
set_option maxRecDepth 30000 in
theorem v_X4_seat : MV yX4_seat := ⟨tm_2 86 rfl rfl, tm_2 87 rfl rfl⟩
set_option maxRecDepth 30000 in
theorem o_X4_plainWish : MO yX4_plainWish cX4_plainWish 2 (some .int) 1 := ⟨⟨tm_1 2 rfl rfl, tm_2 120 rfl rfl⟩, by decide +kernel, by decide⟩
set_option maxRecDepth 30000 in
theorem v_X4_plainWish : MV yX4_plainWish := ⟨tm_2 118 rfl rfl, tm_2 119 rfl rfl⟩
set_option maxRecDepth 30000 in
theorem o_X4_crumbMore : MO yX4_crumbMore cX4_crumbMore 3 (some .int) 1 := ⟨⟨tm_1 2 rfl rfl, tm_2 127 rfl rfl⟩, by decide +kernel, by decide⟩
set_option maxRecDepth 30000 in
theorem v_X4_crumbMore : MV yX4_crumbMore := ⟨tm_2 126 rfl rfl, tm_0 3 rfl rfl⟩
set_option maxRecDepth 30000 in
theorem o_X4_gladTogether : MO yX4_gladTogether cX4_gladTogether 3 (some .int) 0 := ⟨⟨tm_1 2 rfl rfl, tm_3 217 rfl rfl⟩, by decide +kernel, by decide⟩
set_option maxRecDepth 30000 in
theorem v_X4_gladTogether : MV yX4_gladTogether := ⟨tm_3 215 rfl rfl, tm_3 216 rfl rfl⟩
set_option maxRecDepth 30000 in
theorem o_X4_looksLike : MO yX4_looksLike cX4_looksLike 4 (some .boolean) 1 := ⟨⟨tm_1 2 rfl rfl, tm_3 174 rfl rfl⟩, by decide +kernel, by decide⟩
set_option maxRecDepth 30000 in
theorem v_X4_looksLike : MV yX4_looksLike := ⟨tm_3 172 rfl rfl, tm_3 173 rfl rfl⟩
set_option maxRecDepth 30000 in
theorem o_X5_init : MO yX5_init cX5_init 1 none 0 := ⟨⟨tm_1 7 rfl rfl, tm_2 22 rfl rfl⟩, by decide +kernel, by decide⟩
set_option maxRecDepth 30000 in
theorem o_X5_becomesEmpty : MO yX5_becomesEmpty cX5_becomesEmpty 3 none 2 := ⟨⟨tm_1 7 rfl rfl, tm_4 107 rfl rfl⟩, by decide +kernel, by decide⟩
set_option maxRecDepth 30000 in
theorem v_X5_becomesEmpty : MV yX5_becomesEmpty := ⟨tm_4 105 rfl rfl, tm_4 106 rfl rfl⟩
set_option maxRecDepth 30000 in
theorem o_X5_has : MO yX5_has cX5_has 2 (some .boolean) 1 := ⟨⟨tm_1 7 rfl rfl, tm_4 50 rfl rfl⟩, by decide +kernel, by decide⟩
set_option maxRecDepth 30000 in
theorem v_X5_has : MV yX5_has := ⟨tm_4 48 rfl rfl, tm_4 49 rfl rfl⟩
set_option maxRecDepth 30000 in
theorem o_X5_hasStretch : MO yX5_hasStretch cX5_hasStretch 3 (some .boolean) 2 := ⟨⟨tm_1 7 rfl rfl, tm_4 131 rfl rfl⟩, by decide +kernel, by decide⟩
set_option maxRecDepth 30000 in
theorem v_X5_hasStretch : MV yX5_hasStretch := ⟨tm_4 129 rfl rfl, tm_4 130 rfl rfl⟩
set_option maxRecDepth 30000 in
theorem o_X5_put : MO yX5_put cX5_put 4 none 2 := ⟨⟨tm_1 7 rfl rfl, tm_4 118 rfl rfl⟩, by decide +kernel, by decide⟩
set_option maxRecDepth 30000 in
theorem v_X5_put : MV yX5_put := ⟨tm_4 116 rfl rfl, tm_4 117 rfl rfl⟩
set_option maxRecDepth 30000 in
theorem o_X6_init : MO yX6_init cX6_init 2 none 0 := ⟨⟨tm_1 1 rfl rfl, tm_1 21 rfl rfl⟩, by decide +kernel, by decide⟩
set_option maxRecDepth 30000 in
theorem o_X6_eater : MO yX6_eater cX6_eater 4 (some .int) 3 := ⟨⟨tm_1 1 rfl rfl, tm_2 81 rfl rfl⟩, by decide +kernel, by decide⟩
set_option maxRecDepth 30000 in
theorem v_X6_eater : MV yX6_eater := ⟨tm_2 79 rfl rfl, tm_2 80 rfl rfl⟩
set_option maxRecDepth 30000 in
theorem o_X6_of : MO yX6_of cX6_of 3 (some .int) 2 := ⟨⟨tm_1 1 rfl rfl, tm_2 92 rfl rfl⟩, by decide +kernel, by decide⟩
set_option maxRecDepth 30000 in
theorem v_X6_of : MV yX6_of := ⟨tm_2 90 rfl rfl, tm_2 91 rfl rfl⟩
set_option maxRecDepth 30000 in
theorem o_X6_reckonedOf : MO yX6_reckonedOf cX6_reckonedOf 3 (some .int) 2 := ⟨⟨tm_1 1 rfl rfl, tm_2 101 rfl rfl⟩, by decide +kernel, by decide⟩
set_option maxRecDepth 30000 in
theorem v_X6_reckonedOf : MV yX6_reckonedOf := ⟨tm_2 100 rfl rfl, tm_0 1 rfl rfl⟩
set_option maxRecDepth 30000 in
theorem o_X6_hunger : MO yX6_hunger cX6_hunger 4 (some .int) 2 := ⟨⟨tm_1 1 rfl rfl, tm_2 172 rfl rfl⟩, by decide +kernel, by decide⟩
set_option maxRecDepth 30000 in
theorem v_X6_hunger : MV yX6_hunger := ⟨tm_2 170 rfl rfl, tm_2 171 rfl rfl⟩
set_option maxRecDepth 30000 in
theorem o_X6_row : MO yX6_row cX6_row 5 (some .int) 3 := ⟨⟨tm_1 1 rfl rfl, tm_2 176 rfl rfl⟩, by decide +kernel, by decide⟩
set_option maxRecDepth 30000 in
theorem v_X6_row : MV yX6_row := ⟨tm_2 174 rfl rfl, tm_2 175 rfl rfl⟩
set_option maxRecDepth 30000 in
theorem o_X6_bin : MO yX6_bin cX6_bin 3 (some .int) 1 := ⟨⟨tm_1 1 rfl rfl, tm_2 180 rfl rfl⟩, by decide +kernel, by decide⟩
set_option maxRecDepth 30000 in
theorem v_X6_bin : MV yX6_bin := ⟨tm_2 178 rfl rfl, tm_2 179 rfl rfl⟩
set_option maxRecDepth 30000 in
theorem o_X6_feed : MO yX6_feed cX6_feed 2 (some .int) 1 := ⟨⟨tm_1 1 rfl rfl, tm_2 184 rfl rfl⟩, by decide +kernel, by decide⟩
set_option maxRecDepth 30000 in
theorem v_X6_feed : MV yX6_feed := ⟨tm_2 182 rfl rfl, tm_2 183 rfl rfl⟩
set_option maxRecDepth 30000 in
theorem o_X6_house : MO yX6_house cX6_house 2 (some .int) 0 := ⟨⟨tm_1 1 rfl rfl, tm_2 192 rfl rfl⟩, by decide +kernel, by decide⟩
set_option maxRecDepth 30000 in
theorem v_X6_house : MV yX6_house := ⟨tm_2 190 rfl rfl, tm_2 191 rfl rfl⟩
set_option maxRecDepth 30000 in
theorem o_X6_told : MO yX6_told cX6_told 2 (some .int) 1 := ⟨⟨tm_1 1 rfl rfl, tm_3 132 rfl rfl⟩, by decide +kernel, by decide⟩
set_option maxRecDepth 30000 in
theorem v_X6_told : MV yX6_told := ⟨tm_3 130 rfl rfl, tm_3 131 rfl rfl⟩
set_option maxRecDepth 30000 in
theorem o_X6_supper : MO yX6_supper cX6_supper 1 (some .int) 0 := ⟨⟨tm_1 1 rfl rfl, tm_3 136 rfl rfl⟩, by decide +kernel, by decide⟩
set_option maxRecDepth 30000 in
theorem v_X6_supper : MV yX6_supper := ⟨tm_3 134 rfl rfl, tm_3 135 rfl rfl⟩
set_option maxRecDepth 30000 in
theorem o_X6_run : MO yX6_run cX6_run 4 (some .int) 2 := ⟨⟨tm_1 1 rfl rfl, tm_3 150 rfl rfl⟩, by decide +kernel, by decide⟩
set_option maxRecDepth 30000 in
theorem v_X6_run : MV yX6_run := ⟨tm_3 148 rfl rfl, tm_3 149 rfl rfl⟩
set_option maxRecDepth 30000 in
theorem o_X6_timesBaker : MO yX6_timesBaker cX6_timesBaker 5 (some .int) 2 := ⟨⟨tm_1 1 rfl rfl, tm_3 155 rfl rfl⟩, by decide +kernel, by decide⟩
set_option maxRecDepth 30000 in
theorem v_X6_timesBaker : MV yX6_timesBaker := ⟨tm_3 154 rfl rfl, tm_0 20 rfl rfl⟩
set_option maxRecDepth 30000 in
theorem o_X6_round : MO yX6_round cX6_round 2 (some .int) 0 := ⟨⟨tm_1 1 rfl rfl, tm_3 170 rfl rfl⟩, by decide +kernel, by decide⟩
set_option maxRecDepth 30000 in
theorem v_X6_round : MV yX6_round := ⟨tm_3 168 rfl rfl, tm_3 169 rfl rfl⟩
set_option maxRecDepth 30000 in
theorem o_X6_still : MO yX6_still cX6_still 4 (some .int) 1 := ⟨⟨tm_1 1 rfl rfl, tm_3 178 rfl rfl⟩, by decide +kernel, by decide⟩
set_option maxRecDepth 30000 in
theorem v_X6_still : MV yX6_still := ⟨tm_3 176 rfl rfl, tm_3 177 rfl rfl⟩
set_option maxRecDepth 30000 in
theorem o_X6_allBest : MO yX6_allBest cX6_allBest 6 (some .int) 1 := ⟨⟨tm_1 1 rfl rfl, tm_3 205 rfl rfl⟩, by decide +kernel, by decide⟩
set_option maxRecDepth 30000 in
theorem v_X6_allBest : MV yX6_allBest := ⟨tm_3 203 rfl rfl, tm_3 204 rfl rfl⟩
set_option maxRecDepth 30000 in
theorem o_X6_rowsInAll : MO yX6_rowsInAll cX6_rowsInAll 1 (some .int) 0 := ⟨⟨tm_1 1 rfl rfl, tm_3 182 rfl rfl⟩, by decide +kernel, by decide⟩
set_option maxRecDepth 30000 in
theorem v_X6_rowsInAll : MV yX6_rowsInAll := ⟨tm_3 181 rfl rfl, tm_0 22 rfl rfl⟩
set_option maxRecDepth 30000 in
theorem o_X6_becomesRow : MO yX6_becomesRow cX6_becomesRow 3 none 1 := ⟨⟨tm_1 1 rfl rfl, tm_3 186 rfl rfl⟩, by decide +kernel, by decide⟩
set_option maxRecDepth 30000 in
theorem v_X6_becomesRow : MV yX6_becomesRow := ⟨tm_3 185 rfl rfl, tm_0 23 rfl rfl⟩
set_option maxRecDepth 30000 in
theorem o_X6_keepIf : MO yX6_keepIf cX6_keepIf 2 none 1 := ⟨⟨tm_1 1 rfl rfl, tm_3 200 rfl rfl⟩, by decide +kernel, by decide⟩
set_option maxRecDepth 30000 in
theorem v_X6_keepIf : MV yX6_keepIf := ⟨tm_3 199 rfl rfl, tm_0 26 rfl rfl⟩
set_option maxRecDepth 30000 in
theorem o_X6_nobodyGains : MO yX6_nobodyGains cX6_nobodyGains 2 (some .boolean) 0 := ⟨⟨tm_1 1 rfl rfl, tm_3 190 rfl rfl⟩, by decide +kernel, by decide⟩
set_option maxRecDepth 30000 in
theorem v_X6_nobodyGains : MV yX6_nobodyGains := ⟨tm_3 189 rfl rfl, tm_0 24 rfl rfl⟩
set_option maxRecDepth 30000 in
theorem o_X6_gains : MO yX6_gains cX6_gains 6 (some .boolean) 1 := ⟨⟨tm_1 1 rfl rfl, tm_3 194 rfl rfl⟩, by decide +kernel, by decide⟩
set_option maxRecDepth 30000 in
theorem v_X6_gains : MV yX6_gains := ⟨tm_3 193 rfl rfl, tm_0 25 rfl rfl⟩
set_option maxRecDepth 30000 in
theorem o_X6_laws : MO yX6_laws cX6_laws 6 (some .int) 1 := ⟨⟨tm_1 1 rfl rfl, tm_3 213 rfl rfl⟩, by decide +kernel, by decide⟩
set_option maxRecDepth 30000 in
theorem v_X6_laws : MV yX6_laws := ⟨tm_3 211 rfl rfl, tm_3 212 rfl rfl⟩
set_option maxRecDepth 30000 in
theorem o_X6_cook : MO yX6_cook cX6_cook 4 (some .int) 2 := ⟨⟨tm_1 1 rfl rfl, tm_3 221 rfl rfl⟩, by decide +kernel, by decide⟩
set_option maxRecDepth 30000 in
theorem v_X6_cook : MV yX6_cook := ⟨tm_3 219 rfl rfl, tm_3 220 rfl rfl⟩
set_option maxRecDepth 30000 in
theorem o_X6_thin : MO yX6_thin cX6_thin 3 (some .int) 1 := ⟨⟨tm_1 1 rfl rfl, tm_3 225 rfl rfl⟩, by decide +kernel, by decide⟩
set_option maxRecDepth 30000 in
theorem v_X6_thin : MV yX6_thin := ⟨tm_3 223 rfl rfl, tm_3 224 rfl rfl⟩
set_option maxRecDepth 30000 in
theorem o_X6_lasts : MO yX6_lasts cX6_lasts 4 (some .boolean) 2 := ⟨⟨tm_1 1 rfl rfl, tm_3 229 rfl rfl⟩, by decide +kernel, by decide⟩
set_option maxRecDepth 30000 in
theorem v_X6_lasts : MV yX6_lasts := ⟨tm_3 228 rfl rfl, tm_0 27 rfl rfl⟩
set_option maxRecDepth 30000 in
theorem o_X6_pact : MO yX6_pact cX6_pact 5 (some .int) 3 := ⟨⟨tm_1 1 rfl rfl, tm_3 237 rfl rfl⟩, by decide +kernel, by decide⟩
set_option maxRecDepth 30000 in
theorem v_X6_pact : MV yX6_pact := ⟨tm_3 235 rfl rfl, tm_3 236 rfl rfl⟩
set_option maxRecDepth 30000 in
theorem o_X6_guest : MO yX6_guest cX6_guest 2 (some .int) 1 := ⟨⟨tm_1 1 rfl rfl, tm_4 7 rfl rfl⟩, by decide +kernel, by decide⟩
set_option maxRecDepth 30000 in
theorem v_X6_guest : MV yX6_guest := ⟨tm_4 5 rfl rfl, tm_4 6 rfl rfl⟩
set_option maxRecDepth 30000 in
theorem o_X6_odds : MO yX6_odds cX6_odds 3 (some .long) 2 := ⟨⟨tm_1 1 rfl rfl, tm_4 11 rfl rfl⟩, by decide +kernel, by decide⟩
set_option maxRecDepth 30000 in
theorem v_X6_odds : MV yX6_odds := ⟨tm_4 9 rfl rfl, tm_4 10 rfl rfl⟩
set_option maxRecDepth 30000 in
theorem o_X6_mean : MO yX6_mean cX6_mean 3 (some .long) 2 := ⟨⟨tm_1 1 rfl rfl, tm_4 34 rfl rfl⟩, by decide +kernel, by decide⟩
set_option maxRecDepth 30000 in
theorem v_X6_mean : MV yX6_mean := ⟨tm_4 32 rfl rfl, tm_4 33 rfl rfl⟩
set_option maxRecDepth 30000 in
theorem o_X6_fraction : MO yX6_fraction cX6_fraction 12 (some .long) 3 := ⟨⟨tm_1 1 rfl rfl, tm_4 24 rfl rfl⟩, by decide +kernel, by decide⟩
set_option maxRecDepth 30000 in
theorem s_X6_fraction : Cond.static yX6_fraction ∈ tb := tm_4 23 rfl rfl
set_option maxRecDepth 30000 in
theorem o_X6_book : MO yX6_book cX6_book 2 (some .int) 1 := ⟨⟨tm_1 1 rfl rfl, tm_4 38 rfl rfl⟩, by decide +kernel, by decide⟩
set_option maxRecDepth 30000 in
theorem v_X6_book : MV yX6_book := ⟨tm_4 36 rfl rfl, tm_4 37 rfl rfl⟩
set_option maxRecDepth 30000 in
theorem o_X6_looked : MO yX6_looked cX6_looked 2 (some .int) 0 := ⟨⟨tm_1 1 rfl rfl, tm_4 42 rfl rfl⟩, by decide +kernel, by decide⟩
set_option maxRecDepth 30000 in
theorem v_X6_looked : MV yX6_looked := ⟨tm_4 40 rfl rfl, tm_4 41 rfl rfl⟩
set_option maxRecDepth 30000 in
theorem o_X6_judge : MO yX6_judge cX6_judge 5 (some .int) 2 := ⟨⟨tm_1 1 rfl rfl, tm_4 46 rfl rfl⟩, by decide +kernel, by decide⟩
set_option maxRecDepth 30000 in
theorem v_X6_judge : MV yX6_judge := ⟨tm_4 44 rfl rfl, tm_4 45 rfl rfl⟩
set_option maxRecDepth 30000 in
theorem o_X6_image : MO yX6_image cX6_image 1 (some .int) 0 := ⟨⟨tm_1 1 rfl rfl, tm_4 54 rfl rfl⟩, by decide +kernel, by decide⟩
set_option maxRecDepth 30000 in
theorem v_X6_image : MV yX6_image := ⟨tm_4 52 rfl rfl, tm_4 53 rfl rfl⟩
set_option maxRecDepth 30000 in
theorem o_X6_undo : MO yX6_undo cX6_undo 1 (some .int) 0 := ⟨⟨tm_1 1 rfl rfl, tm_4 58 rfl rfl⟩, by decide +kernel, by decide⟩
set_option maxRecDepth 30000 in
theorem v_X6_undo : MV yX6_undo := ⟨tm_4 56 rfl rfl, tm_4 57 rfl rfl⟩
set_option maxRecDepth 30000 in
theorem o_X6_act : MO yX6_act cX6_act 4 (some .int) 3 := ⟨⟨tm_1 1 rfl rfl, tm_4 62 rfl rfl⟩, by decide +kernel, by decide⟩
set_option maxRecDepth 30000 in
theorem v_X6_act : MV yX6_act := ⟨tm_4 60 rfl rfl, tm_4 61 rfl rfl⟩
set_option maxRecDepth 30000 in
theorem o_X6_trace : MO yX6_trace cX6_trace 2 (some .int) 1 := ⟨⟨tm_1 1 rfl rfl, tm_4 87 rfl rfl⟩, by decide +kernel, by decide⟩
set_option maxRecDepth 30000 in
theorem v_X6_trace : MV yX6_trace := ⟨tm_4 85 rfl rfl, tm_4 86 rfl rfl⟩
set_option maxRecDepth 30000 in
theorem o_X6_taken : MO yX6_taken cX6_taken 3 (some .int) 2 := ⟨⟨tm_1 1 rfl rfl, tm_4 91 rfl rfl⟩, by decide +kernel, by decide⟩
set_option maxRecDepth 30000 in
theorem v_X6_taken : MV yX6_taken := ⟨tm_4 89 rfl rfl, tm_4 90 rfl rfl⟩
set_option maxRecDepth 30000 in
theorem o_X6_count : MO yX6_count cX6_count 2 (some .int) 1 := ⟨⟨tm_1 1 rfl rfl, tm_4 99 rfl rfl⟩, by decide +kernel, by decide⟩
set_option maxRecDepth 30000 in
theorem v_X6_count : MV yX6_count := ⟨tm_4 97 rfl rfl, tm_4 98 rfl rfl⟩
set_option maxRecDepth 30000 in
theorem o_X6_tape : MO yX6_tape cX6_tape 4 (some .int) 3 := ⟨⟨tm_1 1 rfl rfl, tm_4 103 rfl rfl⟩, by decide +kernel, by decide⟩
set_option maxRecDepth 30000 in
theorem v_X6_tape : MV yX6_tape := ⟨tm_4 101 rfl rfl, tm_4 102 rfl rfl⟩
set_option maxRecDepth 30000 in
theorem o_X6_item : MO yX6_item cX6_item 5 (some .int) 3 := ⟨⟨tm_1 1 rfl rfl, tm_4 114 rfl rfl⟩, by decide +kernel, by decide⟩
set_option maxRecDepth 30000 in
theorem v_X6_item : MV yX6_item := ⟨tm_4 112 rfl rfl, tm_4 113 rfl rfl⟩
set_option maxRecDepth 30000 in
theorem o_X6_read : MO yX6_read cX6_read 3 (some .long) 2 := ⟨⟨tm_1 1 rfl rfl, tm_4 123 rfl rfl⟩, by decide +kernel, by decide⟩
set_option maxRecDepth 30000 in
theorem v_X6_read : MV yX6_read := ⟨tm_4 121 rfl rfl, tm_4 122 rfl rfl⟩
set_option maxRecDepth 30000 in
theorem o_X6_shift : MO yX6_shift cX6_shift 8 (some .int) 5 := ⟨⟨tm_1 1 rfl rfl, tm_4 127 rfl rfl⟩, by decide +kernel, by decide⟩
set_option maxRecDepth 30000 in
theorem v_X6_shift : MV yX6_shift := ⟨tm_4 125 rfl rfl, tm_4 126 rfl rfl⟩
set_option maxRecDepth 30000 in
theorem o_X6_within : MO yX6_within cX6_within 2 (some .boolean) 2 := ⟨⟨tm_1 1 rfl rfl, tm_2 84 rfl rfl⟩, by decide +kernel, by decide⟩
set_option maxRecDepth 30000 in
theorem s_X6_within : Cond.static yX6_within ∈ tb := tm_2 83 rfl rfl
set_option maxRecDepth 30000 in
theorem o_X6_isEater : MO yX6_isEater cX6_isEater 2 (some .boolean) 1 := ⟨⟨tm_1 1 rfl rfl, tm_2 96 rfl rfl⟩, by decide +kernel, by decide⟩
set_option maxRecDepth 30000 in
theorem v_X6_isEater : MV yX6_isEater := ⟨tm_2 95 rfl rfl, tm_0 0 rfl rfl⟩
set_option maxRecDepth 30000 in
theorem o_X6_holding : MO yX6_holding cX6_holding 1 (some (.object "AteLeast$House")) 0 := ⟨⟨tm_1 1 rfl rfl, tm_2 105 rfl rfl⟩, by decide +kernel, by decide⟩
set_option maxRecDepth 30000 in
theorem v_X6_holding : MV yX6_holding := ⟨tm_2 104 rfl rfl, tm_0 2 rfl rfl⟩
set_option maxRecDepth 30000 in
theorem o_X6_ahead : MO yX6_ahead cX6_ahead 3 none 1 := ⟨⟨tm_1 1 rfl rfl, tm_3 166 rfl rfl⟩, by decide +kernel, by decide⟩
set_option maxRecDepth 30000 in
theorem v_X6_ahead : MV yX6_ahead := ⟨tm_3 165 rfl rfl, tm_0 21 rfl rfl⟩
set_option maxRecDepth 30000 in
theorem o_X7_init : MO yX7_init cX7_init 1 none 0 := ⟨⟨tm_1 8 rfl rfl, tm_4 136 rfl rfl⟩, by decide +kernel, by decide⟩
set_option maxRecDepth 30000 in
theorem o_X7_in : MO yX7_in cX7_in 4 (some .boolean) 3 := ⟨⟨tm_1 8 rfl rfl, tm_5 105 rfl rfl⟩, by decide +kernel, by decide⟩
set_option maxRecDepth 30000 in
theorem v_X7_in : MV yX7_in := ⟨tm_5 104 rfl rfl, tm_0 31 rfl rfl⟩
set_option maxRecDepth 30000 in
theorem o_X7_isEater : MO yX7_isEater cX7_isEater 2 (some .boolean) 1 := ⟨⟨tm_1 8 rfl rfl, tm_5 117 rfl rfl⟩, by decide +kernel, by decide⟩
set_option maxRecDepth 30000 in
theorem v_X7_isEater : MV yX7_isEater := ⟨tm_5 116 rfl rfl, tm_0 33 rfl rfl⟩
set_option maxRecDepth 30000 in
theorem o_X7_lay : MO yX7_lay cX7_lay 6 none 4 := ⟨⟨tm_1 8 rfl rfl, tm_5 109 rfl rfl⟩, by decide +kernel, by decide⟩
set_option maxRecDepth 30000 in
theorem v_X7_lay : MV yX7_lay := ⟨tm_5 108 rfl rfl, tm_0 32 rfl rfl⟩
set_option maxRecDepth 30000 in
theorem o_X7_eater : MO yX7_eater cX7_eater 4 (some .int) 3 := ⟨⟨tm_1 8 rfl rfl, tm_5 101 rfl rfl⟩, by decide +kernel, by decide⟩
set_option maxRecDepth 30000 in
theorem v_X7_eater : MV yX7_eater := ⟨tm_5 99 rfl rfl, tm_5 100 rfl rfl⟩
set_option maxRecDepth 30000 in
theorem o_X7_hunger : MO yX7_hunger cX7_hunger 4 (some .int) 2 := ⟨⟨tm_1 8 rfl rfl, tm_5 113 rfl rfl⟩, by decide +kernel, by decide⟩
set_option maxRecDepth 30000 in
theorem v_X7_hunger : MV yX7_hunger := ⟨tm_5 111 rfl rfl, tm_5 112 rfl rfl⟩
set_option maxRecDepth 30000 in
theorem o_X7_row : MO yX7_row cX7_row 5 (some .int) 3 := ⟨⟨tm_1 8 rfl rfl, tm_5 121 rfl rfl⟩, by decide +kernel, by decide⟩
set_option maxRecDepth 30000 in
theorem v_X7_row : MV yX7_row := ⟨tm_5 119 rfl rfl, tm_5 120 rfl rfl⟩
set_option maxRecDepth 30000 in
theorem o_X7_bin : MO yX7_bin cX7_bin 3 (some .int) 1 := ⟨⟨tm_1 8 rfl rfl, tm_5 125 rfl rfl⟩, by decide +kernel, by decide⟩
set_option maxRecDepth 30000 in
theorem v_X7_bin : MV yX7_bin := ⟨tm_5 123 rfl rfl, tm_5 124 rfl rfl⟩
set_option maxRecDepth 30000 in
theorem o_X7_feed : MO yX7_feed cX7_feed 2 (some .int) 1 := ⟨⟨tm_1 8 rfl rfl, tm_5 129 rfl rfl⟩, by decide +kernel, by decide⟩
set_option maxRecDepth 30000 in
theorem v_X7_feed : MV yX7_feed := ⟨tm_5 127 rfl rfl, tm_5 128 rfl rfl⟩
set_option maxRecDepth 30000 in
theorem o_X7_next : MO yX7_next cX7_next 1 (some .int) 0 := ⟨⟨tm_1 8 rfl rfl, tm_5 153 rfl rfl⟩, by decide +kernel, by decide⟩
set_option maxRecDepth 30000 in
theorem v_X7_next : MV yX7_next := ⟨tm_5 152 rfl rfl, tm_0 38 rfl rfl⟩
set_option maxRecDepth 30000 in
theorem o_X7_second : MO yX7_second cX7_second 1 (some .int) 0 := ⟨⟨tm_1 8 rfl rfl, tm_5 149 rfl rfl⟩, by decide +kernel, by decide⟩
set_option maxRecDepth 30000 in
theorem v_X7_second : MV yX7_second := ⟨tm_5 148 rfl rfl, tm_0 37 rfl rfl⟩
set_option maxRecDepth 30000 in
theorem o_X7_takes : MO yX7_takes cX7_takes 2 (some .boolean) 1 := ⟨⟨tm_1 8 rfl rfl, tm_5 161 rfl rfl⟩, by decide +kernel, by decide⟩
set_option maxRecDepth 30000 in
theorem v_X7_takes : MV yX7_takes := ⟨tm_5 160 rfl rfl, tm_0 40 rfl rfl⟩
set_option maxRecDepth 30000 in
theorem o_X7_takesWord : MO yX7_takesWord cX7_takesWord 4 (some .boolean) 2 := ⟨⟨tm_1 8 rfl rfl, tm_5 157 rfl rfl⟩, by decide +kernel, by decide⟩
set_option maxRecDepth 30000 in
theorem v_X7_takesWord : MV yX7_takesWord := ⟨tm_5 156 rfl rfl, tm_0 39 rfl rfl⟩
set_option maxRecDepth 30000 in
theorem o_X7_isDigit : MO yX7_isDigit cX7_isDigit 1 (some .boolean) 0 := ⟨⟨tm_1 8 rfl rfl, tm_5 169 rfl rfl⟩, by decide +kernel, by decide⟩
set_option maxRecDepth 30000 in
theorem v_X7_isDigit : MV yX7_isDigit := ⟨tm_5 168 rfl rfl, tm_0 42 rfl rfl⟩
set_option maxRecDepth 30000 in
theorem o_X7_takesNumber : MO yX7_takesNumber cX7_takesNumber 2 (some .boolean) 0 := ⟨⟨tm_1 8 rfl rfl, tm_5 165 rfl rfl⟩, by decide +kernel, by decide⟩
set_option maxRecDepth 30000 in
theorem v_X7_takesNumber : MV yX7_takesNumber := ⟨tm_5 164 rfl rfl, tm_0 41 rfl rfl⟩
set_option maxRecDepth 30000 in
theorem o_X7_put : MO yX7_put cX7_put 2 none 1 := ⟨⟨tm_1 8 rfl rfl, tm_5 185 rfl rfl⟩, by decide +kernel, by decide⟩
set_option maxRecDepth 30000 in
theorem v_X7_put : MV yX7_put := ⟨tm_5 184 rfl rfl, tm_0 46 rfl rfl⟩
set_option maxRecDepth 30000 in
theorem o_X7_whole : MO yX7_whole cX7_whole 1 none 0 := ⟨⟨tm_1 8 rfl rfl, tm_5 189 rfl rfl⟩, by decide +kernel, by decide⟩
set_option maxRecDepth 30000 in
theorem v_X7_whole : MV yX7_whole := ⟨tm_5 188 rfl rfl, tm_0 47 rfl rfl⟩
set_option maxRecDepth 30000 in
theorem o_X7_settle : MO yX7_settle cX7_settle 2 none 1 := ⟨⟨tm_1 8 rfl rfl, tm_5 193 rfl rfl⟩, by decide +kernel, by decide⟩
set_option maxRecDepth 30000 in
theorem v_X7_settle : MV yX7_settle := ⟨tm_5 192 rfl rfl, tm_0 48 rfl rfl⟩
set_option maxRecDepth 30000 in
theorem o_X7_place : MO yX7_place cX7_place 2 (some .int) 1 := ⟨⟨tm_1 8 rfl rfl, tm_5 181 rfl rfl⟩, by decide +kernel, by decide⟩
set_option maxRecDepth 30000 in
theorem v_X7_place : MV yX7_place := ⟨tm_5 180 rfl rfl, tm_0 45 rfl rfl⟩
set_option maxRecDepth 30000 in
theorem o_X7_takesTest : MO yX7_takesTest cX7_takesTest 3 (some .boolean) 0 := ⟨⟨tm_1 8 rfl rfl, tm_5 177 rfl rfl⟩, by decide +kernel, by decide⟩
set_option maxRecDepth 30000 in
theorem v_X7_takesTest : MV yX7_takesTest := ⟨tm_5 176 rfl rfl, tm_0 44 rfl rfl⟩
set_option maxRecDepth 30000 in
theorem o_X7_takesE : MO yX7_takesE cX7_takesE 4 (some .boolean) 1 := ⟨⟨tm_1 8 rfl rfl, tm_5 173 rfl rfl⟩, by decide +kernel, by decide⟩
set_option maxRecDepth 30000 in
theorem v_X7_takesE : MV yX7_takesE := ⟨tm_5 172 rfl rfl, tm_0 43 rfl rfl⟩
set_option maxRecDepth 30000 in
theorem o_X7_takesHead : MO yX7_takesHead cX7_takesHead 3 (some .boolean) 1 := ⟨⟨tm_1 8 rfl rfl, tm_5 145 rfl rfl⟩, by decide +kernel, by decide⟩
set_option maxRecDepth 30000 in
theorem v_X7_takesHead : MV yX7_takesHead := ⟨tm_5 144 rfl rfl, tm_0 36 rfl rfl⟩
set_option maxRecDepth 30000 in
theorem o_X7_takesClause : MO yX7_takesClause cX7_takesClause 2 (some .boolean) 1 := ⟨⟨tm_1 8 rfl rfl, tm_5 141 rfl rfl⟩, by decide +kernel, by decide⟩
set_option maxRecDepth 30000 in
theorem v_X7_takesClause : MV yX7_takesClause := ⟨tm_5 140 rfl rfl, tm_0 35 rfl rfl⟩
set_option maxRecDepth 30000 in
theorem o_X7_goesText : MO yX7_goesText cX7_goesText 3 (some .boolean) 1 := ⟨⟨tm_1 8 rfl rfl, tm_5 137 rfl rfl⟩, by decide +kernel, by decide⟩
set_option maxRecDepth 30000 in
theorem v_X7_goesText : MV yX7_goesText := ⟨tm_5 136 rfl rfl, tm_0 34 rfl rfl⟩
set_option maxRecDepth 30000 in
theorem o_X7_house : MO yX7_house cX7_house 2 (some .int) 0 := ⟨⟨tm_1 8 rfl rfl, tm_5 133 rfl rfl⟩, by decide +kernel, by decide⟩
set_option maxRecDepth 30000 in
theorem v_X7_house : MV yX7_house := ⟨tm_5 131 rfl rfl, tm_5 132 rfl rfl⟩
set_option maxRecDepth 30000 in
theorem o_X7_begin : MO yX7_begin cX7_begin 1 (some .int) 0 := ⟨⟨tm_1 8 rfl rfl, tm_6 5 rfl rfl⟩, by decide +kernel, by decide⟩
set_option maxRecDepth 30000 in
theorem v_X7_begin : MV yX7_begin := ⟨tm_6 4 rfl rfl, tm_0 60 rfl rfl⟩
set_option maxRecDepth 30000 in
theorem o_X7_behind : MO yX7_behind cX7_behind 1 (some .int) 0 := ⟨⟨tm_1 8 rfl rfl, tm_6 9 rfl rfl⟩, by decide +kernel, by decide⟩
set_option maxRecDepth 30000 in
theorem v_X7_behind : MV yX7_behind := ⟨tm_6 8 rfl rfl, tm_0 61 rfl rfl⟩
set_option maxRecDepth 30000 in
theorem o_X7_lastOf : MO yX7_lastOf cX7_lastOf 5 (some .int) 2 := ⟨⟨tm_1 8 rfl rfl, tm_6 1 rfl rfl⟩, by decide +kernel, by decide⟩
set_option maxRecDepth 30000 in
theorem v_X7_lastOf : MV yX7_lastOf := ⟨tm_6 0 rfl rfl, tm_0 59 rfl rfl⟩
set_option maxRecDepth 30000 in
theorem o_X7_hasOf : MO yX7_hasOf cX7_hasOf 3 (some .boolean) 1 := ⟨⟨tm_1 8 rfl rfl, tm_6 25 rfl rfl⟩, by decide +kernel, by decide⟩
set_option maxRecDepth 30000 in
theorem v_X7_hasOf : MV yX7_hasOf := ⟨tm_6 24 rfl rfl, tm_0 65 rfl rfl⟩
set_option maxRecDepth 30000 in
theorem o_X7_factOf : MO yX7_factOf cX7_factOf 4 (some .int) 3 := ⟨⟨tm_1 8 rfl rfl, tm_6 37 rfl rfl⟩, by decide +kernel, by decide⟩
set_option maxRecDepth 30000 in
theorem v_X7_factOf : MV yX7_factOf := ⟨tm_6 36 rfl rfl, tm_0 68 rfl rfl⟩
set_option maxRecDepth 30000 in
theorem o_X7_holds : MO yX7_holds cX7_holds 9 (some .boolean) 3 := ⟨⟨tm_1 8 rfl rfl, tm_6 33 rfl rfl⟩, by decide +kernel, by decide⟩
set_option maxRecDepth 30000 in
theorem v_X7_holds : MV yX7_holds := ⟨tm_6 32 rfl rfl, tm_0 67 rfl rfl⟩
set_option maxRecDepth 30000 in
theorem o_X7_sumOf : MO yX7_sumOf cX7_sumOf 6 (some .int) 3 := ⟨⟨tm_1 8 rfl rfl, tm_6 29 rfl rfl⟩, by decide +kernel, by decide⟩
set_option maxRecDepth 30000 in
theorem v_X7_sumOf : MV yX7_sumOf := ⟨tm_6 28 rfl rfl, tm_0 66 rfl rfl⟩
set_option maxRecDepth 30000 in
theorem o_X7_worthOf : MO yX7_worthOf cX7_worthOf 3 (some .int) 2 := ⟨⟨tm_1 8 rfl rfl, tm_6 41 rfl rfl⟩, by decide +kernel, by decide⟩
set_option maxRecDepth 30000 in
theorem v_X7_worthOf : MV yX7_worthOf := ⟨tm_6 40 rfl rfl, tm_0 69 rfl rfl⟩
set_option maxRecDepth 30000 in
theorem o_X7_costOf : MO yX7_costOf cX7_costOf 3 (some .int) 2 := ⟨⟨tm_1 8 rfl rfl, tm_6 21 rfl rfl⟩, by decide +kernel, by decide⟩
set_option maxRecDepth 30000 in
theorem v_X7_costOf : MV yX7_costOf := ⟨tm_6 20 rfl rfl, tm_0 64 rfl rfl⟩
set_option maxRecDepth 30000 in
theorem o_X7_lawNow : MO yX7_lawNow cX7_lawNow 1 (some .int) 0 := ⟨⟨tm_1 8 rfl rfl, tm_6 13 rfl rfl⟩, by decide +kernel, by decide⟩
set_option maxRecDepth 30000 in
theorem v_X7_lawNow : MV yX7_lawNow := ⟨tm_6 12 rfl rfl, tm_0 62 rfl rfl⟩
set_option maxRecDepth 30000 in
theorem o_X7_scaleNow : MO yX7_scaleNow cX7_scaleNow 2 (some .int) 0 := ⟨⟨tm_1 8 rfl rfl, tm_5 237 rfl rfl⟩, by decide +kernel, by decide⟩
set_option maxRecDepth 30000 in
theorem v_X7_scaleNow : MV yX7_scaleNow := ⟨tm_5 236 rfl rfl, tm_0 58 rfl rfl⟩
set_option maxRecDepth 30000 in
theorem o_X7_isAhead : MO yX7_isAhead cX7_isAhead 4 (some .boolean) 3 := ⟨⟨tm_1 8 rfl rfl, tm_6 17 rfl rfl⟩, by decide +kernel, by decide⟩
set_option maxRecDepth 30000 in
theorem v_X7_isAhead : MV yX7_isAhead := ⟨tm_6 16 rfl rfl, tm_0 63 rfl rfl⟩
set_option maxRecDepth 30000 in
theorem o_X7_bakerNow : MO yX7_bakerNow cX7_bakerNow 7 (some .int) 0 := ⟨⟨tm_1 8 rfl rfl, tm_5 233 rfl rfl⟩, by decide +kernel, by decide⟩
set_option maxRecDepth 30000 in
theorem v_X7_bakerNow : MV yX7_bakerNow := ⟨tm_5 232 rfl rfl, tm_0 57 rfl rfl⟩
set_option maxRecDepth 30000 in
theorem o_X7_laySupper : MO yX7_laySupper cX7_laySupper 4 none 0 := ⟨⟨tm_1 8 rfl rfl, tm_5 229 rfl rfl⟩, by decide +kernel, by decide⟩
set_option maxRecDepth 30000 in
theorem v_X7_laySupper : MV yX7_laySupper := ⟨tm_5 228 rfl rfl, tm_0 56 rfl rfl⟩
set_option maxRecDepth 30000 in
theorem o_X7_least : MO yX7_least cX7_least 3 (some .int) 2 := ⟨⟨tm_1 8 rfl rfl, tm_5 221 rfl rfl⟩, by decide +kernel, by decide⟩
set_option maxRecDepth 30000 in
theorem v_X7_least : MV yX7_least := ⟨tm_5 220 rfl rfl, tm_0 54 rfl rfl⟩
set_option maxRecDepth 30000 in
theorem o_X7_crumb : MO yX7_crumb cX7_crumb 2 (some .int) 1 := ⟨⟨tm_1 8 rfl rfl, tm_5 225 rfl rfl⟩, by decide +kernel, by decide⟩
set_option maxRecDepth 30000 in
theorem v_X7_crumb : MV yX7_crumb := ⟨tm_5 224 rfl rfl, tm_0 55 rfl rfl⟩
set_option maxRecDepth 30000 in
theorem o_X7_plainWish : MO yX7_plainWish cX7_plainWish 2 (some .int) 1 := ⟨⟨tm_1 8 rfl rfl, tm_5 217 rfl rfl⟩, by decide +kernel, by decide⟩
set_option maxRecDepth 30000 in
theorem v_X7_plainWish : MV yX7_plainWish := ⟨tm_5 216 rfl rfl, tm_0 53 rfl rfl⟩
set_option maxRecDepth 30000 in
theorem o_X7_bestWish : MO yX7_bestWish cX7_bestWish 6 (some .int) 1 := ⟨⟨tm_1 8 rfl rfl, tm_5 213 rfl rfl⟩, by decide +kernel, by decide⟩
set_option maxRecDepth 30000 in
theorem v_X7_bestWish : MV yX7_bestWish := ⟨tm_5 212 rfl rfl, tm_0 52 rfl rfl⟩
set_option maxRecDepth 30000 in
theorem o_X7_wishOf : MO yX7_wishOf cX7_wishOf 2 (some .int) 1 := ⟨⟨tm_1 8 rfl rfl, tm_5 209 rfl rfl⟩, by decide +kernel, by decide⟩
set_option maxRecDepth 30000 in
theorem v_X7_wishOf : MV yX7_wishOf := ⟨tm_5 208 rfl rfl, tm_0 51 rfl rfl⟩
set_option maxRecDepth 30000 in
theorem o_X7_layWishes : MO yX7_layWishes cX7_layWishes 2 none 0 := ⟨⟨tm_1 8 rfl rfl, tm_5 205 rfl rfl⟩, by decide +kernel, by decide⟩
set_option maxRecDepth 30000 in
theorem v_X7_layWishes : MV yX7_layWishes := ⟨tm_5 204 rfl rfl, tm_0 50 rfl rfl⟩
set_option maxRecDepth 30000 in
theorem o_X7_goSupper : MO yX7_goSupper cX7_goSupper 3 none 0 := ⟨⟨tm_1 8 rfl rfl, tm_5 201 rfl rfl⟩, by decide +kernel, by decide⟩
set_option maxRecDepth 30000 in
theorem v_X7_goSupper : MV yX7_goSupper := ⟨tm_5 200 rfl rfl, tm_0 49 rfl rfl⟩
set_option maxRecDepth 30000 in
theorem o_X7_supper : MO yX7_supper cX7_supper 1 (some .int) 0 := ⟨⟨tm_1 8 rfl rfl, tm_5 197 rfl rfl⟩, by decide +kernel, by decide⟩
set_option maxRecDepth 30000 in
theorem v_X7_supper : MV yX7_supper := ⟨tm_5 195 rfl rfl, tm_5 196 rfl rfl⟩
set_option maxRecDepth 30000 in
theorem o_X7_of : MO yX7_of cX7_of 3 (some .int) 2 := ⟨⟨tm_1 8 rfl rfl, tm_6 45 rfl rfl⟩, by decide +kernel, by decide⟩
set_option maxRecDepth 30000 in
theorem v_X7_of : MV yX7_of := ⟨tm_6 43 rfl rfl, tm_6 44 rfl rfl⟩
set_option maxRecDepth 30000 in
theorem o_X7_told : MO yX7_told cX7_told 2 (some .int) 1 := ⟨⟨tm_1 8 rfl rfl, tm_6 50 rfl rfl⟩, by decide +kernel, by decide⟩
set_option maxRecDepth 30000 in
theorem v_X7_told : MV yX7_told := ⟨tm_6 48 rfl rfl, tm_6 49 rfl rfl⟩
set_option maxRecDepth 30000 in
theorem o_X7_keep : MO yX7_keep cX7_keep 2 none 0 := ⟨⟨tm_1 8 rfl rfl, tm_6 59 rfl rfl⟩, by decide +kernel, by decide⟩
set_option maxRecDepth 30000 in
theorem v_X7_keep : MV yX7_keep := ⟨tm_6 58 rfl rfl, tm_0 70 rfl rfl⟩
set_option maxRecDepth 30000 in
theorem o_X7_putBack : MO yX7_putBack cX7_putBack 2 none 0 := ⟨⟨tm_1 8 rfl rfl, tm_6 67 rfl rfl⟩, by decide +kernel, by decide⟩
set_option maxRecDepth 30000 in
theorem v_X7_putBack : MV yX7_putBack := ⟨tm_6 66 rfl rfl, tm_0 72 rfl rfl⟩
set_option maxRecDepth 30000 in
theorem o_X7_goOn : MO yX7_goOn cX7_goOn 3 none 1 := ⟨⟨tm_1 8 rfl rfl, tm_6 63 rfl rfl⟩, by decide +kernel, by decide⟩
set_option maxRecDepth 30000 in
theorem v_X7_goOn : MV yX7_goOn := ⟨tm_6 62 rfl rfl, tm_0 71 rfl rfl⟩
set_option maxRecDepth 30000 in
theorem o_X7_run : MO yX7_run cX7_run 4 (some .int) 2 := ⟨⟨tm_1 8 rfl rfl, tm_6 54 rfl rfl⟩, by decide +kernel, by decide⟩
set_option maxRecDepth 30000 in
theorem v_X7_run : MV yX7_run := ⟨tm_6 52 rfl rfl, tm_6 53 rfl rfl⟩
set_option maxRecDepth 30000 in
theorem o_X7_isAsKept : MO yX7_isAsKept cX7_isAsKept 2 (some .boolean) 0 := ⟨⟨tm_1 8 rfl rfl, tm_6 75 rfl rfl⟩, by decide +kernel, by decide⟩
set_option maxRecDepth 30000 in
theorem v_X7_isAsKept : MV yX7_isAsKept := ⟨tm_6 74 rfl rfl, tm_0 73 rfl rfl⟩
set_option maxRecDepth 30000 in
theorem o_X7_round : MO yX7_round cX7_round 3 (some .int) 0 := ⟨⟨tm_1 8 rfl rfl, tm_6 71 rfl rfl⟩, by decide +kernel, by decide⟩
set_option maxRecDepth 30000 in
theorem v_X7_round : MV yX7_round := ⟨tm_6 69 rfl rfl, tm_6 70 rfl rfl⟩
set_option maxRecDepth 30000 in
theorem o_X7_layRow : MO yX7_layRow cX7_layRow 4 none 1 := ⟨⟨tm_1 8 rfl rfl, tm_6 91 rfl rfl⟩, by decide +kernel, by decide⟩
set_option maxRecDepth 30000 in
theorem v_X7_layRow : MV yX7_layRow := ⟨tm_6 90 rfl rfl, tm_0 76 rfl rfl⟩
set_option maxRecDepth 30000 in
theorem o_X7_rowsNow : MO yX7_rowsNow cX7_rowsNow 3 (some .int) 0 := ⟨⟨tm_1 8 rfl rfl, tm_6 83 rfl rfl⟩, by decide +kernel, by decide⟩
set_option maxRecDepth 30000 in
theorem v_X7_rowsNow : MV yX7_rowsNow := ⟨tm_6 82 rfl rfl, tm_0 74 rfl rfl⟩
set_option maxRecDepth 30000 in
theorem o_X7_isStill : MO yX7_isStill cX7_isStill 5 (some .boolean) 1 := ⟨⟨tm_1 8 rfl rfl, tm_6 87 rfl rfl⟩, by decide +kernel, by decide⟩
set_option maxRecDepth 30000 in
theorem v_X7_isStill : MV yX7_isStill := ⟨tm_6 86 rfl rfl, tm_0 75 rfl rfl⟩
set_option maxRecDepth 30000 in
theorem o_X7_digit : MO yX7_digit cX7_digit 5 (some .int) 2 := ⟨⟨tm_1 8 rfl rfl, tm_6 95 rfl rfl⟩, by decide +kernel, by decide⟩
set_option maxRecDepth 30000 in
theorem v_X7_digit : MV yX7_digit := ⟨tm_6 94 rfl rfl, tm_0 77 rfl rfl⟩
set_option maxRecDepth 30000 in
theorem o_X7_still : MO yX7_still cX7_still 5 (some .int) 1 := ⟨⟨tm_1 8 rfl rfl, tm_6 79 rfl rfl⟩, by decide +kernel, by decide⟩
set_option maxRecDepth 30000 in
theorem v_X7_still : MV yX7_still := ⟨tm_6 77 rfl rfl, tm_6 78 rfl rfl⟩
set_option maxRecDepth 30000 in
theorem o_X7_allBest : MO yX7_allBest cX7_allBest 7 (some .int) 1 := ⟨⟨tm_1 8 rfl rfl, tm_6 99 rfl rfl⟩, by decide +kernel, by decide⟩
set_option maxRecDepth 30000 in
theorem v_X7_allBest : MV yX7_allBest := ⟨tm_6 97 rfl rfl, tm_6 98 rfl rfl⟩
set_option maxRecDepth 30000 in
theorem o_X7_allGlad : MO yX7_allGlad cX7_allGlad 3 (some .int) 0 := ⟨⟨tm_1 8 rfl rfl, tm_6 107 rfl rfl⟩, by decide +kernel, by decide⟩
set_option maxRecDepth 30000 in
theorem v_X7_allGlad : MV yX7_allGlad := ⟨tm_6 106 rfl rfl, tm_0 78 rfl rfl⟩
set_option maxRecDepth 30000 in
theorem o_X7_laws : MO yX7_laws cX7_laws 6 (some .int) 1 := ⟨⟨tm_1 8 rfl rfl, tm_6 103 rfl rfl⟩, by decide +kernel, by decide⟩
set_option maxRecDepth 30000 in
theorem v_X7_laws : MV yX7_laws := ⟨tm_6 101 rfl rfl, tm_6 102 rfl rfl⟩
set_option maxRecDepth 30000 in
theorem o_X7_gladBehind : MO yX7_gladBehind cX7_gladBehind 4 (some .int) 2 := ⟨⟨tm_1 8 rfl rfl, tm_6 115 rfl rfl⟩, by decide +kernel, by decide⟩
set_option maxRecDepth 30000 in
theorem v_X7_gladBehind : MV yX7_gladBehind := ⟨tm_6 114 rfl rfl, tm_0 79 rfl rfl⟩
set_option maxRecDepth 30000 in
theorem o_X7_cook : MO yX7_cook cX7_cook 5 (some .int) 2 := ⟨⟨tm_1 8 rfl rfl, tm_6 111 rfl rfl⟩, by decide +kernel, by decide⟩
set_option maxRecDepth 30000 in
theorem v_X7_cook : MV yX7_cook := ⟨tm_6 109 rfl rfl, tm_6 110 rfl rfl⟩
set_option maxRecDepth 30000 in
theorem o_X7_isEnough : MO yX7_isEnough cX7_isEnough 6 (some .boolean) 2 := ⟨⟨tm_1 8 rfl rfl, tm_6 123 rfl rfl⟩, by decide +kernel, by decide⟩
set_option maxRecDepth 30000 in
theorem v_X7_isEnough : MV yX7_isEnough := ⟨tm_6 122 rfl rfl, tm_0 80 rfl rfl⟩
set_option maxRecDepth 30000 in
theorem o_X7_thin : MO yX7_thin cX7_thin 3 (some .int) 1 := ⟨⟨tm_1 8 rfl rfl, tm_6 119 rfl rfl⟩, by decide +kernel, by decide⟩
set_option maxRecDepth 30000 in
theorem v_X7_thin : MV yX7_thin := ⟨tm_6 117 rfl rfl, tm_6 118 rfl rfl⟩
set_option maxRecDepth 30000 in
theorem o_X7_pact : MO yX7_pact cX7_pact 6 (some .int) 3 := ⟨⟨tm_1 8 rfl rfl, tm_6 127 rfl rfl⟩, by decide +kernel, by decide⟩
set_option maxRecDepth 30000 in
theorem v_X7_pact : MV yX7_pact := ⟨tm_6 125 rfl rfl, tm_6 126 rfl rfl⟩
set_option maxRecDepth 30000 in
theorem o_X7_guest : MO yX7_guest cX7_guest 2 (some .int) 1 := ⟨⟨tm_1 8 rfl rfl, tm_6 131 rfl rfl⟩, by decide +kernel, by decide⟩
set_option maxRecDepth 30000 in
theorem v_X7_guest : MV yX7_guest := ⟨tm_6 129 rfl rfl, tm_6 130 rfl rfl⟩
set_option maxRecDepth 30000 in
theorem o_X7_divisor : MO yX7_divisor cX7_divisor 11 (some .long) 2 := ⟨⟨tm_1 8 rfl rfl, tm_6 144 rfl rfl⟩, by decide +kernel, by decide⟩
set_option maxRecDepth 30000 in
theorem v_X7_divisor : MV yX7_divisor := ⟨tm_6 143 rfl rfl, tm_0 82 rfl rfl⟩
set_option maxRecDepth 30000 in
theorem o_X7_lowest : MO yX7_lowest cX7_lowest 8 (some .long) 3 := ⟨⟨tm_1 8 rfl rfl, tm_6 140 rfl rfl⟩, by decide +kernel, by decide⟩
set_option maxRecDepth 30000 in
theorem v_X7_lowest : MV yX7_lowest := ⟨tm_6 139 rfl rfl, tm_0 81 rfl rfl⟩
set_option maxRecDepth 30000 in
theorem o_X7_odds : MO yX7_odds cX7_odds 6 (some .long) 2 := ⟨⟨tm_1 8 rfl rfl, tm_6 135 rfl rfl⟩, by decide +kernel, by decide⟩
set_option maxRecDepth 30000 in
theorem v_X7_odds : MV yX7_odds := ⟨tm_6 133 rfl rfl, tm_6 134 rfl rfl⟩
set_option maxRecDepth 30000 in
theorem o_X7_mean : MO yX7_mean cX7_mean 5 (some .long) 2 := ⟨⟨tm_1 8 rfl rfl, tm_6 148 rfl rfl⟩, by decide +kernel, by decide⟩
set_option maxRecDepth 30000 in
theorem v_X7_mean : MV yX7_mean := ⟨tm_6 146 rfl rfl, tm_6 147 rfl rfl⟩
set_option maxRecDepth 30000 in
theorem o_X7_book : MO yX7_book cX7_book 2 (some .int) 1 := ⟨⟨tm_1 8 rfl rfl, tm_6 152 rfl rfl⟩, by decide +kernel, by decide⟩
set_option maxRecDepth 30000 in
theorem v_X7_book : MV yX7_book := ⟨tm_6 150 rfl rfl, tm_6 151 rfl rfl⟩
set_option maxRecDepth 30000 in
theorem o_X7_looked : MO yX7_looked cX7_looked 3 (some .int) 0 := ⟨⟨tm_1 8 rfl rfl, tm_6 156 rfl rfl⟩, by decide +kernel, by decide⟩
set_option maxRecDepth 30000 in
theorem v_X7_looked : MV yX7_looked := ⟨tm_6 154 rfl rfl, tm_6 155 rfl rfl⟩
set_option maxRecDepth 30000 in
theorem o_X7_judge : MO yX7_judge cX7_judge 4 (some .int) 2 := ⟨⟨tm_1 8 rfl rfl, tm_6 160 rfl rfl⟩, by decide +kernel, by decide⟩
set_option maxRecDepth 30000 in
theorem v_X7_judge : MV yX7_judge := ⟨tm_6 158 rfl rfl, tm_6 159 rfl rfl⟩
set_option maxRecDepth 30000 in
theorem o_X7_image : MO yX7_image cX7_image 2 (some .int) 0 := ⟨⟨tm_1 8 rfl rfl, tm_6 168 rfl rfl⟩, by decide +kernel, by decide⟩
set_option maxRecDepth 30000 in
theorem v_X7_image : MV yX7_image := ⟨tm_6 166 rfl rfl, tm_6 167 rfl rfl⟩
set_option maxRecDepth 30000 in
theorem o_X7_undo : MO yX7_undo cX7_undo 2 (some .int) 0 := ⟨⟨tm_1 8 rfl rfl, tm_6 172 rfl rfl⟩, by decide +kernel, by decide⟩
set_option maxRecDepth 30000 in
theorem v_X7_undo : MV yX7_undo := ⟨tm_6 170 rfl rfl, tm_6 171 rfl rfl⟩
set_option maxRecDepth 30000 in
theorem o_X7_body : MO yX7_body cX7_body 2 none 1 := ⟨⟨tm_1 8 rfl rfl, tm_6 184 rfl rfl⟩, by decide +kernel, by decide⟩
set_option maxRecDepth 30000 in
theorem v_X7_body : MV yX7_body := ⟨tm_6 183 rfl rfl, tm_0 85 rfl rfl⟩
set_option maxRecDepth 30000 in
theorem o_X7_eaterEats : MO yX7_eaterEats cX7_eaterEats 3 (some .int) 2 := ⟨⟨tm_1 8 rfl rfl, tm_6 188 rfl rfl⟩, by decide +kernel, by decide⟩
set_option maxRecDepth 30000 in
theorem v_X7_eaterEats : MV yX7_eaterEats := ⟨tm_6 187 rfl rfl, tm_0 86 rfl rfl⟩
set_option maxRecDepth 30000 in
theorem o_X7_eatsAct : MO yX7_eatsAct cX7_eatsAct 3 (some .int) 2 := ⟨⟨tm_1 8 rfl rfl, tm_6 180 rfl rfl⟩, by decide +kernel, by decide⟩
set_option maxRecDepth 30000 in
theorem v_X7_eatsAct : MV yX7_eatsAct := ⟨tm_6 179 rfl rfl, tm_0 84 rfl rfl⟩
set_option maxRecDepth 30000 in
theorem o_X7_eaterBakes : MO yX7_eaterBakes cX7_eaterBakes 3 (some .int) 2 := ⟨⟨tm_1 8 rfl rfl, tm_6 200 rfl rfl⟩, by decide +kernel, by decide⟩
set_option maxRecDepth 30000 in
theorem v_X7_eaterBakes : MV yX7_eaterBakes := ⟨tm_6 199 rfl rfl, tm_0 89 rfl rfl⟩
set_option maxRecDepth 30000 in
theorem o_X7_hungryBakes : MO yX7_hungryBakes cX7_hungryBakes 3 (some .int) 2 := ⟨⟨tm_1 8 rfl rfl, tm_6 196 rfl rfl⟩, by decide +kernel, by decide⟩
set_option maxRecDepth 30000 in
theorem v_X7_hungryBakes : MV yX7_hungryBakes := ⟨tm_6 195 rfl rfl, tm_0 88 rfl rfl⟩
set_option maxRecDepth 30000 in
theorem o_X7_bakesAct : MO yX7_bakesAct cX7_bakesAct 4 (some .int) 2 := ⟨⟨tm_1 8 rfl rfl, tm_6 192 rfl rfl⟩, by decide +kernel, by decide⟩
set_option maxRecDepth 30000 in
theorem v_X7_bakesAct : MV yX7_bakesAct := ⟨tm_6 191 rfl rfl, tm_0 87 rfl rfl⟩
set_option maxRecDepth 30000 in
theorem o_X7_eaterTells : MO yX7_eaterTells cX7_eaterTells 3 (some .int) 2 := ⟨⟨tm_1 8 rfl rfl, tm_6 208 rfl rfl⟩, by decide +kernel, by decide⟩
set_option maxRecDepth 30000 in
theorem v_X7_eaterTells : MV yX7_eaterTells := ⟨tm_6 207 rfl rfl, tm_0 91 rfl rfl⟩
set_option maxRecDepth 30000 in
theorem o_X7_tellsAct : MO yX7_tellsAct cX7_tellsAct 4 (some .int) 2 := ⟨⟨tm_1 8 rfl rfl, tm_6 204 rfl rfl⟩, by decide +kernel, by decide⟩
set_option maxRecDepth 30000 in
theorem v_X7_tellsAct : MV yX7_tellsAct := ⟨tm_6 203 rfl rfl, tm_0 90 rfl rfl⟩
set_option maxRecDepth 30000 in
theorem o_X7_act : MO yX7_act cX7_act 4 (some .int) 3 := ⟨⟨tm_1 8 rfl rfl, tm_6 176 rfl rfl⟩, by decide +kernel, by decide⟩
set_option maxRecDepth 30000 in
theorem v_X7_act : MV yX7_act := ⟨tm_6 174 rfl rfl, tm_6 175 rfl rfl⟩
set_option maxRecDepth 30000 in
theorem o_X7_trace : MO yX7_trace cX7_trace 2 (some .int) 1 := ⟨⟨tm_1 8 rfl rfl, tm_6 212 rfl rfl⟩, by decide +kernel, by decide⟩
set_option maxRecDepth 30000 in
theorem v_X7_trace : MV yX7_trace := ⟨tm_6 210 rfl rfl, tm_6 211 rfl rfl⟩
set_option maxRecDepth 30000 in
theorem o_X7_taken : MO yX7_taken cX7_taken 4 (some .int) 2 := ⟨⟨tm_1 8 rfl rfl, tm_6 216 rfl rfl⟩, by decide +kernel, by decide⟩
set_option maxRecDepth 30000 in
theorem v_X7_taken : MV yX7_taken := ⟨tm_6 214 rfl rfl, tm_6 215 rfl rfl⟩
set_option maxRecDepth 30000 in
theorem o_X7_count : MO yX7_count cX7_count 2 (some .int) 1 := ⟨⟨tm_1 8 rfl rfl, tm_6 220 rfl rfl⟩, by decide +kernel, by decide⟩
set_option maxRecDepth 30000 in
theorem v_X7_count : MV yX7_count := ⟨tm_6 218 rfl rfl, tm_6 219 rfl rfl⟩
set_option maxRecDepth 30000 in
theorem o_X7_isTape : MO yX7_isTape cX7_isTape 2 (some .boolean) 1 := ⟨⟨tm_1 8 rfl rfl, tm_6 164 rfl rfl⟩, by decide +kernel, by decide⟩
set_option maxRecDepth 30000 in
theorem v_X7_isTape : MV yX7_isTape := ⟨tm_6 163 rfl rfl, tm_0 83 rfl rfl⟩
set_option maxRecDepth 30000 in
theorem o_X7_tape : MO yX7_tape cX7_tape 5 (some .int) 3 := ⟨⟨tm_1 8 rfl rfl, tm_6 224 rfl rfl⟩, by decide +kernel, by decide⟩
set_option maxRecDepth 30000 in
theorem v_X7_tape : MV yX7_tape := ⟨tm_6 222 rfl rfl, tm_6 223 rfl rfl⟩
set_option maxRecDepth 30000 in
theorem o_X7_narrow : MO yX7_narrow cX7_narrow 4 (some .long) 2 := ⟨⟨tm_1 8 rfl rfl, tm_6 232 rfl rfl⟩, by decide +kernel, by decide⟩
set_option maxRecDepth 30000 in
theorem v_X7_narrow : MV yX7_narrow := ⟨tm_6 231 rfl rfl, tm_0 92 rfl rfl⟩
set_option maxRecDepth 30000 in
theorem o_X7_item : MO yX7_item cX7_item 5 (some .int) 3 := ⟨⟨tm_1 8 rfl rfl, tm_6 228 rfl rfl⟩, by decide +kernel, by decide⟩
set_option maxRecDepth 30000 in
theorem v_X7_item : MV yX7_item := ⟨tm_6 226 rfl rfl, tm_6 227 rfl rfl⟩
set_option maxRecDepth 30000 in
theorem o_X7_read : MO yX7_read cX7_read 3 (some .long) 2 := ⟨⟨tm_1 8 rfl rfl, tm_6 236 rfl rfl⟩, by decide +kernel, by decide⟩
set_option maxRecDepth 30000 in
theorem v_X7_read : MV yX7_read := ⟨tm_6 234 rfl rfl, tm_6 235 rfl rfl⟩
set_option maxRecDepth 30000 in
theorem o_X7_shift : MO yX7_shift cX7_shift 7 (some .int) 5 := ⟨⟨tm_1 8 rfl rfl, tm_7 0 rfl rfl⟩, by decide +kernel, by decide⟩
set_option maxRecDepth 30000 in
theorem v_X7_shift : MV yX7_shift := ⟨tm_6 238 rfl rfl, tm_6 239 rfl rfl⟩
set_option maxRecDepth 30000 in
theorem o_J11_isValidCodePoint_9a6ad : MO yJ11_isValidCodePoint_9a6ad cJ11_isValidCodePoint_9a6ad 2 (some .boolean) 1 := ⟨⟨tm_1 15 rfl rfl, tm_3 105 rfl rfl⟩, by decide +kernel, by decide⟩
set_option maxRecDepth 30000 in
theorem s_J11_isValidCodePoint_9a6ad : Cond.static yJ11_isValidCodePoint_9a6ad ∈ tb := tm_3 104 rfl rfl
set_option maxRecDepth 30000 in
theorem o_J11_highSurrogate_5068e : MO yJ11_highSurrogate_5068e cJ11_highSurrogate_5068e 1 (some .char) 1 := ⟨⟨tm_1 15 rfl rfl, tm_3 108 rfl rfl⟩, by decide +kernel, by decide⟩
set_option maxRecDepth 30000 in
theorem s_J11_highSurrogate_5068e : Cond.static yJ11_highSurrogate_5068e ∈ tb := tm_3 107 rfl rfl
set_option maxRecDepth 30000 in
theorem o_J11_lowSurrogate_5068e : MO yJ11_lowSurrogate_5068e cJ11_lowSurrogate_5068e 1 (some .char) 1 := ⟨⟨tm_1 15 rfl rfl, tm_3 112 rfl rfl⟩, by decide +kernel, by decide⟩
set_option maxRecDepth 30000 in
theorem s_J11_lowSurrogate_5068e : Cond.static yJ11_lowSurrogate_5068e ∈ tb := tm_3 111 rfl rfl
set_option maxRecDepth 30000 in
theorem o_J9_abs_067f4 : MO yJ9_abs_067f4 cJ9_abs_067f4 2 (some .long) 1 := ⟨⟨tm_1 10 rfl rfl, tm_4 27 rfl rfl⟩, by decide +kernel, by decide⟩
set_option maxRecDepth 30000 in
theorem s_J9_abs_067f4 : Cond.static yJ9_abs_067f4 ∈ tb := tm_4 26 rfl rfl
set_option maxRecDepth 30000 in
theorem o_J9_max_7cf53 : MO yJ9_max_7cf53 cJ9_max_7cf53 2 (some .int) 2 := ⟨⟨tm_1 10 rfl rfl, tm_2 130 rfl rfl⟩, by decide +kernel, by decide⟩
set_option maxRecDepth 30000 in
theorem s_J9_max_7cf53 : Cond.static yJ9_max_7cf53 ∈ tb := tm_2 129 rfl rfl
set_option maxRecDepth 30000 in
theorem o_J9_max_f86c9 : MO yJ9_max_f86c9 cJ9_max_f86c9 4 (some .long) 2 := ⟨⟨tm_1 10 rfl rfl, tm_4 30 rfl rfl⟩, by decide +kernel, by decide⟩
set_option maxRecDepth 30000 in
theorem s_J9_max_f86c9 : Cond.static yJ9_max_f86c9 ∈ tb := tm_4 29 rfl rfl
set_option maxRecDepth 30000 in
theorem o_J9_min_7cf53 : MO yJ9_min_7cf53 cJ9_min_7cf53 2 (some .int) 2 := ⟨⟨tm_1 10 rfl rfl, tm_2 123 rfl rfl⟩, by decide +kernel, by decide⟩
set_option maxRecDepth 30000 in
theorem s_J9_min_7cf53 : Cond.static yJ9_min_7cf53 ∈ tb := tm_2 122 rfl rfl
set_option maxRecDepth 30000 in
theorem o_J0_length_8abf5 : MO yJ0_length_8abf5 cJ0_length_8abf5 1 (some .int) 0 := ⟨⟨tm_1 11 rfl rfl, tm_2 224 rfl rfl⟩, by decide +kernel, by decide⟩
set_option maxRecDepth 30000 in
theorem v_J0_length_8abf5 : MV yJ0_length_8abf5 := ⟨tm_2 222 rfl rfl, tm_2 223 rfl rfl⟩
set_option maxRecDepth 30000 in
theorem o_J0_charAt_5068e : MO yJ0_charAt_5068e cJ0_charAt_5068e 2 (some .char) 1 := ⟨⟨tm_1 11 rfl rfl, tm_2 234 rfl rfl⟩, by decide +kernel, by decide⟩
set_option maxRecDepth 30000 in
theorem v_J0_charAt_5068e : MV yJ0_charAt_5068e := ⟨tm_2 232 rfl rfl, tm_2 233 rfl rfl⟩
set_option maxRecDepth 30000 in
theorem o_J0_indexOf_0f7a4 : MO yJ0_indexOf_0f7a4 cJ0_indexOf_0f7a4 2 (some .int) 1 := ⟨⟨tm_1 11 rfl rfl, tm_3 62 rfl rfl⟩, by decide +kernel, by decide⟩
set_option maxRecDepth 30000 in
theorem v_J0_indexOf_0f7a4 : MV yJ0_indexOf_0f7a4 := ⟨tm_3 60 rfl rfl, tm_3 61 rfl rfl⟩
set_option maxRecDepth 30000 in
theorem o_J0_indexOf_7cf53 : MO yJ0_indexOf_7cf53 cJ0_indexOf_7cf53 3 (some .int) 2 := ⟨⟨tm_1 11 rfl rfl, tm_3 66 rfl rfl⟩, by decide +kernel, by decide⟩
set_option maxRecDepth 30000 in
theorem v_J0_indexOf_7cf53 : MV yJ0_indexOf_7cf53 := ⟨tm_3 64 rfl rfl, tm_3 65 rfl rfl⟩
set_option maxRecDepth 30000 in
theorem o_J0_coder_7d493 : MO yJ0_coder_7d493 cJ0_coder_7d493 1 (some .byte) 0 := ⟨⟨tm_1 11 rfl rfl, tm_2 228 rfl rfl⟩, by decide +kernel, by decide⟩
set_option maxRecDepth 30000 in
theorem v_J0_coder_7d493 : MV yJ0_coder_7d493 := ⟨tm_2 226 rfl rfl, tm_2 227 rfl rfl⟩
set_option maxRecDepth 30000 in
theorem o_J0_isLatin1_aae02 : MO yJ0_isLatin1_aae02 cJ0_isLatin1_aae02 1 (some .boolean) 0 := ⟨⟨tm_1 11 rfl rfl, tm_2 238 rfl rfl⟩, by decide +kernel, by decide⟩
set_option maxRecDepth 30000 in
theorem v_J0_isLatin1_aae02 : MV yJ0_isLatin1_aae02 := ⟨tm_2 236 rfl rfl, tm_2 237 rfl rfl⟩
set_option maxRecDepth 30000 in
theorem o_J0_checkIndex_df160 : MO yJ0_checkIndex_df160 cJ0_checkIndex_df160 2 none 2 := ⟨⟨tm_1 11 rfl rfl, tm_3 4 rfl rfl⟩, by decide +kernel, by decide⟩
set_option maxRecDepth 30000 in
theorem s_J0_checkIndex_df160 : Cond.static yJ0_checkIndex_df160 ∈ tb := tm_3 3 rfl rfl
set_option maxRecDepth 30000 in
theorem o_J0_checkBoundsBeginEnd_23922 : MO yJ0_checkBoundsBeginEnd_23922 cJ0_checkBoundsBeginEnd_23922 3 none 3 := ⟨⟨tm_1 11 rfl rfl, tm_3 93 rfl rfl⟩, by decide +kernel, by decide⟩
set_option maxRecDepth 30000 in
theorem s_J0_checkBoundsBeginEnd_23922 : Cond.static yJ0_checkBoundsBeginEnd_23922 ∈ tb := tm_3 92 rfl rfl
set_option maxRecDepth 30000 in
theorem o_J1_charAt_3b067 : MO yJ1_charAt_3b067 cJ1_charAt_3b067 2 (some .char) 2 := ⟨⟨tm_1 12 rfl rfl, tm_3 1 rfl rfl⟩, by decide +kernel, by decide⟩
set_option maxRecDepth 30000 in
theorem s_J1_charAt_3b067 : Cond.static yJ1_charAt_3b067 ∈ tb := tm_3 0 rfl rfl
set_option maxRecDepth 30000 in
theorem o_J1_canEncode_9a6ad : MO yJ1_canEncode_9a6ad cJ1_canEncode_9a6ad 1 (some .boolean) 1 := ⟨⟨tm_1 12 rfl rfl, tm_3 73 rfl rfl⟩, by decide +kernel, by decide⟩
set_option maxRecDepth 30000 in
theorem s_J1_canEncode_9a6ad : Cond.static yJ1_canEncode_9a6ad ∈ tb := tm_3 72 rfl rfl
set_option maxRecDepth 30000 in
theorem o_J1_indexOf_4cfef : MO yJ1_indexOf_4cfef cJ1_indexOf_4cfef 4 (some .int) 4 := ⟨⟨tm_1 12 rfl rfl, tm_3 70 rfl rfl⟩, by decide +kernel, by decide⟩
set_option maxRecDepth 30000 in
theorem s_J1_indexOf_4cfef : Cond.static yJ1_indexOf_4cfef ∈ tb := tm_3 69 rfl rfl
set_option maxRecDepth 30000 in
theorem o_J1_indexOfChar_4cfef : MO yJ1_indexOfChar_4cfef cJ1_indexOfChar_4cfef 6 (some .int) 4 := ⟨⟨tm_1 12 rfl rfl, tm_3 78 rfl rfl⟩, by decide +kernel, by decide⟩
set_option maxRecDepth 30000 in
theorem s_J1_indexOfChar_4cfef : Cond.static yJ1_indexOfChar_4cfef ∈ tb := tm_3 77 rfl rfl
set_option maxRecDepth 30000 in
theorem o_J2_getChar_3b067 : MO yJ2_getChar_3b067 cJ2_getChar_3b067 2 (some .char) 2 := ⟨⟨tm_1 14 rfl rfl, tm_3 22 rfl rfl⟩, by decide +kernel, by decide⟩
set_option maxRecDepth 30000 in
theorem s_J2_getChar_3b067 : Cond.static yJ2_getChar_3b067 ∈ tb := tm_3 21 rfl rfl
set_option maxRecDepth 30000 in
theorem o_J2_length_9d52b : MO yJ2_length_9d52b cJ2_length_9d52b 1 (some .int) 1 := ⟨⟨tm_1 14 rfl rfl, tm_3 18 rfl rfl⟩, by decide +kernel, by decide⟩
set_option maxRecDepth 30000 in
theorem s_J2_length_9d52b : Cond.static yJ2_length_9d52b ∈ tb := tm_3 17 rfl rfl
set_option maxRecDepth 30000 in
theorem o_J2_indexOf_4cfef : MO yJ2_indexOf_4cfef cJ2_indexOf_4cfef 4 (some .int) 4 := ⟨⟨tm_1 14 rfl rfl, tm_3 81 rfl rfl⟩, by decide +kernel, by decide⟩
set_option maxRecDepth 30000 in
theorem s_J2_indexOf_4cfef : Cond.static yJ2_indexOf_4cfef ∈ tb := tm_3 80 rfl rfl
set_option maxRecDepth 30000 in
theorem o_J2_indexOfChar_4cfef : MO yJ2_indexOfChar_4cfef cJ2_indexOfChar_4cfef 4 (some .int) 4 := ⟨⟨tm_1 14 rfl rfl, tm_3 87 rfl rfl⟩, by decide +kernel, by decide⟩
set_option maxRecDepth 30000 in
theorem s_J2_indexOfChar_4cfef : Cond.static yJ2_indexOfChar_4cfef ∈ tb := tm_3 86 rfl rfl
set_option maxRecDepth 30000 in
theorem o_J2_indexOfCharUnsafe_4cfef : MO yJ2_indexOfCharUnsafe_4cfef cJ2_indexOfCharUnsafe_4cfef 5 (some .int) 4 := ⟨⟨tm_1 14 rfl rfl, tm_3 99 rfl rfl⟩, by decide +kernel, by decide⟩
set_option maxRecDepth 30000 in
theorem s_J2_indexOfCharUnsafe_4cfef : Cond.static yJ2_indexOfCharUnsafe_4cfef ∈ tb := tm_3 98 rfl rfl
set_option maxRecDepth 30000 in
theorem o_J2_indexOfSupplementary_4cfef : MO yJ2_indexOfSupplementary_4cfef cJ2_indexOfSupplementary_4cfef 7 (some .int) 4 := ⟨⟨tm_1 14 rfl rfl, tm_3 102 rfl rfl⟩, by decide +kernel, by decide⟩
set_option maxRecDepth 30000 in
theorem s_J2_indexOfSupplementary_4cfef : Cond.static yJ2_indexOfSupplementary_4cfef ∈ tb := tm_3 101 rfl rfl
set_option maxRecDepth 30000 in
theorem o_J2_charAt_3b067 : MO yJ2_charAt_3b067 cJ2_charAt_3b067 2 (some .char) 2 := ⟨⟨tm_1 14 rfl rfl, tm_3 12 rfl rfl⟩, by decide +kernel, by decide⟩
set_option maxRecDepth 30000 in
theorem s_J2_charAt_3b067 : Cond.static yJ2_charAt_3b067 ∈ tb := tm_3 11 rfl rfl
set_option maxRecDepth 30000 in
theorem o_J2_checkIndex_2214a : MO yJ2_checkIndex_2214a cJ2_checkIndex_2214a 2 none 2 := ⟨⟨tm_1 14 rfl rfl, tm_3 15 rfl rfl⟩, by decide +kernel, by decide⟩
set_option maxRecDepth 30000 in
theorem s_J2_checkIndex_2214a : Cond.static yJ2_checkIndex_2214a ∈ tb := tm_3 14 rfl rfl
set_option maxRecDepth 30000 in
theorem o_J2_checkBoundsBeginEnd_d044e : MO yJ2_checkBoundsBeginEnd_d044e cJ2_checkBoundsBeginEnd_d044e 3 none 3 := ⟨⟨tm_1 14 rfl rfl, tm_3 90 rfl rfl⟩, by decide +kernel, by decide⟩
set_option maxRecDepth 30000 in
theorem s_J2_checkBoundsBeginEnd_d044e : Cond.static yJ2_checkBoundsBeginEnd_d044e ∈ tb := tm_3 89 rfl rfl
set_option maxRecDepth 30000 in
theorem o_J7_fill_d0a16 : MO yJ7_fill_d0a16 cJ7_fill_d0a16 5 none 2 := ⟨⟨tm_1 9 rfl rfl, tm_4 110 rfl rfl⟩, by decide +kernel, by decide⟩
set_option maxRecDepth 30000 in
theorem s_J7_fill_d0a16 : Cond.static yJ7_fill_d0a16 ∈ tb := tm_4 109 rfl rfl
set_option maxRecDepth 30000 in
theorem o_J7_fill_53178 : MO yJ7_fill_53178 cJ7_fill_53178 4 none 2 := ⟨⟨tm_1 9 rfl rfl, tm_2 112 rfl rfl⟩, by decide +kernel, by decide⟩
set_option maxRecDepth 30000 in
theorem s_J7_fill_53178 : Cond.static yJ7_fill_53178 ∈ tb := tm_2 111 rfl rfl
set_option maxRecDepth 30000 in
theorem o_J3_checkIndex_8e157 : MO yJ3_checkIndex_8e157 cJ3_checkIndex_8e157 3 (some .int) 3 := ⟨⟨tm_1 13 rfl rfl, tm_3 9 rfl rfl⟩, by decide +kernel, by decide⟩
set_option maxRecDepth 30000 in
theorem s_J3_checkIndex_8e157 : Cond.static yJ3_checkIndex_8e157 ∈ tb := tm_3 8 rfl rfl
set_option maxRecDepth 30000 in
theorem o_J3_checkFromToIndex_8c36e : MO yJ3_checkFromToIndex_8c36e cJ3_checkFromToIndex_8c36e 4 (some .int) 4 := ⟨⟨tm_1 13 rfl rfl, tm_3 96 rfl rfl⟩, by decide +kernel, by decide⟩
set_option maxRecDepth 30000 in
theorem s_J3_checkFromToIndex_8c36e : Cond.static yJ3_checkFromToIndex_8c36e ∈ tb := tm_3 95 rfl rfl
