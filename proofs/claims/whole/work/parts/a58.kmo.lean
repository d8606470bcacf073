/-! the reference is made -/
def nw_127 : List Nat := [128, 129, 130, 131, 132, 133, 134, 135, 136, 137, 138, 139, 140, 141, 142, 143, 144, 145, 146, 147, 148, 149, 150, 151, 152, 153, 154, 155, 156, 157, 158, 159, 160, 161, 162, 163, 164, 165, 166]
def us_127 : List (Nat × Nat × Int) := [(127, 52, 166), (127, 51, 165), (127, 49, 164), (127, 47, 163), (127, 46, 162), (127, 45, 161), (127, 44, 160), (127, 43, 159), (127, 42, 158), (127, 41, 157), (127, 36, 156), (127, 35, 155), (127, 32, 154), (127, 31, 153), (127, 30, 152), (127, 29, 151), (127, 28, 150), (127, 27, 149), (127, 26, 148), (127, 24, 147), (127, 23, 146), (127, 21, 145), (127, 20, 144), (127, 19, 143), (127, 18, 142), (127, 16, 141), (127, 15, 140), (127, 14, 139), (127, 13, 138), (127, 12, 137), (127, 11, 136), (127, 10, 135), (127, 9, 134), (127, 8, 133), (133, 3, 7), (133, 2, 7), (133, 1, 7), (133, 0, 7), (127, 7, 132), (132, 3, 4), (132, 2, 4), (132, 1, 4), (132, 0, 4), (127, 6, 131), (127, 3, 130), (127, 2, 129), (127, 0, 128)]
set_option maxRecDepth 20000 in
theorem k_init_127 {L : List Nat} {G : Nat → Nat → Int} (hr : 127 ∈ L) (hN : x_new 128 167 L) : CM yX12_init mX12_init 1 39 63328 [vR 127] L G (qK L nw_127 us_127 G) := by
  refine Ct.of_X (μ := mX12_init) rfl rfl (by decide) (fun _ => rfl) (Nat.le_of_ble_eq_true rfl) rfl ?_
  refine y_start ?_
  refine x_aloadn (pc := 0) dX12_init_0 rfl ?_
  refine x_objI (pc := 1) dX12_init_1 lm_X12_1 (by decide) (Nat.le_of_ble_eq_true rfl) ?_
  refine x_aloadn (pc := 4) dX12_init_4 rfl ?_
  refine x_bipush (pc := 5) dX12_init_5 (by decide) ?_
  refine y_newI (N := 100) (q := 128) (pc := 7) dX12_init_7 rfl (by decide) (hN 128 (by decide) (by decide)) (by decide) (by decide +kernel) (by decide +kernel) k_128 (by decide) ?_
  refine y_putFR (pc := 9) dX12_init_9 fp_X12_7 k_127 (Or.inl hr) rfl ?_
  refine x_aloadn (pc := 12) dX12_init_12 rfl ?_
  refine x_sipush (pc := 13) dX12_init_13 (by decide) ?_
  refine y_newI (N := 240) (q := 129) (pc := 16) dX12_init_16 rfl (by decide) (hN 129 (by decide) (by decide)) (by decide) (by decide +kernel) (by decide +kernel) k_129 (by decide) ?_
  refine y_putFR (pc := 18) dX12_init_18 fp_X12_13 k_127 (Or.inl hr) rfl ?_
  refine x_aloadn (pc := 21) dX12_init_21 rfl ?_
  refine x_bipush (pc := 22) dX12_init_22 (by decide) ?_
  refine y_newI (N := 20) (q := 130) (pc := 24) dX12_init_24 rfl (by decide) (hN 130 (by decide) (by decide)) (by decide) (by decide +kernel) (by decide +kernel) k_130 (by decide) ?_
  refine y_putFR (pc := 26) dX12_init_26 fp_X12_16 k_127 (Or.inl hr) rfl ?_
  refine x_aloadn (pc := 29) dX12_init_29 rfl ?_
  refine x_iconst (pc := 30) dX12_init_30 ?_
  refine y_newI (N := 4) (q := 131) (pc := 31) dX12_init_31 rfl (by decide) (hN 131 (by decide) (by decide)) (by decide) (by decide +kernel) (by decide +kernel) k_131 (by decide) ?_
  refine y_putFR (pc := 33) dX12_init_33 fp_X12_19 k_127 (Or.inl hr) rfl ?_
  refine x_aloadn (pc := 36) dX12_init_36 rfl ?_
  refine x_iconst (pc := 37) dX12_init_37 ?_
  refine y_newI (N := 4) (q := 132) (pc := 38) dX12_init_38 rfl (by decide) (hN 132 (by decide) (by decide)) (by decide) (by decide +kernel) (by decide +kernel) k_132 (by decide) ?_
  refine x_dup (pc := 40) dX12_init_40 (fun h => by cases h) ?_
  refine x_iconst (pc := 41) dX12_init_41 ?_
  refine x_iconst (pc := 42) dX12_init_42 ?_
  refine y_iast 0 (pc := 43) dX12_init_43 k_132 (Or.inr (by decide +kernel)) (by decide) ?_
  refine x_dup (pc := 44) dX12_init_44 (fun h => by cases h) ?_
  refine x_iconst (pc := 45) dX12_init_45 ?_
  refine x_iconst (pc := 46) dX12_init_46 ?_
  refine y_iast 1 (pc := 47) dX12_init_47 k_132 (Or.inr (by decide +kernel)) (by decide) ?_
  refine x_dup (pc := 48) dX12_init_48 (fun h => by cases h) ?_
  refine x_iconst (pc := 49) dX12_init_49 ?_
  refine x_iconst (pc := 50) dX12_init_50 ?_
  refine y_iast 2 (pc := 51) dX12_init_51 k_132 (Or.inr (by decide +kernel)) (by decide) ?_
  refine x_dup (pc := 52) dX12_init_52 (fun h => by cases h) ?_
  refine x_iconst (pc := 53) dX12_init_53 ?_
  refine x_iconst (pc := 54) dX12_init_54 ?_
  refine y_iast 3 (pc := 55) dX12_init_55 k_132 (Or.inr (by decide +kernel)) (by decide) ?_
  refine y_putFR (pc := 56) dX12_init_56 fp_X12_22 k_127 (Or.inl hr) rfl ?_
  refine x_aloadn (pc := 59) dX12_init_59 rfl ?_
  refine x_iconst (pc := 60) dX12_init_60 ?_
  refine y_newI (N := 4) (q := 133) (pc := 61) dX12_init_61 rfl (by decide) (hN 133 (by decide) (by decide)) (by decide) (by decide +kernel) (by decide +kernel) k_133 (by decide) ?_
  refine x_dup (pc := 63) dX12_init_63 (fun h => by cases h) ?_
  refine x_iconst (pc := 64) dX12_init_64 ?_
  refine x_bipush (pc := 65) dX12_init_65 (by decide) ?_
  refine y_iast 0 (pc := 67) dX12_init_67 k_133 (Or.inr (by decide +kernel)) (by decide) ?_
  refine x_dup (pc := 68) dX12_init_68 (fun h => by cases h) ?_
  refine x_iconst (pc := 69) dX12_init_69 ?_
  refine x_bipush (pc := 70) dX12_init_70 (by decide) ?_
  refine y_iast 1 (pc := 72) dX12_init_72 k_133 (Or.inr (by decide +kernel)) (by decide) ?_
  refine x_dup (pc := 73) dX12_init_73 (fun h => by cases h) ?_
  refine x_iconst (pc := 74) dX12_init_74 ?_
  refine x_bipush (pc := 75) dX12_init_75 (by decide) ?_
  refine y_iast 2 (pc := 77) dX12_init_77 k_133 (Or.inr (by decide +kernel)) (by decide) ?_
  refine x_dup (pc := 78) dX12_init_78 (fun h => by cases h) ?_
  refine x_iconst (pc := 79) dX12_init_79 ?_
  refine x_bipush (pc := 80) dX12_init_80 (by decide) ?_
  refine y_iast 3 (pc := 82) dX12_init_82 k_133 (Or.inr (by decide +kernel)) (by decide) ?_
  refine y_putFR (pc := 83) dX12_init_83 fp_X12_25 k_127 (Or.inl hr) rfl ?_
  refine x_aloadn (pc := 86) dX12_init_86 rfl ?_
  refine x_iconst (pc := 87) dX12_init_87 ?_
  refine y_newI (N := 4) (q := 134) (pc := 88) dX12_init_88 rfl (by decide) (hN 134 (by decide) (by decide)) (by decide) (by decide +kernel) (by decide +kernel) k_134 (by decide) ?_
  refine y_putFR (pc := 90) dX12_init_90 fp_X12_28 k_127 (Or.inl hr) rfl ?_
  refine x_aloadn (pc := 93) dX12_init_93 rfl ?_
  refine x_iconst (pc := 94) dX12_init_94 ?_
  refine y_newI (N := 4) (q := 135) (pc := 95) dX12_init_95 rfl (by decide) (hN 135 (by decide) (by decide)) (by decide) (by decide +kernel) (by decide +kernel) k_135 (by decide) ?_
  refine y_putFR (pc := 97) dX12_init_97 fp_X12_31 k_127 (Or.inl hr) rfl ?_
  refine x_aloadn (pc := 100) dX12_init_100 rfl ?_
  refine x_bipush (pc := 101) dX12_init_101 (by decide) ?_
  refine y_newI (N := 120) (q := 136) (pc := 103) dX12_init_103 rfl (by decide) (hN 136 (by decide) (by decide)) (by decide) (by decide +kernel) (by decide +kernel) k_136 (by decide) ?_
  refine y_putFR (pc := 105) dX12_init_105 fp_X12_34 k_127 (Or.inl hr) rfl ?_
  refine x_aloadn (pc := 108) dX12_init_108 rfl ?_
  refine x_iconst (pc := 109) dX12_init_109 ?_
  refine y_newI (N := 4) (q := 137) (pc := 110) dX12_init_110 rfl (by decide) (hN 137 (by decide) (by decide)) (by decide) (by decide +kernel) (by decide +kernel) k_137 (by decide) ?_
  refine y_putFR (pc := 112) dX12_init_112 fp_X12_37 k_127 (Or.inl hr) rfl ?_
  refine x_aloadn (pc := 115) dX12_init_115 rfl ?_
  refine x_bipush (pc := 116) dX12_init_116 (by decide) ?_
  refine y_newI (N := 48) (q := 138) (pc := 118) dX12_init_118 rfl (by decide) (hN 138 (by decide) (by decide)) (by decide) (by decide +kernel) (by decide +kernel) k_138 (by decide) ?_
  refine y_putFR (pc := 120) dX12_init_120 fp_X12_40 k_127 (Or.inl hr) rfl ?_
  refine x_aloadn (pc := 123) dX12_init_123 rfl ?_
  refine x_iconst (pc := 124) dX12_init_124 ?_
  refine y_newI (N := 4) (q := 139) (pc := 125) dX12_init_125 rfl (by decide) (hN 139 (by decide) (by decide)) (by decide) (by decide +kernel) (by decide +kernel) k_139 (by decide) ?_
  refine y_putFR (pc := 127) dX12_init_127 fp_X12_43 k_127 (Or.inl hr) rfl ?_
  refine x_aloadn (pc := 130) dX12_init_130 rfl ?_
  refine x_bipush (pc := 131) dX12_init_131 (by decide) ?_
  refine y_newI (N := 48) (q := 140) (pc := 133) dX12_init_133 rfl (by decide) (hN 140 (by decide) (by decide)) (by decide) (by decide +kernel) (by decide +kernel) k_140 (by decide) ?_
  refine y_putFR (pc := 135) dX12_init_135 fp_X12_46 k_127 (Or.inl hr) rfl ?_
  refine x_aloadn (pc := 138) dX12_init_138 rfl ?_
  refine x_bipush (pc := 139) dX12_init_139 (by decide) ?_
  refine y_newI (N := 6) (q := 141) (pc := 141) dX12_init_141 rfl (by decide) (hN 141 (by decide) (by decide)) (by decide) (by decide +kernel) (by decide +kernel) k_141 (by decide) ?_
  refine y_putFR (pc := 143) dX12_init_143 fp_X12_49 k_127 (Or.inl hr) rfl ?_
  refine x_aloadn (pc := 146) dX12_init_146 rfl ?_
  refine x_bipush (pc := 147) dX12_init_147 (by decide) ?_
  refine y_newI (N := 96) (q := 142) (pc := 149) dX12_init_149 rfl (by decide) (hN 142 (by decide) (by decide)) (by decide) (by decide +kernel) (by decide +kernel) k_142 (by decide) ?_
  refine y_putFR (pc := 151) dX12_init_151 fp_X12_52 k_127 (Or.inl hr) rfl ?_
  refine x_aloadn (pc := 154) dX12_init_154 rfl ?_
  refine x_bipush (pc := 155) dX12_init_155 (by decide) ?_
  refine y_newI (N := 8) (q := 143) (pc := 157) dX12_init_157 rfl (by decide) (hN 143 (by decide) (by decide)) (by decide) (by decide +kernel) (by decide +kernel) k_143 (by decide) ?_
  refine y_putFR (pc := 159) dX12_init_159 fp_X12_55 k_127 (Or.inl hr) rfl ?_
  refine x_aloadn (pc := 162) dX12_init_162 rfl ?_
  refine x_iconst (pc := 163) dX12_init_163 ?_
  refine y_newI (N := 4) (q := 144) (pc := 164) dX12_init_164 rfl (by decide) (hN 144 (by decide) (by decide)) (by decide) (by decide +kernel) (by decide +kernel) k_144 (by decide) ?_
  refine y_putFR (pc := 166) dX12_init_166 fp_X12_58 k_127 (Or.inl hr) rfl ?_
  refine x_aloadn (pc := 169) dX12_init_169 rfl ?_
  refine x_iconst (pc := 170) dX12_init_170 ?_
  refine y_newI (N := 4) (q := 145) (pc := 171) dX12_init_171 rfl (by decide) (hN 145 (by decide) (by decide)) (by decide) (by decide +kernel) (by decide +kernel) k_145 (by decide) ?_
  refine y_putFR (pc := 173) dX12_init_173 fp_X12_61 k_127 (Or.inl hr) rfl ?_
  refine x_aloadn (pc := 176) dX12_init_176 rfl ?_
  refine x_bipush (pc := 177) dX12_init_177 (by decide) ?_
  refine y_newI (N := 35) (q := 146) (pc := 179) dX12_init_179 rfl (by decide) (hN 146 (by decide) (by decide)) (by decide) (by decide +kernel) (by decide +kernel) k_146 (by decide) ?_
  refine y_putFR (pc := 181) dX12_init_181 fp_X12_64 k_127 (Or.inl hr) rfl ?_
  refine x_aloadn (pc := 184) dX12_init_184 rfl ?_
  refine x_bipush (pc := 185) dX12_init_185 (by decide) ?_
  refine y_newI (N := 35) (q := 147) (pc := 187) dX12_init_187 rfl (by decide) (hN 147 (by decide) (by decide)) (by decide) (by decide +kernel) (by decide +kernel) k_147 (by decide) ?_
  refine y_putFR (pc := 189) dX12_init_189 fp_X12_67 k_127 (Or.inl hr) rfl ?_
  refine x_aloadn (pc := 192) dX12_init_192 rfl ?_
  refine x_ldc (pc := 193) dX12_init_193 co_X12_70 ?_
  refine y_newI (N := 36000) (q := 148) (pc := 195) dX12_init_195 rfl (by decide) (hN 148 (by decide) (by decide)) (by decide) (by decide +kernel) (by decide +kernel) k_148 (by decide) ?_
  refine y_putFR (pc := 197) dX12_init_197 fp_X12_71 k_127 (Or.inl hr) rfl ?_
  refine x_aloadn (pc := 200) dX12_init_200 rfl ?_
  refine x_sipush (pc := 201) dX12_init_201 (by decide) ?_
  refine y_newI (N := 1500) (q := 149) (pc := 204) dX12_init_204 rfl (by decide) (hN 149 (by decide) (by decide)) (by decide) (by decide +kernel) (by decide +kernel) k_149 (by decide) ?_
  refine y_putFR (pc := 206) dX12_init_206 fp_X12_74 k_127 (Or.inl hr) rfl ?_
  refine x_aloadn (pc := 209) dX12_init_209 rfl ?_
  refine x_sipush (pc := 210) dX12_init_210 (by decide) ?_
  refine y_newI (N := 1500) (q := 150) (pc := 213) dX12_init_213 rfl (by decide) (hN 150 (by decide) (by decide)) (by decide) (by decide +kernel) (by decide +kernel) k_150 (by decide) ?_
  refine y_putFR (pc := 215) dX12_init_215 fp_X12_77 k_127 (Or.inl hr) rfl ?_
  refine x_aloadn (pc := 218) dX12_init_218 rfl ?_
  refine x_sipush (pc := 219) dX12_init_219 (by decide) ?_
  refine y_newI (N := 6000) (q := 151) (pc := 222) dX12_init_222 rfl (by decide) (hN 151 (by decide) (by decide)) (by decide) (by decide +kernel) (by decide +kernel) k_151 (by decide) ?_
  refine y_putFR (pc := 224) dX12_init_224 fp_X12_80 k_127 (Or.inl hr) rfl ?_
  refine x_aloadn (pc := 227) dX12_init_227 rfl ?_
  refine x_sipush (pc := 228) dX12_init_228 (by decide) ?_
  refine y_newZ (N := 6000) (q := 152) (pc := 231) dX12_init_231 rfl (by decide) (hN 152 (by decide) (by decide)) (by decide) (by decide +kernel) (by decide +kernel) k_152 (by decide) ?_
  refine y_putFR (pc := 233) dX12_init_233 fp_X12_83 k_127 (Or.inl hr) rfl ?_
  refine x_aloadn (pc := 236) dX12_init_236 rfl ?_
  refine x_sipush (pc := 237) dX12_init_237 (by decide) ?_
  refine y_newI (N := 1500) (q := 153) (pc := 240) dX12_init_240 rfl (by decide) (hN 153 (by decide) (by decide)) (by decide) (by decide +kernel) (by decide +kernel) k_153 (by decide) ?_
  refine y_putFR (pc := 242) dX12_init_242 fp_X12_87 k_127 (Or.inl hr) rfl ?_
  refine x_aloadn (pc := 245) dX12_init_245 rfl ?_
  refine x_sipush (pc := 246) dX12_init_246 (by decide) ?_
  refine y_newI (N := 4096) (q := 154) (pc := 249) dX12_init_249 rfl (by decide) (hN 154 (by decide) (by decide)) (by decide) (by decide +kernel) (by decide +kernel) k_154 (by decide) ?_
  refine y_putFR (pc := 251) dX12_init_251 fp_X12_90 k_127 (Or.inl hr) rfl ?_
  refine x_aloadn (pc := 254) dX12_init_254 rfl ?_
  refine x_bipush (pc := 255) dX12_init_255 (by decide) ?_
  refine y_newI (N := 60) (q := 155) (pc := 257) dX12_init_257 rfl (by decide) (hN 155 (by decide) (by decide)) (by decide) (by decide +kernel) (by decide +kernel) k_155 (by decide) ?_
  refine y_putFR (pc := 259) dX12_init_259 fp_X12_93 k_127 (Or.inl hr) rfl ?_
  refine x_aloadn (pc := 262) dX12_init_262 rfl ?_
  refine x_bipush (pc := 263) dX12_init_263 (by decide) ?_
  refine y_newI (N := 60) (q := 156) (pc := 265) dX12_init_265 rfl (by decide) (hN 156 (by decide) (by decide)) (by decide) (by decide +kernel) (by decide +kernel) k_156 (by decide) ?_
  refine y_putFR (pc := 267) dX12_init_267 fp_X12_96 k_127 (Or.inl hr) rfl ?_
  refine x_aloadn (pc := 270) dX12_init_270 rfl ?_
  refine x_sipush (pc := 271) dX12_init_271 (by decide) ?_
  refine y_newI (N := 1500) (q := 157) (pc := 274) dX12_init_274 rfl (by decide) (hN 157 (by decide) (by decide)) (by decide) (by decide +kernel) (by decide +kernel) k_157 (by decide) ?_
  refine y_putFR (pc := 276) dX12_init_276 fp_X12_99 k_127 (Or.inl hr) rfl ?_
  refine x_aloadn (pc := 279) dX12_init_279 rfl ?_
  refine x_sipush (pc := 280) dX12_init_280 (by decide) ?_
  refine y_newI (N := 1501) (q := 158) (pc := 283) dX12_init_283 rfl (by decide) (hN 158 (by decide) (by decide)) (by decide) (by decide +kernel) (by decide +kernel) k_158 (by decide) ?_
  refine y_putFR (pc := 285) dX12_init_285 fp_X12_102 k_127 (Or.inl hr) rfl ?_
  refine x_aloadn (pc := 288) dX12_init_288 rfl ?_
  refine x_sipush (pc := 289) dX12_init_289 (by decide) ?_
  refine y_newI (N := 1501) (q := 159) (pc := 292) dX12_init_292 rfl (by decide) (hN 159 (by decide) (by decide)) (by decide) (by decide +kernel) (by decide +kernel) k_159 (by decide) ?_
  refine y_putFR (pc := 294) dX12_init_294 fp_X12_105 k_127 (Or.inl hr) rfl ?_
  refine x_aloadn (pc := 297) dX12_init_297 rfl ?_
  refine x_sipush (pc := 298) dX12_init_298 (by decide) ?_
  refine y_newI (N := 1204) (q := 160) (pc := 301) dX12_init_301 rfl (by decide) (hN 160 (by decide) (by decide)) (by decide) (by decide +kernel) (by decide +kernel) k_160 (by decide) ?_
  refine y_putFR (pc := 303) dX12_init_303 fp_X12_108 k_127 (Or.inl hr) rfl ?_
  refine x_aloadn (pc := 306) dX12_init_306 rfl ?_
  refine x_iconst (pc := 307) dX12_init_307 ?_
  refine y_newI (N := 4) (q := 161) (pc := 308) dX12_init_308 rfl (by decide) (hN 161 (by decide) (by decide)) (by decide) (by decide +kernel) (by decide +kernel) k_161 (by decide) ?_
  refine y_putFR (pc := 310) dX12_init_310 fp_X12_111 k_127 (Or.inl hr) rfl ?_
  refine x_aloadn (pc := 313) dX12_init_313 rfl ?_
  refine x_bipush (pc := 314) dX12_init_314 (by decide) ?_
  refine y_newI (N := 60) (q := 162) (pc := 316) dX12_init_316 rfl (by decide) (hN 162 (by decide) (by decide)) (by decide) (by decide +kernel) (by decide +kernel) k_162 (by decide) ?_
  refine y_putFR (pc := 318) dX12_init_318 fp_X12_114 k_127 (Or.inl hr) rfl ?_
  refine x_aloadn (pc := 321) dX12_init_321 rfl ?_
  refine x_bipush (pc := 322) dX12_init_322 (by decide) ?_
  refine y_newI (N := 30) (q := 163) (pc := 324) dX12_init_324 rfl (by decide) (hN 163 (by decide) (by decide)) (by decide) (by decide +kernel) (by decide +kernel) k_163 (by decide) ?_
  refine y_putFR (pc := 326) dX12_init_326 fp_X12_117 k_127 (Or.inl hr) rfl ?_
  refine x_aloadn (pc := 329) dX12_init_329 rfl ?_
  refine x_bipush (pc := 330) dX12_init_330 (by decide) ?_
  refine y_newI (N := 12) (q := 164) (pc := 332) dX12_init_332 rfl (by decide) (hN 164 (by decide) (by decide)) (by decide) (by decide +kernel) (by decide +kernel) k_164 (by decide) ?_
  refine y_putFR (pc := 334) dX12_init_334 fp_X12_120 k_127 (Or.inl hr) rfl ?_
  refine x_aloadn (pc := 337) dX12_init_337 rfl ?_
  refine x_iconst (pc := 338) dX12_init_338 ?_
  refine y_newI (N := 4) (q := 165) (pc := 339) dX12_init_339 rfl (by decide) (hN 165 (by decide) (by decide)) (by decide) (by decide +kernel) (by decide +kernel) k_165 (by decide) ?_
  refine y_putFR (pc := 341) dX12_init_341 fp_X12_123 k_127 (Or.inl hr) rfl ?_
  refine x_aloadn (pc := 344) dX12_init_344 rfl ?_
  refine x_iconst (pc := 345) dX12_init_345 ?_
  refine y_newI (N := 4) (q := 166) (pc := 346) dX12_init_346 rfl (by decide) (hN 166 (by decide) (by decide)) (by decide) (by decide +kernel) (by decide +kernel) k_166 (by decide) ?_
  refine y_putFR (pc := 348) dX12_init_348 fp_X12_126 k_127 (Or.inl hr) rfl ?_
  exact y_ret dX12_init_351 rfl

