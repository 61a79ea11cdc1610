/-! printed by mku.py: table rows, layout -/
theorem ci_bipush_m124 : (Int8.ofInt (-124)).toInt32 = (-124) := by decide +kernel
theorem ci_bipush_m38 : (Int8.ofInt (-38)).toInt32 = (-38) := by decide +kernel
theorem ci_bipush_m33 : (Int8.ofInt (-33)).toInt32 = (-33) := by decide +kernel
theorem ci_bipush_m10 : (Int8.ofInt (-10)).toInt32 = (-10) := by decide +kernel
theorem ci_bipush_m3 : (Int8.ofInt (-3)).toInt32 = (-3) := by decide +kernel
theorem ci_bipush_m2 : (Int8.ofInt (-2)).toInt32 = (-2) := by decide +kernel
theorem ci_bipush_6 : (Int8.ofInt 6).toInt32 = 6 := by decide +kernel
theorem ci_bipush_7 : (Int8.ofInt 7).toInt32 = 7 := by decide +kernel
theorem ci_bipush_8 : (Int8.ofInt 8).toInt32 = 8 := by decide +kernel
theorem ci_bipush_10 : (Int8.ofInt 10).toInt32 = 10 := by decide +kernel
theorem ci_bipush_11 : (Int8.ofInt 11).toInt32 = 11 := by decide +kernel
theorem ci_bipush_12 : (Int8.ofInt 12).toInt32 = 12 := by decide +kernel
theorem ci_bipush_13 : (Int8.ofInt 13).toInt32 = 13 := by decide +kernel
theorem ci_bipush_15 : (Int8.ofInt 15).toInt32 = 15 := by decide +kernel
theorem ci_bipush_16 : (Int8.ofInt 16).toInt32 = 16 := by decide +kernel
theorem ci_bipush_20 : (Int8.ofInt 20).toInt32 = 20 := by decide +kernel
theorem ci_bipush_21 : (Int8.ofInt 21).toInt32 = 21 := by decide +kernel
theorem ci_bipush_30 : (Int8.ofInt 30).toInt32 = 30 := by decide +kernel
theorem ci_bipush_32 : (Int8.ofInt 32).toInt32 = 32 := by decide +kernel
theorem ci_bipush_33 : (Int8.ofInt 33).toInt32 = 33 := by decide +kernel
theorem ci_bipush_37 : (Int8.ofInt 37).toInt32 = 37 := by decide +kernel
theorem ci_bipush_38 : (Int8.ofInt 38).toInt32 = 38 := by decide +kernel
theorem ci_bipush_40 : (Int8.ofInt 40).toInt32 = 40 := by decide +kernel
theorem ci_bipush_41 : (Int8.ofInt 41).toInt32 = 41 := by decide +kernel
theorem ci_bipush_42 : (Int8.ofInt 42).toInt32 = 42 := by decide +kernel
theorem ci_bipush_43 : (Int8.ofInt 43).toInt32 = 43 := by decide +kernel
theorem ci_bipush_45 : (Int8.ofInt 45).toInt32 = 45 := by decide +kernel
theorem ci_bipush_47 : (Int8.ofInt 47).toInt32 = 47 := by decide +kernel
theorem ci_bipush_48 : (Int8.ofInt 48).toInt32 = 48 := by decide +kernel
theorem ci_bipush_50 : (Int8.ofInt 50).toInt32 = 50 := by decide +kernel
theorem ci_bipush_57 : (Int8.ofInt 57).toInt32 = 57 := by decide +kernel
theorem ci_bipush_60 : (Int8.ofInt 60).toInt32 = 60 := by decide +kernel
theorem ci_bipush_61 : (Int8.ofInt 61).toInt32 = 61 := by decide +kernel
theorem ci_bipush_62 : (Int8.ofInt 62).toInt32 = 62 := by decide +kernel
theorem ci_bipush_63 : (Int8.ofInt 63).toInt32 = 63 := by decide +kernel
theorem ci_bipush_69 : (Int8.ofInt 69).toInt32 = 69 := by decide +kernel
theorem ci_bipush_70 : (Int8.ofInt 70).toInt32 = 70 := by decide +kernel
theorem ci_bipush_71 : (Int8.ofInt 71).toInt32 = 71 := by decide +kernel
theorem ci_bipush_75 : (Int8.ofInt 75).toInt32 = 75 := by decide +kernel
theorem ci_bipush_77 : (Int8.ofInt 77).toInt32 = 77 := by decide +kernel
theorem ci_bipush_97 : (Int8.ofInt 97).toInt32 = 97 := by decide +kernel
theorem ci_bipush_99 : (Int8.ofInt 99).toInt32 = 99 := by decide +kernel
theorem ci_bipush_100 : (Int8.ofInt 100).toInt32 = 100 := by decide +kernel
theorem ci_bipush_110 : (Int8.ofInt 110).toInt32 = 110 := by decide +kernel
theorem ci_bipush_115 : (Int8.ofInt 115).toInt32 = 115 := by decide +kernel
theorem ci_bipush_119 : (Int8.ofInt 119).toInt32 = 119 := by decide +kernel
theorem ci_bipush_121 : (Int8.ofInt 121).toInt32 = 121 := by decide +kernel
theorem ci_bipush_124 : (Int8.ofInt 124).toInt32 = 124 := by decide +kernel
theorem ci_iconst_m1 : Int32.ofInt (-1) = (-1) := by decide +kernel
theorem ci_iconst_0 : Int32.ofInt 0 = 0 := by decide +kernel
theorem ci_iconst_1 : Int32.ofInt 1 = 1 := by decide +kernel
theorem ci_iconst_2 : Int32.ofInt 2 = 2 := by decide +kernel
theorem ci_iconst_3 : Int32.ofInt 3 = 3 := by decide +kernel
theorem ci_iconst_4 : Int32.ofInt 4 = 4 := by decide +kernel
theorem ci_iconst_5 : Int32.ofInt 5 = 5 := by decide +kernel
theorem ci_iinc_m1 : Int32.ofInt (-1) = (-1) := by decide +kernel
theorem ci_iinc_1 : Int32.ofInt 1 = 1 := by decide +kernel
theorem ci_sipush_m4370 : (Int16.ofInt (-4370)).toInt32 = (-4370) := by decide +kernel
theorem ci_sipush_197 : (Int16.ofInt 197).toInt32 = 197 := by decide +kernel
theorem ci_sipush_247 : (Int16.ofInt 247).toInt32 = 247 := by decide +kernel
theorem ci_sipush_255 : (Int16.ofInt 255).toInt32 = 255 := by decide +kernel
theorem ci_sipush_256 : (Int16.ofInt 256).toInt32 = 256 := by decide +kernel
theorem ci_sipush_1000 : (Int16.ofInt 1000).toInt32 = 1000 := by decide +kernel
theorem ci_sipush_1584 : (Int16.ofInt 1584).toInt32 = 1584 := by decide +kernel
theorem ci_sipush_1585 : (Int16.ofInt 1585).toInt32 = 1585 := by decide +kernel
theorem ci_sipush_9999 : (Int16.ofInt 9999).toInt32 = 9999 := by decide +kernel
theorem ci_sipush_10000 : (Int16.ofInt 10000).toInt32 = 10000 := by decide +kernel
theorem ci_sipush_11111 : (Int16.ofInt 11111).toInt32 = 11111 := by decide +kernel
theorem ci_sipush_12345 : (Int16.ofInt 12345).toInt32 = 12345 := by decide +kernel
theorem ci_sipush_14444 : (Int16.ofInt 14444).toInt32 = 14444 := by decide +kernel
theorem ci_sipush_20000 : (Int16.ofInt 20000).toInt32 = 20000 := by decide +kernel
theorem ci_sipush_20033 : (Int16.ofInt 20033).toInt32 = 20033 := by decide +kernel
theorem ci_sipush_20038 : (Int16.ofInt 20038).toInt32 = 20038 := by decide +kernel
theorem ci_sipush_20124 : (Int16.ofInt 20124).toInt32 = 20124 := by decide +kernel
theorem gf_0_9 : gc_f 0 9 = some (0, 2) := by decide +kernel
theorem gf_0_15 : gc_f 0 15 = some (0, 3) := by decide +kernel
theorem gf_0_18 : gc_f 0 18 = some (0, 4) := by decide +kernel
theorem gf_0_21 : gc_f 0 21 = some (0, 5) := by decide +kernel
theorem gf_0_24 : gc_f 0 24 = some (0, 6) := by decide +kernel
theorem gf_0_27 : gc_f 0 27 = some (0, 7) := by decide +kernel
theorem gf_0_30 : gc_f 0 30 = some (0, 8) := by decide +kernel
theorem gf_0_38 : gc_f 0 38 = some (0, 9) := by decide +kernel
theorem gf_0_42 : gc_f 0 42 = some (0, 10) := by decide +kernel
theorem gf_0_45 : gc_f 0 45 = some (0, 14) := by decide +kernel
theorem gf_0_49 : gc_f 0 49 = some (0, 0) := by decide +kernel
theorem gf_0_53 : gc_f 0 53 = some (0, 1) := by decide +kernel
theorem gf_0_63 : gc_f 0 63 = some (0, 11) := by decide +kernel
theorem gf_0_66 : gc_f 0 66 = some (0, 12) := by decide +kernel
theorem gf_0_69 : gc_f 0 69 = some (0, 13) := by decide +kernel
theorem gf_0_76 : gc_f 0 76 = some (2, 0) := by decide +kernel
theorem gf_0_89 : gc_f 0 89 = some (7, 1) := by decide +kernel
theorem gf_1_19 : gc_f 1 19 = some (9, 0) := by decide +kernel
theorem gf_1_35 : gc_f 1 35 = some (9, 1) := by decide +kernel
theorem gf_2_14 : gc_f 2 14 = some (2, 0) := by decide +kernel
theorem gf_2_20 : gc_f 2 20 = some (2, 1) := by decide +kernel
theorem gf_2_24 : gc_f 2 24 = some (2, 2) := by decide +kernel
theorem gf_2_29 : gc_f 2 29 = some (2, 3) := by decide +kernel
theorem gf_2_37 : gc_f 2 37 = some (2, 4) := by decide +kernel
theorem gf_2_41 : gc_f 2 41 = some (7, 1) := by decide +kernel
theorem gf_2_48 : gc_f 2 48 = some (7, 0) := by decide +kernel
theorem gf_3_11 : gc_f 3 11 = some (9, 0) := by decide +kernel
theorem gf_4_14 : gc_f 4 14 = some (9, 0) := by decide +kernel
theorem gf_5_7 : gc_f 5 7 = some (9, 0) := by decide +kernel
theorem gf_5_19 : gc_f 5 19 = some (9, 1) := by decide +kernel
theorem gf_5_29 : gc_f 5 29 = some (9, 2) := by decide +kernel
theorem gf_6_14 : gc_f 6 14 = some (9, 0) := by decide +kernel
theorem gf_7_7 : gc_f 7 7 = some (7, 0) := by decide +kernel
theorem gf_7_13 : gc_f 7 13 = some (7, 1) := by decide +kernel
theorem gf_7_17 : gc_f 7 17 = some (7, 2) := by decide +kernel
theorem gf_8_19 : gc_f 8 19 = some (9, 0) := by decide +kernel
theorem gf_10_11 : gc_f 10 11 = some (9, 0) := by decide +kernel
theorem gf_11_38 : gc_f 11 38 = some (11, 0) := by decide +kernel
theorem gf_11_42 : gc_f 11 42 = some (11, 1) := by decide +kernel
theorem gf_11_45 : gc_f 11 45 = some (11, 2) := by decide +kernel
theorem gf_11_48 : gc_f 11 48 = some (11, 3) := by decide +kernel
theorem gf_11_54 : gc_f 11 54 = some (11, 4) := by decide +kernel
theorem gf_11_64 : gc_f 11 64 = some (11, 5) := by decide +kernel
theorem gf_11_68 : gc_f 11 68 = some (11, 6) := by decide +kernel
theorem gf_11_72 : gc_f 11 72 = some (11, 7) := by decide +kernel
theorem gf_11_76 : gc_f 11 76 = some (11, 8) := by decide +kernel
theorem gf_11_92 : gc_f 11 92 = some (0, 2) := by decide +kernel
theorem gf_11_95 : gc_f 11 95 = some (0, 11) := by decide +kernel
theorem gf_11_114 : gc_f 11 114 = some (0, 4) := by decide +kernel
theorem gf_11_120 : gc_f 11 120 = some (0, 13) := by decide +kernel
theorem gf_11_123 : gc_f 11 123 = some (0, 5) := by decide +kernel
theorem gf_11_126 : gc_f 11 126 = some (0, 6) := by decide +kernel
theorem gf_11_129 : gc_f 11 129 = some (0, 7) := by decide +kernel
theorem gf_11_132 : gc_f 11 132 = some (0, 8) := by decide +kernel
theorem gf_11_149 : gc_f 11 149 = some (0, 12) := by decide +kernel
theorem gf_11_158 : gc_f 11 158 = some (0, 9) := by decide +kernel
theorem gf_11_161 : gc_f 11 161 = some (7, 1) := by decide +kernel
theorem gf_11_174 : gc_f 11 174 = some (0, 1) := by decide +kernel
theorem gf_11_178 : gc_f 11 178 = some (2, 0) := by decide +kernel
theorem gf_11_235 : gc_f 11 235 = some (7, 2) := by decide +kernel
theorem gf_11_246 : gc_f 11 246 = some (0, 14) := by decide +kernel
theorem gf_11_249 : gc_f 11 249 = some (9, 1) := by decide +kernel
theorem gf_11_252 : gc_f 11 252 = some (9, 2) := by decide +kernel
theorem gf_11_254 : gc_f 11 254 = some (9, 0) := by decide +kernel
theorem gf_11_273 : gc_f 11 273 = some (7, 0) := by decide +kernel
theorem gf_11_301 : gc_f 11 301 = some (11, 9) := by decide +kernel
theorem gf_11_304 : gc_f 11 304 = some (0, 10) := by decide +kernel
theorem gf_12_7 : gc_f 12 7 = some (12, 0) := by decide +kernel
theorem gf_12_13 : gc_f 12 13 = some (12, 1) := by decide +kernel
theorem gf_12_16 : gc_f 12 16 = some (12, 2) := by decide +kernel
theorem gf_12_19 : gc_f 12 19 = some (12, 4) := by decide +kernel
theorem gf_12_22 : gc_f 12 22 = some (12, 11) := by decide +kernel
theorem gf_12_25 : gc_f 12 25 = some (12, 12) := by decide +kernel
theorem gf_12_28 : gc_f 12 28 = some (12, 14) := by decide +kernel
theorem gf_12_31 : gc_f 12 31 = some (12, 15) := by decide +kernel
theorem gf_12_34 : gc_f 12 34 = some (12, 16) := by decide +kernel
theorem gf_12_37 : gc_f 12 37 = some (12, 17) := by decide +kernel
theorem gf_12_40 : gc_f 12 40 = some (12, 18) := by decide +kernel
theorem gf_12_43 : gc_f 12 43 = some (12, 19) := by decide +kernel
theorem gf_12_46 : gc_f 12 46 = some (12, 20) := by decide +kernel
theorem gf_12_49 : gc_f 12 49 = some (12, 21) := by decide +kernel
theorem gf_12_52 : gc_f 12 52 = some (12, 24) := by decide +kernel
theorem gf_12_55 : gc_f 12 55 = some (12, 25) := by decide +kernel
theorem gf_12_58 : gc_f 12 58 = some (12, 26) := by decide +kernel
theorem gf_12_61 : gc_f 12 61 = some (12, 27) := by decide +kernel
theorem gf_12_71 : gc_f 12 71 = some (12, 6) := by decide +kernel
theorem gf_12_75 : gc_f 12 75 = some (12, 7) := by decide +kernel
theorem gf_12_78 : gc_f 12 78 = some (12, 8) := by decide +kernel
theorem gf_12_81 : gc_f 12 81 = some (12, 5) := by decide +kernel
theorem gf_12_88 : gc_f 12 88 = some (12, 10) := by decide +kernel
theorem gf_12_92 : gc_f 12 92 = some (12, 13) := by decide +kernel
theorem gf_12_118 : gc_f 12 118 = some (12, 9) := by decide +kernel
theorem gf_12_317 : gc_f 12 317 = some (12, 22) := by decide +kernel
theorem gf_12_323 : gc_f 12 323 = some (12, 23) := by decide +kernel
theorem gf_12_338 : gc_f 12 338 = some (12, 3) := by decide +kernel
theorem gk_0_84 : gc_k 0 84 = some 65535 := by decide +kernel
theorem gk_0_150 : gc_k 0 150 = some 1103515245 := by decide +kernel
theorem gk_11_309 : gc_k 11 309 = some (-1000000000) := by decide +kernel
theorem gk_11_316 : gc_k 11 316 = some (-34953) := by decide +kernel
theorem gk_11_317 : gc_k 11 317 = some 65535 := by decide +kernel
theorem gk_12_64 : gc_k 12 64 = some (-1000000000) := by decide +kernel
theorem gk_12_242 : gc_k 12 242 = some 1103515245 := by decide +kernel
theorem gk_12_268 : gc_k 12 268 = some 100000 := by decide +kernel
theorem gk_12_291 : gc_k 12 291 = some 65535 := by decide +kernel
theorem gk_13_265 : gc_k 13 265 = some 1431655765 := by decide +kernel
theorem gk_13_266 : gc_k 13 266 = some 858993459 := by decide +kernel
theorem gk_13_267 : gc_k 13 267 = some 252645135 := by decide +kernel
theorem gl_12_69 : gc_l 12 69 = some 15 := by decide +kernel
theorem gl_12_134 : gc_l 12 134 = some 48 := by decide +kernel
theorem gl_12_136 : gc_l 12 136 = some 57 := by decide +kernel
theorem gl_12_142 : gc_l 12 142 = some 8 := by decide +kernel
theorem gl_12_147 : gc_l 12 147 = some 255 := by decide +kernel
theorem gl_12_210 : gc_l 12 210 = some 99 := by decide +kernel
theorem gl_12_215 : gc_l 12 215 = some 3 := by decide +kernel
theorem gl_12_217 : gc_l 12 217 = some 5 := by decide +kernel
theorem gl_12_219 : gc_l 12 219 = some 7 := by decide +kernel
theorem gl_12_221 : gc_l 12 221 = some 69 := by decide +kernel
theorem gl_12_226 : gc_l 12 226 = some 6 := by decide +kernel
theorem gl_12_231 : gc_l 12 231 = some 60 := by decide +kernel
theorem gl_12_243 : gc_l 12 243 = some 40 := by decide +kernel
theorem gl_12_257 : gc_l 12 257 = some 2 := by decide +kernel
theorem gl_12_310 : gc_l 12 310 = some 30 := by decide +kernel
theorem gl_12_312 : gc_l 12 312 = some 1584 := by decide +kernel
theorem gs_0_57 : gc_s 0 57 = 1 := by decide +kernel
theorem gs_0_96 : gc_s 0 96 = 0 := by decide +kernel
theorem gs_0_136 : gc_s 0 136 = 0 := by decide +kernel
theorem gs_0_139 : gc_s 0 139 = 0 := by decide +kernel
theorem gs_1_11 : gc_s 1 11 = 2 := by decide +kernel
theorem gs_2_85 : gc_s 2 85 = 0 := by decide +kernel
theorem gs_7_20 : gc_s 7 20 = 1 := by decide +kernel
theorem gs_8_11 : gc_s 8 11 = 2 := by decide +kernel
theorem gs_11_80 : gc_s 11 80 = 0 := by decide +kernel
theorem gs_11_84 : gc_s 11 84 = 0 := by decide +kernel
theorem gs_11_102 : gc_s 11 102 = 0 := by decide +kernel
theorem gs_11_109 : gc_s 11 109 = 0 := by decide +kernel
theorem gs_11_117 : gc_s 11 117 = 0 := by decide +kernel
theorem gs_11_155 : gc_s 11 155 = 0 := by decide +kernel
theorem gs_11_167 : gc_s 11 167 = 0 := by decide +kernel
theorem gs_11_214 : gc_s 11 214 = 0 := by decide +kernel
theorem gs_11_217 : gc_s 11 217 = 0 := by decide +kernel
theorem gs_11_223 : gc_s 11 223 = 0 := by decide +kernel
theorem gs_11_226 : gc_s 11 226 = 0 := by decide +kernel
theorem gs_11_232 : gc_s 11 232 = 0 := by decide +kernel
theorem gs_11_280 : gc_s 11 280 = 0 := by decide +kernel
theorem gs_11_286 : gc_s 11 286 = 1 := by decide +kernel
theorem gs_11_292 : gc_s 11 292 = 3 := by decide +kernel
theorem gs_11_313 : gc_s 11 313 = 2 := by decide +kernel
theorem gs_11_318 : gc_s 11 318 = 0 := by decide +kernel
theorem gs_11_321 : gc_s 11 321 = 0 := by decide +kernel
theorem gs_11_330 : gc_s 11 330 = 0 := by decide +kernel
theorem gs_11_333 : gc_s 11 333 = 0 := by decide +kernel
theorem gs_12_65 : gc_s 12 65 = 0 := by decide +kernel
theorem gs_12_138 : gc_s 12 138 = 0 := by decide +kernel
theorem gs_12_157 : gc_s 12 157 = 0 := by decide +kernel
theorem gs_12_164 : gc_s 12 164 = 0 := by decide +kernel
theorem gs_12_207 : gc_s 12 207 = 0 := by decide +kernel
theorem gs_12_223 : gc_s 12 223 = 0 := by decide +kernel
theorem gs_12_228 : gc_s 12 228 = 0 := by decide +kernel
theorem gs_12_248 : gc_s 12 248 = 0 := by decide +kernel
theorem gs_12_262 : gc_s 12 262 = 0 := by decide +kernel
theorem gs_12_275 : gc_s 12 275 = 0 := by decide +kernel
theorem gs_12_281 : gc_s 12 281 = 0 := by decide +kernel
theorem gs_12_304 : gc_s 12 304 = 0 := by decide +kernel
theorem gs_12_314 : gc_s 12 314 = 0 := by decide +kernel
theorem gs_15_637 : gc_s 15 637 = 0 := by decide +kernel
theorem gs_16_38 : gc_s 16 38 = 3 := by decide +kernel
theorem gs_16_88 : gc_s 16 88 = 0 := by decide +kernel
theorem gs_16_92 : gc_s 16 92 = 2 := by decide +kernel
theorem gs_16_95 : gc_s 16 95 = 0 := by decide +kernel
theorem gc_0_72_0 : gc_c 0 72 0 = some (1, 0) := by decide +kernel
theorem gn_0_72 : gc_n 0 72 = 1 := by decide +kernel
theorem gc_0_81_7 : gc_c 0 81 7 = some (1, 1) := by decide +kernel
theorem gn_0_81 : gc_n 0 81 = 1 := by decide +kernel
theorem gc_0_85_0 : gc_c 0 85 0 = some (1, 5) := by decide +kernel
theorem gn_0_85 : gc_n 0 85 = 0 := by decide +kernel
theorem gc_0_92_2 : gc_c 0 92 2 = some (1, 11) := by decide +kernel
theorem gn_0_92 : gc_n 0 92 = 3 := by decide +kernel
theorem gc_0_100_0 : gc_c 0 100 0 = some (1, 3) := by decide +kernel
theorem gn_0_100 : gc_n 0 100 = 1 := by decide +kernel
theorem gc_0_104_1 : gc_c 0 104 1 = some (3, 16) := by decide +kernel
theorem gn_0_104 : gc_n 0 104 = 2 := by decide +kernel
theorem gc_0_104_3 : gc_c 0 104 3 = some (3, 15) := by decide +kernel
theorem gc_0_104_4 : gc_c 0 104 4 = some (3, 18) := by decide +kernel
theorem gc_0_104_5 : gc_c 0 104 5 = some (1, 14) := by decide +kernel
theorem gc_0_104_6 : gc_c 0 104 6 = some (3, 20) := by decide +kernel
theorem gc_0_104_8 : gc_c 0 104 8 = some (3, 17) := by decide +kernel
theorem gc_0_104_10 : gc_c 0 104 10 = some (3, 19) := by decide +kernel
theorem gc_0_110_0 : gc_c 0 110 0 = some (1, 13) := by decide +kernel
theorem gn_0_110 : gc_n 0 110 = 4 := by decide +kernel
theorem gc_0_114_0 : gc_c 0 114 0 = some (1, 21) := by decide +kernel
theorem gn_0_114 : gc_n 0 114 = 1 := by decide +kernel
theorem gc_0_117_1 : gc_c 0 117 1 = some (3, 22) := by decide +kernel
theorem gn_0_117 : gc_n 0 117 = 2 := by decide +kernel
theorem gc_0_117_3 : gc_c 0 117 3 = some (2, 23) := by decide +kernel
theorem gc_0_117_4 : gc_c 0 117 4 = some (3, 24) := by decide +kernel
theorem gc_0_117_5 : gc_c 0 117 5 = some (1, 23) := by decide +kernel
theorem gc_0_117_6 : gc_c 0 117 6 = some (3, 25) := by decide +kernel
theorem gc_0_117_8 : gc_c 0 117 8 = some (3, 24) := by decide +kernel
theorem gc_0_117_10 : gc_c 0 117 10 = some (2, 23) := by decide +kernel
theorem gc_0_120_0 : gc_c 0 120 0 = some (1, 27) := by decide +kernel
theorem gn_0_120 : gc_n 0 120 = 0 := by decide +kernel
theorem gc_0_123_0 : gc_c 0 123 0 = some (1, 31) := by decide +kernel
theorem gn_0_123 : gc_n 0 123 = 0 := by decide +kernel
theorem gc_0_126_0 : gc_c 0 126 0 = some (1, 37) := by decide +kernel
theorem gn_0_126 : gc_n 0 126 = 0 := by decide +kernel
theorem gc_0_129_0 : gc_c 0 129 0 = some (1, 26) := by decide +kernel
theorem gn_0_129 : gc_n 0 129 = 2 := by decide +kernel
theorem gc_0_133_0 : gc_c 0 133 0 = some (1, 6) := by decide +kernel
theorem gn_0_133 : gc_n 0 133 = 0 := by decide +kernel
theorem gc_0_139_97 : gc_c 0 139 97 = some (0, 30) := by decide +kernel
theorem gn_0_139 : gc_n 0 139 = 1 := by decide +kernel
theorem gne_0_139 : gc_ne 0 139 = none := by decide +kernel
theorem gc_0_144_1 : gc_c 0 144 1 = some (3, 32) := by decide +kernel
theorem gn_0_144 : gc_n 0 144 = 2 := by decide +kernel
theorem gc_0_144_3 : gc_c 0 144 3 = some (3, 32) := by decide +kernel
theorem gc_0_144_4 : gc_c 0 144 4 = some (3, 34) := by decide +kernel
theorem gc_0_144_5 : gc_c 0 144 5 = some (1, 33) := by decide +kernel
theorem gc_0_144_6 : gc_c 0 144 6 = some (3, 36) := by decide +kernel
theorem gc_0_144_8 : gc_c 0 144 8 = some (2, 33) := by decide +kernel
theorem gc_0_144_10 : gc_c 0 144 10 = some (3, 35) := by decide +kernel
theorem gc_0_147_0 : gc_c 0 147 0 = some (1, 39) := by decide +kernel
theorem gn_0_147 : gc_n 0 147 = 0 := by decide +kernel
theorem gc_1_7_98 : gc_c 1 7 98 = some (4, 15) := by decide +kernel
theorem gn_1_7 : gc_n 1 7 = 2 := by decide +kernel
theorem gc_1_16_98 : gc_c 1 16 98 = some (6, 23) := by decide +kernel
theorem gn_1_16 : gc_n 1 16 = 2 := by decide +kernel
theorem gc_1_25_7 : gc_c 1 25 7 = some (1, 41) := by decide +kernel
theorem gn_1_25 : gc_n 1 25 = 1 := by decide +kernel
theorem gc_1_31_98 : gc_c 1 31 98 = some (4, 43) := by decide +kernel
theorem gn_1_31 : gc_n 1 31 = 2 := by decide +kernel
theorem gc_1_39_1 : gc_c 1 39 1 = some (2, 47) := by decide +kernel
theorem gn_1_39 : gc_n 1 39 = 2 := by decide +kernel
theorem gc_1_44_98 : gc_c 1 44 98 = some (6, 68) := by decide +kernel
theorem gn_1_44 : gc_n 1 44 = 2 := by decide +kernel
theorem gc_2_44_2 : gc_c 2 44 2 = some (1, 64) := by decide +kernel
theorem gn_2_44 : gc_n 2 44 = 1 := by decide +kernel
theorem gc_2_51_2 : gc_c 2 51 2 = some (1, 59) := by decide +kernel
theorem gn_2_51 : gc_n 2 51 = 1 := by decide +kernel
theorem gc_2_54_2 : gc_c 2 54 2 = some (1, 49) := by decide +kernel
theorem gn_2_54 : gc_n 2 54 = 0 := by decide +kernel
theorem gc_2_58_2 : gc_c 2 58 2 = some (1, 50) := by decide +kernel
theorem gn_2_58 : gc_n 2 58 = 0 := by decide +kernel
theorem gc_2_61_7 : gc_c 2 61 7 = some (1, 41) := by decide +kernel
theorem gn_2_61 : gc_n 2 61 = 1 := by decide +kernel
theorem gc_2_64_2 : gc_c 2 64 2 = some (1, 60) := by decide +kernel
theorem gn_2_64 : gc_n 2 64 = 1 := by decide +kernel
theorem gc_2_67_2 : gc_c 2 67 2 = some (1, 63) := by decide +kernel
theorem gn_2_67 : gc_n 2 67 = 1 := by decide +kernel
theorem gc_2_70_2 : gc_c 2 70 2 = some (1, 62) := by decide +kernel
theorem gn_2_70 : gc_n 2 70 = 1 := by decide +kernel
theorem gc_2_73_2 : gc_c 2 73 2 = some (1, 61) := by decide +kernel
theorem gn_2_73 : gc_n 2 73 = 1 := by decide +kernel
theorem gc_2_76_2 : gc_c 2 76 2 = some (1, 51) := by decide +kernel
theorem gn_2_76 : gc_n 2 76 = 0 := by decide +kernel
theorem gc_2_79_15 : gc_c 2 79 15 = some (1, 58) := by decide +kernel
theorem gn_2_79 : gc_n 2 79 = 1 := by decide +kernel
theorem gc_2_85_97 : gc_c 2 85 97 = some (0, 10) := by decide +kernel
theorem gn_2_85 : gc_n 2 85 = 3 := by decide +kernel
theorem gne_2_85 : gc_ne 2 85 = none := by decide +kernel
theorem gc_3_7_98 : gc_c 3 7 98 = some (4, 14) := by decide +kernel
theorem gn_3_7 : gc_n 3 7 = 2 := by decide +kernel
theorem gc_3_17_7 : gc_c 3 17 7 = some (1, 41) := by decide +kernel
theorem gn_3_17 : gc_n 3 17 = 1 := by decide +kernel
theorem gc_3_23_98 : gc_c 3 23 98 = some (4, 42) := by decide +kernel
theorem gn_3_23 : gc_n 3 23 = 2 := by decide +kernel
theorem gc_4_7_98 : gc_c 4 7 98 = some (4, 17) := by decide +kernel
theorem gn_4_7 : gc_n 4 7 = 2 := by decide +kernel
theorem gc_4_11_98 : gc_c 4 11 98 = some (6, 33) := by decide +kernel
theorem gn_4_11 : gc_n 4 11 = 2 := by decide +kernel
theorem gc_4_20_7 : gc_c 4 20 7 = some (1, 41) := by decide +kernel
theorem gn_4_20 : gc_n 4 20 = 1 := by decide +kernel
theorem gc_4_26_98 : gc_c 4 26 98 = some (4, 66) := by decide +kernel
theorem gn_4_26 : gc_n 4 26 = 2 := by decide +kernel
theorem gc_5_13_7 : gc_c 5 13 7 = some (1, 41) := by decide +kernel
theorem gn_5_13 : gc_n 5 13 = 1 := by decide +kernel
theorem gc_5_23_1 : gc_c 5 23 1 = some (2, 45) := by decide +kernel
theorem gn_5_23 : gc_n 5 23 = 2 := by decide +kernel
theorem gc_5_23_3 : gc_c 5 23 3 = some (2, 45) := by decide +kernel
theorem gc_5_23_4 : gc_c 5 23 4 = some (2, 45) := by decide +kernel
theorem gc_5_23_5 : gc_c 5 23 5 = some (1, 45) := by decide +kernel
theorem gc_5_23_6 : gc_c 5 23 6 = some (3, 46) := by decide +kernel
theorem gc_5_23_8 : gc_c 5 23 8 = some (2, 45) := by decide +kernel
theorem gc_5_23_10 : gc_c 5 23 10 = some (3, 46) := by decide +kernel
theorem gc_5_32_1 : gc_c 5 32 1 = some (2, 47) := by decide +kernel
theorem gn_5_32 : gc_n 5 32 = 2 := by decide +kernel
theorem gc_5_32_3 : gc_c 5 32 3 = some (2, 47) := by decide +kernel
theorem gc_5_32_4 : gc_c 5 32 4 = some (3, 67) := by decide +kernel
theorem gc_5_32_5 : gc_c 5 32 5 = some (1, 47) := by decide +kernel
theorem gc_5_32_6 : gc_c 5 32 6 = some (2, 47) := by decide +kernel
theorem gc_5_32_8 : gc_c 5 32 8 = some (3, 66) := by decide +kernel
theorem gc_5_32_10 : gc_c 5 32 10 = some (2, 47) := by decide +kernel
theorem gc_5_35_1 : gc_c 5 35 1 = some (3, 44) := by decide +kernel
theorem gn_5_35 : gc_n 5 35 = 2 := by decide +kernel
theorem gc_5_35_3 : gc_c 5 35 3 = some (3, 43) := by decide +kernel
theorem gc_5_35_4 : gc_c 5 35 4 = some (2, 42) := by decide +kernel
theorem gc_5_35_5 : gc_c 5 35 5 = some (1, 42) := by decide +kernel
theorem gc_5_35_6 : gc_c 5 35 6 = some (2, 42) := by decide +kernel
theorem gc_5_35_8 : gc_c 5 35 8 = some (2, 42) := by decide +kernel
theorem gc_5_35_10 : gc_c 5 35 10 = some (2, 42) := by decide +kernel
theorem gc_6_7_98 : gc_c 6 7 98 = some (4, 19) := by decide +kernel
theorem gn_6_7 : gc_n 6 7 = 2 := by decide +kernel
theorem gc_6_11_98 : gc_c 6 11 98 = some (4, 35) := by decide +kernel
theorem gn_6_11 : gc_n 6 11 = 2 := by decide +kernel
theorem gc_6_20_7 : gc_c 6 20 7 = some (1, 41) := by decide +kernel
theorem gn_6_20 : gc_n 6 20 = 1 := by decide +kernel
theorem gc_6_26_98 : gc_c 6 26 98 = some (6, 68) := by decide +kernel
theorem gn_6_26 : gc_n 6 26 = 2 := by decide +kernel
theorem gc_6_30_6 : gc_c 6 30 6 = some (2, 46) := by decide +kernel
theorem gn_6_30 : gc_n 6 30 = 2 := by decide +kernel
theorem gc_8_7_98 : gc_c 8 7 98 = some (4, 14) := by decide +kernel
theorem gn_8_7 : gc_n 8 7 = 2 := by decide +kernel
theorem gc_8_16_98 : gc_c 8 16 98 = some (4, 23) := by decide +kernel
theorem gn_8_16 : gc_n 8 16 = 2 := by decide +kernel
theorem gc_8_25_7 : gc_c 8 25 7 = some (1, 41) := by decide +kernel
theorem gn_8_25 : gc_n 8 25 = 1 := by decide +kernel
theorem gc_8_31_98 : gc_c 8 31 98 = some (4, 47) := by decide +kernel
theorem gn_8_31 : gc_n 8 31 = 2 := by decide +kernel
theorem gc_8_35_4 : gc_c 8 35 4 = some (2, 42) := by decide +kernel
theorem gn_8_35 : gc_n 8 35 = 2 := by decide +kernel
theorem gc_8_35_8 : gc_c 8 35 8 = some (2, 42) := by decide +kernel
theorem gc_10_7_98 : gc_c 10 7 98 = some (4, 14) := by decide +kernel
theorem gn_10_7 : gc_n 10 7 = 2 := by decide +kernel
theorem gc_10_17_7 : gc_c 10 17 7 = some (1, 41) := by decide +kernel
theorem gn_10_17 : gc_n 10 17 = 1 := by decide +kernel
theorem gc_10_23_98 : gc_c 10 23 98 = some (4, 45) := by decide +kernel
theorem gn_10_23 : gc_n 10 23 = 2 := by decide +kernel
theorem gc_11_80_97 : gc_c 11 80 97 = some (0, 74) := by decide +kernel
theorem gn_11_80 : gc_n 11 80 = 1 := by decide +kernel
theorem gne_11_80 : gc_ne 11 80 = none := by decide +kernel
theorem gc_11_84_97 : gc_c 11 84 97 = some (0, 73) := by decide +kernel
theorem gn_11_84 : gc_n 11 84 = 2 := by decide +kernel
theorem gne_11_84 : gc_ne 11 84 = none := by decide +kernel
theorem gc_11_88_11 : gc_c 11 88 11 = some (1, 75) := by decide +kernel
theorem gn_11_88 : gc_n 11 88 = 1 := by decide +kernel
theorem gc_11_99_0 : gc_c 11 99 0 = some (1, 7) := by decide +kernel
theorem gn_11_99 : gc_n 11 99 = 1 := by decide +kernel
theorem gc_11_102_97 : gc_c 11 102 97 = some (0, 29) := by decide +kernel
theorem gn_11_102 : gc_n 11 102 = 1 := by decide +kernel
theorem gne_11_102 : gc_ne 11 102 = none := by decide +kernel
theorem gc_11_105_0 : gc_c 11 105 0 = some (1, 6) := by decide +kernel
theorem gn_11_105 : gc_n 11 105 = 0 := by decide +kernel
theorem gc_11_109_97 : gc_c 11 109 97 = some (0, 30) := by decide +kernel
theorem gn_11_109 : gc_n 11 109 = 1 := by decide +kernel
theorem gne_11_109 : gc_ne 11 109 = none := by decide +kernel
theorem gc_11_117_97 : gc_c 11 117 97 = some (0, 80) := by decide +kernel
theorem gn_11_117 : gc_n 11 117 = 1 := by decide +kernel
theorem gne_11_117 : gc_ne 11 117 = none := by decide +kernel
theorem gc_11_135_11 : gc_c 11 135 11 = some (1, 82) := by decide +kernel
theorem gn_11_135 : gc_n 11 135 = 1 := by decide +kernel
theorem gc_11_138_0 : gc_c 11 138 0 = some (1, 21) := by decide +kernel
theorem gn_11_138 : gc_n 11 138 = 1 := by decide +kernel
theorem gc_11_141_0 : gc_c 11 141 0 = some (1, 3) := by decide +kernel
theorem gn_11_141 : gc_n 11 141 = 1 := by decide +kernel
theorem gc_11_145_1 : gc_c 11 145 1 = some (3, 22) := by decide +kernel
theorem gn_11_145 : gc_n 11 145 = 2 := by decide +kernel
theorem gc_11_145_3 : gc_c 11 145 3 = some (2, 23) := by decide +kernel
theorem gc_11_145_4 : gc_c 11 145 4 = some (3, 24) := by decide +kernel
theorem gc_11_145_5 : gc_c 11 145 5 = some (1, 23) := by decide +kernel
theorem gc_11_145_6 : gc_c 11 145 6 = some (3, 25) := by decide +kernel
theorem gc_11_145_8 : gc_c 11 145 8 = some (3, 24) := by decide +kernel
theorem gc_11_145_10 : gc_c 11 145 10 = some (2, 23) := by decide +kernel
theorem gc_11_152_1 : gc_c 11 152 1 = some (3, 32) := by decide +kernel
theorem gn_11_152 : gc_n 11 152 = 2 := by decide +kernel
theorem gc_11_152_3 : gc_c 11 152 3 = some (3, 32) := by decide +kernel
theorem gc_11_152_4 : gc_c 11 152 4 = some (3, 34) := by decide +kernel
theorem gc_11_152_5 : gc_c 11 152 5 = some (1, 33) := by decide +kernel
theorem gc_11_152_6 : gc_c 11 152 6 = some (3, 36) := by decide +kernel
theorem gc_11_152_8 : gc_c 11 152 8 = some (2, 33) := by decide +kernel
theorem gc_11_152_10 : gc_c 11 152 10 = some (3, 35) := by decide +kernel
theorem gc_11_155_97 : gc_c 11 155 97 = some (0, 86) := by decide +kernel
theorem gn_11_155 : gc_n 11 155 = 2 := by decide +kernel
theorem gne_11_155 : gc_ne 11 155 = none := by decide +kernel
theorem gc_11_164_7 : gc_c 11 164 7 = some (1, 41) := by decide +kernel
theorem gn_11_164 : gc_n 11 164 = 1 := by decide +kernel
theorem gc_11_167_97 : gc_c 11 167 97 = some (0, 89) := by decide +kernel
theorem gn_11_167 : gc_n 11 167 = 1 := by decide +kernel
theorem gne_11_167 : gc_ne 11 167 = none := by decide +kernel
theorem gc_11_170_2 : gc_c 11 170 2 = some (1, 65) := by decide +kernel
theorem gn_11_170 : gc_n 11 170 = 2 := by decide +kernel
theorem gc_11_181_7 : gc_c 11 181 7 = some (1, 1) := by decide +kernel
theorem gn_11_181 : gc_n 11 181 = 1 := by decide +kernel
theorem gc_11_185_0 : gc_c 11 185 0 = some (1, 13) := by decide +kernel
theorem gn_11_185 : gc_n 11 185 = 4 := by decide +kernel
theorem gc_11_189_0 : gc_c 11 189 0 = some (1, 38) := by decide +kernel
theorem gn_11_189 : gc_n 11 189 = 0 := by decide +kernel
theorem gc_11_192_0 : gc_c 11 192 0 = some (1, 8) := by decide +kernel
theorem gn_11_192 : gc_n 11 192 = 0 := by decide +kernel
theorem gc_11_195_0 : gc_c 11 195 0 = some (1, 40) := by decide +kernel
theorem gn_11_195 : gc_n 11 195 = 0 := by decide +kernel
theorem gc_11_198_11 : gc_c 11 198 11 = some (1, 94) := by decide +kernel
theorem gn_11_198 : gc_n 11 198 = 1 := by decide +kernel
theorem gc_11_201_0 : gc_c 11 201 0 = some (1, 9) := by decide +kernel
theorem gn_11_201 : gc_n 11 201 = 0 := by decide +kernel
theorem gc_11_204_0 : gc_c 11 204 0 = some (1, 5) := by decide +kernel
theorem gn_11_204 : gc_n 11 204 = 0 := by decide +kernel
theorem gc_11_207_11 : gc_c 11 207 11 = some (1, 97) := by decide +kernel
theorem gn_11_207 : gc_n 11 207 = 3 := by decide +kernel
theorem gc_11_211_11 : gc_c 11 211 11 = some (1, 101) := by decide +kernel
theorem gn_11_211 : gc_n 11 211 = 4 := by decide +kernel
theorem gc_11_214_97 : gc_c 11 214 97 = some (0, 106) := by decide +kernel
theorem gn_11_214 : gc_n 11 214 = 2 := by decide +kernel
theorem gne_11_214 : gc_ne 11 214 = none := by decide +kernel
theorem gc_11_217_97 : gc_c 11 217 97 = some (0, 28) := by decide +kernel
theorem gn_11_217 : gc_n 11 217 = 1 := by decide +kernel
theorem gne_11_217 : gc_ne 11 217 = none := by decide +kernel
theorem gc_11_220_0 : gc_c 11 220 0 = some (1, 4) := by decide +kernel
theorem gn_11_220 : gc_n 11 220 = 0 := by decide +kernel
theorem gc_11_223_97 : gc_c 11 223 97 = some (0, 111) := by decide +kernel
theorem gn_11_223 : gc_n 11 223 = 1 := by decide +kernel
theorem gne_11_223 : gc_ne 11 223 = none := by decide +kernel
theorem gc_11_226_97 : gc_c 11 226 97 = some (0, 113) := by decide +kernel
theorem gn_11_226 : gc_n 11 226 = 1 := by decide +kernel
theorem gne_11_226 : gc_ne 11 226 = none := by decide +kernel
theorem gc_11_229_11 : gc_c 11 229 11 = some (1, 119) := by decide +kernel
theorem gn_11_229 : gc_n 11 229 = 1 := by decide +kernel
theorem gc_11_232_97 : gc_c 11 232 97 = some (0, 121) := by decide +kernel
theorem gn_11_232 : gc_n 11 232 = 1 := by decide +kernel
theorem gne_11_232 : gc_ne 11 232 = none := by decide +kernel
theorem gc_11_238_11 : gc_c 11 238 11 = some (1, 100) := by decide +kernel
theorem gn_11_238 : gc_n 11 238 = 3 := by decide +kernel
theorem gc_11_242_11 : gc_c 11 242 11 = some (1, 122) := by decide +kernel
theorem gn_11_242 : gc_n 11 242 = 1 := by decide +kernel
theorem gc_11_257_1 : gc_c 11 257 1 = some (2, 45) := by decide +kernel
theorem gn_11_257 : gc_n 11 257 = 2 := by decide +kernel
theorem gc_11_257_3 : gc_c 11 257 3 = some (2, 45) := by decide +kernel
theorem gc_11_257_4 : gc_c 11 257 4 = some (2, 45) := by decide +kernel
theorem gc_11_257_5 : gc_c 11 257 5 = some (1, 45) := by decide +kernel
theorem gc_11_257_6 : gc_c 11 257 6 = some (3, 46) := by decide +kernel
theorem gc_11_257_8 : gc_c 11 257 8 = some (2, 45) := by decide +kernel
theorem gc_11_257_10 : gc_c 11 257 10 = some (3, 46) := by decide +kernel
theorem gc_11_261_1 : gc_c 11 261 1 = some (2, 47) := by decide +kernel
theorem gn_11_261 : gc_n 11 261 = 2 := by decide +kernel
theorem gc_11_261_3 : gc_c 11 261 3 = some (2, 47) := by decide +kernel
theorem gc_11_261_4 : gc_c 11 261 4 = some (3, 67) := by decide +kernel
theorem gc_11_261_5 : gc_c 11 261 5 = some (1, 47) := by decide +kernel
theorem gc_11_261_6 : gc_c 11 261 6 = some (2, 47) := by decide +kernel
theorem gc_11_261_8 : gc_c 11 261 8 = some (3, 66) := by decide +kernel
theorem gc_11_261_10 : gc_c 11 261 10 = some (2, 47) := by decide +kernel
theorem gc_11_264_1 : gc_c 11 264 1 = some (3, 44) := by decide +kernel
theorem gn_11_264 : gc_n 11 264 = 2 := by decide +kernel
theorem gc_11_264_3 : gc_c 11 264 3 = some (3, 43) := by decide +kernel
theorem gc_11_264_4 : gc_c 11 264 4 = some (2, 42) := by decide +kernel
theorem gc_11_264_5 : gc_c 11 264 5 = some (1, 42) := by decide +kernel
theorem gc_11_264_6 : gc_c 11 264 6 = some (2, 42) := by decide +kernel
theorem gc_11_264_8 : gc_c 11 264 8 = some (2, 42) := by decide +kernel
theorem gc_11_264_10 : gc_c 11 264 10 = some (2, 42) := by decide +kernel
theorem gc_11_267_1 : gc_c 11 267 1 = some (3, 48) := by decide +kernel
theorem gn_11_267 : gc_n 11 267 = 2 := by decide +kernel
theorem gc_11_267_3 : gc_c 11 267 3 = some (2, 68) := by decide +kernel
theorem gc_11_267_4 : gc_c 11 267 4 = some (2, 68) := by decide +kernel
theorem gc_11_267_5 : gc_c 11 267 5 = some (1, 68) := by decide +kernel
theorem gc_11_267_6 : gc_c 11 267 6 = some (3, 69) := by decide +kernel
theorem gc_11_267_8 : gc_c 11 267 8 = some (2, 68) := by decide +kernel
theorem gc_11_267_10 : gc_c 11 267 10 = some (2, 68) := by decide +kernel
theorem gc_11_270_7 : gc_c 11 270 7 = some (1, 70) := by decide +kernel
theorem gn_11_270 : gc_n 11 270 = 1 := by decide +kernel
theorem gc_11_276_7 : gc_c 11 276 7 = some (1, 72) := by decide +kernel
theorem gn_11_276 : gc_n 11 276 = 2 := by decide +kernel
theorem gc_11_280_97 : gc_c 11 280 97 = some (0, 130) := by decide +kernel
theorem gn_11_280 : gc_n 11 280 = 2 := by decide +kernel
theorem gne_11_280 : gc_ne 11 280 = none := by decide +kernel
theorem gc_11_283_7 : gc_c 11 283 7 = some (1, 71) := by decide +kernel
theorem gn_11_283 : gc_n 11 283 = 2 := by decide +kernel
theorem gc_11_297_0 : gc_c 11 297 0 = some (1, 2) := by decide +kernel
theorem gn_11_297 : gc_n 11 297 = 1 := by decide +kernel
theorem gc_11_307_0 : gc_c 11 307 0 = some (1, 0) := by decide +kernel
theorem gn_11_307 : gc_n 11 307 = 1 := by decide +kernel
theorem gc_11_318_97 : gc_c 11 318 97 = some (0, 110) := by decide +kernel
theorem gn_11_318 : gc_n 11 318 = 1 := by decide +kernel
theorem gne_11_318 : gc_ne 11 318 = none := by decide +kernel
theorem gc_11_321_97 : gc_c 11 321 97 = some (0, 105) := by decide +kernel
theorem gn_11_321 : gc_n 11 321 = 1 := by decide +kernel
theorem gne_11_321 : gc_ne 11 321 = none := by decide +kernel
theorem gc_11_324_11 : gc_c 11 324 11 = some (1, 116) := by decide +kernel
theorem gn_11_324 : gc_n 11 324 = 1 := by decide +kernel
theorem gc_11_327_11 : gc_c 11 327 11 = some (1, 117) := by decide +kernel
theorem gn_11_327 : gc_n 11 327 = 1 := by decide +kernel
theorem gc_11_330_97 : gc_c 11 330 97 = some (0, 118) := by decide +kernel
theorem gn_11_330 : gc_n 11 330 = 2 := by decide +kernel
theorem gne_11_330 : gc_ne 11 330 = none := by decide +kernel
theorem gc_11_333_97 : gc_c 11 333 97 = some (0, 115) := by decide +kernel
theorem gn_11_333 : gc_n 11 333 = 2 := by decide +kernel
theorem gne_11_333 : gc_ne 11 333 = none := by decide +kernel
theorem gc_12_65_97 : gc_c 12 65 97 = some (0, 142) := by decide +kernel
theorem gn_12_65 : gc_n 12 65 = 3 := by decide +kernel
theorem gne_12_65 : gc_ne 12 65 = none := by decide +kernel
theorem gc_12_84_12 : gc_c 12 84 12 = some (1, 153) := by decide +kernel
theorem gn_12_84 : gc_n 12 84 = 0 := by decide +kernel
theorem gc_12_95_12 : gc_c 12 95 12 = some (1, 158) := by decide +kernel
theorem gn_12_95 : gc_n 12 95 = 0 := by decide +kernel
theorem gc_12_98_12 : gc_c 12 98 12 = some (1, 155) := by decide +kernel
theorem gn_12_98 : gc_n 12 98 = 1 := by decide +kernel
theorem gc_12_102_12 : gc_c 12 102 12 = some (1, 157) := by decide +kernel
theorem gn_12_102 : gc_n 12 102 = 1 := by decide +kernel
theorem gc_12_106_12 : gc_c 12 106 12 = some (1, 159) := by decide +kernel
theorem gn_12_106 : gc_n 12 106 = 0 := by decide +kernel
theorem gc_12_109_12 : gc_c 12 109 12 = some (1, 163) := by decide +kernel
theorem gn_12_109 : gc_n 12 109 = 0 := by decide +kernel
theorem gc_12_112_12 : gc_c 12 112 12 = some (1, 162) := by decide +kernel
theorem gn_12_112 : gc_n 12 112 = 0 := by decide +kernel
theorem gc_12_115_12 : gc_c 12 115 12 = some (1, 164) := by decide +kernel
theorem gn_12_115 : gc_n 12 115 = 0 := by decide +kernel
theorem gc_12_121_12 : gc_c 12 121 12 = some (1, 154) := by decide +kernel
theorem gn_12_121 : gc_n 12 121 = 0 := by decide +kernel
theorem gc_12_124_12 : gc_c 12 124 12 = some (1, 160) := by decide +kernel
theorem gn_12_124 : gc_n 12 124 = 0 := by decide +kernel
theorem gc_12_127_12 : gc_c 12 127 12 = some (1, 161) := by decide +kernel
theorem gn_12_127 : gc_n 12 127 = 1 := by decide +kernel
theorem gc_12_130_12 : gc_c 12 130 12 = some (1, 156) := by decide +kernel
theorem gn_12_130 : gc_n 12 130 = 1 := by decide +kernel
theorem gc_12_138_97 : gc_c 12 138 97 = some (0, 166) := by decide +kernel
theorem gn_12_138 : gc_n 12 138 = 3 := by decide +kernel
theorem gne_12_138 : gc_ne 12 138 = none := by decide +kernel
theorem gc_12_144_12 : gc_c 12 144 12 = some (1, 141) := by decide +kernel
theorem gn_12_144 : gc_n 12 144 = 1 := by decide +kernel
theorem gc_12_149_12 : gc_c 12 149 12 = some (1, 165) := by decide +kernel
theorem gn_12_149 : gc_n 12 149 = 3 := by decide +kernel
theorem gc_12_153_12 : gc_c 12 153 12 = some (1, 167) := by decide +kernel
theorem gn_12_153 : gc_n 12 153 = 2 := by decide +kernel
theorem gc_12_157_97 : gc_c 12 157 97 = some (0, 143) := by decide +kernel
theorem gn_12_157 : gc_n 12 157 = 3 := by decide +kernel
theorem gne_12_157 : gc_ne 12 157 = none := by decide +kernel
theorem gc_12_160_12 : gc_c 12 160 12 = some (1, 170) := by decide +kernel
theorem gn_12_160 : gc_n 12 160 = 4 := by decide +kernel
theorem gc_12_164_97 : gc_c 12 164 97 = some (0, 172) := by decide +kernel
theorem gn_12_164 : gc_n 12 164 = 2 := by decide +kernel
theorem gne_12_164 : gc_ne 12 164 = none := by decide +kernel
theorem gc_12_168_12 : gc_c 12 168 12 = some (1, 146) := by decide +kernel
theorem gn_12_168 : gc_n 12 168 = 2 := by decide +kernel
theorem gc_12_171_12 : gc_c 12 171 12 = some (1, 174) := by decide +kernel
theorem gn_12_171 : gc_n 12 171 = 1 := by decide +kernel
theorem gc_12_174_12 : gc_c 12 174 12 = some (1, 175) := by decide +kernel
theorem gn_12_174 : gc_n 12 174 = 1 := by decide +kernel
theorem gc_12_177_12 : gc_c 12 177 12 = some (1, 176) := by decide +kernel
theorem gn_12_177 : gc_n 12 177 = 2 := by decide +kernel
theorem gc_12_180_12 : gc_c 12 180 12 = some (1, 147) := by decide +kernel
theorem gn_12_180 : gc_n 12 180 = 3 := by decide +kernel
theorem gc_12_183_12 : gc_c 12 183 12 = some (1, 173) := by decide +kernel
theorem gn_12_183 : gc_n 12 183 = 1 := by decide +kernel
theorem gc_12_186_12 : gc_c 12 186 12 = some (1, 144) := by decide +kernel
theorem gn_12_186 : gc_n 12 186 = 1 := by decide +kernel
theorem gc_12_189_12 : gc_c 12 189 12 = some (1, 178) := by decide +kernel
theorem gn_12_189 : gc_n 12 189 = 1 := by decide +kernel
theorem gc_12_192_12 : gc_c 12 192 12 = some (1, 179) := by decide +kernel
theorem gn_12_192 : gc_n 12 192 = 0 := by decide +kernel
theorem gc_12_195_12 : gc_c 12 195 12 = some (1, 180) := by decide +kernel
theorem gn_12_195 : gc_n 12 195 = 0 := by decide +kernel
theorem gc_12_198_12 : gc_c 12 198 12 = some (1, 177) := by decide +kernel
theorem gn_12_198 : gc_n 12 198 = 1 := by decide +kernel
theorem gc_12_201_12 : gc_c 12 201 12 = some (1, 181) := by decide +kernel
theorem gn_12_201 : gc_n 12 201 = 0 := by decide +kernel
theorem gc_12_204_12 : gc_c 12 204 12 = some (1, 183) := by decide +kernel
theorem gn_12_204 : gc_n 12 204 = 3 := by decide +kernel
theorem gc_12_207_97 : gc_c 12 207 97 = some (0, 145) := by decide +kernel
theorem gn_12_207 : gc_n 12 207 = 1 := by decide +kernel
theorem gne_12_207 : gc_ne 12 207 = none := by decide +kernel
theorem gc_12_212_12 : gc_c 12 212 12 = some (1, 149) := by decide +kernel
theorem gn_12_212 : gc_n 12 212 = 2 := by decide +kernel
theorem gc_12_223_97 : gc_c 12 223 97 = some (0, 191) := by decide +kernel
theorem gn_12_223 : gc_n 12 223 = 1 := by decide +kernel
theorem gne_12_223 : gc_ne 12 223 = none := by decide +kernel
theorem gc_12_228_97 : gc_c 12 228 97 = some (0, 148) := by decide +kernel
theorem gn_12_228 : gc_n 12 228 = 1 := by decide +kernel
theorem gne_12_228 : gc_ne 12 228 = none := by decide +kernel
theorem gc_12_233_12 : gc_c 12 233 12 = some (1, 197) := by decide +kernel
theorem gn_12_233 : gc_n 12 233 = 1 := by decide +kernel
theorem gc_12_236_12 : gc_c 12 236 12 = some (1, 182) := by decide +kernel
theorem gn_12_236 : gc_n 12 236 = 1 := by decide +kernel
theorem gc_12_239_12 : gc_c 12 239 12 = some (1, 184) := by decide +kernel
theorem gn_12_239 : gc_n 12 239 = 0 := by decide +kernel
theorem gc_12_245_12 : gc_c 12 245 12 = some (1, 199) := by decide +kernel
theorem gn_12_245 : gc_n 12 245 = 0 := by decide +kernel
theorem gc_12_248_97 : gc_c 12 248 97 = some (0, 202) := by decide +kernel
theorem gn_12_248 : gc_n 12 248 = 1 := by decide +kernel
theorem gne_12_248 : gc_ne 12 248 = none := by decide +kernel
theorem gc_12_251_12 : gc_c 12 251 12 = some (1, 151) := by decide +kernel
theorem gn_12_251 : gc_n 12 251 = 0 := by decide +kernel
theorem gc_12_254_12 : gc_c 12 254 12 = some (1, 152) := by decide +kernel
theorem gn_12_254 : gc_n 12 254 = 0 := by decide +kernel
theorem gc_12_259_12 : gc_c 12 259 12 = some (1, 185) := by decide +kernel
theorem gn_12_259 : gc_n 12 259 = 0 := by decide +kernel
theorem gc_12_262_97 : gc_c 12 262 97 = some (0, 150) := by decide +kernel
theorem gn_12_262 : gc_n 12 262 = 1 := by decide +kernel
theorem gne_12_262 : gc_ne 12 262 = none := by decide +kernel
theorem gc_12_265_12 : gc_c 12 265 12 = some (1, 205) := by decide +kernel
theorem gn_12_265 : gc_n 12 265 = 2 := by decide +kernel
theorem gc_12_269_12 : gc_c 12 269 12 = some (1, 208) := by decide +kernel
theorem gn_12_269 : gc_n 12 269 = 1 := by decide +kernel
theorem gc_12_272_12 : gc_c 12 272 12 = some (1, 209) := by decide +kernel
theorem gn_12_272 : gc_n 12 272 = 3 := by decide +kernel
theorem gc_12_275_97 : gc_c 12 275 97 = some (0, 214) := by decide +kernel
theorem gn_12_275 : gc_n 12 275 = 1 := by decide +kernel
theorem gne_12_275 : gc_ne 12 275 = none := by decide +kernel
theorem gc_12_278_12 : gc_c 12 278 12 = some (1, 215) := by decide +kernel
theorem gn_12_278 : gc_n 12 278 = 3 := by decide +kernel
theorem gc_12_281_97 : gc_c 12 281 97 = some (0, 213) := by decide +kernel
theorem gn_12_281 : gc_n 12 281 = 1 := by decide +kernel
theorem gne_12_281 : gc_ne 12 281 = none := by decide +kernel
theorem gc_12_284_12 : gc_c 12 284 12 = some (1, 216) := by decide +kernel
theorem gn_12_284 : gc_n 12 284 = 1 := by decide +kernel
theorem gc_12_287_12 : gc_c 12 287 12 = some (1, 219) := by decide +kernel
theorem gn_12_287 : gc_n 12 287 = 2 := by decide +kernel
theorem gc_12_292_12 : gc_c 12 292 12 = some (1, 186) := by decide +kernel
theorem gn_12_292 : gc_n 12 292 = 0 := by decide +kernel
theorem gc_12_295_12 : gc_c 12 295 12 = some (1, 221) := by decide +kernel
theorem gn_12_295 : gc_n 12 295 = 0 := by decide +kernel
theorem gc_12_298_12 : gc_c 12 298 12 = some (1, 220) := by decide +kernel
theorem gn_12_298 : gc_n 12 298 = 1 := by decide +kernel
theorem gc_12_301_12 : gc_c 12 301 12 = some (1, 225) := by decide +kernel
theorem gn_12_301 : gc_n 12 301 = 2 := by decide +kernel
theorem gc_12_304_97 : gc_c 12 304 97 = some (0, 228) := by decide +kernel
theorem gn_12_304 : gc_n 12 304 = 1 := by decide +kernel
theorem gne_12_304 : gc_ne 12 304 = none := by decide +kernel
theorem gc_12_307_12 : gc_c 12 307 12 = some (1, 227) := by decide +kernel
theorem gn_12_307 : gc_n 12 307 = 1 := by decide +kernel
theorem gc_12_314_97 : gc_c 12 314 97 = some (0, 231) := by decide +kernel
theorem gn_12_314 : gc_n 12 314 = 2 := by decide +kernel
theorem gne_12_314 : gc_ne 12 314 = none := by decide +kernel
theorem gc_12_320_12 : gc_c 12 320 12 = some (1, 233) := by decide +kernel
theorem gn_12_320 : gc_n 12 320 = 1 := by decide +kernel
theorem gc_12_326_12 : gc_c 12 326 12 = some (1, 234) := by decide +kernel
theorem gn_12_326 : gc_n 12 326 = 2 := by decide +kernel
theorem gc_12_329_12 : gc_c 12 329 12 = some (1, 236) := by decide +kernel
theorem gn_12_329 : gc_n 12 329 = 2 := by decide +kernel
theorem gc_12_332_12 : gc_c 12 332 12 = some (1, 235) := by decide +kernel
theorem gn_12_332 : gc_n 12 332 = 2 := by decide +kernel
theorem gc_12_335_12 : gc_c 12 335 12 = some (1, 237) := by decide +kernel
theorem gn_12_335 : gc_n 12 335 = 2 := by decide +kernel
theorem gc_12_341_12 : gc_c 12 341 12 = some (1, 223) := by decide +kernel
theorem gn_12_341 : gc_n 12 341 = 0 := by decide +kernel
theorem gc_15_335_15 : gc_c 15 335 15 = some (1, 53) := by decide +kernel
theorem gn_15_335 : gc_n 15 335 = 0 := by decide +kernel
theorem gc_15_492_15 : gc_c 15 492 15 = some (1, 52) := by decide +kernel
theorem gn_15_492 : gc_n 15 492 = 0 := by decide +kernel
theorem gc_15_505_15 : gc_c 15 505 15 = some (1, 251) := by decide +kernel
theorem gn_15_505 : gc_n 15 505 = 0 := by decide +kernel
theorem gc_15_633_15 : gc_c 15 633 15 = some (1, 57) := by decide +kernel
theorem gn_15_633 : gc_n 15 633 = 2 := by decide +kernel
theorem gc_15_637_97 : gc_c 15 637 97 = some (0, 56) := by decide +kernel
theorem gn_15_637 : gc_n 15 637 = 4 := by decide +kernel
theorem gne_15_637 : gc_ne 15 637 = none := by decide +kernel
theorem gc_16_88_97 : gc_c 16 88 97 = some (0, 54) := by decide +kernel
theorem gn_16_88 : gc_n 16 88 = 1 := by decide +kernel
theorem gne_16_88 : gc_ne 16 88 = none := by decide +kernel
theorem gc_16_95_97 : gc_c 16 95 97 = some (0, 55) := by decide +kernel
theorem gn_16_95 : gc_n 16 95 = 4 := by decide +kernel
theorem gne_16_95 : gc_ne 16 95 = none := by decide +kernel
theorem gm_0 : gc_m 0 = (yX0_takes, cX0_takes, 2, none, 0, 2) := rfl
theorem gm_1 : gc_m 1 = (yX7_takes, cX7_takes, 2, none, 7, 2) := rfl
theorem gm_2 : gc_m 2 = (yX0_takesAll, cX0_takesAll, 2, none, 0, 2) := rfl
theorem gm_3 : gc_m 3 = (yX0_kindOf, cX0_kindOf, 2, (some (.object "GreatCambric$Mourner")), 0, 3) := rfl
theorem gm_4 : gc_m 4 = (yX0_whole, cX0_whole, 1, (some .int), 0, 0) := rfl
theorem gm_5 : gc_m 5 = (yX0_wetCells, cX0_wetCells, 3, (some .int), 0, 0) := rfl
theorem gm_6 : gc_m 6 = (yX0_tornOrDry, cX0_tornOrDry, 1, (some .int), 0, 0) := rfl
theorem gm_7 : gc_m 7 = (yX0_thoseAt, cX0_thoseAt, 4, (some .int), 0, 0) := rfl
theorem gm_8 : gc_m 8 = (yX0_wetOfAll, cX0_wetOfAll, 3, (some .int), 0, 0) := rfl
theorem gm_9 : gc_m 9 = (yX0_sorrowOfAll, cX0_sorrowOfAll, 3, (some .int), 0, 0) := rfl
theorem gm_10 : gc_m 10 = (yX2_joined, cX2_joined, 3, (some .int), 2, 0) := rfl
theorem gm_11 : gc_m 11 = (yX2_workedOut, cX2_workedOut, 7, (some .int), 2, 0) := rfl
theorem gm_12 : gc_m 12 = (yX11_held, cX11_held, 1, (some .int), 11, 0) := rfl
theorem gm_13 : gc_m 13 = (yX0_given, cX0_given, 6, (some .int), 0, 0) := rfl
theorem gm_14 : gc_m 14 = (yX5_weeps, cX5_weeps, 3, (some .int), 5, 0) := rfl
theorem gm_15 : gc_m 15 = (yX3_weeps, cX3_weeps, 3, (some .int), 3, 0) := rfl
theorem gm_16 : gc_m 16 = (yX1_weeps, cX1_weeps, 3, (some .int), 1, 0) := rfl
theorem gm_17 : gc_m 17 = (yX8_weeps, cX8_weeps, 3, (some .int), 8, 0) := rfl
theorem gm_18 : gc_m 18 = (yX4_weeps, cX4_weeps, 3, (some .int), 4, 0) := rfl
theorem gm_19 : gc_m 19 = (yX10_weeps, cX10_weeps, 3, (some .int), 10, 0) := rfl
theorem gm_20 : gc_m 20 = (yX6_weeps, cX6_weeps, 3, (some .int), 6, 0) := rfl
theorem gm_21 : gc_m 21 = (yX0_weptBy, cX0_weptBy, 3, (some .int), 0, 0) := rfl
theorem gm_22 : gc_m 22 = (yX1_eases, cX1_eases, 3, (some .int), 1, 0) := rfl
theorem gm_23 : gc_m 23 = (yX5_eases, cX5_eases, 3, (some .int), 5, 0) := rfl
theorem gm_24 : gc_m 24 = (yX8_eases, cX8_eases, 3, (some .int), 8, 0) := rfl
theorem gm_25 : gc_m 25 = (yX6_eases, cX6_eases, 3, (some .int), 6, 0) := rfl
theorem gm_26 : gc_m 26 = (yX0_seepBetween, cX0_seepBetween, 4, none, 0, 2) := rfl
theorem gm_27 : gc_m 27 = (yX0_seep, cX0_seep, 2, none, 0, 2) := rfl
theorem gm_28 : gc_m 28 = (yX11_spread, cX11_spread, 3, (some .int), 11, 0) := rfl
theorem gm_29 : gc_m 29 = (yX11_beside, cX11_beside, 2, (some .int), 11, 0) := rfl
theorem gm_30 : gc_m 30 = (yJ6_bitCount_0f7a4, cJ6_bitCount_0f7a4, 1, (some .int), 13, 0) := rfl
theorem gm_31 : gc_m 31 = (yX0_dryOut, cX0_dryOut, 4, none, 0, 2) := rfl
theorem gm_32 : gc_m 32 = (yX3_grieves, cX3_grieves, 3, (some .int), 3, 0) := rfl
theorem gm_33 : gc_m 33 = (yX5_grieves, cX5_grieves, 3, (some .int), 5, 0) := rfl
theorem gm_34 : gc_m 34 = (yX4_grieves, cX4_grieves, 3, (some .int), 4, 0) := rfl
theorem gm_35 : gc_m 35 = (yX10_grieves, cX10_grieves, 3, (some .int), 10, 0) := rfl
theorem gm_36 : gc_m 36 = (yX6_grieves, cX6_grieves, 3, (some .int), 6, 0) := rfl
theorem gm_37 : gc_m 37 = (yX0_grieve, cX0_grieve, 2, none, 0, 2) := rfl
theorem gm_38 : gc_m 38 = (yX0_passYear, cX0_passYear, 4, none, 0, 2) := rfl
theorem gm_39 : gc_m 39 = (yX0_drawn, cX0_drawn, 1, (some .int), 0, 0) := rfl
theorem gm_40 : gc_m 40 = (yX0_drawWhoAndWhere, cX0_drawWhoAndWhere, 3, none, 0, 2) := rfl
theorem gm_41 : gc_m 41 = (yX7_add, cX7_add, 2, none, 7, 2) := rfl
theorem gm_42 : gc_m 42 = (yX5_folds, cX5_folds, 3, (some .int), 5, 0) := rfl
theorem gm_43 : gc_m 43 = (yX3_folds, cX3_folds, 3, (some .int), 3, 0) := rfl
theorem gm_44 : gc_m 44 = (yX1_folds, cX1_folds, 3, (some .int), 1, 0) := rfl
theorem gm_45 : gc_m 45 = (yX5_sighs, cX5_sighs, 3, (some .int), 5, 0) := rfl
theorem gm_46 : gc_m 46 = (yX10_sighs, cX10_sighs, 3, (some .int), 10, 0) := rfl
theorem gm_47 : gc_m 47 = (yX5_blows, cX5_blows, 3, (some .int), 5, 0) := rfl
theorem gm_48 : gc_m 48 = (yX1_tells, cX1_tells, 3, (some .int), 1, 0) := rfl
theorem gm_49 : gc_m 49 = (yX2_ahead, cX2_ahead, 1, (some .int), 2, 0) := rfl
theorem gm_50 : gc_m 50 = (yX2_pass, cX2_pass, 1, none, 2, 2) := rfl
theorem gm_51 : gc_m 51 = (yX2_readNumber, cX2_readNumber, 3, none, 2, 2) := rfl
theorem gm_52 : gc_m 52 = (yJ0_isLatin1_aae02, cJ0_isLatin1_aae02, 1, (some .boolean), 15, 1) := rfl
theorem gm_53 : gc_m 53 = (yJ0_coder_7d493, cJ0_coder_7d493, 1, (some .byte), 15, 1) := rfl
theorem gm_54 : gc_m 54 = (yJ1_canEncode_9a6ad, cJ1_canEncode_9a6ad, 1, (some .boolean), 16, 1) := rfl
theorem gm_55 : gc_m 55 = (yJ1_indexOfChar_4cfef, cJ1_indexOfChar_4cfef, 6, (some .int), 16, 0) := rfl
theorem gm_56 : gc_m 56 = (yJ1_indexOf_4cfef, cJ1_indexOf_4cfef, 4, (some .int), 16, 0) := rfl
theorem gm_57 : gc_m 57 = (yJ0_indexOf_7cf53, cJ0_indexOf_7cf53, 3, (some .int), 15, 0) := rfl
theorem gm_58 : gc_m 58 = (yJ0_indexOf_0f7a4, cJ0_indexOf_0f7a4, 2, (some .int), 15, 0) := rfl
theorem gm_59 : gc_m 59 = (yX2_readAll, cX2_readAll, 4, (some .boolean), 2, 1) := rfl
theorem gm_60 : gc_m 60 = (yX2_readCompared, cX2_readCompared, 4, (some .boolean), 2, 1) := rfl
theorem gm_61 : gc_m 61 = (yX2_readLeast, cX2_readLeast, 4, (some .boolean), 2, 1) := rfl
theorem gm_62 : gc_m 62 = (yX2_readProduct, cX2_readProduct, 5, (some .boolean), 2, 1) := rfl
theorem gm_63 : gc_m 63 = (yX2_readSum, cX2_readSum, 5, (some .boolean), 2, 1) := rfl
theorem gm_64 : gc_m 64 = (yX2_readText, cX2_readText, 4, (some .boolean), 2, 1) := rfl
theorem gm_65 : gc_m 65 = (yX2_read, cX2_read, 3, (some .int), 2, 0) := rfl
theorem gm_66 : gc_m 66 = (yX8_blows, cX8_blows, 3, (some .int), 8, 0) := rfl
theorem gm_67 : gc_m 67 = (yX4_blows, cX4_blows, 3, (some .int), 4, 0) := rfl
theorem gm_68 : gc_m 68 = (yX5_tells, cX5_tells, 3, (some .int), 5, 0) := rfl
theorem gm_69 : gc_m 69 = (yX6_tells, cX6_tells, 3, (some .int), 6, 0) := rfl
theorem gm_70 : gc_m 70 = (yX7_has, cX7_has, 2, (some .boolean), 7, 1) := rfl
theorem gm_71 : gc_m 71 = (yX7_holds, cX7_holds, 3, (some .boolean), 7, 1) := rfl
theorem gm_72 : gc_m 72 = (yX7_startAnew, cX7_startAnew, 4, none, 7, 2) := rfl
theorem gm_73 : gc_m 73 = (yX11_upTo, cX11_upTo, 2, (some .boolean), 11, 1) := rfl
theorem gm_74 : gc_m 74 = (yX11_isCell, cX11_isCell, 1, (some .boolean), 11, 1) := rfl
theorem gm_75 : gc_m 75 = (yX11_refused, cX11_refused, 2, (some .int), 11, 0) := rfl
theorem gm_76 : gc_m 76 = (yX11_cell, cX11_cell, 5, (some .int), 11, 0) := rfl
theorem gm_77 : gc_m 77 = (yX11_ofCell, cX11_ofCell, 3, (some .int), 11, 0) := rfl
theorem gm_78 : gc_m 78 = (yX11_list, cX11_list, 4, (some .int), 11, 0) := rfl
theorem gm_79 : gc_m 79 = (yX11_ofList, cX11_ofList, 2, (some .int), 11, 0) := rfl
theorem gm_80 : gc_m 80 = (yX11_isKindAndNumber, cX11_isKindAndNumber, 1, (some .boolean), 11, 1) := rfl
theorem gm_81 : gc_m 81 = (yX11_mourner, cX11_mourner, 5, (some .int), 11, 0) := rfl
theorem gm_82 : gc_m 82 = (yX11_isMourner, cX11_isMourner, 2, (some .boolean), 11, 1) := rfl
theorem gm_83 : gc_m 83 = (yX11_ofMourner, cX11_ofMourner, 4, (some .int), 11, 0) := rfl
theorem gm_84 : gc_m 84 = (yX11_change, cX11_change, 6, (some .int), 11, 0) := rfl
theorem gm_85 : gc_m 85 = (yX11_become, cX11_become, 4, (some .int), 11, 0) := rfl
theorem gm_86 : gc_m 86 = (yX11_isUnder, cX11_isUnder, 4, (some .boolean), 11, 1) := rfl
theorem gm_87 : gc_m 87 = (yX11_as, cX11_as, 3, (some .int), 11, 0) := rfl
theorem gm_88 : gc_m 88 = (yX11_feed, cX11_feed, 5, (some .int), 11, 0) := rfl
theorem gm_89 : gc_m 89 = (yX11_isUse, cX11_isUse, 1, (some .boolean), 11, 1) := rfl
theorem gm_90 : gc_m 90 = (yX11_text, cX11_text, 3, (some .int), 11, 0) := rfl
theorem gm_91 : gc_m 91 = (yX11_law, cX11_law, 5, (some .int), 11, 0) := rfl
theorem gm_92 : gc_m 92 = (yX11_years, cX11_years, 3, (some .int), 11, 0) := rfl
theorem gm_93 : gc_m 93 = (yX11_loose, cX11_loose, 3, (some .int), 11, 0) := rfl
theorem gm_94 : gc_m 94 = (yX11_thinkBehind, cX11_thinkBehind, 3, none, 11, 2) := rfl
theorem gm_95 : gc_m 95 = (yX11_then, cX11_then, 3, (some .int), 11, 0) := rfl
theorem gm_96 : gc_m 96 = (yX11_all, cX11_all, 3, (some .int), 11, 0) := rfl
theorem gm_97 : gc_m 97 = (yX11_firstBehind, cX11_firstBehind, 5, (some .int), 11, 0) := rfl
theorem gm_98 : gc_m 98 = (yX11_dry, cX11_dry, 2, (some .int), 11, 0) := rfl
theorem gm_99 : gc_m 99 = (yX11_eased, cX11_eased, 3, (some .int), 11, 0) := rfl
theorem gm_100 : gc_m 100 = (yX11_suppose, cX11_suppose, 4, none, 11, 2) := rfl
theorem gm_101 : gc_m 101 = (yX11_leastWetting, cX11_leastWetting, 9, (some .int), 11, 0) := rfl
theorem gm_102 : gc_m 102 = (yX11_cellFor, cX11_cellFor, 3, (some .int), 11, 0) := rfl
theorem gm_103 : gc_m 103 = (yX11_comesFor, cX11_comesFor, 3, (some .int), 11, 0) := rfl
theorem gm_104 : gc_m 104 = (yX11_kindFor, cX11_kindFor, 3, (some .int), 11, 0) := rfl
theorem gm_105 : gc_m 105 = (yX11_firstUnit, cX11_firstUnit, 2, (some .int), 11, 0) := rfl
theorem gm_106 : gc_m 106 = (yX11_pileAndLayer, cX11_pileAndLayer, 15, (some .int), 11, 0) := rfl
theorem gm_107 : gc_m 107 = (yX11_folded, cX11_folded, 5, (some .int), 11, 0) := rfl
theorem gm_108 : gc_m 108 = (yX11_topFor, cX11_topFor, 5, (some .int), 11, 0) := rfl
theorem gm_109 : gc_m 109 = (yX11_route, cX11_route, 5, (some .int), 11, 0) := rfl
theorem gm_110 : gc_m 110 = (yX11_partOfLeast, cX11_partOfLeast, 4, (some .int), 11, 0) := rfl
theorem gm_111 : gc_m 111 = (yX11_partsOf, cX11_partsOf, 4, (some .int), 11, 0) := rfl
theorem gm_112 : gc_m 112 = (yX11_parts, cX11_parts, 1, (some .int), 11, 0) := rfl
theorem gm_113 : gc_m 113 = (yX11_isOnePartAtMost, cX11_isOnePartAtMost, 1, (some .boolean), 11, 1) := rfl
theorem gm_114 : gc_m 114 = (yX11_mends, cX11_mends, 6, (some .int), 11, 0) := rfl
theorem gm_115 : gc_m 115 = (yX11_rank, cX11_rank, 2, (some .int), 11, 0) := rfl
theorem gm_116 : gc_m 116 = (yX11_listDryings, cX11_listDryings, 6, none, 11, 2) := rfl
theorem gm_117 : gc_m 117 = (yX11_leastToWinRanked, cX11_leastToWinRanked, 5, (some .int), 11, 0) := rfl
theorem gm_118 : gc_m 118 = (yX11_unranked, cX11_unranked, 4, (some .int), 11, 0) := rfl
theorem gm_119 : gc_m 119 = (yX11_leastToWin, cX11_leastToWin, 5, (some .int), 11, 0) := rfl
theorem gm_120 : gc_m 120 = (yX11_game, cX11_game, 4, (some .int), 11, 0) := rfl
theorem gm_121 : gc_m 121 = (yX11_isSheet, cX11_isSheet, 1, (some .boolean), 11, 1) := rfl
theorem gm_122 : gc_m 122 = (yX11_firstUntrue, cX11_firstUntrue, 3, (some .int), 11, 0) := rfl
theorem gm_123 : gc_m 123 = (yX11_which, cX11_which, 5, (some .int), 11, 0) := rfl
theorem gm_124 : gc_m 124 = (yX11_sorry, cX11_sorry, 6, (some .int), 11, 0) := rfl
theorem gm_125 : gc_m 125 = (yX11_odds, cX11_odds, 7, (some .int), 11, 0) := rfl
theorem gm_126 : gc_m 126 = (yX11_seed, cX11_seed, 3, (some .int), 11, 0) := rfl
theorem gm_127 : gc_m 127 = (yX11_voice, cX11_voice, 5, (some .int), 11, 0) := rfl
theorem gm_128 : gc_m 128 = (yX11_trace, cX11_trace, 2, (some .int), 11, 0) := rfl
theorem gm_129 : gc_m 129 = (yX11_sheet, cX11_sheet, 4, (some .int), 11, 0) := rfl
theorem gm_130 : gc_m 130 = (yX11_lowestBits, cX11_lowestBits, 2, (some .int), 11, 0) := rfl
theorem gm_131 : gc_m 131 = (yX11_put, cX11_put, 5, (some .int), 11, 0) := rfl
theorem gm_132 : gc_m 132 = (yX11_move, cX11_move, 8, (some .int), 11, 0) := rfl
theorem gm_133 : gc_m 133 = (yX11_wets, cX11_wets, 5, (some .int), 11, 0) := rfl
theorem gm_134 : gc_m 134 = (yX11_judge, cX11_judge, 5, (some .int), 11, 0) := rfl
theorem gm_135 : gc_m 135 = (yX11_image, cX11_image, 1, (some .int), 11, 0) := rfl
theorem gm_136 : gc_m 136 = (yX11_restore, cX11_restore, 1, (some .int), 11, 0) := rfl
theorem gm_137 : gc_m 137 = (yX11_tell, cX11_tell, 2, (some .int), 11, 0) := rfl
theorem gm_138 : gc_m 138 = (yX11_check, cX11_check, 2, (some .int), 11, 0) := rfl
theorem gm_139 : gc_m 139 = (yX11_count, cX11_count, 2, (some .int), 11, 0) := rfl
theorem gm_140 : gc_m 140 = (yX11_told, cX11_told, 2, (some .int), 11, 0) := rfl
theorem gm_141 : gc_m 141 = (yX12_finds, cX12_finds, 2, (some .int), 12, 0) := rfl
theorem gm_142 : gc_m 142 = (yX12_in, cX12_in, 6, (some .boolean), 12, 1) := rfl
theorem gm_143 : gc_m 143 = (yX12_held, cX12_held, 3, (some .int), 12, 0) := rfl
theorem gm_144 : gc_m 144 = (yX12_isMourner, cX12_isMourner, 2, (some .boolean), 12, 1) := rfl
theorem gm_145 : gc_m 145 = (yX12_isCell, cX12_isCell, 1, (some .boolean), 12, 1) := rfl
theorem gm_146 : gc_m 146 = (yX12_of, cX12_of, 3, (some .int), 12, 0) := rfl
theorem gm_147 : gc_m 147 = (yX12_sets, cX12_sets, 4, none, 12, 2) := rfl
theorem gm_148 : gc_m 148 = (yX12_above, cX12_above, 1, (some .int), 12, 0) := rfl
theorem gm_149 : gc_m 149 = (yX12_becomes, cX12_becomes, 4, (some .int), 12, 0) := rfl
theorem gm_150 : gc_m 150 = (yX12_ones, cX12_ones, 3, (some .int), 12, 0) := rfl
theorem gm_151 : gc_m 151 = (yX12_keepAside, cX12_keepAside, 2, none, 12, 2) := rfl
theorem gm_152 : gc_m 152 = (yX12_putBack, cX12_putBack, 2, none, 12, 2) := rfl
theorem gm_153 : gc_m 153 = (yX12_here, cX12_here, 1, (some .int), 12, 0) := rfl
theorem gm_154 : gc_m 154 = (yX12_wrong, cX12_wrong, 1, none, 12, 2) := rfl
theorem gm_155 : gc_m 155 = (yX12_takes, cX12_takes, 2, (some .boolean), 12, 1) := rfl
theorem gm_156 : gc_m 156 = (yX12_nameOf, cX12_nameOf, 2, (some .int), 12, 0) := rfl
theorem gm_157 : gc_m 157 = (yX12_lay, cX12_lay, 2, none, 12, 2) := rfl
theorem gm_158 : gc_m 158 = (yX12_both, cX12_both, 1, none, 12, 2) := rfl
theorem gm_159 : gc_m 159 = (yX12_compared, cX12_compared, 2, none, 12, 2) := rfl
theorem gm_160 : gc_m 160 = (yX12_either, cX12_either, 1, none, 12, 2) := rfl
theorem gm_161 : gc_m 161 = (yX12_opens, cX12_opens, 2, none, 12, 2) := rfl
theorem gm_162 : gc_m 162 = (yX12_product, cX12_product, 2, none, 12, 2) := rfl
theorem gm_163 : gc_m 163 = (yX12_sum, cX12_sum, 2, none, 12, 2) := rfl
theorem gm_164 : gc_m 164 = (yX12_unit, cX12_unit, 5, none, 12, 2) := rfl
theorem gm_165 : gc_m 165 = (yX12_reads, cX12_reads, 4, none, 12, 2) := rfl
theorem gm_166 : gc_m 166 = (yX12_done, cX12_done, 3, (some .int), 12, 0) := rfl
theorem gm_167 : gc_m 167 = (yX12_worked, cX12_worked, 6, (some .int), 12, 0) := rfl
theorem gm_168 : gc_m 168 = (yX12_feed, cX12_feed, 5, (some .int), 12, 0) := rfl
theorem gm_169 : gc_m 169 = (yX12_text, cX12_text, 4, (some .int), 12, 0) := rfl
theorem gm_170 : gc_m 170 = (yX12_textGives, cX12_textGives, 6, (some .int), 12, 0) := rfl
theorem gm_171 : gc_m 171 = (yX12_law, cX12_law, 5, (some .int), 12, 0) := rfl
theorem gm_172 : gc_m 172 = (yX12_isBeside, cX12_isBeside, 4, (some .boolean), 12, 1) := rfl
theorem gm_173 : gc_m 173 = (yX12_bare, cX12_bare, 4, (some .int), 12, 0) := rfl
theorem gm_174 : gc_m 174 = (yX12_weeps, cX12_weeps, 7, (some .int), 12, 0) := rfl
theorem gm_175 : gc_m 175 = (yX12_wept, cX12_wept, 2, (some .int), 12, 0) := rfl
theorem gm_176 : gc_m 176 = (yX12_eases, cX12_eases, 3, (some .int), 12, 0) := rfl
theorem gm_177 : gc_m 177 = (yX12_grieves, cX12_grieves, 2, (some .int), 12, 0) := rfl
theorem gm_178 : gc_m 178 = (yX12_weepsNow, cX12_weepsNow, 4, none, 12, 2) := rfl
theorem gm_179 : gc_m 179 = (yX12_seeps, cX12_seeps, 4, none, 12, 2) := rfl
theorem gm_180 : gc_m 180 = (yX12_dries, cX12_dries, 2, none, 12, 2) := rfl
theorem gm_181 : gc_m 181 = (yX12_yearGoes, cX12_yearGoes, 3, none, 12, 2) := rfl
theorem gm_182 : gc_m 182 = (yX12_yearsGo, cX12_yearsGo, 3, none, 12, 2) := rfl
theorem gm_183 : gc_m 183 = (yX12_sumOf, cX12_sumOf, 6, (some .int), 12, 0) := rfl
theorem gm_184 : gc_m 184 = (yX12_allWet, cX12_allWet, 1, (some .int), 12, 0) := rfl
theorem gm_185 : gc_m 185 = (yX12_wetCells, cX12_wetCells, 3, (some .int), 12, 0) := rfl
theorem gm_186 : gc_m 186 = (yX12_tornCells, cX12_tornCells, 3, (some .int), 12, 0) := rfl
theorem gm_187 : gc_m 187 = (yX12_cell, cX12_cell, 4, (some .int), 12, 0) := rfl
theorem gm_188 : gc_m 188 = (yX12_ofCell, cX12_ofCell, 5, (some .int), 12, 0) := rfl
theorem gm_189 : gc_m 189 = (yX12_list, cX12_list, 3, (some .int), 12, 0) := rfl
theorem gm_190 : gc_m 190 = (yX12_ofList, cX12_ofList, 2, (some .int), 12, 0) := rfl
theorem gm_191 : gc_m 191 = (yX12_isKm, cX12_isKm, 1, (some .boolean), 12, 1) := rfl
theorem gm_192 : gc_m 192 = (yX12_mourner, cX12_mourner, 5, (some .int), 12, 0) := rfl
theorem gm_193 : gc_m 193 = (yX12_ofMourner, cX12_ofMourner, 3, (some .int), 12, 0) := rfl
theorem gm_194 : gc_m 194 = (yX12_change, cX12_change, 4, (some .int), 12, 0) := rfl
theorem gm_195 : gc_m 195 = (yX12_become, cX12_become, 3, (some .int), 12, 0) := rfl
theorem gm_196 : gc_m 196 = (yX12_as, cX12_as, 4, (some .int), 12, 0) := rfl
theorem gm_197 : gc_m 197 = (yX12_isLate, cX12_isLate, 2, (some .boolean), 12, 1) := rfl
theorem gm_198 : gc_m 198 = (yX12_years, cX12_years, 2, (some .int), 12, 0) := rfl
theorem gm_199 : gc_m 199 = (yX12_draw, cX12_draw, 1, (some .int), 12, 0) := rfl
theorem gm_200 : gc_m 200 = (yX12_loose, cX12_loose, 5, (some .int), 12, 0) := rfl
theorem gm_201 : gc_m 201 = (yX12_seed, cX12_seed, 2, (some .int), 12, 0) := rfl
theorem gm_202 : gc_m 202 = (yX12_isAhead, cX12_isAhead, 1, (some .boolean), 12, 1) := rfl
theorem gm_203 : gc_m 203 = (yX12_then, cX12_then, 4, (some .int), 12, 0) := rfl
theorem gm_204 : gc_m 204 = (yX12_all, cX12_all, 4, (some .int), 12, 0) := rfl
theorem gm_205 : gc_m 205 = (yX12_firstLow, cX12_firstLow, 5, (some .int), 12, 0) := rfl
theorem gm_206 : gc_m 206 = (yX12_dry, cX12_dry, 2, (some .int), 12, 0) := rfl
theorem gm_207 : gc_m 207 = (yX12_eased, cX12_eased, 3, (some .int), 12, 0) := rfl
theorem gm_208 : gc_m 208 = (yX12_wetBehind, cX12_wetBehind, 3, (some .int), 12, 0) := rfl
theorem gm_209 : gc_m 209 = (yX12_bestOf, cX12_bestOf, 8, (some .int), 12, 0) := rfl
theorem gm_210 : gc_m 210 = (yX12_cellFor, cX12_cellFor, 3, (some .int), 12, 0) := rfl
theorem gm_211 : gc_m 211 = (yX12_comesFor, cX12_comesFor, 3, (some .int), 12, 0) := rfl
theorem gm_212 : gc_m 212 = (yX12_kindFor, cX12_kindFor, 3, (some .int), 12, 0) := rfl
theorem gm_213 : gc_m 213 = (yX12_isFolding, cX12_isFolding, 5, (some .boolean), 12, 1) := rfl
theorem gm_214 : gc_m 214 = (yX12_digits, cX12_digits, 3, (some .int), 12, 0) := rfl
theorem gm_215 : gc_m 215 = (yX12_folds, cX12_folds, 11, none, 12, 2) := rfl
theorem gm_216 : gc_m 216 = (yX12_foldsAll, cX12_foldsAll, 7, none, 12, 2) := rfl
theorem gm_217 : gc_m 217 = (yX12_folded, cX12_folded, 4, (some .int), 12, 0) := rfl
theorem gm_218 : gc_m 218 = (yX12_topFor, cX12_topFor, 3, (some .int), 12, 0) := rfl
theorem gm_219 : gc_m 219 = (yX12_measures, cX12_measures, 6, none, 12, 2) := rfl
theorem gm_220 : gc_m 220 = (yX12_partsOf, cX12_partsOf, 6, (some .int), 12, 0) := rfl
theorem gm_221 : gc_m 221 = (yX12_whole, cX12_whole, 1, (some .int), 12, 0) := rfl
theorem gm_222 : gc_m 222 = (yX12_route, cX12_route, 3, (some .int), 12, 0) := rfl
theorem gm_223 : gc_m 223 = (yX12_parts, cX12_parts, 1, (some .int), 12, 0) := rfl
theorem gm_224 : gc_m 224 = (yX12_mends, cX12_mends, 4, (some .int), 12, 0) := rfl
theorem gm_225 : gc_m 225 = (yX12_winsBy, cX12_winsBy, 7, (some .int), 12, 0) := rfl
theorem gm_226 : gc_m 226 = (yX12_game, cX12_game, 8, (some .int), 12, 0) := rfl
theorem gm_227 : gc_m 227 = (yX12_isTold, cX12_isTold, 4, (some .boolean), 12, 1) := rfl
theorem gm_228 : gc_m 228 = (yX12_isSheet, cX12_isSheet, 1, (some .boolean), 12, 1) := rfl
theorem gm_229 : gc_m 229 = (yX12_which, cX12_which, 5, (some .int), 12, 0) := rfl
theorem gm_230 : gc_m 230 = (yX12_sorry, cX12_sorry, 8, (some .int), 12, 0) := rfl
theorem gm_231 : gc_m 231 = (yX12_common, cX12_common, 5, (some .int), 12, 0) := rfl
theorem gm_232 : gc_m 232 = (yX12_odds, cX12_odds, 6, (some .int), 12, 0) := rfl
theorem gm_233 : gc_m 233 = (yX12_ran, cX12_ran, 2, none, 12, 2) := rfl
theorem gm_234 : gc_m 234 = (yX12_sighsBy, cX12_sighsBy, 3, (some .int), 12, 0) := rfl
theorem gm_235 : gc_m 235 = (yX12_foldsBy, cX12_foldsBy, 3, (some .int), 12, 0) := rfl
theorem gm_236 : gc_m 236 = (yX12_blowsBy, cX12_blowsBy, 4, (some .int), 12, 0) := rfl
theorem gm_237 : gc_m 237 = (yX12_tellsBy, cX12_tellsBy, 4, (some .int), 12, 0) := rfl
theorem gm_238 : gc_m 238 = (yX12_voice, cX12_voice, 5, (some .int), 12, 0) := rfl
theorem gm_239 : gc_m 239 = (yX12_trace, cX12_trace, 2, (some .int), 12, 0) := rfl
theorem gm_240 : gc_m 240 = (yX12_sheet, cX12_sheet, 5, (some .int), 12, 0) := rfl
theorem gm_241 : gc_m 241 = (yX12_put, cX12_put, 4, (some .int), 12, 0) := rfl
theorem gm_242 : gc_m 242 = (yX12_move, cX12_move, 7, (some .int), 12, 0) := rfl
theorem gm_243 : gc_m 243 = (yX12_wets, cX12_wets, 3, (some .int), 12, 0) := rfl
theorem gm_244 : gc_m 244 = (yX12_judge, cX12_judge, 3, (some .int), 12, 0) := rfl
theorem gm_245 : gc_m 245 = (yX12_image, cX12_image, 2, (some .int), 12, 0) := rfl
theorem gm_246 : gc_m 246 = (yX12_restore, cX12_restore, 2, (some .int), 12, 0) := rfl
theorem gm_247 : gc_m 247 = (yX12_tell, cX12_tell, 2, (some .int), 12, 0) := rfl
theorem gm_248 : gc_m 248 = (yX12_check, cX12_check, 4, (some .int), 12, 0) := rfl
theorem gm_249 : gc_m 249 = (yX12_count, cX12_count, 2, (some .int), 12, 0) := rfl
theorem gm_250 : gc_m 250 = (yX12_told, cX12_told, 2, (some .int), 12, 0) := rfl
theorem gm_251 : gc_m 251 = (yJ0_length_8abf5, cJ0_length_8abf5, 1, (some .int), 15, 0) := rfl
theorem ly_kd : gc_kd 0 = 11 ∧ gc_kd 1 = 22 ∧ gc_kd 2 = 5 ∧ gc_kd 3 = 10 ∧ gc_kd 4 = 8 ∧ gc_kd 5 = 3 ∧ gc_kd 6 = 6 ∧ gc_kd 7 = 4 ∧ gc_kd 8 = 1 ∧ gc_kd 9 = 23 ∧ gc_kd 10 = 23 ∧ gc_kd 11 = 2 ∧ gc_kd 12 = 7 ∧ gc_kd 13 = 20 ∧ gc_kd 14 = 20 ∧ gc_kd 15 = 2 ∧ gc_kd 16 = 7 ∧ gc_kd 17 = 20 ∧ gc_kd 18 = 20 ∧ gc_kd 19 = 2 ∧ gc_kd 20 = 7 ∧ gc_kd 21 = 20 ∧ gc_kd 22 = 20 ∧ gc_kd 23 = 2 ∧ gc_kd 24 = 7 ∧ gc_kd 25 = 20 ∧ gc_kd 26 = 20 ∧ gc_kd 27 = 2 ∧ gc_kd 28 = 7 ∧ gc_kd 29 = 20 ∧ gc_kd 30 = 20 ∧ gc_kd 31 = 0 ∧ gc_kd 32 = 20 ∧ gc_kd 33 = 20 ∧ gc_kd 34 = 20 ∧ gc_kd 35 = 20 ∧ gc_kd 36 = 20 ∧ gc_kd 37 = 20 ∧ gc_kd 38 = 20 ∧ gc_kd 39 = 7 ∧ gc_kd 40 = 20 ∧ gc_kd 41 = 7 ∧ gc_kd 42 = 20 ∧ gc_kd 43 = 0 ∧ gc_kd 44 = 20 ∧ gc_kd 45 = 20 ∧ gc_kd 46 = 20 ∧ gc_kd 47 = 20 ∧ gc_kd 48 = 20 ∧ gc_kd 49 = 20 ∧ gc_kd 50 = 20 ∧ gc_kd 51 = 7 ∧ gc_kd 52 = 20 ∧ gc_kd 53 = 7 ∧ gc_kd 54 = 20 ∧ gc_kd 55 = 0 ∧ gc_kd 56 = 20 ∧ gc_kd 57 = 20 ∧ gc_kd 58 = 20 ∧ gc_kd 59 = 20 ∧ gc_kd 60 = 20 ∧ gc_kd 61 = 20 ∧ gc_kd 62 = 20 ∧ gc_kd 63 = 7 ∧ gc_kd 64 = 20 ∧ gc_kd 65 = 7 ∧ gc_kd 66 = 20 ∧ gc_kd 67 = 24 ∧ gc_kd 68 = 7 ∧ gc_kd 69 = 20 ∧ gc_kd 70 = 7 ∧ gc_kd 71 = 20 ∧ gc_kd 72 = 7 ∧ gc_kd 73 = 20 ∧ gc_kd 74 = 7 ∧ gc_kd 75 = 20 ∧ gc_kd 76 = 9 ∧ gc_kd 77 = 7 ∧ gc_kd 78 = 20 ∧ gc_kd 79 = 20 ∧ gc_kd 80 = 7 ∧ gc_kd 81 = 20 ∧ gc_kd 82 = 21 ∧ gc_kd 83 = 12 ∧ gc_kd 84 = 20 ∧ gc_kd 85 = 20 ∧ gc_kd 86 = 20 ∧ gc_kd 87 = 20 ∧ gc_kd 88 = 20 ∧ gc_kd 89 = 20 ∧ gc_kd 90 = 20 ∧ gc_kd 91 = 20 ∧ gc_kd 92 = 20 ∧ gc_kd 93 = 20 ∧ gc_kd 94 = 20 ∧ gc_kd 95 = 20 ∧ gc_kd 96 = 20 ∧ gc_kd 97 = 20 ∧ gc_kd 98 = 20 ∧ gc_kd 99 = 20 ∧ gc_kd 100 = 20 ∧ gc_kd 101 = 20 ∧ gc_kd 102 = 32 ∧ gc_kd 103 = 32 ∧ gc_kd 104 = 32 ∧ gc_kd 105 = 33 ∧ gc_kd 106 = 33 ∧ gc_kd 107 = 33 ∧ gc_kd 108 = 30 ∧ gc_kd 109 = 31 := ⟨rfl, rfl, rfl, rfl, rfl, rfl, rfl, rfl, rfl, rfl, rfl, rfl, rfl, rfl, rfl, rfl, rfl, rfl, rfl, rfl, rfl, rfl, rfl, rfl, rfl, rfl, rfl, rfl, rfl, rfl, rfl, rfl, rfl, rfl, rfl, rfl, rfl, rfl, rfl, rfl, rfl, rfl, rfl, rfl, rfl, rfl, rfl, rfl, rfl, rfl, rfl, rfl, rfl, rfl, rfl, rfl, rfl, rfl, rfl, rfl, rfl, rfl, rfl, rfl, rfl, rfl, rfl, rfl, rfl, rfl, rfl, rfl, rfl, rfl, rfl, rfl, rfl, rfl, rfl, rfl, rfl, rfl, rfl, rfl, rfl, rfl, rfl, rfl, rfl, rfl, rfl, rfl, rfl, rfl, rfl, rfl, rfl, rfl, rfl, rfl, rfl, rfl, rfl, rfl, rfl, rfl, rfl, rfl, rfl, rfl⟩
theorem ly_al : gc_al 1 = 7 ∧ gc_al 9 = 2 ∧ gc_al 10 = 2 ∧ gc_al 13 = 50 ∧ gc_al 14 = 50 ∧ gc_al 17 = 50 ∧ gc_al 18 = 50 ∧ gc_al 21 = 50 ∧ gc_al 22 = 50 ∧ gc_al 25 = 50 ∧ gc_al 26 = 50 ∧ gc_al 29 = 50 ∧ gc_al 30 = 50 ∧ gc_al 32 = 16 ∧ gc_al 33 = 16 ∧ gc_al 34 = 6 ∧ gc_al 35 = 8 ∧ gc_al 36 = 8 ∧ gc_al 37 = 8 ∧ gc_al 38 = 8 ∧ gc_al 40 = 50 ∧ gc_al 42 = 20 ∧ gc_al 44 = 16 ∧ gc_al 45 = 16 ∧ gc_al 46 = 6 ∧ gc_al 47 = 8 ∧ gc_al 48 = 8 ∧ gc_al 49 = 8 ∧ gc_al 50 = 8 ∧ gc_al 52 = 50 ∧ gc_al 54 = 20 ∧ gc_al 56 = 16 ∧ gc_al 57 = 16 ∧ gc_al 58 = 6 ∧ gc_al 59 = 8 ∧ gc_al 60 = 8 ∧ gc_al 61 = 8 ∧ gc_al 62 = 8 ∧ gc_al 64 = 50 ∧ gc_al 66 = 20 ∧ gc_al 67 = 4 ∧ gc_al 69 = 40 ∧ gc_al 71 = 40 ∧ gc_al 73 = 40 ∧ gc_al 75 = 40 ∧ gc_al 78 = 40 ∧ gc_al 79 = 6 ∧ gc_al 81 = 48 ∧ gc_al 82 = 1024 ∧ gc_al 84 = 247 ∧ gc_al 85 = 247 ∧ gc_al 86 = 75 ∧ gc_al 87 = 6 ∧ gc_al 88 = 3 ∧ gc_al 89 = 60 ∧ gc_al 90 = 60 ∧ gc_al 91 = 16 ∧ gc_al 92 = 16 ∧ gc_al 93 = 16 ∧ gc_al 94 = 16 ∧ gc_al 95 = 10 ∧ gc_al 96 = 1024 ∧ gc_al 97 = 40 ∧ gc_al 98 = 4 ∧ gc_al 99 = 4 ∧ gc_al 100 = 160 ∧ gc_al 101 = 40 ∧ gc_al 105 = 0 ∧ gc_al 106 = 3 ∧ gc_al 107 = 3 ∧ gc_al 108 = 7 := ⟨rfl, rfl, rfl, rfl, rfl, rfl, rfl, rfl, rfl, rfl, rfl, rfl, rfl, rfl, rfl, rfl, rfl, rfl, rfl, rfl, rfl, rfl, rfl, rfl, rfl, rfl, rfl, rfl, rfl, rfl, rfl, rfl, rfl, rfl, rfl, rfl, rfl, rfl, rfl, rfl, rfl, rfl, rfl, rfl, rfl, rfl, rfl, rfl, rfl, rfl, rfl, rfl, rfl, rfl, rfl, rfl, rfl, rfl, rfl, rfl, rfl, rfl, rfl, rfl, rfl, rfl, rfl, rfl, rfl, rfl, rfl⟩
theorem ly_ra {j : Nat} : gc_ra 1 j = 2 + 1 * j ∧ gc_ra 9 j = 11 + 4 * j ∧ gc_ra 10 j = 19 + 4 * j ∧ gc_ra 67 j = 68 + 2 * j := ⟨rfl, rfl, rfl, rfl⟩
theorem ly_fv0 {μ : gM} : gc_fv 0 0 μ = .ref 31 ∧ gc_fv 0 1 μ = .ref 43 ∧ gc_fv 0 2 μ = .ref 55 ∧ gc_fv 0 3 μ = .ref 27 ∧ gc_fv 0 4 μ = .ref 67 ∧ gc_fv 0 5 μ = .ref 76 ∧ gc_fv 0 6 μ = .ref 79 ∧ gc_fv 0 7 μ = .ref 80 ∧ gc_fv 0 8 μ = .ref 82 ∧ gc_fv 0 9 μ = .int (μ 0 9) ∧ gc_fv 11 0 μ = .ref 12 ∧ gc_fv 11 1 μ = .ref 14 ∧ gc_fv 11 2 μ = .ref (μ 11 2).toNatClampNeg ∧ gc_fv 11 3 μ = .ref (μ 11 3).toNatClampNeg ∧ gc_fv 11 4 μ = .int (μ 11 4) ∧ gc_fv 12 0 μ = .ref 13 ∧ gc_fv 12 1 μ = .int (μ 12 1) ∧ gc_fv 12 2 μ = .int (μ 12 2) ∧ gc_fv 15 0 μ = .ref 16 ∧ gc_fv 15 1 μ = .ref 18 ∧ gc_fv 15 2 μ = .ref (μ 15 2).toNatClampNeg ∧ gc_fv 15 3 μ = .ref (μ 15 3).toNatClampNeg ∧ gc_fv 15 4 μ = .int (μ 15 4) ∧ gc_fv 16 0 μ = .ref 17 ∧ gc_fv 16 1 μ = .int (μ 16 1) ∧ gc_fv 16 2 μ = .int (μ 16 2) ∧ gc_fv 19 0 μ = .ref 20 ∧ gc_fv 19 1 μ = .ref 22 ∧ gc_fv 19 2 μ = .ref (μ 19 2).toNatClampNeg ∧ gc_fv 19 3 μ = .ref (μ 19 3).toNatClampNeg ∧ gc_fv 19 4 μ = .int (μ 19 4) ∧ gc_fv 20 0 μ = .ref 21 ∧ gc_fv 20 1 μ = .int (μ 20 1) ∧ gc_fv 20 2 μ = .int (μ 20 2) ∧ gc_fv 23 0 μ = .ref 24 ∧ gc_fv 23 1 μ = .ref 26 ∧ gc_fv 23 2 μ = .ref (μ 23 2).toNatClampNeg ∧ gc_fv 23 3 μ = .ref (μ 23 3).toNatClampNeg ∧ gc_fv 23 4 μ = .int (μ 23 4) ∧ gc_fv 24 0 μ = .ref 25 := ⟨rfl, rfl, rfl, rfl, rfl, rfl, rfl, rfl, rfl, rfl, rfl, rfl, rfl, rfl, rfl, rfl, rfl, rfl, rfl, rfl, rfl, rfl, rfl, rfl, rfl, rfl, rfl, rfl, rfl, rfl, rfl, rfl, rfl, rfl, rfl, rfl, rfl, rfl, rfl, rfl⟩
theorem ly_fv1 {μ : gM} : gc_fv 24 1 μ = .int (μ 24 1) ∧ gc_fv 24 2 μ = .int (μ 24 2) ∧ gc_fv 27 0 μ = .ref 28 ∧ gc_fv 27 1 μ = .ref 30 ∧ gc_fv 27 2 μ = .ref (μ 27 2).toNatClampNeg ∧ gc_fv 27 3 μ = .ref (μ 27 3).toNatClampNeg ∧ gc_fv 27 4 μ = .int (μ 27 4) ∧ gc_fv 28 0 μ = .ref 29 ∧ gc_fv 28 1 μ = .int (μ 28 1) ∧ gc_fv 28 2 μ = .int (μ 28 2) ∧ gc_fv 31 0 μ = .ref 1 ∧ gc_fv 31 1 μ = .ref 9 ∧ gc_fv 31 2 μ = .ref 32 ∧ gc_fv 31 3 μ = .ref 33 ∧ gc_fv 31 4 μ = .ref 34 ∧ gc_fv 31 5 μ = .ref 35 ∧ gc_fv 31 6 μ = .ref 36 ∧ gc_fv 31 7 μ = .ref 37 ∧ gc_fv 31 8 μ = .ref 38 ∧ gc_fv 31 9 μ = .ref 39 ∧ gc_fv 31 10 μ = .ref 41 ∧ gc_fv 31 11 μ = .int (μ 31 11) ∧ gc_fv 31 12 μ = .int (μ 31 12) ∧ gc_fv 31 13 μ = .int (μ 31 13) ∧ gc_fv 31 14 μ = .int (μ 31 14) ∧ gc_fv 39 0 μ = .ref 40 ∧ gc_fv 39 1 μ = .int (μ 39 1) ∧ gc_fv 39 2 μ = .int (μ 39 2) ∧ gc_fv 41 0 μ = .ref 42 ∧ gc_fv 41 1 μ = .int (μ 41 1) ∧ gc_fv 41 2 μ = .int (μ 41 2) ∧ gc_fv 43 0 μ = .ref 1 ∧ gc_fv 43 1 μ = .ref 9 ∧ gc_fv 43 2 μ = .ref 44 ∧ gc_fv 43 3 μ = .ref 45 ∧ gc_fv 43 4 μ = .ref 46 ∧ gc_fv 43 5 μ = .ref 47 ∧ gc_fv 43 6 μ = .ref 48 ∧ gc_fv 43 7 μ = .ref 49 ∧ gc_fv 43 8 μ = .ref 50 := ⟨rfl, rfl, rfl, rfl, rfl, rfl, rfl, rfl, rfl, rfl, rfl, rfl, rfl, rfl, rfl, rfl, rfl, rfl, rfl, rfl, rfl, rfl, rfl, rfl, rfl, rfl, rfl, rfl, rfl, rfl, rfl, rfl, rfl, rfl, rfl, rfl, rfl, rfl, rfl, rfl⟩
theorem ly_fv2 {μ : gM} : gc_fv 43 9 μ = .ref 51 ∧ gc_fv 43 10 μ = .ref 53 ∧ gc_fv 43 11 μ = .int (μ 43 11) ∧ gc_fv 43 12 μ = .int (μ 43 12) ∧ gc_fv 43 13 μ = .int (μ 43 13) ∧ gc_fv 43 14 μ = .int (μ 43 14) ∧ gc_fv 51 0 μ = .ref 52 ∧ gc_fv 51 1 μ = .int (μ 51 1) ∧ gc_fv 51 2 μ = .int (μ 51 2) ∧ gc_fv 53 0 μ = .ref 54 ∧ gc_fv 53 1 μ = .int (μ 53 1) ∧ gc_fv 53 2 μ = .int (μ 53 2) ∧ gc_fv 55 0 μ = .ref 1 ∧ gc_fv 55 1 μ = .ref 10 ∧ gc_fv 55 2 μ = .ref 56 ∧ gc_fv 55 3 μ = .ref 57 ∧ gc_fv 55 4 μ = .ref 58 ∧ gc_fv 55 5 μ = .ref 59 ∧ gc_fv 55 6 μ = .ref 60 ∧ gc_fv 55 7 μ = .ref 61 ∧ gc_fv 55 8 μ = .ref 62 ∧ gc_fv 55 9 μ = .ref 63 ∧ gc_fv 55 10 μ = .ref 65 ∧ gc_fv 55 11 μ = .int (μ 55 11) ∧ gc_fv 55 12 μ = .int (μ 55 12) ∧ gc_fv 55 13 μ = .int (μ 55 13) ∧ gc_fv 55 14 μ = .int (μ 55 14) ∧ gc_fv 63 0 μ = .ref 64 ∧ gc_fv 63 1 μ = .int (μ 63 1) ∧ gc_fv 63 2 μ = .int (μ 63 2) ∧ gc_fv 65 0 μ = .ref 66 ∧ gc_fv 65 1 μ = .int (μ 65 1) ∧ gc_fv 65 2 μ = .int (μ 65 2) ∧ gc_fv 68 0 μ = .ref 69 ∧ gc_fv 68 1 μ = .int (μ 68 1) ∧ gc_fv 68 2 μ = .int (μ 68 2) ∧ gc_fv 70 0 μ = .ref 71 ∧ gc_fv 70 1 μ = .int (μ 70 1) ∧ gc_fv 70 2 μ = .int (μ 70 2) ∧ gc_fv 72 0 μ = .ref 73 := ⟨rfl, rfl, rfl, rfl, rfl, rfl, rfl, rfl, rfl, rfl, rfl, rfl, rfl, rfl, rfl, rfl, rfl, rfl, rfl, rfl, rfl, rfl, rfl, rfl, rfl, rfl, rfl, rfl, rfl, rfl, rfl, rfl, rfl, rfl, rfl, rfl, rfl, rfl, rfl, rfl⟩
theorem ly_fv3 {μ : gM} : gc_fv 72 1 μ = .int (μ 72 1) ∧ gc_fv 72 2 μ = .int (μ 72 2) ∧ gc_fv 74 0 μ = .ref 75 ∧ gc_fv 74 1 μ = .int (μ 74 1) ∧ gc_fv 74 2 μ = .int (μ 74 2) ∧ gc_fv 76 0 μ = .ref 77 ∧ gc_fv 76 1 μ = .int (μ 76 1) ∧ gc_fv 76 2 μ = .int (μ 76 2) ∧ gc_fv 77 0 μ = .ref 78 ∧ gc_fv 77 1 μ = .int (μ 77 1) ∧ gc_fv 77 2 μ = .int (μ 77 2) ∧ gc_fv 80 0 μ = .ref 81 ∧ gc_fv 80 1 μ = .int (μ 80 1) ∧ gc_fv 80 2 μ = .int (μ 80 2) ∧ gc_fv 83 0 μ = .ref 84 ∧ gc_fv 83 1 μ = .ref 85 ∧ gc_fv 83 2 μ = .ref 86 ∧ gc_fv 83 3 μ = .int (μ 83 3) ∧ gc_fv 83 4 μ = .ref 87 ∧ gc_fv 83 5 μ = .int (μ 83 5) ∧ gc_fv 83 6 μ = .int (μ 83 6) ∧ gc_fv 83 7 μ = .int (μ 83 7) ∧ gc_fv 83 8 μ = .int (μ 83 8) ∧ gc_fv 83 9 μ = .int (μ 83 9) ∧ gc_fv 83 10 μ = .int (μ 83 10) ∧ gc_fv 83 11 μ = .ref 88 ∧ gc_fv 83 12 μ = .ref 89 ∧ gc_fv 83 13 μ = .int (μ 83 13) ∧ gc_fv 83 14 μ = .ref 90 ∧ gc_fv 83 15 μ = .ref 91 ∧ gc_fv 83 16 μ = .ref 92 ∧ gc_fv 83 17 μ = .ref 93 ∧ gc_fv 83 18 μ = .ref 94 ∧ gc_fv 83 19 μ = .ref 95 ∧ gc_fv 83 20 μ = .ref 96 ∧ gc_fv 83 21 μ = .ref 97 ∧ gc_fv 83 22 μ = .int (μ 83 22) ∧ gc_fv 83 23 μ = .int (μ 83 23) ∧ gc_fv 83 24 μ = .ref 98 ∧ gc_fv 83 25 μ = .ref 99 := ⟨rfl, rfl, rfl, rfl, rfl, rfl, rfl, rfl, rfl, rfl, rfl, rfl, rfl, rfl, rfl, rfl, rfl, rfl, rfl, rfl, rfl, rfl, rfl, rfl, rfl, rfl, rfl, rfl, rfl, rfl, rfl, rfl, rfl, rfl, rfl, rfl, rfl, rfl, rfl, rfl⟩
theorem ly_fv4 {μ : gM} : gc_fv 83 26 μ = .ref 100 ∧ gc_fv 83 27 μ = .ref 101 ∧ gc_fv 102 0 μ = .ref 105 ∧ gc_fv 103 0 μ = .ref 106 ∧ gc_fv 104 0 μ = .ref 107 := ⟨rfl, rfl, rfl, rfl, rfl⟩
theorem ly_fk : gc_fk 0 9 = 0 ∧ gc_fk 11 2 = 1 ∧ gc_fk 11 3 = 1 ∧ gc_fk 11 4 = 0 ∧ gc_fk 12 1 = 0 ∧ gc_fk 12 2 = 0 ∧ gc_fk 15 2 = 1 ∧ gc_fk 15 3 = 1 ∧ gc_fk 15 4 = 0 ∧ gc_fk 16 1 = 0 ∧ gc_fk 16 2 = 0 ∧ gc_fk 19 2 = 1 ∧ gc_fk 19 3 = 1 ∧ gc_fk 19 4 = 0 ∧ gc_fk 20 1 = 0 ∧ gc_fk 20 2 = 0 ∧ gc_fk 23 2 = 1 ∧ gc_fk 23 3 = 1 ∧ gc_fk 23 4 = 0 ∧ gc_fk 24 1 = 0 ∧ gc_fk 24 2 = 0 ∧ gc_fk 27 2 = 1 ∧ gc_fk 27 3 = 1 ∧ gc_fk 27 4 = 0 ∧ gc_fk 28 1 = 0 ∧ gc_fk 28 2 = 0 ∧ gc_fk 31 11 = 0 ∧ gc_fk 31 12 = 0 ∧ gc_fk 31 13 = 0 ∧ gc_fk 31 14 = 0 ∧ gc_fk 39 1 = 0 ∧ gc_fk 39 2 = 0 ∧ gc_fk 41 1 = 0 ∧ gc_fk 41 2 = 0 ∧ gc_fk 43 11 = 0 ∧ gc_fk 43 12 = 0 ∧ gc_fk 43 13 = 0 ∧ gc_fk 43 14 = 0 ∧ gc_fk 51 1 = 0 ∧ gc_fk 51 2 = 0 ∧ gc_fk 53 1 = 0 ∧ gc_fk 53 2 = 0 ∧ gc_fk 55 11 = 0 ∧ gc_fk 55 12 = 0 ∧ gc_fk 55 13 = 0 ∧ gc_fk 55 14 = 0 ∧ gc_fk 63 1 = 0 ∧ gc_fk 63 2 = 0 ∧ gc_fk 65 1 = 0 ∧ gc_fk 65 2 = 0 ∧ gc_fk 68 1 = 0 ∧ gc_fk 68 2 = 0 ∧ gc_fk 70 1 = 0 ∧ gc_fk 70 2 = 0 ∧ gc_fk 72 1 = 0 ∧ gc_fk 72 2 = 0 ∧ gc_fk 74 1 = 0 ∧ gc_fk 74 2 = 0 ∧ gc_fk 76 1 = 0 ∧ gc_fk 76 2 = 0 ∧ gc_fk 77 1 = 0 ∧ gc_fk 77 2 = 0 ∧ gc_fk 80 1 = 0 ∧ gc_fk 80 2 = 0 ∧ gc_fk 83 3 = 0 ∧ gc_fk 83 5 = 0 ∧ gc_fk 83 6 = 0 ∧ gc_fk 83 7 = 0 ∧ gc_fk 83 8 = 0 ∧ gc_fk 83 9 = 0 ∧ gc_fk 83 10 = 0 ∧ gc_fk 83 13 = 0 ∧ gc_fk 83 22 = 0 ∧ gc_fk 83 23 = 0 := ⟨rfl, rfl, rfl, rfl, rfl, rfl, rfl, rfl, rfl, rfl, rfl, rfl, rfl, rfl, rfl, rfl, rfl, rfl, rfl, rfl, rfl, rfl, rfl, rfl, rfl, rfl, rfl, rfl, rfl, rfl, rfl, rfl, rfl, rfl, rfl, rfl, rfl, rfl, rfl, rfl, rfl, rfl, rfl, rfl, rfl, rfl, rfl, rfl, rfl, rfl, rfl, rfl, rfl, rfl, rfl, rfl, rfl, rfl, rfl, rfl, rfl, rfl, rfl, rfl, rfl, rfl, rfl, rfl, rfl, rfl, rfl, rfl, rfl, rfl⟩
