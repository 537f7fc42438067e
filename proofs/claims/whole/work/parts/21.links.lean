/-! Links of the instructions, shapes of the fixed cells, as rows to rewrite by. -/
theorem fl_0_9 : fld 0 9 = some (0, 0) := by decide +kernel
theorem fl_0_15 : fld 0 15 = some (0, 1) := by decide +kernel
theorem fl_0_19 : fld 0 19 = some (0, 2) := by decide +kernel
theorem fl_0_22 : fld 0 22 = some (9, 0) := by decide +kernel
theorem fl_0_27 : fld 0 27 = some (0, 3) := by decide +kernel
theorem fl_0_28 : fld 0 28 = some (9, 1) := by decide +kernel
theorem fl_0_31 : fld 0 31 = some (0, 4) := by decide +kernel
theorem fl_1_9 : fld 1 9 = some (1, 0) := by decide +kernel
theorem fl_1_15 : fld 1 15 = some (1, 1) := by decide +kernel
theorem fl_1_19 : fld 1 19 = some (1, 2) := by decide +kernel
theorem fl_1_22 : fld 1 22 = some (2, 0) := by decide +kernel
theorem fl_1_27 : fld 1 27 = some (9, 0) := by decide +kernel
theorem fl_1_32 : fld 1 32 = some (4, 1) := by decide +kernel
theorem fl_1_41 : fld 1 41 = some (2, 1) := by decide +kernel
theorem fl_1_44 : fld 1 44 = some (4, 0) := by decide +kernel
theorem fl_1_51 : fld 1 51 = some (2, 3) := by decide +kernel
theorem fl_1_58 : fld 1 58 = some (9, 3) := by decide +kernel
theorem fl_2_9 : fld 2 9 = some (2, 0) := by decide +kernel
theorem fl_2_15 : fld 2 15 = some (2, 1) := by decide +kernel
theorem fl_2_18 : fld 2 18 = some (2, 2) := by decide +kernel
theorem fl_2_22 : fld 2 22 = some (2, 3) := by decide +kernel
theorem fl_3_7 : fld 3 7 = some (3, 0) := by decide +kernel
theorem fl_3_13 : fld 3 13 = some (3, 1) := by decide +kernel
theorem fl_3_16 : fld 3 16 = some (3, 2) := by decide +kernel
theorem fl_3_19 : fld 3 19 = some (3, 3) := by decide +kernel
theorem fl_4_9 : fld 4 9 = some (4, 0) := by decide +kernel
theorem fl_4_21 : fld 4 21 = some (4, 1) := by decide +kernel
theorem fl_4_55 : fld 4 55 = some (3, 3) := by decide +kernel
theorem fl_4_58 : fld 4 58 = some (3, 0) := by decide +kernel
theorem fl_4_61 : fld 4 61 = some (3, 1) := by decide +kernel
theorem fl_4_64 : fld 4 64 = some (3, 2) := by decide +kernel
theorem fl_5_9 : fld 5 9 = some (5, 0) := by decide +kernel
theorem fl_5_18 : fld 5 18 = some (5, 5) := by decide +kernel
theorem fl_5_22 : fld 5 22 = some (5, 6) := by decide +kernel
theorem fl_5_25 : fld 5 25 = some (5, 7) := by decide +kernel
theorem fl_5_28 : fld 5 28 = some (5, 2) := by decide +kernel
theorem fl_5_34 : fld 5 34 = some (5, 3) := by decide +kernel
theorem fl_5_37 : fld 5 37 = some (5, 4) := by decide +kernel
theorem fl_5_40 : fld 5 40 = some (7, 0) := by decide +kernel
theorem fl_5_43 : fld 5 43 = some (7, 1) := by decide +kernel
theorem fl_5_59 : fld 5 59 = some (5, 1) := by decide +kernel
theorem fl_6_12 : fld 6 12 = some (6, 0) := by decide +kernel
theorem fl_6_20 : fld 6 20 = some (6, 1) := by decide +kernel
theorem fl_6_29 : fld 6 29 = some (6, 3) := by decide +kernel
theorem fl_6_33 : fld 6 33 = some (6, 4) := by decide +kernel
theorem fl_6_36 : fld 6 36 = some (6, 5) := by decide +kernel
theorem fl_6_47 : fld 6 47 = some (6, 2) := by decide +kernel
theorem fl_7_9 : fld 7 9 = some (7, 0) := by decide +kernel
theorem fl_7_15 : fld 7 15 = some (7, 1) := by decide +kernel
theorem fl_8_9 : fld 8 9 = some (8, 0) := by decide +kernel
theorem fl_8_15 : fld 8 15 = some (8, 2) := by decide +kernel
theorem fl_8_19 : fld 8 19 = some (8, 1) := by decide +kernel
theorem fl_9_9 : fld 9 9 = some (9, 3) := by decide +kernel
theorem fl_9_15 : fld 9 15 = some (9, 0) := by decide +kernel
theorem fl_9_19 : fld 9 19 = some (9, 1) := by decide +kernel
theorem fl_9_22 : fld 9 22 = some (9, 2) := by decide +kernel
theorem fl_10_12 : fld 10 12 = some (10, 0) := by decide +kernel
theorem fl_10_18 : fld 10 18 = some (10, 1) := by decide +kernel
theorem fl_10_24 : fld 10 24 = some (10, 3) := by decide +kernel
theorem fl_10_30 : fld 10 30 = some (10, 4) := by decide +kernel
theorem fl_10_37 : fld 10 37 = some (10, 6) := by decide +kernel
theorem fl_10_44 : fld 10 44 = some (10, 7) := by decide +kernel
theorem fl_10_48 : fld 10 48 = some (10, 8) := by decide +kernel
theorem fl_10_54 : fld 10 54 = some (10, 9) := by decide +kernel
theorem fl_10_60 : fld 10 60 = some (10, 10) := by decide +kernel
theorem fl_10_65 : fld 10 65 = some (6, 2) := by decide +kernel
theorem fl_10_73 : fld 10 73 = some (10, 5) := by decide +kernel
theorem fl_10_76 : fld 10 76 = some (6, 0) := by decide +kernel
theorem fl_10_79 : fld 10 79 = some (4, 1) := by decide +kernel
theorem fl_10_86 : fld 10 86 = some (6, 1) := by decide +kernel
theorem fl_10_99 : fld 10 99 = some (9, 0) := by decide +kernel
theorem fl_10_102 : fld 10 102 = some (9, 1) := by decide +kernel
theorem fl_10_105 : fld 10 105 = some (9, 2) := by decide +kernel
theorem fl_10_108 : fld 10 108 = some (9, 3) := by decide +kernel
theorem fl_10_112 : fld 10 112 = some (5, 1) := by decide +kernel
theorem fl_10_113 : fld 10 113 = some (5, 0) := by decide +kernel
theorem fl_10_165 : fld 10 165 = some (2, 0) := by decide +kernel
theorem fl_10_168 : fld 10 168 = some (2, 1) := by decide +kernel
theorem fl_10_175 : fld 10 175 = some (1, 2) := by decide +kernel
theorem fl_10_189 : fld 10 189 = some (1, 1) := by decide +kernel
theorem fl_10_204 : fld 10 204 = some (6, 3) := by decide +kernel
theorem fl_10_212 : fld 10 212 = some (3, 3) := by decide +kernel
theorem fl_10_237 : fld 10 237 = some (6, 4) := by decide +kernel
theorem fl_10_240 : fld 10 240 = some (3, 0) := by decide +kernel
theorem fl_10_243 : fld 10 243 = some (3, 1) := by decide +kernel
theorem fl_10_246 : fld 10 246 = some (3, 2) := by decide +kernel
theorem fl_10_252 : fld 10 252 = some (6, 5) := by decide +kernel
theorem fl_10_261 : fld 10 261 = some (8, 0) := by decide +kernel
theorem fl_10_264 : fld 10 264 = some (8, 1) := by decide +kernel
theorem fl_10_267 : fld 10 267 = some (8, 2) := by decide +kernel
theorem fl_10_274 : fld 10 274 = some (10, 2) := by decide +kernel
theorem fl_10_294 : fld 10 294 = some (0, 1) := by decide +kernel
theorem fl_11_7 : fld 11 7 = some (11, 0) := by decide +kernel
theorem fl_11_13 : fld 11 13 = some (11, 1) := by decide +kernel
theorem fl_11_17 : fld 11 17 = some (11, 2) := by decide +kernel
theorem fl_11_20 : fld 11 20 = some (11, 3) := by decide +kernel
theorem fl_11_23 : fld 11 23 = some (11, 4) := by decide +kernel
theorem fl_11_26 : fld 11 26 = some (11, 5) := by decide +kernel
theorem fl_11_29 : fld 11 29 = some (11, 6) := by decide +kernel
theorem fl_11_32 : fld 11 32 = some (11, 7) := by decide +kernel
theorem fl_11_35 : fld 11 35 = some (11, 8) := by decide +kernel
theorem fl_11_38 : fld 11 38 = some (11, 9) := by decide +kernel
theorem fl_11_41 : fld 11 41 = some (11, 10) := by decide +kernel
theorem fl_11_44 : fld 11 44 = some (11, 11) := by decide +kernel
theorem fl_11_47 : fld 11 47 = some (11, 12) := by decide +kernel
theorem fl_11_50 : fld 11 50 = some (11, 13) := by decide +kernel
theorem fl_11_53 : fld 11 53 = some (11, 14) := by decide +kernel
theorem fl_11_56 : fld 11 56 = some (11, 15) := by decide +kernel
theorem fl_11_59 : fld 11 59 = some (11, 16) := by decide +kernel
theorem fl_11_62 : fld 11 62 = some (11, 17) := by decide +kernel
theorem fl_11_65 : fld 11 65 = some (11, 18) := by decide +kernel
theorem fl_11_68 : fld 11 68 = some (11, 19) := by decide +kernel
theorem fl_11_71 : fld 11 71 = some (11, 20) := by decide +kernel
theorem fl_11_74 : fld 11 74 = some (11, 21) := by decide +kernel
theorem fl_11_78 : fld 11 78 = some (11, 22) := by decide +kernel
theorem fl_11_81 : fld 11 81 = some (11, 23) := by decide +kernel
theorem fl_11_84 : fld 11 84 = some (11, 24) := by decide +kernel
theorem fl_11_87 : fld 11 87 = some (11, 25) := by decide +kernel
theorem fl_11_90 : fld 11 90 = some (11, 26) := by decide +kernel
theorem fl_11_93 : fld 11 93 = some (11, 27) := by decide +kernel
theorem fl_11_96 : fld 11 96 = some (11, 28) := by decide +kernel
theorem fl_11_99 : fld 11 99 = some (11, 29) := by decide +kernel
theorem fl_11_102 : fld 11 102 = some (11, 30) := by decide +kernel
theorem fl_11_105 : fld 11 105 = some (11, 31) := by decide +kernel
theorem fl_11_108 : fld 11 108 = some (11, 32) := by decide +kernel
theorem fl_11_111 : fld 11 111 = some (11, 33) := by decide +kernel
theorem fl_11_114 : fld 11 114 = some (11, 34) := by decide +kernel
theorem fl_11_117 : fld 11 117 = some (11, 35) := by decide +kernel
theorem fl_11_120 : fld 11 120 = some (11, 36) := by decide +kernel
theorem fl_11_123 : fld 11 123 = some (11, 37) := by decide +kernel
theorem fl_11_126 : fld 11 126 = some (11, 38) := by decide +kernel
theorem fl_11_129 : fld 11 129 = some (11, 39) := by decide +kernel
theorem fl_11_132 : fld 11 132 = some (11, 40) := by decide +kernel
theorem fl_11_135 : fld 11 135 = some (11, 41) := by decide +kernel
theorem fl_11_138 : fld 11 138 = some (11, 42) := by decide +kernel
theorem fl_11_141 : fld 11 141 = some (11, 43) := by decide +kernel
theorem fl_11_144 : fld 11 144 = some (11, 44) := by decide +kernel
theorem fl_11_148 : fld 11 148 = some (11, 45) := by decide +kernel
theorem fl_11_151 : fld 11 151 = some (11, 46) := by decide +kernel
theorem fl_11_154 : fld 11 154 = some (11, 47) := by decide +kernel
theorem fl_11_157 : fld 11 157 = some (11, 48) := by decide +kernel
theorem fl_11_160 : fld 11 160 = some (11, 49) := by decide +kernel
theorem fl_11_163 : fld 11 163 = some (11, 50) := by decide +kernel
theorem fl_11_166 : fld 11 166 = some (11, 51) := by decide +kernel
theorem fl_11_169 : fld 11 169 = some (11, 52) := by decide +kernel
theorem fl_11_172 : fld 11 172 = some (11, 53) := by decide +kernel
theorem fl_11_175 : fld 11 175 = some (11, 54) := by decide +kernel
theorem fl_11_178 : fld 11 178 = some (11, 55) := by decide +kernel
theorem fl_11_181 : fld 11 181 = some (11, 56) := by decide +kernel
theorem fl_11_184 : fld 11 184 = some (11, 57) := by decide +kernel
theorem fl_11_187 : fld 11 187 = some (11, 58) := by decide +kernel
theorem fl_11_190 : fld 11 190 = some (11, 59) := by decide +kernel
theorem fl_11_193 : fld 11 193 = some (11, 60) := by decide +kernel
theorem fl_11_196 : fld 11 196 = some (11, 61) := by decide +kernel
theorem fl_11_199 : fld 11 199 = some (11, 62) := by decide +kernel
theorem fl_11_202 : fld 11 202 = some (11, 63) := by decide +kernel
theorem fl_11_205 : fld 11 205 = some (11, 64) := by decide +kernel
theorem fl_11_208 : fld 11 208 = some (11, 65) := by decide +kernel
theorem fl_11_211 : fld 11 211 = some (11, 66) := by decide +kernel
theorem fl_11_214 : fld 11 214 = some (11, 67) := by decide +kernel
theorem fl_11_218 : fld 11 218 = some (11, 68) := by decide +kernel
theorem gs_10_291 : gst 10 291 = some 0 := by decide +kernel
theorem fl_12_9 : fld 12 9 = none := by decide +kernel
theorem sf_12_9 : sfl 12 9 = some 0 := by decide +kernel
theorem fl_12_15 : fld 12 15 = none := by decide +kernel
theorem sf_12_15 : sfl 12 15 = some 1 := by decide +kernel
theorem gs_12_38 : gst 12 38 = some 1 := by decide +kernel
theorem gs_12_1053 : gst 12 1053 = some 2 := by decide +kernel
theorem iv_0_32 : inv 0 32 = some (0, 5, 3, 0, 4) := by decide +kernel
theorem iv_0_36 : inv 0 36 = some (0, 6, 3, 0, 4) := by decide +kernel
theorem iv_0_39 : inv 0 39 = some (0, 7, 3, 0, 4) := by decide +kernel
theorem iv_0_42 : inv 0 42 = some (0, 4, 2, 0, 3) := by decide +kernel
theorem iv_1_37 : inv 1 37 = some (0, 15, 4, 2, 6) := by decide +kernel
theorem iv_1_47 : inv 1 47 = some (1, 10, 3, 1, 3) := by decide +kernel
theorem iv_1_54 : inv 1 54 = some (1, 16, 5, 2, 10) := by decide +kernel
theorem iv_1_67 : inv 1 67 = some (1, 11, 3, 1, 4) := by decide +kernel
theorem iv_1_71 : inv 1 71 = some (1, 12, 2, 1, 2) := by decide +kernel
theorem iv_1_74 : inv 1 74 = some (0, 13, 2, 1, 5) := by decide +kernel
theorem iv_1_78 : inv 1 78 = some (1, 25, 1, 4, 1) := by decide +kernel
theorem iv_1_82 : inv 1 82 = some (1, 26, 1, 4, 1) := by decide +kernel
theorem iv_2_25 : inv 2 25 = some (1, 16, 5, 2, 10) := by decide +kernel
theorem iv_2_29 : inv 2 29 = some (1, 17, 5, 2, 5) := by decide +kernel
theorem iv_2_33 : inv 2 33 = some (1, 18, 2, 2, 3) := by decide +kernel
theorem iv_3_23 : inv 3 23 = some (0, 20, 0, 3, 1) := by decide +kernel
theorem iv_4_26 : inv 4 26 = some (0, 27, 2, 4, 3) := by decide +kernel
theorem iv_4_30 : inv 4 30 = some (0, 30, 1, 4, 2) := by decide +kernel
theorem iv_4_34 : inv 4 34 = some (0, 28, 2, 4, 3) := by decide +kernel
theorem iv_4_37 : inv 4 37 = some (0, 32, 1, 4, 4) := by decide +kernel
theorem iv_4_46 : inv 4 46 = some (0, 37, 0, 4, 4) := by decide +kernel
theorem iv_4_49 : inv 4 49 = some (1, 26, 1, 4, 1) := by decide +kernel
theorem iv_4_52 : inv 4 52 = some (1, 25, 1, 4, 1) := by decide +kernel
theorem iv_5_17 : inv 5 17 = some (3, 54, 0, 7, 1) := by decide +kernel
theorem iv_5_46 : inv 5 46 = some (1, 229, 2, 15, 3) := by decide +kernel
theorem iv_5_52 : inv 5 52 = some (2, 14, 4, 2, 5) := by decide +kernel
theorem iv_5_55 : inv 5 55 = some (0, 43, 0, 5, 3) := by decide +kernel
theorem iv_5_60 : inv 5 60 = some (0, 51, 0, 5, 1) := by decide +kernel
theorem iv_5_64 : inv 5 64 = some (0, 49, 0, 5, 4) := by decide +kernel
theorem iv_5_67 : inv 5 67 = some (0, 44, 1, 5, 3) := by decide +kernel
theorem iv_5_71 : inv 5 71 = some (0, 45, 1, 5, 2) := by decide +kernel
theorem iv_5_74 : inv 5 74 = some (0, 55, 1, 7, 2) := by decide +kernel
theorem iv_5_78 : inv 5 78 = some (0, 50, 0, 5, 4) := by decide +kernel
theorem iv_5_90 : inv 5 90 = some (0, 46, 1, 5, 2) := by decide +kernel
theorem iv_5_93 : inv 5 93 = some (0, 47, 1, 5, 3) := by decide +kernel
theorem iv_5_96 : inv 5 96 = some (0, 48, 1, 5, 5) := by decide +kernel
theorem iv_5_101 : inv 5 101 = some (0, 217, 1, 12, 2) := by decide +kernel
theorem iv_5_111 : inv 5 111 = some (0, 216, 1, 12, 2) := by decide +kernel
theorem iv_6_11 : inv 6 11 = some (3, 23, 0, 4, 1) := by decide +kernel
theorem iv_6_26 : inv 6 26 = some (2, 19, 1, 3, 2) := by decide +kernel
theorem iv_6_39 : inv 6 39 = some (3, 61, 0, 9, 1) := by decide +kernel
theorem iv_6_40 : inv 6 40 = some (0, 24, 1, 4, 2) := by decide +kernel
theorem iv_6_44 : inv 6 44 = some (0, 63, 1, 9, 2) := by decide +kernel
theorem iv_6_51 : inv 6 51 = some (0, 22, 1, 3, 3) := by decide +kernel
theorem iv_8_22 : inv 8 22 = some (1, 228, 2, 15, 5) := by decide +kernel
theorem iv_9_25 : inv 9 25 = some (1, 227, 2, 15, 4) := by decide +kernel
theorem iv_10_11 : inv 10 11 = some (2, 52, 0, 6, 2) := by decide +kernel
theorem iv_10_23 : inv 10 23 = some (3, 39, 0, 5, 1) := by decide +kernel
theorem iv_10_36 : inv 10 36 = some (3, 8, 0, 1, 1) := by decide +kernel
theorem iv_10_43 : inv 10 43 = some (3, 23, 0, 4, 1) := by decide +kernel
theorem iv_10_53 : inv 10 53 = some (3, 0, 0, 0, 1) := by decide +kernel
theorem iv_10_64 : inv 10 64 = some (3, 56, 0, 8, 1) := by decide +kernel
theorem iv_10_69 : inv 10 69 = some (1, 65, 3, 10, 3) := by decide +kernel
theorem iv_10_82 : inv 10 82 = some (1, 71, 1, 10, 1) := by decide +kernel
theorem iv_10_90 : inv 10 90 = some (0, 62, 2, 9, 3) := by decide +kernel
theorem iv_10_96 : inv 10 96 = some (0, 66, 1, 10, 2) := by decide +kernel
theorem iv_10_116 : inv 10 116 = some (0, 42, 0, 5, 2) := by decide +kernel
theorem iv_10_120 : inv 10 120 = some (0, 41, 0, 5, 1) := by decide +kernel
theorem iv_10_124 : inv 10 124 = some (0, 40, 0, 5, 1) := by decide +kernel
theorem iv_10_128 : inv 10 128 = some (0, 35, 1, 4, 4) := by decide +kernel
theorem iv_10_132 : inv 10 132 = some (1, 70, 1, 10, 1) := by decide +kernel
theorem iv_10_135 : inv 10 135 = some (0, 36, 1, 4, 3) := by decide +kernel
theorem iv_10_138 : inv 10 138 = some (0, 31, 0, 4, 3) := by decide +kernel
theorem iv_10_141 : inv 10 141 = some (0, 68, 1, 10, 2) := by decide +kernel
theorem iv_10_144 : inv 10 144 = some (0, 28, 2, 4, 3) := by decide +kernel
theorem iv_10_148 : inv 10 148 = some (0, 29, 2, 4, 3) := by decide +kernel
theorem iv_10_152 : inv 10 152 = some (0, 30, 1, 4, 2) := by decide +kernel
theorem iv_10_155 : inv 10 155 = some (0, 32, 1, 4, 4) := by decide +kernel
theorem iv_10_159 : inv 10 159 = some (0, 33, 0, 4, 3) := by decide +kernel
theorem iv_10_162 : inv 10 162 = some (0, 67, 1, 10, 2) := by decide +kernel
theorem iv_10_171 : inv 10 171 = some (0, 9, 4, 1, 11) := by decide +kernel
theorem iv_10_178 : inv 10 178 = some (0, 24, 1, 4, 2) := by decide +kernel
theorem iv_10_182 : inv 10 182 = some (0, 85, 3, 10, 4) := by decide +kernel
theorem iv_10_186 : inv 10 186 = some (0, 86, 2, 10, 3) := by decide +kernel
theorem iv_10_192 : inv 10 192 = some (0, 87, 3, 10, 4) := by decide +kernel
theorem iv_10_201 : inv 10 201 = some (0, 34, 1, 4, 4) := by decide +kernel
theorem iv_10_208 : inv 10 208 = some (1, 95, 4, 10, 4) := by decide +kernel
theorem iv_10_215 : inv 10 215 = some (1, 72, 3, 10, 3) := by decide +kernel
theorem iv_10_218 : inv 10 218 = some (0, 20, 0, 3, 1) := by decide +kernel
theorem iv_10_221 : inv 10 221 = some (0, 21, 3, 3, 4) := by decide +kernel
theorem iv_10_224 : inv 10 224 = some (0, 38, 1, 4, 3) := by decide +kernel
theorem iv_10_228 : inv 10 228 = some (0, 96, 3, 10, 4) := by decide +kernel
theorem iv_10_233 : inv 10 233 = some (1, 101, 3, 10, 5) := by decide +kernel
theorem iv_10_249 : inv 10 249 = some (0, 104, 3, 10, 4) := by decide +kernel
theorem iv_10_255 : inv 10 255 = some (1, 69, 1, 10, 1) := by decide +kernel
theorem iv_10_258 : inv 10 258 = some (0, 57, 0, 8, 1) := by decide +kernel
theorem iv_10_271 : inv 10 271 = some (0, 53, 1, 6, 3) := by decide +kernel
theorem iv_10_278 : inv 10 278 = some (0, 1, 0, 0, 1) := by decide +kernel
theorem iv_10_281 : inv 10 281 = some (0, 2, 4, 0, 5) := by decide +kernel
theorem iv_10_285 : inv 10 285 = some (0, 3, 1, 0, 2) := by decide +kernel
theorem iv_10_288 : inv 10 288 = some (1, 113, 2, 10, 4) := by decide +kernel
theorem iv_10_295 : inv 10 295 = some (0, 59, 2, 8, 3) := by decide +kernel
theorem iv_10_296 : inv 10 296 = some (0, 58, 1, 8, 2) := by decide +kernel
theorem iv_10_299 : inv 10 299 = some (0, 60, 1, 8, 3) := by decide +kernel
theorem iv_11_221 : inv 11 221 = some (0, 120, 3, 11, 4) := by decide +kernel
theorem iv_11_225 : inv 11 225 = some (0, 121, 1, 11, 2) := by decide +kernel
theorem iv_11_229 : inv 11 229 = some (0, 126, 0, 11, 1) := by decide +kernel
theorem iv_11_233 : inv 11 233 = some (0, 128, 1, 11, 2) := by decide +kernel
theorem iv_11_236 : inv 11 236 = some (0, 130, 0, 11, 1) := by decide +kernel
theorem iv_11_240 : inv 11 240 = some (0, 132, 1, 11, 2) := by decide +kernel
theorem iv_11_244 : inv 11 244 = some (0, 135, 1, 11, 2) := by decide +kernel
theorem iv_11_248 : inv 11 248 = some (0, 131, 0, 11, 2) := by decide +kernel
theorem iv_11_251 : inv 11 251 = some (0, 133, 0, 11, 1) := by decide +kernel
theorem iv_11_254 : inv 11 254 = some (0, 136, 0, 11, 3) := by decide +kernel
theorem iv_11_257 : inv 11 257 = some (0, 134, 1, 11, 2) := by decide +kernel
theorem iv_11_260 : inv 11 260 = some (0, 129, 2, 11, 4) := by decide +kernel
theorem iv_11_264 : inv 11 264 = some (0, 127, 0, 11, 1) := by decide +kernel
theorem iv_11_267 : inv 11 267 = some (0, 138, 1, 11, 2) := by decide +kernel
theorem iv_11_270 : inv 11 270 = some (0, 137, 1, 11, 4) := by decide +kernel
theorem iv_11_273 : inv 11 273 = some (0, 139, 1, 11, 2) := by decide +kernel
theorem iv_11_276 : inv 11 276 = some (0, 140, 1, 11, 3) := by decide +kernel
theorem iv_11_279 : inv 11 279 = some (0, 143, 3, 11, 6) := by decide +kernel
theorem iv_11_283 : inv 11 283 = some (0, 142, 1, 11, 2) := by decide +kernel
theorem iv_11_286 : inv 11 286 = some (0, 144, 1, 11, 3) := by decide +kernel
theorem iv_11_289 : inv 11 289 = some (0, 145, 1, 11, 3) := by decide +kernel
theorem iv_11_292 : inv 11 292 = some (0, 147, 4, 11, 5) := by decide +kernel
theorem iv_11_296 : inv 11 296 = some (0, 148, 4, 11, 10) := by decide +kernel
theorem iv_11_300 : inv 11 300 = some (0, 152, 1, 11, 3) := by decide +kernel
theorem iv_11_303 : inv 11 303 = some (0, 150, 1, 11, 4) := by decide +kernel
theorem iv_11_306 : inv 11 306 = some (0, 155, 0, 11, 6) := by decide +kernel
theorem iv_11_309 : inv 11 309 = some (0, 151, 1, 11, 2) := by decide +kernel
theorem iv_11_312 : inv 11 312 = some (0, 157, 1, 11, 2) := by decide +kernel
theorem iv_11_315 : inv 11 315 = some (0, 156, 1, 11, 3) := by decide +kernel
theorem iv_11_318 : inv 11 318 = some (0, 158, 0, 11, 3) := by decide +kernel
theorem iv_11_321 : inv 11 321 = some (0, 159, 1, 11, 4) := by decide +kernel
theorem iv_11_324 : inv 11 324 = some (0, 162, 0, 11, 3) := by decide +kernel
theorem iv_11_327 : inv 11 327 = some (0, 149, 5, 11, 7) := by decide +kernel
theorem iv_11_331 : inv 11 331 = some (0, 166, 3, 11, 5) := by decide +kernel
theorem iv_11_334 : inv 11 334 = some (0, 167, 2, 11, 4) := by decide +kernel
theorem iv_11_338 : inv 11 338 = some (0, 164, 3, 11, 5) := by decide +kernel
theorem iv_11_342 : inv 11 342 = some (0, 165, 2, 11, 4) := by decide +kernel
theorem iv_11_346 : inv 11 346 = some (0, 168, 2, 11, 9) := by decide +kernel
theorem iv_11_349 : inv 11 349 = some (0, 170, 0, 11, 2) := by decide +kernel
theorem iv_11_352 : inv 11 352 = some (0, 171, 0, 11, 2) := by decide +kernel
theorem iv_11_355 : inv 11 355 = some (0, 172, 3, 11, 5) := by decide +kernel
theorem iv_11_358 : inv 11 358 = some (0, 173, 2, 11, 3) := by decide +kernel
theorem iv_11_361 : inv 11 361 = some (0, 176, 5, 11, 7) := by decide +kernel
theorem iv_11_365 : inv 11 365 = some (0, 180, 3, 11, 4) := by decide +kernel
theorem iv_11_368 : inv 11 368 = some (0, 182, 1, 11, 2) := by decide +kernel
theorem iv_11_371 : inv 11 371 = some (0, 183, 2, 11, 5) := by decide +kernel
theorem iv_11_374 : inv 11 374 = some (0, 186, 2, 11, 6) := by decide +kernel
theorem iv_11_379 : inv 11 379 = some (0, 187, 3, 11, 5) := by decide +kernel
theorem iv_11_383 : inv 11 383 = some (0, 191, 1, 11, 2) := by decide +kernel
theorem iv_11_386 : inv 11 386 = some (0, 210, 1, 11, 2) := by decide +kernel
theorem iv_11_389 : inv 11 389 = some (0, 198, 1, 11, 2) := by decide +kernel
theorem iv_11_392 : inv 11 392 = some (0, 199, 2, 11, 3) := by decide +kernel
theorem iv_11_395 : inv 11 395 = some (0, 200, 2, 11, 3) := by decide +kernel
theorem iv_11_398 : inv 11 398 = some (0, 201, 2, 11, 3) := by decide +kernel
theorem iv_11_401 : inv 11 401 = some (0, 202, 2, 11, 3) := by decide +kernel
theorem iv_11_404 : inv 11 404 = some (0, 203, 2, 11, 4) := by decide +kernel
theorem iv_11_407 : inv 11 407 = some (0, 204, 2, 11, 3) := by decide +kernel
theorem iv_11_410 : inv 11 410 = some (0, 205, 2, 11, 4) := by decide +kernel
theorem iv_11_413 : inv 11 413 = some (0, 212, 2, 11, 4) := by decide +kernel
theorem iv_12_335 : inv 12 335 = some (0, 220, 0, 12, 1) := by decide +kernel
theorem iv_12_492 : inv 12 492 = some (0, 221, 0, 12, 1) := by decide +kernel
theorem iv_12_495 : inv 12 495 = some (1, 223, 2, 13, 2) := by decide +kernel
theorem iv_12_505 : inv 12 505 = some (0, 219, 0, 12, 1) := by decide +kernel
theorem iv_12_633 : inv 12 633 = some (0, 218, 2, 12, 3) := by decide +kernel
theorem iv_12_637 : inv 12 637 = some (1, 225, 4, 13, 4) := by decide +kernel
theorem iv_12_1059 : inv 12 1059 = some (1, 230, 3, 16, 3) := by decide +kernel
theorem iv_13_9 : inv 13 9 = some (1, 222, 2, 12, 2) := by decide +kernel
theorem iv_13_88 : inv 13 88 = some (1, 224, 1, 13, 1) := by decide +kernel
theorem iv_13_95 : inv 13 95 = some (1, 226, 4, 13, 6) := by decide +kernel
theorem iv_17_9 : inv 17 9 = some (2, 64, 0, 10, 2) := by decide +kernel
theorem iv_17_12 : inv 17 12 = some (2, 119, 0, 11, 1) := by decide +kernel
theorem iv_17_13 : inv 17 13 = some (0, 73, 2, 10, 3) := by decide +kernel
theorem iv_17_17 : inv 17 17 = some (0, 122, 2, 11, 4) := by decide +kernel
theorem iv_17_18 : inv 17 18 = some (0, 74, 2, 10, 3) := by decide +kernel
theorem iv_17_21 : inv 17 21 = some (0, 123, 2, 11, 3) := by decide +kernel
theorem iv_17_22 : inv 17 22 = some (0, 75, 3, 10, 5) := by decide +kernel
theorem iv_17_26 : inv 17 26 = some (0, 124, 3, 11, 5) := by decide +kernel
theorem iv_17_27 : inv 17 27 = some (0, 76, 1, 10, 2) := by decide +kernel
theorem iv_17_31 : inv 17 31 = some (0, 125, 1, 11, 2) := by decide +kernel
theorem iv_17_32 : inv 17 32 = some (0, 77, 0, 10, 2) := by decide +kernel
theorem iv_17_36 : inv 17 36 = some (0, 141, 0, 11, 2) := by decide +kernel
theorem iv_17_37 : inv 17 37 = some (0, 78, 1, 10, 2) := by decide +kernel
theorem iv_17_40 : inv 17 40 = some (0, 153, 1, 11, 2) := by decide +kernel
theorem iv_17_41 : inv 17 41 = some (0, 79, 0, 10, 2) := by decide +kernel
theorem iv_17_44 : inv 17 44 = some (0, 154, 0, 11, 2) := by decide +kernel
theorem iv_17_45 : inv 17 45 = some (0, 80, 1, 10, 2) := by decide +kernel
theorem iv_17_48 : inv 17 48 = some (0, 160, 1, 11, 2) := by decide +kernel
theorem iv_17_49 : inv 17 49 = some (0, 81, 2, 10, 3) := by decide +kernel
theorem iv_17_52 : inv 17 52 = some (0, 161, 2, 11, 3) := by decide +kernel
theorem iv_17_53 : inv 17 53 = some (0, 82, 1, 10, 2) := by decide +kernel
theorem iv_17_56 : inv 17 56 = some (0, 163, 1, 11, 2) := by decide +kernel
theorem iv_17_57 : inv 17 57 = some (0, 83, 2, 10, 3) := by decide +kernel
theorem iv_17_60 : inv 17 60 = some (0, 146, 2, 11, 3) := by decide +kernel
theorem iv_17_61 : inv 17 61 = some (0, 84, 2, 10, 4) := by decide +kernel
theorem iv_17_64 : inv 17 64 = some (0, 169, 2, 11, 3) := by decide +kernel
theorem iv_17_65 : inv 17 65 = some (0, 88, 3, 10, 4) := by decide +kernel
theorem iv_17_68 : inv 17 68 = some (0, 172, 3, 11, 5) := by decide +kernel
theorem iv_17_69 : inv 17 69 = some (0, 89, 1, 10, 6) := by decide +kernel
theorem iv_17_72 : inv 17 72 = some (0, 174, 1, 11, 6) := by decide +kernel
theorem iv_17_73 : inv 17 73 = some (0, 90, 2, 10, 3) := by decide +kernel
theorem iv_17_76 : inv 17 76 = some (0, 175, 2, 11, 4) := by decide +kernel
theorem iv_17_77 : inv 17 77 = some (0, 91, 5, 10, 10) := by decide +kernel
theorem iv_17_81 : inv 17 81 = some (0, 177, 5, 11, 10) := by decide +kernel
theorem iv_17_82 : inv 17 82 = some (0, 92, 3, 10, 10) := by decide +kernel
theorem iv_17_85 : inv 17 85 = some (0, 178, 3, 11, 10) := by decide +kernel
theorem iv_17_86 : inv 17 86 = some (0, 93, 1, 10, 2) := by decide +kernel
theorem iv_17_89 : inv 17 89 = some (0, 179, 1, 11, 3) := by decide +kernel
theorem iv_17_90 : inv 17 90 = some (0, 94, 3, 10, 4) := by decide +kernel
theorem iv_17_93 : inv 17 93 = some (0, 181, 3, 11, 4) := by decide +kernel
theorem iv_17_94 : inv 17 94 = some (0, 97, 1, 10, 4) := by decide +kernel
theorem iv_17_97 : inv 17 97 = some (0, 184, 1, 11, 4) := by decide +kernel
theorem iv_17_98 : inv 17 98 = some (0, 98, 3, 10, 7) := by decide +kernel
theorem iv_17_101 : inv 17 101 = some (0, 185, 3, 11, 8) := by decide +kernel
theorem iv_17_102 : inv 17 102 = some (0, 99, 3, 10, 6) := by decide +kernel
theorem iv_17_106 : inv 17 106 = some (0, 188, 3, 11, 6) := by decide +kernel
theorem iv_17_107 : inv 17 107 = some (0, 100, 2, 10, 5) := by decide +kernel
theorem iv_17_111 : inv 17 111 = some (0, 189, 2, 11, 5) := by decide +kernel
theorem iv_17_112 : inv 17 112 = some (0, 102, 3, 10, 4) := by decide +kernel
theorem iv_17_115 : inv 17 115 = some (0, 190, 3, 11, 4) := by decide +kernel
theorem iv_17_116 : inv 17 116 = some (0, 103, 1, 10, 3) := by decide +kernel
theorem iv_17_119 : inv 17 119 = some (0, 192, 1, 11, 3) := by decide +kernel
theorem iv_17_120 : inv 17 120 = some (0, 105, 3, 10, 4) := by decide +kernel
theorem iv_17_123 : inv 17 123 = some (0, 193, 3, 11, 4) := by decide +kernel
theorem iv_17_124 : inv 17 124 = some (0, 106, 0, 10, 1) := by decide +kernel
theorem iv_17_127 : inv 17 127 = some (0, 194, 0, 11, 2) := by decide +kernel
theorem iv_17_128 : inv 17 128 = some (0, 107, 2, 10, 5) := by decide +kernel
theorem iv_17_131 : inv 17 131 = some (0, 195, 2, 11, 4) := by decide +kernel
theorem iv_17_132 : inv 17 132 = some (0, 108, 0, 10, 1) := by decide +kernel
theorem iv_17_135 : inv 17 135 = some (0, 196, 0, 11, 2) := by decide +kernel
theorem iv_17_136 : inv 17 136 = some (0, 109, 0, 10, 1) := by decide +kernel
theorem iv_17_139 : inv 17 139 = some (0, 197, 0, 11, 2) := by decide +kernel
theorem iv_17_140 : inv 17 140 = some (0, 110, 3, 10, 4) := by decide +kernel
theorem iv_17_143 : inv 17 143 = some (0, 206, 3, 11, 4) := by decide +kernel
theorem iv_17_144 : inv 17 144 = some (0, 111, 1, 10, 2) := by decide +kernel
theorem iv_17_147 : inv 17 147 = some (0, 207, 1, 11, 2) := by decide +kernel
theorem iv_17_148 : inv 17 148 = some (0, 112, 2, 10, 4) := by decide +kernel
theorem iv_17_151 : inv 17 151 = some (0, 208, 2, 11, 4) := by decide +kernel
theorem iv_17_152 : inv 17 152 = some (0, 114, 1, 10, 2) := by decide +kernel
theorem iv_17_155 : inv 17 155 = some (0, 209, 1, 11, 2) := by decide +kernel
theorem iv_17_156 : inv 17 156 = some (0, 115, 3, 10, 4) := by decide +kernel
theorem iv_17_159 : inv 17 159 = some (0, 211, 3, 11, 5) := by decide +kernel
theorem iv_17_162 : inv 17 162 = some (0, 116, 3, 10, 6) := by decide +kernel
theorem iv_17_166 : inv 17 166 = some (0, 213, 3, 11, 5) := by decide +kernel
theorem iv_17_167 : inv 17 167 = some (0, 117, 2, 10, 3) := by decide +kernel
theorem iv_17_170 : inv 17 170 = some (0, 214, 2, 11, 3) := by decide +kernel
theorem iv_17_171 : inv 17 171 = some (0, 118, 5, 10, 8) := by decide +kernel
theorem iv_17_174 : inv 17 174 = some (0, 215, 5, 11, 7) := by decide +kernel
theorem sp_0_3 : spc 0 3 = 5 := by decide +kernel
theorem sp_1_3 : spc 1 3 = 5 := by decide +kernel
theorem sp_1_47 : spc 1 47 = 0 := by decide +kernel
theorem sp_1_54 : spc 1 54 = 0 := by decide +kernel
theorem sp_1_61 : spc 1 61 = 8 := by decide +kernel
theorem sp_1_67 : spc 1 67 = 0 := by decide +kernel
theorem sp_1_71 : spc 1 71 = 0 := by decide +kernel
theorem sp_1_78 : spc 1 78 = 0 := by decide +kernel
theorem sp_1_82 : spc 1 82 = 0 := by decide +kernel
theorem sp_2_3 : spc 2 3 = 5 := by decide +kernel
theorem sp_2_25 : spc 2 25 = 0 := by decide +kernel
theorem sp_2_29 : spc 2 29 = 0 := by decide +kernel
theorem sp_2_33 : spc 2 33 = 0 := by decide +kernel
theorem sp_3_1 : spc 3 1 = 5 := by decide +kernel
theorem sp_4_3 : spc 4 3 = 5 := by decide +kernel
theorem sp_4_15 : spc 4 15 = 6 := by decide +kernel
theorem sp_4_41 : spc 4 41 = 8 := by decide +kernel
theorem sp_4_49 : spc 4 49 = 0 := by decide +kernel
theorem sp_4_52 : spc 4 52 = 0 := by decide +kernel
theorem sp_5_3 : spc 5 3 = 5 := by decide +kernel
theorem sp_5_17 : spc 5 17 = 0 := by decide +kernel
theorem sp_5_46 : spc 5 46 = 0 := by decide +kernel
theorem sp_5_52 : spc 5 52 = 0 := by decide +kernel
theorem sp_5_81 : spc 5 81 = 7 := by decide +kernel
theorem sp_5_87 : spc 5 87 = 8 := by decide +kernel
theorem sp_6_3 : spc 6 3 = 5 := by decide +kernel
theorem sp_6_11 : spc 6 11 = 0 := by decide +kernel
theorem sp_6_26 : spc 6 26 = 0 := by decide +kernel
theorem sp_6_39 : spc 6 39 = 0 := by decide +kernel
theorem sp_7_3 : spc 7 3 = 5 := by decide +kernel
theorem sp_8_3 : spc 8 3 = 5 := by decide +kernel
theorem sp_8_22 : spc 8 22 = 0 := by decide +kernel
theorem sp_9_3 : spc 9 3 = 5 := by decide +kernel
theorem sp_9_25 : spc 9 25 = 0 := by decide +kernel
theorem sp_9_31 : spc 9 31 = 6 := by decide +kernel
theorem sp_10_3 : spc 10 3 = 5 := by decide +kernel
theorem sp_10_11 : spc 10 11 = 0 := by decide +kernel
theorem sp_10_23 : spc 10 23 = 0 := by decide +kernel
theorem sp_10_36 : spc 10 36 = 0 := by decide +kernel
theorem sp_10_43 : spc 10 43 = 0 := by decide +kernel
theorem sp_10_53 : spc 10 53 = 0 := by decide +kernel
theorem sp_10_64 : spc 10 64 = 0 := by decide +kernel
theorem sp_10_69 : spc 10 69 = 0 := by decide +kernel
theorem sp_10_82 : spc 10 82 = 0 := by decide +kernel
theorem sp_10_132 : spc 10 132 = 0 := by decide +kernel
theorem sp_10_196 : spc 10 196 = 7 := by decide +kernel
theorem sp_10_208 : spc 10 208 = 0 := by decide +kernel
theorem sp_10_215 : spc 10 215 = 0 := by decide +kernel
theorem sp_10_233 : spc 10 233 = 0 := by decide +kernel
theorem sp_10_255 : spc 10 255 = 0 := by decide +kernel
theorem sp_10_288 : spc 10 288 = 0 := by decide +kernel
theorem sp_10_303 : spc 10 303 = 6 := by decide +kernel
theorem sp_11_1 : spc 11 1 = 5 := by decide +kernel
theorem sp_12_495 : spc 12 495 = 0 := by decide +kernel
theorem sp_12_637 : spc 12 637 = 0 := by decide +kernel
theorem sp_12_1059 : spc 12 1059 = 0 := by decide +kernel
theorem sp_13_9 : spc 13 9 = 0 := by decide +kernel
theorem sp_13_38 : spc 13 38 = 8 := by decide +kernel
theorem sp_13_88 : spc 13 88 = 0 := by decide +kernel
theorem sp_13_92 : spc 13 92 = 7 := by decide +kernel
theorem sp_13_95 : spc 13 95 = 0 := by decide +kernel
theorem sp_15_150 : spc 15 150 = 6 := by decide +kernel
theorem sp_15_304 : spc 15 304 = 8 := by decide +kernel
theorem sp_17_9 : spc 17 9 = 0 := by decide +kernel
theorem sp_17_12 : spc 17 12 = 0 := by decide +kernel
theorem nw_10_9 : nwc 10 9 = some 6 := by decide +kernel
theorem nw_10_21 : nwc 10 21 = some 5 := by decide +kernel
theorem an_10_28 : anc 10 28 = some 6 := by decide +kernel
theorem nw_10_34 : nwc 10 34 = some 1 := by decide +kernel
theorem nw_10_41 : nwc 10 41 = some 4 := by decide +kernel
theorem nw_10_51 : nwc 10 51 = some 0 := by decide +kernel
theorem nw_10_58 : nwc 10 58 = some 8 := by decide +kernel
theorem an_10_58 : anc 10 58 = some 5 := by decide +kernel
theorem nw_5_15 : nwc 5 15 = some 7 := by decide +kernel
theorem nw_5_32 : nwc 5 32 = some 2 := by decide +kernel
theorem nw_6_9 : nwc 6 9 = some 4 := by decide +kernel
theorem nw_6_18 : nwc 6 18 = some 9 := by decide +kernel
theorem an_6_18 : anc 6 18 = some 4 := by decide +kernel
theorem nw_6_24 : nwc 6 24 = some 3 := by decide +kernel
theorem nw_17_7 : nwc 17 7 = some 10 := by decide +kernel
theorem nw_17_10 : nwc 17 10 = some 11 := by decide +kernel
theorem lc_4_25 : lct 4 25 = some (0, 32896) := by decide +kernel
theorem lc_5_109 : lct 5 109 = some (1, -10) := by decide +kernel
theorem lc_5_99 : lct 5 99 = some (1, -11) := by decide +kernel
theorem lc_5_107 : lct 5 107 = some (1, -12) := by decide +kernel
theorem l2_10_231 : l2t 10 231 = some (-9223372036854775808) := by decide +kernel
theorem l2_17_160 : l2t 17 160 = some (4294967295) := by decide +kernel
theorem l2_11_377 : l2t 11 377 = some (-9223372036854775808) := by decide +kernel
theorem fg_0_0 : ftg 0 0 = 2 := by decide +kernel
theorem fn_0_0 : ffn 0 0 = true := by decide +kernel
theorem fg_0_1 : ftg 0 1 = 0 := by decide +kernel
theorem fn_0_1 : ffn 0 1 = false := by decide +kernel
theorem fg_0_2 : ftg 0 2 = 0 := by decide +kernel
theorem fn_0_2 : ffn 0 2 = false := by decide +kernel
theorem fg_0_3 : ftg 0 3 = 0 := by decide +kernel
theorem fn_0_3 : ffn 0 3 = false := by decide +kernel
theorem fg_0_4 : ftg 0 4 = 0 := by decide +kernel
theorem fn_0_4 : ffn 0 4 = false := by decide +kernel
theorem fg_1_0 : ftg 1 0 = 2 := by decide +kernel
theorem fn_1_0 : ffn 1 0 = true := by decide +kernel
theorem fg_1_1 : ftg 1 1 = 0 := by decide +kernel
theorem fn_1_1 : ffn 1 1 = false := by decide +kernel
theorem fg_1_2 : ftg 1 2 = 0 := by decide +kernel
theorem fn_1_2 : ffn 1 2 = false := by decide +kernel
theorem fg_2_0 : ftg 2 0 = 0 := by decide +kernel
theorem fn_2_0 : ffn 2 0 = true := by decide +kernel
theorem fg_2_1 : ftg 2 1 = 0 := by decide +kernel
theorem fn_2_1 : ffn 2 1 = true := by decide +kernel
theorem fg_2_2 : ftg 2 2 = 2 := by decide +kernel
theorem fn_2_2 : ffn 2 2 = true := by decide +kernel
theorem fg_2_3 : ftg 2 3 = 2 := by decide +kernel
theorem fn_2_3 : ffn 2 3 = true := by decide +kernel
theorem fg_3_0 : ftg 3 0 = 2 := by decide +kernel
theorem fn_3_0 : ffn 3 0 = true := by decide +kernel
theorem fg_3_1 : ftg 3 1 = 2 := by decide +kernel
theorem fn_3_1 : ffn 3 1 = true := by decide +kernel
theorem fg_3_2 : ftg 3 2 = 2 := by decide +kernel
theorem fn_3_2 : ffn 3 2 = true := by decide +kernel
theorem fg_3_3 : ftg 3 3 = 0 := by decide +kernel
theorem fn_3_3 : ffn 3 3 = false := by decide +kernel
theorem fg_4_0 : ftg 4 0 = 2 := by decide +kernel
theorem fn_4_0 : ffn 4 0 = true := by decide +kernel
theorem fg_4_1 : ftg 4 1 = 0 := by decide +kernel
theorem fn_4_1 : ffn 4 1 = false := by decide +kernel
theorem fg_5_0 : ftg 5 0 = 2 := by decide +kernel
theorem fn_5_0 : ffn 5 0 = true := by decide +kernel
theorem fg_5_1 : ftg 5 1 = 0 := by decide +kernel
theorem fn_5_1 : ffn 5 1 = false := by decide +kernel
theorem fg_5_2 : ftg 5 2 = 0 := by decide +kernel
theorem fn_5_2 : ffn 5 2 = false := by decide +kernel
theorem fg_5_3 : ftg 5 3 = 0 := by decide +kernel
theorem fn_5_3 : ffn 5 3 = false := by decide +kernel
theorem fg_5_4 : ftg 5 4 = 0 := by decide +kernel
theorem fn_5_4 : ffn 5 4 = false := by decide +kernel
theorem fg_5_5 : ftg 5 5 = 2 := by decide +kernel
theorem fn_5_5 : ffn 5 5 = true := by decide +kernel
theorem fg_5_6 : ftg 5 6 = 2 := by decide +kernel
theorem fn_5_6 : ffn 5 6 = true := by decide +kernel
theorem fg_5_7 : ftg 5 7 = 2 := by decide +kernel
theorem fn_5_7 : ffn 5 7 = false := by decide +kernel
theorem fg_6_0 : ftg 6 0 = 2 := by decide +kernel
theorem fn_6_0 : ffn 6 0 = true := by decide +kernel
theorem fg_6_1 : ftg 6 1 = 2 := by decide +kernel
theorem fn_6_1 : ffn 6 1 = true := by decide +kernel
theorem fg_6_2 : ftg 6 2 = 0 := by decide +kernel
theorem fn_6_2 : ffn 6 2 = false := by decide +kernel
theorem fg_6_3 : ftg 6 3 = 2 := by decide +kernel
theorem fn_6_3 : ffn 6 3 = true := by decide +kernel
theorem fg_6_4 : ftg 6 4 = 2 := by decide +kernel
theorem fn_6_4 : ffn 6 4 = true := by decide +kernel
theorem fg_6_5 : ftg 6 5 = 2 := by decide +kernel
theorem fn_6_5 : ffn 6 5 = true := by decide +kernel
theorem fg_7_0 : ftg 7 0 = 2 := by decide +kernel
theorem fn_7_0 : ffn 7 0 = true := by decide +kernel
theorem fg_7_1 : ftg 7 1 = 0 := by decide +kernel
theorem fn_7_1 : ffn 7 1 = false := by decide +kernel
theorem fg_8_0 : ftg 8 0 = 0 := by decide +kernel
theorem fn_8_0 : ffn 8 0 = false := by decide +kernel
theorem fg_8_1 : ftg 8 1 = 0 := by decide +kernel
theorem fn_8_1 : ffn 8 1 = false := by decide +kernel
theorem fg_8_2 : ftg 8 2 = 2 := by decide +kernel
theorem fn_8_2 : ffn 8 2 = true := by decide +kernel
theorem fg_9_0 : ftg 9 0 = 0 := by decide +kernel
theorem fn_9_0 : ffn 9 0 = false := by decide +kernel
theorem fg_9_1 : ftg 9 1 = 0 := by decide +kernel
theorem fn_9_1 : ffn 9 1 = false := by decide +kernel
theorem fg_9_2 : ftg 9 2 = 0 := by decide +kernel
theorem fn_9_2 : ffn 9 2 = false := by decide +kernel
theorem fg_9_3 : ftg 9 3 = 2 := by decide +kernel
theorem fn_9_3 : ffn 9 3 = true := by decide +kernel
theorem fg_10_0 : ftg 10 0 = 2 := by decide +kernel
theorem fn_10_0 : ffn 10 0 = true := by decide +kernel
theorem fg_10_1 : ftg 10 1 = 2 := by decide +kernel
theorem fn_10_1 : ffn 10 1 = true := by decide +kernel
theorem fg_10_2 : ftg 10 2 = 3 := by decide +kernel
theorem fn_10_2 : ffn 10 2 = false := by decide +kernel
theorem fg_10_3 : ftg 10 3 = 2 := by decide +kernel
theorem fn_10_3 : ffn 10 3 = true := by decide +kernel
theorem fg_10_4 : ftg 10 4 = 2 := by decide +kernel
theorem fn_10_4 : ffn 10 4 = true := by decide +kernel
theorem fg_10_5 : ftg 10 5 = 0 := by decide +kernel
theorem fn_10_5 : ffn 10 5 = false := by decide +kernel
theorem fg_10_6 : ftg 10 6 = 2 := by decide +kernel
theorem fn_10_6 : ffn 10 6 = true := by decide +kernel
theorem fg_10_7 : ftg 10 7 = 2 := by decide +kernel
theorem fn_10_7 : ffn 10 7 = true := by decide +kernel
theorem fg_10_8 : ftg 10 8 = 2 := by decide +kernel
theorem fn_10_8 : ffn 10 8 = true := by decide +kernel
theorem fg_10_9 : ftg 10 9 = 2 := by decide +kernel
theorem fn_10_9 : ffn 10 9 = true := by decide +kernel
theorem fg_10_10 : ftg 10 10 = 2 := by decide +kernel
theorem fn_10_10 : ffn 10 10 = true := by decide +kernel
theorem fg_11_0 : ftg 11 0 = 0 := by decide +kernel
theorem fn_11_0 : ffn 11 0 = false := by decide +kernel
theorem fg_11_1 : ftg 11 1 = 2 := by decide +kernel
theorem fn_11_1 : ffn 11 1 = true := by decide +kernel
theorem fg_11_2 : ftg 11 2 = 2 := by decide +kernel
theorem fn_11_2 : ffn 11 2 = true := by decide +kernel
theorem fg_11_3 : ftg 11 3 = 2 := by decide +kernel
theorem fn_11_3 : ffn 11 3 = true := by decide +kernel
theorem fg_11_4 : ftg 11 4 = 2 := by decide +kernel
theorem fn_11_4 : ffn 11 4 = true := by decide +kernel
theorem fg_11_5 : ftg 11 5 = 0 := by decide +kernel
theorem fn_11_5 : ffn 11 5 = false := by decide +kernel
theorem fg_11_6 : ftg 11 6 = 0 := by decide +kernel
theorem fn_11_6 : ffn 11 6 = false := by decide +kernel
theorem fg_11_7 : ftg 11 7 = 0 := by decide +kernel
theorem fn_11_7 : ffn 11 7 = false := by decide +kernel
theorem fg_11_8 : ftg 11 8 = 0 := by decide +kernel
theorem fn_11_8 : ffn 11 8 = false := by decide +kernel
theorem fg_11_9 : ftg 11 9 = 2 := by decide +kernel
theorem fn_11_9 : ffn 11 9 = true := by decide +kernel
theorem fg_11_10 : ftg 11 10 = 2 := by decide +kernel
theorem fn_11_10 : ffn 11 10 = true := by decide +kernel
theorem fg_11_11 : ftg 11 11 = 2 := by decide +kernel
theorem fn_11_11 : ffn 11 11 = true := by decide +kernel
theorem fg_11_12 : ftg 11 12 = 2 := by decide +kernel
theorem fn_11_12 : ffn 11 12 = true := by decide +kernel
theorem fg_11_13 : ftg 11 13 = 2 := by decide +kernel
theorem fn_11_13 : ffn 11 13 = true := by decide +kernel
theorem fg_11_14 : ftg 11 14 = 2 := by decide +kernel
theorem fn_11_14 : ffn 11 14 = true := by decide +kernel
theorem fg_11_15 : ftg 11 15 = 2 := by decide +kernel
theorem fn_11_15 : ffn 11 15 = true := by decide +kernel
theorem fg_11_16 : ftg 11 16 = 2 := by decide +kernel
theorem fn_11_16 : ffn 11 16 = true := by decide +kernel
theorem fg_11_17 : ftg 11 17 = 0 := by decide +kernel
theorem fn_11_17 : ffn 11 17 = false := by decide +kernel
theorem fg_11_18 : ftg 11 18 = 0 := by decide +kernel
theorem fn_11_18 : ffn 11 18 = false := by decide +kernel
theorem fg_11_19 : ftg 11 19 = 0 := by decide +kernel
theorem fn_11_19 : ffn 11 19 = false := by decide +kernel
theorem fg_11_20 : ftg 11 20 = 2 := by decide +kernel
theorem fn_11_20 : ffn 11 20 = true := by decide +kernel
theorem fg_11_21 : ftg 11 21 = 2 := by decide +kernel
theorem fn_11_21 : ffn 11 21 = true := by decide +kernel
theorem fg_11_22 : ftg 11 22 = 0 := by decide +kernel
theorem fn_11_22 : ffn 11 22 = false := by decide +kernel
theorem fg_11_23 : ftg 11 23 = 2 := by decide +kernel
theorem fn_11_23 : ffn 11 23 = true := by decide +kernel
theorem fg_11_24 : ftg 11 24 = 2 := by decide +kernel
theorem fn_11_24 : ffn 11 24 = true := by decide +kernel
theorem fg_11_25 : ftg 11 25 = 2 := by decide +kernel
theorem fn_11_25 : ffn 11 25 = true := by decide +kernel
theorem fg_11_26 : ftg 11 26 = 2 := by decide +kernel
theorem fn_11_26 : ffn 11 26 = true := by decide +kernel
theorem fg_11_27 : ftg 11 27 = 2 := by decide +kernel
theorem fn_11_27 : ffn 11 27 = true := by decide +kernel
theorem fg_11_28 : ftg 11 28 = 2 := by decide +kernel
theorem fn_11_28 : ffn 11 28 = true := by decide +kernel
theorem fg_11_29 : ftg 11 29 = 0 := by decide +kernel
theorem fn_11_29 : ffn 11 29 = false := by decide +kernel
theorem fg_11_30 : ftg 11 30 = 0 := by decide +kernel
theorem fn_11_30 : ffn 11 30 = false := by decide +kernel
theorem fg_11_31 : ftg 11 31 = 0 := by decide +kernel
theorem fn_11_31 : ffn 11 31 = false := by decide +kernel
theorem fg_11_32 : ftg 11 32 = 2 := by decide +kernel
theorem fn_11_32 : ffn 11 32 = true := by decide +kernel
theorem fg_11_33 : ftg 11 33 = 2 := by decide +kernel
theorem fn_11_33 : ffn 11 33 = true := by decide +kernel
theorem fg_11_34 : ftg 11 34 = 0 := by decide +kernel
theorem fn_11_34 : ffn 11 34 = false := by decide +kernel
theorem fg_11_35 : ftg 11 35 = 2 := by decide +kernel
theorem fn_11_35 : ffn 11 35 = true := by decide +kernel
theorem fg_11_36 : ftg 11 36 = 2 := by decide +kernel
theorem fn_11_36 : ffn 11 36 = true := by decide +kernel
theorem fg_11_37 : ftg 11 37 = 0 := by decide +kernel
theorem fn_11_37 : ffn 11 37 = false := by decide +kernel
theorem fg_11_38 : ftg 11 38 = 0 := by decide +kernel
theorem fn_11_38 : ffn 11 38 = false := by decide +kernel
theorem fg_11_39 : ftg 11 39 = 2 := by decide +kernel
theorem fn_11_39 : ffn 11 39 = true := by decide +kernel
theorem fg_11_40 : ftg 11 40 = 2 := by decide +kernel
theorem fn_11_40 : ffn 11 40 = true := by decide +kernel
theorem fg_11_41 : ftg 11 41 = 2 := by decide +kernel
theorem fn_11_41 : ffn 11 41 = true := by decide +kernel
theorem fg_11_42 : ftg 11 42 = 2 := by decide +kernel
theorem fn_11_42 : ffn 11 42 = true := by decide +kernel
theorem fg_11_43 : ftg 11 43 = 2 := by decide +kernel
theorem fn_11_43 : ffn 11 43 = true := by decide +kernel
theorem fg_11_44 : ftg 11 44 = 3 := by decide +kernel
theorem fn_11_44 : ffn 11 44 = false := by decide +kernel
theorem fg_11_45 : ftg 11 45 = 0 := by decide +kernel
theorem fn_11_45 : ffn 11 45 = false := by decide +kernel
theorem fg_11_46 : ftg 11 46 = 0 := by decide +kernel
theorem fn_11_46 : ffn 11 46 = false := by decide +kernel
theorem fg_11_47 : ftg 11 47 = 0 := by decide +kernel
theorem fn_11_47 : ffn 11 47 = false := by decide +kernel
theorem fg_11_48 : ftg 11 48 = 0 := by decide +kernel
theorem fn_11_48 : ffn 11 48 = false := by decide +kernel
theorem fg_11_49 : ftg 11 49 = 0 := by decide +kernel
theorem fn_11_49 : ffn 11 49 = false := by decide +kernel
theorem fg_11_50 : ftg 11 50 = 2 := by decide +kernel
theorem fn_11_50 : ffn 11 50 = true := by decide +kernel
theorem fg_11_51 : ftg 11 51 = 2 := by decide +kernel
theorem fn_11_51 : ffn 11 51 = true := by decide +kernel
theorem fg_11_52 : ftg 11 52 = 2 := by decide +kernel
theorem fn_11_52 : ffn 11 52 = true := by decide +kernel
theorem fg_11_53 : ftg 11 53 = 2 := by decide +kernel
theorem fn_11_53 : ffn 11 53 = true := by decide +kernel
theorem fg_11_54 : ftg 11 54 = 2 := by decide +kernel
theorem fn_11_54 : ffn 11 54 = true := by decide +kernel
theorem fg_11_55 : ftg 11 55 = 2 := by decide +kernel
theorem fn_11_55 : ffn 11 55 = true := by decide +kernel
theorem fg_11_56 : ftg 11 56 = 2 := by decide +kernel
theorem fn_11_56 : ffn 11 56 = true := by decide +kernel
theorem fg_11_57 : ftg 11 57 = 2 := by decide +kernel
theorem fn_11_57 : ffn 11 57 = true := by decide +kernel
theorem fg_11_58 : ftg 11 58 = 2 := by decide +kernel
theorem fn_11_58 : ffn 11 58 = true := by decide +kernel
theorem fg_11_59 : ftg 11 59 = 2 := by decide +kernel
theorem fn_11_59 : ffn 11 59 = true := by decide +kernel
theorem fg_11_60 : ftg 11 60 = 2 := by decide +kernel
theorem fn_11_60 : ffn 11 60 = true := by decide +kernel
theorem fg_11_61 : ftg 11 61 = 2 := by decide +kernel
theorem fn_11_61 : ffn 11 61 = true := by decide +kernel
theorem fg_11_62 : ftg 11 62 = 2 := by decide +kernel
theorem fn_11_62 : ffn 11 62 = true := by decide +kernel
theorem fg_11_63 : ftg 11 63 = 0 := by decide +kernel
theorem fn_11_63 : ffn 11 63 = false := by decide +kernel
theorem fg_11_64 : ftg 11 64 = 2 := by decide +kernel
theorem fn_11_64 : ffn 11 64 = true := by decide +kernel
theorem fg_11_65 : ftg 11 65 = 2 := by decide +kernel
theorem fn_11_65 : ffn 11 65 = true := by decide +kernel
theorem fg_11_66 : ftg 11 66 = 2 := by decide +kernel
theorem fn_11_66 : ffn 11 66 = true := by decide +kernel
theorem fg_11_67 : ftg 11 67 = 2 := by decide +kernel
theorem fn_11_67 : ffn 11 67 = true := by decide +kernel
theorem fg_11_68 : ftg 11 68 = 2 := by decide +kernel
theorem fn_11_68 : ffn 11 68 = true := by decide +kernel
theorem sh_0 (m : PM) (d : List (Nat × Nat)) (L : Nat) : shp (m, (none, (d, L))) 0 = (0, 10) := Eq.trans rfl rfl
theorem sh_1 (m : PM) (d : List (Nat × Nat)) (L : Nat) : shp (m, (none, (d, L))) 1 = (0, 6) := Eq.trans rfl rfl
theorem sh_2 (m : PM) (d : List (Nat × Nat)) (L : Nat) : shp (m, (none, (d, L))) 2 = (0, 4) := Eq.trans rfl rfl
theorem sh_3 (m : PM) (d : List (Nat × Nat)) (L : Nat) : shp (m, (none, (d, L))) 3 = (1, 12) := Eq.trans rfl rfl
theorem sh_4 (m : PM) (d : List (Nat × Nat)) (L : Nat) : shp (m, (none, (d, L))) 4 = (4, 5) := Eq.trans rfl rfl
theorem sh_5 (m : PM) (d : List (Nat × Nat)) (L : Nat) : shp (m, (none, (d, L))) 5 = (0, 3) := Eq.trans rfl rfl
theorem sh_6 (m : PM) (d : List (Nat × Nat)) (L : Nat) : shp (m, (none, (d, L))) 6 = (1, 5) := Eq.trans rfl rfl
theorem sh_7 (m : PM) (d : List (Nat × Nat)) (L : Nat) : shp (m, (none, (d, L))) 7 = (1, 5) := Eq.trans rfl rfl
theorem sh_8 (m : PM) (d : List (Nat × Nat)) (L : Nat) : shp (m, (none, (d, L))) 8 = (1, 5) := Eq.trans rfl rfl
theorem sh_9 (m : PM) (d : List (Nat × Nat)) (L : Nat) : shp (m, (none, (d, L))) 9 = (0, 3) := Eq.trans rfl rfl
theorem sh_10 (m : PM) (d : List (Nat × Nat)) (L : Nat) : shp (m, (none, (d, L))) 10 = (1, 6) := Eq.trans rfl rfl
theorem sh_11 (m : PM) (d : List (Nat × Nat)) (L : Nat) : shp (m, (none, (d, L))) 11 = (1, 6) := Eq.trans rfl rfl
theorem sh_12 (m : PM) (d : List (Nat × Nat)) (L : Nat) : shp (m, (none, (d, L))) 12 = (1, 6) := Eq.trans rfl rfl
theorem sh_13 (m : PM) (d : List (Nat × Nat)) (L : Nat) : shp (m, (none, (d, L))) 13 = (0, 3) := Eq.trans rfl rfl
theorem sh_14 (m : PM) (d : List (Nat × Nat)) (L : Nat) : shp (m, (none, (d, L))) 14 = (1, 8) := Eq.trans rfl rfl
theorem sh_15 (m : PM) (d : List (Nat × Nat)) (L : Nat) : shp (m, (none, (d, L))) 15 = (1, 8) := Eq.trans rfl rfl
theorem sh_16 (m : PM) (d : List (Nat × Nat)) (L : Nat) : shp (m, (none, (d, L))) 16 = (1, 8) := Eq.trans rfl rfl
theorem sh_17 (m : PM) (d : List (Nat × Nat)) (L : Nat) : shp (m, (none, (d, L))) 17 = (0, 9) := Eq.trans rfl rfl
theorem sh_18 (m : PM) (d : List (Nat × Nat)) (L : Nat) : shp (m, (none, (d, L))) 18 = (1, 4) := Eq.trans rfl rfl
theorem sh_19 (m : PM) (d : List (Nat × Nat)) (L : Nat) : shp (m, (none, (d, L))) 19 = (0, 9) := Eq.trans rfl rfl
theorem sh_20 (m : PM) (d : List (Nat × Nat)) (L : Nat) : shp (m, (none, (d, L))) 20 = (1, 4) := Eq.trans rfl rfl
theorem sh_21 (m : PM) (d : List (Nat × Nat)) (L : Nat) : shp (m, (none, (d, L))) 21 = (0, 9) := Eq.trans rfl rfl
theorem sh_22 (m : PM) (d : List (Nat × Nat)) (L : Nat) : shp (m, (none, (d, L))) 22 = (1, 4) := Eq.trans rfl rfl
theorem sh_23 (m : PM) (d : List (Nat × Nat)) (L : Nat) : shp (m, (none, (d, L))) 23 = (0, 9) := Eq.trans rfl rfl
theorem sh_24 (m : PM) (d : List (Nat × Nat)) (L : Nat) : shp (m, (none, (d, L))) 24 = (1, 4) := Eq.trans rfl rfl
theorem sh_25 (m : PM) (d : List (Nat × Nat)) (L : Nat) : shp (m, (none, (d, L))) 25 = (0, 9) := Eq.trans rfl rfl
theorem sh_26 (m : PM) (d : List (Nat × Nat)) (L : Nat) : shp (m, (none, (d, L))) 26 = (1, 4) := Eq.trans rfl rfl
theorem sh_27 (m : PM) (d : List (Nat × Nat)) (L : Nat) : shp (m, (none, (d, L))) 27 = (0, 6) := Eq.trans rfl rfl
theorem sh_28 (m : PM) (d : List (Nat × Nat)) (L : Nat) : shp (m, (none, (d, L))) 28 = (0, 4) := Eq.trans rfl rfl
theorem sh_29 (m : PM) (d : List (Nat × Nat)) (L : Nat) : shp (m, (none, (d, L))) 29 = (1, 12) := Eq.trans rfl rfl
theorem sh_30 (m : PM) (d : List (Nat × Nat)) (L : Nat) : shp (m, (none, (d, L))) 30 = (4, 5) := Eq.trans rfl rfl
theorem sh_31 (m : PM) (d : List (Nat × Nat)) (L : Nat) : shp (m, (none, (d, L))) 31 = (0, 3) := Eq.trans rfl rfl
theorem sh_32 (m : PM) (d : List (Nat × Nat)) (L : Nat) : shp (m, (none, (d, L))) 32 = (1, 5) := Eq.trans rfl rfl
theorem sh_33 (m : PM) (d : List (Nat × Nat)) (L : Nat) : shp (m, (none, (d, L))) 33 = (1, 5) := Eq.trans rfl rfl
theorem sh_34 (m : PM) (d : List (Nat × Nat)) (L : Nat) : shp (m, (none, (d, L))) 34 = (1, 5) := Eq.trans rfl rfl
theorem sh_35 (m : PM) (d : List (Nat × Nat)) (L : Nat) : shp (m, (none, (d, L))) 35 = (0, 3) := Eq.trans rfl rfl
theorem sh_36 (m : PM) (d : List (Nat × Nat)) (L : Nat) : shp (m, (none, (d, L))) 36 = (1, 6) := Eq.trans rfl rfl
theorem sh_37 (m : PM) (d : List (Nat × Nat)) (L : Nat) : shp (m, (none, (d, L))) 37 = (1, 6) := Eq.trans rfl rfl
theorem sh_38 (m : PM) (d : List (Nat × Nat)) (L : Nat) : shp (m, (none, (d, L))) 38 = (1, 6) := Eq.trans rfl rfl
theorem sh_39 (m : PM) (d : List (Nat × Nat)) (L : Nat) : shp (m, (none, (d, L))) 39 = (0, 3) := Eq.trans rfl rfl
theorem sh_40 (m : PM) (d : List (Nat × Nat)) (L : Nat) : shp (m, (none, (d, L))) 40 = (1, 8) := Eq.trans rfl rfl
theorem sh_41 (m : PM) (d : List (Nat × Nat)) (L : Nat) : shp (m, (none, (d, L))) 41 = (1, 8) := Eq.trans rfl rfl
theorem sh_42 (m : PM) (d : List (Nat × Nat)) (L : Nat) : shp (m, (none, (d, L))) 42 = (1, 8) := Eq.trans rfl rfl
theorem sh_43 (m : PM) (d : List (Nat × Nat)) (L : Nat) : shp (m, (none, (d, L))) 43 = (0, 9) := Eq.trans rfl rfl
theorem sh_44 (m : PM) (d : List (Nat × Nat)) (L : Nat) : shp (m, (none, (d, L))) 44 = (1, 4) := Eq.trans rfl rfl
theorem sh_45 (m : PM) (d : List (Nat × Nat)) (L : Nat) : shp (m, (none, (d, L))) 45 = (0, 9) := Eq.trans rfl rfl
theorem sh_46 (m : PM) (d : List (Nat × Nat)) (L : Nat) : shp (m, (none, (d, L))) 46 = (1, 4) := Eq.trans rfl rfl
theorem sh_47 (m : PM) (d : List (Nat × Nat)) (L : Nat) : shp (m, (none, (d, L))) 47 = (0, 9) := Eq.trans rfl rfl
theorem sh_48 (m : PM) (d : List (Nat × Nat)) (L : Nat) : shp (m, (none, (d, L))) 48 = (1, 4) := Eq.trans rfl rfl
theorem sh_49 (m : PM) (d : List (Nat × Nat)) (L : Nat) : shp (m, (none, (d, L))) 49 = (0, 9) := Eq.trans rfl rfl
theorem sh_50 (m : PM) (d : List (Nat × Nat)) (L : Nat) : shp (m, (none, (d, L))) 50 = (1, 4) := Eq.trans rfl rfl
theorem sh_51 (m : PM) (d : List (Nat × Nat)) (L : Nat) : shp (m, (none, (d, L))) 51 = (0, 9) := Eq.trans rfl rfl
theorem sh_52 (m : PM) (d : List (Nat × Nat)) (L : Nat) : shp (m, (none, (d, L))) 52 = (1, 4) := Eq.trans rfl rfl
theorem sh_53 (m : PM) (d : List (Nat × Nat)) (L : Nat) : shp (m, (none, (d, L))) 53 = (0, 5) := Eq.trans rfl rfl
theorem sh_54 (m : PM) (d : List (Nat × Nat)) (L : Nat) : shp (m, (none, (d, L))) 54 = (1, 100) := Eq.trans rfl rfl
theorem sh_55 (m : PM) (d : List (Nat × Nat)) (L : Nat) : shp (m, (none, (d, L))) 55 = (0, 7) := Eq.trans rfl rfl
theorem sh_56 (m : PM) (d : List (Nat × Nat)) (L : Nat) : shp (m, (none, (d, L))) 56 = (1, 100) := Eq.trans rfl rfl
theorem sh_57 (m : PM) (d : List (Nat × Nat)) (L : Nat) : shp (m, (none, (d, L))) 57 = (0, 7) := Eq.trans rfl rfl
theorem sh_58 (m : PM) (d : List (Nat × Nat)) (L : Nat) : shp (m, (none, (d, L))) 58 = (1, 100) := Eq.trans rfl rfl
theorem sh_59 (m : PM) (d : List (Nat × Nat)) (L : Nat) : shp (m, (none, (d, L))) 59 = (6, 6) := Eq.trans rfl rfl
theorem sh_60 (m : PM) (d : List (Nat × Nat)) (L : Nat) : shp (m, (none, (d, L))) 60 = (0, 1) := Eq.trans rfl rfl
theorem sh_61 (m : PM) (d : List (Nat × Nat)) (L : Nat) : shp (m, (none, (d, L))) 61 = (1, 12) := Eq.trans rfl rfl
theorem sh_62 (m : PM) (d : List (Nat × Nat)) (L : Nat) : shp (m, (none, (d, L))) 62 = (0, 4) := Eq.trans rfl rfl
theorem sh_63 (m : PM) (d : List (Nat × Nat)) (L : Nat) : shp (m, (none, (d, L))) 63 = (1, 12) := Eq.trans rfl rfl
theorem sh_64 (m : PM) (d : List (Nat × Nat)) (L : Nat) : shp (m, (none, (d, L))) 64 = (0, 4) := Eq.trans rfl rfl
theorem sh_65 (m : PM) (d : List (Nat × Nat)) (L : Nat) : shp (m, (none, (d, L))) 65 = (1, 12) := Eq.trans rfl rfl
theorem sh_66 (m : PM) (d : List (Nat × Nat)) (L : Nat) : shp (m, (none, (d, L))) 66 = (0, 0) := Eq.trans rfl rfl
theorem sh_67 (m : PM) (d : List (Nat × Nat)) (L : Nat) : shp (m, (none, (d, L))) 67 = (1, 20) := Eq.trans rfl rfl
theorem sh_68 (m : PM) (d : List (Nat × Nat)) (L : Nat) : shp (m, (none, (d, L))) 68 = (5, 6) := Eq.trans rfl rfl
theorem sh_69 (m : PM) (d : List (Nat × Nat)) (L : Nat) : shp (m, (none, (d, L))) 69 = (0, 8) := Eq.trans rfl rfl
theorem sh_70 (m : PM) (d : List (Nat × Nat)) (L : Nat) : shp (m, (none, (d, L))) 70 = (3, 60) := Eq.trans rfl rfl
theorem sh_71 (m : PM) (d : List (Nat × Nat)) (L : Nat) : shp (m, (none, (d, L))) 71 = (0, 8) := Eq.trans rfl rfl
theorem sh_72 (m : PM) (d : List (Nat × Nat)) (L : Nat) : shp (m, (none, (d, L))) 72 = (3, 60) := Eq.trans rfl rfl
theorem sh_73 (m : PM) (d : List (Nat × Nat)) (L : Nat) : shp (m, (none, (d, L))) 73 = (0, 8) := Eq.trans rfl rfl
theorem sh_74 (m : PM) (d : List (Nat × Nat)) (L : Nat) : shp (m, (none, (d, L))) 74 = (3, 60) := Eq.trans rfl rfl
theorem sh_75 (m : PM) (d : List (Nat × Nat)) (L : Nat) : shp (m, (none, (d, L))) 75 = (0, 8) := Eq.trans rfl rfl
theorem sh_76 (m : PM) (d : List (Nat × Nat)) (L : Nat) : shp (m, (none, (d, L))) 76 = (3, 60) := Eq.trans rfl rfl
theorem sh_77 (m : PM) (d : List (Nat × Nat)) (L : Nat) : shp (m, (none, (d, L))) 77 = (0, 8) := Eq.trans rfl rfl
theorem sh_78 (m : PM) (d : List (Nat × Nat)) (L : Nat) : shp (m, (none, (d, L))) 78 = (3, 60) := Eq.trans rfl rfl
theorem sh_79 (m : PM) (d : List (Nat × Nat)) (L : Nat) : shp (m, (none, (d, L))) 79 = (0, 8) := Eq.trans rfl rfl
theorem sh_80 (m : PM) (d : List (Nat × Nat)) (L : Nat) : shp (m, (none, (d, L))) 80 = (3, 60) := Eq.trans rfl rfl
theorem sh_81 (m : PM) (d : List (Nat × Nat)) (L : Nat) : shp (m, (none, (d, L))) 81 = (0, 11) := Eq.trans rfl rfl
theorem sh_82 (m : PM) (d : List (Nat × Nat)) (L : Nat) : shp (m, (none, (d, L))) 82 = (1, 5) := Eq.trans rfl rfl
theorem sh_83 (m : PM) (d : List (Nat × Nat)) (L : Nat) : shp (m, (none, (d, L))) 83 = (1, 5) := Eq.trans rfl rfl
theorem sh_84 (m : PM) (d : List (Nat × Nat)) (L : Nat) : shp (m, (none, (d, L))) 84 = (1, 5) := Eq.trans rfl rfl
theorem sh_85 (m : PM) (d : List (Nat × Nat)) (L : Nat) : shp (m, (none, (d, L))) 85 = (1, 20) := Eq.trans rfl rfl
theorem sh_86 (m : PM) (d : List (Nat × Nat)) (L : Nat) : shp (m, (none, (d, L))) 86 = (1, 100) := Eq.trans rfl rfl
theorem sh_87 (m : PM) (d : List (Nat × Nat)) (L : Nat) : shp (m, (none, (d, L))) 87 = (1, 6) := Eq.trans rfl rfl
theorem sh_88 (m : PM) (d : List (Nat × Nat)) (L : Nat) : shp (m, (none, (d, L))) 88 = (1, 60) := Eq.trans rfl rfl
theorem sh_89 (m : PM) (d : List (Nat × Nat)) (L : Nat) : shp (m, (none, (d, L))) 89 = (1, 60) := Eq.trans rfl rfl
theorem sh_90 (m : PM) (d : List (Nat × Nat)) (L : Nat) : shp (m, (none, (d, L))) 90 = (1, 60) := Eq.trans rfl rfl
theorem sh_91 (m : PM) (d : List (Nat × Nat)) (L : Nat) : shp (m, (none, (d, L))) 91 = (1, 60) := Eq.trans rfl rfl
theorem sh_92 (m : PM) (d : List (Nat × Nat)) (L : Nat) : shp (m, (none, (d, L))) 92 = (1, 600) := Eq.trans rfl rfl
theorem sh_93 (m : PM) (d : List (Nat × Nat)) (L : Nat) : shp (m, (none, (d, L))) 93 = (1, 101) := Eq.trans rfl rfl
theorem sh_94 (m : PM) (d : List (Nat × Nat)) (L : Nat) : shp (m, (none, (d, L))) 94 = (1, 16) := Eq.trans rfl rfl
theorem sh_95 (m : PM) (d : List (Nat × Nat)) (L : Nat) : shp (m, (none, (d, L))) 95 = (2, 100) := Eq.trans rfl rfl
theorem sh_96 (m : PM) (d : List (Nat × Nat)) (L : Nat) : shp (m, (none, (d, L))) 96 = (1, 24) := Eq.trans rfl rfl
theorem sh_97 (m : PM) (d : List (Nat × Nat)) (L : Nat) : shp (m, (none, (d, L))) 97 = (1, 24) := Eq.trans rfl rfl
theorem sh_98 (m : PM) (d : List (Nat × Nat)) (L : Nat) : shp (m, (none, (d, L))) 98 = (1, 24) := Eq.trans rfl rfl
theorem sh_99 (m : PM) (d : List (Nat × Nat)) (L : Nat) : shp (m, (none, (d, L))) 99 = (2, 24) := Eq.trans rfl rfl
theorem sh_100 (m : PM) (d : List (Nat × Nat)) (L : Nat) : shp (m, (none, (d, L))) 100 = (2, 24) := Eq.trans rfl rfl
theorem sh_101 (m : PM) (d : List (Nat × Nat)) (L : Nat) : shp (m, (none, (d, L))) 101 = (2, 24) := Eq.trans rfl rfl
theorem sh_102 (m : PM) (d : List (Nat × Nat)) (L : Nat) : shp (m, (none, (d, L))) 102 = (1, 24) := Eq.trans rfl rfl
theorem sh_103 (m : PM) (d : List (Nat × Nat)) (L : Nat) : shp (m, (none, (d, L))) 103 = (2, 24) := Eq.trans rfl rfl
theorem sh_104 (m : PM) (d : List (Nat × Nat)) (L : Nat) : shp (m, (none, (d, L))) 104 = (1, 5) := Eq.trans rfl rfl
theorem sh_105 (m : PM) (d : List (Nat × Nat)) (L : Nat) : shp (m, (none, (d, L))) 105 = (1, 5) := Eq.trans rfl rfl
theorem sh_106 (m : PM) (d : List (Nat × Nat)) (L : Nat) : shp (m, (none, (d, L))) 106 = (1, 6) := Eq.trans rfl rfl
theorem sh_107 (m : PM) (d : List (Nat × Nat)) (L : Nat) : shp (m, (none, (d, L))) 107 = (1, 6) := Eq.trans rfl rfl
theorem sh_108 (m : PM) (d : List (Nat × Nat)) (L : Nat) : shp (m, (none, (d, L))) 108 = (1, 6) := Eq.trans rfl rfl
theorem sh_109 (m : PM) (d : List (Nat × Nat)) (L : Nat) : shp (m, (none, (d, L))) 109 = (1, 8) := Eq.trans rfl rfl
theorem sh_110 (m : PM) (d : List (Nat × Nat)) (L : Nat) : shp (m, (none, (d, L))) 110 = (1, 8) := Eq.trans rfl rfl
theorem sh_111 (m : PM) (d : List (Nat × Nat)) (L : Nat) : shp (m, (none, (d, L))) 111 = (1, 24) := Eq.trans rfl rfl
theorem sh_112 (m : PM) (d : List (Nat × Nat)) (L : Nat) : shp (m, (none, (d, L))) 112 = (1, 5) := Eq.trans rfl rfl
theorem sh_113 (m : PM) (d : List (Nat × Nat)) (L : Nat) : shp (m, (none, (d, L))) 113 = (1, 5) := Eq.trans rfl rfl
theorem sh_114 (m : PM) (d : List (Nat × Nat)) (L : Nat) : shp (m, (none, (d, L))) 114 = (1, 5) := Eq.trans rfl rfl
theorem sh_115 (m : PM) (d : List (Nat × Nat)) (L : Nat) : shp (m, (none, (d, L))) 115 = (1, 20) := Eq.trans rfl rfl
theorem sh_116 (m : PM) (d : List (Nat × Nat)) (L : Nat) : shp (m, (none, (d, L))) 116 = (1, 5) := Eq.trans rfl rfl
theorem sh_117 (m : PM) (d : List (Nat × Nat)) (L : Nat) : shp (m, (none, (d, L))) 117 = (1, 5) := Eq.trans rfl rfl
theorem sh_118 (m : PM) (d : List (Nat × Nat)) (L : Nat) : shp (m, (none, (d, L))) 118 = (1, 6) := Eq.trans rfl rfl
theorem sh_119 (m : PM) (d : List (Nat × Nat)) (L : Nat) : shp (m, (none, (d, L))) 119 = (1, 6) := Eq.trans rfl rfl
theorem sh_120 (m : PM) (d : List (Nat × Nat)) (L : Nat) : shp (m, (none, (d, L))) 120 = (1, 6) := Eq.trans rfl rfl
theorem sh_121 (m : PM) (d : List (Nat × Nat)) (L : Nat) : shp (m, (none, (d, L))) 121 = (1, 8) := Eq.trans rfl rfl
theorem sh_122 (m : PM) (d : List (Nat × Nat)) (L : Nat) : shp (m, (none, (d, L))) 122 = (1, 8) := Eq.trans rfl rfl
theorem sh_123 (m : PM) (d : List (Nat × Nat)) (L : Nat) : shp (m, (none, (d, L))) 123 = (2, 24) := Eq.trans rfl rfl
theorem sh_124 (m : PM) (d : List (Nat × Nat)) (L : Nat) : shp (m, (none, (d, L))) 124 = (1, 20) := Eq.trans rfl rfl
theorem sh_125 (m : PM) (d : List (Nat × Nat)) (L : Nat) : shp (m, (none, (d, L))) 125 = (1, 6) := Eq.trans rfl rfl
theorem sh_126 (m : PM) (d : List (Nat × Nat)) (L : Nat) : shp (m, (none, (d, L))) 126 = (1, 6) := Eq.trans rfl rfl
theorem sh_127 (m : PM) (d : List (Nat × Nat)) (L : Nat) : shp (m, (none, (d, L))) 127 = (3, 360) := Eq.trans rfl rfl
theorem sh_128 (m : PM) (d : List (Nat × Nat)) (L : Nat) : shp (m, (none, (d, L))) 128 = (3, 60) := Eq.trans rfl rfl
theorem st_0_0 : stat 0 0 = some 1 := by decide +kernel
theorem st_0_1 : stat 0 1 = some 27 := by decide +kernel
theorem st_0_3 : stat 0 3 = some 53 := by decide +kernel
theorem st_0_4 : stat 0 4 = some 59 := by decide +kernel
theorem st_0_6 : stat 0 6 = some 60 := by decide +kernel
theorem st_0_7 : stat 0 7 = some 62 := by decide +kernel
theorem st_0_8 : stat 0 8 = some 64 := by decide +kernel
theorem st_0_9 : stat 0 9 = some 66 := by decide +kernel
theorem st_0_10 : stat 0 10 = some 68 := by decide +kernel
theorem st_1_0 : stat 1 0 = some 2 := by decide +kernel
theorem st_1_1 : stat 1 1 = some 4 := by decide +kernel
theorem st_1_3 : stat 1 3 = some 5 := by decide +kernel
theorem st_1_4 : stat 1 4 = some 9 := by decide +kernel
theorem st_1_5 : stat 1 5 = some 13 := by decide +kernel
theorem st_2_0 : stat 2 0 = some 3 := by decide +kernel
theorem st_4_0 : stat 4 0 = some 17 := by decide +kernel
theorem st_4_1 : stat 4 1 = some 19 := by decide +kernel
theorem st_4_2 : stat 4 2 = some 21 := by decide +kernel
theorem st_4_3 : stat 4 3 = some 23 := by decide +kernel
theorem st_4_4 : stat 4 4 = some 25 := by decide +kernel
theorem st_5_0 : stat 5 0 = some 6 := by decide +kernel
theorem st_5_1 : stat 5 1 = some 7 := by decide +kernel
theorem st_5_2 : stat 5 2 = some 8 := by decide +kernel
theorem st_9_0 : stat 9 0 = some 10 := by decide +kernel
theorem st_9_1 : stat 9 1 = some 11 := by decide +kernel
theorem st_9_2 : stat 9 2 = some 12 := by decide +kernel
theorem st_13_0 : stat 13 0 = some 14 := by decide +kernel
theorem st_13_1 : stat 13 1 = some 15 := by decide +kernel
theorem st_13_2 : stat 13 2 = some 16 := by decide +kernel
theorem st_17_3 : stat 17 3 = some 18 := by decide +kernel
theorem st_19_3 : stat 19 3 = some 20 := by decide +kernel
theorem st_21_3 : stat 21 3 = some 22 := by decide +kernel
theorem st_23_3 : stat 23 3 = some 24 := by decide +kernel
theorem st_25_3 : stat 25 3 = some 26 := by decide +kernel
theorem st_27_0 : stat 27 0 = some 28 := by decide +kernel
theorem st_27_1 : stat 27 1 = some 30 := by decide +kernel
theorem st_27_3 : stat 27 3 = some 31 := by decide +kernel
theorem st_27_4 : stat 27 4 = some 35 := by decide +kernel
theorem st_27_5 : stat 27 5 = some 39 := by decide +kernel
theorem st_28_0 : stat 28 0 = some 29 := by decide +kernel
theorem st_30_0 : stat 30 0 = some 43 := by decide +kernel
theorem st_30_1 : stat 30 1 = some 45 := by decide +kernel
theorem st_30_2 : stat 30 2 = some 47 := by decide +kernel
theorem st_30_3 : stat 30 3 = some 49 := by decide +kernel
theorem st_30_4 : stat 30 4 = some 51 := by decide +kernel
theorem st_31_0 : stat 31 0 = some 32 := by decide +kernel
theorem st_31_1 : stat 31 1 = some 33 := by decide +kernel
theorem st_31_2 : stat 31 2 = some 34 := by decide +kernel
theorem st_35_0 : stat 35 0 = some 36 := by decide +kernel
theorem st_35_1 : stat 35 1 = some 37 := by decide +kernel
theorem st_35_2 : stat 35 2 = some 38 := by decide +kernel
theorem st_39_0 : stat 39 0 = some 40 := by decide +kernel
theorem st_39_1 : stat 39 1 = some 41 := by decide +kernel
theorem st_39_2 : stat 39 2 = some 42 := by decide +kernel
theorem st_43_3 : stat 43 3 = some 44 := by decide +kernel
theorem st_45_3 : stat 45 3 = some 46 := by decide +kernel
theorem st_47_3 : stat 47 3 = some 48 := by decide +kernel
theorem st_49_3 : stat 49 3 = some 50 := by decide +kernel
theorem st_51_3 : stat 51 3 = some 52 := by decide +kernel
theorem st_53_0 : stat 53 0 = some 54 := by decide +kernel
theorem st_53_5 : stat 53 5 = some 55 := by decide +kernel
theorem st_53_6 : stat 53 6 = some 57 := by decide +kernel
theorem st_55_0 : stat 55 0 = some 56 := by decide +kernel
theorem st_57_0 : stat 57 0 = some 58 := by decide +kernel
theorem st_60_0 : stat 60 0 = some 61 := by decide +kernel
theorem st_62_0 : stat 62 0 = some 63 := by decide +kernel
theorem st_64_0 : stat 64 0 = some 65 := by decide +kernel
theorem st_66_0 : stat 66 0 = some 67 := by decide +kernel
theorem st_68_0 : stat 68 0 = some 69 := by decide +kernel
theorem st_68_1 : stat 68 1 = some 71 := by decide +kernel
theorem st_68_2 : stat 68 2 = some 73 := by decide +kernel
theorem st_68_3 : stat 68 3 = some 75 := by decide +kernel
theorem st_68_4 : stat 68 4 = some 77 := by decide +kernel
theorem st_68_5 : stat 68 5 = some 79 := by decide +kernel
theorem st_69_2 : stat 69 2 = some 70 := by decide +kernel
theorem st_71_2 : stat 71 2 = some 72 := by decide +kernel
theorem st_73_2 : stat 73 2 = some 74 := by decide +kernel
theorem st_75_2 : stat 75 2 = some 76 := by decide +kernel
theorem st_77_2 : stat 77 2 = some 78 := by decide +kernel
theorem st_79_2 : stat 79 2 = some 80 := by decide +kernel
theorem st_81_1 : stat 81 1 = some 82 := by decide +kernel
theorem st_81_2 : stat 81 2 = some 83 := by decide +kernel
theorem st_81_3 : stat 81 3 = some 84 := by decide +kernel
theorem st_81_4 : stat 81 4 = some 85 := by decide +kernel
theorem st_81_9 : stat 81 9 = some 86 := by decide +kernel
theorem st_81_10 : stat 81 10 = some 87 := by decide +kernel
theorem st_81_11 : stat 81 11 = some 88 := by decide +kernel
theorem st_81_12 : stat 81 12 = some 89 := by decide +kernel
theorem st_81_13 : stat 81 13 = some 90 := by decide +kernel
theorem st_81_14 : stat 81 14 = some 91 := by decide +kernel
theorem st_81_15 : stat 81 15 = some 92 := by decide +kernel
theorem st_81_16 : stat 81 16 = some 93 := by decide +kernel
theorem st_81_20 : stat 81 20 = some 94 := by decide +kernel
theorem st_81_21 : stat 81 21 = some 95 := by decide +kernel
theorem st_81_23 : stat 81 23 = some 96 := by decide +kernel
theorem st_81_24 : stat 81 24 = some 97 := by decide +kernel
theorem st_81_25 : stat 81 25 = some 98 := by decide +kernel
theorem st_81_26 : stat 81 26 = some 99 := by decide +kernel
theorem st_81_27 : stat 81 27 = some 100 := by decide +kernel
theorem st_81_28 : stat 81 28 = some 101 := by decide +kernel
theorem st_81_32 : stat 81 32 = some 102 := by decide +kernel
theorem st_81_33 : stat 81 33 = some 103 := by decide +kernel
theorem st_81_35 : stat 81 35 = some 104 := by decide +kernel
theorem st_81_36 : stat 81 36 = some 105 := by decide +kernel
theorem st_81_39 : stat 81 39 = some 106 := by decide +kernel
theorem st_81_40 : stat 81 40 = some 107 := by decide +kernel
theorem st_81_41 : stat 81 41 = some 108 := by decide +kernel
theorem st_81_42 : stat 81 42 = some 109 := by decide +kernel
theorem st_81_43 : stat 81 43 = some 110 := by decide +kernel
theorem st_81_50 : stat 81 50 = some 111 := by decide +kernel
theorem st_81_51 : stat 81 51 = some 112 := by decide +kernel
theorem st_81_52 : stat 81 52 = some 113 := by decide +kernel
theorem st_81_53 : stat 81 53 = some 114 := by decide +kernel
theorem st_81_54 : stat 81 54 = some 115 := by decide +kernel
theorem st_81_55 : stat 81 55 = some 116 := by decide +kernel
theorem st_81_56 : stat 81 56 = some 117 := by decide +kernel
theorem st_81_57 : stat 81 57 = some 118 := by decide +kernel
theorem st_81_58 : stat 81 58 = some 119 := by decide +kernel
theorem st_81_59 : stat 81 59 = some 120 := by decide +kernel
theorem st_81_60 : stat 81 60 = some 121 := by decide +kernel
theorem st_81_61 : stat 81 61 = some 122 := by decide +kernel
theorem st_81_62 : stat 81 62 = some 123 := by decide +kernel
theorem st_81_64 : stat 81 64 = some 124 := by decide +kernel
theorem st_81_65 : stat 81 65 = some 125 := by decide +kernel
theorem st_81_66 : stat 81 66 = some 126 := by decide +kernel
theorem st_81_67 : stat 81 67 = some 127 := by decide +kernel
theorem st_81_68 : stat 81 68 = some 128 := by decide +kernel
