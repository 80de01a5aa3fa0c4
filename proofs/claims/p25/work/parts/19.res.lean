theorem C0_3 : zCall 0 3 = some (6, 0, 0) := by decide +kernel
theorem C0_25 : zCall 0 25 = some (7, 0, 5) := by decide +kernel
theorem C1_3 : zCall 1 3 = some (6, 0, 0) := by decide +kernel
theorem C1_31 : zCall 1 31 = some (8, 0, 2) := by decide +kernel
theorem C1_46 : zCall 1 46 = some (1, 16, 1) := by decide +kernel
theorem C1_52 : zCall 1 52 = some (0, 6, 2) := by decide +kernel
theorem C1_59 : zCall 1 59 = some (1, 7, 2) := by decide +kernel
theorem C1_67 : zCall 1 67 = some (1, 17, 1) := by decide +kernel
theorem C1_70 : zCall 1 70 = some (1, 9, 2) := by decide +kernel
theorem C1_86 : zCall 1 86 = some (1, 8, 3) := by decide +kernel
theorem C1_99 : zCall 1 99 = some (1, 2, 3) := by decide +kernel
theorem C2_3 : zCall 2 3 = some (6, 0, 0) := by decide +kernel
theorem C2_17 : zCall 2 17 = some (4, 37, 0) := by decide +kernel
theorem C2_25 : zCall 2 25 = some (1, 38, 1) := by decide +kernel
theorem C3_3 : zCall 3 3 = some (6, 0, 0) := by decide +kernel
theorem C3_28 : zCall 3 28 = some (1, 14, 1) := by decide +kernel
theorem C3_32 : zCall 3 32 = some (8, 0, 2) := by decide +kernel
theorem C3_38 : zCall 3 38 = some (9, 0, 2) := by decide +kernel
theorem C3_41 : zCall 3 41 = some (1, 23, 2) := by decide +kernel
theorem C3_45 : zCall 3 45 = some (7, 0, 5) := by decide +kernel
theorem C4_3 : zCall 4 3 = some (6, 0, 0) := by decide +kernel
theorem C4_28 : zCall 4 28 = some (7, 0, 5) := by decide +kernel
theorem C5_3 : zCall 5 3 = some (6, 0, 0) := by decide +kernel
theorem C5_28 : zCall 5 28 = some (7, 0, 5) := by decide +kernel
theorem C6_3 : zCall 6 3 = some (6, 0, 0) := by decide +kernel
theorem C6_37 : zCall 6 37 = some (7, 0, 5) := by decide +kernel
theorem C6_43 : zCall 6 43 = some (1, 36, 2) := by decide +kernel
theorem C6_47 : zCall 6 47 = some (1, 30, 4) := by decide +kernel
theorem C7_1 : zCall 7 1 = some (6, 0, 0) := by decide +kernel
theorem C7_9 : zCall 7 9 = some (4, 25, 0) := by decide +kernel
theorem C7_18 : zCall 7 18 = some (4, 28, 0) := by decide +kernel
theorem C7_25 : zCall 7 25 = some (4, 0, 0) := by decide +kernel
theorem C7_32 : zCall 7 32 = some (4, 13, 0) := by decide +kernel
theorem C7_37 : zCall 7 37 = some (1, 27, 1) := by decide +kernel
theorem C7_41 : zCall 7 41 = some (1, 31, 1) := by decide +kernel
theorem C7_44 : zCall 7 44 = some (1, 3, 1) := by decide +kernel
theorem C7_47 : zCall 7 47 = some (1, 24, 1) := by decide +kernel
theorem C8_3 : zCall 8 3 = some (6, 0, 0) := by decide +kernel
theorem C8_11 : zCall 8 11 = some (4, 37, 0) := by decide +kernel
theorem C8_18 : zCall 8 18 = some (3, 10, 0) := by decide +kernel
theorem C8_25 : zCall 8 25 = some (4, 32, 0) := by decide +kernel
theorem C8_32 : zCall 8 32 = some (4, 4, 0) := by decide +kernel
theorem C8_39 : zCall 8 39 = some (3, 139, 0) := by decide +kernel
theorem C8_44 : zCall 8 44 = some (0, 62, 3) := by decide +kernel
theorem C8_58 : zCall 8 58 = some (1, 11, 1) := by decide +kernel
theorem C8_62 : zCall 8 62 = some (1, 26, 3) := by decide +kernel
theorem C8_66 : zCall 8 66 = some (1, 65, 1) := by decide +kernel
theorem C8_70 : zCall 8 70 = some (0, 64, 3) := by decide +kernel
theorem C8_80 : zCall 8 80 = some (1, 29, 4) := by decide +kernel
theorem C8_90 : zCall 8 90 = some (1, 1, 3) := by decide +kernel
theorem C8_91 : zCall 8 91 = some (1, 53, 2) := by decide +kernel
theorem C8_95 : zCall 8 95 = some (1, 70, 3) := by decide +kernel
theorem C8_99 : zCall 8 99 = some (1, 66, 1) := by decide +kernel
theorem C8_106 : zCall 8 106 = some (1, 22, 1) := by decide +kernel
theorem C8_113 : zCall 8 113 = some (0, 63, 1) := by decide +kernel
theorem C8_116 : zCall 8 116 = some (1, 71, 2) := by decide +kernel
theorem C8_119 : zCall 8 119 = some (1, 15, 2) := by decide +kernel
theorem C8_122 : zCall 8 122 = some (1, 5, 3) := by decide +kernel
theorem C8_133 : zCall 8 133 = some (1, 79, 1) := by decide +kernel
theorem C8_137 : zCall 8 137 = some (1, 14, 1) := by decide +kernel
theorem C8_141 : zCall 8 141 = some (1, 74, 1) := by decide +kernel
theorem C8_156 : zCall 8 156 = some (1, 80, 0) := by decide +kernel
theorem C8_165 : zCall 8 165 = some (1, 67, 2) := by decide +kernel
theorem C8_168 : zCall 8 168 = some (1, 18, 3) := by decide +kernel
theorem C8_171 : zCall 8 171 = some (8, 0, 2) := by decide +kernel
theorem C8_176 : zCall 8 176 = some (9, 0, 2) := by decide +kernel
theorem C8_179 : zCall 8 179 = some (1, 81, 1) := by decide +kernel
theorem C8_185 : zCall 8 185 = some (1, 2, 3) := by decide +kernel
theorem C8_188 : zCall 8 188 = some (1, 82, 1) := by decide +kernel
theorem C8_191 : zCall 8 191 = some (1, 145, 0) := by decide +kernel
theorem C8_194 : zCall 8 194 = some (1, 143, 1) := by decide +kernel
theorem C8_199 : zCall 8 199 = some (1, 12, 1) := by decide +kernel
theorem C8_206 : zCall 8 206 = some (1, 68, 3) := by decide +kernel
theorem C8_212 : zCall 8 212 = some (1, 69, 1) := by decide +kernel
theorem C8_215 : zCall 8 215 = some (1, 34, 3) := by decide +kernel
theorem C8_219 : zCall 8 219 = some (1, 35, 1) := by decide +kernel
theorem C8_223 : zCall 8 223 = some (1, 33, 0) := by decide +kernel
theorem C8_226 : zCall 8 226 = some (1, 20, 1) := by decide +kernel
theorem C8_229 : zCall 8 229 = some (1, 21, 5) := by decide +kernel
theorem C8_233 : zCall 8 233 = some (1, 72, 3) := by decide +kernel
theorem C8_236 : zCall 8 236 = some (1, 73, 2) := by decide +kernel
theorem C8_243 : zCall 8 243 = some (1, 75, 2) := by decide +kernel
theorem C8_247 : zCall 8 247 = some (1, 78, 1) := by decide +kernel
theorem C8_250 : zCall 8 250 = some (1, 76, 2) := by decide +kernel
theorem C8_253 : zCall 8 253 = some (1, 77, 2) := by decide +kernel
theorem C8_256 : zCall 8 256 = some (1, 19, 1) := by decide +kernel
theorem C8_259 : zCall 8 259 = some (1, 144, 1) := by decide +kernel
theorem C8_262 : zCall 8 262 = some (1, 142, 1) := by decide +kernel
theorem C8_265 : zCall 8 265 = some (1, 141, 1) := by decide +kernel
theorem C8_268 : zCall 8 268 = some (1, 83, 1) := by decide +kernel
theorem C8_273 : zCall 8 273 = some (1, 140, 1) := by decide +kernel
theorem C10_9 : zCall 10 9 = some (1, 61, 0) := by decide +kernel
theorem C10_15 : zCall 10 15 = some (1, 49, 0) := by decide +kernel
theorem C10_19 : zCall 10 19 = some (1, 40, 3) := by decide +kernel
theorem C10_23 : zCall 10 23 = some (1, 41, 4) := by decide +kernel
theorem C10_27 : zCall 10 27 = some (1, 42, 3) := by decide +kernel
theorem C10_30 : zCall 10 30 = some (1, 43, 3) := by decide +kernel
theorem C10_34 : zCall 10 34 = some (1, 44, 1) := by decide +kernel
theorem C10_38 : zCall 10 38 = some (1, 45, 2) := by decide +kernel
theorem C10_42 : zCall 10 42 = some (1, 46, 2) := by decide +kernel
theorem C10_45 : zCall 10 45 = some (1, 47, 2) := by decide +kernel
theorem C10_48 : zCall 10 48 = some (1, 48, 2) := by decide +kernel
theorem C10_51 : zCall 10 51 = some (1, 50, 2) := by decide +kernel
theorem C10_54 : zCall 10 54 = some (1, 51, 1) := by decide +kernel
theorem C10_57 : zCall 10 57 = some (1, 52, 1) := by decide +kernel
theorem C10_60 : zCall 10 60 = some (1, 53, 2) := by decide +kernel
theorem C10_63 : zCall 10 63 = some (1, 54, 1) := by decide +kernel
theorem C10_66 : zCall 10 66 = some (1, 55, 3) := by decide +kernel
theorem C10_69 : zCall 10 69 = some (1, 56, 2) := by decide +kernel
theorem C10_72 : zCall 10 72 = some (1, 57, 1) := by decide +kernel
theorem C10_75 : zCall 10 75 = some (1, 59, 2) := by decide +kernel
theorem C10_78 : zCall 10 78 = some (0, 85, 2) := by decide +kernel
theorem C10_83 : zCall 10 83 = some (1, 58, 0) := by decide +kernel
theorem C10_86 : zCall 10 86 = some (3, 39, 0) := by decide +kernel
theorem C10_87 : zCall 10 87 = some (1, 60, 0) := by decide +kernel
theorem C10_91 : zCall 10 91 = some (0, 86, 3) := by decide +kernel
theorem C10_95 : zCall 10 95 = some (0, 84, 2) := by decide +kernel
theorem C10_99 : zCall 10 99 = some (0, 88, 4) := by decide +kernel
theorem C10_103 : zCall 10 103 = some (0, 89, 3) := by decide +kernel
theorem C10_106 : zCall 10 106 = some (0, 90, 4) := by decide +kernel
theorem C10_110 : zCall 10 110 = some (0, 91, 5) := by decide +kernel
theorem C10_114 : zCall 10 114 = some (0, 87, 5) := by decide +kernel
theorem C11_1 : zCall 11 1 = some (3, 146, 1) := by decide +kernel
theorem C11_29 : zCall 11 29 = some (5, 152, 1) := by decide +kernel
theorem C11_50 : zCall 11 50 = some (5, 153, 1) := by decide +kernel
theorem C11_53 : zCall 11 53 = some (5, 154, 1) := by decide +kernel
theorem C11_329 : zCall 11 329 = some (5, 151, 1) := by decide +kernel
theorem C11_333 : zCall 11 333 = some (5, 150, 1) := by decide +kernel
theorem C11_343 : zCall 11 343 = some (5, 147, 0) := by decide +kernel
theorem C12_3 : zCall 12 3 = some (6, 0, 0) := by decide +kernel
theorem C12_32 : zCall 12 32 = some (1, 160, 0) := by decide +kernel
theorem C12_40 : zCall 12 40 = some (1, 162, 0) := by decide +kernel
theorem C12_83 : zCall 12 83 = some (2, 155, 0) := by decide +kernel
theorem C12_100 : zCall 12 100 = some (2, 148, 1) := by decide +kernel
theorem C12_104 : zCall 12 104 = some (2, 149, 1) := by decide +kernel
theorem C12_108 : zCall 12 108 = some (0, 165, 2) := by decide +kernel
theorem C12_114 : zCall 12 114 = some (0, 166, 3) := by decide +kernel
theorem C12_138 : zCall 12 138 = some (8, 0, 2) := by decide +kernel
theorem C12_144 : zCall 12 144 = some (0, 163, 2) := by decide +kernel
theorem C12_191 : zCall 12 191 = some (0, 164, 1) := by decide +kernel
theorem C12_208 : zCall 12 208 = some (2, 157, 2) := by decide +kernel
theorem C12_245 : zCall 12 245 = some (0, 159, 1) := by decide +kernel
theorem C12_248 : zCall 12 248 = some (0, 158, 3) := by decide +kernel
theorem C12_397 : zCall 12 397 = some (2, 156, 1) := by decide +kernel
theorem C12_399 : zCall 12 399 = some (1, 161, 3) := by decide +kernel
theorem C15_212 : zCall 15 212 = some (7, 0, 5) := by decide +kernel
theorem C15_335 : zCall 15 335 = some (1, 162, 0) := by decide +kernel
theorem C15_1059 : zCall 15 1059 = some (0, 167, 3) := by decide +kernel
theorem C17_150 : zCall 17 150 = some (7, 0, 5) := by decide +kernel
theorem C17_304 : zCall 17 304 = some (8, 0, 2) := by decide +kernel
theorem C18_194 : zCall 18 194 = some (9, 0, 2) := by decide +kernel
theorem F0_9 : zFld 0 9 = some (1, 1, true, 1) := by decide +kernel
theorem F0_15 : zFld 0 15 = some (1, 2, true, 1) := by decide +kernel
theorem F0_18 : zFld 0 18 = some (1, 3, true, 1) := by decide +kernel
theorem F0_21 : zFld 0 21 = some (1, 0, false, 0) := by decide +kernel
theorem F1_9 : zFld 1 9 = some (2, 0, true, 1) := by decide +kernel
theorem F1_15 : zFld 1 15 = some (2, 4, true, 1) := by decide +kernel
theorem F1_18 : zFld 1 18 = some (2, 5, true, 1) := by decide +kernel
theorem F1_21 : zFld 1 21 = some (2, 6, true, 1) := by decide +kernel
theorem F1_24 : zFld 1 24 = some (2, 7, true, 1) := by decide +kernel
theorem F1_27 : zFld 1 27 = some (2, 1, false, 0) := by decide +kernel
theorem F1_37 : zFld 1 37 = some (2, 2, false, 0) := by decide +kernel
theorem F1_40 : zFld 1 40 = some (8, 3, true, 2) := by decide +kernel
theorem F1_56 : zFld 1 56 = some (2, 3, false, 0) := by decide +kernel
theorem F1_63 : zFld 1 63 = some (8, 0, true, 2) := by decide +kernel
theorem F1_74 : zFld 1 74 = some (4, 0, false, 0) := by decide +kernel
theorem F1_77 : zFld 1 77 = some (4, 1, true, 2) := by decide +kernel
theorem F1_80 : zFld 1 80 = some (5, 1, true, 2) := by decide +kernel
theorem F1_85 : zFld 1 85 = some (5, 0, false, 0) := by decide +kernel
theorem F1_90 : zFld 1 90 = some (5, 2, true, 2) := by decide +kernel
theorem F1_92 : zFld 1 92 = some (8, 2, true, 2) := by decide +kernel
theorem F1_96 : zFld 1 96 = some (5, 3, true, 2) := by decide +kernel
theorem F2_11 : zFld 2 11 = some (3, 2, true, 1) := by decide +kernel
theorem F2_18 : zFld 2 18 = some (3, 0, false, 0) := by decide +kernel
theorem F2_22 : zFld 2 22 = some (3, 1, false, 0) := by decide +kernel
theorem F3_9 : zFld 3 9 = some (4, 1, true, 1) := by decide +kernel
theorem F3_15 : zFld 3 15 = some (4, 2, true, 1) := by decide +kernel
theorem F3_18 : zFld 3 18 = some (4, 3, true, 1) := by decide +kernel
theorem F3_21 : zFld 3 21 = some (4, 4, true, 1) := by decide +kernel
theorem F3_24 : zFld 3 24 = some (4, 0, false, 0) := by decide +kernel
theorem F4_9 : zFld 4 9 = some (5, 1, true, 1) := by decide +kernel
theorem F4_15 : zFld 4 15 = some (5, 2, true, 1) := by decide +kernel
theorem F4_18 : zFld 4 18 = some (5, 3, true, 1) := by decide +kernel
theorem F4_21 : zFld 4 21 = some (5, 4, true, 1) := by decide +kernel
theorem F4_24 : zFld 4 24 = some (5, 0, false, 0) := by decide +kernel
theorem F5_9 : zFld 5 9 = some (6, 1, true, 1) := by decide +kernel
theorem F5_15 : zFld 5 15 = some (6, 2, true, 1) := by decide +kernel
theorem F5_18 : zFld 5 18 = some (6, 3, true, 1) := by decide +kernel
theorem F5_21 : zFld 5 21 = some (6, 4, true, 1) := by decide +kernel
theorem F5_24 : zFld 5 24 = some (6, 0, false, 0) := by decide +kernel
theorem F6_11 : zFld 6 11 = some (7, 1, true, 1) := by decide +kernel
theorem F6_15 : zFld 6 15 = some (7, 2, true, 1) := by decide +kernel
theorem F6_18 : zFld 6 18 = some (7, 3, true, 1) := by decide +kernel
theorem F6_21 : zFld 6 21 = some (7, 4, true, 1) := by decide +kernel
theorem F6_24 : zFld 6 24 = some (7, 5, true, 1) := by decide +kernel
theorem F6_27 : zFld 6 27 = some (7, 0, false, 0) := by decide +kernel
theorem F6_31 : zFld 6 31 = some (6, 4, true, 2) := by decide +kernel
theorem F6_36 : zFld 6 36 = some (6, 0, false, 0) := by decide +kernel
theorem F6_51 : zFld 6 51 = some (6, 3, true, 2) := by decide +kernel
theorem F7_10 : zFld 7 10 = some (8, 0, true, 1) := by decide +kernel
theorem F7_19 : zFld 7 19 = some (8, 1, true, 1) := by decide +kernel
theorem F7_26 : zFld 7 26 = some (8, 2, true, 1) := by decide +kernel
theorem F7_33 : zFld 7 33 = some (8, 3, true, 1) := by decide +kernel
theorem F8_12 : zFld 8 12 = some (9, 0, true, 1) := by decide +kernel
theorem F8_19 : zFld 8 19 = some (9, 1, true, 1) := by decide +kernel
theorem F8_26 : zFld 8 26 = some (9, 2, true, 1) := by decide +kernel
theorem F8_33 : zFld 8 33 = some (9, 3, true, 1) := by decide +kernel
theorem F8_40 : zFld 8 40 = some (9, 4, true, 1) := by decide +kernel
theorem F8_48 : zFld 8 48 = some (8, 0, true, 2) := by decide +kernel
theorem F8_52 : zFld 8 52 = some (5, 0, false, 0) := by decide +kernel
theorem F8_73 : zFld 8 73 = some (8, 1, true, 2) := by decide +kernel
theorem F8_77 : zFld 8 77 = some (6, 0, false, 0) := by decide +kernel
theorem F8_83 : zFld 8 83 = some (8, 2, true, 2) := by decide +kernel
theorem F8_87 : zFld 8 87 = some (1, 0, false, 0) := by decide +kernel
theorem F8_102 : zFld 8 102 = some (8, 3, true, 2) := by decide +kernel
theorem F8_112 : zFld 8 112 = some (4, 0, false, 0) := by decide +kernel
theorem F8_126 : zFld 8 126 = some (2, 0, true, 2) := by decide +kernel
theorem F8_130 : zFld 8 130 = some (5, 2, true, 2) := by decide +kernel
theorem F8_140 : zFld 8 140 = some (4, 3, true, 2) := by decide +kernel
theorem F8_144 : zFld 8 144 = some (5, 4, true, 2) := by decide +kernel
theorem F8_147 : zFld 8 147 = some (4, 1, true, 2) := by decide +kernel
theorem F8_150 : zFld 8 150 = some (4, 2, true, 2) := by decide +kernel
theorem F8_153 : zFld 8 153 = some (4, 4, true, 2) := by decide +kernel
theorem F8_159 : zFld 8 159 = some (7, 4, true, 2) := by decide +kernel
theorem F8_162 : zFld 8 162 = some (7, 5, true, 2) := by decide +kernel
theorem F8_182 : zFld 8 182 = some (5, 3, true, 2) := by decide +kernel
theorem F8_198 : zFld 8 198 = some (3, 0, false, 0) := by decide +kernel
theorem F8_209 : zFld 8 209 = some (5, 1, true, 2) := by decide +kernel
theorem F8_239 : zFld 8 239 = some (6, 2, true, 2) := by decide +kernel
theorem F8_242 : zFld 8 242 = some (6, 1, true, 2) := by decide +kernel
theorem F12_15 : zFld 12 15 = some (0, 0, true, 0) := by decide +kernel
theorem F12_22 : zFld 12 22 = some (0, 1, false, 0) := by decide +kernel
theorem F12_73 : zFld 12 73 = some (0, 2, false, 0) := by decide +kernel
theorem F12_79 : zFld 12 79 = some (0, 3, false, 0) := by decide +kernel
theorem N2_9 : zNew 2 9 = some 8 := by decide +kernel
theorem N7_7 : zNew 7 7 = some 5 := by decide +kernel
theorem N7_16 : zNew 7 16 = some 6 := by decide +kernel
theorem N7_23 : zNew 7 23 = some 1 := by decide +kernel
theorem N7_30 : zNew 7 30 = some 4 := by decide +kernel
theorem N8_9 : zNew 8 9 = some 8 := by decide +kernel
theorem N8_16 : zNew 8 16 = some 3 := by decide +kernel
theorem N8_23 : zNew 8 23 = some 7 := by decide +kernel
theorem N8_30 : zNew 8 30 = some 2 := by decide +kernel
theorem N8_37 : zNew 8 37 = some 0 := by decide +kernel
theorem N10_10 : zNew 10 10 = some 9 := by decide +kernel
