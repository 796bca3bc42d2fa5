set_option maxRecDepth 100000 in
theorem kX12_init_0 : ([(0, .aload_n 0, 1), (1, .invokespecial 1, 3), (4, .aload_n 0, 1), (5, .bipush 8, 2), (7, .newarray .int, 2), (9, .putfield 7, 3), (12, .aload_n 0, 1), (13, .bipush 64, 2), (15, .newarray .int, 2), (17, .putfield 13, 3), (20, .aload_n 0, 1), (21, .bipush 64, 2), (23, .newarray .int, 2), (25, .putfield 16, 3), (28, .aload_n 0, 1), (29, .sipush 1400, 3), (32, .newarray .int, 2), (34, .putfield 19, 3), (37, .aload_n 0, 1), (38, .bipush 8, 2), (40, .newarray .int, 2), (42, .putfield 22, 3), (45, .aload_n 0, 1), (46, .bipush 8, 2), (48, .newarray .boolean, 2), (50, .putfield 25, 3), (53, .aload_n 0, 1), (54, .bipush 16, 2), (56, .newarray .int, 2), (58, .putfield 29, 3), (61, .aload_n 0, 1), (62, .bipush 8, 2), (64, .newarray .int, 2), (66, .putfield 32, 3), (69, .aload_n 0, 1), (70, .bipush 8, 2), (72, .newarray .boolean, 2), (74, .putfield 35, 3), (77, .aload_n 0, 1), (78, .bipush 8, 2)] : List (Nat × Instr × Nat)).all (fun x => decide (decode cX12_init x.1 = .ok x.2)) = true := by decide +kernel
theorem dX12_init_0 : decode cX12_init 0 = .ok (.aload_n 0, 1) := mm_dk kX12_init_0 0 rfl
theorem dX12_init_1 : decode cX12_init 1 = .ok (.invokespecial 1, 3) := mm_dk kX12_init_0 1 rfl
theorem dX12_init_4 : decode cX12_init 4 = .ok (.aload_n 0, 1) := mm_dk kX12_init_0 2 rfl
theorem dX12_init_5 : decode cX12_init 5 = .ok (.bipush 8, 2) := mm_dk kX12_init_0 3 rfl
theorem dX12_init_7 : decode cX12_init 7 = .ok (.newarray .int, 2) := mm_dk kX12_init_0 4 rfl
theorem dX12_init_9 : decode cX12_init 9 = .ok (.putfield 7, 3) := mm_dk kX12_init_0 5 rfl
theorem dX12_init_12 : decode cX12_init 12 = .ok (.aload_n 0, 1) := mm_dk kX12_init_0 6 rfl
theorem dX12_init_13 : decode cX12_init 13 = .ok (.bipush 64, 2) := mm_dk kX12_init_0 7 rfl
theorem dX12_init_15 : decode cX12_init 15 = .ok (.newarray .int, 2) := mm_dk kX12_init_0 8 rfl
theorem dX12_init_17 : decode cX12_init 17 = .ok (.putfield 13, 3) := mm_dk kX12_init_0 9 rfl
theorem dX12_init_20 : decode cX12_init 20 = .ok (.aload_n 0, 1) := mm_dk kX12_init_0 10 rfl
theorem dX12_init_21 : decode cX12_init 21 = .ok (.bipush 64, 2) := mm_dk kX12_init_0 11 rfl
theorem dX12_init_23 : decode cX12_init 23 = .ok (.newarray .int, 2) := mm_dk kX12_init_0 12 rfl
theorem dX12_init_25 : decode cX12_init 25 = .ok (.putfield 16, 3) := mm_dk kX12_init_0 13 rfl
theorem dX12_init_28 : decode cX12_init 28 = .ok (.aload_n 0, 1) := mm_dk kX12_init_0 14 rfl
theorem dX12_init_29 : decode cX12_init 29 = .ok (.sipush 1400, 3) := mm_dk kX12_init_0 15 rfl
theorem dX12_init_32 : decode cX12_init 32 = .ok (.newarray .int, 2) := mm_dk kX12_init_0 16 rfl
theorem dX12_init_34 : decode cX12_init 34 = .ok (.putfield 19, 3) := mm_dk kX12_init_0 17 rfl
theorem dX12_init_37 : decode cX12_init 37 = .ok (.aload_n 0, 1) := mm_dk kX12_init_0 18 rfl
theorem dX12_init_38 : decode cX12_init 38 = .ok (.bipush 8, 2) := mm_dk kX12_init_0 19 rfl
theorem dX12_init_40 : decode cX12_init 40 = .ok (.newarray .int, 2) := mm_dk kX12_init_0 20 rfl
theorem dX12_init_42 : decode cX12_init 42 = .ok (.putfield 22, 3) := mm_dk kX12_init_0 21 rfl
theorem dX12_init_45 : decode cX12_init 45 = .ok (.aload_n 0, 1) := mm_dk kX12_init_0 22 rfl
theorem dX12_init_46 : decode cX12_init 46 = .ok (.bipush 8, 2) := mm_dk kX12_init_0 23 rfl
theorem dX12_init_48 : decode cX12_init 48 = .ok (.newarray .boolean, 2) := mm_dk kX12_init_0 24 rfl
theorem dX12_init_50 : decode cX12_init 50 = .ok (.putfield 25, 3) := mm_dk kX12_init_0 25 rfl
theorem dX12_init_53 : decode cX12_init 53 = .ok (.aload_n 0, 1) := mm_dk kX12_init_0 26 rfl
theorem dX12_init_54 : decode cX12_init 54 = .ok (.bipush 16, 2) := mm_dk kX12_init_0 27 rfl
theorem dX12_init_56 : decode cX12_init 56 = .ok (.newarray .int, 2) := mm_dk kX12_init_0 28 rfl
theorem dX12_init_58 : decode cX12_init 58 = .ok (.putfield 29, 3) := mm_dk kX12_init_0 29 rfl
theorem dX12_init_61 : decode cX12_init 61 = .ok (.aload_n 0, 1) := mm_dk kX12_init_0 30 rfl
theorem dX12_init_62 : decode cX12_init 62 = .ok (.bipush 8, 2) := mm_dk kX12_init_0 31 rfl
theorem dX12_init_64 : decode cX12_init 64 = .ok (.newarray .int, 2) := mm_dk kX12_init_0 32 rfl
theorem dX12_init_66 : decode cX12_init 66 = .ok (.putfield 32, 3) := mm_dk kX12_init_0 33 rfl
theorem dX12_init_69 : decode cX12_init 69 = .ok (.aload_n 0, 1) := mm_dk kX12_init_0 34 rfl
theorem dX12_init_70 : decode cX12_init 70 = .ok (.bipush 8, 2) := mm_dk kX12_init_0 35 rfl
theorem dX12_init_72 : decode cX12_init 72 = .ok (.newarray .boolean, 2) := mm_dk kX12_init_0 36 rfl
theorem dX12_init_74 : decode cX12_init 74 = .ok (.putfield 35, 3) := mm_dk kX12_init_0 37 rfl
theorem dX12_init_77 : decode cX12_init 77 = .ok (.aload_n 0, 1) := mm_dk kX12_init_0 38 rfl
theorem dX12_init_78 : decode cX12_init 78 = .ok (.bipush 8, 2) := mm_dk kX12_init_0 39 rfl
set_option maxRecDepth 100000 in
theorem kX12_init_1 : ([(80, .newarray .int, 2), (82, .putfield 38, 3), (85, .aload_n 0, 1), (86, .bipush 8, 2), (88, .newarray .int, 2), (90, .putfield 41, 3), (93, .aload_n 0, 1), (94, .sipush 5120, 3), (97, .newarray .int, 2), (99, .putfield 44, 3), (102, .aload_n 0, 1), (103, .bipush 8, 2), (105, .newarray .int, 2), (107, .putfield 47, 3), (110, .aload_n 0, 1), (111, .bipush 8, 2), (113, .newarray .int, 2), (115, .putfield 50, 3), (118, .aload_n 0, 1), (119, .sipush 2560, 3), (122, .newarray .int, 2), (124, .putfield 53, 3), (127, .aload_n 0, 1), (128, .sipush 128, 3), (131, .newarray .int, 2), (133, .putfield 56, 3), (136, .aload_n 0, 1), (137, .sipush 128, 3), (140, .newarray .int, 2), (142, .putfield 59, 3), (145, .aload_n 0, 1), (146, .bipush 16, 2), (148, .newarray .int, 2), (150, .putfield 62, 3), (153, .aload_n 0, 1), (154, .bipush 64, 2), (156, .newarray .int, 2), (158, .putfield 65, 3), (161, .aload_n 0, 1), (162, .bipush 8, 2)] : List (Nat × Instr × Nat)).all (fun x => decide (decode cX12_init x.1 = .ok x.2)) = true := by decide +kernel
theorem dX12_init_80 : decode cX12_init 80 = .ok (.newarray .int, 2) := mm_dk kX12_init_1 0 rfl
theorem dX12_init_82 : decode cX12_init 82 = .ok (.putfield 38, 3) := mm_dk kX12_init_1 1 rfl
theorem dX12_init_85 : decode cX12_init 85 = .ok (.aload_n 0, 1) := mm_dk kX12_init_1 2 rfl
theorem dX12_init_86 : decode cX12_init 86 = .ok (.bipush 8, 2) := mm_dk kX12_init_1 3 rfl
theorem dX12_init_88 : decode cX12_init 88 = .ok (.newarray .int, 2) := mm_dk kX12_init_1 4 rfl
theorem dX12_init_90 : decode cX12_init 90 = .ok (.putfield 41, 3) := mm_dk kX12_init_1 5 rfl
theorem dX12_init_93 : decode cX12_init 93 = .ok (.aload_n 0, 1) := mm_dk kX12_init_1 6 rfl
theorem dX12_init_94 : decode cX12_init 94 = .ok (.sipush 5120, 3) := mm_dk kX12_init_1 7 rfl
theorem dX12_init_97 : decode cX12_init 97 = .ok (.newarray .int, 2) := mm_dk kX12_init_1 8 rfl
theorem dX12_init_99 : decode cX12_init 99 = .ok (.putfield 44, 3) := mm_dk kX12_init_1 9 rfl
theorem dX12_init_102 : decode cX12_init 102 = .ok (.aload_n 0, 1) := mm_dk kX12_init_1 10 rfl
theorem dX12_init_103 : decode cX12_init 103 = .ok (.bipush 8, 2) := mm_dk kX12_init_1 11 rfl
theorem dX12_init_105 : decode cX12_init 105 = .ok (.newarray .int, 2) := mm_dk kX12_init_1 12 rfl
theorem dX12_init_107 : decode cX12_init 107 = .ok (.putfield 47, 3) := mm_dk kX12_init_1 13 rfl
theorem dX12_init_110 : decode cX12_init 110 = .ok (.aload_n 0, 1) := mm_dk kX12_init_1 14 rfl
theorem dX12_init_111 : decode cX12_init 111 = .ok (.bipush 8, 2) := mm_dk kX12_init_1 15 rfl
theorem dX12_init_113 : decode cX12_init 113 = .ok (.newarray .int, 2) := mm_dk kX12_init_1 16 rfl
theorem dX12_init_115 : decode cX12_init 115 = .ok (.putfield 50, 3) := mm_dk kX12_init_1 17 rfl
theorem dX12_init_118 : decode cX12_init 118 = .ok (.aload_n 0, 1) := mm_dk kX12_init_1 18 rfl
theorem dX12_init_119 : decode cX12_init 119 = .ok (.sipush 2560, 3) := mm_dk kX12_init_1 19 rfl
theorem dX12_init_122 : decode cX12_init 122 = .ok (.newarray .int, 2) := mm_dk kX12_init_1 20 rfl
theorem dX12_init_124 : decode cX12_init 124 = .ok (.putfield 53, 3) := mm_dk kX12_init_1 21 rfl
theorem dX12_init_127 : decode cX12_init 127 = .ok (.aload_n 0, 1) := mm_dk kX12_init_1 22 rfl
theorem dX12_init_128 : decode cX12_init 128 = .ok (.sipush 128, 3) := mm_dk kX12_init_1 23 rfl
theorem dX12_init_131 : decode cX12_init 131 = .ok (.newarray .int, 2) := mm_dk kX12_init_1 24 rfl
theorem dX12_init_133 : decode cX12_init 133 = .ok (.putfield 56, 3) := mm_dk kX12_init_1 25 rfl
theorem dX12_init_136 : decode cX12_init 136 = .ok (.aload_n 0, 1) := mm_dk kX12_init_1 26 rfl
theorem dX12_init_137 : decode cX12_init 137 = .ok (.sipush 128, 3) := mm_dk kX12_init_1 27 rfl
theorem dX12_init_140 : decode cX12_init 140 = .ok (.newarray .int, 2) := mm_dk kX12_init_1 28 rfl
theorem dX12_init_142 : decode cX12_init 142 = .ok (.putfield 59, 3) := mm_dk kX12_init_1 29 rfl
theorem dX12_init_145 : decode cX12_init 145 = .ok (.aload_n 0, 1) := mm_dk kX12_init_1 30 rfl
theorem dX12_init_146 : decode cX12_init 146 = .ok (.bipush 16, 2) := mm_dk kX12_init_1 31 rfl
theorem dX12_init_148 : decode cX12_init 148 = .ok (.newarray .int, 2) := mm_dk kX12_init_1 32 rfl
theorem dX12_init_150 : decode cX12_init 150 = .ok (.putfield 62, 3) := mm_dk kX12_init_1 33 rfl
theorem dX12_init_153 : decode cX12_init 153 = .ok (.aload_n 0, 1) := mm_dk kX12_init_1 34 rfl
theorem dX12_init_154 : decode cX12_init 154 = .ok (.bipush 64, 2) := mm_dk kX12_init_1 35 rfl
theorem dX12_init_156 : decode cX12_init 156 = .ok (.newarray .int, 2) := mm_dk kX12_init_1 36 rfl
theorem dX12_init_158 : decode cX12_init 158 = .ok (.putfield 65, 3) := mm_dk kX12_init_1 37 rfl
theorem dX12_init_161 : decode cX12_init 161 = .ok (.aload_n 0, 1) := mm_dk kX12_init_1 38 rfl
theorem dX12_init_162 : decode cX12_init 162 = .ok (.bipush 8, 2) := mm_dk kX12_init_1 39 rfl
set_option maxRecDepth 100000 in
theorem kX12_init_2 : ([(164, .newarray .int, 2), (166, .putfield 68, 3), (169, .aload_n 0, 1), (170, .bipush 64, 2), (172, .newarray .int, 2), (174, .putfield 71, 3), (177, .aload_n 0, 1), (178, .sipush 224, 3), (181, .newarray .int, 2), (183, .putfield 74, 3), (186, .aload_n 0, 1), (187, .bipush 32, 2), (189, .newarray .long, 2), (191, .putfield 77, 3), (194, .aload_n 0, 1), (195, .bipush 32, 2), (197, .newarray .long, 2), (199, .putfield 81, 3), (202, .aload_n 0, 1), (203, .bipush 8, 2), (205, .newarray .int, 2), (207, .putfield 84, 3), (210, .aload_n 0, 1), (211, .sipush 2560, 3), (214, .newarray .int, 2), (216, .putfield 87, 3), (219, .aload_n 0, 1), (220, .sipush 5120, 3), (223, .newarray .int, 2), (225, .putfield 90, 3), (228, .aload_n 0, 1), (229, .bipush 8, 2), (231, .newarray .int, 2), (233, .putfield 93, 3), (236, .aload_n 0, 1), (237, .sipush 2000, 3), (240, .newarray .int, 2), (242, .putfield 96, 3), (245, .aload_n 0, 1), (246, .sipush 2000, 3)] : List (Nat × Instr × Nat)).all (fun x => decide (decode cX12_init x.1 = .ok x.2)) = true := by decide +kernel
theorem dX12_init_164 : decode cX12_init 164 = .ok (.newarray .int, 2) := mm_dk kX12_init_2 0 rfl
theorem dX12_init_166 : decode cX12_init 166 = .ok (.putfield 68, 3) := mm_dk kX12_init_2 1 rfl
theorem dX12_init_169 : decode cX12_init 169 = .ok (.aload_n 0, 1) := mm_dk kX12_init_2 2 rfl
theorem dX12_init_170 : decode cX12_init 170 = .ok (.bipush 64, 2) := mm_dk kX12_init_2 3 rfl
theorem dX12_init_172 : decode cX12_init 172 = .ok (.newarray .int, 2) := mm_dk kX12_init_2 4 rfl
theorem dX12_init_174 : decode cX12_init 174 = .ok (.putfield 71, 3) := mm_dk kX12_init_2 5 rfl
theorem dX12_init_177 : decode cX12_init 177 = .ok (.aload_n 0, 1) := mm_dk kX12_init_2 6 rfl
theorem dX12_init_178 : decode cX12_init 178 = .ok (.sipush 224, 3) := mm_dk kX12_init_2 7 rfl
theorem dX12_init_181 : decode cX12_init 181 = .ok (.newarray .int, 2) := mm_dk kX12_init_2 8 rfl
theorem dX12_init_183 : decode cX12_init 183 = .ok (.putfield 74, 3) := mm_dk kX12_init_2 9 rfl
theorem dX12_init_186 : decode cX12_init 186 = .ok (.aload_n 0, 1) := mm_dk kX12_init_2 10 rfl
theorem dX12_init_187 : decode cX12_init 187 = .ok (.bipush 32, 2) := mm_dk kX12_init_2 11 rfl
theorem dX12_init_189 : decode cX12_init 189 = .ok (.newarray .long, 2) := mm_dk kX12_init_2 12 rfl
theorem dX12_init_191 : decode cX12_init 191 = .ok (.putfield 77, 3) := mm_dk kX12_init_2 13 rfl
theorem dX12_init_194 : decode cX12_init 194 = .ok (.aload_n 0, 1) := mm_dk kX12_init_2 14 rfl
theorem dX12_init_195 : decode cX12_init 195 = .ok (.bipush 32, 2) := mm_dk kX12_init_2 15 rfl
theorem dX12_init_197 : decode cX12_init 197 = .ok (.newarray .long, 2) := mm_dk kX12_init_2 16 rfl
theorem dX12_init_199 : decode cX12_init 199 = .ok (.putfield 81, 3) := mm_dk kX12_init_2 17 rfl
theorem dX12_init_202 : decode cX12_init 202 = .ok (.aload_n 0, 1) := mm_dk kX12_init_2 18 rfl
theorem dX12_init_203 : decode cX12_init 203 = .ok (.bipush 8, 2) := mm_dk kX12_init_2 19 rfl
theorem dX12_init_205 : decode cX12_init 205 = .ok (.newarray .int, 2) := mm_dk kX12_init_2 20 rfl
theorem dX12_init_207 : decode cX12_init 207 = .ok (.putfield 84, 3) := mm_dk kX12_init_2 21 rfl
theorem dX12_init_210 : decode cX12_init 210 = .ok (.aload_n 0, 1) := mm_dk kX12_init_2 22 rfl
theorem dX12_init_211 : decode cX12_init 211 = .ok (.sipush 2560, 3) := mm_dk kX12_init_2 23 rfl
theorem dX12_init_214 : decode cX12_init 214 = .ok (.newarray .int, 2) := mm_dk kX12_init_2 24 rfl
theorem dX12_init_216 : decode cX12_init 216 = .ok (.putfield 87, 3) := mm_dk kX12_init_2 25 rfl
theorem dX12_init_219 : decode cX12_init 219 = .ok (.aload_n 0, 1) := mm_dk kX12_init_2 26 rfl
theorem dX12_init_220 : decode cX12_init 220 = .ok (.sipush 5120, 3) := mm_dk kX12_init_2 27 rfl
theorem dX12_init_223 : decode cX12_init 223 = .ok (.newarray .int, 2) := mm_dk kX12_init_2 28 rfl
theorem dX12_init_225 : decode cX12_init 225 = .ok (.putfield 90, 3) := mm_dk kX12_init_2 29 rfl
theorem dX12_init_228 : decode cX12_init 228 = .ok (.aload_n 0, 1) := mm_dk kX12_init_2 30 rfl
theorem dX12_init_229 : decode cX12_init 229 = .ok (.bipush 8, 2) := mm_dk kX12_init_2 31 rfl
theorem dX12_init_231 : decode cX12_init 231 = .ok (.newarray .int, 2) := mm_dk kX12_init_2 32 rfl
theorem dX12_init_233 : decode cX12_init 233 = .ok (.putfield 93, 3) := mm_dk kX12_init_2 33 rfl
theorem dX12_init_236 : decode cX12_init 236 = .ok (.aload_n 0, 1) := mm_dk kX12_init_2 34 rfl
theorem dX12_init_237 : decode cX12_init 237 = .ok (.sipush 2000, 3) := mm_dk kX12_init_2 35 rfl
theorem dX12_init_240 : decode cX12_init 240 = .ok (.newarray .int, 2) := mm_dk kX12_init_2 36 rfl
theorem dX12_init_242 : decode cX12_init 242 = .ok (.putfield 96, 3) := mm_dk kX12_init_2 37 rfl
theorem dX12_init_245 : decode cX12_init 245 = .ok (.aload_n 0, 1) := mm_dk kX12_init_2 38 rfl
theorem dX12_init_246 : decode cX12_init 246 = .ok (.sipush 2000, 3) := mm_dk kX12_init_2 39 rfl
set_option maxRecDepth 100000 in
theorem kX12_init_3 : ([(249, .newarray .int, 2), (251, .putfield 99, 3), (254, .aload_n 0, 1), (255, .sipush 4300, 3), (258, .newarray .int, 2), (260, .putfield 102, 3), (263, .aload_n 0, 1), (264, .sipush 4300, 3), (267, .newarray .boolean, 2), (269, .putfield 105, 3), (272, .aload_n 0, 1), (273, .ldc 108, 2), (275, .newarray .int, 2), (277, .putfield 109, 3), (280, .aload_n 0, 1), (281, .bipush 8, 2), (283, .newarray .int, 2), (285, .putfield 112, 3), (288, .aload_n 0, 1), (289, .bipush 8, 2), (291, .newarray .int, 2), (293, .putfield 115, 3), (296, .aload_n 0, 1), (297, .bipush 8, 2), (299, .newarray .int, 2), (301, .putfield 118, 3), (304, .aload_n 0, 1), (305, .bipush 8, 2), (307, .newarray .int, 2), (309, .putfield 121, 3), (312, .aload_n 0, 1), (313, .bipush 8, 2), (315, .newarray .int, 2), (317, .putfield 124, 3), (320, .aload_n 0, 1), (321, .bipush 8, 2), (323, .newarray .int, 2), (325, .putfield 127, 3), (328, .aload_n 0, 1), (329, .bipush 8, 2)] : List (Nat × Instr × Nat)).all (fun x => decide (decode cX12_init x.1 = .ok x.2)) = true := by decide +kernel
theorem dX12_init_249 : decode cX12_init 249 = .ok (.newarray .int, 2) := mm_dk kX12_init_3 0 rfl
theorem dX12_init_251 : decode cX12_init 251 = .ok (.putfield 99, 3) := mm_dk kX12_init_3 1 rfl
theorem dX12_init_254 : decode cX12_init 254 = .ok (.aload_n 0, 1) := mm_dk kX12_init_3 2 rfl
theorem dX12_init_255 : decode cX12_init 255 = .ok (.sipush 4300, 3) := mm_dk kX12_init_3 3 rfl
theorem dX12_init_258 : decode cX12_init 258 = .ok (.newarray .int, 2) := mm_dk kX12_init_3 4 rfl
theorem dX12_init_260 : decode cX12_init 260 = .ok (.putfield 102, 3) := mm_dk kX12_init_3 5 rfl
theorem dX12_init_263 : decode cX12_init 263 = .ok (.aload_n 0, 1) := mm_dk kX12_init_3 6 rfl
theorem dX12_init_264 : decode cX12_init 264 = .ok (.sipush 4300, 3) := mm_dk kX12_init_3 7 rfl
theorem dX12_init_267 : decode cX12_init 267 = .ok (.newarray .boolean, 2) := mm_dk kX12_init_3 8 rfl
theorem dX12_init_269 : decode cX12_init 269 = .ok (.putfield 105, 3) := mm_dk kX12_init_3 9 rfl
theorem dX12_init_272 : decode cX12_init 272 = .ok (.aload_n 0, 1) := mm_dk kX12_init_3 10 rfl
theorem dX12_init_273 : decode cX12_init 273 = .ok (.ldc 108, 2) := mm_dk kX12_init_3 11 rfl
theorem dX12_init_275 : decode cX12_init 275 = .ok (.newarray .int, 2) := mm_dk kX12_init_3 12 rfl
theorem dX12_init_277 : decode cX12_init 277 = .ok (.putfield 109, 3) := mm_dk kX12_init_3 13 rfl
theorem dX12_init_280 : decode cX12_init 280 = .ok (.aload_n 0, 1) := mm_dk kX12_init_3 14 rfl
theorem dX12_init_281 : decode cX12_init 281 = .ok (.bipush 8, 2) := mm_dk kX12_init_3 15 rfl
theorem dX12_init_283 : decode cX12_init 283 = .ok (.newarray .int, 2) := mm_dk kX12_init_3 16 rfl
theorem dX12_init_285 : decode cX12_init 285 = .ok (.putfield 112, 3) := mm_dk kX12_init_3 17 rfl
theorem dX12_init_288 : decode cX12_init 288 = .ok (.aload_n 0, 1) := mm_dk kX12_init_3 18 rfl
theorem dX12_init_289 : decode cX12_init 289 = .ok (.bipush 8, 2) := mm_dk kX12_init_3 19 rfl
theorem dX12_init_291 : decode cX12_init 291 = .ok (.newarray .int, 2) := mm_dk kX12_init_3 20 rfl
theorem dX12_init_293 : decode cX12_init 293 = .ok (.putfield 115, 3) := mm_dk kX12_init_3 21 rfl
theorem dX12_init_296 : decode cX12_init 296 = .ok (.aload_n 0, 1) := mm_dk kX12_init_3 22 rfl
theorem dX12_init_297 : decode cX12_init 297 = .ok (.bipush 8, 2) := mm_dk kX12_init_3 23 rfl
theorem dX12_init_299 : decode cX12_init 299 = .ok (.newarray .int, 2) := mm_dk kX12_init_3 24 rfl
theorem dX12_init_301 : decode cX12_init 301 = .ok (.putfield 118, 3) := mm_dk kX12_init_3 25 rfl
theorem dX12_init_304 : decode cX12_init 304 = .ok (.aload_n 0, 1) := mm_dk kX12_init_3 26 rfl
theorem dX12_init_305 : decode cX12_init 305 = .ok (.bipush 8, 2) := mm_dk kX12_init_3 27 rfl
theorem dX12_init_307 : decode cX12_init 307 = .ok (.newarray .int, 2) := mm_dk kX12_init_3 28 rfl
theorem dX12_init_309 : decode cX12_init 309 = .ok (.putfield 121, 3) := mm_dk kX12_init_3 29 rfl
theorem dX12_init_312 : decode cX12_init 312 = .ok (.aload_n 0, 1) := mm_dk kX12_init_3 30 rfl
theorem dX12_init_313 : decode cX12_init 313 = .ok (.bipush 8, 2) := mm_dk kX12_init_3 31 rfl
theorem dX12_init_315 : decode cX12_init 315 = .ok (.newarray .int, 2) := mm_dk kX12_init_3 32 rfl
theorem dX12_init_317 : decode cX12_init 317 = .ok (.putfield 124, 3) := mm_dk kX12_init_3 33 rfl
theorem dX12_init_320 : decode cX12_init 320 = .ok (.aload_n 0, 1) := mm_dk kX12_init_3 34 rfl
theorem dX12_init_321 : decode cX12_init 321 = .ok (.bipush 8, 2) := mm_dk kX12_init_3 35 rfl
theorem dX12_init_323 : decode cX12_init 323 = .ok (.newarray .int, 2) := mm_dk kX12_init_3 36 rfl
theorem dX12_init_325 : decode cX12_init 325 = .ok (.putfield 127, 3) := mm_dk kX12_init_3 37 rfl
theorem dX12_init_328 : decode cX12_init 328 = .ok (.aload_n 0, 1) := mm_dk kX12_init_3 38 rfl
theorem dX12_init_329 : decode cX12_init 329 = .ok (.bipush 8, 2) := mm_dk kX12_init_3 39 rfl
set_option maxRecDepth 100000 in
theorem kX12_init_4 : ([(331, .newarray .int, 2), (333, .putfield 130, 3), (336, .aload_n 0, 1), (337, .bipush 8, 2), (339, .newarray .int, 2), (341, .putfield 133, 3), (344, .aload_n 0, 1), (345, .bipush 8, 2), (347, .newarray .int, 2), (349, .putfield 136, 3), (352, .aload_n 0, 1), (353, .bipush 8, 2), (355, .newarray .int, 2), (357, .putfield 139, 3), (360, .aload_n 0, 1), (361, .bipush 8, 2), (363, .newarray .int, 2), (365, .putfield 142, 3), (368, .aload_n 0, 1), (369, .sipush 2576, 3), (372, .newarray .int, 2), (374, .putfield 145, 3), (377, .aload_n 0, 1), (378, .bipush 8, 2), (380, .newarray .int, 2), (382, .putfield 148, 3), (385, .aload_n 0, 1), (386, .bipush 8, 2), (388, .newarray .int, 2), (390, .putfield 151, 3), (393, .aload_n 0, 1), (394, .bipush 32, 2), (396, .newarray .int, 2), (398, .putfield 154, 3), (401, .aload_n 0, 1), (402, .bipush 32, 2), (404, .newarray .int, 2), (406, .putfield 157, 3), (409, .aload_n 0, 1), (410, .bipush 32, 2)] : List (Nat × Instr × Nat)).all (fun x => decide (decode cX12_init x.1 = .ok x.2)) = true := by decide +kernel
theorem dX12_init_331 : decode cX12_init 331 = .ok (.newarray .int, 2) := mm_dk kX12_init_4 0 rfl
theorem dX12_init_333 : decode cX12_init 333 = .ok (.putfield 130, 3) := mm_dk kX12_init_4 1 rfl
theorem dX12_init_336 : decode cX12_init 336 = .ok (.aload_n 0, 1) := mm_dk kX12_init_4 2 rfl
theorem dX12_init_337 : decode cX12_init 337 = .ok (.bipush 8, 2) := mm_dk kX12_init_4 3 rfl
theorem dX12_init_339 : decode cX12_init 339 = .ok (.newarray .int, 2) := mm_dk kX12_init_4 4 rfl
theorem dX12_init_341 : decode cX12_init 341 = .ok (.putfield 133, 3) := mm_dk kX12_init_4 5 rfl
theorem dX12_init_344 : decode cX12_init 344 = .ok (.aload_n 0, 1) := mm_dk kX12_init_4 6 rfl
theorem dX12_init_345 : decode cX12_init 345 = .ok (.bipush 8, 2) := mm_dk kX12_init_4 7 rfl
theorem dX12_init_347 : decode cX12_init 347 = .ok (.newarray .int, 2) := mm_dk kX12_init_4 8 rfl
theorem dX12_init_349 : decode cX12_init 349 = .ok (.putfield 136, 3) := mm_dk kX12_init_4 9 rfl
theorem dX12_init_352 : decode cX12_init 352 = .ok (.aload_n 0, 1) := mm_dk kX12_init_4 10 rfl
theorem dX12_init_353 : decode cX12_init 353 = .ok (.bipush 8, 2) := mm_dk kX12_init_4 11 rfl
theorem dX12_init_355 : decode cX12_init 355 = .ok (.newarray .int, 2) := mm_dk kX12_init_4 12 rfl
theorem dX12_init_357 : decode cX12_init 357 = .ok (.putfield 139, 3) := mm_dk kX12_init_4 13 rfl
theorem dX12_init_360 : decode cX12_init 360 = .ok (.aload_n 0, 1) := mm_dk kX12_init_4 14 rfl
theorem dX12_init_361 : decode cX12_init 361 = .ok (.bipush 8, 2) := mm_dk kX12_init_4 15 rfl
theorem dX12_init_363 : decode cX12_init 363 = .ok (.newarray .int, 2) := mm_dk kX12_init_4 16 rfl
theorem dX12_init_365 : decode cX12_init 365 = .ok (.putfield 142, 3) := mm_dk kX12_init_4 17 rfl
theorem dX12_init_368 : decode cX12_init 368 = .ok (.aload_n 0, 1) := mm_dk kX12_init_4 18 rfl
theorem dX12_init_369 : decode cX12_init 369 = .ok (.sipush 2576, 3) := mm_dk kX12_init_4 19 rfl
theorem dX12_init_372 : decode cX12_init 372 = .ok (.newarray .int, 2) := mm_dk kX12_init_4 20 rfl
theorem dX12_init_374 : decode cX12_init 374 = .ok (.putfield 145, 3) := mm_dk kX12_init_4 21 rfl
theorem dX12_init_377 : decode cX12_init 377 = .ok (.aload_n 0, 1) := mm_dk kX12_init_4 22 rfl
theorem dX12_init_378 : decode cX12_init 378 = .ok (.bipush 8, 2) := mm_dk kX12_init_4 23 rfl
theorem dX12_init_380 : decode cX12_init 380 = .ok (.newarray .int, 2) := mm_dk kX12_init_4 24 rfl
theorem dX12_init_382 : decode cX12_init 382 = .ok (.putfield 148, 3) := mm_dk kX12_init_4 25 rfl
theorem dX12_init_385 : decode cX12_init 385 = .ok (.aload_n 0, 1) := mm_dk kX12_init_4 26 rfl
theorem dX12_init_386 : decode cX12_init 386 = .ok (.bipush 8, 2) := mm_dk kX12_init_4 27 rfl
theorem dX12_init_388 : decode cX12_init 388 = .ok (.newarray .int, 2) := mm_dk kX12_init_4 28 rfl
theorem dX12_init_390 : decode cX12_init 390 = .ok (.putfield 151, 3) := mm_dk kX12_init_4 29 rfl
theorem dX12_init_393 : decode cX12_init 393 = .ok (.aload_n 0, 1) := mm_dk kX12_init_4 30 rfl
theorem dX12_init_394 : decode cX12_init 394 = .ok (.bipush 32, 2) := mm_dk kX12_init_4 31 rfl
theorem dX12_init_396 : decode cX12_init 396 = .ok (.newarray .int, 2) := mm_dk kX12_init_4 32 rfl
theorem dX12_init_398 : decode cX12_init 398 = .ok (.putfield 154, 3) := mm_dk kX12_init_4 33 rfl
theorem dX12_init_401 : decode cX12_init 401 = .ok (.aload_n 0, 1) := mm_dk kX12_init_4 34 rfl
theorem dX12_init_402 : decode cX12_init 402 = .ok (.bipush 32, 2) := mm_dk kX12_init_4 35 rfl
theorem dX12_init_404 : decode cX12_init 404 = .ok (.newarray .int, 2) := mm_dk kX12_init_4 36 rfl
theorem dX12_init_406 : decode cX12_init 406 = .ok (.putfield 157, 3) := mm_dk kX12_init_4 37 rfl
theorem dX12_init_409 : decode cX12_init 409 = .ok (.aload_n 0, 1) := mm_dk kX12_init_4 38 rfl
theorem dX12_init_410 : decode cX12_init 410 = .ok (.bipush 32, 2) := mm_dk kX12_init_4 39 rfl
set_option maxRecDepth 100000 in
theorem kX12_init_5 : ([(412, .newarray .int, 2), (414, .putfield 160, 3), (417, .aload_n 0, 1), (418, .bipush 32, 2), (420, .newarray .int, 2), (422, .putfield 163, 3), (425, .aload_n 0, 1), (426, .sipush 5120, 3), (429, .newarray .int, 2), (431, .putfield 166, 3), (434, .aload_n 0, 1), (435, .sipush 320, 3), (438, .newarray .int, 2), (440, .putfield 169, 3), (443, .aload_n 0, 1), (444, .sipush 340, 3), (447, .newarray .int, 2), (449, .putfield 172, 3), (452, .aload_n 0, 1), (453, .bipush 80, 2), (455, .newarray .int, 2), (457, .putfield 175, 3), (460, .aload_n 0, 1), (461, .bipush 80, 2), (463, .newarray .int, 2), (465, .putfield 178, 3), (468, .aload_n 0, 1), (469, .bipush 80, 2), (471, .newarray .int, 2), (473, .putfield 181, 3), (476, .aload_n 0, 1), (477, .bipush 84, 2), (479, .newarray .int, 2), (481, .putfield 184, 3), (484, .aload_n 0, 1), (485, .bipush 80, 2), (487, .newarray .long, 2), (489, .putfield 187, 3), (492, .aload_n 0, 1), (493, .bipush 80, 2)] : List (Nat × Instr × Nat)).all (fun x => decide (decode cX12_init x.1 = .ok x.2)) = true := by decide +kernel
theorem dX12_init_412 : decode cX12_init 412 = .ok (.newarray .int, 2) := mm_dk kX12_init_5 0 rfl
theorem dX12_init_414 : decode cX12_init 414 = .ok (.putfield 160, 3) := mm_dk kX12_init_5 1 rfl
theorem dX12_init_417 : decode cX12_init 417 = .ok (.aload_n 0, 1) := mm_dk kX12_init_5 2 rfl
theorem dX12_init_418 : decode cX12_init 418 = .ok (.bipush 32, 2) := mm_dk kX12_init_5 3 rfl
theorem dX12_init_420 : decode cX12_init 420 = .ok (.newarray .int, 2) := mm_dk kX12_init_5 4 rfl
theorem dX12_init_422 : decode cX12_init 422 = .ok (.putfield 163, 3) := mm_dk kX12_init_5 5 rfl
theorem dX12_init_425 : decode cX12_init 425 = .ok (.aload_n 0, 1) := mm_dk kX12_init_5 6 rfl
theorem dX12_init_426 : decode cX12_init 426 = .ok (.sipush 5120, 3) := mm_dk kX12_init_5 7 rfl
theorem dX12_init_429 : decode cX12_init 429 = .ok (.newarray .int, 2) := mm_dk kX12_init_5 8 rfl
theorem dX12_init_431 : decode cX12_init 431 = .ok (.putfield 166, 3) := mm_dk kX12_init_5 9 rfl
theorem dX12_init_434 : decode cX12_init 434 = .ok (.aload_n 0, 1) := mm_dk kX12_init_5 10 rfl
theorem dX12_init_435 : decode cX12_init 435 = .ok (.sipush 320, 3) := mm_dk kX12_init_5 11 rfl
theorem dX12_init_438 : decode cX12_init 438 = .ok (.newarray .int, 2) := mm_dk kX12_init_5 12 rfl
theorem dX12_init_440 : decode cX12_init 440 = .ok (.putfield 169, 3) := mm_dk kX12_init_5 13 rfl
theorem dX12_init_443 : decode cX12_init 443 = .ok (.aload_n 0, 1) := mm_dk kX12_init_5 14 rfl
theorem dX12_init_444 : decode cX12_init 444 = .ok (.sipush 340, 3) := mm_dk kX12_init_5 15 rfl
theorem dX12_init_447 : decode cX12_init 447 = .ok (.newarray .int, 2) := mm_dk kX12_init_5 16 rfl
theorem dX12_init_449 : decode cX12_init 449 = .ok (.putfield 172, 3) := mm_dk kX12_init_5 17 rfl
theorem dX12_init_452 : decode cX12_init 452 = .ok (.aload_n 0, 1) := mm_dk kX12_init_5 18 rfl
theorem dX12_init_453 : decode cX12_init 453 = .ok (.bipush 80, 2) := mm_dk kX12_init_5 19 rfl
theorem dX12_init_455 : decode cX12_init 455 = .ok (.newarray .int, 2) := mm_dk kX12_init_5 20 rfl
theorem dX12_init_457 : decode cX12_init 457 = .ok (.putfield 175, 3) := mm_dk kX12_init_5 21 rfl
theorem dX12_init_460 : decode cX12_init 460 = .ok (.aload_n 0, 1) := mm_dk kX12_init_5 22 rfl
theorem dX12_init_461 : decode cX12_init 461 = .ok (.bipush 80, 2) := mm_dk kX12_init_5 23 rfl
theorem dX12_init_463 : decode cX12_init 463 = .ok (.newarray .int, 2) := mm_dk kX12_init_5 24 rfl
theorem dX12_init_465 : decode cX12_init 465 = .ok (.putfield 178, 3) := mm_dk kX12_init_5 25 rfl
theorem dX12_init_468 : decode cX12_init 468 = .ok (.aload_n 0, 1) := mm_dk kX12_init_5 26 rfl
theorem dX12_init_469 : decode cX12_init 469 = .ok (.bipush 80, 2) := mm_dk kX12_init_5 27 rfl
theorem dX12_init_471 : decode cX12_init 471 = .ok (.newarray .int, 2) := mm_dk kX12_init_5 28 rfl
theorem dX12_init_473 : decode cX12_init 473 = .ok (.putfield 181, 3) := mm_dk kX12_init_5 29 rfl
theorem dX12_init_476 : decode cX12_init 476 = .ok (.aload_n 0, 1) := mm_dk kX12_init_5 30 rfl
theorem dX12_init_477 : decode cX12_init 477 = .ok (.bipush 84, 2) := mm_dk kX12_init_5 31 rfl
theorem dX12_init_479 : decode cX12_init 479 = .ok (.newarray .int, 2) := mm_dk kX12_init_5 32 rfl
theorem dX12_init_481 : decode cX12_init 481 = .ok (.putfield 184, 3) := mm_dk kX12_init_5 33 rfl
theorem dX12_init_484 : decode cX12_init 484 = .ok (.aload_n 0, 1) := mm_dk kX12_init_5 34 rfl
theorem dX12_init_485 : decode cX12_init 485 = .ok (.bipush 80, 2) := mm_dk kX12_init_5 35 rfl
theorem dX12_init_487 : decode cX12_init 487 = .ok (.newarray .long, 2) := mm_dk kX12_init_5 36 rfl
theorem dX12_init_489 : decode cX12_init 489 = .ok (.putfield 187, 3) := mm_dk kX12_init_5 37 rfl
theorem dX12_init_492 : decode cX12_init 492 = .ok (.aload_n 0, 1) := mm_dk kX12_init_5 38 rfl
theorem dX12_init_493 : decode cX12_init 493 = .ok (.bipush 80, 2) := mm_dk kX12_init_5 39 rfl
set_option maxRecDepth 100000 in
theorem kX12_init_6 : ([(495, .newarray .long, 2), (497, .putfield 190, 3), (500, .aload_n 0, 1), (501, .bipush 9, 2), (503, .newarray .long, 2), (505, .putfield 193, 3), (508, .aload_n 0, 1), (509, .bipush 9, 2), (511, .newarray .long, 2), (513, .putfield 196, 3), (516, .aload_n 0, 1), (517, .bipush 9, 2), (519, .newarray .long, 2), (521, .putfield 199, 3), (524, .return_, 1)] : List (Nat × Instr × Nat)).all (fun x => decide (decode cX12_init x.1 = .ok x.2)) = true := by decide +kernel
theorem dX12_init_495 : decode cX12_init 495 = .ok (.newarray .long, 2) := mm_dk kX12_init_6 0 rfl
theorem dX12_init_497 : decode cX12_init 497 = .ok (.putfield 190, 3) := mm_dk kX12_init_6 1 rfl
theorem dX12_init_500 : decode cX12_init 500 = .ok (.aload_n 0, 1) := mm_dk kX12_init_6 2 rfl
theorem dX12_init_501 : decode cX12_init 501 = .ok (.bipush 9, 2) := mm_dk kX12_init_6 3 rfl
theorem dX12_init_503 : decode cX12_init 503 = .ok (.newarray .long, 2) := mm_dk kX12_init_6 4 rfl
theorem dX12_init_505 : decode cX12_init 505 = .ok (.putfield 193, 3) := mm_dk kX12_init_6 5 rfl
theorem dX12_init_508 : decode cX12_init 508 = .ok (.aload_n 0, 1) := mm_dk kX12_init_6 6 rfl
theorem dX12_init_509 : decode cX12_init 509 = .ok (.bipush 9, 2) := mm_dk kX12_init_6 7 rfl
theorem dX12_init_511 : decode cX12_init 511 = .ok (.newarray .long, 2) := mm_dk kX12_init_6 8 rfl
theorem dX12_init_513 : decode cX12_init 513 = .ok (.putfield 196, 3) := mm_dk kX12_init_6 9 rfl
theorem dX12_init_516 : decode cX12_init 516 = .ok (.aload_n 0, 1) := mm_dk kX12_init_6 10 rfl
theorem dX12_init_517 : decode cX12_init 517 = .ok (.bipush 9, 2) := mm_dk kX12_init_6 11 rfl
theorem dX12_init_519 : decode cX12_init 519 = .ok (.newarray .long, 2) := mm_dk kX12_init_6 12 rfl
theorem dX12_init_521 : decode cX12_init 521 = .ok (.putfield 199, 3) := mm_dk kX12_init_6 13 rfl
theorem dX12_init_524 : decode cX12_init 524 = .ok (.return_, 1) := mm_dk kX12_init_6 14 rfl
set_option maxRecDepth 100000 in
theorem kX12_done_0 : ([(0, .aload_n 0, 1), (1, .iconst 0, 1), (2, .putfield 202, 3), (5, .iload_n 1, 1), (6, .ireturn, 1)] : List (Nat × Instr × Nat)).all (fun x => decide (decode cX12_done x.1 = .ok x.2)) = true := by decide +kernel
theorem dX12_done_0 : decode cX12_done 0 = .ok (.aload_n 0, 1) := mm_dk kX12_done_0 0 rfl
theorem dX12_done_1 : decode cX12_done 1 = .ok (.iconst 0, 1) := mm_dk kX12_done_0 1 rfl
theorem dX12_done_2 : decode cX12_done 2 = .ok (.putfield 202, 3) := mm_dk kX12_done_0 2 rfl
theorem dX12_done_5 : decode cX12_done 5 = .ok (.iload_n 1, 1) := mm_dk kX12_done_0 3 rfl
theorem dX12_done_6 : decode cX12_done 6 = .ok (.ireturn, 1) := mm_dk kX12_done_0 4 rfl
set_option maxRecDepth 100000 in
theorem kX12_refused_0 : ([(0, .aload_n 0, 1), (1, .iload_n 1, 1), (2, .putfield 202, 3), (5, .iload_n 1, 1), (6, .ireturn, 1)] : List (Nat × Instr × Nat)).all (fun x => decide (decode cX12_refused x.1 = .ok x.2)) = true := by decide +kernel
theorem dX12_refused_0 : decode cX12_refused 0 = .ok (.aload_n 0, 1) := mm_dk kX12_refused_0 0 rfl
theorem dX12_refused_1 : decode cX12_refused 1 = .ok (.iload_n 1, 1) := mm_dk kX12_refused_0 1 rfl
theorem dX12_refused_2 : decode cX12_refused 2 = .ok (.putfield 202, 3) := mm_dk kX12_refused_0 2 rfl
theorem dX12_refused_5 : decode cX12_refused 5 = .ok (.iload_n 1, 1) := mm_dk kX12_refused_0 3 rfl
theorem dX12_refused_6 : decode cX12_refused 6 = .ok (.ireturn, 1) := mm_dk kX12_refused_0 4 rfl
set_option maxRecDepth 100000 in
theorem kX12_refusedNo_0 : ([(0, .aload_n 0, 1), (1, .iload_n 1, 1), (2, .putfield 202, 3), (5, .ldc 206, 2), (7, .ireturn, 1)] : List (Nat × Instr × Nat)).all (fun x => decide (decode cX12_refusedNo x.1 = .ok x.2)) = true := by decide +kernel
theorem dX12_refusedNo_0 : decode cX12_refusedNo 0 = .ok (.aload_n 0, 1) := mm_dk kX12_refusedNo_0 0 rfl
theorem dX12_refusedNo_1 : decode cX12_refusedNo 1 = .ok (.iload_n 1, 1) := mm_dk kX12_refusedNo_0 1 rfl
theorem dX12_refusedNo_2 : decode cX12_refusedNo 2 = .ok (.putfield 202, 3) := mm_dk kX12_refusedNo_0 2 rfl
theorem dX12_refusedNo_5 : decode cX12_refusedNo 5 = .ok (.ldc 206, 2) := mm_dk kX12_refusedNo_0 3 rfl
theorem dX12_refusedNo_7 : decode cX12_refusedNo 7 = .ok (.ireturn, 1) := mm_dk kX12_refusedNo_0 4 rfl
set_option maxRecDepth 100000 in
theorem kX12_isCoder_0 : ([(0, .iload_n 1, 1), (1, .ifCond .lt 15, 3), (4, .iload_n 1, 1), (5, .aload_n 0, 1), (6, .getfield 207, 3), (9, .if_icmp .ge 7, 3), (12, .iconst 1, 1), (13, .goto 4, 3), (16, .iconst 0, 1), (17, .ireturn, 1)] : List (Nat × Instr × Nat)).all (fun x => decide (decode cX12_isCoder x.1 = .ok x.2)) = true := by decide +kernel
theorem dX12_isCoder_0 : decode cX12_isCoder 0 = .ok (.iload_n 1, 1) := mm_dk kX12_isCoder_0 0 rfl
theorem dX12_isCoder_1 : decode cX12_isCoder 1 = .ok (.ifCond .lt 15, 3) := mm_dk kX12_isCoder_0 1 rfl
theorem dX12_isCoder_4 : decode cX12_isCoder 4 = .ok (.iload_n 1, 1) := mm_dk kX12_isCoder_0 2 rfl
theorem dX12_isCoder_5 : decode cX12_isCoder 5 = .ok (.aload_n 0, 1) := mm_dk kX12_isCoder_0 3 rfl
theorem dX12_isCoder_6 : decode cX12_isCoder 6 = .ok (.getfield 207, 3) := mm_dk kX12_isCoder_0 4 rfl
theorem dX12_isCoder_9 : decode cX12_isCoder 9 = .ok (.if_icmp .ge 7, 3) := mm_dk kX12_isCoder_0 5 rfl
theorem dX12_isCoder_12 : decode cX12_isCoder 12 = .ok (.iconst 1, 1) := mm_dk kX12_isCoder_0 6 rfl
theorem dX12_isCoder_13 : decode cX12_isCoder 13 = .ok (.goto 4, 3) := mm_dk kX12_isCoder_0 7 rfl
theorem dX12_isCoder_16 : decode cX12_isCoder 16 = .ok (.iconst 0, 1) := mm_dk kX12_isCoder_0 8 rfl
theorem dX12_isCoder_17 : decode cX12_isCoder 17 = .ok (.ireturn, 1) := mm_dk kX12_isCoder_0 9 rfl
set_option maxRecDepth 100000 in
theorem kX12_in_0 : ([(0, .iload_n 0, 1), (1, .iload_n 1, 1), (2, .if_icmp .lt 12, 3), (5, .iload_n 0, 1), (6, .iload_n 2, 1), (7, .if_icmp .gt 7, 3), (10, .iconst 1, 1), (11, .goto 4, 3), (14, .iconst 0, 1), (15, .ireturn, 1)] : List (Nat × Instr × Nat)).all (fun x => decide (decode cX12_in x.1 = .ok x.2)) = true := by decide +kernel
theorem dX12_in_0 : decode cX12_in 0 = .ok (.iload_n 0, 1) := mm_dk kX12_in_0 0 rfl
theorem dX12_in_1 : decode cX12_in 1 = .ok (.iload_n 1, 1) := mm_dk kX12_in_0 1 rfl
theorem dX12_in_2 : decode cX12_in 2 = .ok (.if_icmp .lt 12, 3) := mm_dk kX12_in_0 2 rfl
theorem dX12_in_5 : decode cX12_in 5 = .ok (.iload_n 0, 1) := mm_dk kX12_in_0 3 rfl
theorem dX12_in_6 : decode cX12_in 6 = .ok (.iload_n 2, 1) := mm_dk kX12_in_0 4 rfl
theorem dX12_in_7 : decode cX12_in 7 = .ok (.if_icmp .gt 7, 3) := mm_dk kX12_in_0 5 rfl
theorem dX12_in_10 : decode cX12_in 10 = .ok (.iconst 1, 1) := mm_dk kX12_in_0 6 rfl
theorem dX12_in_11 : decode cX12_in 11 = .ok (.goto 4, 3) := mm_dk kX12_in_0 7 rfl
theorem dX12_in_14 : decode cX12_in 14 = .ok (.iconst 0, 1) := mm_dk kX12_in_0 8 rfl
theorem dX12_in_15 : decode cX12_in 15 = .ok (.ireturn, 1) := mm_dk kX12_in_0 9 rfl
set_option maxRecDepth 100000 in
theorem kX12_tell_0 : ([(0, .aload_n 0, 1), (1, .getfield 13, 3), (4, .aload_n 0, 1), (5, .getfield 210, 3), (8, .iload_n 1, 1), (9, .iastore, 1), (10, .aload_n 0, 1), (11, .dup, 1), (12, .getfield 210, 3), (15, .iconst 1, 1), (16, .iadd, 1), (17, .putfield 210, 3), (20, .return_, 1)] : List (Nat × Instr × Nat)).all (fun x => decide (decode cX12_tell x.1 = .ok x.2)) = true := by decide +kernel
theorem dX12_tell_0 : decode cX12_tell 0 = .ok (.aload_n 0, 1) := mm_dk kX12_tell_0 0 rfl
theorem dX12_tell_1 : decode cX12_tell 1 = .ok (.getfield 13, 3) := mm_dk kX12_tell_0 1 rfl
theorem dX12_tell_4 : decode cX12_tell 4 = .ok (.aload_n 0, 1) := mm_dk kX12_tell_0 2 rfl
theorem dX12_tell_5 : decode cX12_tell 5 = .ok (.getfield 210, 3) := mm_dk kX12_tell_0 3 rfl
theorem dX12_tell_8 : decode cX12_tell 8 = .ok (.iload_n 1, 1) := mm_dk kX12_tell_0 4 rfl
theorem dX12_tell_9 : decode cX12_tell 9 = .ok (.iastore, 1) := mm_dk kX12_tell_0 5 rfl
theorem dX12_tell_10 : decode cX12_tell 10 = .ok (.aload_n 0, 1) := mm_dk kX12_tell_0 6 rfl
theorem dX12_tell_11 : decode cX12_tell 11 = .ok (.dup, 1) := mm_dk kX12_tell_0 7 rfl
theorem dX12_tell_12 : decode cX12_tell 12 = .ok (.getfield 210, 3) := mm_dk kX12_tell_0 8 rfl
theorem dX12_tell_15 : decode cX12_tell 15 = .ok (.iconst 1, 1) := mm_dk kX12_tell_0 9 rfl
theorem dX12_tell_16 : decode cX12_tell 16 = .ok (.iadd, 1) := mm_dk kX12_tell_0 10 rfl
theorem dX12_tell_17 : decode cX12_tell 17 = .ok (.putfield 210, 3) := mm_dk kX12_tell_0 11 rfl
theorem dX12_tell_20 : decode cX12_tell 20 = .ok (.return_, 1) := mm_dk kX12_tell_0 12 rfl
set_option maxRecDepth 100000 in
theorem kX12_sample16_0 : ([(0, .lload_n 1, 1), (1, .ldc2_w 213, 3), (4, .lcmp, 1), (5, .ifCond .gt 11, 3), (8, .lload_n 1, 1), (9, .ldc2_w 215, 3), (12, .lcmp, 1), (13, .ifCond .ge 29, 3), (16, .aload_n 0, 1), (17, .dup, 1), (18, .getfield 217, 3), (21, .lconst 1, 1), (22, .ladd, 1), (23, .putfield 217, 3), (26, .lload_n 1, 1), (27, .lconst 0, 1), (28, .lcmp, 1), (29, .ifCond .le 9, 3), (32, .sipush 32767, 3), (35, .goto 6, 3), (38, .sipush (-32768), 3), (41, .ireturn, 1), (42, .lload_n 1, 1), (43, .l2i, 1), (44, .ireturn, 1)] : List (Nat × Instr × Nat)).all (fun x => decide (decode cX12_sample16 x.1 = .ok x.2)) = true := by decide +kernel
theorem dX12_sample16_0 : decode cX12_sample16 0 = .ok (.lload_n 1, 1) := mm_dk kX12_sample16_0 0 rfl
theorem dX12_sample16_1 : decode cX12_sample16 1 = .ok (.ldc2_w 213, 3) := mm_dk kX12_sample16_0 1 rfl
theorem dX12_sample16_4 : decode cX12_sample16 4 = .ok (.lcmp, 1) := mm_dk kX12_sample16_0 2 rfl
theorem dX12_sample16_5 : decode cX12_sample16 5 = .ok (.ifCond .gt 11, 3) := mm_dk kX12_sample16_0 3 rfl
theorem dX12_sample16_8 : decode cX12_sample16 8 = .ok (.lload_n 1, 1) := mm_dk kX12_sample16_0 4 rfl
theorem dX12_sample16_9 : decode cX12_sample16 9 = .ok (.ldc2_w 215, 3) := mm_dk kX12_sample16_0 5 rfl
theorem dX12_sample16_12 : decode cX12_sample16 12 = .ok (.lcmp, 1) := mm_dk kX12_sample16_0 6 rfl
theorem dX12_sample16_13 : decode cX12_sample16 13 = .ok (.ifCond .ge 29, 3) := mm_dk kX12_sample16_0 7 rfl
theorem dX12_sample16_16 : decode cX12_sample16 16 = .ok (.aload_n 0, 1) := mm_dk kX12_sample16_0 8 rfl
theorem dX12_sample16_17 : decode cX12_sample16 17 = .ok (.dup, 1) := mm_dk kX12_sample16_0 9 rfl
theorem dX12_sample16_18 : decode cX12_sample16 18 = .ok (.getfield 217, 3) := mm_dk kX12_sample16_0 10 rfl
theorem dX12_sample16_21 : decode cX12_sample16 21 = .ok (.lconst 1, 1) := mm_dk kX12_sample16_0 11 rfl
theorem dX12_sample16_22 : decode cX12_sample16 22 = .ok (.ladd, 1) := mm_dk kX12_sample16_0 12 rfl
theorem dX12_sample16_23 : decode cX12_sample16 23 = .ok (.putfield 217, 3) := mm_dk kX12_sample16_0 13 rfl
theorem dX12_sample16_26 : decode cX12_sample16 26 = .ok (.lload_n 1, 1) := mm_dk kX12_sample16_0 14 rfl
theorem dX12_sample16_27 : decode cX12_sample16 27 = .ok (.lconst 0, 1) := mm_dk kX12_sample16_0 15 rfl
theorem dX12_sample16_28 : decode cX12_sample16 28 = .ok (.lcmp, 1) := mm_dk kX12_sample16_0 16 rfl
theorem dX12_sample16_29 : decode cX12_sample16 29 = .ok (.ifCond .le 9, 3) := mm_dk kX12_sample16_0 17 rfl
theorem dX12_sample16_32 : decode cX12_sample16 32 = .ok (.sipush 32767, 3) := mm_dk kX12_sample16_0 18 rfl
theorem dX12_sample16_35 : decode cX12_sample16 35 = .ok (.goto 6, 3) := mm_dk kX12_sample16_0 19 rfl
theorem dX12_sample16_38 : decode cX12_sample16 38 = .ok (.sipush (-32768), 3) := mm_dk kX12_sample16_0 20 rfl
theorem dX12_sample16_41 : decode cX12_sample16 41 = .ok (.ireturn, 1) := mm_dk kX12_sample16_0 21 rfl
theorem dX12_sample16_42 : decode cX12_sample16 42 = .ok (.lload_n 1, 1) := mm_dk kX12_sample16_0 22 rfl
theorem dX12_sample16_43 : decode cX12_sample16 43 = .ok (.l2i, 1) := mm_dk kX12_sample16_0 23 rfl
theorem dX12_sample16_44 : decode cX12_sample16 44 = .ok (.ireturn, 1) := mm_dk kX12_sample16_0 24 rfl
set_option maxRecDepth 100000 in
theorem kX12_word32_0 : ([(0, .lload_n 1, 1), (1, .ldc2_w 221, 3), (4, .lcmp, 1), (5, .ifCond .gt 11, 3), (8, .lload_n 1, 1), (9, .ldc2_w 223, 3), (12, .lcmp, 1), (13, .ifCond .ge 29, 3), (16, .aload_n 0, 1), (17, .dup, 1), (18, .getfield 217, 3), (21, .lconst 1, 1), (22, .ladd, 1), (23, .putfield 217, 3), (26, .lload_n 1, 1), (27, .lconst 0, 1), (28, .lcmp, 1), (29, .ifCond .le 9, 3), (32, .ldc2_w 221, 3), (35, .goto 6, 3), (38, .ldc2_w 223, 3), (41, .lreturn, 1), (42, .lload_n 1, 1), (43, .lreturn, 1)] : List (Nat × Instr × Nat)).all (fun x => decide (decode cX12_word32 x.1 = .ok x.2)) = true := by decide +kernel
theorem dX12_word32_0 : decode cX12_word32 0 = .ok (.lload_n 1, 1) := mm_dk kX12_word32_0 0 rfl
theorem dX12_word32_1 : decode cX12_word32 1 = .ok (.ldc2_w 221, 3) := mm_dk kX12_word32_0 1 rfl
theorem dX12_word32_4 : decode cX12_word32 4 = .ok (.lcmp, 1) := mm_dk kX12_word32_0 2 rfl
theorem dX12_word32_5 : decode cX12_word32 5 = .ok (.ifCond .gt 11, 3) := mm_dk kX12_word32_0 3 rfl
theorem dX12_word32_8 : decode cX12_word32 8 = .ok (.lload_n 1, 1) := mm_dk kX12_word32_0 4 rfl
theorem dX12_word32_9 : decode cX12_word32 9 = .ok (.ldc2_w 223, 3) := mm_dk kX12_word32_0 5 rfl
theorem dX12_word32_12 : decode cX12_word32 12 = .ok (.lcmp, 1) := mm_dk kX12_word32_0 6 rfl
theorem dX12_word32_13 : decode cX12_word32 13 = .ok (.ifCond .ge 29, 3) := mm_dk kX12_word32_0 7 rfl
theorem dX12_word32_16 : decode cX12_word32 16 = .ok (.aload_n 0, 1) := mm_dk kX12_word32_0 8 rfl
theorem dX12_word32_17 : decode cX12_word32 17 = .ok (.dup, 1) := mm_dk kX12_word32_0 9 rfl
theorem dX12_word32_18 : decode cX12_word32 18 = .ok (.getfield 217, 3) := mm_dk kX12_word32_0 10 rfl
theorem dX12_word32_21 : decode cX12_word32 21 = .ok (.lconst 1, 1) := mm_dk kX12_word32_0 11 rfl
theorem dX12_word32_22 : decode cX12_word32 22 = .ok (.ladd, 1) := mm_dk kX12_word32_0 12 rfl
theorem dX12_word32_23 : decode cX12_word32 23 = .ok (.putfield 217, 3) := mm_dk kX12_word32_0 13 rfl
theorem dX12_word32_26 : decode cX12_word32 26 = .ok (.lload_n 1, 1) := mm_dk kX12_word32_0 14 rfl
theorem dX12_word32_27 : decode cX12_word32 27 = .ok (.lconst 0, 1) := mm_dk kX12_word32_0 15 rfl
theorem dX12_word32_28 : decode cX12_word32 28 = .ok (.lcmp, 1) := mm_dk kX12_word32_0 16 rfl
theorem dX12_word32_29 : decode cX12_word32 29 = .ok (.ifCond .le 9, 3) := mm_dk kX12_word32_0 17 rfl
theorem dX12_word32_32 : decode cX12_word32 32 = .ok (.ldc2_w 221, 3) := mm_dk kX12_word32_0 18 rfl
theorem dX12_word32_35 : decode cX12_word32 35 = .ok (.goto 6, 3) := mm_dk kX12_word32_0 19 rfl
theorem dX12_word32_38 : decode cX12_word32 38 = .ok (.ldc2_w 223, 3) := mm_dk kX12_word32_0 20 rfl
theorem dX12_word32_41 : decode cX12_word32 41 = .ok (.lreturn, 1) := mm_dk kX12_word32_0 21 rfl
theorem dX12_word32_42 : decode cX12_word32 42 = .ok (.lload_n 1, 1) := mm_dk kX12_word32_0 22 rfl
theorem dX12_word32_43 : decode cX12_word32 43 = .ok (.lreturn, 1) := mm_dk kX12_word32_0 23 rfl
set_option maxRecDepth 100000 in
theorem kX12_half_0 : ([(0, .lload_n 0, 1), (1, .lload_n 2, 1), (2, .lmul, 1), (3, .ldc2_w 225, 3), (6, .ladd, 1), (7, .bipush 15, 2), (9, .lshr, 1), (10, .lreturn, 1)] : List (Nat × Instr × Nat)).all (fun x => decide (decode cX12_half x.1 = .ok x.2)) = true := by decide +kernel
theorem dX12_half_0 : decode cX12_half 0 = .ok (.lload_n 0, 1) := mm_dk kX12_half_0 0 rfl
theorem dX12_half_1 : decode cX12_half 1 = .ok (.lload_n 2, 1) := mm_dk kX12_half_0 1 rfl
theorem dX12_half_2 : decode cX12_half 2 = .ok (.lmul, 1) := mm_dk kX12_half_0 2 rfl
theorem dX12_half_3 : decode cX12_half 3 = .ok (.ldc2_w 225, 3) := mm_dk kX12_half_0 3 rfl
theorem dX12_half_6 : decode cX12_half 6 = .ok (.ladd, 1) := mm_dk kX12_half_0 4 rfl
theorem dX12_half_7 : decode cX12_half 7 = .ok (.bipush 15, 2) := mm_dk kX12_half_0 5 rfl
theorem dX12_half_9 : decode cX12_half 9 = .ok (.lshr, 1) := mm_dk kX12_half_0 6 rfl
theorem dX12_half_10 : decode cX12_half 10 = .ok (.lreturn, 1) := mm_dk kX12_half_0 7 rfl
set_option maxRecDepth 100000 in
theorem kX12_coder_0 : ([(0, .iload_n 1, 1), (1, .iconst 0, 1), (2, .iconst 1, 1), (3, .invokestatic 227, 3), (6, .ifCond .ne 9, 3), (9, .aload_n 0, 1), (10, .iconst (-1), 1), (11, .invokevirtual 231, 3), (14, .ireturn, 1), (15, .aload_n 0, 1), (16, .getfield 207, 3), (19, .bipush 8, 2), (21, .if_icmp .ne 10, 3), (24, .aload_n 0, 1), (25, .bipush (-3), 2), (27, .invokevirtual 231, 3), (30, .ireturn, 1), (31, .aload_n 0, 1), (32, .getfield 207, 3), (35, .istore_n 2, 1), (36, .aload_n 0, 1), (37, .dup, 1), (38, .getfield 207, 3), (41, .iconst 1, 1), (42, .iadd, 1), (43, .putfield 207, 3), (46, .aload_n 0, 1), (47, .getfield 22, 3), (50, .iload_n 2, 1), (51, .iload_n 1, 1), (52, .iastore, 1), (53, .aload_n 0, 1), (54, .getfield 25, 3), (57, .iload_n 2, 1), (58, .iconst 0, 1), (59, .bastore, 1), (60, .aload_n 0, 1), (61, .getfield 29, 3), (64, .iconst 2, 1), (65, .iload_n 2, 1)] : List (Nat × Instr × Nat)).all (fun x => decide (decode cX12_coder x.1 = .ok x.2)) = true := by decide +kernel
theorem dX12_coder_0 : decode cX12_coder 0 = .ok (.iload_n 1, 1) := mm_dk kX12_coder_0 0 rfl
theorem dX12_coder_1 : decode cX12_coder 1 = .ok (.iconst 0, 1) := mm_dk kX12_coder_0 1 rfl
theorem dX12_coder_2 : decode cX12_coder 2 = .ok (.iconst 1, 1) := mm_dk kX12_coder_0 2 rfl
theorem dX12_coder_3 : decode cX12_coder 3 = .ok (.invokestatic 227, 3) := mm_dk kX12_coder_0 3 rfl
theorem dX12_coder_6 : decode cX12_coder 6 = .ok (.ifCond .ne 9, 3) := mm_dk kX12_coder_0 4 rfl
theorem dX12_coder_9 : decode cX12_coder 9 = .ok (.aload_n 0, 1) := mm_dk kX12_coder_0 5 rfl
theorem dX12_coder_10 : decode cX12_coder 10 = .ok (.iconst (-1), 1) := mm_dk kX12_coder_0 6 rfl
theorem dX12_coder_11 : decode cX12_coder 11 = .ok (.invokevirtual 231, 3) := mm_dk kX12_coder_0 7 rfl
theorem dX12_coder_14 : decode cX12_coder 14 = .ok (.ireturn, 1) := mm_dk kX12_coder_0 8 rfl
theorem dX12_coder_15 : decode cX12_coder 15 = .ok (.aload_n 0, 1) := mm_dk kX12_coder_0 9 rfl
theorem dX12_coder_16 : decode cX12_coder 16 = .ok (.getfield 207, 3) := mm_dk kX12_coder_0 10 rfl
theorem dX12_coder_19 : decode cX12_coder 19 = .ok (.bipush 8, 2) := mm_dk kX12_coder_0 11 rfl
theorem dX12_coder_21 : decode cX12_coder 21 = .ok (.if_icmp .ne 10, 3) := mm_dk kX12_coder_0 12 rfl
theorem dX12_coder_24 : decode cX12_coder 24 = .ok (.aload_n 0, 1) := mm_dk kX12_coder_0 13 rfl
theorem dX12_coder_25 : decode cX12_coder 25 = .ok (.bipush (-3), 2) := mm_dk kX12_coder_0 14 rfl
theorem dX12_coder_27 : decode cX12_coder 27 = .ok (.invokevirtual 231, 3) := mm_dk kX12_coder_0 15 rfl
theorem dX12_coder_30 : decode cX12_coder 30 = .ok (.ireturn, 1) := mm_dk kX12_coder_0 16 rfl
theorem dX12_coder_31 : decode cX12_coder 31 = .ok (.aload_n 0, 1) := mm_dk kX12_coder_0 17 rfl
theorem dX12_coder_32 : decode cX12_coder 32 = .ok (.getfield 207, 3) := mm_dk kX12_coder_0 18 rfl
theorem dX12_coder_35 : decode cX12_coder 35 = .ok (.istore_n 2, 1) := mm_dk kX12_coder_0 19 rfl
theorem dX12_coder_36 : decode cX12_coder 36 = .ok (.aload_n 0, 1) := mm_dk kX12_coder_0 20 rfl
theorem dX12_coder_37 : decode cX12_coder 37 = .ok (.dup, 1) := mm_dk kX12_coder_0 21 rfl
theorem dX12_coder_38 : decode cX12_coder 38 = .ok (.getfield 207, 3) := mm_dk kX12_coder_0 22 rfl
theorem dX12_coder_41 : decode cX12_coder 41 = .ok (.iconst 1, 1) := mm_dk kX12_coder_0 23 rfl
theorem dX12_coder_42 : decode cX12_coder 42 = .ok (.iadd, 1) := mm_dk kX12_coder_0 24 rfl
theorem dX12_coder_43 : decode cX12_coder 43 = .ok (.putfield 207, 3) := mm_dk kX12_coder_0 25 rfl
theorem dX12_coder_46 : decode cX12_coder 46 = .ok (.aload_n 0, 1) := mm_dk kX12_coder_0 26 rfl
theorem dX12_coder_47 : decode cX12_coder 47 = .ok (.getfield 22, 3) := mm_dk kX12_coder_0 27 rfl
theorem dX12_coder_50 : decode cX12_coder 50 = .ok (.iload_n 2, 1) := mm_dk kX12_coder_0 28 rfl
theorem dX12_coder_51 : decode cX12_coder 51 = .ok (.iload_n 1, 1) := mm_dk kX12_coder_0 29 rfl
theorem dX12_coder_52 : decode cX12_coder 52 = .ok (.iastore, 1) := mm_dk kX12_coder_0 30 rfl
theorem dX12_coder_53 : decode cX12_coder 53 = .ok (.aload_n 0, 1) := mm_dk kX12_coder_0 31 rfl
theorem dX12_coder_54 : decode cX12_coder 54 = .ok (.getfield 25, 3) := mm_dk kX12_coder_0 32 rfl
theorem dX12_coder_57 : decode cX12_coder 57 = .ok (.iload_n 2, 1) := mm_dk kX12_coder_0 33 rfl
theorem dX12_coder_58 : decode cX12_coder 58 = .ok (.iconst 0, 1) := mm_dk kX12_coder_0 34 rfl
theorem dX12_coder_59 : decode cX12_coder 59 = .ok (.bastore, 1) := mm_dk kX12_coder_0 35 rfl
theorem dX12_coder_60 : decode cX12_coder 60 = .ok (.aload_n 0, 1) := mm_dk kX12_coder_0 36 rfl
theorem dX12_coder_61 : decode cX12_coder 61 = .ok (.getfield 29, 3) := mm_dk kX12_coder_0 37 rfl
theorem dX12_coder_64 : decode cX12_coder 64 = .ok (.iconst 2, 1) := mm_dk kX12_coder_0 38 rfl
theorem dX12_coder_65 : decode cX12_coder 65 = .ok (.iload_n 2, 1) := mm_dk kX12_coder_0 39 rfl
set_option maxRecDepth 100000 in
theorem kX12_coder_1 : ([(66, .imul, 1), (67, .iconst 0, 1), (68, .iastore, 1), (69, .aload_n 0, 1), (70, .getfield 29, 3), (73, .iconst 2, 1), (74, .iload_n 2, 1), (75, .imul, 1), (76, .iconst 1, 1), (77, .iadd, 1), (78, .iconst 0, 1), (79, .iastore, 1), (80, .aload_n 0, 1), (81, .getfield 32, 3), (84, .iload_n 2, 1), (85, .iconst 0, 1), (86, .iastore, 1), (87, .aload_n 0, 1), (88, .getfield 35, 3), (91, .iload_n 2, 1), (92, .iconst 0, 1), (93, .bastore, 1), (94, .aload_n 0, 1), (95, .getfield 38, 3), (98, .iload_n 2, 1), (99, .iconst 0, 1), (100, .iastore, 1), (101, .aload_n 0, 1), (102, .getfield 41, 3), (105, .iload_n 2, 1), (106, .iconst 0, 1), (107, .iastore, 1), (108, .aload_n 0, 1), (109, .getfield 47, 3), (112, .iload_n 2, 1), (113, .iconst 0, 1), (114, .iastore, 1), (115, .aload_n 0, 1), (116, .getfield 50, 3), (119, .iload_n 2, 1)] : List (Nat × Instr × Nat)).all (fun x => decide (decode cX12_coder x.1 = .ok x.2)) = true := by decide +kernel
theorem dX12_coder_66 : decode cX12_coder 66 = .ok (.imul, 1) := mm_dk kX12_coder_1 0 rfl
theorem dX12_coder_67 : decode cX12_coder 67 = .ok (.iconst 0, 1) := mm_dk kX12_coder_1 1 rfl
theorem dX12_coder_68 : decode cX12_coder 68 = .ok (.iastore, 1) := mm_dk kX12_coder_1 2 rfl
theorem dX12_coder_69 : decode cX12_coder 69 = .ok (.aload_n 0, 1) := mm_dk kX12_coder_1 3 rfl
theorem dX12_coder_70 : decode cX12_coder 70 = .ok (.getfield 29, 3) := mm_dk kX12_coder_1 4 rfl
theorem dX12_coder_73 : decode cX12_coder 73 = .ok (.iconst 2, 1) := mm_dk kX12_coder_1 5 rfl
theorem dX12_coder_74 : decode cX12_coder 74 = .ok (.iload_n 2, 1) := mm_dk kX12_coder_1 6 rfl
theorem dX12_coder_75 : decode cX12_coder 75 = .ok (.imul, 1) := mm_dk kX12_coder_1 7 rfl
theorem dX12_coder_76 : decode cX12_coder 76 = .ok (.iconst 1, 1) := mm_dk kX12_coder_1 8 rfl
theorem dX12_coder_77 : decode cX12_coder 77 = .ok (.iadd, 1) := mm_dk kX12_coder_1 9 rfl
theorem dX12_coder_78 : decode cX12_coder 78 = .ok (.iconst 0, 1) := mm_dk kX12_coder_1 10 rfl
theorem dX12_coder_79 : decode cX12_coder 79 = .ok (.iastore, 1) := mm_dk kX12_coder_1 11 rfl
theorem dX12_coder_80 : decode cX12_coder 80 = .ok (.aload_n 0, 1) := mm_dk kX12_coder_1 12 rfl
theorem dX12_coder_81 : decode cX12_coder 81 = .ok (.getfield 32, 3) := mm_dk kX12_coder_1 13 rfl
theorem dX12_coder_84 : decode cX12_coder 84 = .ok (.iload_n 2, 1) := mm_dk kX12_coder_1 14 rfl
theorem dX12_coder_85 : decode cX12_coder 85 = .ok (.iconst 0, 1) := mm_dk kX12_coder_1 15 rfl
theorem dX12_coder_86 : decode cX12_coder 86 = .ok (.iastore, 1) := mm_dk kX12_coder_1 16 rfl
theorem dX12_coder_87 : decode cX12_coder 87 = .ok (.aload_n 0, 1) := mm_dk kX12_coder_1 17 rfl
theorem dX12_coder_88 : decode cX12_coder 88 = .ok (.getfield 35, 3) := mm_dk kX12_coder_1 18 rfl
theorem dX12_coder_91 : decode cX12_coder 91 = .ok (.iload_n 2, 1) := mm_dk kX12_coder_1 19 rfl
theorem dX12_coder_92 : decode cX12_coder 92 = .ok (.iconst 0, 1) := mm_dk kX12_coder_1 20 rfl
theorem dX12_coder_93 : decode cX12_coder 93 = .ok (.bastore, 1) := mm_dk kX12_coder_1 21 rfl
theorem dX12_coder_94 : decode cX12_coder 94 = .ok (.aload_n 0, 1) := mm_dk kX12_coder_1 22 rfl
theorem dX12_coder_95 : decode cX12_coder 95 = .ok (.getfield 38, 3) := mm_dk kX12_coder_1 23 rfl
theorem dX12_coder_98 : decode cX12_coder 98 = .ok (.iload_n 2, 1) := mm_dk kX12_coder_1 24 rfl
theorem dX12_coder_99 : decode cX12_coder 99 = .ok (.iconst 0, 1) := mm_dk kX12_coder_1 25 rfl
theorem dX12_coder_100 : decode cX12_coder 100 = .ok (.iastore, 1) := mm_dk kX12_coder_1 26 rfl
theorem dX12_coder_101 : decode cX12_coder 101 = .ok (.aload_n 0, 1) := mm_dk kX12_coder_1 27 rfl
theorem dX12_coder_102 : decode cX12_coder 102 = .ok (.getfield 41, 3) := mm_dk kX12_coder_1 28 rfl
theorem dX12_coder_105 : decode cX12_coder 105 = .ok (.iload_n 2, 1) := mm_dk kX12_coder_1 29 rfl
theorem dX12_coder_106 : decode cX12_coder 106 = .ok (.iconst 0, 1) := mm_dk kX12_coder_1 30 rfl
theorem dX12_coder_107 : decode cX12_coder 107 = .ok (.iastore, 1) := mm_dk kX12_coder_1 31 rfl
theorem dX12_coder_108 : decode cX12_coder 108 = .ok (.aload_n 0, 1) := mm_dk kX12_coder_1 32 rfl
theorem dX12_coder_109 : decode cX12_coder 109 = .ok (.getfield 47, 3) := mm_dk kX12_coder_1 33 rfl
theorem dX12_coder_112 : decode cX12_coder 112 = .ok (.iload_n 2, 1) := mm_dk kX12_coder_1 34 rfl
theorem dX12_coder_113 : decode cX12_coder 113 = .ok (.iconst 0, 1) := mm_dk kX12_coder_1 35 rfl
theorem dX12_coder_114 : decode cX12_coder 114 = .ok (.iastore, 1) := mm_dk kX12_coder_1 36 rfl
theorem dX12_coder_115 : decode cX12_coder 115 = .ok (.aload_n 0, 1) := mm_dk kX12_coder_1 37 rfl
theorem dX12_coder_116 : decode cX12_coder 116 = .ok (.getfield 50, 3) := mm_dk kX12_coder_1 38 rfl
theorem dX12_coder_119 : decode cX12_coder 119 = .ok (.iload_n 2, 1) := mm_dk kX12_coder_1 39 rfl
set_option maxRecDepth 100000 in
theorem kX12_coder_2 : ([(120, .iconst 0, 1), (121, .iastore, 1), (122, .iconst 2, 1), (123, .iload_n 2, 1), (124, .imul, 1), (125, .istore_n 3, 1), (126, .iload_n 3, 1), (127, .iconst 2, 1), (128, .iload_n 2, 1), (129, .imul, 1), (130, .iconst 2, 1), (131, .iadd, 1), (132, .if_icmp .ge 90, 3), (135, .iconst 0, 1), (136, .istore 4, 2), (138, .iload 4, 2), (140, .sipush 160, 3), (143, .if_icmp .ge 23, 3), (146, .aload_n 0, 1), (147, .getfield 53, 3), (150, .sipush 160, 3), (153, .iload_n 3, 1), (154, .imul, 1), (155, .iload 4, 2), (157, .iadd, 1), (158, .iconst 0, 1), (159, .iastore, 1), (160, .iinc 4 1, 3), (163, .goto (-25), 3), (166, .iconst 0, 1), (167, .istore 4, 2), (169, .iload 4, 2), (171, .bipush 8, 2), (173, .if_icmp .ge 35, 3), (176, .aload_n 0, 1), (177, .getfield 56, 3), (180, .bipush 8, 2), (182, .iload_n 3, 1), (183, .imul, 1), (184, .iload 4, 2)] : List (Nat × Instr × Nat)).all (fun x => decide (decode cX12_coder x.1 = .ok x.2)) = true := by decide +kernel
theorem dX12_coder_120 : decode cX12_coder 120 = .ok (.iconst 0, 1) := mm_dk kX12_coder_2 0 rfl
theorem dX12_coder_121 : decode cX12_coder 121 = .ok (.iastore, 1) := mm_dk kX12_coder_2 1 rfl
theorem dX12_coder_122 : decode cX12_coder 122 = .ok (.iconst 2, 1) := mm_dk kX12_coder_2 2 rfl
theorem dX12_coder_123 : decode cX12_coder 123 = .ok (.iload_n 2, 1) := mm_dk kX12_coder_2 3 rfl
theorem dX12_coder_124 : decode cX12_coder 124 = .ok (.imul, 1) := mm_dk kX12_coder_2 4 rfl
theorem dX12_coder_125 : decode cX12_coder 125 = .ok (.istore_n 3, 1) := mm_dk kX12_coder_2 5 rfl
theorem dX12_coder_126 : decode cX12_coder 126 = .ok (.iload_n 3, 1) := mm_dk kX12_coder_2 6 rfl
theorem dX12_coder_127 : decode cX12_coder 127 = .ok (.iconst 2, 1) := mm_dk kX12_coder_2 7 rfl
theorem dX12_coder_128 : decode cX12_coder 128 = .ok (.iload_n 2, 1) := mm_dk kX12_coder_2 8 rfl
theorem dX12_coder_129 : decode cX12_coder 129 = .ok (.imul, 1) := mm_dk kX12_coder_2 9 rfl
theorem dX12_coder_130 : decode cX12_coder 130 = .ok (.iconst 2, 1) := mm_dk kX12_coder_2 10 rfl
theorem dX12_coder_131 : decode cX12_coder 131 = .ok (.iadd, 1) := mm_dk kX12_coder_2 11 rfl
theorem dX12_coder_132 : decode cX12_coder 132 = .ok (.if_icmp .ge 90, 3) := mm_dk kX12_coder_2 12 rfl
theorem dX12_coder_135 : decode cX12_coder 135 = .ok (.iconst 0, 1) := mm_dk kX12_coder_2 13 rfl
theorem dX12_coder_136 : decode cX12_coder 136 = .ok (.istore 4, 2) := mm_dk kX12_coder_2 14 rfl
theorem dX12_coder_138 : decode cX12_coder 138 = .ok (.iload 4, 2) := mm_dk kX12_coder_2 15 rfl
theorem dX12_coder_140 : decode cX12_coder 140 = .ok (.sipush 160, 3) := mm_dk kX12_coder_2 16 rfl
theorem dX12_coder_143 : decode cX12_coder 143 = .ok (.if_icmp .ge 23, 3) := mm_dk kX12_coder_2 17 rfl
theorem dX12_coder_146 : decode cX12_coder 146 = .ok (.aload_n 0, 1) := mm_dk kX12_coder_2 18 rfl
theorem dX12_coder_147 : decode cX12_coder 147 = .ok (.getfield 53, 3) := mm_dk kX12_coder_2 19 rfl
theorem dX12_coder_150 : decode cX12_coder 150 = .ok (.sipush 160, 3) := mm_dk kX12_coder_2 20 rfl
theorem dX12_coder_153 : decode cX12_coder 153 = .ok (.iload_n 3, 1) := mm_dk kX12_coder_2 21 rfl
theorem dX12_coder_154 : decode cX12_coder 154 = .ok (.imul, 1) := mm_dk kX12_coder_2 22 rfl
theorem dX12_coder_155 : decode cX12_coder 155 = .ok (.iload 4, 2) := mm_dk kX12_coder_2 23 rfl
theorem dX12_coder_157 : decode cX12_coder 157 = .ok (.iadd, 1) := mm_dk kX12_coder_2 24 rfl
theorem dX12_coder_158 : decode cX12_coder 158 = .ok (.iconst 0, 1) := mm_dk kX12_coder_2 25 rfl
theorem dX12_coder_159 : decode cX12_coder 159 = .ok (.iastore, 1) := mm_dk kX12_coder_2 26 rfl
theorem dX12_coder_160 : decode cX12_coder 160 = .ok (.iinc 4 1, 3) := mm_dk kX12_coder_2 27 rfl
theorem dX12_coder_163 : decode cX12_coder 163 = .ok (.goto (-25), 3) := mm_dk kX12_coder_2 28 rfl
theorem dX12_coder_166 : decode cX12_coder 166 = .ok (.iconst 0, 1) := mm_dk kX12_coder_2 29 rfl
theorem dX12_coder_167 : decode cX12_coder 167 = .ok (.istore 4, 2) := mm_dk kX12_coder_2 30 rfl
theorem dX12_coder_169 : decode cX12_coder 169 = .ok (.iload 4, 2) := mm_dk kX12_coder_2 31 rfl
theorem dX12_coder_171 : decode cX12_coder 171 = .ok (.bipush 8, 2) := mm_dk kX12_coder_2 32 rfl
theorem dX12_coder_173 : decode cX12_coder 173 = .ok (.if_icmp .ge 35, 3) := mm_dk kX12_coder_2 33 rfl
theorem dX12_coder_176 : decode cX12_coder 176 = .ok (.aload_n 0, 1) := mm_dk kX12_coder_2 34 rfl
theorem dX12_coder_177 : decode cX12_coder 177 = .ok (.getfield 56, 3) := mm_dk kX12_coder_2 35 rfl
theorem dX12_coder_180 : decode cX12_coder 180 = .ok (.bipush 8, 2) := mm_dk kX12_coder_2 36 rfl
theorem dX12_coder_182 : decode cX12_coder 182 = .ok (.iload_n 3, 1) := mm_dk kX12_coder_2 37 rfl
theorem dX12_coder_183 : decode cX12_coder 183 = .ok (.imul, 1) := mm_dk kX12_coder_2 38 rfl
theorem dX12_coder_184 : decode cX12_coder 184 = .ok (.iload 4, 2) := mm_dk kX12_coder_2 39 rfl
set_option maxRecDepth 100000 in
theorem kX12_coder_3 : ([(186, .iadd, 1), (187, .iconst 0, 1), (188, .iastore, 1), (189, .aload_n 0, 1), (190, .getfield 59, 3), (193, .bipush 8, 2), (195, .iload_n 3, 1), (196, .imul, 1), (197, .iload 4, 2), (199, .iadd, 1), (200, .iconst 0, 1), (201, .iastore, 1), (202, .iinc 4 1, 3), (205, .goto (-36), 3), (208, .aload_n 0, 1), (209, .getfield 62, 3), (212, .iload_n 3, 1), (213, .bipush 40, 2), (215, .iastore, 1), (216, .iinc 3 1, 3), (219, .goto (-93), 3), (222, .iconst 0, 1), (223, .istore_n 3, 1), (224, .iload_n 3, 1), (225, .bipush 8, 2), (227, .if_icmp .ge 33, 3), (230, .aload_n 0, 1), (231, .getfield 65, 3), (234, .bipush 8, 2), (236, .iload_n 2, 1), (237, .imul, 1), (238, .iload_n 3, 1), (239, .iadd, 1), (240, .iconst 0, 1), (241, .iastore, 1), (242, .aload_n 0, 1), (243, .getfield 71, 3), (246, .bipush 8, 2), (248, .iload_n 2, 1), (249, .imul, 1)] : List (Nat × Instr × Nat)).all (fun x => decide (decode cX12_coder x.1 = .ok x.2)) = true := by decide +kernel
theorem dX12_coder_186 : decode cX12_coder 186 = .ok (.iadd, 1) := mm_dk kX12_coder_3 0 rfl
theorem dX12_coder_187 : decode cX12_coder 187 = .ok (.iconst 0, 1) := mm_dk kX12_coder_3 1 rfl
theorem dX12_coder_188 : decode cX12_coder 188 = .ok (.iastore, 1) := mm_dk kX12_coder_3 2 rfl
theorem dX12_coder_189 : decode cX12_coder 189 = .ok (.aload_n 0, 1) := mm_dk kX12_coder_3 3 rfl
theorem dX12_coder_190 : decode cX12_coder 190 = .ok (.getfield 59, 3) := mm_dk kX12_coder_3 4 rfl
theorem dX12_coder_193 : decode cX12_coder 193 = .ok (.bipush 8, 2) := mm_dk kX12_coder_3 5 rfl
theorem dX12_coder_195 : decode cX12_coder 195 = .ok (.iload_n 3, 1) := mm_dk kX12_coder_3 6 rfl
theorem dX12_coder_196 : decode cX12_coder 196 = .ok (.imul, 1) := mm_dk kX12_coder_3 7 rfl
theorem dX12_coder_197 : decode cX12_coder 197 = .ok (.iload 4, 2) := mm_dk kX12_coder_3 8 rfl
theorem dX12_coder_199 : decode cX12_coder 199 = .ok (.iadd, 1) := mm_dk kX12_coder_3 9 rfl
theorem dX12_coder_200 : decode cX12_coder 200 = .ok (.iconst 0, 1) := mm_dk kX12_coder_3 10 rfl
theorem dX12_coder_201 : decode cX12_coder 201 = .ok (.iastore, 1) := mm_dk kX12_coder_3 11 rfl
theorem dX12_coder_202 : decode cX12_coder 202 = .ok (.iinc 4 1, 3) := mm_dk kX12_coder_3 12 rfl
theorem dX12_coder_205 : decode cX12_coder 205 = .ok (.goto (-36), 3) := mm_dk kX12_coder_3 13 rfl
theorem dX12_coder_208 : decode cX12_coder 208 = .ok (.aload_n 0, 1) := mm_dk kX12_coder_3 14 rfl
theorem dX12_coder_209 : decode cX12_coder 209 = .ok (.getfield 62, 3) := mm_dk kX12_coder_3 15 rfl
theorem dX12_coder_212 : decode cX12_coder 212 = .ok (.iload_n 3, 1) := mm_dk kX12_coder_3 16 rfl
theorem dX12_coder_213 : decode cX12_coder 213 = .ok (.bipush 40, 2) := mm_dk kX12_coder_3 17 rfl
theorem dX12_coder_215 : decode cX12_coder 215 = .ok (.iastore, 1) := mm_dk kX12_coder_3 18 rfl
theorem dX12_coder_216 : decode cX12_coder 216 = .ok (.iinc 3 1, 3) := mm_dk kX12_coder_3 19 rfl
theorem dX12_coder_219 : decode cX12_coder 219 = .ok (.goto (-93), 3) := mm_dk kX12_coder_3 20 rfl
theorem dX12_coder_222 : decode cX12_coder 222 = .ok (.iconst 0, 1) := mm_dk kX12_coder_3 21 rfl
theorem dX12_coder_223 : decode cX12_coder 223 = .ok (.istore_n 3, 1) := mm_dk kX12_coder_3 22 rfl
theorem dX12_coder_224 : decode cX12_coder 224 = .ok (.iload_n 3, 1) := mm_dk kX12_coder_3 23 rfl
theorem dX12_coder_225 : decode cX12_coder 225 = .ok (.bipush 8, 2) := mm_dk kX12_coder_3 24 rfl
theorem dX12_coder_227 : decode cX12_coder 227 = .ok (.if_icmp .ge 33, 3) := mm_dk kX12_coder_3 25 rfl
theorem dX12_coder_230 : decode cX12_coder 230 = .ok (.aload_n 0, 1) := mm_dk kX12_coder_3 26 rfl
theorem dX12_coder_231 : decode cX12_coder 231 = .ok (.getfield 65, 3) := mm_dk kX12_coder_3 27 rfl
theorem dX12_coder_234 : decode cX12_coder 234 = .ok (.bipush 8, 2) := mm_dk kX12_coder_3 28 rfl
theorem dX12_coder_236 : decode cX12_coder 236 = .ok (.iload_n 2, 1) := mm_dk kX12_coder_3 29 rfl
theorem dX12_coder_237 : decode cX12_coder 237 = .ok (.imul, 1) := mm_dk kX12_coder_3 30 rfl
theorem dX12_coder_238 : decode cX12_coder 238 = .ok (.iload_n 3, 1) := mm_dk kX12_coder_3 31 rfl
theorem dX12_coder_239 : decode cX12_coder 239 = .ok (.iadd, 1) := mm_dk kX12_coder_3 32 rfl
theorem dX12_coder_240 : decode cX12_coder 240 = .ok (.iconst 0, 1) := mm_dk kX12_coder_3 33 rfl
theorem dX12_coder_241 : decode cX12_coder 241 = .ok (.iastore, 1) := mm_dk kX12_coder_3 34 rfl
theorem dX12_coder_242 : decode cX12_coder 242 = .ok (.aload_n 0, 1) := mm_dk kX12_coder_3 35 rfl
theorem dX12_coder_243 : decode cX12_coder 243 = .ok (.getfield 71, 3) := mm_dk kX12_coder_3 36 rfl
theorem dX12_coder_246 : decode cX12_coder 246 = .ok (.bipush 8, 2) := mm_dk kX12_coder_3 37 rfl
theorem dX12_coder_248 : decode cX12_coder 248 = .ok (.iload_n 2, 1) := mm_dk kX12_coder_3 38 rfl
theorem dX12_coder_249 : decode cX12_coder 249 = .ok (.imul, 1) := mm_dk kX12_coder_3 39 rfl
set_option maxRecDepth 100000 in
theorem kX12_coder_4 : ([(250, .iload_n 3, 1), (251, .iadd, 1), (252, .iconst 0, 1), (253, .iastore, 1), (254, .iinc 3 1, 3), (257, .goto (-33), 3), (260, .aload_n 0, 1), (261, .getfield 68, 3), (264, .iload_n 2, 1), (265, .iconst 0, 1), (266, .iastore, 1), (267, .aload_n 0, 1), (268, .getfield 93, 3), (271, .iload_n 2, 1), (272, .iconst 0, 1), (273, .iastore, 1), (274, .aload_n 0, 1), (275, .getfield 112, 3), (278, .iload_n 2, 1), (279, .iload_n 1, 1), (280, .iastore, 1), (281, .aload_n 0, 1), (282, .getfield 115, 3), (285, .iload_n 2, 1), (286, .iconst 0, 1), (287, .iastore, 1), (288, .aload_n 0, 1), (289, .getfield 118, 3), (292, .iload_n 2, 1), (293, .iconst 0, 1), (294, .iastore, 1), (295, .aload_n 0, 1), (296, .getfield 121, 3), (299, .iload_n 2, 1), (300, .iconst 0, 1), (301, .iastore, 1), (302, .aload_n 0, 1), (303, .getfield 124, 3), (306, .iload_n 2, 1), (307, .iconst 0, 1)] : List (Nat × Instr × Nat)).all (fun x => decide (decode cX12_coder x.1 = .ok x.2)) = true := by decide +kernel
theorem dX12_coder_250 : decode cX12_coder 250 = .ok (.iload_n 3, 1) := mm_dk kX12_coder_4 0 rfl
theorem dX12_coder_251 : decode cX12_coder 251 = .ok (.iadd, 1) := mm_dk kX12_coder_4 1 rfl
theorem dX12_coder_252 : decode cX12_coder 252 = .ok (.iconst 0, 1) := mm_dk kX12_coder_4 2 rfl
theorem dX12_coder_253 : decode cX12_coder 253 = .ok (.iastore, 1) := mm_dk kX12_coder_4 3 rfl
theorem dX12_coder_254 : decode cX12_coder 254 = .ok (.iinc 3 1, 3) := mm_dk kX12_coder_4 4 rfl
theorem dX12_coder_257 : decode cX12_coder 257 = .ok (.goto (-33), 3) := mm_dk kX12_coder_4 5 rfl
theorem dX12_coder_260 : decode cX12_coder 260 = .ok (.aload_n 0, 1) := mm_dk kX12_coder_4 6 rfl
theorem dX12_coder_261 : decode cX12_coder 261 = .ok (.getfield 68, 3) := mm_dk kX12_coder_4 7 rfl
theorem dX12_coder_264 : decode cX12_coder 264 = .ok (.iload_n 2, 1) := mm_dk kX12_coder_4 8 rfl
theorem dX12_coder_265 : decode cX12_coder 265 = .ok (.iconst 0, 1) := mm_dk kX12_coder_4 9 rfl
theorem dX12_coder_266 : decode cX12_coder 266 = .ok (.iastore, 1) := mm_dk kX12_coder_4 10 rfl
theorem dX12_coder_267 : decode cX12_coder 267 = .ok (.aload_n 0, 1) := mm_dk kX12_coder_4 11 rfl
theorem dX12_coder_268 : decode cX12_coder 268 = .ok (.getfield 93, 3) := mm_dk kX12_coder_4 12 rfl
theorem dX12_coder_271 : decode cX12_coder 271 = .ok (.iload_n 2, 1) := mm_dk kX12_coder_4 13 rfl
theorem dX12_coder_272 : decode cX12_coder 272 = .ok (.iconst 0, 1) := mm_dk kX12_coder_4 14 rfl
theorem dX12_coder_273 : decode cX12_coder 273 = .ok (.iastore, 1) := mm_dk kX12_coder_4 15 rfl
theorem dX12_coder_274 : decode cX12_coder 274 = .ok (.aload_n 0, 1) := mm_dk kX12_coder_4 16 rfl
theorem dX12_coder_275 : decode cX12_coder 275 = .ok (.getfield 112, 3) := mm_dk kX12_coder_4 17 rfl
theorem dX12_coder_278 : decode cX12_coder 278 = .ok (.iload_n 2, 1) := mm_dk kX12_coder_4 18 rfl
theorem dX12_coder_279 : decode cX12_coder 279 = .ok (.iload_n 1, 1) := mm_dk kX12_coder_4 19 rfl
theorem dX12_coder_280 : decode cX12_coder 280 = .ok (.iastore, 1) := mm_dk kX12_coder_4 20 rfl
theorem dX12_coder_281 : decode cX12_coder 281 = .ok (.aload_n 0, 1) := mm_dk kX12_coder_4 21 rfl
theorem dX12_coder_282 : decode cX12_coder 282 = .ok (.getfield 115, 3) := mm_dk kX12_coder_4 22 rfl
theorem dX12_coder_285 : decode cX12_coder 285 = .ok (.iload_n 2, 1) := mm_dk kX12_coder_4 23 rfl
theorem dX12_coder_286 : decode cX12_coder 286 = .ok (.iconst 0, 1) := mm_dk kX12_coder_4 24 rfl
theorem dX12_coder_287 : decode cX12_coder 287 = .ok (.iastore, 1) := mm_dk kX12_coder_4 25 rfl
theorem dX12_coder_288 : decode cX12_coder 288 = .ok (.aload_n 0, 1) := mm_dk kX12_coder_4 26 rfl
theorem dX12_coder_289 : decode cX12_coder 289 = .ok (.getfield 118, 3) := mm_dk kX12_coder_4 27 rfl
theorem dX12_coder_292 : decode cX12_coder 292 = .ok (.iload_n 2, 1) := mm_dk kX12_coder_4 28 rfl
theorem dX12_coder_293 : decode cX12_coder 293 = .ok (.iconst 0, 1) := mm_dk kX12_coder_4 29 rfl
theorem dX12_coder_294 : decode cX12_coder 294 = .ok (.iastore, 1) := mm_dk kX12_coder_4 30 rfl
theorem dX12_coder_295 : decode cX12_coder 295 = .ok (.aload_n 0, 1) := mm_dk kX12_coder_4 31 rfl
theorem dX12_coder_296 : decode cX12_coder 296 = .ok (.getfield 121, 3) := mm_dk kX12_coder_4 32 rfl
theorem dX12_coder_299 : decode cX12_coder 299 = .ok (.iload_n 2, 1) := mm_dk kX12_coder_4 33 rfl
theorem dX12_coder_300 : decode cX12_coder 300 = .ok (.iconst 0, 1) := mm_dk kX12_coder_4 34 rfl
theorem dX12_coder_301 : decode cX12_coder 301 = .ok (.iastore, 1) := mm_dk kX12_coder_4 35 rfl
theorem dX12_coder_302 : decode cX12_coder 302 = .ok (.aload_n 0, 1) := mm_dk kX12_coder_4 36 rfl
theorem dX12_coder_303 : decode cX12_coder 303 = .ok (.getfield 124, 3) := mm_dk kX12_coder_4 37 rfl
theorem dX12_coder_306 : decode cX12_coder 306 = .ok (.iload_n 2, 1) := mm_dk kX12_coder_4 38 rfl
theorem dX12_coder_307 : decode cX12_coder 307 = .ok (.iconst 0, 1) := mm_dk kX12_coder_4 39 rfl
set_option maxRecDepth 100000 in
theorem kX12_coder_5 : ([(308, .iastore, 1), (309, .aload_n 0, 1), (310, .getfield 127, 3), (313, .iload_n 2, 1), (314, .iconst 0, 1), (315, .iastore, 1), (316, .aload_n 0, 1), (317, .getfield 130, 3), (320, .iload_n 2, 1), (321, .iconst 0, 1), (322, .iastore, 1), (323, .aload_n 0, 1), (324, .getfield 133, 3), (327, .iload_n 2, 1), (328, .iconst 0, 1), (329, .iastore, 1), (330, .aload_n 0, 1), (331, .getfield 136, 3), (334, .iload_n 2, 1), (335, .iconst 0, 1), (336, .iastore, 1), (337, .aload_n 0, 1), (338, .getfield 139, 3), (341, .iload_n 2, 1), (342, .bipush (-4), 2), (344, .iastore, 1), (345, .aload_n 0, 1), (346, .getfield 142, 3), (349, .iload_n 2, 1), (350, .iconst 0, 1), (351, .iastore, 1), (352, .aload_n 0, 1), (353, .getfield 148, 3), (356, .iload_n 2, 1), (357, .sipush 2000, 3), (360, .iastore, 1), (361, .aload_n 0, 1), (362, .getfield 151, 3), (365, .iload_n 2, 1), (366, .iconst 0, 1)] : List (Nat × Instr × Nat)).all (fun x => decide (decode cX12_coder x.1 = .ok x.2)) = true := by decide +kernel
theorem dX12_coder_308 : decode cX12_coder 308 = .ok (.iastore, 1) := mm_dk kX12_coder_5 0 rfl
theorem dX12_coder_309 : decode cX12_coder 309 = .ok (.aload_n 0, 1) := mm_dk kX12_coder_5 1 rfl
theorem dX12_coder_310 : decode cX12_coder 310 = .ok (.getfield 127, 3) := mm_dk kX12_coder_5 2 rfl
theorem dX12_coder_313 : decode cX12_coder 313 = .ok (.iload_n 2, 1) := mm_dk kX12_coder_5 3 rfl
theorem dX12_coder_314 : decode cX12_coder 314 = .ok (.iconst 0, 1) := mm_dk kX12_coder_5 4 rfl
theorem dX12_coder_315 : decode cX12_coder 315 = .ok (.iastore, 1) := mm_dk kX12_coder_5 5 rfl
theorem dX12_coder_316 : decode cX12_coder 316 = .ok (.aload_n 0, 1) := mm_dk kX12_coder_5 6 rfl
theorem dX12_coder_317 : decode cX12_coder 317 = .ok (.getfield 130, 3) := mm_dk kX12_coder_5 7 rfl
theorem dX12_coder_320 : decode cX12_coder 320 = .ok (.iload_n 2, 1) := mm_dk kX12_coder_5 8 rfl
theorem dX12_coder_321 : decode cX12_coder 321 = .ok (.iconst 0, 1) := mm_dk kX12_coder_5 9 rfl
theorem dX12_coder_322 : decode cX12_coder 322 = .ok (.iastore, 1) := mm_dk kX12_coder_5 10 rfl
theorem dX12_coder_323 : decode cX12_coder 323 = .ok (.aload_n 0, 1) := mm_dk kX12_coder_5 11 rfl
theorem dX12_coder_324 : decode cX12_coder 324 = .ok (.getfield 133, 3) := mm_dk kX12_coder_5 12 rfl
theorem dX12_coder_327 : decode cX12_coder 327 = .ok (.iload_n 2, 1) := mm_dk kX12_coder_5 13 rfl
theorem dX12_coder_328 : decode cX12_coder 328 = .ok (.iconst 0, 1) := mm_dk kX12_coder_5 14 rfl
theorem dX12_coder_329 : decode cX12_coder 329 = .ok (.iastore, 1) := mm_dk kX12_coder_5 15 rfl
theorem dX12_coder_330 : decode cX12_coder 330 = .ok (.aload_n 0, 1) := mm_dk kX12_coder_5 16 rfl
theorem dX12_coder_331 : decode cX12_coder 331 = .ok (.getfield 136, 3) := mm_dk kX12_coder_5 17 rfl
theorem dX12_coder_334 : decode cX12_coder 334 = .ok (.iload_n 2, 1) := mm_dk kX12_coder_5 18 rfl
theorem dX12_coder_335 : decode cX12_coder 335 = .ok (.iconst 0, 1) := mm_dk kX12_coder_5 19 rfl
theorem dX12_coder_336 : decode cX12_coder 336 = .ok (.iastore, 1) := mm_dk kX12_coder_5 20 rfl
theorem dX12_coder_337 : decode cX12_coder 337 = .ok (.aload_n 0, 1) := mm_dk kX12_coder_5 21 rfl
theorem dX12_coder_338 : decode cX12_coder 338 = .ok (.getfield 139, 3) := mm_dk kX12_coder_5 22 rfl
theorem dX12_coder_341 : decode cX12_coder 341 = .ok (.iload_n 2, 1) := mm_dk kX12_coder_5 23 rfl
theorem dX12_coder_342 : decode cX12_coder 342 = .ok (.bipush (-4), 2) := mm_dk kX12_coder_5 24 rfl
theorem dX12_coder_344 : decode cX12_coder 344 = .ok (.iastore, 1) := mm_dk kX12_coder_5 25 rfl
theorem dX12_coder_345 : decode cX12_coder 345 = .ok (.aload_n 0, 1) := mm_dk kX12_coder_5 26 rfl
theorem dX12_coder_346 : decode cX12_coder 346 = .ok (.getfield 142, 3) := mm_dk kX12_coder_5 27 rfl
theorem dX12_coder_349 : decode cX12_coder 349 = .ok (.iload_n 2, 1) := mm_dk kX12_coder_5 28 rfl
theorem dX12_coder_350 : decode cX12_coder 350 = .ok (.iconst 0, 1) := mm_dk kX12_coder_5 29 rfl
theorem dX12_coder_351 : decode cX12_coder 351 = .ok (.iastore, 1) := mm_dk kX12_coder_5 30 rfl
theorem dX12_coder_352 : decode cX12_coder 352 = .ok (.aload_n 0, 1) := mm_dk kX12_coder_5 31 rfl
theorem dX12_coder_353 : decode cX12_coder 353 = .ok (.getfield 148, 3) := mm_dk kX12_coder_5 32 rfl
theorem dX12_coder_356 : decode cX12_coder 356 = .ok (.iload_n 2, 1) := mm_dk kX12_coder_5 33 rfl
theorem dX12_coder_357 : decode cX12_coder 357 = .ok (.sipush 2000, 3) := mm_dk kX12_coder_5 34 rfl
theorem dX12_coder_360 : decode cX12_coder 360 = .ok (.iastore, 1) := mm_dk kX12_coder_5 35 rfl
theorem dX12_coder_361 : decode cX12_coder 361 = .ok (.aload_n 0, 1) := mm_dk kX12_coder_5 36 rfl
theorem dX12_coder_362 : decode cX12_coder 362 = .ok (.getfield 151, 3) := mm_dk kX12_coder_5 37 rfl
theorem dX12_coder_365 : decode cX12_coder 365 = .ok (.iload_n 2, 1) := mm_dk kX12_coder_5 38 rfl
theorem dX12_coder_366 : decode cX12_coder 366 = .ok (.iconst 0, 1) := mm_dk kX12_coder_5 39 rfl
set_option maxRecDepth 100000 in
theorem kX12_coder_6 : ([(367, .iastore, 1), (368, .iconst 0, 1), (369, .istore_n 3, 1), (370, .iload_n 3, 1), (371, .iconst 4, 1), (372, .if_icmp .ge 20, 3), (375, .aload_n 0, 1), (376, .getfield 154, 3), (379, .iconst 4, 1), (380, .iload_n 2, 1), (381, .imul, 1), (382, .iload_n 3, 1), (383, .iadd, 1), (384, .iconst 0, 1), (385, .iastore, 1), (386, .iinc 3 1, 3), (389, .goto (-19), 3), (392, .aload_n 0, 1), (393, .iload_n 2, 1), (394, .invokevirtual 235, 3), (397, .ireturn, 1)] : List (Nat × Instr × Nat)).all (fun x => decide (decode cX12_coder x.1 = .ok x.2)) = true := by decide +kernel
theorem dX12_coder_367 : decode cX12_coder 367 = .ok (.iastore, 1) := mm_dk kX12_coder_6 0 rfl
theorem dX12_coder_368 : decode cX12_coder 368 = .ok (.iconst 0, 1) := mm_dk kX12_coder_6 1 rfl
theorem dX12_coder_369 : decode cX12_coder 369 = .ok (.istore_n 3, 1) := mm_dk kX12_coder_6 2 rfl
theorem dX12_coder_370 : decode cX12_coder 370 = .ok (.iload_n 3, 1) := mm_dk kX12_coder_6 3 rfl
theorem dX12_coder_371 : decode cX12_coder 371 = .ok (.iconst 4, 1) := mm_dk kX12_coder_6 4 rfl
theorem dX12_coder_372 : decode cX12_coder 372 = .ok (.if_icmp .ge 20, 3) := mm_dk kX12_coder_6 5 rfl
theorem dX12_coder_375 : decode cX12_coder 375 = .ok (.aload_n 0, 1) := mm_dk kX12_coder_6 6 rfl
theorem dX12_coder_376 : decode cX12_coder 376 = .ok (.getfield 154, 3) := mm_dk kX12_coder_6 7 rfl
theorem dX12_coder_379 : decode cX12_coder 379 = .ok (.iconst 4, 1) := mm_dk kX12_coder_6 8 rfl
theorem dX12_coder_380 : decode cX12_coder 380 = .ok (.iload_n 2, 1) := mm_dk kX12_coder_6 9 rfl
theorem dX12_coder_381 : decode cX12_coder 381 = .ok (.imul, 1) := mm_dk kX12_coder_6 10 rfl
theorem dX12_coder_382 : decode cX12_coder 382 = .ok (.iload_n 3, 1) := mm_dk kX12_coder_6 11 rfl
theorem dX12_coder_383 : decode cX12_coder 383 = .ok (.iadd, 1) := mm_dk kX12_coder_6 12 rfl
theorem dX12_coder_384 : decode cX12_coder 384 = .ok (.iconst 0, 1) := mm_dk kX12_coder_6 13 rfl
theorem dX12_coder_385 : decode cX12_coder 385 = .ok (.iastore, 1) := mm_dk kX12_coder_6 14 rfl
theorem dX12_coder_386 : decode cX12_coder 386 = .ok (.iinc 3 1, 3) := mm_dk kX12_coder_6 15 rfl
theorem dX12_coder_389 : decode cX12_coder 389 = .ok (.goto (-19), 3) := mm_dk kX12_coder_6 16 rfl
theorem dX12_coder_392 : decode cX12_coder 392 = .ok (.aload_n 0, 1) := mm_dk kX12_coder_6 17 rfl
theorem dX12_coder_393 : decode cX12_coder 393 = .ok (.iload_n 2, 1) := mm_dk kX12_coder_6 18 rfl
theorem dX12_coder_394 : decode cX12_coder 394 = .ok (.invokevirtual 235, 3) := mm_dk kX12_coder_6 19 rfl
theorem dX12_coder_397 : decode cX12_coder 397 = .ok (.ireturn, 1) := mm_dk kX12_coder_6 20 rfl
set_option maxRecDepth 100000 in
theorem kX12_rate_0 : ([(0, .aload_n 0, 1), (1, .iload_n 1, 1), (2, .invokevirtual 238, 3), (5, .ifCond .eq 12, 3), (8, .iload_n 2, 1), (9, .iconst 0, 1), (10, .iconst 1, 1), (11, .invokestatic 227, 3), (14, .ifCond .ne 9, 3), (17, .aload_n 0, 1), (18, .iconst (-1), 1), (19, .invokevirtual 231, 3), (22, .ireturn, 1), (23, .aload_n 0, 1), (24, .getfield 22, 3), (27, .iload_n 1, 1), (28, .iaload, 1), (29, .istore_n 3, 1), (30, .aload_n 0, 1), (31, .getfield 22, 3), (34, .iload_n 1, 1), (35, .iload_n 2, 1), (36, .iastore, 1), (37, .aload_n 0, 1), (38, .iload_n 3, 1), (39, .invokevirtual 235, 3), (42, .ireturn, 1)] : List (Nat × Instr × Nat)).all (fun x => decide (decode cX12_rate x.1 = .ok x.2)) = true := by decide +kernel
theorem dX12_rate_0 : decode cX12_rate 0 = .ok (.aload_n 0, 1) := mm_dk kX12_rate_0 0 rfl
theorem dX12_rate_1 : decode cX12_rate 1 = .ok (.iload_n 1, 1) := mm_dk kX12_rate_0 1 rfl
theorem dX12_rate_2 : decode cX12_rate 2 = .ok (.invokevirtual 238, 3) := mm_dk kX12_rate_0 2 rfl
theorem dX12_rate_5 : decode cX12_rate 5 = .ok (.ifCond .eq 12, 3) := mm_dk kX12_rate_0 3 rfl
theorem dX12_rate_8 : decode cX12_rate 8 = .ok (.iload_n 2, 1) := mm_dk kX12_rate_0 4 rfl
theorem dX12_rate_9 : decode cX12_rate 9 = .ok (.iconst 0, 1) := mm_dk kX12_rate_0 5 rfl
theorem dX12_rate_10 : decode cX12_rate 10 = .ok (.iconst 1, 1) := mm_dk kX12_rate_0 6 rfl
theorem dX12_rate_11 : decode cX12_rate 11 = .ok (.invokestatic 227, 3) := mm_dk kX12_rate_0 7 rfl
theorem dX12_rate_14 : decode cX12_rate 14 = .ok (.ifCond .ne 9, 3) := mm_dk kX12_rate_0 8 rfl
theorem dX12_rate_17 : decode cX12_rate 17 = .ok (.aload_n 0, 1) := mm_dk kX12_rate_0 9 rfl
theorem dX12_rate_18 : decode cX12_rate 18 = .ok (.iconst (-1), 1) := mm_dk kX12_rate_0 10 rfl
theorem dX12_rate_19 : decode cX12_rate 19 = .ok (.invokevirtual 231, 3) := mm_dk kX12_rate_0 11 rfl
theorem dX12_rate_22 : decode cX12_rate 22 = .ok (.ireturn, 1) := mm_dk kX12_rate_0 12 rfl
theorem dX12_rate_23 : decode cX12_rate 23 = .ok (.aload_n 0, 1) := mm_dk kX12_rate_0 13 rfl
theorem dX12_rate_24 : decode cX12_rate 24 = .ok (.getfield 22, 3) := mm_dk kX12_rate_0 14 rfl
theorem dX12_rate_27 : decode cX12_rate 27 = .ok (.iload_n 1, 1) := mm_dk kX12_rate_0 15 rfl
theorem dX12_rate_28 : decode cX12_rate 28 = .ok (.iaload, 1) := mm_dk kX12_rate_0 16 rfl
theorem dX12_rate_29 : decode cX12_rate 29 = .ok (.istore_n 3, 1) := mm_dk kX12_rate_0 17 rfl
theorem dX12_rate_30 : decode cX12_rate 30 = .ok (.aload_n 0, 1) := mm_dk kX12_rate_0 18 rfl
theorem dX12_rate_31 : decode cX12_rate 31 = .ok (.getfield 22, 3) := mm_dk kX12_rate_0 19 rfl
theorem dX12_rate_34 : decode cX12_rate 34 = .ok (.iload_n 1, 1) := mm_dk kX12_rate_0 20 rfl
theorem dX12_rate_35 : decode cX12_rate 35 = .ok (.iload_n 2, 1) := mm_dk kX12_rate_0 21 rfl
theorem dX12_rate_36 : decode cX12_rate 36 = .ok (.iastore, 1) := mm_dk kX12_rate_0 22 rfl
theorem dX12_rate_37 : decode cX12_rate 37 = .ok (.aload_n 0, 1) := mm_dk kX12_rate_0 23 rfl
theorem dX12_rate_38 : decode cX12_rate 38 = .ok (.iload_n 3, 1) := mm_dk kX12_rate_0 24 rfl
theorem dX12_rate_39 : decode cX12_rate 39 = .ok (.invokevirtual 235, 3) := mm_dk kX12_rate_0 25 rfl
theorem dX12_rate_42 : decode cX12_rate 42 = .ok (.ireturn, 1) := mm_dk kX12_rate_0 26 rfl
set_option maxRecDepth 100000 in
theorem kX12_emphasis_0 : ([(0, .aload_n 0, 1), (1, .iload_n 1, 1), (2, .invokevirtual 238, 3), (5, .ifCond .ne 9, 3), (8, .aload_n 0, 1), (9, .iconst (-1), 1), (10, .invokevirtual 231, 3), (13, .ireturn, 1), (14, .aload_n 0, 1), (15, .getfield 25, 3), (18, .iload_n 1, 1), (19, .baload, 1), (20, .ifCond .eq 7, 3), (23, .iconst 1, 1), (24, .goto 4, 3), (27, .iconst 0, 1), (28, .istore_n 3, 1), (29, .aload_n 0, 1), (30, .getfield 25, 3), (33, .iload_n 1, 1), (34, .iload_n 2, 1), (35, .bastore, 1), (36, .aload_n 0, 1), (37, .iload_n 3, 1), (38, .invokevirtual 235, 3), (41, .ireturn, 1)] : List (Nat × Instr × Nat)).all (fun x => decide (decode cX12_emphasis x.1 = .ok x.2)) = true := by decide +kernel
theorem dX12_emphasis_0 : decode cX12_emphasis 0 = .ok (.aload_n 0, 1) := mm_dk kX12_emphasis_0 0 rfl
theorem dX12_emphasis_1 : decode cX12_emphasis 1 = .ok (.iload_n 1, 1) := mm_dk kX12_emphasis_0 1 rfl
theorem dX12_emphasis_2 : decode cX12_emphasis 2 = .ok (.invokevirtual 238, 3) := mm_dk kX12_emphasis_0 2 rfl
theorem dX12_emphasis_5 : decode cX12_emphasis 5 = .ok (.ifCond .ne 9, 3) := mm_dk kX12_emphasis_0 3 rfl
theorem dX12_emphasis_8 : decode cX12_emphasis 8 = .ok (.aload_n 0, 1) := mm_dk kX12_emphasis_0 4 rfl
theorem dX12_emphasis_9 : decode cX12_emphasis 9 = .ok (.iconst (-1), 1) := mm_dk kX12_emphasis_0 5 rfl
theorem dX12_emphasis_10 : decode cX12_emphasis 10 = .ok (.invokevirtual 231, 3) := mm_dk kX12_emphasis_0 6 rfl
theorem dX12_emphasis_13 : decode cX12_emphasis 13 = .ok (.ireturn, 1) := mm_dk kX12_emphasis_0 7 rfl
theorem dX12_emphasis_14 : decode cX12_emphasis 14 = .ok (.aload_n 0, 1) := mm_dk kX12_emphasis_0 8 rfl
theorem dX12_emphasis_15 : decode cX12_emphasis 15 = .ok (.getfield 25, 3) := mm_dk kX12_emphasis_0 9 rfl
theorem dX12_emphasis_18 : decode cX12_emphasis 18 = .ok (.iload_n 1, 1) := mm_dk kX12_emphasis_0 10 rfl
theorem dX12_emphasis_19 : decode cX12_emphasis 19 = .ok (.baload, 1) := mm_dk kX12_emphasis_0 11 rfl
theorem dX12_emphasis_20 : decode cX12_emphasis 20 = .ok (.ifCond .eq 7, 3) := mm_dk kX12_emphasis_0 12 rfl
theorem dX12_emphasis_23 : decode cX12_emphasis 23 = .ok (.iconst 1, 1) := mm_dk kX12_emphasis_0 13 rfl
theorem dX12_emphasis_24 : decode cX12_emphasis 24 = .ok (.goto 4, 3) := mm_dk kX12_emphasis_0 14 rfl
theorem dX12_emphasis_27 : decode cX12_emphasis 27 = .ok (.iconst 0, 1) := mm_dk kX12_emphasis_0 15 rfl
theorem dX12_emphasis_28 : decode cX12_emphasis 28 = .ok (.istore_n 3, 1) := mm_dk kX12_emphasis_0 16 rfl
theorem dX12_emphasis_29 : decode cX12_emphasis 29 = .ok (.aload_n 0, 1) := mm_dk kX12_emphasis_0 17 rfl
theorem dX12_emphasis_30 : decode cX12_emphasis 30 = .ok (.getfield 25, 3) := mm_dk kX12_emphasis_0 18 rfl
theorem dX12_emphasis_33 : decode cX12_emphasis 33 = .ok (.iload_n 1, 1) := mm_dk kX12_emphasis_0 19 rfl
theorem dX12_emphasis_34 : decode cX12_emphasis 34 = .ok (.iload_n 2, 1) := mm_dk kX12_emphasis_0 20 rfl
theorem dX12_emphasis_35 : decode cX12_emphasis 35 = .ok (.bastore, 1) := mm_dk kX12_emphasis_0 21 rfl
theorem dX12_emphasis_36 : decode cX12_emphasis 36 = .ok (.aload_n 0, 1) := mm_dk kX12_emphasis_0 22 rfl
theorem dX12_emphasis_37 : decode cX12_emphasis 37 = .ok (.iload_n 3, 1) := mm_dk kX12_emphasis_0 23 rfl
theorem dX12_emphasis_38 : decode cX12_emphasis 38 = .ok (.invokevirtual 235, 3) := mm_dk kX12_emphasis_0 24 rfl
theorem dX12_emphasis_41 : decode cX12_emphasis 41 = .ok (.ireturn, 1) := mm_dk kX12_emphasis_0 25 rfl
set_option maxRecDepth 100000 in
theorem kX12_search_0 : ([(0, .aload_n 0, 1), (1, .iload_n 1, 1), (2, .invokevirtual 238, 3), (5, .ifCond .eq 21, 3), (8, .iload_n 2, 1), (9, .iconst 0, 1), (10, .iconst 1, 1), (11, .invokestatic 227, 3), (14, .ifCond .eq 12, 3), (17, .iload_n 3, 1), (18, .iconst 0, 1), (19, .iconst 1, 1), (20, .invokestatic 227, 3), (23, .ifCond .ne 9, 3), (26, .aload_n 0, 1), (27, .iconst (-1), 1), (28, .invokevirtual 231, 3), (31, .ireturn, 1), (32, .aload_n 0, 1), (33, .getfield 29, 3), (36, .iconst 2, 1), (37, .iload_n 1, 1), (38, .imul, 1), (39, .iload_n 2, 1), (40, .iadd, 1), (41, .iaload, 1), (42, .istore 4, 2), (44, .aload_n 0, 1), (45, .getfield 29, 3), (48, .iconst 2, 1), (49, .iload_n 1, 1), (50, .imul, 1), (51, .iload_n 2, 1), (52, .iadd, 1), (53, .iload_n 3, 1), (54, .iastore, 1), (55, .aload_n 0, 1), (56, .iload 4, 2), (58, .invokevirtual 235, 3), (61, .ireturn, 1)] : List (Nat × Instr × Nat)).all (fun x => decide (decode cX12_search x.1 = .ok x.2)) = true := by decide +kernel
theorem dX12_search_0 : decode cX12_search 0 = .ok (.aload_n 0, 1) := mm_dk kX12_search_0 0 rfl
theorem dX12_search_1 : decode cX12_search 1 = .ok (.iload_n 1, 1) := mm_dk kX12_search_0 1 rfl
theorem dX12_search_2 : decode cX12_search 2 = .ok (.invokevirtual 238, 3) := mm_dk kX12_search_0 2 rfl
theorem dX12_search_5 : decode cX12_search 5 = .ok (.ifCond .eq 21, 3) := mm_dk kX12_search_0 3 rfl
theorem dX12_search_8 : decode cX12_search 8 = .ok (.iload_n 2, 1) := mm_dk kX12_search_0 4 rfl
theorem dX12_search_9 : decode cX12_search 9 = .ok (.iconst 0, 1) := mm_dk kX12_search_0 5 rfl
theorem dX12_search_10 : decode cX12_search 10 = .ok (.iconst 1, 1) := mm_dk kX12_search_0 6 rfl
theorem dX12_search_11 : decode cX12_search 11 = .ok (.invokestatic 227, 3) := mm_dk kX12_search_0 7 rfl
theorem dX12_search_14 : decode cX12_search 14 = .ok (.ifCond .eq 12, 3) := mm_dk kX12_search_0 8 rfl
theorem dX12_search_17 : decode cX12_search 17 = .ok (.iload_n 3, 1) := mm_dk kX12_search_0 9 rfl
theorem dX12_search_18 : decode cX12_search 18 = .ok (.iconst 0, 1) := mm_dk kX12_search_0 10 rfl
theorem dX12_search_19 : decode cX12_search 19 = .ok (.iconst 1, 1) := mm_dk kX12_search_0 11 rfl
theorem dX12_search_20 : decode cX12_search 20 = .ok (.invokestatic 227, 3) := mm_dk kX12_search_0 12 rfl
theorem dX12_search_23 : decode cX12_search 23 = .ok (.ifCond .ne 9, 3) := mm_dk kX12_search_0 13 rfl
theorem dX12_search_26 : decode cX12_search 26 = .ok (.aload_n 0, 1) := mm_dk kX12_search_0 14 rfl
theorem dX12_search_27 : decode cX12_search 27 = .ok (.iconst (-1), 1) := mm_dk kX12_search_0 15 rfl
theorem dX12_search_28 : decode cX12_search 28 = .ok (.invokevirtual 231, 3) := mm_dk kX12_search_0 16 rfl
theorem dX12_search_31 : decode cX12_search 31 = .ok (.ireturn, 1) := mm_dk kX12_search_0 17 rfl
theorem dX12_search_32 : decode cX12_search 32 = .ok (.aload_n 0, 1) := mm_dk kX12_search_0 18 rfl
theorem dX12_search_33 : decode cX12_search 33 = .ok (.getfield 29, 3) := mm_dk kX12_search_0 19 rfl
theorem dX12_search_36 : decode cX12_search 36 = .ok (.iconst 2, 1) := mm_dk kX12_search_0 20 rfl
theorem dX12_search_37 : decode cX12_search 37 = .ok (.iload_n 1, 1) := mm_dk kX12_search_0 21 rfl
theorem dX12_search_38 : decode cX12_search 38 = .ok (.imul, 1) := mm_dk kX12_search_0 22 rfl
theorem dX12_search_39 : decode cX12_search 39 = .ok (.iload_n 2, 1) := mm_dk kX12_search_0 23 rfl
theorem dX12_search_40 : decode cX12_search 40 = .ok (.iadd, 1) := mm_dk kX12_search_0 24 rfl
theorem dX12_search_41 : decode cX12_search 41 = .ok (.iaload, 1) := mm_dk kX12_search_0 25 rfl
theorem dX12_search_42 : decode cX12_search 42 = .ok (.istore 4, 2) := mm_dk kX12_search_0 26 rfl
theorem dX12_search_44 : decode cX12_search 44 = .ok (.aload_n 0, 1) := mm_dk kX12_search_0 27 rfl
theorem dX12_search_45 : decode cX12_search 45 = .ok (.getfield 29, 3) := mm_dk kX12_search_0 28 rfl
theorem dX12_search_48 : decode cX12_search 48 = .ok (.iconst 2, 1) := mm_dk kX12_search_0 29 rfl
theorem dX12_search_49 : decode cX12_search 49 = .ok (.iload_n 1, 1) := mm_dk kX12_search_0 30 rfl
theorem dX12_search_50 : decode cX12_search 50 = .ok (.imul, 1) := mm_dk kX12_search_0 31 rfl
theorem dX12_search_51 : decode cX12_search 51 = .ok (.iload_n 2, 1) := mm_dk kX12_search_0 32 rfl
theorem dX12_search_52 : decode cX12_search 52 = .ok (.iadd, 1) := mm_dk kX12_search_0 33 rfl
theorem dX12_search_53 : decode cX12_search 53 = .ok (.iload_n 3, 1) := mm_dk kX12_search_0 34 rfl
theorem dX12_search_54 : decode cX12_search 54 = .ok (.iastore, 1) := mm_dk kX12_search_0 35 rfl
theorem dX12_search_55 : decode cX12_search 55 = .ok (.aload_n 0, 1) := mm_dk kX12_search_0 36 rfl
theorem dX12_search_56 : decode cX12_search 56 = .ok (.iload 4, 2) := mm_dk kX12_search_0 37 rfl
theorem dX12_search_58 : decode cX12_search 58 = .ok (.invokevirtual 235, 3) := mm_dk kX12_search_0 38 rfl
theorem dX12_search_61 : decode cX12_search 61 = .ok (.ireturn, 1) := mm_dk kX12_search_0 39 rfl
set_option maxRecDepth 100000 in
theorem kX12_silence_0 : ([(0, .aload_n 0, 1), (1, .iload_n 1, 1), (2, .invokevirtual 238, 3), (5, .ifCond .eq 13, 3), (8, .iload_n 2, 1), (9, .iconst 0, 1), (10, .ldc 242, 2), (12, .invokestatic 227, 3), (15, .ifCond .ne 9, 3), (18, .aload_n 0, 1), (19, .iconst (-1), 1), (20, .invokevirtual 231, 3), (23, .ireturn, 1), (24, .aload_n 0, 1), (25, .getfield 32, 3), (28, .iload_n 1, 1), (29, .iaload, 1), (30, .istore_n 3, 1), (31, .aload_n 0, 1), (32, .getfield 32, 3), (35, .iload_n 1, 1), (36, .iload_n 2, 1), (37, .iastore, 1), (38, .aload_n 0, 1), (39, .iload_n 3, 1), (40, .invokevirtual 235, 3), (43, .ireturn, 1)] : List (Nat × Instr × Nat)).all (fun x => decide (decode cX12_silence x.1 = .ok x.2)) = true := by decide +kernel
theorem dX12_silence_0 : decode cX12_silence 0 = .ok (.aload_n 0, 1) := mm_dk kX12_silence_0 0 rfl
theorem dX12_silence_1 : decode cX12_silence 1 = .ok (.iload_n 1, 1) := mm_dk kX12_silence_0 1 rfl
theorem dX12_silence_2 : decode cX12_silence 2 = .ok (.invokevirtual 238, 3) := mm_dk kX12_silence_0 2 rfl
theorem dX12_silence_5 : decode cX12_silence 5 = .ok (.ifCond .eq 13, 3) := mm_dk kX12_silence_0 3 rfl
theorem dX12_silence_8 : decode cX12_silence 8 = .ok (.iload_n 2, 1) := mm_dk kX12_silence_0 4 rfl
theorem dX12_silence_9 : decode cX12_silence 9 = .ok (.iconst 0, 1) := mm_dk kX12_silence_0 5 rfl
theorem dX12_silence_10 : decode cX12_silence 10 = .ok (.ldc 242, 2) := mm_dk kX12_silence_0 6 rfl
theorem dX12_silence_12 : decode cX12_silence 12 = .ok (.invokestatic 227, 3) := mm_dk kX12_silence_0 7 rfl
theorem dX12_silence_15 : decode cX12_silence 15 = .ok (.ifCond .ne 9, 3) := mm_dk kX12_silence_0 8 rfl
theorem dX12_silence_18 : decode cX12_silence 18 = .ok (.aload_n 0, 1) := mm_dk kX12_silence_0 9 rfl
theorem dX12_silence_19 : decode cX12_silence 19 = .ok (.iconst (-1), 1) := mm_dk kX12_silence_0 10 rfl
theorem dX12_silence_20 : decode cX12_silence 20 = .ok (.invokevirtual 231, 3) := mm_dk kX12_silence_0 11 rfl
theorem dX12_silence_23 : decode cX12_silence 23 = .ok (.ireturn, 1) := mm_dk kX12_silence_0 12 rfl
theorem dX12_silence_24 : decode cX12_silence 24 = .ok (.aload_n 0, 1) := mm_dk kX12_silence_0 13 rfl
theorem dX12_silence_25 : decode cX12_silence 25 = .ok (.getfield 32, 3) := mm_dk kX12_silence_0 14 rfl
theorem dX12_silence_28 : decode cX12_silence 28 = .ok (.iload_n 1, 1) := mm_dk kX12_silence_0 15 rfl
theorem dX12_silence_29 : decode cX12_silence 29 = .ok (.iaload, 1) := mm_dk kX12_silence_0 16 rfl
theorem dX12_silence_30 : decode cX12_silence 30 = .ok (.istore_n 3, 1) := mm_dk kX12_silence_0 17 rfl
theorem dX12_silence_31 : decode cX12_silence 31 = .ok (.aload_n 0, 1) := mm_dk kX12_silence_0 18 rfl
theorem dX12_silence_32 : decode cX12_silence 32 = .ok (.getfield 32, 3) := mm_dk kX12_silence_0 19 rfl
theorem dX12_silence_35 : decode cX12_silence 35 = .ok (.iload_n 1, 1) := mm_dk kX12_silence_0 20 rfl
theorem dX12_silence_36 : decode cX12_silence 36 = .ok (.iload_n 2, 1) := mm_dk kX12_silence_0 21 rfl
theorem dX12_silence_37 : decode cX12_silence 37 = .ok (.iastore, 1) := mm_dk kX12_silence_0 22 rfl
theorem dX12_silence_38 : decode cX12_silence 38 = .ok (.aload_n 0, 1) := mm_dk kX12_silence_0 23 rfl
theorem dX12_silence_39 : decode cX12_silence 39 = .ok (.iload_n 3, 1) := mm_dk kX12_silence_0 24 rfl
theorem dX12_silence_40 : decode cX12_silence 40 = .ok (.invokevirtual 235, 3) := mm_dk kX12_silence_0 25 rfl
theorem dX12_silence_43 : decode cX12_silence 43 = .ok (.ireturn, 1) := mm_dk kX12_silence_0 26 rfl
set_option maxRecDepth 100000 in
theorem kX12_redundancy_0 : ([(0, .aload_n 0, 1), (1, .iload_n 1, 1), (2, .invokevirtual 238, 3), (5, .ifCond .ne 9, 3), (8, .aload_n 0, 1), (9, .iconst (-1), 1), (10, .invokevirtual 231, 3), (13, .ireturn, 1), (14, .aload_n 0, 1), (15, .getfield 35, 3), (18, .iload_n 1, 1), (19, .baload, 1), (20, .ifCond .eq 7, 3), (23, .iconst 1, 1), (24, .goto 4, 3), (27, .iconst 0, 1), (28, .istore_n 3, 1), (29, .aload_n 0, 1), (30, .getfield 35, 3), (33, .iload_n 1, 1), (34, .iload_n 2, 1), (35, .bastore, 1), (36, .aload_n 0, 1), (37, .iload_n 3, 1), (38, .invokevirtual 235, 3), (41, .ireturn, 1)] : List (Nat × Instr × Nat)).all (fun x => decide (decode cX12_redundancy x.1 = .ok x.2)) = true := by decide +kernel
theorem dX12_redundancy_0 : decode cX12_redundancy 0 = .ok (.aload_n 0, 1) := mm_dk kX12_redundancy_0 0 rfl
theorem dX12_redundancy_1 : decode cX12_redundancy 1 = .ok (.iload_n 1, 1) := mm_dk kX12_redundancy_0 1 rfl
theorem dX12_redundancy_2 : decode cX12_redundancy 2 = .ok (.invokevirtual 238, 3) := mm_dk kX12_redundancy_0 2 rfl
theorem dX12_redundancy_5 : decode cX12_redundancy 5 = .ok (.ifCond .ne 9, 3) := mm_dk kX12_redundancy_0 3 rfl
theorem dX12_redundancy_8 : decode cX12_redundancy 8 = .ok (.aload_n 0, 1) := mm_dk kX12_redundancy_0 4 rfl
theorem dX12_redundancy_9 : decode cX12_redundancy 9 = .ok (.iconst (-1), 1) := mm_dk kX12_redundancy_0 5 rfl
theorem dX12_redundancy_10 : decode cX12_redundancy 10 = .ok (.invokevirtual 231, 3) := mm_dk kX12_redundancy_0 6 rfl
theorem dX12_redundancy_13 : decode cX12_redundancy 13 = .ok (.ireturn, 1) := mm_dk kX12_redundancy_0 7 rfl
theorem dX12_redundancy_14 : decode cX12_redundancy 14 = .ok (.aload_n 0, 1) := mm_dk kX12_redundancy_0 8 rfl
theorem dX12_redundancy_15 : decode cX12_redundancy 15 = .ok (.getfield 35, 3) := mm_dk kX12_redundancy_0 9 rfl
theorem dX12_redundancy_18 : decode cX12_redundancy 18 = .ok (.iload_n 1, 1) := mm_dk kX12_redundancy_0 10 rfl
theorem dX12_redundancy_19 : decode cX12_redundancy 19 = .ok (.baload, 1) := mm_dk kX12_redundancy_0 11 rfl
theorem dX12_redundancy_20 : decode cX12_redundancy 20 = .ok (.ifCond .eq 7, 3) := mm_dk kX12_redundancy_0 12 rfl
theorem dX12_redundancy_23 : decode cX12_redundancy 23 = .ok (.iconst 1, 1) := mm_dk kX12_redundancy_0 13 rfl
theorem dX12_redundancy_24 : decode cX12_redundancy 24 = .ok (.goto 4, 3) := mm_dk kX12_redundancy_0 14 rfl
theorem dX12_redundancy_27 : decode cX12_redundancy 27 = .ok (.iconst 0, 1) := mm_dk kX12_redundancy_0 15 rfl
theorem dX12_redundancy_28 : decode cX12_redundancy 28 = .ok (.istore_n 3, 1) := mm_dk kX12_redundancy_0 16 rfl
theorem dX12_redundancy_29 : decode cX12_redundancy 29 = .ok (.aload_n 0, 1) := mm_dk kX12_redundancy_0 17 rfl
theorem dX12_redundancy_30 : decode cX12_redundancy 30 = .ok (.getfield 35, 3) := mm_dk kX12_redundancy_0 18 rfl
theorem dX12_redundancy_33 : decode cX12_redundancy 33 = .ok (.iload_n 1, 1) := mm_dk kX12_redundancy_0 19 rfl
theorem dX12_redundancy_34 : decode cX12_redundancy 34 = .ok (.iload_n 2, 1) := mm_dk kX12_redundancy_0 20 rfl
theorem dX12_redundancy_35 : decode cX12_redundancy 35 = .ok (.bastore, 1) := mm_dk kX12_redundancy_0 21 rfl
theorem dX12_redundancy_36 : decode cX12_redundancy 36 = .ok (.aload_n 0, 1) := mm_dk kX12_redundancy_0 22 rfl
theorem dX12_redundancy_37 : decode cX12_redundancy 37 = .ok (.iload_n 3, 1) := mm_dk kX12_redundancy_0 23 rfl
theorem dX12_redundancy_38 : decode cX12_redundancy 38 = .ok (.invokevirtual 235, 3) := mm_dk kX12_redundancy_0 24 rfl
theorem dX12_redundancy_41 : decode cX12_redundancy 41 = .ok (.ireturn, 1) := mm_dk kX12_redundancy_0 25 rfl
set_option maxRecDepth 100000 in
theorem kX12_start_0 : ([(0, .aload_n 0, 1), (1, .iload_n 1, 1), (2, .invokevirtual 238, 3), (5, .ifCond .eq 13, 3), (8, .iload_n 2, 1), (9, .iconst 0, 1), (10, .ldc 243, 2), (12, .invokestatic 227, 3), (15, .ifCond .ne 9, 3), (18, .aload_n 0, 1), (19, .iconst (-1), 1), (20, .invokevirtual 231, 3), (23, .ireturn, 1), (24, .aload_n 0, 1), (25, .getfield 50, 3), (28, .iload_n 1, 1), (29, .iaload, 1), (30, .ifCond .gt 21, 3), (33, .aload_n 0, 1), (34, .getfield 124, 3), (37, .iload_n 1, 1), (38, .iaload, 1), (39, .ifCond .gt 12, 3), (42, .aload_n 0, 1), (43, .getfield 93, 3), (46, .iload_n 1, 1), (47, .iaload, 1), (48, .ifCond .le 10, 3), (51, .aload_n 0, 1), (52, .bipush (-2), 2), (54, .invokevirtual 231, 3), (57, .ireturn, 1), (58, .aload_n 0, 1), (59, .getfield 38, 3), (62, .iload_n 1, 1), (63, .iload_n 2, 1), (64, .iastore, 1), (65, .aload_n 0, 1), (66, .getfield 118, 3), (69, .iload_n 1, 1)] : List (Nat × Instr × Nat)).all (fun x => decide (decode cX12_start x.1 = .ok x.2)) = true := by decide +kernel
theorem dX12_start_0 : decode cX12_start 0 = .ok (.aload_n 0, 1) := mm_dk kX12_start_0 0 rfl
theorem dX12_start_1 : decode cX12_start 1 = .ok (.iload_n 1, 1) := mm_dk kX12_start_0 1 rfl
theorem dX12_start_2 : decode cX12_start 2 = .ok (.invokevirtual 238, 3) := mm_dk kX12_start_0 2 rfl
theorem dX12_start_5 : decode cX12_start 5 = .ok (.ifCond .eq 13, 3) := mm_dk kX12_start_0 3 rfl
theorem dX12_start_8 : decode cX12_start 8 = .ok (.iload_n 2, 1) := mm_dk kX12_start_0 4 rfl
theorem dX12_start_9 : decode cX12_start 9 = .ok (.iconst 0, 1) := mm_dk kX12_start_0 5 rfl
theorem dX12_start_10 : decode cX12_start 10 = .ok (.ldc 243, 2) := mm_dk kX12_start_0 6 rfl
theorem dX12_start_12 : decode cX12_start 12 = .ok (.invokestatic 227, 3) := mm_dk kX12_start_0 7 rfl
theorem dX12_start_15 : decode cX12_start 15 = .ok (.ifCond .ne 9, 3) := mm_dk kX12_start_0 8 rfl
theorem dX12_start_18 : decode cX12_start 18 = .ok (.aload_n 0, 1) := mm_dk kX12_start_0 9 rfl
theorem dX12_start_19 : decode cX12_start 19 = .ok (.iconst (-1), 1) := mm_dk kX12_start_0 10 rfl
theorem dX12_start_20 : decode cX12_start 20 = .ok (.invokevirtual 231, 3) := mm_dk kX12_start_0 11 rfl
theorem dX12_start_23 : decode cX12_start 23 = .ok (.ireturn, 1) := mm_dk kX12_start_0 12 rfl
theorem dX12_start_24 : decode cX12_start 24 = .ok (.aload_n 0, 1) := mm_dk kX12_start_0 13 rfl
theorem dX12_start_25 : decode cX12_start 25 = .ok (.getfield 50, 3) := mm_dk kX12_start_0 14 rfl
theorem dX12_start_28 : decode cX12_start 28 = .ok (.iload_n 1, 1) := mm_dk kX12_start_0 15 rfl
theorem dX12_start_29 : decode cX12_start 29 = .ok (.iaload, 1) := mm_dk kX12_start_0 16 rfl
theorem dX12_start_30 : decode cX12_start 30 = .ok (.ifCond .gt 21, 3) := mm_dk kX12_start_0 17 rfl
theorem dX12_start_33 : decode cX12_start 33 = .ok (.aload_n 0, 1) := mm_dk kX12_start_0 18 rfl
theorem dX12_start_34 : decode cX12_start 34 = .ok (.getfield 124, 3) := mm_dk kX12_start_0 19 rfl
theorem dX12_start_37 : decode cX12_start 37 = .ok (.iload_n 1, 1) := mm_dk kX12_start_0 20 rfl
theorem dX12_start_38 : decode cX12_start 38 = .ok (.iaload, 1) := mm_dk kX12_start_0 21 rfl
theorem dX12_start_39 : decode cX12_start 39 = .ok (.ifCond .gt 12, 3) := mm_dk kX12_start_0 22 rfl
theorem dX12_start_42 : decode cX12_start 42 = .ok (.aload_n 0, 1) := mm_dk kX12_start_0 23 rfl
theorem dX12_start_43 : decode cX12_start 43 = .ok (.getfield 93, 3) := mm_dk kX12_start_0 24 rfl
theorem dX12_start_46 : decode cX12_start 46 = .ok (.iload_n 1, 1) := mm_dk kX12_start_0 25 rfl
theorem dX12_start_47 : decode cX12_start 47 = .ok (.iaload, 1) := mm_dk kX12_start_0 26 rfl
theorem dX12_start_48 : decode cX12_start 48 = .ok (.ifCond .le 10, 3) := mm_dk kX12_start_0 27 rfl
theorem dX12_start_51 : decode cX12_start 51 = .ok (.aload_n 0, 1) := mm_dk kX12_start_0 28 rfl
theorem dX12_start_52 : decode cX12_start 52 = .ok (.bipush (-2), 2) := mm_dk kX12_start_0 29 rfl
theorem dX12_start_54 : decode cX12_start 54 = .ok (.invokevirtual 231, 3) := mm_dk kX12_start_0 30 rfl
theorem dX12_start_57 : decode cX12_start 57 = .ok (.ireturn, 1) := mm_dk kX12_start_0 31 rfl
theorem dX12_start_58 : decode cX12_start 58 = .ok (.aload_n 0, 1) := mm_dk kX12_start_0 32 rfl
theorem dX12_start_59 : decode cX12_start 59 = .ok (.getfield 38, 3) := mm_dk kX12_start_0 33 rfl
theorem dX12_start_62 : decode cX12_start 62 = .ok (.iload_n 1, 1) := mm_dk kX12_start_0 34 rfl
theorem dX12_start_63 : decode cX12_start 63 = .ok (.iload_n 2, 1) := mm_dk kX12_start_0 35 rfl
theorem dX12_start_64 : decode cX12_start 64 = .ok (.iastore, 1) := mm_dk kX12_start_0 36 rfl
theorem dX12_start_65 : decode cX12_start 65 = .ok (.aload_n 0, 1) := mm_dk kX12_start_0 37 rfl
theorem dX12_start_66 : decode cX12_start 66 = .ok (.getfield 118, 3) := mm_dk kX12_start_0 38 rfl
theorem dX12_start_69 : decode cX12_start 69 = .ok (.iload_n 1, 1) := mm_dk kX12_start_0 39 rfl
set_option maxRecDepth 100000 in
theorem kX12_start_1 : ([(70, .iload_n 2, 1), (71, .iastore, 1), (72, .aload_n 0, 1), (73, .iconst 1, 1), (74, .invokevirtual 235, 3), (77, .ireturn, 1)] : List (Nat × Instr × Nat)).all (fun x => decide (decode cX12_start x.1 = .ok x.2)) = true := by decide +kernel
theorem dX12_start_70 : decode cX12_start 70 = .ok (.iload_n 2, 1) := mm_dk kX12_start_1 0 rfl
theorem dX12_start_71 : decode cX12_start 71 = .ok (.iastore, 1) := mm_dk kX12_start_1 1 rfl
theorem dX12_start_72 : decode cX12_start 72 = .ok (.aload_n 0, 1) := mm_dk kX12_start_1 2 rfl
theorem dX12_start_73 : decode cX12_start 73 = .ok (.iconst 1, 1) := mm_dk kX12_start_1 3 rfl
theorem dX12_start_74 : decode cX12_start 74 = .ok (.invokevirtual 235, 3) := mm_dk kX12_start_1 4 rfl
theorem dX12_start_77 : decode cX12_start 77 = .ok (.ireturn, 1) := mm_dk kX12_start_1 5 rfl
set_option maxRecDepth 100000 in
theorem kX12_sample_0 : ([(0, .aload_n 0, 1), (1, .iload_n 1, 1), (2, .invokevirtual 238, 3), (5, .ifCond .eq 16, 3), (8, .iload_n 2, 1), (9, .sipush (-32768), 3), (12, .sipush 32767, 3), (15, .invokestatic 227, 3), (18, .ifCond .ne 9, 3), (21, .aload_n 0, 1), (22, .iconst (-1), 1), (23, .invokevirtual 231, 3), (26, .ireturn, 1), (27, .aload_n 0, 1), (28, .getfield 41, 3), (31, .iload_n 1, 1), (32, .iaload, 1), (33, .sipush 640, 3), (36, .if_icmp .ne 10, 3), (39, .aload_n 0, 1), (40, .bipush (-3), 2), (42, .invokevirtual 231, 3), (45, .ireturn, 1), (46, .aload_n 0, 1), (47, .getfield 44, 3), (50, .sipush 640, 3), (53, .iload_n 1, 1), (54, .imul, 1), (55, .aload_n 0, 1), (56, .getfield 41, 3), (59, .iload_n 1, 1), (60, .iaload, 1), (61, .iadd, 1), (62, .iload_n 2, 1), (63, .iastore, 1), (64, .aload_n 0, 1), (65, .getfield 41, 3), (68, .iload_n 1, 1), (69, .dup2, 1), (70, .iaload, 1)] : List (Nat × Instr × Nat)).all (fun x => decide (decode cX12_sample x.1 = .ok x.2)) = true := by decide +kernel
theorem dX12_sample_0 : decode cX12_sample 0 = .ok (.aload_n 0, 1) := mm_dk kX12_sample_0 0 rfl
theorem dX12_sample_1 : decode cX12_sample 1 = .ok (.iload_n 1, 1) := mm_dk kX12_sample_0 1 rfl
theorem dX12_sample_2 : decode cX12_sample 2 = .ok (.invokevirtual 238, 3) := mm_dk kX12_sample_0 2 rfl
theorem dX12_sample_5 : decode cX12_sample 5 = .ok (.ifCond .eq 16, 3) := mm_dk kX12_sample_0 3 rfl
theorem dX12_sample_8 : decode cX12_sample 8 = .ok (.iload_n 2, 1) := mm_dk kX12_sample_0 4 rfl
theorem dX12_sample_9 : decode cX12_sample 9 = .ok (.sipush (-32768), 3) := mm_dk kX12_sample_0 5 rfl
theorem dX12_sample_12 : decode cX12_sample 12 = .ok (.sipush 32767, 3) := mm_dk kX12_sample_0 6 rfl
theorem dX12_sample_15 : decode cX12_sample 15 = .ok (.invokestatic 227, 3) := mm_dk kX12_sample_0 7 rfl
theorem dX12_sample_18 : decode cX12_sample 18 = .ok (.ifCond .ne 9, 3) := mm_dk kX12_sample_0 8 rfl
theorem dX12_sample_21 : decode cX12_sample 21 = .ok (.aload_n 0, 1) := mm_dk kX12_sample_0 9 rfl
theorem dX12_sample_22 : decode cX12_sample 22 = .ok (.iconst (-1), 1) := mm_dk kX12_sample_0 10 rfl
theorem dX12_sample_23 : decode cX12_sample 23 = .ok (.invokevirtual 231, 3) := mm_dk kX12_sample_0 11 rfl
theorem dX12_sample_26 : decode cX12_sample 26 = .ok (.ireturn, 1) := mm_dk kX12_sample_0 12 rfl
theorem dX12_sample_27 : decode cX12_sample 27 = .ok (.aload_n 0, 1) := mm_dk kX12_sample_0 13 rfl
theorem dX12_sample_28 : decode cX12_sample 28 = .ok (.getfield 41, 3) := mm_dk kX12_sample_0 14 rfl
theorem dX12_sample_31 : decode cX12_sample 31 = .ok (.iload_n 1, 1) := mm_dk kX12_sample_0 15 rfl
theorem dX12_sample_32 : decode cX12_sample 32 = .ok (.iaload, 1) := mm_dk kX12_sample_0 16 rfl
theorem dX12_sample_33 : decode cX12_sample 33 = .ok (.sipush 640, 3) := mm_dk kX12_sample_0 17 rfl
theorem dX12_sample_36 : decode cX12_sample 36 = .ok (.if_icmp .ne 10, 3) := mm_dk kX12_sample_0 18 rfl
theorem dX12_sample_39 : decode cX12_sample 39 = .ok (.aload_n 0, 1) := mm_dk kX12_sample_0 19 rfl
theorem dX12_sample_40 : decode cX12_sample 40 = .ok (.bipush (-3), 2) := mm_dk kX12_sample_0 20 rfl
theorem dX12_sample_42 : decode cX12_sample 42 = .ok (.invokevirtual 231, 3) := mm_dk kX12_sample_0 21 rfl
theorem dX12_sample_45 : decode cX12_sample 45 = .ok (.ireturn, 1) := mm_dk kX12_sample_0 22 rfl
theorem dX12_sample_46 : decode cX12_sample 46 = .ok (.aload_n 0, 1) := mm_dk kX12_sample_0 23 rfl
theorem dX12_sample_47 : decode cX12_sample 47 = .ok (.getfield 44, 3) := mm_dk kX12_sample_0 24 rfl
theorem dX12_sample_50 : decode cX12_sample 50 = .ok (.sipush 640, 3) := mm_dk kX12_sample_0 25 rfl
theorem dX12_sample_53 : decode cX12_sample 53 = .ok (.iload_n 1, 1) := mm_dk kX12_sample_0 26 rfl
theorem dX12_sample_54 : decode cX12_sample 54 = .ok (.imul, 1) := mm_dk kX12_sample_0 27 rfl
theorem dX12_sample_55 : decode cX12_sample 55 = .ok (.aload_n 0, 1) := mm_dk kX12_sample_0 28 rfl
theorem dX12_sample_56 : decode cX12_sample 56 = .ok (.getfield 41, 3) := mm_dk kX12_sample_0 29 rfl
theorem dX12_sample_59 : decode cX12_sample 59 = .ok (.iload_n 1, 1) := mm_dk kX12_sample_0 30 rfl
theorem dX12_sample_60 : decode cX12_sample 60 = .ok (.iaload, 1) := mm_dk kX12_sample_0 31 rfl
theorem dX12_sample_61 : decode cX12_sample 61 = .ok (.iadd, 1) := mm_dk kX12_sample_0 32 rfl
theorem dX12_sample_62 : decode cX12_sample 62 = .ok (.iload_n 2, 1) := mm_dk kX12_sample_0 33 rfl
theorem dX12_sample_63 : decode cX12_sample 63 = .ok (.iastore, 1) := mm_dk kX12_sample_0 34 rfl
theorem dX12_sample_64 : decode cX12_sample 64 = .ok (.aload_n 0, 1) := mm_dk kX12_sample_0 35 rfl
theorem dX12_sample_65 : decode cX12_sample 65 = .ok (.getfield 41, 3) := mm_dk kX12_sample_0 36 rfl
theorem dX12_sample_68 : decode cX12_sample 68 = .ok (.iload_n 1, 1) := mm_dk kX12_sample_0 37 rfl
theorem dX12_sample_69 : decode cX12_sample 69 = .ok (.dup2, 1) := mm_dk kX12_sample_0 38 rfl
theorem dX12_sample_70 : decode cX12_sample 70 = .ok (.iaload, 1) := mm_dk kX12_sample_0 39 rfl
set_option maxRecDepth 100000 in
theorem kX12_sample_1 : ([(71, .iconst 1, 1), (72, .iadd, 1), (73, .iastore, 1), (74, .aload_n 0, 1), (75, .aload_n 0, 1), (76, .getfield 41, 3), (79, .iload_n 1, 1), (80, .iaload, 1), (81, .invokevirtual 235, 3), (84, .ireturn, 1)] : List (Nat × Instr × Nat)).all (fun x => decide (decode cX12_sample x.1 = .ok x.2)) = true := by decide +kernel
theorem dX12_sample_71 : decode cX12_sample 71 = .ok (.iconst 1, 1) := mm_dk kX12_sample_1 0 rfl
theorem dX12_sample_72 : decode cX12_sample 72 = .ok (.iadd, 1) := mm_dk kX12_sample_1 1 rfl
theorem dX12_sample_73 : decode cX12_sample 73 = .ok (.iastore, 1) := mm_dk kX12_sample_1 2 rfl
theorem dX12_sample_74 : decode cX12_sample 74 = .ok (.aload_n 0, 1) := mm_dk kX12_sample_1 3 rfl
theorem dX12_sample_75 : decode cX12_sample 75 = .ok (.aload_n 0, 1) := mm_dk kX12_sample_1 4 rfl
theorem dX12_sample_76 : decode cX12_sample 76 = .ok (.getfield 41, 3) := mm_dk kX12_sample_1 5 rfl
theorem dX12_sample_79 : decode cX12_sample 79 = .ok (.iload_n 1, 1) := mm_dk kX12_sample_1 6 rfl
theorem dX12_sample_80 : decode cX12_sample 80 = .ok (.iaload, 1) := mm_dk kX12_sample_1 7 rfl
theorem dX12_sample_81 : decode cX12_sample 81 = .ok (.invokevirtual 235, 3) := mm_dk kX12_sample_1 8 rfl
theorem dX12_sample_84 : decode cX12_sample 84 = .ok (.ireturn, 1) := mm_dk kX12_sample_1 9 rfl
set_option maxRecDepth 100000 in
theorem kX12_drawn_0 : ([(0, .iload_n 0, 1), (1, .i2l, 1), (2, .ldc2_w 244, 3), (5, .lmul, 1), (6, .ldc2_w 246, 3), (9, .ladd, 1), (10, .ldc2_w 221, 3), (13, .land, 1), (14, .l2i, 1), (15, .ireturn, 1)] : List (Nat × Instr × Nat)).all (fun x => decide (decode cX12_drawn x.1 = .ok x.2)) = true := by decide +kernel
theorem dX12_drawn_0 : decode cX12_drawn 0 = .ok (.iload_n 0, 1) := mm_dk kX12_drawn_0 0 rfl
theorem dX12_drawn_1 : decode cX12_drawn 1 = .ok (.i2l, 1) := mm_dk kX12_drawn_0 1 rfl
theorem dX12_drawn_2 : decode cX12_drawn 2 = .ok (.ldc2_w 244, 3) := mm_dk kX12_drawn_0 2 rfl
theorem dX12_drawn_5 : decode cX12_drawn 5 = .ok (.lmul, 1) := mm_dk kX12_drawn_0 3 rfl
theorem dX12_drawn_6 : decode cX12_drawn 6 = .ok (.ldc2_w 246, 3) := mm_dk kX12_drawn_0 4 rfl
theorem dX12_drawn_9 : decode cX12_drawn 9 = .ok (.ladd, 1) := mm_dk kX12_drawn_0 5 rfl
theorem dX12_drawn_10 : decode cX12_drawn 10 = .ok (.ldc2_w 221, 3) := mm_dk kX12_drawn_0 6 rfl
theorem dX12_drawn_13 : decode cX12_drawn 13 = .ok (.land, 1) := mm_dk kX12_drawn_0 7 rfl
theorem dX12_drawn_14 : decode cX12_drawn 14 = .ok (.l2i, 1) := mm_dk kX12_drawn_0 8 rfl
theorem dX12_drawn_15 : decode cX12_drawn 15 = .ok (.ireturn, 1) := mm_dk kX12_drawn_0 9 rfl
set_option maxRecDepth 100000 in
theorem kX12_told8_0 : ([(0, .iload_n 0, 1), (1, .bipush 16, 2), (3, .ishr, 1), (4, .sipush 255, 3), (7, .iand, 1), (8, .sipush 128, 3), (11, .isub, 1), (12, .ireturn, 1)] : List (Nat × Instr × Nat)).all (fun x => decide (decode cX12_told8 x.1 = .ok x.2)) = true := by decide +kernel
theorem dX12_told8_0 : decode cX12_told8 0 = .ok (.iload_n 0, 1) := mm_dk kX12_told8_0 0 rfl
theorem dX12_told8_1 : decode cX12_told8 1 = .ok (.bipush 16, 2) := mm_dk kX12_told8_0 1 rfl
theorem dX12_told8_3 : decode cX12_told8 3 = .ok (.ishr, 1) := mm_dk kX12_told8_0 2 rfl
theorem dX12_told8_4 : decode cX12_told8 4 = .ok (.sipush 255, 3) := mm_dk kX12_told8_0 3 rfl
theorem dX12_told8_7 : decode cX12_told8 7 = .ok (.iand, 1) := mm_dk kX12_told8_0 4 rfl
theorem dX12_told8_8 : decode cX12_told8 8 = .ok (.sipush 128, 3) := mm_dk kX12_told8_0 5 rfl
theorem dX12_told8_11 : decode cX12_told8 11 = .ok (.isub, 1) := mm_dk kX12_told8_0 6 rfl
theorem dX12_told8_12 : decode cX12_told8 12 = .ok (.ireturn, 1) := mm_dk kX12_told8_0 7 rfl
set_option maxRecDepth 100000 in
theorem kX12_wave_0 : ([(0, .aload_n 0, 1), (1, .iload_n 1, 1), (2, .invokevirtual 238, 3), (5, .ifCond .eq 24, 3), (8, .iload_n 2, 1), (9, .iconst 0, 1), (10, .iconst 4, 1), (11, .invokestatic 227, 3), (14, .ifCond .eq 15, 3), (17, .iload 5, 2), (19, .iconst 1, 1), (20, .sipush 320, 3), (23, .invokestatic 227, 3), (26, .ifCond .ne 9, 3), (29, .aload_n 0, 1), (30, .iconst (-1), 1), (31, .invokevirtual 231, 3), (34, .ireturn, 1), (35, .iload_n 2, 1), (36, .ifCond .ne 16, 3), (39, .iload_n 3, 1), (40, .sipush (-32768), 3), (43, .sipush 32767, 3), (46, .invokestatic 227, 3), (49, .goto 28, 3), (52, .iload_n 2, 1), (53, .iconst 2, 1), (54, .if_icmp .ne 15, 3), (57, .iload_n 3, 1), (58, .ifCond .lt 7, 3), (61, .iconst 1, 1), (62, .goto 15, 3), (65, .iconst 0, 1), (66, .goto 11, 3), (69, .iload_n 3, 1), (70, .iconst 2, 1), (71, .sipush 640, 3), (74, .invokestatic 227, 3), (77, .istore 6, 2), (79, .iload 6, 2)] : List (Nat × Instr × Nat)).all (fun x => decide (decode cX12_wave x.1 = .ok x.2)) = true := by decide +kernel
theorem dX12_wave_0 : decode cX12_wave 0 = .ok (.aload_n 0, 1) := mm_dk kX12_wave_0 0 rfl
theorem dX12_wave_1 : decode cX12_wave 1 = .ok (.iload_n 1, 1) := mm_dk kX12_wave_0 1 rfl
theorem dX12_wave_2 : decode cX12_wave 2 = .ok (.invokevirtual 238, 3) := mm_dk kX12_wave_0 2 rfl
theorem dX12_wave_5 : decode cX12_wave 5 = .ok (.ifCond .eq 24, 3) := mm_dk kX12_wave_0 3 rfl
theorem dX12_wave_8 : decode cX12_wave 8 = .ok (.iload_n 2, 1) := mm_dk kX12_wave_0 4 rfl
theorem dX12_wave_9 : decode cX12_wave 9 = .ok (.iconst 0, 1) := mm_dk kX12_wave_0 5 rfl
theorem dX12_wave_10 : decode cX12_wave 10 = .ok (.iconst 4, 1) := mm_dk kX12_wave_0 6 rfl
theorem dX12_wave_11 : decode cX12_wave 11 = .ok (.invokestatic 227, 3) := mm_dk kX12_wave_0 7 rfl
theorem dX12_wave_14 : decode cX12_wave 14 = .ok (.ifCond .eq 15, 3) := mm_dk kX12_wave_0 8 rfl
theorem dX12_wave_17 : decode cX12_wave 17 = .ok (.iload 5, 2) := mm_dk kX12_wave_0 9 rfl
theorem dX12_wave_19 : decode cX12_wave 19 = .ok (.iconst 1, 1) := mm_dk kX12_wave_0 10 rfl
theorem dX12_wave_20 : decode cX12_wave 20 = .ok (.sipush 320, 3) := mm_dk kX12_wave_0 11 rfl
theorem dX12_wave_23 : decode cX12_wave 23 = .ok (.invokestatic 227, 3) := mm_dk kX12_wave_0 12 rfl
theorem dX12_wave_26 : decode cX12_wave 26 = .ok (.ifCond .ne 9, 3) := mm_dk kX12_wave_0 13 rfl
theorem dX12_wave_29 : decode cX12_wave 29 = .ok (.aload_n 0, 1) := mm_dk kX12_wave_0 14 rfl
theorem dX12_wave_30 : decode cX12_wave 30 = .ok (.iconst (-1), 1) := mm_dk kX12_wave_0 15 rfl
theorem dX12_wave_31 : decode cX12_wave 31 = .ok (.invokevirtual 231, 3) := mm_dk kX12_wave_0 16 rfl
theorem dX12_wave_34 : decode cX12_wave 34 = .ok (.ireturn, 1) := mm_dk kX12_wave_0 17 rfl
theorem dX12_wave_35 : decode cX12_wave 35 = .ok (.iload_n 2, 1) := mm_dk kX12_wave_0 18 rfl
theorem dX12_wave_36 : decode cX12_wave 36 = .ok (.ifCond .ne 16, 3) := mm_dk kX12_wave_0 19 rfl
theorem dX12_wave_39 : decode cX12_wave 39 = .ok (.iload_n 3, 1) := mm_dk kX12_wave_0 20 rfl
theorem dX12_wave_40 : decode cX12_wave 40 = .ok (.sipush (-32768), 3) := mm_dk kX12_wave_0 21 rfl
theorem dX12_wave_43 : decode cX12_wave 43 = .ok (.sipush 32767, 3) := mm_dk kX12_wave_0 22 rfl
theorem dX12_wave_46 : decode cX12_wave 46 = .ok (.invokestatic 227, 3) := mm_dk kX12_wave_0 23 rfl
theorem dX12_wave_49 : decode cX12_wave 49 = .ok (.goto 28, 3) := mm_dk kX12_wave_0 24 rfl
theorem dX12_wave_52 : decode cX12_wave 52 = .ok (.iload_n 2, 1) := mm_dk kX12_wave_0 25 rfl
theorem dX12_wave_53 : decode cX12_wave 53 = .ok (.iconst 2, 1) := mm_dk kX12_wave_0 26 rfl
theorem dX12_wave_54 : decode cX12_wave 54 = .ok (.if_icmp .ne 15, 3) := mm_dk kX12_wave_0 27 rfl
theorem dX12_wave_57 : decode cX12_wave 57 = .ok (.iload_n 3, 1) := mm_dk kX12_wave_0 28 rfl
theorem dX12_wave_58 : decode cX12_wave 58 = .ok (.ifCond .lt 7, 3) := mm_dk kX12_wave_0 29 rfl
theorem dX12_wave_61 : decode cX12_wave 61 = .ok (.iconst 1, 1) := mm_dk kX12_wave_0 30 rfl
theorem dX12_wave_62 : decode cX12_wave 62 = .ok (.goto 15, 3) := mm_dk kX12_wave_0 31 rfl
theorem dX12_wave_65 : decode cX12_wave 65 = .ok (.iconst 0, 1) := mm_dk kX12_wave_0 32 rfl
theorem dX12_wave_66 : decode cX12_wave 66 = .ok (.goto 11, 3) := mm_dk kX12_wave_0 33 rfl
theorem dX12_wave_69 : decode cX12_wave 69 = .ok (.iload_n 3, 1) := mm_dk kX12_wave_0 34 rfl
theorem dX12_wave_70 : decode cX12_wave 70 = .ok (.iconst 2, 1) := mm_dk kX12_wave_0 35 rfl
theorem dX12_wave_71 : decode cX12_wave 71 = .ok (.sipush 640, 3) := mm_dk kX12_wave_0 36 rfl
theorem dX12_wave_74 : decode cX12_wave 74 = .ok (.invokestatic 227, 3) := mm_dk kX12_wave_0 37 rfl
theorem dX12_wave_77 : decode cX12_wave 77 = .ok (.istore 6, 2) := mm_dk kX12_wave_0 38 rfl
theorem dX12_wave_79 : decode cX12_wave 79 = .ok (.iload 6, 2) := mm_dk kX12_wave_0 39 rfl
set_option maxRecDepth 100000 in
theorem kX12_wave_1 : ([(81, .ifCond .eq 19, 3), (84, .iload_n 2, 1), (85, .ifCond .eq 21, 3), (88, .iload 4, 2), (90, .iconst 0, 1), (91, .sipush 32767, 3), (94, .invokestatic 227, 3), (97, .ifCond .ne 9, 3), (100, .aload_n 0, 1), (101, .iconst (-1), 1), (102, .invokevirtual 231, 3), (105, .ireturn, 1), (106, .aload_n 0, 1), (107, .getfield 41, 3), (110, .iload_n 1, 1), (111, .iaload, 1), (112, .iload 5, 2), (114, .iadd, 1), (115, .sipush 640, 3), (118, .if_icmp .le 10, 3), (121, .aload_n 0, 1), (122, .bipush (-3), 2), (124, .invokevirtual 231, 3), (127, .ireturn, 1), (128, .iload_n 3, 1), (129, .istore 7, 2), (131, .iconst 0, 1), (132, .istore 8, 2), (134, .iload 8, 2), (136, .iload 5, 2), (138, .if_icmp .ge 160, 3), (141, .iload_n 3, 1), (142, .istore 9, 2), (144, .iload_n 2, 1), (145, .iconst 1, 1), (146, .if_icmp .ne 22, 3), (149, .iconst 2, 1), (150, .iload 4, 2), (152, .imul, 1), (153, .iload 8, 2)] : List (Nat × Instr × Nat)).all (fun x => decide (decode cX12_wave x.1 = .ok x.2)) = true := by decide +kernel
theorem dX12_wave_81 : decode cX12_wave 81 = .ok (.ifCond .eq 19, 3) := mm_dk kX12_wave_1 0 rfl
theorem dX12_wave_84 : decode cX12_wave 84 = .ok (.iload_n 2, 1) := mm_dk kX12_wave_1 1 rfl
theorem dX12_wave_85 : decode cX12_wave 85 = .ok (.ifCond .eq 21, 3) := mm_dk kX12_wave_1 2 rfl
theorem dX12_wave_88 : decode cX12_wave 88 = .ok (.iload 4, 2) := mm_dk kX12_wave_1 3 rfl
theorem dX12_wave_90 : decode cX12_wave 90 = .ok (.iconst 0, 1) := mm_dk kX12_wave_1 4 rfl
theorem dX12_wave_91 : decode cX12_wave 91 = .ok (.sipush 32767, 3) := mm_dk kX12_wave_1 5 rfl
theorem dX12_wave_94 : decode cX12_wave 94 = .ok (.invokestatic 227, 3) := mm_dk kX12_wave_1 6 rfl
theorem dX12_wave_97 : decode cX12_wave 97 = .ok (.ifCond .ne 9, 3) := mm_dk kX12_wave_1 7 rfl
theorem dX12_wave_100 : decode cX12_wave 100 = .ok (.aload_n 0, 1) := mm_dk kX12_wave_1 8 rfl
theorem dX12_wave_101 : decode cX12_wave 101 = .ok (.iconst (-1), 1) := mm_dk kX12_wave_1 9 rfl
theorem dX12_wave_102 : decode cX12_wave 102 = .ok (.invokevirtual 231, 3) := mm_dk kX12_wave_1 10 rfl
theorem dX12_wave_105 : decode cX12_wave 105 = .ok (.ireturn, 1) := mm_dk kX12_wave_1 11 rfl
theorem dX12_wave_106 : decode cX12_wave 106 = .ok (.aload_n 0, 1) := mm_dk kX12_wave_1 12 rfl
theorem dX12_wave_107 : decode cX12_wave 107 = .ok (.getfield 41, 3) := mm_dk kX12_wave_1 13 rfl
theorem dX12_wave_110 : decode cX12_wave 110 = .ok (.iload_n 1, 1) := mm_dk kX12_wave_1 14 rfl
theorem dX12_wave_111 : decode cX12_wave 111 = .ok (.iaload, 1) := mm_dk kX12_wave_1 15 rfl
theorem dX12_wave_112 : decode cX12_wave 112 = .ok (.iload 5, 2) := mm_dk kX12_wave_1 16 rfl
theorem dX12_wave_114 : decode cX12_wave 114 = .ok (.iadd, 1) := mm_dk kX12_wave_1 17 rfl
theorem dX12_wave_115 : decode cX12_wave 115 = .ok (.sipush 640, 3) := mm_dk kX12_wave_1 18 rfl
theorem dX12_wave_118 : decode cX12_wave 118 = .ok (.if_icmp .le 10, 3) := mm_dk kX12_wave_1 19 rfl
theorem dX12_wave_121 : decode cX12_wave 121 = .ok (.aload_n 0, 1) := mm_dk kX12_wave_1 20 rfl
theorem dX12_wave_122 : decode cX12_wave 122 = .ok (.bipush (-3), 2) := mm_dk kX12_wave_1 21 rfl
theorem dX12_wave_124 : decode cX12_wave 124 = .ok (.invokevirtual 231, 3) := mm_dk kX12_wave_1 22 rfl
theorem dX12_wave_127 : decode cX12_wave 127 = .ok (.ireturn, 1) := mm_dk kX12_wave_1 23 rfl
theorem dX12_wave_128 : decode cX12_wave 128 = .ok (.iload_n 3, 1) := mm_dk kX12_wave_1 24 rfl
theorem dX12_wave_129 : decode cX12_wave 129 = .ok (.istore 7, 2) := mm_dk kX12_wave_1 25 rfl
theorem dX12_wave_131 : decode cX12_wave 131 = .ok (.iconst 0, 1) := mm_dk kX12_wave_1 26 rfl
theorem dX12_wave_132 : decode cX12_wave 132 = .ok (.istore 8, 2) := mm_dk kX12_wave_1 27 rfl
theorem dX12_wave_134 : decode cX12_wave 134 = .ok (.iload 8, 2) := mm_dk kX12_wave_1 28 rfl
theorem dX12_wave_136 : decode cX12_wave 136 = .ok (.iload 5, 2) := mm_dk kX12_wave_1 29 rfl
theorem dX12_wave_138 : decode cX12_wave 138 = .ok (.if_icmp .ge 160, 3) := mm_dk kX12_wave_1 30 rfl
theorem dX12_wave_141 : decode cX12_wave 141 = .ok (.iload_n 3, 1) := mm_dk kX12_wave_1 31 rfl
theorem dX12_wave_142 : decode cX12_wave 142 = .ok (.istore 9, 2) := mm_dk kX12_wave_1 32 rfl
theorem dX12_wave_144 : decode cX12_wave 144 = .ok (.iload_n 2, 1) := mm_dk kX12_wave_1 33 rfl
theorem dX12_wave_145 : decode cX12_wave 145 = .ok (.iconst 1, 1) := mm_dk kX12_wave_1 34 rfl
theorem dX12_wave_146 : decode cX12_wave 146 = .ok (.if_icmp .ne 22, 3) := mm_dk kX12_wave_1 35 rfl
theorem dX12_wave_149 : decode cX12_wave 149 = .ok (.iconst 2, 1) := mm_dk kX12_wave_1 36 rfl
theorem dX12_wave_150 : decode cX12_wave 150 = .ok (.iload 4, 2) := mm_dk kX12_wave_1 37 rfl
theorem dX12_wave_152 : decode cX12_wave 152 = .ok (.imul, 1) := mm_dk kX12_wave_1 38 rfl
theorem dX12_wave_153 : decode cX12_wave 153 = .ok (.iload 8, 2) := mm_dk kX12_wave_1 39 rfl
set_option maxRecDepth 100000 in
theorem kX12_wave_2 : ([(155, .iload_n 3, 1), (156, .irem, 1), (157, .imul, 1), (158, .iload_n 3, 1), (159, .idiv, 1), (160, .iload 4, 2), (162, .isub, 1), (163, .istore 9, 2), (165, .goto 98, 3), (168, .iload_n 2, 1), (169, .iconst 2, 1), (170, .if_icmp .ne 26, 3), (173, .iload 7, 2), (175, .invokestatic 248, 3), (178, .istore 7, 2), (180, .iload 7, 2), (182, .invokestatic 251, 3), (185, .iload 4, 2), (187, .imul, 1), (188, .bipush 7, 2), (190, .ishr, 1), (191, .istore 9, 2), (193, .goto 70, 3), (196, .iload_n 2, 1), (197, .iconst 3, 1), (198, .if_icmp .ne 45, 3), (201, .iconst 2, 1), (202, .iload 8, 2), (204, .iload_n 3, 1), (205, .irem, 1), (206, .imul, 1), (207, .iload_n 3, 1), (208, .isub, 1), (209, .istore 10, 2), (211, .iload 10, 2), (213, .ifCond .ge 9, 3), (216, .iload 10, 2), (218, .ineg, 1), (219, .goto 5, 3), (222, .iload 10, 2)] : List (Nat × Instr × Nat)).all (fun x => decide (decode cX12_wave x.1 = .ok x.2)) = true := by decide +kernel
theorem dX12_wave_155 : decode cX12_wave 155 = .ok (.iload_n 3, 1) := mm_dk kX12_wave_2 0 rfl
theorem dX12_wave_156 : decode cX12_wave 156 = .ok (.irem, 1) := mm_dk kX12_wave_2 1 rfl
theorem dX12_wave_157 : decode cX12_wave 157 = .ok (.imul, 1) := mm_dk kX12_wave_2 2 rfl
theorem dX12_wave_158 : decode cX12_wave 158 = .ok (.iload_n 3, 1) := mm_dk kX12_wave_2 3 rfl
theorem dX12_wave_159 : decode cX12_wave 159 = .ok (.idiv, 1) := mm_dk kX12_wave_2 4 rfl
theorem dX12_wave_160 : decode cX12_wave 160 = .ok (.iload 4, 2) := mm_dk kX12_wave_2 5 rfl
theorem dX12_wave_162 : decode cX12_wave 162 = .ok (.isub, 1) := mm_dk kX12_wave_2 6 rfl
theorem dX12_wave_163 : decode cX12_wave 163 = .ok (.istore 9, 2) := mm_dk kX12_wave_2 7 rfl
theorem dX12_wave_165 : decode cX12_wave 165 = .ok (.goto 98, 3) := mm_dk kX12_wave_2 8 rfl
theorem dX12_wave_168 : decode cX12_wave 168 = .ok (.iload_n 2, 1) := mm_dk kX12_wave_2 9 rfl
theorem dX12_wave_169 : decode cX12_wave 169 = .ok (.iconst 2, 1) := mm_dk kX12_wave_2 10 rfl
theorem dX12_wave_170 : decode cX12_wave 170 = .ok (.if_icmp .ne 26, 3) := mm_dk kX12_wave_2 11 rfl
theorem dX12_wave_173 : decode cX12_wave 173 = .ok (.iload 7, 2) := mm_dk kX12_wave_2 12 rfl
theorem dX12_wave_175 : decode cX12_wave 175 = .ok (.invokestatic 248, 3) := mm_dk kX12_wave_2 13 rfl
theorem dX12_wave_178 : decode cX12_wave 178 = .ok (.istore 7, 2) := mm_dk kX12_wave_2 14 rfl
theorem dX12_wave_180 : decode cX12_wave 180 = .ok (.iload 7, 2) := mm_dk kX12_wave_2 15 rfl
theorem dX12_wave_182 : decode cX12_wave 182 = .ok (.invokestatic 251, 3) := mm_dk kX12_wave_2 16 rfl
theorem dX12_wave_185 : decode cX12_wave 185 = .ok (.iload 4, 2) := mm_dk kX12_wave_2 17 rfl
theorem dX12_wave_187 : decode cX12_wave 187 = .ok (.imul, 1) := mm_dk kX12_wave_2 18 rfl
theorem dX12_wave_188 : decode cX12_wave 188 = .ok (.bipush 7, 2) := mm_dk kX12_wave_2 19 rfl
theorem dX12_wave_190 : decode cX12_wave 190 = .ok (.ishr, 1) := mm_dk kX12_wave_2 20 rfl
theorem dX12_wave_191 : decode cX12_wave 191 = .ok (.istore 9, 2) := mm_dk kX12_wave_2 21 rfl
theorem dX12_wave_193 : decode cX12_wave 193 = .ok (.goto 70, 3) := mm_dk kX12_wave_2 22 rfl
theorem dX12_wave_196 : decode cX12_wave 196 = .ok (.iload_n 2, 1) := mm_dk kX12_wave_2 23 rfl
theorem dX12_wave_197 : decode cX12_wave 197 = .ok (.iconst 3, 1) := mm_dk kX12_wave_2 24 rfl
theorem dX12_wave_198 : decode cX12_wave 198 = .ok (.if_icmp .ne 45, 3) := mm_dk kX12_wave_2 25 rfl
theorem dX12_wave_201 : decode cX12_wave 201 = .ok (.iconst 2, 1) := mm_dk kX12_wave_2 26 rfl
theorem dX12_wave_202 : decode cX12_wave 202 = .ok (.iload 8, 2) := mm_dk kX12_wave_2 27 rfl
theorem dX12_wave_204 : decode cX12_wave 204 = .ok (.iload_n 3, 1) := mm_dk kX12_wave_2 28 rfl
theorem dX12_wave_205 : decode cX12_wave 205 = .ok (.irem, 1) := mm_dk kX12_wave_2 29 rfl
theorem dX12_wave_206 : decode cX12_wave 206 = .ok (.imul, 1) := mm_dk kX12_wave_2 30 rfl
theorem dX12_wave_207 : decode cX12_wave 207 = .ok (.iload_n 3, 1) := mm_dk kX12_wave_2 31 rfl
theorem dX12_wave_208 : decode cX12_wave 208 = .ok (.isub, 1) := mm_dk kX12_wave_2 32 rfl
theorem dX12_wave_209 : decode cX12_wave 209 = .ok (.istore 10, 2) := mm_dk kX12_wave_2 33 rfl
theorem dX12_wave_211 : decode cX12_wave 211 = .ok (.iload 10, 2) := mm_dk kX12_wave_2 34 rfl
theorem dX12_wave_213 : decode cX12_wave 213 = .ok (.ifCond .ge 9, 3) := mm_dk kX12_wave_2 35 rfl
theorem dX12_wave_216 : decode cX12_wave 216 = .ok (.iload 10, 2) := mm_dk kX12_wave_2 36 rfl
theorem dX12_wave_218 : decode cX12_wave 218 = .ok (.ineg, 1) := mm_dk kX12_wave_2 37 rfl
theorem dX12_wave_219 : decode cX12_wave 219 = .ok (.goto 5, 3) := mm_dk kX12_wave_2 38 rfl
theorem dX12_wave_222 : decode cX12_wave 222 = .ok (.iload 10, 2) := mm_dk kX12_wave_2 39 rfl
set_option maxRecDepth 100000 in
theorem kX12_wave_3 : ([(224, .istore 10, 2), (226, .iconst 2, 1), (227, .iload 4, 2), (229, .imul, 1), (230, .iload 10, 2), (232, .imul, 1), (233, .iload_n 3, 1), (234, .idiv, 1), (235, .iload 4, 2), (237, .isub, 1), (238, .istore 9, 2), (240, .goto 23, 3), (243, .iload_n 2, 1), (244, .iconst 4, 1), (245, .if_icmp .ne 18, 3), (248, .iload 8, 2), (250, .iload_n 3, 1), (251, .irem, 1), (252, .ifCond .ne 8, 3), (255, .iload 4, 2), (257, .goto 4, 3), (260, .iconst 0, 1), (261, .istore 9, 2), (263, .aload_n 0, 1), (264, .getfield 44, 3), (267, .sipush 640, 3), (270, .iload_n 1, 1), (271, .imul, 1), (272, .aload_n 0, 1), (273, .getfield 41, 3), (276, .iload_n 1, 1), (277, .iaload, 1), (278, .iadd, 1), (279, .iload 9, 2), (281, .iastore, 1), (282, .aload_n 0, 1), (283, .getfield 41, 3), (286, .iload_n 1, 1), (287, .dup2, 1), (288, .iaload, 1)] : List (Nat × Instr × Nat)).all (fun x => decide (decode cX12_wave x.1 = .ok x.2)) = true := by decide +kernel
theorem dX12_wave_224 : decode cX12_wave 224 = .ok (.istore 10, 2) := mm_dk kX12_wave_3 0 rfl
theorem dX12_wave_226 : decode cX12_wave 226 = .ok (.iconst 2, 1) := mm_dk kX12_wave_3 1 rfl
theorem dX12_wave_227 : decode cX12_wave 227 = .ok (.iload 4, 2) := mm_dk kX12_wave_3 2 rfl
theorem dX12_wave_229 : decode cX12_wave 229 = .ok (.imul, 1) := mm_dk kX12_wave_3 3 rfl
theorem dX12_wave_230 : decode cX12_wave 230 = .ok (.iload 10, 2) := mm_dk kX12_wave_3 4 rfl
theorem dX12_wave_232 : decode cX12_wave 232 = .ok (.imul, 1) := mm_dk kX12_wave_3 5 rfl
theorem dX12_wave_233 : decode cX12_wave 233 = .ok (.iload_n 3, 1) := mm_dk kX12_wave_3 6 rfl
theorem dX12_wave_234 : decode cX12_wave 234 = .ok (.idiv, 1) := mm_dk kX12_wave_3 7 rfl
theorem dX12_wave_235 : decode cX12_wave 235 = .ok (.iload 4, 2) := mm_dk kX12_wave_3 8 rfl
theorem dX12_wave_237 : decode cX12_wave 237 = .ok (.isub, 1) := mm_dk kX12_wave_3 9 rfl
theorem dX12_wave_238 : decode cX12_wave 238 = .ok (.istore 9, 2) := mm_dk kX12_wave_3 10 rfl
theorem dX12_wave_240 : decode cX12_wave 240 = .ok (.goto 23, 3) := mm_dk kX12_wave_3 11 rfl
theorem dX12_wave_243 : decode cX12_wave 243 = .ok (.iload_n 2, 1) := mm_dk kX12_wave_3 12 rfl
theorem dX12_wave_244 : decode cX12_wave 244 = .ok (.iconst 4, 1) := mm_dk kX12_wave_3 13 rfl
theorem dX12_wave_245 : decode cX12_wave 245 = .ok (.if_icmp .ne 18, 3) := mm_dk kX12_wave_3 14 rfl
theorem dX12_wave_248 : decode cX12_wave 248 = .ok (.iload 8, 2) := mm_dk kX12_wave_3 15 rfl
theorem dX12_wave_250 : decode cX12_wave 250 = .ok (.iload_n 3, 1) := mm_dk kX12_wave_3 16 rfl
theorem dX12_wave_251 : decode cX12_wave 251 = .ok (.irem, 1) := mm_dk kX12_wave_3 17 rfl
theorem dX12_wave_252 : decode cX12_wave 252 = .ok (.ifCond .ne 8, 3) := mm_dk kX12_wave_3 18 rfl
theorem dX12_wave_255 : decode cX12_wave 255 = .ok (.iload 4, 2) := mm_dk kX12_wave_3 19 rfl
theorem dX12_wave_257 : decode cX12_wave 257 = .ok (.goto 4, 3) := mm_dk kX12_wave_3 20 rfl
theorem dX12_wave_260 : decode cX12_wave 260 = .ok (.iconst 0, 1) := mm_dk kX12_wave_3 21 rfl
theorem dX12_wave_261 : decode cX12_wave 261 = .ok (.istore 9, 2) := mm_dk kX12_wave_3 22 rfl
theorem dX12_wave_263 : decode cX12_wave 263 = .ok (.aload_n 0, 1) := mm_dk kX12_wave_3 23 rfl
theorem dX12_wave_264 : decode cX12_wave 264 = .ok (.getfield 44, 3) := mm_dk kX12_wave_3 24 rfl
theorem dX12_wave_267 : decode cX12_wave 267 = .ok (.sipush 640, 3) := mm_dk kX12_wave_3 25 rfl
theorem dX12_wave_270 : decode cX12_wave 270 = .ok (.iload_n 1, 1) := mm_dk kX12_wave_3 26 rfl
theorem dX12_wave_271 : decode cX12_wave 271 = .ok (.imul, 1) := mm_dk kX12_wave_3 27 rfl
theorem dX12_wave_272 : decode cX12_wave 272 = .ok (.aload_n 0, 1) := mm_dk kX12_wave_3 28 rfl
theorem dX12_wave_273 : decode cX12_wave 273 = .ok (.getfield 41, 3) := mm_dk kX12_wave_3 29 rfl
theorem dX12_wave_276 : decode cX12_wave 276 = .ok (.iload_n 1, 1) := mm_dk kX12_wave_3 30 rfl
theorem dX12_wave_277 : decode cX12_wave 277 = .ok (.iaload, 1) := mm_dk kX12_wave_3 31 rfl
theorem dX12_wave_278 : decode cX12_wave 278 = .ok (.iadd, 1) := mm_dk kX12_wave_3 32 rfl
theorem dX12_wave_279 : decode cX12_wave 279 = .ok (.iload 9, 2) := mm_dk kX12_wave_3 33 rfl
theorem dX12_wave_281 : decode cX12_wave 281 = .ok (.iastore, 1) := mm_dk kX12_wave_3 34 rfl
theorem dX12_wave_282 : decode cX12_wave 282 = .ok (.aload_n 0, 1) := mm_dk kX12_wave_3 35 rfl
theorem dX12_wave_283 : decode cX12_wave 283 = .ok (.getfield 41, 3) := mm_dk kX12_wave_3 36 rfl
theorem dX12_wave_286 : decode cX12_wave 286 = .ok (.iload_n 1, 1) := mm_dk kX12_wave_3 37 rfl
theorem dX12_wave_287 : decode cX12_wave 287 = .ok (.dup2, 1) := mm_dk kX12_wave_3 38 rfl
theorem dX12_wave_288 : decode cX12_wave 288 = .ok (.iaload, 1) := mm_dk kX12_wave_3 39 rfl
set_option maxRecDepth 100000 in
theorem kX12_wave_4 : ([(289, .iconst 1, 1), (290, .iadd, 1), (291, .iastore, 1), (292, .iinc 8 1, 3), (295, .goto (-161), 3), (298, .aload_n 0, 1), (299, .aload_n 0, 1), (300, .getfield 41, 3), (303, .iload_n 1, 1), (304, .iaload, 1), (305, .invokevirtual 235, 3), (308, .ireturn, 1)] : List (Nat × Instr × Nat)).all (fun x => decide (decode cX12_wave x.1 = .ok x.2)) = true := by decide +kernel
theorem dX12_wave_289 : decode cX12_wave 289 = .ok (.iconst 1, 1) := mm_dk kX12_wave_4 0 rfl
theorem dX12_wave_290 : decode cX12_wave 290 = .ok (.iadd, 1) := mm_dk kX12_wave_4 1 rfl
theorem dX12_wave_291 : decode cX12_wave 291 = .ok (.iastore, 1) := mm_dk kX12_wave_4 2 rfl
theorem dX12_wave_292 : decode cX12_wave 292 = .ok (.iinc 8 1, 3) := mm_dk kX12_wave_4 3 rfl
theorem dX12_wave_295 : decode cX12_wave 295 = .ok (.goto (-161), 3) := mm_dk kX12_wave_4 4 rfl
theorem dX12_wave_298 : decode cX12_wave 298 = .ok (.aload_n 0, 1) := mm_dk kX12_wave_4 5 rfl
theorem dX12_wave_299 : decode cX12_wave 299 = .ok (.aload_n 0, 1) := mm_dk kX12_wave_4 6 rfl
theorem dX12_wave_300 : decode cX12_wave 300 = .ok (.getfield 41, 3) := mm_dk kX12_wave_4 7 rfl
theorem dX12_wave_303 : decode cX12_wave 303 = .ok (.iload_n 1, 1) := mm_dk kX12_wave_4 8 rfl
theorem dX12_wave_304 : decode cX12_wave 304 = .ok (.iaload, 1) := mm_dk kX12_wave_4 9 rfl
theorem dX12_wave_305 : decode cX12_wave 305 = .ok (.invokevirtual 235, 3) := mm_dk kX12_wave_4 10 rfl
theorem dX12_wave_308 : decode cX12_wave 308 = .ok (.ireturn, 1) := mm_dk kX12_wave_4 11 rfl
set_option maxRecDepth 100000 in
theorem kX12_predict_0 : ([(0, .iconst 0, 1), (1, .istore_n 3, 1), (2, .iload_n 3, 1), (3, .bipush 9, 2), (5, .if_icmp .ge 59, 3), (8, .lconst 0, 1), (9, .lstore 4, 2), (11, .iload_n 3, 1), (12, .istore 6, 2), (14, .iload 6, 2), (16, .iload_n 2, 1), (17, .if_icmp .ge 33, 3), (20, .lload 4, 2), (22, .aload_n 0, 1), (23, .getfield 169, 3), (26, .iload 6, 2), (28, .iaload, 1), (29, .i2l, 1), (30, .aload_n 0, 1), (31, .getfield 169, 3), (34, .iload 6, 2), (36, .iload_n 3, 1), (37, .isub, 1), (38, .iaload, 1), (39, .i2l, 1), (40, .lmul, 1), (41, .ladd, 1), (42, .lstore 4, 2), (44, .iinc 6 1, 3), (47, .goto (-33), 3), (50, .aload_n 0, 1), (51, .getfield 193, 3), (54, .iload_n 3, 1), (55, .lload 4, 2), (57, .lastore, 1), (58, .iinc 3 1, 3), (61, .goto (-59), 3), (64, .iconst 0, 1), (65, .istore_n 3, 1), (66, .aload_n 0, 1)] : List (Nat × Instr × Nat)).all (fun x => decide (decode cX12_predict x.1 = .ok x.2)) = true := by decide +kernel
theorem dX12_predict_0 : decode cX12_predict 0 = .ok (.iconst 0, 1) := mm_dk kX12_predict_0 0 rfl
theorem dX12_predict_1 : decode cX12_predict 1 = .ok (.istore_n 3, 1) := mm_dk kX12_predict_0 1 rfl
theorem dX12_predict_2 : decode cX12_predict 2 = .ok (.iload_n 3, 1) := mm_dk kX12_predict_0 2 rfl
theorem dX12_predict_3 : decode cX12_predict 3 = .ok (.bipush 9, 2) := mm_dk kX12_predict_0 3 rfl
theorem dX12_predict_5 : decode cX12_predict 5 = .ok (.if_icmp .ge 59, 3) := mm_dk kX12_predict_0 4 rfl
theorem dX12_predict_8 : decode cX12_predict 8 = .ok (.lconst 0, 1) := mm_dk kX12_predict_0 5 rfl
theorem dX12_predict_9 : decode cX12_predict 9 = .ok (.lstore 4, 2) := mm_dk kX12_predict_0 6 rfl
theorem dX12_predict_11 : decode cX12_predict 11 = .ok (.iload_n 3, 1) := mm_dk kX12_predict_0 7 rfl
theorem dX12_predict_12 : decode cX12_predict 12 = .ok (.istore 6, 2) := mm_dk kX12_predict_0 8 rfl
theorem dX12_predict_14 : decode cX12_predict 14 = .ok (.iload 6, 2) := mm_dk kX12_predict_0 9 rfl
theorem dX12_predict_16 : decode cX12_predict 16 = .ok (.iload_n 2, 1) := mm_dk kX12_predict_0 10 rfl
theorem dX12_predict_17 : decode cX12_predict 17 = .ok (.if_icmp .ge 33, 3) := mm_dk kX12_predict_0 11 rfl
theorem dX12_predict_20 : decode cX12_predict 20 = .ok (.lload 4, 2) := mm_dk kX12_predict_0 12 rfl
theorem dX12_predict_22 : decode cX12_predict 22 = .ok (.aload_n 0, 1) := mm_dk kX12_predict_0 13 rfl
theorem dX12_predict_23 : decode cX12_predict 23 = .ok (.getfield 169, 3) := mm_dk kX12_predict_0 14 rfl
theorem dX12_predict_26 : decode cX12_predict 26 = .ok (.iload 6, 2) := mm_dk kX12_predict_0 15 rfl
theorem dX12_predict_28 : decode cX12_predict 28 = .ok (.iaload, 1) := mm_dk kX12_predict_0 16 rfl
theorem dX12_predict_29 : decode cX12_predict 29 = .ok (.i2l, 1) := mm_dk kX12_predict_0 17 rfl
theorem dX12_predict_30 : decode cX12_predict 30 = .ok (.aload_n 0, 1) := mm_dk kX12_predict_0 18 rfl
theorem dX12_predict_31 : decode cX12_predict 31 = .ok (.getfield 169, 3) := mm_dk kX12_predict_0 19 rfl
theorem dX12_predict_34 : decode cX12_predict 34 = .ok (.iload 6, 2) := mm_dk kX12_predict_0 20 rfl
theorem dX12_predict_36 : decode cX12_predict 36 = .ok (.iload_n 3, 1) := mm_dk kX12_predict_0 21 rfl
theorem dX12_predict_37 : decode cX12_predict 37 = .ok (.isub, 1) := mm_dk kX12_predict_0 22 rfl
theorem dX12_predict_38 : decode cX12_predict 38 = .ok (.iaload, 1) := mm_dk kX12_predict_0 23 rfl
theorem dX12_predict_39 : decode cX12_predict 39 = .ok (.i2l, 1) := mm_dk kX12_predict_0 24 rfl
theorem dX12_predict_40 : decode cX12_predict 40 = .ok (.lmul, 1) := mm_dk kX12_predict_0 25 rfl
theorem dX12_predict_41 : decode cX12_predict 41 = .ok (.ladd, 1) := mm_dk kX12_predict_0 26 rfl
theorem dX12_predict_42 : decode cX12_predict 42 = .ok (.lstore 4, 2) := mm_dk kX12_predict_0 27 rfl
theorem dX12_predict_44 : decode cX12_predict 44 = .ok (.iinc 6 1, 3) := mm_dk kX12_predict_0 28 rfl
theorem dX12_predict_47 : decode cX12_predict 47 = .ok (.goto (-33), 3) := mm_dk kX12_predict_0 29 rfl
theorem dX12_predict_50 : decode cX12_predict 50 = .ok (.aload_n 0, 1) := mm_dk kX12_predict_0 30 rfl
theorem dX12_predict_51 : decode cX12_predict 51 = .ok (.getfield 193, 3) := mm_dk kX12_predict_0 31 rfl
theorem dX12_predict_54 : decode cX12_predict 54 = .ok (.iload_n 3, 1) := mm_dk kX12_predict_0 32 rfl
theorem dX12_predict_55 : decode cX12_predict 55 = .ok (.lload 4, 2) := mm_dk kX12_predict_0 33 rfl
theorem dX12_predict_57 : decode cX12_predict 57 = .ok (.lastore, 1) := mm_dk kX12_predict_0 34 rfl
theorem dX12_predict_58 : decode cX12_predict 58 = .ok (.iinc 3 1, 3) := mm_dk kX12_predict_0 35 rfl
theorem dX12_predict_61 : decode cX12_predict 61 = .ok (.goto (-59), 3) := mm_dk kX12_predict_0 36 rfl
theorem dX12_predict_64 : decode cX12_predict 64 = .ok (.iconst 0, 1) := mm_dk kX12_predict_0 37 rfl
theorem dX12_predict_65 : decode cX12_predict 65 = .ok (.istore_n 3, 1) := mm_dk kX12_predict_0 38 rfl
theorem dX12_predict_66 : decode cX12_predict 66 = .ok (.aload_n 0, 1) := mm_dk kX12_predict_0 39 rfl
set_option maxRecDepth 100000 in
theorem kX12_predict_1 : ([(67, .getfield 193, 3), (70, .iconst 0, 1), (71, .laload, 1), (72, .iload_n 3, 1), (73, .lshr, 1), (74, .ldc2_w 254, 3), (77, .lcmp, 1), (78, .ifCond .lt 9, 3), (81, .iinc 3 1, 3), (84, .goto (-18), 3), (87, .iconst 0, 1), (88, .istore 4, 2), (90, .iload 4, 2), (92, .bipush 9, 2), (94, .if_icmp .ge 25, 3), (97, .aload_n 0, 1), (98, .getfield 193, 3), (101, .iload 4, 2), (103, .aload_n 0, 1), (104, .getfield 193, 3), (107, .iload 4, 2), (109, .laload, 1), (110, .iload_n 3, 1), (111, .lshr, 1), (112, .lastore, 1), (113, .iinc 4 1, 3), (116, .goto (-26), 3), (119, .iconst 0, 1), (120, .istore 4, 2), (122, .iload 4, 2), (124, .bipush 8, 2), (126, .if_icmp .ge 22, 3), (129, .aload_n 0, 1), (130, .getfield 71, 3), (133, .bipush 8, 2), (135, .iload_n 1, 1), (136, .imul, 1), (137, .iload 4, 2), (139, .iadd, 1), (140, .iconst 0, 1)] : List (Nat × Instr × Nat)).all (fun x => decide (decode cX12_predict x.1 = .ok x.2)) = true := by decide +kernel
theorem dX12_predict_67 : decode cX12_predict 67 = .ok (.getfield 193, 3) := mm_dk kX12_predict_1 0 rfl
theorem dX12_predict_70 : decode cX12_predict 70 = .ok (.iconst 0, 1) := mm_dk kX12_predict_1 1 rfl
theorem dX12_predict_71 : decode cX12_predict 71 = .ok (.laload, 1) := mm_dk kX12_predict_1 2 rfl
theorem dX12_predict_72 : decode cX12_predict 72 = .ok (.iload_n 3, 1) := mm_dk kX12_predict_1 3 rfl
theorem dX12_predict_73 : decode cX12_predict 73 = .ok (.lshr, 1) := mm_dk kX12_predict_1 4 rfl
theorem dX12_predict_74 : decode cX12_predict 74 = .ok (.ldc2_w 254, 3) := mm_dk kX12_predict_1 5 rfl
theorem dX12_predict_77 : decode cX12_predict 77 = .ok (.lcmp, 1) := mm_dk kX12_predict_1 6 rfl
theorem dX12_predict_78 : decode cX12_predict 78 = .ok (.ifCond .lt 9, 3) := mm_dk kX12_predict_1 7 rfl
theorem dX12_predict_81 : decode cX12_predict 81 = .ok (.iinc 3 1, 3) := mm_dk kX12_predict_1 8 rfl
theorem dX12_predict_84 : decode cX12_predict 84 = .ok (.goto (-18), 3) := mm_dk kX12_predict_1 9 rfl
theorem dX12_predict_87 : decode cX12_predict 87 = .ok (.iconst 0, 1) := mm_dk kX12_predict_1 10 rfl
theorem dX12_predict_88 : decode cX12_predict 88 = .ok (.istore 4, 2) := mm_dk kX12_predict_1 11 rfl
theorem dX12_predict_90 : decode cX12_predict 90 = .ok (.iload 4, 2) := mm_dk kX12_predict_1 12 rfl
theorem dX12_predict_92 : decode cX12_predict 92 = .ok (.bipush 9, 2) := mm_dk kX12_predict_1 13 rfl
theorem dX12_predict_94 : decode cX12_predict 94 = .ok (.if_icmp .ge 25, 3) := mm_dk kX12_predict_1 14 rfl
theorem dX12_predict_97 : decode cX12_predict 97 = .ok (.aload_n 0, 1) := mm_dk kX12_predict_1 15 rfl
theorem dX12_predict_98 : decode cX12_predict 98 = .ok (.getfield 193, 3) := mm_dk kX12_predict_1 16 rfl
theorem dX12_predict_101 : decode cX12_predict 101 = .ok (.iload 4, 2) := mm_dk kX12_predict_1 17 rfl
theorem dX12_predict_103 : decode cX12_predict 103 = .ok (.aload_n 0, 1) := mm_dk kX12_predict_1 18 rfl
theorem dX12_predict_104 : decode cX12_predict 104 = .ok (.getfield 193, 3) := mm_dk kX12_predict_1 19 rfl
theorem dX12_predict_107 : decode cX12_predict 107 = .ok (.iload 4, 2) := mm_dk kX12_predict_1 20 rfl
theorem dX12_predict_109 : decode cX12_predict 109 = .ok (.laload, 1) := mm_dk kX12_predict_1 21 rfl
theorem dX12_predict_110 : decode cX12_predict 110 = .ok (.iload_n 3, 1) := mm_dk kX12_predict_1 22 rfl
theorem dX12_predict_111 : decode cX12_predict 111 = .ok (.lshr, 1) := mm_dk kX12_predict_1 23 rfl
theorem dX12_predict_112 : decode cX12_predict 112 = .ok (.lastore, 1) := mm_dk kX12_predict_1 24 rfl
theorem dX12_predict_113 : decode cX12_predict 113 = .ok (.iinc 4 1, 3) := mm_dk kX12_predict_1 25 rfl
theorem dX12_predict_116 : decode cX12_predict 116 = .ok (.goto (-26), 3) := mm_dk kX12_predict_1 26 rfl
theorem dX12_predict_119 : decode cX12_predict 119 = .ok (.iconst 0, 1) := mm_dk kX12_predict_1 27 rfl
theorem dX12_predict_120 : decode cX12_predict 120 = .ok (.istore 4, 2) := mm_dk kX12_predict_1 28 rfl
theorem dX12_predict_122 : decode cX12_predict 122 = .ok (.iload 4, 2) := mm_dk kX12_predict_1 29 rfl
theorem dX12_predict_124 : decode cX12_predict 124 = .ok (.bipush 8, 2) := mm_dk kX12_predict_1 30 rfl
theorem dX12_predict_126 : decode cX12_predict 126 = .ok (.if_icmp .ge 22, 3) := mm_dk kX12_predict_1 31 rfl
theorem dX12_predict_129 : decode cX12_predict 129 = .ok (.aload_n 0, 1) := mm_dk kX12_predict_1 32 rfl
theorem dX12_predict_130 : decode cX12_predict 130 = .ok (.getfield 71, 3) := mm_dk kX12_predict_1 33 rfl
theorem dX12_predict_133 : decode cX12_predict 133 = .ok (.bipush 8, 2) := mm_dk kX12_predict_1 34 rfl
theorem dX12_predict_135 : decode cX12_predict 135 = .ok (.iload_n 1, 1) := mm_dk kX12_predict_1 35 rfl
theorem dX12_predict_136 : decode cX12_predict 136 = .ok (.imul, 1) := mm_dk kX12_predict_1 36 rfl
theorem dX12_predict_137 : decode cX12_predict 137 = .ok (.iload 4, 2) := mm_dk kX12_predict_1 37 rfl
theorem dX12_predict_139 : decode cX12_predict 139 = .ok (.iadd, 1) := mm_dk kX12_predict_1 38 rfl
theorem dX12_predict_140 : decode cX12_predict 140 = .ok (.iconst 0, 1) := mm_dk kX12_predict_1 39 rfl
set_option maxRecDepth 100000 in
theorem kX12_predict_2 : ([(141, .iastore, 1), (142, .iinc 4 1, 3), (145, .goto (-23), 3), (148, .aload_n 0, 1), (149, .getfield 193, 3), (152, .iconst 0, 1), (153, .laload, 1), (154, .lconst 0, 1), (155, .lcmp, 1), (156, .ifCond .ne 4, 3), (159, .return_, 1), (160, .aload_n 0, 1), (161, .getfield 193, 3), (164, .iconst 0, 1), (165, .dup2, 1), (166, .laload, 1), (167, .aload_n 0, 1), (168, .getfield 193, 3), (171, .iconst 0, 1), (172, .laload, 1), (173, .bipush 10, 2), (175, .lshr, 1), (176, .lconst 1, 1), (177, .ladd, 1), (178, .ladd, 1), (179, .lastore, 1), (180, .iconst 0, 1), (181, .istore 4, 2), (183, .iload 4, 2), (185, .bipush 9, 2), (187, .if_icmp .ge 37, 3), (190, .aload_n 0, 1), (191, .getfield 196, 3), (194, .iload 4, 2), (196, .aload_n 0, 1), (197, .getfield 193, 3), (200, .iload 4, 2), (202, .laload, 1), (203, .lastore, 1), (204, .aload_n 0, 1)] : List (Nat × Instr × Nat)).all (fun x => decide (decode cX12_predict x.1 = .ok x.2)) = true := by decide +kernel
theorem dX12_predict_141 : decode cX12_predict 141 = .ok (.iastore, 1) := mm_dk kX12_predict_2 0 rfl
theorem dX12_predict_142 : decode cX12_predict 142 = .ok (.iinc 4 1, 3) := mm_dk kX12_predict_2 1 rfl
theorem dX12_predict_145 : decode cX12_predict 145 = .ok (.goto (-23), 3) := mm_dk kX12_predict_2 2 rfl
theorem dX12_predict_148 : decode cX12_predict 148 = .ok (.aload_n 0, 1) := mm_dk kX12_predict_2 3 rfl
theorem dX12_predict_149 : decode cX12_predict 149 = .ok (.getfield 193, 3) := mm_dk kX12_predict_2 4 rfl
theorem dX12_predict_152 : decode cX12_predict 152 = .ok (.iconst 0, 1) := mm_dk kX12_predict_2 5 rfl
theorem dX12_predict_153 : decode cX12_predict 153 = .ok (.laload, 1) := mm_dk kX12_predict_2 6 rfl
theorem dX12_predict_154 : decode cX12_predict 154 = .ok (.lconst 0, 1) := mm_dk kX12_predict_2 7 rfl
theorem dX12_predict_155 : decode cX12_predict 155 = .ok (.lcmp, 1) := mm_dk kX12_predict_2 8 rfl
theorem dX12_predict_156 : decode cX12_predict 156 = .ok (.ifCond .ne 4, 3) := mm_dk kX12_predict_2 9 rfl
theorem dX12_predict_159 : decode cX12_predict 159 = .ok (.return_, 1) := mm_dk kX12_predict_2 10 rfl
theorem dX12_predict_160 : decode cX12_predict 160 = .ok (.aload_n 0, 1) := mm_dk kX12_predict_2 11 rfl
theorem dX12_predict_161 : decode cX12_predict 161 = .ok (.getfield 193, 3) := mm_dk kX12_predict_2 12 rfl
theorem dX12_predict_164 : decode cX12_predict 164 = .ok (.iconst 0, 1) := mm_dk kX12_predict_2 13 rfl
theorem dX12_predict_165 : decode cX12_predict 165 = .ok (.dup2, 1) := mm_dk kX12_predict_2 14 rfl
theorem dX12_predict_166 : decode cX12_predict 166 = .ok (.laload, 1) := mm_dk kX12_predict_2 15 rfl
theorem dX12_predict_167 : decode cX12_predict 167 = .ok (.aload_n 0, 1) := mm_dk kX12_predict_2 16 rfl
theorem dX12_predict_168 : decode cX12_predict 168 = .ok (.getfield 193, 3) := mm_dk kX12_predict_2 17 rfl
theorem dX12_predict_171 : decode cX12_predict 171 = .ok (.iconst 0, 1) := mm_dk kX12_predict_2 18 rfl
theorem dX12_predict_172 : decode cX12_predict 172 = .ok (.laload, 1) := mm_dk kX12_predict_2 19 rfl
theorem dX12_predict_173 : decode cX12_predict 173 = .ok (.bipush 10, 2) := mm_dk kX12_predict_2 20 rfl
theorem dX12_predict_175 : decode cX12_predict 175 = .ok (.lshr, 1) := mm_dk kX12_predict_2 21 rfl
theorem dX12_predict_176 : decode cX12_predict 176 = .ok (.lconst 1, 1) := mm_dk kX12_predict_2 22 rfl
theorem dX12_predict_177 : decode cX12_predict 177 = .ok (.ladd, 1) := mm_dk kX12_predict_2 23 rfl
theorem dX12_predict_178 : decode cX12_predict 178 = .ok (.ladd, 1) := mm_dk kX12_predict_2 24 rfl
theorem dX12_predict_179 : decode cX12_predict 179 = .ok (.lastore, 1) := mm_dk kX12_predict_2 25 rfl
theorem dX12_predict_180 : decode cX12_predict 180 = .ok (.iconst 0, 1) := mm_dk kX12_predict_2 26 rfl
theorem dX12_predict_181 : decode cX12_predict 181 = .ok (.istore 4, 2) := mm_dk kX12_predict_2 27 rfl
theorem dX12_predict_183 : decode cX12_predict 183 = .ok (.iload 4, 2) := mm_dk kX12_predict_2 28 rfl
theorem dX12_predict_185 : decode cX12_predict 185 = .ok (.bipush 9, 2) := mm_dk kX12_predict_2 29 rfl
theorem dX12_predict_187 : decode cX12_predict 187 = .ok (.if_icmp .ge 37, 3) := mm_dk kX12_predict_2 30 rfl
theorem dX12_predict_190 : decode cX12_predict 190 = .ok (.aload_n 0, 1) := mm_dk kX12_predict_2 31 rfl
theorem dX12_predict_191 : decode cX12_predict 191 = .ok (.getfield 196, 3) := mm_dk kX12_predict_2 32 rfl
theorem dX12_predict_194 : decode cX12_predict 194 = .ok (.iload 4, 2) := mm_dk kX12_predict_2 33 rfl
theorem dX12_predict_196 : decode cX12_predict 196 = .ok (.aload_n 0, 1) := mm_dk kX12_predict_2 34 rfl
theorem dX12_predict_197 : decode cX12_predict 197 = .ok (.getfield 193, 3) := mm_dk kX12_predict_2 35 rfl
theorem dX12_predict_200 : decode cX12_predict 200 = .ok (.iload 4, 2) := mm_dk kX12_predict_2 36 rfl
theorem dX12_predict_202 : decode cX12_predict 202 = .ok (.laload, 1) := mm_dk kX12_predict_2 37 rfl
theorem dX12_predict_203 : decode cX12_predict 203 = .ok (.lastore, 1) := mm_dk kX12_predict_2 38 rfl
theorem dX12_predict_204 : decode cX12_predict 204 = .ok (.aload_n 0, 1) := mm_dk kX12_predict_2 39 rfl
set_option maxRecDepth 100000 in
theorem kX12_predict_3 : ([(205, .getfield 199, 3), (208, .iload 4, 2), (210, .aload_n 0, 1), (211, .getfield 193, 3), (214, .iload 4, 2), (216, .laload, 1), (217, .lastore, 1), (218, .iinc 4 1, 3), (221, .goto (-38), 3), (224, .iconst 1, 1), (225, .istore 4, 2), (227, .iload 4, 2), (229, .bipush 8, 2), (231, .if_icmp .gt 271, 3), (234, .aload_n 0, 1), (235, .getfield 196, 3), (238, .iconst 1, 1), (239, .laload, 1), (240, .lconst 0, 1), (241, .lcmp, 1), (242, .ifCond .ge 13, 3), (245, .aload_n 0, 1), (246, .getfield 196, 3), (249, .iconst 1, 1), (250, .laload, 1), (251, .lneg, 1), (252, .goto 9, 3), (255, .aload_n 0, 1), (256, .getfield 196, 3), (259, .iconst 1, 1), (260, .laload, 1), (261, .lstore 5, 2), (263, .aload_n 0, 1), (264, .getfield 196, 3), (267, .iconst 0, 1), (268, .laload, 1), (269, .lconst 0, 1), (270, .lcmp, 1), (271, .ifCond .le 15, 3), (274, .lload 5, 2)] : List (Nat × Instr × Nat)).all (fun x => decide (decode cX12_predict x.1 = .ok x.2)) = true := by decide +kernel
theorem dX12_predict_205 : decode cX12_predict 205 = .ok (.getfield 199, 3) := mm_dk kX12_predict_3 0 rfl
theorem dX12_predict_208 : decode cX12_predict 208 = .ok (.iload 4, 2) := mm_dk kX12_predict_3 1 rfl
theorem dX12_predict_210 : decode cX12_predict 210 = .ok (.aload_n 0, 1) := mm_dk kX12_predict_3 2 rfl
theorem dX12_predict_211 : decode cX12_predict 211 = .ok (.getfield 193, 3) := mm_dk kX12_predict_3 3 rfl
theorem dX12_predict_214 : decode cX12_predict 214 = .ok (.iload 4, 2) := mm_dk kX12_predict_3 4 rfl
theorem dX12_predict_216 : decode cX12_predict 216 = .ok (.laload, 1) := mm_dk kX12_predict_3 5 rfl
theorem dX12_predict_217 : decode cX12_predict 217 = .ok (.lastore, 1) := mm_dk kX12_predict_3 6 rfl
theorem dX12_predict_218 : decode cX12_predict 218 = .ok (.iinc 4 1, 3) := mm_dk kX12_predict_3 7 rfl
theorem dX12_predict_221 : decode cX12_predict 221 = .ok (.goto (-38), 3) := mm_dk kX12_predict_3 8 rfl
theorem dX12_predict_224 : decode cX12_predict 224 = .ok (.iconst 1, 1) := mm_dk kX12_predict_3 9 rfl
theorem dX12_predict_225 : decode cX12_predict 225 = .ok (.istore 4, 2) := mm_dk kX12_predict_3 10 rfl
theorem dX12_predict_227 : decode cX12_predict 227 = .ok (.iload 4, 2) := mm_dk kX12_predict_3 11 rfl
theorem dX12_predict_229 : decode cX12_predict 229 = .ok (.bipush 8, 2) := mm_dk kX12_predict_3 12 rfl
theorem dX12_predict_231 : decode cX12_predict 231 = .ok (.if_icmp .gt 271, 3) := mm_dk kX12_predict_3 13 rfl
theorem dX12_predict_234 : decode cX12_predict 234 = .ok (.aload_n 0, 1) := mm_dk kX12_predict_3 14 rfl
theorem dX12_predict_235 : decode cX12_predict 235 = .ok (.getfield 196, 3) := mm_dk kX12_predict_3 15 rfl
theorem dX12_predict_238 : decode cX12_predict 238 = .ok (.iconst 1, 1) := mm_dk kX12_predict_3 16 rfl
theorem dX12_predict_239 : decode cX12_predict 239 = .ok (.laload, 1) := mm_dk kX12_predict_3 17 rfl
theorem dX12_predict_240 : decode cX12_predict 240 = .ok (.lconst 0, 1) := mm_dk kX12_predict_3 18 rfl
theorem dX12_predict_241 : decode cX12_predict 241 = .ok (.lcmp, 1) := mm_dk kX12_predict_3 19 rfl
theorem dX12_predict_242 : decode cX12_predict 242 = .ok (.ifCond .ge 13, 3) := mm_dk kX12_predict_3 20 rfl
theorem dX12_predict_245 : decode cX12_predict 245 = .ok (.aload_n 0, 1) := mm_dk kX12_predict_3 21 rfl
theorem dX12_predict_246 : decode cX12_predict 246 = .ok (.getfield 196, 3) := mm_dk kX12_predict_3 22 rfl
theorem dX12_predict_249 : decode cX12_predict 249 = .ok (.iconst 1, 1) := mm_dk kX12_predict_3 23 rfl
theorem dX12_predict_250 : decode cX12_predict 250 = .ok (.laload, 1) := mm_dk kX12_predict_3 24 rfl
theorem dX12_predict_251 : decode cX12_predict 251 = .ok (.lneg, 1) := mm_dk kX12_predict_3 25 rfl
theorem dX12_predict_252 : decode cX12_predict 252 = .ok (.goto 9, 3) := mm_dk kX12_predict_3 26 rfl
theorem dX12_predict_255 : decode cX12_predict 255 = .ok (.aload_n 0, 1) := mm_dk kX12_predict_3 27 rfl
theorem dX12_predict_256 : decode cX12_predict 256 = .ok (.getfield 196, 3) := mm_dk kX12_predict_3 28 rfl
theorem dX12_predict_259 : decode cX12_predict 259 = .ok (.iconst 1, 1) := mm_dk kX12_predict_3 29 rfl
theorem dX12_predict_260 : decode cX12_predict 260 = .ok (.laload, 1) := mm_dk kX12_predict_3 30 rfl
theorem dX12_predict_261 : decode cX12_predict 261 = .ok (.lstore 5, 2) := mm_dk kX12_predict_3 31 rfl
theorem dX12_predict_263 : decode cX12_predict 263 = .ok (.aload_n 0, 1) := mm_dk kX12_predict_3 32 rfl
theorem dX12_predict_264 : decode cX12_predict 264 = .ok (.getfield 196, 3) := mm_dk kX12_predict_3 33 rfl
theorem dX12_predict_267 : decode cX12_predict 267 = .ok (.iconst 0, 1) := mm_dk kX12_predict_3 34 rfl
theorem dX12_predict_268 : decode cX12_predict 268 = .ok (.laload, 1) := mm_dk kX12_predict_3 35 rfl
theorem dX12_predict_269 : decode cX12_predict 269 = .ok (.lconst 0, 1) := mm_dk kX12_predict_3 36 rfl
theorem dX12_predict_270 : decode cX12_predict 270 = .ok (.lcmp, 1) := mm_dk kX12_predict_3 37 rfl
theorem dX12_predict_271 : decode cX12_predict 271 = .ok (.ifCond .le 15, 3) := mm_dk kX12_predict_3 38 rfl
theorem dX12_predict_274 : decode cX12_predict 274 = .ok (.lload 5, 2) := mm_dk kX12_predict_3 39 rfl
set_option maxRecDepth 100000 in
theorem kX12_predict_4 : ([(276, .aload_n 0, 1), (277, .getfield 196, 3), (280, .iconst 0, 1), (281, .laload, 1), (282, .lcmp, 1), (283, .ifCond .lt 4, 3), (286, .return_, 1), (287, .ldc2_w 215, 3), (290, .aload_n 0, 1), (291, .getfield 196, 3), (294, .iconst 1, 1), (295, .laload, 1), (296, .lmul, 1), (297, .aload_n 0, 1), (298, .getfield 196, 3), (301, .iconst 0, 1), (302, .laload, 1), (303, .ldiv, 1), (304, .lstore 7, 2), (306, .lload 7, 2), (308, .ldc2_w 256, 3), (311, .ladd, 1), (312, .bipush 10, 2), (314, .lshr, 1), (315, .lstore 9, 2), (317, .lload 9, 2), (319, .ldc2_w 258, 3), (322, .lcmp, 1), (323, .ifCond .gt 12, 3), (326, .lload 9, 2), (328, .ldc2_w 260, 3), (331, .lcmp, 1), (332, .ifCond .ge 31, 3), (335, .aload_n 0, 1), (336, .dup, 1), (337, .getfield 217, 3), (340, .lconst 1, 1), (341, .ladd, 1), (342, .putfield 217, 3), (345, .lload 9, 2)] : List (Nat × Instr × Nat)).all (fun x => decide (decode cX12_predict x.1 = .ok x.2)) = true := by decide +kernel
theorem dX12_predict_276 : decode cX12_predict 276 = .ok (.aload_n 0, 1) := mm_dk kX12_predict_4 0 rfl
theorem dX12_predict_277 : decode cX12_predict 277 = .ok (.getfield 196, 3) := mm_dk kX12_predict_4 1 rfl
theorem dX12_predict_280 : decode cX12_predict 280 = .ok (.iconst 0, 1) := mm_dk kX12_predict_4 2 rfl
theorem dX12_predict_281 : decode cX12_predict 281 = .ok (.laload, 1) := mm_dk kX12_predict_4 3 rfl
theorem dX12_predict_282 : decode cX12_predict 282 = .ok (.lcmp, 1) := mm_dk kX12_predict_4 4 rfl
theorem dX12_predict_283 : decode cX12_predict 283 = .ok (.ifCond .lt 4, 3) := mm_dk kX12_predict_4 5 rfl
theorem dX12_predict_286 : decode cX12_predict 286 = .ok (.return_, 1) := mm_dk kX12_predict_4 6 rfl
theorem dX12_predict_287 : decode cX12_predict 287 = .ok (.ldc2_w 215, 3) := mm_dk kX12_predict_4 7 rfl
theorem dX12_predict_290 : decode cX12_predict 290 = .ok (.aload_n 0, 1) := mm_dk kX12_predict_4 8 rfl
theorem dX12_predict_291 : decode cX12_predict 291 = .ok (.getfield 196, 3) := mm_dk kX12_predict_4 9 rfl
theorem dX12_predict_294 : decode cX12_predict 294 = .ok (.iconst 1, 1) := mm_dk kX12_predict_4 10 rfl
theorem dX12_predict_295 : decode cX12_predict 295 = .ok (.laload, 1) := mm_dk kX12_predict_4 11 rfl
theorem dX12_predict_296 : decode cX12_predict 296 = .ok (.lmul, 1) := mm_dk kX12_predict_4 12 rfl
theorem dX12_predict_297 : decode cX12_predict 297 = .ok (.aload_n 0, 1) := mm_dk kX12_predict_4 13 rfl
theorem dX12_predict_298 : decode cX12_predict 298 = .ok (.getfield 196, 3) := mm_dk kX12_predict_4 14 rfl
theorem dX12_predict_301 : decode cX12_predict 301 = .ok (.iconst 0, 1) := mm_dk kX12_predict_4 15 rfl
theorem dX12_predict_302 : decode cX12_predict 302 = .ok (.laload, 1) := mm_dk kX12_predict_4 16 rfl
theorem dX12_predict_303 : decode cX12_predict 303 = .ok (.ldiv, 1) := mm_dk kX12_predict_4 17 rfl
theorem dX12_predict_304 : decode cX12_predict 304 = .ok (.lstore 7, 2) := mm_dk kX12_predict_4 18 rfl
theorem dX12_predict_306 : decode cX12_predict 306 = .ok (.lload 7, 2) := mm_dk kX12_predict_4 19 rfl
theorem dX12_predict_308 : decode cX12_predict 308 = .ok (.ldc2_w 256, 3) := mm_dk kX12_predict_4 20 rfl
theorem dX12_predict_311 : decode cX12_predict 311 = .ok (.ladd, 1) := mm_dk kX12_predict_4 21 rfl
theorem dX12_predict_312 : decode cX12_predict 312 = .ok (.bipush 10, 2) := mm_dk kX12_predict_4 22 rfl
theorem dX12_predict_314 : decode cX12_predict 314 = .ok (.lshr, 1) := mm_dk kX12_predict_4 23 rfl
theorem dX12_predict_315 : decode cX12_predict 315 = .ok (.lstore 9, 2) := mm_dk kX12_predict_4 24 rfl
theorem dX12_predict_317 : decode cX12_predict 317 = .ok (.lload 9, 2) := mm_dk kX12_predict_4 25 rfl
theorem dX12_predict_319 : decode cX12_predict 319 = .ok (.ldc2_w 258, 3) := mm_dk kX12_predict_4 26 rfl
theorem dX12_predict_322 : decode cX12_predict 322 = .ok (.lcmp, 1) := mm_dk kX12_predict_4 27 rfl
theorem dX12_predict_323 : decode cX12_predict 323 = .ok (.ifCond .gt 12, 3) := mm_dk kX12_predict_4 28 rfl
theorem dX12_predict_326 : decode cX12_predict 326 = .ok (.lload 9, 2) := mm_dk kX12_predict_4 29 rfl
theorem dX12_predict_328 : decode cX12_predict 328 = .ok (.ldc2_w 260, 3) := mm_dk kX12_predict_4 30 rfl
theorem dX12_predict_331 : decode cX12_predict 331 = .ok (.lcmp, 1) := mm_dk kX12_predict_4 31 rfl
theorem dX12_predict_332 : decode cX12_predict 332 = .ok (.ifCond .ge 31, 3) := mm_dk kX12_predict_4 32 rfl
theorem dX12_predict_335 : decode cX12_predict 335 = .ok (.aload_n 0, 1) := mm_dk kX12_predict_4 33 rfl
theorem dX12_predict_336 : decode cX12_predict 336 = .ok (.dup, 1) := mm_dk kX12_predict_4 34 rfl
theorem dX12_predict_337 : decode cX12_predict 337 = .ok (.getfield 217, 3) := mm_dk kX12_predict_4 35 rfl
theorem dX12_predict_340 : decode cX12_predict 340 = .ok (.lconst 1, 1) := mm_dk kX12_predict_4 36 rfl
theorem dX12_predict_341 : decode cX12_predict 341 = .ok (.ladd, 1) := mm_dk kX12_predict_4 37 rfl
theorem dX12_predict_342 : decode cX12_predict 342 = .ok (.putfield 217, 3) := mm_dk kX12_predict_4 38 rfl
theorem dX12_predict_345 : decode cX12_predict 345 = .ok (.lload 9, 2) := mm_dk kX12_predict_4 39 rfl
set_option maxRecDepth 100000 in
theorem kX12_predict_5 : ([(347, .lconst 0, 1), (348, .lcmp, 1), (349, .ifCond .le 9, 3), (352, .ldc2_w 258, 3), (355, .goto 6, 3), (358, .ldc2_w 260, 3), (361, .lstore 9, 2), (363, .aload_n 0, 1), (364, .getfield 71, 3), (367, .bipush 8, 2), (369, .iload_n 1, 1), (370, .imul, 1), (371, .iload 4, 2), (373, .iadd, 1), (374, .iconst 1, 1), (375, .isub, 1), (376, .lload 9, 2), (378, .l2i, 1), (379, .iastore, 1), (380, .iload 4, 2), (382, .bipush 8, 2), (384, .if_icmp .ge 112, 3), (387, .aload_n 0, 1), (388, .getfield 196, 3), (391, .iconst 0, 1), (392, .aload_n 0, 1), (393, .aload_n 0, 1), (394, .getfield 196, 3), (397, .iconst 0, 1), (398, .laload, 1), (399, .aload_n 0, 1), (400, .getfield 196, 3), (403, .iconst 1, 1), (404, .laload, 1), (405, .lload 7, 2), (407, .invokestatic 262, 3), (410, .ladd, 1), (411, .invokevirtual 266, 3), (414, .lastore, 1), (415, .iconst 1, 1)] : List (Nat × Instr × Nat)).all (fun x => decide (decode cX12_predict x.1 = .ok x.2)) = true := by decide +kernel
theorem dX12_predict_347 : decode cX12_predict 347 = .ok (.lconst 0, 1) := mm_dk kX12_predict_5 0 rfl
theorem dX12_predict_348 : decode cX12_predict 348 = .ok (.lcmp, 1) := mm_dk kX12_predict_5 1 rfl
theorem dX12_predict_349 : decode cX12_predict 349 = .ok (.ifCond .le 9, 3) := mm_dk kX12_predict_5 2 rfl
theorem dX12_predict_352 : decode cX12_predict 352 = .ok (.ldc2_w 258, 3) := mm_dk kX12_predict_5 3 rfl
theorem dX12_predict_355 : decode cX12_predict 355 = .ok (.goto 6, 3) := mm_dk kX12_predict_5 4 rfl
theorem dX12_predict_358 : decode cX12_predict 358 = .ok (.ldc2_w 260, 3) := mm_dk kX12_predict_5 5 rfl
theorem dX12_predict_361 : decode cX12_predict 361 = .ok (.lstore 9, 2) := mm_dk kX12_predict_5 6 rfl
theorem dX12_predict_363 : decode cX12_predict 363 = .ok (.aload_n 0, 1) := mm_dk kX12_predict_5 7 rfl
theorem dX12_predict_364 : decode cX12_predict 364 = .ok (.getfield 71, 3) := mm_dk kX12_predict_5 8 rfl
theorem dX12_predict_367 : decode cX12_predict 367 = .ok (.bipush 8, 2) := mm_dk kX12_predict_5 9 rfl
theorem dX12_predict_369 : decode cX12_predict 369 = .ok (.iload_n 1, 1) := mm_dk kX12_predict_5 10 rfl
theorem dX12_predict_370 : decode cX12_predict 370 = .ok (.imul, 1) := mm_dk kX12_predict_5 11 rfl
theorem dX12_predict_371 : decode cX12_predict 371 = .ok (.iload 4, 2) := mm_dk kX12_predict_5 12 rfl
theorem dX12_predict_373 : decode cX12_predict 373 = .ok (.iadd, 1) := mm_dk kX12_predict_5 13 rfl
theorem dX12_predict_374 : decode cX12_predict 374 = .ok (.iconst 1, 1) := mm_dk kX12_predict_5 14 rfl
theorem dX12_predict_375 : decode cX12_predict 375 = .ok (.isub, 1) := mm_dk kX12_predict_5 15 rfl
theorem dX12_predict_376 : decode cX12_predict 376 = .ok (.lload 9, 2) := mm_dk kX12_predict_5 16 rfl
theorem dX12_predict_378 : decode cX12_predict 378 = .ok (.l2i, 1) := mm_dk kX12_predict_5 17 rfl
theorem dX12_predict_379 : decode cX12_predict 379 = .ok (.iastore, 1) := mm_dk kX12_predict_5 18 rfl
theorem dX12_predict_380 : decode cX12_predict 380 = .ok (.iload 4, 2) := mm_dk kX12_predict_5 19 rfl
theorem dX12_predict_382 : decode cX12_predict 382 = .ok (.bipush 8, 2) := mm_dk kX12_predict_5 20 rfl
theorem dX12_predict_384 : decode cX12_predict 384 = .ok (.if_icmp .ge 112, 3) := mm_dk kX12_predict_5 21 rfl
theorem dX12_predict_387 : decode cX12_predict 387 = .ok (.aload_n 0, 1) := mm_dk kX12_predict_5 22 rfl
theorem dX12_predict_388 : decode cX12_predict 388 = .ok (.getfield 196, 3) := mm_dk kX12_predict_5 23 rfl
theorem dX12_predict_391 : decode cX12_predict 391 = .ok (.iconst 0, 1) := mm_dk kX12_predict_5 24 rfl
theorem dX12_predict_392 : decode cX12_predict 392 = .ok (.aload_n 0, 1) := mm_dk kX12_predict_5 25 rfl
theorem dX12_predict_393 : decode cX12_predict 393 = .ok (.aload_n 0, 1) := mm_dk kX12_predict_5 26 rfl
theorem dX12_predict_394 : decode cX12_predict 394 = .ok (.getfield 196, 3) := mm_dk kX12_predict_5 27 rfl
theorem dX12_predict_397 : decode cX12_predict 397 = .ok (.iconst 0, 1) := mm_dk kX12_predict_5 28 rfl
theorem dX12_predict_398 : decode cX12_predict 398 = .ok (.laload, 1) := mm_dk kX12_predict_5 29 rfl
theorem dX12_predict_399 : decode cX12_predict 399 = .ok (.aload_n 0, 1) := mm_dk kX12_predict_5 30 rfl
theorem dX12_predict_400 : decode cX12_predict 400 = .ok (.getfield 196, 3) := mm_dk kX12_predict_5 31 rfl
theorem dX12_predict_403 : decode cX12_predict 403 = .ok (.iconst 1, 1) := mm_dk kX12_predict_5 32 rfl
theorem dX12_predict_404 : decode cX12_predict 404 = .ok (.laload, 1) := mm_dk kX12_predict_5 33 rfl
theorem dX12_predict_405 : decode cX12_predict 405 = .ok (.lload 7, 2) := mm_dk kX12_predict_5 34 rfl
theorem dX12_predict_407 : decode cX12_predict 407 = .ok (.invokestatic 262, 3) := mm_dk kX12_predict_5 35 rfl
theorem dX12_predict_410 : decode cX12_predict 410 = .ok (.ladd, 1) := mm_dk kX12_predict_5 36 rfl
theorem dX12_predict_411 : decode cX12_predict 411 = .ok (.invokevirtual 266, 3) := mm_dk kX12_predict_5 37 rfl
theorem dX12_predict_414 : decode cX12_predict 414 = .ok (.lastore, 1) := mm_dk kX12_predict_5 38 rfl
theorem dX12_predict_415 : decode cX12_predict 415 = .ok (.iconst 1, 1) := mm_dk kX12_predict_5 39 rfl
set_option maxRecDepth 100000 in
theorem kX12_predict_6 : ([(416, .istore 11, 2), (418, .iload 11, 2), (420, .bipush 8, 2), (422, .iload 4, 2), (424, .isub, 1), (425, .if_icmp .gt 71, 3), (428, .aload_n 0, 1), (429, .getfield 196, 3), (432, .iload 11, 2), (434, .iconst 1, 1), (435, .iadd, 1), (436, .laload, 1), (437, .lstore 12, 2), (439, .aload_n 0, 1), (440, .getfield 199, 3), (443, .iload 11, 2), (445, .laload, 1), (446, .lstore 14, 2), (448, .aload_n 0, 1), (449, .getfield 196, 3), (452, .iload 11, 2), (454, .aload_n 0, 1), (455, .lload 12, 2), (457, .lload 14, 2), (459, .lload 7, 2), (461, .invokestatic 262, 3), (464, .ladd, 1), (465, .invokevirtual 266, 3), (468, .lastore, 1), (469, .aload_n 0, 1), (470, .getfield 199, 3), (473, .iload 11, 2), (475, .aload_n 0, 1), (476, .lload 14, 2), (478, .lload 12, 2), (480, .lload 7, 2), (482, .invokestatic 262, 3), (485, .ladd, 1), (486, .invokevirtual 266, 3), (489, .lastore, 1)] : List (Nat × Instr × Nat)).all (fun x => decide (decode cX12_predict x.1 = .ok x.2)) = true := by decide +kernel
theorem dX12_predict_416 : decode cX12_predict 416 = .ok (.istore 11, 2) := mm_dk kX12_predict_6 0 rfl
theorem dX12_predict_418 : decode cX12_predict 418 = .ok (.iload 11, 2) := mm_dk kX12_predict_6 1 rfl
theorem dX12_predict_420 : decode cX12_predict 420 = .ok (.bipush 8, 2) := mm_dk kX12_predict_6 2 rfl
theorem dX12_predict_422 : decode cX12_predict 422 = .ok (.iload 4, 2) := mm_dk kX12_predict_6 3 rfl
theorem dX12_predict_424 : decode cX12_predict 424 = .ok (.isub, 1) := mm_dk kX12_predict_6 4 rfl
theorem dX12_predict_425 : decode cX12_predict 425 = .ok (.if_icmp .gt 71, 3) := mm_dk kX12_predict_6 5 rfl
theorem dX12_predict_428 : decode cX12_predict 428 = .ok (.aload_n 0, 1) := mm_dk kX12_predict_6 6 rfl
theorem dX12_predict_429 : decode cX12_predict 429 = .ok (.getfield 196, 3) := mm_dk kX12_predict_6 7 rfl
theorem dX12_predict_432 : decode cX12_predict 432 = .ok (.iload 11, 2) := mm_dk kX12_predict_6 8 rfl
theorem dX12_predict_434 : decode cX12_predict 434 = .ok (.iconst 1, 1) := mm_dk kX12_predict_6 9 rfl
theorem dX12_predict_435 : decode cX12_predict 435 = .ok (.iadd, 1) := mm_dk kX12_predict_6 10 rfl
theorem dX12_predict_436 : decode cX12_predict 436 = .ok (.laload, 1) := mm_dk kX12_predict_6 11 rfl
theorem dX12_predict_437 : decode cX12_predict 437 = .ok (.lstore 12, 2) := mm_dk kX12_predict_6 12 rfl
theorem dX12_predict_439 : decode cX12_predict 439 = .ok (.aload_n 0, 1) := mm_dk kX12_predict_6 13 rfl
theorem dX12_predict_440 : decode cX12_predict 440 = .ok (.getfield 199, 3) := mm_dk kX12_predict_6 14 rfl
theorem dX12_predict_443 : decode cX12_predict 443 = .ok (.iload 11, 2) := mm_dk kX12_predict_6 15 rfl
theorem dX12_predict_445 : decode cX12_predict 445 = .ok (.laload, 1) := mm_dk kX12_predict_6 16 rfl
theorem dX12_predict_446 : decode cX12_predict 446 = .ok (.lstore 14, 2) := mm_dk kX12_predict_6 17 rfl
theorem dX12_predict_448 : decode cX12_predict 448 = .ok (.aload_n 0, 1) := mm_dk kX12_predict_6 18 rfl
theorem dX12_predict_449 : decode cX12_predict 449 = .ok (.getfield 196, 3) := mm_dk kX12_predict_6 19 rfl
theorem dX12_predict_452 : decode cX12_predict 452 = .ok (.iload 11, 2) := mm_dk kX12_predict_6 20 rfl
theorem dX12_predict_454 : decode cX12_predict 454 = .ok (.aload_n 0, 1) := mm_dk kX12_predict_6 21 rfl
theorem dX12_predict_455 : decode cX12_predict 455 = .ok (.lload 12, 2) := mm_dk kX12_predict_6 22 rfl
theorem dX12_predict_457 : decode cX12_predict 457 = .ok (.lload 14, 2) := mm_dk kX12_predict_6 23 rfl
theorem dX12_predict_459 : decode cX12_predict 459 = .ok (.lload 7, 2) := mm_dk kX12_predict_6 24 rfl
theorem dX12_predict_461 : decode cX12_predict 461 = .ok (.invokestatic 262, 3) := mm_dk kX12_predict_6 25 rfl
theorem dX12_predict_464 : decode cX12_predict 464 = .ok (.ladd, 1) := mm_dk kX12_predict_6 26 rfl
theorem dX12_predict_465 : decode cX12_predict 465 = .ok (.invokevirtual 266, 3) := mm_dk kX12_predict_6 27 rfl
theorem dX12_predict_468 : decode cX12_predict 468 = .ok (.lastore, 1) := mm_dk kX12_predict_6 28 rfl
theorem dX12_predict_469 : decode cX12_predict 469 = .ok (.aload_n 0, 1) := mm_dk kX12_predict_6 29 rfl
theorem dX12_predict_470 : decode cX12_predict 470 = .ok (.getfield 199, 3) := mm_dk kX12_predict_6 30 rfl
theorem dX12_predict_473 : decode cX12_predict 473 = .ok (.iload 11, 2) := mm_dk kX12_predict_6 31 rfl
theorem dX12_predict_475 : decode cX12_predict 475 = .ok (.aload_n 0, 1) := mm_dk kX12_predict_6 32 rfl
theorem dX12_predict_476 : decode cX12_predict 476 = .ok (.lload 14, 2) := mm_dk kX12_predict_6 33 rfl
theorem dX12_predict_478 : decode cX12_predict 478 = .ok (.lload 12, 2) := mm_dk kX12_predict_6 34 rfl
theorem dX12_predict_480 : decode cX12_predict 480 = .ok (.lload 7, 2) := mm_dk kX12_predict_6 35 rfl
theorem dX12_predict_482 : decode cX12_predict 482 = .ok (.invokestatic 262, 3) := mm_dk kX12_predict_6 36 rfl
theorem dX12_predict_485 : decode cX12_predict 485 = .ok (.ladd, 1) := mm_dk kX12_predict_6 37 rfl
theorem dX12_predict_486 : decode cX12_predict 486 = .ok (.invokevirtual 266, 3) := mm_dk kX12_predict_6 38 rfl
theorem dX12_predict_489 : decode cX12_predict 489 = .ok (.lastore, 1) := mm_dk kX12_predict_6 39 rfl
set_option maxRecDepth 100000 in
theorem kX12_predict_7 : ([(490, .iinc 11 1, 3), (493, .goto (-75), 3), (496, .iinc 4 1, 3), (499, .goto (-272), 3), (502, .return_, 1)] : List (Nat × Instr × Nat)).all (fun x => decide (decode cX12_predict x.1 = .ok x.2)) = true := by decide +kernel
theorem dX12_predict_490 : decode cX12_predict 490 = .ok (.iinc 11 1, 3) := mm_dk kX12_predict_7 0 rfl
theorem dX12_predict_493 : decode cX12_predict 493 = .ok (.goto (-75), 3) := mm_dk kX12_predict_7 1 rfl
theorem dX12_predict_496 : decode cX12_predict 496 = .ok (.iinc 4 1, 3) := mm_dk kX12_predict_7 2 rfl
theorem dX12_predict_499 : decode cX12_predict 499 = .ok (.goto (-272), 3) := mm_dk kX12_predict_7 3 rfl
theorem dX12_predict_502 : decode cX12_predict 502 = .ok (.return_, 1) := mm_dk kX12_predict_7 4 rfl
set_option maxRecDepth 100000 in
theorem kX12_lattice_0 : ([(0, .iconst 0, 1), (1, .istore_n 3, 1), (2, .iload_n 3, 1), (3, .iload_n 2, 1), (4, .if_icmp .ge 149, 3), (7, .aload_n 0, 1), (8, .getfield 169, 3), (11, .iload_n 3, 1), (12, .iaload, 1), (13, .istore 4, 2), (15, .aload_n 0, 1), (16, .getfield 169, 3), (19, .iload_n 3, 1), (20, .iaload, 1), (21, .istore 5, 2), (23, .iconst 1, 1), (24, .istore 6, 2), (26, .iload 6, 2), (28, .bipush 8, 2), (30, .if_icmp .gt 103, 3), (33, .sipush 1024, 3), (36, .aload_n 0, 1), (37, .getfield 71, 3), (40, .bipush 8, 2), (42, .iload_n 1, 1), (43, .imul, 1), (44, .iload 6, 2), (46, .iadd, 1), (47, .iconst 1, 1), (48, .isub, 1), (49, .iaload, 1), (50, .imul, 1), (51, .istore 7, 2), (53, .aload_n 0, 1), (54, .getfield 65, 3), (57, .bipush 8, 2), (59, .iload_n 1, 1), (60, .imul, 1), (61, .iload 6, 2), (63, .iadd, 1)] : List (Nat × Instr × Nat)).all (fun x => decide (decode cX12_lattice x.1 = .ok x.2)) = true := by decide +kernel
theorem dX12_lattice_0 : decode cX12_lattice 0 = .ok (.iconst 0, 1) := mm_dk kX12_lattice_0 0 rfl
theorem dX12_lattice_1 : decode cX12_lattice 1 = .ok (.istore_n 3, 1) := mm_dk kX12_lattice_0 1 rfl
theorem dX12_lattice_2 : decode cX12_lattice 2 = .ok (.iload_n 3, 1) := mm_dk kX12_lattice_0 2 rfl
theorem dX12_lattice_3 : decode cX12_lattice 3 = .ok (.iload_n 2, 1) := mm_dk kX12_lattice_0 3 rfl
theorem dX12_lattice_4 : decode cX12_lattice 4 = .ok (.if_icmp .ge 149, 3) := mm_dk kX12_lattice_0 4 rfl
theorem dX12_lattice_7 : decode cX12_lattice 7 = .ok (.aload_n 0, 1) := mm_dk kX12_lattice_0 5 rfl
theorem dX12_lattice_8 : decode cX12_lattice 8 = .ok (.getfield 169, 3) := mm_dk kX12_lattice_0 6 rfl
theorem dX12_lattice_11 : decode cX12_lattice 11 = .ok (.iload_n 3, 1) := mm_dk kX12_lattice_0 7 rfl
theorem dX12_lattice_12 : decode cX12_lattice 12 = .ok (.iaload, 1) := mm_dk kX12_lattice_0 8 rfl
theorem dX12_lattice_13 : decode cX12_lattice 13 = .ok (.istore 4, 2) := mm_dk kX12_lattice_0 9 rfl
theorem dX12_lattice_15 : decode cX12_lattice 15 = .ok (.aload_n 0, 1) := mm_dk kX12_lattice_0 10 rfl
theorem dX12_lattice_16 : decode cX12_lattice 16 = .ok (.getfield 169, 3) := mm_dk kX12_lattice_0 11 rfl
theorem dX12_lattice_19 : decode cX12_lattice 19 = .ok (.iload_n 3, 1) := mm_dk kX12_lattice_0 12 rfl
theorem dX12_lattice_20 : decode cX12_lattice 20 = .ok (.iaload, 1) := mm_dk kX12_lattice_0 13 rfl
theorem dX12_lattice_21 : decode cX12_lattice 21 = .ok (.istore 5, 2) := mm_dk kX12_lattice_0 14 rfl
theorem dX12_lattice_23 : decode cX12_lattice 23 = .ok (.iconst 1, 1) := mm_dk kX12_lattice_0 15 rfl
theorem dX12_lattice_24 : decode cX12_lattice 24 = .ok (.istore 6, 2) := mm_dk kX12_lattice_0 16 rfl
theorem dX12_lattice_26 : decode cX12_lattice 26 = .ok (.iload 6, 2) := mm_dk kX12_lattice_0 17 rfl
theorem dX12_lattice_28 : decode cX12_lattice 28 = .ok (.bipush 8, 2) := mm_dk kX12_lattice_0 18 rfl
theorem dX12_lattice_30 : decode cX12_lattice 30 = .ok (.if_icmp .gt 103, 3) := mm_dk kX12_lattice_0 19 rfl
theorem dX12_lattice_33 : decode cX12_lattice 33 = .ok (.sipush 1024, 3) := mm_dk kX12_lattice_0 20 rfl
theorem dX12_lattice_36 : decode cX12_lattice 36 = .ok (.aload_n 0, 1) := mm_dk kX12_lattice_0 21 rfl
theorem dX12_lattice_37 : decode cX12_lattice 37 = .ok (.getfield 71, 3) := mm_dk kX12_lattice_0 22 rfl
theorem dX12_lattice_40 : decode cX12_lattice 40 = .ok (.bipush 8, 2) := mm_dk kX12_lattice_0 23 rfl
theorem dX12_lattice_42 : decode cX12_lattice 42 = .ok (.iload_n 1, 1) := mm_dk kX12_lattice_0 24 rfl
theorem dX12_lattice_43 : decode cX12_lattice 43 = .ok (.imul, 1) := mm_dk kX12_lattice_0 25 rfl
theorem dX12_lattice_44 : decode cX12_lattice 44 = .ok (.iload 6, 2) := mm_dk kX12_lattice_0 26 rfl
theorem dX12_lattice_46 : decode cX12_lattice 46 = .ok (.iadd, 1) := mm_dk kX12_lattice_0 27 rfl
theorem dX12_lattice_47 : decode cX12_lattice 47 = .ok (.iconst 1, 1) := mm_dk kX12_lattice_0 28 rfl
theorem dX12_lattice_48 : decode cX12_lattice 48 = .ok (.isub, 1) := mm_dk kX12_lattice_0 29 rfl
theorem dX12_lattice_49 : decode cX12_lattice 49 = .ok (.iaload, 1) := mm_dk kX12_lattice_0 30 rfl
theorem dX12_lattice_50 : decode cX12_lattice 50 = .ok (.imul, 1) := mm_dk kX12_lattice_0 31 rfl
theorem dX12_lattice_51 : decode cX12_lattice 51 = .ok (.istore 7, 2) := mm_dk kX12_lattice_0 32 rfl
theorem dX12_lattice_53 : decode cX12_lattice 53 = .ok (.aload_n 0, 1) := mm_dk kX12_lattice_0 33 rfl
theorem dX12_lattice_54 : decode cX12_lattice 54 = .ok (.getfield 65, 3) := mm_dk kX12_lattice_0 34 rfl
theorem dX12_lattice_57 : decode cX12_lattice 57 = .ok (.bipush 8, 2) := mm_dk kX12_lattice_0 35 rfl
theorem dX12_lattice_59 : decode cX12_lattice 59 = .ok (.iload_n 1, 1) := mm_dk kX12_lattice_0 36 rfl
theorem dX12_lattice_60 : decode cX12_lattice 60 = .ok (.imul, 1) := mm_dk kX12_lattice_0 37 rfl
theorem dX12_lattice_61 : decode cX12_lattice 61 = .ok (.iload 6, 2) := mm_dk kX12_lattice_0 38 rfl
theorem dX12_lattice_63 : decode cX12_lattice 63 = .ok (.iadd, 1) := mm_dk kX12_lattice_0 39 rfl
set_option maxRecDepth 100000 in
theorem kX12_lattice_1 : ([(64, .iconst 1, 1), (65, .isub, 1), (66, .iaload, 1), (67, .istore 8, 2), (69, .aload_n 0, 1), (70, .getfield 65, 3), (73, .bipush 8, 2), (75, .iload_n 1, 1), (76, .imul, 1), (77, .iload 6, 2), (79, .iadd, 1), (80, .iconst 1, 1), (81, .isub, 1), (82, .iload 5, 2), (84, .iastore, 1), (85, .aload_n 0, 1), (86, .iload 4, 2), (88, .i2l, 1), (89, .iload 8, 2), (91, .i2l, 1), (92, .iload 7, 2), (94, .i2l, 1), (95, .invokestatic 262, 3), (98, .ladd, 1), (99, .invokevirtual 270, 3), (102, .istore 9, 2), (104, .aload_n 0, 1), (105, .iload 8, 2), (107, .i2l, 1), (108, .iload 4, 2), (110, .i2l, 1), (111, .iload 7, 2), (113, .i2l, 1), (114, .invokestatic 262, 3), (117, .ladd, 1), (118, .invokevirtual 270, 3), (121, .istore 5, 2), (123, .iload 9, 2), (125, .istore 4, 2), (127, .iinc 6 1, 3)] : List (Nat × Instr × Nat)).all (fun x => decide (decode cX12_lattice x.1 = .ok x.2)) = true := by decide +kernel
theorem dX12_lattice_64 : decode cX12_lattice 64 = .ok (.iconst 1, 1) := mm_dk kX12_lattice_1 0 rfl
theorem dX12_lattice_65 : decode cX12_lattice 65 = .ok (.isub, 1) := mm_dk kX12_lattice_1 1 rfl
theorem dX12_lattice_66 : decode cX12_lattice 66 = .ok (.iaload, 1) := mm_dk kX12_lattice_1 2 rfl
theorem dX12_lattice_67 : decode cX12_lattice 67 = .ok (.istore 8, 2) := mm_dk kX12_lattice_1 3 rfl
theorem dX12_lattice_69 : decode cX12_lattice 69 = .ok (.aload_n 0, 1) := mm_dk kX12_lattice_1 4 rfl
theorem dX12_lattice_70 : decode cX12_lattice 70 = .ok (.getfield 65, 3) := mm_dk kX12_lattice_1 5 rfl
theorem dX12_lattice_73 : decode cX12_lattice 73 = .ok (.bipush 8, 2) := mm_dk kX12_lattice_1 6 rfl
theorem dX12_lattice_75 : decode cX12_lattice 75 = .ok (.iload_n 1, 1) := mm_dk kX12_lattice_1 7 rfl
theorem dX12_lattice_76 : decode cX12_lattice 76 = .ok (.imul, 1) := mm_dk kX12_lattice_1 8 rfl
theorem dX12_lattice_77 : decode cX12_lattice 77 = .ok (.iload 6, 2) := mm_dk kX12_lattice_1 9 rfl
theorem dX12_lattice_79 : decode cX12_lattice 79 = .ok (.iadd, 1) := mm_dk kX12_lattice_1 10 rfl
theorem dX12_lattice_80 : decode cX12_lattice 80 = .ok (.iconst 1, 1) := mm_dk kX12_lattice_1 11 rfl
theorem dX12_lattice_81 : decode cX12_lattice 81 = .ok (.isub, 1) := mm_dk kX12_lattice_1 12 rfl
theorem dX12_lattice_82 : decode cX12_lattice 82 = .ok (.iload 5, 2) := mm_dk kX12_lattice_1 13 rfl
theorem dX12_lattice_84 : decode cX12_lattice 84 = .ok (.iastore, 1) := mm_dk kX12_lattice_1 14 rfl
theorem dX12_lattice_85 : decode cX12_lattice 85 = .ok (.aload_n 0, 1) := mm_dk kX12_lattice_1 15 rfl
theorem dX12_lattice_86 : decode cX12_lattice 86 = .ok (.iload 4, 2) := mm_dk kX12_lattice_1 16 rfl
theorem dX12_lattice_88 : decode cX12_lattice 88 = .ok (.i2l, 1) := mm_dk kX12_lattice_1 17 rfl
theorem dX12_lattice_89 : decode cX12_lattice 89 = .ok (.iload 8, 2) := mm_dk kX12_lattice_1 18 rfl
theorem dX12_lattice_91 : decode cX12_lattice 91 = .ok (.i2l, 1) := mm_dk kX12_lattice_1 19 rfl
theorem dX12_lattice_92 : decode cX12_lattice 92 = .ok (.iload 7, 2) := mm_dk kX12_lattice_1 20 rfl
theorem dX12_lattice_94 : decode cX12_lattice 94 = .ok (.i2l, 1) := mm_dk kX12_lattice_1 21 rfl
theorem dX12_lattice_95 : decode cX12_lattice 95 = .ok (.invokestatic 262, 3) := mm_dk kX12_lattice_1 22 rfl
theorem dX12_lattice_98 : decode cX12_lattice 98 = .ok (.ladd, 1) := mm_dk kX12_lattice_1 23 rfl
theorem dX12_lattice_99 : decode cX12_lattice 99 = .ok (.invokevirtual 270, 3) := mm_dk kX12_lattice_1 24 rfl
theorem dX12_lattice_102 : decode cX12_lattice 102 = .ok (.istore 9, 2) := mm_dk kX12_lattice_1 25 rfl
theorem dX12_lattice_104 : decode cX12_lattice 104 = .ok (.aload_n 0, 1) := mm_dk kX12_lattice_1 26 rfl
theorem dX12_lattice_105 : decode cX12_lattice 105 = .ok (.iload 8, 2) := mm_dk kX12_lattice_1 27 rfl
theorem dX12_lattice_107 : decode cX12_lattice 107 = .ok (.i2l, 1) := mm_dk kX12_lattice_1 28 rfl
theorem dX12_lattice_108 : decode cX12_lattice 108 = .ok (.iload 4, 2) := mm_dk kX12_lattice_1 29 rfl
theorem dX12_lattice_110 : decode cX12_lattice 110 = .ok (.i2l, 1) := mm_dk kX12_lattice_1 30 rfl
theorem dX12_lattice_111 : decode cX12_lattice 111 = .ok (.iload 7, 2) := mm_dk kX12_lattice_1 31 rfl
theorem dX12_lattice_113 : decode cX12_lattice 113 = .ok (.i2l, 1) := mm_dk kX12_lattice_1 32 rfl
theorem dX12_lattice_114 : decode cX12_lattice 114 = .ok (.invokestatic 262, 3) := mm_dk kX12_lattice_1 33 rfl
theorem dX12_lattice_117 : decode cX12_lattice 117 = .ok (.ladd, 1) := mm_dk kX12_lattice_1 34 rfl
theorem dX12_lattice_118 : decode cX12_lattice 118 = .ok (.invokevirtual 270, 3) := mm_dk kX12_lattice_1 35 rfl
theorem dX12_lattice_121 : decode cX12_lattice 121 = .ok (.istore 5, 2) := mm_dk kX12_lattice_1 36 rfl
theorem dX12_lattice_123 : decode cX12_lattice 123 = .ok (.iload 9, 2) := mm_dk kX12_lattice_1 37 rfl
theorem dX12_lattice_125 : decode cX12_lattice 125 = .ok (.istore 4, 2) := mm_dk kX12_lattice_1 38 rfl
theorem dX12_lattice_127 : decode cX12_lattice 127 = .ok (.iinc 6 1, 3) := mm_dk kX12_lattice_1 39 rfl
set_option maxRecDepth 100000 in
theorem kX12_lattice_2 : ([(130, .goto (-104), 3), (133, .aload_n 0, 1), (134, .getfield 87, 3), (137, .sipush 320, 3), (140, .iload_n 1, 1), (141, .imul, 1), (142, .iload_n 3, 1), (143, .iadd, 1), (144, .iload 4, 2), (146, .iastore, 1), (147, .iinc 3 1, 3), (150, .goto (-148), 3), (153, .return_, 1)] : List (Nat × Instr × Nat)).all (fun x => decide (decode cX12_lattice x.1 = .ok x.2)) = true := by decide +kernel
theorem dX12_lattice_130 : decode cX12_lattice 130 = .ok (.goto (-104), 3) := mm_dk kX12_lattice_2 0 rfl
theorem dX12_lattice_133 : decode cX12_lattice 133 = .ok (.aload_n 0, 1) := mm_dk kX12_lattice_2 1 rfl
theorem dX12_lattice_134 : decode cX12_lattice 134 = .ok (.getfield 87, 3) := mm_dk kX12_lattice_2 2 rfl
theorem dX12_lattice_137 : decode cX12_lattice 137 = .ok (.sipush 320, 3) := mm_dk kX12_lattice_2 3 rfl
theorem dX12_lattice_140 : decode cX12_lattice 140 = .ok (.iload_n 1, 1) := mm_dk kX12_lattice_2 4 rfl
theorem dX12_lattice_141 : decode cX12_lattice 141 = .ok (.imul, 1) := mm_dk kX12_lattice_2 5 rfl
theorem dX12_lattice_142 : decode cX12_lattice 142 = .ok (.iload_n 3, 1) := mm_dk kX12_lattice_2 6 rfl
theorem dX12_lattice_143 : decode cX12_lattice 143 = .ok (.iadd, 1) := mm_dk kX12_lattice_2 7 rfl
theorem dX12_lattice_144 : decode cX12_lattice 144 = .ok (.iload 4, 2) := mm_dk kX12_lattice_2 8 rfl
theorem dX12_lattice_146 : decode cX12_lattice 146 = .ok (.iastore, 1) := mm_dk kX12_lattice_2 9 rfl
theorem dX12_lattice_147 : decode cX12_lattice 147 = .ok (.iinc 3 1, 3) := mm_dk kX12_lattice_2 10 rfl
theorem dX12_lattice_150 : decode cX12_lattice 150 = .ok (.goto (-148), 3) := mm_dk kX12_lattice_2 11 rfl
theorem dX12_lattice_153 : decode cX12_lattice 153 = .ok (.return_, 1) := mm_dk kX12_lattice_2 12 rfl
set_option maxRecDepth 100000 in
theorem kX12_tryLag_0 : ([(0, .lconst 0, 1), (1, .lstore 5, 2), (3, .lconst 0, 1), (4, .lstore 7, 2), (6, .iconst 0, 1), (7, .istore 9, 2), (9, .iload 9, 2), (11, .iload_n 3, 1), (12, .if_icmp .ge 75, 3), (15, .aload_n 0, 1), (16, .getfield 90, 3), (19, .sipush 160, 3), (22, .iconst 4, 1), (23, .iload_n 1, 1), (24, .imul, 1), (25, .iload_n 2, 1), (26, .iadd, 1), (27, .imul, 1), (28, .sipush 160, 3), (31, .iadd, 1), (32, .iload 4, 2), (34, .isub, 1), (35, .iload 9, 2), (37, .iload 4, 2), (39, .irem, 1), (40, .iadd, 1), (41, .iaload, 1), (42, .i2l, 1), (43, .lstore 10, 2), (45, .lload 5, 2), (47, .lload 10, 2), (49, .lload 10, 2), (51, .lmul, 1), (52, .ladd, 1), (53, .lstore 5, 2), (55, .lload 7, 2), (57, .lload 10, 2), (59, .aload_n 0, 1), (60, .getfield 87, 3), (63, .sipush 320, 3)] : List (Nat × Instr × Nat)).all (fun x => decide (decode cX12_tryLag x.1 = .ok x.2)) = true := by decide +kernel
theorem dX12_tryLag_0 : decode cX12_tryLag 0 = .ok (.lconst 0, 1) := mm_dk kX12_tryLag_0 0 rfl
theorem dX12_tryLag_1 : decode cX12_tryLag 1 = .ok (.lstore 5, 2) := mm_dk kX12_tryLag_0 1 rfl
theorem dX12_tryLag_3 : decode cX12_tryLag 3 = .ok (.lconst 0, 1) := mm_dk kX12_tryLag_0 2 rfl
theorem dX12_tryLag_4 : decode cX12_tryLag 4 = .ok (.lstore 7, 2) := mm_dk kX12_tryLag_0 3 rfl
theorem dX12_tryLag_6 : decode cX12_tryLag 6 = .ok (.iconst 0, 1) := mm_dk kX12_tryLag_0 4 rfl
theorem dX12_tryLag_7 : decode cX12_tryLag 7 = .ok (.istore 9, 2) := mm_dk kX12_tryLag_0 5 rfl
theorem dX12_tryLag_9 : decode cX12_tryLag 9 = .ok (.iload 9, 2) := mm_dk kX12_tryLag_0 6 rfl
theorem dX12_tryLag_11 : decode cX12_tryLag 11 = .ok (.iload_n 3, 1) := mm_dk kX12_tryLag_0 7 rfl
theorem dX12_tryLag_12 : decode cX12_tryLag 12 = .ok (.if_icmp .ge 75, 3) := mm_dk kX12_tryLag_0 8 rfl
theorem dX12_tryLag_15 : decode cX12_tryLag 15 = .ok (.aload_n 0, 1) := mm_dk kX12_tryLag_0 9 rfl
theorem dX12_tryLag_16 : decode cX12_tryLag 16 = .ok (.getfield 90, 3) := mm_dk kX12_tryLag_0 10 rfl
theorem dX12_tryLag_19 : decode cX12_tryLag 19 = .ok (.sipush 160, 3) := mm_dk kX12_tryLag_0 11 rfl
theorem dX12_tryLag_22 : decode cX12_tryLag 22 = .ok (.iconst 4, 1) := mm_dk kX12_tryLag_0 12 rfl
theorem dX12_tryLag_23 : decode cX12_tryLag 23 = .ok (.iload_n 1, 1) := mm_dk kX12_tryLag_0 13 rfl
theorem dX12_tryLag_24 : decode cX12_tryLag 24 = .ok (.imul, 1) := mm_dk kX12_tryLag_0 14 rfl
theorem dX12_tryLag_25 : decode cX12_tryLag 25 = .ok (.iload_n 2, 1) := mm_dk kX12_tryLag_0 15 rfl
theorem dX12_tryLag_26 : decode cX12_tryLag 26 = .ok (.iadd, 1) := mm_dk kX12_tryLag_0 16 rfl
theorem dX12_tryLag_27 : decode cX12_tryLag 27 = .ok (.imul, 1) := mm_dk kX12_tryLag_0 17 rfl
theorem dX12_tryLag_28 : decode cX12_tryLag 28 = .ok (.sipush 160, 3) := mm_dk kX12_tryLag_0 18 rfl
theorem dX12_tryLag_31 : decode cX12_tryLag 31 = .ok (.iadd, 1) := mm_dk kX12_tryLag_0 19 rfl
theorem dX12_tryLag_32 : decode cX12_tryLag 32 = .ok (.iload 4, 2) := mm_dk kX12_tryLag_0 20 rfl
theorem dX12_tryLag_34 : decode cX12_tryLag 34 = .ok (.isub, 1) := mm_dk kX12_tryLag_0 21 rfl
theorem dX12_tryLag_35 : decode cX12_tryLag 35 = .ok (.iload 9, 2) := mm_dk kX12_tryLag_0 22 rfl
theorem dX12_tryLag_37 : decode cX12_tryLag 37 = .ok (.iload 4, 2) := mm_dk kX12_tryLag_0 23 rfl
theorem dX12_tryLag_39 : decode cX12_tryLag 39 = .ok (.irem, 1) := mm_dk kX12_tryLag_0 24 rfl
theorem dX12_tryLag_40 : decode cX12_tryLag 40 = .ok (.iadd, 1) := mm_dk kX12_tryLag_0 25 rfl
theorem dX12_tryLag_41 : decode cX12_tryLag 41 = .ok (.iaload, 1) := mm_dk kX12_tryLag_0 26 rfl
theorem dX12_tryLag_42 : decode cX12_tryLag 42 = .ok (.i2l, 1) := mm_dk kX12_tryLag_0 27 rfl
theorem dX12_tryLag_43 : decode cX12_tryLag 43 = .ok (.lstore 10, 2) := mm_dk kX12_tryLag_0 28 rfl
theorem dX12_tryLag_45 : decode cX12_tryLag 45 = .ok (.lload 5, 2) := mm_dk kX12_tryLag_0 29 rfl
theorem dX12_tryLag_47 : decode cX12_tryLag 47 = .ok (.lload 10, 2) := mm_dk kX12_tryLag_0 30 rfl
theorem dX12_tryLag_49 : decode cX12_tryLag 49 = .ok (.lload 10, 2) := mm_dk kX12_tryLag_0 31 rfl
theorem dX12_tryLag_51 : decode cX12_tryLag 51 = .ok (.lmul, 1) := mm_dk kX12_tryLag_0 32 rfl
theorem dX12_tryLag_52 : decode cX12_tryLag 52 = .ok (.ladd, 1) := mm_dk kX12_tryLag_0 33 rfl
theorem dX12_tryLag_53 : decode cX12_tryLag 53 = .ok (.lstore 5, 2) := mm_dk kX12_tryLag_0 34 rfl
theorem dX12_tryLag_55 : decode cX12_tryLag 55 = .ok (.lload 7, 2) := mm_dk kX12_tryLag_0 35 rfl
theorem dX12_tryLag_57 : decode cX12_tryLag 57 = .ok (.lload 10, 2) := mm_dk kX12_tryLag_0 36 rfl
theorem dX12_tryLag_59 : decode cX12_tryLag 59 = .ok (.aload_n 0, 1) := mm_dk kX12_tryLag_0 37 rfl
theorem dX12_tryLag_60 : decode cX12_tryLag 60 = .ok (.getfield 87, 3) := mm_dk kX12_tryLag_0 38 rfl
theorem dX12_tryLag_63 : decode cX12_tryLag 63 = .ok (.sipush 320, 3) := mm_dk kX12_tryLag_0 39 rfl
set_option maxRecDepth 100000 in
theorem kX12_tryLag_1 : ([(66, .iload_n 1, 1), (67, .imul, 1), (68, .iload_n 3, 1), (69, .iload_n 2, 1), (70, .imul, 1), (71, .iadd, 1), (72, .iload 9, 2), (74, .iadd, 1), (75, .iaload, 1), (76, .i2l, 1), (77, .lmul, 1), (78, .ladd, 1), (79, .lstore 7, 2), (81, .iinc 9 1, 3), (84, .goto (-75), 3), (87, .iconst 0, 1), (88, .istore 9, 2), (90, .iload 9, 2), (92, .bipush 8, 2), (94, .if_icmp .ge 64, 3), (97, .ldc2_w 274, 3), (100, .iload 9, 2), (102, .i2l, 1), (103, .lmul, 1), (104, .iload 9, 2), (106, .i2l, 1), (107, .lmul, 1), (108, .lload 5, 2), (110, .lmul, 1), (111, .ldc2_w 276, 3), (114, .iload 9, 2), (116, .i2l, 1), (117, .lmul, 1), (118, .lload 7, 2), (120, .lmul, 1), (121, .lsub, 1), (122, .lstore 10, 2), (124, .lload 10, 2), (126, .aload_n 0, 1), (127, .getfield 278, 3)] : List (Nat × Instr × Nat)).all (fun x => decide (decode cX12_tryLag x.1 = .ok x.2)) = true := by decide +kernel
theorem dX12_tryLag_66 : decode cX12_tryLag 66 = .ok (.iload_n 1, 1) := mm_dk kX12_tryLag_1 0 rfl
theorem dX12_tryLag_67 : decode cX12_tryLag 67 = .ok (.imul, 1) := mm_dk kX12_tryLag_1 1 rfl
theorem dX12_tryLag_68 : decode cX12_tryLag 68 = .ok (.iload_n 3, 1) := mm_dk kX12_tryLag_1 2 rfl
theorem dX12_tryLag_69 : decode cX12_tryLag 69 = .ok (.iload_n 2, 1) := mm_dk kX12_tryLag_1 3 rfl
theorem dX12_tryLag_70 : decode cX12_tryLag 70 = .ok (.imul, 1) := mm_dk kX12_tryLag_1 4 rfl
theorem dX12_tryLag_71 : decode cX12_tryLag 71 = .ok (.iadd, 1) := mm_dk kX12_tryLag_1 5 rfl
theorem dX12_tryLag_72 : decode cX12_tryLag 72 = .ok (.iload 9, 2) := mm_dk kX12_tryLag_1 6 rfl
theorem dX12_tryLag_74 : decode cX12_tryLag 74 = .ok (.iadd, 1) := mm_dk kX12_tryLag_1 7 rfl
theorem dX12_tryLag_75 : decode cX12_tryLag 75 = .ok (.iaload, 1) := mm_dk kX12_tryLag_1 8 rfl
theorem dX12_tryLag_76 : decode cX12_tryLag 76 = .ok (.i2l, 1) := mm_dk kX12_tryLag_1 9 rfl
theorem dX12_tryLag_77 : decode cX12_tryLag 77 = .ok (.lmul, 1) := mm_dk kX12_tryLag_1 10 rfl
theorem dX12_tryLag_78 : decode cX12_tryLag 78 = .ok (.ladd, 1) := mm_dk kX12_tryLag_1 11 rfl
theorem dX12_tryLag_79 : decode cX12_tryLag 79 = .ok (.lstore 7, 2) := mm_dk kX12_tryLag_1 12 rfl
theorem dX12_tryLag_81 : decode cX12_tryLag 81 = .ok (.iinc 9 1, 3) := mm_dk kX12_tryLag_1 13 rfl
theorem dX12_tryLag_84 : decode cX12_tryLag 84 = .ok (.goto (-75), 3) := mm_dk kX12_tryLag_1 14 rfl
theorem dX12_tryLag_87 : decode cX12_tryLag 87 = .ok (.iconst 0, 1) := mm_dk kX12_tryLag_1 15 rfl
theorem dX12_tryLag_88 : decode cX12_tryLag 88 = .ok (.istore 9, 2) := mm_dk kX12_tryLag_1 16 rfl
theorem dX12_tryLag_90 : decode cX12_tryLag 90 = .ok (.iload 9, 2) := mm_dk kX12_tryLag_1 17 rfl
theorem dX12_tryLag_92 : decode cX12_tryLag 92 = .ok (.bipush 8, 2) := mm_dk kX12_tryLag_1 18 rfl
theorem dX12_tryLag_94 : decode cX12_tryLag 94 = .ok (.if_icmp .ge 64, 3) := mm_dk kX12_tryLag_1 19 rfl
theorem dX12_tryLag_97 : decode cX12_tryLag 97 = .ok (.ldc2_w 274, 3) := mm_dk kX12_tryLag_1 20 rfl
theorem dX12_tryLag_100 : decode cX12_tryLag 100 = .ok (.iload 9, 2) := mm_dk kX12_tryLag_1 21 rfl
theorem dX12_tryLag_102 : decode cX12_tryLag 102 = .ok (.i2l, 1) := mm_dk kX12_tryLag_1 22 rfl
theorem dX12_tryLag_103 : decode cX12_tryLag 103 = .ok (.lmul, 1) := mm_dk kX12_tryLag_1 23 rfl
theorem dX12_tryLag_104 : decode cX12_tryLag 104 = .ok (.iload 9, 2) := mm_dk kX12_tryLag_1 24 rfl
theorem dX12_tryLag_106 : decode cX12_tryLag 106 = .ok (.i2l, 1) := mm_dk kX12_tryLag_1 25 rfl
theorem dX12_tryLag_107 : decode cX12_tryLag 107 = .ok (.lmul, 1) := mm_dk kX12_tryLag_1 26 rfl
theorem dX12_tryLag_108 : decode cX12_tryLag 108 = .ok (.lload 5, 2) := mm_dk kX12_tryLag_1 27 rfl
theorem dX12_tryLag_110 : decode cX12_tryLag 110 = .ok (.lmul, 1) := mm_dk kX12_tryLag_1 28 rfl
theorem dX12_tryLag_111 : decode cX12_tryLag 111 = .ok (.ldc2_w 276, 3) := mm_dk kX12_tryLag_1 29 rfl
theorem dX12_tryLag_114 : decode cX12_tryLag 114 = .ok (.iload 9, 2) := mm_dk kX12_tryLag_1 30 rfl
theorem dX12_tryLag_116 : decode cX12_tryLag 116 = .ok (.i2l, 1) := mm_dk kX12_tryLag_1 31 rfl
theorem dX12_tryLag_117 : decode cX12_tryLag 117 = .ok (.lmul, 1) := mm_dk kX12_tryLag_1 32 rfl
theorem dX12_tryLag_118 : decode cX12_tryLag 118 = .ok (.lload 7, 2) := mm_dk kX12_tryLag_1 33 rfl
theorem dX12_tryLag_120 : decode cX12_tryLag 120 = .ok (.lmul, 1) := mm_dk kX12_tryLag_1 34 rfl
theorem dX12_tryLag_121 : decode cX12_tryLag 121 = .ok (.lsub, 1) := mm_dk kX12_tryLag_1 35 rfl
theorem dX12_tryLag_122 : decode cX12_tryLag 122 = .ok (.lstore 10, 2) := mm_dk kX12_tryLag_1 36 rfl
theorem dX12_tryLag_124 : decode cX12_tryLag 124 = .ok (.lload 10, 2) := mm_dk kX12_tryLag_1 37 rfl
theorem dX12_tryLag_126 : decode cX12_tryLag 126 = .ok (.aload_n 0, 1) := mm_dk kX12_tryLag_1 38 rfl
theorem dX12_tryLag_127 : decode cX12_tryLag 127 = .ok (.getfield 278, 3) := mm_dk kX12_tryLag_1 39 rfl
set_option maxRecDepth 100000 in
theorem kX12_tryLag_2 : ([(130, .lcmp, 1), (131, .ifCond .ge 21, 3), (134, .aload_n 0, 1), (135, .lload 10, 2), (137, .putfield 278, 3), (140, .aload_n 0, 1), (141, .iload 4, 2), (143, .putfield 281, 3), (146, .aload_n 0, 1), (147, .iload 9, 2), (149, .putfield 284, 3), (152, .iinc 9 1, 3), (155, .goto (-65), 3), (158, .return_, 1)] : List (Nat × Instr × Nat)).all (fun x => decide (decode cX12_tryLag x.1 = .ok x.2)) = true := by decide +kernel
theorem dX12_tryLag_130 : decode cX12_tryLag 130 = .ok (.lcmp, 1) := mm_dk kX12_tryLag_2 0 rfl
theorem dX12_tryLag_131 : decode cX12_tryLag 131 = .ok (.ifCond .ge 21, 3) := mm_dk kX12_tryLag_2 1 rfl
theorem dX12_tryLag_134 : decode cX12_tryLag 134 = .ok (.aload_n 0, 1) := mm_dk kX12_tryLag_2 2 rfl
theorem dX12_tryLag_135 : decode cX12_tryLag 135 = .ok (.lload 10, 2) := mm_dk kX12_tryLag_2 3 rfl
theorem dX12_tryLag_137 : decode cX12_tryLag 137 = .ok (.putfield 278, 3) := mm_dk kX12_tryLag_2 4 rfl
theorem dX12_tryLag_140 : decode cX12_tryLag 140 = .ok (.aload_n 0, 1) := mm_dk kX12_tryLag_2 5 rfl
theorem dX12_tryLag_141 : decode cX12_tryLag 141 = .ok (.iload 4, 2) := mm_dk kX12_tryLag_2 6 rfl
theorem dX12_tryLag_143 : decode cX12_tryLag 143 = .ok (.putfield 281, 3) := mm_dk kX12_tryLag_2 7 rfl
theorem dX12_tryLag_146 : decode cX12_tryLag 146 = .ok (.aload_n 0, 1) := mm_dk kX12_tryLag_2 8 rfl
theorem dX12_tryLag_147 : decode cX12_tryLag 147 = .ok (.iload 9, 2) := mm_dk kX12_tryLag_2 9 rfl
theorem dX12_tryLag_149 : decode cX12_tryLag 149 = .ok (.putfield 284, 3) := mm_dk kX12_tryLag_2 10 rfl
theorem dX12_tryLag_152 : decode cX12_tryLag 152 = .ok (.iinc 9 1, 3) := mm_dk kX12_tryLag_2 11 rfl
theorem dX12_tryLag_155 : decode cX12_tryLag 155 = .ok (.goto (-65), 3) := mm_dk kX12_tryLag_2 12 rfl
theorem dX12_tryLag_158 : decode cX12_tryLag 158 = .ok (.return_, 1) := mm_dk kX12_tryLag_2 13 rfl
set_option maxRecDepth 100000 in
theorem kX12_pitch_0 : ([(0, .aload_n 0, 1), (1, .ldc2_w 287, 3), (4, .putfield 278, 3), (7, .bipush 20, 2), (9, .istore 5, 2), (11, .iload 5, 2), (13, .sipush 148, 3), (16, .if_icmp .ge 30, 3), (19, .aload_n 0, 1), (20, .iload_n 1, 1), (21, .iload_n 2, 1), (22, .iload_n 3, 1), (23, .iload 5, 2), (25, .invokevirtual 289, 3), (28, .iload 5, 2), (30, .iload 4, 2), (32, .ifCond .eq 7, 3), (35, .iconst 1, 1), (36, .goto 4, 3), (39, .iconst 4, 1), (40, .iadd, 1), (41, .istore 5, 2), (43, .goto (-32), 3), (46, .iload 4, 2), (48, .ifCond .ne 59, 3), (51, .aload_n 0, 1), (52, .getfield 281, 3), (55, .istore 5, 2), (57, .aload_n 0, 1), (58, .ldc2_w 287, 3), (61, .putfield 278, 3), (64, .iload 5, 2), (66, .iconst 3, 1), (67, .isub, 1), (68, .istore 6, 2), (70, .iload 6, 2), (72, .iload 5, 2), (74, .iconst 3, 1), (75, .iadd, 1), (76, .if_icmp .gt 31, 3)] : List (Nat × Instr × Nat)).all (fun x => decide (decode cX12_pitch x.1 = .ok x.2)) = true := by decide +kernel
theorem dX12_pitch_0 : decode cX12_pitch 0 = .ok (.aload_n 0, 1) := mm_dk kX12_pitch_0 0 rfl
theorem dX12_pitch_1 : decode cX12_pitch 1 = .ok (.ldc2_w 287, 3) := mm_dk kX12_pitch_0 1 rfl
theorem dX12_pitch_4 : decode cX12_pitch 4 = .ok (.putfield 278, 3) := mm_dk kX12_pitch_0 2 rfl
theorem dX12_pitch_7 : decode cX12_pitch 7 = .ok (.bipush 20, 2) := mm_dk kX12_pitch_0 3 rfl
theorem dX12_pitch_9 : decode cX12_pitch 9 = .ok (.istore 5, 2) := mm_dk kX12_pitch_0 4 rfl
theorem dX12_pitch_11 : decode cX12_pitch 11 = .ok (.iload 5, 2) := mm_dk kX12_pitch_0 5 rfl
theorem dX12_pitch_13 : decode cX12_pitch 13 = .ok (.sipush 148, 3) := mm_dk kX12_pitch_0 6 rfl
theorem dX12_pitch_16 : decode cX12_pitch 16 = .ok (.if_icmp .ge 30, 3) := mm_dk kX12_pitch_0 7 rfl
theorem dX12_pitch_19 : decode cX12_pitch 19 = .ok (.aload_n 0, 1) := mm_dk kX12_pitch_0 8 rfl
theorem dX12_pitch_20 : decode cX12_pitch 20 = .ok (.iload_n 1, 1) := mm_dk kX12_pitch_0 9 rfl
theorem dX12_pitch_21 : decode cX12_pitch 21 = .ok (.iload_n 2, 1) := mm_dk kX12_pitch_0 10 rfl
theorem dX12_pitch_22 : decode cX12_pitch 22 = .ok (.iload_n 3, 1) := mm_dk kX12_pitch_0 11 rfl
theorem dX12_pitch_23 : decode cX12_pitch 23 = .ok (.iload 5, 2) := mm_dk kX12_pitch_0 12 rfl
theorem dX12_pitch_25 : decode cX12_pitch 25 = .ok (.invokevirtual 289, 3) := mm_dk kX12_pitch_0 13 rfl
theorem dX12_pitch_28 : decode cX12_pitch 28 = .ok (.iload 5, 2) := mm_dk kX12_pitch_0 14 rfl
theorem dX12_pitch_30 : decode cX12_pitch 30 = .ok (.iload 4, 2) := mm_dk kX12_pitch_0 15 rfl
theorem dX12_pitch_32 : decode cX12_pitch 32 = .ok (.ifCond .eq 7, 3) := mm_dk kX12_pitch_0 16 rfl
theorem dX12_pitch_35 : decode cX12_pitch 35 = .ok (.iconst 1, 1) := mm_dk kX12_pitch_0 17 rfl
theorem dX12_pitch_36 : decode cX12_pitch 36 = .ok (.goto 4, 3) := mm_dk kX12_pitch_0 18 rfl
theorem dX12_pitch_39 : decode cX12_pitch 39 = .ok (.iconst 4, 1) := mm_dk kX12_pitch_0 19 rfl
theorem dX12_pitch_40 : decode cX12_pitch 40 = .ok (.iadd, 1) := mm_dk kX12_pitch_0 20 rfl
theorem dX12_pitch_41 : decode cX12_pitch 41 = .ok (.istore 5, 2) := mm_dk kX12_pitch_0 21 rfl
theorem dX12_pitch_43 : decode cX12_pitch 43 = .ok (.goto (-32), 3) := mm_dk kX12_pitch_0 22 rfl
theorem dX12_pitch_46 : decode cX12_pitch 46 = .ok (.iload 4, 2) := mm_dk kX12_pitch_0 23 rfl
theorem dX12_pitch_48 : decode cX12_pitch 48 = .ok (.ifCond .ne 59, 3) := mm_dk kX12_pitch_0 24 rfl
theorem dX12_pitch_51 : decode cX12_pitch 51 = .ok (.aload_n 0, 1) := mm_dk kX12_pitch_0 25 rfl
theorem dX12_pitch_52 : decode cX12_pitch 52 = .ok (.getfield 281, 3) := mm_dk kX12_pitch_0 26 rfl
theorem dX12_pitch_55 : decode cX12_pitch 55 = .ok (.istore 5, 2) := mm_dk kX12_pitch_0 27 rfl
theorem dX12_pitch_57 : decode cX12_pitch 57 = .ok (.aload_n 0, 1) := mm_dk kX12_pitch_0 28 rfl
theorem dX12_pitch_58 : decode cX12_pitch 58 = .ok (.ldc2_w 287, 3) := mm_dk kX12_pitch_0 29 rfl
theorem dX12_pitch_61 : decode cX12_pitch 61 = .ok (.putfield 278, 3) := mm_dk kX12_pitch_0 30 rfl
theorem dX12_pitch_64 : decode cX12_pitch 64 = .ok (.iload 5, 2) := mm_dk kX12_pitch_0 31 rfl
theorem dX12_pitch_66 : decode cX12_pitch 66 = .ok (.iconst 3, 1) := mm_dk kX12_pitch_0 32 rfl
theorem dX12_pitch_67 : decode cX12_pitch 67 = .ok (.isub, 1) := mm_dk kX12_pitch_0 33 rfl
theorem dX12_pitch_68 : decode cX12_pitch 68 = .ok (.istore 6, 2) := mm_dk kX12_pitch_0 34 rfl
theorem dX12_pitch_70 : decode cX12_pitch 70 = .ok (.iload 6, 2) := mm_dk kX12_pitch_0 35 rfl
theorem dX12_pitch_72 : decode cX12_pitch 72 = .ok (.iload 5, 2) := mm_dk kX12_pitch_0 36 rfl
theorem dX12_pitch_74 : decode cX12_pitch 74 = .ok (.iconst 3, 1) := mm_dk kX12_pitch_0 37 rfl
theorem dX12_pitch_75 : decode cX12_pitch 75 = .ok (.iadd, 1) := mm_dk kX12_pitch_0 38 rfl
theorem dX12_pitch_76 : decode cX12_pitch 76 = .ok (.if_icmp .gt 31, 3) := mm_dk kX12_pitch_0 39 rfl
set_option maxRecDepth 100000 in
theorem kX12_pitch_1 : ([(79, .iload 6, 2), (81, .bipush 20, 2), (83, .sipush 147, 3), (86, .invokestatic 227, 3), (89, .ifCond .eq 12, 3), (92, .aload_n 0, 1), (93, .iload_n 1, 1), (94, .iload_n 2, 1), (95, .iload_n 3, 1), (96, .iload 6, 2), (98, .invokevirtual 289, 3), (101, .iinc 6 1, 3), (104, .goto (-34), 3), (107, .aload_n 0, 1), (108, .getfield 278, 3), (111, .lconst 0, 1), (112, .lcmp, 1), (113, .ifCond .ne 14, 3), (116, .aload_n 0, 1), (117, .bipush 20, 2), (119, .putfield 281, 3), (122, .aload_n 0, 1), (123, .iconst 0, 1), (124, .putfield 284, 3), (127, .return_, 1)] : List (Nat × Instr × Nat)).all (fun x => decide (decode cX12_pitch x.1 = .ok x.2)) = true := by decide +kernel
theorem dX12_pitch_79 : decode cX12_pitch 79 = .ok (.iload 6, 2) := mm_dk kX12_pitch_1 0 rfl
theorem dX12_pitch_81 : decode cX12_pitch 81 = .ok (.bipush 20, 2) := mm_dk kX12_pitch_1 1 rfl
theorem dX12_pitch_83 : decode cX12_pitch 83 = .ok (.sipush 147, 3) := mm_dk kX12_pitch_1 2 rfl
theorem dX12_pitch_86 : decode cX12_pitch 86 = .ok (.invokestatic 227, 3) := mm_dk kX12_pitch_1 3 rfl
theorem dX12_pitch_89 : decode cX12_pitch 89 = .ok (.ifCond .eq 12, 3) := mm_dk kX12_pitch_1 4 rfl
theorem dX12_pitch_92 : decode cX12_pitch 92 = .ok (.aload_n 0, 1) := mm_dk kX12_pitch_1 5 rfl
theorem dX12_pitch_93 : decode cX12_pitch 93 = .ok (.iload_n 1, 1) := mm_dk kX12_pitch_1 6 rfl
theorem dX12_pitch_94 : decode cX12_pitch 94 = .ok (.iload_n 2, 1) := mm_dk kX12_pitch_1 7 rfl
theorem dX12_pitch_95 : decode cX12_pitch 95 = .ok (.iload_n 3, 1) := mm_dk kX12_pitch_1 8 rfl
theorem dX12_pitch_96 : decode cX12_pitch 96 = .ok (.iload 6, 2) := mm_dk kX12_pitch_1 9 rfl
theorem dX12_pitch_98 : decode cX12_pitch 98 = .ok (.invokevirtual 289, 3) := mm_dk kX12_pitch_1 10 rfl
theorem dX12_pitch_101 : decode cX12_pitch 101 = .ok (.iinc 6 1, 3) := mm_dk kX12_pitch_1 11 rfl
theorem dX12_pitch_104 : decode cX12_pitch 104 = .ok (.goto (-34), 3) := mm_dk kX12_pitch_1 12 rfl
theorem dX12_pitch_107 : decode cX12_pitch 107 = .ok (.aload_n 0, 1) := mm_dk kX12_pitch_1 13 rfl
theorem dX12_pitch_108 : decode cX12_pitch 108 = .ok (.getfield 278, 3) := mm_dk kX12_pitch_1 14 rfl
theorem dX12_pitch_111 : decode cX12_pitch 111 = .ok (.lconst 0, 1) := mm_dk kX12_pitch_1 15 rfl
theorem dX12_pitch_112 : decode cX12_pitch 112 = .ok (.lcmp, 1) := mm_dk kX12_pitch_1 16 rfl
theorem dX12_pitch_113 : decode cX12_pitch 113 = .ok (.ifCond .ne 14, 3) := mm_dk kX12_pitch_1 17 rfl
theorem dX12_pitch_116 : decode cX12_pitch 116 = .ok (.aload_n 0, 1) := mm_dk kX12_pitch_1 18 rfl
theorem dX12_pitch_117 : decode cX12_pitch 117 = .ok (.bipush 20, 2) := mm_dk kX12_pitch_1 19 rfl
theorem dX12_pitch_119 : decode cX12_pitch 119 = .ok (.putfield 281, 3) := mm_dk kX12_pitch_1 20 rfl
theorem dX12_pitch_122 : decode cX12_pitch 122 = .ok (.aload_n 0, 1) := mm_dk kX12_pitch_1 21 rfl
theorem dX12_pitch_123 : decode cX12_pitch 123 = .ok (.iconst 0, 1) := mm_dk kX12_pitch_1 22 rfl
theorem dX12_pitch_124 : decode cX12_pitch 124 = .ok (.putfield 284, 3) := mm_dk kX12_pitch_1 23 rfl
theorem dX12_pitch_127 : decode cX12_pitch 127 = .ok (.return_, 1) := mm_dk kX12_pitch_1 24 rfl
set_option maxRecDepth 100000 in
theorem kX12_pulse_0 : ([(0, .iload_n 0, 1), (1, .ifCond .ne 8, 3), (4, .bipush 32, 2), (6, .goto 24, 3), (9, .iload_n 0, 1), (10, .iconst 1, 1), (11, .if_icmp .ne 8, 3), (14, .bipush 16, 2), (16, .goto 14, 3), (19, .iload_n 0, 1), (20, .iconst 2, 1), (21, .if_icmp .ne 8, 3), (24, .bipush (-8), 2), (26, .goto 4, 3), (29, .iconst 0, 1), (30, .ireturn, 1)] : List (Nat × Instr × Nat)).all (fun x => decide (decode cX12_pulse x.1 = .ok x.2)) = true := by decide +kernel
theorem dX12_pulse_0 : decode cX12_pulse 0 = .ok (.iload_n 0, 1) := mm_dk kX12_pulse_0 0 rfl
theorem dX12_pulse_1 : decode cX12_pulse 1 = .ok (.ifCond .ne 8, 3) := mm_dk kX12_pulse_0 1 rfl
theorem dX12_pulse_4 : decode cX12_pulse 4 = .ok (.bipush 32, 2) := mm_dk kX12_pulse_0 2 rfl
theorem dX12_pulse_6 : decode cX12_pulse 6 = .ok (.goto 24, 3) := mm_dk kX12_pulse_0 3 rfl
theorem dX12_pulse_9 : decode cX12_pulse 9 = .ok (.iload_n 0, 1) := mm_dk kX12_pulse_0 4 rfl
theorem dX12_pulse_10 : decode cX12_pulse 10 = .ok (.iconst 1, 1) := mm_dk kX12_pulse_0 5 rfl
theorem dX12_pulse_11 : decode cX12_pulse 11 = .ok (.if_icmp .ne 8, 3) := mm_dk kX12_pulse_0 6 rfl
theorem dX12_pulse_14 : decode cX12_pulse 14 = .ok (.bipush 16, 2) := mm_dk kX12_pulse_0 7 rfl
theorem dX12_pulse_16 : decode cX12_pulse 16 = .ok (.goto 14, 3) := mm_dk kX12_pulse_0 8 rfl
theorem dX12_pulse_19 : decode cX12_pulse 19 = .ok (.iload_n 0, 1) := mm_dk kX12_pulse_0 9 rfl
theorem dX12_pulse_20 : decode cX12_pulse 20 = .ok (.iconst 2, 1) := mm_dk kX12_pulse_0 10 rfl
theorem dX12_pulse_21 : decode cX12_pulse 21 = .ok (.if_icmp .ne 8, 3) := mm_dk kX12_pulse_0 11 rfl
theorem dX12_pulse_24 : decode cX12_pulse 24 = .ok (.bipush (-8), 2) := mm_dk kX12_pulse_0 12 rfl
theorem dX12_pulse_26 : decode cX12_pulse 26 = .ok (.goto 4, 3) := mm_dk kX12_pulse_0 13 rfl
theorem dX12_pulse_29 : decode cX12_pulse 29 = .ok (.iconst 0, 1) := mm_dk kX12_pulse_0 14 rfl
theorem dX12_pulse_30 : decode cX12_pulse 30 = .ok (.ireturn, 1) := mm_dk kX12_pulse_0 15 rfl
set_option maxRecDepth 100000 in
theorem kX12_gain_0 : ([(0, .iconst 4, 1), (1, .iload_n 0, 1), (2, .iconst 4, 1), (3, .irem, 1), (4, .iadd, 1), (5, .iload_n 0, 1), (6, .iconst 4, 1), (7, .idiv, 1), (8, .ishl, 1), (9, .ireturn, 1)] : List (Nat × Instr × Nat)).all (fun x => decide (decode cX12_gain x.1 = .ok x.2)) = true := by decide +kernel
theorem dX12_gain_0 : decode cX12_gain 0 = .ok (.iconst 4, 1) := mm_dk kX12_gain_0 0 rfl
theorem dX12_gain_1 : decode cX12_gain 1 = .ok (.iload_n 0, 1) := mm_dk kX12_gain_0 1 rfl
theorem dX12_gain_2 : decode cX12_gain 2 = .ok (.iconst 4, 1) := mm_dk kX12_gain_0 2 rfl
theorem dX12_gain_3 : decode cX12_gain 3 = .ok (.irem, 1) := mm_dk kX12_gain_0 3 rfl
theorem dX12_gain_4 : decode cX12_gain 4 = .ok (.iadd, 1) := mm_dk kX12_gain_0 4 rfl
theorem dX12_gain_5 : decode cX12_gain 5 = .ok (.iload_n 0, 1) := mm_dk kX12_gain_0 5 rfl
theorem dX12_gain_6 : decode cX12_gain 6 = .ok (.iconst 4, 1) := mm_dk kX12_gain_0 6 rfl
theorem dX12_gain_7 : decode cX12_gain 7 = .ok (.idiv, 1) := mm_dk kX12_gain_0 7 rfl
theorem dX12_gain_8 : decode cX12_gain 8 = .ok (.ishl, 1) := mm_dk kX12_gain_0 8 rfl
theorem dX12_gain_9 : decode cX12_gain 9 = .ok (.ireturn, 1) := mm_dk kX12_gain_0 9 rfl
set_option maxRecDepth 100000 in
theorem kX12_shared_0 : ([(0, .lconst 0, 1), (1, .lstore_n 3, 1), (2, .iload_n 0, 1), (3, .iload_n 1, 1), (4, .if_icmp .le 7, 3), (7, .iload_n 0, 1), (8, .goto 4, 3), (11, .iload_n 1, 1), (12, .istore 5, 2), (14, .iload 5, 2), (16, .iload_n 2, 1), (17, .if_icmp .ge 44, 3), (20, .iload 5, 2), (22, .iload_n 0, 1), (23, .iconst 3, 1), (24, .iadd, 1), (25, .if_icmp .ge 36, 3), (28, .iload 5, 2), (30, .iload_n 1, 1), (31, .iconst 3, 1), (32, .iadd, 1), (33, .if_icmp .ge 28, 3), (36, .lload_n 3, 1), (37, .iload 5, 2), (39, .iload_n 0, 1), (40, .isub, 1), (41, .invokestatic 293, 3), (44, .iload 5, 2), (46, .iload_n 1, 1), (47, .isub, 1), (48, .invokestatic 293, 3), (51, .imul, 1), (52, .i2l, 1), (53, .ladd, 1), (54, .lstore_n 3, 1), (55, .iinc 5 1, 3), (58, .goto (-44), 3), (61, .lload_n 3, 1), (62, .lreturn, 1)] : List (Nat × Instr × Nat)).all (fun x => decide (decode cX12_shared x.1 = .ok x.2)) = true := by decide +kernel
theorem dX12_shared_0 : decode cX12_shared 0 = .ok (.lconst 0, 1) := mm_dk kX12_shared_0 0 rfl
theorem dX12_shared_1 : decode cX12_shared 1 = .ok (.lstore_n 3, 1) := mm_dk kX12_shared_0 1 rfl
theorem dX12_shared_2 : decode cX12_shared 2 = .ok (.iload_n 0, 1) := mm_dk kX12_shared_0 2 rfl
theorem dX12_shared_3 : decode cX12_shared 3 = .ok (.iload_n 1, 1) := mm_dk kX12_shared_0 3 rfl
theorem dX12_shared_4 : decode cX12_shared 4 = .ok (.if_icmp .le 7, 3) := mm_dk kX12_shared_0 4 rfl
theorem dX12_shared_7 : decode cX12_shared 7 = .ok (.iload_n 0, 1) := mm_dk kX12_shared_0 5 rfl
theorem dX12_shared_8 : decode cX12_shared 8 = .ok (.goto 4, 3) := mm_dk kX12_shared_0 6 rfl
theorem dX12_shared_11 : decode cX12_shared 11 = .ok (.iload_n 1, 1) := mm_dk kX12_shared_0 7 rfl
theorem dX12_shared_12 : decode cX12_shared 12 = .ok (.istore 5, 2) := mm_dk kX12_shared_0 8 rfl
theorem dX12_shared_14 : decode cX12_shared 14 = .ok (.iload 5, 2) := mm_dk kX12_shared_0 9 rfl
theorem dX12_shared_16 : decode cX12_shared 16 = .ok (.iload_n 2, 1) := mm_dk kX12_shared_0 10 rfl
theorem dX12_shared_17 : decode cX12_shared 17 = .ok (.if_icmp .ge 44, 3) := mm_dk kX12_shared_0 11 rfl
theorem dX12_shared_20 : decode cX12_shared 20 = .ok (.iload 5, 2) := mm_dk kX12_shared_0 12 rfl
theorem dX12_shared_22 : decode cX12_shared 22 = .ok (.iload_n 0, 1) := mm_dk kX12_shared_0 13 rfl
theorem dX12_shared_23 : decode cX12_shared 23 = .ok (.iconst 3, 1) := mm_dk kX12_shared_0 14 rfl
theorem dX12_shared_24 : decode cX12_shared 24 = .ok (.iadd, 1) := mm_dk kX12_shared_0 15 rfl
theorem dX12_shared_25 : decode cX12_shared 25 = .ok (.if_icmp .ge 36, 3) := mm_dk kX12_shared_0 16 rfl
theorem dX12_shared_28 : decode cX12_shared 28 = .ok (.iload 5, 2) := mm_dk kX12_shared_0 17 rfl
theorem dX12_shared_30 : decode cX12_shared 30 = .ok (.iload_n 1, 1) := mm_dk kX12_shared_0 18 rfl
theorem dX12_shared_31 : decode cX12_shared 31 = .ok (.iconst 3, 1) := mm_dk kX12_shared_0 19 rfl
theorem dX12_shared_32 : decode cX12_shared 32 = .ok (.iadd, 1) := mm_dk kX12_shared_0 20 rfl
theorem dX12_shared_33 : decode cX12_shared 33 = .ok (.if_icmp .ge 28, 3) := mm_dk kX12_shared_0 21 rfl
theorem dX12_shared_36 : decode cX12_shared 36 = .ok (.lload_n 3, 1) := mm_dk kX12_shared_0 22 rfl
theorem dX12_shared_37 : decode cX12_shared 37 = .ok (.iload 5, 2) := mm_dk kX12_shared_0 23 rfl
theorem dX12_shared_39 : decode cX12_shared 39 = .ok (.iload_n 0, 1) := mm_dk kX12_shared_0 24 rfl
theorem dX12_shared_40 : decode cX12_shared 40 = .ok (.isub, 1) := mm_dk kX12_shared_0 25 rfl
theorem dX12_shared_41 : decode cX12_shared 41 = .ok (.invokestatic 293, 3) := mm_dk kX12_shared_0 26 rfl
theorem dX12_shared_44 : decode cX12_shared 44 = .ok (.iload 5, 2) := mm_dk kX12_shared_0 27 rfl
theorem dX12_shared_46 : decode cX12_shared 46 = .ok (.iload_n 1, 1) := mm_dk kX12_shared_0 28 rfl
theorem dX12_shared_47 : decode cX12_shared 47 = .ok (.isub, 1) := mm_dk kX12_shared_0 29 rfl
theorem dX12_shared_48 : decode cX12_shared 48 = .ok (.invokestatic 293, 3) := mm_dk kX12_shared_0 30 rfl
theorem dX12_shared_51 : decode cX12_shared 51 = .ok (.imul, 1) := mm_dk kX12_shared_0 31 rfl
theorem dX12_shared_52 : decode cX12_shared 52 = .ok (.i2l, 1) := mm_dk kX12_shared_0 32 rfl
theorem dX12_shared_53 : decode cX12_shared 53 = .ok (.ladd, 1) := mm_dk kX12_shared_0 33 rfl
theorem dX12_shared_54 : decode cX12_shared 54 = .ok (.lstore_n 3, 1) := mm_dk kX12_shared_0 34 rfl
theorem dX12_shared_55 : decode cX12_shared 55 = .ok (.iinc 5 1, 3) := mm_dk kX12_shared_0 35 rfl
theorem dX12_shared_58 : decode cX12_shared 58 = .ok (.goto (-44), 3) := mm_dk kX12_shared_0 36 rfl
theorem dX12_shared_61 : decode cX12_shared 61 = .ok (.lload_n 3, 1) := mm_dk kX12_shared_0 37 rfl
theorem dX12_shared_62 : decode cX12_shared 62 = .ok (.lreturn, 1) := mm_dk kX12_shared_0 38 rfl
set_option maxRecDepth 100000 in
theorem kX12_tryGains_0 : ([(0, .iconst 0, 1), (1, .istore 5, 2), (3, .iconst 1, 1), (4, .istore 6, 2), (6, .ldc2_w 287, 3), (9, .lstore 7, 2), (11, .iconst 0, 1), (12, .istore 9, 2), (14, .iload 9, 2), (16, .bipush 52, 2), (18, .if_icmp .ge 84, 3), (21, .iload 6, 2), (23, .ifCond .eq 79, 3), (26, .iload 9, 2), (28, .invokestatic 296, 3), (31, .i2l, 1), (32, .lstore 10, 2), (34, .lload 10, 2), (36, .lload 10, 2), (38, .lmul, 1), (39, .lload_n 1, 1), (40, .lmul, 1), (41, .ldc2_w 299, 3), (44, .lload 10, 2), (46, .lmul, 1), (47, .lload_n 3, 1), (48, .lmul, 1), (49, .lsub, 1), (50, .lstore 12, 2), (52, .lload 12, 2), (54, .aload_n 0, 1), (55, .getfield 278, 3), (58, .lcmp, 1), (59, .ifCond .ge 18, 3), (62, .aload_n 0, 1), (63, .lload 12, 2), (65, .putfield 278, 3), (68, .aload_n 0, 1), (69, .iload 9, 2), (71, .putfield 301, 3)] : List (Nat × Instr × Nat)).all (fun x => decide (decode cX12_tryGains x.1 = .ok x.2)) = true := by decide +kernel
theorem dX12_tryGains_0 : decode cX12_tryGains 0 = .ok (.iconst 0, 1) := mm_dk kX12_tryGains_0 0 rfl
theorem dX12_tryGains_1 : decode cX12_tryGains 1 = .ok (.istore 5, 2) := mm_dk kX12_tryGains_0 1 rfl
theorem dX12_tryGains_3 : decode cX12_tryGains 3 = .ok (.iconst 1, 1) := mm_dk kX12_tryGains_0 2 rfl
theorem dX12_tryGains_4 : decode cX12_tryGains 4 = .ok (.istore 6, 2) := mm_dk kX12_tryGains_0 3 rfl
theorem dX12_tryGains_6 : decode cX12_tryGains 6 = .ok (.ldc2_w 287, 3) := mm_dk kX12_tryGains_0 4 rfl
theorem dX12_tryGains_9 : decode cX12_tryGains 9 = .ok (.lstore 7, 2) := mm_dk kX12_tryGains_0 5 rfl
theorem dX12_tryGains_11 : decode cX12_tryGains 11 = .ok (.iconst 0, 1) := mm_dk kX12_tryGains_0 6 rfl
theorem dX12_tryGains_12 : decode cX12_tryGains 12 = .ok (.istore 9, 2) := mm_dk kX12_tryGains_0 7 rfl
theorem dX12_tryGains_14 : decode cX12_tryGains 14 = .ok (.iload 9, 2) := mm_dk kX12_tryGains_0 8 rfl
theorem dX12_tryGains_16 : decode cX12_tryGains 16 = .ok (.bipush 52, 2) := mm_dk kX12_tryGains_0 9 rfl
theorem dX12_tryGains_18 : decode cX12_tryGains 18 = .ok (.if_icmp .ge 84, 3) := mm_dk kX12_tryGains_0 10 rfl
theorem dX12_tryGains_21 : decode cX12_tryGains 21 = .ok (.iload 6, 2) := mm_dk kX12_tryGains_0 11 rfl
theorem dX12_tryGains_23 : decode cX12_tryGains 23 = .ok (.ifCond .eq 79, 3) := mm_dk kX12_tryGains_0 12 rfl
theorem dX12_tryGains_26 : decode cX12_tryGains 26 = .ok (.iload 9, 2) := mm_dk kX12_tryGains_0 13 rfl
theorem dX12_tryGains_28 : decode cX12_tryGains 28 = .ok (.invokestatic 296, 3) := mm_dk kX12_tryGains_0 14 rfl
theorem dX12_tryGains_31 : decode cX12_tryGains 31 = .ok (.i2l, 1) := mm_dk kX12_tryGains_0 15 rfl
theorem dX12_tryGains_32 : decode cX12_tryGains 32 = .ok (.lstore 10, 2) := mm_dk kX12_tryGains_0 16 rfl
theorem dX12_tryGains_34 : decode cX12_tryGains 34 = .ok (.lload 10, 2) := mm_dk kX12_tryGains_0 17 rfl
theorem dX12_tryGains_36 : decode cX12_tryGains 36 = .ok (.lload 10, 2) := mm_dk kX12_tryGains_0 18 rfl
theorem dX12_tryGains_38 : decode cX12_tryGains 38 = .ok (.lmul, 1) := mm_dk kX12_tryGains_0 19 rfl
theorem dX12_tryGains_39 : decode cX12_tryGains 39 = .ok (.lload_n 1, 1) := mm_dk kX12_tryGains_0 20 rfl
theorem dX12_tryGains_40 : decode cX12_tryGains 40 = .ok (.lmul, 1) := mm_dk kX12_tryGains_0 21 rfl
theorem dX12_tryGains_41 : decode cX12_tryGains 41 = .ok (.ldc2_w 299, 3) := mm_dk kX12_tryGains_0 22 rfl
theorem dX12_tryGains_44 : decode cX12_tryGains 44 = .ok (.lload 10, 2) := mm_dk kX12_tryGains_0 23 rfl
theorem dX12_tryGains_46 : decode cX12_tryGains 46 = .ok (.lmul, 1) := mm_dk kX12_tryGains_0 24 rfl
theorem dX12_tryGains_47 : decode cX12_tryGains 47 = .ok (.lload_n 3, 1) := mm_dk kX12_tryGains_0 25 rfl
theorem dX12_tryGains_48 : decode cX12_tryGains 48 = .ok (.lmul, 1) := mm_dk kX12_tryGains_0 26 rfl
theorem dX12_tryGains_49 : decode cX12_tryGains 49 = .ok (.lsub, 1) := mm_dk kX12_tryGains_0 27 rfl
theorem dX12_tryGains_50 : decode cX12_tryGains 50 = .ok (.lstore 12, 2) := mm_dk kX12_tryGains_0 28 rfl
theorem dX12_tryGains_52 : decode cX12_tryGains 52 = .ok (.lload 12, 2) := mm_dk kX12_tryGains_0 29 rfl
theorem dX12_tryGains_54 : decode cX12_tryGains 54 = .ok (.aload_n 0, 1) := mm_dk kX12_tryGains_0 30 rfl
theorem dX12_tryGains_55 : decode cX12_tryGains 55 = .ok (.getfield 278, 3) := mm_dk kX12_tryGains_0 31 rfl
theorem dX12_tryGains_58 : decode cX12_tryGains 58 = .ok (.lcmp, 1) := mm_dk kX12_tryGains_0 32 rfl
theorem dX12_tryGains_59 : decode cX12_tryGains 59 = .ok (.ifCond .ge 18, 3) := mm_dk kX12_tryGains_0 33 rfl
theorem dX12_tryGains_62 : decode cX12_tryGains 62 = .ok (.aload_n 0, 1) := mm_dk kX12_tryGains_0 34 rfl
theorem dX12_tryGains_63 : decode cX12_tryGains 63 = .ok (.lload 12, 2) := mm_dk kX12_tryGains_0 35 rfl
theorem dX12_tryGains_65 : decode cX12_tryGains 65 = .ok (.putfield 278, 3) := mm_dk kX12_tryGains_0 36 rfl
theorem dX12_tryGains_68 : decode cX12_tryGains 68 = .ok (.aload_n 0, 1) := mm_dk kX12_tryGains_0 37 rfl
theorem dX12_tryGains_69 : decode cX12_tryGains 69 = .ok (.iload 9, 2) := mm_dk kX12_tryGains_0 38 rfl
theorem dX12_tryGains_71 : decode cX12_tryGains 71 = .ok (.putfield 301, 3) := mm_dk kX12_tryGains_0 39 rfl
set_option maxRecDepth 100000 in
theorem kX12_tryGains_1 : ([(74, .iconst 1, 1), (75, .istore 5, 2), (77, .lload 12, 2), (79, .lload 7, 2), (81, .lcmp, 1), (82, .ifCond .gt 7, 3), (85, .iconst 1, 1), (86, .goto 4, 3), (89, .iconst 0, 1), (90, .istore 6, 2), (92, .lload 12, 2), (94, .lstore 7, 2), (96, .iinc 9 1, 3), (99, .goto (-85), 3), (102, .iload 5, 2), (104, .ireturn, 1)] : List (Nat × Instr × Nat)).all (fun x => decide (decode cX12_tryGains x.1 = .ok x.2)) = true := by decide +kernel
theorem dX12_tryGains_74 : decode cX12_tryGains 74 = .ok (.iconst 1, 1) := mm_dk kX12_tryGains_1 0 rfl
theorem dX12_tryGains_75 : decode cX12_tryGains 75 = .ok (.istore 5, 2) := mm_dk kX12_tryGains_1 1 rfl
theorem dX12_tryGains_77 : decode cX12_tryGains 77 = .ok (.lload 12, 2) := mm_dk kX12_tryGains_1 2 rfl
theorem dX12_tryGains_79 : decode cX12_tryGains 79 = .ok (.lload 7, 2) := mm_dk kX12_tryGains_1 3 rfl
theorem dX12_tryGains_81 : decode cX12_tryGains 81 = .ok (.lcmp, 1) := mm_dk kX12_tryGains_1 4 rfl
theorem dX12_tryGains_82 : decode cX12_tryGains 82 = .ok (.ifCond .gt 7, 3) := mm_dk kX12_tryGains_1 5 rfl
theorem dX12_tryGains_85 : decode cX12_tryGains 85 = .ok (.iconst 1, 1) := mm_dk kX12_tryGains_1 6 rfl
theorem dX12_tryGains_86 : decode cX12_tryGains 86 = .ok (.goto 4, 3) := mm_dk kX12_tryGains_1 7 rfl
theorem dX12_tryGains_89 : decode cX12_tryGains 89 = .ok (.iconst 0, 1) := mm_dk kX12_tryGains_1 8 rfl
theorem dX12_tryGains_90 : decode cX12_tryGains 90 = .ok (.istore 6, 2) := mm_dk kX12_tryGains_1 9 rfl
theorem dX12_tryGains_92 : decode cX12_tryGains 92 = .ok (.lload 12, 2) := mm_dk kX12_tryGains_1 10 rfl
theorem dX12_tryGains_94 : decode cX12_tryGains 94 = .ok (.lstore 7, 2) := mm_dk kX12_tryGains_1 11 rfl
theorem dX12_tryGains_96 : decode cX12_tryGains 96 = .ok (.iinc 9 1, 3) := mm_dk kX12_tryGains_1 12 rfl
theorem dX12_tryGains_99 : decode cX12_tryGains 99 = .ok (.goto (-85), 3) := mm_dk kX12_tryGains_1 13 rfl
theorem dX12_tryGains_102 : decode cX12_tryGains 102 = .ok (.iload 5, 2) := mm_dk kX12_tryGains_1 14 rfl
theorem dX12_tryGains_104 : decode cX12_tryGains 104 = .ok (.ireturn, 1) := mm_dk kX12_tryGains_1 15 rfl
set_option maxRecDepth 100000 in
theorem kX12_tryPair_0 : ([(0, .iload_n 2, 1), (1, .iload 4, 2), (3, .if_icmp .ne 7, 3), (6, .lconst 1, 1), (7, .goto 6, 3), (10, .ldc2_w 304, 3), (13, .lstore 6, 2), (15, .aload_n 0, 1), (16, .getfield 187, 3), (19, .iload_n 1, 1), (20, .laload, 1), (21, .aload_n 0, 1), (22, .getfield 187, 3), (25, .iload_n 3, 1), (26, .laload, 1), (27, .ladd, 1), (28, .ldc2_w 306, 3), (31, .lload 6, 2), (33, .lmul, 1), (34, .iload_n 1, 1), (35, .iload_n 3, 1), (36, .iload 5, 2), (38, .invokestatic 308, 3), (41, .lmul, 1), (42, .ladd, 1), (43, .lstore 8, 2), (45, .iload_n 2, 1), (46, .ifCond .ne 12, 3), (49, .aload_n 0, 1), (50, .getfield 190, 3), (53, .iload_n 1, 1), (54, .laload, 1), (55, .goto 10, 3), (58, .aload_n 0, 1), (59, .getfield 190, 3), (62, .iload_n 1, 1), (63, .laload, 1), (64, .lneg, 1), (65, .iload 4, 2), (67, .ifCond .ne 12, 3)] : List (Nat × Instr × Nat)).all (fun x => decide (decode cX12_tryPair x.1 = .ok x.2)) = true := by decide +kernel
theorem dX12_tryPair_0 : decode cX12_tryPair 0 = .ok (.iload_n 2, 1) := mm_dk kX12_tryPair_0 0 rfl
theorem dX12_tryPair_1 : decode cX12_tryPair 1 = .ok (.iload 4, 2) := mm_dk kX12_tryPair_0 1 rfl
theorem dX12_tryPair_3 : decode cX12_tryPair 3 = .ok (.if_icmp .ne 7, 3) := mm_dk kX12_tryPair_0 2 rfl
theorem dX12_tryPair_6 : decode cX12_tryPair 6 = .ok (.lconst 1, 1) := mm_dk kX12_tryPair_0 3 rfl
theorem dX12_tryPair_7 : decode cX12_tryPair 7 = .ok (.goto 6, 3) := mm_dk kX12_tryPair_0 4 rfl
theorem dX12_tryPair_10 : decode cX12_tryPair 10 = .ok (.ldc2_w 304, 3) := mm_dk kX12_tryPair_0 5 rfl
theorem dX12_tryPair_13 : decode cX12_tryPair 13 = .ok (.lstore 6, 2) := mm_dk kX12_tryPair_0 6 rfl
theorem dX12_tryPair_15 : decode cX12_tryPair 15 = .ok (.aload_n 0, 1) := mm_dk kX12_tryPair_0 7 rfl
theorem dX12_tryPair_16 : decode cX12_tryPair 16 = .ok (.getfield 187, 3) := mm_dk kX12_tryPair_0 8 rfl
theorem dX12_tryPair_19 : decode cX12_tryPair 19 = .ok (.iload_n 1, 1) := mm_dk kX12_tryPair_0 9 rfl
theorem dX12_tryPair_20 : decode cX12_tryPair 20 = .ok (.laload, 1) := mm_dk kX12_tryPair_0 10 rfl
theorem dX12_tryPair_21 : decode cX12_tryPair 21 = .ok (.aload_n 0, 1) := mm_dk kX12_tryPair_0 11 rfl
theorem dX12_tryPair_22 : decode cX12_tryPair 22 = .ok (.getfield 187, 3) := mm_dk kX12_tryPair_0 12 rfl
theorem dX12_tryPair_25 : decode cX12_tryPair 25 = .ok (.iload_n 3, 1) := mm_dk kX12_tryPair_0 13 rfl
theorem dX12_tryPair_26 : decode cX12_tryPair 26 = .ok (.laload, 1) := mm_dk kX12_tryPair_0 14 rfl
theorem dX12_tryPair_27 : decode cX12_tryPair 27 = .ok (.ladd, 1) := mm_dk kX12_tryPair_0 15 rfl
theorem dX12_tryPair_28 : decode cX12_tryPair 28 = .ok (.ldc2_w 306, 3) := mm_dk kX12_tryPair_0 16 rfl
theorem dX12_tryPair_31 : decode cX12_tryPair 31 = .ok (.lload 6, 2) := mm_dk kX12_tryPair_0 17 rfl
theorem dX12_tryPair_33 : decode cX12_tryPair 33 = .ok (.lmul, 1) := mm_dk kX12_tryPair_0 18 rfl
theorem dX12_tryPair_34 : decode cX12_tryPair 34 = .ok (.iload_n 1, 1) := mm_dk kX12_tryPair_0 19 rfl
theorem dX12_tryPair_35 : decode cX12_tryPair 35 = .ok (.iload_n 3, 1) := mm_dk kX12_tryPair_0 20 rfl
theorem dX12_tryPair_36 : decode cX12_tryPair 36 = .ok (.iload 5, 2) := mm_dk kX12_tryPair_0 21 rfl
theorem dX12_tryPair_38 : decode cX12_tryPair 38 = .ok (.invokestatic 308, 3) := mm_dk kX12_tryPair_0 22 rfl
theorem dX12_tryPair_41 : decode cX12_tryPair 41 = .ok (.lmul, 1) := mm_dk kX12_tryPair_0 23 rfl
theorem dX12_tryPair_42 : decode cX12_tryPair 42 = .ok (.ladd, 1) := mm_dk kX12_tryPair_0 24 rfl
theorem dX12_tryPair_43 : decode cX12_tryPair 43 = .ok (.lstore 8, 2) := mm_dk kX12_tryPair_0 25 rfl
theorem dX12_tryPair_45 : decode cX12_tryPair 45 = .ok (.iload_n 2, 1) := mm_dk kX12_tryPair_0 26 rfl
theorem dX12_tryPair_46 : decode cX12_tryPair 46 = .ok (.ifCond .ne 12, 3) := mm_dk kX12_tryPair_0 27 rfl
theorem dX12_tryPair_49 : decode cX12_tryPair 49 = .ok (.aload_n 0, 1) := mm_dk kX12_tryPair_0 28 rfl
theorem dX12_tryPair_50 : decode cX12_tryPair 50 = .ok (.getfield 190, 3) := mm_dk kX12_tryPair_0 29 rfl
theorem dX12_tryPair_53 : decode cX12_tryPair 53 = .ok (.iload_n 1, 1) := mm_dk kX12_tryPair_0 30 rfl
theorem dX12_tryPair_54 : decode cX12_tryPair 54 = .ok (.laload, 1) := mm_dk kX12_tryPair_0 31 rfl
theorem dX12_tryPair_55 : decode cX12_tryPair 55 = .ok (.goto 10, 3) := mm_dk kX12_tryPair_0 32 rfl
theorem dX12_tryPair_58 : decode cX12_tryPair 58 = .ok (.aload_n 0, 1) := mm_dk kX12_tryPair_0 33 rfl
theorem dX12_tryPair_59 : decode cX12_tryPair 59 = .ok (.getfield 190, 3) := mm_dk kX12_tryPair_0 34 rfl
theorem dX12_tryPair_62 : decode cX12_tryPair 62 = .ok (.iload_n 1, 1) := mm_dk kX12_tryPair_0 35 rfl
theorem dX12_tryPair_63 : decode cX12_tryPair 63 = .ok (.laload, 1) := mm_dk kX12_tryPair_0 36 rfl
theorem dX12_tryPair_64 : decode cX12_tryPair 64 = .ok (.lneg, 1) := mm_dk kX12_tryPair_0 37 rfl
theorem dX12_tryPair_65 : decode cX12_tryPair 65 = .ok (.iload 4, 2) := mm_dk kX12_tryPair_0 38 rfl
theorem dX12_tryPair_67 : decode cX12_tryPair 67 = .ok (.ifCond .ne 12, 3) := mm_dk kX12_tryPair_0 39 rfl
set_option maxRecDepth 100000 in
theorem kX12_tryPair_1 : ([(70, .aload_n 0, 1), (71, .getfield 190, 3), (74, .iload_n 3, 1), (75, .laload, 1), (76, .goto 10, 3), (79, .aload_n 0, 1), (80, .getfield 190, 3), (83, .iload_n 3, 1), (84, .laload, 1), (85, .lneg, 1), (86, .ladd, 1), (87, .lstore 10, 2), (89, .aload_n 0, 1), (90, .lload 8, 2), (92, .lload 10, 2), (94, .invokevirtual 312, 3), (97, .ireturn, 1)] : List (Nat × Instr × Nat)).all (fun x => decide (decode cX12_tryPair x.1 = .ok x.2)) = true := by decide +kernel
theorem dX12_tryPair_70 : decode cX12_tryPair 70 = .ok (.aload_n 0, 1) := mm_dk kX12_tryPair_1 0 rfl
theorem dX12_tryPair_71 : decode cX12_tryPair 71 = .ok (.getfield 190, 3) := mm_dk kX12_tryPair_1 1 rfl
theorem dX12_tryPair_74 : decode cX12_tryPair 74 = .ok (.iload_n 3, 1) := mm_dk kX12_tryPair_1 2 rfl
theorem dX12_tryPair_75 : decode cX12_tryPair 75 = .ok (.laload, 1) := mm_dk kX12_tryPair_1 3 rfl
theorem dX12_tryPair_76 : decode cX12_tryPair 76 = .ok (.goto 10, 3) := mm_dk kX12_tryPair_1 4 rfl
theorem dX12_tryPair_79 : decode cX12_tryPair 79 = .ok (.aload_n 0, 1) := mm_dk kX12_tryPair_1 5 rfl
theorem dX12_tryPair_80 : decode cX12_tryPair 80 = .ok (.getfield 190, 3) := mm_dk kX12_tryPair_1 6 rfl
theorem dX12_tryPair_83 : decode cX12_tryPair 83 = .ok (.iload_n 3, 1) := mm_dk kX12_tryPair_1 7 rfl
theorem dX12_tryPair_84 : decode cX12_tryPair 84 = .ok (.laload, 1) := mm_dk kX12_tryPair_1 8 rfl
theorem dX12_tryPair_85 : decode cX12_tryPair 85 = .ok (.lneg, 1) := mm_dk kX12_tryPair_1 9 rfl
theorem dX12_tryPair_86 : decode cX12_tryPair 86 = .ok (.ladd, 1) := mm_dk kX12_tryPair_1 10 rfl
theorem dX12_tryPair_87 : decode cX12_tryPair 87 = .ok (.lstore 10, 2) := mm_dk kX12_tryPair_1 11 rfl
theorem dX12_tryPair_89 : decode cX12_tryPair 89 = .ok (.aload_n 0, 1) := mm_dk kX12_tryPair_1 12 rfl
theorem dX12_tryPair_90 : decode cX12_tryPair 90 = .ok (.lload 8, 2) := mm_dk kX12_tryPair_1 13 rfl
theorem dX12_tryPair_92 : decode cX12_tryPair 92 = .ok (.lload 10, 2) := mm_dk kX12_tryPair_1 14 rfl
theorem dX12_tryPair_94 : decode cX12_tryPair 94 = .ok (.invokevirtual 312, 3) := mm_dk kX12_tryPair_1 15 rfl
theorem dX12_tryPair_97 : decode cX12_tryPair 97 = .ok (.ireturn, 1) := mm_dk kX12_tryPair_1 16 rfl
set_option maxRecDepth 100000 in
theorem kX12_pulses_0 : ([(0, .iconst 0, 1), (1, .istore 7, 2), (3, .iload 7, 2), (5, .iload_n 3, 1), (6, .if_icmp .ge 72, 3), (9, .aload_n 0, 1), (10, .getfield 90, 3), (13, .sipush 160, 3), (16, .iconst 4, 1), (17, .iload_n 1, 1), (18, .imul, 1), (19, .iload_n 2, 1), (20, .iadd, 1), (21, .imul, 1), (22, .sipush 160, 3), (25, .iadd, 1), (26, .iload 4, 2), (28, .isub, 1), (29, .iload 7, 2), (31, .iload 4, 2), (33, .irem, 1), (34, .iadd, 1), (35, .iaload, 1), (36, .istore 8, 2), (38, .aload_n 0, 1), (39, .getfield 178, 3), (42, .iload 7, 2), (44, .aload_n 0, 1), (45, .getfield 87, 3), (48, .sipush 320, 3), (51, .iload_n 1, 1), (52, .imul, 1), (53, .iload_n 3, 1), (54, .iload_n 2, 1), (55, .imul, 1), (56, .iadd, 1), (57, .iload 7, 2), (59, .iadd, 1), (60, .iaload, 1), (61, .iconst 5, 1)] : List (Nat × Instr × Nat)).all (fun x => decide (decode cX12_pulses x.1 = .ok x.2)) = true := by decide +kernel
theorem dX12_pulses_0 : decode cX12_pulses 0 = .ok (.iconst 0, 1) := mm_dk kX12_pulses_0 0 rfl
theorem dX12_pulses_1 : decode cX12_pulses 1 = .ok (.istore 7, 2) := mm_dk kX12_pulses_0 1 rfl
theorem dX12_pulses_3 : decode cX12_pulses 3 = .ok (.iload 7, 2) := mm_dk kX12_pulses_0 2 rfl
theorem dX12_pulses_5 : decode cX12_pulses 5 = .ok (.iload_n 3, 1) := mm_dk kX12_pulses_0 3 rfl
theorem dX12_pulses_6 : decode cX12_pulses 6 = .ok (.if_icmp .ge 72, 3) := mm_dk kX12_pulses_0 4 rfl
theorem dX12_pulses_9 : decode cX12_pulses 9 = .ok (.aload_n 0, 1) := mm_dk kX12_pulses_0 5 rfl
theorem dX12_pulses_10 : decode cX12_pulses 10 = .ok (.getfield 90, 3) := mm_dk kX12_pulses_0 6 rfl
theorem dX12_pulses_13 : decode cX12_pulses 13 = .ok (.sipush 160, 3) := mm_dk kX12_pulses_0 7 rfl
theorem dX12_pulses_16 : decode cX12_pulses 16 = .ok (.iconst 4, 1) := mm_dk kX12_pulses_0 8 rfl
theorem dX12_pulses_17 : decode cX12_pulses 17 = .ok (.iload_n 1, 1) := mm_dk kX12_pulses_0 9 rfl
theorem dX12_pulses_18 : decode cX12_pulses 18 = .ok (.imul, 1) := mm_dk kX12_pulses_0 10 rfl
theorem dX12_pulses_19 : decode cX12_pulses 19 = .ok (.iload_n 2, 1) := mm_dk kX12_pulses_0 11 rfl
theorem dX12_pulses_20 : decode cX12_pulses 20 = .ok (.iadd, 1) := mm_dk kX12_pulses_0 12 rfl
theorem dX12_pulses_21 : decode cX12_pulses 21 = .ok (.imul, 1) := mm_dk kX12_pulses_0 13 rfl
theorem dX12_pulses_22 : decode cX12_pulses 22 = .ok (.sipush 160, 3) := mm_dk kX12_pulses_0 14 rfl
theorem dX12_pulses_25 : decode cX12_pulses 25 = .ok (.iadd, 1) := mm_dk kX12_pulses_0 15 rfl
theorem dX12_pulses_26 : decode cX12_pulses 26 = .ok (.iload 4, 2) := mm_dk kX12_pulses_0 16 rfl
theorem dX12_pulses_28 : decode cX12_pulses 28 = .ok (.isub, 1) := mm_dk kX12_pulses_0 17 rfl
theorem dX12_pulses_29 : decode cX12_pulses 29 = .ok (.iload 7, 2) := mm_dk kX12_pulses_0 18 rfl
theorem dX12_pulses_31 : decode cX12_pulses 31 = .ok (.iload 4, 2) := mm_dk kX12_pulses_0 19 rfl
theorem dX12_pulses_33 : decode cX12_pulses 33 = .ok (.irem, 1) := mm_dk kX12_pulses_0 20 rfl
theorem dX12_pulses_34 : decode cX12_pulses 34 = .ok (.iadd, 1) := mm_dk kX12_pulses_0 21 rfl
theorem dX12_pulses_35 : decode cX12_pulses 35 = .ok (.iaload, 1) := mm_dk kX12_pulses_0 22 rfl
theorem dX12_pulses_36 : decode cX12_pulses 36 = .ok (.istore 8, 2) := mm_dk kX12_pulses_0 23 rfl
theorem dX12_pulses_38 : decode cX12_pulses 38 = .ok (.aload_n 0, 1) := mm_dk kX12_pulses_0 24 rfl
theorem dX12_pulses_39 : decode cX12_pulses 39 = .ok (.getfield 178, 3) := mm_dk kX12_pulses_0 25 rfl
theorem dX12_pulses_42 : decode cX12_pulses 42 = .ok (.iload 7, 2) := mm_dk kX12_pulses_0 26 rfl
theorem dX12_pulses_44 : decode cX12_pulses 44 = .ok (.aload_n 0, 1) := mm_dk kX12_pulses_0 27 rfl
theorem dX12_pulses_45 : decode cX12_pulses 45 = .ok (.getfield 87, 3) := mm_dk kX12_pulses_0 28 rfl
theorem dX12_pulses_48 : decode cX12_pulses 48 = .ok (.sipush 320, 3) := mm_dk kX12_pulses_0 29 rfl
theorem dX12_pulses_51 : decode cX12_pulses 51 = .ok (.iload_n 1, 1) := mm_dk kX12_pulses_0 30 rfl
theorem dX12_pulses_52 : decode cX12_pulses 52 = .ok (.imul, 1) := mm_dk kX12_pulses_0 31 rfl
theorem dX12_pulses_53 : decode cX12_pulses 53 = .ok (.iload_n 3, 1) := mm_dk kX12_pulses_0 32 rfl
theorem dX12_pulses_54 : decode cX12_pulses 54 = .ok (.iload_n 2, 1) := mm_dk kX12_pulses_0 33 rfl
theorem dX12_pulses_55 : decode cX12_pulses 55 = .ok (.imul, 1) := mm_dk kX12_pulses_0 34 rfl
theorem dX12_pulses_56 : decode cX12_pulses 56 = .ok (.iadd, 1) := mm_dk kX12_pulses_0 35 rfl
theorem dX12_pulses_57 : decode cX12_pulses 57 = .ok (.iload 7, 2) := mm_dk kX12_pulses_0 36 rfl
theorem dX12_pulses_59 : decode cX12_pulses 59 = .ok (.iadd, 1) := mm_dk kX12_pulses_0 37 rfl
theorem dX12_pulses_60 : decode cX12_pulses 60 = .ok (.iaload, 1) := mm_dk kX12_pulses_0 38 rfl
theorem dX12_pulses_61 : decode cX12_pulses 61 = .ok (.iconst 5, 1) := mm_dk kX12_pulses_0 39 rfl
set_option maxRecDepth 100000 in
theorem kX12_pulses_1 : ([(62, .iload 5, 2), (64, .imul, 1), (65, .iload 8, 2), (67, .imul, 1), (68, .iconst 5, 1), (69, .ishr, 1), (70, .isub, 1), (71, .iastore, 1), (72, .iinc 7 1, 3), (75, .goto (-72), 3), (78, .iconst 0, 1), (79, .istore 7, 2), (81, .iload 7, 2), (83, .iload_n 3, 1), (84, .if_icmp .ge 99, 3), (87, .aload_n 0, 1), (88, .getfield 187, 3), (91, .iload 7, 2), (93, .lconst 0, 1), (94, .lastore, 1), (95, .aload_n 0, 1), (96, .getfield 190, 3), (99, .iload 7, 2), (101, .lconst 0, 1), (102, .lastore, 1), (103, .iconst 0, 1), (104, .istore 8, 2), (106, .iload 8, 2), (108, .iconst 3, 1), (109, .if_icmp .ge 68, 3), (112, .iload 7, 2), (114, .iload 8, 2), (116, .iadd, 1), (117, .iload_n 3, 1), (118, .if_icmp .ge 59, 3), (121, .aload_n 0, 1), (122, .getfield 187, 3), (125, .iload 7, 2), (127, .dup2, 1), (128, .laload, 1)] : List (Nat × Instr × Nat)).all (fun x => decide (decode cX12_pulses x.1 = .ok x.2)) = true := by decide +kernel
theorem dX12_pulses_62 : decode cX12_pulses 62 = .ok (.iload 5, 2) := mm_dk kX12_pulses_1 0 rfl
theorem dX12_pulses_64 : decode cX12_pulses 64 = .ok (.imul, 1) := mm_dk kX12_pulses_1 1 rfl
theorem dX12_pulses_65 : decode cX12_pulses 65 = .ok (.iload 8, 2) := mm_dk kX12_pulses_1 2 rfl
theorem dX12_pulses_67 : decode cX12_pulses 67 = .ok (.imul, 1) := mm_dk kX12_pulses_1 3 rfl
theorem dX12_pulses_68 : decode cX12_pulses 68 = .ok (.iconst 5, 1) := mm_dk kX12_pulses_1 4 rfl
theorem dX12_pulses_69 : decode cX12_pulses 69 = .ok (.ishr, 1) := mm_dk kX12_pulses_1 5 rfl
theorem dX12_pulses_70 : decode cX12_pulses 70 = .ok (.isub, 1) := mm_dk kX12_pulses_1 6 rfl
theorem dX12_pulses_71 : decode cX12_pulses 71 = .ok (.iastore, 1) := mm_dk kX12_pulses_1 7 rfl
theorem dX12_pulses_72 : decode cX12_pulses 72 = .ok (.iinc 7 1, 3) := mm_dk kX12_pulses_1 8 rfl
theorem dX12_pulses_75 : decode cX12_pulses 75 = .ok (.goto (-72), 3) := mm_dk kX12_pulses_1 9 rfl
theorem dX12_pulses_78 : decode cX12_pulses 78 = .ok (.iconst 0, 1) := mm_dk kX12_pulses_1 10 rfl
theorem dX12_pulses_79 : decode cX12_pulses 79 = .ok (.istore 7, 2) := mm_dk kX12_pulses_1 11 rfl
theorem dX12_pulses_81 : decode cX12_pulses 81 = .ok (.iload 7, 2) := mm_dk kX12_pulses_1 12 rfl
theorem dX12_pulses_83 : decode cX12_pulses 83 = .ok (.iload_n 3, 1) := mm_dk kX12_pulses_1 13 rfl
theorem dX12_pulses_84 : decode cX12_pulses 84 = .ok (.if_icmp .ge 99, 3) := mm_dk kX12_pulses_1 14 rfl
theorem dX12_pulses_87 : decode cX12_pulses 87 = .ok (.aload_n 0, 1) := mm_dk kX12_pulses_1 15 rfl
theorem dX12_pulses_88 : decode cX12_pulses 88 = .ok (.getfield 187, 3) := mm_dk kX12_pulses_1 16 rfl
theorem dX12_pulses_91 : decode cX12_pulses 91 = .ok (.iload 7, 2) := mm_dk kX12_pulses_1 17 rfl
theorem dX12_pulses_93 : decode cX12_pulses 93 = .ok (.lconst 0, 1) := mm_dk kX12_pulses_1 18 rfl
theorem dX12_pulses_94 : decode cX12_pulses 94 = .ok (.lastore, 1) := mm_dk kX12_pulses_1 19 rfl
theorem dX12_pulses_95 : decode cX12_pulses 95 = .ok (.aload_n 0, 1) := mm_dk kX12_pulses_1 20 rfl
theorem dX12_pulses_96 : decode cX12_pulses 96 = .ok (.getfield 190, 3) := mm_dk kX12_pulses_1 21 rfl
theorem dX12_pulses_99 : decode cX12_pulses 99 = .ok (.iload 7, 2) := mm_dk kX12_pulses_1 22 rfl
theorem dX12_pulses_101 : decode cX12_pulses 101 = .ok (.lconst 0, 1) := mm_dk kX12_pulses_1 23 rfl
theorem dX12_pulses_102 : decode cX12_pulses 102 = .ok (.lastore, 1) := mm_dk kX12_pulses_1 24 rfl
theorem dX12_pulses_103 : decode cX12_pulses 103 = .ok (.iconst 0, 1) := mm_dk kX12_pulses_1 25 rfl
theorem dX12_pulses_104 : decode cX12_pulses 104 = .ok (.istore 8, 2) := mm_dk kX12_pulses_1 26 rfl
theorem dX12_pulses_106 : decode cX12_pulses 106 = .ok (.iload 8, 2) := mm_dk kX12_pulses_1 27 rfl
theorem dX12_pulses_108 : decode cX12_pulses 108 = .ok (.iconst 3, 1) := mm_dk kX12_pulses_1 28 rfl
theorem dX12_pulses_109 : decode cX12_pulses 109 = .ok (.if_icmp .ge 68, 3) := mm_dk kX12_pulses_1 29 rfl
theorem dX12_pulses_112 : decode cX12_pulses 112 = .ok (.iload 7, 2) := mm_dk kX12_pulses_1 30 rfl
theorem dX12_pulses_114 : decode cX12_pulses 114 = .ok (.iload 8, 2) := mm_dk kX12_pulses_1 31 rfl
theorem dX12_pulses_116 : decode cX12_pulses 116 = .ok (.iadd, 1) := mm_dk kX12_pulses_1 32 rfl
theorem dX12_pulses_117 : decode cX12_pulses 117 = .ok (.iload_n 3, 1) := mm_dk kX12_pulses_1 33 rfl
theorem dX12_pulses_118 : decode cX12_pulses 118 = .ok (.if_icmp .ge 59, 3) := mm_dk kX12_pulses_1 34 rfl
theorem dX12_pulses_121 : decode cX12_pulses 121 = .ok (.aload_n 0, 1) := mm_dk kX12_pulses_1 35 rfl
theorem dX12_pulses_122 : decode cX12_pulses 122 = .ok (.getfield 187, 3) := mm_dk kX12_pulses_1 36 rfl
theorem dX12_pulses_125 : decode cX12_pulses 125 = .ok (.iload 7, 2) := mm_dk kX12_pulses_1 37 rfl
theorem dX12_pulses_127 : decode cX12_pulses 127 = .ok (.dup2, 1) := mm_dk kX12_pulses_1 38 rfl
theorem dX12_pulses_128 : decode cX12_pulses 128 = .ok (.laload, 1) := mm_dk kX12_pulses_1 39 rfl
set_option maxRecDepth 100000 in
theorem kX12_pulses_2 : ([(129, .iload 8, 2), (131, .invokestatic 293, 3), (134, .iload 8, 2), (136, .invokestatic 293, 3), (139, .imul, 1), (140, .i2l, 1), (141, .ladd, 1), (142, .lastore, 1), (143, .aload_n 0, 1), (144, .getfield 190, 3), (147, .iload 7, 2), (149, .dup2, 1), (150, .laload, 1), (151, .iload 8, 2), (153, .invokestatic 293, 3), (156, .i2l, 1), (157, .aload_n 0, 1), (158, .getfield 178, 3), (161, .iload 7, 2), (163, .iload 8, 2), (165, .iadd, 1), (166, .iaload, 1), (167, .i2l, 1), (168, .lmul, 1), (169, .ladd, 1), (170, .lastore, 1), (171, .iinc 8 1, 3), (174, .goto (-68), 3), (177, .iinc 7 1, 3), (180, .goto (-99), 3), (183, .aload_n 0, 1), (184, .ldc2_w 287, 3), (187, .putfield 278, 3), (190, .iload 6, 2), (192, .ifCond .eq 104, 3), (195, .iconst 0, 1), (196, .istore 7, 2), (198, .iload 7, 2), (200, .iload_n 3, 1), (201, .if_icmp .ge 94, 3)] : List (Nat × Instr × Nat)).all (fun x => decide (decode cX12_pulses x.1 = .ok x.2)) = true := by decide +kernel
theorem dX12_pulses_129 : decode cX12_pulses 129 = .ok (.iload 8, 2) := mm_dk kX12_pulses_2 0 rfl
theorem dX12_pulses_131 : decode cX12_pulses 131 = .ok (.invokestatic 293, 3) := mm_dk kX12_pulses_2 1 rfl
theorem dX12_pulses_134 : decode cX12_pulses 134 = .ok (.iload 8, 2) := mm_dk kX12_pulses_2 2 rfl
theorem dX12_pulses_136 : decode cX12_pulses 136 = .ok (.invokestatic 293, 3) := mm_dk kX12_pulses_2 3 rfl
theorem dX12_pulses_139 : decode cX12_pulses 139 = .ok (.imul, 1) := mm_dk kX12_pulses_2 4 rfl
theorem dX12_pulses_140 : decode cX12_pulses 140 = .ok (.i2l, 1) := mm_dk kX12_pulses_2 5 rfl
theorem dX12_pulses_141 : decode cX12_pulses 141 = .ok (.ladd, 1) := mm_dk kX12_pulses_2 6 rfl
theorem dX12_pulses_142 : decode cX12_pulses 142 = .ok (.lastore, 1) := mm_dk kX12_pulses_2 7 rfl
theorem dX12_pulses_143 : decode cX12_pulses 143 = .ok (.aload_n 0, 1) := mm_dk kX12_pulses_2 8 rfl
theorem dX12_pulses_144 : decode cX12_pulses 144 = .ok (.getfield 190, 3) := mm_dk kX12_pulses_2 9 rfl
theorem dX12_pulses_147 : decode cX12_pulses 147 = .ok (.iload 7, 2) := mm_dk kX12_pulses_2 10 rfl
theorem dX12_pulses_149 : decode cX12_pulses 149 = .ok (.dup2, 1) := mm_dk kX12_pulses_2 11 rfl
theorem dX12_pulses_150 : decode cX12_pulses 150 = .ok (.laload, 1) := mm_dk kX12_pulses_2 12 rfl
theorem dX12_pulses_151 : decode cX12_pulses 151 = .ok (.iload 8, 2) := mm_dk kX12_pulses_2 13 rfl
theorem dX12_pulses_153 : decode cX12_pulses 153 = .ok (.invokestatic 293, 3) := mm_dk kX12_pulses_2 14 rfl
theorem dX12_pulses_156 : decode cX12_pulses 156 = .ok (.i2l, 1) := mm_dk kX12_pulses_2 15 rfl
theorem dX12_pulses_157 : decode cX12_pulses 157 = .ok (.aload_n 0, 1) := mm_dk kX12_pulses_2 16 rfl
theorem dX12_pulses_158 : decode cX12_pulses 158 = .ok (.getfield 178, 3) := mm_dk kX12_pulses_2 17 rfl
theorem dX12_pulses_161 : decode cX12_pulses 161 = .ok (.iload 7, 2) := mm_dk kX12_pulses_2 18 rfl
theorem dX12_pulses_163 : decode cX12_pulses 163 = .ok (.iload 8, 2) := mm_dk kX12_pulses_2 19 rfl
theorem dX12_pulses_165 : decode cX12_pulses 165 = .ok (.iadd, 1) := mm_dk kX12_pulses_2 20 rfl
theorem dX12_pulses_166 : decode cX12_pulses 166 = .ok (.iaload, 1) := mm_dk kX12_pulses_2 21 rfl
theorem dX12_pulses_167 : decode cX12_pulses 167 = .ok (.i2l, 1) := mm_dk kX12_pulses_2 22 rfl
theorem dX12_pulses_168 : decode cX12_pulses 168 = .ok (.lmul, 1) := mm_dk kX12_pulses_2 23 rfl
theorem dX12_pulses_169 : decode cX12_pulses 169 = .ok (.ladd, 1) := mm_dk kX12_pulses_2 24 rfl
theorem dX12_pulses_170 : decode cX12_pulses 170 = .ok (.lastore, 1) := mm_dk kX12_pulses_2 25 rfl
theorem dX12_pulses_171 : decode cX12_pulses 171 = .ok (.iinc 8 1, 3) := mm_dk kX12_pulses_2 26 rfl
theorem dX12_pulses_174 : decode cX12_pulses 174 = .ok (.goto (-68), 3) := mm_dk kX12_pulses_2 27 rfl
theorem dX12_pulses_177 : decode cX12_pulses 177 = .ok (.iinc 7 1, 3) := mm_dk kX12_pulses_2 28 rfl
theorem dX12_pulses_180 : decode cX12_pulses 180 = .ok (.goto (-99), 3) := mm_dk kX12_pulses_2 29 rfl
theorem dX12_pulses_183 : decode cX12_pulses 183 = .ok (.aload_n 0, 1) := mm_dk kX12_pulses_2 30 rfl
theorem dX12_pulses_184 : decode cX12_pulses 184 = .ok (.ldc2_w 287, 3) := mm_dk kX12_pulses_2 31 rfl
theorem dX12_pulses_187 : decode cX12_pulses 187 = .ok (.putfield 278, 3) := mm_dk kX12_pulses_2 32 rfl
theorem dX12_pulses_190 : decode cX12_pulses 190 = .ok (.iload 6, 2) := mm_dk kX12_pulses_2 33 rfl
theorem dX12_pulses_192 : decode cX12_pulses 192 = .ok (.ifCond .eq 104, 3) := mm_dk kX12_pulses_2 34 rfl
theorem dX12_pulses_195 : decode cX12_pulses 195 = .ok (.iconst 0, 1) := mm_dk kX12_pulses_2 35 rfl
theorem dX12_pulses_196 : decode cX12_pulses 196 = .ok (.istore 7, 2) := mm_dk kX12_pulses_2 36 rfl
theorem dX12_pulses_198 : decode cX12_pulses 198 = .ok (.iload 7, 2) := mm_dk kX12_pulses_2 37 rfl
theorem dX12_pulses_200 : decode cX12_pulses 200 = .ok (.iload_n 3, 1) := mm_dk kX12_pulses_2 38 rfl
theorem dX12_pulses_201 : decode cX12_pulses 201 = .ok (.if_icmp .ge 94, 3) := mm_dk kX12_pulses_2 39 rfl
set_option maxRecDepth 100000 in
theorem kX12_pulses_3 : ([(204, .iconst 0, 1), (205, .istore 8, 2), (207, .iload 8, 2), (209, .iconst 2, 1), (210, .if_icmp .ge 79, 3), (213, .iconst 1, 1), (214, .istore 9, 2), (216, .iload 9, 2), (218, .iload_n 3, 1), (219, .if_icmp .ge 64, 3), (222, .iconst 0, 1), (223, .istore 10, 2), (225, .iload 10, 2), (227, .iconst 2, 1), (228, .if_icmp .ge 49, 3), (231, .aload_n 0, 1), (232, .iload 7, 2), (234, .iload 8, 2), (236, .iload 9, 2), (238, .iload 10, 2), (240, .iload_n 3, 1), (241, .invokevirtual 316, 3), (244, .ifCond .eq 27, 3), (247, .aload_n 0, 1), (248, .iload 7, 2), (250, .putfield 320, 3), (253, .aload_n 0, 1), (254, .iload 8, 2), (256, .putfield 323, 3), (259, .aload_n 0, 1), (260, .iload 9, 2), (262, .putfield 326, 3), (265, .aload_n 0, 1), (266, .iload 10, 2), (268, .putfield 329, 3), (271, .iinc 10 1, 3), (274, .goto (-49), 3), (277, .iinc 9 2, 3), (280, .goto (-64), 3), (283, .iinc 8 1, 3)] : List (Nat × Instr × Nat)).all (fun x => decide (decode cX12_pulses x.1 = .ok x.2)) = true := by decide +kernel
theorem dX12_pulses_204 : decode cX12_pulses 204 = .ok (.iconst 0, 1) := mm_dk kX12_pulses_3 0 rfl
theorem dX12_pulses_205 : decode cX12_pulses 205 = .ok (.istore 8, 2) := mm_dk kX12_pulses_3 1 rfl
theorem dX12_pulses_207 : decode cX12_pulses 207 = .ok (.iload 8, 2) := mm_dk kX12_pulses_3 2 rfl
theorem dX12_pulses_209 : decode cX12_pulses 209 = .ok (.iconst 2, 1) := mm_dk kX12_pulses_3 3 rfl
theorem dX12_pulses_210 : decode cX12_pulses 210 = .ok (.if_icmp .ge 79, 3) := mm_dk kX12_pulses_3 4 rfl
theorem dX12_pulses_213 : decode cX12_pulses 213 = .ok (.iconst 1, 1) := mm_dk kX12_pulses_3 5 rfl
theorem dX12_pulses_214 : decode cX12_pulses 214 = .ok (.istore 9, 2) := mm_dk kX12_pulses_3 6 rfl
theorem dX12_pulses_216 : decode cX12_pulses 216 = .ok (.iload 9, 2) := mm_dk kX12_pulses_3 7 rfl
theorem dX12_pulses_218 : decode cX12_pulses 218 = .ok (.iload_n 3, 1) := mm_dk kX12_pulses_3 8 rfl
theorem dX12_pulses_219 : decode cX12_pulses 219 = .ok (.if_icmp .ge 64, 3) := mm_dk kX12_pulses_3 9 rfl
theorem dX12_pulses_222 : decode cX12_pulses 222 = .ok (.iconst 0, 1) := mm_dk kX12_pulses_3 10 rfl
theorem dX12_pulses_223 : decode cX12_pulses 223 = .ok (.istore 10, 2) := mm_dk kX12_pulses_3 11 rfl
theorem dX12_pulses_225 : decode cX12_pulses 225 = .ok (.iload 10, 2) := mm_dk kX12_pulses_3 12 rfl
theorem dX12_pulses_227 : decode cX12_pulses 227 = .ok (.iconst 2, 1) := mm_dk kX12_pulses_3 13 rfl
theorem dX12_pulses_228 : decode cX12_pulses 228 = .ok (.if_icmp .ge 49, 3) := mm_dk kX12_pulses_3 14 rfl
theorem dX12_pulses_231 : decode cX12_pulses 231 = .ok (.aload_n 0, 1) := mm_dk kX12_pulses_3 15 rfl
theorem dX12_pulses_232 : decode cX12_pulses 232 = .ok (.iload 7, 2) := mm_dk kX12_pulses_3 16 rfl
theorem dX12_pulses_234 : decode cX12_pulses 234 = .ok (.iload 8, 2) := mm_dk kX12_pulses_3 17 rfl
theorem dX12_pulses_236 : decode cX12_pulses 236 = .ok (.iload 9, 2) := mm_dk kX12_pulses_3 18 rfl
theorem dX12_pulses_238 : decode cX12_pulses 238 = .ok (.iload 10, 2) := mm_dk kX12_pulses_3 19 rfl
theorem dX12_pulses_240 : decode cX12_pulses 240 = .ok (.iload_n 3, 1) := mm_dk kX12_pulses_3 20 rfl
theorem dX12_pulses_241 : decode cX12_pulses 241 = .ok (.invokevirtual 316, 3) := mm_dk kX12_pulses_3 21 rfl
theorem dX12_pulses_244 : decode cX12_pulses 244 = .ok (.ifCond .eq 27, 3) := mm_dk kX12_pulses_3 22 rfl
theorem dX12_pulses_247 : decode cX12_pulses 247 = .ok (.aload_n 0, 1) := mm_dk kX12_pulses_3 23 rfl
theorem dX12_pulses_248 : decode cX12_pulses 248 = .ok (.iload 7, 2) := mm_dk kX12_pulses_3 24 rfl
theorem dX12_pulses_250 : decode cX12_pulses 250 = .ok (.putfield 320, 3) := mm_dk kX12_pulses_3 25 rfl
theorem dX12_pulses_253 : decode cX12_pulses 253 = .ok (.aload_n 0, 1) := mm_dk kX12_pulses_3 26 rfl
theorem dX12_pulses_254 : decode cX12_pulses 254 = .ok (.iload 8, 2) := mm_dk kX12_pulses_3 27 rfl
theorem dX12_pulses_256 : decode cX12_pulses 256 = .ok (.putfield 323, 3) := mm_dk kX12_pulses_3 28 rfl
theorem dX12_pulses_259 : decode cX12_pulses 259 = .ok (.aload_n 0, 1) := mm_dk kX12_pulses_3 29 rfl
theorem dX12_pulses_260 : decode cX12_pulses 260 = .ok (.iload 9, 2) := mm_dk kX12_pulses_3 30 rfl
theorem dX12_pulses_262 : decode cX12_pulses 262 = .ok (.putfield 326, 3) := mm_dk kX12_pulses_3 31 rfl
theorem dX12_pulses_265 : decode cX12_pulses 265 = .ok (.aload_n 0, 1) := mm_dk kX12_pulses_3 32 rfl
theorem dX12_pulses_266 : decode cX12_pulses 266 = .ok (.iload 10, 2) := mm_dk kX12_pulses_3 33 rfl
theorem dX12_pulses_268 : decode cX12_pulses 268 = .ok (.putfield 329, 3) := mm_dk kX12_pulses_3 34 rfl
theorem dX12_pulses_271 : decode cX12_pulses 271 = .ok (.iinc 10 1, 3) := mm_dk kX12_pulses_3 35 rfl
theorem dX12_pulses_274 : decode cX12_pulses 274 = .ok (.goto (-49), 3) := mm_dk kX12_pulses_3 36 rfl
theorem dX12_pulses_277 : decode cX12_pulses 277 = .ok (.iinc 9 2, 3) := mm_dk kX12_pulses_3 37 rfl
theorem dX12_pulses_280 : decode cX12_pulses 280 = .ok (.goto (-64), 3) := mm_dk kX12_pulses_3 38 rfl
theorem dX12_pulses_283 : decode cX12_pulses 283 = .ok (.iinc 8 1, 3) := mm_dk kX12_pulses_3 39 rfl
set_option maxRecDepth 100000 in
theorem kX12_pulses_4 : ([(286, .goto (-79), 3), (289, .iinc 7 2, 3), (292, .goto (-94), 3), (295, .return_, 1), (296, .iconst 0, 1), (297, .istore 7, 2), (299, .iload 7, 2), (301, .iload_n 3, 1), (302, .if_icmp .ge 73, 3), (305, .iconst 0, 1), (306, .istore 8, 2), (308, .iload 8, 2), (310, .iconst 2, 1), (311, .if_icmp .ge 58, 3), (314, .aload_n 0, 1), (315, .aload_n 0, 1), (316, .getfield 187, 3), (319, .iload 7, 2), (321, .laload, 1), (322, .iload 8, 2), (324, .ifCond .ne 13, 3), (327, .aload_n 0, 1), (328, .getfield 190, 3), (331, .iload 7, 2), (333, .laload, 1), (334, .goto 11, 3), (337, .aload_n 0, 1), (338, .getfield 190, 3), (341, .iload 7, 2), (343, .laload, 1), (344, .lneg, 1), (345, .invokevirtual 312, 3), (348, .ifCond .eq 15, 3), (351, .aload_n 0, 1), (352, .iload 7, 2), (354, .putfield 320, 3), (357, .aload_n 0, 1), (358, .iload 8, 2), (360, .putfield 323, 3), (363, .iinc 8 1, 3)] : List (Nat × Instr × Nat)).all (fun x => decide (decode cX12_pulses x.1 = .ok x.2)) = true := by decide +kernel
theorem dX12_pulses_286 : decode cX12_pulses 286 = .ok (.goto (-79), 3) := mm_dk kX12_pulses_4 0 rfl
theorem dX12_pulses_289 : decode cX12_pulses 289 = .ok (.iinc 7 2, 3) := mm_dk kX12_pulses_4 1 rfl
theorem dX12_pulses_292 : decode cX12_pulses 292 = .ok (.goto (-94), 3) := mm_dk kX12_pulses_4 2 rfl
theorem dX12_pulses_295 : decode cX12_pulses 295 = .ok (.return_, 1) := mm_dk kX12_pulses_4 3 rfl
theorem dX12_pulses_296 : decode cX12_pulses 296 = .ok (.iconst 0, 1) := mm_dk kX12_pulses_4 4 rfl
theorem dX12_pulses_297 : decode cX12_pulses 297 = .ok (.istore 7, 2) := mm_dk kX12_pulses_4 5 rfl
theorem dX12_pulses_299 : decode cX12_pulses 299 = .ok (.iload 7, 2) := mm_dk kX12_pulses_4 6 rfl
theorem dX12_pulses_301 : decode cX12_pulses 301 = .ok (.iload_n 3, 1) := mm_dk kX12_pulses_4 7 rfl
theorem dX12_pulses_302 : decode cX12_pulses 302 = .ok (.if_icmp .ge 73, 3) := mm_dk kX12_pulses_4 8 rfl
theorem dX12_pulses_305 : decode cX12_pulses 305 = .ok (.iconst 0, 1) := mm_dk kX12_pulses_4 9 rfl
theorem dX12_pulses_306 : decode cX12_pulses 306 = .ok (.istore 8, 2) := mm_dk kX12_pulses_4 10 rfl
theorem dX12_pulses_308 : decode cX12_pulses 308 = .ok (.iload 8, 2) := mm_dk kX12_pulses_4 11 rfl
theorem dX12_pulses_310 : decode cX12_pulses 310 = .ok (.iconst 2, 1) := mm_dk kX12_pulses_4 12 rfl
theorem dX12_pulses_311 : decode cX12_pulses 311 = .ok (.if_icmp .ge 58, 3) := mm_dk kX12_pulses_4 13 rfl
theorem dX12_pulses_314 : decode cX12_pulses 314 = .ok (.aload_n 0, 1) := mm_dk kX12_pulses_4 14 rfl
theorem dX12_pulses_315 : decode cX12_pulses 315 = .ok (.aload_n 0, 1) := mm_dk kX12_pulses_4 15 rfl
theorem dX12_pulses_316 : decode cX12_pulses 316 = .ok (.getfield 187, 3) := mm_dk kX12_pulses_4 16 rfl
theorem dX12_pulses_319 : decode cX12_pulses 319 = .ok (.iload 7, 2) := mm_dk kX12_pulses_4 17 rfl
theorem dX12_pulses_321 : decode cX12_pulses 321 = .ok (.laload, 1) := mm_dk kX12_pulses_4 18 rfl
theorem dX12_pulses_322 : decode cX12_pulses 322 = .ok (.iload 8, 2) := mm_dk kX12_pulses_4 19 rfl
theorem dX12_pulses_324 : decode cX12_pulses 324 = .ok (.ifCond .ne 13, 3) := mm_dk kX12_pulses_4 20 rfl
theorem dX12_pulses_327 : decode cX12_pulses 327 = .ok (.aload_n 0, 1) := mm_dk kX12_pulses_4 21 rfl
theorem dX12_pulses_328 : decode cX12_pulses 328 = .ok (.getfield 190, 3) := mm_dk kX12_pulses_4 22 rfl
theorem dX12_pulses_331 : decode cX12_pulses 331 = .ok (.iload 7, 2) := mm_dk kX12_pulses_4 23 rfl
theorem dX12_pulses_333 : decode cX12_pulses 333 = .ok (.laload, 1) := mm_dk kX12_pulses_4 24 rfl
theorem dX12_pulses_334 : decode cX12_pulses 334 = .ok (.goto 11, 3) := mm_dk kX12_pulses_4 25 rfl
theorem dX12_pulses_337 : decode cX12_pulses 337 = .ok (.aload_n 0, 1) := mm_dk kX12_pulses_4 26 rfl
theorem dX12_pulses_338 : decode cX12_pulses 338 = .ok (.getfield 190, 3) := mm_dk kX12_pulses_4 27 rfl
theorem dX12_pulses_341 : decode cX12_pulses 341 = .ok (.iload 7, 2) := mm_dk kX12_pulses_4 28 rfl
theorem dX12_pulses_343 : decode cX12_pulses 343 = .ok (.laload, 1) := mm_dk kX12_pulses_4 29 rfl
theorem dX12_pulses_344 : decode cX12_pulses 344 = .ok (.lneg, 1) := mm_dk kX12_pulses_4 30 rfl
theorem dX12_pulses_345 : decode cX12_pulses 345 = .ok (.invokevirtual 312, 3) := mm_dk kX12_pulses_4 31 rfl
theorem dX12_pulses_348 : decode cX12_pulses 348 = .ok (.ifCond .eq 15, 3) := mm_dk kX12_pulses_4 32 rfl
theorem dX12_pulses_351 : decode cX12_pulses 351 = .ok (.aload_n 0, 1) := mm_dk kX12_pulses_4 33 rfl
theorem dX12_pulses_352 : decode cX12_pulses 352 = .ok (.iload 7, 2) := mm_dk kX12_pulses_4 34 rfl
theorem dX12_pulses_354 : decode cX12_pulses 354 = .ok (.putfield 320, 3) := mm_dk kX12_pulses_4 35 rfl
theorem dX12_pulses_357 : decode cX12_pulses 357 = .ok (.aload_n 0, 1) := mm_dk kX12_pulses_4 36 rfl
theorem dX12_pulses_358 : decode cX12_pulses 358 = .ok (.iload 8, 2) := mm_dk kX12_pulses_4 37 rfl
theorem dX12_pulses_360 : decode cX12_pulses 360 = .ok (.putfield 323, 3) := mm_dk kX12_pulses_4 38 rfl
theorem dX12_pulses_363 : decode cX12_pulses 363 = .ok (.iinc 8 1, 3) := mm_dk kX12_pulses_4 39 rfl
set_option maxRecDepth 100000 in
theorem kX12_pulses_5 : ([(366, .goto (-58), 3), (369, .iinc 7 2, 3), (372, .goto (-73), 3), (375, .aload_n 0, 1), (376, .ldc2_w 287, 3), (379, .putfield 278, 3), (382, .iconst 1, 1), (383, .istore 7, 2), (385, .iload 7, 2), (387, .iload_n 3, 1), (388, .if_icmp .ge 56, 3), (391, .iconst 0, 1), (392, .istore 8, 2), (394, .iload 8, 2), (396, .iconst 2, 1), (397, .if_icmp .ge 41, 3), (400, .aload_n 0, 1), (401, .aload_n 0, 1), (402, .getfield 320, 3), (405, .aload_n 0, 1), (406, .getfield 323, 3), (409, .iload 7, 2), (411, .iload 8, 2), (413, .iload_n 3, 1), (414, .invokevirtual 316, 3), (417, .ifCond .eq 15, 3), (420, .aload_n 0, 1), (421, .iload 7, 2), (423, .putfield 326, 3), (426, .aload_n 0, 1), (427, .iload 8, 2), (429, .putfield 329, 3), (432, .iinc 8 1, 3), (435, .goto (-41), 3), (438, .iinc 7 2, 3), (441, .goto (-56), 3), (444, .return_, 1)] : List (Nat × Instr × Nat)).all (fun x => decide (decode cX12_pulses x.1 = .ok x.2)) = true := by decide +kernel
theorem dX12_pulses_366 : decode cX12_pulses 366 = .ok (.goto (-58), 3) := mm_dk kX12_pulses_5 0 rfl
theorem dX12_pulses_369 : decode cX12_pulses 369 = .ok (.iinc 7 2, 3) := mm_dk kX12_pulses_5 1 rfl
theorem dX12_pulses_372 : decode cX12_pulses 372 = .ok (.goto (-73), 3) := mm_dk kX12_pulses_5 2 rfl
theorem dX12_pulses_375 : decode cX12_pulses 375 = .ok (.aload_n 0, 1) := mm_dk kX12_pulses_5 3 rfl
theorem dX12_pulses_376 : decode cX12_pulses 376 = .ok (.ldc2_w 287, 3) := mm_dk kX12_pulses_5 4 rfl
theorem dX12_pulses_379 : decode cX12_pulses 379 = .ok (.putfield 278, 3) := mm_dk kX12_pulses_5 5 rfl
theorem dX12_pulses_382 : decode cX12_pulses 382 = .ok (.iconst 1, 1) := mm_dk kX12_pulses_5 6 rfl
theorem dX12_pulses_383 : decode cX12_pulses 383 = .ok (.istore 7, 2) := mm_dk kX12_pulses_5 7 rfl
theorem dX12_pulses_385 : decode cX12_pulses 385 = .ok (.iload 7, 2) := mm_dk kX12_pulses_5 8 rfl
theorem dX12_pulses_387 : decode cX12_pulses 387 = .ok (.iload_n 3, 1) := mm_dk kX12_pulses_5 9 rfl
theorem dX12_pulses_388 : decode cX12_pulses 388 = .ok (.if_icmp .ge 56, 3) := mm_dk kX12_pulses_5 10 rfl
theorem dX12_pulses_391 : decode cX12_pulses 391 = .ok (.iconst 0, 1) := mm_dk kX12_pulses_5 11 rfl
theorem dX12_pulses_392 : decode cX12_pulses 392 = .ok (.istore 8, 2) := mm_dk kX12_pulses_5 12 rfl
theorem dX12_pulses_394 : decode cX12_pulses 394 = .ok (.iload 8, 2) := mm_dk kX12_pulses_5 13 rfl
theorem dX12_pulses_396 : decode cX12_pulses 396 = .ok (.iconst 2, 1) := mm_dk kX12_pulses_5 14 rfl
theorem dX12_pulses_397 : decode cX12_pulses 397 = .ok (.if_icmp .ge 41, 3) := mm_dk kX12_pulses_5 15 rfl
theorem dX12_pulses_400 : decode cX12_pulses 400 = .ok (.aload_n 0, 1) := mm_dk kX12_pulses_5 16 rfl
theorem dX12_pulses_401 : decode cX12_pulses 401 = .ok (.aload_n 0, 1) := mm_dk kX12_pulses_5 17 rfl
theorem dX12_pulses_402 : decode cX12_pulses 402 = .ok (.getfield 320, 3) := mm_dk kX12_pulses_5 18 rfl
theorem dX12_pulses_405 : decode cX12_pulses 405 = .ok (.aload_n 0, 1) := mm_dk kX12_pulses_5 19 rfl
theorem dX12_pulses_406 : decode cX12_pulses 406 = .ok (.getfield 323, 3) := mm_dk kX12_pulses_5 20 rfl
theorem dX12_pulses_409 : decode cX12_pulses 409 = .ok (.iload 7, 2) := mm_dk kX12_pulses_5 21 rfl
theorem dX12_pulses_411 : decode cX12_pulses 411 = .ok (.iload 8, 2) := mm_dk kX12_pulses_5 22 rfl
theorem dX12_pulses_413 : decode cX12_pulses 413 = .ok (.iload_n 3, 1) := mm_dk kX12_pulses_5 23 rfl
theorem dX12_pulses_414 : decode cX12_pulses 414 = .ok (.invokevirtual 316, 3) := mm_dk kX12_pulses_5 24 rfl
theorem dX12_pulses_417 : decode cX12_pulses 417 = .ok (.ifCond .eq 15, 3) := mm_dk kX12_pulses_5 25 rfl
theorem dX12_pulses_420 : decode cX12_pulses 420 = .ok (.aload_n 0, 1) := mm_dk kX12_pulses_5 26 rfl
theorem dX12_pulses_421 : decode cX12_pulses 421 = .ok (.iload 7, 2) := mm_dk kX12_pulses_5 27 rfl
theorem dX12_pulses_423 : decode cX12_pulses 423 = .ok (.putfield 326, 3) := mm_dk kX12_pulses_5 28 rfl
theorem dX12_pulses_426 : decode cX12_pulses 426 = .ok (.aload_n 0, 1) := mm_dk kX12_pulses_5 29 rfl
theorem dX12_pulses_427 : decode cX12_pulses 427 = .ok (.iload 8, 2) := mm_dk kX12_pulses_5 30 rfl
theorem dX12_pulses_429 : decode cX12_pulses 429 = .ok (.putfield 329, 3) := mm_dk kX12_pulses_5 31 rfl
theorem dX12_pulses_432 : decode cX12_pulses 432 = .ok (.iinc 8 1, 3) := mm_dk kX12_pulses_5 32 rfl
theorem dX12_pulses_435 : decode cX12_pulses 435 = .ok (.goto (-41), 3) := mm_dk kX12_pulses_5 33 rfl
theorem dX12_pulses_438 : decode cX12_pulses 438 = .ok (.iinc 7 2, 3) := mm_dk kX12_pulses_5 34 rfl
theorem dX12_pulses_441 : decode cX12_pulses 441 = .ok (.goto (-56), 3) := mm_dk kX12_pulses_5 35 rfl
theorem dX12_pulses_444 : decode cX12_pulses 444 = .ok (.return_, 1) := mm_dk kX12_pulses_5 36 rfl
set_option maxRecDepth 100000 in
theorem kX12_behind_0 : ([(0, .iconst 0, 1), (1, .istore 4, 2), (3, .iload 4, 2), (5, .iload_n 3, 1), (6, .if_icmp .ge 37, 3), (9, .aload_n 0, 1), (10, .getfield 175, 3), (13, .iload 4, 2), (15, .aload_n 0, 1), (16, .getfield 53, 3), (19, .sipush 160, 3), (22, .iload_n 1, 1), (23, .imul, 1), (24, .sipush 160, 3), (27, .iadd, 1), (28, .iload_n 2, 1), (29, .isub, 1), (30, .iload 4, 2), (32, .iload_n 2, 1), (33, .irem, 1), (34, .iadd, 1), (35, .iaload, 1), (36, .iastore, 1), (37, .iinc 4 1, 3), (40, .goto (-37), 3), (43, .return_, 1)] : List (Nat × Instr × Nat)).all (fun x => decide (decode cX12_behind x.1 = .ok x.2)) = true := by decide +kernel
theorem dX12_behind_0 : decode cX12_behind 0 = .ok (.iconst 0, 1) := mm_dk kX12_behind_0 0 rfl
theorem dX12_behind_1 : decode cX12_behind 1 = .ok (.istore 4, 2) := mm_dk kX12_behind_0 1 rfl
theorem dX12_behind_3 : decode cX12_behind 3 = .ok (.iload 4, 2) := mm_dk kX12_behind_0 2 rfl
theorem dX12_behind_5 : decode cX12_behind 5 = .ok (.iload_n 3, 1) := mm_dk kX12_behind_0 3 rfl
theorem dX12_behind_6 : decode cX12_behind 6 = .ok (.if_icmp .ge 37, 3) := mm_dk kX12_behind_0 4 rfl
theorem dX12_behind_9 : decode cX12_behind 9 = .ok (.aload_n 0, 1) := mm_dk kX12_behind_0 5 rfl
theorem dX12_behind_10 : decode cX12_behind 10 = .ok (.getfield 175, 3) := mm_dk kX12_behind_0 6 rfl
theorem dX12_behind_13 : decode cX12_behind 13 = .ok (.iload 4, 2) := mm_dk kX12_behind_0 7 rfl
theorem dX12_behind_15 : decode cX12_behind 15 = .ok (.aload_n 0, 1) := mm_dk kX12_behind_0 8 rfl
theorem dX12_behind_16 : decode cX12_behind 16 = .ok (.getfield 53, 3) := mm_dk kX12_behind_0 9 rfl
theorem dX12_behind_19 : decode cX12_behind 19 = .ok (.sipush 160, 3) := mm_dk kX12_behind_0 10 rfl
theorem dX12_behind_22 : decode cX12_behind 22 = .ok (.iload_n 1, 1) := mm_dk kX12_behind_0 11 rfl
theorem dX12_behind_23 : decode cX12_behind 23 = .ok (.imul, 1) := mm_dk kX12_behind_0 12 rfl
theorem dX12_behind_24 : decode cX12_behind 24 = .ok (.sipush 160, 3) := mm_dk kX12_behind_0 13 rfl
theorem dX12_behind_27 : decode cX12_behind 27 = .ok (.iadd, 1) := mm_dk kX12_behind_0 14 rfl
theorem dX12_behind_28 : decode cX12_behind 28 = .ok (.iload_n 2, 1) := mm_dk kX12_behind_0 15 rfl
theorem dX12_behind_29 : decode cX12_behind 29 = .ok (.isub, 1) := mm_dk kX12_behind_0 16 rfl
theorem dX12_behind_30 : decode cX12_behind 30 = .ok (.iload 4, 2) := mm_dk kX12_behind_0 17 rfl
theorem dX12_behind_32 : decode cX12_behind 32 = .ok (.iload_n 2, 1) := mm_dk kX12_behind_0 18 rfl
theorem dX12_behind_33 : decode cX12_behind 33 = .ok (.irem, 1) := mm_dk kX12_behind_0 19 rfl
theorem dX12_behind_34 : decode cX12_behind 34 = .ok (.iadd, 1) := mm_dk kX12_behind_0 20 rfl
theorem dX12_behind_35 : decode cX12_behind 35 = .ok (.iaload, 1) := mm_dk kX12_behind_0 21 rfl
theorem dX12_behind_36 : decode cX12_behind 36 = .ok (.iastore, 1) := mm_dk kX12_behind_0 22 rfl
theorem dX12_behind_37 : decode cX12_behind 37 = .ok (.iinc 4 1, 3) := mm_dk kX12_behind_0 23 rfl
theorem dX12_behind_40 : decode cX12_behind 40 = .ok (.goto (-37), 3) := mm_dk kX12_behind_0 24 rfl
theorem dX12_behind_43 : decode cX12_behind 43 = .ok (.return_, 1) := mm_dk kX12_behind_0 25 rfl
set_option maxRecDepth 100000 in
theorem kX12_synthesis_0 : ([(0, .iload_n 2, 1), (1, .istore_n 3, 1), (2, .bipush 8, 2), (4, .istore 4, 2), (6, .iload 4, 2), (8, .ifCond .le 101, 3), (11, .sipush 1024, 3), (14, .aload_n 0, 1), (15, .getfield 59, 3), (18, .bipush 8, 2), (20, .iload_n 1, 1), (21, .imul, 1), (22, .iload 4, 2), (24, .iadd, 1), (25, .iconst 1, 1), (26, .isub, 1), (27, .iaload, 1), (28, .imul, 1), (29, .istore 5, 2), (31, .aload_n 0, 1), (32, .getfield 56, 3), (35, .bipush 8, 2), (37, .iload_n 1, 1), (38, .imul, 1), (39, .iload 4, 2), (41, .iadd, 1), (42, .iconst 1, 1), (43, .isub, 1), (44, .iaload, 1), (45, .istore 6, 2), (47, .aload_n 0, 1), (48, .iload_n 3, 1), (49, .i2l, 1), (50, .iload 6, 2), (52, .i2l, 1), (53, .iload 5, 2), (55, .i2l, 1), (56, .invokestatic 262, 3), (59, .lsub, 1), (60, .invokevirtual 270, 3)] : List (Nat × Instr × Nat)).all (fun x => decide (decode cX12_synthesis x.1 = .ok x.2)) = true := by decide +kernel
theorem dX12_synthesis_0 : decode cX12_synthesis 0 = .ok (.iload_n 2, 1) := mm_dk kX12_synthesis_0 0 rfl
theorem dX12_synthesis_1 : decode cX12_synthesis 1 = .ok (.istore_n 3, 1) := mm_dk kX12_synthesis_0 1 rfl
theorem dX12_synthesis_2 : decode cX12_synthesis 2 = .ok (.bipush 8, 2) := mm_dk kX12_synthesis_0 2 rfl
theorem dX12_synthesis_4 : decode cX12_synthesis 4 = .ok (.istore 4, 2) := mm_dk kX12_synthesis_0 3 rfl
theorem dX12_synthesis_6 : decode cX12_synthesis 6 = .ok (.iload 4, 2) := mm_dk kX12_synthesis_0 4 rfl
theorem dX12_synthesis_8 : decode cX12_synthesis 8 = .ok (.ifCond .le 101, 3) := mm_dk kX12_synthesis_0 5 rfl
theorem dX12_synthesis_11 : decode cX12_synthesis 11 = .ok (.sipush 1024, 3) := mm_dk kX12_synthesis_0 6 rfl
theorem dX12_synthesis_14 : decode cX12_synthesis 14 = .ok (.aload_n 0, 1) := mm_dk kX12_synthesis_0 7 rfl
theorem dX12_synthesis_15 : decode cX12_synthesis 15 = .ok (.getfield 59, 3) := mm_dk kX12_synthesis_0 8 rfl
theorem dX12_synthesis_18 : decode cX12_synthesis 18 = .ok (.bipush 8, 2) := mm_dk kX12_synthesis_0 9 rfl
theorem dX12_synthesis_20 : decode cX12_synthesis 20 = .ok (.iload_n 1, 1) := mm_dk kX12_synthesis_0 10 rfl
theorem dX12_synthesis_21 : decode cX12_synthesis 21 = .ok (.imul, 1) := mm_dk kX12_synthesis_0 11 rfl
theorem dX12_synthesis_22 : decode cX12_synthesis 22 = .ok (.iload 4, 2) := mm_dk kX12_synthesis_0 12 rfl
theorem dX12_synthesis_24 : decode cX12_synthesis 24 = .ok (.iadd, 1) := mm_dk kX12_synthesis_0 13 rfl
theorem dX12_synthesis_25 : decode cX12_synthesis 25 = .ok (.iconst 1, 1) := mm_dk kX12_synthesis_0 14 rfl
theorem dX12_synthesis_26 : decode cX12_synthesis 26 = .ok (.isub, 1) := mm_dk kX12_synthesis_0 15 rfl
theorem dX12_synthesis_27 : decode cX12_synthesis 27 = .ok (.iaload, 1) := mm_dk kX12_synthesis_0 16 rfl
theorem dX12_synthesis_28 : decode cX12_synthesis 28 = .ok (.imul, 1) := mm_dk kX12_synthesis_0 17 rfl
theorem dX12_synthesis_29 : decode cX12_synthesis 29 = .ok (.istore 5, 2) := mm_dk kX12_synthesis_0 18 rfl
theorem dX12_synthesis_31 : decode cX12_synthesis 31 = .ok (.aload_n 0, 1) := mm_dk kX12_synthesis_0 19 rfl
theorem dX12_synthesis_32 : decode cX12_synthesis 32 = .ok (.getfield 56, 3) := mm_dk kX12_synthesis_0 20 rfl
theorem dX12_synthesis_35 : decode cX12_synthesis 35 = .ok (.bipush 8, 2) := mm_dk kX12_synthesis_0 21 rfl
theorem dX12_synthesis_37 : decode cX12_synthesis 37 = .ok (.iload_n 1, 1) := mm_dk kX12_synthesis_0 22 rfl
theorem dX12_synthesis_38 : decode cX12_synthesis 38 = .ok (.imul, 1) := mm_dk kX12_synthesis_0 23 rfl
theorem dX12_synthesis_39 : decode cX12_synthesis 39 = .ok (.iload 4, 2) := mm_dk kX12_synthesis_0 24 rfl
theorem dX12_synthesis_41 : decode cX12_synthesis 41 = .ok (.iadd, 1) := mm_dk kX12_synthesis_0 25 rfl
theorem dX12_synthesis_42 : decode cX12_synthesis 42 = .ok (.iconst 1, 1) := mm_dk kX12_synthesis_0 26 rfl
theorem dX12_synthesis_43 : decode cX12_synthesis 43 = .ok (.isub, 1) := mm_dk kX12_synthesis_0 27 rfl
theorem dX12_synthesis_44 : decode cX12_synthesis 44 = .ok (.iaload, 1) := mm_dk kX12_synthesis_0 28 rfl
theorem dX12_synthesis_45 : decode cX12_synthesis 45 = .ok (.istore 6, 2) := mm_dk kX12_synthesis_0 29 rfl
theorem dX12_synthesis_47 : decode cX12_synthesis 47 = .ok (.aload_n 0, 1) := mm_dk kX12_synthesis_0 30 rfl
theorem dX12_synthesis_48 : decode cX12_synthesis 48 = .ok (.iload_n 3, 1) := mm_dk kX12_synthesis_0 31 rfl
theorem dX12_synthesis_49 : decode cX12_synthesis 49 = .ok (.i2l, 1) := mm_dk kX12_synthesis_0 32 rfl
theorem dX12_synthesis_50 : decode cX12_synthesis 50 = .ok (.iload 6, 2) := mm_dk kX12_synthesis_0 33 rfl
theorem dX12_synthesis_52 : decode cX12_synthesis 52 = .ok (.i2l, 1) := mm_dk kX12_synthesis_0 34 rfl
theorem dX12_synthesis_53 : decode cX12_synthesis 53 = .ok (.iload 5, 2) := mm_dk kX12_synthesis_0 35 rfl
theorem dX12_synthesis_55 : decode cX12_synthesis 55 = .ok (.i2l, 1) := mm_dk kX12_synthesis_0 36 rfl
theorem dX12_synthesis_56 : decode cX12_synthesis 56 = .ok (.invokestatic 262, 3) := mm_dk kX12_synthesis_0 37 rfl
theorem dX12_synthesis_59 : decode cX12_synthesis 59 = .ok (.lsub, 1) := mm_dk kX12_synthesis_0 38 rfl
theorem dX12_synthesis_60 : decode cX12_synthesis 60 = .ok (.invokevirtual 270, 3) := mm_dk kX12_synthesis_0 39 rfl
set_option maxRecDepth 100000 in
theorem kX12_synthesis_1 : ([(63, .istore_n 3, 1), (64, .aload_n 0, 1), (65, .iload 6, 2), (67, .i2l, 1), (68, .iload_n 3, 1), (69, .i2l, 1), (70, .iload 5, 2), (72, .i2l, 1), (73, .invokestatic 262, 3), (76, .ladd, 1), (77, .invokevirtual 270, 3), (80, .istore 7, 2), (82, .iload 4, 2), (84, .bipush 8, 2), (86, .if_icmp .ge 17, 3), (89, .aload_n 0, 1), (90, .getfield 56, 3), (93, .bipush 8, 2), (95, .iload_n 1, 1), (96, .imul, 1), (97, .iload 4, 2), (99, .iadd, 1), (100, .iload 7, 2), (102, .iastore, 1), (103, .iinc 4 (-1), 3), (106, .goto (-100), 3), (109, .aload_n 0, 1), (110, .getfield 56, 3), (113, .bipush 8, 2), (115, .iload_n 1, 1), (116, .imul, 1), (117, .iload_n 3, 1), (118, .iastore, 1), (119, .iload_n 3, 1), (120, .ireturn, 1)] : List (Nat × Instr × Nat)).all (fun x => decide (decode cX12_synthesis x.1 = .ok x.2)) = true := by decide +kernel
theorem dX12_synthesis_63 : decode cX12_synthesis 63 = .ok (.istore_n 3, 1) := mm_dk kX12_synthesis_1 0 rfl
theorem dX12_synthesis_64 : decode cX12_synthesis 64 = .ok (.aload_n 0, 1) := mm_dk kX12_synthesis_1 1 rfl
theorem dX12_synthesis_65 : decode cX12_synthesis 65 = .ok (.iload 6, 2) := mm_dk kX12_synthesis_1 2 rfl
theorem dX12_synthesis_67 : decode cX12_synthesis 67 = .ok (.i2l, 1) := mm_dk kX12_synthesis_1 3 rfl
theorem dX12_synthesis_68 : decode cX12_synthesis 68 = .ok (.iload_n 3, 1) := mm_dk kX12_synthesis_1 4 rfl
theorem dX12_synthesis_69 : decode cX12_synthesis 69 = .ok (.i2l, 1) := mm_dk kX12_synthesis_1 5 rfl
theorem dX12_synthesis_70 : decode cX12_synthesis 70 = .ok (.iload 5, 2) := mm_dk kX12_synthesis_1 6 rfl
theorem dX12_synthesis_72 : decode cX12_synthesis 72 = .ok (.i2l, 1) := mm_dk kX12_synthesis_1 7 rfl
theorem dX12_synthesis_73 : decode cX12_synthesis 73 = .ok (.invokestatic 262, 3) := mm_dk kX12_synthesis_1 8 rfl
theorem dX12_synthesis_76 : decode cX12_synthesis 76 = .ok (.ladd, 1) := mm_dk kX12_synthesis_1 9 rfl
theorem dX12_synthesis_77 : decode cX12_synthesis 77 = .ok (.invokevirtual 270, 3) := mm_dk kX12_synthesis_1 10 rfl
theorem dX12_synthesis_80 : decode cX12_synthesis 80 = .ok (.istore 7, 2) := mm_dk kX12_synthesis_1 11 rfl
theorem dX12_synthesis_82 : decode cX12_synthesis 82 = .ok (.iload 4, 2) := mm_dk kX12_synthesis_1 12 rfl
theorem dX12_synthesis_84 : decode cX12_synthesis 84 = .ok (.bipush 8, 2) := mm_dk kX12_synthesis_1 13 rfl
theorem dX12_synthesis_86 : decode cX12_synthesis 86 = .ok (.if_icmp .ge 17, 3) := mm_dk kX12_synthesis_1 14 rfl
theorem dX12_synthesis_89 : decode cX12_synthesis 89 = .ok (.aload_n 0, 1) := mm_dk kX12_synthesis_1 15 rfl
theorem dX12_synthesis_90 : decode cX12_synthesis 90 = .ok (.getfield 56, 3) := mm_dk kX12_synthesis_1 16 rfl
theorem dX12_synthesis_93 : decode cX12_synthesis 93 = .ok (.bipush 8, 2) := mm_dk kX12_synthesis_1 17 rfl
theorem dX12_synthesis_95 : decode cX12_synthesis 95 = .ok (.iload_n 1, 1) := mm_dk kX12_synthesis_1 18 rfl
theorem dX12_synthesis_96 : decode cX12_synthesis 96 = .ok (.imul, 1) := mm_dk kX12_synthesis_1 19 rfl
theorem dX12_synthesis_97 : decode cX12_synthesis 97 = .ok (.iload 4, 2) := mm_dk kX12_synthesis_1 20 rfl
theorem dX12_synthesis_99 : decode cX12_synthesis 99 = .ok (.iadd, 1) := mm_dk kX12_synthesis_1 21 rfl
theorem dX12_synthesis_100 : decode cX12_synthesis 100 = .ok (.iload 7, 2) := mm_dk kX12_synthesis_1 22 rfl
theorem dX12_synthesis_102 : decode cX12_synthesis 102 = .ok (.iastore, 1) := mm_dk kX12_synthesis_1 23 rfl
theorem dX12_synthesis_103 : decode cX12_synthesis 103 = .ok (.iinc 4 (-1), 3) := mm_dk kX12_synthesis_1 24 rfl
theorem dX12_synthesis_106 : decode cX12_synthesis 106 = .ok (.goto (-100), 3) := mm_dk kX12_synthesis_1 25 rfl
theorem dX12_synthesis_109 : decode cX12_synthesis 109 = .ok (.aload_n 0, 1) := mm_dk kX12_synthesis_1 26 rfl
theorem dX12_synthesis_110 : decode cX12_synthesis 110 = .ok (.getfield 56, 3) := mm_dk kX12_synthesis_1 27 rfl
theorem dX12_synthesis_113 : decode cX12_synthesis 113 = .ok (.bipush 8, 2) := mm_dk kX12_synthesis_1 28 rfl
theorem dX12_synthesis_115 : decode cX12_synthesis 115 = .ok (.iload_n 1, 1) := mm_dk kX12_synthesis_1 29 rfl
theorem dX12_synthesis_116 : decode cX12_synthesis 116 = .ok (.imul, 1) := mm_dk kX12_synthesis_1 30 rfl
theorem dX12_synthesis_117 : decode cX12_synthesis 117 = .ok (.iload_n 3, 1) := mm_dk kX12_synthesis_1 31 rfl
theorem dX12_synthesis_118 : decode cX12_synthesis 118 = .ok (.iastore, 1) := mm_dk kX12_synthesis_1 32 rfl
theorem dX12_synthesis_119 : decode cX12_synthesis 119 = .ok (.iload_n 3, 1) := mm_dk kX12_synthesis_1 33 rfl
theorem dX12_synthesis_120 : decode cX12_synthesis 120 = .ok (.ireturn, 1) := mm_dk kX12_synthesis_1 34 rfl
