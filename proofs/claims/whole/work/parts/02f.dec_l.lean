set_option maxRecDepth 100000 in
theorem kL_law_0 : ([(0, .new 7, 3), (3, .dup, 1), (4, .invokespecial 9, 3), (7, .astore_n 1, 1), (8, .new 10, 3), (11, .dup, 1), (12, .invokespecial 12, 3), (15, .astore_n 2, 1), (16, .iconst 0, 1), (17, .istore_n 3, 1), (18, .iload_n 3, 1), (19, .aload_n 0, 1), (20, .arraylength, 1), (21, .bipush 6, 2), (23, .isub, 1), (24, .if_icmp .gt 1805, 3), (27, .aload_n 0, 1), (28, .iload_n 3, 1), (29, .iaload, 1), (30, .bipush 63, 2), (32, .iand, 1), (33, .tableswitch 1790 0 44 #[195, 218, 251, 300, 343, 376, 425, 458, 491, 554, 577, 620, 653, 723, 756, 799, 832, 865, 908, 961, 994, 1027, 1070, 1103, 1136, 1199, 1232, 1255, 1288, 1341, 1364, 1387, 1430, 1463, 1496, 1549, 1592, 1615, 1638, 1671, 1694, 1708, 1741, 1754, 1777], 195), (228, .aload_n 1, 1), (229, .aload_n 0, 1), (230, .iload_n 3, 1), (231, .iconst 1, 1), (232, .iadd, 1), (233, .iaload, 1), (234, .invokevirtual 13, 3), (237, .aload_n 2, 1), (238, .aload_n 0, 1), (239, .iload_n 3, 1), (240, .iconst 1, 1), (241, .iadd, 1), (242, .iaload, 1), (243, .invokevirtual 17, 3), (246, .if_icmp .eq 1577, 3), (249, .iconst 0, 1), (250, .ireturn, 1), (251, .aload_n 1, 1)] : List (Nat × Instr × Nat)).all (fun x => decide (decode cL_law x.1 = .ok x.2)) = true := by decide +kernel
theorem dL_law_0 : decode cL_law 0 = .ok (.new 7, 3) := mm_dk kL_law_0 0 rfl
theorem dL_law_3 : decode cL_law 3 = .ok (.dup, 1) := mm_dk kL_law_0 1 rfl
theorem dL_law_4 : decode cL_law 4 = .ok (.invokespecial 9, 3) := mm_dk kL_law_0 2 rfl
theorem dL_law_7 : decode cL_law 7 = .ok (.astore_n 1, 1) := mm_dk kL_law_0 3 rfl
theorem dL_law_8 : decode cL_law 8 = .ok (.new 10, 3) := mm_dk kL_law_0 4 rfl
theorem dL_law_11 : decode cL_law 11 = .ok (.dup, 1) := mm_dk kL_law_0 5 rfl
theorem dL_law_12 : decode cL_law 12 = .ok (.invokespecial 12, 3) := mm_dk kL_law_0 6 rfl
theorem dL_law_15 : decode cL_law 15 = .ok (.astore_n 2, 1) := mm_dk kL_law_0 7 rfl
theorem dL_law_16 : decode cL_law 16 = .ok (.iconst 0, 1) := mm_dk kL_law_0 8 rfl
theorem dL_law_17 : decode cL_law 17 = .ok (.istore_n 3, 1) := mm_dk kL_law_0 9 rfl
theorem dL_law_18 : decode cL_law 18 = .ok (.iload_n 3, 1) := mm_dk kL_law_0 10 rfl
theorem dL_law_19 : decode cL_law 19 = .ok (.aload_n 0, 1) := mm_dk kL_law_0 11 rfl
theorem dL_law_20 : decode cL_law 20 = .ok (.arraylength, 1) := mm_dk kL_law_0 12 rfl
theorem dL_law_21 : decode cL_law 21 = .ok (.bipush 6, 2) := mm_dk kL_law_0 13 rfl
theorem dL_law_23 : decode cL_law 23 = .ok (.isub, 1) := mm_dk kL_law_0 14 rfl
theorem dL_law_24 : decode cL_law 24 = .ok (.if_icmp .gt 1805, 3) := mm_dk kL_law_0 15 rfl
theorem dL_law_27 : decode cL_law 27 = .ok (.aload_n 0, 1) := mm_dk kL_law_0 16 rfl
theorem dL_law_28 : decode cL_law 28 = .ok (.iload_n 3, 1) := mm_dk kL_law_0 17 rfl
theorem dL_law_29 : decode cL_law 29 = .ok (.iaload, 1) := mm_dk kL_law_0 18 rfl
theorem dL_law_30 : decode cL_law 30 = .ok (.bipush 63, 2) := mm_dk kL_law_0 19 rfl
theorem dL_law_32 : decode cL_law 32 = .ok (.iand, 1) := mm_dk kL_law_0 20 rfl
theorem dL_law_33 : decode cL_law 33 = .ok (.tableswitch 1790 0 44 #[195, 218, 251, 300, 343, 376, 425, 458, 491, 554, 577, 620, 653, 723, 756, 799, 832, 865, 908, 961, 994, 1027, 1070, 1103, 1136, 1199, 1232, 1255, 1288, 1341, 1364, 1387, 1430, 1463, 1496, 1549, 1592, 1615, 1638, 1671, 1694, 1708, 1741, 1754, 1777], 195) := mm_dk kL_law_0 21 rfl
theorem dL_law_228 : decode cL_law 228 = .ok (.aload_n 1, 1) := mm_dk kL_law_0 22 rfl
theorem dL_law_229 : decode cL_law 229 = .ok (.aload_n 0, 1) := mm_dk kL_law_0 23 rfl
theorem dL_law_230 : decode cL_law 230 = .ok (.iload_n 3, 1) := mm_dk kL_law_0 24 rfl
theorem dL_law_231 : decode cL_law 231 = .ok (.iconst 1, 1) := mm_dk kL_law_0 25 rfl
theorem dL_law_232 : decode cL_law 232 = .ok (.iadd, 1) := mm_dk kL_law_0 26 rfl
theorem dL_law_233 : decode cL_law 233 = .ok (.iaload, 1) := mm_dk kL_law_0 27 rfl
theorem dL_law_234 : decode cL_law 234 = .ok (.invokevirtual 13, 3) := mm_dk kL_law_0 28 rfl
theorem dL_law_237 : decode cL_law 237 = .ok (.aload_n 2, 1) := mm_dk kL_law_0 29 rfl
theorem dL_law_238 : decode cL_law 238 = .ok (.aload_n 0, 1) := mm_dk kL_law_0 30 rfl
theorem dL_law_239 : decode cL_law 239 = .ok (.iload_n 3, 1) := mm_dk kL_law_0 31 rfl
theorem dL_law_240 : decode cL_law 240 = .ok (.iconst 1, 1) := mm_dk kL_law_0 32 rfl
theorem dL_law_241 : decode cL_law 241 = .ok (.iadd, 1) := mm_dk kL_law_0 33 rfl
theorem dL_law_242 : decode cL_law 242 = .ok (.iaload, 1) := mm_dk kL_law_0 34 rfl
theorem dL_law_243 : decode cL_law 243 = .ok (.invokevirtual 17, 3) := mm_dk kL_law_0 35 rfl
theorem dL_law_246 : decode cL_law 246 = .ok (.if_icmp .eq 1577, 3) := mm_dk kL_law_0 36 rfl
theorem dL_law_249 : decode cL_law 249 = .ok (.iconst 0, 1) := mm_dk kL_law_0 37 rfl
theorem dL_law_250 : decode cL_law 250 = .ok (.ireturn, 1) := mm_dk kL_law_0 38 rfl
theorem dL_law_251 : decode cL_law 251 = .ok (.aload_n 1, 1) := mm_dk kL_law_0 39 rfl
set_option maxRecDepth 100000 in
theorem kL_law_1 : ([(252, .aload_n 0, 1), (253, .iload_n 3, 1), (254, .iconst 1, 1), (255, .iadd, 1), (256, .iaload, 1), (257, .aload_n 0, 1), (258, .iload_n 3, 1), (259, .iconst 2, 1), (260, .iadd, 1), (261, .iaload, 1), (262, .invokevirtual 18, 3), (265, .aload_n 2, 1), (266, .aload_n 0, 1), (267, .iload_n 3, 1), (268, .iconst 1, 1), (269, .iadd, 1), (270, .iaload, 1), (271, .aload_n 0, 1), (272, .iload_n 3, 1), (273, .iconst 2, 1), (274, .iadd, 1), (275, .iaload, 1), (276, .invokevirtual 22, 3), (279, .if_icmp .eq 1544, 3), (282, .iconst 0, 1), (283, .ireturn, 1), (284, .aload_n 1, 1), (285, .aload_n 0, 1), (286, .iload_n 3, 1), (287, .iconst 1, 1), (288, .iadd, 1), (289, .iaload, 1), (290, .aload_n 0, 1), (291, .iload_n 3, 1), (292, .iconst 2, 1), (293, .iadd, 1), (294, .iaload, 1), (295, .ifCond .eq 7, 3), (298, .iconst 1, 1), (299, .goto 4, 3)] : List (Nat × Instr × Nat)).all (fun x => decide (decode cL_law x.1 = .ok x.2)) = true := by decide +kernel
theorem dL_law_252 : decode cL_law 252 = .ok (.aload_n 0, 1) := mm_dk kL_law_1 0 rfl
theorem dL_law_253 : decode cL_law 253 = .ok (.iload_n 3, 1) := mm_dk kL_law_1 1 rfl
theorem dL_law_254 : decode cL_law 254 = .ok (.iconst 1, 1) := mm_dk kL_law_1 2 rfl
theorem dL_law_255 : decode cL_law 255 = .ok (.iadd, 1) := mm_dk kL_law_1 3 rfl
theorem dL_law_256 : decode cL_law 256 = .ok (.iaload, 1) := mm_dk kL_law_1 4 rfl
theorem dL_law_257 : decode cL_law 257 = .ok (.aload_n 0, 1) := mm_dk kL_law_1 5 rfl
theorem dL_law_258 : decode cL_law 258 = .ok (.iload_n 3, 1) := mm_dk kL_law_1 6 rfl
theorem dL_law_259 : decode cL_law 259 = .ok (.iconst 2, 1) := mm_dk kL_law_1 7 rfl
theorem dL_law_260 : decode cL_law 260 = .ok (.iadd, 1) := mm_dk kL_law_1 8 rfl
theorem dL_law_261 : decode cL_law 261 = .ok (.iaload, 1) := mm_dk kL_law_1 9 rfl
theorem dL_law_262 : decode cL_law 262 = .ok (.invokevirtual 18, 3) := mm_dk kL_law_1 10 rfl
theorem dL_law_265 : decode cL_law 265 = .ok (.aload_n 2, 1) := mm_dk kL_law_1 11 rfl
theorem dL_law_266 : decode cL_law 266 = .ok (.aload_n 0, 1) := mm_dk kL_law_1 12 rfl
theorem dL_law_267 : decode cL_law 267 = .ok (.iload_n 3, 1) := mm_dk kL_law_1 13 rfl
theorem dL_law_268 : decode cL_law 268 = .ok (.iconst 1, 1) := mm_dk kL_law_1 14 rfl
theorem dL_law_269 : decode cL_law 269 = .ok (.iadd, 1) := mm_dk kL_law_1 15 rfl
theorem dL_law_270 : decode cL_law 270 = .ok (.iaload, 1) := mm_dk kL_law_1 16 rfl
theorem dL_law_271 : decode cL_law 271 = .ok (.aload_n 0, 1) := mm_dk kL_law_1 17 rfl
theorem dL_law_272 : decode cL_law 272 = .ok (.iload_n 3, 1) := mm_dk kL_law_1 18 rfl
theorem dL_law_273 : decode cL_law 273 = .ok (.iconst 2, 1) := mm_dk kL_law_1 19 rfl
theorem dL_law_274 : decode cL_law 274 = .ok (.iadd, 1) := mm_dk kL_law_1 20 rfl
theorem dL_law_275 : decode cL_law 275 = .ok (.iaload, 1) := mm_dk kL_law_1 21 rfl
theorem dL_law_276 : decode cL_law 276 = .ok (.invokevirtual 22, 3) := mm_dk kL_law_1 22 rfl
theorem dL_law_279 : decode cL_law 279 = .ok (.if_icmp .eq 1544, 3) := mm_dk kL_law_1 23 rfl
theorem dL_law_282 : decode cL_law 282 = .ok (.iconst 0, 1) := mm_dk kL_law_1 24 rfl
theorem dL_law_283 : decode cL_law 283 = .ok (.ireturn, 1) := mm_dk kL_law_1 25 rfl
theorem dL_law_284 : decode cL_law 284 = .ok (.aload_n 1, 1) := mm_dk kL_law_1 26 rfl
theorem dL_law_285 : decode cL_law 285 = .ok (.aload_n 0, 1) := mm_dk kL_law_1 27 rfl
theorem dL_law_286 : decode cL_law 286 = .ok (.iload_n 3, 1) := mm_dk kL_law_1 28 rfl
theorem dL_law_287 : decode cL_law 287 = .ok (.iconst 1, 1) := mm_dk kL_law_1 29 rfl
theorem dL_law_288 : decode cL_law 288 = .ok (.iadd, 1) := mm_dk kL_law_1 30 rfl
theorem dL_law_289 : decode cL_law 289 = .ok (.iaload, 1) := mm_dk kL_law_1 31 rfl
theorem dL_law_290 : decode cL_law 290 = .ok (.aload_n 0, 1) := mm_dk kL_law_1 32 rfl
theorem dL_law_291 : decode cL_law 291 = .ok (.iload_n 3, 1) := mm_dk kL_law_1 33 rfl
theorem dL_law_292 : decode cL_law 292 = .ok (.iconst 2, 1) := mm_dk kL_law_1 34 rfl
theorem dL_law_293 : decode cL_law 293 = .ok (.iadd, 1) := mm_dk kL_law_1 35 rfl
theorem dL_law_294 : decode cL_law 294 = .ok (.iaload, 1) := mm_dk kL_law_1 36 rfl
theorem dL_law_295 : decode cL_law 295 = .ok (.ifCond .eq 7, 3) := mm_dk kL_law_1 37 rfl
theorem dL_law_298 : decode cL_law 298 = .ok (.iconst 1, 1) := mm_dk kL_law_1 38 rfl
theorem dL_law_299 : decode cL_law 299 = .ok (.goto 4, 3) := mm_dk kL_law_1 39 rfl
set_option maxRecDepth 100000 in
theorem kL_law_2 : ([(302, .iconst 0, 1), (303, .invokevirtual 23, 3), (306, .aload_n 2, 1), (307, .aload_n 0, 1), (308, .iload_n 3, 1), (309, .iconst 1, 1), (310, .iadd, 1), (311, .iaload, 1), (312, .aload_n 0, 1), (313, .iload_n 3, 1), (314, .iconst 2, 1), (315, .iadd, 1), (316, .iaload, 1), (317, .ifCond .eq 7, 3), (320, .iconst 1, 1), (321, .goto 4, 3), (324, .iconst 0, 1), (325, .invokevirtual 27, 3), (328, .if_icmp .eq 1495, 3), (331, .iconst 0, 1), (332, .ireturn, 1), (333, .aload_n 1, 1), (334, .aload_n 0, 1), (335, .iload_n 3, 1), (336, .iconst 1, 1), (337, .iadd, 1), (338, .iaload, 1), (339, .aload_n 0, 1), (340, .iload_n 3, 1), (341, .iconst 2, 1), (342, .iadd, 1), (343, .iaload, 1), (344, .aload_n 0, 1), (345, .iload_n 3, 1), (346, .iconst 3, 1), (347, .iadd, 1), (348, .iaload, 1), (349, .invokevirtual 28, 3), (352, .aload_n 2, 1), (353, .aload_n 0, 1)] : List (Nat × Instr × Nat)).all (fun x => decide (decode cL_law x.1 = .ok x.2)) = true := by decide +kernel
theorem dL_law_302 : decode cL_law 302 = .ok (.iconst 0, 1) := mm_dk kL_law_2 0 rfl
theorem dL_law_303 : decode cL_law 303 = .ok (.invokevirtual 23, 3) := mm_dk kL_law_2 1 rfl
theorem dL_law_306 : decode cL_law 306 = .ok (.aload_n 2, 1) := mm_dk kL_law_2 2 rfl
theorem dL_law_307 : decode cL_law 307 = .ok (.aload_n 0, 1) := mm_dk kL_law_2 3 rfl
theorem dL_law_308 : decode cL_law 308 = .ok (.iload_n 3, 1) := mm_dk kL_law_2 4 rfl
theorem dL_law_309 : decode cL_law 309 = .ok (.iconst 1, 1) := mm_dk kL_law_2 5 rfl
theorem dL_law_310 : decode cL_law 310 = .ok (.iadd, 1) := mm_dk kL_law_2 6 rfl
theorem dL_law_311 : decode cL_law 311 = .ok (.iaload, 1) := mm_dk kL_law_2 7 rfl
theorem dL_law_312 : decode cL_law 312 = .ok (.aload_n 0, 1) := mm_dk kL_law_2 8 rfl
theorem dL_law_313 : decode cL_law 313 = .ok (.iload_n 3, 1) := mm_dk kL_law_2 9 rfl
theorem dL_law_314 : decode cL_law 314 = .ok (.iconst 2, 1) := mm_dk kL_law_2 10 rfl
theorem dL_law_315 : decode cL_law 315 = .ok (.iadd, 1) := mm_dk kL_law_2 11 rfl
theorem dL_law_316 : decode cL_law 316 = .ok (.iaload, 1) := mm_dk kL_law_2 12 rfl
theorem dL_law_317 : decode cL_law 317 = .ok (.ifCond .eq 7, 3) := mm_dk kL_law_2 13 rfl
theorem dL_law_320 : decode cL_law 320 = .ok (.iconst 1, 1) := mm_dk kL_law_2 14 rfl
theorem dL_law_321 : decode cL_law 321 = .ok (.goto 4, 3) := mm_dk kL_law_2 15 rfl
theorem dL_law_324 : decode cL_law 324 = .ok (.iconst 0, 1) := mm_dk kL_law_2 16 rfl
theorem dL_law_325 : decode cL_law 325 = .ok (.invokevirtual 27, 3) := mm_dk kL_law_2 17 rfl
theorem dL_law_328 : decode cL_law 328 = .ok (.if_icmp .eq 1495, 3) := mm_dk kL_law_2 18 rfl
theorem dL_law_331 : decode cL_law 331 = .ok (.iconst 0, 1) := mm_dk kL_law_2 19 rfl
theorem dL_law_332 : decode cL_law 332 = .ok (.ireturn, 1) := mm_dk kL_law_2 20 rfl
theorem dL_law_333 : decode cL_law 333 = .ok (.aload_n 1, 1) := mm_dk kL_law_2 21 rfl
theorem dL_law_334 : decode cL_law 334 = .ok (.aload_n 0, 1) := mm_dk kL_law_2 22 rfl
theorem dL_law_335 : decode cL_law 335 = .ok (.iload_n 3, 1) := mm_dk kL_law_2 23 rfl
theorem dL_law_336 : decode cL_law 336 = .ok (.iconst 1, 1) := mm_dk kL_law_2 24 rfl
theorem dL_law_337 : decode cL_law 337 = .ok (.iadd, 1) := mm_dk kL_law_2 25 rfl
theorem dL_law_338 : decode cL_law 338 = .ok (.iaload, 1) := mm_dk kL_law_2 26 rfl
theorem dL_law_339 : decode cL_law 339 = .ok (.aload_n 0, 1) := mm_dk kL_law_2 27 rfl
theorem dL_law_340 : decode cL_law 340 = .ok (.iload_n 3, 1) := mm_dk kL_law_2 28 rfl
theorem dL_law_341 : decode cL_law 341 = .ok (.iconst 2, 1) := mm_dk kL_law_2 29 rfl
theorem dL_law_342 : decode cL_law 342 = .ok (.iadd, 1) := mm_dk kL_law_2 30 rfl
theorem dL_law_343 : decode cL_law 343 = .ok (.iaload, 1) := mm_dk kL_law_2 31 rfl
theorem dL_law_344 : decode cL_law 344 = .ok (.aload_n 0, 1) := mm_dk kL_law_2 32 rfl
theorem dL_law_345 : decode cL_law 345 = .ok (.iload_n 3, 1) := mm_dk kL_law_2 33 rfl
theorem dL_law_346 : decode cL_law 346 = .ok (.iconst 3, 1) := mm_dk kL_law_2 34 rfl
theorem dL_law_347 : decode cL_law 347 = .ok (.iadd, 1) := mm_dk kL_law_2 35 rfl
theorem dL_law_348 : decode cL_law 348 = .ok (.iaload, 1) := mm_dk kL_law_2 36 rfl
theorem dL_law_349 : decode cL_law 349 = .ok (.invokevirtual 28, 3) := mm_dk kL_law_2 37 rfl
theorem dL_law_352 : decode cL_law 352 = .ok (.aload_n 2, 1) := mm_dk kL_law_2 38 rfl
theorem dL_law_353 : decode cL_law 353 = .ok (.aload_n 0, 1) := mm_dk kL_law_2 39 rfl
set_option maxRecDepth 100000 in
theorem kL_law_3 : ([(354, .iload_n 3, 1), (355, .iconst 1, 1), (356, .iadd, 1), (357, .iaload, 1), (358, .aload_n 0, 1), (359, .iload_n 3, 1), (360, .iconst 2, 1), (361, .iadd, 1), (362, .iaload, 1), (363, .aload_n 0, 1), (364, .iload_n 3, 1), (365, .iconst 3, 1), (366, .iadd, 1), (367, .iaload, 1), (368, .invokevirtual 32, 3), (371, .if_icmp .eq 1452, 3), (374, .iconst 0, 1), (375, .ireturn, 1), (376, .aload_n 1, 1), (377, .aload_n 0, 1), (378, .iload_n 3, 1), (379, .iconst 1, 1), (380, .iadd, 1), (381, .iaload, 1), (382, .aload_n 0, 1), (383, .iload_n 3, 1), (384, .iconst 2, 1), (385, .iadd, 1), (386, .iaload, 1), (387, .invokevirtual 33, 3), (390, .aload_n 2, 1), (391, .aload_n 0, 1), (392, .iload_n 3, 1), (393, .iconst 1, 1), (394, .iadd, 1), (395, .iaload, 1), (396, .aload_n 0, 1), (397, .iload_n 3, 1), (398, .iconst 2, 1), (399, .iadd, 1)] : List (Nat × Instr × Nat)).all (fun x => decide (decode cL_law x.1 = .ok x.2)) = true := by decide +kernel
theorem dL_law_354 : decode cL_law 354 = .ok (.iload_n 3, 1) := mm_dk kL_law_3 0 rfl
theorem dL_law_355 : decode cL_law 355 = .ok (.iconst 1, 1) := mm_dk kL_law_3 1 rfl
theorem dL_law_356 : decode cL_law 356 = .ok (.iadd, 1) := mm_dk kL_law_3 2 rfl
theorem dL_law_357 : decode cL_law 357 = .ok (.iaload, 1) := mm_dk kL_law_3 3 rfl
theorem dL_law_358 : decode cL_law 358 = .ok (.aload_n 0, 1) := mm_dk kL_law_3 4 rfl
theorem dL_law_359 : decode cL_law 359 = .ok (.iload_n 3, 1) := mm_dk kL_law_3 5 rfl
theorem dL_law_360 : decode cL_law 360 = .ok (.iconst 2, 1) := mm_dk kL_law_3 6 rfl
theorem dL_law_361 : decode cL_law 361 = .ok (.iadd, 1) := mm_dk kL_law_3 7 rfl
theorem dL_law_362 : decode cL_law 362 = .ok (.iaload, 1) := mm_dk kL_law_3 8 rfl
theorem dL_law_363 : decode cL_law 363 = .ok (.aload_n 0, 1) := mm_dk kL_law_3 9 rfl
theorem dL_law_364 : decode cL_law 364 = .ok (.iload_n 3, 1) := mm_dk kL_law_3 10 rfl
theorem dL_law_365 : decode cL_law 365 = .ok (.iconst 3, 1) := mm_dk kL_law_3 11 rfl
theorem dL_law_366 : decode cL_law 366 = .ok (.iadd, 1) := mm_dk kL_law_3 12 rfl
theorem dL_law_367 : decode cL_law 367 = .ok (.iaload, 1) := mm_dk kL_law_3 13 rfl
theorem dL_law_368 : decode cL_law 368 = .ok (.invokevirtual 32, 3) := mm_dk kL_law_3 14 rfl
theorem dL_law_371 : decode cL_law 371 = .ok (.if_icmp .eq 1452, 3) := mm_dk kL_law_3 15 rfl
theorem dL_law_374 : decode cL_law 374 = .ok (.iconst 0, 1) := mm_dk kL_law_3 16 rfl
theorem dL_law_375 : decode cL_law 375 = .ok (.ireturn, 1) := mm_dk kL_law_3 17 rfl
theorem dL_law_376 : decode cL_law 376 = .ok (.aload_n 1, 1) := mm_dk kL_law_3 18 rfl
theorem dL_law_377 : decode cL_law 377 = .ok (.aload_n 0, 1) := mm_dk kL_law_3 19 rfl
theorem dL_law_378 : decode cL_law 378 = .ok (.iload_n 3, 1) := mm_dk kL_law_3 20 rfl
theorem dL_law_379 : decode cL_law 379 = .ok (.iconst 1, 1) := mm_dk kL_law_3 21 rfl
theorem dL_law_380 : decode cL_law 380 = .ok (.iadd, 1) := mm_dk kL_law_3 22 rfl
theorem dL_law_381 : decode cL_law 381 = .ok (.iaload, 1) := mm_dk kL_law_3 23 rfl
theorem dL_law_382 : decode cL_law 382 = .ok (.aload_n 0, 1) := mm_dk kL_law_3 24 rfl
theorem dL_law_383 : decode cL_law 383 = .ok (.iload_n 3, 1) := mm_dk kL_law_3 25 rfl
theorem dL_law_384 : decode cL_law 384 = .ok (.iconst 2, 1) := mm_dk kL_law_3 26 rfl
theorem dL_law_385 : decode cL_law 385 = .ok (.iadd, 1) := mm_dk kL_law_3 27 rfl
theorem dL_law_386 : decode cL_law 386 = .ok (.iaload, 1) := mm_dk kL_law_3 28 rfl
theorem dL_law_387 : decode cL_law 387 = .ok (.invokevirtual 33, 3) := mm_dk kL_law_3 29 rfl
theorem dL_law_390 : decode cL_law 390 = .ok (.aload_n 2, 1) := mm_dk kL_law_3 30 rfl
theorem dL_law_391 : decode cL_law 391 = .ok (.aload_n 0, 1) := mm_dk kL_law_3 31 rfl
theorem dL_law_392 : decode cL_law 392 = .ok (.iload_n 3, 1) := mm_dk kL_law_3 32 rfl
theorem dL_law_393 : decode cL_law 393 = .ok (.iconst 1, 1) := mm_dk kL_law_3 33 rfl
theorem dL_law_394 : decode cL_law 394 = .ok (.iadd, 1) := mm_dk kL_law_3 34 rfl
theorem dL_law_395 : decode cL_law 395 = .ok (.iaload, 1) := mm_dk kL_law_3 35 rfl
theorem dL_law_396 : decode cL_law 396 = .ok (.aload_n 0, 1) := mm_dk kL_law_3 36 rfl
theorem dL_law_397 : decode cL_law 397 = .ok (.iload_n 3, 1) := mm_dk kL_law_3 37 rfl
theorem dL_law_398 : decode cL_law 398 = .ok (.iconst 2, 1) := mm_dk kL_law_3 38 rfl
theorem dL_law_399 : decode cL_law 399 = .ok (.iadd, 1) := mm_dk kL_law_3 39 rfl
set_option maxRecDepth 100000 in
theorem kL_law_4 : ([(400, .iaload, 1), (401, .invokevirtual 36, 3), (404, .if_icmp .eq 1419, 3), (407, .iconst 0, 1), (408, .ireturn, 1), (409, .aload_n 1, 1), (410, .aload_n 0, 1), (411, .iload_n 3, 1), (412, .iconst 1, 1), (413, .iadd, 1), (414, .iaload, 1), (415, .aload_n 0, 1), (416, .iload_n 3, 1), (417, .iconst 2, 1), (418, .iadd, 1), (419, .iaload, 1), (420, .ifCond .eq 7, 3), (423, .iconst 1, 1), (424, .goto 4, 3), (427, .iconst 0, 1), (428, .invokevirtual 37, 3), (431, .aload_n 2, 1), (432, .aload_n 0, 1), (433, .iload_n 3, 1), (434, .iconst 1, 1), (435, .iadd, 1), (436, .iaload, 1), (437, .aload_n 0, 1), (438, .iload_n 3, 1), (439, .iconst 2, 1), (440, .iadd, 1), (441, .iaload, 1), (442, .ifCond .eq 7, 3), (445, .iconst 1, 1), (446, .goto 4, 3), (449, .iconst 0, 1), (450, .invokevirtual 40, 3), (453, .if_icmp .eq 1370, 3), (456, .iconst 0, 1), (457, .ireturn, 1)] : List (Nat × Instr × Nat)).all (fun x => decide (decode cL_law x.1 = .ok x.2)) = true := by decide +kernel
theorem dL_law_400 : decode cL_law 400 = .ok (.iaload, 1) := mm_dk kL_law_4 0 rfl
theorem dL_law_401 : decode cL_law 401 = .ok (.invokevirtual 36, 3) := mm_dk kL_law_4 1 rfl
theorem dL_law_404 : decode cL_law 404 = .ok (.if_icmp .eq 1419, 3) := mm_dk kL_law_4 2 rfl
theorem dL_law_407 : decode cL_law 407 = .ok (.iconst 0, 1) := mm_dk kL_law_4 3 rfl
theorem dL_law_408 : decode cL_law 408 = .ok (.ireturn, 1) := mm_dk kL_law_4 4 rfl
theorem dL_law_409 : decode cL_law 409 = .ok (.aload_n 1, 1) := mm_dk kL_law_4 5 rfl
theorem dL_law_410 : decode cL_law 410 = .ok (.aload_n 0, 1) := mm_dk kL_law_4 6 rfl
theorem dL_law_411 : decode cL_law 411 = .ok (.iload_n 3, 1) := mm_dk kL_law_4 7 rfl
theorem dL_law_412 : decode cL_law 412 = .ok (.iconst 1, 1) := mm_dk kL_law_4 8 rfl
theorem dL_law_413 : decode cL_law 413 = .ok (.iadd, 1) := mm_dk kL_law_4 9 rfl
theorem dL_law_414 : decode cL_law 414 = .ok (.iaload, 1) := mm_dk kL_law_4 10 rfl
theorem dL_law_415 : decode cL_law 415 = .ok (.aload_n 0, 1) := mm_dk kL_law_4 11 rfl
theorem dL_law_416 : decode cL_law 416 = .ok (.iload_n 3, 1) := mm_dk kL_law_4 12 rfl
theorem dL_law_417 : decode cL_law 417 = .ok (.iconst 2, 1) := mm_dk kL_law_4 13 rfl
theorem dL_law_418 : decode cL_law 418 = .ok (.iadd, 1) := mm_dk kL_law_4 14 rfl
theorem dL_law_419 : decode cL_law 419 = .ok (.iaload, 1) := mm_dk kL_law_4 15 rfl
theorem dL_law_420 : decode cL_law 420 = .ok (.ifCond .eq 7, 3) := mm_dk kL_law_4 16 rfl
theorem dL_law_423 : decode cL_law 423 = .ok (.iconst 1, 1) := mm_dk kL_law_4 17 rfl
theorem dL_law_424 : decode cL_law 424 = .ok (.goto 4, 3) := mm_dk kL_law_4 18 rfl
theorem dL_law_427 : decode cL_law 427 = .ok (.iconst 0, 1) := mm_dk kL_law_4 19 rfl
theorem dL_law_428 : decode cL_law 428 = .ok (.invokevirtual 37, 3) := mm_dk kL_law_4 20 rfl
theorem dL_law_431 : decode cL_law 431 = .ok (.aload_n 2, 1) := mm_dk kL_law_4 21 rfl
theorem dL_law_432 : decode cL_law 432 = .ok (.aload_n 0, 1) := mm_dk kL_law_4 22 rfl
theorem dL_law_433 : decode cL_law 433 = .ok (.iload_n 3, 1) := mm_dk kL_law_4 23 rfl
theorem dL_law_434 : decode cL_law 434 = .ok (.iconst 1, 1) := mm_dk kL_law_4 24 rfl
theorem dL_law_435 : decode cL_law 435 = .ok (.iadd, 1) := mm_dk kL_law_4 25 rfl
theorem dL_law_436 : decode cL_law 436 = .ok (.iaload, 1) := mm_dk kL_law_4 26 rfl
theorem dL_law_437 : decode cL_law 437 = .ok (.aload_n 0, 1) := mm_dk kL_law_4 27 rfl
theorem dL_law_438 : decode cL_law 438 = .ok (.iload_n 3, 1) := mm_dk kL_law_4 28 rfl
theorem dL_law_439 : decode cL_law 439 = .ok (.iconst 2, 1) := mm_dk kL_law_4 29 rfl
theorem dL_law_440 : decode cL_law 440 = .ok (.iadd, 1) := mm_dk kL_law_4 30 rfl
theorem dL_law_441 : decode cL_law 441 = .ok (.iaload, 1) := mm_dk kL_law_4 31 rfl
theorem dL_law_442 : decode cL_law 442 = .ok (.ifCond .eq 7, 3) := mm_dk kL_law_4 32 rfl
theorem dL_law_445 : decode cL_law 445 = .ok (.iconst 1, 1) := mm_dk kL_law_4 33 rfl
theorem dL_law_446 : decode cL_law 446 = .ok (.goto 4, 3) := mm_dk kL_law_4 34 rfl
theorem dL_law_449 : decode cL_law 449 = .ok (.iconst 0, 1) := mm_dk kL_law_4 35 rfl
theorem dL_law_450 : decode cL_law 450 = .ok (.invokevirtual 40, 3) := mm_dk kL_law_4 36 rfl
theorem dL_law_453 : decode cL_law 453 = .ok (.if_icmp .eq 1370, 3) := mm_dk kL_law_4 37 rfl
theorem dL_law_456 : decode cL_law 456 = .ok (.iconst 0, 1) := mm_dk kL_law_4 38 rfl
theorem dL_law_457 : decode cL_law 457 = .ok (.ireturn, 1) := mm_dk kL_law_4 39 rfl
set_option maxRecDepth 100000 in
theorem kL_law_5 : ([(458, .aload_n 1, 1), (459, .aload_n 0, 1), (460, .iload_n 3, 1), (461, .iconst 1, 1), (462, .iadd, 1), (463, .iaload, 1), (464, .aload_n 0, 1), (465, .iload_n 3, 1), (466, .iconst 2, 1), (467, .iadd, 1), (468, .iaload, 1), (469, .invokevirtual 41, 3), (472, .aload_n 2, 1), (473, .aload_n 0, 1), (474, .iload_n 3, 1), (475, .iconst 1, 1), (476, .iadd, 1), (477, .iaload, 1), (478, .aload_n 0, 1), (479, .iload_n 3, 1), (480, .iconst 2, 1), (481, .iadd, 1), (482, .iaload, 1), (483, .invokevirtual 44, 3), (486, .if_icmp .eq 1337, 3), (489, .iconst 0, 1), (490, .ireturn, 1), (491, .aload_n 1, 1), (492, .aload_n 0, 1), (493, .iload_n 3, 1), (494, .iconst 1, 1), (495, .iadd, 1), (496, .iaload, 1), (497, .aload_n 0, 1), (498, .iload_n 3, 1), (499, .iconst 2, 1), (500, .iadd, 1), (501, .iaload, 1), (502, .invokevirtual 45, 3), (505, .aload_n 2, 1)] : List (Nat × Instr × Nat)).all (fun x => decide (decode cL_law x.1 = .ok x.2)) = true := by decide +kernel
theorem dL_law_458 : decode cL_law 458 = .ok (.aload_n 1, 1) := mm_dk kL_law_5 0 rfl
theorem dL_law_459 : decode cL_law 459 = .ok (.aload_n 0, 1) := mm_dk kL_law_5 1 rfl
theorem dL_law_460 : decode cL_law 460 = .ok (.iload_n 3, 1) := mm_dk kL_law_5 2 rfl
theorem dL_law_461 : decode cL_law 461 = .ok (.iconst 1, 1) := mm_dk kL_law_5 3 rfl
theorem dL_law_462 : decode cL_law 462 = .ok (.iadd, 1) := mm_dk kL_law_5 4 rfl
theorem dL_law_463 : decode cL_law 463 = .ok (.iaload, 1) := mm_dk kL_law_5 5 rfl
theorem dL_law_464 : decode cL_law 464 = .ok (.aload_n 0, 1) := mm_dk kL_law_5 6 rfl
theorem dL_law_465 : decode cL_law 465 = .ok (.iload_n 3, 1) := mm_dk kL_law_5 7 rfl
theorem dL_law_466 : decode cL_law 466 = .ok (.iconst 2, 1) := mm_dk kL_law_5 8 rfl
theorem dL_law_467 : decode cL_law 467 = .ok (.iadd, 1) := mm_dk kL_law_5 9 rfl
theorem dL_law_468 : decode cL_law 468 = .ok (.iaload, 1) := mm_dk kL_law_5 10 rfl
theorem dL_law_469 : decode cL_law 469 = .ok (.invokevirtual 41, 3) := mm_dk kL_law_5 11 rfl
theorem dL_law_472 : decode cL_law 472 = .ok (.aload_n 2, 1) := mm_dk kL_law_5 12 rfl
theorem dL_law_473 : decode cL_law 473 = .ok (.aload_n 0, 1) := mm_dk kL_law_5 13 rfl
theorem dL_law_474 : decode cL_law 474 = .ok (.iload_n 3, 1) := mm_dk kL_law_5 14 rfl
theorem dL_law_475 : decode cL_law 475 = .ok (.iconst 1, 1) := mm_dk kL_law_5 15 rfl
theorem dL_law_476 : decode cL_law 476 = .ok (.iadd, 1) := mm_dk kL_law_5 16 rfl
theorem dL_law_477 : decode cL_law 477 = .ok (.iaload, 1) := mm_dk kL_law_5 17 rfl
theorem dL_law_478 : decode cL_law 478 = .ok (.aload_n 0, 1) := mm_dk kL_law_5 18 rfl
theorem dL_law_479 : decode cL_law 479 = .ok (.iload_n 3, 1) := mm_dk kL_law_5 19 rfl
theorem dL_law_480 : decode cL_law 480 = .ok (.iconst 2, 1) := mm_dk kL_law_5 20 rfl
theorem dL_law_481 : decode cL_law 481 = .ok (.iadd, 1) := mm_dk kL_law_5 21 rfl
theorem dL_law_482 : decode cL_law 482 = .ok (.iaload, 1) := mm_dk kL_law_5 22 rfl
theorem dL_law_483 : decode cL_law 483 = .ok (.invokevirtual 44, 3) := mm_dk kL_law_5 23 rfl
theorem dL_law_486 : decode cL_law 486 = .ok (.if_icmp .eq 1337, 3) := mm_dk kL_law_5 24 rfl
theorem dL_law_489 : decode cL_law 489 = .ok (.iconst 0, 1) := mm_dk kL_law_5 25 rfl
theorem dL_law_490 : decode cL_law 490 = .ok (.ireturn, 1) := mm_dk kL_law_5 26 rfl
theorem dL_law_491 : decode cL_law 491 = .ok (.aload_n 1, 1) := mm_dk kL_law_5 27 rfl
theorem dL_law_492 : decode cL_law 492 = .ok (.aload_n 0, 1) := mm_dk kL_law_5 28 rfl
theorem dL_law_493 : decode cL_law 493 = .ok (.iload_n 3, 1) := mm_dk kL_law_5 29 rfl
theorem dL_law_494 : decode cL_law 494 = .ok (.iconst 1, 1) := mm_dk kL_law_5 30 rfl
theorem dL_law_495 : decode cL_law 495 = .ok (.iadd, 1) := mm_dk kL_law_5 31 rfl
theorem dL_law_496 : decode cL_law 496 = .ok (.iaload, 1) := mm_dk kL_law_5 32 rfl
theorem dL_law_497 : decode cL_law 497 = .ok (.aload_n 0, 1) := mm_dk kL_law_5 33 rfl
theorem dL_law_498 : decode cL_law 498 = .ok (.iload_n 3, 1) := mm_dk kL_law_5 34 rfl
theorem dL_law_499 : decode cL_law 499 = .ok (.iconst 2, 1) := mm_dk kL_law_5 35 rfl
theorem dL_law_500 : decode cL_law 500 = .ok (.iadd, 1) := mm_dk kL_law_5 36 rfl
theorem dL_law_501 : decode cL_law 501 = .ok (.iaload, 1) := mm_dk kL_law_5 37 rfl
theorem dL_law_502 : decode cL_law 502 = .ok (.invokevirtual 45, 3) := mm_dk kL_law_5 38 rfl
theorem dL_law_505 : decode cL_law 505 = .ok (.aload_n 2, 1) := mm_dk kL_law_5 39 rfl
set_option maxRecDepth 100000 in
theorem kL_law_6 : ([(506, .aload_n 0, 1), (507, .iload_n 3, 1), (508, .iconst 1, 1), (509, .iadd, 1), (510, .iaload, 1), (511, .aload_n 0, 1), (512, .iload_n 3, 1), (513, .iconst 2, 1), (514, .iadd, 1), (515, .iaload, 1), (516, .invokevirtual 48, 3), (519, .if_icmp .eq 1304, 3), (522, .iconst 0, 1), (523, .ireturn, 1), (524, .aload_n 1, 1), (525, .aload_n 0, 1), (526, .iload_n 3, 1), (527, .iconst 1, 1), (528, .iadd, 1), (529, .iaload, 1), (530, .aload_n 0, 1), (531, .iload_n 3, 1), (532, .iconst 2, 1), (533, .iadd, 1), (534, .iaload, 1), (535, .aload_n 0, 1), (536, .iload_n 3, 1), (537, .iconst 3, 1), (538, .iadd, 1), (539, .iaload, 1), (540, .aload_n 0, 1), (541, .iload_n 3, 1), (542, .iconst 4, 1), (543, .iadd, 1), (544, .iaload, 1), (545, .aload_n 0, 1), (546, .iload_n 3, 1), (547, .iconst 5, 1), (548, .iadd, 1), (549, .iaload, 1)] : List (Nat × Instr × Nat)).all (fun x => decide (decode cL_law x.1 = .ok x.2)) = true := by decide +kernel
theorem dL_law_506 : decode cL_law 506 = .ok (.aload_n 0, 1) := mm_dk kL_law_6 0 rfl
theorem dL_law_507 : decode cL_law 507 = .ok (.iload_n 3, 1) := mm_dk kL_law_6 1 rfl
theorem dL_law_508 : decode cL_law 508 = .ok (.iconst 1, 1) := mm_dk kL_law_6 2 rfl
theorem dL_law_509 : decode cL_law 509 = .ok (.iadd, 1) := mm_dk kL_law_6 3 rfl
theorem dL_law_510 : decode cL_law 510 = .ok (.iaload, 1) := mm_dk kL_law_6 4 rfl
theorem dL_law_511 : decode cL_law 511 = .ok (.aload_n 0, 1) := mm_dk kL_law_6 5 rfl
theorem dL_law_512 : decode cL_law 512 = .ok (.iload_n 3, 1) := mm_dk kL_law_6 6 rfl
theorem dL_law_513 : decode cL_law 513 = .ok (.iconst 2, 1) := mm_dk kL_law_6 7 rfl
theorem dL_law_514 : decode cL_law 514 = .ok (.iadd, 1) := mm_dk kL_law_6 8 rfl
theorem dL_law_515 : decode cL_law 515 = .ok (.iaload, 1) := mm_dk kL_law_6 9 rfl
theorem dL_law_516 : decode cL_law 516 = .ok (.invokevirtual 48, 3) := mm_dk kL_law_6 10 rfl
theorem dL_law_519 : decode cL_law 519 = .ok (.if_icmp .eq 1304, 3) := mm_dk kL_law_6 11 rfl
theorem dL_law_522 : decode cL_law 522 = .ok (.iconst 0, 1) := mm_dk kL_law_6 12 rfl
theorem dL_law_523 : decode cL_law 523 = .ok (.ireturn, 1) := mm_dk kL_law_6 13 rfl
theorem dL_law_524 : decode cL_law 524 = .ok (.aload_n 1, 1) := mm_dk kL_law_6 14 rfl
theorem dL_law_525 : decode cL_law 525 = .ok (.aload_n 0, 1) := mm_dk kL_law_6 15 rfl
theorem dL_law_526 : decode cL_law 526 = .ok (.iload_n 3, 1) := mm_dk kL_law_6 16 rfl
theorem dL_law_527 : decode cL_law 527 = .ok (.iconst 1, 1) := mm_dk kL_law_6 17 rfl
theorem dL_law_528 : decode cL_law 528 = .ok (.iadd, 1) := mm_dk kL_law_6 18 rfl
theorem dL_law_529 : decode cL_law 529 = .ok (.iaload, 1) := mm_dk kL_law_6 19 rfl
theorem dL_law_530 : decode cL_law 530 = .ok (.aload_n 0, 1) := mm_dk kL_law_6 20 rfl
theorem dL_law_531 : decode cL_law 531 = .ok (.iload_n 3, 1) := mm_dk kL_law_6 21 rfl
theorem dL_law_532 : decode cL_law 532 = .ok (.iconst 2, 1) := mm_dk kL_law_6 22 rfl
theorem dL_law_533 : decode cL_law 533 = .ok (.iadd, 1) := mm_dk kL_law_6 23 rfl
theorem dL_law_534 : decode cL_law 534 = .ok (.iaload, 1) := mm_dk kL_law_6 24 rfl
theorem dL_law_535 : decode cL_law 535 = .ok (.aload_n 0, 1) := mm_dk kL_law_6 25 rfl
theorem dL_law_536 : decode cL_law 536 = .ok (.iload_n 3, 1) := mm_dk kL_law_6 26 rfl
theorem dL_law_537 : decode cL_law 537 = .ok (.iconst 3, 1) := mm_dk kL_law_6 27 rfl
theorem dL_law_538 : decode cL_law 538 = .ok (.iadd, 1) := mm_dk kL_law_6 28 rfl
theorem dL_law_539 : decode cL_law 539 = .ok (.iaload, 1) := mm_dk kL_law_6 29 rfl
theorem dL_law_540 : decode cL_law 540 = .ok (.aload_n 0, 1) := mm_dk kL_law_6 30 rfl
theorem dL_law_541 : decode cL_law 541 = .ok (.iload_n 3, 1) := mm_dk kL_law_6 31 rfl
theorem dL_law_542 : decode cL_law 542 = .ok (.iconst 4, 1) := mm_dk kL_law_6 32 rfl
theorem dL_law_543 : decode cL_law 543 = .ok (.iadd, 1) := mm_dk kL_law_6 33 rfl
theorem dL_law_544 : decode cL_law 544 = .ok (.iaload, 1) := mm_dk kL_law_6 34 rfl
theorem dL_law_545 : decode cL_law 545 = .ok (.aload_n 0, 1) := mm_dk kL_law_6 35 rfl
theorem dL_law_546 : decode cL_law 546 = .ok (.iload_n 3, 1) := mm_dk kL_law_6 36 rfl
theorem dL_law_547 : decode cL_law 547 = .ok (.iconst 5, 1) := mm_dk kL_law_6 37 rfl
theorem dL_law_548 : decode cL_law 548 = .ok (.iadd, 1) := mm_dk kL_law_6 38 rfl
theorem dL_law_549 : decode cL_law 549 = .ok (.iaload, 1) := mm_dk kL_law_6 39 rfl
set_option maxRecDepth 100000 in
theorem kL_law_7 : ([(550, .invokevirtual 49, 3), (553, .aload_n 2, 1), (554, .aload_n 0, 1), (555, .iload_n 3, 1), (556, .iconst 1, 1), (557, .iadd, 1), (558, .iaload, 1), (559, .aload_n 0, 1), (560, .iload_n 3, 1), (561, .iconst 2, 1), (562, .iadd, 1), (563, .iaload, 1), (564, .aload_n 0, 1), (565, .iload_n 3, 1), (566, .iconst 3, 1), (567, .iadd, 1), (568, .iaload, 1), (569, .aload_n 0, 1), (570, .iload_n 3, 1), (571, .iconst 4, 1), (572, .iadd, 1), (573, .iaload, 1), (574, .aload_n 0, 1), (575, .iload_n 3, 1), (576, .iconst 5, 1), (577, .iadd, 1), (578, .iaload, 1), (579, .invokevirtual 53, 3), (582, .if_icmp .eq 1241, 3), (585, .iconst 0, 1), (586, .ireturn, 1), (587, .aload_n 1, 1), (588, .aload_n 0, 1), (589, .iload_n 3, 1), (590, .iconst 1, 1), (591, .iadd, 1), (592, .iaload, 1), (593, .invokevirtual 54, 3), (596, .aload_n 2, 1), (597, .aload_n 0, 1)] : List (Nat × Instr × Nat)).all (fun x => decide (decode cL_law x.1 = .ok x.2)) = true := by decide +kernel
theorem dL_law_550 : decode cL_law 550 = .ok (.invokevirtual 49, 3) := mm_dk kL_law_7 0 rfl
theorem dL_law_553 : decode cL_law 553 = .ok (.aload_n 2, 1) := mm_dk kL_law_7 1 rfl
theorem dL_law_554 : decode cL_law 554 = .ok (.aload_n 0, 1) := mm_dk kL_law_7 2 rfl
theorem dL_law_555 : decode cL_law 555 = .ok (.iload_n 3, 1) := mm_dk kL_law_7 3 rfl
theorem dL_law_556 : decode cL_law 556 = .ok (.iconst 1, 1) := mm_dk kL_law_7 4 rfl
theorem dL_law_557 : decode cL_law 557 = .ok (.iadd, 1) := mm_dk kL_law_7 5 rfl
theorem dL_law_558 : decode cL_law 558 = .ok (.iaload, 1) := mm_dk kL_law_7 6 rfl
theorem dL_law_559 : decode cL_law 559 = .ok (.aload_n 0, 1) := mm_dk kL_law_7 7 rfl
theorem dL_law_560 : decode cL_law 560 = .ok (.iload_n 3, 1) := mm_dk kL_law_7 8 rfl
theorem dL_law_561 : decode cL_law 561 = .ok (.iconst 2, 1) := mm_dk kL_law_7 9 rfl
theorem dL_law_562 : decode cL_law 562 = .ok (.iadd, 1) := mm_dk kL_law_7 10 rfl
theorem dL_law_563 : decode cL_law 563 = .ok (.iaload, 1) := mm_dk kL_law_7 11 rfl
theorem dL_law_564 : decode cL_law 564 = .ok (.aload_n 0, 1) := mm_dk kL_law_7 12 rfl
theorem dL_law_565 : decode cL_law 565 = .ok (.iload_n 3, 1) := mm_dk kL_law_7 13 rfl
theorem dL_law_566 : decode cL_law 566 = .ok (.iconst 3, 1) := mm_dk kL_law_7 14 rfl
theorem dL_law_567 : decode cL_law 567 = .ok (.iadd, 1) := mm_dk kL_law_7 15 rfl
theorem dL_law_568 : decode cL_law 568 = .ok (.iaload, 1) := mm_dk kL_law_7 16 rfl
theorem dL_law_569 : decode cL_law 569 = .ok (.aload_n 0, 1) := mm_dk kL_law_7 17 rfl
theorem dL_law_570 : decode cL_law 570 = .ok (.iload_n 3, 1) := mm_dk kL_law_7 18 rfl
theorem dL_law_571 : decode cL_law 571 = .ok (.iconst 4, 1) := mm_dk kL_law_7 19 rfl
theorem dL_law_572 : decode cL_law 572 = .ok (.iadd, 1) := mm_dk kL_law_7 20 rfl
theorem dL_law_573 : decode cL_law 573 = .ok (.iaload, 1) := mm_dk kL_law_7 21 rfl
theorem dL_law_574 : decode cL_law 574 = .ok (.aload_n 0, 1) := mm_dk kL_law_7 22 rfl
theorem dL_law_575 : decode cL_law 575 = .ok (.iload_n 3, 1) := mm_dk kL_law_7 23 rfl
theorem dL_law_576 : decode cL_law 576 = .ok (.iconst 5, 1) := mm_dk kL_law_7 24 rfl
theorem dL_law_577 : decode cL_law 577 = .ok (.iadd, 1) := mm_dk kL_law_7 25 rfl
theorem dL_law_578 : decode cL_law 578 = .ok (.iaload, 1) := mm_dk kL_law_7 26 rfl
theorem dL_law_579 : decode cL_law 579 = .ok (.invokevirtual 53, 3) := mm_dk kL_law_7 27 rfl
theorem dL_law_582 : decode cL_law 582 = .ok (.if_icmp .eq 1241, 3) := mm_dk kL_law_7 28 rfl
theorem dL_law_585 : decode cL_law 585 = .ok (.iconst 0, 1) := mm_dk kL_law_7 29 rfl
theorem dL_law_586 : decode cL_law 586 = .ok (.ireturn, 1) := mm_dk kL_law_7 30 rfl
theorem dL_law_587 : decode cL_law 587 = .ok (.aload_n 1, 1) := mm_dk kL_law_7 31 rfl
theorem dL_law_588 : decode cL_law 588 = .ok (.aload_n 0, 1) := mm_dk kL_law_7 32 rfl
theorem dL_law_589 : decode cL_law 589 = .ok (.iload_n 3, 1) := mm_dk kL_law_7 33 rfl
theorem dL_law_590 : decode cL_law 590 = .ok (.iconst 1, 1) := mm_dk kL_law_7 34 rfl
theorem dL_law_591 : decode cL_law 591 = .ok (.iadd, 1) := mm_dk kL_law_7 35 rfl
theorem dL_law_592 : decode cL_law 592 = .ok (.iaload, 1) := mm_dk kL_law_7 36 rfl
theorem dL_law_593 : decode cL_law 593 = .ok (.invokevirtual 54, 3) := mm_dk kL_law_7 37 rfl
theorem dL_law_596 : decode cL_law 596 = .ok (.aload_n 2, 1) := mm_dk kL_law_7 38 rfl
theorem dL_law_597 : decode cL_law 597 = .ok (.aload_n 0, 1) := mm_dk kL_law_7 39 rfl
set_option maxRecDepth 100000 in
theorem kL_law_8 : ([(598, .iload_n 3, 1), (599, .iconst 1, 1), (600, .iadd, 1), (601, .iaload, 1), (602, .invokevirtual 57, 3), (605, .if_icmp .eq 1218, 3), (608, .iconst 0, 1), (609, .ireturn, 1), (610, .aload_n 1, 1), (611, .aload_n 0, 1), (612, .iload_n 3, 1), (613, .iconst 1, 1), (614, .iadd, 1), (615, .iaload, 1), (616, .aload_n 0, 1), (617, .iload_n 3, 1), (618, .iconst 2, 1), (619, .iadd, 1), (620, .iaload, 1), (621, .aload_n 0, 1), (622, .iload_n 3, 1), (623, .iconst 3, 1), (624, .iadd, 1), (625, .iaload, 1), (626, .invokevirtual 58, 3), (629, .aload_n 2, 1), (630, .aload_n 0, 1), (631, .iload_n 3, 1), (632, .iconst 1, 1), (633, .iadd, 1), (634, .iaload, 1), (635, .aload_n 0, 1), (636, .iload_n 3, 1), (637, .iconst 2, 1), (638, .iadd, 1), (639, .iaload, 1), (640, .aload_n 0, 1), (641, .iload_n 3, 1), (642, .iconst 3, 1), (643, .iadd, 1)] : List (Nat × Instr × Nat)).all (fun x => decide (decode cL_law x.1 = .ok x.2)) = true := by decide +kernel
theorem dL_law_598 : decode cL_law 598 = .ok (.iload_n 3, 1) := mm_dk kL_law_8 0 rfl
theorem dL_law_599 : decode cL_law 599 = .ok (.iconst 1, 1) := mm_dk kL_law_8 1 rfl
theorem dL_law_600 : decode cL_law 600 = .ok (.iadd, 1) := mm_dk kL_law_8 2 rfl
theorem dL_law_601 : decode cL_law 601 = .ok (.iaload, 1) := mm_dk kL_law_8 3 rfl
theorem dL_law_602 : decode cL_law 602 = .ok (.invokevirtual 57, 3) := mm_dk kL_law_8 4 rfl
theorem dL_law_605 : decode cL_law 605 = .ok (.if_icmp .eq 1218, 3) := mm_dk kL_law_8 5 rfl
theorem dL_law_608 : decode cL_law 608 = .ok (.iconst 0, 1) := mm_dk kL_law_8 6 rfl
theorem dL_law_609 : decode cL_law 609 = .ok (.ireturn, 1) := mm_dk kL_law_8 7 rfl
theorem dL_law_610 : decode cL_law 610 = .ok (.aload_n 1, 1) := mm_dk kL_law_8 8 rfl
theorem dL_law_611 : decode cL_law 611 = .ok (.aload_n 0, 1) := mm_dk kL_law_8 9 rfl
theorem dL_law_612 : decode cL_law 612 = .ok (.iload_n 3, 1) := mm_dk kL_law_8 10 rfl
theorem dL_law_613 : decode cL_law 613 = .ok (.iconst 1, 1) := mm_dk kL_law_8 11 rfl
theorem dL_law_614 : decode cL_law 614 = .ok (.iadd, 1) := mm_dk kL_law_8 12 rfl
theorem dL_law_615 : decode cL_law 615 = .ok (.iaload, 1) := mm_dk kL_law_8 13 rfl
theorem dL_law_616 : decode cL_law 616 = .ok (.aload_n 0, 1) := mm_dk kL_law_8 14 rfl
theorem dL_law_617 : decode cL_law 617 = .ok (.iload_n 3, 1) := mm_dk kL_law_8 15 rfl
theorem dL_law_618 : decode cL_law 618 = .ok (.iconst 2, 1) := mm_dk kL_law_8 16 rfl
theorem dL_law_619 : decode cL_law 619 = .ok (.iadd, 1) := mm_dk kL_law_8 17 rfl
theorem dL_law_620 : decode cL_law 620 = .ok (.iaload, 1) := mm_dk kL_law_8 18 rfl
theorem dL_law_621 : decode cL_law 621 = .ok (.aload_n 0, 1) := mm_dk kL_law_8 19 rfl
theorem dL_law_622 : decode cL_law 622 = .ok (.iload_n 3, 1) := mm_dk kL_law_8 20 rfl
theorem dL_law_623 : decode cL_law 623 = .ok (.iconst 3, 1) := mm_dk kL_law_8 21 rfl
theorem dL_law_624 : decode cL_law 624 = .ok (.iadd, 1) := mm_dk kL_law_8 22 rfl
theorem dL_law_625 : decode cL_law 625 = .ok (.iaload, 1) := mm_dk kL_law_8 23 rfl
theorem dL_law_626 : decode cL_law 626 = .ok (.invokevirtual 58, 3) := mm_dk kL_law_8 24 rfl
theorem dL_law_629 : decode cL_law 629 = .ok (.aload_n 2, 1) := mm_dk kL_law_8 25 rfl
theorem dL_law_630 : decode cL_law 630 = .ok (.aload_n 0, 1) := mm_dk kL_law_8 26 rfl
theorem dL_law_631 : decode cL_law 631 = .ok (.iload_n 3, 1) := mm_dk kL_law_8 27 rfl
theorem dL_law_632 : decode cL_law 632 = .ok (.iconst 1, 1) := mm_dk kL_law_8 28 rfl
theorem dL_law_633 : decode cL_law 633 = .ok (.iadd, 1) := mm_dk kL_law_8 29 rfl
theorem dL_law_634 : decode cL_law 634 = .ok (.iaload, 1) := mm_dk kL_law_8 30 rfl
theorem dL_law_635 : decode cL_law 635 = .ok (.aload_n 0, 1) := mm_dk kL_law_8 31 rfl
theorem dL_law_636 : decode cL_law 636 = .ok (.iload_n 3, 1) := mm_dk kL_law_8 32 rfl
theorem dL_law_637 : decode cL_law 637 = .ok (.iconst 2, 1) := mm_dk kL_law_8 33 rfl
theorem dL_law_638 : decode cL_law 638 = .ok (.iadd, 1) := mm_dk kL_law_8 34 rfl
theorem dL_law_639 : decode cL_law 639 = .ok (.iaload, 1) := mm_dk kL_law_8 35 rfl
theorem dL_law_640 : decode cL_law 640 = .ok (.aload_n 0, 1) := mm_dk kL_law_8 36 rfl
theorem dL_law_641 : decode cL_law 641 = .ok (.iload_n 3, 1) := mm_dk kL_law_8 37 rfl
theorem dL_law_642 : decode cL_law 642 = .ok (.iconst 3, 1) := mm_dk kL_law_8 38 rfl
theorem dL_law_643 : decode cL_law 643 = .ok (.iadd, 1) := mm_dk kL_law_8 39 rfl
set_option maxRecDepth 100000 in
theorem kL_law_9 : ([(644, .iaload, 1), (645, .invokevirtual 61, 3), (648, .if_icmp .eq 1175, 3), (651, .iconst 0, 1), (652, .ireturn, 1), (653, .aload_n 1, 1), (654, .aload_n 0, 1), (655, .iload_n 3, 1), (656, .iconst 1, 1), (657, .iadd, 1), (658, .iaload, 1), (659, .aload_n 0, 1), (660, .iload_n 3, 1), (661, .iconst 2, 1), (662, .iadd, 1), (663, .iaload, 1), (664, .invokevirtual 62, 3), (667, .aload_n 2, 1), (668, .aload_n 0, 1), (669, .iload_n 3, 1), (670, .iconst 1, 1), (671, .iadd, 1), (672, .iaload, 1), (673, .aload_n 0, 1), (674, .iload_n 3, 1), (675, .iconst 2, 1), (676, .iadd, 1), (677, .iaload, 1), (678, .invokevirtual 65, 3), (681, .if_icmp .eq 1142, 3), (684, .iconst 0, 1), (685, .ireturn, 1), (686, .aload_n 1, 1), (687, .aload_n 0, 1), (688, .iload_n 3, 1), (689, .iconst 1, 1), (690, .iadd, 1), (691, .iaload, 1), (692, .aload_n 0, 1), (693, .iload_n 3, 1)] : List (Nat × Instr × Nat)).all (fun x => decide (decode cL_law x.1 = .ok x.2)) = true := by decide +kernel
theorem dL_law_644 : decode cL_law 644 = .ok (.iaload, 1) := mm_dk kL_law_9 0 rfl
theorem dL_law_645 : decode cL_law 645 = .ok (.invokevirtual 61, 3) := mm_dk kL_law_9 1 rfl
theorem dL_law_648 : decode cL_law 648 = .ok (.if_icmp .eq 1175, 3) := mm_dk kL_law_9 2 rfl
theorem dL_law_651 : decode cL_law 651 = .ok (.iconst 0, 1) := mm_dk kL_law_9 3 rfl
theorem dL_law_652 : decode cL_law 652 = .ok (.ireturn, 1) := mm_dk kL_law_9 4 rfl
theorem dL_law_653 : decode cL_law 653 = .ok (.aload_n 1, 1) := mm_dk kL_law_9 5 rfl
theorem dL_law_654 : decode cL_law 654 = .ok (.aload_n 0, 1) := mm_dk kL_law_9 6 rfl
theorem dL_law_655 : decode cL_law 655 = .ok (.iload_n 3, 1) := mm_dk kL_law_9 7 rfl
theorem dL_law_656 : decode cL_law 656 = .ok (.iconst 1, 1) := mm_dk kL_law_9 8 rfl
theorem dL_law_657 : decode cL_law 657 = .ok (.iadd, 1) := mm_dk kL_law_9 9 rfl
theorem dL_law_658 : decode cL_law 658 = .ok (.iaload, 1) := mm_dk kL_law_9 10 rfl
theorem dL_law_659 : decode cL_law 659 = .ok (.aload_n 0, 1) := mm_dk kL_law_9 11 rfl
theorem dL_law_660 : decode cL_law 660 = .ok (.iload_n 3, 1) := mm_dk kL_law_9 12 rfl
theorem dL_law_661 : decode cL_law 661 = .ok (.iconst 2, 1) := mm_dk kL_law_9 13 rfl
theorem dL_law_662 : decode cL_law 662 = .ok (.iadd, 1) := mm_dk kL_law_9 14 rfl
theorem dL_law_663 : decode cL_law 663 = .ok (.iaload, 1) := mm_dk kL_law_9 15 rfl
theorem dL_law_664 : decode cL_law 664 = .ok (.invokevirtual 62, 3) := mm_dk kL_law_9 16 rfl
theorem dL_law_667 : decode cL_law 667 = .ok (.aload_n 2, 1) := mm_dk kL_law_9 17 rfl
theorem dL_law_668 : decode cL_law 668 = .ok (.aload_n 0, 1) := mm_dk kL_law_9 18 rfl
theorem dL_law_669 : decode cL_law 669 = .ok (.iload_n 3, 1) := mm_dk kL_law_9 19 rfl
theorem dL_law_670 : decode cL_law 670 = .ok (.iconst 1, 1) := mm_dk kL_law_9 20 rfl
theorem dL_law_671 : decode cL_law 671 = .ok (.iadd, 1) := mm_dk kL_law_9 21 rfl
theorem dL_law_672 : decode cL_law 672 = .ok (.iaload, 1) := mm_dk kL_law_9 22 rfl
theorem dL_law_673 : decode cL_law 673 = .ok (.aload_n 0, 1) := mm_dk kL_law_9 23 rfl
theorem dL_law_674 : decode cL_law 674 = .ok (.iload_n 3, 1) := mm_dk kL_law_9 24 rfl
theorem dL_law_675 : decode cL_law 675 = .ok (.iconst 2, 1) := mm_dk kL_law_9 25 rfl
theorem dL_law_676 : decode cL_law 676 = .ok (.iadd, 1) := mm_dk kL_law_9 26 rfl
theorem dL_law_677 : decode cL_law 677 = .ok (.iaload, 1) := mm_dk kL_law_9 27 rfl
theorem dL_law_678 : decode cL_law 678 = .ok (.invokevirtual 65, 3) := mm_dk kL_law_9 28 rfl
theorem dL_law_681 : decode cL_law 681 = .ok (.if_icmp .eq 1142, 3) := mm_dk kL_law_9 29 rfl
theorem dL_law_684 : decode cL_law 684 = .ok (.iconst 0, 1) := mm_dk kL_law_9 30 rfl
theorem dL_law_685 : decode cL_law 685 = .ok (.ireturn, 1) := mm_dk kL_law_9 31 rfl
theorem dL_law_686 : decode cL_law 686 = .ok (.aload_n 1, 1) := mm_dk kL_law_9 32 rfl
theorem dL_law_687 : decode cL_law 687 = .ok (.aload_n 0, 1) := mm_dk kL_law_9 33 rfl
theorem dL_law_688 : decode cL_law 688 = .ok (.iload_n 3, 1) := mm_dk kL_law_9 34 rfl
theorem dL_law_689 : decode cL_law 689 = .ok (.iconst 1, 1) := mm_dk kL_law_9 35 rfl
theorem dL_law_690 : decode cL_law 690 = .ok (.iadd, 1) := mm_dk kL_law_9 36 rfl
theorem dL_law_691 : decode cL_law 691 = .ok (.iaload, 1) := mm_dk kL_law_9 37 rfl
theorem dL_law_692 : decode cL_law 692 = .ok (.aload_n 0, 1) := mm_dk kL_law_9 38 rfl
theorem dL_law_693 : decode cL_law 693 = .ok (.iload_n 3, 1) := mm_dk kL_law_9 39 rfl
set_option maxRecDepth 100000 in
theorem kL_law_10 : ([(694, .iconst 2, 1), (695, .iadd, 1), (696, .iaload, 1), (697, .aload_n 0, 1), (698, .iload_n 3, 1), (699, .iconst 3, 1), (700, .iadd, 1), (701, .iaload, 1), (702, .aload_n 0, 1), (703, .iload_n 3, 1), (704, .iconst 4, 1), (705, .iadd, 1), (706, .iaload, 1), (707, .ifCond .eq 7, 3), (710, .iconst 1, 1), (711, .goto 4, 3), (714, .iconst 0, 1), (715, .invokevirtual 66, 3), (718, .aload_n 2, 1), (719, .aload_n 0, 1), (720, .iload_n 3, 1), (721, .iconst 1, 1), (722, .iadd, 1), (723, .iaload, 1), (724, .aload_n 0, 1), (725, .iload_n 3, 1), (726, .iconst 2, 1), (727, .iadd, 1), (728, .iaload, 1), (729, .aload_n 0, 1), (730, .iload_n 3, 1), (731, .iconst 3, 1), (732, .iadd, 1), (733, .iaload, 1), (734, .aload_n 0, 1), (735, .iload_n 3, 1), (736, .iconst 4, 1), (737, .iadd, 1), (738, .iaload, 1), (739, .ifCond .eq 7, 3)] : List (Nat × Instr × Nat)).all (fun x => decide (decode cL_law x.1 = .ok x.2)) = true := by decide +kernel
theorem dL_law_694 : decode cL_law 694 = .ok (.iconst 2, 1) := mm_dk kL_law_10 0 rfl
theorem dL_law_695 : decode cL_law 695 = .ok (.iadd, 1) := mm_dk kL_law_10 1 rfl
theorem dL_law_696 : decode cL_law 696 = .ok (.iaload, 1) := mm_dk kL_law_10 2 rfl
theorem dL_law_697 : decode cL_law 697 = .ok (.aload_n 0, 1) := mm_dk kL_law_10 3 rfl
theorem dL_law_698 : decode cL_law 698 = .ok (.iload_n 3, 1) := mm_dk kL_law_10 4 rfl
theorem dL_law_699 : decode cL_law 699 = .ok (.iconst 3, 1) := mm_dk kL_law_10 5 rfl
theorem dL_law_700 : decode cL_law 700 = .ok (.iadd, 1) := mm_dk kL_law_10 6 rfl
theorem dL_law_701 : decode cL_law 701 = .ok (.iaload, 1) := mm_dk kL_law_10 7 rfl
theorem dL_law_702 : decode cL_law 702 = .ok (.aload_n 0, 1) := mm_dk kL_law_10 8 rfl
theorem dL_law_703 : decode cL_law 703 = .ok (.iload_n 3, 1) := mm_dk kL_law_10 9 rfl
theorem dL_law_704 : decode cL_law 704 = .ok (.iconst 4, 1) := mm_dk kL_law_10 10 rfl
theorem dL_law_705 : decode cL_law 705 = .ok (.iadd, 1) := mm_dk kL_law_10 11 rfl
theorem dL_law_706 : decode cL_law 706 = .ok (.iaload, 1) := mm_dk kL_law_10 12 rfl
theorem dL_law_707 : decode cL_law 707 = .ok (.ifCond .eq 7, 3) := mm_dk kL_law_10 13 rfl
theorem dL_law_710 : decode cL_law 710 = .ok (.iconst 1, 1) := mm_dk kL_law_10 14 rfl
theorem dL_law_711 : decode cL_law 711 = .ok (.goto 4, 3) := mm_dk kL_law_10 15 rfl
theorem dL_law_714 : decode cL_law 714 = .ok (.iconst 0, 1) := mm_dk kL_law_10 16 rfl
theorem dL_law_715 : decode cL_law 715 = .ok (.invokevirtual 66, 3) := mm_dk kL_law_10 17 rfl
theorem dL_law_718 : decode cL_law 718 = .ok (.aload_n 2, 1) := mm_dk kL_law_10 18 rfl
theorem dL_law_719 : decode cL_law 719 = .ok (.aload_n 0, 1) := mm_dk kL_law_10 19 rfl
theorem dL_law_720 : decode cL_law 720 = .ok (.iload_n 3, 1) := mm_dk kL_law_10 20 rfl
theorem dL_law_721 : decode cL_law 721 = .ok (.iconst 1, 1) := mm_dk kL_law_10 21 rfl
theorem dL_law_722 : decode cL_law 722 = .ok (.iadd, 1) := mm_dk kL_law_10 22 rfl
theorem dL_law_723 : decode cL_law 723 = .ok (.iaload, 1) := mm_dk kL_law_10 23 rfl
theorem dL_law_724 : decode cL_law 724 = .ok (.aload_n 0, 1) := mm_dk kL_law_10 24 rfl
theorem dL_law_725 : decode cL_law 725 = .ok (.iload_n 3, 1) := mm_dk kL_law_10 25 rfl
theorem dL_law_726 : decode cL_law 726 = .ok (.iconst 2, 1) := mm_dk kL_law_10 26 rfl
theorem dL_law_727 : decode cL_law 727 = .ok (.iadd, 1) := mm_dk kL_law_10 27 rfl
theorem dL_law_728 : decode cL_law 728 = .ok (.iaload, 1) := mm_dk kL_law_10 28 rfl
theorem dL_law_729 : decode cL_law 729 = .ok (.aload_n 0, 1) := mm_dk kL_law_10 29 rfl
theorem dL_law_730 : decode cL_law 730 = .ok (.iload_n 3, 1) := mm_dk kL_law_10 30 rfl
theorem dL_law_731 : decode cL_law 731 = .ok (.iconst 3, 1) := mm_dk kL_law_10 31 rfl
theorem dL_law_732 : decode cL_law 732 = .ok (.iadd, 1) := mm_dk kL_law_10 32 rfl
theorem dL_law_733 : decode cL_law 733 = .ok (.iaload, 1) := mm_dk kL_law_10 33 rfl
theorem dL_law_734 : decode cL_law 734 = .ok (.aload_n 0, 1) := mm_dk kL_law_10 34 rfl
theorem dL_law_735 : decode cL_law 735 = .ok (.iload_n 3, 1) := mm_dk kL_law_10 35 rfl
theorem dL_law_736 : decode cL_law 736 = .ok (.iconst 4, 1) := mm_dk kL_law_10 36 rfl
theorem dL_law_737 : decode cL_law 737 = .ok (.iadd, 1) := mm_dk kL_law_10 37 rfl
theorem dL_law_738 : decode cL_law 738 = .ok (.iaload, 1) := mm_dk kL_law_10 38 rfl
theorem dL_law_739 : decode cL_law 739 = .ok (.ifCond .eq 7, 3) := mm_dk kL_law_10 39 rfl
set_option maxRecDepth 100000 in
theorem kL_law_11 : ([(742, .iconst 1, 1), (743, .goto 4, 3), (746, .iconst 0, 1), (747, .invokevirtual 70, 3), (750, .lcmp, 1), (751, .ifCond .eq 1072, 3), (754, .iconst 0, 1), (755, .ireturn, 1), (756, .aload_n 1, 1), (757, .aload_n 0, 1), (758, .iload_n 3, 1), (759, .iconst 1, 1), (760, .iadd, 1), (761, .iaload, 1), (762, .aload_n 0, 1), (763, .iload_n 3, 1), (764, .iconst 2, 1), (765, .iadd, 1), (766, .iaload, 1), (767, .invokevirtual 71, 3), (770, .aload_n 2, 1), (771, .aload_n 0, 1), (772, .iload_n 3, 1), (773, .iconst 1, 1), (774, .iadd, 1), (775, .iaload, 1), (776, .aload_n 0, 1), (777, .iload_n 3, 1), (778, .iconst 2, 1), (779, .iadd, 1), (780, .iaload, 1), (781, .invokevirtual 74, 3), (784, .if_icmp .eq 1039, 3), (787, .iconst 0, 1), (788, .ireturn, 1), (789, .aload_n 1, 1), (790, .aload_n 0, 1), (791, .iload_n 3, 1), (792, .iconst 1, 1), (793, .iadd, 1)] : List (Nat × Instr × Nat)).all (fun x => decide (decode cL_law x.1 = .ok x.2)) = true := by decide +kernel
theorem dL_law_742 : decode cL_law 742 = .ok (.iconst 1, 1) := mm_dk kL_law_11 0 rfl
theorem dL_law_743 : decode cL_law 743 = .ok (.goto 4, 3) := mm_dk kL_law_11 1 rfl
theorem dL_law_746 : decode cL_law 746 = .ok (.iconst 0, 1) := mm_dk kL_law_11 2 rfl
theorem dL_law_747 : decode cL_law 747 = .ok (.invokevirtual 70, 3) := mm_dk kL_law_11 3 rfl
theorem dL_law_750 : decode cL_law 750 = .ok (.lcmp, 1) := mm_dk kL_law_11 4 rfl
theorem dL_law_751 : decode cL_law 751 = .ok (.ifCond .eq 1072, 3) := mm_dk kL_law_11 5 rfl
theorem dL_law_754 : decode cL_law 754 = .ok (.iconst 0, 1) := mm_dk kL_law_11 6 rfl
theorem dL_law_755 : decode cL_law 755 = .ok (.ireturn, 1) := mm_dk kL_law_11 7 rfl
theorem dL_law_756 : decode cL_law 756 = .ok (.aload_n 1, 1) := mm_dk kL_law_11 8 rfl
theorem dL_law_757 : decode cL_law 757 = .ok (.aload_n 0, 1) := mm_dk kL_law_11 9 rfl
theorem dL_law_758 : decode cL_law 758 = .ok (.iload_n 3, 1) := mm_dk kL_law_11 10 rfl
theorem dL_law_759 : decode cL_law 759 = .ok (.iconst 1, 1) := mm_dk kL_law_11 11 rfl
theorem dL_law_760 : decode cL_law 760 = .ok (.iadd, 1) := mm_dk kL_law_11 12 rfl
theorem dL_law_761 : decode cL_law 761 = .ok (.iaload, 1) := mm_dk kL_law_11 13 rfl
theorem dL_law_762 : decode cL_law 762 = .ok (.aload_n 0, 1) := mm_dk kL_law_11 14 rfl
theorem dL_law_763 : decode cL_law 763 = .ok (.iload_n 3, 1) := mm_dk kL_law_11 15 rfl
theorem dL_law_764 : decode cL_law 764 = .ok (.iconst 2, 1) := mm_dk kL_law_11 16 rfl
theorem dL_law_765 : decode cL_law 765 = .ok (.iadd, 1) := mm_dk kL_law_11 17 rfl
theorem dL_law_766 : decode cL_law 766 = .ok (.iaload, 1) := mm_dk kL_law_11 18 rfl
theorem dL_law_767 : decode cL_law 767 = .ok (.invokevirtual 71, 3) := mm_dk kL_law_11 19 rfl
theorem dL_law_770 : decode cL_law 770 = .ok (.aload_n 2, 1) := mm_dk kL_law_11 20 rfl
theorem dL_law_771 : decode cL_law 771 = .ok (.aload_n 0, 1) := mm_dk kL_law_11 21 rfl
theorem dL_law_772 : decode cL_law 772 = .ok (.iload_n 3, 1) := mm_dk kL_law_11 22 rfl
theorem dL_law_773 : decode cL_law 773 = .ok (.iconst 1, 1) := mm_dk kL_law_11 23 rfl
theorem dL_law_774 : decode cL_law 774 = .ok (.iadd, 1) := mm_dk kL_law_11 24 rfl
theorem dL_law_775 : decode cL_law 775 = .ok (.iaload, 1) := mm_dk kL_law_11 25 rfl
theorem dL_law_776 : decode cL_law 776 = .ok (.aload_n 0, 1) := mm_dk kL_law_11 26 rfl
theorem dL_law_777 : decode cL_law 777 = .ok (.iload_n 3, 1) := mm_dk kL_law_11 27 rfl
theorem dL_law_778 : decode cL_law 778 = .ok (.iconst 2, 1) := mm_dk kL_law_11 28 rfl
theorem dL_law_779 : decode cL_law 779 = .ok (.iadd, 1) := mm_dk kL_law_11 29 rfl
theorem dL_law_780 : decode cL_law 780 = .ok (.iaload, 1) := mm_dk kL_law_11 30 rfl
theorem dL_law_781 : decode cL_law 781 = .ok (.invokevirtual 74, 3) := mm_dk kL_law_11 31 rfl
theorem dL_law_784 : decode cL_law 784 = .ok (.if_icmp .eq 1039, 3) := mm_dk kL_law_11 32 rfl
theorem dL_law_787 : decode cL_law 787 = .ok (.iconst 0, 1) := mm_dk kL_law_11 33 rfl
theorem dL_law_788 : decode cL_law 788 = .ok (.ireturn, 1) := mm_dk kL_law_11 34 rfl
theorem dL_law_789 : decode cL_law 789 = .ok (.aload_n 1, 1) := mm_dk kL_law_11 35 rfl
theorem dL_law_790 : decode cL_law 790 = .ok (.aload_n 0, 1) := mm_dk kL_law_11 36 rfl
theorem dL_law_791 : decode cL_law 791 = .ok (.iload_n 3, 1) := mm_dk kL_law_11 37 rfl
theorem dL_law_792 : decode cL_law 792 = .ok (.iconst 1, 1) := mm_dk kL_law_11 38 rfl
theorem dL_law_793 : decode cL_law 793 = .ok (.iadd, 1) := mm_dk kL_law_11 39 rfl
set_option maxRecDepth 100000 in
theorem kL_law_12 : ([(794, .iaload, 1), (795, .aload_n 0, 1), (796, .iload_n 3, 1), (797, .iconst 2, 1), (798, .iadd, 1), (799, .iaload, 1), (800, .aload_n 0, 1), (801, .iload_n 3, 1), (802, .iconst 3, 1), (803, .iadd, 1), (804, .iaload, 1), (805, .invokevirtual 75, 3), (808, .aload_n 2, 1), (809, .aload_n 0, 1), (810, .iload_n 3, 1), (811, .iconst 1, 1), (812, .iadd, 1), (813, .iaload, 1), (814, .aload_n 0, 1), (815, .iload_n 3, 1), (816, .iconst 2, 1), (817, .iadd, 1), (818, .iaload, 1), (819, .aload_n 0, 1), (820, .iload_n 3, 1), (821, .iconst 3, 1), (822, .iadd, 1), (823, .iaload, 1), (824, .invokevirtual 78, 3), (827, .if_icmp .eq 996, 3), (830, .iconst 0, 1), (831, .ireturn, 1), (832, .aload_n 1, 1), (833, .aload_n 0, 1), (834, .iload_n 3, 1), (835, .iconst 1, 1), (836, .iadd, 1), (837, .iaload, 1), (838, .aload_n 0, 1), (839, .iload_n 3, 1)] : List (Nat × Instr × Nat)).all (fun x => decide (decode cL_law x.1 = .ok x.2)) = true := by decide +kernel
theorem dL_law_794 : decode cL_law 794 = .ok (.iaload, 1) := mm_dk kL_law_12 0 rfl
theorem dL_law_795 : decode cL_law 795 = .ok (.aload_n 0, 1) := mm_dk kL_law_12 1 rfl
theorem dL_law_796 : decode cL_law 796 = .ok (.iload_n 3, 1) := mm_dk kL_law_12 2 rfl
theorem dL_law_797 : decode cL_law 797 = .ok (.iconst 2, 1) := mm_dk kL_law_12 3 rfl
theorem dL_law_798 : decode cL_law 798 = .ok (.iadd, 1) := mm_dk kL_law_12 4 rfl
theorem dL_law_799 : decode cL_law 799 = .ok (.iaload, 1) := mm_dk kL_law_12 5 rfl
theorem dL_law_800 : decode cL_law 800 = .ok (.aload_n 0, 1) := mm_dk kL_law_12 6 rfl
theorem dL_law_801 : decode cL_law 801 = .ok (.iload_n 3, 1) := mm_dk kL_law_12 7 rfl
theorem dL_law_802 : decode cL_law 802 = .ok (.iconst 3, 1) := mm_dk kL_law_12 8 rfl
theorem dL_law_803 : decode cL_law 803 = .ok (.iadd, 1) := mm_dk kL_law_12 9 rfl
theorem dL_law_804 : decode cL_law 804 = .ok (.iaload, 1) := mm_dk kL_law_12 10 rfl
theorem dL_law_805 : decode cL_law 805 = .ok (.invokevirtual 75, 3) := mm_dk kL_law_12 11 rfl
theorem dL_law_808 : decode cL_law 808 = .ok (.aload_n 2, 1) := mm_dk kL_law_12 12 rfl
theorem dL_law_809 : decode cL_law 809 = .ok (.aload_n 0, 1) := mm_dk kL_law_12 13 rfl
theorem dL_law_810 : decode cL_law 810 = .ok (.iload_n 3, 1) := mm_dk kL_law_12 14 rfl
theorem dL_law_811 : decode cL_law 811 = .ok (.iconst 1, 1) := mm_dk kL_law_12 15 rfl
theorem dL_law_812 : decode cL_law 812 = .ok (.iadd, 1) := mm_dk kL_law_12 16 rfl
theorem dL_law_813 : decode cL_law 813 = .ok (.iaload, 1) := mm_dk kL_law_12 17 rfl
theorem dL_law_814 : decode cL_law 814 = .ok (.aload_n 0, 1) := mm_dk kL_law_12 18 rfl
theorem dL_law_815 : decode cL_law 815 = .ok (.iload_n 3, 1) := mm_dk kL_law_12 19 rfl
theorem dL_law_816 : decode cL_law 816 = .ok (.iconst 2, 1) := mm_dk kL_law_12 20 rfl
theorem dL_law_817 : decode cL_law 817 = .ok (.iadd, 1) := mm_dk kL_law_12 21 rfl
theorem dL_law_818 : decode cL_law 818 = .ok (.iaload, 1) := mm_dk kL_law_12 22 rfl
theorem dL_law_819 : decode cL_law 819 = .ok (.aload_n 0, 1) := mm_dk kL_law_12 23 rfl
theorem dL_law_820 : decode cL_law 820 = .ok (.iload_n 3, 1) := mm_dk kL_law_12 24 rfl
theorem dL_law_821 : decode cL_law 821 = .ok (.iconst 3, 1) := mm_dk kL_law_12 25 rfl
theorem dL_law_822 : decode cL_law 822 = .ok (.iadd, 1) := mm_dk kL_law_12 26 rfl
theorem dL_law_823 : decode cL_law 823 = .ok (.iaload, 1) := mm_dk kL_law_12 27 rfl
theorem dL_law_824 : decode cL_law 824 = .ok (.invokevirtual 78, 3) := mm_dk kL_law_12 28 rfl
theorem dL_law_827 : decode cL_law 827 = .ok (.if_icmp .eq 996, 3) := mm_dk kL_law_12 29 rfl
theorem dL_law_830 : decode cL_law 830 = .ok (.iconst 0, 1) := mm_dk kL_law_12 30 rfl
theorem dL_law_831 : decode cL_law 831 = .ok (.ireturn, 1) := mm_dk kL_law_12 31 rfl
theorem dL_law_832 : decode cL_law 832 = .ok (.aload_n 1, 1) := mm_dk kL_law_12 32 rfl
theorem dL_law_833 : decode cL_law 833 = .ok (.aload_n 0, 1) := mm_dk kL_law_12 33 rfl
theorem dL_law_834 : decode cL_law 834 = .ok (.iload_n 3, 1) := mm_dk kL_law_12 34 rfl
theorem dL_law_835 : decode cL_law 835 = .ok (.iconst 1, 1) := mm_dk kL_law_12 35 rfl
theorem dL_law_836 : decode cL_law 836 = .ok (.iadd, 1) := mm_dk kL_law_12 36 rfl
theorem dL_law_837 : decode cL_law 837 = .ok (.iaload, 1) := mm_dk kL_law_12 37 rfl
theorem dL_law_838 : decode cL_law 838 = .ok (.aload_n 0, 1) := mm_dk kL_law_12 38 rfl
theorem dL_law_839 : decode cL_law 839 = .ok (.iload_n 3, 1) := mm_dk kL_law_12 39 rfl
set_option maxRecDepth 100000 in
theorem kL_law_13 : ([(840, .iconst 2, 1), (841, .iadd, 1), (842, .iaload, 1), (843, .invokevirtual 79, 3), (846, .aload_n 2, 1), (847, .aload_n 0, 1), (848, .iload_n 3, 1), (849, .iconst 1, 1), (850, .iadd, 1), (851, .iaload, 1), (852, .aload_n 0, 1), (853, .iload_n 3, 1), (854, .iconst 2, 1), (855, .iadd, 1), (856, .iaload, 1), (857, .invokevirtual 82, 3), (860, .if_icmp .eq 963, 3), (863, .iconst 0, 1), (864, .ireturn, 1), (865, .aload_n 1, 1), (866, .aload_n 0, 1), (867, .iload_n 3, 1), (868, .iconst 1, 1), (869, .iadd, 1), (870, .iaload, 1), (871, .aload_n 0, 1), (872, .iload_n 3, 1), (873, .iconst 2, 1), (874, .iadd, 1), (875, .iaload, 1), (876, .invokevirtual 83, 3), (879, .aload_n 2, 1), (880, .aload_n 0, 1), (881, .iload_n 3, 1), (882, .iconst 1, 1), (883, .iadd, 1), (884, .iaload, 1), (885, .aload_n 0, 1), (886, .iload_n 3, 1), (887, .iconst 2, 1)] : List (Nat × Instr × Nat)).all (fun x => decide (decode cL_law x.1 = .ok x.2)) = true := by decide +kernel
theorem dL_law_840 : decode cL_law 840 = .ok (.iconst 2, 1) := mm_dk kL_law_13 0 rfl
theorem dL_law_841 : decode cL_law 841 = .ok (.iadd, 1) := mm_dk kL_law_13 1 rfl
theorem dL_law_842 : decode cL_law 842 = .ok (.iaload, 1) := mm_dk kL_law_13 2 rfl
theorem dL_law_843 : decode cL_law 843 = .ok (.invokevirtual 79, 3) := mm_dk kL_law_13 3 rfl
theorem dL_law_846 : decode cL_law 846 = .ok (.aload_n 2, 1) := mm_dk kL_law_13 4 rfl
theorem dL_law_847 : decode cL_law 847 = .ok (.aload_n 0, 1) := mm_dk kL_law_13 5 rfl
theorem dL_law_848 : decode cL_law 848 = .ok (.iload_n 3, 1) := mm_dk kL_law_13 6 rfl
theorem dL_law_849 : decode cL_law 849 = .ok (.iconst 1, 1) := mm_dk kL_law_13 7 rfl
theorem dL_law_850 : decode cL_law 850 = .ok (.iadd, 1) := mm_dk kL_law_13 8 rfl
theorem dL_law_851 : decode cL_law 851 = .ok (.iaload, 1) := mm_dk kL_law_13 9 rfl
theorem dL_law_852 : decode cL_law 852 = .ok (.aload_n 0, 1) := mm_dk kL_law_13 10 rfl
theorem dL_law_853 : decode cL_law 853 = .ok (.iload_n 3, 1) := mm_dk kL_law_13 11 rfl
theorem dL_law_854 : decode cL_law 854 = .ok (.iconst 2, 1) := mm_dk kL_law_13 12 rfl
theorem dL_law_855 : decode cL_law 855 = .ok (.iadd, 1) := mm_dk kL_law_13 13 rfl
theorem dL_law_856 : decode cL_law 856 = .ok (.iaload, 1) := mm_dk kL_law_13 14 rfl
theorem dL_law_857 : decode cL_law 857 = .ok (.invokevirtual 82, 3) := mm_dk kL_law_13 15 rfl
theorem dL_law_860 : decode cL_law 860 = .ok (.if_icmp .eq 963, 3) := mm_dk kL_law_13 16 rfl
theorem dL_law_863 : decode cL_law 863 = .ok (.iconst 0, 1) := mm_dk kL_law_13 17 rfl
theorem dL_law_864 : decode cL_law 864 = .ok (.ireturn, 1) := mm_dk kL_law_13 18 rfl
theorem dL_law_865 : decode cL_law 865 = .ok (.aload_n 1, 1) := mm_dk kL_law_13 19 rfl
theorem dL_law_866 : decode cL_law 866 = .ok (.aload_n 0, 1) := mm_dk kL_law_13 20 rfl
theorem dL_law_867 : decode cL_law 867 = .ok (.iload_n 3, 1) := mm_dk kL_law_13 21 rfl
theorem dL_law_868 : decode cL_law 868 = .ok (.iconst 1, 1) := mm_dk kL_law_13 22 rfl
theorem dL_law_869 : decode cL_law 869 = .ok (.iadd, 1) := mm_dk kL_law_13 23 rfl
theorem dL_law_870 : decode cL_law 870 = .ok (.iaload, 1) := mm_dk kL_law_13 24 rfl
theorem dL_law_871 : decode cL_law 871 = .ok (.aload_n 0, 1) := mm_dk kL_law_13 25 rfl
theorem dL_law_872 : decode cL_law 872 = .ok (.iload_n 3, 1) := mm_dk kL_law_13 26 rfl
theorem dL_law_873 : decode cL_law 873 = .ok (.iconst 2, 1) := mm_dk kL_law_13 27 rfl
theorem dL_law_874 : decode cL_law 874 = .ok (.iadd, 1) := mm_dk kL_law_13 28 rfl
theorem dL_law_875 : decode cL_law 875 = .ok (.iaload, 1) := mm_dk kL_law_13 29 rfl
theorem dL_law_876 : decode cL_law 876 = .ok (.invokevirtual 83, 3) := mm_dk kL_law_13 30 rfl
theorem dL_law_879 : decode cL_law 879 = .ok (.aload_n 2, 1) := mm_dk kL_law_13 31 rfl
theorem dL_law_880 : decode cL_law 880 = .ok (.aload_n 0, 1) := mm_dk kL_law_13 32 rfl
theorem dL_law_881 : decode cL_law 881 = .ok (.iload_n 3, 1) := mm_dk kL_law_13 33 rfl
theorem dL_law_882 : decode cL_law 882 = .ok (.iconst 1, 1) := mm_dk kL_law_13 34 rfl
theorem dL_law_883 : decode cL_law 883 = .ok (.iadd, 1) := mm_dk kL_law_13 35 rfl
theorem dL_law_884 : decode cL_law 884 = .ok (.iaload, 1) := mm_dk kL_law_13 36 rfl
theorem dL_law_885 : decode cL_law 885 = .ok (.aload_n 0, 1) := mm_dk kL_law_13 37 rfl
theorem dL_law_886 : decode cL_law 886 = .ok (.iload_n 3, 1) := mm_dk kL_law_13 38 rfl
theorem dL_law_887 : decode cL_law 887 = .ok (.iconst 2, 1) := mm_dk kL_law_13 39 rfl
set_option maxRecDepth 100000 in
theorem kL_law_14 : ([(888, .iadd, 1), (889, .iaload, 1), (890, .invokevirtual 86, 3), (893, .if_icmp .eq 930, 3), (896, .iconst 0, 1), (897, .ireturn, 1), (898, .aload_n 1, 1), (899, .aload_n 0, 1), (900, .iload_n 3, 1), (901, .iconst 1, 1), (902, .iadd, 1), (903, .iaload, 1), (904, .aload_n 0, 1), (905, .iload_n 3, 1), (906, .iconst 2, 1), (907, .iadd, 1), (908, .iaload, 1), (909, .aload_n 0, 1), (910, .iload_n 3, 1), (911, .iconst 3, 1), (912, .iadd, 1), (913, .iaload, 1), (914, .invokevirtual 87, 3), (917, .aload_n 2, 1), (918, .aload_n 0, 1), (919, .iload_n 3, 1), (920, .iconst 1, 1), (921, .iadd, 1), (922, .iaload, 1), (923, .aload_n 0, 1), (924, .iload_n 3, 1), (925, .iconst 2, 1), (926, .iadd, 1), (927, .iaload, 1), (928, .aload_n 0, 1), (929, .iload_n 3, 1), (930, .iconst 3, 1), (931, .iadd, 1), (932, .iaload, 1), (933, .invokevirtual 90, 3)] : List (Nat × Instr × Nat)).all (fun x => decide (decode cL_law x.1 = .ok x.2)) = true := by decide +kernel
theorem dL_law_888 : decode cL_law 888 = .ok (.iadd, 1) := mm_dk kL_law_14 0 rfl
theorem dL_law_889 : decode cL_law 889 = .ok (.iaload, 1) := mm_dk kL_law_14 1 rfl
theorem dL_law_890 : decode cL_law 890 = .ok (.invokevirtual 86, 3) := mm_dk kL_law_14 2 rfl
theorem dL_law_893 : decode cL_law 893 = .ok (.if_icmp .eq 930, 3) := mm_dk kL_law_14 3 rfl
theorem dL_law_896 : decode cL_law 896 = .ok (.iconst 0, 1) := mm_dk kL_law_14 4 rfl
theorem dL_law_897 : decode cL_law 897 = .ok (.ireturn, 1) := mm_dk kL_law_14 5 rfl
theorem dL_law_898 : decode cL_law 898 = .ok (.aload_n 1, 1) := mm_dk kL_law_14 6 rfl
theorem dL_law_899 : decode cL_law 899 = .ok (.aload_n 0, 1) := mm_dk kL_law_14 7 rfl
theorem dL_law_900 : decode cL_law 900 = .ok (.iload_n 3, 1) := mm_dk kL_law_14 8 rfl
theorem dL_law_901 : decode cL_law 901 = .ok (.iconst 1, 1) := mm_dk kL_law_14 9 rfl
theorem dL_law_902 : decode cL_law 902 = .ok (.iadd, 1) := mm_dk kL_law_14 10 rfl
theorem dL_law_903 : decode cL_law 903 = .ok (.iaload, 1) := mm_dk kL_law_14 11 rfl
theorem dL_law_904 : decode cL_law 904 = .ok (.aload_n 0, 1) := mm_dk kL_law_14 12 rfl
theorem dL_law_905 : decode cL_law 905 = .ok (.iload_n 3, 1) := mm_dk kL_law_14 13 rfl
theorem dL_law_906 : decode cL_law 906 = .ok (.iconst 2, 1) := mm_dk kL_law_14 14 rfl
theorem dL_law_907 : decode cL_law 907 = .ok (.iadd, 1) := mm_dk kL_law_14 15 rfl
theorem dL_law_908 : decode cL_law 908 = .ok (.iaload, 1) := mm_dk kL_law_14 16 rfl
theorem dL_law_909 : decode cL_law 909 = .ok (.aload_n 0, 1) := mm_dk kL_law_14 17 rfl
theorem dL_law_910 : decode cL_law 910 = .ok (.iload_n 3, 1) := mm_dk kL_law_14 18 rfl
theorem dL_law_911 : decode cL_law 911 = .ok (.iconst 3, 1) := mm_dk kL_law_14 19 rfl
theorem dL_law_912 : decode cL_law 912 = .ok (.iadd, 1) := mm_dk kL_law_14 20 rfl
theorem dL_law_913 : decode cL_law 913 = .ok (.iaload, 1) := mm_dk kL_law_14 21 rfl
theorem dL_law_914 : decode cL_law 914 = .ok (.invokevirtual 87, 3) := mm_dk kL_law_14 22 rfl
theorem dL_law_917 : decode cL_law 917 = .ok (.aload_n 2, 1) := mm_dk kL_law_14 23 rfl
theorem dL_law_918 : decode cL_law 918 = .ok (.aload_n 0, 1) := mm_dk kL_law_14 24 rfl
theorem dL_law_919 : decode cL_law 919 = .ok (.iload_n 3, 1) := mm_dk kL_law_14 25 rfl
theorem dL_law_920 : decode cL_law 920 = .ok (.iconst 1, 1) := mm_dk kL_law_14 26 rfl
theorem dL_law_921 : decode cL_law 921 = .ok (.iadd, 1) := mm_dk kL_law_14 27 rfl
theorem dL_law_922 : decode cL_law 922 = .ok (.iaload, 1) := mm_dk kL_law_14 28 rfl
theorem dL_law_923 : decode cL_law 923 = .ok (.aload_n 0, 1) := mm_dk kL_law_14 29 rfl
theorem dL_law_924 : decode cL_law 924 = .ok (.iload_n 3, 1) := mm_dk kL_law_14 30 rfl
theorem dL_law_925 : decode cL_law 925 = .ok (.iconst 2, 1) := mm_dk kL_law_14 31 rfl
theorem dL_law_926 : decode cL_law 926 = .ok (.iadd, 1) := mm_dk kL_law_14 32 rfl
theorem dL_law_927 : decode cL_law 927 = .ok (.iaload, 1) := mm_dk kL_law_14 33 rfl
theorem dL_law_928 : decode cL_law 928 = .ok (.aload_n 0, 1) := mm_dk kL_law_14 34 rfl
theorem dL_law_929 : decode cL_law 929 = .ok (.iload_n 3, 1) := mm_dk kL_law_14 35 rfl
theorem dL_law_930 : decode cL_law 930 = .ok (.iconst 3, 1) := mm_dk kL_law_14 36 rfl
theorem dL_law_931 : decode cL_law 931 = .ok (.iadd, 1) := mm_dk kL_law_14 37 rfl
theorem dL_law_932 : decode cL_law 932 = .ok (.iaload, 1) := mm_dk kL_law_14 38 rfl
theorem dL_law_933 : decode cL_law 933 = .ok (.invokevirtual 90, 3) := mm_dk kL_law_14 39 rfl
set_option maxRecDepth 100000 in
theorem kL_law_15 : ([(936, .if_icmp .eq 887, 3), (939, .iconst 0, 1), (940, .ireturn, 1), (941, .aload_n 1, 1), (942, .aload_n 0, 1), (943, .iload_n 3, 1), (944, .iconst 1, 1), (945, .iadd, 1), (946, .iaload, 1), (947, .aload_n 0, 1), (948, .iload_n 3, 1), (949, .iconst 2, 1), (950, .iadd, 1), (951, .iaload, 1), (952, .aload_n 0, 1), (953, .iload_n 3, 1), (954, .iconst 3, 1), (955, .iadd, 1), (956, .iaload, 1), (957, .aload_n 0, 1), (958, .iload_n 3, 1), (959, .iconst 4, 1), (960, .iadd, 1), (961, .iaload, 1), (962, .invokevirtual 91, 3), (965, .aload_n 2, 1), (966, .aload_n 0, 1), (967, .iload_n 3, 1), (968, .iconst 1, 1), (969, .iadd, 1), (970, .iaload, 1), (971, .aload_n 0, 1), (972, .iload_n 3, 1), (973, .iconst 2, 1), (974, .iadd, 1), (975, .iaload, 1), (976, .aload_n 0, 1), (977, .iload_n 3, 1), (978, .iconst 3, 1), (979, .iadd, 1)] : List (Nat × Instr × Nat)).all (fun x => decide (decode cL_law x.1 = .ok x.2)) = true := by decide +kernel
theorem dL_law_936 : decode cL_law 936 = .ok (.if_icmp .eq 887, 3) := mm_dk kL_law_15 0 rfl
theorem dL_law_939 : decode cL_law 939 = .ok (.iconst 0, 1) := mm_dk kL_law_15 1 rfl
theorem dL_law_940 : decode cL_law 940 = .ok (.ireturn, 1) := mm_dk kL_law_15 2 rfl
theorem dL_law_941 : decode cL_law 941 = .ok (.aload_n 1, 1) := mm_dk kL_law_15 3 rfl
theorem dL_law_942 : decode cL_law 942 = .ok (.aload_n 0, 1) := mm_dk kL_law_15 4 rfl
theorem dL_law_943 : decode cL_law 943 = .ok (.iload_n 3, 1) := mm_dk kL_law_15 5 rfl
theorem dL_law_944 : decode cL_law 944 = .ok (.iconst 1, 1) := mm_dk kL_law_15 6 rfl
theorem dL_law_945 : decode cL_law 945 = .ok (.iadd, 1) := mm_dk kL_law_15 7 rfl
theorem dL_law_946 : decode cL_law 946 = .ok (.iaload, 1) := mm_dk kL_law_15 8 rfl
theorem dL_law_947 : decode cL_law 947 = .ok (.aload_n 0, 1) := mm_dk kL_law_15 9 rfl
theorem dL_law_948 : decode cL_law 948 = .ok (.iload_n 3, 1) := mm_dk kL_law_15 10 rfl
theorem dL_law_949 : decode cL_law 949 = .ok (.iconst 2, 1) := mm_dk kL_law_15 11 rfl
theorem dL_law_950 : decode cL_law 950 = .ok (.iadd, 1) := mm_dk kL_law_15 12 rfl
theorem dL_law_951 : decode cL_law 951 = .ok (.iaload, 1) := mm_dk kL_law_15 13 rfl
theorem dL_law_952 : decode cL_law 952 = .ok (.aload_n 0, 1) := mm_dk kL_law_15 14 rfl
theorem dL_law_953 : decode cL_law 953 = .ok (.iload_n 3, 1) := mm_dk kL_law_15 15 rfl
theorem dL_law_954 : decode cL_law 954 = .ok (.iconst 3, 1) := mm_dk kL_law_15 16 rfl
theorem dL_law_955 : decode cL_law 955 = .ok (.iadd, 1) := mm_dk kL_law_15 17 rfl
theorem dL_law_956 : decode cL_law 956 = .ok (.iaload, 1) := mm_dk kL_law_15 18 rfl
theorem dL_law_957 : decode cL_law 957 = .ok (.aload_n 0, 1) := mm_dk kL_law_15 19 rfl
theorem dL_law_958 : decode cL_law 958 = .ok (.iload_n 3, 1) := mm_dk kL_law_15 20 rfl
theorem dL_law_959 : decode cL_law 959 = .ok (.iconst 4, 1) := mm_dk kL_law_15 21 rfl
theorem dL_law_960 : decode cL_law 960 = .ok (.iadd, 1) := mm_dk kL_law_15 22 rfl
theorem dL_law_961 : decode cL_law 961 = .ok (.iaload, 1) := mm_dk kL_law_15 23 rfl
theorem dL_law_962 : decode cL_law 962 = .ok (.invokevirtual 91, 3) := mm_dk kL_law_15 24 rfl
theorem dL_law_965 : decode cL_law 965 = .ok (.aload_n 2, 1) := mm_dk kL_law_15 25 rfl
theorem dL_law_966 : decode cL_law 966 = .ok (.aload_n 0, 1) := mm_dk kL_law_15 26 rfl
theorem dL_law_967 : decode cL_law 967 = .ok (.iload_n 3, 1) := mm_dk kL_law_15 27 rfl
theorem dL_law_968 : decode cL_law 968 = .ok (.iconst 1, 1) := mm_dk kL_law_15 28 rfl
theorem dL_law_969 : decode cL_law 969 = .ok (.iadd, 1) := mm_dk kL_law_15 29 rfl
theorem dL_law_970 : decode cL_law 970 = .ok (.iaload, 1) := mm_dk kL_law_15 30 rfl
theorem dL_law_971 : decode cL_law 971 = .ok (.aload_n 0, 1) := mm_dk kL_law_15 31 rfl
theorem dL_law_972 : decode cL_law 972 = .ok (.iload_n 3, 1) := mm_dk kL_law_15 32 rfl
theorem dL_law_973 : decode cL_law 973 = .ok (.iconst 2, 1) := mm_dk kL_law_15 33 rfl
theorem dL_law_974 : decode cL_law 974 = .ok (.iadd, 1) := mm_dk kL_law_15 34 rfl
theorem dL_law_975 : decode cL_law 975 = .ok (.iaload, 1) := mm_dk kL_law_15 35 rfl
theorem dL_law_976 : decode cL_law 976 = .ok (.aload_n 0, 1) := mm_dk kL_law_15 36 rfl
theorem dL_law_977 : decode cL_law 977 = .ok (.iload_n 3, 1) := mm_dk kL_law_15 37 rfl
theorem dL_law_978 : decode cL_law 978 = .ok (.iconst 3, 1) := mm_dk kL_law_15 38 rfl
theorem dL_law_979 : decode cL_law 979 = .ok (.iadd, 1) := mm_dk kL_law_15 39 rfl
set_option maxRecDepth 100000 in
theorem kL_law_16 : ([(980, .iaload, 1), (981, .aload_n 0, 1), (982, .iload_n 3, 1), (983, .iconst 4, 1), (984, .iadd, 1), (985, .iaload, 1), (986, .invokevirtual 95, 3), (989, .if_icmp .eq 834, 3), (992, .iconst 0, 1), (993, .ireturn, 1), (994, .aload_n 1, 1), (995, .aload_n 0, 1), (996, .iload_n 3, 1), (997, .iconst 1, 1), (998, .iadd, 1), (999, .iaload, 1), (1000, .aload_n 0, 1), (1001, .iload_n 3, 1), (1002, .iconst 2, 1), (1003, .iadd, 1), (1004, .iaload, 1), (1005, .invokevirtual 96, 3), (1008, .aload_n 2, 1), (1009, .aload_n 0, 1), (1010, .iload_n 3, 1), (1011, .iconst 1, 1), (1012, .iadd, 1), (1013, .iaload, 1), (1014, .aload_n 0, 1), (1015, .iload_n 3, 1), (1016, .iconst 2, 1), (1017, .iadd, 1), (1018, .iaload, 1), (1019, .invokevirtual 99, 3), (1022, .if_icmp .eq 801, 3), (1025, .iconst 0, 1), (1026, .ireturn, 1), (1027, .aload_n 1, 1), (1028, .aload_n 0, 1), (1029, .iload_n 3, 1)] : List (Nat × Instr × Nat)).all (fun x => decide (decode cL_law x.1 = .ok x.2)) = true := by decide +kernel
theorem dL_law_980 : decode cL_law 980 = .ok (.iaload, 1) := mm_dk kL_law_16 0 rfl
theorem dL_law_981 : decode cL_law 981 = .ok (.aload_n 0, 1) := mm_dk kL_law_16 1 rfl
theorem dL_law_982 : decode cL_law 982 = .ok (.iload_n 3, 1) := mm_dk kL_law_16 2 rfl
theorem dL_law_983 : decode cL_law 983 = .ok (.iconst 4, 1) := mm_dk kL_law_16 3 rfl
theorem dL_law_984 : decode cL_law 984 = .ok (.iadd, 1) := mm_dk kL_law_16 4 rfl
theorem dL_law_985 : decode cL_law 985 = .ok (.iaload, 1) := mm_dk kL_law_16 5 rfl
theorem dL_law_986 : decode cL_law 986 = .ok (.invokevirtual 95, 3) := mm_dk kL_law_16 6 rfl
theorem dL_law_989 : decode cL_law 989 = .ok (.if_icmp .eq 834, 3) := mm_dk kL_law_16 7 rfl
theorem dL_law_992 : decode cL_law 992 = .ok (.iconst 0, 1) := mm_dk kL_law_16 8 rfl
theorem dL_law_993 : decode cL_law 993 = .ok (.ireturn, 1) := mm_dk kL_law_16 9 rfl
theorem dL_law_994 : decode cL_law 994 = .ok (.aload_n 1, 1) := mm_dk kL_law_16 10 rfl
theorem dL_law_995 : decode cL_law 995 = .ok (.aload_n 0, 1) := mm_dk kL_law_16 11 rfl
theorem dL_law_996 : decode cL_law 996 = .ok (.iload_n 3, 1) := mm_dk kL_law_16 12 rfl
theorem dL_law_997 : decode cL_law 997 = .ok (.iconst 1, 1) := mm_dk kL_law_16 13 rfl
theorem dL_law_998 : decode cL_law 998 = .ok (.iadd, 1) := mm_dk kL_law_16 14 rfl
theorem dL_law_999 : decode cL_law 999 = .ok (.iaload, 1) := mm_dk kL_law_16 15 rfl
theorem dL_law_1000 : decode cL_law 1000 = .ok (.aload_n 0, 1) := mm_dk kL_law_16 16 rfl
theorem dL_law_1001 : decode cL_law 1001 = .ok (.iload_n 3, 1) := mm_dk kL_law_16 17 rfl
theorem dL_law_1002 : decode cL_law 1002 = .ok (.iconst 2, 1) := mm_dk kL_law_16 18 rfl
theorem dL_law_1003 : decode cL_law 1003 = .ok (.iadd, 1) := mm_dk kL_law_16 19 rfl
theorem dL_law_1004 : decode cL_law 1004 = .ok (.iaload, 1) := mm_dk kL_law_16 20 rfl
theorem dL_law_1005 : decode cL_law 1005 = .ok (.invokevirtual 96, 3) := mm_dk kL_law_16 21 rfl
theorem dL_law_1008 : decode cL_law 1008 = .ok (.aload_n 2, 1) := mm_dk kL_law_16 22 rfl
theorem dL_law_1009 : decode cL_law 1009 = .ok (.aload_n 0, 1) := mm_dk kL_law_16 23 rfl
theorem dL_law_1010 : decode cL_law 1010 = .ok (.iload_n 3, 1) := mm_dk kL_law_16 24 rfl
theorem dL_law_1011 : decode cL_law 1011 = .ok (.iconst 1, 1) := mm_dk kL_law_16 25 rfl
theorem dL_law_1012 : decode cL_law 1012 = .ok (.iadd, 1) := mm_dk kL_law_16 26 rfl
theorem dL_law_1013 : decode cL_law 1013 = .ok (.iaload, 1) := mm_dk kL_law_16 27 rfl
theorem dL_law_1014 : decode cL_law 1014 = .ok (.aload_n 0, 1) := mm_dk kL_law_16 28 rfl
theorem dL_law_1015 : decode cL_law 1015 = .ok (.iload_n 3, 1) := mm_dk kL_law_16 29 rfl
theorem dL_law_1016 : decode cL_law 1016 = .ok (.iconst 2, 1) := mm_dk kL_law_16 30 rfl
theorem dL_law_1017 : decode cL_law 1017 = .ok (.iadd, 1) := mm_dk kL_law_16 31 rfl
theorem dL_law_1018 : decode cL_law 1018 = .ok (.iaload, 1) := mm_dk kL_law_16 32 rfl
theorem dL_law_1019 : decode cL_law 1019 = .ok (.invokevirtual 99, 3) := mm_dk kL_law_16 33 rfl
theorem dL_law_1022 : decode cL_law 1022 = .ok (.if_icmp .eq 801, 3) := mm_dk kL_law_16 34 rfl
theorem dL_law_1025 : decode cL_law 1025 = .ok (.iconst 0, 1) := mm_dk kL_law_16 35 rfl
theorem dL_law_1026 : decode cL_law 1026 = .ok (.ireturn, 1) := mm_dk kL_law_16 36 rfl
theorem dL_law_1027 : decode cL_law 1027 = .ok (.aload_n 1, 1) := mm_dk kL_law_16 37 rfl
theorem dL_law_1028 : decode cL_law 1028 = .ok (.aload_n 0, 1) := mm_dk kL_law_16 38 rfl
theorem dL_law_1029 : decode cL_law 1029 = .ok (.iload_n 3, 1) := mm_dk kL_law_16 39 rfl
set_option maxRecDepth 100000 in
theorem kL_law_17 : ([(1030, .iconst 1, 1), (1031, .iadd, 1), (1032, .iaload, 1), (1033, .aload_n 0, 1), (1034, .iload_n 3, 1), (1035, .iconst 2, 1), (1036, .iadd, 1), (1037, .iaload, 1), (1038, .invokevirtual 100, 3), (1041, .aload_n 2, 1), (1042, .aload_n 0, 1), (1043, .iload_n 3, 1), (1044, .iconst 1, 1), (1045, .iadd, 1), (1046, .iaload, 1), (1047, .aload_n 0, 1), (1048, .iload_n 3, 1), (1049, .iconst 2, 1), (1050, .iadd, 1), (1051, .iaload, 1), (1052, .invokevirtual 103, 3), (1055, .if_icmp .eq 768, 3), (1058, .iconst 0, 1), (1059, .ireturn, 1), (1060, .aload_n 1, 1), (1061, .aload_n 0, 1), (1062, .iload_n 3, 1), (1063, .iconst 1, 1), (1064, .iadd, 1), (1065, .iaload, 1), (1066, .aload_n 0, 1), (1067, .iload_n 3, 1), (1068, .iconst 2, 1), (1069, .iadd, 1), (1070, .iaload, 1), (1071, .aload_n 0, 1), (1072, .iload_n 3, 1), (1073, .iconst 3, 1), (1074, .iadd, 1), (1075, .iaload, 1)] : List (Nat × Instr × Nat)).all (fun x => decide (decode cL_law x.1 = .ok x.2)) = true := by decide +kernel
theorem dL_law_1030 : decode cL_law 1030 = .ok (.iconst 1, 1) := mm_dk kL_law_17 0 rfl
theorem dL_law_1031 : decode cL_law 1031 = .ok (.iadd, 1) := mm_dk kL_law_17 1 rfl
theorem dL_law_1032 : decode cL_law 1032 = .ok (.iaload, 1) := mm_dk kL_law_17 2 rfl
theorem dL_law_1033 : decode cL_law 1033 = .ok (.aload_n 0, 1) := mm_dk kL_law_17 3 rfl
theorem dL_law_1034 : decode cL_law 1034 = .ok (.iload_n 3, 1) := mm_dk kL_law_17 4 rfl
theorem dL_law_1035 : decode cL_law 1035 = .ok (.iconst 2, 1) := mm_dk kL_law_17 5 rfl
theorem dL_law_1036 : decode cL_law 1036 = .ok (.iadd, 1) := mm_dk kL_law_17 6 rfl
theorem dL_law_1037 : decode cL_law 1037 = .ok (.iaload, 1) := mm_dk kL_law_17 7 rfl
theorem dL_law_1038 : decode cL_law 1038 = .ok (.invokevirtual 100, 3) := mm_dk kL_law_17 8 rfl
theorem dL_law_1041 : decode cL_law 1041 = .ok (.aload_n 2, 1) := mm_dk kL_law_17 9 rfl
theorem dL_law_1042 : decode cL_law 1042 = .ok (.aload_n 0, 1) := mm_dk kL_law_17 10 rfl
theorem dL_law_1043 : decode cL_law 1043 = .ok (.iload_n 3, 1) := mm_dk kL_law_17 11 rfl
theorem dL_law_1044 : decode cL_law 1044 = .ok (.iconst 1, 1) := mm_dk kL_law_17 12 rfl
theorem dL_law_1045 : decode cL_law 1045 = .ok (.iadd, 1) := mm_dk kL_law_17 13 rfl
theorem dL_law_1046 : decode cL_law 1046 = .ok (.iaload, 1) := mm_dk kL_law_17 14 rfl
theorem dL_law_1047 : decode cL_law 1047 = .ok (.aload_n 0, 1) := mm_dk kL_law_17 15 rfl
theorem dL_law_1048 : decode cL_law 1048 = .ok (.iload_n 3, 1) := mm_dk kL_law_17 16 rfl
theorem dL_law_1049 : decode cL_law 1049 = .ok (.iconst 2, 1) := mm_dk kL_law_17 17 rfl
theorem dL_law_1050 : decode cL_law 1050 = .ok (.iadd, 1) := mm_dk kL_law_17 18 rfl
theorem dL_law_1051 : decode cL_law 1051 = .ok (.iaload, 1) := mm_dk kL_law_17 19 rfl
theorem dL_law_1052 : decode cL_law 1052 = .ok (.invokevirtual 103, 3) := mm_dk kL_law_17 20 rfl
theorem dL_law_1055 : decode cL_law 1055 = .ok (.if_icmp .eq 768, 3) := mm_dk kL_law_17 21 rfl
theorem dL_law_1058 : decode cL_law 1058 = .ok (.iconst 0, 1) := mm_dk kL_law_17 22 rfl
theorem dL_law_1059 : decode cL_law 1059 = .ok (.ireturn, 1) := mm_dk kL_law_17 23 rfl
theorem dL_law_1060 : decode cL_law 1060 = .ok (.aload_n 1, 1) := mm_dk kL_law_17 24 rfl
theorem dL_law_1061 : decode cL_law 1061 = .ok (.aload_n 0, 1) := mm_dk kL_law_17 25 rfl
theorem dL_law_1062 : decode cL_law 1062 = .ok (.iload_n 3, 1) := mm_dk kL_law_17 26 rfl
theorem dL_law_1063 : decode cL_law 1063 = .ok (.iconst 1, 1) := mm_dk kL_law_17 27 rfl
theorem dL_law_1064 : decode cL_law 1064 = .ok (.iadd, 1) := mm_dk kL_law_17 28 rfl
theorem dL_law_1065 : decode cL_law 1065 = .ok (.iaload, 1) := mm_dk kL_law_17 29 rfl
theorem dL_law_1066 : decode cL_law 1066 = .ok (.aload_n 0, 1) := mm_dk kL_law_17 30 rfl
theorem dL_law_1067 : decode cL_law 1067 = .ok (.iload_n 3, 1) := mm_dk kL_law_17 31 rfl
theorem dL_law_1068 : decode cL_law 1068 = .ok (.iconst 2, 1) := mm_dk kL_law_17 32 rfl
theorem dL_law_1069 : decode cL_law 1069 = .ok (.iadd, 1) := mm_dk kL_law_17 33 rfl
theorem dL_law_1070 : decode cL_law 1070 = .ok (.iaload, 1) := mm_dk kL_law_17 34 rfl
theorem dL_law_1071 : decode cL_law 1071 = .ok (.aload_n 0, 1) := mm_dk kL_law_17 35 rfl
theorem dL_law_1072 : decode cL_law 1072 = .ok (.iload_n 3, 1) := mm_dk kL_law_17 36 rfl
theorem dL_law_1073 : decode cL_law 1073 = .ok (.iconst 3, 1) := mm_dk kL_law_17 37 rfl
theorem dL_law_1074 : decode cL_law 1074 = .ok (.iadd, 1) := mm_dk kL_law_17 38 rfl
theorem dL_law_1075 : decode cL_law 1075 = .ok (.iaload, 1) := mm_dk kL_law_17 39 rfl
set_option maxRecDepth 100000 in
theorem kL_law_18 : ([(1076, .invokevirtual 104, 3), (1079, .aload_n 2, 1), (1080, .aload_n 0, 1), (1081, .iload_n 3, 1), (1082, .iconst 1, 1), (1083, .iadd, 1), (1084, .iaload, 1), (1085, .aload_n 0, 1), (1086, .iload_n 3, 1), (1087, .iconst 2, 1), (1088, .iadd, 1), (1089, .iaload, 1), (1090, .aload_n 0, 1), (1091, .iload_n 3, 1), (1092, .iconst 3, 1), (1093, .iadd, 1), (1094, .iaload, 1), (1095, .invokevirtual 107, 3), (1098, .if_icmp .eq 725, 3), (1101, .iconst 0, 1), (1102, .ireturn, 1), (1103, .aload_n 1, 1), (1104, .aload_n 0, 1), (1105, .iload_n 3, 1), (1106, .iconst 1, 1), (1107, .iadd, 1), (1108, .iaload, 1), (1109, .aload_n 0, 1), (1110, .iload_n 3, 1), (1111, .iconst 2, 1), (1112, .iadd, 1), (1113, .iaload, 1), (1114, .invokevirtual 108, 3), (1117, .aload_n 2, 1), (1118, .aload_n 0, 1), (1119, .iload_n 3, 1), (1120, .iconst 1, 1), (1121, .iadd, 1), (1122, .iaload, 1), (1123, .aload_n 0, 1)] : List (Nat × Instr × Nat)).all (fun x => decide (decode cL_law x.1 = .ok x.2)) = true := by decide +kernel
theorem dL_law_1076 : decode cL_law 1076 = .ok (.invokevirtual 104, 3) := mm_dk kL_law_18 0 rfl
theorem dL_law_1079 : decode cL_law 1079 = .ok (.aload_n 2, 1) := mm_dk kL_law_18 1 rfl
theorem dL_law_1080 : decode cL_law 1080 = .ok (.aload_n 0, 1) := mm_dk kL_law_18 2 rfl
theorem dL_law_1081 : decode cL_law 1081 = .ok (.iload_n 3, 1) := mm_dk kL_law_18 3 rfl
theorem dL_law_1082 : decode cL_law 1082 = .ok (.iconst 1, 1) := mm_dk kL_law_18 4 rfl
theorem dL_law_1083 : decode cL_law 1083 = .ok (.iadd, 1) := mm_dk kL_law_18 5 rfl
theorem dL_law_1084 : decode cL_law 1084 = .ok (.iaload, 1) := mm_dk kL_law_18 6 rfl
theorem dL_law_1085 : decode cL_law 1085 = .ok (.aload_n 0, 1) := mm_dk kL_law_18 7 rfl
theorem dL_law_1086 : decode cL_law 1086 = .ok (.iload_n 3, 1) := mm_dk kL_law_18 8 rfl
theorem dL_law_1087 : decode cL_law 1087 = .ok (.iconst 2, 1) := mm_dk kL_law_18 9 rfl
theorem dL_law_1088 : decode cL_law 1088 = .ok (.iadd, 1) := mm_dk kL_law_18 10 rfl
theorem dL_law_1089 : decode cL_law 1089 = .ok (.iaload, 1) := mm_dk kL_law_18 11 rfl
theorem dL_law_1090 : decode cL_law 1090 = .ok (.aload_n 0, 1) := mm_dk kL_law_18 12 rfl
theorem dL_law_1091 : decode cL_law 1091 = .ok (.iload_n 3, 1) := mm_dk kL_law_18 13 rfl
theorem dL_law_1092 : decode cL_law 1092 = .ok (.iconst 3, 1) := mm_dk kL_law_18 14 rfl
theorem dL_law_1093 : decode cL_law 1093 = .ok (.iadd, 1) := mm_dk kL_law_18 15 rfl
theorem dL_law_1094 : decode cL_law 1094 = .ok (.iaload, 1) := mm_dk kL_law_18 16 rfl
theorem dL_law_1095 : decode cL_law 1095 = .ok (.invokevirtual 107, 3) := mm_dk kL_law_18 17 rfl
theorem dL_law_1098 : decode cL_law 1098 = .ok (.if_icmp .eq 725, 3) := mm_dk kL_law_18 18 rfl
theorem dL_law_1101 : decode cL_law 1101 = .ok (.iconst 0, 1) := mm_dk kL_law_18 19 rfl
theorem dL_law_1102 : decode cL_law 1102 = .ok (.ireturn, 1) := mm_dk kL_law_18 20 rfl
theorem dL_law_1103 : decode cL_law 1103 = .ok (.aload_n 1, 1) := mm_dk kL_law_18 21 rfl
theorem dL_law_1104 : decode cL_law 1104 = .ok (.aload_n 0, 1) := mm_dk kL_law_18 22 rfl
theorem dL_law_1105 : decode cL_law 1105 = .ok (.iload_n 3, 1) := mm_dk kL_law_18 23 rfl
theorem dL_law_1106 : decode cL_law 1106 = .ok (.iconst 1, 1) := mm_dk kL_law_18 24 rfl
theorem dL_law_1107 : decode cL_law 1107 = .ok (.iadd, 1) := mm_dk kL_law_18 25 rfl
theorem dL_law_1108 : decode cL_law 1108 = .ok (.iaload, 1) := mm_dk kL_law_18 26 rfl
theorem dL_law_1109 : decode cL_law 1109 = .ok (.aload_n 0, 1) := mm_dk kL_law_18 27 rfl
theorem dL_law_1110 : decode cL_law 1110 = .ok (.iload_n 3, 1) := mm_dk kL_law_18 28 rfl
theorem dL_law_1111 : decode cL_law 1111 = .ok (.iconst 2, 1) := mm_dk kL_law_18 29 rfl
theorem dL_law_1112 : decode cL_law 1112 = .ok (.iadd, 1) := mm_dk kL_law_18 30 rfl
theorem dL_law_1113 : decode cL_law 1113 = .ok (.iaload, 1) := mm_dk kL_law_18 31 rfl
theorem dL_law_1114 : decode cL_law 1114 = .ok (.invokevirtual 108, 3) := mm_dk kL_law_18 32 rfl
theorem dL_law_1117 : decode cL_law 1117 = .ok (.aload_n 2, 1) := mm_dk kL_law_18 33 rfl
theorem dL_law_1118 : decode cL_law 1118 = .ok (.aload_n 0, 1) := mm_dk kL_law_18 34 rfl
theorem dL_law_1119 : decode cL_law 1119 = .ok (.iload_n 3, 1) := mm_dk kL_law_18 35 rfl
theorem dL_law_1120 : decode cL_law 1120 = .ok (.iconst 1, 1) := mm_dk kL_law_18 36 rfl
theorem dL_law_1121 : decode cL_law 1121 = .ok (.iadd, 1) := mm_dk kL_law_18 37 rfl
theorem dL_law_1122 : decode cL_law 1122 = .ok (.iaload, 1) := mm_dk kL_law_18 38 rfl
theorem dL_law_1123 : decode cL_law 1123 = .ok (.aload_n 0, 1) := mm_dk kL_law_18 39 rfl
set_option maxRecDepth 100000 in
theorem kL_law_19 : ([(1124, .iload_n 3, 1), (1125, .iconst 2, 1), (1126, .iadd, 1), (1127, .iaload, 1), (1128, .invokevirtual 111, 3), (1131, .if_icmp .eq 692, 3), (1134, .iconst 0, 1), (1135, .ireturn, 1), (1136, .aload_n 1, 1), (1137, .aload_n 0, 1), (1138, .iload_n 3, 1), (1139, .iconst 1, 1), (1140, .iadd, 1), (1141, .iaload, 1), (1142, .aload_n 0, 1), (1143, .iload_n 3, 1), (1144, .iconst 2, 1), (1145, .iadd, 1), (1146, .iaload, 1), (1147, .invokevirtual 112, 3), (1150, .aload_n 2, 1), (1151, .aload_n 0, 1), (1152, .iload_n 3, 1), (1153, .iconst 1, 1), (1154, .iadd, 1), (1155, .iaload, 1), (1156, .aload_n 0, 1), (1157, .iload_n 3, 1), (1158, .iconst 2, 1), (1159, .iadd, 1), (1160, .iaload, 1), (1161, .invokevirtual 115, 3), (1164, .if_icmp .eq 659, 3), (1167, .iconst 0, 1), (1168, .ireturn, 1), (1169, .aload_n 1, 1), (1170, .aload_n 0, 1), (1171, .iload_n 3, 1), (1172, .iconst 1, 1), (1173, .iadd, 1)] : List (Nat × Instr × Nat)).all (fun x => decide (decode cL_law x.1 = .ok x.2)) = true := by decide +kernel
theorem dL_law_1124 : decode cL_law 1124 = .ok (.iload_n 3, 1) := mm_dk kL_law_19 0 rfl
theorem dL_law_1125 : decode cL_law 1125 = .ok (.iconst 2, 1) := mm_dk kL_law_19 1 rfl
theorem dL_law_1126 : decode cL_law 1126 = .ok (.iadd, 1) := mm_dk kL_law_19 2 rfl
theorem dL_law_1127 : decode cL_law 1127 = .ok (.iaload, 1) := mm_dk kL_law_19 3 rfl
theorem dL_law_1128 : decode cL_law 1128 = .ok (.invokevirtual 111, 3) := mm_dk kL_law_19 4 rfl
theorem dL_law_1131 : decode cL_law 1131 = .ok (.if_icmp .eq 692, 3) := mm_dk kL_law_19 5 rfl
theorem dL_law_1134 : decode cL_law 1134 = .ok (.iconst 0, 1) := mm_dk kL_law_19 6 rfl
theorem dL_law_1135 : decode cL_law 1135 = .ok (.ireturn, 1) := mm_dk kL_law_19 7 rfl
theorem dL_law_1136 : decode cL_law 1136 = .ok (.aload_n 1, 1) := mm_dk kL_law_19 8 rfl
theorem dL_law_1137 : decode cL_law 1137 = .ok (.aload_n 0, 1) := mm_dk kL_law_19 9 rfl
theorem dL_law_1138 : decode cL_law 1138 = .ok (.iload_n 3, 1) := mm_dk kL_law_19 10 rfl
theorem dL_law_1139 : decode cL_law 1139 = .ok (.iconst 1, 1) := mm_dk kL_law_19 11 rfl
theorem dL_law_1140 : decode cL_law 1140 = .ok (.iadd, 1) := mm_dk kL_law_19 12 rfl
theorem dL_law_1141 : decode cL_law 1141 = .ok (.iaload, 1) := mm_dk kL_law_19 13 rfl
theorem dL_law_1142 : decode cL_law 1142 = .ok (.aload_n 0, 1) := mm_dk kL_law_19 14 rfl
theorem dL_law_1143 : decode cL_law 1143 = .ok (.iload_n 3, 1) := mm_dk kL_law_19 15 rfl
theorem dL_law_1144 : decode cL_law 1144 = .ok (.iconst 2, 1) := mm_dk kL_law_19 16 rfl
theorem dL_law_1145 : decode cL_law 1145 = .ok (.iadd, 1) := mm_dk kL_law_19 17 rfl
theorem dL_law_1146 : decode cL_law 1146 = .ok (.iaload, 1) := mm_dk kL_law_19 18 rfl
theorem dL_law_1147 : decode cL_law 1147 = .ok (.invokevirtual 112, 3) := mm_dk kL_law_19 19 rfl
theorem dL_law_1150 : decode cL_law 1150 = .ok (.aload_n 2, 1) := mm_dk kL_law_19 20 rfl
theorem dL_law_1151 : decode cL_law 1151 = .ok (.aload_n 0, 1) := mm_dk kL_law_19 21 rfl
theorem dL_law_1152 : decode cL_law 1152 = .ok (.iload_n 3, 1) := mm_dk kL_law_19 22 rfl
theorem dL_law_1153 : decode cL_law 1153 = .ok (.iconst 1, 1) := mm_dk kL_law_19 23 rfl
theorem dL_law_1154 : decode cL_law 1154 = .ok (.iadd, 1) := mm_dk kL_law_19 24 rfl
theorem dL_law_1155 : decode cL_law 1155 = .ok (.iaload, 1) := mm_dk kL_law_19 25 rfl
theorem dL_law_1156 : decode cL_law 1156 = .ok (.aload_n 0, 1) := mm_dk kL_law_19 26 rfl
theorem dL_law_1157 : decode cL_law 1157 = .ok (.iload_n 3, 1) := mm_dk kL_law_19 27 rfl
theorem dL_law_1158 : decode cL_law 1158 = .ok (.iconst 2, 1) := mm_dk kL_law_19 28 rfl
theorem dL_law_1159 : decode cL_law 1159 = .ok (.iadd, 1) := mm_dk kL_law_19 29 rfl
theorem dL_law_1160 : decode cL_law 1160 = .ok (.iaload, 1) := mm_dk kL_law_19 30 rfl
theorem dL_law_1161 : decode cL_law 1161 = .ok (.invokevirtual 115, 3) := mm_dk kL_law_19 31 rfl
theorem dL_law_1164 : decode cL_law 1164 = .ok (.if_icmp .eq 659, 3) := mm_dk kL_law_19 32 rfl
theorem dL_law_1167 : decode cL_law 1167 = .ok (.iconst 0, 1) := mm_dk kL_law_19 33 rfl
theorem dL_law_1168 : decode cL_law 1168 = .ok (.ireturn, 1) := mm_dk kL_law_19 34 rfl
theorem dL_law_1169 : decode cL_law 1169 = .ok (.aload_n 1, 1) := mm_dk kL_law_19 35 rfl
theorem dL_law_1170 : decode cL_law 1170 = .ok (.aload_n 0, 1) := mm_dk kL_law_19 36 rfl
theorem dL_law_1171 : decode cL_law 1171 = .ok (.iload_n 3, 1) := mm_dk kL_law_19 37 rfl
theorem dL_law_1172 : decode cL_law 1172 = .ok (.iconst 1, 1) := mm_dk kL_law_19 38 rfl
theorem dL_law_1173 : decode cL_law 1173 = .ok (.iadd, 1) := mm_dk kL_law_19 39 rfl
set_option maxRecDepth 100000 in
theorem kL_law_20 : ([(1174, .iaload, 1), (1175, .i2l, 1), (1176, .bipush 32, 2), (1178, .lshl, 1), (1179, .aload_n 0, 1), (1180, .iload_n 3, 1), (1181, .iconst 2, 1), (1182, .iadd, 1), (1183, .iaload, 1), (1184, .i2l, 1), (1185, .ldc2_w 116, 3), (1188, .land, 1), (1189, .lor, 1), (1190, .aload_n 0, 1), (1191, .iload_n 3, 1), (1192, .iconst 3, 1), (1193, .iadd, 1), (1194, .iaload, 1), (1195, .invokevirtual 118, 3), (1198, .aload_n 2, 1), (1199, .aload_n 0, 1), (1200, .iload_n 3, 1), (1201, .iconst 1, 1), (1202, .iadd, 1), (1203, .iaload, 1), (1204, .i2l, 1), (1205, .bipush 32, 2), (1207, .lshl, 1), (1208, .aload_n 0, 1), (1209, .iload_n 3, 1), (1210, .iconst 2, 1), (1211, .iadd, 1), (1212, .iaload, 1), (1213, .i2l, 1), (1214, .ldc2_w 116, 3), (1217, .land, 1), (1218, .lor, 1), (1219, .aload_n 0, 1), (1220, .iload_n 3, 1), (1221, .iconst 3, 1)] : List (Nat × Instr × Nat)).all (fun x => decide (decode cL_law x.1 = .ok x.2)) = true := by decide +kernel
theorem dL_law_1174 : decode cL_law 1174 = .ok (.iaload, 1) := mm_dk kL_law_20 0 rfl
theorem dL_law_1175 : decode cL_law 1175 = .ok (.i2l, 1) := mm_dk kL_law_20 1 rfl
theorem dL_law_1176 : decode cL_law 1176 = .ok (.bipush 32, 2) := mm_dk kL_law_20 2 rfl
theorem dL_law_1178 : decode cL_law 1178 = .ok (.lshl, 1) := mm_dk kL_law_20 3 rfl
theorem dL_law_1179 : decode cL_law 1179 = .ok (.aload_n 0, 1) := mm_dk kL_law_20 4 rfl
theorem dL_law_1180 : decode cL_law 1180 = .ok (.iload_n 3, 1) := mm_dk kL_law_20 5 rfl
theorem dL_law_1181 : decode cL_law 1181 = .ok (.iconst 2, 1) := mm_dk kL_law_20 6 rfl
theorem dL_law_1182 : decode cL_law 1182 = .ok (.iadd, 1) := mm_dk kL_law_20 7 rfl
theorem dL_law_1183 : decode cL_law 1183 = .ok (.iaload, 1) := mm_dk kL_law_20 8 rfl
theorem dL_law_1184 : decode cL_law 1184 = .ok (.i2l, 1) := mm_dk kL_law_20 9 rfl
theorem dL_law_1185 : decode cL_law 1185 = .ok (.ldc2_w 116, 3) := mm_dk kL_law_20 10 rfl
theorem dL_law_1188 : decode cL_law 1188 = .ok (.land, 1) := mm_dk kL_law_20 11 rfl
theorem dL_law_1189 : decode cL_law 1189 = .ok (.lor, 1) := mm_dk kL_law_20 12 rfl
theorem dL_law_1190 : decode cL_law 1190 = .ok (.aload_n 0, 1) := mm_dk kL_law_20 13 rfl
theorem dL_law_1191 : decode cL_law 1191 = .ok (.iload_n 3, 1) := mm_dk kL_law_20 14 rfl
theorem dL_law_1192 : decode cL_law 1192 = .ok (.iconst 3, 1) := mm_dk kL_law_20 15 rfl
theorem dL_law_1193 : decode cL_law 1193 = .ok (.iadd, 1) := mm_dk kL_law_20 16 rfl
theorem dL_law_1194 : decode cL_law 1194 = .ok (.iaload, 1) := mm_dk kL_law_20 17 rfl
theorem dL_law_1195 : decode cL_law 1195 = .ok (.invokevirtual 118, 3) := mm_dk kL_law_20 18 rfl
theorem dL_law_1198 : decode cL_law 1198 = .ok (.aload_n 2, 1) := mm_dk kL_law_20 19 rfl
theorem dL_law_1199 : decode cL_law 1199 = .ok (.aload_n 0, 1) := mm_dk kL_law_20 20 rfl
theorem dL_law_1200 : decode cL_law 1200 = .ok (.iload_n 3, 1) := mm_dk kL_law_20 21 rfl
theorem dL_law_1201 : decode cL_law 1201 = .ok (.iconst 1, 1) := mm_dk kL_law_20 22 rfl
theorem dL_law_1202 : decode cL_law 1202 = .ok (.iadd, 1) := mm_dk kL_law_20 23 rfl
theorem dL_law_1203 : decode cL_law 1203 = .ok (.iaload, 1) := mm_dk kL_law_20 24 rfl
theorem dL_law_1204 : decode cL_law 1204 = .ok (.i2l, 1) := mm_dk kL_law_20 25 rfl
theorem dL_law_1205 : decode cL_law 1205 = .ok (.bipush 32, 2) := mm_dk kL_law_20 26 rfl
theorem dL_law_1207 : decode cL_law 1207 = .ok (.lshl, 1) := mm_dk kL_law_20 27 rfl
theorem dL_law_1208 : decode cL_law 1208 = .ok (.aload_n 0, 1) := mm_dk kL_law_20 28 rfl
theorem dL_law_1209 : decode cL_law 1209 = .ok (.iload_n 3, 1) := mm_dk kL_law_20 29 rfl
theorem dL_law_1210 : decode cL_law 1210 = .ok (.iconst 2, 1) := mm_dk kL_law_20 30 rfl
theorem dL_law_1211 : decode cL_law 1211 = .ok (.iadd, 1) := mm_dk kL_law_20 31 rfl
theorem dL_law_1212 : decode cL_law 1212 = .ok (.iaload, 1) := mm_dk kL_law_20 32 rfl
theorem dL_law_1213 : decode cL_law 1213 = .ok (.i2l, 1) := mm_dk kL_law_20 33 rfl
theorem dL_law_1214 : decode cL_law 1214 = .ok (.ldc2_w 116, 3) := mm_dk kL_law_20 34 rfl
theorem dL_law_1217 : decode cL_law 1217 = .ok (.land, 1) := mm_dk kL_law_20 35 rfl
theorem dL_law_1218 : decode cL_law 1218 = .ok (.lor, 1) := mm_dk kL_law_20 36 rfl
theorem dL_law_1219 : decode cL_law 1219 = .ok (.aload_n 0, 1) := mm_dk kL_law_20 37 rfl
theorem dL_law_1220 : decode cL_law 1220 = .ok (.iload_n 3, 1) := mm_dk kL_law_20 38 rfl
theorem dL_law_1221 : decode cL_law 1221 = .ok (.iconst 3, 1) := mm_dk kL_law_20 39 rfl
set_option maxRecDepth 100000 in
theorem kL_law_21 : ([(1222, .iadd, 1), (1223, .iaload, 1), (1224, .invokevirtual 122, 3), (1227, .if_icmp .eq 596, 3), (1230, .iconst 0, 1), (1231, .ireturn, 1), (1232, .aload_n 1, 1), (1233, .aload_n 0, 1), (1234, .iload_n 3, 1), (1235, .iconst 1, 1), (1236, .iadd, 1), (1237, .iaload, 1), (1238, .aload_n 0, 1), (1239, .iload_n 3, 1), (1240, .iconst 2, 1), (1241, .iadd, 1), (1242, .iaload, 1), (1243, .invokevirtual 123, 3), (1246, .aload_n 2, 1), (1247, .aload_n 0, 1), (1248, .iload_n 3, 1), (1249, .iconst 1, 1), (1250, .iadd, 1), (1251, .iaload, 1), (1252, .aload_n 0, 1), (1253, .iload_n 3, 1), (1254, .iconst 2, 1), (1255, .iadd, 1), (1256, .iaload, 1), (1257, .invokevirtual 126, 3), (1260, .if_icmp .eq 563, 3), (1263, .iconst 0, 1), (1264, .ireturn, 1), (1265, .aload_n 1, 1), (1266, .aload_n 0, 1), (1267, .iload_n 3, 1), (1268, .iconst 1, 1), (1269, .iadd, 1), (1270, .iaload, 1), (1271, .invokevirtual 127, 3)] : List (Nat × Instr × Nat)).all (fun x => decide (decode cL_law x.1 = .ok x.2)) = true := by decide +kernel
theorem dL_law_1222 : decode cL_law 1222 = .ok (.iadd, 1) := mm_dk kL_law_21 0 rfl
theorem dL_law_1223 : decode cL_law 1223 = .ok (.iaload, 1) := mm_dk kL_law_21 1 rfl
theorem dL_law_1224 : decode cL_law 1224 = .ok (.invokevirtual 122, 3) := mm_dk kL_law_21 2 rfl
theorem dL_law_1227 : decode cL_law 1227 = .ok (.if_icmp .eq 596, 3) := mm_dk kL_law_21 3 rfl
theorem dL_law_1230 : decode cL_law 1230 = .ok (.iconst 0, 1) := mm_dk kL_law_21 4 rfl
theorem dL_law_1231 : decode cL_law 1231 = .ok (.ireturn, 1) := mm_dk kL_law_21 5 rfl
theorem dL_law_1232 : decode cL_law 1232 = .ok (.aload_n 1, 1) := mm_dk kL_law_21 6 rfl
theorem dL_law_1233 : decode cL_law 1233 = .ok (.aload_n 0, 1) := mm_dk kL_law_21 7 rfl
theorem dL_law_1234 : decode cL_law 1234 = .ok (.iload_n 3, 1) := mm_dk kL_law_21 8 rfl
theorem dL_law_1235 : decode cL_law 1235 = .ok (.iconst 1, 1) := mm_dk kL_law_21 9 rfl
theorem dL_law_1236 : decode cL_law 1236 = .ok (.iadd, 1) := mm_dk kL_law_21 10 rfl
theorem dL_law_1237 : decode cL_law 1237 = .ok (.iaload, 1) := mm_dk kL_law_21 11 rfl
theorem dL_law_1238 : decode cL_law 1238 = .ok (.aload_n 0, 1) := mm_dk kL_law_21 12 rfl
theorem dL_law_1239 : decode cL_law 1239 = .ok (.iload_n 3, 1) := mm_dk kL_law_21 13 rfl
theorem dL_law_1240 : decode cL_law 1240 = .ok (.iconst 2, 1) := mm_dk kL_law_21 14 rfl
theorem dL_law_1241 : decode cL_law 1241 = .ok (.iadd, 1) := mm_dk kL_law_21 15 rfl
theorem dL_law_1242 : decode cL_law 1242 = .ok (.iaload, 1) := mm_dk kL_law_21 16 rfl
theorem dL_law_1243 : decode cL_law 1243 = .ok (.invokevirtual 123, 3) := mm_dk kL_law_21 17 rfl
theorem dL_law_1246 : decode cL_law 1246 = .ok (.aload_n 2, 1) := mm_dk kL_law_21 18 rfl
theorem dL_law_1247 : decode cL_law 1247 = .ok (.aload_n 0, 1) := mm_dk kL_law_21 19 rfl
theorem dL_law_1248 : decode cL_law 1248 = .ok (.iload_n 3, 1) := mm_dk kL_law_21 20 rfl
theorem dL_law_1249 : decode cL_law 1249 = .ok (.iconst 1, 1) := mm_dk kL_law_21 21 rfl
theorem dL_law_1250 : decode cL_law 1250 = .ok (.iadd, 1) := mm_dk kL_law_21 22 rfl
theorem dL_law_1251 : decode cL_law 1251 = .ok (.iaload, 1) := mm_dk kL_law_21 23 rfl
theorem dL_law_1252 : decode cL_law 1252 = .ok (.aload_n 0, 1) := mm_dk kL_law_21 24 rfl
theorem dL_law_1253 : decode cL_law 1253 = .ok (.iload_n 3, 1) := mm_dk kL_law_21 25 rfl
theorem dL_law_1254 : decode cL_law 1254 = .ok (.iconst 2, 1) := mm_dk kL_law_21 26 rfl
theorem dL_law_1255 : decode cL_law 1255 = .ok (.iadd, 1) := mm_dk kL_law_21 27 rfl
theorem dL_law_1256 : decode cL_law 1256 = .ok (.iaload, 1) := mm_dk kL_law_21 28 rfl
theorem dL_law_1257 : decode cL_law 1257 = .ok (.invokevirtual 126, 3) := mm_dk kL_law_21 29 rfl
theorem dL_law_1260 : decode cL_law 1260 = .ok (.if_icmp .eq 563, 3) := mm_dk kL_law_21 30 rfl
theorem dL_law_1263 : decode cL_law 1263 = .ok (.iconst 0, 1) := mm_dk kL_law_21 31 rfl
theorem dL_law_1264 : decode cL_law 1264 = .ok (.ireturn, 1) := mm_dk kL_law_21 32 rfl
theorem dL_law_1265 : decode cL_law 1265 = .ok (.aload_n 1, 1) := mm_dk kL_law_21 33 rfl
theorem dL_law_1266 : decode cL_law 1266 = .ok (.aload_n 0, 1) := mm_dk kL_law_21 34 rfl
theorem dL_law_1267 : decode cL_law 1267 = .ok (.iload_n 3, 1) := mm_dk kL_law_21 35 rfl
theorem dL_law_1268 : decode cL_law 1268 = .ok (.iconst 1, 1) := mm_dk kL_law_21 36 rfl
theorem dL_law_1269 : decode cL_law 1269 = .ok (.iadd, 1) := mm_dk kL_law_21 37 rfl
theorem dL_law_1270 : decode cL_law 1270 = .ok (.iaload, 1) := mm_dk kL_law_21 38 rfl
theorem dL_law_1271 : decode cL_law 1271 = .ok (.invokevirtual 127, 3) := mm_dk kL_law_21 39 rfl
set_option maxRecDepth 100000 in
theorem kL_law_22 : ([(1274, .aload_n 2, 1), (1275, .aload_n 0, 1), (1276, .iload_n 3, 1), (1277, .iconst 1, 1), (1278, .iadd, 1), (1279, .iaload, 1), (1280, .invokevirtual 130, 3), (1283, .if_icmp .eq 540, 3), (1286, .iconst 0, 1), (1287, .ireturn, 1), (1288, .aload_n 1, 1), (1289, .aload_n 0, 1), (1290, .iload_n 3, 1), (1291, .iconst 1, 1), (1292, .iadd, 1), (1293, .iaload, 1), (1294, .aload_n 0, 1), (1295, .iload_n 3, 1), (1296, .iconst 2, 1), (1297, .iadd, 1), (1298, .iaload, 1), (1299, .invokevirtual 131, 3), (1302, .aload_n 2, 1), (1303, .aload_n 0, 1), (1304, .iload_n 3, 1), (1305, .iconst 1, 1), (1306, .iadd, 1), (1307, .iaload, 1), (1308, .aload_n 0, 1), (1309, .iload_n 3, 1), (1310, .iconst 2, 1), (1311, .iadd, 1), (1312, .iaload, 1), (1313, .invokevirtual 134, 3), (1316, .if_icmp .eq 507, 3), (1319, .iconst 0, 1), (1320, .ireturn, 1), (1321, .aload_n 1, 1), (1322, .aload_n 0, 1), (1323, .iload_n 3, 1)] : List (Nat × Instr × Nat)).all (fun x => decide (decode cL_law x.1 = .ok x.2)) = true := by decide +kernel
theorem dL_law_1274 : decode cL_law 1274 = .ok (.aload_n 2, 1) := mm_dk kL_law_22 0 rfl
theorem dL_law_1275 : decode cL_law 1275 = .ok (.aload_n 0, 1) := mm_dk kL_law_22 1 rfl
theorem dL_law_1276 : decode cL_law 1276 = .ok (.iload_n 3, 1) := mm_dk kL_law_22 2 rfl
theorem dL_law_1277 : decode cL_law 1277 = .ok (.iconst 1, 1) := mm_dk kL_law_22 3 rfl
theorem dL_law_1278 : decode cL_law 1278 = .ok (.iadd, 1) := mm_dk kL_law_22 4 rfl
theorem dL_law_1279 : decode cL_law 1279 = .ok (.iaload, 1) := mm_dk kL_law_22 5 rfl
theorem dL_law_1280 : decode cL_law 1280 = .ok (.invokevirtual 130, 3) := mm_dk kL_law_22 6 rfl
theorem dL_law_1283 : decode cL_law 1283 = .ok (.if_icmp .eq 540, 3) := mm_dk kL_law_22 7 rfl
theorem dL_law_1286 : decode cL_law 1286 = .ok (.iconst 0, 1) := mm_dk kL_law_22 8 rfl
theorem dL_law_1287 : decode cL_law 1287 = .ok (.ireturn, 1) := mm_dk kL_law_22 9 rfl
theorem dL_law_1288 : decode cL_law 1288 = .ok (.aload_n 1, 1) := mm_dk kL_law_22 10 rfl
theorem dL_law_1289 : decode cL_law 1289 = .ok (.aload_n 0, 1) := mm_dk kL_law_22 11 rfl
theorem dL_law_1290 : decode cL_law 1290 = .ok (.iload_n 3, 1) := mm_dk kL_law_22 12 rfl
theorem dL_law_1291 : decode cL_law 1291 = .ok (.iconst 1, 1) := mm_dk kL_law_22 13 rfl
theorem dL_law_1292 : decode cL_law 1292 = .ok (.iadd, 1) := mm_dk kL_law_22 14 rfl
theorem dL_law_1293 : decode cL_law 1293 = .ok (.iaload, 1) := mm_dk kL_law_22 15 rfl
theorem dL_law_1294 : decode cL_law 1294 = .ok (.aload_n 0, 1) := mm_dk kL_law_22 16 rfl
theorem dL_law_1295 : decode cL_law 1295 = .ok (.iload_n 3, 1) := mm_dk kL_law_22 17 rfl
theorem dL_law_1296 : decode cL_law 1296 = .ok (.iconst 2, 1) := mm_dk kL_law_22 18 rfl
theorem dL_law_1297 : decode cL_law 1297 = .ok (.iadd, 1) := mm_dk kL_law_22 19 rfl
theorem dL_law_1298 : decode cL_law 1298 = .ok (.iaload, 1) := mm_dk kL_law_22 20 rfl
theorem dL_law_1299 : decode cL_law 1299 = .ok (.invokevirtual 131, 3) := mm_dk kL_law_22 21 rfl
theorem dL_law_1302 : decode cL_law 1302 = .ok (.aload_n 2, 1) := mm_dk kL_law_22 22 rfl
theorem dL_law_1303 : decode cL_law 1303 = .ok (.aload_n 0, 1) := mm_dk kL_law_22 23 rfl
theorem dL_law_1304 : decode cL_law 1304 = .ok (.iload_n 3, 1) := mm_dk kL_law_22 24 rfl
theorem dL_law_1305 : decode cL_law 1305 = .ok (.iconst 1, 1) := mm_dk kL_law_22 25 rfl
theorem dL_law_1306 : decode cL_law 1306 = .ok (.iadd, 1) := mm_dk kL_law_22 26 rfl
theorem dL_law_1307 : decode cL_law 1307 = .ok (.iaload, 1) := mm_dk kL_law_22 27 rfl
theorem dL_law_1308 : decode cL_law 1308 = .ok (.aload_n 0, 1) := mm_dk kL_law_22 28 rfl
theorem dL_law_1309 : decode cL_law 1309 = .ok (.iload_n 3, 1) := mm_dk kL_law_22 29 rfl
theorem dL_law_1310 : decode cL_law 1310 = .ok (.iconst 2, 1) := mm_dk kL_law_22 30 rfl
theorem dL_law_1311 : decode cL_law 1311 = .ok (.iadd, 1) := mm_dk kL_law_22 31 rfl
theorem dL_law_1312 : decode cL_law 1312 = .ok (.iaload, 1) := mm_dk kL_law_22 32 rfl
theorem dL_law_1313 : decode cL_law 1313 = .ok (.invokevirtual 134, 3) := mm_dk kL_law_22 33 rfl
theorem dL_law_1316 : decode cL_law 1316 = .ok (.if_icmp .eq 507, 3) := mm_dk kL_law_22 34 rfl
theorem dL_law_1319 : decode cL_law 1319 = .ok (.iconst 0, 1) := mm_dk kL_law_22 35 rfl
theorem dL_law_1320 : decode cL_law 1320 = .ok (.ireturn, 1) := mm_dk kL_law_22 36 rfl
theorem dL_law_1321 : decode cL_law 1321 = .ok (.aload_n 1, 1) := mm_dk kL_law_22 37 rfl
theorem dL_law_1322 : decode cL_law 1322 = .ok (.aload_n 0, 1) := mm_dk kL_law_22 38 rfl
theorem dL_law_1323 : decode cL_law 1323 = .ok (.iload_n 3, 1) := mm_dk kL_law_22 39 rfl
set_option maxRecDepth 100000 in
theorem kL_law_23 : ([(1324, .iconst 1, 1), (1325, .iadd, 1), (1326, .iaload, 1), (1327, .aload_n 0, 1), (1328, .iload_n 3, 1), (1329, .iconst 2, 1), (1330, .iadd, 1), (1331, .iaload, 1), (1332, .aload_n 0, 1), (1333, .iload_n 3, 1), (1334, .iconst 3, 1), (1335, .iadd, 1), (1336, .iaload, 1), (1337, .aload_n 0, 1), (1338, .iload_n 3, 1), (1339, .iconst 4, 1), (1340, .iadd, 1), (1341, .iaload, 1), (1342, .invokevirtual 135, 3), (1345, .aload_n 2, 1), (1346, .aload_n 0, 1), (1347, .iload_n 3, 1), (1348, .iconst 1, 1), (1349, .iadd, 1), (1350, .iaload, 1), (1351, .aload_n 0, 1), (1352, .iload_n 3, 1), (1353, .iconst 2, 1), (1354, .iadd, 1), (1355, .iaload, 1), (1356, .aload_n 0, 1), (1357, .iload_n 3, 1), (1358, .iconst 3, 1), (1359, .iadd, 1), (1360, .iaload, 1), (1361, .aload_n 0, 1), (1362, .iload_n 3, 1), (1363, .iconst 4, 1), (1364, .iadd, 1), (1365, .iaload, 1)] : List (Nat × Instr × Nat)).all (fun x => decide (decode cL_law x.1 = .ok x.2)) = true := by decide +kernel
theorem dL_law_1324 : decode cL_law 1324 = .ok (.iconst 1, 1) := mm_dk kL_law_23 0 rfl
theorem dL_law_1325 : decode cL_law 1325 = .ok (.iadd, 1) := mm_dk kL_law_23 1 rfl
theorem dL_law_1326 : decode cL_law 1326 = .ok (.iaload, 1) := mm_dk kL_law_23 2 rfl
theorem dL_law_1327 : decode cL_law 1327 = .ok (.aload_n 0, 1) := mm_dk kL_law_23 3 rfl
theorem dL_law_1328 : decode cL_law 1328 = .ok (.iload_n 3, 1) := mm_dk kL_law_23 4 rfl
theorem dL_law_1329 : decode cL_law 1329 = .ok (.iconst 2, 1) := mm_dk kL_law_23 5 rfl
theorem dL_law_1330 : decode cL_law 1330 = .ok (.iadd, 1) := mm_dk kL_law_23 6 rfl
theorem dL_law_1331 : decode cL_law 1331 = .ok (.iaload, 1) := mm_dk kL_law_23 7 rfl
theorem dL_law_1332 : decode cL_law 1332 = .ok (.aload_n 0, 1) := mm_dk kL_law_23 8 rfl
theorem dL_law_1333 : decode cL_law 1333 = .ok (.iload_n 3, 1) := mm_dk kL_law_23 9 rfl
theorem dL_law_1334 : decode cL_law 1334 = .ok (.iconst 3, 1) := mm_dk kL_law_23 10 rfl
theorem dL_law_1335 : decode cL_law 1335 = .ok (.iadd, 1) := mm_dk kL_law_23 11 rfl
theorem dL_law_1336 : decode cL_law 1336 = .ok (.iaload, 1) := mm_dk kL_law_23 12 rfl
theorem dL_law_1337 : decode cL_law 1337 = .ok (.aload_n 0, 1) := mm_dk kL_law_23 13 rfl
theorem dL_law_1338 : decode cL_law 1338 = .ok (.iload_n 3, 1) := mm_dk kL_law_23 14 rfl
theorem dL_law_1339 : decode cL_law 1339 = .ok (.iconst 4, 1) := mm_dk kL_law_23 15 rfl
theorem dL_law_1340 : decode cL_law 1340 = .ok (.iadd, 1) := mm_dk kL_law_23 16 rfl
theorem dL_law_1341 : decode cL_law 1341 = .ok (.iaload, 1) := mm_dk kL_law_23 17 rfl
theorem dL_law_1342 : decode cL_law 1342 = .ok (.invokevirtual 135, 3) := mm_dk kL_law_23 18 rfl
theorem dL_law_1345 : decode cL_law 1345 = .ok (.aload_n 2, 1) := mm_dk kL_law_23 19 rfl
theorem dL_law_1346 : decode cL_law 1346 = .ok (.aload_n 0, 1) := mm_dk kL_law_23 20 rfl
theorem dL_law_1347 : decode cL_law 1347 = .ok (.iload_n 3, 1) := mm_dk kL_law_23 21 rfl
theorem dL_law_1348 : decode cL_law 1348 = .ok (.iconst 1, 1) := mm_dk kL_law_23 22 rfl
theorem dL_law_1349 : decode cL_law 1349 = .ok (.iadd, 1) := mm_dk kL_law_23 23 rfl
theorem dL_law_1350 : decode cL_law 1350 = .ok (.iaload, 1) := mm_dk kL_law_23 24 rfl
theorem dL_law_1351 : decode cL_law 1351 = .ok (.aload_n 0, 1) := mm_dk kL_law_23 25 rfl
theorem dL_law_1352 : decode cL_law 1352 = .ok (.iload_n 3, 1) := mm_dk kL_law_23 26 rfl
theorem dL_law_1353 : decode cL_law 1353 = .ok (.iconst 2, 1) := mm_dk kL_law_23 27 rfl
theorem dL_law_1354 : decode cL_law 1354 = .ok (.iadd, 1) := mm_dk kL_law_23 28 rfl
theorem dL_law_1355 : decode cL_law 1355 = .ok (.iaload, 1) := mm_dk kL_law_23 29 rfl
theorem dL_law_1356 : decode cL_law 1356 = .ok (.aload_n 0, 1) := mm_dk kL_law_23 30 rfl
theorem dL_law_1357 : decode cL_law 1357 = .ok (.iload_n 3, 1) := mm_dk kL_law_23 31 rfl
theorem dL_law_1358 : decode cL_law 1358 = .ok (.iconst 3, 1) := mm_dk kL_law_23 32 rfl
theorem dL_law_1359 : decode cL_law 1359 = .ok (.iadd, 1) := mm_dk kL_law_23 33 rfl
theorem dL_law_1360 : decode cL_law 1360 = .ok (.iaload, 1) := mm_dk kL_law_23 34 rfl
theorem dL_law_1361 : decode cL_law 1361 = .ok (.aload_n 0, 1) := mm_dk kL_law_23 35 rfl
theorem dL_law_1362 : decode cL_law 1362 = .ok (.iload_n 3, 1) := mm_dk kL_law_23 36 rfl
theorem dL_law_1363 : decode cL_law 1363 = .ok (.iconst 4, 1) := mm_dk kL_law_23 37 rfl
theorem dL_law_1364 : decode cL_law 1364 = .ok (.iadd, 1) := mm_dk kL_law_23 38 rfl
theorem dL_law_1365 : decode cL_law 1365 = .ok (.iaload, 1) := mm_dk kL_law_23 39 rfl
set_option maxRecDepth 100000 in
theorem kL_law_24 : ([(1366, .invokevirtual 138, 3), (1369, .if_icmp .eq 454, 3), (1372, .iconst 0, 1), (1373, .ireturn, 1), (1374, .aload_n 1, 1), (1375, .aload_n 0, 1), (1376, .iload_n 3, 1), (1377, .iconst 1, 1), (1378, .iadd, 1), (1379, .iaload, 1), (1380, .invokevirtual 139, 3), (1383, .aload_n 2, 1), (1384, .aload_n 0, 1), (1385, .iload_n 3, 1), (1386, .iconst 1, 1), (1387, .iadd, 1), (1388, .iaload, 1), (1389, .invokevirtual 142, 3), (1392, .if_icmp .eq 431, 3), (1395, .iconst 0, 1), (1396, .ireturn, 1), (1397, .aload_n 1, 1), (1398, .aload_n 0, 1), (1399, .iload_n 3, 1), (1400, .iconst 1, 1), (1401, .iadd, 1), (1402, .iaload, 1), (1403, .invokevirtual 143, 3), (1406, .aload_n 2, 1), (1407, .aload_n 0, 1), (1408, .iload_n 3, 1), (1409, .iconst 1, 1), (1410, .iadd, 1), (1411, .iaload, 1), (1412, .invokevirtual 146, 3), (1415, .if_icmp .eq 408, 3), (1418, .iconst 0, 1), (1419, .ireturn, 1), (1420, .aload_n 1, 1), (1421, .aload_n 0, 1)] : List (Nat × Instr × Nat)).all (fun x => decide (decode cL_law x.1 = .ok x.2)) = true := by decide +kernel
theorem dL_law_1366 : decode cL_law 1366 = .ok (.invokevirtual 138, 3) := mm_dk kL_law_24 0 rfl
theorem dL_law_1369 : decode cL_law 1369 = .ok (.if_icmp .eq 454, 3) := mm_dk kL_law_24 1 rfl
theorem dL_law_1372 : decode cL_law 1372 = .ok (.iconst 0, 1) := mm_dk kL_law_24 2 rfl
theorem dL_law_1373 : decode cL_law 1373 = .ok (.ireturn, 1) := mm_dk kL_law_24 3 rfl
theorem dL_law_1374 : decode cL_law 1374 = .ok (.aload_n 1, 1) := mm_dk kL_law_24 4 rfl
theorem dL_law_1375 : decode cL_law 1375 = .ok (.aload_n 0, 1) := mm_dk kL_law_24 5 rfl
theorem dL_law_1376 : decode cL_law 1376 = .ok (.iload_n 3, 1) := mm_dk kL_law_24 6 rfl
theorem dL_law_1377 : decode cL_law 1377 = .ok (.iconst 1, 1) := mm_dk kL_law_24 7 rfl
theorem dL_law_1378 : decode cL_law 1378 = .ok (.iadd, 1) := mm_dk kL_law_24 8 rfl
theorem dL_law_1379 : decode cL_law 1379 = .ok (.iaload, 1) := mm_dk kL_law_24 9 rfl
theorem dL_law_1380 : decode cL_law 1380 = .ok (.invokevirtual 139, 3) := mm_dk kL_law_24 10 rfl
theorem dL_law_1383 : decode cL_law 1383 = .ok (.aload_n 2, 1) := mm_dk kL_law_24 11 rfl
theorem dL_law_1384 : decode cL_law 1384 = .ok (.aload_n 0, 1) := mm_dk kL_law_24 12 rfl
theorem dL_law_1385 : decode cL_law 1385 = .ok (.iload_n 3, 1) := mm_dk kL_law_24 13 rfl
theorem dL_law_1386 : decode cL_law 1386 = .ok (.iconst 1, 1) := mm_dk kL_law_24 14 rfl
theorem dL_law_1387 : decode cL_law 1387 = .ok (.iadd, 1) := mm_dk kL_law_24 15 rfl
theorem dL_law_1388 : decode cL_law 1388 = .ok (.iaload, 1) := mm_dk kL_law_24 16 rfl
theorem dL_law_1389 : decode cL_law 1389 = .ok (.invokevirtual 142, 3) := mm_dk kL_law_24 17 rfl
theorem dL_law_1392 : decode cL_law 1392 = .ok (.if_icmp .eq 431, 3) := mm_dk kL_law_24 18 rfl
theorem dL_law_1395 : decode cL_law 1395 = .ok (.iconst 0, 1) := mm_dk kL_law_24 19 rfl
theorem dL_law_1396 : decode cL_law 1396 = .ok (.ireturn, 1) := mm_dk kL_law_24 20 rfl
theorem dL_law_1397 : decode cL_law 1397 = .ok (.aload_n 1, 1) := mm_dk kL_law_24 21 rfl
theorem dL_law_1398 : decode cL_law 1398 = .ok (.aload_n 0, 1) := mm_dk kL_law_24 22 rfl
theorem dL_law_1399 : decode cL_law 1399 = .ok (.iload_n 3, 1) := mm_dk kL_law_24 23 rfl
theorem dL_law_1400 : decode cL_law 1400 = .ok (.iconst 1, 1) := mm_dk kL_law_24 24 rfl
theorem dL_law_1401 : decode cL_law 1401 = .ok (.iadd, 1) := mm_dk kL_law_24 25 rfl
theorem dL_law_1402 : decode cL_law 1402 = .ok (.iaload, 1) := mm_dk kL_law_24 26 rfl
theorem dL_law_1403 : decode cL_law 1403 = .ok (.invokevirtual 143, 3) := mm_dk kL_law_24 27 rfl
theorem dL_law_1406 : decode cL_law 1406 = .ok (.aload_n 2, 1) := mm_dk kL_law_24 28 rfl
theorem dL_law_1407 : decode cL_law 1407 = .ok (.aload_n 0, 1) := mm_dk kL_law_24 29 rfl
theorem dL_law_1408 : decode cL_law 1408 = .ok (.iload_n 3, 1) := mm_dk kL_law_24 30 rfl
theorem dL_law_1409 : decode cL_law 1409 = .ok (.iconst 1, 1) := mm_dk kL_law_24 31 rfl
theorem dL_law_1410 : decode cL_law 1410 = .ok (.iadd, 1) := mm_dk kL_law_24 32 rfl
theorem dL_law_1411 : decode cL_law 1411 = .ok (.iaload, 1) := mm_dk kL_law_24 33 rfl
theorem dL_law_1412 : decode cL_law 1412 = .ok (.invokevirtual 146, 3) := mm_dk kL_law_24 34 rfl
theorem dL_law_1415 : decode cL_law 1415 = .ok (.if_icmp .eq 408, 3) := mm_dk kL_law_24 35 rfl
theorem dL_law_1418 : decode cL_law 1418 = .ok (.iconst 0, 1) := mm_dk kL_law_24 36 rfl
theorem dL_law_1419 : decode cL_law 1419 = .ok (.ireturn, 1) := mm_dk kL_law_24 37 rfl
theorem dL_law_1420 : decode cL_law 1420 = .ok (.aload_n 1, 1) := mm_dk kL_law_24 38 rfl
theorem dL_law_1421 : decode cL_law 1421 = .ok (.aload_n 0, 1) := mm_dk kL_law_24 39 rfl
set_option maxRecDepth 100000 in
theorem kL_law_25 : ([(1422, .iload_n 3, 1), (1423, .iconst 1, 1), (1424, .iadd, 1), (1425, .iaload, 1), (1426, .aload_n 0, 1), (1427, .iload_n 3, 1), (1428, .iconst 2, 1), (1429, .iadd, 1), (1430, .iaload, 1), (1431, .aload_n 0, 1), (1432, .iload_n 3, 1), (1433, .iconst 3, 1), (1434, .iadd, 1), (1435, .iaload, 1), (1436, .invokevirtual 147, 3), (1439, .aload_n 2, 1), (1440, .aload_n 0, 1), (1441, .iload_n 3, 1), (1442, .iconst 1, 1), (1443, .iadd, 1), (1444, .iaload, 1), (1445, .aload_n 0, 1), (1446, .iload_n 3, 1), (1447, .iconst 2, 1), (1448, .iadd, 1), (1449, .iaload, 1), (1450, .aload_n 0, 1), (1451, .iload_n 3, 1), (1452, .iconst 3, 1), (1453, .iadd, 1), (1454, .iaload, 1), (1455, .invokevirtual 150, 3), (1458, .if_icmp .eq 365, 3), (1461, .iconst 0, 1), (1462, .ireturn, 1), (1463, .aload_n 1, 1), (1464, .aload_n 0, 1), (1465, .iload_n 3, 1), (1466, .iconst 1, 1), (1467, .iadd, 1)] : List (Nat × Instr × Nat)).all (fun x => decide (decode cL_law x.1 = .ok x.2)) = true := by decide +kernel
theorem dL_law_1422 : decode cL_law 1422 = .ok (.iload_n 3, 1) := mm_dk kL_law_25 0 rfl
theorem dL_law_1423 : decode cL_law 1423 = .ok (.iconst 1, 1) := mm_dk kL_law_25 1 rfl
theorem dL_law_1424 : decode cL_law 1424 = .ok (.iadd, 1) := mm_dk kL_law_25 2 rfl
theorem dL_law_1425 : decode cL_law 1425 = .ok (.iaload, 1) := mm_dk kL_law_25 3 rfl
theorem dL_law_1426 : decode cL_law 1426 = .ok (.aload_n 0, 1) := mm_dk kL_law_25 4 rfl
theorem dL_law_1427 : decode cL_law 1427 = .ok (.iload_n 3, 1) := mm_dk kL_law_25 5 rfl
theorem dL_law_1428 : decode cL_law 1428 = .ok (.iconst 2, 1) := mm_dk kL_law_25 6 rfl
theorem dL_law_1429 : decode cL_law 1429 = .ok (.iadd, 1) := mm_dk kL_law_25 7 rfl
theorem dL_law_1430 : decode cL_law 1430 = .ok (.iaload, 1) := mm_dk kL_law_25 8 rfl
theorem dL_law_1431 : decode cL_law 1431 = .ok (.aload_n 0, 1) := mm_dk kL_law_25 9 rfl
theorem dL_law_1432 : decode cL_law 1432 = .ok (.iload_n 3, 1) := mm_dk kL_law_25 10 rfl
theorem dL_law_1433 : decode cL_law 1433 = .ok (.iconst 3, 1) := mm_dk kL_law_25 11 rfl
theorem dL_law_1434 : decode cL_law 1434 = .ok (.iadd, 1) := mm_dk kL_law_25 12 rfl
theorem dL_law_1435 : decode cL_law 1435 = .ok (.iaload, 1) := mm_dk kL_law_25 13 rfl
theorem dL_law_1436 : decode cL_law 1436 = .ok (.invokevirtual 147, 3) := mm_dk kL_law_25 14 rfl
theorem dL_law_1439 : decode cL_law 1439 = .ok (.aload_n 2, 1) := mm_dk kL_law_25 15 rfl
theorem dL_law_1440 : decode cL_law 1440 = .ok (.aload_n 0, 1) := mm_dk kL_law_25 16 rfl
theorem dL_law_1441 : decode cL_law 1441 = .ok (.iload_n 3, 1) := mm_dk kL_law_25 17 rfl
theorem dL_law_1442 : decode cL_law 1442 = .ok (.iconst 1, 1) := mm_dk kL_law_25 18 rfl
theorem dL_law_1443 : decode cL_law 1443 = .ok (.iadd, 1) := mm_dk kL_law_25 19 rfl
theorem dL_law_1444 : decode cL_law 1444 = .ok (.iaload, 1) := mm_dk kL_law_25 20 rfl
theorem dL_law_1445 : decode cL_law 1445 = .ok (.aload_n 0, 1) := mm_dk kL_law_25 21 rfl
theorem dL_law_1446 : decode cL_law 1446 = .ok (.iload_n 3, 1) := mm_dk kL_law_25 22 rfl
theorem dL_law_1447 : decode cL_law 1447 = .ok (.iconst 2, 1) := mm_dk kL_law_25 23 rfl
theorem dL_law_1448 : decode cL_law 1448 = .ok (.iadd, 1) := mm_dk kL_law_25 24 rfl
theorem dL_law_1449 : decode cL_law 1449 = .ok (.iaload, 1) := mm_dk kL_law_25 25 rfl
theorem dL_law_1450 : decode cL_law 1450 = .ok (.aload_n 0, 1) := mm_dk kL_law_25 26 rfl
theorem dL_law_1451 : decode cL_law 1451 = .ok (.iload_n 3, 1) := mm_dk kL_law_25 27 rfl
theorem dL_law_1452 : decode cL_law 1452 = .ok (.iconst 3, 1) := mm_dk kL_law_25 28 rfl
theorem dL_law_1453 : decode cL_law 1453 = .ok (.iadd, 1) := mm_dk kL_law_25 29 rfl
theorem dL_law_1454 : decode cL_law 1454 = .ok (.iaload, 1) := mm_dk kL_law_25 30 rfl
theorem dL_law_1455 : decode cL_law 1455 = .ok (.invokevirtual 150, 3) := mm_dk kL_law_25 31 rfl
theorem dL_law_1458 : decode cL_law 1458 = .ok (.if_icmp .eq 365, 3) := mm_dk kL_law_25 32 rfl
theorem dL_law_1461 : decode cL_law 1461 = .ok (.iconst 0, 1) := mm_dk kL_law_25 33 rfl
theorem dL_law_1462 : decode cL_law 1462 = .ok (.ireturn, 1) := mm_dk kL_law_25 34 rfl
theorem dL_law_1463 : decode cL_law 1463 = .ok (.aload_n 1, 1) := mm_dk kL_law_25 35 rfl
theorem dL_law_1464 : decode cL_law 1464 = .ok (.aload_n 0, 1) := mm_dk kL_law_25 36 rfl
theorem dL_law_1465 : decode cL_law 1465 = .ok (.iload_n 3, 1) := mm_dk kL_law_25 37 rfl
theorem dL_law_1466 : decode cL_law 1466 = .ok (.iconst 1, 1) := mm_dk kL_law_25 38 rfl
theorem dL_law_1467 : decode cL_law 1467 = .ok (.iadd, 1) := mm_dk kL_law_25 39 rfl
set_option maxRecDepth 100000 in
theorem kL_law_26 : ([(1468, .iaload, 1), (1469, .aload_n 0, 1), (1470, .iload_n 3, 1), (1471, .iconst 2, 1), (1472, .iadd, 1), (1473, .iaload, 1), (1474, .invokevirtual 151, 3), (1477, .aload_n 2, 1), (1478, .aload_n 0, 1), (1479, .iload_n 3, 1), (1480, .iconst 1, 1), (1481, .iadd, 1), (1482, .iaload, 1), (1483, .aload_n 0, 1), (1484, .iload_n 3, 1), (1485, .iconst 2, 1), (1486, .iadd, 1), (1487, .iaload, 1), (1488, .invokevirtual 154, 3), (1491, .if_icmp .eq 332, 3), (1494, .iconst 0, 1), (1495, .ireturn, 1), (1496, .aload_n 1, 1), (1497, .aload_n 0, 1), (1498, .iload_n 3, 1), (1499, .iconst 1, 1), (1500, .iadd, 1), (1501, .iaload, 1), (1502, .aload_n 0, 1), (1503, .iload_n 3, 1), (1504, .iconst 2, 1), (1505, .iadd, 1), (1506, .iaload, 1), (1507, .invokevirtual 155, 3), (1510, .aload_n 2, 1), (1511, .aload_n 0, 1), (1512, .iload_n 3, 1), (1513, .iconst 1, 1), (1514, .iadd, 1), (1515, .iaload, 1)] : List (Nat × Instr × Nat)).all (fun x => decide (decode cL_law x.1 = .ok x.2)) = true := by decide +kernel
theorem dL_law_1468 : decode cL_law 1468 = .ok (.iaload, 1) := mm_dk kL_law_26 0 rfl
theorem dL_law_1469 : decode cL_law 1469 = .ok (.aload_n 0, 1) := mm_dk kL_law_26 1 rfl
theorem dL_law_1470 : decode cL_law 1470 = .ok (.iload_n 3, 1) := mm_dk kL_law_26 2 rfl
theorem dL_law_1471 : decode cL_law 1471 = .ok (.iconst 2, 1) := mm_dk kL_law_26 3 rfl
theorem dL_law_1472 : decode cL_law 1472 = .ok (.iadd, 1) := mm_dk kL_law_26 4 rfl
theorem dL_law_1473 : decode cL_law 1473 = .ok (.iaload, 1) := mm_dk kL_law_26 5 rfl
theorem dL_law_1474 : decode cL_law 1474 = .ok (.invokevirtual 151, 3) := mm_dk kL_law_26 6 rfl
theorem dL_law_1477 : decode cL_law 1477 = .ok (.aload_n 2, 1) := mm_dk kL_law_26 7 rfl
theorem dL_law_1478 : decode cL_law 1478 = .ok (.aload_n 0, 1) := mm_dk kL_law_26 8 rfl
theorem dL_law_1479 : decode cL_law 1479 = .ok (.iload_n 3, 1) := mm_dk kL_law_26 9 rfl
theorem dL_law_1480 : decode cL_law 1480 = .ok (.iconst 1, 1) := mm_dk kL_law_26 10 rfl
theorem dL_law_1481 : decode cL_law 1481 = .ok (.iadd, 1) := mm_dk kL_law_26 11 rfl
theorem dL_law_1482 : decode cL_law 1482 = .ok (.iaload, 1) := mm_dk kL_law_26 12 rfl
theorem dL_law_1483 : decode cL_law 1483 = .ok (.aload_n 0, 1) := mm_dk kL_law_26 13 rfl
theorem dL_law_1484 : decode cL_law 1484 = .ok (.iload_n 3, 1) := mm_dk kL_law_26 14 rfl
theorem dL_law_1485 : decode cL_law 1485 = .ok (.iconst 2, 1) := mm_dk kL_law_26 15 rfl
theorem dL_law_1486 : decode cL_law 1486 = .ok (.iadd, 1) := mm_dk kL_law_26 16 rfl
theorem dL_law_1487 : decode cL_law 1487 = .ok (.iaload, 1) := mm_dk kL_law_26 17 rfl
theorem dL_law_1488 : decode cL_law 1488 = .ok (.invokevirtual 154, 3) := mm_dk kL_law_26 18 rfl
theorem dL_law_1491 : decode cL_law 1491 = .ok (.if_icmp .eq 332, 3) := mm_dk kL_law_26 19 rfl
theorem dL_law_1494 : decode cL_law 1494 = .ok (.iconst 0, 1) := mm_dk kL_law_26 20 rfl
theorem dL_law_1495 : decode cL_law 1495 = .ok (.ireturn, 1) := mm_dk kL_law_26 21 rfl
theorem dL_law_1496 : decode cL_law 1496 = .ok (.aload_n 1, 1) := mm_dk kL_law_26 22 rfl
theorem dL_law_1497 : decode cL_law 1497 = .ok (.aload_n 0, 1) := mm_dk kL_law_26 23 rfl
theorem dL_law_1498 : decode cL_law 1498 = .ok (.iload_n 3, 1) := mm_dk kL_law_26 24 rfl
theorem dL_law_1499 : decode cL_law 1499 = .ok (.iconst 1, 1) := mm_dk kL_law_26 25 rfl
theorem dL_law_1500 : decode cL_law 1500 = .ok (.iadd, 1) := mm_dk kL_law_26 26 rfl
theorem dL_law_1501 : decode cL_law 1501 = .ok (.iaload, 1) := mm_dk kL_law_26 27 rfl
theorem dL_law_1502 : decode cL_law 1502 = .ok (.aload_n 0, 1) := mm_dk kL_law_26 28 rfl
theorem dL_law_1503 : decode cL_law 1503 = .ok (.iload_n 3, 1) := mm_dk kL_law_26 29 rfl
theorem dL_law_1504 : decode cL_law 1504 = .ok (.iconst 2, 1) := mm_dk kL_law_26 30 rfl
theorem dL_law_1505 : decode cL_law 1505 = .ok (.iadd, 1) := mm_dk kL_law_26 31 rfl
theorem dL_law_1506 : decode cL_law 1506 = .ok (.iaload, 1) := mm_dk kL_law_26 32 rfl
theorem dL_law_1507 : decode cL_law 1507 = .ok (.invokevirtual 155, 3) := mm_dk kL_law_26 33 rfl
theorem dL_law_1510 : decode cL_law 1510 = .ok (.aload_n 2, 1) := mm_dk kL_law_26 34 rfl
theorem dL_law_1511 : decode cL_law 1511 = .ok (.aload_n 0, 1) := mm_dk kL_law_26 35 rfl
theorem dL_law_1512 : decode cL_law 1512 = .ok (.iload_n 3, 1) := mm_dk kL_law_26 36 rfl
theorem dL_law_1513 : decode cL_law 1513 = .ok (.iconst 1, 1) := mm_dk kL_law_26 37 rfl
theorem dL_law_1514 : decode cL_law 1514 = .ok (.iadd, 1) := mm_dk kL_law_26 38 rfl
theorem dL_law_1515 : decode cL_law 1515 = .ok (.iaload, 1) := mm_dk kL_law_26 39 rfl
set_option maxRecDepth 100000 in
theorem kL_law_27 : ([(1516, .aload_n 0, 1), (1517, .iload_n 3, 1), (1518, .iconst 2, 1), (1519, .iadd, 1), (1520, .iaload, 1), (1521, .invokevirtual 158, 3), (1524, .if_icmp .eq 299, 3), (1527, .iconst 0, 1), (1528, .ireturn, 1), (1529, .aload_n 1, 1), (1530, .aload_n 0, 1), (1531, .iload_n 3, 1), (1532, .iconst 1, 1), (1533, .iadd, 1), (1534, .iaload, 1), (1535, .aload_n 0, 1), (1536, .iload_n 3, 1), (1537, .iconst 2, 1), (1538, .iadd, 1), (1539, .iaload, 1), (1540, .aload_n 0, 1), (1541, .iload_n 3, 1), (1542, .iconst 3, 1), (1543, .iadd, 1), (1544, .iaload, 1), (1545, .aload_n 0, 1), (1546, .iload_n 3, 1), (1547, .iconst 4, 1), (1548, .iadd, 1), (1549, .iaload, 1), (1550, .invokevirtual 159, 3), (1553, .aload_n 2, 1), (1554, .aload_n 0, 1), (1555, .iload_n 3, 1), (1556, .iconst 1, 1), (1557, .iadd, 1), (1558, .iaload, 1), (1559, .aload_n 0, 1), (1560, .iload_n 3, 1), (1561, .iconst 2, 1)] : List (Nat × Instr × Nat)).all (fun x => decide (decode cL_law x.1 = .ok x.2)) = true := by decide +kernel
theorem dL_law_1516 : decode cL_law 1516 = .ok (.aload_n 0, 1) := mm_dk kL_law_27 0 rfl
theorem dL_law_1517 : decode cL_law 1517 = .ok (.iload_n 3, 1) := mm_dk kL_law_27 1 rfl
theorem dL_law_1518 : decode cL_law 1518 = .ok (.iconst 2, 1) := mm_dk kL_law_27 2 rfl
theorem dL_law_1519 : decode cL_law 1519 = .ok (.iadd, 1) := mm_dk kL_law_27 3 rfl
theorem dL_law_1520 : decode cL_law 1520 = .ok (.iaload, 1) := mm_dk kL_law_27 4 rfl
theorem dL_law_1521 : decode cL_law 1521 = .ok (.invokevirtual 158, 3) := mm_dk kL_law_27 5 rfl
theorem dL_law_1524 : decode cL_law 1524 = .ok (.if_icmp .eq 299, 3) := mm_dk kL_law_27 6 rfl
theorem dL_law_1527 : decode cL_law 1527 = .ok (.iconst 0, 1) := mm_dk kL_law_27 7 rfl
theorem dL_law_1528 : decode cL_law 1528 = .ok (.ireturn, 1) := mm_dk kL_law_27 8 rfl
theorem dL_law_1529 : decode cL_law 1529 = .ok (.aload_n 1, 1) := mm_dk kL_law_27 9 rfl
theorem dL_law_1530 : decode cL_law 1530 = .ok (.aload_n 0, 1) := mm_dk kL_law_27 10 rfl
theorem dL_law_1531 : decode cL_law 1531 = .ok (.iload_n 3, 1) := mm_dk kL_law_27 11 rfl
theorem dL_law_1532 : decode cL_law 1532 = .ok (.iconst 1, 1) := mm_dk kL_law_27 12 rfl
theorem dL_law_1533 : decode cL_law 1533 = .ok (.iadd, 1) := mm_dk kL_law_27 13 rfl
theorem dL_law_1534 : decode cL_law 1534 = .ok (.iaload, 1) := mm_dk kL_law_27 14 rfl
theorem dL_law_1535 : decode cL_law 1535 = .ok (.aload_n 0, 1) := mm_dk kL_law_27 15 rfl
theorem dL_law_1536 : decode cL_law 1536 = .ok (.iload_n 3, 1) := mm_dk kL_law_27 16 rfl
theorem dL_law_1537 : decode cL_law 1537 = .ok (.iconst 2, 1) := mm_dk kL_law_27 17 rfl
theorem dL_law_1538 : decode cL_law 1538 = .ok (.iadd, 1) := mm_dk kL_law_27 18 rfl
theorem dL_law_1539 : decode cL_law 1539 = .ok (.iaload, 1) := mm_dk kL_law_27 19 rfl
theorem dL_law_1540 : decode cL_law 1540 = .ok (.aload_n 0, 1) := mm_dk kL_law_27 20 rfl
theorem dL_law_1541 : decode cL_law 1541 = .ok (.iload_n 3, 1) := mm_dk kL_law_27 21 rfl
theorem dL_law_1542 : decode cL_law 1542 = .ok (.iconst 3, 1) := mm_dk kL_law_27 22 rfl
theorem dL_law_1543 : decode cL_law 1543 = .ok (.iadd, 1) := mm_dk kL_law_27 23 rfl
theorem dL_law_1544 : decode cL_law 1544 = .ok (.iaload, 1) := mm_dk kL_law_27 24 rfl
theorem dL_law_1545 : decode cL_law 1545 = .ok (.aload_n 0, 1) := mm_dk kL_law_27 25 rfl
theorem dL_law_1546 : decode cL_law 1546 = .ok (.iload_n 3, 1) := mm_dk kL_law_27 26 rfl
theorem dL_law_1547 : decode cL_law 1547 = .ok (.iconst 4, 1) := mm_dk kL_law_27 27 rfl
theorem dL_law_1548 : decode cL_law 1548 = .ok (.iadd, 1) := mm_dk kL_law_27 28 rfl
theorem dL_law_1549 : decode cL_law 1549 = .ok (.iaload, 1) := mm_dk kL_law_27 29 rfl
theorem dL_law_1550 : decode cL_law 1550 = .ok (.invokevirtual 159, 3) := mm_dk kL_law_27 30 rfl
theorem dL_law_1553 : decode cL_law 1553 = .ok (.aload_n 2, 1) := mm_dk kL_law_27 31 rfl
theorem dL_law_1554 : decode cL_law 1554 = .ok (.aload_n 0, 1) := mm_dk kL_law_27 32 rfl
theorem dL_law_1555 : decode cL_law 1555 = .ok (.iload_n 3, 1) := mm_dk kL_law_27 33 rfl
theorem dL_law_1556 : decode cL_law 1556 = .ok (.iconst 1, 1) := mm_dk kL_law_27 34 rfl
theorem dL_law_1557 : decode cL_law 1557 = .ok (.iadd, 1) := mm_dk kL_law_27 35 rfl
theorem dL_law_1558 : decode cL_law 1558 = .ok (.iaload, 1) := mm_dk kL_law_27 36 rfl
theorem dL_law_1559 : decode cL_law 1559 = .ok (.aload_n 0, 1) := mm_dk kL_law_27 37 rfl
theorem dL_law_1560 : decode cL_law 1560 = .ok (.iload_n 3, 1) := mm_dk kL_law_27 38 rfl
theorem dL_law_1561 : decode cL_law 1561 = .ok (.iconst 2, 1) := mm_dk kL_law_27 39 rfl
set_option maxRecDepth 100000 in
theorem kL_law_28 : ([(1562, .iadd, 1), (1563, .iaload, 1), (1564, .aload_n 0, 1), (1565, .iload_n 3, 1), (1566, .iconst 3, 1), (1567, .iadd, 1), (1568, .iaload, 1), (1569, .aload_n 0, 1), (1570, .iload_n 3, 1), (1571, .iconst 4, 1), (1572, .iadd, 1), (1573, .iaload, 1), (1574, .invokevirtual 162, 3), (1577, .if_icmp .eq 246, 3), (1580, .iconst 0, 1), (1581, .ireturn, 1), (1582, .aload_n 1, 1), (1583, .aload_n 0, 1), (1584, .iload_n 3, 1), (1585, .iconst 1, 1), (1586, .iadd, 1), (1587, .iaload, 1), (1588, .aload_n 0, 1), (1589, .iload_n 3, 1), (1590, .iconst 2, 1), (1591, .iadd, 1), (1592, .iaload, 1), (1593, .aload_n 0, 1), (1594, .iload_n 3, 1), (1595, .iconst 3, 1), (1596, .iadd, 1), (1597, .iaload, 1), (1598, .invokevirtual 163, 3), (1601, .aload_n 2, 1), (1602, .aload_n 0, 1), (1603, .iload_n 3, 1), (1604, .iconst 1, 1), (1605, .iadd, 1), (1606, .iaload, 1), (1607, .aload_n 0, 1)] : List (Nat × Instr × Nat)).all (fun x => decide (decode cL_law x.1 = .ok x.2)) = true := by decide +kernel
theorem dL_law_1562 : decode cL_law 1562 = .ok (.iadd, 1) := mm_dk kL_law_28 0 rfl
theorem dL_law_1563 : decode cL_law 1563 = .ok (.iaload, 1) := mm_dk kL_law_28 1 rfl
theorem dL_law_1564 : decode cL_law 1564 = .ok (.aload_n 0, 1) := mm_dk kL_law_28 2 rfl
theorem dL_law_1565 : decode cL_law 1565 = .ok (.iload_n 3, 1) := mm_dk kL_law_28 3 rfl
theorem dL_law_1566 : decode cL_law 1566 = .ok (.iconst 3, 1) := mm_dk kL_law_28 4 rfl
theorem dL_law_1567 : decode cL_law 1567 = .ok (.iadd, 1) := mm_dk kL_law_28 5 rfl
theorem dL_law_1568 : decode cL_law 1568 = .ok (.iaload, 1) := mm_dk kL_law_28 6 rfl
theorem dL_law_1569 : decode cL_law 1569 = .ok (.aload_n 0, 1) := mm_dk kL_law_28 7 rfl
theorem dL_law_1570 : decode cL_law 1570 = .ok (.iload_n 3, 1) := mm_dk kL_law_28 8 rfl
theorem dL_law_1571 : decode cL_law 1571 = .ok (.iconst 4, 1) := mm_dk kL_law_28 9 rfl
theorem dL_law_1572 : decode cL_law 1572 = .ok (.iadd, 1) := mm_dk kL_law_28 10 rfl
theorem dL_law_1573 : decode cL_law 1573 = .ok (.iaload, 1) := mm_dk kL_law_28 11 rfl
theorem dL_law_1574 : decode cL_law 1574 = .ok (.invokevirtual 162, 3) := mm_dk kL_law_28 12 rfl
theorem dL_law_1577 : decode cL_law 1577 = .ok (.if_icmp .eq 246, 3) := mm_dk kL_law_28 13 rfl
theorem dL_law_1580 : decode cL_law 1580 = .ok (.iconst 0, 1) := mm_dk kL_law_28 14 rfl
theorem dL_law_1581 : decode cL_law 1581 = .ok (.ireturn, 1) := mm_dk kL_law_28 15 rfl
theorem dL_law_1582 : decode cL_law 1582 = .ok (.aload_n 1, 1) := mm_dk kL_law_28 16 rfl
theorem dL_law_1583 : decode cL_law 1583 = .ok (.aload_n 0, 1) := mm_dk kL_law_28 17 rfl
theorem dL_law_1584 : decode cL_law 1584 = .ok (.iload_n 3, 1) := mm_dk kL_law_28 18 rfl
theorem dL_law_1585 : decode cL_law 1585 = .ok (.iconst 1, 1) := mm_dk kL_law_28 19 rfl
theorem dL_law_1586 : decode cL_law 1586 = .ok (.iadd, 1) := mm_dk kL_law_28 20 rfl
theorem dL_law_1587 : decode cL_law 1587 = .ok (.iaload, 1) := mm_dk kL_law_28 21 rfl
theorem dL_law_1588 : decode cL_law 1588 = .ok (.aload_n 0, 1) := mm_dk kL_law_28 22 rfl
theorem dL_law_1589 : decode cL_law 1589 = .ok (.iload_n 3, 1) := mm_dk kL_law_28 23 rfl
theorem dL_law_1590 : decode cL_law 1590 = .ok (.iconst 2, 1) := mm_dk kL_law_28 24 rfl
theorem dL_law_1591 : decode cL_law 1591 = .ok (.iadd, 1) := mm_dk kL_law_28 25 rfl
theorem dL_law_1592 : decode cL_law 1592 = .ok (.iaload, 1) := mm_dk kL_law_28 26 rfl
theorem dL_law_1593 : decode cL_law 1593 = .ok (.aload_n 0, 1) := mm_dk kL_law_28 27 rfl
theorem dL_law_1594 : decode cL_law 1594 = .ok (.iload_n 3, 1) := mm_dk kL_law_28 28 rfl
theorem dL_law_1595 : decode cL_law 1595 = .ok (.iconst 3, 1) := mm_dk kL_law_28 29 rfl
theorem dL_law_1596 : decode cL_law 1596 = .ok (.iadd, 1) := mm_dk kL_law_28 30 rfl
theorem dL_law_1597 : decode cL_law 1597 = .ok (.iaload, 1) := mm_dk kL_law_28 31 rfl
theorem dL_law_1598 : decode cL_law 1598 = .ok (.invokevirtual 163, 3) := mm_dk kL_law_28 32 rfl
theorem dL_law_1601 : decode cL_law 1601 = .ok (.aload_n 2, 1) := mm_dk kL_law_28 33 rfl
theorem dL_law_1602 : decode cL_law 1602 = .ok (.aload_n 0, 1) := mm_dk kL_law_28 34 rfl
theorem dL_law_1603 : decode cL_law 1603 = .ok (.iload_n 3, 1) := mm_dk kL_law_28 35 rfl
theorem dL_law_1604 : decode cL_law 1604 = .ok (.iconst 1, 1) := mm_dk kL_law_28 36 rfl
theorem dL_law_1605 : decode cL_law 1605 = .ok (.iadd, 1) := mm_dk kL_law_28 37 rfl
theorem dL_law_1606 : decode cL_law 1606 = .ok (.iaload, 1) := mm_dk kL_law_28 38 rfl
theorem dL_law_1607 : decode cL_law 1607 = .ok (.aload_n 0, 1) := mm_dk kL_law_28 39 rfl
set_option maxRecDepth 100000 in
theorem kL_law_29 : ([(1608, .iload_n 3, 1), (1609, .iconst 2, 1), (1610, .iadd, 1), (1611, .iaload, 1), (1612, .aload_n 0, 1), (1613, .iload_n 3, 1), (1614, .iconst 3, 1), (1615, .iadd, 1), (1616, .iaload, 1), (1617, .invokevirtual 166, 3), (1620, .if_icmp .eq 203, 3), (1623, .iconst 0, 1), (1624, .ireturn, 1), (1625, .aload_n 1, 1), (1626, .aload_n 0, 1), (1627, .iload_n 3, 1), (1628, .iconst 1, 1), (1629, .iadd, 1), (1630, .iaload, 1), (1631, .invokevirtual 167, 3), (1634, .aload_n 2, 1), (1635, .aload_n 0, 1), (1636, .iload_n 3, 1), (1637, .iconst 1, 1), (1638, .iadd, 1), (1639, .iaload, 1), (1640, .invokevirtual 170, 3), (1643, .if_icmp .eq 180, 3), (1646, .iconst 0, 1), (1647, .ireturn, 1), (1648, .aload_n 1, 1), (1649, .aload_n 0, 1), (1650, .iload_n 3, 1), (1651, .iconst 1, 1), (1652, .iadd, 1), (1653, .iaload, 1), (1654, .invokevirtual 171, 3), (1657, .aload_n 2, 1), (1658, .aload_n 0, 1), (1659, .iload_n 3, 1)] : List (Nat × Instr × Nat)).all (fun x => decide (decode cL_law x.1 = .ok x.2)) = true := by decide +kernel
theorem dL_law_1608 : decode cL_law 1608 = .ok (.iload_n 3, 1) := mm_dk kL_law_29 0 rfl
theorem dL_law_1609 : decode cL_law 1609 = .ok (.iconst 2, 1) := mm_dk kL_law_29 1 rfl
theorem dL_law_1610 : decode cL_law 1610 = .ok (.iadd, 1) := mm_dk kL_law_29 2 rfl
theorem dL_law_1611 : decode cL_law 1611 = .ok (.iaload, 1) := mm_dk kL_law_29 3 rfl
theorem dL_law_1612 : decode cL_law 1612 = .ok (.aload_n 0, 1) := mm_dk kL_law_29 4 rfl
theorem dL_law_1613 : decode cL_law 1613 = .ok (.iload_n 3, 1) := mm_dk kL_law_29 5 rfl
theorem dL_law_1614 : decode cL_law 1614 = .ok (.iconst 3, 1) := mm_dk kL_law_29 6 rfl
theorem dL_law_1615 : decode cL_law 1615 = .ok (.iadd, 1) := mm_dk kL_law_29 7 rfl
theorem dL_law_1616 : decode cL_law 1616 = .ok (.iaload, 1) := mm_dk kL_law_29 8 rfl
theorem dL_law_1617 : decode cL_law 1617 = .ok (.invokevirtual 166, 3) := mm_dk kL_law_29 9 rfl
theorem dL_law_1620 : decode cL_law 1620 = .ok (.if_icmp .eq 203, 3) := mm_dk kL_law_29 10 rfl
theorem dL_law_1623 : decode cL_law 1623 = .ok (.iconst 0, 1) := mm_dk kL_law_29 11 rfl
theorem dL_law_1624 : decode cL_law 1624 = .ok (.ireturn, 1) := mm_dk kL_law_29 12 rfl
theorem dL_law_1625 : decode cL_law 1625 = .ok (.aload_n 1, 1) := mm_dk kL_law_29 13 rfl
theorem dL_law_1626 : decode cL_law 1626 = .ok (.aload_n 0, 1) := mm_dk kL_law_29 14 rfl
theorem dL_law_1627 : decode cL_law 1627 = .ok (.iload_n 3, 1) := mm_dk kL_law_29 15 rfl
theorem dL_law_1628 : decode cL_law 1628 = .ok (.iconst 1, 1) := mm_dk kL_law_29 16 rfl
theorem dL_law_1629 : decode cL_law 1629 = .ok (.iadd, 1) := mm_dk kL_law_29 17 rfl
theorem dL_law_1630 : decode cL_law 1630 = .ok (.iaload, 1) := mm_dk kL_law_29 18 rfl
theorem dL_law_1631 : decode cL_law 1631 = .ok (.invokevirtual 167, 3) := mm_dk kL_law_29 19 rfl
theorem dL_law_1634 : decode cL_law 1634 = .ok (.aload_n 2, 1) := mm_dk kL_law_29 20 rfl
theorem dL_law_1635 : decode cL_law 1635 = .ok (.aload_n 0, 1) := mm_dk kL_law_29 21 rfl
theorem dL_law_1636 : decode cL_law 1636 = .ok (.iload_n 3, 1) := mm_dk kL_law_29 22 rfl
theorem dL_law_1637 : decode cL_law 1637 = .ok (.iconst 1, 1) := mm_dk kL_law_29 23 rfl
theorem dL_law_1638 : decode cL_law 1638 = .ok (.iadd, 1) := mm_dk kL_law_29 24 rfl
theorem dL_law_1639 : decode cL_law 1639 = .ok (.iaload, 1) := mm_dk kL_law_29 25 rfl
theorem dL_law_1640 : decode cL_law 1640 = .ok (.invokevirtual 170, 3) := mm_dk kL_law_29 26 rfl
theorem dL_law_1643 : decode cL_law 1643 = .ok (.if_icmp .eq 180, 3) := mm_dk kL_law_29 27 rfl
theorem dL_law_1646 : decode cL_law 1646 = .ok (.iconst 0, 1) := mm_dk kL_law_29 28 rfl
theorem dL_law_1647 : decode cL_law 1647 = .ok (.ireturn, 1) := mm_dk kL_law_29 29 rfl
theorem dL_law_1648 : decode cL_law 1648 = .ok (.aload_n 1, 1) := mm_dk kL_law_29 30 rfl
theorem dL_law_1649 : decode cL_law 1649 = .ok (.aload_n 0, 1) := mm_dk kL_law_29 31 rfl
theorem dL_law_1650 : decode cL_law 1650 = .ok (.iload_n 3, 1) := mm_dk kL_law_29 32 rfl
theorem dL_law_1651 : decode cL_law 1651 = .ok (.iconst 1, 1) := mm_dk kL_law_29 33 rfl
theorem dL_law_1652 : decode cL_law 1652 = .ok (.iadd, 1) := mm_dk kL_law_29 34 rfl
theorem dL_law_1653 : decode cL_law 1653 = .ok (.iaload, 1) := mm_dk kL_law_29 35 rfl
theorem dL_law_1654 : decode cL_law 1654 = .ok (.invokevirtual 171, 3) := mm_dk kL_law_29 36 rfl
theorem dL_law_1657 : decode cL_law 1657 = .ok (.aload_n 2, 1) := mm_dk kL_law_29 37 rfl
theorem dL_law_1658 : decode cL_law 1658 = .ok (.aload_n 0, 1) := mm_dk kL_law_29 38 rfl
theorem dL_law_1659 : decode cL_law 1659 = .ok (.iload_n 3, 1) := mm_dk kL_law_29 39 rfl
set_option maxRecDepth 100000 in
theorem kL_law_30 : ([(1660, .iconst 1, 1), (1661, .iadd, 1), (1662, .iaload, 1), (1663, .invokevirtual 174, 3), (1666, .if_icmp .eq 157, 3), (1669, .iconst 0, 1), (1670, .ireturn, 1), (1671, .aload_n 1, 1), (1672, .aload_n 0, 1), (1673, .iload_n 3, 1), (1674, .iconst 1, 1), (1675, .iadd, 1), (1676, .iaload, 1), (1677, .aload_n 0, 1), (1678, .iload_n 3, 1), (1679, .iconst 2, 1), (1680, .iadd, 1), (1681, .iaload, 1), (1682, .invokevirtual 175, 3), (1685, .aload_n 2, 1), (1686, .aload_n 0, 1), (1687, .iload_n 3, 1), (1688, .iconst 1, 1), (1689, .iadd, 1), (1690, .iaload, 1), (1691, .aload_n 0, 1), (1692, .iload_n 3, 1), (1693, .iconst 2, 1), (1694, .iadd, 1), (1695, .iaload, 1), (1696, .invokevirtual 178, 3), (1699, .if_icmp .eq 124, 3), (1702, .iconst 0, 1), (1703, .ireturn, 1), (1704, .aload_n 1, 1), (1705, .aload_n 0, 1), (1706, .iload_n 3, 1), (1707, .iconst 1, 1), (1708, .iadd, 1), (1709, .iaload, 1)] : List (Nat × Instr × Nat)).all (fun x => decide (decode cL_law x.1 = .ok x.2)) = true := by decide +kernel
theorem dL_law_1660 : decode cL_law 1660 = .ok (.iconst 1, 1) := mm_dk kL_law_30 0 rfl
theorem dL_law_1661 : decode cL_law 1661 = .ok (.iadd, 1) := mm_dk kL_law_30 1 rfl
theorem dL_law_1662 : decode cL_law 1662 = .ok (.iaload, 1) := mm_dk kL_law_30 2 rfl
theorem dL_law_1663 : decode cL_law 1663 = .ok (.invokevirtual 174, 3) := mm_dk kL_law_30 3 rfl
theorem dL_law_1666 : decode cL_law 1666 = .ok (.if_icmp .eq 157, 3) := mm_dk kL_law_30 4 rfl
theorem dL_law_1669 : decode cL_law 1669 = .ok (.iconst 0, 1) := mm_dk kL_law_30 5 rfl
theorem dL_law_1670 : decode cL_law 1670 = .ok (.ireturn, 1) := mm_dk kL_law_30 6 rfl
theorem dL_law_1671 : decode cL_law 1671 = .ok (.aload_n 1, 1) := mm_dk kL_law_30 7 rfl
theorem dL_law_1672 : decode cL_law 1672 = .ok (.aload_n 0, 1) := mm_dk kL_law_30 8 rfl
theorem dL_law_1673 : decode cL_law 1673 = .ok (.iload_n 3, 1) := mm_dk kL_law_30 9 rfl
theorem dL_law_1674 : decode cL_law 1674 = .ok (.iconst 1, 1) := mm_dk kL_law_30 10 rfl
theorem dL_law_1675 : decode cL_law 1675 = .ok (.iadd, 1) := mm_dk kL_law_30 11 rfl
theorem dL_law_1676 : decode cL_law 1676 = .ok (.iaload, 1) := mm_dk kL_law_30 12 rfl
theorem dL_law_1677 : decode cL_law 1677 = .ok (.aload_n 0, 1) := mm_dk kL_law_30 13 rfl
theorem dL_law_1678 : decode cL_law 1678 = .ok (.iload_n 3, 1) := mm_dk kL_law_30 14 rfl
theorem dL_law_1679 : decode cL_law 1679 = .ok (.iconst 2, 1) := mm_dk kL_law_30 15 rfl
theorem dL_law_1680 : decode cL_law 1680 = .ok (.iadd, 1) := mm_dk kL_law_30 16 rfl
theorem dL_law_1681 : decode cL_law 1681 = .ok (.iaload, 1) := mm_dk kL_law_30 17 rfl
theorem dL_law_1682 : decode cL_law 1682 = .ok (.invokevirtual 175, 3) := mm_dk kL_law_30 18 rfl
theorem dL_law_1685 : decode cL_law 1685 = .ok (.aload_n 2, 1) := mm_dk kL_law_30 19 rfl
theorem dL_law_1686 : decode cL_law 1686 = .ok (.aload_n 0, 1) := mm_dk kL_law_30 20 rfl
theorem dL_law_1687 : decode cL_law 1687 = .ok (.iload_n 3, 1) := mm_dk kL_law_30 21 rfl
theorem dL_law_1688 : decode cL_law 1688 = .ok (.iconst 1, 1) := mm_dk kL_law_30 22 rfl
theorem dL_law_1689 : decode cL_law 1689 = .ok (.iadd, 1) := mm_dk kL_law_30 23 rfl
theorem dL_law_1690 : decode cL_law 1690 = .ok (.iaload, 1) := mm_dk kL_law_30 24 rfl
theorem dL_law_1691 : decode cL_law 1691 = .ok (.aload_n 0, 1) := mm_dk kL_law_30 25 rfl
theorem dL_law_1692 : decode cL_law 1692 = .ok (.iload_n 3, 1) := mm_dk kL_law_30 26 rfl
theorem dL_law_1693 : decode cL_law 1693 = .ok (.iconst 2, 1) := mm_dk kL_law_30 27 rfl
theorem dL_law_1694 : decode cL_law 1694 = .ok (.iadd, 1) := mm_dk kL_law_30 28 rfl
theorem dL_law_1695 : decode cL_law 1695 = .ok (.iaload, 1) := mm_dk kL_law_30 29 rfl
theorem dL_law_1696 : decode cL_law 1696 = .ok (.invokevirtual 178, 3) := mm_dk kL_law_30 30 rfl
theorem dL_law_1699 : decode cL_law 1699 = .ok (.if_icmp .eq 124, 3) := mm_dk kL_law_30 31 rfl
theorem dL_law_1702 : decode cL_law 1702 = .ok (.iconst 0, 1) := mm_dk kL_law_30 32 rfl
theorem dL_law_1703 : decode cL_law 1703 = .ok (.ireturn, 1) := mm_dk kL_law_30 33 rfl
theorem dL_law_1704 : decode cL_law 1704 = .ok (.aload_n 1, 1) := mm_dk kL_law_30 34 rfl
theorem dL_law_1705 : decode cL_law 1705 = .ok (.aload_n 0, 1) := mm_dk kL_law_30 35 rfl
theorem dL_law_1706 : decode cL_law 1706 = .ok (.iload_n 3, 1) := mm_dk kL_law_30 36 rfl
theorem dL_law_1707 : decode cL_law 1707 = .ok (.iconst 1, 1) := mm_dk kL_law_30 37 rfl
theorem dL_law_1708 : decode cL_law 1708 = .ok (.iadd, 1) := mm_dk kL_law_30 38 rfl
theorem dL_law_1709 : decode cL_law 1709 = .ok (.iaload, 1) := mm_dk kL_law_30 39 rfl
set_option maxRecDepth 100000 in
theorem kL_law_31 : ([(1710, .invokevirtual 179, 3), (1713, .aload_n 2, 1), (1714, .aload_n 0, 1), (1715, .iload_n 3, 1), (1716, .iconst 1, 1), (1717, .iadd, 1), (1718, .iaload, 1), (1719, .invokevirtual 182, 3), (1722, .if_icmp .eq 101, 3), (1725, .iconst 0, 1), (1726, .ireturn, 1), (1727, .aload_n 1, 1), (1728, .invokevirtual 183, 3), (1731, .aload_n 2, 1), (1732, .invokevirtual 187, 3), (1735, .lcmp, 1), (1736, .ifCond .eq 87, 3), (1739, .iconst 0, 1), (1740, .ireturn, 1), (1741, .aload_n 1, 1), (1742, .aload_n 0, 1), (1743, .iload_n 3, 1), (1744, .iconst 1, 1), (1745, .iadd, 1), (1746, .iaload, 1), (1747, .aload_n 0, 1), (1748, .iload_n 3, 1), (1749, .iconst 2, 1), (1750, .iadd, 1), (1751, .iaload, 1), (1752, .invokevirtual 188, 3), (1755, .aload_n 2, 1), (1756, .aload_n 0, 1), (1757, .iload_n 3, 1), (1758, .iconst 1, 1), (1759, .iadd, 1), (1760, .iaload, 1), (1761, .aload_n 0, 1), (1762, .iload_n 3, 1), (1763, .iconst 2, 1)] : List (Nat × Instr × Nat)).all (fun x => decide (decode cL_law x.1 = .ok x.2)) = true := by decide +kernel
theorem dL_law_1710 : decode cL_law 1710 = .ok (.invokevirtual 179, 3) := mm_dk kL_law_31 0 rfl
theorem dL_law_1713 : decode cL_law 1713 = .ok (.aload_n 2, 1) := mm_dk kL_law_31 1 rfl
theorem dL_law_1714 : decode cL_law 1714 = .ok (.aload_n 0, 1) := mm_dk kL_law_31 2 rfl
theorem dL_law_1715 : decode cL_law 1715 = .ok (.iload_n 3, 1) := mm_dk kL_law_31 3 rfl
theorem dL_law_1716 : decode cL_law 1716 = .ok (.iconst 1, 1) := mm_dk kL_law_31 4 rfl
theorem dL_law_1717 : decode cL_law 1717 = .ok (.iadd, 1) := mm_dk kL_law_31 5 rfl
theorem dL_law_1718 : decode cL_law 1718 = .ok (.iaload, 1) := mm_dk kL_law_31 6 rfl
theorem dL_law_1719 : decode cL_law 1719 = .ok (.invokevirtual 182, 3) := mm_dk kL_law_31 7 rfl
theorem dL_law_1722 : decode cL_law 1722 = .ok (.if_icmp .eq 101, 3) := mm_dk kL_law_31 8 rfl
theorem dL_law_1725 : decode cL_law 1725 = .ok (.iconst 0, 1) := mm_dk kL_law_31 9 rfl
theorem dL_law_1726 : decode cL_law 1726 = .ok (.ireturn, 1) := mm_dk kL_law_31 10 rfl
theorem dL_law_1727 : decode cL_law 1727 = .ok (.aload_n 1, 1) := mm_dk kL_law_31 11 rfl
theorem dL_law_1728 : decode cL_law 1728 = .ok (.invokevirtual 183, 3) := mm_dk kL_law_31 12 rfl
theorem dL_law_1731 : decode cL_law 1731 = .ok (.aload_n 2, 1) := mm_dk kL_law_31 13 rfl
theorem dL_law_1732 : decode cL_law 1732 = .ok (.invokevirtual 187, 3) := mm_dk kL_law_31 14 rfl
theorem dL_law_1735 : decode cL_law 1735 = .ok (.lcmp, 1) := mm_dk kL_law_31 15 rfl
theorem dL_law_1736 : decode cL_law 1736 = .ok (.ifCond .eq 87, 3) := mm_dk kL_law_31 16 rfl
theorem dL_law_1739 : decode cL_law 1739 = .ok (.iconst 0, 1) := mm_dk kL_law_31 17 rfl
theorem dL_law_1740 : decode cL_law 1740 = .ok (.ireturn, 1) := mm_dk kL_law_31 18 rfl
theorem dL_law_1741 : decode cL_law 1741 = .ok (.aload_n 1, 1) := mm_dk kL_law_31 19 rfl
theorem dL_law_1742 : decode cL_law 1742 = .ok (.aload_n 0, 1) := mm_dk kL_law_31 20 rfl
theorem dL_law_1743 : decode cL_law 1743 = .ok (.iload_n 3, 1) := mm_dk kL_law_31 21 rfl
theorem dL_law_1744 : decode cL_law 1744 = .ok (.iconst 1, 1) := mm_dk kL_law_31 22 rfl
theorem dL_law_1745 : decode cL_law 1745 = .ok (.iadd, 1) := mm_dk kL_law_31 23 rfl
theorem dL_law_1746 : decode cL_law 1746 = .ok (.iaload, 1) := mm_dk kL_law_31 24 rfl
theorem dL_law_1747 : decode cL_law 1747 = .ok (.aload_n 0, 1) := mm_dk kL_law_31 25 rfl
theorem dL_law_1748 : decode cL_law 1748 = .ok (.iload_n 3, 1) := mm_dk kL_law_31 26 rfl
theorem dL_law_1749 : decode cL_law 1749 = .ok (.iconst 2, 1) := mm_dk kL_law_31 27 rfl
theorem dL_law_1750 : decode cL_law 1750 = .ok (.iadd, 1) := mm_dk kL_law_31 28 rfl
theorem dL_law_1751 : decode cL_law 1751 = .ok (.iaload, 1) := mm_dk kL_law_31 29 rfl
theorem dL_law_1752 : decode cL_law 1752 = .ok (.invokevirtual 188, 3) := mm_dk kL_law_31 30 rfl
theorem dL_law_1755 : decode cL_law 1755 = .ok (.aload_n 2, 1) := mm_dk kL_law_31 31 rfl
theorem dL_law_1756 : decode cL_law 1756 = .ok (.aload_n 0, 1) := mm_dk kL_law_31 32 rfl
theorem dL_law_1757 : decode cL_law 1757 = .ok (.iload_n 3, 1) := mm_dk kL_law_31 33 rfl
theorem dL_law_1758 : decode cL_law 1758 = .ok (.iconst 1, 1) := mm_dk kL_law_31 34 rfl
theorem dL_law_1759 : decode cL_law 1759 = .ok (.iadd, 1) := mm_dk kL_law_31 35 rfl
theorem dL_law_1760 : decode cL_law 1760 = .ok (.iaload, 1) := mm_dk kL_law_31 36 rfl
theorem dL_law_1761 : decode cL_law 1761 = .ok (.aload_n 0, 1) := mm_dk kL_law_31 37 rfl
theorem dL_law_1762 : decode cL_law 1762 = .ok (.iload_n 3, 1) := mm_dk kL_law_31 38 rfl
theorem dL_law_1763 : decode cL_law 1763 = .ok (.iconst 2, 1) := mm_dk kL_law_31 39 rfl
set_option maxRecDepth 100000 in
theorem kL_law_32 : ([(1764, .iadd, 1), (1765, .iaload, 1), (1766, .invokevirtual 191, 3), (1769, .if_icmp .eq 54, 3), (1772, .iconst 0, 1), (1773, .ireturn, 1), (1774, .aload_n 1, 1), (1775, .invokevirtual 192, 3), (1778, .aload_n 2, 1), (1779, .invokevirtual 196, 3), (1782, .if_icmp .eq 41, 3), (1785, .iconst 0, 1), (1786, .ireturn, 1), (1787, .aload_n 1, 1), (1788, .aload_n 0, 1), (1789, .iload_n 3, 1), (1790, .iconst 1, 1), (1791, .iadd, 1), (1792, .iaload, 1), (1793, .invokevirtual 197, 3), (1796, .aload_n 2, 1), (1797, .aload_n 0, 1), (1798, .iload_n 3, 1), (1799, .iconst 1, 1), (1800, .iadd, 1), (1801, .iaload, 1), (1802, .invokevirtual 200, 3), (1805, .if_icmp .eq 18, 3), (1808, .iconst 0, 1), (1809, .ireturn, 1), (1810, .aload_n 1, 1), (1811, .invokevirtual 201, 3), (1814, .aload_n 2, 1), (1815, .invokevirtual 204, 3), (1818, .if_icmp .eq 5, 3), (1821, .iconst 0, 1), (1822, .ireturn, 1), (1823, .iinc 3 6, 3), (1826, .goto (-1808), 3), (1829, .iconst 1, 1)] : List (Nat × Instr × Nat)).all (fun x => decide (decode cL_law x.1 = .ok x.2)) = true := by decide +kernel
theorem dL_law_1764 : decode cL_law 1764 = .ok (.iadd, 1) := mm_dk kL_law_32 0 rfl
theorem dL_law_1765 : decode cL_law 1765 = .ok (.iaload, 1) := mm_dk kL_law_32 1 rfl
theorem dL_law_1766 : decode cL_law 1766 = .ok (.invokevirtual 191, 3) := mm_dk kL_law_32 2 rfl
theorem dL_law_1769 : decode cL_law 1769 = .ok (.if_icmp .eq 54, 3) := mm_dk kL_law_32 3 rfl
theorem dL_law_1772 : decode cL_law 1772 = .ok (.iconst 0, 1) := mm_dk kL_law_32 4 rfl
theorem dL_law_1773 : decode cL_law 1773 = .ok (.ireturn, 1) := mm_dk kL_law_32 5 rfl
theorem dL_law_1774 : decode cL_law 1774 = .ok (.aload_n 1, 1) := mm_dk kL_law_32 6 rfl
theorem dL_law_1775 : decode cL_law 1775 = .ok (.invokevirtual 192, 3) := mm_dk kL_law_32 7 rfl
theorem dL_law_1778 : decode cL_law 1778 = .ok (.aload_n 2, 1) := mm_dk kL_law_32 8 rfl
theorem dL_law_1779 : decode cL_law 1779 = .ok (.invokevirtual 196, 3) := mm_dk kL_law_32 9 rfl
theorem dL_law_1782 : decode cL_law 1782 = .ok (.if_icmp .eq 41, 3) := mm_dk kL_law_32 10 rfl
theorem dL_law_1785 : decode cL_law 1785 = .ok (.iconst 0, 1) := mm_dk kL_law_32 11 rfl
theorem dL_law_1786 : decode cL_law 1786 = .ok (.ireturn, 1) := mm_dk kL_law_32 12 rfl
theorem dL_law_1787 : decode cL_law 1787 = .ok (.aload_n 1, 1) := mm_dk kL_law_32 13 rfl
theorem dL_law_1788 : decode cL_law 1788 = .ok (.aload_n 0, 1) := mm_dk kL_law_32 14 rfl
theorem dL_law_1789 : decode cL_law 1789 = .ok (.iload_n 3, 1) := mm_dk kL_law_32 15 rfl
theorem dL_law_1790 : decode cL_law 1790 = .ok (.iconst 1, 1) := mm_dk kL_law_32 16 rfl
theorem dL_law_1791 : decode cL_law 1791 = .ok (.iadd, 1) := mm_dk kL_law_32 17 rfl
theorem dL_law_1792 : decode cL_law 1792 = .ok (.iaload, 1) := mm_dk kL_law_32 18 rfl
theorem dL_law_1793 : decode cL_law 1793 = .ok (.invokevirtual 197, 3) := mm_dk kL_law_32 19 rfl
theorem dL_law_1796 : decode cL_law 1796 = .ok (.aload_n 2, 1) := mm_dk kL_law_32 20 rfl
theorem dL_law_1797 : decode cL_law 1797 = .ok (.aload_n 0, 1) := mm_dk kL_law_32 21 rfl
theorem dL_law_1798 : decode cL_law 1798 = .ok (.iload_n 3, 1) := mm_dk kL_law_32 22 rfl
theorem dL_law_1799 : decode cL_law 1799 = .ok (.iconst 1, 1) := mm_dk kL_law_32 23 rfl
theorem dL_law_1800 : decode cL_law 1800 = .ok (.iadd, 1) := mm_dk kL_law_32 24 rfl
theorem dL_law_1801 : decode cL_law 1801 = .ok (.iaload, 1) := mm_dk kL_law_32 25 rfl
theorem dL_law_1802 : decode cL_law 1802 = .ok (.invokevirtual 200, 3) := mm_dk kL_law_32 26 rfl
theorem dL_law_1805 : decode cL_law 1805 = .ok (.if_icmp .eq 18, 3) := mm_dk kL_law_32 27 rfl
theorem dL_law_1808 : decode cL_law 1808 = .ok (.iconst 0, 1) := mm_dk kL_law_32 28 rfl
theorem dL_law_1809 : decode cL_law 1809 = .ok (.ireturn, 1) := mm_dk kL_law_32 29 rfl
theorem dL_law_1810 : decode cL_law 1810 = .ok (.aload_n 1, 1) := mm_dk kL_law_32 30 rfl
theorem dL_law_1811 : decode cL_law 1811 = .ok (.invokevirtual 201, 3) := mm_dk kL_law_32 31 rfl
theorem dL_law_1814 : decode cL_law 1814 = .ok (.aload_n 2, 1) := mm_dk kL_law_32 32 rfl
theorem dL_law_1815 : decode cL_law 1815 = .ok (.invokevirtual 204, 3) := mm_dk kL_law_32 33 rfl
theorem dL_law_1818 : decode cL_law 1818 = .ok (.if_icmp .eq 5, 3) := mm_dk kL_law_32 34 rfl
theorem dL_law_1821 : decode cL_law 1821 = .ok (.iconst 0, 1) := mm_dk kL_law_32 35 rfl
theorem dL_law_1822 : decode cL_law 1822 = .ok (.ireturn, 1) := mm_dk kL_law_32 36 rfl
theorem dL_law_1823 : decode cL_law 1823 = .ok (.iinc 3 6, 3) := mm_dk kL_law_32 37 rfl
theorem dL_law_1826 : decode cL_law 1826 = .ok (.goto (-1808), 3) := mm_dk kL_law_32 38 rfl
theorem dL_law_1829 : decode cL_law 1829 = .ok (.iconst 1, 1) := mm_dk kL_law_32 39 rfl
set_option maxRecDepth 100000 in
theorem kL_law_33 : ([(1830, .ireturn, 1)] : List (Nat × Instr × Nat)).all (fun x => decide (decode cL_law x.1 = .ok x.2)) = true := by decide +kernel
theorem dL_law_1830 : decode cL_law 1830 = .ok (.ireturn, 1) := mm_dk kL_law_33 0 rfl
