set_option maxRecDepth 100000 in
theorem kX12_feed_0 : ([(0, .aload_n 0, 1), (1, .iload_n 1, 1), (2, .invokevirtual 238, 3), (5, .ifCond .eq 13, 3), (8, .iload_n 2, 1), (9, .iconst 0, 1), (10, .ldc 243, 2), (12, .invokestatic 227, 3), (15, .ifCond .ne 9, 3), (18, .aload_n 0, 1), (19, .iconst (-1), 1), (20, .invokevirtual 231, 3), (23, .ireturn, 1), (24, .aload_n 0, 1), (25, .getfield 93, 3), (28, .iload_n 1, 1), (29, .iaload, 1), (30, .sipush 250, 3), (33, .if_icmp .ne 10, 3), (36, .aload_n 0, 1), (37, .bipush (-3), 2), (39, .invokevirtual 231, 3), (42, .ireturn, 1), (43, .aload_n 0, 1), (44, .aload_n 0, 1), (45, .getfield 402, 3), (48, .iconst 0, 1), (49, .invokevirtual 352, 3), (52, .istore_n 3, 1), (53, .iconst 0, 1), (54, .istore 4, 2), (56, .iload 4, 2), (58, .aload_n 0, 1), (59, .getfield 402, 3), (62, .if_icmp .ge 28, 3), (65, .aload_n 0, 1), (66, .getfield 109, 3), (69, .bipush 64, 2), (71, .iload_n 3, 1), (72, .imul, 1)] : List (Nat × Instr × Nat)).all (fun x => decide (decode cX12_feed x.1 = .ok x.2)) = true := by decide +kernel
theorem dX12_feed_0 : decode cX12_feed 0 = .ok (.aload_n 0, 1) := mm_dk kX12_feed_0 0 rfl
theorem dX12_feed_1 : decode cX12_feed 1 = .ok (.iload_n 1, 1) := mm_dk kX12_feed_0 1 rfl
theorem dX12_feed_2 : decode cX12_feed 2 = .ok (.invokevirtual 238, 3) := mm_dk kX12_feed_0 2 rfl
theorem dX12_feed_5 : decode cX12_feed 5 = .ok (.ifCond .eq 13, 3) := mm_dk kX12_feed_0 3 rfl
theorem dX12_feed_8 : decode cX12_feed 8 = .ok (.iload_n 2, 1) := mm_dk kX12_feed_0 4 rfl
theorem dX12_feed_9 : decode cX12_feed 9 = .ok (.iconst 0, 1) := mm_dk kX12_feed_0 5 rfl
theorem dX12_feed_10 : decode cX12_feed 10 = .ok (.ldc 243, 2) := mm_dk kX12_feed_0 6 rfl
theorem dX12_feed_12 : decode cX12_feed 12 = .ok (.invokestatic 227, 3) := mm_dk kX12_feed_0 7 rfl
theorem dX12_feed_15 : decode cX12_feed 15 = .ok (.ifCond .ne 9, 3) := mm_dk kX12_feed_0 8 rfl
theorem dX12_feed_18 : decode cX12_feed 18 = .ok (.aload_n 0, 1) := mm_dk kX12_feed_0 9 rfl
theorem dX12_feed_19 : decode cX12_feed 19 = .ok (.iconst (-1), 1) := mm_dk kX12_feed_0 10 rfl
theorem dX12_feed_20 : decode cX12_feed 20 = .ok (.invokevirtual 231, 3) := mm_dk kX12_feed_0 11 rfl
theorem dX12_feed_23 : decode cX12_feed 23 = .ok (.ireturn, 1) := mm_dk kX12_feed_0 12 rfl
theorem dX12_feed_24 : decode cX12_feed 24 = .ok (.aload_n 0, 1) := mm_dk kX12_feed_0 13 rfl
theorem dX12_feed_25 : decode cX12_feed 25 = .ok (.getfield 93, 3) := mm_dk kX12_feed_0 14 rfl
theorem dX12_feed_28 : decode cX12_feed 28 = .ok (.iload_n 1, 1) := mm_dk kX12_feed_0 15 rfl
theorem dX12_feed_29 : decode cX12_feed 29 = .ok (.iaload, 1) := mm_dk kX12_feed_0 16 rfl
theorem dX12_feed_30 : decode cX12_feed 30 = .ok (.sipush 250, 3) := mm_dk kX12_feed_0 17 rfl
theorem dX12_feed_33 : decode cX12_feed 33 = .ok (.if_icmp .ne 10, 3) := mm_dk kX12_feed_0 18 rfl
theorem dX12_feed_36 : decode cX12_feed 36 = .ok (.aload_n 0, 1) := mm_dk kX12_feed_0 19 rfl
theorem dX12_feed_37 : decode cX12_feed 37 = .ok (.bipush (-3), 2) := mm_dk kX12_feed_0 20 rfl
theorem dX12_feed_39 : decode cX12_feed 39 = .ok (.invokevirtual 231, 3) := mm_dk kX12_feed_0 21 rfl
theorem dX12_feed_42 : decode cX12_feed 42 = .ok (.ireturn, 1) := mm_dk kX12_feed_0 22 rfl
theorem dX12_feed_43 : decode cX12_feed 43 = .ok (.aload_n 0, 1) := mm_dk kX12_feed_0 23 rfl
theorem dX12_feed_44 : decode cX12_feed 44 = .ok (.aload_n 0, 1) := mm_dk kX12_feed_0 24 rfl
theorem dX12_feed_45 : decode cX12_feed 45 = .ok (.getfield 402, 3) := mm_dk kX12_feed_0 25 rfl
theorem dX12_feed_48 : decode cX12_feed 48 = .ok (.iconst 0, 1) := mm_dk kX12_feed_0 26 rfl
theorem dX12_feed_49 : decode cX12_feed 49 = .ok (.invokevirtual 352, 3) := mm_dk kX12_feed_0 27 rfl
theorem dX12_feed_52 : decode cX12_feed 52 = .ok (.istore_n 3, 1) := mm_dk kX12_feed_0 28 rfl
theorem dX12_feed_53 : decode cX12_feed 53 = .ok (.iconst 0, 1) := mm_dk kX12_feed_0 29 rfl
theorem dX12_feed_54 : decode cX12_feed 54 = .ok (.istore 4, 2) := mm_dk kX12_feed_0 30 rfl
theorem dX12_feed_56 : decode cX12_feed 56 = .ok (.iload 4, 2) := mm_dk kX12_feed_0 31 rfl
theorem dX12_feed_58 : decode cX12_feed 58 = .ok (.aload_n 0, 1) := mm_dk kX12_feed_0 32 rfl
theorem dX12_feed_59 : decode cX12_feed 59 = .ok (.getfield 402, 3) := mm_dk kX12_feed_0 33 rfl
theorem dX12_feed_62 : decode cX12_feed 62 = .ok (.if_icmp .ge 28, 3) := mm_dk kX12_feed_0 34 rfl
theorem dX12_feed_65 : decode cX12_feed 65 = .ok (.aload_n 0, 1) := mm_dk kX12_feed_0 35 rfl
theorem dX12_feed_66 : decode cX12_feed 66 = .ok (.getfield 109, 3) := mm_dk kX12_feed_0 36 rfl
theorem dX12_feed_69 : decode cX12_feed 69 = .ok (.bipush 64, 2) := mm_dk kX12_feed_0 37 rfl
theorem dX12_feed_71 : decode cX12_feed 71 = .ok (.iload_n 3, 1) := mm_dk kX12_feed_0 38 rfl
theorem dX12_feed_72 : decode cX12_feed 72 = .ok (.imul, 1) := mm_dk kX12_feed_0 39 rfl
set_option maxRecDepth 100000 in
theorem kX12_feed_1 : ([(73, .iload 4, 2), (75, .iadd, 1), (76, .aload_n 0, 1), (77, .getfield 16, 3), (80, .iload 4, 2), (82, .iaload, 1), (83, .iastore, 1), (84, .iinc 4 1, 3), (87, .goto (-31), 3), (90, .aload_n 0, 1), (91, .iconst 0, 1), (92, .putfield 402, 3), (95, .aload_n 0, 1), (96, .iload_n 1, 1), (97, .iload_n 2, 1), (98, .iload_n 3, 1), (99, .invokevirtual 369, 3), (102, .aload_n 0, 1), (103, .aload_n 0, 1), (104, .getfield 93, 3), (107, .iload_n 1, 1), (108, .iaload, 1), (109, .invokevirtual 235, 3), (112, .ireturn, 1)] : List (Nat × Instr × Nat)).all (fun x => decide (decode cX12_feed x.1 = .ok x.2)) = true := by decide +kernel
theorem dX12_feed_73 : decode cX12_feed 73 = .ok (.iload 4, 2) := mm_dk kX12_feed_1 0 rfl
theorem dX12_feed_75 : decode cX12_feed 75 = .ok (.iadd, 1) := mm_dk kX12_feed_1 1 rfl
theorem dX12_feed_76 : decode cX12_feed 76 = .ok (.aload_n 0, 1) := mm_dk kX12_feed_1 2 rfl
theorem dX12_feed_77 : decode cX12_feed 77 = .ok (.getfield 16, 3) := mm_dk kX12_feed_1 3 rfl
theorem dX12_feed_80 : decode cX12_feed 80 = .ok (.iload 4, 2) := mm_dk kX12_feed_1 4 rfl
theorem dX12_feed_82 : decode cX12_feed 82 = .ok (.iaload, 1) := mm_dk kX12_feed_1 5 rfl
theorem dX12_feed_83 : decode cX12_feed 83 = .ok (.iastore, 1) := mm_dk kX12_feed_1 6 rfl
theorem dX12_feed_84 : decode cX12_feed 84 = .ok (.iinc 4 1, 3) := mm_dk kX12_feed_1 7 rfl
theorem dX12_feed_87 : decode cX12_feed 87 = .ok (.goto (-31), 3) := mm_dk kX12_feed_1 8 rfl
theorem dX12_feed_90 : decode cX12_feed 90 = .ok (.aload_n 0, 1) := mm_dk kX12_feed_1 9 rfl
theorem dX12_feed_91 : decode cX12_feed 91 = .ok (.iconst 0, 1) := mm_dk kX12_feed_1 10 rfl
theorem dX12_feed_92 : decode cX12_feed 92 = .ok (.putfield 402, 3) := mm_dk kX12_feed_1 11 rfl
theorem dX12_feed_95 : decode cX12_feed 95 = .ok (.aload_n 0, 1) := mm_dk kX12_feed_1 12 rfl
theorem dX12_feed_96 : decode cX12_feed 96 = .ok (.iload_n 1, 1) := mm_dk kX12_feed_1 13 rfl
theorem dX12_feed_97 : decode cX12_feed 97 = .ok (.iload_n 2, 1) := mm_dk kX12_feed_1 14 rfl
theorem dX12_feed_98 : decode cX12_feed 98 = .ok (.iload_n 3, 1) := mm_dk kX12_feed_1 15 rfl
theorem dX12_feed_99 : decode cX12_feed 99 = .ok (.invokevirtual 369, 3) := mm_dk kX12_feed_1 16 rfl
theorem dX12_feed_102 : decode cX12_feed 102 = .ok (.aload_n 0, 1) := mm_dk kX12_feed_1 17 rfl
theorem dX12_feed_103 : decode cX12_feed 103 = .ok (.aload_n 0, 1) := mm_dk kX12_feed_1 18 rfl
theorem dX12_feed_104 : decode cX12_feed 104 = .ok (.getfield 93, 3) := mm_dk kX12_feed_1 19 rfl
theorem dX12_feed_107 : decode cX12_feed 107 = .ok (.iload_n 1, 1) := mm_dk kX12_feed_1 20 rfl
theorem dX12_feed_108 : decode cX12_feed 108 = .ok (.iaload, 1) := mm_dk kX12_feed_1 21 rfl
theorem dX12_feed_109 : decode cX12_feed 109 = .ok (.invokevirtual 235, 3) := mm_dk kX12_feed_1 22 rfl
theorem dX12_feed_112 : decode cX12_feed 112 = .ok (.ireturn, 1) := mm_dk kX12_feed_1 23 rfl
set_option maxRecDepth 100000 in
theorem kX12_opened_0 : ([(0, .iload_n 1, 1), (1, .ifCond .ge 5, 3), (4, .iconst 1, 1), (5, .ireturn, 1), (6, .aload_n 0, 1), (7, .getfield 105, 3), (10, .iload_n 1, 1), (11, .baload, 1), (12, .ifCond .eq 5, 3), (15, .iconst 2, 1), (16, .ireturn, 1), (17, .aload_n 0, 1), (18, .getfield 102, 3), (21, .iload_n 1, 1), (22, .iaload, 1), (23, .istore_n 2, 1), (24, .iload_n 2, 1), (25, .bipush 6, 2), (27, .if_icmp .ge 5, 3), (30, .iconst 3, 1), (31, .ireturn, 1), (32, .aload_n 0, 1), (33, .iload_n 1, 1), (34, .iload_n 2, 1), (35, .iconst 1, 1), (36, .isub, 1), (37, .invokevirtual 366, 3), (40, .aload_n 0, 1), (41, .getfield 109, 3), (44, .bipush 64, 2), (46, .iload_n 1, 1), (47, .imul, 1), (48, .iload_n 2, 1), (49, .iadd, 1), (50, .iconst 1, 1), (51, .isub, 1), (52, .iaload, 1), (53, .if_icmp .eq 5, 3), (56, .iconst 4, 1), (57, .ireturn, 1)] : List (Nat × Instr × Nat)).all (fun x => decide (decode cX12_opened x.1 = .ok x.2)) = true := by decide +kernel
theorem dX12_opened_0 : decode cX12_opened 0 = .ok (.iload_n 1, 1) := mm_dk kX12_opened_0 0 rfl
theorem dX12_opened_1 : decode cX12_opened 1 = .ok (.ifCond .ge 5, 3) := mm_dk kX12_opened_0 1 rfl
theorem dX12_opened_4 : decode cX12_opened 4 = .ok (.iconst 1, 1) := mm_dk kX12_opened_0 2 rfl
theorem dX12_opened_5 : decode cX12_opened 5 = .ok (.ireturn, 1) := mm_dk kX12_opened_0 3 rfl
theorem dX12_opened_6 : decode cX12_opened 6 = .ok (.aload_n 0, 1) := mm_dk kX12_opened_0 4 rfl
theorem dX12_opened_7 : decode cX12_opened 7 = .ok (.getfield 105, 3) := mm_dk kX12_opened_0 5 rfl
theorem dX12_opened_10 : decode cX12_opened 10 = .ok (.iload_n 1, 1) := mm_dk kX12_opened_0 6 rfl
theorem dX12_opened_11 : decode cX12_opened 11 = .ok (.baload, 1) := mm_dk kX12_opened_0 7 rfl
theorem dX12_opened_12 : decode cX12_opened 12 = .ok (.ifCond .eq 5, 3) := mm_dk kX12_opened_0 8 rfl
theorem dX12_opened_15 : decode cX12_opened 15 = .ok (.iconst 2, 1) := mm_dk kX12_opened_0 9 rfl
theorem dX12_opened_16 : decode cX12_opened 16 = .ok (.ireturn, 1) := mm_dk kX12_opened_0 10 rfl
theorem dX12_opened_17 : decode cX12_opened 17 = .ok (.aload_n 0, 1) := mm_dk kX12_opened_0 11 rfl
theorem dX12_opened_18 : decode cX12_opened 18 = .ok (.getfield 102, 3) := mm_dk kX12_opened_0 12 rfl
theorem dX12_opened_21 : decode cX12_opened 21 = .ok (.iload_n 1, 1) := mm_dk kX12_opened_0 13 rfl
theorem dX12_opened_22 : decode cX12_opened 22 = .ok (.iaload, 1) := mm_dk kX12_opened_0 14 rfl
theorem dX12_opened_23 : decode cX12_opened 23 = .ok (.istore_n 2, 1) := mm_dk kX12_opened_0 15 rfl
theorem dX12_opened_24 : decode cX12_opened 24 = .ok (.iload_n 2, 1) := mm_dk kX12_opened_0 16 rfl
theorem dX12_opened_25 : decode cX12_opened 25 = .ok (.bipush 6, 2) := mm_dk kX12_opened_0 17 rfl
theorem dX12_opened_27 : decode cX12_opened 27 = .ok (.if_icmp .ge 5, 3) := mm_dk kX12_opened_0 18 rfl
theorem dX12_opened_30 : decode cX12_opened 30 = .ok (.iconst 3, 1) := mm_dk kX12_opened_0 19 rfl
theorem dX12_opened_31 : decode cX12_opened 31 = .ok (.ireturn, 1) := mm_dk kX12_opened_0 20 rfl
theorem dX12_opened_32 : decode cX12_opened 32 = .ok (.aload_n 0, 1) := mm_dk kX12_opened_0 21 rfl
theorem dX12_opened_33 : decode cX12_opened 33 = .ok (.iload_n 1, 1) := mm_dk kX12_opened_0 22 rfl
theorem dX12_opened_34 : decode cX12_opened 34 = .ok (.iload_n 2, 1) := mm_dk kX12_opened_0 23 rfl
theorem dX12_opened_35 : decode cX12_opened 35 = .ok (.iconst 1, 1) := mm_dk kX12_opened_0 24 rfl
theorem dX12_opened_36 : decode cX12_opened 36 = .ok (.isub, 1) := mm_dk kX12_opened_0 25 rfl
theorem dX12_opened_37 : decode cX12_opened 37 = .ok (.invokevirtual 366, 3) := mm_dk kX12_opened_0 26 rfl
theorem dX12_opened_40 : decode cX12_opened 40 = .ok (.aload_n 0, 1) := mm_dk kX12_opened_0 27 rfl
theorem dX12_opened_41 : decode cX12_opened 41 = .ok (.getfield 109, 3) := mm_dk kX12_opened_0 28 rfl
theorem dX12_opened_44 : decode cX12_opened 44 = .ok (.bipush 64, 2) := mm_dk kX12_opened_0 29 rfl
theorem dX12_opened_46 : decode cX12_opened 46 = .ok (.iload_n 1, 1) := mm_dk kX12_opened_0 30 rfl
theorem dX12_opened_47 : decode cX12_opened 47 = .ok (.imul, 1) := mm_dk kX12_opened_0 31 rfl
theorem dX12_opened_48 : decode cX12_opened 48 = .ok (.iload_n 2, 1) := mm_dk kX12_opened_0 32 rfl
theorem dX12_opened_49 : decode cX12_opened 49 = .ok (.iadd, 1) := mm_dk kX12_opened_0 33 rfl
theorem dX12_opened_50 : decode cX12_opened 50 = .ok (.iconst 1, 1) := mm_dk kX12_opened_0 34 rfl
theorem dX12_opened_51 : decode cX12_opened 51 = .ok (.isub, 1) := mm_dk kX12_opened_0 35 rfl
theorem dX12_opened_52 : decode cX12_opened 52 = .ok (.iaload, 1) := mm_dk kX12_opened_0 36 rfl
theorem dX12_opened_53 : decode cX12_opened 53 = .ok (.if_icmp .eq 5, 3) := mm_dk kX12_opened_0 37 rfl
theorem dX12_opened_56 : decode cX12_opened 56 = .ok (.iconst 4, 1) := mm_dk kX12_opened_0 38 rfl
theorem dX12_opened_57 : decode cX12_opened 57 = .ok (.ireturn, 1) := mm_dk kX12_opened_0 39 rfl
set_option maxRecDepth 100000 in
theorem kX12_opened_1 : ([(58, .aload_n 0, 1), (59, .iload_n 1, 1), (60, .putfield 405, 3), (63, .aload_n 0, 1), (64, .aload_n 0, 1), (65, .getfield 109, 3), (68, .bipush 64, 2), (70, .iload_n 1, 1), (71, .imul, 1), (72, .iconst 2, 1), (73, .iadd, 1), (74, .iaload, 1), (75, .putfield 408, 3), (78, .aload_n 0, 1), (79, .getfield 408, 3), (82, .ifCond .ge 5, 3), (85, .iconst 5, 1), (86, .ireturn, 1), (87, .bipush 6, 2), (89, .aload_n 0, 1), (90, .getfield 408, 3), (93, .iadd, 1), (94, .iload_n 2, 1), (95, .if_icmp .le 5, 3), (98, .iconst 3, 1), (99, .ireturn, 1), (100, .aload_n 0, 1), (101, .aload_n 0, 1), (102, .getfield 109, 3), (105, .bipush 64, 2), (107, .iload_n 1, 1), (108, .imul, 1), (109, .iconst 5, 1), (110, .iadd, 1), (111, .iaload, 1), (112, .putfield 411, 3), (115, .aload_n 0, 1), (116, .getfield 411, 3), (119, .ifCond .ge 5, 3), (122, .iconst 5, 1)] : List (Nat × Instr × Nat)).all (fun x => decide (decode cX12_opened x.1 = .ok x.2)) = true := by decide +kernel
theorem dX12_opened_58 : decode cX12_opened 58 = .ok (.aload_n 0, 1) := mm_dk kX12_opened_1 0 rfl
theorem dX12_opened_59 : decode cX12_opened 59 = .ok (.iload_n 1, 1) := mm_dk kX12_opened_1 1 rfl
theorem dX12_opened_60 : decode cX12_opened 60 = .ok (.putfield 405, 3) := mm_dk kX12_opened_1 2 rfl
theorem dX12_opened_63 : decode cX12_opened 63 = .ok (.aload_n 0, 1) := mm_dk kX12_opened_1 3 rfl
theorem dX12_opened_64 : decode cX12_opened 64 = .ok (.aload_n 0, 1) := mm_dk kX12_opened_1 4 rfl
theorem dX12_opened_65 : decode cX12_opened 65 = .ok (.getfield 109, 3) := mm_dk kX12_opened_1 5 rfl
theorem dX12_opened_68 : decode cX12_opened 68 = .ok (.bipush 64, 2) := mm_dk kX12_opened_1 6 rfl
theorem dX12_opened_70 : decode cX12_opened 70 = .ok (.iload_n 1, 1) := mm_dk kX12_opened_1 7 rfl
theorem dX12_opened_71 : decode cX12_opened 71 = .ok (.imul, 1) := mm_dk kX12_opened_1 8 rfl
theorem dX12_opened_72 : decode cX12_opened 72 = .ok (.iconst 2, 1) := mm_dk kX12_opened_1 9 rfl
theorem dX12_opened_73 : decode cX12_opened 73 = .ok (.iadd, 1) := mm_dk kX12_opened_1 10 rfl
theorem dX12_opened_74 : decode cX12_opened 74 = .ok (.iaload, 1) := mm_dk kX12_opened_1 11 rfl
theorem dX12_opened_75 : decode cX12_opened 75 = .ok (.putfield 408, 3) := mm_dk kX12_opened_1 12 rfl
theorem dX12_opened_78 : decode cX12_opened 78 = .ok (.aload_n 0, 1) := mm_dk kX12_opened_1 13 rfl
theorem dX12_opened_79 : decode cX12_opened 79 = .ok (.getfield 408, 3) := mm_dk kX12_opened_1 14 rfl
theorem dX12_opened_82 : decode cX12_opened 82 = .ok (.ifCond .ge 5, 3) := mm_dk kX12_opened_1 15 rfl
theorem dX12_opened_85 : decode cX12_opened 85 = .ok (.iconst 5, 1) := mm_dk kX12_opened_1 16 rfl
theorem dX12_opened_86 : decode cX12_opened 86 = .ok (.ireturn, 1) := mm_dk kX12_opened_1 17 rfl
theorem dX12_opened_87 : decode cX12_opened 87 = .ok (.bipush 6, 2) := mm_dk kX12_opened_1 18 rfl
theorem dX12_opened_89 : decode cX12_opened 89 = .ok (.aload_n 0, 1) := mm_dk kX12_opened_1 19 rfl
theorem dX12_opened_90 : decode cX12_opened 90 = .ok (.getfield 408, 3) := mm_dk kX12_opened_1 20 rfl
theorem dX12_opened_93 : decode cX12_opened 93 = .ok (.iadd, 1) := mm_dk kX12_opened_1 21 rfl
theorem dX12_opened_94 : decode cX12_opened 94 = .ok (.iload_n 2, 1) := mm_dk kX12_opened_1 22 rfl
theorem dX12_opened_95 : decode cX12_opened 95 = .ok (.if_icmp .le 5, 3) := mm_dk kX12_opened_1 23 rfl
theorem dX12_opened_98 : decode cX12_opened 98 = .ok (.iconst 3, 1) := mm_dk kX12_opened_1 24 rfl
theorem dX12_opened_99 : decode cX12_opened 99 = .ok (.ireturn, 1) := mm_dk kX12_opened_1 25 rfl
theorem dX12_opened_100 : decode cX12_opened 100 = .ok (.aload_n 0, 1) := mm_dk kX12_opened_1 26 rfl
theorem dX12_opened_101 : decode cX12_opened 101 = .ok (.aload_n 0, 1) := mm_dk kX12_opened_1 27 rfl
theorem dX12_opened_102 : decode cX12_opened 102 = .ok (.getfield 109, 3) := mm_dk kX12_opened_1 28 rfl
theorem dX12_opened_105 : decode cX12_opened 105 = .ok (.bipush 64, 2) := mm_dk kX12_opened_1 29 rfl
theorem dX12_opened_107 : decode cX12_opened 107 = .ok (.iload_n 1, 1) := mm_dk kX12_opened_1 30 rfl
theorem dX12_opened_108 : decode cX12_opened 108 = .ok (.imul, 1) := mm_dk kX12_opened_1 31 rfl
theorem dX12_opened_109 : decode cX12_opened 109 = .ok (.iconst 5, 1) := mm_dk kX12_opened_1 32 rfl
theorem dX12_opened_110 : decode cX12_opened 110 = .ok (.iadd, 1) := mm_dk kX12_opened_1 33 rfl
theorem dX12_opened_111 : decode cX12_opened 111 = .ok (.iaload, 1) := mm_dk kX12_opened_1 34 rfl
theorem dX12_opened_112 : decode cX12_opened 112 = .ok (.putfield 411, 3) := mm_dk kX12_opened_1 35 rfl
theorem dX12_opened_115 : decode cX12_opened 115 = .ok (.aload_n 0, 1) := mm_dk kX12_opened_1 36 rfl
theorem dX12_opened_116 : decode cX12_opened 116 = .ok (.getfield 411, 3) := mm_dk kX12_opened_1 37 rfl
theorem dX12_opened_119 : decode cX12_opened 119 = .ok (.ifCond .ge 5, 3) := mm_dk kX12_opened_1 38 rfl
theorem dX12_opened_122 : decode cX12_opened 122 = .ok (.iconst 5, 1) := mm_dk kX12_opened_1 39 rfl
set_option maxRecDepth 100000 in
theorem kX12_opened_2 : ([(123, .ireturn, 1), (124, .bipush 6, 2), (126, .aload_n 0, 1), (127, .getfield 408, 3), (130, .iadd, 1), (131, .aload_n 0, 1), (132, .getfield 411, 3), (135, .iadd, 1), (136, .iload_n 2, 1), (137, .if_icmp .le 5, 3), (140, .iconst 3, 1), (141, .ireturn, 1), (142, .aload_n 0, 1), (143, .getfield 408, 3), (146, .aload_n 0, 1), (147, .invokevirtual 414, 3), (150, .ifCond .eq 8, 3), (153, .bipush 28, 2), (155, .goto 4, 3), (158, .iconst 2, 1), (159, .if_icmp .ge 8, 3), (162, .bipush 6, 2), (164, .goto 4, 3), (167, .iconst 0, 1), (168, .ireturn, 1)] : List (Nat × Instr × Nat)).all (fun x => decide (decode cX12_opened x.1 = .ok x.2)) = true := by decide +kernel
theorem dX12_opened_123 : decode cX12_opened 123 = .ok (.ireturn, 1) := mm_dk kX12_opened_2 0 rfl
theorem dX12_opened_124 : decode cX12_opened 124 = .ok (.bipush 6, 2) := mm_dk kX12_opened_2 1 rfl
theorem dX12_opened_126 : decode cX12_opened 126 = .ok (.aload_n 0, 1) := mm_dk kX12_opened_2 2 rfl
theorem dX12_opened_127 : decode cX12_opened 127 = .ok (.getfield 408, 3) := mm_dk kX12_opened_2 3 rfl
theorem dX12_opened_130 : decode cX12_opened 130 = .ok (.iadd, 1) := mm_dk kX12_opened_2 4 rfl
theorem dX12_opened_131 : decode cX12_opened 131 = .ok (.aload_n 0, 1) := mm_dk kX12_opened_2 5 rfl
theorem dX12_opened_132 : decode cX12_opened 132 = .ok (.getfield 411, 3) := mm_dk kX12_opened_2 6 rfl
theorem dX12_opened_135 : decode cX12_opened 135 = .ok (.iadd, 1) := mm_dk kX12_opened_2 7 rfl
theorem dX12_opened_136 : decode cX12_opened 136 = .ok (.iload_n 2, 1) := mm_dk kX12_opened_2 8 rfl
theorem dX12_opened_137 : decode cX12_opened 137 = .ok (.if_icmp .le 5, 3) := mm_dk kX12_opened_2 9 rfl
theorem dX12_opened_140 : decode cX12_opened 140 = .ok (.iconst 3, 1) := mm_dk kX12_opened_2 10 rfl
theorem dX12_opened_141 : decode cX12_opened 141 = .ok (.ireturn, 1) := mm_dk kX12_opened_2 11 rfl
theorem dX12_opened_142 : decode cX12_opened 142 = .ok (.aload_n 0, 1) := mm_dk kX12_opened_2 12 rfl
theorem dX12_opened_143 : decode cX12_opened 143 = .ok (.getfield 408, 3) := mm_dk kX12_opened_2 13 rfl
theorem dX12_opened_146 : decode cX12_opened 146 = .ok (.aload_n 0, 1) := mm_dk kX12_opened_2 14 rfl
theorem dX12_opened_147 : decode cX12_opened 147 = .ok (.invokevirtual 414, 3) := mm_dk kX12_opened_2 15 rfl
theorem dX12_opened_150 : decode cX12_opened 150 = .ok (.ifCond .eq 8, 3) := mm_dk kX12_opened_2 16 rfl
theorem dX12_opened_153 : decode cX12_opened 153 = .ok (.bipush 28, 2) := mm_dk kX12_opened_2 17 rfl
theorem dX12_opened_155 : decode cX12_opened 155 = .ok (.goto 4, 3) := mm_dk kX12_opened_2 18 rfl
theorem dX12_opened_158 : decode cX12_opened 158 = .ok (.iconst 2, 1) := mm_dk kX12_opened_2 19 rfl
theorem dX12_opened_159 : decode cX12_opened 159 = .ok (.if_icmp .ge 8, 3) := mm_dk kX12_opened_2 20 rfl
theorem dX12_opened_162 : decode cX12_opened 162 = .ok (.bipush 6, 2) := mm_dk kX12_opened_2 21 rfl
theorem dX12_opened_164 : decode cX12_opened 164 = .ok (.goto 4, 3) := mm_dk kX12_opened_2 22 rfl
theorem dX12_opened_167 : decode cX12_opened 167 = .ok (.iconst 0, 1) := mm_dk kX12_opened_2 23 rfl
theorem dX12_opened_168 : decode cX12_opened 168 = .ok (.ireturn, 1) := mm_dk kX12_opened_2 24 rfl
set_option maxRecDepth 100000 in
theorem kX12_isVoice_0 : ([(0, .aload_n 0, 1), (1, .getfield 109, 3), (4, .bipush 64, 2), (6, .aload_n 0, 1), (7, .getfield 405, 3), (10, .imul, 1), (11, .iaload, 1), (12, .iconst 1, 1), (13, .iand, 1), (14, .iconst 1, 1), (15, .if_icmp .ne 7, 3), (18, .iconst 1, 1), (19, .goto 4, 3), (22, .iconst 0, 1), (23, .ireturn, 1)] : List (Nat × Instr × Nat)).all (fun x => decide (decode cX12_isVoice x.1 = .ok x.2)) = true := by decide +kernel
theorem dX12_isVoice_0 : decode cX12_isVoice 0 = .ok (.aload_n 0, 1) := mm_dk kX12_isVoice_0 0 rfl
theorem dX12_isVoice_1 : decode cX12_isVoice 1 = .ok (.getfield 109, 3) := mm_dk kX12_isVoice_0 1 rfl
theorem dX12_isVoice_4 : decode cX12_isVoice 4 = .ok (.bipush 64, 2) := mm_dk kX12_isVoice_0 2 rfl
theorem dX12_isVoice_6 : decode cX12_isVoice 6 = .ok (.aload_n 0, 1) := mm_dk kX12_isVoice_0 3 rfl
theorem dX12_isVoice_7 : decode cX12_isVoice 7 = .ok (.getfield 405, 3) := mm_dk kX12_isVoice_0 4 rfl
theorem dX12_isVoice_10 : decode cX12_isVoice 10 = .ok (.imul, 1) := mm_dk kX12_isVoice_0 5 rfl
theorem dX12_isVoice_11 : decode cX12_isVoice 11 = .ok (.iaload, 1) := mm_dk kX12_isVoice_0 6 rfl
theorem dX12_isVoice_12 : decode cX12_isVoice 12 = .ok (.iconst 1, 1) := mm_dk kX12_isVoice_0 7 rfl
theorem dX12_isVoice_13 : decode cX12_isVoice 13 = .ok (.iand, 1) := mm_dk kX12_isVoice_0 8 rfl
theorem dX12_isVoice_14 : decode cX12_isVoice 14 = .ok (.iconst 1, 1) := mm_dk kX12_isVoice_0 9 rfl
theorem dX12_isVoice_15 : decode cX12_isVoice 15 = .ok (.if_icmp .ne 7, 3) := mm_dk kX12_isVoice_0 10 rfl
theorem dX12_isVoice_18 : decode cX12_isVoice 18 = .ok (.iconst 1, 1) := mm_dk kX12_isVoice_0 11 rfl
theorem dX12_isVoice_19 : decode cX12_isVoice 19 = .ok (.goto 4, 3) := mm_dk kX12_isVoice_0 12 rfl
theorem dX12_isVoice_22 : decode cX12_isVoice 22 = .ok (.iconst 0, 1) := mm_dk kX12_isVoice_0 13 rfl
theorem dX12_isVoice_23 : decode cX12_isVoice 23 = .ok (.ireturn, 1) := mm_dk kX12_isVoice_0 14 rfl
set_option maxRecDepth 100000 in
theorem kX12_body_0 : ([(0, .aload_n 0, 1), (1, .getfield 109, 3), (4, .bipush 64, 2), (6, .aload_n 0, 1), (7, .getfield 405, 3), (10, .imul, 1), (11, .bipush 6, 2), (13, .iadd, 1), (14, .iload_n 1, 1), (15, .iadd, 1), (16, .iaload, 1), (17, .sipush 255, 3), (20, .iand, 1), (21, .ireturn, 1)] : List (Nat × Instr × Nat)).all (fun x => decide (decode cX12_body x.1 = .ok x.2)) = true := by decide +kernel
theorem dX12_body_0 : decode cX12_body 0 = .ok (.aload_n 0, 1) := mm_dk kX12_body_0 0 rfl
theorem dX12_body_1 : decode cX12_body 1 = .ok (.getfield 109, 3) := mm_dk kX12_body_0 1 rfl
theorem dX12_body_4 : decode cX12_body 4 = .ok (.bipush 64, 2) := mm_dk kX12_body_0 2 rfl
theorem dX12_body_6 : decode cX12_body 6 = .ok (.aload_n 0, 1) := mm_dk kX12_body_0 3 rfl
theorem dX12_body_7 : decode cX12_body 7 = .ok (.getfield 405, 3) := mm_dk kX12_body_0 4 rfl
theorem dX12_body_10 : decode cX12_body 10 = .ok (.imul, 1) := mm_dk kX12_body_0 5 rfl
theorem dX12_body_11 : decode cX12_body 11 = .ok (.bipush 6, 2) := mm_dk kX12_body_0 6 rfl
theorem dX12_body_13 : decode cX12_body 13 = .ok (.iadd, 1) := mm_dk kX12_body_0 7 rfl
theorem dX12_body_14 : decode cX12_body 14 = .ok (.iload_n 1, 1) := mm_dk kX12_body_0 8 rfl
theorem dX12_body_15 : decode cX12_body 15 = .ok (.iadd, 1) := mm_dk kX12_body_0 9 rfl
theorem dX12_body_16 : decode cX12_body 16 = .ok (.iaload, 1) := mm_dk kX12_body_0 10 rfl
theorem dX12_body_17 : decode cX12_body 17 = .ok (.sipush 255, 3) := mm_dk kX12_body_0 11 rfl
theorem dX12_body_20 : decode cX12_body 20 = .ok (.iand, 1) := mm_dk kX12_body_0 12 rfl
theorem dX12_body_21 : decode cX12_body 21 = .ok (.ireturn, 1) := mm_dk kX12_body_0 13 rfl
set_option maxRecDepth 100000 in
theorem kX12_open_0 : ([(0, .aload_n 0, 1), (1, .bipush 20, 2), (3, .invokevirtual 346, 3), (6, .aload_n 0, 1), (7, .iload_n 1, 1), (8, .invokevirtual 418, 3), (11, .istore_n 2, 1), (12, .aload_n 0, 1), (13, .bipush 21, 2), (15, .invokevirtual 346, 3), (18, .iload_n 2, 1), (19, .ifCond .le 13, 3), (22, .aload_n 0, 1), (23, .getfield 7, 3), (26, .iload_n 2, 1), (27, .dup2, 1), (28, .iaload, 1), (29, .iconst 1, 1), (30, .iadd, 1), (31, .iastore, 1), (32, .iload_n 2, 1), (33, .ireturn, 1)] : List (Nat × Instr × Nat)).all (fun x => decide (decode cX12_open x.1 = .ok x.2)) = true := by decide +kernel
theorem dX12_open_0 : decode cX12_open 0 = .ok (.aload_n 0, 1) := mm_dk kX12_open_0 0 rfl
theorem dX12_open_1 : decode cX12_open 1 = .ok (.bipush 20, 2) := mm_dk kX12_open_0 1 rfl
theorem dX12_open_3 : decode cX12_open 3 = .ok (.invokevirtual 346, 3) := mm_dk kX12_open_0 2 rfl
theorem dX12_open_6 : decode cX12_open 6 = .ok (.aload_n 0, 1) := mm_dk kX12_open_0 3 rfl
theorem dX12_open_7 : decode cX12_open 7 = .ok (.iload_n 1, 1) := mm_dk kX12_open_0 4 rfl
theorem dX12_open_8 : decode cX12_open 8 = .ok (.invokevirtual 418, 3) := mm_dk kX12_open_0 5 rfl
theorem dX12_open_11 : decode cX12_open 11 = .ok (.istore_n 2, 1) := mm_dk kX12_open_0 6 rfl
theorem dX12_open_12 : decode cX12_open 12 = .ok (.aload_n 0, 1) := mm_dk kX12_open_0 7 rfl
theorem dX12_open_13 : decode cX12_open 13 = .ok (.bipush 21, 2) := mm_dk kX12_open_0 8 rfl
theorem dX12_open_15 : decode cX12_open 15 = .ok (.invokevirtual 346, 3) := mm_dk kX12_open_0 9 rfl
theorem dX12_open_18 : decode cX12_open 18 = .ok (.iload_n 2, 1) := mm_dk kX12_open_0 10 rfl
theorem dX12_open_19 : decode cX12_open 19 = .ok (.ifCond .le 13, 3) := mm_dk kX12_open_0 11 rfl
theorem dX12_open_22 : decode cX12_open 22 = .ok (.aload_n 0, 1) := mm_dk kX12_open_0 12 rfl
theorem dX12_open_23 : decode cX12_open 23 = .ok (.getfield 7, 3) := mm_dk kX12_open_0 13 rfl
theorem dX12_open_26 : decode cX12_open 26 = .ok (.iload_n 2, 1) := mm_dk kX12_open_0 14 rfl
theorem dX12_open_27 : decode cX12_open 27 = .ok (.dup2, 1) := mm_dk kX12_open_0 15 rfl
theorem dX12_open_28 : decode cX12_open 28 = .ok (.iaload, 1) := mm_dk kX12_open_0 16 rfl
theorem dX12_open_29 : decode cX12_open 29 = .ok (.iconst 1, 1) := mm_dk kX12_open_0 17 rfl
theorem dX12_open_30 : decode cX12_open 30 = .ok (.iadd, 1) := mm_dk kX12_open_0 18 rfl
theorem dX12_open_31 : decode cX12_open 31 = .ok (.iastore, 1) := mm_dk kX12_open_0 19 rfl
theorem dX12_open_32 : decode cX12_open 32 = .ok (.iload_n 2, 1) := mm_dk kX12_open_0 20 rfl
theorem dX12_open_33 : decode cX12_open 33 = .ok (.ireturn, 1) := mm_dk kX12_open_0 21 rfl
set_option maxRecDepth 100000 in
theorem kX12_firstWith_0 : ([(0, .iconst (-1), 1), (1, .istore_n 3, 1), (2, .aload_n 0, 1), (3, .getfield 93, 3), (6, .iload_n 1, 1), (7, .iaload, 1), (8, .iconst 1, 1), (9, .isub, 1), (10, .istore 4, 2), (12, .iload 4, 2), (14, .ifCond .lt 33, 3), (17, .aload_n 0, 1), (18, .getfield 96, 3), (21, .sipush 250, 3), (24, .iload_n 1, 1), (25, .imul, 1), (26, .iload 4, 2), (28, .iadd, 1), (29, .iaload, 1), (30, .iload_n 2, 1), (31, .if_icmp .ne 8, 3), (34, .iload 4, 2), (36, .goto 4, 3), (39, .iload_n 3, 1), (40, .istore_n 3, 1), (41, .iinc 4 (-1), 3), (44, .goto (-32), 3), (47, .iload_n 3, 1), (48, .ireturn, 1)] : List (Nat × Instr × Nat)).all (fun x => decide (decode cX12_firstWith x.1 = .ok x.2)) = true := by decide +kernel
theorem dX12_firstWith_0 : decode cX12_firstWith 0 = .ok (.iconst (-1), 1) := mm_dk kX12_firstWith_0 0 rfl
theorem dX12_firstWith_1 : decode cX12_firstWith 1 = .ok (.istore_n 3, 1) := mm_dk kX12_firstWith_0 1 rfl
theorem dX12_firstWith_2 : decode cX12_firstWith 2 = .ok (.aload_n 0, 1) := mm_dk kX12_firstWith_0 2 rfl
theorem dX12_firstWith_3 : decode cX12_firstWith 3 = .ok (.getfield 93, 3) := mm_dk kX12_firstWith_0 3 rfl
theorem dX12_firstWith_6 : decode cX12_firstWith 6 = .ok (.iload_n 1, 1) := mm_dk kX12_firstWith_0 4 rfl
theorem dX12_firstWith_7 : decode cX12_firstWith 7 = .ok (.iaload, 1) := mm_dk kX12_firstWith_0 5 rfl
theorem dX12_firstWith_8 : decode cX12_firstWith 8 = .ok (.iconst 1, 1) := mm_dk kX12_firstWith_0 6 rfl
theorem dX12_firstWith_9 : decode cX12_firstWith 9 = .ok (.isub, 1) := mm_dk kX12_firstWith_0 7 rfl
theorem dX12_firstWith_10 : decode cX12_firstWith 10 = .ok (.istore 4, 2) := mm_dk kX12_firstWith_0 8 rfl
theorem dX12_firstWith_12 : decode cX12_firstWith 12 = .ok (.iload 4, 2) := mm_dk kX12_firstWith_0 9 rfl
theorem dX12_firstWith_14 : decode cX12_firstWith 14 = .ok (.ifCond .lt 33, 3) := mm_dk kX12_firstWith_0 10 rfl
theorem dX12_firstWith_17 : decode cX12_firstWith 17 = .ok (.aload_n 0, 1) := mm_dk kX12_firstWith_0 11 rfl
theorem dX12_firstWith_18 : decode cX12_firstWith 18 = .ok (.getfield 96, 3) := mm_dk kX12_firstWith_0 12 rfl
theorem dX12_firstWith_21 : decode cX12_firstWith 21 = .ok (.sipush 250, 3) := mm_dk kX12_firstWith_0 13 rfl
theorem dX12_firstWith_24 : decode cX12_firstWith 24 = .ok (.iload_n 1, 1) := mm_dk kX12_firstWith_0 14 rfl
theorem dX12_firstWith_25 : decode cX12_firstWith 25 = .ok (.imul, 1) := mm_dk kX12_firstWith_0 15 rfl
theorem dX12_firstWith_26 : decode cX12_firstWith 26 = .ok (.iload 4, 2) := mm_dk kX12_firstWith_0 16 rfl
theorem dX12_firstWith_28 : decode cX12_firstWith 28 = .ok (.iadd, 1) := mm_dk kX12_firstWith_0 17 rfl
theorem dX12_firstWith_29 : decode cX12_firstWith 29 = .ok (.iaload, 1) := mm_dk kX12_firstWith_0 18 rfl
theorem dX12_firstWith_30 : decode cX12_firstWith 30 = .ok (.iload_n 2, 1) := mm_dk kX12_firstWith_0 19 rfl
theorem dX12_firstWith_31 : decode cX12_firstWith 31 = .ok (.if_icmp .ne 8, 3) := mm_dk kX12_firstWith_0 20 rfl
theorem dX12_firstWith_34 : decode cX12_firstWith 34 = .ok (.iload 4, 2) := mm_dk kX12_firstWith_0 21 rfl
theorem dX12_firstWith_36 : decode cX12_firstWith 36 = .ok (.goto 4, 3) := mm_dk kX12_firstWith_0 22 rfl
theorem dX12_firstWith_39 : decode cX12_firstWith 39 = .ok (.iload_n 3, 1) := mm_dk kX12_firstWith_0 23 rfl
theorem dX12_firstWith_40 : decode cX12_firstWith 40 = .ok (.istore_n 3, 1) := mm_dk kX12_firstWith_0 24 rfl
theorem dX12_firstWith_41 : decode cX12_firstWith 41 = .ok (.iinc 4 (-1), 3) := mm_dk kX12_firstWith_0 25 rfl
theorem dX12_firstWith_44 : decode cX12_firstWith 44 = .ok (.goto (-32), 3) := mm_dk kX12_firstWith_0 26 rfl
theorem dX12_firstWith_47 : decode cX12_firstWith 47 = .ok (.iload_n 3, 1) := mm_dk kX12_firstWith_0 27 rfl
theorem dX12_firstWith_48 : decode cX12_firstWith 48 = .ok (.ireturn, 1) := mm_dk kX12_firstWith_0 28 rfl
set_option maxRecDepth 100000 in
theorem kX12_decode_0 : ([(0, .aload_n 0, 1), (1, .iload_n 1, 1), (2, .invokevirtual 238, 3), (5, .ifCond .ne 9, 3), (8, .aload_n 0, 1), (9, .iconst (-1), 1), (10, .invokevirtual 231, 3), (13, .ireturn, 1), (14, .aload_n 0, 1), (15, .getfield 93, 3), (18, .iload_n 1, 1), (19, .iaload, 1), (20, .ifCond .ne 25, 3), (23, .aload_n 0, 1), (24, .getfield 118, 3), (27, .iload_n 1, 1), (28, .iaload, 1), (29, .aload_n 0, 1), (30, .getfield 38, 3), (33, .iload_n 1, 1), (34, .iaload, 1), (35, .if_icmp .ne 10, 3), (38, .aload_n 0, 1), (39, .bipush (-2), 2), (41, .invokevirtual 231, 3), (44, .ireturn, 1), (45, .aload_n 0, 1), (46, .iconst 0, 1), (47, .putfield 210, 3), (50, .aload_n 0, 1), (51, .getfield 118, 3), (54, .iload_n 1, 1), (55, .iaload, 1), (56, .istore_n 2, 1), (57, .aload_n 0, 1), (58, .getfield 93, 3), (61, .iload_n 1, 1), (62, .iaload, 1), (63, .iconst 1, 1), (64, .isub, 1)] : List (Nat × Instr × Nat)).all (fun x => decide (decode cX12_decode x.1 = .ok x.2)) = true := by decide +kernel
theorem dX12_decode_0 : decode cX12_decode 0 = .ok (.aload_n 0, 1) := mm_dk kX12_decode_0 0 rfl
theorem dX12_decode_1 : decode cX12_decode 1 = .ok (.iload_n 1, 1) := mm_dk kX12_decode_0 1 rfl
theorem dX12_decode_2 : decode cX12_decode 2 = .ok (.invokevirtual 238, 3) := mm_dk kX12_decode_0 2 rfl
theorem dX12_decode_5 : decode cX12_decode 5 = .ok (.ifCond .ne 9, 3) := mm_dk kX12_decode_0 3 rfl
theorem dX12_decode_8 : decode cX12_decode 8 = .ok (.aload_n 0, 1) := mm_dk kX12_decode_0 4 rfl
theorem dX12_decode_9 : decode cX12_decode 9 = .ok (.iconst (-1), 1) := mm_dk kX12_decode_0 5 rfl
theorem dX12_decode_10 : decode cX12_decode 10 = .ok (.invokevirtual 231, 3) := mm_dk kX12_decode_0 6 rfl
theorem dX12_decode_13 : decode cX12_decode 13 = .ok (.ireturn, 1) := mm_dk kX12_decode_0 7 rfl
theorem dX12_decode_14 : decode cX12_decode 14 = .ok (.aload_n 0, 1) := mm_dk kX12_decode_0 8 rfl
theorem dX12_decode_15 : decode cX12_decode 15 = .ok (.getfield 93, 3) := mm_dk kX12_decode_0 9 rfl
theorem dX12_decode_18 : decode cX12_decode 18 = .ok (.iload_n 1, 1) := mm_dk kX12_decode_0 10 rfl
theorem dX12_decode_19 : decode cX12_decode 19 = .ok (.iaload, 1) := mm_dk kX12_decode_0 11 rfl
theorem dX12_decode_20 : decode cX12_decode 20 = .ok (.ifCond .ne 25, 3) := mm_dk kX12_decode_0 12 rfl
theorem dX12_decode_23 : decode cX12_decode 23 = .ok (.aload_n 0, 1) := mm_dk kX12_decode_0 13 rfl
theorem dX12_decode_24 : decode cX12_decode 24 = .ok (.getfield 118, 3) := mm_dk kX12_decode_0 14 rfl
theorem dX12_decode_27 : decode cX12_decode 27 = .ok (.iload_n 1, 1) := mm_dk kX12_decode_0 15 rfl
theorem dX12_decode_28 : decode cX12_decode 28 = .ok (.iaload, 1) := mm_dk kX12_decode_0 16 rfl
theorem dX12_decode_29 : decode cX12_decode 29 = .ok (.aload_n 0, 1) := mm_dk kX12_decode_0 17 rfl
theorem dX12_decode_30 : decode cX12_decode 30 = .ok (.getfield 38, 3) := mm_dk kX12_decode_0 18 rfl
theorem dX12_decode_33 : decode cX12_decode 33 = .ok (.iload_n 1, 1) := mm_dk kX12_decode_0 19 rfl
theorem dX12_decode_34 : decode cX12_decode 34 = .ok (.iaload, 1) := mm_dk kX12_decode_0 20 rfl
theorem dX12_decode_35 : decode cX12_decode 35 = .ok (.if_icmp .ne 10, 3) := mm_dk kX12_decode_0 21 rfl
theorem dX12_decode_38 : decode cX12_decode 38 = .ok (.aload_n 0, 1) := mm_dk kX12_decode_0 22 rfl
theorem dX12_decode_39 : decode cX12_decode 39 = .ok (.bipush (-2), 2) := mm_dk kX12_decode_0 23 rfl
theorem dX12_decode_41 : decode cX12_decode 41 = .ok (.invokevirtual 231, 3) := mm_dk kX12_decode_0 24 rfl
theorem dX12_decode_44 : decode cX12_decode 44 = .ok (.ireturn, 1) := mm_dk kX12_decode_0 25 rfl
theorem dX12_decode_45 : decode cX12_decode 45 = .ok (.aload_n 0, 1) := mm_dk kX12_decode_0 26 rfl
theorem dX12_decode_46 : decode cX12_decode 46 = .ok (.iconst 0, 1) := mm_dk kX12_decode_0 27 rfl
theorem dX12_decode_47 : decode cX12_decode 47 = .ok (.putfield 210, 3) := mm_dk kX12_decode_0 28 rfl
theorem dX12_decode_50 : decode cX12_decode 50 = .ok (.aload_n 0, 1) := mm_dk kX12_decode_0 29 rfl
theorem dX12_decode_51 : decode cX12_decode 51 = .ok (.getfield 118, 3) := mm_dk kX12_decode_0 30 rfl
theorem dX12_decode_54 : decode cX12_decode 54 = .ok (.iload_n 1, 1) := mm_dk kX12_decode_0 31 rfl
theorem dX12_decode_55 : decode cX12_decode 55 = .ok (.iaload, 1) := mm_dk kX12_decode_0 32 rfl
theorem dX12_decode_56 : decode cX12_decode 56 = .ok (.istore_n 2, 1) := mm_dk kX12_decode_0 33 rfl
theorem dX12_decode_57 : decode cX12_decode 57 = .ok (.aload_n 0, 1) := mm_dk kX12_decode_0 34 rfl
theorem dX12_decode_58 : decode cX12_decode 58 = .ok (.getfield 93, 3) := mm_dk kX12_decode_0 35 rfl
theorem dX12_decode_61 : decode cX12_decode 61 = .ok (.iload_n 1, 1) := mm_dk kX12_decode_0 36 rfl
theorem dX12_decode_62 : decode cX12_decode 62 = .ok (.iaload, 1) := mm_dk kX12_decode_0 37 rfl
theorem dX12_decode_63 : decode cX12_decode 63 = .ok (.iconst 1, 1) := mm_dk kX12_decode_0 38 rfl
theorem dX12_decode_64 : decode cX12_decode 64 = .ok (.isub, 1) := mm_dk kX12_decode_0 39 rfl
set_option maxRecDepth 100000 in
theorem kX12_decode_1 : ([(65, .istore_n 3, 1), (66, .iload_n 3, 1), (67, .ifCond .lt 48, 3), (70, .aload_n 0, 1), (71, .getfield 96, 3), (74, .sipush 250, 3), (77, .iload_n 1, 1), (78, .imul, 1), (79, .iload_n 3, 1), (80, .iadd, 1), (81, .iaload, 1), (82, .iload_n 2, 1), (83, .isub, 1), (84, .ldc 243, 2), (86, .iand, 1), (87, .ldc_w 421, 3), (90, .if_icmp .lt 19, 3), (93, .aload_n 0, 1), (94, .iload_n 1, 1), (95, .iload_n 3, 1), (96, .invokevirtual 399, 3), (99, .aload_n 0, 1), (100, .getfield 127, 3), (103, .iload_n 1, 1), (104, .dup2, 1), (105, .iaload, 1), (106, .iconst 1, 1), (107, .iadd, 1), (108, .iastore, 1), (109, .iinc 3 (-1), 3), (112, .goto (-46), 3), (115, .bipush 7, 2), (117, .istore_n 3, 1), (118, .aload_n 0, 1), (119, .iload_n 1, 1), (120, .iload_n 2, 1), (121, .invokevirtual 422, 3), (124, .istore 4, 2), (126, .iload 4, 2), (128, .ifCond .lt 37, 3)] : List (Nat × Instr × Nat)).all (fun x => decide (decode cX12_decode x.1 = .ok x.2)) = true := by decide +kernel
theorem dX12_decode_65 : decode cX12_decode 65 = .ok (.istore_n 3, 1) := mm_dk kX12_decode_1 0 rfl
theorem dX12_decode_66 : decode cX12_decode 66 = .ok (.iload_n 3, 1) := mm_dk kX12_decode_1 1 rfl
theorem dX12_decode_67 : decode cX12_decode 67 = .ok (.ifCond .lt 48, 3) := mm_dk kX12_decode_1 2 rfl
theorem dX12_decode_70 : decode cX12_decode 70 = .ok (.aload_n 0, 1) := mm_dk kX12_decode_1 3 rfl
theorem dX12_decode_71 : decode cX12_decode 71 = .ok (.getfield 96, 3) := mm_dk kX12_decode_1 4 rfl
theorem dX12_decode_74 : decode cX12_decode 74 = .ok (.sipush 250, 3) := mm_dk kX12_decode_1 5 rfl
theorem dX12_decode_77 : decode cX12_decode 77 = .ok (.iload_n 1, 1) := mm_dk kX12_decode_1 6 rfl
theorem dX12_decode_78 : decode cX12_decode 78 = .ok (.imul, 1) := mm_dk kX12_decode_1 7 rfl
theorem dX12_decode_79 : decode cX12_decode 79 = .ok (.iload_n 3, 1) := mm_dk kX12_decode_1 8 rfl
theorem dX12_decode_80 : decode cX12_decode 80 = .ok (.iadd, 1) := mm_dk kX12_decode_1 9 rfl
theorem dX12_decode_81 : decode cX12_decode 81 = .ok (.iaload, 1) := mm_dk kX12_decode_1 10 rfl
theorem dX12_decode_82 : decode cX12_decode 82 = .ok (.iload_n 2, 1) := mm_dk kX12_decode_1 11 rfl
theorem dX12_decode_83 : decode cX12_decode 83 = .ok (.isub, 1) := mm_dk kX12_decode_1 12 rfl
theorem dX12_decode_84 : decode cX12_decode 84 = .ok (.ldc 243, 2) := mm_dk kX12_decode_1 13 rfl
theorem dX12_decode_86 : decode cX12_decode 86 = .ok (.iand, 1) := mm_dk kX12_decode_1 14 rfl
theorem dX12_decode_87 : decode cX12_decode 87 = .ok (.ldc_w 421, 3) := mm_dk kX12_decode_1 15 rfl
theorem dX12_decode_90 : decode cX12_decode 90 = .ok (.if_icmp .lt 19, 3) := mm_dk kX12_decode_1 16 rfl
theorem dX12_decode_93 : decode cX12_decode 93 = .ok (.aload_n 0, 1) := mm_dk kX12_decode_1 17 rfl
theorem dX12_decode_94 : decode cX12_decode 94 = .ok (.iload_n 1, 1) := mm_dk kX12_decode_1 18 rfl
theorem dX12_decode_95 : decode cX12_decode 95 = .ok (.iload_n 3, 1) := mm_dk kX12_decode_1 19 rfl
theorem dX12_decode_96 : decode cX12_decode 96 = .ok (.invokevirtual 399, 3) := mm_dk kX12_decode_1 20 rfl
theorem dX12_decode_99 : decode cX12_decode 99 = .ok (.aload_n 0, 1) := mm_dk kX12_decode_1 21 rfl
theorem dX12_decode_100 : decode cX12_decode 100 = .ok (.getfield 127, 3) := mm_dk kX12_decode_1 22 rfl
theorem dX12_decode_103 : decode cX12_decode 103 = .ok (.iload_n 1, 1) := mm_dk kX12_decode_1 23 rfl
theorem dX12_decode_104 : decode cX12_decode 104 = .ok (.dup2, 1) := mm_dk kX12_decode_1 24 rfl
theorem dX12_decode_105 : decode cX12_decode 105 = .ok (.iaload, 1) := mm_dk kX12_decode_1 25 rfl
theorem dX12_decode_106 : decode cX12_decode 106 = .ok (.iconst 1, 1) := mm_dk kX12_decode_1 26 rfl
theorem dX12_decode_107 : decode cX12_decode 107 = .ok (.iadd, 1) := mm_dk kX12_decode_1 27 rfl
theorem dX12_decode_108 : decode cX12_decode 108 = .ok (.iastore, 1) := mm_dk kX12_decode_1 28 rfl
theorem dX12_decode_109 : decode cX12_decode 109 = .ok (.iinc 3 (-1), 3) := mm_dk kX12_decode_1 29 rfl
theorem dX12_decode_112 : decode cX12_decode 112 = .ok (.goto (-46), 3) := mm_dk kX12_decode_1 30 rfl
theorem dX12_decode_115 : decode cX12_decode 115 = .ok (.bipush 7, 2) := mm_dk kX12_decode_1 31 rfl
theorem dX12_decode_117 : decode cX12_decode 117 = .ok (.istore_n 3, 1) := mm_dk kX12_decode_1 32 rfl
theorem dX12_decode_118 : decode cX12_decode 118 = .ok (.aload_n 0, 1) := mm_dk kX12_decode_1 33 rfl
theorem dX12_decode_119 : decode cX12_decode 119 = .ok (.iload_n 1, 1) := mm_dk kX12_decode_1 34 rfl
theorem dX12_decode_120 : decode cX12_decode 120 = .ok (.iload_n 2, 1) := mm_dk kX12_decode_1 35 rfl
theorem dX12_decode_121 : decode cX12_decode 121 = .ok (.invokevirtual 422, 3) := mm_dk kX12_decode_1 36 rfl
theorem dX12_decode_124 : decode cX12_decode 124 = .ok (.istore 4, 2) := mm_dk kX12_decode_1 37 rfl
theorem dX12_decode_126 : decode cX12_decode 126 = .ok (.iload 4, 2) := mm_dk kX12_decode_1 38 rfl
theorem dX12_decode_128 : decode cX12_decode 128 = .ok (.ifCond .lt 37, 3) := mm_dk kX12_decode_1 39 rfl
set_option maxRecDepth 100000 in
theorem kX12_decode_2 : ([(131, .aload_n 0, 1), (132, .getfield 99, 3), (135, .sipush 250, 3), (138, .iload_n 1, 1), (139, .imul, 1), (140, .iload 4, 2), (142, .iadd, 1), (143, .iaload, 1), (144, .iconst 1, 1), (145, .isub, 1), (146, .istore 5, 2), (148, .aload_n 0, 1), (149, .iload_n 1, 1), (150, .iload 4, 2), (152, .invokevirtual 399, 3), (155, .aload_n 0, 1), (156, .iload 5, 2), (158, .invokevirtual 425, 3), (161, .istore_n 3, 1), (162, .goto 14, 3), (165, .aload_n 0, 1), (166, .getfield 7, 3), (169, .bipush 7, 2), (171, .dup2, 1), (172, .iaload, 1), (173, .iconst 1, 1), (174, .iadd, 1), (175, .iastore, 1), (176, .aload_n 0, 1), (177, .getfield 136, 3), (180, .iload_n 1, 1), (181, .iload_n 3, 1), (182, .iastore, 1), (183, .aload_n 0, 1), (184, .getfield 121, 3), (187, .iload_n 1, 1), (188, .iaload, 1), (189, .ifCond .le 7, 3), (192, .iconst 1, 1), (193, .goto 4, 3)] : List (Nat × Instr × Nat)).all (fun x => decide (decode cX12_decode x.1 = .ok x.2)) = true := by decide +kernel
theorem dX12_decode_131 : decode cX12_decode 131 = .ok (.aload_n 0, 1) := mm_dk kX12_decode_2 0 rfl
theorem dX12_decode_132 : decode cX12_decode 132 = .ok (.getfield 99, 3) := mm_dk kX12_decode_2 1 rfl
theorem dX12_decode_135 : decode cX12_decode 135 = .ok (.sipush 250, 3) := mm_dk kX12_decode_2 2 rfl
theorem dX12_decode_138 : decode cX12_decode 138 = .ok (.iload_n 1, 1) := mm_dk kX12_decode_2 3 rfl
theorem dX12_decode_139 : decode cX12_decode 139 = .ok (.imul, 1) := mm_dk kX12_decode_2 4 rfl
theorem dX12_decode_140 : decode cX12_decode 140 = .ok (.iload 4, 2) := mm_dk kX12_decode_2 5 rfl
theorem dX12_decode_142 : decode cX12_decode 142 = .ok (.iadd, 1) := mm_dk kX12_decode_2 6 rfl
theorem dX12_decode_143 : decode cX12_decode 143 = .ok (.iaload, 1) := mm_dk kX12_decode_2 7 rfl
theorem dX12_decode_144 : decode cX12_decode 144 = .ok (.iconst 1, 1) := mm_dk kX12_decode_2 8 rfl
theorem dX12_decode_145 : decode cX12_decode 145 = .ok (.isub, 1) := mm_dk kX12_decode_2 9 rfl
theorem dX12_decode_146 : decode cX12_decode 146 = .ok (.istore 5, 2) := mm_dk kX12_decode_2 10 rfl
theorem dX12_decode_148 : decode cX12_decode 148 = .ok (.aload_n 0, 1) := mm_dk kX12_decode_2 11 rfl
theorem dX12_decode_149 : decode cX12_decode 149 = .ok (.iload_n 1, 1) := mm_dk kX12_decode_2 12 rfl
theorem dX12_decode_150 : decode cX12_decode 150 = .ok (.iload 4, 2) := mm_dk kX12_decode_2 13 rfl
theorem dX12_decode_152 : decode cX12_decode 152 = .ok (.invokevirtual 399, 3) := mm_dk kX12_decode_2 14 rfl
theorem dX12_decode_155 : decode cX12_decode 155 = .ok (.aload_n 0, 1) := mm_dk kX12_decode_2 15 rfl
theorem dX12_decode_156 : decode cX12_decode 156 = .ok (.iload 5, 2) := mm_dk kX12_decode_2 16 rfl
theorem dX12_decode_158 : decode cX12_decode 158 = .ok (.invokevirtual 425, 3) := mm_dk kX12_decode_2 17 rfl
theorem dX12_decode_161 : decode cX12_decode 161 = .ok (.istore_n 3, 1) := mm_dk kX12_decode_2 18 rfl
theorem dX12_decode_162 : decode cX12_decode 162 = .ok (.goto 14, 3) := mm_dk kX12_decode_2 19 rfl
theorem dX12_decode_165 : decode cX12_decode 165 = .ok (.aload_n 0, 1) := mm_dk kX12_decode_2 20 rfl
theorem dX12_decode_166 : decode cX12_decode 166 = .ok (.getfield 7, 3) := mm_dk kX12_decode_2 21 rfl
theorem dX12_decode_169 : decode cX12_decode 169 = .ok (.bipush 7, 2) := mm_dk kX12_decode_2 22 rfl
theorem dX12_decode_171 : decode cX12_decode 171 = .ok (.dup2, 1) := mm_dk kX12_decode_2 23 rfl
theorem dX12_decode_172 : decode cX12_decode 172 = .ok (.iaload, 1) := mm_dk kX12_decode_2 24 rfl
theorem dX12_decode_173 : decode cX12_decode 173 = .ok (.iconst 1, 1) := mm_dk kX12_decode_2 25 rfl
theorem dX12_decode_174 : decode cX12_decode 174 = .ok (.iadd, 1) := mm_dk kX12_decode_2 26 rfl
theorem dX12_decode_175 : decode cX12_decode 175 = .ok (.iastore, 1) := mm_dk kX12_decode_2 27 rfl
theorem dX12_decode_176 : decode cX12_decode 176 = .ok (.aload_n 0, 1) := mm_dk kX12_decode_2 28 rfl
theorem dX12_decode_177 : decode cX12_decode 177 = .ok (.getfield 136, 3) := mm_dk kX12_decode_2 29 rfl
theorem dX12_decode_180 : decode cX12_decode 180 = .ok (.iload_n 1, 1) := mm_dk kX12_decode_2 30 rfl
theorem dX12_decode_181 : decode cX12_decode 181 = .ok (.iload_n 3, 1) := mm_dk kX12_decode_2 31 rfl
theorem dX12_decode_182 : decode cX12_decode 182 = .ok (.iastore, 1) := mm_dk kX12_decode_2 32 rfl
theorem dX12_decode_183 : decode cX12_decode 183 = .ok (.aload_n 0, 1) := mm_dk kX12_decode_2 33 rfl
theorem dX12_decode_184 : decode cX12_decode 184 = .ok (.getfield 121, 3) := mm_dk kX12_decode_2 34 rfl
theorem dX12_decode_187 : decode cX12_decode 187 = .ok (.iload_n 1, 1) := mm_dk kX12_decode_2 35 rfl
theorem dX12_decode_188 : decode cX12_decode 188 = .ok (.iaload, 1) := mm_dk kX12_decode_2 36 rfl
theorem dX12_decode_189 : decode cX12_decode 189 = .ok (.ifCond .le 7, 3) := mm_dk kX12_decode_2 37 rfl
theorem dX12_decode_192 : decode cX12_decode 192 = .ok (.iconst 1, 1) := mm_dk kX12_decode_2 38 rfl
theorem dX12_decode_193 : decode cX12_decode 193 = .ok (.goto 4, 3) := mm_dk kX12_decode_2 39 rfl
set_option maxRecDepth 100000 in
theorem kX12_decode_3 : ([(196, .iconst 0, 1), (197, .istore 5, 2), (199, .iload_n 3, 1), (200, .ifCond .le 40, 3), (203, .aload_n 0, 1), (204, .bipush 30, 2), (206, .iload_n 3, 1), (207, .iadd, 1), (208, .invokevirtual 346, 3), (211, .aload_n 0, 1), (212, .iload_n 1, 1), (213, .iload_n 2, 1), (214, .invokevirtual 428, 3), (217, .aload_n 0, 1), (218, .getfield 121, 3), (221, .iload_n 1, 1), (222, .dup2, 1), (223, .iaload, 1), (224, .iconst 1, 1), (225, .iadd, 1), (226, .iastore, 1), (227, .aload_n 0, 1), (228, .getfield 130, 3), (231, .iload_n 1, 1), (232, .dup2, 1), (233, .iaload, 1), (234, .iconst 1, 1), (235, .iadd, 1), (236, .iastore, 1), (237, .goto 16, 3), (240, .aload_n 0, 1), (241, .iload_n 1, 1), (242, .iload_n 2, 1), (243, .invokevirtual 431, 3), (246, .aload_n 0, 1), (247, .getfield 121, 3), (250, .iload_n 1, 1), (251, .iconst 0, 1), (252, .iastore, 1), (253, .aload_n 0, 1)] : List (Nat × Instr × Nat)).all (fun x => decide (decode cX12_decode x.1 = .ok x.2)) = true := by decide +kernel
theorem dX12_decode_196 : decode cX12_decode 196 = .ok (.iconst 0, 1) := mm_dk kX12_decode_3 0 rfl
theorem dX12_decode_197 : decode cX12_decode 197 = .ok (.istore 5, 2) := mm_dk kX12_decode_3 1 rfl
theorem dX12_decode_199 : decode cX12_decode 199 = .ok (.iload_n 3, 1) := mm_dk kX12_decode_3 2 rfl
theorem dX12_decode_200 : decode cX12_decode 200 = .ok (.ifCond .le 40, 3) := mm_dk kX12_decode_3 3 rfl
theorem dX12_decode_203 : decode cX12_decode 203 = .ok (.aload_n 0, 1) := mm_dk kX12_decode_3 4 rfl
theorem dX12_decode_204 : decode cX12_decode 204 = .ok (.bipush 30, 2) := mm_dk kX12_decode_3 5 rfl
theorem dX12_decode_206 : decode cX12_decode 206 = .ok (.iload_n 3, 1) := mm_dk kX12_decode_3 6 rfl
theorem dX12_decode_207 : decode cX12_decode 207 = .ok (.iadd, 1) := mm_dk kX12_decode_3 7 rfl
theorem dX12_decode_208 : decode cX12_decode 208 = .ok (.invokevirtual 346, 3) := mm_dk kX12_decode_3 8 rfl
theorem dX12_decode_211 : decode cX12_decode 211 = .ok (.aload_n 0, 1) := mm_dk kX12_decode_3 9 rfl
theorem dX12_decode_212 : decode cX12_decode 212 = .ok (.iload_n 1, 1) := mm_dk kX12_decode_3 10 rfl
theorem dX12_decode_213 : decode cX12_decode 213 = .ok (.iload_n 2, 1) := mm_dk kX12_decode_3 11 rfl
theorem dX12_decode_214 : decode cX12_decode 214 = .ok (.invokevirtual 428, 3) := mm_dk kX12_decode_3 12 rfl
theorem dX12_decode_217 : decode cX12_decode 217 = .ok (.aload_n 0, 1) := mm_dk kX12_decode_3 13 rfl
theorem dX12_decode_218 : decode cX12_decode 218 = .ok (.getfield 121, 3) := mm_dk kX12_decode_3 14 rfl
theorem dX12_decode_221 : decode cX12_decode 221 = .ok (.iload_n 1, 1) := mm_dk kX12_decode_3 15 rfl
theorem dX12_decode_222 : decode cX12_decode 222 = .ok (.dup2, 1) := mm_dk kX12_decode_3 16 rfl
theorem dX12_decode_223 : decode cX12_decode 223 = .ok (.iaload, 1) := mm_dk kX12_decode_3 17 rfl
theorem dX12_decode_224 : decode cX12_decode 224 = .ok (.iconst 1, 1) := mm_dk kX12_decode_3 18 rfl
theorem dX12_decode_225 : decode cX12_decode 225 = .ok (.iadd, 1) := mm_dk kX12_decode_3 19 rfl
theorem dX12_decode_226 : decode cX12_decode 226 = .ok (.iastore, 1) := mm_dk kX12_decode_3 20 rfl
theorem dX12_decode_227 : decode cX12_decode 227 = .ok (.aload_n 0, 1) := mm_dk kX12_decode_3 21 rfl
theorem dX12_decode_228 : decode cX12_decode 228 = .ok (.getfield 130, 3) := mm_dk kX12_decode_3 22 rfl
theorem dX12_decode_231 : decode cX12_decode 231 = .ok (.iload_n 1, 1) := mm_dk kX12_decode_3 23 rfl
theorem dX12_decode_232 : decode cX12_decode 232 = .ok (.dup2, 1) := mm_dk kX12_decode_3 24 rfl
theorem dX12_decode_233 : decode cX12_decode 233 = .ok (.iaload, 1) := mm_dk kX12_decode_3 25 rfl
theorem dX12_decode_234 : decode cX12_decode 234 = .ok (.iconst 1, 1) := mm_dk kX12_decode_3 26 rfl
theorem dX12_decode_235 : decode cX12_decode 235 = .ok (.iadd, 1) := mm_dk kX12_decode_3 27 rfl
theorem dX12_decode_236 : decode cX12_decode 236 = .ok (.iastore, 1) := mm_dk kX12_decode_3 28 rfl
theorem dX12_decode_237 : decode cX12_decode 237 = .ok (.goto 16, 3) := mm_dk kX12_decode_3 29 rfl
theorem dX12_decode_240 : decode cX12_decode 240 = .ok (.aload_n 0, 1) := mm_dk kX12_decode_3 30 rfl
theorem dX12_decode_241 : decode cX12_decode 241 = .ok (.iload_n 1, 1) := mm_dk kX12_decode_3 31 rfl
theorem dX12_decode_242 : decode cX12_decode 242 = .ok (.iload_n 2, 1) := mm_dk kX12_decode_3 32 rfl
theorem dX12_decode_243 : decode cX12_decode 243 = .ok (.invokevirtual 431, 3) := mm_dk kX12_decode_3 33 rfl
theorem dX12_decode_246 : decode cX12_decode 246 = .ok (.aload_n 0, 1) := mm_dk kX12_decode_3 34 rfl
theorem dX12_decode_247 : decode cX12_decode 247 = .ok (.getfield 121, 3) := mm_dk kX12_decode_3 35 rfl
theorem dX12_decode_250 : decode cX12_decode 250 = .ok (.iload_n 1, 1) := mm_dk kX12_decode_3 36 rfl
theorem dX12_decode_251 : decode cX12_decode 251 = .ok (.iconst 0, 1) := mm_dk kX12_decode_3 37 rfl
theorem dX12_decode_252 : decode cX12_decode 252 = .ok (.iastore, 1) := mm_dk kX12_decode_3 38 rfl
theorem dX12_decode_253 : decode cX12_decode 253 = .ok (.aload_n 0, 1) := mm_dk kX12_decode_3 39 rfl
set_option maxRecDepth 100000 in
theorem kX12_decode_4 : ([(254, .getfield 112, 3), (257, .iload_n 1, 1), (258, .iaload, 1), (259, .ifCond .ne 9, 3), (262, .sipush 160, 3), (265, .goto 6, 3), (268, .sipush 320, 3), (271, .istore 6, 2), (273, .iconst 0, 1), (274, .istore 7, 2), (276, .iload 7, 2), (278, .iconst 4, 1), (279, .if_icmp .ge 22, 3), (282, .aload_n 0, 1), (283, .iload_n 1, 1), (284, .iconst 4, 1), (285, .iload_n 1, 1), (286, .imul, 1), (287, .iload 7, 2), (289, .iadd, 1), (290, .iload 6, 2), (292, .invokevirtual 434, 3), (295, .iinc 7 1, 3), (298, .goto (-22), 3), (301, .iload_n 3, 1), (302, .ifCond .gt 8, 3), (305, .iload 5, 2), (307, .ifCond .eq 16, 3), (310, .aload_n 0, 1), (311, .bipush 60, 2), (313, .invokevirtual 346, 3), (316, .aload_n 0, 1), (317, .iload_n 1, 1), (318, .iload 6, 2), (320, .invokevirtual 437, 3), (323, .aload_n 0, 1), (324, .iload_n 1, 1), (325, .iload 6, 2), (327, .invokevirtual 440, 3), (330, .istore 6, 2)] : List (Nat × Instr × Nat)).all (fun x => decide (decode cX12_decode x.1 = .ok x.2)) = true := by decide +kernel
theorem dX12_decode_254 : decode cX12_decode 254 = .ok (.getfield 112, 3) := mm_dk kX12_decode_4 0 rfl
theorem dX12_decode_257 : decode cX12_decode 257 = .ok (.iload_n 1, 1) := mm_dk kX12_decode_4 1 rfl
theorem dX12_decode_258 : decode cX12_decode 258 = .ok (.iaload, 1) := mm_dk kX12_decode_4 2 rfl
theorem dX12_decode_259 : decode cX12_decode 259 = .ok (.ifCond .ne 9, 3) := mm_dk kX12_decode_4 3 rfl
theorem dX12_decode_262 : decode cX12_decode 262 = .ok (.sipush 160, 3) := mm_dk kX12_decode_4 4 rfl
theorem dX12_decode_265 : decode cX12_decode 265 = .ok (.goto 6, 3) := mm_dk kX12_decode_4 5 rfl
theorem dX12_decode_268 : decode cX12_decode 268 = .ok (.sipush 320, 3) := mm_dk kX12_decode_4 6 rfl
theorem dX12_decode_271 : decode cX12_decode 271 = .ok (.istore 6, 2) := mm_dk kX12_decode_4 7 rfl
theorem dX12_decode_273 : decode cX12_decode 273 = .ok (.iconst 0, 1) := mm_dk kX12_decode_4 8 rfl
theorem dX12_decode_274 : decode cX12_decode 274 = .ok (.istore 7, 2) := mm_dk kX12_decode_4 9 rfl
theorem dX12_decode_276 : decode cX12_decode 276 = .ok (.iload 7, 2) := mm_dk kX12_decode_4 10 rfl
theorem dX12_decode_278 : decode cX12_decode 278 = .ok (.iconst 4, 1) := mm_dk kX12_decode_4 11 rfl
theorem dX12_decode_279 : decode cX12_decode 279 = .ok (.if_icmp .ge 22, 3) := mm_dk kX12_decode_4 12 rfl
theorem dX12_decode_282 : decode cX12_decode 282 = .ok (.aload_n 0, 1) := mm_dk kX12_decode_4 13 rfl
theorem dX12_decode_283 : decode cX12_decode 283 = .ok (.iload_n 1, 1) := mm_dk kX12_decode_4 14 rfl
theorem dX12_decode_284 : decode cX12_decode 284 = .ok (.iconst 4, 1) := mm_dk kX12_decode_4 15 rfl
theorem dX12_decode_285 : decode cX12_decode 285 = .ok (.iload_n 1, 1) := mm_dk kX12_decode_4 16 rfl
theorem dX12_decode_286 : decode cX12_decode 286 = .ok (.imul, 1) := mm_dk kX12_decode_4 17 rfl
theorem dX12_decode_287 : decode cX12_decode 287 = .ok (.iload 7, 2) := mm_dk kX12_decode_4 18 rfl
theorem dX12_decode_289 : decode cX12_decode 289 = .ok (.iadd, 1) := mm_dk kX12_decode_4 19 rfl
theorem dX12_decode_290 : decode cX12_decode 290 = .ok (.iload 6, 2) := mm_dk kX12_decode_4 20 rfl
theorem dX12_decode_292 : decode cX12_decode 292 = .ok (.invokevirtual 434, 3) := mm_dk kX12_decode_4 21 rfl
theorem dX12_decode_295 : decode cX12_decode 295 = .ok (.iinc 7 1, 3) := mm_dk kX12_decode_4 22 rfl
theorem dX12_decode_298 : decode cX12_decode 298 = .ok (.goto (-22), 3) := mm_dk kX12_decode_4 23 rfl
theorem dX12_decode_301 : decode cX12_decode 301 = .ok (.iload_n 3, 1) := mm_dk kX12_decode_4 24 rfl
theorem dX12_decode_302 : decode cX12_decode 302 = .ok (.ifCond .gt 8, 3) := mm_dk kX12_decode_4 25 rfl
theorem dX12_decode_305 : decode cX12_decode 305 = .ok (.iload 5, 2) := mm_dk kX12_decode_4 26 rfl
theorem dX12_decode_307 : decode cX12_decode 307 = .ok (.ifCond .eq 16, 3) := mm_dk kX12_decode_4 27 rfl
theorem dX12_decode_310 : decode cX12_decode 310 = .ok (.aload_n 0, 1) := mm_dk kX12_decode_4 28 rfl
theorem dX12_decode_311 : decode cX12_decode 311 = .ok (.bipush 60, 2) := mm_dk kX12_decode_4 29 rfl
theorem dX12_decode_313 : decode cX12_decode 313 = .ok (.invokevirtual 346, 3) := mm_dk kX12_decode_4 30 rfl
theorem dX12_decode_316 : decode cX12_decode 316 = .ok (.aload_n 0, 1) := mm_dk kX12_decode_4 31 rfl
theorem dX12_decode_317 : decode cX12_decode 317 = .ok (.iload_n 1, 1) := mm_dk kX12_decode_4 32 rfl
theorem dX12_decode_318 : decode cX12_decode 318 = .ok (.iload 6, 2) := mm_dk kX12_decode_4 33 rfl
theorem dX12_decode_320 : decode cX12_decode 320 = .ok (.invokevirtual 437, 3) := mm_dk kX12_decode_4 34 rfl
theorem dX12_decode_323 : decode cX12_decode 323 = .ok (.aload_n 0, 1) := mm_dk kX12_decode_4 35 rfl
theorem dX12_decode_324 : decode cX12_decode 324 = .ok (.iload_n 1, 1) := mm_dk kX12_decode_4 36 rfl
theorem dX12_decode_325 : decode cX12_decode 325 = .ok (.iload 6, 2) := mm_dk kX12_decode_4 37 rfl
theorem dX12_decode_327 : decode cX12_decode 327 = .ok (.invokevirtual 440, 3) := mm_dk kX12_decode_4 38 rfl
theorem dX12_decode_330 : decode cX12_decode 330 = .ok (.istore 6, 2) := mm_dk kX12_decode_4 39 rfl
set_option maxRecDepth 100000 in
theorem kX12_decode_5 : ([(332, .iconst 0, 1), (333, .istore 7, 2), (335, .iload 7, 2), (337, .iload 6, 2), (339, .if_icmp .ge 29, 3), (342, .aload_n 0, 1), (343, .getfield 145, 3), (346, .sipush 322, 3), (349, .iload_n 1, 1), (350, .imul, 1), (351, .iload 7, 2), (353, .iadd, 1), (354, .aload_n 0, 1), (355, .getfield 172, 3), (358, .iload 7, 2), (360, .iaload, 1), (361, .iastore, 1), (362, .iinc 7 1, 3), (365, .goto (-30), 3), (368, .aload_n 0, 1), (369, .getfield 142, 3), (372, .iload_n 1, 1), (373, .iload 6, 2), (375, .iastore, 1), (376, .aload_n 0, 1), (377, .getfield 118, 3), (380, .iload_n 1, 1), (381, .iload_n 2, 1), (382, .iconst 1, 1), (383, .iadd, 1), (384, .ldc 243, 2), (386, .iand, 1), (387, .iastore, 1), (388, .aload_n 0, 1), (389, .getfield 124, 3), (392, .iload_n 1, 1), (393, .dup2, 1), (394, .iaload, 1), (395, .iconst 1, 1), (396, .iadd, 1)] : List (Nat × Instr × Nat)).all (fun x => decide (decode cX12_decode x.1 = .ok x.2)) = true := by decide +kernel
theorem dX12_decode_332 : decode cX12_decode 332 = .ok (.iconst 0, 1) := mm_dk kX12_decode_5 0 rfl
theorem dX12_decode_333 : decode cX12_decode 333 = .ok (.istore 7, 2) := mm_dk kX12_decode_5 1 rfl
theorem dX12_decode_335 : decode cX12_decode 335 = .ok (.iload 7, 2) := mm_dk kX12_decode_5 2 rfl
theorem dX12_decode_337 : decode cX12_decode 337 = .ok (.iload 6, 2) := mm_dk kX12_decode_5 3 rfl
theorem dX12_decode_339 : decode cX12_decode 339 = .ok (.if_icmp .ge 29, 3) := mm_dk kX12_decode_5 4 rfl
theorem dX12_decode_342 : decode cX12_decode 342 = .ok (.aload_n 0, 1) := mm_dk kX12_decode_5 5 rfl
theorem dX12_decode_343 : decode cX12_decode 343 = .ok (.getfield 145, 3) := mm_dk kX12_decode_5 6 rfl
theorem dX12_decode_346 : decode cX12_decode 346 = .ok (.sipush 322, 3) := mm_dk kX12_decode_5 7 rfl
theorem dX12_decode_349 : decode cX12_decode 349 = .ok (.iload_n 1, 1) := mm_dk kX12_decode_5 8 rfl
theorem dX12_decode_350 : decode cX12_decode 350 = .ok (.imul, 1) := mm_dk kX12_decode_5 9 rfl
theorem dX12_decode_351 : decode cX12_decode 351 = .ok (.iload 7, 2) := mm_dk kX12_decode_5 10 rfl
theorem dX12_decode_353 : decode cX12_decode 353 = .ok (.iadd, 1) := mm_dk kX12_decode_5 11 rfl
theorem dX12_decode_354 : decode cX12_decode 354 = .ok (.aload_n 0, 1) := mm_dk kX12_decode_5 12 rfl
theorem dX12_decode_355 : decode cX12_decode 355 = .ok (.getfield 172, 3) := mm_dk kX12_decode_5 13 rfl
theorem dX12_decode_358 : decode cX12_decode 358 = .ok (.iload 7, 2) := mm_dk kX12_decode_5 14 rfl
theorem dX12_decode_360 : decode cX12_decode 360 = .ok (.iaload, 1) := mm_dk kX12_decode_5 15 rfl
theorem dX12_decode_361 : decode cX12_decode 361 = .ok (.iastore, 1) := mm_dk kX12_decode_5 16 rfl
theorem dX12_decode_362 : decode cX12_decode 362 = .ok (.iinc 7 1, 3) := mm_dk kX12_decode_5 17 rfl
theorem dX12_decode_365 : decode cX12_decode 365 = .ok (.goto (-30), 3) := mm_dk kX12_decode_5 18 rfl
theorem dX12_decode_368 : decode cX12_decode 368 = .ok (.aload_n 0, 1) := mm_dk kX12_decode_5 19 rfl
theorem dX12_decode_369 : decode cX12_decode 369 = .ok (.getfield 142, 3) := mm_dk kX12_decode_5 20 rfl
theorem dX12_decode_372 : decode cX12_decode 372 = .ok (.iload_n 1, 1) := mm_dk kX12_decode_5 21 rfl
theorem dX12_decode_373 : decode cX12_decode 373 = .ok (.iload 6, 2) := mm_dk kX12_decode_5 22 rfl
theorem dX12_decode_375 : decode cX12_decode 375 = .ok (.iastore, 1) := mm_dk kX12_decode_5 23 rfl
theorem dX12_decode_376 : decode cX12_decode 376 = .ok (.aload_n 0, 1) := mm_dk kX12_decode_5 24 rfl
theorem dX12_decode_377 : decode cX12_decode 377 = .ok (.getfield 118, 3) := mm_dk kX12_decode_5 25 rfl
theorem dX12_decode_380 : decode cX12_decode 380 = .ok (.iload_n 1, 1) := mm_dk kX12_decode_5 26 rfl
theorem dX12_decode_381 : decode cX12_decode 381 = .ok (.iload_n 2, 1) := mm_dk kX12_decode_5 27 rfl
theorem dX12_decode_382 : decode cX12_decode 382 = .ok (.iconst 1, 1) := mm_dk kX12_decode_5 28 rfl
theorem dX12_decode_383 : decode cX12_decode 383 = .ok (.iadd, 1) := mm_dk kX12_decode_5 29 rfl
theorem dX12_decode_384 : decode cX12_decode 384 = .ok (.ldc 243, 2) := mm_dk kX12_decode_5 30 rfl
theorem dX12_decode_386 : decode cX12_decode 386 = .ok (.iand, 1) := mm_dk kX12_decode_5 31 rfl
theorem dX12_decode_387 : decode cX12_decode 387 = .ok (.iastore, 1) := mm_dk kX12_decode_5 32 rfl
theorem dX12_decode_388 : decode cX12_decode 388 = .ok (.aload_n 0, 1) := mm_dk kX12_decode_5 33 rfl
theorem dX12_decode_389 : decode cX12_decode 389 = .ok (.getfield 124, 3) := mm_dk kX12_decode_5 34 rfl
theorem dX12_decode_392 : decode cX12_decode 392 = .ok (.iload_n 1, 1) := mm_dk kX12_decode_5 35 rfl
theorem dX12_decode_393 : decode cX12_decode 393 = .ok (.dup2, 1) := mm_dk kX12_decode_5 36 rfl
theorem dX12_decode_394 : decode cX12_decode 394 = .ok (.iaload, 1) := mm_dk kX12_decode_5 37 rfl
theorem dX12_decode_395 : decode cX12_decode 395 = .ok (.iconst 1, 1) := mm_dk kX12_decode_5 38 rfl
theorem dX12_decode_396 : decode cX12_decode 396 = .ok (.iadd, 1) := mm_dk kX12_decode_5 39 rfl
set_option maxRecDepth 100000 in
theorem kX12_decode_6 : ([(397, .iastore, 1), (398, .aload_n 0, 1), (399, .iload 6, 2), (401, .invokevirtual 235, 3), (404, .ireturn, 1)] : List (Nat × Instr × Nat)).all (fun x => decide (decode cX12_decode x.1 = .ok x.2)) = true := by decide +kernel
theorem dX12_decode_397 : decode cX12_decode 397 = .ok (.iastore, 1) := mm_dk kX12_decode_6 0 rfl
theorem dX12_decode_398 : decode cX12_decode 398 = .ok (.aload_n 0, 1) := mm_dk kX12_decode_6 1 rfl
theorem dX12_decode_399 : decode cX12_decode 399 = .ok (.iload 6, 2) := mm_dk kX12_decode_6 2 rfl
theorem dX12_decode_401 : decode cX12_decode 401 = .ok (.invokevirtual 235, 3) := mm_dk kX12_decode_6 3 rfl
theorem dX12_decode_404 : decode cX12_decode 404 = .ok (.ireturn, 1) := mm_dk kX12_decode_6 4 rfl
set_option maxRecDepth 100000 in
theorem kX12_play_0 : ([(0, .iconst 2, 1), (1, .iload_n 1, 1), (2, .imul, 1), (3, .iconst 1, 1), (4, .iadd, 1), (5, .istore_n 3, 1), (6, .aload_n 0, 1), (7, .getfield 112, 3), (10, .iload_n 1, 1), (11, .aload_n 0, 1), (12, .getfield 109, 3), (15, .bipush 64, 2), (17, .aload_n 0, 1), (18, .getfield 405, 3), (21, .imul, 1), (22, .iconst 1, 1), (23, .iadd, 1), (24, .iaload, 1), (25, .iconst 1, 1), (26, .iand, 1), (27, .iastore, 1), (28, .aload_n 0, 1), (29, .getfield 112, 3), (32, .iload_n 1, 1), (33, .iaload, 1), (34, .ifCond .ne 8, 3), (37, .bipush 40, 2), (39, .goto 5, 3), (42, .bipush 80, 2), (44, .istore 4, 2), (46, .aload_n 0, 1), (47, .invokevirtual 414, 3), (50, .ifCond .ne 47, 3), (53, .aload_n 0, 1), (54, .getfield 139, 3), (57, .iload_n 1, 1), (58, .iconst 1, 1), (59, .iastore, 1), (60, .aload_n 0, 1), (61, .bipush 41, 2)] : List (Nat × Instr × Nat)).all (fun x => decide (decode cX12_play x.1 = .ok x.2)) = true := by decide +kernel
theorem dX12_play_0 : decode cX12_play 0 = .ok (.iconst 2, 1) := mm_dk kX12_play_0 0 rfl
theorem dX12_play_1 : decode cX12_play 1 = .ok (.iload_n 1, 1) := mm_dk kX12_play_0 1 rfl
theorem dX12_play_2 : decode cX12_play 2 = .ok (.imul, 1) := mm_dk kX12_play_0 2 rfl
theorem dX12_play_3 : decode cX12_play 3 = .ok (.iconst 1, 1) := mm_dk kX12_play_0 3 rfl
theorem dX12_play_4 : decode cX12_play 4 = .ok (.iadd, 1) := mm_dk kX12_play_0 4 rfl
theorem dX12_play_5 : decode cX12_play 5 = .ok (.istore_n 3, 1) := mm_dk kX12_play_0 5 rfl
theorem dX12_play_6 : decode cX12_play 6 = .ok (.aload_n 0, 1) := mm_dk kX12_play_0 6 rfl
theorem dX12_play_7 : decode cX12_play 7 = .ok (.getfield 112, 3) := mm_dk kX12_play_0 7 rfl
theorem dX12_play_10 : decode cX12_play 10 = .ok (.iload_n 1, 1) := mm_dk kX12_play_0 8 rfl
theorem dX12_play_11 : decode cX12_play 11 = .ok (.aload_n 0, 1) := mm_dk kX12_play_0 9 rfl
theorem dX12_play_12 : decode cX12_play 12 = .ok (.getfield 109, 3) := mm_dk kX12_play_0 10 rfl
theorem dX12_play_15 : decode cX12_play 15 = .ok (.bipush 64, 2) := mm_dk kX12_play_0 11 rfl
theorem dX12_play_17 : decode cX12_play 17 = .ok (.aload_n 0, 1) := mm_dk kX12_play_0 12 rfl
theorem dX12_play_18 : decode cX12_play 18 = .ok (.getfield 405, 3) := mm_dk kX12_play_0 13 rfl
theorem dX12_play_21 : decode cX12_play 21 = .ok (.imul, 1) := mm_dk kX12_play_0 14 rfl
theorem dX12_play_22 : decode cX12_play 22 = .ok (.iconst 1, 1) := mm_dk kX12_play_0 15 rfl
theorem dX12_play_23 : decode cX12_play 23 = .ok (.iadd, 1) := mm_dk kX12_play_0 16 rfl
theorem dX12_play_24 : decode cX12_play 24 = .ok (.iaload, 1) := mm_dk kX12_play_0 17 rfl
theorem dX12_play_25 : decode cX12_play 25 = .ok (.iconst 1, 1) := mm_dk kX12_play_0 18 rfl
theorem dX12_play_26 : decode cX12_play 26 = .ok (.iand, 1) := mm_dk kX12_play_0 19 rfl
theorem dX12_play_27 : decode cX12_play 27 = .ok (.iastore, 1) := mm_dk kX12_play_0 20 rfl
theorem dX12_play_28 : decode cX12_play 28 = .ok (.aload_n 0, 1) := mm_dk kX12_play_0 21 rfl
theorem dX12_play_29 : decode cX12_play 29 = .ok (.getfield 112, 3) := mm_dk kX12_play_0 22 rfl
theorem dX12_play_32 : decode cX12_play 32 = .ok (.iload_n 1, 1) := mm_dk kX12_play_0 23 rfl
theorem dX12_play_33 : decode cX12_play 33 = .ok (.iaload, 1) := mm_dk kX12_play_0 24 rfl
theorem dX12_play_34 : decode cX12_play 34 = .ok (.ifCond .ne 8, 3) := mm_dk kX12_play_0 25 rfl
theorem dX12_play_37 : decode cX12_play 37 = .ok (.bipush 40, 2) := mm_dk kX12_play_0 26 rfl
theorem dX12_play_39 : decode cX12_play 39 = .ok (.goto 5, 3) := mm_dk kX12_play_0 27 rfl
theorem dX12_play_42 : decode cX12_play 42 = .ok (.bipush 80, 2) := mm_dk kX12_play_0 28 rfl
theorem dX12_play_44 : decode cX12_play 44 = .ok (.istore 4, 2) := mm_dk kX12_play_0 29 rfl
theorem dX12_play_46 : decode cX12_play 46 = .ok (.aload_n 0, 1) := mm_dk kX12_play_0 30 rfl
theorem dX12_play_47 : decode cX12_play 47 = .ok (.invokevirtual 414, 3) := mm_dk kX12_play_0 31 rfl
theorem dX12_play_50 : decode cX12_play 50 = .ok (.ifCond .ne 47, 3) := mm_dk kX12_play_0 32 rfl
theorem dX12_play_53 : decode cX12_play 53 = .ok (.aload_n 0, 1) := mm_dk kX12_play_0 33 rfl
theorem dX12_play_54 : decode cX12_play 54 = .ok (.getfield 139, 3) := mm_dk kX12_play_0 34 rfl
theorem dX12_play_57 : decode cX12_play 57 = .ok (.iload_n 1, 1) := mm_dk kX12_play_0 35 rfl
theorem dX12_play_58 : decode cX12_play 58 = .ok (.iconst 1, 1) := mm_dk kX12_play_0 36 rfl
theorem dX12_play_59 : decode cX12_play 59 = .ok (.iastore, 1) := mm_dk kX12_play_0 37 rfl
theorem dX12_play_60 : decode cX12_play 60 = .ok (.aload_n 0, 1) := mm_dk kX12_play_0 38 rfl
theorem dX12_play_61 : decode cX12_play 61 = .ok (.bipush 41, 2) := mm_dk kX12_play_0 39 rfl
set_option maxRecDepth 100000 in
theorem kX12_play_1 : ([(63, .invokevirtual 346, 3), (66, .aload_n 0, 1), (67, .getfield 115, 3), (70, .iload_n 1, 1), (71, .iconst 0, 1), (72, .iastore, 1), (73, .aload_n 0, 1), (74, .iload_n 3, 1), (75, .iload_n 2, 1), (76, .sipush 256, 3), (79, .aload_n 0, 1), (80, .iconst 0, 1), (81, .invokevirtual 443, 3), (84, .imul, 1), (85, .aload_n 0, 1), (86, .iconst 1, 1), (87, .invokevirtual 443, 3), (90, .iadd, 1), (91, .iload 4, 2), (93, .invokevirtual 356, 3), (96, .return_, 1), (97, .aload_n 0, 1), (98, .getfield 139, 3), (101, .iload_n 1, 1), (102, .iconst 0, 1), (103, .iastore, 1), (104, .aload_n 0, 1), (105, .bipush 40, 2), (107, .invokevirtual 346, 3), (110, .iconst 0, 1), (111, .istore 5, 2), (113, .iload 5, 2), (115, .bipush 8, 2), (117, .if_icmp .ge 49, 3), (120, .aload_n 0, 1), (121, .iload 5, 2), (123, .invokevirtual 443, 3), (126, .bipush 63, 2), (128, .iand, 1), (129, .bipush 32, 2)] : List (Nat × Instr × Nat)).all (fun x => decide (decode cX12_play x.1 = .ok x.2)) = true := by decide +kernel
theorem dX12_play_63 : decode cX12_play 63 = .ok (.invokevirtual 346, 3) := mm_dk kX12_play_1 0 rfl
theorem dX12_play_66 : decode cX12_play 66 = .ok (.aload_n 0, 1) := mm_dk kX12_play_1 1 rfl
theorem dX12_play_67 : decode cX12_play 67 = .ok (.getfield 115, 3) := mm_dk kX12_play_1 2 rfl
theorem dX12_play_70 : decode cX12_play 70 = .ok (.iload_n 1, 1) := mm_dk kX12_play_1 3 rfl
theorem dX12_play_71 : decode cX12_play 71 = .ok (.iconst 0, 1) := mm_dk kX12_play_1 4 rfl
theorem dX12_play_72 : decode cX12_play 72 = .ok (.iastore, 1) := mm_dk kX12_play_1 5 rfl
theorem dX12_play_73 : decode cX12_play 73 = .ok (.aload_n 0, 1) := mm_dk kX12_play_1 6 rfl
theorem dX12_play_74 : decode cX12_play 74 = .ok (.iload_n 3, 1) := mm_dk kX12_play_1 7 rfl
theorem dX12_play_75 : decode cX12_play 75 = .ok (.iload_n 2, 1) := mm_dk kX12_play_1 8 rfl
theorem dX12_play_76 : decode cX12_play 76 = .ok (.sipush 256, 3) := mm_dk kX12_play_1 9 rfl
theorem dX12_play_79 : decode cX12_play 79 = .ok (.aload_n 0, 1) := mm_dk kX12_play_1 10 rfl
theorem dX12_play_80 : decode cX12_play 80 = .ok (.iconst 0, 1) := mm_dk kX12_play_1 11 rfl
theorem dX12_play_81 : decode cX12_play 81 = .ok (.invokevirtual 443, 3) := mm_dk kX12_play_1 12 rfl
theorem dX12_play_84 : decode cX12_play 84 = .ok (.imul, 1) := mm_dk kX12_play_1 13 rfl
theorem dX12_play_85 : decode cX12_play 85 = .ok (.aload_n 0, 1) := mm_dk kX12_play_1 14 rfl
theorem dX12_play_86 : decode cX12_play 86 = .ok (.iconst 1, 1) := mm_dk kX12_play_1 15 rfl
theorem dX12_play_87 : decode cX12_play 87 = .ok (.invokevirtual 443, 3) := mm_dk kX12_play_1 16 rfl
theorem dX12_play_90 : decode cX12_play 90 = .ok (.iadd, 1) := mm_dk kX12_play_1 17 rfl
theorem dX12_play_91 : decode cX12_play 91 = .ok (.iload 4, 2) := mm_dk kX12_play_1 18 rfl
theorem dX12_play_93 : decode cX12_play 93 = .ok (.invokevirtual 356, 3) := mm_dk kX12_play_1 19 rfl
theorem dX12_play_96 : decode cX12_play 96 = .ok (.return_, 1) := mm_dk kX12_play_1 20 rfl
theorem dX12_play_97 : decode cX12_play 97 = .ok (.aload_n 0, 1) := mm_dk kX12_play_1 21 rfl
theorem dX12_play_98 : decode cX12_play 98 = .ok (.getfield 139, 3) := mm_dk kX12_play_1 22 rfl
theorem dX12_play_101 : decode cX12_play 101 = .ok (.iload_n 1, 1) := mm_dk kX12_play_1 23 rfl
theorem dX12_play_102 : decode cX12_play 102 = .ok (.iconst 0, 1) := mm_dk kX12_play_1 24 rfl
theorem dX12_play_103 : decode cX12_play 103 = .ok (.iastore, 1) := mm_dk kX12_play_1 25 rfl
theorem dX12_play_104 : decode cX12_play 104 = .ok (.aload_n 0, 1) := mm_dk kX12_play_1 26 rfl
theorem dX12_play_105 : decode cX12_play 105 = .ok (.bipush 40, 2) := mm_dk kX12_play_1 27 rfl
theorem dX12_play_107 : decode cX12_play 107 = .ok (.invokevirtual 346, 3) := mm_dk kX12_play_1 28 rfl
theorem dX12_play_110 : decode cX12_play 110 = .ok (.iconst 0, 1) := mm_dk kX12_play_1 29 rfl
theorem dX12_play_111 : decode cX12_play 111 = .ok (.istore 5, 2) := mm_dk kX12_play_1 30 rfl
theorem dX12_play_113 : decode cX12_play 113 = .ok (.iload 5, 2) := mm_dk kX12_play_1 31 rfl
theorem dX12_play_115 : decode cX12_play 115 = .ok (.bipush 8, 2) := mm_dk kX12_play_1 32 rfl
theorem dX12_play_117 : decode cX12_play 117 = .ok (.if_icmp .ge 49, 3) := mm_dk kX12_play_1 33 rfl
theorem dX12_play_120 : decode cX12_play 120 = .ok (.aload_n 0, 1) := mm_dk kX12_play_1 34 rfl
theorem dX12_play_121 : decode cX12_play 121 = .ok (.iload 5, 2) := mm_dk kX12_play_1 35 rfl
theorem dX12_play_123 : decode cX12_play 123 = .ok (.invokevirtual 443, 3) := mm_dk kX12_play_1 36 rfl
theorem dX12_play_126 : decode cX12_play 126 = .ok (.bipush 63, 2) := mm_dk kX12_play_1 37 rfl
theorem dX12_play_128 : decode cX12_play 128 = .ok (.iand, 1) := mm_dk kX12_play_1 38 rfl
theorem dX12_play_129 : decode cX12_play 129 = .ok (.bipush 32, 2) := mm_dk kX12_play_1 39 rfl
set_option maxRecDepth 100000 in
theorem kX12_play_2 : ([(131, .isub, 1), (132, .istore 6, 2), (134, .aload_n 0, 1), (135, .getfield 59, 3), (138, .bipush 8, 2), (140, .iload_n 3, 1), (141, .imul, 1), (142, .iload 5, 2), (144, .iadd, 1), (145, .iload 6, 2), (147, .bipush (-31), 2), (149, .if_icmp .ge 8, 3), (152, .bipush (-31), 2), (154, .goto 5, 3), (157, .iload 6, 2), (159, .iastore, 1), (160, .iinc 5 1, 3), (163, .goto (-50), 3), (166, .iconst 0, 1), (167, .istore 5, 2), (169, .iload 5, 2), (171, .iconst 4, 1), (172, .if_icmp .ge 171, 3), (175, .bipush 8, 2), (177, .iconst 5, 1), (178, .iload 5, 2), (180, .imul, 1), (181, .iadd, 1), (182, .istore 6, 2), (184, .bipush 20, 2), (186, .aload_n 0, 1), (187, .iload 6, 2), (189, .invokevirtual 443, 3), (192, .bipush 127, 2), (194, .iand, 1), (195, .iadd, 1), (196, .istore 7, 2), (198, .iconst 2, 1), (199, .aload_n 0, 1), (200, .iload 6, 2)] : List (Nat × Instr × Nat)).all (fun x => decide (decode cX12_play x.1 = .ok x.2)) = true := by decide +kernel
theorem dX12_play_131 : decode cX12_play 131 = .ok (.isub, 1) := mm_dk kX12_play_2 0 rfl
theorem dX12_play_132 : decode cX12_play 132 = .ok (.istore 6, 2) := mm_dk kX12_play_2 1 rfl
theorem dX12_play_134 : decode cX12_play 134 = .ok (.aload_n 0, 1) := mm_dk kX12_play_2 2 rfl
theorem dX12_play_135 : decode cX12_play 135 = .ok (.getfield 59, 3) := mm_dk kX12_play_2 3 rfl
theorem dX12_play_138 : decode cX12_play 138 = .ok (.bipush 8, 2) := mm_dk kX12_play_2 4 rfl
theorem dX12_play_140 : decode cX12_play 140 = .ok (.iload_n 3, 1) := mm_dk kX12_play_2 5 rfl
theorem dX12_play_141 : decode cX12_play 141 = .ok (.imul, 1) := mm_dk kX12_play_2 6 rfl
theorem dX12_play_142 : decode cX12_play 142 = .ok (.iload 5, 2) := mm_dk kX12_play_2 7 rfl
theorem dX12_play_144 : decode cX12_play 144 = .ok (.iadd, 1) := mm_dk kX12_play_2 8 rfl
theorem dX12_play_145 : decode cX12_play 145 = .ok (.iload 6, 2) := mm_dk kX12_play_2 9 rfl
theorem dX12_play_147 : decode cX12_play 147 = .ok (.bipush (-31), 2) := mm_dk kX12_play_2 10 rfl
theorem dX12_play_149 : decode cX12_play 149 = .ok (.if_icmp .ge 8, 3) := mm_dk kX12_play_2 11 rfl
theorem dX12_play_152 : decode cX12_play 152 = .ok (.bipush (-31), 2) := mm_dk kX12_play_2 12 rfl
theorem dX12_play_154 : decode cX12_play 154 = .ok (.goto 5, 3) := mm_dk kX12_play_2 13 rfl
theorem dX12_play_157 : decode cX12_play 157 = .ok (.iload 6, 2) := mm_dk kX12_play_2 14 rfl
theorem dX12_play_159 : decode cX12_play 159 = .ok (.iastore, 1) := mm_dk kX12_play_2 15 rfl
theorem dX12_play_160 : decode cX12_play 160 = .ok (.iinc 5 1, 3) := mm_dk kX12_play_2 16 rfl
theorem dX12_play_163 : decode cX12_play 163 = .ok (.goto (-50), 3) := mm_dk kX12_play_2 17 rfl
theorem dX12_play_166 : decode cX12_play 166 = .ok (.iconst 0, 1) := mm_dk kX12_play_2 18 rfl
theorem dX12_play_167 : decode cX12_play 167 = .ok (.istore 5, 2) := mm_dk kX12_play_2 19 rfl
theorem dX12_play_169 : decode cX12_play 169 = .ok (.iload 5, 2) := mm_dk kX12_play_2 20 rfl
theorem dX12_play_171 : decode cX12_play 171 = .ok (.iconst 4, 1) := mm_dk kX12_play_2 21 rfl
theorem dX12_play_172 : decode cX12_play 172 = .ok (.if_icmp .ge 171, 3) := mm_dk kX12_play_2 22 rfl
theorem dX12_play_175 : decode cX12_play 175 = .ok (.bipush 8, 2) := mm_dk kX12_play_2 23 rfl
theorem dX12_play_177 : decode cX12_play 177 = .ok (.iconst 5, 1) := mm_dk kX12_play_2 24 rfl
theorem dX12_play_178 : decode cX12_play 178 = .ok (.iload 5, 2) := mm_dk kX12_play_2 25 rfl
theorem dX12_play_180 : decode cX12_play 180 = .ok (.imul, 1) := mm_dk kX12_play_2 26 rfl
theorem dX12_play_181 : decode cX12_play 181 = .ok (.iadd, 1) := mm_dk kX12_play_2 27 rfl
theorem dX12_play_182 : decode cX12_play 182 = .ok (.istore 6, 2) := mm_dk kX12_play_2 28 rfl
theorem dX12_play_184 : decode cX12_play 184 = .ok (.bipush 20, 2) := mm_dk kX12_play_2 29 rfl
theorem dX12_play_186 : decode cX12_play 186 = .ok (.aload_n 0, 1) := mm_dk kX12_play_2 30 rfl
theorem dX12_play_187 : decode cX12_play 187 = .ok (.iload 6, 2) := mm_dk kX12_play_2 31 rfl
theorem dX12_play_189 : decode cX12_play 189 = .ok (.invokevirtual 443, 3) := mm_dk kX12_play_2 32 rfl
theorem dX12_play_192 : decode cX12_play 192 = .ok (.bipush 127, 2) := mm_dk kX12_play_2 33 rfl
theorem dX12_play_194 : decode cX12_play 194 = .ok (.iand, 1) := mm_dk kX12_play_2 34 rfl
theorem dX12_play_195 : decode cX12_play 195 = .ok (.iadd, 1) := mm_dk kX12_play_2 35 rfl
theorem dX12_play_196 : decode cX12_play 196 = .ok (.istore 7, 2) := mm_dk kX12_play_2 36 rfl
theorem dX12_play_198 : decode cX12_play 198 = .ok (.iconst 2, 1) := mm_dk kX12_play_2 37 rfl
theorem dX12_play_199 : decode cX12_play 199 = .ok (.aload_n 0, 1) := mm_dk kX12_play_2 38 rfl
theorem dX12_play_200 : decode cX12_play 200 = .ok (.iload 6, 2) := mm_dk kX12_play_2 39 rfl
set_option maxRecDepth 100000 in
theorem kX12_play_3 : ([(202, .iconst 2, 1), (203, .iadd, 1), (204, .invokevirtual 443, 3), (207, .iconst 2, 1), (208, .idiv, 1), (209, .iload 4, 2), (211, .iconst 2, 1), (212, .idiv, 1), (213, .irem, 1), (214, .imul, 1), (215, .istore 8, 2), (217, .iconst 2, 1), (218, .aload_n 0, 1), (219, .iload 6, 2), (221, .iconst 3, 1), (222, .iadd, 1), (223, .invokevirtual 443, 3), (226, .iconst 2, 1), (227, .idiv, 1), (228, .iload 4, 2), (230, .iconst 2, 1), (231, .idiv, 1), (232, .irem, 1), (233, .imul, 1), (234, .iconst 1, 1), (235, .iadd, 1), (236, .istore 9, 2), (238, .aload_n 0, 1), (239, .iload 6, 2), (241, .iconst 4, 1), (242, .iadd, 1), (243, .invokevirtual 443, 3), (246, .bipush 63, 2), (248, .iand, 1), (249, .istore 10, 2), (251, .iload 10, 2), (253, .bipush 51, 2), (255, .if_icmp .le 8, 3), (258, .bipush 51, 2), (260, .goto 5, 3)] : List (Nat × Instr × Nat)).all (fun x => decide (decode cX12_play x.1 = .ok x.2)) = true := by decide +kernel
theorem dX12_play_202 : decode cX12_play 202 = .ok (.iconst 2, 1) := mm_dk kX12_play_3 0 rfl
theorem dX12_play_203 : decode cX12_play 203 = .ok (.iadd, 1) := mm_dk kX12_play_3 1 rfl
theorem dX12_play_204 : decode cX12_play 204 = .ok (.invokevirtual 443, 3) := mm_dk kX12_play_3 2 rfl
theorem dX12_play_207 : decode cX12_play 207 = .ok (.iconst 2, 1) := mm_dk kX12_play_3 3 rfl
theorem dX12_play_208 : decode cX12_play 208 = .ok (.idiv, 1) := mm_dk kX12_play_3 4 rfl
theorem dX12_play_209 : decode cX12_play 209 = .ok (.iload 4, 2) := mm_dk kX12_play_3 5 rfl
theorem dX12_play_211 : decode cX12_play 211 = .ok (.iconst 2, 1) := mm_dk kX12_play_3 6 rfl
theorem dX12_play_212 : decode cX12_play 212 = .ok (.idiv, 1) := mm_dk kX12_play_3 7 rfl
theorem dX12_play_213 : decode cX12_play 213 = .ok (.irem, 1) := mm_dk kX12_play_3 8 rfl
theorem dX12_play_214 : decode cX12_play 214 = .ok (.imul, 1) := mm_dk kX12_play_3 9 rfl
theorem dX12_play_215 : decode cX12_play 215 = .ok (.istore 8, 2) := mm_dk kX12_play_3 10 rfl
theorem dX12_play_217 : decode cX12_play 217 = .ok (.iconst 2, 1) := mm_dk kX12_play_3 11 rfl
theorem dX12_play_218 : decode cX12_play 218 = .ok (.aload_n 0, 1) := mm_dk kX12_play_3 12 rfl
theorem dX12_play_219 : decode cX12_play 219 = .ok (.iload 6, 2) := mm_dk kX12_play_3 13 rfl
theorem dX12_play_221 : decode cX12_play 221 = .ok (.iconst 3, 1) := mm_dk kX12_play_3 14 rfl
theorem dX12_play_222 : decode cX12_play 222 = .ok (.iadd, 1) := mm_dk kX12_play_3 15 rfl
theorem dX12_play_223 : decode cX12_play 223 = .ok (.invokevirtual 443, 3) := mm_dk kX12_play_3 16 rfl
theorem dX12_play_226 : decode cX12_play 226 = .ok (.iconst 2, 1) := mm_dk kX12_play_3 17 rfl
theorem dX12_play_227 : decode cX12_play 227 = .ok (.idiv, 1) := mm_dk kX12_play_3 18 rfl
theorem dX12_play_228 : decode cX12_play 228 = .ok (.iload 4, 2) := mm_dk kX12_play_3 19 rfl
theorem dX12_play_230 : decode cX12_play 230 = .ok (.iconst 2, 1) := mm_dk kX12_play_3 20 rfl
theorem dX12_play_231 : decode cX12_play 231 = .ok (.idiv, 1) := mm_dk kX12_play_3 21 rfl
theorem dX12_play_232 : decode cX12_play 232 = .ok (.irem, 1) := mm_dk kX12_play_3 22 rfl
theorem dX12_play_233 : decode cX12_play 233 = .ok (.imul, 1) := mm_dk kX12_play_3 23 rfl
theorem dX12_play_234 : decode cX12_play 234 = .ok (.iconst 1, 1) := mm_dk kX12_play_3 24 rfl
theorem dX12_play_235 : decode cX12_play 235 = .ok (.iadd, 1) := mm_dk kX12_play_3 25 rfl
theorem dX12_play_236 : decode cX12_play 236 = .ok (.istore 9, 2) := mm_dk kX12_play_3 26 rfl
theorem dX12_play_238 : decode cX12_play 238 = .ok (.aload_n 0, 1) := mm_dk kX12_play_3 27 rfl
theorem dX12_play_239 : decode cX12_play 239 = .ok (.iload 6, 2) := mm_dk kX12_play_3 28 rfl
theorem dX12_play_241 : decode cX12_play 241 = .ok (.iconst 4, 1) := mm_dk kX12_play_3 29 rfl
theorem dX12_play_242 : decode cX12_play 242 = .ok (.iadd, 1) := mm_dk kX12_play_3 30 rfl
theorem dX12_play_243 : decode cX12_play 243 = .ok (.invokevirtual 443, 3) := mm_dk kX12_play_3 31 rfl
theorem dX12_play_246 : decode cX12_play 246 = .ok (.bipush 63, 2) := mm_dk kX12_play_3 32 rfl
theorem dX12_play_248 : decode cX12_play 248 = .ok (.iand, 1) := mm_dk kX12_play_3 33 rfl
theorem dX12_play_249 : decode cX12_play 249 = .ok (.istore 10, 2) := mm_dk kX12_play_3 34 rfl
theorem dX12_play_251 : decode cX12_play 251 = .ok (.iload 10, 2) := mm_dk kX12_play_3 35 rfl
theorem dX12_play_253 : decode cX12_play 253 = .ok (.bipush 51, 2) := mm_dk kX12_play_3 36 rfl
theorem dX12_play_255 : decode cX12_play 255 = .ok (.if_icmp .le 8, 3) := mm_dk kX12_play_3 37 rfl
theorem dX12_play_258 : decode cX12_play 258 = .ok (.bipush 51, 2) := mm_dk kX12_play_3 38 rfl
theorem dX12_play_260 : decode cX12_play 260 = .ok (.goto 5, 3) := mm_dk kX12_play_3 39 rfl
set_option maxRecDepth 100000 in
theorem kX12_play_4 : ([(263, .iload 10, 2), (265, .istore 10, 2), (267, .aload_n 0, 1), (268, .iload_n 3, 1), (269, .iload 4, 2), (271, .iload 5, 2), (273, .imul, 1), (274, .iload 4, 2), (276, .iload 7, 2), (278, .aload_n 0, 1), (279, .iload 6, 2), (281, .iconst 1, 1), (282, .iadd, 1), (283, .invokevirtual 443, 3), (286, .bipush 7, 2), (288, .iand, 1), (289, .iload 8, 2), (291, .aload_n 0, 1), (292, .iload 6, 2), (294, .iconst 2, 1), (295, .iadd, 1), (296, .invokevirtual 443, 3), (299, .iconst 1, 1), (300, .iand, 1), (301, .iload 9, 2), (303, .aload_n 0, 1), (304, .iload 6, 2), (306, .iconst 3, 1), (307, .iadd, 1), (308, .invokevirtual 443, 3), (311, .iconst 1, 1), (312, .iand, 1), (313, .iload 10, 2), (315, .invokevirtual 386, 3), (318, .aload_n 0, 1), (319, .getfield 62, 3), (322, .iload_n 3, 1), (323, .iload 7, 2), (325, .iastore, 1), (326, .aload_n 0, 1)] : List (Nat × Instr × Nat)).all (fun x => decide (decode cX12_play x.1 = .ok x.2)) = true := by decide +kernel
theorem dX12_play_263 : decode cX12_play 263 = .ok (.iload 10, 2) := mm_dk kX12_play_4 0 rfl
theorem dX12_play_265 : decode cX12_play 265 = .ok (.istore 10, 2) := mm_dk kX12_play_4 1 rfl
theorem dX12_play_267 : decode cX12_play 267 = .ok (.aload_n 0, 1) := mm_dk kX12_play_4 2 rfl
theorem dX12_play_268 : decode cX12_play 268 = .ok (.iload_n 3, 1) := mm_dk kX12_play_4 3 rfl
theorem dX12_play_269 : decode cX12_play 269 = .ok (.iload 4, 2) := mm_dk kX12_play_4 4 rfl
theorem dX12_play_271 : decode cX12_play 271 = .ok (.iload 5, 2) := mm_dk kX12_play_4 5 rfl
theorem dX12_play_273 : decode cX12_play 273 = .ok (.imul, 1) := mm_dk kX12_play_4 6 rfl
theorem dX12_play_274 : decode cX12_play 274 = .ok (.iload 4, 2) := mm_dk kX12_play_4 7 rfl
theorem dX12_play_276 : decode cX12_play 276 = .ok (.iload 7, 2) := mm_dk kX12_play_4 8 rfl
theorem dX12_play_278 : decode cX12_play 278 = .ok (.aload_n 0, 1) := mm_dk kX12_play_4 9 rfl
theorem dX12_play_279 : decode cX12_play 279 = .ok (.iload 6, 2) := mm_dk kX12_play_4 10 rfl
theorem dX12_play_281 : decode cX12_play 281 = .ok (.iconst 1, 1) := mm_dk kX12_play_4 11 rfl
theorem dX12_play_282 : decode cX12_play 282 = .ok (.iadd, 1) := mm_dk kX12_play_4 12 rfl
theorem dX12_play_283 : decode cX12_play 283 = .ok (.invokevirtual 443, 3) := mm_dk kX12_play_4 13 rfl
theorem dX12_play_286 : decode cX12_play 286 = .ok (.bipush 7, 2) := mm_dk kX12_play_4 14 rfl
theorem dX12_play_288 : decode cX12_play 288 = .ok (.iand, 1) := mm_dk kX12_play_4 15 rfl
theorem dX12_play_289 : decode cX12_play 289 = .ok (.iload 8, 2) := mm_dk kX12_play_4 16 rfl
theorem dX12_play_291 : decode cX12_play 291 = .ok (.aload_n 0, 1) := mm_dk kX12_play_4 17 rfl
theorem dX12_play_292 : decode cX12_play 292 = .ok (.iload 6, 2) := mm_dk kX12_play_4 18 rfl
theorem dX12_play_294 : decode cX12_play 294 = .ok (.iconst 2, 1) := mm_dk kX12_play_4 19 rfl
theorem dX12_play_295 : decode cX12_play 295 = .ok (.iadd, 1) := mm_dk kX12_play_4 20 rfl
theorem dX12_play_296 : decode cX12_play 296 = .ok (.invokevirtual 443, 3) := mm_dk kX12_play_4 21 rfl
theorem dX12_play_299 : decode cX12_play 299 = .ok (.iconst 1, 1) := mm_dk kX12_play_4 22 rfl
theorem dX12_play_300 : decode cX12_play 300 = .ok (.iand, 1) := mm_dk kX12_play_4 23 rfl
theorem dX12_play_301 : decode cX12_play 301 = .ok (.iload 9, 2) := mm_dk kX12_play_4 24 rfl
theorem dX12_play_303 : decode cX12_play 303 = .ok (.aload_n 0, 1) := mm_dk kX12_play_4 25 rfl
theorem dX12_play_304 : decode cX12_play 304 = .ok (.iload 6, 2) := mm_dk kX12_play_4 26 rfl
theorem dX12_play_306 : decode cX12_play 306 = .ok (.iconst 3, 1) := mm_dk kX12_play_4 27 rfl
theorem dX12_play_307 : decode cX12_play 307 = .ok (.iadd, 1) := mm_dk kX12_play_4 28 rfl
theorem dX12_play_308 : decode cX12_play 308 = .ok (.invokevirtual 443, 3) := mm_dk kX12_play_4 29 rfl
theorem dX12_play_311 : decode cX12_play 311 = .ok (.iconst 1, 1) := mm_dk kX12_play_4 30 rfl
theorem dX12_play_312 : decode cX12_play 312 = .ok (.iand, 1) := mm_dk kX12_play_4 31 rfl
theorem dX12_play_313 : decode cX12_play 313 = .ok (.iload 10, 2) := mm_dk kX12_play_4 32 rfl
theorem dX12_play_315 : decode cX12_play 315 = .ok (.invokevirtual 386, 3) := mm_dk kX12_play_4 33 rfl
theorem dX12_play_318 : decode cX12_play 318 = .ok (.aload_n 0, 1) := mm_dk kX12_play_4 34 rfl
theorem dX12_play_319 : decode cX12_play 319 = .ok (.getfield 62, 3) := mm_dk kX12_play_4 35 rfl
theorem dX12_play_322 : decode cX12_play 322 = .ok (.iload_n 3, 1) := mm_dk kX12_play_4 36 rfl
theorem dX12_play_323 : decode cX12_play 323 = .ok (.iload 7, 2) := mm_dk kX12_play_4 37 rfl
theorem dX12_play_325 : decode cX12_play 325 = .ok (.iastore, 1) := mm_dk kX12_play_4 38 rfl
theorem dX12_play_326 : decode cX12_play 326 = .ok (.aload_n 0, 1) := mm_dk kX12_play_4 39 rfl
set_option maxRecDepth 100000 in
theorem kX12_play_5 : ([(327, .getfield 115, 3), (330, .iload_n 1, 1), (331, .iload 10, 2), (333, .invokestatic 296, 3), (336, .iastore, 1), (337, .iinc 5 1, 3), (340, .goto (-171), 3), (343, .return_, 1)] : List (Nat × Instr × Nat)).all (fun x => decide (decode cX12_play x.1 = .ok x.2)) = true := by decide +kernel
theorem dX12_play_327 : decode cX12_play 327 = .ok (.getfield 115, 3) := mm_dk kX12_play_5 0 rfl
theorem dX12_play_330 : decode cX12_play 330 = .ok (.iload_n 1, 1) := mm_dk kX12_play_5 1 rfl
theorem dX12_play_331 : decode cX12_play 331 = .ok (.iload 10, 2) := mm_dk kX12_play_5 2 rfl
theorem dX12_play_333 : decode cX12_play 333 = .ok (.invokestatic 296, 3) := mm_dk kX12_play_5 3 rfl
theorem dX12_play_336 : decode cX12_play 336 = .ok (.iastore, 1) := mm_dk kX12_play_5 4 rfl
theorem dX12_play_337 : decode cX12_play 337 = .ok (.iinc 5 1, 3) := mm_dk kX12_play_5 5 rfl
theorem dX12_play_340 : decode cX12_play 340 = .ok (.goto (-171), 3) := mm_dk kX12_play_5 6 rfl
theorem dX12_play_343 : decode cX12_play 343 = .ok (.return_, 1) := mm_dk kX12_play_5 7 rfl
set_option maxRecDepth 100000 in
theorem kX12_repair0_0 : ([(0, .iconst 2, 1), (1, .iload_n 1, 1), (2, .imul, 1), (3, .iconst 1, 1), (4, .iadd, 1), (5, .istore_n 3, 1), (6, .aload_n 0, 1), (7, .getfield 112, 3), (10, .iload_n 1, 1), (11, .iaload, 1), (12, .ifCond .ne 8, 3), (15, .bipush 40, 2), (17, .goto 5, 3), (20, .bipush 80, 2), (22, .istore 4, 2), (24, .aload_n 0, 1), (25, .iload_n 1, 1), (26, .iload_n 2, 1), (27, .iconst 1, 1), (28, .iadd, 1), (29, .ldc 243, 2), (31, .iand, 1), (32, .invokevirtual 422, 3), (35, .istore 5, 2), (37, .aload_n 0, 1), (38, .getfield 121, 3), (41, .iload_n 1, 1), (42, .iaload, 1), (43, .iconst 4, 1), (44, .if_icmp .ge 18, 3), (47, .bipush 28, 2), (49, .bipush 8, 2), (51, .aload_n 0, 1), (52, .getfield 121, 3), (55, .iload_n 1, 1), (56, .iaload, 1), (57, .imul, 1), (58, .isub, 1), (59, .goto 4, 3), (62, .iconst 0, 1)] : List (Nat × Instr × Nat)).all (fun x => decide (decode cX12_repair0 x.1 = .ok x.2)) = true := by decide +kernel
theorem dX12_repair0_0 : decode cX12_repair0 0 = .ok (.iconst 2, 1) := mm_dk kX12_repair0_0 0 rfl
theorem dX12_repair0_1 : decode cX12_repair0 1 = .ok (.iload_n 1, 1) := mm_dk kX12_repair0_0 1 rfl
theorem dX12_repair0_2 : decode cX12_repair0 2 = .ok (.imul, 1) := mm_dk kX12_repair0_0 2 rfl
theorem dX12_repair0_3 : decode cX12_repair0 3 = .ok (.iconst 1, 1) := mm_dk kX12_repair0_0 3 rfl
theorem dX12_repair0_4 : decode cX12_repair0 4 = .ok (.iadd, 1) := mm_dk kX12_repair0_0 4 rfl
theorem dX12_repair0_5 : decode cX12_repair0 5 = .ok (.istore_n 3, 1) := mm_dk kX12_repair0_0 5 rfl
theorem dX12_repair0_6 : decode cX12_repair0 6 = .ok (.aload_n 0, 1) := mm_dk kX12_repair0_0 6 rfl
theorem dX12_repair0_7 : decode cX12_repair0 7 = .ok (.getfield 112, 3) := mm_dk kX12_repair0_0 7 rfl
theorem dX12_repair0_10 : decode cX12_repair0 10 = .ok (.iload_n 1, 1) := mm_dk kX12_repair0_0 8 rfl
theorem dX12_repair0_11 : decode cX12_repair0 11 = .ok (.iaload, 1) := mm_dk kX12_repair0_0 9 rfl
theorem dX12_repair0_12 : decode cX12_repair0 12 = .ok (.ifCond .ne 8, 3) := mm_dk kX12_repair0_0 10 rfl
theorem dX12_repair0_15 : decode cX12_repair0 15 = .ok (.bipush 40, 2) := mm_dk kX12_repair0_0 11 rfl
theorem dX12_repair0_17 : decode cX12_repair0 17 = .ok (.goto 5, 3) := mm_dk kX12_repair0_0 12 rfl
theorem dX12_repair0_20 : decode cX12_repair0 20 = .ok (.bipush 80, 2) := mm_dk kX12_repair0_0 13 rfl
theorem dX12_repair0_22 : decode cX12_repair0 22 = .ok (.istore 4, 2) := mm_dk kX12_repair0_0 14 rfl
theorem dX12_repair0_24 : decode cX12_repair0 24 = .ok (.aload_n 0, 1) := mm_dk kX12_repair0_0 15 rfl
theorem dX12_repair0_25 : decode cX12_repair0 25 = .ok (.iload_n 1, 1) := mm_dk kX12_repair0_0 16 rfl
theorem dX12_repair0_26 : decode cX12_repair0 26 = .ok (.iload_n 2, 1) := mm_dk kX12_repair0_0 17 rfl
theorem dX12_repair0_27 : decode cX12_repair0 27 = .ok (.iconst 1, 1) := mm_dk kX12_repair0_0 18 rfl
theorem dX12_repair0_28 : decode cX12_repair0 28 = .ok (.iadd, 1) := mm_dk kX12_repair0_0 19 rfl
theorem dX12_repair0_29 : decode cX12_repair0 29 = .ok (.ldc 243, 2) := mm_dk kX12_repair0_0 20 rfl
theorem dX12_repair0_31 : decode cX12_repair0 31 = .ok (.iand, 1) := mm_dk kX12_repair0_0 21 rfl
theorem dX12_repair0_32 : decode cX12_repair0 32 = .ok (.invokevirtual 422, 3) := mm_dk kX12_repair0_0 22 rfl
theorem dX12_repair0_35 : decode cX12_repair0 35 = .ok (.istore 5, 2) := mm_dk kX12_repair0_0 23 rfl
theorem dX12_repair0_37 : decode cX12_repair0 37 = .ok (.aload_n 0, 1) := mm_dk kX12_repair0_0 24 rfl
theorem dX12_repair0_38 : decode cX12_repair0 38 = .ok (.getfield 121, 3) := mm_dk kX12_repair0_0 25 rfl
theorem dX12_repair0_41 : decode cX12_repair0 41 = .ok (.iload_n 1, 1) := mm_dk kX12_repair0_0 26 rfl
theorem dX12_repair0_42 : decode cX12_repair0 42 = .ok (.iaload, 1) := mm_dk kX12_repair0_0 27 rfl
theorem dX12_repair0_43 : decode cX12_repair0 43 = .ok (.iconst 4, 1) := mm_dk kX12_repair0_0 28 rfl
theorem dX12_repair0_44 : decode cX12_repair0 44 = .ok (.if_icmp .ge 18, 3) := mm_dk kX12_repair0_0 29 rfl
theorem dX12_repair0_47 : decode cX12_repair0 47 = .ok (.bipush 28, 2) := mm_dk kX12_repair0_0 30 rfl
theorem dX12_repair0_49 : decode cX12_repair0 49 = .ok (.bipush 8, 2) := mm_dk kX12_repair0_0 31 rfl
theorem dX12_repair0_51 : decode cX12_repair0 51 = .ok (.aload_n 0, 1) := mm_dk kX12_repair0_0 32 rfl
theorem dX12_repair0_52 : decode cX12_repair0 52 = .ok (.getfield 121, 3) := mm_dk kX12_repair0_0 33 rfl
theorem dX12_repair0_55 : decode cX12_repair0 55 = .ok (.iload_n 1, 1) := mm_dk kX12_repair0_0 34 rfl
theorem dX12_repair0_56 : decode cX12_repair0 56 = .ok (.iaload, 1) := mm_dk kX12_repair0_0 35 rfl
theorem dX12_repair0_57 : decode cX12_repair0 57 = .ok (.imul, 1) := mm_dk kX12_repair0_0 36 rfl
theorem dX12_repair0_58 : decode cX12_repair0 58 = .ok (.isub, 1) := mm_dk kX12_repair0_0 37 rfl
theorem dX12_repair0_59 : decode cX12_repair0 59 = .ok (.goto 4, 3) := mm_dk kX12_repair0_0 38 rfl
theorem dX12_repair0_62 : decode cX12_repair0 62 = .ok (.iconst 0, 1) := mm_dk kX12_repair0_0 39 rfl
set_option maxRecDepth 100000 in
theorem kX12_repair0_1 : ([(63, .istore 6, 2), (65, .iload 5, 2), (67, .ifCond .lt 37, 3), (70, .aload_n 0, 1), (71, .aload_n 0, 1), (72, .getfield 99, 3), (75, .sipush 250, 3), (78, .iload_n 1, 1), (79, .imul, 1), (80, .iload 5, 2), (82, .iadd, 1), (83, .iaload, 1), (84, .iconst 1, 1), (85, .isub, 1), (86, .invokevirtual 425, 3), (89, .ifCond .ne 15, 3), (92, .aload_n 0, 1), (93, .getfield 411, 3), (96, .iconst 2, 1), (97, .if_icmp .lt 7, 3), (100, .iconst 1, 1), (101, .goto 4, 3), (104, .iconst 0, 1), (105, .istore 7, 2), (107, .iload 7, 2), (109, .ifCond .eq 50, 3), (112, .aload_n 0, 1), (113, .getfield 62, 3), (116, .iload_n 3, 1), (117, .bipush 20, 2), (119, .aload_n 0, 1), (120, .aload_n 0, 1), (121, .getfield 408, 3), (124, .invokevirtual 443, 3), (127, .bipush 127, 2), (129, .iand, 1), (130, .iadd, 1), (131, .iastore, 1), (132, .iconst 5, 1), (133, .aload_n 0, 1)] : List (Nat × Instr × Nat)).all (fun x => decide (decode cX12_repair0 x.1 = .ok x.2)) = true := by decide +kernel
theorem dX12_repair0_63 : decode cX12_repair0 63 = .ok (.istore 6, 2) := mm_dk kX12_repair0_1 0 rfl
theorem dX12_repair0_65 : decode cX12_repair0 65 = .ok (.iload 5, 2) := mm_dk kX12_repair0_1 1 rfl
theorem dX12_repair0_67 : decode cX12_repair0 67 = .ok (.ifCond .lt 37, 3) := mm_dk kX12_repair0_1 2 rfl
theorem dX12_repair0_70 : decode cX12_repair0 70 = .ok (.aload_n 0, 1) := mm_dk kX12_repair0_1 3 rfl
theorem dX12_repair0_71 : decode cX12_repair0 71 = .ok (.aload_n 0, 1) := mm_dk kX12_repair0_1 4 rfl
theorem dX12_repair0_72 : decode cX12_repair0 72 = .ok (.getfield 99, 3) := mm_dk kX12_repair0_1 5 rfl
theorem dX12_repair0_75 : decode cX12_repair0 75 = .ok (.sipush 250, 3) := mm_dk kX12_repair0_1 6 rfl
theorem dX12_repair0_78 : decode cX12_repair0 78 = .ok (.iload_n 1, 1) := mm_dk kX12_repair0_1 7 rfl
theorem dX12_repair0_79 : decode cX12_repair0 79 = .ok (.imul, 1) := mm_dk kX12_repair0_1 8 rfl
theorem dX12_repair0_80 : decode cX12_repair0 80 = .ok (.iload 5, 2) := mm_dk kX12_repair0_1 9 rfl
theorem dX12_repair0_82 : decode cX12_repair0 82 = .ok (.iadd, 1) := mm_dk kX12_repair0_1 10 rfl
theorem dX12_repair0_83 : decode cX12_repair0 83 = .ok (.iaload, 1) := mm_dk kX12_repair0_1 11 rfl
theorem dX12_repair0_84 : decode cX12_repair0 84 = .ok (.iconst 1, 1) := mm_dk kX12_repair0_1 12 rfl
theorem dX12_repair0_85 : decode cX12_repair0 85 = .ok (.isub, 1) := mm_dk kX12_repair0_1 13 rfl
theorem dX12_repair0_86 : decode cX12_repair0 86 = .ok (.invokevirtual 425, 3) := mm_dk kX12_repair0_1 14 rfl
theorem dX12_repair0_89 : decode cX12_repair0 89 = .ok (.ifCond .ne 15, 3) := mm_dk kX12_repair0_1 15 rfl
theorem dX12_repair0_92 : decode cX12_repair0 92 = .ok (.aload_n 0, 1) := mm_dk kX12_repair0_1 16 rfl
theorem dX12_repair0_93 : decode cX12_repair0 93 = .ok (.getfield 411, 3) := mm_dk kX12_repair0_1 17 rfl
theorem dX12_repair0_96 : decode cX12_repair0 96 = .ok (.iconst 2, 1) := mm_dk kX12_repair0_1 18 rfl
theorem dX12_repair0_97 : decode cX12_repair0 97 = .ok (.if_icmp .lt 7, 3) := mm_dk kX12_repair0_1 19 rfl
theorem dX12_repair0_100 : decode cX12_repair0 100 = .ok (.iconst 1, 1) := mm_dk kX12_repair0_1 20 rfl
theorem dX12_repair0_101 : decode cX12_repair0 101 = .ok (.goto 4, 3) := mm_dk kX12_repair0_1 21 rfl
theorem dX12_repair0_104 : decode cX12_repair0 104 = .ok (.iconst 0, 1) := mm_dk kX12_repair0_1 22 rfl
theorem dX12_repair0_105 : decode cX12_repair0 105 = .ok (.istore 7, 2) := mm_dk kX12_repair0_1 23 rfl
theorem dX12_repair0_107 : decode cX12_repair0 107 = .ok (.iload 7, 2) := mm_dk kX12_repair0_1 24 rfl
theorem dX12_repair0_109 : decode cX12_repair0 109 = .ok (.ifCond .eq 50, 3) := mm_dk kX12_repair0_1 25 rfl
theorem dX12_repair0_112 : decode cX12_repair0 112 = .ok (.aload_n 0, 1) := mm_dk kX12_repair0_1 26 rfl
theorem dX12_repair0_113 : decode cX12_repair0 113 = .ok (.getfield 62, 3) := mm_dk kX12_repair0_1 27 rfl
theorem dX12_repair0_116 : decode cX12_repair0 116 = .ok (.iload_n 3, 1) := mm_dk kX12_repair0_1 28 rfl
theorem dX12_repair0_117 : decode cX12_repair0 117 = .ok (.bipush 20, 2) := mm_dk kX12_repair0_1 29 rfl
theorem dX12_repair0_119 : decode cX12_repair0 119 = .ok (.aload_n 0, 1) := mm_dk kX12_repair0_1 30 rfl
theorem dX12_repair0_120 : decode cX12_repair0 120 = .ok (.aload_n 0, 1) := mm_dk kX12_repair0_1 31 rfl
theorem dX12_repair0_121 : decode cX12_repair0 121 = .ok (.getfield 408, 3) := mm_dk kX12_repair0_1 32 rfl
theorem dX12_repair0_124 : decode cX12_repair0 124 = .ok (.invokevirtual 443, 3) := mm_dk kX12_repair0_1 33 rfl
theorem dX12_repair0_127 : decode cX12_repair0 127 = .ok (.bipush 127, 2) := mm_dk kX12_repair0_1 34 rfl
theorem dX12_repair0_129 : decode cX12_repair0 129 = .ok (.iand, 1) := mm_dk kX12_repair0_1 35 rfl
theorem dX12_repair0_130 : decode cX12_repair0 130 = .ok (.iadd, 1) := mm_dk kX12_repair0_1 36 rfl
theorem dX12_repair0_131 : decode cX12_repair0 131 = .ok (.iastore, 1) := mm_dk kX12_repair0_1 37 rfl
theorem dX12_repair0_132 : decode cX12_repair0 132 = .ok (.iconst 5, 1) := mm_dk kX12_repair0_1 38 rfl
theorem dX12_repair0_133 : decode cX12_repair0 133 = .ok (.aload_n 0, 1) := mm_dk kX12_repair0_1 39 rfl
set_option maxRecDepth 100000 in
theorem kX12_repair0_2 : ([(134, .aload_n 0, 1), (135, .getfield 408, 3), (138, .iconst 1, 1), (139, .iadd, 1), (140, .invokevirtual 443, 3), (143, .bipush 7, 2), (145, .iand, 1), (146, .imul, 1), (147, .istore 6, 2), (149, .aload_n 0, 1), (150, .getfield 133, 3), (153, .iload_n 1, 1), (154, .dup2, 1), (155, .iaload, 1), (156, .iconst 1, 1), (157, .iadd, 1), (158, .iastore, 1), (159, .aload_n 0, 1), (160, .getfield 139, 3), (163, .iload_n 1, 1), (164, .iload 7, 2), (166, .ifCond .eq 7, 3), (169, .iconst 3, 1), (170, .goto 4, 3), (173, .iconst 2, 1), (174, .iastore, 1), (175, .aload_n 0, 1), (176, .iload 7, 2), (178, .ifCond .eq 8, 3), (181, .bipush 43, 2), (183, .goto 5, 3), (186, .bipush 42, 2), (188, .invokevirtual 346, 3), (191, .iconst 0, 1), (192, .istore 8, 2), (194, .iload 8, 2), (196, .iconst 4, 1), (197, .if_icmp .ge 74, 3), (200, .aload_n 0, 1), (201, .iload_n 3, 1)] : List (Nat × Instr × Nat)).all (fun x => decide (decode cX12_repair0 x.1 = .ok x.2)) = true := by decide +kernel
theorem dX12_repair0_134 : decode cX12_repair0 134 = .ok (.aload_n 0, 1) := mm_dk kX12_repair0_2 0 rfl
theorem dX12_repair0_135 : decode cX12_repair0 135 = .ok (.getfield 408, 3) := mm_dk kX12_repair0_2 1 rfl
theorem dX12_repair0_138 : decode cX12_repair0 138 = .ok (.iconst 1, 1) := mm_dk kX12_repair0_2 2 rfl
theorem dX12_repair0_139 : decode cX12_repair0 139 = .ok (.iadd, 1) := mm_dk kX12_repair0_2 3 rfl
theorem dX12_repair0_140 : decode cX12_repair0 140 = .ok (.invokevirtual 443, 3) := mm_dk kX12_repair0_2 4 rfl
theorem dX12_repair0_143 : decode cX12_repair0 143 = .ok (.bipush 7, 2) := mm_dk kX12_repair0_2 5 rfl
theorem dX12_repair0_145 : decode cX12_repair0 145 = .ok (.iand, 1) := mm_dk kX12_repair0_2 6 rfl
theorem dX12_repair0_146 : decode cX12_repair0 146 = .ok (.imul, 1) := mm_dk kX12_repair0_2 7 rfl
theorem dX12_repair0_147 : decode cX12_repair0 147 = .ok (.istore 6, 2) := mm_dk kX12_repair0_2 8 rfl
theorem dX12_repair0_149 : decode cX12_repair0 149 = .ok (.aload_n 0, 1) := mm_dk kX12_repair0_2 9 rfl
theorem dX12_repair0_150 : decode cX12_repair0 150 = .ok (.getfield 133, 3) := mm_dk kX12_repair0_2 10 rfl
theorem dX12_repair0_153 : decode cX12_repair0 153 = .ok (.iload_n 1, 1) := mm_dk kX12_repair0_2 11 rfl
theorem dX12_repair0_154 : decode cX12_repair0 154 = .ok (.dup2, 1) := mm_dk kX12_repair0_2 12 rfl
theorem dX12_repair0_155 : decode cX12_repair0 155 = .ok (.iaload, 1) := mm_dk kX12_repair0_2 13 rfl
theorem dX12_repair0_156 : decode cX12_repair0 156 = .ok (.iconst 1, 1) := mm_dk kX12_repair0_2 14 rfl
theorem dX12_repair0_157 : decode cX12_repair0 157 = .ok (.iadd, 1) := mm_dk kX12_repair0_2 15 rfl
theorem dX12_repair0_158 : decode cX12_repair0 158 = .ok (.iastore, 1) := mm_dk kX12_repair0_2 16 rfl
theorem dX12_repair0_159 : decode cX12_repair0 159 = .ok (.aload_n 0, 1) := mm_dk kX12_repair0_2 17 rfl
theorem dX12_repair0_160 : decode cX12_repair0 160 = .ok (.getfield 139, 3) := mm_dk kX12_repair0_2 18 rfl
theorem dX12_repair0_163 : decode cX12_repair0 163 = .ok (.iload_n 1, 1) := mm_dk kX12_repair0_2 19 rfl
theorem dX12_repair0_164 : decode cX12_repair0 164 = .ok (.iload 7, 2) := mm_dk kX12_repair0_2 20 rfl
theorem dX12_repair0_166 : decode cX12_repair0 166 = .ok (.ifCond .eq 7, 3) := mm_dk kX12_repair0_2 21 rfl
theorem dX12_repair0_169 : decode cX12_repair0 169 = .ok (.iconst 3, 1) := mm_dk kX12_repair0_2 22 rfl
theorem dX12_repair0_170 : decode cX12_repair0 170 = .ok (.goto 4, 3) := mm_dk kX12_repair0_2 23 rfl
theorem dX12_repair0_173 : decode cX12_repair0 173 = .ok (.iconst 2, 1) := mm_dk kX12_repair0_2 24 rfl
theorem dX12_repair0_174 : decode cX12_repair0 174 = .ok (.iastore, 1) := mm_dk kX12_repair0_2 25 rfl
theorem dX12_repair0_175 : decode cX12_repair0 175 = .ok (.aload_n 0, 1) := mm_dk kX12_repair0_2 26 rfl
theorem dX12_repair0_176 : decode cX12_repair0 176 = .ok (.iload 7, 2) := mm_dk kX12_repair0_2 27 rfl
theorem dX12_repair0_178 : decode cX12_repair0 178 = .ok (.ifCond .eq 8, 3) := mm_dk kX12_repair0_2 28 rfl
theorem dX12_repair0_181 : decode cX12_repair0 181 = .ok (.bipush 43, 2) := mm_dk kX12_repair0_2 29 rfl
theorem dX12_repair0_183 : decode cX12_repair0 183 = .ok (.goto 5, 3) := mm_dk kX12_repair0_2 30 rfl
theorem dX12_repair0_186 : decode cX12_repair0 186 = .ok (.bipush 42, 2) := mm_dk kX12_repair0_2 31 rfl
theorem dX12_repair0_188 : decode cX12_repair0 188 = .ok (.invokevirtual 346, 3) := mm_dk kX12_repair0_2 32 rfl
theorem dX12_repair0_191 : decode cX12_repair0 191 = .ok (.iconst 0, 1) := mm_dk kX12_repair0_2 33 rfl
theorem dX12_repair0_192 : decode cX12_repair0 192 = .ok (.istore 8, 2) := mm_dk kX12_repair0_2 34 rfl
theorem dX12_repair0_194 : decode cX12_repair0 194 = .ok (.iload 8, 2) := mm_dk kX12_repair0_2 35 rfl
theorem dX12_repair0_196 : decode cX12_repair0 196 = .ok (.iconst 4, 1) := mm_dk kX12_repair0_2 36 rfl
theorem dX12_repair0_197 : decode cX12_repair0 197 = .ok (.if_icmp .ge 74, 3) := mm_dk kX12_repair0_2 37 rfl
theorem dX12_repair0_200 : decode cX12_repair0 200 = .ok (.aload_n 0, 1) := mm_dk kX12_repair0_2 38 rfl
theorem dX12_repair0_201 : decode cX12_repair0 201 = .ok (.iload_n 3, 1) := mm_dk kX12_repair0_2 39 rfl
set_option maxRecDepth 100000 in
theorem kX12_repair0_3 : ([(202, .aload_n 0, 1), (203, .getfield 62, 3), (206, .iload_n 3, 1), (207, .iaload, 1), (208, .iload 4, 2), (210, .invokevirtual 336, 3), (213, .iconst 0, 1), (214, .istore 9, 2), (216, .iload 9, 2), (218, .iload 4, 2), (220, .if_icmp .ge 33, 3), (223, .aload_n 0, 1), (224, .getfield 181, 3), (227, .iload 9, 2), (229, .aload_n 0, 1), (230, .iload 6, 2), (232, .aload_n 0, 1), (233, .getfield 175, 3), (236, .iload 9, 2), (238, .iaload, 1), (239, .imul, 1), (240, .iconst 5, 1), (241, .ishr, 1), (242, .i2l, 1), (243, .invokevirtual 270, 3), (246, .iastore, 1), (247, .iinc 9 1, 3), (250, .goto (-34), 3), (253, .aload_n 0, 1), (254, .iload_n 3, 1), (255, .iload 4, 2), (257, .iload 8, 2), (259, .imul, 1), (260, .iload 4, 2), (262, .invokevirtual 340, 3), (265, .iinc 8 1, 3), (268, .goto (-74), 3), (271, .return_, 1)] : List (Nat × Instr × Nat)).all (fun x => decide (decode cX12_repair0 x.1 = .ok x.2)) = true := by decide +kernel
theorem dX12_repair0_202 : decode cX12_repair0 202 = .ok (.aload_n 0, 1) := mm_dk kX12_repair0_3 0 rfl
theorem dX12_repair0_203 : decode cX12_repair0 203 = .ok (.getfield 62, 3) := mm_dk kX12_repair0_3 1 rfl
theorem dX12_repair0_206 : decode cX12_repair0 206 = .ok (.iload_n 3, 1) := mm_dk kX12_repair0_3 2 rfl
theorem dX12_repair0_207 : decode cX12_repair0 207 = .ok (.iaload, 1) := mm_dk kX12_repair0_3 3 rfl
theorem dX12_repair0_208 : decode cX12_repair0 208 = .ok (.iload 4, 2) := mm_dk kX12_repair0_3 4 rfl
theorem dX12_repair0_210 : decode cX12_repair0 210 = .ok (.invokevirtual 336, 3) := mm_dk kX12_repair0_3 5 rfl
theorem dX12_repair0_213 : decode cX12_repair0 213 = .ok (.iconst 0, 1) := mm_dk kX12_repair0_3 6 rfl
theorem dX12_repair0_214 : decode cX12_repair0 214 = .ok (.istore 9, 2) := mm_dk kX12_repair0_3 7 rfl
theorem dX12_repair0_216 : decode cX12_repair0 216 = .ok (.iload 9, 2) := mm_dk kX12_repair0_3 8 rfl
theorem dX12_repair0_218 : decode cX12_repair0 218 = .ok (.iload 4, 2) := mm_dk kX12_repair0_3 9 rfl
theorem dX12_repair0_220 : decode cX12_repair0 220 = .ok (.if_icmp .ge 33, 3) := mm_dk kX12_repair0_3 10 rfl
theorem dX12_repair0_223 : decode cX12_repair0 223 = .ok (.aload_n 0, 1) := mm_dk kX12_repair0_3 11 rfl
theorem dX12_repair0_224 : decode cX12_repair0 224 = .ok (.getfield 181, 3) := mm_dk kX12_repair0_3 12 rfl
theorem dX12_repair0_227 : decode cX12_repair0 227 = .ok (.iload 9, 2) := mm_dk kX12_repair0_3 13 rfl
theorem dX12_repair0_229 : decode cX12_repair0 229 = .ok (.aload_n 0, 1) := mm_dk kX12_repair0_3 14 rfl
theorem dX12_repair0_230 : decode cX12_repair0 230 = .ok (.iload 6, 2) := mm_dk kX12_repair0_3 15 rfl
theorem dX12_repair0_232 : decode cX12_repair0 232 = .ok (.aload_n 0, 1) := mm_dk kX12_repair0_3 16 rfl
theorem dX12_repair0_233 : decode cX12_repair0 233 = .ok (.getfield 175, 3) := mm_dk kX12_repair0_3 17 rfl
theorem dX12_repair0_236 : decode cX12_repair0 236 = .ok (.iload 9, 2) := mm_dk kX12_repair0_3 18 rfl
theorem dX12_repair0_238 : decode cX12_repair0 238 = .ok (.iaload, 1) := mm_dk kX12_repair0_3 19 rfl
theorem dX12_repair0_239 : decode cX12_repair0 239 = .ok (.imul, 1) := mm_dk kX12_repair0_3 20 rfl
theorem dX12_repair0_240 : decode cX12_repair0 240 = .ok (.iconst 5, 1) := mm_dk kX12_repair0_3 21 rfl
theorem dX12_repair0_241 : decode cX12_repair0 241 = .ok (.ishr, 1) := mm_dk kX12_repair0_3 22 rfl
theorem dX12_repair0_242 : decode cX12_repair0 242 = .ok (.i2l, 1) := mm_dk kX12_repair0_3 23 rfl
theorem dX12_repair0_243 : decode cX12_repair0 243 = .ok (.invokevirtual 270, 3) := mm_dk kX12_repair0_3 24 rfl
theorem dX12_repair0_246 : decode cX12_repair0 246 = .ok (.iastore, 1) := mm_dk kX12_repair0_3 25 rfl
theorem dX12_repair0_247 : decode cX12_repair0 247 = .ok (.iinc 9 1, 3) := mm_dk kX12_repair0_3 26 rfl
theorem dX12_repair0_250 : decode cX12_repair0 250 = .ok (.goto (-34), 3) := mm_dk kX12_repair0_3 27 rfl
theorem dX12_repair0_253 : decode cX12_repair0 253 = .ok (.aload_n 0, 1) := mm_dk kX12_repair0_3 28 rfl
theorem dX12_repair0_254 : decode cX12_repair0 254 = .ok (.iload_n 3, 1) := mm_dk kX12_repair0_3 29 rfl
theorem dX12_repair0_255 : decode cX12_repair0 255 = .ok (.iload 4, 2) := mm_dk kX12_repair0_3 30 rfl
theorem dX12_repair0_257 : decode cX12_repair0 257 = .ok (.iload 8, 2) := mm_dk kX12_repair0_3 31 rfl
theorem dX12_repair0_259 : decode cX12_repair0 259 = .ok (.imul, 1) := mm_dk kX12_repair0_3 32 rfl
theorem dX12_repair0_260 : decode cX12_repair0 260 = .ok (.iload 4, 2) := mm_dk kX12_repair0_3 33 rfl
theorem dX12_repair0_262 : decode cX12_repair0 262 = .ok (.invokevirtual 340, 3) := mm_dk kX12_repair0_3 34 rfl
theorem dX12_repair0_265 : decode cX12_repair0 265 = .ok (.iinc 8 1, 3) := mm_dk kX12_repair0_3 35 rfl
theorem dX12_repair0_268 : decode cX12_repair0 268 = .ok (.goto (-74), 3) := mm_dk kX12_repair0_3 36 rfl
theorem dX12_repair0_271 : decode cX12_repair0 271 = .ok (.return_, 1) := mm_dk kX12_repair0_3 37 rfl
set_option maxRecDepth 100000 in
theorem kX12_filter_0 : ([(0, .aload_n 0, 1), (1, .getfield 154, 3), (4, .iload_n 2, 1), (5, .iaload, 1), (6, .istore 4, 2), (8, .iload 4, 2), (10, .ifCond .le 12, 3), (13, .aload_n 0, 1), (14, .bipush 50, 2), (16, .iload 4, 2), (18, .iadd, 1), (19, .invokevirtual 346, 3), (22, .iload 4, 2), (24, .iconst 3, 1), (25, .if_icmp .ne 9, 3), (28, .aload_n 0, 1), (29, .bipush 52, 2), (31, .invokevirtual 346, 3), (34, .iconst 0, 1), (35, .istore 5, 2), (37, .iload 5, 2), (39, .iload_n 3, 1), (40, .if_icmp .ge 271, 3), (43, .iload 4, 2), (45, .ifCond .le 266, 3), (48, .aload_n 0, 1), (49, .getfield 172, 3), (52, .iload 5, 2), (54, .iaload, 1), (55, .istore 6, 2), (57, .iload 4, 2), (59, .iconst 1, 1), (60, .if_icmp .ne 52, 3), (63, .aload_n 0, 1), (64, .getfield 157, 3), (67, .iload_n 2, 1), (68, .aload_n 0, 1), (69, .getfield 157, 3), (72, .iload_n 2, 1), (73, .iaload, 1)] : List (Nat × Instr × Nat)).all (fun x => decide (decode cX12_filter x.1 = .ok x.2)) = true := by decide +kernel
theorem dX12_filter_0 : decode cX12_filter 0 = .ok (.aload_n 0, 1) := mm_dk kX12_filter_0 0 rfl
theorem dX12_filter_1 : decode cX12_filter 1 = .ok (.getfield 154, 3) := mm_dk kX12_filter_0 1 rfl
theorem dX12_filter_4 : decode cX12_filter 4 = .ok (.iload_n 2, 1) := mm_dk kX12_filter_0 2 rfl
theorem dX12_filter_5 : decode cX12_filter 5 = .ok (.iaload, 1) := mm_dk kX12_filter_0 3 rfl
theorem dX12_filter_6 : decode cX12_filter 6 = .ok (.istore 4, 2) := mm_dk kX12_filter_0 4 rfl
theorem dX12_filter_8 : decode cX12_filter 8 = .ok (.iload 4, 2) := mm_dk kX12_filter_0 5 rfl
theorem dX12_filter_10 : decode cX12_filter 10 = .ok (.ifCond .le 12, 3) := mm_dk kX12_filter_0 6 rfl
theorem dX12_filter_13 : decode cX12_filter 13 = .ok (.aload_n 0, 1) := mm_dk kX12_filter_0 7 rfl
theorem dX12_filter_14 : decode cX12_filter 14 = .ok (.bipush 50, 2) := mm_dk kX12_filter_0 8 rfl
theorem dX12_filter_16 : decode cX12_filter 16 = .ok (.iload 4, 2) := mm_dk kX12_filter_0 9 rfl
theorem dX12_filter_18 : decode cX12_filter 18 = .ok (.iadd, 1) := mm_dk kX12_filter_0 10 rfl
theorem dX12_filter_19 : decode cX12_filter 19 = .ok (.invokevirtual 346, 3) := mm_dk kX12_filter_0 11 rfl
theorem dX12_filter_22 : decode cX12_filter 22 = .ok (.iload 4, 2) := mm_dk kX12_filter_0 12 rfl
theorem dX12_filter_24 : decode cX12_filter 24 = .ok (.iconst 3, 1) := mm_dk kX12_filter_0 13 rfl
theorem dX12_filter_25 : decode cX12_filter 25 = .ok (.if_icmp .ne 9, 3) := mm_dk kX12_filter_0 14 rfl
theorem dX12_filter_28 : decode cX12_filter 28 = .ok (.aload_n 0, 1) := mm_dk kX12_filter_0 15 rfl
theorem dX12_filter_29 : decode cX12_filter 29 = .ok (.bipush 52, 2) := mm_dk kX12_filter_0 16 rfl
theorem dX12_filter_31 : decode cX12_filter 31 = .ok (.invokevirtual 346, 3) := mm_dk kX12_filter_0 17 rfl
theorem dX12_filter_34 : decode cX12_filter 34 = .ok (.iconst 0, 1) := mm_dk kX12_filter_0 18 rfl
theorem dX12_filter_35 : decode cX12_filter 35 = .ok (.istore 5, 2) := mm_dk kX12_filter_0 19 rfl
theorem dX12_filter_37 : decode cX12_filter 37 = .ok (.iload 5, 2) := mm_dk kX12_filter_0 20 rfl
theorem dX12_filter_39 : decode cX12_filter 39 = .ok (.iload_n 3, 1) := mm_dk kX12_filter_0 21 rfl
theorem dX12_filter_40 : decode cX12_filter 40 = .ok (.if_icmp .ge 271, 3) := mm_dk kX12_filter_0 22 rfl
theorem dX12_filter_43 : decode cX12_filter 43 = .ok (.iload 4, 2) := mm_dk kX12_filter_0 23 rfl
theorem dX12_filter_45 : decode cX12_filter 45 = .ok (.ifCond .le 266, 3) := mm_dk kX12_filter_0 24 rfl
theorem dX12_filter_48 : decode cX12_filter 48 = .ok (.aload_n 0, 1) := mm_dk kX12_filter_0 25 rfl
theorem dX12_filter_49 : decode cX12_filter 49 = .ok (.getfield 172, 3) := mm_dk kX12_filter_0 26 rfl
theorem dX12_filter_52 : decode cX12_filter 52 = .ok (.iload 5, 2) := mm_dk kX12_filter_0 27 rfl
theorem dX12_filter_54 : decode cX12_filter 54 = .ok (.iaload, 1) := mm_dk kX12_filter_0 28 rfl
theorem dX12_filter_55 : decode cX12_filter 55 = .ok (.istore 6, 2) := mm_dk kX12_filter_0 29 rfl
theorem dX12_filter_57 : decode cX12_filter 57 = .ok (.iload 4, 2) := mm_dk kX12_filter_0 30 rfl
theorem dX12_filter_59 : decode cX12_filter 59 = .ok (.iconst 1, 1) := mm_dk kX12_filter_0 31 rfl
theorem dX12_filter_60 : decode cX12_filter 60 = .ok (.if_icmp .ne 52, 3) := mm_dk kX12_filter_0 32 rfl
theorem dX12_filter_63 : decode cX12_filter 63 = .ok (.aload_n 0, 1) := mm_dk kX12_filter_0 33 rfl
theorem dX12_filter_64 : decode cX12_filter 64 = .ok (.getfield 157, 3) := mm_dk kX12_filter_0 34 rfl
theorem dX12_filter_67 : decode cX12_filter 67 = .ok (.iload_n 2, 1) := mm_dk kX12_filter_0 35 rfl
theorem dX12_filter_68 : decode cX12_filter 68 = .ok (.aload_n 0, 1) := mm_dk kX12_filter_0 36 rfl
theorem dX12_filter_69 : decode cX12_filter 69 = .ok (.getfield 157, 3) := mm_dk kX12_filter_0 37 rfl
theorem dX12_filter_72 : decode cX12_filter 72 = .ok (.iload_n 2, 1) := mm_dk kX12_filter_0 38 rfl
theorem dX12_filter_73 : decode cX12_filter 73 = .ok (.iaload, 1) := mm_dk kX12_filter_0 39 rfl
set_option maxRecDepth 100000 in
theorem kX12_filter_1 : ([(74, .invokestatic 248, 3), (77, .iastore, 1), (78, .aload_n 0, 1), (79, .iload 6, 2), (81, .aload_n 0, 1), (82, .getfield 157, 3), (85, .iload_n 2, 1), (86, .iaload, 1), (87, .invokestatic 251, 3), (90, .aload_n 0, 1), (91, .getfield 115, 3), (94, .iload_n 1, 1), (95, .iaload, 1), (96, .iconst 4, 1), (97, .ishr, 1), (98, .imul, 1), (99, .bipush 8, 2), (101, .ishr, 1), (102, .iadd, 1), (103, .i2l, 1), (104, .invokevirtual 270, 3), (107, .istore 6, 2), (109, .goto 187, 3), (112, .iload 4, 2), (114, .iconst 4, 1), (115, .if_icmp .ne 37, 3), (118, .aload_n 0, 1), (119, .iload 6, 2), (121, .i2l, 1), (122, .aload_n 0, 1), (123, .getfield 163, 3), (126, .iload_n 2, 1), (127, .iaload, 1), (128, .i2l, 1), (129, .ldc2_w 350, 3), (132, .invokestatic 262, 3), (135, .ladd, 1), (136, .invokevirtual 270, 3), (139, .istore 6, 2), (141, .aload_n 0, 1)] : List (Nat × Instr × Nat)).all (fun x => decide (decode cX12_filter x.1 = .ok x.2)) = true := by decide +kernel
theorem dX12_filter_74 : decode cX12_filter 74 = .ok (.invokestatic 248, 3) := mm_dk kX12_filter_1 0 rfl
theorem dX12_filter_77 : decode cX12_filter 77 = .ok (.iastore, 1) := mm_dk kX12_filter_1 1 rfl
theorem dX12_filter_78 : decode cX12_filter 78 = .ok (.aload_n 0, 1) := mm_dk kX12_filter_1 2 rfl
theorem dX12_filter_79 : decode cX12_filter 79 = .ok (.iload 6, 2) := mm_dk kX12_filter_1 3 rfl
theorem dX12_filter_81 : decode cX12_filter 81 = .ok (.aload_n 0, 1) := mm_dk kX12_filter_1 4 rfl
theorem dX12_filter_82 : decode cX12_filter 82 = .ok (.getfield 157, 3) := mm_dk kX12_filter_1 5 rfl
theorem dX12_filter_85 : decode cX12_filter 85 = .ok (.iload_n 2, 1) := mm_dk kX12_filter_1 6 rfl
theorem dX12_filter_86 : decode cX12_filter 86 = .ok (.iaload, 1) := mm_dk kX12_filter_1 7 rfl
theorem dX12_filter_87 : decode cX12_filter 87 = .ok (.invokestatic 251, 3) := mm_dk kX12_filter_1 8 rfl
theorem dX12_filter_90 : decode cX12_filter 90 = .ok (.aload_n 0, 1) := mm_dk kX12_filter_1 9 rfl
theorem dX12_filter_91 : decode cX12_filter 91 = .ok (.getfield 115, 3) := mm_dk kX12_filter_1 10 rfl
theorem dX12_filter_94 : decode cX12_filter 94 = .ok (.iload_n 1, 1) := mm_dk kX12_filter_1 11 rfl
theorem dX12_filter_95 : decode cX12_filter 95 = .ok (.iaload, 1) := mm_dk kX12_filter_1 12 rfl
theorem dX12_filter_96 : decode cX12_filter 96 = .ok (.iconst 4, 1) := mm_dk kX12_filter_1 13 rfl
theorem dX12_filter_97 : decode cX12_filter 97 = .ok (.ishr, 1) := mm_dk kX12_filter_1 14 rfl
theorem dX12_filter_98 : decode cX12_filter 98 = .ok (.imul, 1) := mm_dk kX12_filter_1 15 rfl
theorem dX12_filter_99 : decode cX12_filter 99 = .ok (.bipush 8, 2) := mm_dk kX12_filter_1 16 rfl
theorem dX12_filter_101 : decode cX12_filter 101 = .ok (.ishr, 1) := mm_dk kX12_filter_1 17 rfl
theorem dX12_filter_102 : decode cX12_filter 102 = .ok (.iadd, 1) := mm_dk kX12_filter_1 18 rfl
theorem dX12_filter_103 : decode cX12_filter 103 = .ok (.i2l, 1) := mm_dk kX12_filter_1 19 rfl
theorem dX12_filter_104 : decode cX12_filter 104 = .ok (.invokevirtual 270, 3) := mm_dk kX12_filter_1 20 rfl
theorem dX12_filter_107 : decode cX12_filter 107 = .ok (.istore 6, 2) := mm_dk kX12_filter_1 21 rfl
theorem dX12_filter_109 : decode cX12_filter 109 = .ok (.goto 187, 3) := mm_dk kX12_filter_1 22 rfl
theorem dX12_filter_112 : decode cX12_filter 112 = .ok (.iload 4, 2) := mm_dk kX12_filter_1 23 rfl
theorem dX12_filter_114 : decode cX12_filter 114 = .ok (.iconst 4, 1) := mm_dk kX12_filter_1 24 rfl
theorem dX12_filter_115 : decode cX12_filter 115 = .ok (.if_icmp .ne 37, 3) := mm_dk kX12_filter_1 25 rfl
theorem dX12_filter_118 : decode cX12_filter 118 = .ok (.aload_n 0, 1) := mm_dk kX12_filter_1 26 rfl
theorem dX12_filter_119 : decode cX12_filter 119 = .ok (.iload 6, 2) := mm_dk kX12_filter_1 27 rfl
theorem dX12_filter_121 : decode cX12_filter 121 = .ok (.i2l, 1) := mm_dk kX12_filter_1 28 rfl
theorem dX12_filter_122 : decode cX12_filter 122 = .ok (.aload_n 0, 1) := mm_dk kX12_filter_1 29 rfl
theorem dX12_filter_123 : decode cX12_filter 123 = .ok (.getfield 163, 3) := mm_dk kX12_filter_1 30 rfl
theorem dX12_filter_126 : decode cX12_filter 126 = .ok (.iload_n 2, 1) := mm_dk kX12_filter_1 31 rfl
theorem dX12_filter_127 : decode cX12_filter 127 = .ok (.iaload, 1) := mm_dk kX12_filter_1 32 rfl
theorem dX12_filter_128 : decode cX12_filter 128 = .ok (.i2l, 1) := mm_dk kX12_filter_1 33 rfl
theorem dX12_filter_129 : decode cX12_filter 129 = .ok (.ldc2_w 350, 3) := mm_dk kX12_filter_1 34 rfl
theorem dX12_filter_132 : decode cX12_filter 132 = .ok (.invokestatic 262, 3) := mm_dk kX12_filter_1 35 rfl
theorem dX12_filter_135 : decode cX12_filter 135 = .ok (.ladd, 1) := mm_dk kX12_filter_1 36 rfl
theorem dX12_filter_136 : decode cX12_filter 136 = .ok (.invokevirtual 270, 3) := mm_dk kX12_filter_1 37 rfl
theorem dX12_filter_139 : decode cX12_filter 139 = .ok (.istore 6, 2) := mm_dk kX12_filter_1 38 rfl
theorem dX12_filter_141 : decode cX12_filter 141 = .ok (.aload_n 0, 1) := mm_dk kX12_filter_1 39 rfl
set_option maxRecDepth 100000 in
theorem kX12_filter_2 : ([(142, .getfield 163, 3), (145, .iload_n 2, 1), (146, .iload 6, 2), (148, .iastore, 1), (149, .goto 147, 3), (152, .iload 6, 2), (154, .istore 7, 2), (156, .aload_n 0, 1), (157, .iload 6, 2), (159, .i2l, 1), (160, .aload_n 0, 1), (161, .getfield 160, 3), (164, .iload_n 2, 1), (165, .iaload, 1), (166, .i2l, 1), (167, .ldc2_w 446, 3), (170, .invokestatic 262, 3), (173, .lsub, 1), (174, .invokevirtual 270, 3), (177, .istore 6, 2), (179, .aload_n 0, 1), (180, .getfield 160, 3), (183, .iload_n 2, 1), (184, .iload 7, 2), (186, .iastore, 1), (187, .iload 4, 2), (189, .iconst 3, 1), (190, .if_icmp .ne 106, 3), (193, .aload_n 0, 1), (194, .iload 6, 2), (196, .i2l, 1), (197, .aload_n 0, 1), (198, .getfield 166, 3), (201, .sipush 160, 3), (204, .iload_n 2, 1), (205, .imul, 1), (206, .sipush 160, 3), (209, .iadd, 1), (210, .aload_n 0, 1), (211, .getfield 62, 3)] : List (Nat × Instr × Nat)).all (fun x => decide (decode cX12_filter x.1 = .ok x.2)) = true := by decide +kernel
theorem dX12_filter_142 : decode cX12_filter 142 = .ok (.getfield 163, 3) := mm_dk kX12_filter_2 0 rfl
theorem dX12_filter_145 : decode cX12_filter 145 = .ok (.iload_n 2, 1) := mm_dk kX12_filter_2 1 rfl
theorem dX12_filter_146 : decode cX12_filter 146 = .ok (.iload 6, 2) := mm_dk kX12_filter_2 2 rfl
theorem dX12_filter_148 : decode cX12_filter 148 = .ok (.iastore, 1) := mm_dk kX12_filter_2 3 rfl
theorem dX12_filter_149 : decode cX12_filter 149 = .ok (.goto 147, 3) := mm_dk kX12_filter_2 4 rfl
theorem dX12_filter_152 : decode cX12_filter 152 = .ok (.iload 6, 2) := mm_dk kX12_filter_2 5 rfl
theorem dX12_filter_154 : decode cX12_filter 154 = .ok (.istore 7, 2) := mm_dk kX12_filter_2 6 rfl
theorem dX12_filter_156 : decode cX12_filter 156 = .ok (.aload_n 0, 1) := mm_dk kX12_filter_2 7 rfl
theorem dX12_filter_157 : decode cX12_filter 157 = .ok (.iload 6, 2) := mm_dk kX12_filter_2 8 rfl
theorem dX12_filter_159 : decode cX12_filter 159 = .ok (.i2l, 1) := mm_dk kX12_filter_2 9 rfl
theorem dX12_filter_160 : decode cX12_filter 160 = .ok (.aload_n 0, 1) := mm_dk kX12_filter_2 10 rfl
theorem dX12_filter_161 : decode cX12_filter 161 = .ok (.getfield 160, 3) := mm_dk kX12_filter_2 11 rfl
theorem dX12_filter_164 : decode cX12_filter 164 = .ok (.iload_n 2, 1) := mm_dk kX12_filter_2 12 rfl
theorem dX12_filter_165 : decode cX12_filter 165 = .ok (.iaload, 1) := mm_dk kX12_filter_2 13 rfl
theorem dX12_filter_166 : decode cX12_filter 166 = .ok (.i2l, 1) := mm_dk kX12_filter_2 14 rfl
theorem dX12_filter_167 : decode cX12_filter 167 = .ok (.ldc2_w 446, 3) := mm_dk kX12_filter_2 15 rfl
theorem dX12_filter_170 : decode cX12_filter 170 = .ok (.invokestatic 262, 3) := mm_dk kX12_filter_2 16 rfl
theorem dX12_filter_173 : decode cX12_filter 173 = .ok (.lsub, 1) := mm_dk kX12_filter_2 17 rfl
theorem dX12_filter_174 : decode cX12_filter 174 = .ok (.invokevirtual 270, 3) := mm_dk kX12_filter_2 18 rfl
theorem dX12_filter_177 : decode cX12_filter 177 = .ok (.istore 6, 2) := mm_dk kX12_filter_2 19 rfl
theorem dX12_filter_179 : decode cX12_filter 179 = .ok (.aload_n 0, 1) := mm_dk kX12_filter_2 20 rfl
theorem dX12_filter_180 : decode cX12_filter 180 = .ok (.getfield 160, 3) := mm_dk kX12_filter_2 21 rfl
theorem dX12_filter_183 : decode cX12_filter 183 = .ok (.iload_n 2, 1) := mm_dk kX12_filter_2 22 rfl
theorem dX12_filter_184 : decode cX12_filter 184 = .ok (.iload 7, 2) := mm_dk kX12_filter_2 23 rfl
theorem dX12_filter_186 : decode cX12_filter 186 = .ok (.iastore, 1) := mm_dk kX12_filter_2 24 rfl
theorem dX12_filter_187 : decode cX12_filter 187 = .ok (.iload 4, 2) := mm_dk kX12_filter_2 25 rfl
theorem dX12_filter_189 : decode cX12_filter 189 = .ok (.iconst 3, 1) := mm_dk kX12_filter_2 26 rfl
theorem dX12_filter_190 : decode cX12_filter 190 = .ok (.if_icmp .ne 106, 3) := mm_dk kX12_filter_2 27 rfl
theorem dX12_filter_193 : decode cX12_filter 193 = .ok (.aload_n 0, 1) := mm_dk kX12_filter_2 28 rfl
theorem dX12_filter_194 : decode cX12_filter 194 = .ok (.iload 6, 2) := mm_dk kX12_filter_2 29 rfl
theorem dX12_filter_196 : decode cX12_filter 196 = .ok (.i2l, 1) := mm_dk kX12_filter_2 30 rfl
theorem dX12_filter_197 : decode cX12_filter 197 = .ok (.aload_n 0, 1) := mm_dk kX12_filter_2 31 rfl
theorem dX12_filter_198 : decode cX12_filter 198 = .ok (.getfield 166, 3) := mm_dk kX12_filter_2 32 rfl
theorem dX12_filter_201 : decode cX12_filter 201 = .ok (.sipush 160, 3) := mm_dk kX12_filter_2 33 rfl
theorem dX12_filter_204 : decode cX12_filter 204 = .ok (.iload_n 2, 1) := mm_dk kX12_filter_2 34 rfl
theorem dX12_filter_205 : decode cX12_filter 205 = .ok (.imul, 1) := mm_dk kX12_filter_2 35 rfl
theorem dX12_filter_206 : decode cX12_filter 206 = .ok (.sipush 160, 3) := mm_dk kX12_filter_2 36 rfl
theorem dX12_filter_209 : decode cX12_filter 209 = .ok (.iadd, 1) := mm_dk kX12_filter_2 37 rfl
theorem dX12_filter_210 : decode cX12_filter 210 = .ok (.aload_n 0, 1) := mm_dk kX12_filter_2 38 rfl
theorem dX12_filter_211 : decode cX12_filter 211 = .ok (.getfield 62, 3) := mm_dk kX12_filter_2 39 rfl
set_option maxRecDepth 100000 in
theorem kX12_filter_3 : ([(214, .iconst 2, 1), (215, .iload_n 1, 1), (216, .imul, 1), (217, .iconst 1, 1), (218, .iadd, 1), (219, .iaload, 1), (220, .isub, 1), (221, .iaload, 1), (222, .i2l, 1), (223, .ldc2_w 448, 3), (226, .invokestatic 262, 3), (229, .ladd, 1), (230, .invokevirtual 270, 3), (233, .istore 6, 2), (235, .iconst 0, 1), (236, .istore 8, 2), (238, .iload 8, 2), (240, .sipush 159, 3), (243, .if_icmp .ge 37, 3), (246, .aload_n 0, 1), (247, .getfield 166, 3), (250, .sipush 160, 3), (253, .iload_n 2, 1), (254, .imul, 1), (255, .iload 8, 2), (257, .iadd, 1), (258, .aload_n 0, 1), (259, .getfield 166, 3), (262, .sipush 160, 3), (265, .iload_n 2, 1), (266, .imul, 1), (267, .iload 8, 2), (269, .iadd, 1), (270, .iconst 1, 1), (271, .iadd, 1), (272, .iaload, 1), (273, .iastore, 1), (274, .iinc 8 1, 3), (277, .goto (-39), 3), (280, .aload_n 0, 1)] : List (Nat × Instr × Nat)).all (fun x => decide (decode cX12_filter x.1 = .ok x.2)) = true := by decide +kernel
theorem dX12_filter_214 : decode cX12_filter 214 = .ok (.iconst 2, 1) := mm_dk kX12_filter_3 0 rfl
theorem dX12_filter_215 : decode cX12_filter 215 = .ok (.iload_n 1, 1) := mm_dk kX12_filter_3 1 rfl
theorem dX12_filter_216 : decode cX12_filter 216 = .ok (.imul, 1) := mm_dk kX12_filter_3 2 rfl
theorem dX12_filter_217 : decode cX12_filter 217 = .ok (.iconst 1, 1) := mm_dk kX12_filter_3 3 rfl
theorem dX12_filter_218 : decode cX12_filter 218 = .ok (.iadd, 1) := mm_dk kX12_filter_3 4 rfl
theorem dX12_filter_219 : decode cX12_filter 219 = .ok (.iaload, 1) := mm_dk kX12_filter_3 5 rfl
theorem dX12_filter_220 : decode cX12_filter 220 = .ok (.isub, 1) := mm_dk kX12_filter_3 6 rfl
theorem dX12_filter_221 : decode cX12_filter 221 = .ok (.iaload, 1) := mm_dk kX12_filter_3 7 rfl
theorem dX12_filter_222 : decode cX12_filter 222 = .ok (.i2l, 1) := mm_dk kX12_filter_3 8 rfl
theorem dX12_filter_223 : decode cX12_filter 223 = .ok (.ldc2_w 448, 3) := mm_dk kX12_filter_3 9 rfl
theorem dX12_filter_226 : decode cX12_filter 226 = .ok (.invokestatic 262, 3) := mm_dk kX12_filter_3 10 rfl
theorem dX12_filter_229 : decode cX12_filter 229 = .ok (.ladd, 1) := mm_dk kX12_filter_3 11 rfl
theorem dX12_filter_230 : decode cX12_filter 230 = .ok (.invokevirtual 270, 3) := mm_dk kX12_filter_3 12 rfl
theorem dX12_filter_233 : decode cX12_filter 233 = .ok (.istore 6, 2) := mm_dk kX12_filter_3 13 rfl
theorem dX12_filter_235 : decode cX12_filter 235 = .ok (.iconst 0, 1) := mm_dk kX12_filter_3 14 rfl
theorem dX12_filter_236 : decode cX12_filter 236 = .ok (.istore 8, 2) := mm_dk kX12_filter_3 15 rfl
theorem dX12_filter_238 : decode cX12_filter 238 = .ok (.iload 8, 2) := mm_dk kX12_filter_3 16 rfl
theorem dX12_filter_240 : decode cX12_filter 240 = .ok (.sipush 159, 3) := mm_dk kX12_filter_3 17 rfl
theorem dX12_filter_243 : decode cX12_filter 243 = .ok (.if_icmp .ge 37, 3) := mm_dk kX12_filter_3 18 rfl
theorem dX12_filter_246 : decode cX12_filter 246 = .ok (.aload_n 0, 1) := mm_dk kX12_filter_3 19 rfl
theorem dX12_filter_247 : decode cX12_filter 247 = .ok (.getfield 166, 3) := mm_dk kX12_filter_3 20 rfl
theorem dX12_filter_250 : decode cX12_filter 250 = .ok (.sipush 160, 3) := mm_dk kX12_filter_3 21 rfl
theorem dX12_filter_253 : decode cX12_filter 253 = .ok (.iload_n 2, 1) := mm_dk kX12_filter_3 22 rfl
theorem dX12_filter_254 : decode cX12_filter 254 = .ok (.imul, 1) := mm_dk kX12_filter_3 23 rfl
theorem dX12_filter_255 : decode cX12_filter 255 = .ok (.iload 8, 2) := mm_dk kX12_filter_3 24 rfl
theorem dX12_filter_257 : decode cX12_filter 257 = .ok (.iadd, 1) := mm_dk kX12_filter_3 25 rfl
theorem dX12_filter_258 : decode cX12_filter 258 = .ok (.aload_n 0, 1) := mm_dk kX12_filter_3 26 rfl
theorem dX12_filter_259 : decode cX12_filter 259 = .ok (.getfield 166, 3) := mm_dk kX12_filter_3 27 rfl
theorem dX12_filter_262 : decode cX12_filter 262 = .ok (.sipush 160, 3) := mm_dk kX12_filter_3 28 rfl
theorem dX12_filter_265 : decode cX12_filter 265 = .ok (.iload_n 2, 1) := mm_dk kX12_filter_3 29 rfl
theorem dX12_filter_266 : decode cX12_filter 266 = .ok (.imul, 1) := mm_dk kX12_filter_3 30 rfl
theorem dX12_filter_267 : decode cX12_filter 267 = .ok (.iload 8, 2) := mm_dk kX12_filter_3 31 rfl
theorem dX12_filter_269 : decode cX12_filter 269 = .ok (.iadd, 1) := mm_dk kX12_filter_3 32 rfl
theorem dX12_filter_270 : decode cX12_filter 270 = .ok (.iconst 1, 1) := mm_dk kX12_filter_3 33 rfl
theorem dX12_filter_271 : decode cX12_filter 271 = .ok (.iadd, 1) := mm_dk kX12_filter_3 34 rfl
theorem dX12_filter_272 : decode cX12_filter 272 = .ok (.iaload, 1) := mm_dk kX12_filter_3 35 rfl
theorem dX12_filter_273 : decode cX12_filter 273 = .ok (.iastore, 1) := mm_dk kX12_filter_3 36 rfl
theorem dX12_filter_274 : decode cX12_filter 274 = .ok (.iinc 8 1, 3) := mm_dk kX12_filter_3 37 rfl
theorem dX12_filter_277 : decode cX12_filter 277 = .ok (.goto (-39), 3) := mm_dk kX12_filter_3 38 rfl
theorem dX12_filter_280 : decode cX12_filter 280 = .ok (.aload_n 0, 1) := mm_dk kX12_filter_3 39 rfl
set_option maxRecDepth 100000 in
theorem kX12_filter_4 : ([(281, .getfield 166, 3), (284, .sipush 160, 3), (287, .iload_n 2, 1), (288, .imul, 1), (289, .sipush 159, 3), (292, .iadd, 1), (293, .iload 6, 2), (295, .iastore, 1), (296, .aload_n 0, 1), (297, .getfield 172, 3), (300, .iload 5, 2), (302, .iload 6, 2), (304, .iastore, 1), (305, .iinc 5 1, 3), (308, .goto (-271), 3), (311, .return_, 1)] : List (Nat × Instr × Nat)).all (fun x => decide (decode cX12_filter x.1 = .ok x.2)) = true := by decide +kernel
theorem dX12_filter_281 : decode cX12_filter 281 = .ok (.getfield 166, 3) := mm_dk kX12_filter_4 0 rfl
theorem dX12_filter_284 : decode cX12_filter 284 = .ok (.sipush 160, 3) := mm_dk kX12_filter_4 1 rfl
theorem dX12_filter_287 : decode cX12_filter 287 = .ok (.iload_n 2, 1) := mm_dk kX12_filter_4 2 rfl
theorem dX12_filter_288 : decode cX12_filter 288 = .ok (.imul, 1) := mm_dk kX12_filter_4 3 rfl
theorem dX12_filter_289 : decode cX12_filter 289 = .ok (.sipush 159, 3) := mm_dk kX12_filter_4 4 rfl
theorem dX12_filter_292 : decode cX12_filter 292 = .ok (.iadd, 1) := mm_dk kX12_filter_4 5 rfl
theorem dX12_filter_293 : decode cX12_filter 293 = .ok (.iload 6, 2) := mm_dk kX12_filter_4 6 rfl
theorem dX12_filter_295 : decode cX12_filter 295 = .ok (.iastore, 1) := mm_dk kX12_filter_4 7 rfl
theorem dX12_filter_296 : decode cX12_filter 296 = .ok (.aload_n 0, 1) := mm_dk kX12_filter_4 8 rfl
theorem dX12_filter_297 : decode cX12_filter 297 = .ok (.getfield 172, 3) := mm_dk kX12_filter_4 9 rfl
theorem dX12_filter_300 : decode cX12_filter 300 = .ok (.iload 5, 2) := mm_dk kX12_filter_4 10 rfl
theorem dX12_filter_302 : decode cX12_filter 302 = .ok (.iload 6, 2) := mm_dk kX12_filter_4 11 rfl
theorem dX12_filter_304 : decode cX12_filter 304 = .ok (.iastore, 1) := mm_dk kX12_filter_4 12 rfl
theorem dX12_filter_305 : decode cX12_filter 305 = .ok (.iinc 5 1, 3) := mm_dk kX12_filter_4 13 rfl
theorem dX12_filter_308 : decode cX12_filter 308 = .ok (.goto (-271), 3) := mm_dk kX12_filter_4 14 rfl
theorem dX12_filter_311 : decode cX12_filter 311 = .ok (.return_, 1) := mm_dk kX12_filter_4 15 rfl
set_option maxRecDepth 100000 in
theorem kX12_join0_0 : ([(0, .aload_n 0, 1), (1, .getfield 148, 3), (4, .iload_n 1, 1), (5, .iaload, 1), (6, .istore_n 3, 1), (7, .iconst 1, 1), (8, .istore 4, 2), (10, .iload 4, 2), (12, .iload_n 2, 1), (13, .if_icmp .ge 80, 3), (16, .aload_n 0, 1), (17, .getfield 172, 3), (20, .iload 4, 2), (22, .iaload, 1), (23, .aload_n 0, 1), (24, .getfield 172, 3), (27, .iload 4, 2), (29, .iconst 1, 1), (30, .isub, 1), (31, .iaload, 1), (32, .if_icmp .le 23, 3), (35, .aload_n 0, 1), (36, .getfield 172, 3), (39, .iload 4, 2), (41, .iaload, 1), (42, .aload_n 0, 1), (43, .getfield 172, 3), (46, .iload 4, 2), (48, .iconst 1, 1), (49, .isub, 1), (50, .iaload, 1), (51, .isub, 1), (52, .goto 20, 3), (55, .aload_n 0, 1), (56, .getfield 172, 3), (59, .iload 4, 2), (61, .iconst 1, 1), (62, .isub, 1), (63, .iaload, 1), (64, .aload_n 0, 1)] : List (Nat × Instr × Nat)).all (fun x => decide (decode cX12_join0 x.1 = .ok x.2)) = true := by decide +kernel
theorem dX12_join0_0 : decode cX12_join0 0 = .ok (.aload_n 0, 1) := mm_dk kX12_join0_0 0 rfl
theorem dX12_join0_1 : decode cX12_join0 1 = .ok (.getfield 148, 3) := mm_dk kX12_join0_0 1 rfl
theorem dX12_join0_4 : decode cX12_join0 4 = .ok (.iload_n 1, 1) := mm_dk kX12_join0_0 2 rfl
theorem dX12_join0_5 : decode cX12_join0 5 = .ok (.iaload, 1) := mm_dk kX12_join0_0 3 rfl
theorem dX12_join0_6 : decode cX12_join0 6 = .ok (.istore_n 3, 1) := mm_dk kX12_join0_0 4 rfl
theorem dX12_join0_7 : decode cX12_join0 7 = .ok (.iconst 1, 1) := mm_dk kX12_join0_0 5 rfl
theorem dX12_join0_8 : decode cX12_join0 8 = .ok (.istore 4, 2) := mm_dk kX12_join0_0 6 rfl
theorem dX12_join0_10 : decode cX12_join0 10 = .ok (.iload 4, 2) := mm_dk kX12_join0_0 7 rfl
theorem dX12_join0_12 : decode cX12_join0 12 = .ok (.iload_n 2, 1) := mm_dk kX12_join0_0 8 rfl
theorem dX12_join0_13 : decode cX12_join0 13 = .ok (.if_icmp .ge 80, 3) := mm_dk kX12_join0_0 9 rfl
theorem dX12_join0_16 : decode cX12_join0 16 = .ok (.aload_n 0, 1) := mm_dk kX12_join0_0 10 rfl
theorem dX12_join0_17 : decode cX12_join0 17 = .ok (.getfield 172, 3) := mm_dk kX12_join0_0 11 rfl
theorem dX12_join0_20 : decode cX12_join0 20 = .ok (.iload 4, 2) := mm_dk kX12_join0_0 12 rfl
theorem dX12_join0_22 : decode cX12_join0 22 = .ok (.iaload, 1) := mm_dk kX12_join0_0 13 rfl
theorem dX12_join0_23 : decode cX12_join0 23 = .ok (.aload_n 0, 1) := mm_dk kX12_join0_0 14 rfl
theorem dX12_join0_24 : decode cX12_join0 24 = .ok (.getfield 172, 3) := mm_dk kX12_join0_0 15 rfl
theorem dX12_join0_27 : decode cX12_join0 27 = .ok (.iload 4, 2) := mm_dk kX12_join0_0 16 rfl
theorem dX12_join0_29 : decode cX12_join0 29 = .ok (.iconst 1, 1) := mm_dk kX12_join0_0 17 rfl
theorem dX12_join0_30 : decode cX12_join0 30 = .ok (.isub, 1) := mm_dk kX12_join0_0 18 rfl
theorem dX12_join0_31 : decode cX12_join0 31 = .ok (.iaload, 1) := mm_dk kX12_join0_0 19 rfl
theorem dX12_join0_32 : decode cX12_join0 32 = .ok (.if_icmp .le 23, 3) := mm_dk kX12_join0_0 20 rfl
theorem dX12_join0_35 : decode cX12_join0 35 = .ok (.aload_n 0, 1) := mm_dk kX12_join0_0 21 rfl
theorem dX12_join0_36 : decode cX12_join0 36 = .ok (.getfield 172, 3) := mm_dk kX12_join0_0 22 rfl
theorem dX12_join0_39 : decode cX12_join0 39 = .ok (.iload 4, 2) := mm_dk kX12_join0_0 23 rfl
theorem dX12_join0_41 : decode cX12_join0 41 = .ok (.iaload, 1) := mm_dk kX12_join0_0 24 rfl
theorem dX12_join0_42 : decode cX12_join0 42 = .ok (.aload_n 0, 1) := mm_dk kX12_join0_0 25 rfl
theorem dX12_join0_43 : decode cX12_join0 43 = .ok (.getfield 172, 3) := mm_dk kX12_join0_0 26 rfl
theorem dX12_join0_46 : decode cX12_join0 46 = .ok (.iload 4, 2) := mm_dk kX12_join0_0 27 rfl
theorem dX12_join0_48 : decode cX12_join0 48 = .ok (.iconst 1, 1) := mm_dk kX12_join0_0 28 rfl
theorem dX12_join0_49 : decode cX12_join0 49 = .ok (.isub, 1) := mm_dk kX12_join0_0 29 rfl
theorem dX12_join0_50 : decode cX12_join0 50 = .ok (.iaload, 1) := mm_dk kX12_join0_0 30 rfl
theorem dX12_join0_51 : decode cX12_join0 51 = .ok (.isub, 1) := mm_dk kX12_join0_0 31 rfl
theorem dX12_join0_52 : decode cX12_join0 52 = .ok (.goto 20, 3) := mm_dk kX12_join0_0 32 rfl
theorem dX12_join0_55 : decode cX12_join0 55 = .ok (.aload_n 0, 1) := mm_dk kX12_join0_0 33 rfl
theorem dX12_join0_56 : decode cX12_join0 56 = .ok (.getfield 172, 3) := mm_dk kX12_join0_0 34 rfl
theorem dX12_join0_59 : decode cX12_join0 59 = .ok (.iload 4, 2) := mm_dk kX12_join0_0 35 rfl
theorem dX12_join0_61 : decode cX12_join0 61 = .ok (.iconst 1, 1) := mm_dk kX12_join0_0 36 rfl
theorem dX12_join0_62 : decode cX12_join0 62 = .ok (.isub, 1) := mm_dk kX12_join0_0 37 rfl
theorem dX12_join0_63 : decode cX12_join0 63 = .ok (.iaload, 1) := mm_dk kX12_join0_0 38 rfl
theorem dX12_join0_64 : decode cX12_join0 64 = .ok (.aload_n 0, 1) := mm_dk kX12_join0_0 39 rfl
set_option maxRecDepth 100000 in
theorem kX12_join0_1 : ([(65, .getfield 172, 3), (68, .iload 4, 2), (70, .iaload, 1), (71, .isub, 1), (72, .istore 5, 2), (74, .iload 5, 2), (76, .iload_n 3, 1), (77, .if_icmp .le 8, 3), (80, .iload 5, 2), (82, .goto 4, 3), (85, .iload_n 3, 1), (86, .istore_n 3, 1), (87, .iinc 4 1, 3), (90, .goto (-80), 3), (93, .iconst 1, 1), (94, .istore 4, 2), (96, .iload 4, 2), (98, .aload_n 0, 1), (99, .getfield 142, 3), (102, .iload_n 1, 1), (103, .iaload, 1), (104, .if_icmp .ge 68, 3), (107, .aload_n 0, 1), (108, .getfield 145, 3), (111, .sipush 322, 3), (114, .iload_n 1, 1), (115, .imul, 1), (116, .iload 4, 2), (118, .iadd, 1), (119, .iaload, 1), (120, .aload_n 0, 1), (121, .getfield 145, 3), (124, .sipush 322, 3), (127, .iload_n 1, 1), (128, .imul, 1), (129, .iload 4, 2), (131, .iadd, 1), (132, .iconst 1, 1), (133, .isub, 1), (134, .iaload, 1)] : List (Nat × Instr × Nat)).all (fun x => decide (decode cX12_join0 x.1 = .ok x.2)) = true := by decide +kernel
theorem dX12_join0_65 : decode cX12_join0 65 = .ok (.getfield 172, 3) := mm_dk kX12_join0_1 0 rfl
theorem dX12_join0_68 : decode cX12_join0 68 = .ok (.iload 4, 2) := mm_dk kX12_join0_1 1 rfl
theorem dX12_join0_70 : decode cX12_join0 70 = .ok (.iaload, 1) := mm_dk kX12_join0_1 2 rfl
theorem dX12_join0_71 : decode cX12_join0 71 = .ok (.isub, 1) := mm_dk kX12_join0_1 3 rfl
theorem dX12_join0_72 : decode cX12_join0 72 = .ok (.istore 5, 2) := mm_dk kX12_join0_1 4 rfl
theorem dX12_join0_74 : decode cX12_join0 74 = .ok (.iload 5, 2) := mm_dk kX12_join0_1 5 rfl
theorem dX12_join0_76 : decode cX12_join0 76 = .ok (.iload_n 3, 1) := mm_dk kX12_join0_1 6 rfl
theorem dX12_join0_77 : decode cX12_join0 77 = .ok (.if_icmp .le 8, 3) := mm_dk kX12_join0_1 7 rfl
theorem dX12_join0_80 : decode cX12_join0 80 = .ok (.iload 5, 2) := mm_dk kX12_join0_1 8 rfl
theorem dX12_join0_82 : decode cX12_join0 82 = .ok (.goto 4, 3) := mm_dk kX12_join0_1 9 rfl
theorem dX12_join0_85 : decode cX12_join0 85 = .ok (.iload_n 3, 1) := mm_dk kX12_join0_1 10 rfl
theorem dX12_join0_86 : decode cX12_join0 86 = .ok (.istore_n 3, 1) := mm_dk kX12_join0_1 11 rfl
theorem dX12_join0_87 : decode cX12_join0 87 = .ok (.iinc 4 1, 3) := mm_dk kX12_join0_1 12 rfl
theorem dX12_join0_90 : decode cX12_join0 90 = .ok (.goto (-80), 3) := mm_dk kX12_join0_1 13 rfl
theorem dX12_join0_93 : decode cX12_join0 93 = .ok (.iconst 1, 1) := mm_dk kX12_join0_1 14 rfl
theorem dX12_join0_94 : decode cX12_join0 94 = .ok (.istore 4, 2) := mm_dk kX12_join0_1 15 rfl
theorem dX12_join0_96 : decode cX12_join0 96 = .ok (.iload 4, 2) := mm_dk kX12_join0_1 16 rfl
theorem dX12_join0_98 : decode cX12_join0 98 = .ok (.aload_n 0, 1) := mm_dk kX12_join0_1 17 rfl
theorem dX12_join0_99 : decode cX12_join0 99 = .ok (.getfield 142, 3) := mm_dk kX12_join0_1 18 rfl
theorem dX12_join0_102 : decode cX12_join0 102 = .ok (.iload_n 1, 1) := mm_dk kX12_join0_1 19 rfl
theorem dX12_join0_103 : decode cX12_join0 103 = .ok (.iaload, 1) := mm_dk kX12_join0_1 20 rfl
theorem dX12_join0_104 : decode cX12_join0 104 = .ok (.if_icmp .ge 68, 3) := mm_dk kX12_join0_1 21 rfl
theorem dX12_join0_107 : decode cX12_join0 107 = .ok (.aload_n 0, 1) := mm_dk kX12_join0_1 22 rfl
theorem dX12_join0_108 : decode cX12_join0 108 = .ok (.getfield 145, 3) := mm_dk kX12_join0_1 23 rfl
theorem dX12_join0_111 : decode cX12_join0 111 = .ok (.sipush 322, 3) := mm_dk kX12_join0_1 24 rfl
theorem dX12_join0_114 : decode cX12_join0 114 = .ok (.iload_n 1, 1) := mm_dk kX12_join0_1 25 rfl
theorem dX12_join0_115 : decode cX12_join0 115 = .ok (.imul, 1) := mm_dk kX12_join0_1 26 rfl
theorem dX12_join0_116 : decode cX12_join0 116 = .ok (.iload 4, 2) := mm_dk kX12_join0_1 27 rfl
theorem dX12_join0_118 : decode cX12_join0 118 = .ok (.iadd, 1) := mm_dk kX12_join0_1 28 rfl
theorem dX12_join0_119 : decode cX12_join0 119 = .ok (.iaload, 1) := mm_dk kX12_join0_1 29 rfl
theorem dX12_join0_120 : decode cX12_join0 120 = .ok (.aload_n 0, 1) := mm_dk kX12_join0_1 30 rfl
theorem dX12_join0_121 : decode cX12_join0 121 = .ok (.getfield 145, 3) := mm_dk kX12_join0_1 31 rfl
theorem dX12_join0_124 : decode cX12_join0 124 = .ok (.sipush 322, 3) := mm_dk kX12_join0_1 32 rfl
theorem dX12_join0_127 : decode cX12_join0 127 = .ok (.iload_n 1, 1) := mm_dk kX12_join0_1 33 rfl
theorem dX12_join0_128 : decode cX12_join0 128 = .ok (.imul, 1) := mm_dk kX12_join0_1 34 rfl
theorem dX12_join0_129 : decode cX12_join0 129 = .ok (.iload 4, 2) := mm_dk kX12_join0_1 35 rfl
theorem dX12_join0_131 : decode cX12_join0 131 = .ok (.iadd, 1) := mm_dk kX12_join0_1 36 rfl
theorem dX12_join0_132 : decode cX12_join0 132 = .ok (.iconst 1, 1) := mm_dk kX12_join0_1 37 rfl
theorem dX12_join0_133 : decode cX12_join0 133 = .ok (.isub, 1) := mm_dk kX12_join0_1 38 rfl
theorem dX12_join0_134 : decode cX12_join0 134 = .ok (.iaload, 1) := mm_dk kX12_join0_1 39 rfl
set_option maxRecDepth 100000 in
theorem kX12_join0_2 : ([(135, .isub, 1), (136, .istore 5, 2), (138, .iload 5, 2), (140, .ifCond .ge 9, 3), (143, .iload 5, 2), (145, .ineg, 1), (146, .goto 5, 3), (149, .iload 5, 2), (151, .istore 5, 2), (153, .iload 5, 2), (155, .iload_n 3, 1), (156, .if_icmp .le 8, 3), (159, .iload 5, 2), (161, .goto 4, 3), (164, .iload_n 3, 1), (165, .istore_n 3, 1), (166, .iinc 4 1, 3), (169, .goto (-73), 3), (172, .aload_n 0, 1), (173, .getfield 142, 3), (176, .iload_n 1, 1), (177, .iaload, 1), (178, .ifCond .ne 7, 3), (181, .iconst 0, 1), (182, .goto 22, 3), (185, .aload_n 0, 1), (186, .getfield 145, 3), (189, .sipush 322, 3), (192, .iload_n 1, 1), (193, .imul, 1), (194, .aload_n 0, 1), (195, .getfield 142, 3), (198, .iload_n 1, 1), (199, .iaload, 1), (200, .iadd, 1), (201, .iconst 1, 1), (202, .isub, 1), (203, .iaload, 1), (204, .istore 4, 2), (206, .iconst 0, 1)] : List (Nat × Instr × Nat)).all (fun x => decide (decode cX12_join0 x.1 = .ok x.2)) = true := by decide +kernel
theorem dX12_join0_135 : decode cX12_join0 135 = .ok (.isub, 1) := mm_dk kX12_join0_2 0 rfl
theorem dX12_join0_136 : decode cX12_join0 136 = .ok (.istore 5, 2) := mm_dk kX12_join0_2 1 rfl
theorem dX12_join0_138 : decode cX12_join0 138 = .ok (.iload 5, 2) := mm_dk kX12_join0_2 2 rfl
theorem dX12_join0_140 : decode cX12_join0 140 = .ok (.ifCond .ge 9, 3) := mm_dk kX12_join0_2 3 rfl
theorem dX12_join0_143 : decode cX12_join0 143 = .ok (.iload 5, 2) := mm_dk kX12_join0_2 4 rfl
theorem dX12_join0_145 : decode cX12_join0 145 = .ok (.ineg, 1) := mm_dk kX12_join0_2 5 rfl
theorem dX12_join0_146 : decode cX12_join0 146 = .ok (.goto 5, 3) := mm_dk kX12_join0_2 6 rfl
theorem dX12_join0_149 : decode cX12_join0 149 = .ok (.iload 5, 2) := mm_dk kX12_join0_2 7 rfl
theorem dX12_join0_151 : decode cX12_join0 151 = .ok (.istore 5, 2) := mm_dk kX12_join0_2 8 rfl
theorem dX12_join0_153 : decode cX12_join0 153 = .ok (.iload 5, 2) := mm_dk kX12_join0_2 9 rfl
theorem dX12_join0_155 : decode cX12_join0 155 = .ok (.iload_n 3, 1) := mm_dk kX12_join0_2 10 rfl
theorem dX12_join0_156 : decode cX12_join0 156 = .ok (.if_icmp .le 8, 3) := mm_dk kX12_join0_2 11 rfl
theorem dX12_join0_159 : decode cX12_join0 159 = .ok (.iload 5, 2) := mm_dk kX12_join0_2 12 rfl
theorem dX12_join0_161 : decode cX12_join0 161 = .ok (.goto 4, 3) := mm_dk kX12_join0_2 13 rfl
theorem dX12_join0_164 : decode cX12_join0 164 = .ok (.iload_n 3, 1) := mm_dk kX12_join0_2 14 rfl
theorem dX12_join0_165 : decode cX12_join0 165 = .ok (.istore_n 3, 1) := mm_dk kX12_join0_2 15 rfl
theorem dX12_join0_166 : decode cX12_join0 166 = .ok (.iinc 4 1, 3) := mm_dk kX12_join0_2 16 rfl
theorem dX12_join0_169 : decode cX12_join0 169 = .ok (.goto (-73), 3) := mm_dk kX12_join0_2 17 rfl
theorem dX12_join0_172 : decode cX12_join0 172 = .ok (.aload_n 0, 1) := mm_dk kX12_join0_2 18 rfl
theorem dX12_join0_173 : decode cX12_join0 173 = .ok (.getfield 142, 3) := mm_dk kX12_join0_2 19 rfl
theorem dX12_join0_176 : decode cX12_join0 176 = .ok (.iload_n 1, 1) := mm_dk kX12_join0_2 20 rfl
theorem dX12_join0_177 : decode cX12_join0 177 = .ok (.iaload, 1) := mm_dk kX12_join0_2 21 rfl
theorem dX12_join0_178 : decode cX12_join0 178 = .ok (.ifCond .ne 7, 3) := mm_dk kX12_join0_2 22 rfl
theorem dX12_join0_181 : decode cX12_join0 181 = .ok (.iconst 0, 1) := mm_dk kX12_join0_2 23 rfl
theorem dX12_join0_182 : decode cX12_join0 182 = .ok (.goto 22, 3) := mm_dk kX12_join0_2 24 rfl
theorem dX12_join0_185 : decode cX12_join0 185 = .ok (.aload_n 0, 1) := mm_dk kX12_join0_2 25 rfl
theorem dX12_join0_186 : decode cX12_join0 186 = .ok (.getfield 145, 3) := mm_dk kX12_join0_2 26 rfl
theorem dX12_join0_189 : decode cX12_join0 189 = .ok (.sipush 322, 3) := mm_dk kX12_join0_2 27 rfl
theorem dX12_join0_192 : decode cX12_join0 192 = .ok (.iload_n 1, 1) := mm_dk kX12_join0_2 28 rfl
theorem dX12_join0_193 : decode cX12_join0 193 = .ok (.imul, 1) := mm_dk kX12_join0_2 29 rfl
theorem dX12_join0_194 : decode cX12_join0 194 = .ok (.aload_n 0, 1) := mm_dk kX12_join0_2 30 rfl
theorem dX12_join0_195 : decode cX12_join0 195 = .ok (.getfield 142, 3) := mm_dk kX12_join0_2 31 rfl
theorem dX12_join0_198 : decode cX12_join0 198 = .ok (.iload_n 1, 1) := mm_dk kX12_join0_2 32 rfl
theorem dX12_join0_199 : decode cX12_join0 199 = .ok (.iaload, 1) := mm_dk kX12_join0_2 33 rfl
theorem dX12_join0_200 : decode cX12_join0 200 = .ok (.iadd, 1) := mm_dk kX12_join0_2 34 rfl
theorem dX12_join0_201 : decode cX12_join0 201 = .ok (.iconst 1, 1) := mm_dk kX12_join0_2 35 rfl
theorem dX12_join0_202 : decode cX12_join0 202 = .ok (.isub, 1) := mm_dk kX12_join0_2 36 rfl
theorem dX12_join0_203 : decode cX12_join0 203 = .ok (.iaload, 1) := mm_dk kX12_join0_2 37 rfl
theorem dX12_join0_204 : decode cX12_join0 204 = .ok (.istore 4, 2) := mm_dk kX12_join0_2 38 rfl
theorem dX12_join0_206 : decode cX12_join0 206 = .ok (.iconst 0, 1) := mm_dk kX12_join0_2 39 rfl
set_option maxRecDepth 100000 in
theorem kX12_join0_3 : ([(207, .istore 5, 2), (209, .iload 5, 2), (211, .iload_n 2, 1), (212, .if_icmp .ge 74, 3), (215, .aload_n 0, 1), (216, .getfield 172, 3), (219, .iload 5, 2), (221, .aload_n 0, 1), (222, .getfield 172, 3), (225, .iload 5, 2), (227, .iaload, 1), (228, .iload 4, 2), (230, .iload_n 3, 1), (231, .iadd, 1), (232, .if_icmp .le 10, 3), (235, .iload 4, 2), (237, .iload_n 3, 1), (238, .iadd, 1), (239, .goto 31, 3), (242, .aload_n 0, 1), (243, .getfield 172, 3), (246, .iload 5, 2), (248, .iaload, 1), (249, .iload 4, 2), (251, .iload_n 3, 1), (252, .isub, 1), (253, .if_icmp .ge 10, 3), (256, .iload 4, 2), (258, .iload_n 3, 1), (259, .isub, 1), (260, .goto 10, 3), (263, .aload_n 0, 1), (264, .getfield 172, 3), (267, .iload 5, 2), (269, .iaload, 1), (270, .iastore, 1), (271, .aload_n 0, 1), (272, .getfield 172, 3), (275, .iload 5, 2), (277, .iaload, 1)] : List (Nat × Instr × Nat)).all (fun x => decide (decode cX12_join0 x.1 = .ok x.2)) = true := by decide +kernel
theorem dX12_join0_207 : decode cX12_join0 207 = .ok (.istore 5, 2) := mm_dk kX12_join0_3 0 rfl
theorem dX12_join0_209 : decode cX12_join0 209 = .ok (.iload 5, 2) := mm_dk kX12_join0_3 1 rfl
theorem dX12_join0_211 : decode cX12_join0 211 = .ok (.iload_n 2, 1) := mm_dk kX12_join0_3 2 rfl
theorem dX12_join0_212 : decode cX12_join0 212 = .ok (.if_icmp .ge 74, 3) := mm_dk kX12_join0_3 3 rfl
theorem dX12_join0_215 : decode cX12_join0 215 = .ok (.aload_n 0, 1) := mm_dk kX12_join0_3 4 rfl
theorem dX12_join0_216 : decode cX12_join0 216 = .ok (.getfield 172, 3) := mm_dk kX12_join0_3 5 rfl
theorem dX12_join0_219 : decode cX12_join0 219 = .ok (.iload 5, 2) := mm_dk kX12_join0_3 6 rfl
theorem dX12_join0_221 : decode cX12_join0 221 = .ok (.aload_n 0, 1) := mm_dk kX12_join0_3 7 rfl
theorem dX12_join0_222 : decode cX12_join0 222 = .ok (.getfield 172, 3) := mm_dk kX12_join0_3 8 rfl
theorem dX12_join0_225 : decode cX12_join0 225 = .ok (.iload 5, 2) := mm_dk kX12_join0_3 9 rfl
theorem dX12_join0_227 : decode cX12_join0 227 = .ok (.iaload, 1) := mm_dk kX12_join0_3 10 rfl
theorem dX12_join0_228 : decode cX12_join0 228 = .ok (.iload 4, 2) := mm_dk kX12_join0_3 11 rfl
theorem dX12_join0_230 : decode cX12_join0 230 = .ok (.iload_n 3, 1) := mm_dk kX12_join0_3 12 rfl
theorem dX12_join0_231 : decode cX12_join0 231 = .ok (.iadd, 1) := mm_dk kX12_join0_3 13 rfl
theorem dX12_join0_232 : decode cX12_join0 232 = .ok (.if_icmp .le 10, 3) := mm_dk kX12_join0_3 14 rfl
theorem dX12_join0_235 : decode cX12_join0 235 = .ok (.iload 4, 2) := mm_dk kX12_join0_3 15 rfl
theorem dX12_join0_237 : decode cX12_join0 237 = .ok (.iload_n 3, 1) := mm_dk kX12_join0_3 16 rfl
theorem dX12_join0_238 : decode cX12_join0 238 = .ok (.iadd, 1) := mm_dk kX12_join0_3 17 rfl
theorem dX12_join0_239 : decode cX12_join0 239 = .ok (.goto 31, 3) := mm_dk kX12_join0_3 18 rfl
theorem dX12_join0_242 : decode cX12_join0 242 = .ok (.aload_n 0, 1) := mm_dk kX12_join0_3 19 rfl
theorem dX12_join0_243 : decode cX12_join0 243 = .ok (.getfield 172, 3) := mm_dk kX12_join0_3 20 rfl
theorem dX12_join0_246 : decode cX12_join0 246 = .ok (.iload 5, 2) := mm_dk kX12_join0_3 21 rfl
theorem dX12_join0_248 : decode cX12_join0 248 = .ok (.iaload, 1) := mm_dk kX12_join0_3 22 rfl
theorem dX12_join0_249 : decode cX12_join0 249 = .ok (.iload 4, 2) := mm_dk kX12_join0_3 23 rfl
theorem dX12_join0_251 : decode cX12_join0 251 = .ok (.iload_n 3, 1) := mm_dk kX12_join0_3 24 rfl
theorem dX12_join0_252 : decode cX12_join0 252 = .ok (.isub, 1) := mm_dk kX12_join0_3 25 rfl
theorem dX12_join0_253 : decode cX12_join0 253 = .ok (.if_icmp .ge 10, 3) := mm_dk kX12_join0_3 26 rfl
theorem dX12_join0_256 : decode cX12_join0 256 = .ok (.iload 4, 2) := mm_dk kX12_join0_3 27 rfl
theorem dX12_join0_258 : decode cX12_join0 258 = .ok (.iload_n 3, 1) := mm_dk kX12_join0_3 28 rfl
theorem dX12_join0_259 : decode cX12_join0 259 = .ok (.isub, 1) := mm_dk kX12_join0_3 29 rfl
theorem dX12_join0_260 : decode cX12_join0 260 = .ok (.goto 10, 3) := mm_dk kX12_join0_3 30 rfl
theorem dX12_join0_263 : decode cX12_join0 263 = .ok (.aload_n 0, 1) := mm_dk kX12_join0_3 31 rfl
theorem dX12_join0_264 : decode cX12_join0 264 = .ok (.getfield 172, 3) := mm_dk kX12_join0_3 32 rfl
theorem dX12_join0_267 : decode cX12_join0 267 = .ok (.iload 5, 2) := mm_dk kX12_join0_3 33 rfl
theorem dX12_join0_269 : decode cX12_join0 269 = .ok (.iaload, 1) := mm_dk kX12_join0_3 34 rfl
theorem dX12_join0_270 : decode cX12_join0 270 = .ok (.iastore, 1) := mm_dk kX12_join0_3 35 rfl
theorem dX12_join0_271 : decode cX12_join0 271 = .ok (.aload_n 0, 1) := mm_dk kX12_join0_3 36 rfl
theorem dX12_join0_272 : decode cX12_join0 272 = .ok (.getfield 172, 3) := mm_dk kX12_join0_3 37 rfl
theorem dX12_join0_275 : decode cX12_join0 275 = .ok (.iload 5, 2) := mm_dk kX12_join0_3 38 rfl
theorem dX12_join0_277 : decode cX12_join0 277 = .ok (.iaload, 1) := mm_dk kX12_join0_3 39 rfl
set_option maxRecDepth 100000 in
theorem kX12_join0_4 : ([(278, .istore 4, 2), (280, .iinc 5 1, 3), (283, .goto (-74), 3), (286, .return_, 1)] : List (Nat × Instr × Nat)).all (fun x => decide (decode cX12_join0 x.1 = .ok x.2)) = true := by decide +kernel
theorem dX12_join0_278 : decode cX12_join0 278 = .ok (.istore 4, 2) := mm_dk kX12_join0_4 0 rfl
theorem dX12_join0_280 : decode cX12_join0 280 = .ok (.iinc 5 1, 3) := mm_dk kX12_join0_4 1 rfl
theorem dX12_join0_283 : decode cX12_join0 283 = .ok (.goto (-74), 3) := mm_dk kX12_join0_4 2 rfl
theorem dX12_join0_286 : decode cX12_join0 286 = .ok (.return_, 1) := mm_dk kX12_join0_4 3 rfl
set_option maxRecDepth 100000 in
theorem kX12_drift0_0 : ([(0, .aload_n 0, 1), (1, .getfield 151, 3), (4, .iload_n 1, 1), (5, .iaload, 1), (6, .istore_n 3, 1), (7, .aload_n 0, 1), (8, .getfield 151, 3), (11, .iload_n 1, 1), (12, .iconst 0, 1), (13, .iastore, 1), (14, .iload_n 3, 1), (15, .iconst 1, 1), (16, .if_icmp .ne 70, 3), (19, .iload_n 2, 1), (20, .istore 4, 2), (22, .iload 4, 2), (24, .iload_n 2, 1), (25, .iconst 2, 1), (26, .idiv, 1), (27, .if_icmp .le 25, 3), (30, .aload_n 0, 1), (31, .getfield 172, 3), (34, .iload 4, 2), (36, .aload_n 0, 1), (37, .getfield 172, 3), (40, .iload 4, 2), (42, .iconst 1, 1), (43, .isub, 1), (44, .iaload, 1), (45, .iastore, 1), (46, .iinc 4 (-1), 3), (49, .goto (-27), 3), (52, .aload_n 0, 1), (53, .getfield 172, 3), (56, .iload_n 2, 1), (57, .iconst 2, 1), (58, .idiv, 1), (59, .aload_n 0, 1), (60, .getfield 172, 3), (63, .iload_n 2, 1)] : List (Nat × Instr × Nat)).all (fun x => decide (decode cX12_drift0 x.1 = .ok x.2)) = true := by decide +kernel
theorem dX12_drift0_0 : decode cX12_drift0 0 = .ok (.aload_n 0, 1) := mm_dk kX12_drift0_0 0 rfl
theorem dX12_drift0_1 : decode cX12_drift0 1 = .ok (.getfield 151, 3) := mm_dk kX12_drift0_0 1 rfl
theorem dX12_drift0_4 : decode cX12_drift0 4 = .ok (.iload_n 1, 1) := mm_dk kX12_drift0_0 2 rfl
theorem dX12_drift0_5 : decode cX12_drift0 5 = .ok (.iaload, 1) := mm_dk kX12_drift0_0 3 rfl
theorem dX12_drift0_6 : decode cX12_drift0 6 = .ok (.istore_n 3, 1) := mm_dk kX12_drift0_0 4 rfl
theorem dX12_drift0_7 : decode cX12_drift0 7 = .ok (.aload_n 0, 1) := mm_dk kX12_drift0_0 5 rfl
theorem dX12_drift0_8 : decode cX12_drift0 8 = .ok (.getfield 151, 3) := mm_dk kX12_drift0_0 6 rfl
theorem dX12_drift0_11 : decode cX12_drift0 11 = .ok (.iload_n 1, 1) := mm_dk kX12_drift0_0 7 rfl
theorem dX12_drift0_12 : decode cX12_drift0 12 = .ok (.iconst 0, 1) := mm_dk kX12_drift0_0 8 rfl
theorem dX12_drift0_13 : decode cX12_drift0 13 = .ok (.iastore, 1) := mm_dk kX12_drift0_0 9 rfl
theorem dX12_drift0_14 : decode cX12_drift0 14 = .ok (.iload_n 3, 1) := mm_dk kX12_drift0_0 10 rfl
theorem dX12_drift0_15 : decode cX12_drift0 15 = .ok (.iconst 1, 1) := mm_dk kX12_drift0_0 11 rfl
theorem dX12_drift0_16 : decode cX12_drift0 16 = .ok (.if_icmp .ne 70, 3) := mm_dk kX12_drift0_0 12 rfl
theorem dX12_drift0_19 : decode cX12_drift0 19 = .ok (.iload_n 2, 1) := mm_dk kX12_drift0_0 13 rfl
theorem dX12_drift0_20 : decode cX12_drift0 20 = .ok (.istore 4, 2) := mm_dk kX12_drift0_0 14 rfl
theorem dX12_drift0_22 : decode cX12_drift0 22 = .ok (.iload 4, 2) := mm_dk kX12_drift0_0 15 rfl
theorem dX12_drift0_24 : decode cX12_drift0 24 = .ok (.iload_n 2, 1) := mm_dk kX12_drift0_0 16 rfl
theorem dX12_drift0_25 : decode cX12_drift0 25 = .ok (.iconst 2, 1) := mm_dk kX12_drift0_0 17 rfl
theorem dX12_drift0_26 : decode cX12_drift0 26 = .ok (.idiv, 1) := mm_dk kX12_drift0_0 18 rfl
theorem dX12_drift0_27 : decode cX12_drift0 27 = .ok (.if_icmp .le 25, 3) := mm_dk kX12_drift0_0 19 rfl
theorem dX12_drift0_30 : decode cX12_drift0 30 = .ok (.aload_n 0, 1) := mm_dk kX12_drift0_0 20 rfl
theorem dX12_drift0_31 : decode cX12_drift0 31 = .ok (.getfield 172, 3) := mm_dk kX12_drift0_0 21 rfl
theorem dX12_drift0_34 : decode cX12_drift0 34 = .ok (.iload 4, 2) := mm_dk kX12_drift0_0 22 rfl
theorem dX12_drift0_36 : decode cX12_drift0 36 = .ok (.aload_n 0, 1) := mm_dk kX12_drift0_0 23 rfl
theorem dX12_drift0_37 : decode cX12_drift0 37 = .ok (.getfield 172, 3) := mm_dk kX12_drift0_0 24 rfl
theorem dX12_drift0_40 : decode cX12_drift0 40 = .ok (.iload 4, 2) := mm_dk kX12_drift0_0 25 rfl
theorem dX12_drift0_42 : decode cX12_drift0 42 = .ok (.iconst 1, 1) := mm_dk kX12_drift0_0 26 rfl
theorem dX12_drift0_43 : decode cX12_drift0 43 = .ok (.isub, 1) := mm_dk kX12_drift0_0 27 rfl
theorem dX12_drift0_44 : decode cX12_drift0 44 = .ok (.iaload, 1) := mm_dk kX12_drift0_0 28 rfl
theorem dX12_drift0_45 : decode cX12_drift0 45 = .ok (.iastore, 1) := mm_dk kX12_drift0_0 29 rfl
theorem dX12_drift0_46 : decode cX12_drift0 46 = .ok (.iinc 4 (-1), 3) := mm_dk kX12_drift0_0 30 rfl
theorem dX12_drift0_49 : decode cX12_drift0 49 = .ok (.goto (-27), 3) := mm_dk kX12_drift0_0 31 rfl
theorem dX12_drift0_52 : decode cX12_drift0 52 = .ok (.aload_n 0, 1) := mm_dk kX12_drift0_0 32 rfl
theorem dX12_drift0_53 : decode cX12_drift0 53 = .ok (.getfield 172, 3) := mm_dk kX12_drift0_0 33 rfl
theorem dX12_drift0_56 : decode cX12_drift0 56 = .ok (.iload_n 2, 1) := mm_dk kX12_drift0_0 34 rfl
theorem dX12_drift0_57 : decode cX12_drift0 57 = .ok (.iconst 2, 1) := mm_dk kX12_drift0_0 35 rfl
theorem dX12_drift0_58 : decode cX12_drift0 58 = .ok (.idiv, 1) := mm_dk kX12_drift0_0 36 rfl
theorem dX12_drift0_59 : decode cX12_drift0 59 = .ok (.aload_n 0, 1) := mm_dk kX12_drift0_0 37 rfl
theorem dX12_drift0_60 : decode cX12_drift0 60 = .ok (.getfield 172, 3) := mm_dk kX12_drift0_0 38 rfl
theorem dX12_drift0_63 : decode cX12_drift0 63 = .ok (.iload_n 2, 1) := mm_dk kX12_drift0_0 39 rfl
set_option maxRecDepth 100000 in
theorem kX12_drift0_1 : ([(64, .iconst 2, 1), (65, .idiv, 1), (66, .iconst 1, 1), (67, .isub, 1), (68, .iaload, 1), (69, .aload_n 0, 1), (70, .getfield 172, 3), (73, .iload_n 2, 1), (74, .iconst 2, 1), (75, .idiv, 1), (76, .iconst 1, 1), (77, .iadd, 1), (78, .iaload, 1), (79, .iadd, 1), (80, .iconst 1, 1), (81, .ishr, 1), (82, .iastore, 1), (83, .goto 43, 3), (86, .iload_n 3, 1), (87, .iconst (-1), 1), (88, .if_icmp .ne 38, 3), (91, .iload_n 2, 1), (92, .iconst 2, 1), (93, .idiv, 1), (94, .istore 4, 2), (96, .iload 4, 2), (98, .iconst 1, 1), (99, .iadd, 1), (100, .iload_n 2, 1), (101, .if_icmp .ge 25, 3), (104, .aload_n 0, 1), (105, .getfield 172, 3), (108, .iload 4, 2), (110, .aload_n 0, 1), (111, .getfield 172, 3), (114, .iload 4, 2), (116, .iconst 1, 1), (117, .iadd, 1), (118, .iaload, 1), (119, .iastore, 1)] : List (Nat × Instr × Nat)).all (fun x => decide (decode cX12_drift0 x.1 = .ok x.2)) = true := by decide +kernel
theorem dX12_drift0_64 : decode cX12_drift0 64 = .ok (.iconst 2, 1) := mm_dk kX12_drift0_1 0 rfl
theorem dX12_drift0_65 : decode cX12_drift0 65 = .ok (.idiv, 1) := mm_dk kX12_drift0_1 1 rfl
theorem dX12_drift0_66 : decode cX12_drift0 66 = .ok (.iconst 1, 1) := mm_dk kX12_drift0_1 2 rfl
theorem dX12_drift0_67 : decode cX12_drift0 67 = .ok (.isub, 1) := mm_dk kX12_drift0_1 3 rfl
theorem dX12_drift0_68 : decode cX12_drift0 68 = .ok (.iaload, 1) := mm_dk kX12_drift0_1 4 rfl
theorem dX12_drift0_69 : decode cX12_drift0 69 = .ok (.aload_n 0, 1) := mm_dk kX12_drift0_1 5 rfl
theorem dX12_drift0_70 : decode cX12_drift0 70 = .ok (.getfield 172, 3) := mm_dk kX12_drift0_1 6 rfl
theorem dX12_drift0_73 : decode cX12_drift0 73 = .ok (.iload_n 2, 1) := mm_dk kX12_drift0_1 7 rfl
theorem dX12_drift0_74 : decode cX12_drift0 74 = .ok (.iconst 2, 1) := mm_dk kX12_drift0_1 8 rfl
theorem dX12_drift0_75 : decode cX12_drift0 75 = .ok (.idiv, 1) := mm_dk kX12_drift0_1 9 rfl
theorem dX12_drift0_76 : decode cX12_drift0 76 = .ok (.iconst 1, 1) := mm_dk kX12_drift0_1 10 rfl
theorem dX12_drift0_77 : decode cX12_drift0 77 = .ok (.iadd, 1) := mm_dk kX12_drift0_1 11 rfl
theorem dX12_drift0_78 : decode cX12_drift0 78 = .ok (.iaload, 1) := mm_dk kX12_drift0_1 12 rfl
theorem dX12_drift0_79 : decode cX12_drift0 79 = .ok (.iadd, 1) := mm_dk kX12_drift0_1 13 rfl
theorem dX12_drift0_80 : decode cX12_drift0 80 = .ok (.iconst 1, 1) := mm_dk kX12_drift0_1 14 rfl
theorem dX12_drift0_81 : decode cX12_drift0 81 = .ok (.ishr, 1) := mm_dk kX12_drift0_1 15 rfl
theorem dX12_drift0_82 : decode cX12_drift0 82 = .ok (.iastore, 1) := mm_dk kX12_drift0_1 16 rfl
theorem dX12_drift0_83 : decode cX12_drift0 83 = .ok (.goto 43, 3) := mm_dk kX12_drift0_1 17 rfl
theorem dX12_drift0_86 : decode cX12_drift0 86 = .ok (.iload_n 3, 1) := mm_dk kX12_drift0_1 18 rfl
theorem dX12_drift0_87 : decode cX12_drift0 87 = .ok (.iconst (-1), 1) := mm_dk kX12_drift0_1 19 rfl
theorem dX12_drift0_88 : decode cX12_drift0 88 = .ok (.if_icmp .ne 38, 3) := mm_dk kX12_drift0_1 20 rfl
theorem dX12_drift0_91 : decode cX12_drift0 91 = .ok (.iload_n 2, 1) := mm_dk kX12_drift0_1 21 rfl
theorem dX12_drift0_92 : decode cX12_drift0 92 = .ok (.iconst 2, 1) := mm_dk kX12_drift0_1 22 rfl
theorem dX12_drift0_93 : decode cX12_drift0 93 = .ok (.idiv, 1) := mm_dk kX12_drift0_1 23 rfl
theorem dX12_drift0_94 : decode cX12_drift0 94 = .ok (.istore 4, 2) := mm_dk kX12_drift0_1 24 rfl
theorem dX12_drift0_96 : decode cX12_drift0 96 = .ok (.iload 4, 2) := mm_dk kX12_drift0_1 25 rfl
theorem dX12_drift0_98 : decode cX12_drift0 98 = .ok (.iconst 1, 1) := mm_dk kX12_drift0_1 26 rfl
theorem dX12_drift0_99 : decode cX12_drift0 99 = .ok (.iadd, 1) := mm_dk kX12_drift0_1 27 rfl
theorem dX12_drift0_100 : decode cX12_drift0 100 = .ok (.iload_n 2, 1) := mm_dk kX12_drift0_1 28 rfl
theorem dX12_drift0_101 : decode cX12_drift0 101 = .ok (.if_icmp .ge 25, 3) := mm_dk kX12_drift0_1 29 rfl
theorem dX12_drift0_104 : decode cX12_drift0 104 = .ok (.aload_n 0, 1) := mm_dk kX12_drift0_1 30 rfl
theorem dX12_drift0_105 : decode cX12_drift0 105 = .ok (.getfield 172, 3) := mm_dk kX12_drift0_1 31 rfl
theorem dX12_drift0_108 : decode cX12_drift0 108 = .ok (.iload 4, 2) := mm_dk kX12_drift0_1 32 rfl
theorem dX12_drift0_110 : decode cX12_drift0 110 = .ok (.aload_n 0, 1) := mm_dk kX12_drift0_1 33 rfl
theorem dX12_drift0_111 : decode cX12_drift0 111 = .ok (.getfield 172, 3) := mm_dk kX12_drift0_1 34 rfl
theorem dX12_drift0_114 : decode cX12_drift0 114 = .ok (.iload 4, 2) := mm_dk kX12_drift0_1 35 rfl
theorem dX12_drift0_116 : decode cX12_drift0 116 = .ok (.iconst 1, 1) := mm_dk kX12_drift0_1 36 rfl
theorem dX12_drift0_117 : decode cX12_drift0 117 = .ok (.iadd, 1) := mm_dk kX12_drift0_1 37 rfl
theorem dX12_drift0_118 : decode cX12_drift0 118 = .ok (.iaload, 1) := mm_dk kX12_drift0_1 38 rfl
theorem dX12_drift0_119 : decode cX12_drift0 119 = .ok (.iastore, 1) := mm_dk kX12_drift0_1 39 rfl
set_option maxRecDepth 100000 in
theorem kX12_drift0_2 : ([(120, .iinc 4 1, 3), (123, .goto (-27), 3), (126, .iload_n 2, 1), (127, .iload_n 3, 1), (128, .iadd, 1), (129, .ireturn, 1)] : List (Nat × Instr × Nat)).all (fun x => decide (decode cX12_drift0 x.1 = .ok x.2)) = true := by decide +kernel
theorem dX12_drift0_120 : decode cX12_drift0 120 = .ok (.iinc 4 1, 3) := mm_dk kX12_drift0_2 0 rfl
theorem dX12_drift0_123 : decode cX12_drift0 123 = .ok (.goto (-27), 3) := mm_dk kX12_drift0_2 1 rfl
theorem dX12_drift0_126 : decode cX12_drift0 126 = .ok (.iload_n 2, 1) := mm_dk kX12_drift0_2 2 rfl
theorem dX12_drift0_127 : decode cX12_drift0 127 = .ok (.iload_n 3, 1) := mm_dk kX12_drift0_2 3 rfl
theorem dX12_drift0_128 : decode cX12_drift0 128 = .ok (.iadd, 1) := mm_dk kX12_drift0_2 4 rfl
theorem dX12_drift0_129 : decode cX12_drift0 129 = .ok (.ireturn, 1) := mm_dk kX12_drift0_2 5 rfl
set_option maxRecDepth 100000 in
theorem kX12_out_0 : ([(0, .aload_n 0, 1), (1, .iload_n 1, 1), (2, .invokevirtual 238, 3), (5, .ifCond .eq 38, 3), (8, .iload_n 2, 1), (9, .iconst 0, 1), (10, .aload_n 0, 1), (11, .getfield 142, 3), (14, .iload_n 1, 1), (15, .iaload, 1), (16, .iconst 1, 1), (17, .isub, 1), (18, .invokestatic 227, 3), (21, .ifCond .eq 22, 3), (24, .aload_n 0, 1), (25, .aload_n 0, 1), (26, .getfield 145, 3), (29, .sipush 322, 3), (32, .iload_n 1, 1), (33, .imul, 1), (34, .iload_n 2, 1), (35, .iadd, 1), (36, .iaload, 1), (37, .invokevirtual 235, 3), (40, .goto 8, 3), (43, .aload_n 0, 1), (44, .iconst (-1), 1), (45, .invokevirtual 390, 3), (48, .ireturn, 1)] : List (Nat × Instr × Nat)).all (fun x => decide (decode cX12_out x.1 = .ok x.2)) = true := by decide +kernel
theorem dX12_out_0 : decode cX12_out 0 = .ok (.aload_n 0, 1) := mm_dk kX12_out_0 0 rfl
theorem dX12_out_1 : decode cX12_out 1 = .ok (.iload_n 1, 1) := mm_dk kX12_out_0 1 rfl
theorem dX12_out_2 : decode cX12_out 2 = .ok (.invokevirtual 238, 3) := mm_dk kX12_out_0 2 rfl
theorem dX12_out_5 : decode cX12_out 5 = .ok (.ifCond .eq 38, 3) := mm_dk kX12_out_0 3 rfl
theorem dX12_out_8 : decode cX12_out 8 = .ok (.iload_n 2, 1) := mm_dk kX12_out_0 4 rfl
theorem dX12_out_9 : decode cX12_out 9 = .ok (.iconst 0, 1) := mm_dk kX12_out_0 5 rfl
theorem dX12_out_10 : decode cX12_out 10 = .ok (.aload_n 0, 1) := mm_dk kX12_out_0 6 rfl
theorem dX12_out_11 : decode cX12_out 11 = .ok (.getfield 142, 3) := mm_dk kX12_out_0 7 rfl
theorem dX12_out_14 : decode cX12_out 14 = .ok (.iload_n 1, 1) := mm_dk kX12_out_0 8 rfl
theorem dX12_out_15 : decode cX12_out 15 = .ok (.iaload, 1) := mm_dk kX12_out_0 9 rfl
theorem dX12_out_16 : decode cX12_out 16 = .ok (.iconst 1, 1) := mm_dk kX12_out_0 10 rfl
theorem dX12_out_17 : decode cX12_out 17 = .ok (.isub, 1) := mm_dk kX12_out_0 11 rfl
theorem dX12_out_18 : decode cX12_out 18 = .ok (.invokestatic 227, 3) := mm_dk kX12_out_0 12 rfl
theorem dX12_out_21 : decode cX12_out 21 = .ok (.ifCond .eq 22, 3) := mm_dk kX12_out_0 13 rfl
theorem dX12_out_24 : decode cX12_out 24 = .ok (.aload_n 0, 1) := mm_dk kX12_out_0 14 rfl
theorem dX12_out_25 : decode cX12_out 25 = .ok (.aload_n 0, 1) := mm_dk kX12_out_0 15 rfl
theorem dX12_out_26 : decode cX12_out 26 = .ok (.getfield 145, 3) := mm_dk kX12_out_0 16 rfl
theorem dX12_out_29 : decode cX12_out 29 = .ok (.sipush 322, 3) := mm_dk kX12_out_0 17 rfl
theorem dX12_out_32 : decode cX12_out 32 = .ok (.iload_n 1, 1) := mm_dk kX12_out_0 18 rfl
theorem dX12_out_33 : decode cX12_out 33 = .ok (.imul, 1) := mm_dk kX12_out_0 19 rfl
theorem dX12_out_34 : decode cX12_out 34 = .ok (.iload_n 2, 1) := mm_dk kX12_out_0 20 rfl
theorem dX12_out_35 : decode cX12_out 35 = .ok (.iadd, 1) := mm_dk kX12_out_0 21 rfl
theorem dX12_out_36 : decode cX12_out 36 = .ok (.iaload, 1) := mm_dk kX12_out_0 22 rfl
theorem dX12_out_37 : decode cX12_out 37 = .ok (.invokevirtual 235, 3) := mm_dk kX12_out_0 23 rfl
theorem dX12_out_40 : decode cX12_out 40 = .ok (.goto 8, 3) := mm_dk kX12_out_0 24 rfl
theorem dX12_out_43 : decode cX12_out 43 = .ok (.aload_n 0, 1) := mm_dk kX12_out_0 25 rfl
theorem dX12_out_44 : decode cX12_out 44 = .ok (.iconst (-1), 1) := mm_dk kX12_out_0 26 rfl
theorem dX12_out_45 : decode cX12_out 45 = .ok (.invokevirtual 390, 3) := mm_dk kX12_out_0 27 rfl
theorem dX12_out_48 : decode cX12_out 48 = .ok (.ireturn, 1) := mm_dk kX12_out_0 28 rfl
set_option maxRecDepth 100000 in
theorem kX12_state_0 : ([(0, .aload_n 0, 1), (1, .iload_n 1, 1), (2, .invokevirtual 238, 3), (5, .ifCond .eq 51, 3), (8, .iload_n 2, 1), (9, .iconst 0, 1), (10, .iconst 1, 1), (11, .invokestatic 227, 3), (14, .ifCond .eq 42, 3), (17, .iload_n 3, 1), (18, .iconst 0, 1), (19, .iconst 3, 1), (20, .invokestatic 227, 3), (23, .ifCond .eq 33, 3), (26, .iload 4, 2), (28, .iconst 0, 1), (29, .iload_n 3, 1), (30, .ifCond .ne 9, 3), (33, .sipush 159, 3), (36, .goto 14, 3), (39, .iload_n 3, 1), (40, .iconst 3, 1), (41, .if_icmp .ne 7, 3), (44, .iconst 0, 1), (45, .goto 5, 3), (48, .bipush 7, 2), (50, .invokestatic 227, 3), (53, .ifCond .ne 9, 3), (56, .aload_n 0, 1), (57, .iconst (-1), 1), (58, .invokevirtual 390, 3), (61, .ireturn, 1), (62, .iconst 2, 1), (63, .iload_n 1, 1), (64, .imul, 1), (65, .iload_n 2, 1), (66, .iadd, 1), (67, .istore 5, 2), (69, .aload_n 0, 1), (70, .iload_n 3, 1)] : List (Nat × Instr × Nat)).all (fun x => decide (decode cX12_state x.1 = .ok x.2)) = true := by decide +kernel
theorem dX12_state_0 : decode cX12_state 0 = .ok (.aload_n 0, 1) := mm_dk kX12_state_0 0 rfl
theorem dX12_state_1 : decode cX12_state 1 = .ok (.iload_n 1, 1) := mm_dk kX12_state_0 1 rfl
theorem dX12_state_2 : decode cX12_state 2 = .ok (.invokevirtual 238, 3) := mm_dk kX12_state_0 2 rfl
theorem dX12_state_5 : decode cX12_state 5 = .ok (.ifCond .eq 51, 3) := mm_dk kX12_state_0 3 rfl
theorem dX12_state_8 : decode cX12_state 8 = .ok (.iload_n 2, 1) := mm_dk kX12_state_0 4 rfl
theorem dX12_state_9 : decode cX12_state 9 = .ok (.iconst 0, 1) := mm_dk kX12_state_0 5 rfl
theorem dX12_state_10 : decode cX12_state 10 = .ok (.iconst 1, 1) := mm_dk kX12_state_0 6 rfl
theorem dX12_state_11 : decode cX12_state 11 = .ok (.invokestatic 227, 3) := mm_dk kX12_state_0 7 rfl
theorem dX12_state_14 : decode cX12_state 14 = .ok (.ifCond .eq 42, 3) := mm_dk kX12_state_0 8 rfl
theorem dX12_state_17 : decode cX12_state 17 = .ok (.iload_n 3, 1) := mm_dk kX12_state_0 9 rfl
theorem dX12_state_18 : decode cX12_state 18 = .ok (.iconst 0, 1) := mm_dk kX12_state_0 10 rfl
theorem dX12_state_19 : decode cX12_state 19 = .ok (.iconst 3, 1) := mm_dk kX12_state_0 11 rfl
theorem dX12_state_20 : decode cX12_state 20 = .ok (.invokestatic 227, 3) := mm_dk kX12_state_0 12 rfl
theorem dX12_state_23 : decode cX12_state 23 = .ok (.ifCond .eq 33, 3) := mm_dk kX12_state_0 13 rfl
theorem dX12_state_26 : decode cX12_state 26 = .ok (.iload 4, 2) := mm_dk kX12_state_0 14 rfl
theorem dX12_state_28 : decode cX12_state 28 = .ok (.iconst 0, 1) := mm_dk kX12_state_0 15 rfl
theorem dX12_state_29 : decode cX12_state 29 = .ok (.iload_n 3, 1) := mm_dk kX12_state_0 16 rfl
theorem dX12_state_30 : decode cX12_state 30 = .ok (.ifCond .ne 9, 3) := mm_dk kX12_state_0 17 rfl
theorem dX12_state_33 : decode cX12_state 33 = .ok (.sipush 159, 3) := mm_dk kX12_state_0 18 rfl
theorem dX12_state_36 : decode cX12_state 36 = .ok (.goto 14, 3) := mm_dk kX12_state_0 19 rfl
theorem dX12_state_39 : decode cX12_state 39 = .ok (.iload_n 3, 1) := mm_dk kX12_state_0 20 rfl
theorem dX12_state_40 : decode cX12_state 40 = .ok (.iconst 3, 1) := mm_dk kX12_state_0 21 rfl
theorem dX12_state_41 : decode cX12_state 41 = .ok (.if_icmp .ne 7, 3) := mm_dk kX12_state_0 22 rfl
theorem dX12_state_44 : decode cX12_state 44 = .ok (.iconst 0, 1) := mm_dk kX12_state_0 23 rfl
theorem dX12_state_45 : decode cX12_state 45 = .ok (.goto 5, 3) := mm_dk kX12_state_0 24 rfl
theorem dX12_state_48 : decode cX12_state 48 = .ok (.bipush 7, 2) := mm_dk kX12_state_0 25 rfl
theorem dX12_state_50 : decode cX12_state 50 = .ok (.invokestatic 227, 3) := mm_dk kX12_state_0 26 rfl
theorem dX12_state_53 : decode cX12_state 53 = .ok (.ifCond .ne 9, 3) := mm_dk kX12_state_0 27 rfl
theorem dX12_state_56 : decode cX12_state 56 = .ok (.aload_n 0, 1) := mm_dk kX12_state_0 28 rfl
theorem dX12_state_57 : decode cX12_state 57 = .ok (.iconst (-1), 1) := mm_dk kX12_state_0 29 rfl
theorem dX12_state_58 : decode cX12_state 58 = .ok (.invokevirtual 390, 3) := mm_dk kX12_state_0 30 rfl
theorem dX12_state_61 : decode cX12_state 61 = .ok (.ireturn, 1) := mm_dk kX12_state_0 31 rfl
theorem dX12_state_62 : decode cX12_state 62 = .ok (.iconst 2, 1) := mm_dk kX12_state_0 32 rfl
theorem dX12_state_63 : decode cX12_state 63 = .ok (.iload_n 1, 1) := mm_dk kX12_state_0 33 rfl
theorem dX12_state_64 : decode cX12_state 64 = .ok (.imul, 1) := mm_dk kX12_state_0 34 rfl
theorem dX12_state_65 : decode cX12_state 65 = .ok (.iload_n 2, 1) := mm_dk kX12_state_0 35 rfl
theorem dX12_state_66 : decode cX12_state 66 = .ok (.iadd, 1) := mm_dk kX12_state_0 36 rfl
theorem dX12_state_67 : decode cX12_state 67 = .ok (.istore 5, 2) := mm_dk kX12_state_0 37 rfl
theorem dX12_state_69 : decode cX12_state 69 = .ok (.aload_n 0, 1) := mm_dk kX12_state_0 38 rfl
theorem dX12_state_70 : decode cX12_state 70 = .ok (.iload_n 3, 1) := mm_dk kX12_state_0 39 rfl
set_option maxRecDepth 100000 in
theorem kX12_state_1 : ([(71, .ifCond .ne 20, 3), (74, .aload_n 0, 1), (75, .getfield 53, 3), (78, .sipush 160, 3), (81, .iload 5, 2), (83, .imul, 1), (84, .iload 4, 2), (86, .iadd, 1), (87, .iaload, 1), (88, .goto 52, 3), (91, .iload_n 3, 1), (92, .iconst 1, 1), (93, .if_icmp .ne 19, 3), (96, .aload_n 0, 1), (97, .getfield 56, 3), (100, .bipush 8, 2), (102, .iload 5, 2), (104, .imul, 1), (105, .iload 4, 2), (107, .iadd, 1), (108, .iaload, 1), (109, .goto 31, 3), (112, .iload_n 3, 1), (113, .iconst 2, 1), (114, .if_icmp .ne 19, 3), (117, .aload_n 0, 1), (118, .getfield 59, 3), (121, .bipush 8, 2), (123, .iload 5, 2), (125, .imul, 1), (126, .iload 4, 2), (128, .iadd, 1), (129, .iaload, 1), (130, .goto 10, 3), (133, .aload_n 0, 1), (134, .getfield 62, 3), (137, .iload 5, 2), (139, .iaload, 1), (140, .invokevirtual 235, 3), (143, .ireturn, 1)] : List (Nat × Instr × Nat)).all (fun x => decide (decode cX12_state x.1 = .ok x.2)) = true := by decide +kernel
theorem dX12_state_71 : decode cX12_state 71 = .ok (.ifCond .ne 20, 3) := mm_dk kX12_state_1 0 rfl
theorem dX12_state_74 : decode cX12_state 74 = .ok (.aload_n 0, 1) := mm_dk kX12_state_1 1 rfl
theorem dX12_state_75 : decode cX12_state 75 = .ok (.getfield 53, 3) := mm_dk kX12_state_1 2 rfl
theorem dX12_state_78 : decode cX12_state 78 = .ok (.sipush 160, 3) := mm_dk kX12_state_1 3 rfl
theorem dX12_state_81 : decode cX12_state 81 = .ok (.iload 5, 2) := mm_dk kX12_state_1 4 rfl
theorem dX12_state_83 : decode cX12_state 83 = .ok (.imul, 1) := mm_dk kX12_state_1 5 rfl
theorem dX12_state_84 : decode cX12_state 84 = .ok (.iload 4, 2) := mm_dk kX12_state_1 6 rfl
theorem dX12_state_86 : decode cX12_state 86 = .ok (.iadd, 1) := mm_dk kX12_state_1 7 rfl
theorem dX12_state_87 : decode cX12_state 87 = .ok (.iaload, 1) := mm_dk kX12_state_1 8 rfl
theorem dX12_state_88 : decode cX12_state 88 = .ok (.goto 52, 3) := mm_dk kX12_state_1 9 rfl
theorem dX12_state_91 : decode cX12_state 91 = .ok (.iload_n 3, 1) := mm_dk kX12_state_1 10 rfl
theorem dX12_state_92 : decode cX12_state 92 = .ok (.iconst 1, 1) := mm_dk kX12_state_1 11 rfl
theorem dX12_state_93 : decode cX12_state 93 = .ok (.if_icmp .ne 19, 3) := mm_dk kX12_state_1 12 rfl
theorem dX12_state_96 : decode cX12_state 96 = .ok (.aload_n 0, 1) := mm_dk kX12_state_1 13 rfl
theorem dX12_state_97 : decode cX12_state 97 = .ok (.getfield 56, 3) := mm_dk kX12_state_1 14 rfl
theorem dX12_state_100 : decode cX12_state 100 = .ok (.bipush 8, 2) := mm_dk kX12_state_1 15 rfl
theorem dX12_state_102 : decode cX12_state 102 = .ok (.iload 5, 2) := mm_dk kX12_state_1 16 rfl
theorem dX12_state_104 : decode cX12_state 104 = .ok (.imul, 1) := mm_dk kX12_state_1 17 rfl
theorem dX12_state_105 : decode cX12_state 105 = .ok (.iload 4, 2) := mm_dk kX12_state_1 18 rfl
theorem dX12_state_107 : decode cX12_state 107 = .ok (.iadd, 1) := mm_dk kX12_state_1 19 rfl
theorem dX12_state_108 : decode cX12_state 108 = .ok (.iaload, 1) := mm_dk kX12_state_1 20 rfl
theorem dX12_state_109 : decode cX12_state 109 = .ok (.goto 31, 3) := mm_dk kX12_state_1 21 rfl
theorem dX12_state_112 : decode cX12_state 112 = .ok (.iload_n 3, 1) := mm_dk kX12_state_1 22 rfl
theorem dX12_state_113 : decode cX12_state 113 = .ok (.iconst 2, 1) := mm_dk kX12_state_1 23 rfl
theorem dX12_state_114 : decode cX12_state 114 = .ok (.if_icmp .ne 19, 3) := mm_dk kX12_state_1 24 rfl
theorem dX12_state_117 : decode cX12_state 117 = .ok (.aload_n 0, 1) := mm_dk kX12_state_1 25 rfl
theorem dX12_state_118 : decode cX12_state 118 = .ok (.getfield 59, 3) := mm_dk kX12_state_1 26 rfl
theorem dX12_state_121 : decode cX12_state 121 = .ok (.bipush 8, 2) := mm_dk kX12_state_1 27 rfl
theorem dX12_state_123 : decode cX12_state 123 = .ok (.iload 5, 2) := mm_dk kX12_state_1 28 rfl
theorem dX12_state_125 : decode cX12_state 125 = .ok (.imul, 1) := mm_dk kX12_state_1 29 rfl
theorem dX12_state_126 : decode cX12_state 126 = .ok (.iload 4, 2) := mm_dk kX12_state_1 30 rfl
theorem dX12_state_128 : decode cX12_state 128 = .ok (.iadd, 1) := mm_dk kX12_state_1 31 rfl
theorem dX12_state_129 : decode cX12_state 129 = .ok (.iaload, 1) := mm_dk kX12_state_1 32 rfl
theorem dX12_state_130 : decode cX12_state 130 = .ok (.goto 10, 3) := mm_dk kX12_state_1 33 rfl
theorem dX12_state_133 : decode cX12_state 133 = .ok (.aload_n 0, 1) := mm_dk kX12_state_1 34 rfl
theorem dX12_state_134 : decode cX12_state 134 = .ok (.getfield 62, 3) := mm_dk kX12_state_1 35 rfl
theorem dX12_state_137 : decode cX12_state 137 = .ok (.iload 5, 2) := mm_dk kX12_state_1 36 rfl
theorem dX12_state_139 : decode cX12_state 139 = .ok (.iaload, 1) := mm_dk kX12_state_1 37 rfl
theorem dX12_state_140 : decode cX12_state 140 = .ok (.invokevirtual 235, 3) := mm_dk kX12_state_1 38 rfl
theorem dX12_state_143 : decode cX12_state 143 = .ok (.ireturn, 1) := mm_dk kX12_state_1 39 rfl
set_option maxRecDepth 100000 in
theorem kX12_finding_0 : ([(0, .aload_n 0, 1), (1, .iload_n 1, 1), (2, .invokevirtual 238, 3), (5, .ifCond .eq 16, 3), (8, .aload_n 0, 1), (9, .aload_n 0, 1), (10, .getfield 136, 3), (13, .iload_n 1, 1), (14, .iaload, 1), (15, .invokevirtual 235, 3), (18, .goto 8, 3), (21, .aload_n 0, 1), (22, .iconst (-1), 1), (23, .invokevirtual 231, 3), (26, .ireturn, 1)] : List (Nat × Instr × Nat)).all (fun x => decide (decode cX12_finding x.1 = .ok x.2)) = true := by decide +kernel
theorem dX12_finding_0 : decode cX12_finding 0 = .ok (.aload_n 0, 1) := mm_dk kX12_finding_0 0 rfl
theorem dX12_finding_1 : decode cX12_finding 1 = .ok (.iload_n 1, 1) := mm_dk kX12_finding_0 1 rfl
theorem dX12_finding_2 : decode cX12_finding 2 = .ok (.invokevirtual 238, 3) := mm_dk kX12_finding_0 2 rfl
theorem dX12_finding_5 : decode cX12_finding 5 = .ok (.ifCond .eq 16, 3) := mm_dk kX12_finding_0 3 rfl
theorem dX12_finding_8 : decode cX12_finding 8 = .ok (.aload_n 0, 1) := mm_dk kX12_finding_0 4 rfl
theorem dX12_finding_9 : decode cX12_finding 9 = .ok (.aload_n 0, 1) := mm_dk kX12_finding_0 5 rfl
theorem dX12_finding_10 : decode cX12_finding 10 = .ok (.getfield 136, 3) := mm_dk kX12_finding_0 6 rfl
theorem dX12_finding_13 : decode cX12_finding 13 = .ok (.iload_n 1, 1) := mm_dk kX12_finding_0 7 rfl
theorem dX12_finding_14 : decode cX12_finding 14 = .ok (.iaload, 1) := mm_dk kX12_finding_0 8 rfl
theorem dX12_finding_15 : decode cX12_finding 15 = .ok (.invokevirtual 235, 3) := mm_dk kX12_finding_0 9 rfl
theorem dX12_finding_18 : decode cX12_finding 18 = .ok (.goto 8, 3) := mm_dk kX12_finding_0 10 rfl
theorem dX12_finding_21 : decode cX12_finding 21 = .ok (.aload_n 0, 1) := mm_dk kX12_finding_0 11 rfl
theorem dX12_finding_22 : decode cX12_finding 22 = .ok (.iconst (-1), 1) := mm_dk kX12_finding_0 12 rfl
theorem dX12_finding_23 : decode cX12_finding 23 = .ok (.invokevirtual 231, 3) := mm_dk kX12_finding_0 13 rfl
theorem dX12_finding_26 : decode cX12_finding 26 = .ok (.ireturn, 1) := mm_dk kX12_finding_0 14 rfl
set_option maxRecDepth 100000 in
theorem kX12_repair_0 : ([(0, .aload_n 0, 1), (1, .iload_n 1, 1), (2, .invokevirtual 238, 3), (5, .ifCond .ne 9, 3), (8, .aload_n 0, 1), (9, .iconst (-1), 1), (10, .invokevirtual 231, 3), (13, .ireturn, 1), (14, .aload_n 0, 1), (15, .getfield 139, 3), (18, .iload_n 1, 1), (19, .iaload, 1), (20, .bipush (-4), 2), (22, .if_icmp .ne 12, 3), (25, .aload_n 0, 1), (26, .bipush (-4), 2), (28, .invokevirtual 231, 3), (31, .goto 13, 3), (34, .aload_n 0, 1), (35, .aload_n 0, 1), (36, .getfield 139, 3), (39, .iload_n 1, 1), (40, .iaload, 1), (41, .invokevirtual 235, 3), (44, .ireturn, 1)] : List (Nat × Instr × Nat)).all (fun x => decide (decode cX12_repair x.1 = .ok x.2)) = true := by decide +kernel
theorem dX12_repair_0 : decode cX12_repair 0 = .ok (.aload_n 0, 1) := mm_dk kX12_repair_0 0 rfl
theorem dX12_repair_1 : decode cX12_repair 1 = .ok (.iload_n 1, 1) := mm_dk kX12_repair_0 1 rfl
theorem dX12_repair_2 : decode cX12_repair 2 = .ok (.invokevirtual 238, 3) := mm_dk kX12_repair_0 2 rfl
theorem dX12_repair_5 : decode cX12_repair 5 = .ok (.ifCond .ne 9, 3) := mm_dk kX12_repair_0 3 rfl
theorem dX12_repair_8 : decode cX12_repair 8 = .ok (.aload_n 0, 1) := mm_dk kX12_repair_0 4 rfl
theorem dX12_repair_9 : decode cX12_repair 9 = .ok (.iconst (-1), 1) := mm_dk kX12_repair_0 5 rfl
theorem dX12_repair_10 : decode cX12_repair 10 = .ok (.invokevirtual 231, 3) := mm_dk kX12_repair_0 6 rfl
theorem dX12_repair_13 : decode cX12_repair 13 = .ok (.ireturn, 1) := mm_dk kX12_repair_0 7 rfl
theorem dX12_repair_14 : decode cX12_repair 14 = .ok (.aload_n 0, 1) := mm_dk kX12_repair_0 8 rfl
theorem dX12_repair_15 : decode cX12_repair 15 = .ok (.getfield 139, 3) := mm_dk kX12_repair_0 9 rfl
theorem dX12_repair_18 : decode cX12_repair 18 = .ok (.iload_n 1, 1) := mm_dk kX12_repair_0 10 rfl
theorem dX12_repair_19 : decode cX12_repair 19 = .ok (.iaload, 1) := mm_dk kX12_repair_0 11 rfl
theorem dX12_repair_20 : decode cX12_repair 20 = .ok (.bipush (-4), 2) := mm_dk kX12_repair_0 12 rfl
theorem dX12_repair_22 : decode cX12_repair 22 = .ok (.if_icmp .ne 12, 3) := mm_dk kX12_repair_0 13 rfl
theorem dX12_repair_25 : decode cX12_repair 25 = .ok (.aload_n 0, 1) := mm_dk kX12_repair_0 14 rfl
theorem dX12_repair_26 : decode cX12_repair 26 = .ok (.bipush (-4), 2) := mm_dk kX12_repair_0 15 rfl
theorem dX12_repair_28 : decode cX12_repair 28 = .ok (.invokevirtual 231, 3) := mm_dk kX12_repair_0 16 rfl
theorem dX12_repair_31 : decode cX12_repair 31 = .ok (.goto 13, 3) := mm_dk kX12_repair_0 17 rfl
theorem dX12_repair_34 : decode cX12_repair 34 = .ok (.aload_n 0, 1) := mm_dk kX12_repair_0 18 rfl
theorem dX12_repair_35 : decode cX12_repair 35 = .ok (.aload_n 0, 1) := mm_dk kX12_repair_0 19 rfl
theorem dX12_repair_36 : decode cX12_repair 36 = .ok (.getfield 139, 3) := mm_dk kX12_repair_0 20 rfl
theorem dX12_repair_39 : decode cX12_repair 39 = .ok (.iload_n 1, 1) := mm_dk kX12_repair_0 21 rfl
theorem dX12_repair_40 : decode cX12_repair 40 = .ok (.iaload, 1) := mm_dk kX12_repair_0 22 rfl
theorem dX12_repair_41 : decode cX12_repair 41 = .ok (.invokevirtual 235, 3) := mm_dk kX12_repair_0 23 rfl
theorem dX12_repair_44 : decode cX12_repair 44 = .ok (.ireturn, 1) := mm_dk kX12_repair_0 24 rfl
set_option maxRecDepth 100000 in
theorem kX12_stage_0 : ([(0, .aload_n 0, 1), (1, .iload_n 1, 1), (2, .invokevirtual 238, 3), (5, .ifCond .eq 22, 3), (8, .iload_n 2, 1), (9, .iconst 0, 1), (10, .iconst 3, 1), (11, .invokestatic 227, 3), (14, .ifCond .eq 13, 3), (17, .iload_n 3, 1), (18, .iconst 0, 1), (19, .bipush 6, 2), (21, .invokestatic 227, 3), (24, .ifCond .ne 9, 3), (27, .aload_n 0, 1), (28, .iconst (-1), 1), (29, .invokevirtual 231, 3), (32, .ireturn, 1), (33, .iload_n 3, 1), (34, .iconst 4, 1), (35, .if_icmp .le 10, 3), (38, .aload_n 0, 1), (39, .bipush (-5), 2), (41, .invokevirtual 231, 3), (44, .ireturn, 1), (45, .iconst 4, 1), (46, .iload_n 1, 1), (47, .imul, 1), (48, .iload_n 2, 1), (49, .iadd, 1), (50, .istore 4, 2), (52, .aload_n 0, 1), (53, .getfield 154, 3), (56, .iload 4, 2), (58, .iaload, 1), (59, .istore 5, 2), (61, .aload_n 0, 1), (62, .getfield 154, 3), (65, .iload 4, 2), (67, .iload_n 3, 1)] : List (Nat × Instr × Nat)).all (fun x => decide (decode cX12_stage x.1 = .ok x.2)) = true := by decide +kernel
theorem dX12_stage_0 : decode cX12_stage 0 = .ok (.aload_n 0, 1) := mm_dk kX12_stage_0 0 rfl
theorem dX12_stage_1 : decode cX12_stage 1 = .ok (.iload_n 1, 1) := mm_dk kX12_stage_0 1 rfl
theorem dX12_stage_2 : decode cX12_stage 2 = .ok (.invokevirtual 238, 3) := mm_dk kX12_stage_0 2 rfl
theorem dX12_stage_5 : decode cX12_stage 5 = .ok (.ifCond .eq 22, 3) := mm_dk kX12_stage_0 3 rfl
theorem dX12_stage_8 : decode cX12_stage 8 = .ok (.iload_n 2, 1) := mm_dk kX12_stage_0 4 rfl
theorem dX12_stage_9 : decode cX12_stage 9 = .ok (.iconst 0, 1) := mm_dk kX12_stage_0 5 rfl
theorem dX12_stage_10 : decode cX12_stage 10 = .ok (.iconst 3, 1) := mm_dk kX12_stage_0 6 rfl
theorem dX12_stage_11 : decode cX12_stage 11 = .ok (.invokestatic 227, 3) := mm_dk kX12_stage_0 7 rfl
theorem dX12_stage_14 : decode cX12_stage 14 = .ok (.ifCond .eq 13, 3) := mm_dk kX12_stage_0 8 rfl
theorem dX12_stage_17 : decode cX12_stage 17 = .ok (.iload_n 3, 1) := mm_dk kX12_stage_0 9 rfl
theorem dX12_stage_18 : decode cX12_stage 18 = .ok (.iconst 0, 1) := mm_dk kX12_stage_0 10 rfl
theorem dX12_stage_19 : decode cX12_stage 19 = .ok (.bipush 6, 2) := mm_dk kX12_stage_0 11 rfl
theorem dX12_stage_21 : decode cX12_stage 21 = .ok (.invokestatic 227, 3) := mm_dk kX12_stage_0 12 rfl
theorem dX12_stage_24 : decode cX12_stage 24 = .ok (.ifCond .ne 9, 3) := mm_dk kX12_stage_0 13 rfl
theorem dX12_stage_27 : decode cX12_stage 27 = .ok (.aload_n 0, 1) := mm_dk kX12_stage_0 14 rfl
theorem dX12_stage_28 : decode cX12_stage 28 = .ok (.iconst (-1), 1) := mm_dk kX12_stage_0 15 rfl
theorem dX12_stage_29 : decode cX12_stage 29 = .ok (.invokevirtual 231, 3) := mm_dk kX12_stage_0 16 rfl
theorem dX12_stage_32 : decode cX12_stage 32 = .ok (.ireturn, 1) := mm_dk kX12_stage_0 17 rfl
theorem dX12_stage_33 : decode cX12_stage 33 = .ok (.iload_n 3, 1) := mm_dk kX12_stage_0 18 rfl
theorem dX12_stage_34 : decode cX12_stage 34 = .ok (.iconst 4, 1) := mm_dk kX12_stage_0 19 rfl
theorem dX12_stage_35 : decode cX12_stage 35 = .ok (.if_icmp .le 10, 3) := mm_dk kX12_stage_0 20 rfl
theorem dX12_stage_38 : decode cX12_stage 38 = .ok (.aload_n 0, 1) := mm_dk kX12_stage_0 21 rfl
theorem dX12_stage_39 : decode cX12_stage 39 = .ok (.bipush (-5), 2) := mm_dk kX12_stage_0 22 rfl
theorem dX12_stage_41 : decode cX12_stage 41 = .ok (.invokevirtual 231, 3) := mm_dk kX12_stage_0 23 rfl
theorem dX12_stage_44 : decode cX12_stage 44 = .ok (.ireturn, 1) := mm_dk kX12_stage_0 24 rfl
theorem dX12_stage_45 : decode cX12_stage 45 = .ok (.iconst 4, 1) := mm_dk kX12_stage_0 25 rfl
theorem dX12_stage_46 : decode cX12_stage 46 = .ok (.iload_n 1, 1) := mm_dk kX12_stage_0 26 rfl
theorem dX12_stage_47 : decode cX12_stage 47 = .ok (.imul, 1) := mm_dk kX12_stage_0 27 rfl
theorem dX12_stage_48 : decode cX12_stage 48 = .ok (.iload_n 2, 1) := mm_dk kX12_stage_0 28 rfl
theorem dX12_stage_49 : decode cX12_stage 49 = .ok (.iadd, 1) := mm_dk kX12_stage_0 29 rfl
theorem dX12_stage_50 : decode cX12_stage 50 = .ok (.istore 4, 2) := mm_dk kX12_stage_0 30 rfl
theorem dX12_stage_52 : decode cX12_stage 52 = .ok (.aload_n 0, 1) := mm_dk kX12_stage_0 31 rfl
theorem dX12_stage_53 : decode cX12_stage 53 = .ok (.getfield 154, 3) := mm_dk kX12_stage_0 32 rfl
theorem dX12_stage_56 : decode cX12_stage 56 = .ok (.iload 4, 2) := mm_dk kX12_stage_0 33 rfl
theorem dX12_stage_58 : decode cX12_stage 58 = .ok (.iaload, 1) := mm_dk kX12_stage_0 34 rfl
theorem dX12_stage_59 : decode cX12_stage 59 = .ok (.istore 5, 2) := mm_dk kX12_stage_0 35 rfl
theorem dX12_stage_61 : decode cX12_stage 61 = .ok (.aload_n 0, 1) := mm_dk kX12_stage_0 36 rfl
theorem dX12_stage_62 : decode cX12_stage 62 = .ok (.getfield 154, 3) := mm_dk kX12_stage_0 37 rfl
theorem dX12_stage_65 : decode cX12_stage 65 = .ok (.iload 4, 2) := mm_dk kX12_stage_0 38 rfl
theorem dX12_stage_67 : decode cX12_stage 67 = .ok (.iload_n 3, 1) := mm_dk kX12_stage_0 39 rfl
set_option maxRecDepth 100000 in
theorem kX12_stage_1 : ([(68, .iastore, 1), (69, .aload_n 0, 1), (70, .getfield 157, 3), (73, .iload 4, 2), (75, .iconst 1, 1), (76, .iastore, 1), (77, .aload_n 0, 1), (78, .getfield 160, 3), (81, .iload 4, 2), (83, .iconst 0, 1), (84, .iastore, 1), (85, .aload_n 0, 1), (86, .getfield 163, 3), (89, .iload 4, 2), (91, .iconst 0, 1), (92, .iastore, 1), (93, .iconst 0, 1), (94, .istore 6, 2), (96, .iload 6, 2), (98, .sipush 160, 3), (101, .if_icmp .ge 24, 3), (104, .aload_n 0, 1), (105, .getfield 166, 3), (108, .sipush 160, 3), (111, .iload 4, 2), (113, .imul, 1), (114, .iload 6, 2), (116, .iadd, 1), (117, .iconst 0, 1), (118, .iastore, 1), (119, .iinc 6 1, 3), (122, .goto (-26), 3), (125, .aload_n 0, 1), (126, .iload 5, 2), (128, .invokevirtual 235, 3), (131, .ireturn, 1)] : List (Nat × Instr × Nat)).all (fun x => decide (decode cX12_stage x.1 = .ok x.2)) = true := by decide +kernel
theorem dX12_stage_68 : decode cX12_stage 68 = .ok (.iastore, 1) := mm_dk kX12_stage_1 0 rfl
theorem dX12_stage_69 : decode cX12_stage 69 = .ok (.aload_n 0, 1) := mm_dk kX12_stage_1 1 rfl
theorem dX12_stage_70 : decode cX12_stage 70 = .ok (.getfield 157, 3) := mm_dk kX12_stage_1 2 rfl
theorem dX12_stage_73 : decode cX12_stage 73 = .ok (.iload 4, 2) := mm_dk kX12_stage_1 3 rfl
theorem dX12_stage_75 : decode cX12_stage 75 = .ok (.iconst 1, 1) := mm_dk kX12_stage_1 4 rfl
theorem dX12_stage_76 : decode cX12_stage 76 = .ok (.iastore, 1) := mm_dk kX12_stage_1 5 rfl
theorem dX12_stage_77 : decode cX12_stage 77 = .ok (.aload_n 0, 1) := mm_dk kX12_stage_1 6 rfl
theorem dX12_stage_78 : decode cX12_stage 78 = .ok (.getfield 160, 3) := mm_dk kX12_stage_1 7 rfl
theorem dX12_stage_81 : decode cX12_stage 81 = .ok (.iload 4, 2) := mm_dk kX12_stage_1 8 rfl
theorem dX12_stage_83 : decode cX12_stage 83 = .ok (.iconst 0, 1) := mm_dk kX12_stage_1 9 rfl
theorem dX12_stage_84 : decode cX12_stage 84 = .ok (.iastore, 1) := mm_dk kX12_stage_1 10 rfl
theorem dX12_stage_85 : decode cX12_stage 85 = .ok (.aload_n 0, 1) := mm_dk kX12_stage_1 11 rfl
theorem dX12_stage_86 : decode cX12_stage 86 = .ok (.getfield 163, 3) := mm_dk kX12_stage_1 12 rfl
theorem dX12_stage_89 : decode cX12_stage 89 = .ok (.iload 4, 2) := mm_dk kX12_stage_1 13 rfl
theorem dX12_stage_91 : decode cX12_stage 91 = .ok (.iconst 0, 1) := mm_dk kX12_stage_1 14 rfl
theorem dX12_stage_92 : decode cX12_stage 92 = .ok (.iastore, 1) := mm_dk kX12_stage_1 15 rfl
theorem dX12_stage_93 : decode cX12_stage 93 = .ok (.iconst 0, 1) := mm_dk kX12_stage_1 16 rfl
theorem dX12_stage_94 : decode cX12_stage 94 = .ok (.istore 6, 2) := mm_dk kX12_stage_1 17 rfl
theorem dX12_stage_96 : decode cX12_stage 96 = .ok (.iload 6, 2) := mm_dk kX12_stage_1 18 rfl
theorem dX12_stage_98 : decode cX12_stage 98 = .ok (.sipush 160, 3) := mm_dk kX12_stage_1 19 rfl
theorem dX12_stage_101 : decode cX12_stage 101 = .ok (.if_icmp .ge 24, 3) := mm_dk kX12_stage_1 20 rfl
theorem dX12_stage_104 : decode cX12_stage 104 = .ok (.aload_n 0, 1) := mm_dk kX12_stage_1 21 rfl
theorem dX12_stage_105 : decode cX12_stage 105 = .ok (.getfield 166, 3) := mm_dk kX12_stage_1 22 rfl
theorem dX12_stage_108 : decode cX12_stage 108 = .ok (.sipush 160, 3) := mm_dk kX12_stage_1 23 rfl
theorem dX12_stage_111 : decode cX12_stage 111 = .ok (.iload 4, 2) := mm_dk kX12_stage_1 24 rfl
theorem dX12_stage_113 : decode cX12_stage 113 = .ok (.imul, 1) := mm_dk kX12_stage_1 25 rfl
theorem dX12_stage_114 : decode cX12_stage 114 = .ok (.iload 6, 2) := mm_dk kX12_stage_1 26 rfl
theorem dX12_stage_116 : decode cX12_stage 116 = .ok (.iadd, 1) := mm_dk kX12_stage_1 27 rfl
theorem dX12_stage_117 : decode cX12_stage 117 = .ok (.iconst 0, 1) := mm_dk kX12_stage_1 28 rfl
theorem dX12_stage_118 : decode cX12_stage 118 = .ok (.iastore, 1) := mm_dk kX12_stage_1 29 rfl
theorem dX12_stage_119 : decode cX12_stage 119 = .ok (.iinc 6 1, 3) := mm_dk kX12_stage_1 30 rfl
theorem dX12_stage_122 : decode cX12_stage 122 = .ok (.goto (-26), 3) := mm_dk kX12_stage_1 31 rfl
theorem dX12_stage_125 : decode cX12_stage 125 = .ok (.aload_n 0, 1) := mm_dk kX12_stage_1 32 rfl
theorem dX12_stage_126 : decode cX12_stage 126 = .ok (.iload 5, 2) := mm_dk kX12_stage_1 33 rfl
theorem dX12_stage_128 : decode cX12_stage 128 = .ok (.invokevirtual 235, 3) := mm_dk kX12_stage_1 34 rfl
theorem dX12_stage_131 : decode cX12_stage 131 = .ok (.ireturn, 1) := mm_dk kX12_stage_1 35 rfl
set_option maxRecDepth 100000 in
theorem kX12_join_0 : ([(0, .aload_n 0, 1), (1, .iload_n 1, 1), (2, .invokevirtual 238, 3), (5, .ifCond .eq 14, 3), (8, .iload_n 2, 1), (9, .iconst 1, 1), (10, .sipush 32767, 3), (13, .invokestatic 227, 3), (16, .ifCond .ne 9, 3), (19, .aload_n 0, 1), (20, .iconst (-1), 1), (21, .invokevirtual 231, 3), (24, .ireturn, 1), (25, .aload_n 0, 1), (26, .getfield 148, 3), (29, .iload_n 1, 1), (30, .iaload, 1), (31, .istore_n 3, 1), (32, .aload_n 0, 1), (33, .getfield 148, 3), (36, .iload_n 1, 1), (37, .iload_n 2, 1), (38, .iastore, 1), (39, .aload_n 0, 1), (40, .iload_n 3, 1), (41, .invokevirtual 235, 3), (44, .ireturn, 1)] : List (Nat × Instr × Nat)).all (fun x => decide (decode cX12_join x.1 = .ok x.2)) = true := by decide +kernel
theorem dX12_join_0 : decode cX12_join 0 = .ok (.aload_n 0, 1) := mm_dk kX12_join_0 0 rfl
theorem dX12_join_1 : decode cX12_join 1 = .ok (.iload_n 1, 1) := mm_dk kX12_join_0 1 rfl
theorem dX12_join_2 : decode cX12_join 2 = .ok (.invokevirtual 238, 3) := mm_dk kX12_join_0 2 rfl
theorem dX12_join_5 : decode cX12_join 5 = .ok (.ifCond .eq 14, 3) := mm_dk kX12_join_0 3 rfl
theorem dX12_join_8 : decode cX12_join 8 = .ok (.iload_n 2, 1) := mm_dk kX12_join_0 4 rfl
theorem dX12_join_9 : decode cX12_join 9 = .ok (.iconst 1, 1) := mm_dk kX12_join_0 5 rfl
theorem dX12_join_10 : decode cX12_join 10 = .ok (.sipush 32767, 3) := mm_dk kX12_join_0 6 rfl
theorem dX12_join_13 : decode cX12_join 13 = .ok (.invokestatic 227, 3) := mm_dk kX12_join_0 7 rfl
theorem dX12_join_16 : decode cX12_join 16 = .ok (.ifCond .ne 9, 3) := mm_dk kX12_join_0 8 rfl
theorem dX12_join_19 : decode cX12_join 19 = .ok (.aload_n 0, 1) := mm_dk kX12_join_0 9 rfl
theorem dX12_join_20 : decode cX12_join 20 = .ok (.iconst (-1), 1) := mm_dk kX12_join_0 10 rfl
theorem dX12_join_21 : decode cX12_join 21 = .ok (.invokevirtual 231, 3) := mm_dk kX12_join_0 11 rfl
theorem dX12_join_24 : decode cX12_join 24 = .ok (.ireturn, 1) := mm_dk kX12_join_0 12 rfl
theorem dX12_join_25 : decode cX12_join 25 = .ok (.aload_n 0, 1) := mm_dk kX12_join_0 13 rfl
theorem dX12_join_26 : decode cX12_join 26 = .ok (.getfield 148, 3) := mm_dk kX12_join_0 14 rfl
theorem dX12_join_29 : decode cX12_join 29 = .ok (.iload_n 1, 1) := mm_dk kX12_join_0 15 rfl
theorem dX12_join_30 : decode cX12_join 30 = .ok (.iaload, 1) := mm_dk kX12_join_0 16 rfl
theorem dX12_join_31 : decode cX12_join 31 = .ok (.istore_n 3, 1) := mm_dk kX12_join_0 17 rfl
theorem dX12_join_32 : decode cX12_join 32 = .ok (.aload_n 0, 1) := mm_dk kX12_join_0 18 rfl
theorem dX12_join_33 : decode cX12_join 33 = .ok (.getfield 148, 3) := mm_dk kX12_join_0 19 rfl
theorem dX12_join_36 : decode cX12_join 36 = .ok (.iload_n 1, 1) := mm_dk kX12_join_0 20 rfl
theorem dX12_join_37 : decode cX12_join 37 = .ok (.iload_n 2, 1) := mm_dk kX12_join_0 21 rfl
theorem dX12_join_38 : decode cX12_join 38 = .ok (.iastore, 1) := mm_dk kX12_join_0 22 rfl
theorem dX12_join_39 : decode cX12_join 39 = .ok (.aload_n 0, 1) := mm_dk kX12_join_0 23 rfl
theorem dX12_join_40 : decode cX12_join 40 = .ok (.iload_n 3, 1) := mm_dk kX12_join_0 24 rfl
theorem dX12_join_41 : decode cX12_join 41 = .ok (.invokevirtual 235, 3) := mm_dk kX12_join_0 25 rfl
theorem dX12_join_44 : decode cX12_join 44 = .ok (.ireturn, 1) := mm_dk kX12_join_0 26 rfl
set_option maxRecDepth 100000 in
theorem kX12_drift_0 : ([(0, .aload_n 0, 1), (1, .iload_n 1, 1), (2, .invokevirtual 238, 3), (5, .ifCond .eq 12, 3), (8, .iload_n 2, 1), (9, .iconst (-1), 1), (10, .iconst 1, 1), (11, .invokestatic 227, 3), (14, .ifCond .ne 9, 3), (17, .aload_n 0, 1), (18, .iconst (-1), 1), (19, .invokevirtual 231, 3), (22, .ireturn, 1), (23, .aload_n 0, 1), (24, .getfield 151, 3), (27, .iload_n 1, 1), (28, .iaload, 1), (29, .istore_n 3, 1), (30, .aload_n 0, 1), (31, .getfield 151, 3), (34, .iload_n 1, 1), (35, .iload_n 2, 1), (36, .iastore, 1), (37, .aload_n 0, 1), (38, .iload_n 3, 1), (39, .invokevirtual 235, 3), (42, .ireturn, 1)] : List (Nat × Instr × Nat)).all (fun x => decide (decode cX12_drift x.1 = .ok x.2)) = true := by decide +kernel
theorem dX12_drift_0 : decode cX12_drift 0 = .ok (.aload_n 0, 1) := mm_dk kX12_drift_0 0 rfl
theorem dX12_drift_1 : decode cX12_drift 1 = .ok (.iload_n 1, 1) := mm_dk kX12_drift_0 1 rfl
theorem dX12_drift_2 : decode cX12_drift 2 = .ok (.invokevirtual 238, 3) := mm_dk kX12_drift_0 2 rfl
theorem dX12_drift_5 : decode cX12_drift 5 = .ok (.ifCond .eq 12, 3) := mm_dk kX12_drift_0 3 rfl
theorem dX12_drift_8 : decode cX12_drift 8 = .ok (.iload_n 2, 1) := mm_dk kX12_drift_0 4 rfl
theorem dX12_drift_9 : decode cX12_drift 9 = .ok (.iconst (-1), 1) := mm_dk kX12_drift_0 5 rfl
theorem dX12_drift_10 : decode cX12_drift 10 = .ok (.iconst 1, 1) := mm_dk kX12_drift_0 6 rfl
theorem dX12_drift_11 : decode cX12_drift 11 = .ok (.invokestatic 227, 3) := mm_dk kX12_drift_0 7 rfl
theorem dX12_drift_14 : decode cX12_drift 14 = .ok (.ifCond .ne 9, 3) := mm_dk kX12_drift_0 8 rfl
theorem dX12_drift_17 : decode cX12_drift 17 = .ok (.aload_n 0, 1) := mm_dk kX12_drift_0 9 rfl
theorem dX12_drift_18 : decode cX12_drift 18 = .ok (.iconst (-1), 1) := mm_dk kX12_drift_0 10 rfl
theorem dX12_drift_19 : decode cX12_drift 19 = .ok (.invokevirtual 231, 3) := mm_dk kX12_drift_0 11 rfl
theorem dX12_drift_22 : decode cX12_drift 22 = .ok (.ireturn, 1) := mm_dk kX12_drift_0 12 rfl
theorem dX12_drift_23 : decode cX12_drift 23 = .ok (.aload_n 0, 1) := mm_dk kX12_drift_0 13 rfl
theorem dX12_drift_24 : decode cX12_drift 24 = .ok (.getfield 151, 3) := mm_dk kX12_drift_0 14 rfl
theorem dX12_drift_27 : decode cX12_drift 27 = .ok (.iload_n 1, 1) := mm_dk kX12_drift_0 15 rfl
theorem dX12_drift_28 : decode cX12_drift 28 = .ok (.iaload, 1) := mm_dk kX12_drift_0 16 rfl
theorem dX12_drift_29 : decode cX12_drift 29 = .ok (.istore_n 3, 1) := mm_dk kX12_drift_0 17 rfl
theorem dX12_drift_30 : decode cX12_drift 30 = .ok (.aload_n 0, 1) := mm_dk kX12_drift_0 18 rfl
theorem dX12_drift_31 : decode cX12_drift 31 = .ok (.getfield 151, 3) := mm_dk kX12_drift_0 19 rfl
theorem dX12_drift_34 : decode cX12_drift 34 = .ok (.iload_n 1, 1) := mm_dk kX12_drift_0 20 rfl
theorem dX12_drift_35 : decode cX12_drift 35 = .ok (.iload_n 2, 1) := mm_dk kX12_drift_0 21 rfl
theorem dX12_drift_36 : decode cX12_drift 36 = .ok (.iastore, 1) := mm_dk kX12_drift_0 22 rfl
theorem dX12_drift_37 : decode cX12_drift 37 = .ok (.aload_n 0, 1) := mm_dk kX12_drift_0 23 rfl
theorem dX12_drift_38 : decode cX12_drift 38 = .ok (.iload_n 3, 1) := mm_dk kX12_drift_0 24 rfl
theorem dX12_drift_39 : decode cX12_drift 39 = .ok (.invokevirtual 235, 3) := mm_dk kX12_drift_0 25 rfl
theorem dX12_drift_42 : decode cX12_drift 42 = .ok (.ireturn, 1) := mm_dk kX12_drift_0 26 rfl
set_option maxRecDepth 100000 in
theorem kX12_mix_0 : ([(0, .aload_n 0, 1), (1, .iload_n 1, 1), (2, .invokevirtual 238, 3), (5, .ifCond .eq 34, 3), (8, .aload_n 0, 1), (9, .iload_n 2, 1), (10, .invokevirtual 238, 3), (13, .ifCond .eq 26, 3), (16, .iload_n 3, 1), (17, .bipush (-32), 2), (19, .bipush 32, 2), (21, .invokestatic 227, 3), (24, .ifCond .eq 15, 3), (27, .iload 4, 2), (29, .bipush (-32), 2), (31, .bipush 32, 2), (33, .invokestatic 227, 3), (36, .ifCond .ne 9, 3), (39, .aload_n 0, 1), (40, .iconst (-1), 1), (41, .invokevirtual 231, 3), (44, .ireturn, 1), (45, .aload_n 0, 1), (46, .getfield 124, 3), (49, .iload_n 1, 1), (50, .iaload, 1), (51, .ifCond .eq 12, 3), (54, .aload_n 0, 1), (55, .getfield 124, 3), (58, .iload_n 2, 1), (59, .iaload, 1), (60, .ifCond .ne 10, 3), (63, .aload_n 0, 1), (64, .bipush (-2), 2), (66, .invokevirtual 231, 3), (69, .ireturn, 1), (70, .aload_n 0, 1), (71, .aload_n 0, 1), (72, .getfield 142, 3), (75, .iload_n 1, 1)] : List (Nat × Instr × Nat)).all (fun x => decide (decode cX12_mix x.1 = .ok x.2)) = true := by decide +kernel
theorem dX12_mix_0 : decode cX12_mix 0 = .ok (.aload_n 0, 1) := mm_dk kX12_mix_0 0 rfl
theorem dX12_mix_1 : decode cX12_mix 1 = .ok (.iload_n 1, 1) := mm_dk kX12_mix_0 1 rfl
theorem dX12_mix_2 : decode cX12_mix 2 = .ok (.invokevirtual 238, 3) := mm_dk kX12_mix_0 2 rfl
theorem dX12_mix_5 : decode cX12_mix 5 = .ok (.ifCond .eq 34, 3) := mm_dk kX12_mix_0 3 rfl
theorem dX12_mix_8 : decode cX12_mix 8 = .ok (.aload_n 0, 1) := mm_dk kX12_mix_0 4 rfl
theorem dX12_mix_9 : decode cX12_mix 9 = .ok (.iload_n 2, 1) := mm_dk kX12_mix_0 5 rfl
theorem dX12_mix_10 : decode cX12_mix 10 = .ok (.invokevirtual 238, 3) := mm_dk kX12_mix_0 6 rfl
theorem dX12_mix_13 : decode cX12_mix 13 = .ok (.ifCond .eq 26, 3) := mm_dk kX12_mix_0 7 rfl
theorem dX12_mix_16 : decode cX12_mix 16 = .ok (.iload_n 3, 1) := mm_dk kX12_mix_0 8 rfl
theorem dX12_mix_17 : decode cX12_mix 17 = .ok (.bipush (-32), 2) := mm_dk kX12_mix_0 9 rfl
theorem dX12_mix_19 : decode cX12_mix 19 = .ok (.bipush 32, 2) := mm_dk kX12_mix_0 10 rfl
theorem dX12_mix_21 : decode cX12_mix 21 = .ok (.invokestatic 227, 3) := mm_dk kX12_mix_0 11 rfl
theorem dX12_mix_24 : decode cX12_mix 24 = .ok (.ifCond .eq 15, 3) := mm_dk kX12_mix_0 12 rfl
theorem dX12_mix_27 : decode cX12_mix 27 = .ok (.iload 4, 2) := mm_dk kX12_mix_0 13 rfl
theorem dX12_mix_29 : decode cX12_mix 29 = .ok (.bipush (-32), 2) := mm_dk kX12_mix_0 14 rfl
theorem dX12_mix_31 : decode cX12_mix 31 = .ok (.bipush 32, 2) := mm_dk kX12_mix_0 15 rfl
theorem dX12_mix_33 : decode cX12_mix 33 = .ok (.invokestatic 227, 3) := mm_dk kX12_mix_0 16 rfl
theorem dX12_mix_36 : decode cX12_mix 36 = .ok (.ifCond .ne 9, 3) := mm_dk kX12_mix_0 17 rfl
theorem dX12_mix_39 : decode cX12_mix 39 = .ok (.aload_n 0, 1) := mm_dk kX12_mix_0 18 rfl
theorem dX12_mix_40 : decode cX12_mix 40 = .ok (.iconst (-1), 1) := mm_dk kX12_mix_0 19 rfl
theorem dX12_mix_41 : decode cX12_mix 41 = .ok (.invokevirtual 231, 3) := mm_dk kX12_mix_0 20 rfl
theorem dX12_mix_44 : decode cX12_mix 44 = .ok (.ireturn, 1) := mm_dk kX12_mix_0 21 rfl
theorem dX12_mix_45 : decode cX12_mix 45 = .ok (.aload_n 0, 1) := mm_dk kX12_mix_0 22 rfl
theorem dX12_mix_46 : decode cX12_mix 46 = .ok (.getfield 124, 3) := mm_dk kX12_mix_0 23 rfl
theorem dX12_mix_49 : decode cX12_mix 49 = .ok (.iload_n 1, 1) := mm_dk kX12_mix_0 24 rfl
theorem dX12_mix_50 : decode cX12_mix 50 = .ok (.iaload, 1) := mm_dk kX12_mix_0 25 rfl
theorem dX12_mix_51 : decode cX12_mix 51 = .ok (.ifCond .eq 12, 3) := mm_dk kX12_mix_0 26 rfl
theorem dX12_mix_54 : decode cX12_mix 54 = .ok (.aload_n 0, 1) := mm_dk kX12_mix_0 27 rfl
theorem dX12_mix_55 : decode cX12_mix 55 = .ok (.getfield 124, 3) := mm_dk kX12_mix_0 28 rfl
theorem dX12_mix_58 : decode cX12_mix 58 = .ok (.iload_n 2, 1) := mm_dk kX12_mix_0 29 rfl
theorem dX12_mix_59 : decode cX12_mix 59 = .ok (.iaload, 1) := mm_dk kX12_mix_0 30 rfl
theorem dX12_mix_60 : decode cX12_mix 60 = .ok (.ifCond .ne 10, 3) := mm_dk kX12_mix_0 31 rfl
theorem dX12_mix_63 : decode cX12_mix 63 = .ok (.aload_n 0, 1) := mm_dk kX12_mix_0 32 rfl
theorem dX12_mix_64 : decode cX12_mix 64 = .ok (.bipush (-2), 2) := mm_dk kX12_mix_0 33 rfl
theorem dX12_mix_66 : decode cX12_mix 66 = .ok (.invokevirtual 231, 3) := mm_dk kX12_mix_0 34 rfl
theorem dX12_mix_69 : decode cX12_mix 69 = .ok (.ireturn, 1) := mm_dk kX12_mix_0 35 rfl
theorem dX12_mix_70 : decode cX12_mix 70 = .ok (.aload_n 0, 1) := mm_dk kX12_mix_0 36 rfl
theorem dX12_mix_71 : decode cX12_mix 71 = .ok (.aload_n 0, 1) := mm_dk kX12_mix_0 37 rfl
theorem dX12_mix_72 : decode cX12_mix 72 = .ok (.getfield 142, 3) := mm_dk kX12_mix_0 38 rfl
theorem dX12_mix_75 : decode cX12_mix 75 = .ok (.iload_n 1, 1) := mm_dk kX12_mix_0 39 rfl
set_option maxRecDepth 100000 in
theorem kX12_mix_1 : ([(76, .iaload, 1), (77, .aload_n 0, 1), (78, .getfield 142, 3), (81, .iload_n 2, 1), (82, .iaload, 1), (83, .if_icmp .ge 12, 3), (86, .aload_n 0, 1), (87, .getfield 142, 3), (90, .iload_n 1, 1), (91, .iaload, 1), (92, .goto 9, 3), (95, .aload_n 0, 1), (96, .getfield 142, 3), (99, .iload_n 2, 1), (100, .iaload, 1), (101, .putfield 450, 3), (104, .iconst 0, 1), (105, .istore 5, 2), (107, .iload 5, 2), (109, .aload_n 0, 1), (110, .getfield 450, 3), (113, .if_icmp .ge 55, 3), (116, .aload_n 0, 1), (117, .getfield 19, 3), (120, .iload 5, 2), (122, .aload_n 0, 1), (123, .iload_n 3, 1), (124, .aload_n 0, 1), (125, .getfield 145, 3), (128, .sipush 322, 3), (131, .iload_n 1, 1), (132, .imul, 1), (133, .iload 5, 2), (135, .iadd, 1), (136, .iaload, 1), (137, .imul, 1), (138, .iload 4, 2), (140, .aload_n 0, 1), (141, .getfield 145, 3), (144, .sipush 322, 3)] : List (Nat × Instr × Nat)).all (fun x => decide (decode cX12_mix x.1 = .ok x.2)) = true := by decide +kernel
theorem dX12_mix_76 : decode cX12_mix 76 = .ok (.iaload, 1) := mm_dk kX12_mix_1 0 rfl
theorem dX12_mix_77 : decode cX12_mix 77 = .ok (.aload_n 0, 1) := mm_dk kX12_mix_1 1 rfl
theorem dX12_mix_78 : decode cX12_mix 78 = .ok (.getfield 142, 3) := mm_dk kX12_mix_1 2 rfl
theorem dX12_mix_81 : decode cX12_mix 81 = .ok (.iload_n 2, 1) := mm_dk kX12_mix_1 3 rfl
theorem dX12_mix_82 : decode cX12_mix 82 = .ok (.iaload, 1) := mm_dk kX12_mix_1 4 rfl
theorem dX12_mix_83 : decode cX12_mix 83 = .ok (.if_icmp .ge 12, 3) := mm_dk kX12_mix_1 5 rfl
theorem dX12_mix_86 : decode cX12_mix 86 = .ok (.aload_n 0, 1) := mm_dk kX12_mix_1 6 rfl
theorem dX12_mix_87 : decode cX12_mix 87 = .ok (.getfield 142, 3) := mm_dk kX12_mix_1 7 rfl
theorem dX12_mix_90 : decode cX12_mix 90 = .ok (.iload_n 1, 1) := mm_dk kX12_mix_1 8 rfl
theorem dX12_mix_91 : decode cX12_mix 91 = .ok (.iaload, 1) := mm_dk kX12_mix_1 9 rfl
theorem dX12_mix_92 : decode cX12_mix 92 = .ok (.goto 9, 3) := mm_dk kX12_mix_1 10 rfl
theorem dX12_mix_95 : decode cX12_mix 95 = .ok (.aload_n 0, 1) := mm_dk kX12_mix_1 11 rfl
theorem dX12_mix_96 : decode cX12_mix 96 = .ok (.getfield 142, 3) := mm_dk kX12_mix_1 12 rfl
theorem dX12_mix_99 : decode cX12_mix 99 = .ok (.iload_n 2, 1) := mm_dk kX12_mix_1 13 rfl
theorem dX12_mix_100 : decode cX12_mix 100 = .ok (.iaload, 1) := mm_dk kX12_mix_1 14 rfl
theorem dX12_mix_101 : decode cX12_mix 101 = .ok (.putfield 450, 3) := mm_dk kX12_mix_1 15 rfl
theorem dX12_mix_104 : decode cX12_mix 104 = .ok (.iconst 0, 1) := mm_dk kX12_mix_1 16 rfl
theorem dX12_mix_105 : decode cX12_mix 105 = .ok (.istore 5, 2) := mm_dk kX12_mix_1 17 rfl
theorem dX12_mix_107 : decode cX12_mix 107 = .ok (.iload 5, 2) := mm_dk kX12_mix_1 18 rfl
theorem dX12_mix_109 : decode cX12_mix 109 = .ok (.aload_n 0, 1) := mm_dk kX12_mix_1 19 rfl
theorem dX12_mix_110 : decode cX12_mix 110 = .ok (.getfield 450, 3) := mm_dk kX12_mix_1 20 rfl
theorem dX12_mix_113 : decode cX12_mix 113 = .ok (.if_icmp .ge 55, 3) := mm_dk kX12_mix_1 21 rfl
theorem dX12_mix_116 : decode cX12_mix 116 = .ok (.aload_n 0, 1) := mm_dk kX12_mix_1 22 rfl
theorem dX12_mix_117 : decode cX12_mix 117 = .ok (.getfield 19, 3) := mm_dk kX12_mix_1 23 rfl
theorem dX12_mix_120 : decode cX12_mix 120 = .ok (.iload 5, 2) := mm_dk kX12_mix_1 24 rfl
theorem dX12_mix_122 : decode cX12_mix 122 = .ok (.aload_n 0, 1) := mm_dk kX12_mix_1 25 rfl
theorem dX12_mix_123 : decode cX12_mix 123 = .ok (.iload_n 3, 1) := mm_dk kX12_mix_1 26 rfl
theorem dX12_mix_124 : decode cX12_mix 124 = .ok (.aload_n 0, 1) := mm_dk kX12_mix_1 27 rfl
theorem dX12_mix_125 : decode cX12_mix 125 = .ok (.getfield 145, 3) := mm_dk kX12_mix_1 28 rfl
theorem dX12_mix_128 : decode cX12_mix 128 = .ok (.sipush 322, 3) := mm_dk kX12_mix_1 29 rfl
theorem dX12_mix_131 : decode cX12_mix 131 = .ok (.iload_n 1, 1) := mm_dk kX12_mix_1 30 rfl
theorem dX12_mix_132 : decode cX12_mix 132 = .ok (.imul, 1) := mm_dk kX12_mix_1 31 rfl
theorem dX12_mix_133 : decode cX12_mix 133 = .ok (.iload 5, 2) := mm_dk kX12_mix_1 32 rfl
theorem dX12_mix_135 : decode cX12_mix 135 = .ok (.iadd, 1) := mm_dk kX12_mix_1 33 rfl
theorem dX12_mix_136 : decode cX12_mix 136 = .ok (.iaload, 1) := mm_dk kX12_mix_1 34 rfl
theorem dX12_mix_137 : decode cX12_mix 137 = .ok (.imul, 1) := mm_dk kX12_mix_1 35 rfl
theorem dX12_mix_138 : decode cX12_mix 138 = .ok (.iload 4, 2) := mm_dk kX12_mix_1 36 rfl
theorem dX12_mix_140 : decode cX12_mix 140 = .ok (.aload_n 0, 1) := mm_dk kX12_mix_1 37 rfl
theorem dX12_mix_141 : decode cX12_mix 141 = .ok (.getfield 145, 3) := mm_dk kX12_mix_1 38 rfl
theorem dX12_mix_144 : decode cX12_mix 144 = .ok (.sipush 322, 3) := mm_dk kX12_mix_1 39 rfl
set_option maxRecDepth 100000 in
theorem kX12_mix_2 : ([(147, .iload_n 2, 1), (148, .imul, 1), (149, .iload 5, 2), (151, .iadd, 1), (152, .iaload, 1), (153, .imul, 1), (154, .iadd, 1), (155, .iconst 5, 1), (156, .ishr, 1), (157, .i2l, 1), (158, .invokevirtual 270, 3), (161, .iastore, 1), (162, .iinc 5 1, 3), (165, .goto (-58), 3), (168, .aload_n 0, 1), (169, .aload_n 0, 1), (170, .getfield 450, 3), (173, .invokevirtual 235, 3), (176, .ireturn, 1)] : List (Nat × Instr × Nat)).all (fun x => decide (decode cX12_mix x.1 = .ok x.2)) = true := by decide +kernel
theorem dX12_mix_147 : decode cX12_mix 147 = .ok (.iload_n 2, 1) := mm_dk kX12_mix_2 0 rfl
theorem dX12_mix_148 : decode cX12_mix 148 = .ok (.imul, 1) := mm_dk kX12_mix_2 1 rfl
theorem dX12_mix_149 : decode cX12_mix 149 = .ok (.iload 5, 2) := mm_dk kX12_mix_2 2 rfl
theorem dX12_mix_151 : decode cX12_mix 151 = .ok (.iadd, 1) := mm_dk kX12_mix_2 3 rfl
theorem dX12_mix_152 : decode cX12_mix 152 = .ok (.iaload, 1) := mm_dk kX12_mix_2 4 rfl
theorem dX12_mix_153 : decode cX12_mix 153 = .ok (.imul, 1) := mm_dk kX12_mix_2 5 rfl
theorem dX12_mix_154 : decode cX12_mix 154 = .ok (.iadd, 1) := mm_dk kX12_mix_2 6 rfl
theorem dX12_mix_155 : decode cX12_mix 155 = .ok (.iconst 5, 1) := mm_dk kX12_mix_2 7 rfl
theorem dX12_mix_156 : decode cX12_mix 156 = .ok (.ishr, 1) := mm_dk kX12_mix_2 8 rfl
theorem dX12_mix_157 : decode cX12_mix 157 = .ok (.i2l, 1) := mm_dk kX12_mix_2 9 rfl
theorem dX12_mix_158 : decode cX12_mix 158 = .ok (.invokevirtual 270, 3) := mm_dk kX12_mix_2 10 rfl
theorem dX12_mix_161 : decode cX12_mix 161 = .ok (.iastore, 1) := mm_dk kX12_mix_2 11 rfl
theorem dX12_mix_162 : decode cX12_mix 162 = .ok (.iinc 5 1, 3) := mm_dk kX12_mix_2 12 rfl
theorem dX12_mix_165 : decode cX12_mix 165 = .ok (.goto (-58), 3) := mm_dk kX12_mix_2 13 rfl
theorem dX12_mix_168 : decode cX12_mix 168 = .ok (.aload_n 0, 1) := mm_dk kX12_mix_2 14 rfl
theorem dX12_mix_169 : decode cX12_mix 169 = .ok (.aload_n 0, 1) := mm_dk kX12_mix_2 15 rfl
theorem dX12_mix_170 : decode cX12_mix 170 = .ok (.getfield 450, 3) := mm_dk kX12_mix_2 16 rfl
theorem dX12_mix_173 : decode cX12_mix 173 = .ok (.invokevirtual 235, 3) := mm_dk kX12_mix_2 17 rfl
theorem dX12_mix_176 : decode cX12_mix 176 = .ok (.ireturn, 1) := mm_dk kX12_mix_2 18 rfl
set_option maxRecDepth 100000 in
theorem kX12_resample_0 : ([(0, .aload_n 0, 1), (1, .iload_n 1, 1), (2, .invokevirtual 238, 3), (5, .ifCond .eq 22, 3), (8, .iload_n 2, 1), (9, .iconst 1, 1), (10, .iconst 4, 1), (11, .invokestatic 227, 3), (14, .ifCond .eq 13, 3), (17, .iload_n 3, 1), (18, .iconst 1, 1), (19, .bipush 8, 2), (21, .invokestatic 227, 3), (24, .ifCond .ne 9, 3), (27, .aload_n 0, 1), (28, .iconst (-1), 1), (29, .invokevirtual 231, 3), (32, .ireturn, 1), (33, .aload_n 0, 1), (34, .getfield 124, 3), (37, .iload_n 1, 1), (38, .iaload, 1), (39, .ifCond .ne 10, 3), (42, .aload_n 0, 1), (43, .bipush (-2), 2), (45, .invokevirtual 231, 3), (48, .ireturn, 1), (49, .aload_n 0, 1), (50, .getfield 142, 3), (53, .iload_n 1, 1), (54, .iaload, 1), (55, .istore 4, 2), (57, .aload_n 0, 1), (58, .iload 4, 2), (60, .iload_n 2, 1), (61, .imul, 1), (62, .iload_n 3, 1), (63, .idiv, 1), (64, .putfield 450, 3), (67, .iconst 0, 1)] : List (Nat × Instr × Nat)).all (fun x => decide (decode cX12_resample x.1 = .ok x.2)) = true := by decide +kernel
theorem dX12_resample_0 : decode cX12_resample 0 = .ok (.aload_n 0, 1) := mm_dk kX12_resample_0 0 rfl
theorem dX12_resample_1 : decode cX12_resample 1 = .ok (.iload_n 1, 1) := mm_dk kX12_resample_0 1 rfl
theorem dX12_resample_2 : decode cX12_resample 2 = .ok (.invokevirtual 238, 3) := mm_dk kX12_resample_0 2 rfl
theorem dX12_resample_5 : decode cX12_resample 5 = .ok (.ifCond .eq 22, 3) := mm_dk kX12_resample_0 3 rfl
theorem dX12_resample_8 : decode cX12_resample 8 = .ok (.iload_n 2, 1) := mm_dk kX12_resample_0 4 rfl
theorem dX12_resample_9 : decode cX12_resample 9 = .ok (.iconst 1, 1) := mm_dk kX12_resample_0 5 rfl
theorem dX12_resample_10 : decode cX12_resample 10 = .ok (.iconst 4, 1) := mm_dk kX12_resample_0 6 rfl
theorem dX12_resample_11 : decode cX12_resample 11 = .ok (.invokestatic 227, 3) := mm_dk kX12_resample_0 7 rfl
theorem dX12_resample_14 : decode cX12_resample 14 = .ok (.ifCond .eq 13, 3) := mm_dk kX12_resample_0 8 rfl
theorem dX12_resample_17 : decode cX12_resample 17 = .ok (.iload_n 3, 1) := mm_dk kX12_resample_0 9 rfl
theorem dX12_resample_18 : decode cX12_resample 18 = .ok (.iconst 1, 1) := mm_dk kX12_resample_0 10 rfl
theorem dX12_resample_19 : decode cX12_resample 19 = .ok (.bipush 8, 2) := mm_dk kX12_resample_0 11 rfl
theorem dX12_resample_21 : decode cX12_resample 21 = .ok (.invokestatic 227, 3) := mm_dk kX12_resample_0 12 rfl
theorem dX12_resample_24 : decode cX12_resample 24 = .ok (.ifCond .ne 9, 3) := mm_dk kX12_resample_0 13 rfl
theorem dX12_resample_27 : decode cX12_resample 27 = .ok (.aload_n 0, 1) := mm_dk kX12_resample_0 14 rfl
theorem dX12_resample_28 : decode cX12_resample 28 = .ok (.iconst (-1), 1) := mm_dk kX12_resample_0 15 rfl
theorem dX12_resample_29 : decode cX12_resample 29 = .ok (.invokevirtual 231, 3) := mm_dk kX12_resample_0 16 rfl
theorem dX12_resample_32 : decode cX12_resample 32 = .ok (.ireturn, 1) := mm_dk kX12_resample_0 17 rfl
theorem dX12_resample_33 : decode cX12_resample 33 = .ok (.aload_n 0, 1) := mm_dk kX12_resample_0 18 rfl
theorem dX12_resample_34 : decode cX12_resample 34 = .ok (.getfield 124, 3) := mm_dk kX12_resample_0 19 rfl
theorem dX12_resample_37 : decode cX12_resample 37 = .ok (.iload_n 1, 1) := mm_dk kX12_resample_0 20 rfl
theorem dX12_resample_38 : decode cX12_resample 38 = .ok (.iaload, 1) := mm_dk kX12_resample_0 21 rfl
theorem dX12_resample_39 : decode cX12_resample 39 = .ok (.ifCond .ne 10, 3) := mm_dk kX12_resample_0 22 rfl
theorem dX12_resample_42 : decode cX12_resample 42 = .ok (.aload_n 0, 1) := mm_dk kX12_resample_0 23 rfl
theorem dX12_resample_43 : decode cX12_resample 43 = .ok (.bipush (-2), 2) := mm_dk kX12_resample_0 24 rfl
theorem dX12_resample_45 : decode cX12_resample 45 = .ok (.invokevirtual 231, 3) := mm_dk kX12_resample_0 25 rfl
theorem dX12_resample_48 : decode cX12_resample 48 = .ok (.ireturn, 1) := mm_dk kX12_resample_0 26 rfl
theorem dX12_resample_49 : decode cX12_resample 49 = .ok (.aload_n 0, 1) := mm_dk kX12_resample_0 27 rfl
theorem dX12_resample_50 : decode cX12_resample 50 = .ok (.getfield 142, 3) := mm_dk kX12_resample_0 28 rfl
theorem dX12_resample_53 : decode cX12_resample 53 = .ok (.iload_n 1, 1) := mm_dk kX12_resample_0 29 rfl
theorem dX12_resample_54 : decode cX12_resample 54 = .ok (.iaload, 1) := mm_dk kX12_resample_0 30 rfl
theorem dX12_resample_55 : decode cX12_resample 55 = .ok (.istore 4, 2) := mm_dk kX12_resample_0 31 rfl
theorem dX12_resample_57 : decode cX12_resample 57 = .ok (.aload_n 0, 1) := mm_dk kX12_resample_0 32 rfl
theorem dX12_resample_58 : decode cX12_resample 58 = .ok (.iload 4, 2) := mm_dk kX12_resample_0 33 rfl
theorem dX12_resample_60 : decode cX12_resample 60 = .ok (.iload_n 2, 1) := mm_dk kX12_resample_0 34 rfl
theorem dX12_resample_61 : decode cX12_resample 61 = .ok (.imul, 1) := mm_dk kX12_resample_0 35 rfl
theorem dX12_resample_62 : decode cX12_resample 62 = .ok (.iload_n 3, 1) := mm_dk kX12_resample_0 36 rfl
theorem dX12_resample_63 : decode cX12_resample 63 = .ok (.idiv, 1) := mm_dk kX12_resample_0 37 rfl
theorem dX12_resample_64 : decode cX12_resample 64 = .ok (.putfield 450, 3) := mm_dk kX12_resample_0 38 rfl
theorem dX12_resample_67 : decode cX12_resample 67 = .ok (.iconst 0, 1) := mm_dk kX12_resample_0 39 rfl
set_option maxRecDepth 100000 in
theorem kX12_resample_1 : ([(68, .istore 5, 2), (70, .iload 5, 2), (72, .aload_n 0, 1), (73, .getfield 450, 3), (76, .if_icmp .ge 93, 3), (79, .iload 5, 2), (81, .iload_n 3, 1), (82, .imul, 1), (83, .iload_n 2, 1), (84, .idiv, 1), (85, .istore 6, 2), (87, .iload 5, 2), (89, .iload_n 3, 1), (90, .imul, 1), (91, .iload_n 2, 1), (92, .irem, 1), (93, .istore 7, 2), (95, .aload_n 0, 1), (96, .getfield 145, 3), (99, .sipush 322, 3), (102, .iload_n 1, 1), (103, .imul, 1), (104, .iload 6, 2), (106, .iadd, 1), (107, .iaload, 1), (108, .istore 8, 2), (110, .iload 6, 2), (112, .iconst 1, 1), (113, .iadd, 1), (114, .iload 4, 2), (116, .if_icmp .ge 21, 3), (119, .aload_n 0, 1), (120, .getfield 145, 3), (123, .sipush 322, 3), (126, .iload_n 1, 1), (127, .imul, 1), (128, .iload 6, 2), (130, .iadd, 1), (131, .iconst 1, 1), (132, .iadd, 1)] : List (Nat × Instr × Nat)).all (fun x => decide (decode cX12_resample x.1 = .ok x.2)) = true := by decide +kernel
theorem dX12_resample_68 : decode cX12_resample 68 = .ok (.istore 5, 2) := mm_dk kX12_resample_1 0 rfl
theorem dX12_resample_70 : decode cX12_resample 70 = .ok (.iload 5, 2) := mm_dk kX12_resample_1 1 rfl
theorem dX12_resample_72 : decode cX12_resample 72 = .ok (.aload_n 0, 1) := mm_dk kX12_resample_1 2 rfl
theorem dX12_resample_73 : decode cX12_resample 73 = .ok (.getfield 450, 3) := mm_dk kX12_resample_1 3 rfl
theorem dX12_resample_76 : decode cX12_resample 76 = .ok (.if_icmp .ge 93, 3) := mm_dk kX12_resample_1 4 rfl
theorem dX12_resample_79 : decode cX12_resample 79 = .ok (.iload 5, 2) := mm_dk kX12_resample_1 5 rfl
theorem dX12_resample_81 : decode cX12_resample 81 = .ok (.iload_n 3, 1) := mm_dk kX12_resample_1 6 rfl
theorem dX12_resample_82 : decode cX12_resample 82 = .ok (.imul, 1) := mm_dk kX12_resample_1 7 rfl
theorem dX12_resample_83 : decode cX12_resample 83 = .ok (.iload_n 2, 1) := mm_dk kX12_resample_1 8 rfl
theorem dX12_resample_84 : decode cX12_resample 84 = .ok (.idiv, 1) := mm_dk kX12_resample_1 9 rfl
theorem dX12_resample_85 : decode cX12_resample 85 = .ok (.istore 6, 2) := mm_dk kX12_resample_1 10 rfl
theorem dX12_resample_87 : decode cX12_resample 87 = .ok (.iload 5, 2) := mm_dk kX12_resample_1 11 rfl
theorem dX12_resample_89 : decode cX12_resample 89 = .ok (.iload_n 3, 1) := mm_dk kX12_resample_1 12 rfl
theorem dX12_resample_90 : decode cX12_resample 90 = .ok (.imul, 1) := mm_dk kX12_resample_1 13 rfl
theorem dX12_resample_91 : decode cX12_resample 91 = .ok (.iload_n 2, 1) := mm_dk kX12_resample_1 14 rfl
theorem dX12_resample_92 : decode cX12_resample 92 = .ok (.irem, 1) := mm_dk kX12_resample_1 15 rfl
theorem dX12_resample_93 : decode cX12_resample 93 = .ok (.istore 7, 2) := mm_dk kX12_resample_1 16 rfl
theorem dX12_resample_95 : decode cX12_resample 95 = .ok (.aload_n 0, 1) := mm_dk kX12_resample_1 17 rfl
theorem dX12_resample_96 : decode cX12_resample 96 = .ok (.getfield 145, 3) := mm_dk kX12_resample_1 18 rfl
theorem dX12_resample_99 : decode cX12_resample 99 = .ok (.sipush 322, 3) := mm_dk kX12_resample_1 19 rfl
theorem dX12_resample_102 : decode cX12_resample 102 = .ok (.iload_n 1, 1) := mm_dk kX12_resample_1 20 rfl
theorem dX12_resample_103 : decode cX12_resample 103 = .ok (.imul, 1) := mm_dk kX12_resample_1 21 rfl
theorem dX12_resample_104 : decode cX12_resample 104 = .ok (.iload 6, 2) := mm_dk kX12_resample_1 22 rfl
theorem dX12_resample_106 : decode cX12_resample 106 = .ok (.iadd, 1) := mm_dk kX12_resample_1 23 rfl
theorem dX12_resample_107 : decode cX12_resample 107 = .ok (.iaload, 1) := mm_dk kX12_resample_1 24 rfl
theorem dX12_resample_108 : decode cX12_resample 108 = .ok (.istore 8, 2) := mm_dk kX12_resample_1 25 rfl
theorem dX12_resample_110 : decode cX12_resample 110 = .ok (.iload 6, 2) := mm_dk kX12_resample_1 26 rfl
theorem dX12_resample_112 : decode cX12_resample 112 = .ok (.iconst 1, 1) := mm_dk kX12_resample_1 27 rfl
theorem dX12_resample_113 : decode cX12_resample 113 = .ok (.iadd, 1) := mm_dk kX12_resample_1 28 rfl
theorem dX12_resample_114 : decode cX12_resample 114 = .ok (.iload 4, 2) := mm_dk kX12_resample_1 29 rfl
theorem dX12_resample_116 : decode cX12_resample 116 = .ok (.if_icmp .ge 21, 3) := mm_dk kX12_resample_1 30 rfl
theorem dX12_resample_119 : decode cX12_resample 119 = .ok (.aload_n 0, 1) := mm_dk kX12_resample_1 31 rfl
theorem dX12_resample_120 : decode cX12_resample 120 = .ok (.getfield 145, 3) := mm_dk kX12_resample_1 32 rfl
theorem dX12_resample_123 : decode cX12_resample 123 = .ok (.sipush 322, 3) := mm_dk kX12_resample_1 33 rfl
theorem dX12_resample_126 : decode cX12_resample 126 = .ok (.iload_n 1, 1) := mm_dk kX12_resample_1 34 rfl
theorem dX12_resample_127 : decode cX12_resample 127 = .ok (.imul, 1) := mm_dk kX12_resample_1 35 rfl
theorem dX12_resample_128 : decode cX12_resample 128 = .ok (.iload 6, 2) := mm_dk kX12_resample_1 36 rfl
theorem dX12_resample_130 : decode cX12_resample 130 = .ok (.iadd, 1) := mm_dk kX12_resample_1 37 rfl
theorem dX12_resample_131 : decode cX12_resample 131 = .ok (.iconst 1, 1) := mm_dk kX12_resample_1 38 rfl
theorem dX12_resample_132 : decode cX12_resample 132 = .ok (.iadd, 1) := mm_dk kX12_resample_1 39 rfl
set_option maxRecDepth 100000 in
theorem kX12_resample_2 : ([(133, .iaload, 1), (134, .goto 5, 3), (137, .iload 8, 2), (139, .istore 9, 2), (141, .aload_n 0, 1), (142, .getfield 19, 3), (145, .iload 5, 2), (147, .iload 8, 2), (149, .iload_n 2, 1), (150, .iload 7, 2), (152, .isub, 1), (153, .imul, 1), (154, .iload 9, 2), (156, .iload 7, 2), (158, .imul, 1), (159, .iadd, 1), (160, .iload_n 2, 1), (161, .idiv, 1), (162, .iastore, 1), (163, .iinc 5 1, 3), (166, .goto (-96), 3), (169, .aload_n 0, 1), (170, .aload_n 0, 1), (171, .getfield 450, 3), (174, .invokevirtual 235, 3), (177, .ireturn, 1)] : List (Nat × Instr × Nat)).all (fun x => decide (decode cX12_resample x.1 = .ok x.2)) = true := by decide +kernel
theorem dX12_resample_133 : decode cX12_resample 133 = .ok (.iaload, 1) := mm_dk kX12_resample_2 0 rfl
theorem dX12_resample_134 : decode cX12_resample 134 = .ok (.goto 5, 3) := mm_dk kX12_resample_2 1 rfl
theorem dX12_resample_137 : decode cX12_resample 137 = .ok (.iload 8, 2) := mm_dk kX12_resample_2 2 rfl
theorem dX12_resample_139 : decode cX12_resample 139 = .ok (.istore 9, 2) := mm_dk kX12_resample_2 3 rfl
theorem dX12_resample_141 : decode cX12_resample 141 = .ok (.aload_n 0, 1) := mm_dk kX12_resample_2 4 rfl
theorem dX12_resample_142 : decode cX12_resample 142 = .ok (.getfield 19, 3) := mm_dk kX12_resample_2 5 rfl
theorem dX12_resample_145 : decode cX12_resample 145 = .ok (.iload 5, 2) := mm_dk kX12_resample_2 6 rfl
theorem dX12_resample_147 : decode cX12_resample 147 = .ok (.iload 8, 2) := mm_dk kX12_resample_2 7 rfl
theorem dX12_resample_149 : decode cX12_resample 149 = .ok (.iload_n 2, 1) := mm_dk kX12_resample_2 8 rfl
theorem dX12_resample_150 : decode cX12_resample 150 = .ok (.iload 7, 2) := mm_dk kX12_resample_2 9 rfl
theorem dX12_resample_152 : decode cX12_resample 152 = .ok (.isub, 1) := mm_dk kX12_resample_2 10 rfl
theorem dX12_resample_153 : decode cX12_resample 153 = .ok (.imul, 1) := mm_dk kX12_resample_2 11 rfl
theorem dX12_resample_154 : decode cX12_resample 154 = .ok (.iload 9, 2) := mm_dk kX12_resample_2 12 rfl
theorem dX12_resample_156 : decode cX12_resample 156 = .ok (.iload 7, 2) := mm_dk kX12_resample_2 13 rfl
theorem dX12_resample_158 : decode cX12_resample 158 = .ok (.imul, 1) := mm_dk kX12_resample_2 14 rfl
theorem dX12_resample_159 : decode cX12_resample 159 = .ok (.iadd, 1) := mm_dk kX12_resample_2 15 rfl
theorem dX12_resample_160 : decode cX12_resample 160 = .ok (.iload_n 2, 1) := mm_dk kX12_resample_2 16 rfl
theorem dX12_resample_161 : decode cX12_resample 161 = .ok (.idiv, 1) := mm_dk kX12_resample_2 17 rfl
theorem dX12_resample_162 : decode cX12_resample 162 = .ok (.iastore, 1) := mm_dk kX12_resample_2 18 rfl
theorem dX12_resample_163 : decode cX12_resample 163 = .ok (.iinc 5 1, 3) := mm_dk kX12_resample_2 19 rfl
theorem dX12_resample_166 : decode cX12_resample 166 = .ok (.goto (-96), 3) := mm_dk kX12_resample_2 20 rfl
theorem dX12_resample_169 : decode cX12_resample 169 = .ok (.aload_n 0, 1) := mm_dk kX12_resample_2 21 rfl
theorem dX12_resample_170 : decode cX12_resample 170 = .ok (.aload_n 0, 1) := mm_dk kX12_resample_2 22 rfl
theorem dX12_resample_171 : decode cX12_resample 171 = .ok (.getfield 450, 3) := mm_dk kX12_resample_2 23 rfl
theorem dX12_resample_174 : decode cX12_resample 174 = .ok (.invokevirtual 235, 3) := mm_dk kX12_resample_2 24 rfl
theorem dX12_resample_177 : decode cX12_resample 177 = .ok (.ireturn, 1) := mm_dk kX12_resample_2 25 rfl
set_option maxRecDepth 100000 in
theorem kX12_work_0 : ([(0, .iload_n 1, 1), (1, .iconst 0, 1), (2, .aload_n 0, 1), (3, .getfield 450, 3), (6, .iconst 1, 1), (7, .isub, 1), (8, .invokestatic 227, 3), (11, .ifCond .eq 16, 3), (14, .aload_n 0, 1), (15, .aload_n 0, 1), (16, .getfield 19, 3), (19, .iload_n 1, 1), (20, .iaload, 1), (21, .invokevirtual 235, 3), (24, .goto 8, 3), (27, .aload_n 0, 1), (28, .iconst (-1), 1), (29, .invokevirtual 390, 3), (32, .ireturn, 1)] : List (Nat × Instr × Nat)).all (fun x => decide (decode cX12_work x.1 = .ok x.2)) = true := by decide +kernel
theorem dX12_work_0 : decode cX12_work 0 = .ok (.iload_n 1, 1) := mm_dk kX12_work_0 0 rfl
theorem dX12_work_1 : decode cX12_work 1 = .ok (.iconst 0, 1) := mm_dk kX12_work_0 1 rfl
theorem dX12_work_2 : decode cX12_work 2 = .ok (.aload_n 0, 1) := mm_dk kX12_work_0 2 rfl
theorem dX12_work_3 : decode cX12_work 3 = .ok (.getfield 450, 3) := mm_dk kX12_work_0 3 rfl
theorem dX12_work_6 : decode cX12_work 6 = .ok (.iconst 1, 1) := mm_dk kX12_work_0 4 rfl
theorem dX12_work_7 : decode cX12_work 7 = .ok (.isub, 1) := mm_dk kX12_work_0 5 rfl
theorem dX12_work_8 : decode cX12_work 8 = .ok (.invokestatic 227, 3) := mm_dk kX12_work_0 6 rfl
theorem dX12_work_11 : decode cX12_work 11 = .ok (.ifCond .eq 16, 3) := mm_dk kX12_work_0 7 rfl
theorem dX12_work_14 : decode cX12_work 14 = .ok (.aload_n 0, 1) := mm_dk kX12_work_0 8 rfl
theorem dX12_work_15 : decode cX12_work 15 = .ok (.aload_n 0, 1) := mm_dk kX12_work_0 9 rfl
theorem dX12_work_16 : decode cX12_work 16 = .ok (.getfield 19, 3) := mm_dk kX12_work_0 10 rfl
theorem dX12_work_19 : decode cX12_work 19 = .ok (.iload_n 1, 1) := mm_dk kX12_work_0 11 rfl
theorem dX12_work_20 : decode cX12_work 20 = .ok (.iaload, 1) := mm_dk kX12_work_0 12 rfl
theorem dX12_work_21 : decode cX12_work 21 = .ok (.invokevirtual 235, 3) := mm_dk kX12_work_0 13 rfl
theorem dX12_work_24 : decode cX12_work 24 = .ok (.goto 8, 3) := mm_dk kX12_work_0 14 rfl
theorem dX12_work_27 : decode cX12_work 27 = .ok (.aload_n 0, 1) := mm_dk kX12_work_0 15 rfl
theorem dX12_work_28 : decode cX12_work 28 = .ok (.iconst (-1), 1) := mm_dk kX12_work_0 16 rfl
theorem dX12_work_29 : decode cX12_work 29 = .ok (.invokevirtual 390, 3) := mm_dk kX12_work_0 17 rfl
theorem dX12_work_32 : decode cX12_work 32 = .ok (.ireturn, 1) := mm_dk kX12_work_0 18 rfl
set_option maxRecDepth 100000 in
theorem kX12_trace_0 : ([(0, .iload_n 1, 1), (1, .iconst 0, 1), (2, .aload_n 0, 1), (3, .getfield 210, 3), (6, .iconst 1, 1), (7, .isub, 1), (8, .invokestatic 227, 3), (11, .ifCond .eq 16, 3), (14, .aload_n 0, 1), (15, .aload_n 0, 1), (16, .getfield 13, 3), (19, .iload_n 1, 1), (20, .iaload, 1), (21, .invokevirtual 235, 3), (24, .goto 9, 3), (27, .aload_n 0, 1), (28, .bipush (-4), 2), (30, .invokevirtual 231, 3), (33, .ireturn, 1)] : List (Nat × Instr × Nat)).all (fun x => decide (decode cX12_trace x.1 = .ok x.2)) = true := by decide +kernel
theorem dX12_trace_0 : decode cX12_trace 0 = .ok (.iload_n 1, 1) := mm_dk kX12_trace_0 0 rfl
theorem dX12_trace_1 : decode cX12_trace 1 = .ok (.iconst 0, 1) := mm_dk kX12_trace_0 1 rfl
theorem dX12_trace_2 : decode cX12_trace 2 = .ok (.aload_n 0, 1) := mm_dk kX12_trace_0 2 rfl
theorem dX12_trace_3 : decode cX12_trace 3 = .ok (.getfield 210, 3) := mm_dk kX12_trace_0 3 rfl
theorem dX12_trace_6 : decode cX12_trace 6 = .ok (.iconst 1, 1) := mm_dk kX12_trace_0 4 rfl
theorem dX12_trace_7 : decode cX12_trace 7 = .ok (.isub, 1) := mm_dk kX12_trace_0 5 rfl
theorem dX12_trace_8 : decode cX12_trace 8 = .ok (.invokestatic 227, 3) := mm_dk kX12_trace_0 6 rfl
theorem dX12_trace_11 : decode cX12_trace 11 = .ok (.ifCond .eq 16, 3) := mm_dk kX12_trace_0 7 rfl
theorem dX12_trace_14 : decode cX12_trace 14 = .ok (.aload_n 0, 1) := mm_dk kX12_trace_0 8 rfl
theorem dX12_trace_15 : decode cX12_trace 15 = .ok (.aload_n 0, 1) := mm_dk kX12_trace_0 9 rfl
theorem dX12_trace_16 : decode cX12_trace 16 = .ok (.getfield 13, 3) := mm_dk kX12_trace_0 10 rfl
theorem dX12_trace_19 : decode cX12_trace 19 = .ok (.iload_n 1, 1) := mm_dk kX12_trace_0 11 rfl
theorem dX12_trace_20 : decode cX12_trace 20 = .ok (.iaload, 1) := mm_dk kX12_trace_0 12 rfl
theorem dX12_trace_21 : decode cX12_trace 21 = .ok (.invokevirtual 235, 3) := mm_dk kX12_trace_0 13 rfl
theorem dX12_trace_24 : decode cX12_trace 24 = .ok (.goto 9, 3) := mm_dk kX12_trace_0 14 rfl
theorem dX12_trace_27 : decode cX12_trace 27 = .ok (.aload_n 0, 1) := mm_dk kX12_trace_0 15 rfl
theorem dX12_trace_28 : decode cX12_trace 28 = .ok (.bipush (-4), 2) := mm_dk kX12_trace_0 16 rfl
theorem dX12_trace_30 : decode cX12_trace 30 = .ok (.invokevirtual 231, 3) := mm_dk kX12_trace_0 17 rfl
theorem dX12_trace_33 : decode cX12_trace 33 = .ok (.ireturn, 1) := mm_dk kX12_trace_0 18 rfl
set_option maxRecDepth 100000 in
theorem kX12_count_0 : ([(0, .aload_n 0, 1), (1, .iload_n 1, 1), (2, .invokevirtual 238, 3), (5, .ifCond .ne 9, 3), (8, .aload_n 0, 1), (9, .iconst (-1), 1), (10, .invokevirtual 231, 3), (13, .ireturn, 1), (14, .iload_n 2, 1), (15, .tableswitch 158 0 9 #[53, 64, 75, 86, 97, 108, 119, 130, 141, 152], 53), (68, .aload_n 0, 1), (69, .aload_n 0, 1), (70, .getfield 41, 3), (73, .iload_n 1, 1), (74, .iaload, 1), (75, .invokevirtual 235, 3), (78, .ireturn, 1), (79, .aload_n 0, 1), (80, .aload_n 0, 1), (81, .getfield 93, 3), (84, .iload_n 1, 1), (85, .iaload, 1), (86, .invokevirtual 235, 3), (89, .ireturn, 1), (90, .aload_n 0, 1), (91, .aload_n 0, 1), (92, .getfield 118, 3), (95, .iload_n 1, 1), (96, .iaload, 1), (97, .invokevirtual 235, 3), (100, .ireturn, 1), (101, .aload_n 0, 1), (102, .aload_n 0, 1), (103, .getfield 38, 3), (106, .iload_n 1, 1), (107, .iaload, 1), (108, .invokevirtual 235, 3), (111, .ireturn, 1), (112, .aload_n 0, 1), (113, .aload_n 0, 1)] : List (Nat × Instr × Nat)).all (fun x => decide (decode cX12_count x.1 = .ok x.2)) = true := by decide +kernel
theorem dX12_count_0 : decode cX12_count 0 = .ok (.aload_n 0, 1) := mm_dk kX12_count_0 0 rfl
theorem dX12_count_1 : decode cX12_count 1 = .ok (.iload_n 1, 1) := mm_dk kX12_count_0 1 rfl
theorem dX12_count_2 : decode cX12_count 2 = .ok (.invokevirtual 238, 3) := mm_dk kX12_count_0 2 rfl
theorem dX12_count_5 : decode cX12_count 5 = .ok (.ifCond .ne 9, 3) := mm_dk kX12_count_0 3 rfl
theorem dX12_count_8 : decode cX12_count 8 = .ok (.aload_n 0, 1) := mm_dk kX12_count_0 4 rfl
theorem dX12_count_9 : decode cX12_count 9 = .ok (.iconst (-1), 1) := mm_dk kX12_count_0 5 rfl
theorem dX12_count_10 : decode cX12_count 10 = .ok (.invokevirtual 231, 3) := mm_dk kX12_count_0 6 rfl
theorem dX12_count_13 : decode cX12_count 13 = .ok (.ireturn, 1) := mm_dk kX12_count_0 7 rfl
theorem dX12_count_14 : decode cX12_count 14 = .ok (.iload_n 2, 1) := mm_dk kX12_count_0 8 rfl
theorem dX12_count_15 : decode cX12_count 15 = .ok (.tableswitch 158 0 9 #[53, 64, 75, 86, 97, 108, 119, 130, 141, 152], 53) := mm_dk kX12_count_0 9 rfl
theorem dX12_count_68 : decode cX12_count 68 = .ok (.aload_n 0, 1) := mm_dk kX12_count_0 10 rfl
theorem dX12_count_69 : decode cX12_count 69 = .ok (.aload_n 0, 1) := mm_dk kX12_count_0 11 rfl
theorem dX12_count_70 : decode cX12_count 70 = .ok (.getfield 41, 3) := mm_dk kX12_count_0 12 rfl
theorem dX12_count_73 : decode cX12_count 73 = .ok (.iload_n 1, 1) := mm_dk kX12_count_0 13 rfl
theorem dX12_count_74 : decode cX12_count 74 = .ok (.iaload, 1) := mm_dk kX12_count_0 14 rfl
theorem dX12_count_75 : decode cX12_count 75 = .ok (.invokevirtual 235, 3) := mm_dk kX12_count_0 15 rfl
theorem dX12_count_78 : decode cX12_count 78 = .ok (.ireturn, 1) := mm_dk kX12_count_0 16 rfl
theorem dX12_count_79 : decode cX12_count 79 = .ok (.aload_n 0, 1) := mm_dk kX12_count_0 17 rfl
theorem dX12_count_80 : decode cX12_count 80 = .ok (.aload_n 0, 1) := mm_dk kX12_count_0 18 rfl
theorem dX12_count_81 : decode cX12_count 81 = .ok (.getfield 93, 3) := mm_dk kX12_count_0 19 rfl
theorem dX12_count_84 : decode cX12_count 84 = .ok (.iload_n 1, 1) := mm_dk kX12_count_0 20 rfl
theorem dX12_count_85 : decode cX12_count 85 = .ok (.iaload, 1) := mm_dk kX12_count_0 21 rfl
theorem dX12_count_86 : decode cX12_count 86 = .ok (.invokevirtual 235, 3) := mm_dk kX12_count_0 22 rfl
theorem dX12_count_89 : decode cX12_count 89 = .ok (.ireturn, 1) := mm_dk kX12_count_0 23 rfl
theorem dX12_count_90 : decode cX12_count 90 = .ok (.aload_n 0, 1) := mm_dk kX12_count_0 24 rfl
theorem dX12_count_91 : decode cX12_count 91 = .ok (.aload_n 0, 1) := mm_dk kX12_count_0 25 rfl
theorem dX12_count_92 : decode cX12_count 92 = .ok (.getfield 118, 3) := mm_dk kX12_count_0 26 rfl
theorem dX12_count_95 : decode cX12_count 95 = .ok (.iload_n 1, 1) := mm_dk kX12_count_0 27 rfl
theorem dX12_count_96 : decode cX12_count 96 = .ok (.iaload, 1) := mm_dk kX12_count_0 28 rfl
theorem dX12_count_97 : decode cX12_count 97 = .ok (.invokevirtual 235, 3) := mm_dk kX12_count_0 29 rfl
theorem dX12_count_100 : decode cX12_count 100 = .ok (.ireturn, 1) := mm_dk kX12_count_0 30 rfl
theorem dX12_count_101 : decode cX12_count 101 = .ok (.aload_n 0, 1) := mm_dk kX12_count_0 31 rfl
theorem dX12_count_102 : decode cX12_count 102 = .ok (.aload_n 0, 1) := mm_dk kX12_count_0 32 rfl
theorem dX12_count_103 : decode cX12_count 103 = .ok (.getfield 38, 3) := mm_dk kX12_count_0 33 rfl
theorem dX12_count_106 : decode cX12_count 106 = .ok (.iload_n 1, 1) := mm_dk kX12_count_0 34 rfl
theorem dX12_count_107 : decode cX12_count 107 = .ok (.iaload, 1) := mm_dk kX12_count_0 35 rfl
theorem dX12_count_108 : decode cX12_count 108 = .ok (.invokevirtual 235, 3) := mm_dk kX12_count_0 36 rfl
theorem dX12_count_111 : decode cX12_count 111 = .ok (.ireturn, 1) := mm_dk kX12_count_0 37 rfl
theorem dX12_count_112 : decode cX12_count 112 = .ok (.aload_n 0, 1) := mm_dk kX12_count_0 38 rfl
theorem dX12_count_113 : decode cX12_count 113 = .ok (.aload_n 0, 1) := mm_dk kX12_count_0 39 rfl
set_option maxRecDepth 100000 in
theorem kX12_count_1 : ([(114, .getfield 50, 3), (117, .iload_n 1, 1), (118, .iaload, 1), (119, .invokevirtual 235, 3), (122, .ireturn, 1), (123, .aload_n 0, 1), (124, .aload_n 0, 1), (125, .getfield 124, 3), (128, .iload_n 1, 1), (129, .iaload, 1), (130, .invokevirtual 235, 3), (133, .ireturn, 1), (134, .aload_n 0, 1), (135, .aload_n 0, 1), (136, .getfield 127, 3), (139, .iload_n 1, 1), (140, .iaload, 1), (141, .invokevirtual 235, 3), (144, .ireturn, 1), (145, .aload_n 0, 1), (146, .aload_n 0, 1), (147, .getfield 130, 3), (150, .iload_n 1, 1), (151, .iaload, 1), (152, .invokevirtual 235, 3), (155, .ireturn, 1), (156, .aload_n 0, 1), (157, .aload_n 0, 1), (158, .getfield 133, 3), (161, .iload_n 1, 1), (162, .iaload, 1), (163, .invokevirtual 235, 3), (166, .ireturn, 1), (167, .aload_n 0, 1), (168, .iconst 0, 1), (169, .invokevirtual 235, 3), (172, .ireturn, 1), (173, .aload_n 0, 1), (174, .iconst (-1), 1), (175, .invokevirtual 231, 3)] : List (Nat × Instr × Nat)).all (fun x => decide (decode cX12_count x.1 = .ok x.2)) = true := by decide +kernel
theorem dX12_count_114 : decode cX12_count 114 = .ok (.getfield 50, 3) := mm_dk kX12_count_1 0 rfl
theorem dX12_count_117 : decode cX12_count 117 = .ok (.iload_n 1, 1) := mm_dk kX12_count_1 1 rfl
theorem dX12_count_118 : decode cX12_count 118 = .ok (.iaload, 1) := mm_dk kX12_count_1 2 rfl
theorem dX12_count_119 : decode cX12_count 119 = .ok (.invokevirtual 235, 3) := mm_dk kX12_count_1 3 rfl
theorem dX12_count_122 : decode cX12_count 122 = .ok (.ireturn, 1) := mm_dk kX12_count_1 4 rfl
theorem dX12_count_123 : decode cX12_count 123 = .ok (.aload_n 0, 1) := mm_dk kX12_count_1 5 rfl
theorem dX12_count_124 : decode cX12_count 124 = .ok (.aload_n 0, 1) := mm_dk kX12_count_1 6 rfl
theorem dX12_count_125 : decode cX12_count 125 = .ok (.getfield 124, 3) := mm_dk kX12_count_1 7 rfl
theorem dX12_count_128 : decode cX12_count 128 = .ok (.iload_n 1, 1) := mm_dk kX12_count_1 8 rfl
theorem dX12_count_129 : decode cX12_count 129 = .ok (.iaload, 1) := mm_dk kX12_count_1 9 rfl
theorem dX12_count_130 : decode cX12_count 130 = .ok (.invokevirtual 235, 3) := mm_dk kX12_count_1 10 rfl
theorem dX12_count_133 : decode cX12_count 133 = .ok (.ireturn, 1) := mm_dk kX12_count_1 11 rfl
theorem dX12_count_134 : decode cX12_count 134 = .ok (.aload_n 0, 1) := mm_dk kX12_count_1 12 rfl
theorem dX12_count_135 : decode cX12_count 135 = .ok (.aload_n 0, 1) := mm_dk kX12_count_1 13 rfl
theorem dX12_count_136 : decode cX12_count 136 = .ok (.getfield 127, 3) := mm_dk kX12_count_1 14 rfl
theorem dX12_count_139 : decode cX12_count 139 = .ok (.iload_n 1, 1) := mm_dk kX12_count_1 15 rfl
theorem dX12_count_140 : decode cX12_count 140 = .ok (.iaload, 1) := mm_dk kX12_count_1 16 rfl
theorem dX12_count_141 : decode cX12_count 141 = .ok (.invokevirtual 235, 3) := mm_dk kX12_count_1 17 rfl
theorem dX12_count_144 : decode cX12_count 144 = .ok (.ireturn, 1) := mm_dk kX12_count_1 18 rfl
theorem dX12_count_145 : decode cX12_count 145 = .ok (.aload_n 0, 1) := mm_dk kX12_count_1 19 rfl
theorem dX12_count_146 : decode cX12_count 146 = .ok (.aload_n 0, 1) := mm_dk kX12_count_1 20 rfl
theorem dX12_count_147 : decode cX12_count 147 = .ok (.getfield 130, 3) := mm_dk kX12_count_1 21 rfl
theorem dX12_count_150 : decode cX12_count 150 = .ok (.iload_n 1, 1) := mm_dk kX12_count_1 22 rfl
theorem dX12_count_151 : decode cX12_count 151 = .ok (.iaload, 1) := mm_dk kX12_count_1 23 rfl
theorem dX12_count_152 : decode cX12_count 152 = .ok (.invokevirtual 235, 3) := mm_dk kX12_count_1 24 rfl
theorem dX12_count_155 : decode cX12_count 155 = .ok (.ireturn, 1) := mm_dk kX12_count_1 25 rfl
theorem dX12_count_156 : decode cX12_count 156 = .ok (.aload_n 0, 1) := mm_dk kX12_count_1 26 rfl
theorem dX12_count_157 : decode cX12_count 157 = .ok (.aload_n 0, 1) := mm_dk kX12_count_1 27 rfl
theorem dX12_count_158 : decode cX12_count 158 = .ok (.getfield 133, 3) := mm_dk kX12_count_1 28 rfl
theorem dX12_count_161 : decode cX12_count 161 = .ok (.iload_n 1, 1) := mm_dk kX12_count_1 29 rfl
theorem dX12_count_162 : decode cX12_count 162 = .ok (.iaload, 1) := mm_dk kX12_count_1 30 rfl
theorem dX12_count_163 : decode cX12_count 163 = .ok (.invokevirtual 235, 3) := mm_dk kX12_count_1 31 rfl
theorem dX12_count_166 : decode cX12_count 166 = .ok (.ireturn, 1) := mm_dk kX12_count_1 32 rfl
theorem dX12_count_167 : decode cX12_count 167 = .ok (.aload_n 0, 1) := mm_dk kX12_count_1 33 rfl
theorem dX12_count_168 : decode cX12_count 168 = .ok (.iconst 0, 1) := mm_dk kX12_count_1 34 rfl
theorem dX12_count_169 : decode cX12_count 169 = .ok (.invokevirtual 235, 3) := mm_dk kX12_count_1 35 rfl
theorem dX12_count_172 : decode cX12_count 172 = .ok (.ireturn, 1) := mm_dk kX12_count_1 36 rfl
theorem dX12_count_173 : decode cX12_count 173 = .ok (.aload_n 0, 1) := mm_dk kX12_count_1 37 rfl
theorem dX12_count_174 : decode cX12_count 174 = .ok (.iconst (-1), 1) := mm_dk kX12_count_1 38 rfl
theorem dX12_count_175 : decode cX12_count 175 = .ok (.invokevirtual 231, 3) := mm_dk kX12_count_1 39 rfl
set_option maxRecDepth 100000 in
theorem kX12_count_2 : ([(178, .ireturn, 1)] : List (Nat × Instr × Nat)).all (fun x => decide (decode cX12_count x.1 = .ok x.2)) = true := by decide +kernel
theorem dX12_count_178 : decode cX12_count 178 = .ok (.ireturn, 1) := mm_dk kX12_count_2 0 rfl
set_option maxRecDepth 100000 in
theorem kX12_found_0 : ([(0, .iload_n 1, 1), (1, .iconst 1, 1), (2, .bipush 7, 2), (4, .invokestatic 227, 3), (7, .ifCond .eq 16, 3), (10, .aload_n 0, 1), (11, .aload_n 0, 1), (12, .getfield 7, 3), (15, .iload_n 1, 1), (16, .iaload, 1), (17, .invokevirtual 235, 3), (20, .goto 8, 3), (23, .aload_n 0, 1), (24, .iconst (-1), 1), (25, .invokevirtual 231, 3), (28, .ireturn, 1)] : List (Nat × Instr × Nat)).all (fun x => decide (decode cX12_found x.1 = .ok x.2)) = true := by decide +kernel
theorem dX12_found_0 : decode cX12_found 0 = .ok (.iload_n 1, 1) := mm_dk kX12_found_0 0 rfl
theorem dX12_found_1 : decode cX12_found 1 = .ok (.iconst 1, 1) := mm_dk kX12_found_0 1 rfl
theorem dX12_found_2 : decode cX12_found 2 = .ok (.bipush 7, 2) := mm_dk kX12_found_0 2 rfl
theorem dX12_found_4 : decode cX12_found 4 = .ok (.invokestatic 227, 3) := mm_dk kX12_found_0 3 rfl
theorem dX12_found_7 : decode cX12_found 7 = .ok (.ifCond .eq 16, 3) := mm_dk kX12_found_0 4 rfl
theorem dX12_found_10 : decode cX12_found 10 = .ok (.aload_n 0, 1) := mm_dk kX12_found_0 5 rfl
theorem dX12_found_11 : decode cX12_found 11 = .ok (.aload_n 0, 1) := mm_dk kX12_found_0 6 rfl
theorem dX12_found_12 : decode cX12_found 12 = .ok (.getfield 7, 3) := mm_dk kX12_found_0 7 rfl
theorem dX12_found_15 : decode cX12_found 15 = .ok (.iload_n 1, 1) := mm_dk kX12_found_0 8 rfl
theorem dX12_found_16 : decode cX12_found 16 = .ok (.iaload, 1) := mm_dk kX12_found_0 9 rfl
theorem dX12_found_17 : decode cX12_found 17 = .ok (.invokevirtual 235, 3) := mm_dk kX12_found_0 10 rfl
theorem dX12_found_20 : decode cX12_found 20 = .ok (.goto 8, 3) := mm_dk kX12_found_0 11 rfl
theorem dX12_found_23 : decode cX12_found 23 = .ok (.aload_n 0, 1) := mm_dk kX12_found_0 12 rfl
theorem dX12_found_24 : decode cX12_found 24 = .ok (.iconst (-1), 1) := mm_dk kX12_found_0 13 rfl
theorem dX12_found_25 : decode cX12_found 25 = .ok (.invokevirtual 231, 3) := mm_dk kX12_found_0 14 rfl
theorem dX12_found_28 : decode cX12_found 28 = .ok (.ireturn, 1) := mm_dk kX12_found_0 15 rfl
set_option maxRecDepth 100000 in
theorem kX12_saturations_0 : ([(0, .aload_n 0, 1), (1, .iconst 0, 1), (2, .putfield 202, 3), (5, .aload_n 0, 1), (6, .getfield 217, 3), (9, .lreturn, 1)] : List (Nat × Instr × Nat)).all (fun x => decide (decode cX12_saturations x.1 = .ok x.2)) = true := by decide +kernel
theorem dX12_saturations_0 : decode cX12_saturations 0 = .ok (.aload_n 0, 1) := mm_dk kX12_saturations_0 0 rfl
theorem dX12_saturations_1 : decode cX12_saturations 1 = .ok (.iconst 0, 1) := mm_dk kX12_saturations_0 1 rfl
theorem dX12_saturations_2 : decode cX12_saturations 2 = .ok (.putfield 202, 3) := mm_dk kX12_saturations_0 2 rfl
theorem dX12_saturations_5 : decode cX12_saturations 5 = .ok (.aload_n 0, 1) := mm_dk kX12_saturations_0 3 rfl
theorem dX12_saturations_6 : decode cX12_saturations 6 = .ok (.getfield 217, 3) := mm_dk kX12_saturations_0 4 rfl
theorem dX12_saturations_9 : decode cX12_saturations 9 = .ok (.lreturn, 1) := mm_dk kX12_saturations_0 5 rfl
set_option maxRecDepth 100000 in
theorem kX12_digest_0 : ([(0, .aload_n 0, 1), (1, .iload_n 1, 1), (2, .invokevirtual 238, 3), (5, .ifCond .eq 12, 3), (8, .iload_n 2, 1), (9, .iconst 0, 1), (10, .iconst 1, 1), (11, .invokestatic 227, 3), (14, .ifCond .ne 10, 3), (17, .aload_n 0, 1), (18, .iconst (-1), 1), (19, .putfield 202, 3), (22, .iconst 0, 1), (23, .ireturn, 1), (24, .iconst 2, 1), (25, .iload_n 1, 1), (26, .imul, 1), (27, .iload_n 2, 1), (28, .iadd, 1), (29, .istore_n 3, 1), (30, .bipush 7, 2), (32, .istore 4, 2), (34, .iconst 0, 1), (35, .istore 5, 2), (37, .iload 5, 2), (39, .sipush 160, 3), (42, .if_icmp .ge 30, 3), (45, .bipush 31, 2), (47, .iload 4, 2), (49, .imul, 1), (50, .aload_n 0, 1), (51, .getfield 53, 3), (54, .sipush 160, 3), (57, .iload_n 3, 1), (58, .imul, 1), (59, .iload 5, 2), (61, .iadd, 1), (62, .iaload, 1), (63, .iadd, 1), (64, .istore 4, 2)] : List (Nat × Instr × Nat)).all (fun x => decide (decode cX12_digest x.1 = .ok x.2)) = true := by decide +kernel
theorem dX12_digest_0 : decode cX12_digest 0 = .ok (.aload_n 0, 1) := mm_dk kX12_digest_0 0 rfl
theorem dX12_digest_1 : decode cX12_digest 1 = .ok (.iload_n 1, 1) := mm_dk kX12_digest_0 1 rfl
theorem dX12_digest_2 : decode cX12_digest 2 = .ok (.invokevirtual 238, 3) := mm_dk kX12_digest_0 2 rfl
theorem dX12_digest_5 : decode cX12_digest 5 = .ok (.ifCond .eq 12, 3) := mm_dk kX12_digest_0 3 rfl
theorem dX12_digest_8 : decode cX12_digest 8 = .ok (.iload_n 2, 1) := mm_dk kX12_digest_0 4 rfl
theorem dX12_digest_9 : decode cX12_digest 9 = .ok (.iconst 0, 1) := mm_dk kX12_digest_0 5 rfl
theorem dX12_digest_10 : decode cX12_digest 10 = .ok (.iconst 1, 1) := mm_dk kX12_digest_0 6 rfl
theorem dX12_digest_11 : decode cX12_digest 11 = .ok (.invokestatic 227, 3) := mm_dk kX12_digest_0 7 rfl
theorem dX12_digest_14 : decode cX12_digest 14 = .ok (.ifCond .ne 10, 3) := mm_dk kX12_digest_0 8 rfl
theorem dX12_digest_17 : decode cX12_digest 17 = .ok (.aload_n 0, 1) := mm_dk kX12_digest_0 9 rfl
theorem dX12_digest_18 : decode cX12_digest 18 = .ok (.iconst (-1), 1) := mm_dk kX12_digest_0 10 rfl
theorem dX12_digest_19 : decode cX12_digest 19 = .ok (.putfield 202, 3) := mm_dk kX12_digest_0 11 rfl
theorem dX12_digest_22 : decode cX12_digest 22 = .ok (.iconst 0, 1) := mm_dk kX12_digest_0 12 rfl
theorem dX12_digest_23 : decode cX12_digest 23 = .ok (.ireturn, 1) := mm_dk kX12_digest_0 13 rfl
theorem dX12_digest_24 : decode cX12_digest 24 = .ok (.iconst 2, 1) := mm_dk kX12_digest_0 14 rfl
theorem dX12_digest_25 : decode cX12_digest 25 = .ok (.iload_n 1, 1) := mm_dk kX12_digest_0 15 rfl
theorem dX12_digest_26 : decode cX12_digest 26 = .ok (.imul, 1) := mm_dk kX12_digest_0 16 rfl
theorem dX12_digest_27 : decode cX12_digest 27 = .ok (.iload_n 2, 1) := mm_dk kX12_digest_0 17 rfl
theorem dX12_digest_28 : decode cX12_digest 28 = .ok (.iadd, 1) := mm_dk kX12_digest_0 18 rfl
theorem dX12_digest_29 : decode cX12_digest 29 = .ok (.istore_n 3, 1) := mm_dk kX12_digest_0 19 rfl
theorem dX12_digest_30 : decode cX12_digest 30 = .ok (.bipush 7, 2) := mm_dk kX12_digest_0 20 rfl
theorem dX12_digest_32 : decode cX12_digest 32 = .ok (.istore 4, 2) := mm_dk kX12_digest_0 21 rfl
theorem dX12_digest_34 : decode cX12_digest 34 = .ok (.iconst 0, 1) := mm_dk kX12_digest_0 22 rfl
theorem dX12_digest_35 : decode cX12_digest 35 = .ok (.istore 5, 2) := mm_dk kX12_digest_0 23 rfl
theorem dX12_digest_37 : decode cX12_digest 37 = .ok (.iload 5, 2) := mm_dk kX12_digest_0 24 rfl
theorem dX12_digest_39 : decode cX12_digest 39 = .ok (.sipush 160, 3) := mm_dk kX12_digest_0 25 rfl
theorem dX12_digest_42 : decode cX12_digest 42 = .ok (.if_icmp .ge 30, 3) := mm_dk kX12_digest_0 26 rfl
theorem dX12_digest_45 : decode cX12_digest 45 = .ok (.bipush 31, 2) := mm_dk kX12_digest_0 27 rfl
theorem dX12_digest_47 : decode cX12_digest 47 = .ok (.iload 4, 2) := mm_dk kX12_digest_0 28 rfl
theorem dX12_digest_49 : decode cX12_digest 49 = .ok (.imul, 1) := mm_dk kX12_digest_0 29 rfl
theorem dX12_digest_50 : decode cX12_digest 50 = .ok (.aload_n 0, 1) := mm_dk kX12_digest_0 30 rfl
theorem dX12_digest_51 : decode cX12_digest 51 = .ok (.getfield 53, 3) := mm_dk kX12_digest_0 31 rfl
theorem dX12_digest_54 : decode cX12_digest 54 = .ok (.sipush 160, 3) := mm_dk kX12_digest_0 32 rfl
theorem dX12_digest_57 : decode cX12_digest 57 = .ok (.iload_n 3, 1) := mm_dk kX12_digest_0 33 rfl
theorem dX12_digest_58 : decode cX12_digest 58 = .ok (.imul, 1) := mm_dk kX12_digest_0 34 rfl
theorem dX12_digest_59 : decode cX12_digest 59 = .ok (.iload 5, 2) := mm_dk kX12_digest_0 35 rfl
theorem dX12_digest_61 : decode cX12_digest 61 = .ok (.iadd, 1) := mm_dk kX12_digest_0 36 rfl
theorem dX12_digest_62 : decode cX12_digest 62 = .ok (.iaload, 1) := mm_dk kX12_digest_0 37 rfl
theorem dX12_digest_63 : decode cX12_digest 63 = .ok (.iadd, 1) := mm_dk kX12_digest_0 38 rfl
theorem dX12_digest_64 : decode cX12_digest 64 = .ok (.istore 4, 2) := mm_dk kX12_digest_0 39 rfl
set_option maxRecDepth 100000 in
theorem kX12_digest_1 : ([(66, .iinc 5 1, 3), (69, .goto (-32), 3), (72, .iconst 0, 1), (73, .istore 5, 2), (75, .iload 5, 2), (77, .bipush 8, 2), (79, .if_icmp .ge 29, 3), (82, .bipush 31, 2), (84, .iload 4, 2), (86, .imul, 1), (87, .aload_n 0, 1), (88, .getfield 56, 3), (91, .bipush 8, 2), (93, .iload_n 3, 1), (94, .imul, 1), (95, .iload 5, 2), (97, .iadd, 1), (98, .iaload, 1), (99, .iadd, 1), (100, .istore 4, 2), (102, .iinc 5 1, 3), (105, .goto (-30), 3), (108, .iconst 0, 1), (109, .istore 5, 2), (111, .iload 5, 2), (113, .bipush 8, 2), (115, .if_icmp .ge 29, 3), (118, .bipush 31, 2), (120, .iload 4, 2), (122, .imul, 1), (123, .aload_n 0, 1), (124, .getfield 59, 3), (127, .bipush 8, 2), (129, .iload_n 3, 1), (130, .imul, 1), (131, .iload 5, 2), (133, .iadd, 1), (134, .iaload, 1), (135, .iadd, 1), (136, .istore 4, 2)] : List (Nat × Instr × Nat)).all (fun x => decide (decode cX12_digest x.1 = .ok x.2)) = true := by decide +kernel
theorem dX12_digest_66 : decode cX12_digest 66 = .ok (.iinc 5 1, 3) := mm_dk kX12_digest_1 0 rfl
theorem dX12_digest_69 : decode cX12_digest 69 = .ok (.goto (-32), 3) := mm_dk kX12_digest_1 1 rfl
theorem dX12_digest_72 : decode cX12_digest 72 = .ok (.iconst 0, 1) := mm_dk kX12_digest_1 2 rfl
theorem dX12_digest_73 : decode cX12_digest 73 = .ok (.istore 5, 2) := mm_dk kX12_digest_1 3 rfl
theorem dX12_digest_75 : decode cX12_digest 75 = .ok (.iload 5, 2) := mm_dk kX12_digest_1 4 rfl
theorem dX12_digest_77 : decode cX12_digest 77 = .ok (.bipush 8, 2) := mm_dk kX12_digest_1 5 rfl
theorem dX12_digest_79 : decode cX12_digest 79 = .ok (.if_icmp .ge 29, 3) := mm_dk kX12_digest_1 6 rfl
theorem dX12_digest_82 : decode cX12_digest 82 = .ok (.bipush 31, 2) := mm_dk kX12_digest_1 7 rfl
theorem dX12_digest_84 : decode cX12_digest 84 = .ok (.iload 4, 2) := mm_dk kX12_digest_1 8 rfl
theorem dX12_digest_86 : decode cX12_digest 86 = .ok (.imul, 1) := mm_dk kX12_digest_1 9 rfl
theorem dX12_digest_87 : decode cX12_digest 87 = .ok (.aload_n 0, 1) := mm_dk kX12_digest_1 10 rfl
theorem dX12_digest_88 : decode cX12_digest 88 = .ok (.getfield 56, 3) := mm_dk kX12_digest_1 11 rfl
theorem dX12_digest_91 : decode cX12_digest 91 = .ok (.bipush 8, 2) := mm_dk kX12_digest_1 12 rfl
theorem dX12_digest_93 : decode cX12_digest 93 = .ok (.iload_n 3, 1) := mm_dk kX12_digest_1 13 rfl
theorem dX12_digest_94 : decode cX12_digest 94 = .ok (.imul, 1) := mm_dk kX12_digest_1 14 rfl
theorem dX12_digest_95 : decode cX12_digest 95 = .ok (.iload 5, 2) := mm_dk kX12_digest_1 15 rfl
theorem dX12_digest_97 : decode cX12_digest 97 = .ok (.iadd, 1) := mm_dk kX12_digest_1 16 rfl
theorem dX12_digest_98 : decode cX12_digest 98 = .ok (.iaload, 1) := mm_dk kX12_digest_1 17 rfl
theorem dX12_digest_99 : decode cX12_digest 99 = .ok (.iadd, 1) := mm_dk kX12_digest_1 18 rfl
theorem dX12_digest_100 : decode cX12_digest 100 = .ok (.istore 4, 2) := mm_dk kX12_digest_1 19 rfl
theorem dX12_digest_102 : decode cX12_digest 102 = .ok (.iinc 5 1, 3) := mm_dk kX12_digest_1 20 rfl
theorem dX12_digest_105 : decode cX12_digest 105 = .ok (.goto (-30), 3) := mm_dk kX12_digest_1 21 rfl
theorem dX12_digest_108 : decode cX12_digest 108 = .ok (.iconst 0, 1) := mm_dk kX12_digest_1 22 rfl
theorem dX12_digest_109 : decode cX12_digest 109 = .ok (.istore 5, 2) := mm_dk kX12_digest_1 23 rfl
theorem dX12_digest_111 : decode cX12_digest 111 = .ok (.iload 5, 2) := mm_dk kX12_digest_1 24 rfl
theorem dX12_digest_113 : decode cX12_digest 113 = .ok (.bipush 8, 2) := mm_dk kX12_digest_1 25 rfl
theorem dX12_digest_115 : decode cX12_digest 115 = .ok (.if_icmp .ge 29, 3) := mm_dk kX12_digest_1 26 rfl
theorem dX12_digest_118 : decode cX12_digest 118 = .ok (.bipush 31, 2) := mm_dk kX12_digest_1 27 rfl
theorem dX12_digest_120 : decode cX12_digest 120 = .ok (.iload 4, 2) := mm_dk kX12_digest_1 28 rfl
theorem dX12_digest_122 : decode cX12_digest 122 = .ok (.imul, 1) := mm_dk kX12_digest_1 29 rfl
theorem dX12_digest_123 : decode cX12_digest 123 = .ok (.aload_n 0, 1) := mm_dk kX12_digest_1 30 rfl
theorem dX12_digest_124 : decode cX12_digest 124 = .ok (.getfield 59, 3) := mm_dk kX12_digest_1 31 rfl
theorem dX12_digest_127 : decode cX12_digest 127 = .ok (.bipush 8, 2) := mm_dk kX12_digest_1 32 rfl
theorem dX12_digest_129 : decode cX12_digest 129 = .ok (.iload_n 3, 1) := mm_dk kX12_digest_1 33 rfl
theorem dX12_digest_130 : decode cX12_digest 130 = .ok (.imul, 1) := mm_dk kX12_digest_1 34 rfl
theorem dX12_digest_131 : decode cX12_digest 131 = .ok (.iload 5, 2) := mm_dk kX12_digest_1 35 rfl
theorem dX12_digest_133 : decode cX12_digest 133 = .ok (.iadd, 1) := mm_dk kX12_digest_1 36 rfl
theorem dX12_digest_134 : decode cX12_digest 134 = .ok (.iaload, 1) := mm_dk kX12_digest_1 37 rfl
theorem dX12_digest_135 : decode cX12_digest 135 = .ok (.iadd, 1) := mm_dk kX12_digest_1 38 rfl
theorem dX12_digest_136 : decode cX12_digest 136 = .ok (.istore 4, 2) := mm_dk kX12_digest_1 39 rfl
set_option maxRecDepth 100000 in
theorem kX12_digest_2 : ([(138, .iinc 5 1, 3), (141, .goto (-30), 3), (144, .aload_n 0, 1), (145, .bipush 31, 2), (147, .iload 4, 2), (149, .imul, 1), (150, .aload_n 0, 1), (151, .getfield 62, 3), (154, .iload_n 3, 1), (155, .iaload, 1), (156, .iadd, 1), (157, .invokevirtual 235, 3), (160, .ireturn, 1)] : List (Nat × Instr × Nat)).all (fun x => decide (decode cX12_digest x.1 = .ok x.2)) = true := by decide +kernel
theorem dX12_digest_138 : decode cX12_digest 138 = .ok (.iinc 5 1, 3) := mm_dk kX12_digest_2 0 rfl
theorem dX12_digest_141 : decode cX12_digest 141 = .ok (.goto (-30), 3) := mm_dk kX12_digest_2 1 rfl
theorem dX12_digest_144 : decode cX12_digest 144 = .ok (.aload_n 0, 1) := mm_dk kX12_digest_2 2 rfl
theorem dX12_digest_145 : decode cX12_digest 145 = .ok (.bipush 31, 2) := mm_dk kX12_digest_2 3 rfl
theorem dX12_digest_147 : decode cX12_digest 147 = .ok (.iload 4, 2) := mm_dk kX12_digest_2 4 rfl
theorem dX12_digest_149 : decode cX12_digest 149 = .ok (.imul, 1) := mm_dk kX12_digest_2 5 rfl
theorem dX12_digest_150 : decode cX12_digest 150 = .ok (.aload_n 0, 1) := mm_dk kX12_digest_2 6 rfl
theorem dX12_digest_151 : decode cX12_digest 151 = .ok (.getfield 62, 3) := mm_dk kX12_digest_2 7 rfl
theorem dX12_digest_154 : decode cX12_digest 154 = .ok (.iload_n 3, 1) := mm_dk kX12_digest_2 8 rfl
theorem dX12_digest_155 : decode cX12_digest 155 = .ok (.iaload, 1) := mm_dk kX12_digest_2 9 rfl
theorem dX12_digest_156 : decode cX12_digest 156 = .ok (.iadd, 1) := mm_dk kX12_digest_2 10 rfl
theorem dX12_digest_157 : decode cX12_digest 157 = .ok (.invokevirtual 235, 3) := mm_dk kX12_digest_2 11 rfl
theorem dX12_digest_160 : decode cX12_digest 160 = .ok (.ireturn, 1) := mm_dk kX12_digest_2 12 rfl
set_option maxRecDepth 100000 in
theorem kX12_status_0 : ([(0, .aload_n 0, 1), (1, .getfield 202, 3), (4, .ireturn, 1)] : List (Nat × Instr × Nat)).all (fun x => decide (decode cX12_status x.1 = .ok x.2)) = true := by decide +kernel
theorem dX12_status_0 : decode cX12_status 0 = .ok (.aload_n 0, 1) := mm_dk kX12_status_0 0 rfl
theorem dX12_status_1 : decode cX12_status 1 = .ok (.getfield 202, 3) := mm_dk kX12_status_0 1 rfl
theorem dX12_status_4 : decode cX12_status 4 = .ok (.ireturn, 1) := mm_dk kX12_status_0 2 rfl
set_option maxRecDepth 100000 in
theorem kX12_told_0 : ([(0, .iload_n 1, 1), (1, .tableswitch 67 0 3 #[31, 40, 49, 58], 31), (32, .aload_n 0, 1), (33, .aload_n 0, 1), (34, .getfield 207, 3), (37, .invokevirtual 235, 3), (40, .ireturn, 1), (41, .aload_n 0, 1), (42, .aload_n 0, 1), (43, .getfield 402, 3), (46, .invokevirtual 235, 3), (49, .ireturn, 1), (50, .aload_n 0, 1), (51, .aload_n 0, 1), (52, .getfield 210, 3), (55, .invokevirtual 235, 3), (58, .ireturn, 1), (59, .aload_n 0, 1), (60, .aload_n 0, 1), (61, .getfield 450, 3), (64, .invokevirtual 235, 3), (67, .ireturn, 1), (68, .aload_n 0, 1), (69, .iconst (-1), 1), (70, .invokevirtual 231, 3), (73, .ireturn, 1)] : List (Nat × Instr × Nat)).all (fun x => decide (decode cX12_told x.1 = .ok x.2)) = true := by decide +kernel
theorem dX12_told_0 : decode cX12_told 0 = .ok (.iload_n 1, 1) := mm_dk kX12_told_0 0 rfl
theorem dX12_told_1 : decode cX12_told 1 = .ok (.tableswitch 67 0 3 #[31, 40, 49, 58], 31) := mm_dk kX12_told_0 1 rfl
theorem dX12_told_32 : decode cX12_told 32 = .ok (.aload_n 0, 1) := mm_dk kX12_told_0 2 rfl
theorem dX12_told_33 : decode cX12_told 33 = .ok (.aload_n 0, 1) := mm_dk kX12_told_0 3 rfl
theorem dX12_told_34 : decode cX12_told 34 = .ok (.getfield 207, 3) := mm_dk kX12_told_0 4 rfl
theorem dX12_told_37 : decode cX12_told 37 = .ok (.invokevirtual 235, 3) := mm_dk kX12_told_0 5 rfl
theorem dX12_told_40 : decode cX12_told 40 = .ok (.ireturn, 1) := mm_dk kX12_told_0 6 rfl
theorem dX12_told_41 : decode cX12_told 41 = .ok (.aload_n 0, 1) := mm_dk kX12_told_0 7 rfl
theorem dX12_told_42 : decode cX12_told 42 = .ok (.aload_n 0, 1) := mm_dk kX12_told_0 8 rfl
theorem dX12_told_43 : decode cX12_told 43 = .ok (.getfield 402, 3) := mm_dk kX12_told_0 9 rfl
theorem dX12_told_46 : decode cX12_told 46 = .ok (.invokevirtual 235, 3) := mm_dk kX12_told_0 10 rfl
theorem dX12_told_49 : decode cX12_told 49 = .ok (.ireturn, 1) := mm_dk kX12_told_0 11 rfl
theorem dX12_told_50 : decode cX12_told 50 = .ok (.aload_n 0, 1) := mm_dk kX12_told_0 12 rfl
theorem dX12_told_51 : decode cX12_told 51 = .ok (.aload_n 0, 1) := mm_dk kX12_told_0 13 rfl
theorem dX12_told_52 : decode cX12_told 52 = .ok (.getfield 210, 3) := mm_dk kX12_told_0 14 rfl
theorem dX12_told_55 : decode cX12_told 55 = .ok (.invokevirtual 235, 3) := mm_dk kX12_told_0 15 rfl
theorem dX12_told_58 : decode cX12_told 58 = .ok (.ireturn, 1) := mm_dk kX12_told_0 16 rfl
theorem dX12_told_59 : decode cX12_told 59 = .ok (.aload_n 0, 1) := mm_dk kX12_told_0 17 rfl
theorem dX12_told_60 : decode cX12_told 60 = .ok (.aload_n 0, 1) := mm_dk kX12_told_0 18 rfl
theorem dX12_told_61 : decode cX12_told 61 = .ok (.getfield 450, 3) := mm_dk kX12_told_0 19 rfl
theorem dX12_told_64 : decode cX12_told 64 = .ok (.invokevirtual 235, 3) := mm_dk kX12_told_0 20 rfl
theorem dX12_told_67 : decode cX12_told 67 = .ok (.ireturn, 1) := mm_dk kX12_told_0 21 rfl
theorem dX12_told_68 : decode cX12_told 68 = .ok (.aload_n 0, 1) := mm_dk kX12_told_0 22 rfl
theorem dX12_told_69 : decode cX12_told 69 = .ok (.iconst (-1), 1) := mm_dk kX12_told_0 23 rfl
theorem dX12_told_70 : decode cX12_told 70 = .ok (.invokevirtual 231, 3) := mm_dk kX12_told_0 24 rfl
theorem dX12_told_73 : decode cX12_told 73 = .ok (.ireturn, 1) := mm_dk kX12_told_0 25 rfl
set_option maxRecDepth 100000 in
theorem kX12_clear_0 : ([(0, .aload_n 0, 1), (1, .getfield 207, 3), (4, .istore_n 1, 1), (5, .aload_n 0, 1), (6, .iconst 0, 1), (7, .putfield 207, 3), (10, .aload_n 0, 1), (11, .iconst 0, 1), (12, .putfield 402, 3), (15, .aload_n 0, 1), (16, .iconst 0, 1), (17, .putfield 450, 3), (20, .aload_n 0, 1), (21, .iconst 0, 1), (22, .putfield 210, 3), (25, .aload_n 0, 1), (26, .iconst 0, 1), (27, .putfield 343, 3), (30, .aload_n 0, 1), (31, .iload_n 1, 1), (32, .invokevirtual 235, 3), (35, .ireturn, 1)] : List (Nat × Instr × Nat)).all (fun x => decide (decode cX12_clear x.1 = .ok x.2)) = true := by decide +kernel
theorem dX12_clear_0 : decode cX12_clear 0 = .ok (.aload_n 0, 1) := mm_dk kX12_clear_0 0 rfl
theorem dX12_clear_1 : decode cX12_clear 1 = .ok (.getfield 207, 3) := mm_dk kX12_clear_0 1 rfl
theorem dX12_clear_4 : decode cX12_clear 4 = .ok (.istore_n 1, 1) := mm_dk kX12_clear_0 2 rfl
theorem dX12_clear_5 : decode cX12_clear 5 = .ok (.aload_n 0, 1) := mm_dk kX12_clear_0 3 rfl
theorem dX12_clear_6 : decode cX12_clear 6 = .ok (.iconst 0, 1) := mm_dk kX12_clear_0 4 rfl
theorem dX12_clear_7 : decode cX12_clear 7 = .ok (.putfield 207, 3) := mm_dk kX12_clear_0 5 rfl
theorem dX12_clear_10 : decode cX12_clear 10 = .ok (.aload_n 0, 1) := mm_dk kX12_clear_0 6 rfl
theorem dX12_clear_11 : decode cX12_clear 11 = .ok (.iconst 0, 1) := mm_dk kX12_clear_0 7 rfl
theorem dX12_clear_12 : decode cX12_clear 12 = .ok (.putfield 402, 3) := mm_dk kX12_clear_0 8 rfl
theorem dX12_clear_15 : decode cX12_clear 15 = .ok (.aload_n 0, 1) := mm_dk kX12_clear_0 9 rfl
theorem dX12_clear_16 : decode cX12_clear 16 = .ok (.iconst 0, 1) := mm_dk kX12_clear_0 10 rfl
theorem dX12_clear_17 : decode cX12_clear 17 = .ok (.putfield 450, 3) := mm_dk kX12_clear_0 11 rfl
theorem dX12_clear_20 : decode cX12_clear 20 = .ok (.aload_n 0, 1) := mm_dk kX12_clear_0 12 rfl
theorem dX12_clear_21 : decode cX12_clear 21 = .ok (.iconst 0, 1) := mm_dk kX12_clear_0 13 rfl
theorem dX12_clear_22 : decode cX12_clear 22 = .ok (.putfield 210, 3) := mm_dk kX12_clear_0 14 rfl
theorem dX12_clear_25 : decode cX12_clear 25 = .ok (.aload_n 0, 1) := mm_dk kX12_clear_0 15 rfl
theorem dX12_clear_26 : decode cX12_clear 26 = .ok (.iconst 0, 1) := mm_dk kX12_clear_0 16 rfl
theorem dX12_clear_27 : decode cX12_clear 27 = .ok (.putfield 343, 3) := mm_dk kX12_clear_0 17 rfl
theorem dX12_clear_30 : decode cX12_clear 30 = .ok (.aload_n 0, 1) := mm_dk kX12_clear_0 18 rfl
theorem dX12_clear_31 : decode cX12_clear 31 = .ok (.iload_n 1, 1) := mm_dk kX12_clear_0 19 rfl
theorem dX12_clear_32 : decode cX12_clear 32 = .ok (.invokevirtual 235, 3) := mm_dk kX12_clear_0 20 rfl
theorem dX12_clear_35 : decode cX12_clear 35 = .ok (.ireturn, 1) := mm_dk kX12_clear_0 21 rfl
