set_option maxRecDepth 100000 in
theorem kX12_sound_0 : ([(0, .iconst 0, 1), (1, .istore 4, 2), (3, .iload 4, 2), (5, .sipush 160, 3), (8, .iload_n 3, 1), (9, .isub, 1), (10, .if_icmp .ge 37, 3), (13, .aload_n 0, 1), (14, .getfield 53, 3), (17, .sipush 160, 3), (20, .iload_n 1, 1), (21, .imul, 1), (22, .iload 4, 2), (24, .iadd, 1), (25, .aload_n 0, 1), (26, .getfield 53, 3), (29, .sipush 160, 3), (32, .iload_n 1, 1), (33, .imul, 1), (34, .iload 4, 2), (36, .iadd, 1), (37, .iload_n 3, 1), (38, .iadd, 1), (39, .iaload, 1), (40, .iastore, 1), (41, .iinc 4 1, 3), (44, .goto (-41), 3), (47, .iconst 0, 1), (48, .istore 4, 2), (50, .iload 4, 2), (52, .iload_n 3, 1), (53, .if_icmp .ge 35, 3), (56, .aload_n 0, 1), (57, .getfield 53, 3), (60, .sipush 160, 3), (63, .iload_n 1, 1), (64, .imul, 1), (65, .sipush 160, 3), (68, .iadd, 1), (69, .iload_n 3, 1)] : List (Nat × Instr × Nat)).all (fun x => decide (decode cX12_sound x.1 = .ok x.2)) = true := by decide +kernel
theorem dX12_sound_0 : decode cX12_sound 0 = .ok (.iconst 0, 1) := mm_dk kX12_sound_0 0 rfl
theorem dX12_sound_1 : decode cX12_sound 1 = .ok (.istore 4, 2) := mm_dk kX12_sound_0 1 rfl
theorem dX12_sound_3 : decode cX12_sound 3 = .ok (.iload 4, 2) := mm_dk kX12_sound_0 2 rfl
theorem dX12_sound_5 : decode cX12_sound 5 = .ok (.sipush 160, 3) := mm_dk kX12_sound_0 3 rfl
theorem dX12_sound_8 : decode cX12_sound 8 = .ok (.iload_n 3, 1) := mm_dk kX12_sound_0 4 rfl
theorem dX12_sound_9 : decode cX12_sound 9 = .ok (.isub, 1) := mm_dk kX12_sound_0 5 rfl
theorem dX12_sound_10 : decode cX12_sound 10 = .ok (.if_icmp .ge 37, 3) := mm_dk kX12_sound_0 6 rfl
theorem dX12_sound_13 : decode cX12_sound 13 = .ok (.aload_n 0, 1) := mm_dk kX12_sound_0 7 rfl
theorem dX12_sound_14 : decode cX12_sound 14 = .ok (.getfield 53, 3) := mm_dk kX12_sound_0 8 rfl
theorem dX12_sound_17 : decode cX12_sound 17 = .ok (.sipush 160, 3) := mm_dk kX12_sound_0 9 rfl
theorem dX12_sound_20 : decode cX12_sound 20 = .ok (.iload_n 1, 1) := mm_dk kX12_sound_0 10 rfl
theorem dX12_sound_21 : decode cX12_sound 21 = .ok (.imul, 1) := mm_dk kX12_sound_0 11 rfl
theorem dX12_sound_22 : decode cX12_sound 22 = .ok (.iload 4, 2) := mm_dk kX12_sound_0 12 rfl
theorem dX12_sound_24 : decode cX12_sound 24 = .ok (.iadd, 1) := mm_dk kX12_sound_0 13 rfl
theorem dX12_sound_25 : decode cX12_sound 25 = .ok (.aload_n 0, 1) := mm_dk kX12_sound_0 14 rfl
theorem dX12_sound_26 : decode cX12_sound 26 = .ok (.getfield 53, 3) := mm_dk kX12_sound_0 15 rfl
theorem dX12_sound_29 : decode cX12_sound 29 = .ok (.sipush 160, 3) := mm_dk kX12_sound_0 16 rfl
theorem dX12_sound_32 : decode cX12_sound 32 = .ok (.iload_n 1, 1) := mm_dk kX12_sound_0 17 rfl
theorem dX12_sound_33 : decode cX12_sound 33 = .ok (.imul, 1) := mm_dk kX12_sound_0 18 rfl
theorem dX12_sound_34 : decode cX12_sound 34 = .ok (.iload 4, 2) := mm_dk kX12_sound_0 19 rfl
theorem dX12_sound_36 : decode cX12_sound 36 = .ok (.iadd, 1) := mm_dk kX12_sound_0 20 rfl
theorem dX12_sound_37 : decode cX12_sound 37 = .ok (.iload_n 3, 1) := mm_dk kX12_sound_0 21 rfl
theorem dX12_sound_38 : decode cX12_sound 38 = .ok (.iadd, 1) := mm_dk kX12_sound_0 22 rfl
theorem dX12_sound_39 : decode cX12_sound 39 = .ok (.iaload, 1) := mm_dk kX12_sound_0 23 rfl
theorem dX12_sound_40 : decode cX12_sound 40 = .ok (.iastore, 1) := mm_dk kX12_sound_0 24 rfl
theorem dX12_sound_41 : decode cX12_sound 41 = .ok (.iinc 4 1, 3) := mm_dk kX12_sound_0 25 rfl
theorem dX12_sound_44 : decode cX12_sound 44 = .ok (.goto (-41), 3) := mm_dk kX12_sound_0 26 rfl
theorem dX12_sound_47 : decode cX12_sound 47 = .ok (.iconst 0, 1) := mm_dk kX12_sound_0 27 rfl
theorem dX12_sound_48 : decode cX12_sound 48 = .ok (.istore 4, 2) := mm_dk kX12_sound_0 28 rfl
theorem dX12_sound_50 : decode cX12_sound 50 = .ok (.iload 4, 2) := mm_dk kX12_sound_0 29 rfl
theorem dX12_sound_52 : decode cX12_sound 52 = .ok (.iload_n 3, 1) := mm_dk kX12_sound_0 30 rfl
theorem dX12_sound_53 : decode cX12_sound 53 = .ok (.if_icmp .ge 35, 3) := mm_dk kX12_sound_0 31 rfl
theorem dX12_sound_56 : decode cX12_sound 56 = .ok (.aload_n 0, 1) := mm_dk kX12_sound_0 32 rfl
theorem dX12_sound_57 : decode cX12_sound 57 = .ok (.getfield 53, 3) := mm_dk kX12_sound_0 33 rfl
theorem dX12_sound_60 : decode cX12_sound 60 = .ok (.sipush 160, 3) := mm_dk kX12_sound_0 34 rfl
theorem dX12_sound_63 : decode cX12_sound 63 = .ok (.iload_n 1, 1) := mm_dk kX12_sound_0 35 rfl
theorem dX12_sound_64 : decode cX12_sound 64 = .ok (.imul, 1) := mm_dk kX12_sound_0 36 rfl
theorem dX12_sound_65 : decode cX12_sound 65 = .ok (.sipush 160, 3) := mm_dk kX12_sound_0 37 rfl
theorem dX12_sound_68 : decode cX12_sound 68 = .ok (.iadd, 1) := mm_dk kX12_sound_0 38 rfl
theorem dX12_sound_69 : decode cX12_sound 69 = .ok (.iload_n 3, 1) := mm_dk kX12_sound_0 39 rfl
set_option maxRecDepth 100000 in
theorem kX12_sound_1 : ([(70, .isub, 1), (71, .iload 4, 2), (73, .iadd, 1), (74, .aload_n 0, 1), (75, .getfield 181, 3), (78, .iload 4, 2), (80, .iaload, 1), (81, .iastore, 1), (82, .iinc 4 1, 3), (85, .goto (-35), 3), (88, .iconst 0, 1), (89, .istore 4, 2), (91, .iload 4, 2), (93, .iload_n 3, 1), (94, .if_icmp .ge 30, 3), (97, .aload_n 0, 1), (98, .getfield 172, 3), (101, .iload_n 2, 1), (102, .iload 4, 2), (104, .iadd, 1), (105, .aload_n 0, 1), (106, .iload_n 1, 1), (107, .aload_n 0, 1), (108, .getfield 181, 3), (111, .iload 4, 2), (113, .iaload, 1), (114, .invokevirtual 332, 3), (117, .iastore, 1), (118, .iinc 4 1, 3), (121, .goto (-30), 3), (124, .return_, 1)] : List (Nat × Instr × Nat)).all (fun x => decide (decode cX12_sound x.1 = .ok x.2)) = true := by decide +kernel
theorem dX12_sound_70 : decode cX12_sound 70 = .ok (.isub, 1) := mm_dk kX12_sound_1 0 rfl
theorem dX12_sound_71 : decode cX12_sound 71 = .ok (.iload 4, 2) := mm_dk kX12_sound_1 1 rfl
theorem dX12_sound_73 : decode cX12_sound 73 = .ok (.iadd, 1) := mm_dk kX12_sound_1 2 rfl
theorem dX12_sound_74 : decode cX12_sound 74 = .ok (.aload_n 0, 1) := mm_dk kX12_sound_1 3 rfl
theorem dX12_sound_75 : decode cX12_sound 75 = .ok (.getfield 181, 3) := mm_dk kX12_sound_1 4 rfl
theorem dX12_sound_78 : decode cX12_sound 78 = .ok (.iload 4, 2) := mm_dk kX12_sound_1 5 rfl
theorem dX12_sound_80 : decode cX12_sound 80 = .ok (.iaload, 1) := mm_dk kX12_sound_1 6 rfl
theorem dX12_sound_81 : decode cX12_sound 81 = .ok (.iastore, 1) := mm_dk kX12_sound_1 7 rfl
theorem dX12_sound_82 : decode cX12_sound 82 = .ok (.iinc 4 1, 3) := mm_dk kX12_sound_1 8 rfl
theorem dX12_sound_85 : decode cX12_sound 85 = .ok (.goto (-35), 3) := mm_dk kX12_sound_1 9 rfl
theorem dX12_sound_88 : decode cX12_sound 88 = .ok (.iconst 0, 1) := mm_dk kX12_sound_1 10 rfl
theorem dX12_sound_89 : decode cX12_sound 89 = .ok (.istore 4, 2) := mm_dk kX12_sound_1 11 rfl
theorem dX12_sound_91 : decode cX12_sound 91 = .ok (.iload 4, 2) := mm_dk kX12_sound_1 12 rfl
theorem dX12_sound_93 : decode cX12_sound 93 = .ok (.iload_n 3, 1) := mm_dk kX12_sound_1 13 rfl
theorem dX12_sound_94 : decode cX12_sound 94 = .ok (.if_icmp .ge 30, 3) := mm_dk kX12_sound_1 14 rfl
theorem dX12_sound_97 : decode cX12_sound 97 = .ok (.aload_n 0, 1) := mm_dk kX12_sound_1 15 rfl
theorem dX12_sound_98 : decode cX12_sound 98 = .ok (.getfield 172, 3) := mm_dk kX12_sound_1 16 rfl
theorem dX12_sound_101 : decode cX12_sound 101 = .ok (.iload_n 2, 1) := mm_dk kX12_sound_1 17 rfl
theorem dX12_sound_102 : decode cX12_sound 102 = .ok (.iload 4, 2) := mm_dk kX12_sound_1 18 rfl
theorem dX12_sound_104 : decode cX12_sound 104 = .ok (.iadd, 1) := mm_dk kX12_sound_1 19 rfl
theorem dX12_sound_105 : decode cX12_sound 105 = .ok (.aload_n 0, 1) := mm_dk kX12_sound_1 20 rfl
theorem dX12_sound_106 : decode cX12_sound 106 = .ok (.iload_n 1, 1) := mm_dk kX12_sound_1 21 rfl
theorem dX12_sound_107 : decode cX12_sound 107 = .ok (.aload_n 0, 1) := mm_dk kX12_sound_1 22 rfl
theorem dX12_sound_108 : decode cX12_sound 108 = .ok (.getfield 181, 3) := mm_dk kX12_sound_1 23 rfl
theorem dX12_sound_111 : decode cX12_sound 111 = .ok (.iload 4, 2) := mm_dk kX12_sound_1 24 rfl
theorem dX12_sound_113 : decode cX12_sound 113 = .ok (.iaload, 1) := mm_dk kX12_sound_1 25 rfl
theorem dX12_sound_114 : decode cX12_sound 114 = .ok (.invokevirtual 332, 3) := mm_dk kX12_sound_1 26 rfl
theorem dX12_sound_117 : decode cX12_sound 117 = .ok (.iastore, 1) := mm_dk kX12_sound_1 27 rfl
theorem dX12_sound_118 : decode cX12_sound 118 = .ok (.iinc 4 1, 3) := mm_dk kX12_sound_1 28 rfl
theorem dX12_sound_121 : decode cX12_sound 121 = .ok (.goto (-30), 3) := mm_dk kX12_sound_1 29 rfl
theorem dX12_sound_124 : decode cX12_sound 124 = .ok (.return_, 1) := mm_dk kX12_sound_1 30 rfl
set_option maxRecDepth 100000 in
theorem kX12_excited_0 : ([(0, .aload_n 0, 1), (1, .iload_n 1, 1), (2, .iload 4, 2), (4, .iload_n 3, 1), (5, .invokevirtual 336, 3), (8, .iconst 0, 1), (9, .istore 11, 2), (11, .iload 11, 2), (13, .iload_n 3, 1), (14, .if_icmp .ge 17, 3), (17, .aload_n 0, 1), (18, .getfield 184, 3), (21, .iload 11, 2), (23, .iconst 0, 1), (24, .iastore, 1), (25, .iinc 11 1, 3), (28, .goto (-17), 3), (31, .iconst 0, 1), (32, .istore 11, 2), (34, .iload 11, 2), (36, .iconst 3, 1), (37, .if_icmp .ge 91, 3), (40, .iload 6, 2), (42, .iload 11, 2), (44, .iadd, 1), (45, .iload_n 3, 1), (46, .if_icmp .ge 35, 3), (49, .aload_n 0, 1), (50, .getfield 184, 3), (53, .iload 6, 2), (55, .iload 11, 2), (57, .iadd, 1), (58, .dup2, 1), (59, .iaload, 1), (60, .iload 7, 2), (62, .ifCond .ne 11, 3), (65, .iload 11, 2), (67, .invokestatic 293, 3), (70, .goto 9, 3), (73, .iload 11, 2)] : List (Nat × Instr × Nat)).all (fun x => decide (decode cX12_excited x.1 = .ok x.2)) = true := by decide +kernel
theorem dX12_excited_0 : decode cX12_excited 0 = .ok (.aload_n 0, 1) := mm_dk kX12_excited_0 0 rfl
theorem dX12_excited_1 : decode cX12_excited 1 = .ok (.iload_n 1, 1) := mm_dk kX12_excited_0 1 rfl
theorem dX12_excited_2 : decode cX12_excited 2 = .ok (.iload 4, 2) := mm_dk kX12_excited_0 2 rfl
theorem dX12_excited_4 : decode cX12_excited 4 = .ok (.iload_n 3, 1) := mm_dk kX12_excited_0 3 rfl
theorem dX12_excited_5 : decode cX12_excited 5 = .ok (.invokevirtual 336, 3) := mm_dk kX12_excited_0 4 rfl
theorem dX12_excited_8 : decode cX12_excited 8 = .ok (.iconst 0, 1) := mm_dk kX12_excited_0 5 rfl
theorem dX12_excited_9 : decode cX12_excited 9 = .ok (.istore 11, 2) := mm_dk kX12_excited_0 6 rfl
theorem dX12_excited_11 : decode cX12_excited 11 = .ok (.iload 11, 2) := mm_dk kX12_excited_0 7 rfl
theorem dX12_excited_13 : decode cX12_excited 13 = .ok (.iload_n 3, 1) := mm_dk kX12_excited_0 8 rfl
theorem dX12_excited_14 : decode cX12_excited 14 = .ok (.if_icmp .ge 17, 3) := mm_dk kX12_excited_0 9 rfl
theorem dX12_excited_17 : decode cX12_excited 17 = .ok (.aload_n 0, 1) := mm_dk kX12_excited_0 10 rfl
theorem dX12_excited_18 : decode cX12_excited 18 = .ok (.getfield 184, 3) := mm_dk kX12_excited_0 11 rfl
theorem dX12_excited_21 : decode cX12_excited 21 = .ok (.iload 11, 2) := mm_dk kX12_excited_0 12 rfl
theorem dX12_excited_23 : decode cX12_excited 23 = .ok (.iconst 0, 1) := mm_dk kX12_excited_0 13 rfl
theorem dX12_excited_24 : decode cX12_excited 24 = .ok (.iastore, 1) := mm_dk kX12_excited_0 14 rfl
theorem dX12_excited_25 : decode cX12_excited 25 = .ok (.iinc 11 1, 3) := mm_dk kX12_excited_0 15 rfl
theorem dX12_excited_28 : decode cX12_excited 28 = .ok (.goto (-17), 3) := mm_dk kX12_excited_0 16 rfl
theorem dX12_excited_31 : decode cX12_excited 31 = .ok (.iconst 0, 1) := mm_dk kX12_excited_0 17 rfl
theorem dX12_excited_32 : decode cX12_excited 32 = .ok (.istore 11, 2) := mm_dk kX12_excited_0 18 rfl
theorem dX12_excited_34 : decode cX12_excited 34 = .ok (.iload 11, 2) := mm_dk kX12_excited_0 19 rfl
theorem dX12_excited_36 : decode cX12_excited 36 = .ok (.iconst 3, 1) := mm_dk kX12_excited_0 20 rfl
theorem dX12_excited_37 : decode cX12_excited 37 = .ok (.if_icmp .ge 91, 3) := mm_dk kX12_excited_0 21 rfl
theorem dX12_excited_40 : decode cX12_excited 40 = .ok (.iload 6, 2) := mm_dk kX12_excited_0 22 rfl
theorem dX12_excited_42 : decode cX12_excited 42 = .ok (.iload 11, 2) := mm_dk kX12_excited_0 23 rfl
theorem dX12_excited_44 : decode cX12_excited 44 = .ok (.iadd, 1) := mm_dk kX12_excited_0 24 rfl
theorem dX12_excited_45 : decode cX12_excited 45 = .ok (.iload_n 3, 1) := mm_dk kX12_excited_0 25 rfl
theorem dX12_excited_46 : decode cX12_excited 46 = .ok (.if_icmp .ge 35, 3) := mm_dk kX12_excited_0 26 rfl
theorem dX12_excited_49 : decode cX12_excited 49 = .ok (.aload_n 0, 1) := mm_dk kX12_excited_0 27 rfl
theorem dX12_excited_50 : decode cX12_excited 50 = .ok (.getfield 184, 3) := mm_dk kX12_excited_0 28 rfl
theorem dX12_excited_53 : decode cX12_excited 53 = .ok (.iload 6, 2) := mm_dk kX12_excited_0 29 rfl
theorem dX12_excited_55 : decode cX12_excited 55 = .ok (.iload 11, 2) := mm_dk kX12_excited_0 30 rfl
theorem dX12_excited_57 : decode cX12_excited 57 = .ok (.iadd, 1) := mm_dk kX12_excited_0 31 rfl
theorem dX12_excited_58 : decode cX12_excited 58 = .ok (.dup2, 1) := mm_dk kX12_excited_0 32 rfl
theorem dX12_excited_59 : decode cX12_excited 59 = .ok (.iaload, 1) := mm_dk kX12_excited_0 33 rfl
theorem dX12_excited_60 : decode cX12_excited 60 = .ok (.iload 7, 2) := mm_dk kX12_excited_0 34 rfl
theorem dX12_excited_62 : decode cX12_excited 62 = .ok (.ifCond .ne 11, 3) := mm_dk kX12_excited_0 35 rfl
theorem dX12_excited_65 : decode cX12_excited 65 = .ok (.iload 11, 2) := mm_dk kX12_excited_0 36 rfl
theorem dX12_excited_67 : decode cX12_excited 67 = .ok (.invokestatic 293, 3) := mm_dk kX12_excited_0 37 rfl
theorem dX12_excited_70 : decode cX12_excited 70 = .ok (.goto 9, 3) := mm_dk kX12_excited_0 38 rfl
theorem dX12_excited_73 : decode cX12_excited 73 = .ok (.iload 11, 2) := mm_dk kX12_excited_0 39 rfl
set_option maxRecDepth 100000 in
theorem kX12_excited_1 : ([(75, .invokestatic 293, 3), (78, .ineg, 1), (79, .iadd, 1), (80, .iastore, 1), (81, .iload 8, 2), (83, .iload 11, 2), (85, .iadd, 1), (86, .iload_n 3, 1), (87, .if_icmp .ge 35, 3), (90, .aload_n 0, 1), (91, .getfield 184, 3), (94, .iload 8, 2), (96, .iload 11, 2), (98, .iadd, 1), (99, .dup2, 1), (100, .iaload, 1), (101, .iload 9, 2), (103, .ifCond .ne 11, 3), (106, .iload 11, 2), (108, .invokestatic 293, 3), (111, .goto 9, 3), (114, .iload 11, 2), (116, .invokestatic 293, 3), (119, .ineg, 1), (120, .iadd, 1), (121, .iastore, 1), (122, .iinc 11 1, 3), (125, .goto (-91), 3), (128, .iconst 0, 1), (129, .istore 11, 2), (131, .iload 11, 2), (133, .iload_n 3, 1), (134, .if_icmp .ge 51, 3), (137, .aload_n 0, 1), (138, .getfield 181, 3), (141, .iload 11, 2), (143, .aload_n 0, 1), (144, .iconst 5, 1), (145, .iload 5, 2), (147, .imul, 1)] : List (Nat × Instr × Nat)).all (fun x => decide (decode cX12_excited x.1 = .ok x.2)) = true := by decide +kernel
theorem dX12_excited_75 : decode cX12_excited 75 = .ok (.invokestatic 293, 3) := mm_dk kX12_excited_1 0 rfl
theorem dX12_excited_78 : decode cX12_excited 78 = .ok (.ineg, 1) := mm_dk kX12_excited_1 1 rfl
theorem dX12_excited_79 : decode cX12_excited 79 = .ok (.iadd, 1) := mm_dk kX12_excited_1 2 rfl
theorem dX12_excited_80 : decode cX12_excited 80 = .ok (.iastore, 1) := mm_dk kX12_excited_1 3 rfl
theorem dX12_excited_81 : decode cX12_excited 81 = .ok (.iload 8, 2) := mm_dk kX12_excited_1 4 rfl
theorem dX12_excited_83 : decode cX12_excited 83 = .ok (.iload 11, 2) := mm_dk kX12_excited_1 5 rfl
theorem dX12_excited_85 : decode cX12_excited 85 = .ok (.iadd, 1) := mm_dk kX12_excited_1 6 rfl
theorem dX12_excited_86 : decode cX12_excited 86 = .ok (.iload_n 3, 1) := mm_dk kX12_excited_1 7 rfl
theorem dX12_excited_87 : decode cX12_excited 87 = .ok (.if_icmp .ge 35, 3) := mm_dk kX12_excited_1 8 rfl
theorem dX12_excited_90 : decode cX12_excited 90 = .ok (.aload_n 0, 1) := mm_dk kX12_excited_1 9 rfl
theorem dX12_excited_91 : decode cX12_excited 91 = .ok (.getfield 184, 3) := mm_dk kX12_excited_1 10 rfl
theorem dX12_excited_94 : decode cX12_excited 94 = .ok (.iload 8, 2) := mm_dk kX12_excited_1 11 rfl
theorem dX12_excited_96 : decode cX12_excited 96 = .ok (.iload 11, 2) := mm_dk kX12_excited_1 12 rfl
theorem dX12_excited_98 : decode cX12_excited 98 = .ok (.iadd, 1) := mm_dk kX12_excited_1 13 rfl
theorem dX12_excited_99 : decode cX12_excited 99 = .ok (.dup2, 1) := mm_dk kX12_excited_1 14 rfl
theorem dX12_excited_100 : decode cX12_excited 100 = .ok (.iaload, 1) := mm_dk kX12_excited_1 15 rfl
theorem dX12_excited_101 : decode cX12_excited 101 = .ok (.iload 9, 2) := mm_dk kX12_excited_1 16 rfl
theorem dX12_excited_103 : decode cX12_excited 103 = .ok (.ifCond .ne 11, 3) := mm_dk kX12_excited_1 17 rfl
theorem dX12_excited_106 : decode cX12_excited 106 = .ok (.iload 11, 2) := mm_dk kX12_excited_1 18 rfl
theorem dX12_excited_108 : decode cX12_excited 108 = .ok (.invokestatic 293, 3) := mm_dk kX12_excited_1 19 rfl
theorem dX12_excited_111 : decode cX12_excited 111 = .ok (.goto 9, 3) := mm_dk kX12_excited_1 20 rfl
theorem dX12_excited_114 : decode cX12_excited 114 = .ok (.iload 11, 2) := mm_dk kX12_excited_1 21 rfl
theorem dX12_excited_116 : decode cX12_excited 116 = .ok (.invokestatic 293, 3) := mm_dk kX12_excited_1 22 rfl
theorem dX12_excited_119 : decode cX12_excited 119 = .ok (.ineg, 1) := mm_dk kX12_excited_1 23 rfl
theorem dX12_excited_120 : decode cX12_excited 120 = .ok (.iadd, 1) := mm_dk kX12_excited_1 24 rfl
theorem dX12_excited_121 : decode cX12_excited 121 = .ok (.iastore, 1) := mm_dk kX12_excited_1 25 rfl
theorem dX12_excited_122 : decode cX12_excited 122 = .ok (.iinc 11 1, 3) := mm_dk kX12_excited_1 26 rfl
theorem dX12_excited_125 : decode cX12_excited 125 = .ok (.goto (-91), 3) := mm_dk kX12_excited_1 27 rfl
theorem dX12_excited_128 : decode cX12_excited 128 = .ok (.iconst 0, 1) := mm_dk kX12_excited_1 28 rfl
theorem dX12_excited_129 : decode cX12_excited 129 = .ok (.istore 11, 2) := mm_dk kX12_excited_1 29 rfl
theorem dX12_excited_131 : decode cX12_excited 131 = .ok (.iload 11, 2) := mm_dk kX12_excited_1 30 rfl
theorem dX12_excited_133 : decode cX12_excited 133 = .ok (.iload_n 3, 1) := mm_dk kX12_excited_1 31 rfl
theorem dX12_excited_134 : decode cX12_excited 134 = .ok (.if_icmp .ge 51, 3) := mm_dk kX12_excited_1 32 rfl
theorem dX12_excited_137 : decode cX12_excited 137 = .ok (.aload_n 0, 1) := mm_dk kX12_excited_1 33 rfl
theorem dX12_excited_138 : decode cX12_excited 138 = .ok (.getfield 181, 3) := mm_dk kX12_excited_1 34 rfl
theorem dX12_excited_141 : decode cX12_excited 141 = .ok (.iload 11, 2) := mm_dk kX12_excited_1 35 rfl
theorem dX12_excited_143 : decode cX12_excited 143 = .ok (.aload_n 0, 1) := mm_dk kX12_excited_1 36 rfl
theorem dX12_excited_144 : decode cX12_excited 144 = .ok (.iconst 5, 1) := mm_dk kX12_excited_1 37 rfl
theorem dX12_excited_145 : decode cX12_excited 145 = .ok (.iload 5, 2) := mm_dk kX12_excited_1 38 rfl
theorem dX12_excited_147 : decode cX12_excited 147 = .ok (.imul, 1) := mm_dk kX12_excited_1 39 rfl
set_option maxRecDepth 100000 in
theorem kX12_excited_2 : ([(148, .aload_n 0, 1), (149, .getfield 175, 3), (152, .iload 11, 2), (154, .iaload, 1), (155, .imul, 1), (156, .iconst 5, 1), (157, .ishr, 1), (158, .iload 10, 2), (160, .invokestatic 296, 3), (163, .aload_n 0, 1), (164, .getfield 184, 3), (167, .iload 11, 2), (169, .iaload, 1), (170, .imul, 1), (171, .iconst 5, 1), (172, .ishr, 1), (173, .iadd, 1), (174, .i2l, 1), (175, .invokevirtual 270, 3), (178, .iastore, 1), (179, .iinc 11 1, 3), (182, .goto (-51), 3), (185, .aload_n 0, 1), (186, .iload_n 1, 1), (187, .iload_n 2, 1), (188, .iload_n 3, 1), (189, .invokevirtual 340, 3), (192, .return_, 1)] : List (Nat × Instr × Nat)).all (fun x => decide (decode cX12_excited x.1 = .ok x.2)) = true := by decide +kernel
theorem dX12_excited_148 : decode cX12_excited 148 = .ok (.aload_n 0, 1) := mm_dk kX12_excited_2 0 rfl
theorem dX12_excited_149 : decode cX12_excited 149 = .ok (.getfield 175, 3) := mm_dk kX12_excited_2 1 rfl
theorem dX12_excited_152 : decode cX12_excited 152 = .ok (.iload 11, 2) := mm_dk kX12_excited_2 2 rfl
theorem dX12_excited_154 : decode cX12_excited 154 = .ok (.iaload, 1) := mm_dk kX12_excited_2 3 rfl
theorem dX12_excited_155 : decode cX12_excited 155 = .ok (.imul, 1) := mm_dk kX12_excited_2 4 rfl
theorem dX12_excited_156 : decode cX12_excited 156 = .ok (.iconst 5, 1) := mm_dk kX12_excited_2 5 rfl
theorem dX12_excited_157 : decode cX12_excited 157 = .ok (.ishr, 1) := mm_dk kX12_excited_2 6 rfl
theorem dX12_excited_158 : decode cX12_excited 158 = .ok (.iload 10, 2) := mm_dk kX12_excited_2 7 rfl
theorem dX12_excited_160 : decode cX12_excited 160 = .ok (.invokestatic 296, 3) := mm_dk kX12_excited_2 8 rfl
theorem dX12_excited_163 : decode cX12_excited 163 = .ok (.aload_n 0, 1) := mm_dk kX12_excited_2 9 rfl
theorem dX12_excited_164 : decode cX12_excited 164 = .ok (.getfield 184, 3) := mm_dk kX12_excited_2 10 rfl
theorem dX12_excited_167 : decode cX12_excited 167 = .ok (.iload 11, 2) := mm_dk kX12_excited_2 11 rfl
theorem dX12_excited_169 : decode cX12_excited 169 = .ok (.iaload, 1) := mm_dk kX12_excited_2 12 rfl
theorem dX12_excited_170 : decode cX12_excited 170 = .ok (.imul, 1) := mm_dk kX12_excited_2 13 rfl
theorem dX12_excited_171 : decode cX12_excited 171 = .ok (.iconst 5, 1) := mm_dk kX12_excited_2 14 rfl
theorem dX12_excited_172 : decode cX12_excited 172 = .ok (.ishr, 1) := mm_dk kX12_excited_2 15 rfl
theorem dX12_excited_173 : decode cX12_excited 173 = .ok (.iadd, 1) := mm_dk kX12_excited_2 16 rfl
theorem dX12_excited_174 : decode cX12_excited 174 = .ok (.i2l, 1) := mm_dk kX12_excited_2 17 rfl
theorem dX12_excited_175 : decode cX12_excited 175 = .ok (.invokevirtual 270, 3) := mm_dk kX12_excited_2 18 rfl
theorem dX12_excited_178 : decode cX12_excited 178 = .ok (.iastore, 1) := mm_dk kX12_excited_2 19 rfl
theorem dX12_excited_179 : decode cX12_excited 179 = .ok (.iinc 11 1, 3) := mm_dk kX12_excited_2 20 rfl
theorem dX12_excited_182 : decode cX12_excited 182 = .ok (.goto (-51), 3) := mm_dk kX12_excited_2 21 rfl
theorem dX12_excited_185 : decode cX12_excited 185 = .ok (.aload_n 0, 1) := mm_dk kX12_excited_2 22 rfl
theorem dX12_excited_186 : decode cX12_excited 186 = .ok (.iload_n 1, 1) := mm_dk kX12_excited_2 23 rfl
theorem dX12_excited_187 : decode cX12_excited 187 = .ok (.iload_n 2, 1) := mm_dk kX12_excited_2 24 rfl
theorem dX12_excited_188 : decode cX12_excited 188 = .ok (.iload_n 3, 1) := mm_dk kX12_excited_2 25 rfl
theorem dX12_excited_189 : decode cX12_excited 189 = .ok (.invokevirtual 340, 3) := mm_dk kX12_excited_2 26 rfl
theorem dX12_excited_192 : decode cX12_excited 192 = .ok (.return_, 1) := mm_dk kX12_excited_2 27 rfl
set_option maxRecDepth 100000 in
theorem kX12_hush_0 : ([(0, .iload_n 2, 1), (1, .istore 5, 2), (3, .iconst 0, 1), (4, .istore 6, 2), (6, .iload 6, 2), (8, .bipush 8, 2), (10, .if_icmp .ge 22, 3), (13, .aload_n 0, 1), (14, .getfield 59, 3), (17, .bipush 8, 2), (19, .iload_n 1, 1), (20, .imul, 1), (21, .iload 6, 2), (23, .iadd, 1), (24, .iconst 0, 1), (25, .iastore, 1), (26, .iinc 6 1, 3), (29, .goto (-23), 3), (32, .iconst 0, 1), (33, .istore 6, 2), (35, .iload 6, 2), (37, .iconst 4, 1), (38, .if_icmp .ge 66, 3), (41, .iconst 0, 1), (42, .istore 7, 2), (44, .iload 7, 2), (46, .iload 4, 2), (48, .if_icmp .ge 38, 3), (51, .iload 5, 2), (53, .invokestatic 248, 3), (56, .istore 5, 2), (58, .aload_n 0, 1), (59, .getfield 181, 3), (62, .iload 7, 2), (64, .aload_n 0, 1), (65, .iload 5, 2), (67, .invokestatic 251, 3), (70, .iload_n 3, 1), (71, .imul, 1), (72, .bipush 8, 2)] : List (Nat × Instr × Nat)).all (fun x => decide (decode cX12_hush x.1 = .ok x.2)) = true := by decide +kernel
theorem dX12_hush_0 : decode cX12_hush 0 = .ok (.iload_n 2, 1) := mm_dk kX12_hush_0 0 rfl
theorem dX12_hush_1 : decode cX12_hush 1 = .ok (.istore 5, 2) := mm_dk kX12_hush_0 1 rfl
theorem dX12_hush_3 : decode cX12_hush 3 = .ok (.iconst 0, 1) := mm_dk kX12_hush_0 2 rfl
theorem dX12_hush_4 : decode cX12_hush 4 = .ok (.istore 6, 2) := mm_dk kX12_hush_0 3 rfl
theorem dX12_hush_6 : decode cX12_hush 6 = .ok (.iload 6, 2) := mm_dk kX12_hush_0 4 rfl
theorem dX12_hush_8 : decode cX12_hush 8 = .ok (.bipush 8, 2) := mm_dk kX12_hush_0 5 rfl
theorem dX12_hush_10 : decode cX12_hush 10 = .ok (.if_icmp .ge 22, 3) := mm_dk kX12_hush_0 6 rfl
theorem dX12_hush_13 : decode cX12_hush 13 = .ok (.aload_n 0, 1) := mm_dk kX12_hush_0 7 rfl
theorem dX12_hush_14 : decode cX12_hush 14 = .ok (.getfield 59, 3) := mm_dk kX12_hush_0 8 rfl
theorem dX12_hush_17 : decode cX12_hush 17 = .ok (.bipush 8, 2) := mm_dk kX12_hush_0 9 rfl
theorem dX12_hush_19 : decode cX12_hush 19 = .ok (.iload_n 1, 1) := mm_dk kX12_hush_0 10 rfl
theorem dX12_hush_20 : decode cX12_hush 20 = .ok (.imul, 1) := mm_dk kX12_hush_0 11 rfl
theorem dX12_hush_21 : decode cX12_hush 21 = .ok (.iload 6, 2) := mm_dk kX12_hush_0 12 rfl
theorem dX12_hush_23 : decode cX12_hush 23 = .ok (.iadd, 1) := mm_dk kX12_hush_0 13 rfl
theorem dX12_hush_24 : decode cX12_hush 24 = .ok (.iconst 0, 1) := mm_dk kX12_hush_0 14 rfl
theorem dX12_hush_25 : decode cX12_hush 25 = .ok (.iastore, 1) := mm_dk kX12_hush_0 15 rfl
theorem dX12_hush_26 : decode cX12_hush 26 = .ok (.iinc 6 1, 3) := mm_dk kX12_hush_0 16 rfl
theorem dX12_hush_29 : decode cX12_hush 29 = .ok (.goto (-23), 3) := mm_dk kX12_hush_0 17 rfl
theorem dX12_hush_32 : decode cX12_hush 32 = .ok (.iconst 0, 1) := mm_dk kX12_hush_0 18 rfl
theorem dX12_hush_33 : decode cX12_hush 33 = .ok (.istore 6, 2) := mm_dk kX12_hush_0 19 rfl
theorem dX12_hush_35 : decode cX12_hush 35 = .ok (.iload 6, 2) := mm_dk kX12_hush_0 20 rfl
theorem dX12_hush_37 : decode cX12_hush 37 = .ok (.iconst 4, 1) := mm_dk kX12_hush_0 21 rfl
theorem dX12_hush_38 : decode cX12_hush 38 = .ok (.if_icmp .ge 66, 3) := mm_dk kX12_hush_0 22 rfl
theorem dX12_hush_41 : decode cX12_hush 41 = .ok (.iconst 0, 1) := mm_dk kX12_hush_0 23 rfl
theorem dX12_hush_42 : decode cX12_hush 42 = .ok (.istore 7, 2) := mm_dk kX12_hush_0 24 rfl
theorem dX12_hush_44 : decode cX12_hush 44 = .ok (.iload 7, 2) := mm_dk kX12_hush_0 25 rfl
theorem dX12_hush_46 : decode cX12_hush 46 = .ok (.iload 4, 2) := mm_dk kX12_hush_0 26 rfl
theorem dX12_hush_48 : decode cX12_hush 48 = .ok (.if_icmp .ge 38, 3) := mm_dk kX12_hush_0 27 rfl
theorem dX12_hush_51 : decode cX12_hush 51 = .ok (.iload 5, 2) := mm_dk kX12_hush_0 28 rfl
theorem dX12_hush_53 : decode cX12_hush 53 = .ok (.invokestatic 248, 3) := mm_dk kX12_hush_0 29 rfl
theorem dX12_hush_56 : decode cX12_hush 56 = .ok (.istore 5, 2) := mm_dk kX12_hush_0 30 rfl
theorem dX12_hush_58 : decode cX12_hush 58 = .ok (.aload_n 0, 1) := mm_dk kX12_hush_0 31 rfl
theorem dX12_hush_59 : decode cX12_hush 59 = .ok (.getfield 181, 3) := mm_dk kX12_hush_0 32 rfl
theorem dX12_hush_62 : decode cX12_hush 62 = .ok (.iload 7, 2) := mm_dk kX12_hush_0 33 rfl
theorem dX12_hush_64 : decode cX12_hush 64 = .ok (.aload_n 0, 1) := mm_dk kX12_hush_0 34 rfl
theorem dX12_hush_65 : decode cX12_hush 65 = .ok (.iload 5, 2) := mm_dk kX12_hush_0 35 rfl
theorem dX12_hush_67 : decode cX12_hush 67 = .ok (.invokestatic 251, 3) := mm_dk kX12_hush_0 36 rfl
theorem dX12_hush_70 : decode cX12_hush 70 = .ok (.iload_n 3, 1) := mm_dk kX12_hush_0 37 rfl
theorem dX12_hush_71 : decode cX12_hush 71 = .ok (.imul, 1) := mm_dk kX12_hush_0 38 rfl
theorem dX12_hush_72 : decode cX12_hush 72 = .ok (.bipush 8, 2) := mm_dk kX12_hush_0 39 rfl
set_option maxRecDepth 100000 in
theorem kX12_hush_1 : ([(74, .ishr, 1), (75, .i2l, 1), (76, .invokevirtual 270, 3), (79, .iastore, 1), (80, .iinc 7 1, 3), (83, .goto (-39), 3), (86, .aload_n 0, 1), (87, .iload_n 1, 1), (88, .iload 4, 2), (90, .iload 6, 2), (92, .imul, 1), (93, .iload 4, 2), (95, .invokevirtual 340, 3), (98, .iinc 6 1, 3), (101, .goto (-66), 3), (104, .return_, 1)] : List (Nat × Instr × Nat)).all (fun x => decide (decode cX12_hush x.1 = .ok x.2)) = true := by decide +kernel
theorem dX12_hush_74 : decode cX12_hush 74 = .ok (.ishr, 1) := mm_dk kX12_hush_1 0 rfl
theorem dX12_hush_75 : decode cX12_hush 75 = .ok (.i2l, 1) := mm_dk kX12_hush_1 1 rfl
theorem dX12_hush_76 : decode cX12_hush 76 = .ok (.invokevirtual 270, 3) := mm_dk kX12_hush_1 2 rfl
theorem dX12_hush_79 : decode cX12_hush 79 = .ok (.iastore, 1) := mm_dk kX12_hush_1 3 rfl
theorem dX12_hush_80 : decode cX12_hush 80 = .ok (.iinc 7 1, 3) := mm_dk kX12_hush_1 4 rfl
theorem dX12_hush_83 : decode cX12_hush 83 = .ok (.goto (-39), 3) := mm_dk kX12_hush_1 5 rfl
theorem dX12_hush_86 : decode cX12_hush 86 = .ok (.aload_n 0, 1) := mm_dk kX12_hush_1 6 rfl
theorem dX12_hush_87 : decode cX12_hush 87 = .ok (.iload_n 1, 1) := mm_dk kX12_hush_1 7 rfl
theorem dX12_hush_88 : decode cX12_hush 88 = .ok (.iload 4, 2) := mm_dk kX12_hush_1 8 rfl
theorem dX12_hush_90 : decode cX12_hush 90 = .ok (.iload 6, 2) := mm_dk kX12_hush_1 9 rfl
theorem dX12_hush_92 : decode cX12_hush 92 = .ok (.imul, 1) := mm_dk kX12_hush_1 10 rfl
theorem dX12_hush_93 : decode cX12_hush 93 = .ok (.iload 4, 2) := mm_dk kX12_hush_1 11 rfl
theorem dX12_hush_95 : decode cX12_hush 95 = .ok (.invokevirtual 340, 3) := mm_dk kX12_hush_1 12 rfl
theorem dX12_hush_98 : decode cX12_hush 98 = .ok (.iinc 6 1, 3) := mm_dk kX12_hush_1 13 rfl
theorem dX12_hush_101 : decode cX12_hush 101 = .ok (.goto (-66), 3) := mm_dk kX12_hush_1 14 rfl
theorem dX12_hush_104 : decode cX12_hush 104 = .ok (.return_, 1) := mm_dk kX12_hush_1 15 rfl
set_option maxRecDepth 100000 in
theorem kX12_newRow_0 : ([(0, .aload_n 0, 1), (1, .getfield 102, 3), (4, .aload_n 0, 1), (5, .getfield 343, 3), (8, .iload_n 1, 1), (9, .iastore, 1), (10, .aload_n 0, 1), (11, .getfield 105, 3), (14, .aload_n 0, 1), (15, .getfield 343, 3), (18, .iload_n 2, 1), (19, .bastore, 1), (20, .aload_n 0, 1), (21, .dup, 1), (22, .getfield 343, 3), (25, .iconst 1, 1), (26, .iadd, 1), (27, .putfield 343, 3), (30, .aload_n 0, 1), (31, .getfield 343, 3), (34, .iconst 1, 1), (35, .isub, 1), (36, .ireturn, 1)] : List (Nat × Instr × Nat)).all (fun x => decide (decode cX12_newRow x.1 = .ok x.2)) = true := by decide +kernel
theorem dX12_newRow_0 : decode cX12_newRow 0 = .ok (.aload_n 0, 1) := mm_dk kX12_newRow_0 0 rfl
theorem dX12_newRow_1 : decode cX12_newRow 1 = .ok (.getfield 102, 3) := mm_dk kX12_newRow_0 1 rfl
theorem dX12_newRow_4 : decode cX12_newRow 4 = .ok (.aload_n 0, 1) := mm_dk kX12_newRow_0 2 rfl
theorem dX12_newRow_5 : decode cX12_newRow 5 = .ok (.getfield 343, 3) := mm_dk kX12_newRow_0 3 rfl
theorem dX12_newRow_8 : decode cX12_newRow 8 = .ok (.iload_n 1, 1) := mm_dk kX12_newRow_0 4 rfl
theorem dX12_newRow_9 : decode cX12_newRow 9 = .ok (.iastore, 1) := mm_dk kX12_newRow_0 5 rfl
theorem dX12_newRow_10 : decode cX12_newRow 10 = .ok (.aload_n 0, 1) := mm_dk kX12_newRow_0 6 rfl
theorem dX12_newRow_11 : decode cX12_newRow 11 = .ok (.getfield 105, 3) := mm_dk kX12_newRow_0 7 rfl
theorem dX12_newRow_14 : decode cX12_newRow 14 = .ok (.aload_n 0, 1) := mm_dk kX12_newRow_0 8 rfl
theorem dX12_newRow_15 : decode cX12_newRow 15 = .ok (.getfield 343, 3) := mm_dk kX12_newRow_0 9 rfl
theorem dX12_newRow_18 : decode cX12_newRow 18 = .ok (.iload_n 2, 1) := mm_dk kX12_newRow_0 10 rfl
theorem dX12_newRow_19 : decode cX12_newRow 19 = .ok (.bastore, 1) := mm_dk kX12_newRow_0 11 rfl
theorem dX12_newRow_20 : decode cX12_newRow 20 = .ok (.aload_n 0, 1) := mm_dk kX12_newRow_0 12 rfl
theorem dX12_newRow_21 : decode cX12_newRow 21 = .ok (.dup, 1) := mm_dk kX12_newRow_0 13 rfl
theorem dX12_newRow_22 : decode cX12_newRow 22 = .ok (.getfield 343, 3) := mm_dk kX12_newRow_0 14 rfl
theorem dX12_newRow_25 : decode cX12_newRow 25 = .ok (.iconst 1, 1) := mm_dk kX12_newRow_0 15 rfl
theorem dX12_newRow_26 : decode cX12_newRow 26 = .ok (.iadd, 1) := mm_dk kX12_newRow_0 16 rfl
theorem dX12_newRow_27 : decode cX12_newRow 27 = .ok (.putfield 343, 3) := mm_dk kX12_newRow_0 17 rfl
theorem dX12_newRow_30 : decode cX12_newRow 30 = .ok (.aload_n 0, 1) := mm_dk kX12_newRow_0 18 rfl
theorem dX12_newRow_31 : decode cX12_newRow 31 = .ok (.getfield 343, 3) := mm_dk kX12_newRow_0 19 rfl
theorem dX12_newRow_34 : decode cX12_newRow 34 = .ok (.iconst 1, 1) := mm_dk kX12_newRow_0 20 rfl
theorem dX12_newRow_35 : decode cX12_newRow 35 = .ok (.isub, 1) := mm_dk kX12_newRow_0 21 rfl
theorem dX12_newRow_36 : decode cX12_newRow 36 = .ok (.ireturn, 1) := mm_dk kX12_newRow_0 22 rfl
set_option maxRecDepth 100000 in
theorem kX12_put_0 : ([(0, .aload_n 0, 1), (1, .getfield 109, 3), (4, .bipush 64, 2), (6, .iload_n 1, 1), (7, .imul, 1), (8, .aload_n 0, 1), (9, .getfield 102, 3), (12, .iload_n 1, 1), (13, .iaload, 1), (14, .iadd, 1), (15, .iload_n 2, 1), (16, .i2b, 1), (17, .iastore, 1), (18, .aload_n 0, 1), (19, .getfield 102, 3), (22, .iload_n 1, 1), (23, .dup2, 1), (24, .iaload, 1), (25, .iconst 1, 1), (26, .iadd, 1), (27, .iastore, 1), (28, .return_, 1)] : List (Nat × Instr × Nat)).all (fun x => decide (decode cX12_put x.1 = .ok x.2)) = true := by decide +kernel
theorem dX12_put_0 : decode cX12_put 0 = .ok (.aload_n 0, 1) := mm_dk kX12_put_0 0 rfl
theorem dX12_put_1 : decode cX12_put 1 = .ok (.getfield 109, 3) := mm_dk kX12_put_0 1 rfl
theorem dX12_put_4 : decode cX12_put 4 = .ok (.bipush 64, 2) := mm_dk kX12_put_0 2 rfl
theorem dX12_put_6 : decode cX12_put 6 = .ok (.iload_n 1, 1) := mm_dk kX12_put_0 3 rfl
theorem dX12_put_7 : decode cX12_put 7 = .ok (.imul, 1) := mm_dk kX12_put_0 4 rfl
theorem dX12_put_8 : decode cX12_put 8 = .ok (.aload_n 0, 1) := mm_dk kX12_put_0 5 rfl
theorem dX12_put_9 : decode cX12_put 9 = .ok (.getfield 102, 3) := mm_dk kX12_put_0 6 rfl
theorem dX12_put_12 : decode cX12_put 12 = .ok (.iload_n 1, 1) := mm_dk kX12_put_0 7 rfl
theorem dX12_put_13 : decode cX12_put 13 = .ok (.iaload, 1) := mm_dk kX12_put_0 8 rfl
theorem dX12_put_14 : decode cX12_put 14 = .ok (.iadd, 1) := mm_dk kX12_put_0 9 rfl
theorem dX12_put_15 : decode cX12_put 15 = .ok (.iload_n 2, 1) := mm_dk kX12_put_0 10 rfl
theorem dX12_put_16 : decode cX12_put 16 = .ok (.i2b, 1) := mm_dk kX12_put_0 11 rfl
theorem dX12_put_17 : decode cX12_put 17 = .ok (.iastore, 1) := mm_dk kX12_put_0 12 rfl
theorem dX12_put_18 : decode cX12_put 18 = .ok (.aload_n 0, 1) := mm_dk kX12_put_0 13 rfl
theorem dX12_put_19 : decode cX12_put 19 = .ok (.getfield 102, 3) := mm_dk kX12_put_0 14 rfl
theorem dX12_put_22 : decode cX12_put 22 = .ok (.iload_n 1, 1) := mm_dk kX12_put_0 15 rfl
theorem dX12_put_23 : decode cX12_put 23 = .ok (.dup2, 1) := mm_dk kX12_put_0 16 rfl
theorem dX12_put_24 : decode cX12_put 24 = .ok (.iaload, 1) := mm_dk kX12_put_0 17 rfl
theorem dX12_put_25 : decode cX12_put 25 = .ok (.iconst 1, 1) := mm_dk kX12_put_0 18 rfl
theorem dX12_put_26 : decode cX12_put 26 = .ok (.iadd, 1) := mm_dk kX12_put_0 19 rfl
theorem dX12_put_27 : decode cX12_put 27 = .ok (.iastore, 1) := mm_dk kX12_put_0 20 rfl
theorem dX12_put_28 : decode cX12_put 28 = .ok (.return_, 1) := mm_dk kX12_put_0 21 rfl
set_option maxRecDepth 100000 in
theorem kX12_sumOf_0 : ([(0, .sipush 165, 3), (3, .istore_n 3, 1), (4, .iconst 0, 1), (5, .istore 4, 2), (7, .iload 4, 2), (9, .iload_n 2, 1), (10, .if_icmp .ge 24, 3), (13, .iload_n 3, 1), (14, .aload_n 0, 1), (15, .getfield 109, 3), (18, .bipush 64, 2), (20, .iload_n 1, 1), (21, .imul, 1), (22, .iload 4, 2), (24, .iadd, 1), (25, .iaload, 1), (26, .ixor, 1), (27, .istore_n 3, 1), (28, .iinc 4 1, 3), (31, .goto (-24), 3), (34, .iload_n 3, 1), (35, .i2b, 1), (36, .ireturn, 1)] : List (Nat × Instr × Nat)).all (fun x => decide (decode cX12_sumOf x.1 = .ok x.2)) = true := by decide +kernel
theorem dX12_sumOf_0 : decode cX12_sumOf 0 = .ok (.sipush 165, 3) := mm_dk kX12_sumOf_0 0 rfl
theorem dX12_sumOf_3 : decode cX12_sumOf 3 = .ok (.istore_n 3, 1) := mm_dk kX12_sumOf_0 1 rfl
theorem dX12_sumOf_4 : decode cX12_sumOf 4 = .ok (.iconst 0, 1) := mm_dk kX12_sumOf_0 2 rfl
theorem dX12_sumOf_5 : decode cX12_sumOf 5 = .ok (.istore 4, 2) := mm_dk kX12_sumOf_0 3 rfl
theorem dX12_sumOf_7 : decode cX12_sumOf 7 = .ok (.iload 4, 2) := mm_dk kX12_sumOf_0 4 rfl
theorem dX12_sumOf_9 : decode cX12_sumOf 9 = .ok (.iload_n 2, 1) := mm_dk kX12_sumOf_0 5 rfl
theorem dX12_sumOf_10 : decode cX12_sumOf 10 = .ok (.if_icmp .ge 24, 3) := mm_dk kX12_sumOf_0 6 rfl
theorem dX12_sumOf_13 : decode cX12_sumOf 13 = .ok (.iload_n 3, 1) := mm_dk kX12_sumOf_0 7 rfl
theorem dX12_sumOf_14 : decode cX12_sumOf 14 = .ok (.aload_n 0, 1) := mm_dk kX12_sumOf_0 8 rfl
theorem dX12_sumOf_15 : decode cX12_sumOf 15 = .ok (.getfield 109, 3) := mm_dk kX12_sumOf_0 9 rfl
theorem dX12_sumOf_18 : decode cX12_sumOf 18 = .ok (.bipush 64, 2) := mm_dk kX12_sumOf_0 10 rfl
theorem dX12_sumOf_20 : decode cX12_sumOf 20 = .ok (.iload_n 1, 1) := mm_dk kX12_sumOf_0 11 rfl
theorem dX12_sumOf_21 : decode cX12_sumOf 21 = .ok (.imul, 1) := mm_dk kX12_sumOf_0 12 rfl
theorem dX12_sumOf_22 : decode cX12_sumOf 22 = .ok (.iload 4, 2) := mm_dk kX12_sumOf_0 13 rfl
theorem dX12_sumOf_24 : decode cX12_sumOf 24 = .ok (.iadd, 1) := mm_dk kX12_sumOf_0 14 rfl
theorem dX12_sumOf_25 : decode cX12_sumOf 25 = .ok (.iaload, 1) := mm_dk kX12_sumOf_0 15 rfl
theorem dX12_sumOf_26 : decode cX12_sumOf 26 = .ok (.ixor, 1) := mm_dk kX12_sumOf_0 16 rfl
theorem dX12_sumOf_27 : decode cX12_sumOf 27 = .ok (.istore_n 3, 1) := mm_dk kX12_sumOf_0 17 rfl
theorem dX12_sumOf_28 : decode cX12_sumOf 28 = .ok (.iinc 4 1, 3) := mm_dk kX12_sumOf_0 18 rfl
theorem dX12_sumOf_31 : decode cX12_sumOf 31 = .ok (.goto (-24), 3) := mm_dk kX12_sumOf_0 19 rfl
theorem dX12_sumOf_34 : decode cX12_sumOf 34 = .ok (.iload_n 3, 1) := mm_dk kX12_sumOf_0 20 rfl
theorem dX12_sumOf_35 : decode cX12_sumOf 35 = .ok (.i2b, 1) := mm_dk kX12_sumOf_0 21 rfl
theorem dX12_sumOf_36 : decode cX12_sumOf 36 = .ok (.ireturn, 1) := mm_dk kX12_sumOf_0 22 rfl
set_option maxRecDepth 100000 in
theorem kX12_append_0 : ([(0, .aload_n 0, 1), (1, .getfield 96, 3), (4, .sipush 250, 3), (7, .iload_n 1, 1), (8, .imul, 1), (9, .aload_n 0, 1), (10, .getfield 93, 3), (13, .iload_n 1, 1), (14, .iaload, 1), (15, .iadd, 1), (16, .iload_n 2, 1), (17, .iastore, 1), (18, .aload_n 0, 1), (19, .getfield 99, 3), (22, .sipush 250, 3), (25, .iload_n 1, 1), (26, .imul, 1), (27, .aload_n 0, 1), (28, .getfield 93, 3), (31, .iload_n 1, 1), (32, .iaload, 1), (33, .iadd, 1), (34, .iload_n 3, 1), (35, .iconst 1, 1), (36, .iadd, 1), (37, .iastore, 1), (38, .aload_n 0, 1), (39, .getfield 93, 3), (42, .iload_n 1, 1), (43, .dup2, 1), (44, .iaload, 1), (45, .iconst 1, 1), (46, .iadd, 1), (47, .iastore, 1), (48, .return_, 1)] : List (Nat × Instr × Nat)).all (fun x => decide (decode cX12_append x.1 = .ok x.2)) = true := by decide +kernel
theorem dX12_append_0 : decode cX12_append 0 = .ok (.aload_n 0, 1) := mm_dk kX12_append_0 0 rfl
theorem dX12_append_1 : decode cX12_append 1 = .ok (.getfield 96, 3) := mm_dk kX12_append_0 1 rfl
theorem dX12_append_4 : decode cX12_append 4 = .ok (.sipush 250, 3) := mm_dk kX12_append_0 2 rfl
theorem dX12_append_7 : decode cX12_append 7 = .ok (.iload_n 1, 1) := mm_dk kX12_append_0 3 rfl
theorem dX12_append_8 : decode cX12_append 8 = .ok (.imul, 1) := mm_dk kX12_append_0 4 rfl
theorem dX12_append_9 : decode cX12_append 9 = .ok (.aload_n 0, 1) := mm_dk kX12_append_0 5 rfl
theorem dX12_append_10 : decode cX12_append 10 = .ok (.getfield 93, 3) := mm_dk kX12_append_0 6 rfl
theorem dX12_append_13 : decode cX12_append 13 = .ok (.iload_n 1, 1) := mm_dk kX12_append_0 7 rfl
theorem dX12_append_14 : decode cX12_append 14 = .ok (.iaload, 1) := mm_dk kX12_append_0 8 rfl
theorem dX12_append_15 : decode cX12_append 15 = .ok (.iadd, 1) := mm_dk kX12_append_0 9 rfl
theorem dX12_append_16 : decode cX12_append 16 = .ok (.iload_n 2, 1) := mm_dk kX12_append_0 10 rfl
theorem dX12_append_17 : decode cX12_append 17 = .ok (.iastore, 1) := mm_dk kX12_append_0 11 rfl
theorem dX12_append_18 : decode cX12_append 18 = .ok (.aload_n 0, 1) := mm_dk kX12_append_0 12 rfl
theorem dX12_append_19 : decode cX12_append 19 = .ok (.getfield 99, 3) := mm_dk kX12_append_0 13 rfl
theorem dX12_append_22 : decode cX12_append 22 = .ok (.sipush 250, 3) := mm_dk kX12_append_0 14 rfl
theorem dX12_append_25 : decode cX12_append 25 = .ok (.iload_n 1, 1) := mm_dk kX12_append_0 15 rfl
theorem dX12_append_26 : decode cX12_append 26 = .ok (.imul, 1) := mm_dk kX12_append_0 16 rfl
theorem dX12_append_27 : decode cX12_append 27 = .ok (.aload_n 0, 1) := mm_dk kX12_append_0 17 rfl
theorem dX12_append_28 : decode cX12_append 28 = .ok (.getfield 93, 3) := mm_dk kX12_append_0 18 rfl
theorem dX12_append_31 : decode cX12_append 31 = .ok (.iload_n 1, 1) := mm_dk kX12_append_0 19 rfl
theorem dX12_append_32 : decode cX12_append 32 = .ok (.iaload, 1) := mm_dk kX12_append_0 20 rfl
theorem dX12_append_33 : decode cX12_append 33 = .ok (.iadd, 1) := mm_dk kX12_append_0 21 rfl
theorem dX12_append_34 : decode cX12_append 34 = .ok (.iload_n 3, 1) := mm_dk kX12_append_0 22 rfl
theorem dX12_append_35 : decode cX12_append 35 = .ok (.iconst 1, 1) := mm_dk kX12_append_0 23 rfl
theorem dX12_append_36 : decode cX12_append 36 = .ok (.iadd, 1) := mm_dk kX12_append_0 24 rfl
theorem dX12_append_37 : decode cX12_append 37 = .ok (.iastore, 1) := mm_dk kX12_append_0 25 rfl
theorem dX12_append_38 : decode cX12_append 38 = .ok (.aload_n 0, 1) := mm_dk kX12_append_0 26 rfl
theorem dX12_append_39 : decode cX12_append 39 = .ok (.getfield 93, 3) := mm_dk kX12_append_0 27 rfl
theorem dX12_append_42 : decode cX12_append 42 = .ok (.iload_n 1, 1) := mm_dk kX12_append_0 28 rfl
theorem dX12_append_43 : decode cX12_append 43 = .ok (.dup2, 1) := mm_dk kX12_append_0 29 rfl
theorem dX12_append_44 : decode cX12_append 44 = .ok (.iaload, 1) := mm_dk kX12_append_0 30 rfl
theorem dX12_append_45 : decode cX12_append 45 = .ok (.iconst 1, 1) := mm_dk kX12_append_0 31 rfl
theorem dX12_append_46 : decode cX12_append 46 = .ok (.iadd, 1) := mm_dk kX12_append_0 32 rfl
theorem dX12_append_47 : decode cX12_append 47 = .ok (.iastore, 1) := mm_dk kX12_append_0 33 rfl
theorem dX12_append_48 : decode cX12_append 48 = .ok (.return_, 1) := mm_dk kX12_append_0 34 rfl
set_option maxRecDepth 100000 in
theorem kX12_encode_0 : ([(0, .aload_n 0, 1), (1, .iload_n 1, 1), (2, .invokevirtual 238, 3), (5, .ifCond .ne 9, 3), (8, .aload_n 0, 1), (9, .iconst (-1), 1), (10, .invokevirtual 231, 3), (13, .ireturn, 1), (14, .aload_n 0, 1), (15, .getfield 22, 3), (18, .iload_n 1, 1), (19, .iaload, 1), (20, .ifCond .ne 9, 3), (23, .sipush 160, 3), (26, .goto 6, 3), (29, .sipush 320, 3), (32, .istore_n 2, 1), (33, .iload_n 2, 1), (34, .iconst 4, 1), (35, .idiv, 1), (36, .istore_n 3, 1), (37, .aload_n 0, 1), (38, .getfield 41, 3), (41, .iload_n 1, 1), (42, .iaload, 1), (43, .iload_n 2, 1), (44, .if_icmp .ge 10, 3), (47, .aload_n 0, 1), (48, .bipush (-2), 2), (50, .invokevirtual 231, 3), (53, .ireturn, 1), (54, .aload_n 0, 1), (55, .getfield 93, 3), (58, .iload_n 1, 1), (59, .iaload, 1), (60, .sipush 250, 3), (63, .if_icmp .ne 10, 3), (66, .aload_n 0, 1), (67, .bipush (-3), 2), (69, .invokevirtual 231, 3)] : List (Nat × Instr × Nat)).all (fun x => decide (decode cX12_encode x.1 = .ok x.2)) = true := by decide +kernel
theorem dX12_encode_0 : decode cX12_encode 0 = .ok (.aload_n 0, 1) := mm_dk kX12_encode_0 0 rfl
theorem dX12_encode_1 : decode cX12_encode 1 = .ok (.iload_n 1, 1) := mm_dk kX12_encode_0 1 rfl
theorem dX12_encode_2 : decode cX12_encode 2 = .ok (.invokevirtual 238, 3) := mm_dk kX12_encode_0 2 rfl
theorem dX12_encode_5 : decode cX12_encode 5 = .ok (.ifCond .ne 9, 3) := mm_dk kX12_encode_0 3 rfl
theorem dX12_encode_8 : decode cX12_encode 8 = .ok (.aload_n 0, 1) := mm_dk kX12_encode_0 4 rfl
theorem dX12_encode_9 : decode cX12_encode 9 = .ok (.iconst (-1), 1) := mm_dk kX12_encode_0 5 rfl
theorem dX12_encode_10 : decode cX12_encode 10 = .ok (.invokevirtual 231, 3) := mm_dk kX12_encode_0 6 rfl
theorem dX12_encode_13 : decode cX12_encode 13 = .ok (.ireturn, 1) := mm_dk kX12_encode_0 7 rfl
theorem dX12_encode_14 : decode cX12_encode 14 = .ok (.aload_n 0, 1) := mm_dk kX12_encode_0 8 rfl
theorem dX12_encode_15 : decode cX12_encode 15 = .ok (.getfield 22, 3) := mm_dk kX12_encode_0 9 rfl
theorem dX12_encode_18 : decode cX12_encode 18 = .ok (.iload_n 1, 1) := mm_dk kX12_encode_0 10 rfl
theorem dX12_encode_19 : decode cX12_encode 19 = .ok (.iaload, 1) := mm_dk kX12_encode_0 11 rfl
theorem dX12_encode_20 : decode cX12_encode 20 = .ok (.ifCond .ne 9, 3) := mm_dk kX12_encode_0 12 rfl
theorem dX12_encode_23 : decode cX12_encode 23 = .ok (.sipush 160, 3) := mm_dk kX12_encode_0 13 rfl
theorem dX12_encode_26 : decode cX12_encode 26 = .ok (.goto 6, 3) := mm_dk kX12_encode_0 14 rfl
theorem dX12_encode_29 : decode cX12_encode 29 = .ok (.sipush 320, 3) := mm_dk kX12_encode_0 15 rfl
theorem dX12_encode_32 : decode cX12_encode 32 = .ok (.istore_n 2, 1) := mm_dk kX12_encode_0 16 rfl
theorem dX12_encode_33 : decode cX12_encode 33 = .ok (.iload_n 2, 1) := mm_dk kX12_encode_0 17 rfl
theorem dX12_encode_34 : decode cX12_encode 34 = .ok (.iconst 4, 1) := mm_dk kX12_encode_0 18 rfl
theorem dX12_encode_35 : decode cX12_encode 35 = .ok (.idiv, 1) := mm_dk kX12_encode_0 19 rfl
theorem dX12_encode_36 : decode cX12_encode 36 = .ok (.istore_n 3, 1) := mm_dk kX12_encode_0 20 rfl
theorem dX12_encode_37 : decode cX12_encode 37 = .ok (.aload_n 0, 1) := mm_dk kX12_encode_0 21 rfl
theorem dX12_encode_38 : decode cX12_encode 38 = .ok (.getfield 41, 3) := mm_dk kX12_encode_0 22 rfl
theorem dX12_encode_41 : decode cX12_encode 41 = .ok (.iload_n 1, 1) := mm_dk kX12_encode_0 23 rfl
theorem dX12_encode_42 : decode cX12_encode 42 = .ok (.iaload, 1) := mm_dk kX12_encode_0 24 rfl
theorem dX12_encode_43 : decode cX12_encode 43 = .ok (.iload_n 2, 1) := mm_dk kX12_encode_0 25 rfl
theorem dX12_encode_44 : decode cX12_encode 44 = .ok (.if_icmp .ge 10, 3) := mm_dk kX12_encode_0 26 rfl
theorem dX12_encode_47 : decode cX12_encode 47 = .ok (.aload_n 0, 1) := mm_dk kX12_encode_0 27 rfl
theorem dX12_encode_48 : decode cX12_encode 48 = .ok (.bipush (-2), 2) := mm_dk kX12_encode_0 28 rfl
theorem dX12_encode_50 : decode cX12_encode 50 = .ok (.invokevirtual 231, 3) := mm_dk kX12_encode_0 29 rfl
theorem dX12_encode_53 : decode cX12_encode 53 = .ok (.ireturn, 1) := mm_dk kX12_encode_0 30 rfl
theorem dX12_encode_54 : decode cX12_encode 54 = .ok (.aload_n 0, 1) := mm_dk kX12_encode_0 31 rfl
theorem dX12_encode_55 : decode cX12_encode 55 = .ok (.getfield 93, 3) := mm_dk kX12_encode_0 32 rfl
theorem dX12_encode_58 : decode cX12_encode 58 = .ok (.iload_n 1, 1) := mm_dk kX12_encode_0 33 rfl
theorem dX12_encode_59 : decode cX12_encode 59 = .ok (.iaload, 1) := mm_dk kX12_encode_0 34 rfl
theorem dX12_encode_60 : decode cX12_encode 60 = .ok (.sipush 250, 3) := mm_dk kX12_encode_0 35 rfl
theorem dX12_encode_63 : decode cX12_encode 63 = .ok (.if_icmp .ne 10, 3) := mm_dk kX12_encode_0 36 rfl
theorem dX12_encode_66 : decode cX12_encode 66 = .ok (.aload_n 0, 1) := mm_dk kX12_encode_0 37 rfl
theorem dX12_encode_67 : decode cX12_encode 67 = .ok (.bipush (-3), 2) := mm_dk kX12_encode_0 38 rfl
theorem dX12_encode_69 : decode cX12_encode 69 = .ok (.invokevirtual 231, 3) := mm_dk kX12_encode_0 39 rfl
set_option maxRecDepth 100000 in
theorem kX12_encode_1 : ([(72, .ireturn, 1), (73, .aload_n 0, 1), (74, .iconst 0, 1), (75, .putfield 210, 3), (78, .aload_n 0, 1), (79, .iconst 1, 1), (80, .invokevirtual 346, 3), (83, .iconst 0, 1), (84, .istore 4, 2), (86, .iconst 0, 1), (87, .istore 5, 2), (89, .iload 5, 2), (91, .iload_n 2, 1), (92, .if_icmp .ge 139, 3), (95, .aload_n 0, 1), (96, .getfield 44, 3), (99, .sipush 640, 3), (102, .iload_n 1, 1), (103, .imul, 1), (104, .iload 5, 2), (106, .iadd, 1), (107, .iaload, 1), (108, .istore 6, 2), (110, .iload 5, 2), (112, .ifCond .ne 12, 3), (115, .aload_n 0, 1), (116, .getfield 47, 3), (119, .iload_n 1, 1), (120, .iaload, 1), (121, .goto 18, 3), (124, .aload_n 0, 1), (125, .getfield 44, 3), (128, .sipush 640, 3), (131, .iload_n 1, 1), (132, .imul, 1), (133, .iload 5, 2), (135, .iadd, 1), (136, .iconst 1, 1), (137, .isub, 1), (138, .iaload, 1)] : List (Nat × Instr × Nat)).all (fun x => decide (decode cX12_encode x.1 = .ok x.2)) = true := by decide +kernel
theorem dX12_encode_72 : decode cX12_encode 72 = .ok (.ireturn, 1) := mm_dk kX12_encode_1 0 rfl
theorem dX12_encode_73 : decode cX12_encode 73 = .ok (.aload_n 0, 1) := mm_dk kX12_encode_1 1 rfl
theorem dX12_encode_74 : decode cX12_encode 74 = .ok (.iconst 0, 1) := mm_dk kX12_encode_1 2 rfl
theorem dX12_encode_75 : decode cX12_encode 75 = .ok (.putfield 210, 3) := mm_dk kX12_encode_1 3 rfl
theorem dX12_encode_78 : decode cX12_encode 78 = .ok (.aload_n 0, 1) := mm_dk kX12_encode_1 4 rfl
theorem dX12_encode_79 : decode cX12_encode 79 = .ok (.iconst 1, 1) := mm_dk kX12_encode_1 5 rfl
theorem dX12_encode_80 : decode cX12_encode 80 = .ok (.invokevirtual 346, 3) := mm_dk kX12_encode_1 6 rfl
theorem dX12_encode_83 : decode cX12_encode 83 = .ok (.iconst 0, 1) := mm_dk kX12_encode_1 7 rfl
theorem dX12_encode_84 : decode cX12_encode 84 = .ok (.istore 4, 2) := mm_dk kX12_encode_1 8 rfl
theorem dX12_encode_86 : decode cX12_encode 86 = .ok (.iconst 0, 1) := mm_dk kX12_encode_1 9 rfl
theorem dX12_encode_87 : decode cX12_encode 87 = .ok (.istore 5, 2) := mm_dk kX12_encode_1 10 rfl
theorem dX12_encode_89 : decode cX12_encode 89 = .ok (.iload 5, 2) := mm_dk kX12_encode_1 11 rfl
theorem dX12_encode_91 : decode cX12_encode 91 = .ok (.iload_n 2, 1) := mm_dk kX12_encode_1 12 rfl
theorem dX12_encode_92 : decode cX12_encode 92 = .ok (.if_icmp .ge 139, 3) := mm_dk kX12_encode_1 13 rfl
theorem dX12_encode_95 : decode cX12_encode 95 = .ok (.aload_n 0, 1) := mm_dk kX12_encode_1 14 rfl
theorem dX12_encode_96 : decode cX12_encode 96 = .ok (.getfield 44, 3) := mm_dk kX12_encode_1 15 rfl
theorem dX12_encode_99 : decode cX12_encode 99 = .ok (.sipush 640, 3) := mm_dk kX12_encode_1 16 rfl
theorem dX12_encode_102 : decode cX12_encode 102 = .ok (.iload_n 1, 1) := mm_dk kX12_encode_1 17 rfl
theorem dX12_encode_103 : decode cX12_encode 103 = .ok (.imul, 1) := mm_dk kX12_encode_1 18 rfl
theorem dX12_encode_104 : decode cX12_encode 104 = .ok (.iload 5, 2) := mm_dk kX12_encode_1 19 rfl
theorem dX12_encode_106 : decode cX12_encode 106 = .ok (.iadd, 1) := mm_dk kX12_encode_1 20 rfl
theorem dX12_encode_107 : decode cX12_encode 107 = .ok (.iaload, 1) := mm_dk kX12_encode_1 21 rfl
theorem dX12_encode_108 : decode cX12_encode 108 = .ok (.istore 6, 2) := mm_dk kX12_encode_1 22 rfl
theorem dX12_encode_110 : decode cX12_encode 110 = .ok (.iload 5, 2) := mm_dk kX12_encode_1 23 rfl
theorem dX12_encode_112 : decode cX12_encode 112 = .ok (.ifCond .ne 12, 3) := mm_dk kX12_encode_1 24 rfl
theorem dX12_encode_115 : decode cX12_encode 115 = .ok (.aload_n 0, 1) := mm_dk kX12_encode_1 25 rfl
theorem dX12_encode_116 : decode cX12_encode 116 = .ok (.getfield 47, 3) := mm_dk kX12_encode_1 26 rfl
theorem dX12_encode_119 : decode cX12_encode 119 = .ok (.iload_n 1, 1) := mm_dk kX12_encode_1 27 rfl
theorem dX12_encode_120 : decode cX12_encode 120 = .ok (.iaload, 1) := mm_dk kX12_encode_1 28 rfl
theorem dX12_encode_121 : decode cX12_encode 121 = .ok (.goto 18, 3) := mm_dk kX12_encode_1 29 rfl
theorem dX12_encode_124 : decode cX12_encode 124 = .ok (.aload_n 0, 1) := mm_dk kX12_encode_1 30 rfl
theorem dX12_encode_125 : decode cX12_encode 125 = .ok (.getfield 44, 3) := mm_dk kX12_encode_1 31 rfl
theorem dX12_encode_128 : decode cX12_encode 128 = .ok (.sipush 640, 3) := mm_dk kX12_encode_1 32 rfl
theorem dX12_encode_131 : decode cX12_encode 131 = .ok (.iload_n 1, 1) := mm_dk kX12_encode_1 33 rfl
theorem dX12_encode_132 : decode cX12_encode 132 = .ok (.imul, 1) := mm_dk kX12_encode_1 34 rfl
theorem dX12_encode_133 : decode cX12_encode 133 = .ok (.iload 5, 2) := mm_dk kX12_encode_1 35 rfl
theorem dX12_encode_135 : decode cX12_encode 135 = .ok (.iadd, 1) := mm_dk kX12_encode_1 36 rfl
theorem dX12_encode_136 : decode cX12_encode 136 = .ok (.iconst 1, 1) := mm_dk kX12_encode_1 37 rfl
theorem dX12_encode_137 : decode cX12_encode 137 = .ok (.isub, 1) := mm_dk kX12_encode_1 38 rfl
theorem dX12_encode_138 : decode cX12_encode 138 = .ok (.iaload, 1) := mm_dk kX12_encode_1 39 rfl
set_option maxRecDepth 100000 in
theorem kX12_encode_2 : ([(139, .istore 7, 2), (141, .aload_n 0, 1), (142, .getfield 169, 3), (145, .iload 5, 2), (147, .aload_n 0, 1), (148, .getfield 25, 3), (151, .iload_n 1, 1), (152, .baload, 1), (153, .ifCond .eq 23, 3), (156, .aload_n 0, 1), (157, .iload 6, 2), (159, .i2l, 1), (160, .iload 7, 2), (162, .i2l, 1), (163, .ldc2_w 350, 3), (166, .invokestatic 262, 3), (169, .lsub, 1), (170, .invokevirtual 270, 3), (173, .goto 5, 3), (176, .iload 6, 2), (178, .iastore, 1), (179, .aload_n 0, 1), (180, .getfield 169, 3), (183, .iload 5, 2), (185, .iaload, 1), (186, .ifCond .ge 14, 3), (189, .aload_n 0, 1), (190, .getfield 169, 3), (193, .iload 5, 2), (195, .iaload, 1), (196, .ineg, 1), (197, .goto 10, 3), (200, .aload_n 0, 1), (201, .getfield 169, 3), (204, .iload 5, 2), (206, .iaload, 1), (207, .istore 8, 2), (209, .iload 8, 2), (211, .iload 4, 2), (213, .if_icmp .le 8, 3)] : List (Nat × Instr × Nat)).all (fun x => decide (decode cX12_encode x.1 = .ok x.2)) = true := by decide +kernel
theorem dX12_encode_139 : decode cX12_encode 139 = .ok (.istore 7, 2) := mm_dk kX12_encode_2 0 rfl
theorem dX12_encode_141 : decode cX12_encode 141 = .ok (.aload_n 0, 1) := mm_dk kX12_encode_2 1 rfl
theorem dX12_encode_142 : decode cX12_encode 142 = .ok (.getfield 169, 3) := mm_dk kX12_encode_2 2 rfl
theorem dX12_encode_145 : decode cX12_encode 145 = .ok (.iload 5, 2) := mm_dk kX12_encode_2 3 rfl
theorem dX12_encode_147 : decode cX12_encode 147 = .ok (.aload_n 0, 1) := mm_dk kX12_encode_2 4 rfl
theorem dX12_encode_148 : decode cX12_encode 148 = .ok (.getfield 25, 3) := mm_dk kX12_encode_2 5 rfl
theorem dX12_encode_151 : decode cX12_encode 151 = .ok (.iload_n 1, 1) := mm_dk kX12_encode_2 6 rfl
theorem dX12_encode_152 : decode cX12_encode 152 = .ok (.baload, 1) := mm_dk kX12_encode_2 7 rfl
theorem dX12_encode_153 : decode cX12_encode 153 = .ok (.ifCond .eq 23, 3) := mm_dk kX12_encode_2 8 rfl
theorem dX12_encode_156 : decode cX12_encode 156 = .ok (.aload_n 0, 1) := mm_dk kX12_encode_2 9 rfl
theorem dX12_encode_157 : decode cX12_encode 157 = .ok (.iload 6, 2) := mm_dk kX12_encode_2 10 rfl
theorem dX12_encode_159 : decode cX12_encode 159 = .ok (.i2l, 1) := mm_dk kX12_encode_2 11 rfl
theorem dX12_encode_160 : decode cX12_encode 160 = .ok (.iload 7, 2) := mm_dk kX12_encode_2 12 rfl
theorem dX12_encode_162 : decode cX12_encode 162 = .ok (.i2l, 1) := mm_dk kX12_encode_2 13 rfl
theorem dX12_encode_163 : decode cX12_encode 163 = .ok (.ldc2_w 350, 3) := mm_dk kX12_encode_2 14 rfl
theorem dX12_encode_166 : decode cX12_encode 166 = .ok (.invokestatic 262, 3) := mm_dk kX12_encode_2 15 rfl
theorem dX12_encode_169 : decode cX12_encode 169 = .ok (.lsub, 1) := mm_dk kX12_encode_2 16 rfl
theorem dX12_encode_170 : decode cX12_encode 170 = .ok (.invokevirtual 270, 3) := mm_dk kX12_encode_2 17 rfl
theorem dX12_encode_173 : decode cX12_encode 173 = .ok (.goto 5, 3) := mm_dk kX12_encode_2 18 rfl
theorem dX12_encode_176 : decode cX12_encode 176 = .ok (.iload 6, 2) := mm_dk kX12_encode_2 19 rfl
theorem dX12_encode_178 : decode cX12_encode 178 = .ok (.iastore, 1) := mm_dk kX12_encode_2 20 rfl
theorem dX12_encode_179 : decode cX12_encode 179 = .ok (.aload_n 0, 1) := mm_dk kX12_encode_2 21 rfl
theorem dX12_encode_180 : decode cX12_encode 180 = .ok (.getfield 169, 3) := mm_dk kX12_encode_2 22 rfl
theorem dX12_encode_183 : decode cX12_encode 183 = .ok (.iload 5, 2) := mm_dk kX12_encode_2 23 rfl
theorem dX12_encode_185 : decode cX12_encode 185 = .ok (.iaload, 1) := mm_dk kX12_encode_2 24 rfl
theorem dX12_encode_186 : decode cX12_encode 186 = .ok (.ifCond .ge 14, 3) := mm_dk kX12_encode_2 25 rfl
theorem dX12_encode_189 : decode cX12_encode 189 = .ok (.aload_n 0, 1) := mm_dk kX12_encode_2 26 rfl
theorem dX12_encode_190 : decode cX12_encode 190 = .ok (.getfield 169, 3) := mm_dk kX12_encode_2 27 rfl
theorem dX12_encode_193 : decode cX12_encode 193 = .ok (.iload 5, 2) := mm_dk kX12_encode_2 28 rfl
theorem dX12_encode_195 : decode cX12_encode 195 = .ok (.iaload, 1) := mm_dk kX12_encode_2 29 rfl
theorem dX12_encode_196 : decode cX12_encode 196 = .ok (.ineg, 1) := mm_dk kX12_encode_2 30 rfl
theorem dX12_encode_197 : decode cX12_encode 197 = .ok (.goto 10, 3) := mm_dk kX12_encode_2 31 rfl
theorem dX12_encode_200 : decode cX12_encode 200 = .ok (.aload_n 0, 1) := mm_dk kX12_encode_2 32 rfl
theorem dX12_encode_201 : decode cX12_encode 201 = .ok (.getfield 169, 3) := mm_dk kX12_encode_2 33 rfl
theorem dX12_encode_204 : decode cX12_encode 204 = .ok (.iload 5, 2) := mm_dk kX12_encode_2 34 rfl
theorem dX12_encode_206 : decode cX12_encode 206 = .ok (.iaload, 1) := mm_dk kX12_encode_2 35 rfl
theorem dX12_encode_207 : decode cX12_encode 207 = .ok (.istore 8, 2) := mm_dk kX12_encode_2 36 rfl
theorem dX12_encode_209 : decode cX12_encode 209 = .ok (.iload 8, 2) := mm_dk kX12_encode_2 37 rfl
theorem dX12_encode_211 : decode cX12_encode 211 = .ok (.iload 4, 2) := mm_dk kX12_encode_2 38 rfl
theorem dX12_encode_213 : decode cX12_encode 213 = .ok (.if_icmp .le 8, 3) := mm_dk kX12_encode_2 39 rfl
set_option maxRecDepth 100000 in
theorem kX12_encode_3 : ([(216, .iload 8, 2), (218, .goto 5, 3), (221, .iload 4, 2), (223, .istore 4, 2), (225, .iinc 5 1, 3), (228, .goto (-139), 3), (231, .aload_n 0, 1), (232, .getfield 47, 3), (235, .iload_n 1, 1), (236, .aload_n 0, 1), (237, .getfield 44, 3), (240, .sipush 640, 3), (243, .iload_n 1, 1), (244, .imul, 1), (245, .iload_n 2, 1), (246, .iadd, 1), (247, .iconst 1, 1), (248, .isub, 1), (249, .iaload, 1), (250, .iastore, 1), (251, .iload_n 2, 1), (252, .istore 5, 2), (254, .iload 5, 2), (256, .aload_n 0, 1), (257, .getfield 41, 3), (260, .iload_n 1, 1), (261, .iaload, 1), (262, .if_icmp .ge 37, 3), (265, .aload_n 0, 1), (266, .getfield 44, 3), (269, .sipush 640, 3), (272, .iload_n 1, 1), (273, .imul, 1), (274, .iload 5, 2), (276, .iadd, 1), (277, .iload_n 2, 1), (278, .isub, 1), (279, .aload_n 0, 1), (280, .getfield 44, 3), (283, .sipush 640, 3)] : List (Nat × Instr × Nat)).all (fun x => decide (decode cX12_encode x.1 = .ok x.2)) = true := by decide +kernel
theorem dX12_encode_216 : decode cX12_encode 216 = .ok (.iload 8, 2) := mm_dk kX12_encode_3 0 rfl
theorem dX12_encode_218 : decode cX12_encode 218 = .ok (.goto 5, 3) := mm_dk kX12_encode_3 1 rfl
theorem dX12_encode_221 : decode cX12_encode 221 = .ok (.iload 4, 2) := mm_dk kX12_encode_3 2 rfl
theorem dX12_encode_223 : decode cX12_encode 223 = .ok (.istore 4, 2) := mm_dk kX12_encode_3 3 rfl
theorem dX12_encode_225 : decode cX12_encode 225 = .ok (.iinc 5 1, 3) := mm_dk kX12_encode_3 4 rfl
theorem dX12_encode_228 : decode cX12_encode 228 = .ok (.goto (-139), 3) := mm_dk kX12_encode_3 5 rfl
theorem dX12_encode_231 : decode cX12_encode 231 = .ok (.aload_n 0, 1) := mm_dk kX12_encode_3 6 rfl
theorem dX12_encode_232 : decode cX12_encode 232 = .ok (.getfield 47, 3) := mm_dk kX12_encode_3 7 rfl
theorem dX12_encode_235 : decode cX12_encode 235 = .ok (.iload_n 1, 1) := mm_dk kX12_encode_3 8 rfl
theorem dX12_encode_236 : decode cX12_encode 236 = .ok (.aload_n 0, 1) := mm_dk kX12_encode_3 9 rfl
theorem dX12_encode_237 : decode cX12_encode 237 = .ok (.getfield 44, 3) := mm_dk kX12_encode_3 10 rfl
theorem dX12_encode_240 : decode cX12_encode 240 = .ok (.sipush 640, 3) := mm_dk kX12_encode_3 11 rfl
theorem dX12_encode_243 : decode cX12_encode 243 = .ok (.iload_n 1, 1) := mm_dk kX12_encode_3 12 rfl
theorem dX12_encode_244 : decode cX12_encode 244 = .ok (.imul, 1) := mm_dk kX12_encode_3 13 rfl
theorem dX12_encode_245 : decode cX12_encode 245 = .ok (.iload_n 2, 1) := mm_dk kX12_encode_3 14 rfl
theorem dX12_encode_246 : decode cX12_encode 246 = .ok (.iadd, 1) := mm_dk kX12_encode_3 15 rfl
theorem dX12_encode_247 : decode cX12_encode 247 = .ok (.iconst 1, 1) := mm_dk kX12_encode_3 16 rfl
theorem dX12_encode_248 : decode cX12_encode 248 = .ok (.isub, 1) := mm_dk kX12_encode_3 17 rfl
theorem dX12_encode_249 : decode cX12_encode 249 = .ok (.iaload, 1) := mm_dk kX12_encode_3 18 rfl
theorem dX12_encode_250 : decode cX12_encode 250 = .ok (.iastore, 1) := mm_dk kX12_encode_3 19 rfl
theorem dX12_encode_251 : decode cX12_encode 251 = .ok (.iload_n 2, 1) := mm_dk kX12_encode_3 20 rfl
theorem dX12_encode_252 : decode cX12_encode 252 = .ok (.istore 5, 2) := mm_dk kX12_encode_3 21 rfl
theorem dX12_encode_254 : decode cX12_encode 254 = .ok (.iload 5, 2) := mm_dk kX12_encode_3 22 rfl
theorem dX12_encode_256 : decode cX12_encode 256 = .ok (.aload_n 0, 1) := mm_dk kX12_encode_3 23 rfl
theorem dX12_encode_257 : decode cX12_encode 257 = .ok (.getfield 41, 3) := mm_dk kX12_encode_3 24 rfl
theorem dX12_encode_260 : decode cX12_encode 260 = .ok (.iload_n 1, 1) := mm_dk kX12_encode_3 25 rfl
theorem dX12_encode_261 : decode cX12_encode 261 = .ok (.iaload, 1) := mm_dk kX12_encode_3 26 rfl
theorem dX12_encode_262 : decode cX12_encode 262 = .ok (.if_icmp .ge 37, 3) := mm_dk kX12_encode_3 27 rfl
theorem dX12_encode_265 : decode cX12_encode 265 = .ok (.aload_n 0, 1) := mm_dk kX12_encode_3 28 rfl
theorem dX12_encode_266 : decode cX12_encode 266 = .ok (.getfield 44, 3) := mm_dk kX12_encode_3 29 rfl
theorem dX12_encode_269 : decode cX12_encode 269 = .ok (.sipush 640, 3) := mm_dk kX12_encode_3 30 rfl
theorem dX12_encode_272 : decode cX12_encode 272 = .ok (.iload_n 1, 1) := mm_dk kX12_encode_3 31 rfl
theorem dX12_encode_273 : decode cX12_encode 273 = .ok (.imul, 1) := mm_dk kX12_encode_3 32 rfl
theorem dX12_encode_274 : decode cX12_encode 274 = .ok (.iload 5, 2) := mm_dk kX12_encode_3 33 rfl
theorem dX12_encode_276 : decode cX12_encode 276 = .ok (.iadd, 1) := mm_dk kX12_encode_3 34 rfl
theorem dX12_encode_277 : decode cX12_encode 277 = .ok (.iload_n 2, 1) := mm_dk kX12_encode_3 35 rfl
theorem dX12_encode_278 : decode cX12_encode 278 = .ok (.isub, 1) := mm_dk kX12_encode_3 36 rfl
theorem dX12_encode_279 : decode cX12_encode 279 = .ok (.aload_n 0, 1) := mm_dk kX12_encode_3 37 rfl
theorem dX12_encode_280 : decode cX12_encode 280 = .ok (.getfield 44, 3) := mm_dk kX12_encode_3 38 rfl
theorem dX12_encode_283 : decode cX12_encode 283 = .ok (.sipush 640, 3) := mm_dk kX12_encode_3 39 rfl
set_option maxRecDepth 100000 in
theorem kX12_encode_4 : ([(286, .iload_n 1, 1), (287, .imul, 1), (288, .iload 5, 2), (290, .iadd, 1), (291, .iaload, 1), (292, .iastore, 1), (293, .iinc 5 1, 3), (296, .goto (-42), 3), (299, .aload_n 0, 1), (300, .getfield 41, 3), (303, .iload_n 1, 1), (304, .dup2, 1), (305, .iaload, 1), (306, .iload_n 2, 1), (307, .isub, 1), (308, .iastore, 1), (309, .aload_n 0, 1), (310, .getfield 38, 3), (313, .iload_n 1, 1), (314, .iaload, 1), (315, .istore 5, 2), (317, .aload_n 0, 1), (318, .getfield 35, 3), (321, .iload_n 1, 1), (322, .baload, 1), (323, .ifCond .eq 17, 3), (326, .aload_n 0, 1), (327, .getfield 68, 3), (330, .iload_n 1, 1), (331, .iaload, 1), (332, .iconst 1, 1), (333, .if_icmp .ne 7, 3), (336, .iconst 1, 1), (337, .goto 4, 3), (340, .iconst 0, 1), (341, .istore 6, 2), (343, .aload_n 0, 1), (344, .getfield 74, 3), (347, .bipush 28, 2), (349, .iload_n 1, 1)] : List (Nat × Instr × Nat)).all (fun x => decide (decode cX12_encode x.1 = .ok x.2)) = true := by decide +kernel
theorem dX12_encode_286 : decode cX12_encode 286 = .ok (.iload_n 1, 1) := mm_dk kX12_encode_4 0 rfl
theorem dX12_encode_287 : decode cX12_encode 287 = .ok (.imul, 1) := mm_dk kX12_encode_4 1 rfl
theorem dX12_encode_288 : decode cX12_encode 288 = .ok (.iload 5, 2) := mm_dk kX12_encode_4 2 rfl
theorem dX12_encode_290 : decode cX12_encode 290 = .ok (.iadd, 1) := mm_dk kX12_encode_4 3 rfl
theorem dX12_encode_291 : decode cX12_encode 291 = .ok (.iaload, 1) := mm_dk kX12_encode_4 4 rfl
theorem dX12_encode_292 : decode cX12_encode 292 = .ok (.iastore, 1) := mm_dk kX12_encode_4 5 rfl
theorem dX12_encode_293 : decode cX12_encode 293 = .ok (.iinc 5 1, 3) := mm_dk kX12_encode_4 6 rfl
theorem dX12_encode_296 : decode cX12_encode 296 = .ok (.goto (-42), 3) := mm_dk kX12_encode_4 7 rfl
theorem dX12_encode_299 : decode cX12_encode 299 = .ok (.aload_n 0, 1) := mm_dk kX12_encode_4 8 rfl
theorem dX12_encode_300 : decode cX12_encode 300 = .ok (.getfield 41, 3) := mm_dk kX12_encode_4 9 rfl
theorem dX12_encode_303 : decode cX12_encode 303 = .ok (.iload_n 1, 1) := mm_dk kX12_encode_4 10 rfl
theorem dX12_encode_304 : decode cX12_encode 304 = .ok (.dup2, 1) := mm_dk kX12_encode_4 11 rfl
theorem dX12_encode_305 : decode cX12_encode 305 = .ok (.iaload, 1) := mm_dk kX12_encode_4 12 rfl
theorem dX12_encode_306 : decode cX12_encode 306 = .ok (.iload_n 2, 1) := mm_dk kX12_encode_4 13 rfl
theorem dX12_encode_307 : decode cX12_encode 307 = .ok (.isub, 1) := mm_dk kX12_encode_4 14 rfl
theorem dX12_encode_308 : decode cX12_encode 308 = .ok (.iastore, 1) := mm_dk kX12_encode_4 15 rfl
theorem dX12_encode_309 : decode cX12_encode 309 = .ok (.aload_n 0, 1) := mm_dk kX12_encode_4 16 rfl
theorem dX12_encode_310 : decode cX12_encode 310 = .ok (.getfield 38, 3) := mm_dk kX12_encode_4 17 rfl
theorem dX12_encode_313 : decode cX12_encode 313 = .ok (.iload_n 1, 1) := mm_dk kX12_encode_4 18 rfl
theorem dX12_encode_314 : decode cX12_encode 314 = .ok (.iaload, 1) := mm_dk kX12_encode_4 19 rfl
theorem dX12_encode_315 : decode cX12_encode 315 = .ok (.istore 5, 2) := mm_dk kX12_encode_4 20 rfl
theorem dX12_encode_317 : decode cX12_encode 317 = .ok (.aload_n 0, 1) := mm_dk kX12_encode_4 21 rfl
theorem dX12_encode_318 : decode cX12_encode 318 = .ok (.getfield 35, 3) := mm_dk kX12_encode_4 22 rfl
theorem dX12_encode_321 : decode cX12_encode 321 = .ok (.iload_n 1, 1) := mm_dk kX12_encode_4 23 rfl
theorem dX12_encode_322 : decode cX12_encode 322 = .ok (.baload, 1) := mm_dk kX12_encode_4 24 rfl
theorem dX12_encode_323 : decode cX12_encode 323 = .ok (.ifCond .eq 17, 3) := mm_dk kX12_encode_4 25 rfl
theorem dX12_encode_326 : decode cX12_encode 326 = .ok (.aload_n 0, 1) := mm_dk kX12_encode_4 26 rfl
theorem dX12_encode_327 : decode cX12_encode 327 = .ok (.getfield 68, 3) := mm_dk kX12_encode_4 27 rfl
theorem dX12_encode_330 : decode cX12_encode 330 = .ok (.iload_n 1, 1) := mm_dk kX12_encode_4 28 rfl
theorem dX12_encode_331 : decode cX12_encode 331 = .ok (.iaload, 1) := mm_dk kX12_encode_4 29 rfl
theorem dX12_encode_332 : decode cX12_encode 332 = .ok (.iconst 1, 1) := mm_dk kX12_encode_4 30 rfl
theorem dX12_encode_333 : decode cX12_encode 333 = .ok (.if_icmp .ne 7, 3) := mm_dk kX12_encode_4 31 rfl
theorem dX12_encode_336 : decode cX12_encode 336 = .ok (.iconst 1, 1) := mm_dk kX12_encode_4 32 rfl
theorem dX12_encode_337 : decode cX12_encode 337 = .ok (.goto 4, 3) := mm_dk kX12_encode_4 33 rfl
theorem dX12_encode_340 : decode cX12_encode 340 = .ok (.iconst 0, 1) := mm_dk kX12_encode_4 34 rfl
theorem dX12_encode_341 : decode cX12_encode 341 = .ok (.istore 6, 2) := mm_dk kX12_encode_4 35 rfl
theorem dX12_encode_343 : decode cX12_encode 343 = .ok (.aload_n 0, 1) := mm_dk kX12_encode_4 36 rfl
theorem dX12_encode_344 : decode cX12_encode 344 = .ok (.getfield 74, 3) := mm_dk kX12_encode_4 37 rfl
theorem dX12_encode_347 : decode cX12_encode 347 = .ok (.bipush 28, 2) := mm_dk kX12_encode_4 38 rfl
theorem dX12_encode_349 : decode cX12_encode 349 = .ok (.iload_n 1, 1) := mm_dk kX12_encode_4 39 rfl
set_option maxRecDepth 100000 in
theorem kX12_encode_5 : ([(350, .imul, 1), (351, .bipush 21, 2), (353, .iadd, 1), (354, .iaload, 1), (355, .istore 7, 2), (357, .aload_n 0, 1), (358, .getfield 74, 3), (361, .bipush 28, 2), (363, .iload_n 1, 1), (364, .imul, 1), (365, .bipush 22, 2), (367, .iadd, 1), (368, .iaload, 1), (369, .istore 8, 2), (371, .aload_n 0, 1), (372, .iconst 0, 1), (373, .iconst 0, 1), (374, .invokevirtual 352, 3), (377, .istore 9, 2), (379, .iload 4, 2), (381, .aload_n 0, 1), (382, .getfield 32, 3), (385, .iload_n 1, 1), (386, .iaload, 1), (387, .if_icmp .ge 116, 3), (390, .aload_n 0, 1), (391, .iconst 2, 1), (392, .invokevirtual 346, 3), (395, .aload_n 0, 1), (396, .bipush 14, 2), (398, .invokevirtual 346, 3), (401, .aload_n 0, 1), (402, .iconst 2, 1), (403, .iload_n 1, 1), (404, .imul, 1), (405, .iload 5, 2), (407, .iload 4, 2), (409, .iload_n 3, 1), (410, .invokevirtual 356, 3), (413, .aload_n 0, 1)] : List (Nat × Instr × Nat)).all (fun x => decide (decode cX12_encode x.1 = .ok x.2)) = true := by decide +kernel
theorem dX12_encode_350 : decode cX12_encode 350 = .ok (.imul, 1) := mm_dk kX12_encode_5 0 rfl
theorem dX12_encode_351 : decode cX12_encode 351 = .ok (.bipush 21, 2) := mm_dk kX12_encode_5 1 rfl
theorem dX12_encode_353 : decode cX12_encode 353 = .ok (.iadd, 1) := mm_dk kX12_encode_5 2 rfl
theorem dX12_encode_354 : decode cX12_encode 354 = .ok (.iaload, 1) := mm_dk kX12_encode_5 3 rfl
theorem dX12_encode_355 : decode cX12_encode 355 = .ok (.istore 7, 2) := mm_dk kX12_encode_5 4 rfl
theorem dX12_encode_357 : decode cX12_encode 357 = .ok (.aload_n 0, 1) := mm_dk kX12_encode_5 5 rfl
theorem dX12_encode_358 : decode cX12_encode 358 = .ok (.getfield 74, 3) := mm_dk kX12_encode_5 6 rfl
theorem dX12_encode_361 : decode cX12_encode 361 = .ok (.bipush 28, 2) := mm_dk kX12_encode_5 7 rfl
theorem dX12_encode_363 : decode cX12_encode 363 = .ok (.iload_n 1, 1) := mm_dk kX12_encode_5 8 rfl
theorem dX12_encode_364 : decode cX12_encode 364 = .ok (.imul, 1) := mm_dk kX12_encode_5 9 rfl
theorem dX12_encode_365 : decode cX12_encode 365 = .ok (.bipush 22, 2) := mm_dk kX12_encode_5 10 rfl
theorem dX12_encode_367 : decode cX12_encode 367 = .ok (.iadd, 1) := mm_dk kX12_encode_5 11 rfl
theorem dX12_encode_368 : decode cX12_encode 368 = .ok (.iaload, 1) := mm_dk kX12_encode_5 12 rfl
theorem dX12_encode_369 : decode cX12_encode 369 = .ok (.istore 8, 2) := mm_dk kX12_encode_5 13 rfl
theorem dX12_encode_371 : decode cX12_encode 371 = .ok (.aload_n 0, 1) := mm_dk kX12_encode_5 14 rfl
theorem dX12_encode_372 : decode cX12_encode 372 = .ok (.iconst 0, 1) := mm_dk kX12_encode_5 15 rfl
theorem dX12_encode_373 : decode cX12_encode 373 = .ok (.iconst 0, 1) := mm_dk kX12_encode_5 16 rfl
theorem dX12_encode_374 : decode cX12_encode 374 = .ok (.invokevirtual 352, 3) := mm_dk kX12_encode_5 17 rfl
theorem dX12_encode_377 : decode cX12_encode 377 = .ok (.istore 9, 2) := mm_dk kX12_encode_5 18 rfl
theorem dX12_encode_379 : decode cX12_encode 379 = .ok (.iload 4, 2) := mm_dk kX12_encode_5 19 rfl
theorem dX12_encode_381 : decode cX12_encode 381 = .ok (.aload_n 0, 1) := mm_dk kX12_encode_5 20 rfl
theorem dX12_encode_382 : decode cX12_encode 382 = .ok (.getfield 32, 3) := mm_dk kX12_encode_5 21 rfl
theorem dX12_encode_385 : decode cX12_encode 385 = .ok (.iload_n 1, 1) := mm_dk kX12_encode_5 22 rfl
theorem dX12_encode_386 : decode cX12_encode 386 = .ok (.iaload, 1) := mm_dk kX12_encode_5 23 rfl
theorem dX12_encode_387 : decode cX12_encode 387 = .ok (.if_icmp .ge 116, 3) := mm_dk kX12_encode_5 24 rfl
theorem dX12_encode_390 : decode cX12_encode 390 = .ok (.aload_n 0, 1) := mm_dk kX12_encode_5 25 rfl
theorem dX12_encode_391 : decode cX12_encode 391 = .ok (.iconst 2, 1) := mm_dk kX12_encode_5 26 rfl
theorem dX12_encode_392 : decode cX12_encode 392 = .ok (.invokevirtual 346, 3) := mm_dk kX12_encode_5 27 rfl
theorem dX12_encode_395 : decode cX12_encode 395 = .ok (.aload_n 0, 1) := mm_dk kX12_encode_5 28 rfl
theorem dX12_encode_396 : decode cX12_encode 396 = .ok (.bipush 14, 2) := mm_dk kX12_encode_5 29 rfl
theorem dX12_encode_398 : decode cX12_encode 398 = .ok (.invokevirtual 346, 3) := mm_dk kX12_encode_5 30 rfl
theorem dX12_encode_401 : decode cX12_encode 401 = .ok (.aload_n 0, 1) := mm_dk kX12_encode_5 31 rfl
theorem dX12_encode_402 : decode cX12_encode 402 = .ok (.iconst 2, 1) := mm_dk kX12_encode_5 32 rfl
theorem dX12_encode_403 : decode cX12_encode 403 = .ok (.iload_n 1, 1) := mm_dk kX12_encode_5 33 rfl
theorem dX12_encode_404 : decode cX12_encode 404 = .ok (.imul, 1) := mm_dk kX12_encode_5 34 rfl
theorem dX12_encode_405 : decode cX12_encode 405 = .ok (.iload 5, 2) := mm_dk kX12_encode_5 35 rfl
theorem dX12_encode_407 : decode cX12_encode 407 = .ok (.iload 4, 2) := mm_dk kX12_encode_5 36 rfl
theorem dX12_encode_409 : decode cX12_encode 409 = .ok (.iload_n 3, 1) := mm_dk kX12_encode_5 37 rfl
theorem dX12_encode_410 : decode cX12_encode 410 = .ok (.invokevirtual 356, 3) := mm_dk kX12_encode_5 38 rfl
theorem dX12_encode_413 : decode cX12_encode 413 = .ok (.aload_n 0, 1) := mm_dk kX12_encode_5 39 rfl
set_option maxRecDepth 100000 in
theorem kX12_encode_6 : ([(414, .iload 9, 2), (416, .iconst 2, 1), (417, .invokevirtual 359, 3), (420, .aload_n 0, 1), (421, .iload 9, 2), (423, .aload_n 0, 1), (424, .getfield 22, 3), (427, .iload_n 1, 1), (428, .iaload, 1), (429, .invokevirtual 359, 3), (432, .aload_n 0, 1), (433, .iload 9, 2), (435, .iconst 2, 1), (436, .invokevirtual 359, 3), (439, .aload_n 0, 1), (440, .iload 9, 2), (442, .iload 5, 2), (444, .bipush 8, 2), (446, .ishr, 1), (447, .invokevirtual 359, 3), (450, .aload_n 0, 1), (451, .iload 9, 2), (453, .iload 5, 2), (455, .invokevirtual 359, 3), (458, .aload_n 0, 1), (459, .iload 9, 2), (461, .iload 6, 2), (463, .ifCond .eq 7, 3), (466, .iconst 2, 1), (467, .goto 4, 3), (470, .iconst 0, 1), (471, .invokevirtual 359, 3), (474, .aload_n 0, 1), (475, .iload 9, 2), (477, .iload 4, 2), (479, .bipush 8, 2), (481, .ishr, 1), (482, .invokevirtual 359, 3), (485, .aload_n 0, 1), (486, .iload 9, 2)] : List (Nat × Instr × Nat)).all (fun x => decide (decode cX12_encode x.1 = .ok x.2)) = true := by decide +kernel
theorem dX12_encode_414 : decode cX12_encode 414 = .ok (.iload 9, 2) := mm_dk kX12_encode_6 0 rfl
theorem dX12_encode_416 : decode cX12_encode 416 = .ok (.iconst 2, 1) := mm_dk kX12_encode_6 1 rfl
theorem dX12_encode_417 : decode cX12_encode 417 = .ok (.invokevirtual 359, 3) := mm_dk kX12_encode_6 2 rfl
theorem dX12_encode_420 : decode cX12_encode 420 = .ok (.aload_n 0, 1) := mm_dk kX12_encode_6 3 rfl
theorem dX12_encode_421 : decode cX12_encode 421 = .ok (.iload 9, 2) := mm_dk kX12_encode_6 4 rfl
theorem dX12_encode_423 : decode cX12_encode 423 = .ok (.aload_n 0, 1) := mm_dk kX12_encode_6 5 rfl
theorem dX12_encode_424 : decode cX12_encode 424 = .ok (.getfield 22, 3) := mm_dk kX12_encode_6 6 rfl
theorem dX12_encode_427 : decode cX12_encode 427 = .ok (.iload_n 1, 1) := mm_dk kX12_encode_6 7 rfl
theorem dX12_encode_428 : decode cX12_encode 428 = .ok (.iaload, 1) := mm_dk kX12_encode_6 8 rfl
theorem dX12_encode_429 : decode cX12_encode 429 = .ok (.invokevirtual 359, 3) := mm_dk kX12_encode_6 9 rfl
theorem dX12_encode_432 : decode cX12_encode 432 = .ok (.aload_n 0, 1) := mm_dk kX12_encode_6 10 rfl
theorem dX12_encode_433 : decode cX12_encode 433 = .ok (.iload 9, 2) := mm_dk kX12_encode_6 11 rfl
theorem dX12_encode_435 : decode cX12_encode 435 = .ok (.iconst 2, 1) := mm_dk kX12_encode_6 12 rfl
theorem dX12_encode_436 : decode cX12_encode 436 = .ok (.invokevirtual 359, 3) := mm_dk kX12_encode_6 13 rfl
theorem dX12_encode_439 : decode cX12_encode 439 = .ok (.aload_n 0, 1) := mm_dk kX12_encode_6 14 rfl
theorem dX12_encode_440 : decode cX12_encode 440 = .ok (.iload 9, 2) := mm_dk kX12_encode_6 15 rfl
theorem dX12_encode_442 : decode cX12_encode 442 = .ok (.iload 5, 2) := mm_dk kX12_encode_6 16 rfl
theorem dX12_encode_444 : decode cX12_encode 444 = .ok (.bipush 8, 2) := mm_dk kX12_encode_6 17 rfl
theorem dX12_encode_446 : decode cX12_encode 446 = .ok (.ishr, 1) := mm_dk kX12_encode_6 18 rfl
theorem dX12_encode_447 : decode cX12_encode 447 = .ok (.invokevirtual 359, 3) := mm_dk kX12_encode_6 19 rfl
theorem dX12_encode_450 : decode cX12_encode 450 = .ok (.aload_n 0, 1) := mm_dk kX12_encode_6 20 rfl
theorem dX12_encode_451 : decode cX12_encode 451 = .ok (.iload 9, 2) := mm_dk kX12_encode_6 21 rfl
theorem dX12_encode_453 : decode cX12_encode 453 = .ok (.iload 5, 2) := mm_dk kX12_encode_6 22 rfl
theorem dX12_encode_455 : decode cX12_encode 455 = .ok (.invokevirtual 359, 3) := mm_dk kX12_encode_6 23 rfl
theorem dX12_encode_458 : decode cX12_encode 458 = .ok (.aload_n 0, 1) := mm_dk kX12_encode_6 24 rfl
theorem dX12_encode_459 : decode cX12_encode 459 = .ok (.iload 9, 2) := mm_dk kX12_encode_6 25 rfl
theorem dX12_encode_461 : decode cX12_encode 461 = .ok (.iload 6, 2) := mm_dk kX12_encode_6 26 rfl
theorem dX12_encode_463 : decode cX12_encode 463 = .ok (.ifCond .eq 7, 3) := mm_dk kX12_encode_6 27 rfl
theorem dX12_encode_466 : decode cX12_encode 466 = .ok (.iconst 2, 1) := mm_dk kX12_encode_6 28 rfl
theorem dX12_encode_467 : decode cX12_encode 467 = .ok (.goto 4, 3) := mm_dk kX12_encode_6 29 rfl
theorem dX12_encode_470 : decode cX12_encode 470 = .ok (.iconst 0, 1) := mm_dk kX12_encode_6 30 rfl
theorem dX12_encode_471 : decode cX12_encode 471 = .ok (.invokevirtual 359, 3) := mm_dk kX12_encode_6 31 rfl
theorem dX12_encode_474 : decode cX12_encode 474 = .ok (.aload_n 0, 1) := mm_dk kX12_encode_6 32 rfl
theorem dX12_encode_475 : decode cX12_encode 475 = .ok (.iload 9, 2) := mm_dk kX12_encode_6 33 rfl
theorem dX12_encode_477 : decode cX12_encode 477 = .ok (.iload 4, 2) := mm_dk kX12_encode_6 34 rfl
theorem dX12_encode_479 : decode cX12_encode 479 = .ok (.bipush 8, 2) := mm_dk kX12_encode_6 35 rfl
theorem dX12_encode_481 : decode cX12_encode 481 = .ok (.ishr, 1) := mm_dk kX12_encode_6 36 rfl
theorem dX12_encode_482 : decode cX12_encode 482 = .ok (.invokevirtual 359, 3) := mm_dk kX12_encode_6 37 rfl
theorem dX12_encode_485 : decode cX12_encode 485 = .ok (.aload_n 0, 1) := mm_dk kX12_encode_6 38 rfl
theorem dX12_encode_486 : decode cX12_encode 486 = .ok (.iload 9, 2) := mm_dk kX12_encode_6 39 rfl
set_option maxRecDepth 100000 in
theorem kX12_encode_7 : ([(488, .iload 4, 2), (490, .invokevirtual 359, 3), (493, .aload_n 0, 1), (494, .getfield 68, 3), (497, .iload_n 1, 1), (498, .iconst 2, 1), (499, .iastore, 1), (500, .goto 242, 3), (503, .aload_n 0, 1), (504, .iload_n 1, 1), (505, .iload_n 2, 1), (506, .iload_n 3, 1), (507, .invokevirtual 363, 3), (510, .aload_n 0, 1), (511, .iload 9, 2), (513, .iconst 1, 1), (514, .invokevirtual 359, 3), (517, .aload_n 0, 1), (518, .iload 9, 2), (520, .aload_n 0, 1), (521, .getfield 22, 3), (524, .iload_n 1, 1), (525, .iaload, 1), (526, .invokevirtual 359, 3), (529, .aload_n 0, 1), (530, .iload 9, 2), (532, .bipush 28, 2), (534, .invokevirtual 359, 3), (537, .aload_n 0, 1), (538, .iload 9, 2), (540, .iload 5, 2), (542, .bipush 8, 2), (544, .ishr, 1), (545, .invokevirtual 359, 3), (548, .aload_n 0, 1), (549, .iload 9, 2), (551, .iload 5, 2), (553, .invokevirtual 359, 3), (556, .aload_n 0, 1), (557, .iload 9, 2)] : List (Nat × Instr × Nat)).all (fun x => decide (decode cX12_encode x.1 = .ok x.2)) = true := by decide +kernel
theorem dX12_encode_488 : decode cX12_encode 488 = .ok (.iload 4, 2) := mm_dk kX12_encode_7 0 rfl
theorem dX12_encode_490 : decode cX12_encode 490 = .ok (.invokevirtual 359, 3) := mm_dk kX12_encode_7 1 rfl
theorem dX12_encode_493 : decode cX12_encode 493 = .ok (.aload_n 0, 1) := mm_dk kX12_encode_7 2 rfl
theorem dX12_encode_494 : decode cX12_encode 494 = .ok (.getfield 68, 3) := mm_dk kX12_encode_7 3 rfl
theorem dX12_encode_497 : decode cX12_encode 497 = .ok (.iload_n 1, 1) := mm_dk kX12_encode_7 4 rfl
theorem dX12_encode_498 : decode cX12_encode 498 = .ok (.iconst 2, 1) := mm_dk kX12_encode_7 5 rfl
theorem dX12_encode_499 : decode cX12_encode 499 = .ok (.iastore, 1) := mm_dk kX12_encode_7 6 rfl
theorem dX12_encode_500 : decode cX12_encode 500 = .ok (.goto 242, 3) := mm_dk kX12_encode_7 7 rfl
theorem dX12_encode_503 : decode cX12_encode 503 = .ok (.aload_n 0, 1) := mm_dk kX12_encode_7 8 rfl
theorem dX12_encode_504 : decode cX12_encode 504 = .ok (.iload_n 1, 1) := mm_dk kX12_encode_7 9 rfl
theorem dX12_encode_505 : decode cX12_encode 505 = .ok (.iload_n 2, 1) := mm_dk kX12_encode_7 10 rfl
theorem dX12_encode_506 : decode cX12_encode 506 = .ok (.iload_n 3, 1) := mm_dk kX12_encode_7 11 rfl
theorem dX12_encode_507 : decode cX12_encode 507 = .ok (.invokevirtual 363, 3) := mm_dk kX12_encode_7 12 rfl
theorem dX12_encode_510 : decode cX12_encode 510 = .ok (.aload_n 0, 1) := mm_dk kX12_encode_7 13 rfl
theorem dX12_encode_511 : decode cX12_encode 511 = .ok (.iload 9, 2) := mm_dk kX12_encode_7 14 rfl
theorem dX12_encode_513 : decode cX12_encode 513 = .ok (.iconst 1, 1) := mm_dk kX12_encode_7 15 rfl
theorem dX12_encode_514 : decode cX12_encode 514 = .ok (.invokevirtual 359, 3) := mm_dk kX12_encode_7 16 rfl
theorem dX12_encode_517 : decode cX12_encode 517 = .ok (.aload_n 0, 1) := mm_dk kX12_encode_7 17 rfl
theorem dX12_encode_518 : decode cX12_encode 518 = .ok (.iload 9, 2) := mm_dk kX12_encode_7 18 rfl
theorem dX12_encode_520 : decode cX12_encode 520 = .ok (.aload_n 0, 1) := mm_dk kX12_encode_7 19 rfl
theorem dX12_encode_521 : decode cX12_encode 521 = .ok (.getfield 22, 3) := mm_dk kX12_encode_7 20 rfl
theorem dX12_encode_524 : decode cX12_encode 524 = .ok (.iload_n 1, 1) := mm_dk kX12_encode_7 21 rfl
theorem dX12_encode_525 : decode cX12_encode 525 = .ok (.iaload, 1) := mm_dk kX12_encode_7 22 rfl
theorem dX12_encode_526 : decode cX12_encode 526 = .ok (.invokevirtual 359, 3) := mm_dk kX12_encode_7 23 rfl
theorem dX12_encode_529 : decode cX12_encode 529 = .ok (.aload_n 0, 1) := mm_dk kX12_encode_7 24 rfl
theorem dX12_encode_530 : decode cX12_encode 530 = .ok (.iload 9, 2) := mm_dk kX12_encode_7 25 rfl
theorem dX12_encode_532 : decode cX12_encode 532 = .ok (.bipush 28, 2) := mm_dk kX12_encode_7 26 rfl
theorem dX12_encode_534 : decode cX12_encode 534 = .ok (.invokevirtual 359, 3) := mm_dk kX12_encode_7 27 rfl
theorem dX12_encode_537 : decode cX12_encode 537 = .ok (.aload_n 0, 1) := mm_dk kX12_encode_7 28 rfl
theorem dX12_encode_538 : decode cX12_encode 538 = .ok (.iload 9, 2) := mm_dk kX12_encode_7 29 rfl
theorem dX12_encode_540 : decode cX12_encode 540 = .ok (.iload 5, 2) := mm_dk kX12_encode_7 30 rfl
theorem dX12_encode_542 : decode cX12_encode 542 = .ok (.bipush 8, 2) := mm_dk kX12_encode_7 31 rfl
theorem dX12_encode_544 : decode cX12_encode 544 = .ok (.ishr, 1) := mm_dk kX12_encode_7 32 rfl
theorem dX12_encode_545 : decode cX12_encode 545 = .ok (.invokevirtual 359, 3) := mm_dk kX12_encode_7 33 rfl
theorem dX12_encode_548 : decode cX12_encode 548 = .ok (.aload_n 0, 1) := mm_dk kX12_encode_7 34 rfl
theorem dX12_encode_549 : decode cX12_encode 549 = .ok (.iload 9, 2) := mm_dk kX12_encode_7 35 rfl
theorem dX12_encode_551 : decode cX12_encode 551 = .ok (.iload 5, 2) := mm_dk kX12_encode_7 36 rfl
theorem dX12_encode_553 : decode cX12_encode 553 = .ok (.invokevirtual 359, 3) := mm_dk kX12_encode_7 37 rfl
theorem dX12_encode_556 : decode cX12_encode 556 = .ok (.aload_n 0, 1) := mm_dk kX12_encode_7 38 rfl
theorem dX12_encode_557 : decode cX12_encode 557 = .ok (.iload 9, 2) := mm_dk kX12_encode_7 39 rfl
set_option maxRecDepth 100000 in
theorem kX12_encode_8 : ([(559, .iload 6, 2), (561, .ifCond .eq 7, 3), (564, .iconst 2, 1), (565, .goto 4, 3), (568, .iconst 0, 1), (569, .invokevirtual 359, 3), (572, .iconst 0, 1), (573, .istore 10, 2), (575, .iload 10, 2), (577, .bipush 8, 2), (579, .if_icmp .ge 30, 3), (582, .aload_n 0, 1), (583, .iload 9, 2), (585, .aload_n 0, 1), (586, .getfield 71, 3), (589, .bipush 8, 2), (591, .iload_n 1, 1), (592, .imul, 1), (593, .iload 10, 2), (595, .iadd, 1), (596, .iaload, 1), (597, .bipush 32, 2), (599, .iadd, 1), (600, .invokevirtual 359, 3), (603, .iinc 10 1, 3), (606, .goto (-31), 3), (609, .iconst 0, 1), (610, .istore 10, 2), (612, .iload 10, 2), (614, .iconst 4, 1), (615, .if_icmp .ge 120, 3), (618, .bipush 28, 2), (620, .iload_n 1, 1), (621, .imul, 1), (622, .bipush 7, 2), (624, .iload 10, 2), (626, .imul, 1), (627, .iadd, 1), (628, .istore 11, 2), (630, .aload_n 0, 1)] : List (Nat × Instr × Nat)).all (fun x => decide (decode cX12_encode x.1 = .ok x.2)) = true := by decide +kernel
theorem dX12_encode_559 : decode cX12_encode 559 = .ok (.iload 6, 2) := mm_dk kX12_encode_8 0 rfl
theorem dX12_encode_561 : decode cX12_encode 561 = .ok (.ifCond .eq 7, 3) := mm_dk kX12_encode_8 1 rfl
theorem dX12_encode_564 : decode cX12_encode 564 = .ok (.iconst 2, 1) := mm_dk kX12_encode_8 2 rfl
theorem dX12_encode_565 : decode cX12_encode 565 = .ok (.goto 4, 3) := mm_dk kX12_encode_8 3 rfl
theorem dX12_encode_568 : decode cX12_encode 568 = .ok (.iconst 0, 1) := mm_dk kX12_encode_8 4 rfl
theorem dX12_encode_569 : decode cX12_encode 569 = .ok (.invokevirtual 359, 3) := mm_dk kX12_encode_8 5 rfl
theorem dX12_encode_572 : decode cX12_encode 572 = .ok (.iconst 0, 1) := mm_dk kX12_encode_8 6 rfl
theorem dX12_encode_573 : decode cX12_encode 573 = .ok (.istore 10, 2) := mm_dk kX12_encode_8 7 rfl
theorem dX12_encode_575 : decode cX12_encode 575 = .ok (.iload 10, 2) := mm_dk kX12_encode_8 8 rfl
theorem dX12_encode_577 : decode cX12_encode 577 = .ok (.bipush 8, 2) := mm_dk kX12_encode_8 9 rfl
theorem dX12_encode_579 : decode cX12_encode 579 = .ok (.if_icmp .ge 30, 3) := mm_dk kX12_encode_8 10 rfl
theorem dX12_encode_582 : decode cX12_encode 582 = .ok (.aload_n 0, 1) := mm_dk kX12_encode_8 11 rfl
theorem dX12_encode_583 : decode cX12_encode 583 = .ok (.iload 9, 2) := mm_dk kX12_encode_8 12 rfl
theorem dX12_encode_585 : decode cX12_encode 585 = .ok (.aload_n 0, 1) := mm_dk kX12_encode_8 13 rfl
theorem dX12_encode_586 : decode cX12_encode 586 = .ok (.getfield 71, 3) := mm_dk kX12_encode_8 14 rfl
theorem dX12_encode_589 : decode cX12_encode 589 = .ok (.bipush 8, 2) := mm_dk kX12_encode_8 15 rfl
theorem dX12_encode_591 : decode cX12_encode 591 = .ok (.iload_n 1, 1) := mm_dk kX12_encode_8 16 rfl
theorem dX12_encode_592 : decode cX12_encode 592 = .ok (.imul, 1) := mm_dk kX12_encode_8 17 rfl
theorem dX12_encode_593 : decode cX12_encode 593 = .ok (.iload 10, 2) := mm_dk kX12_encode_8 18 rfl
theorem dX12_encode_595 : decode cX12_encode 595 = .ok (.iadd, 1) := mm_dk kX12_encode_8 19 rfl
theorem dX12_encode_596 : decode cX12_encode 596 = .ok (.iaload, 1) := mm_dk kX12_encode_8 20 rfl
theorem dX12_encode_597 : decode cX12_encode 597 = .ok (.bipush 32, 2) := mm_dk kX12_encode_8 21 rfl
theorem dX12_encode_599 : decode cX12_encode 599 = .ok (.iadd, 1) := mm_dk kX12_encode_8 22 rfl
theorem dX12_encode_600 : decode cX12_encode 600 = .ok (.invokevirtual 359, 3) := mm_dk kX12_encode_8 23 rfl
theorem dX12_encode_603 : decode cX12_encode 603 = .ok (.iinc 10 1, 3) := mm_dk kX12_encode_8 24 rfl
theorem dX12_encode_606 : decode cX12_encode 606 = .ok (.goto (-31), 3) := mm_dk kX12_encode_8 25 rfl
theorem dX12_encode_609 : decode cX12_encode 609 = .ok (.iconst 0, 1) := mm_dk kX12_encode_8 26 rfl
theorem dX12_encode_610 : decode cX12_encode 610 = .ok (.istore 10, 2) := mm_dk kX12_encode_8 27 rfl
theorem dX12_encode_612 : decode cX12_encode 612 = .ok (.iload 10, 2) := mm_dk kX12_encode_8 28 rfl
theorem dX12_encode_614 : decode cX12_encode 614 = .ok (.iconst 4, 1) := mm_dk kX12_encode_8 29 rfl
theorem dX12_encode_615 : decode cX12_encode 615 = .ok (.if_icmp .ge 120, 3) := mm_dk kX12_encode_8 30 rfl
theorem dX12_encode_618 : decode cX12_encode 618 = .ok (.bipush 28, 2) := mm_dk kX12_encode_8 31 rfl
theorem dX12_encode_620 : decode cX12_encode 620 = .ok (.iload_n 1, 1) := mm_dk kX12_encode_8 32 rfl
theorem dX12_encode_621 : decode cX12_encode 621 = .ok (.imul, 1) := mm_dk kX12_encode_8 33 rfl
theorem dX12_encode_622 : decode cX12_encode 622 = .ok (.bipush 7, 2) := mm_dk kX12_encode_8 34 rfl
theorem dX12_encode_624 : decode cX12_encode 624 = .ok (.iload 10, 2) := mm_dk kX12_encode_8 35 rfl
theorem dX12_encode_626 : decode cX12_encode 626 = .ok (.imul, 1) := mm_dk kX12_encode_8 36 rfl
theorem dX12_encode_627 : decode cX12_encode 627 = .ok (.iadd, 1) := mm_dk kX12_encode_8 37 rfl
theorem dX12_encode_628 : decode cX12_encode 628 = .ok (.istore 11, 2) := mm_dk kX12_encode_8 38 rfl
theorem dX12_encode_630 : decode cX12_encode 630 = .ok (.aload_n 0, 1) := mm_dk kX12_encode_8 39 rfl
set_option maxRecDepth 100000 in
theorem kX12_encode_9 : ([(631, .iload 9, 2), (633, .aload_n 0, 1), (634, .getfield 74, 3), (637, .iload 11, 2), (639, .iaload, 1), (640, .bipush 20, 2), (642, .isub, 1), (643, .invokevirtual 359, 3), (646, .aload_n 0, 1), (647, .iload 9, 2), (649, .aload_n 0, 1), (650, .getfield 74, 3), (653, .iload 11, 2), (655, .iconst 1, 1), (656, .iadd, 1), (657, .iaload, 1), (658, .invokevirtual 359, 3), (661, .aload_n 0, 1), (662, .iload 9, 2), (664, .aload_n 0, 1), (665, .getfield 74, 3), (668, .iload 11, 2), (670, .iconst 2, 1), (671, .iadd, 1), (672, .iaload, 1), (673, .aload_n 0, 1), (674, .getfield 74, 3), (677, .iload 11, 2), (679, .iconst 3, 1), (680, .iadd, 1), (681, .iaload, 1), (682, .iadd, 1), (683, .invokevirtual 359, 3), (686, .aload_n 0, 1), (687, .iload 9, 2), (689, .aload_n 0, 1), (690, .getfield 74, 3), (693, .iload 11, 2), (695, .iconst 4, 1), (696, .iadd, 1)] : List (Nat × Instr × Nat)).all (fun x => decide (decode cX12_encode x.1 = .ok x.2)) = true := by decide +kernel
theorem dX12_encode_631 : decode cX12_encode 631 = .ok (.iload 9, 2) := mm_dk kX12_encode_9 0 rfl
theorem dX12_encode_633 : decode cX12_encode 633 = .ok (.aload_n 0, 1) := mm_dk kX12_encode_9 1 rfl
theorem dX12_encode_634 : decode cX12_encode 634 = .ok (.getfield 74, 3) := mm_dk kX12_encode_9 2 rfl
theorem dX12_encode_637 : decode cX12_encode 637 = .ok (.iload 11, 2) := mm_dk kX12_encode_9 3 rfl
theorem dX12_encode_639 : decode cX12_encode 639 = .ok (.iaload, 1) := mm_dk kX12_encode_9 4 rfl
theorem dX12_encode_640 : decode cX12_encode 640 = .ok (.bipush 20, 2) := mm_dk kX12_encode_9 5 rfl
theorem dX12_encode_642 : decode cX12_encode 642 = .ok (.isub, 1) := mm_dk kX12_encode_9 6 rfl
theorem dX12_encode_643 : decode cX12_encode 643 = .ok (.invokevirtual 359, 3) := mm_dk kX12_encode_9 7 rfl
theorem dX12_encode_646 : decode cX12_encode 646 = .ok (.aload_n 0, 1) := mm_dk kX12_encode_9 8 rfl
theorem dX12_encode_647 : decode cX12_encode 647 = .ok (.iload 9, 2) := mm_dk kX12_encode_9 9 rfl
theorem dX12_encode_649 : decode cX12_encode 649 = .ok (.aload_n 0, 1) := mm_dk kX12_encode_9 10 rfl
theorem dX12_encode_650 : decode cX12_encode 650 = .ok (.getfield 74, 3) := mm_dk kX12_encode_9 11 rfl
theorem dX12_encode_653 : decode cX12_encode 653 = .ok (.iload 11, 2) := mm_dk kX12_encode_9 12 rfl
theorem dX12_encode_655 : decode cX12_encode 655 = .ok (.iconst 1, 1) := mm_dk kX12_encode_9 13 rfl
theorem dX12_encode_656 : decode cX12_encode 656 = .ok (.iadd, 1) := mm_dk kX12_encode_9 14 rfl
theorem dX12_encode_657 : decode cX12_encode 657 = .ok (.iaload, 1) := mm_dk kX12_encode_9 15 rfl
theorem dX12_encode_658 : decode cX12_encode 658 = .ok (.invokevirtual 359, 3) := mm_dk kX12_encode_9 16 rfl
theorem dX12_encode_661 : decode cX12_encode 661 = .ok (.aload_n 0, 1) := mm_dk kX12_encode_9 17 rfl
theorem dX12_encode_662 : decode cX12_encode 662 = .ok (.iload 9, 2) := mm_dk kX12_encode_9 18 rfl
theorem dX12_encode_664 : decode cX12_encode 664 = .ok (.aload_n 0, 1) := mm_dk kX12_encode_9 19 rfl
theorem dX12_encode_665 : decode cX12_encode 665 = .ok (.getfield 74, 3) := mm_dk kX12_encode_9 20 rfl
theorem dX12_encode_668 : decode cX12_encode 668 = .ok (.iload 11, 2) := mm_dk kX12_encode_9 21 rfl
theorem dX12_encode_670 : decode cX12_encode 670 = .ok (.iconst 2, 1) := mm_dk kX12_encode_9 22 rfl
theorem dX12_encode_671 : decode cX12_encode 671 = .ok (.iadd, 1) := mm_dk kX12_encode_9 23 rfl
theorem dX12_encode_672 : decode cX12_encode 672 = .ok (.iaload, 1) := mm_dk kX12_encode_9 24 rfl
theorem dX12_encode_673 : decode cX12_encode 673 = .ok (.aload_n 0, 1) := mm_dk kX12_encode_9 25 rfl
theorem dX12_encode_674 : decode cX12_encode 674 = .ok (.getfield 74, 3) := mm_dk kX12_encode_9 26 rfl
theorem dX12_encode_677 : decode cX12_encode 677 = .ok (.iload 11, 2) := mm_dk kX12_encode_9 27 rfl
theorem dX12_encode_679 : decode cX12_encode 679 = .ok (.iconst 3, 1) := mm_dk kX12_encode_9 28 rfl
theorem dX12_encode_680 : decode cX12_encode 680 = .ok (.iadd, 1) := mm_dk kX12_encode_9 29 rfl
theorem dX12_encode_681 : decode cX12_encode 681 = .ok (.iaload, 1) := mm_dk kX12_encode_9 30 rfl
theorem dX12_encode_682 : decode cX12_encode 682 = .ok (.iadd, 1) := mm_dk kX12_encode_9 31 rfl
theorem dX12_encode_683 : decode cX12_encode 683 = .ok (.invokevirtual 359, 3) := mm_dk kX12_encode_9 32 rfl
theorem dX12_encode_686 : decode cX12_encode 686 = .ok (.aload_n 0, 1) := mm_dk kX12_encode_9 33 rfl
theorem dX12_encode_687 : decode cX12_encode 687 = .ok (.iload 9, 2) := mm_dk kX12_encode_9 34 rfl
theorem dX12_encode_689 : decode cX12_encode 689 = .ok (.aload_n 0, 1) := mm_dk kX12_encode_9 35 rfl
theorem dX12_encode_690 : decode cX12_encode 690 = .ok (.getfield 74, 3) := mm_dk kX12_encode_9 36 rfl
theorem dX12_encode_693 : decode cX12_encode 693 = .ok (.iload 11, 2) := mm_dk kX12_encode_9 37 rfl
theorem dX12_encode_695 : decode cX12_encode 695 = .ok (.iconst 4, 1) := mm_dk kX12_encode_9 38 rfl
theorem dX12_encode_696 : decode cX12_encode 696 = .ok (.iadd, 1) := mm_dk kX12_encode_9 39 rfl
set_option maxRecDepth 100000 in
theorem kX12_encode_10 : ([(697, .iaload, 1), (698, .iconst 1, 1), (699, .isub, 1), (700, .aload_n 0, 1), (701, .getfield 74, 3), (704, .iload 11, 2), (706, .iconst 5, 1), (707, .iadd, 1), (708, .iaload, 1), (709, .iadd, 1), (710, .invokevirtual 359, 3), (713, .aload_n 0, 1), (714, .iload 9, 2), (716, .aload_n 0, 1), (717, .getfield 74, 3), (720, .iload 11, 2), (722, .bipush 6, 2), (724, .iadd, 1), (725, .iaload, 1), (726, .invokevirtual 359, 3), (729, .iinc 10 1, 3), (732, .goto (-120), 3), (735, .aload_n 0, 1), (736, .getfield 68, 3), (739, .iload_n 1, 1), (740, .iconst 1, 1), (741, .iastore, 1), (742, .aload_n 0, 1), (743, .bipush 15, 2), (745, .invokevirtual 346, 3), (748, .iload 6, 2), (750, .ifCond .eq 22, 3), (753, .aload_n 0, 1), (754, .iload 9, 2), (756, .iload 7, 2), (758, .bipush 20, 2), (760, .isub, 1), (761, .invokevirtual 359, 3), (764, .aload_n 0, 1), (765, .iload 9, 2)] : List (Nat × Instr × Nat)).all (fun x => decide (decode cX12_encode x.1 = .ok x.2)) = true := by decide +kernel
theorem dX12_encode_697 : decode cX12_encode 697 = .ok (.iaload, 1) := mm_dk kX12_encode_10 0 rfl
theorem dX12_encode_698 : decode cX12_encode 698 = .ok (.iconst 1, 1) := mm_dk kX12_encode_10 1 rfl
theorem dX12_encode_699 : decode cX12_encode 699 = .ok (.isub, 1) := mm_dk kX12_encode_10 2 rfl
theorem dX12_encode_700 : decode cX12_encode 700 = .ok (.aload_n 0, 1) := mm_dk kX12_encode_10 3 rfl
theorem dX12_encode_701 : decode cX12_encode 701 = .ok (.getfield 74, 3) := mm_dk kX12_encode_10 4 rfl
theorem dX12_encode_704 : decode cX12_encode 704 = .ok (.iload 11, 2) := mm_dk kX12_encode_10 5 rfl
theorem dX12_encode_706 : decode cX12_encode 706 = .ok (.iconst 5, 1) := mm_dk kX12_encode_10 6 rfl
theorem dX12_encode_707 : decode cX12_encode 707 = .ok (.iadd, 1) := mm_dk kX12_encode_10 7 rfl
theorem dX12_encode_708 : decode cX12_encode 708 = .ok (.iaload, 1) := mm_dk kX12_encode_10 8 rfl
theorem dX12_encode_709 : decode cX12_encode 709 = .ok (.iadd, 1) := mm_dk kX12_encode_10 9 rfl
theorem dX12_encode_710 : decode cX12_encode 710 = .ok (.invokevirtual 359, 3) := mm_dk kX12_encode_10 10 rfl
theorem dX12_encode_713 : decode cX12_encode 713 = .ok (.aload_n 0, 1) := mm_dk kX12_encode_10 11 rfl
theorem dX12_encode_714 : decode cX12_encode 714 = .ok (.iload 9, 2) := mm_dk kX12_encode_10 12 rfl
theorem dX12_encode_716 : decode cX12_encode 716 = .ok (.aload_n 0, 1) := mm_dk kX12_encode_10 13 rfl
theorem dX12_encode_717 : decode cX12_encode 717 = .ok (.getfield 74, 3) := mm_dk kX12_encode_10 14 rfl
theorem dX12_encode_720 : decode cX12_encode 720 = .ok (.iload 11, 2) := mm_dk kX12_encode_10 15 rfl
theorem dX12_encode_722 : decode cX12_encode 722 = .ok (.bipush 6, 2) := mm_dk kX12_encode_10 16 rfl
theorem dX12_encode_724 : decode cX12_encode 724 = .ok (.iadd, 1) := mm_dk kX12_encode_10 17 rfl
theorem dX12_encode_725 : decode cX12_encode 725 = .ok (.iaload, 1) := mm_dk kX12_encode_10 18 rfl
theorem dX12_encode_726 : decode cX12_encode 726 = .ok (.invokevirtual 359, 3) := mm_dk kX12_encode_10 19 rfl
theorem dX12_encode_729 : decode cX12_encode 729 = .ok (.iinc 10 1, 3) := mm_dk kX12_encode_10 20 rfl
theorem dX12_encode_732 : decode cX12_encode 732 = .ok (.goto (-120), 3) := mm_dk kX12_encode_10 21 rfl
theorem dX12_encode_735 : decode cX12_encode 735 = .ok (.aload_n 0, 1) := mm_dk kX12_encode_10 22 rfl
theorem dX12_encode_736 : decode cX12_encode 736 = .ok (.getfield 68, 3) := mm_dk kX12_encode_10 23 rfl
theorem dX12_encode_739 : decode cX12_encode 739 = .ok (.iload_n 1, 1) := mm_dk kX12_encode_10 24 rfl
theorem dX12_encode_740 : decode cX12_encode 740 = .ok (.iconst 1, 1) := mm_dk kX12_encode_10 25 rfl
theorem dX12_encode_741 : decode cX12_encode 741 = .ok (.iastore, 1) := mm_dk kX12_encode_10 26 rfl
theorem dX12_encode_742 : decode cX12_encode 742 = .ok (.aload_n 0, 1) := mm_dk kX12_encode_10 27 rfl
theorem dX12_encode_743 : decode cX12_encode 743 = .ok (.bipush 15, 2) := mm_dk kX12_encode_10 28 rfl
theorem dX12_encode_745 : decode cX12_encode 745 = .ok (.invokevirtual 346, 3) := mm_dk kX12_encode_10 29 rfl
theorem dX12_encode_748 : decode cX12_encode 748 = .ok (.iload 6, 2) := mm_dk kX12_encode_10 30 rfl
theorem dX12_encode_750 : decode cX12_encode 750 = .ok (.ifCond .eq 22, 3) := mm_dk kX12_encode_10 31 rfl
theorem dX12_encode_753 : decode cX12_encode 753 = .ok (.aload_n 0, 1) := mm_dk kX12_encode_10 32 rfl
theorem dX12_encode_754 : decode cX12_encode 754 = .ok (.iload 9, 2) := mm_dk kX12_encode_10 33 rfl
theorem dX12_encode_756 : decode cX12_encode 756 = .ok (.iload 7, 2) := mm_dk kX12_encode_10 34 rfl
theorem dX12_encode_758 : decode cX12_encode 758 = .ok (.bipush 20, 2) := mm_dk kX12_encode_10 35 rfl
theorem dX12_encode_760 : decode cX12_encode 760 = .ok (.isub, 1) := mm_dk kX12_encode_10 36 rfl
theorem dX12_encode_761 : decode cX12_encode 761 = .ok (.invokevirtual 359, 3) := mm_dk kX12_encode_10 37 rfl
theorem dX12_encode_764 : decode cX12_encode 764 = .ok (.aload_n 0, 1) := mm_dk kX12_encode_10 38 rfl
theorem dX12_encode_765 : decode cX12_encode 765 = .ok (.iload 9, 2) := mm_dk kX12_encode_10 39 rfl
set_option maxRecDepth 100000 in
theorem kX12_encode_11 : ([(767, .iload 8, 2), (769, .invokevirtual 359, 3), (772, .aload_n 0, 1), (773, .iload 9, 2), (775, .aload_n 0, 1), (776, .iload 9, 2), (778, .aload_n 0, 1), (779, .getfield 102, 3), (782, .iload 9, 2), (784, .iaload, 1), (785, .invokevirtual 366, 3), (788, .invokevirtual 359, 3), (791, .aload_n 0, 1), (792, .iload_n 1, 1), (793, .iload 5, 2), (795, .iload 9, 2), (797, .invokevirtual 369, 3), (800, .aload_n 0, 1), (801, .getfield 38, 3), (804, .iload_n 1, 1), (805, .iload 5, 2), (807, .iconst 1, 1), (808, .iadd, 1), (809, .ldc 243, 2), (811, .iand, 1), (812, .iastore, 1), (813, .aload_n 0, 1), (814, .getfield 50, 3), (817, .iload_n 1, 1), (818, .dup2, 1), (819, .iaload, 1), (820, .iconst 1, 1), (821, .iadd, 1), (822, .iastore, 1), (823, .aload_n 0, 1), (824, .iload 5, 2), (826, .invokevirtual 235, 3), (829, .ireturn, 1)] : List (Nat × Instr × Nat)).all (fun x => decide (decode cX12_encode x.1 = .ok x.2)) = true := by decide +kernel
theorem dX12_encode_767 : decode cX12_encode 767 = .ok (.iload 8, 2) := mm_dk kX12_encode_11 0 rfl
theorem dX12_encode_769 : decode cX12_encode 769 = .ok (.invokevirtual 359, 3) := mm_dk kX12_encode_11 1 rfl
theorem dX12_encode_772 : decode cX12_encode 772 = .ok (.aload_n 0, 1) := mm_dk kX12_encode_11 2 rfl
theorem dX12_encode_773 : decode cX12_encode 773 = .ok (.iload 9, 2) := mm_dk kX12_encode_11 3 rfl
theorem dX12_encode_775 : decode cX12_encode 775 = .ok (.aload_n 0, 1) := mm_dk kX12_encode_11 4 rfl
theorem dX12_encode_776 : decode cX12_encode 776 = .ok (.iload 9, 2) := mm_dk kX12_encode_11 5 rfl
theorem dX12_encode_778 : decode cX12_encode 778 = .ok (.aload_n 0, 1) := mm_dk kX12_encode_11 6 rfl
theorem dX12_encode_779 : decode cX12_encode 779 = .ok (.getfield 102, 3) := mm_dk kX12_encode_11 7 rfl
theorem dX12_encode_782 : decode cX12_encode 782 = .ok (.iload 9, 2) := mm_dk kX12_encode_11 8 rfl
theorem dX12_encode_784 : decode cX12_encode 784 = .ok (.iaload, 1) := mm_dk kX12_encode_11 9 rfl
theorem dX12_encode_785 : decode cX12_encode 785 = .ok (.invokevirtual 366, 3) := mm_dk kX12_encode_11 10 rfl
theorem dX12_encode_788 : decode cX12_encode 788 = .ok (.invokevirtual 359, 3) := mm_dk kX12_encode_11 11 rfl
theorem dX12_encode_791 : decode cX12_encode 791 = .ok (.aload_n 0, 1) := mm_dk kX12_encode_11 12 rfl
theorem dX12_encode_792 : decode cX12_encode 792 = .ok (.iload_n 1, 1) := mm_dk kX12_encode_11 13 rfl
theorem dX12_encode_793 : decode cX12_encode 793 = .ok (.iload 5, 2) := mm_dk kX12_encode_11 14 rfl
theorem dX12_encode_795 : decode cX12_encode 795 = .ok (.iload 9, 2) := mm_dk kX12_encode_11 15 rfl
theorem dX12_encode_797 : decode cX12_encode 797 = .ok (.invokevirtual 369, 3) := mm_dk kX12_encode_11 16 rfl
theorem dX12_encode_800 : decode cX12_encode 800 = .ok (.aload_n 0, 1) := mm_dk kX12_encode_11 17 rfl
theorem dX12_encode_801 : decode cX12_encode 801 = .ok (.getfield 38, 3) := mm_dk kX12_encode_11 18 rfl
theorem dX12_encode_804 : decode cX12_encode 804 = .ok (.iload_n 1, 1) := mm_dk kX12_encode_11 19 rfl
theorem dX12_encode_805 : decode cX12_encode 805 = .ok (.iload 5, 2) := mm_dk kX12_encode_11 20 rfl
theorem dX12_encode_807 : decode cX12_encode 807 = .ok (.iconst 1, 1) := mm_dk kX12_encode_11 21 rfl
theorem dX12_encode_808 : decode cX12_encode 808 = .ok (.iadd, 1) := mm_dk kX12_encode_11 22 rfl
theorem dX12_encode_809 : decode cX12_encode 809 = .ok (.ldc 243, 2) := mm_dk kX12_encode_11 23 rfl
theorem dX12_encode_811 : decode cX12_encode 811 = .ok (.iand, 1) := mm_dk kX12_encode_11 24 rfl
theorem dX12_encode_812 : decode cX12_encode 812 = .ok (.iastore, 1) := mm_dk kX12_encode_11 25 rfl
theorem dX12_encode_813 : decode cX12_encode 813 = .ok (.aload_n 0, 1) := mm_dk kX12_encode_11 26 rfl
theorem dX12_encode_814 : decode cX12_encode 814 = .ok (.getfield 50, 3) := mm_dk kX12_encode_11 27 rfl
theorem dX12_encode_817 : decode cX12_encode 817 = .ok (.iload_n 1, 1) := mm_dk kX12_encode_11 28 rfl
theorem dX12_encode_818 : decode cX12_encode 818 = .ok (.dup2, 1) := mm_dk kX12_encode_11 29 rfl
theorem dX12_encode_819 : decode cX12_encode 819 = .ok (.iaload, 1) := mm_dk kX12_encode_11 30 rfl
theorem dX12_encode_820 : decode cX12_encode 820 = .ok (.iconst 1, 1) := mm_dk kX12_encode_11 31 rfl
theorem dX12_encode_821 : decode cX12_encode 821 = .ok (.iadd, 1) := mm_dk kX12_encode_11 32 rfl
theorem dX12_encode_822 : decode cX12_encode 822 = .ok (.iastore, 1) := mm_dk kX12_encode_11 33 rfl
theorem dX12_encode_823 : decode cX12_encode 823 = .ok (.aload_n 0, 1) := mm_dk kX12_encode_11 34 rfl
theorem dX12_encode_824 : decode cX12_encode 824 = .ok (.iload 5, 2) := mm_dk kX12_encode_11 35 rfl
theorem dX12_encode_826 : decode cX12_encode 826 = .ok (.invokevirtual 235, 3) := mm_dk kX12_encode_11 36 rfl
theorem dX12_encode_829 : decode cX12_encode 829 = .ok (.ireturn, 1) := mm_dk kX12_encode_11 37 rfl
set_option maxRecDepth 100000 in
theorem kX12_voice_0 : ([(0, .aload_n 0, 1), (1, .iconst 3, 1), (2, .invokevirtual 346, 3), (5, .aload_n 0, 1), (6, .iload_n 1, 1), (7, .iload_n 2, 1), (8, .invokevirtual 372, 3), (11, .aload_n 0, 1), (12, .iconst 4, 1), (13, .invokevirtual 346, 3), (16, .aload_n 0, 1), (17, .iload_n 1, 1), (18, .iload_n 2, 1), (19, .invokevirtual 375, 3), (22, .aload_n 0, 1), (23, .getfield 84, 3), (26, .iload_n 1, 1), (27, .iload_n 3, 1), (28, .iastore, 1), (29, .iconst 0, 1), (30, .istore 4, 2), (32, .iload 4, 2), (34, .bipush 8, 2), (36, .if_icmp .ge 33, 3), (39, .aload_n 0, 1), (40, .getfield 59, 3), (43, .bipush 16, 2), (45, .iload_n 1, 1), (46, .imul, 1), (47, .iload 4, 2), (49, .iadd, 1), (50, .aload_n 0, 1), (51, .getfield 71, 3), (54, .bipush 8, 2), (56, .iload_n 1, 1), (57, .imul, 1), (58, .iload 4, 2), (60, .iadd, 1), (61, .iaload, 1), (62, .iastore, 1)] : List (Nat × Instr × Nat)).all (fun x => decide (decode cX12_voice x.1 = .ok x.2)) = true := by decide +kernel
theorem dX12_voice_0 : decode cX12_voice 0 = .ok (.aload_n 0, 1) := mm_dk kX12_voice_0 0 rfl
theorem dX12_voice_1 : decode cX12_voice 1 = .ok (.iconst 3, 1) := mm_dk kX12_voice_0 1 rfl
theorem dX12_voice_2 : decode cX12_voice 2 = .ok (.invokevirtual 346, 3) := mm_dk kX12_voice_0 2 rfl
theorem dX12_voice_5 : decode cX12_voice 5 = .ok (.aload_n 0, 1) := mm_dk kX12_voice_0 3 rfl
theorem dX12_voice_6 : decode cX12_voice 6 = .ok (.iload_n 1, 1) := mm_dk kX12_voice_0 4 rfl
theorem dX12_voice_7 : decode cX12_voice 7 = .ok (.iload_n 2, 1) := mm_dk kX12_voice_0 5 rfl
theorem dX12_voice_8 : decode cX12_voice 8 = .ok (.invokevirtual 372, 3) := mm_dk kX12_voice_0 6 rfl
theorem dX12_voice_11 : decode cX12_voice 11 = .ok (.aload_n 0, 1) := mm_dk kX12_voice_0 7 rfl
theorem dX12_voice_12 : decode cX12_voice 12 = .ok (.iconst 4, 1) := mm_dk kX12_voice_0 8 rfl
theorem dX12_voice_13 : decode cX12_voice 13 = .ok (.invokevirtual 346, 3) := mm_dk kX12_voice_0 9 rfl
theorem dX12_voice_16 : decode cX12_voice 16 = .ok (.aload_n 0, 1) := mm_dk kX12_voice_0 10 rfl
theorem dX12_voice_17 : decode cX12_voice 17 = .ok (.iload_n 1, 1) := mm_dk kX12_voice_0 11 rfl
theorem dX12_voice_18 : decode cX12_voice 18 = .ok (.iload_n 2, 1) := mm_dk kX12_voice_0 12 rfl
theorem dX12_voice_19 : decode cX12_voice 19 = .ok (.invokevirtual 375, 3) := mm_dk kX12_voice_0 13 rfl
theorem dX12_voice_22 : decode cX12_voice 22 = .ok (.aload_n 0, 1) := mm_dk kX12_voice_0 14 rfl
theorem dX12_voice_23 : decode cX12_voice 23 = .ok (.getfield 84, 3) := mm_dk kX12_voice_0 15 rfl
theorem dX12_voice_26 : decode cX12_voice 26 = .ok (.iload_n 1, 1) := mm_dk kX12_voice_0 16 rfl
theorem dX12_voice_27 : decode cX12_voice 27 = .ok (.iload_n 3, 1) := mm_dk kX12_voice_0 17 rfl
theorem dX12_voice_28 : decode cX12_voice 28 = .ok (.iastore, 1) := mm_dk kX12_voice_0 18 rfl
theorem dX12_voice_29 : decode cX12_voice 29 = .ok (.iconst 0, 1) := mm_dk kX12_voice_0 19 rfl
theorem dX12_voice_30 : decode cX12_voice 30 = .ok (.istore 4, 2) := mm_dk kX12_voice_0 20 rfl
theorem dX12_voice_32 : decode cX12_voice 32 = .ok (.iload 4, 2) := mm_dk kX12_voice_0 21 rfl
theorem dX12_voice_34 : decode cX12_voice 34 = .ok (.bipush 8, 2) := mm_dk kX12_voice_0 22 rfl
theorem dX12_voice_36 : decode cX12_voice 36 = .ok (.if_icmp .ge 33, 3) := mm_dk kX12_voice_0 23 rfl
theorem dX12_voice_39 : decode cX12_voice 39 = .ok (.aload_n 0, 1) := mm_dk kX12_voice_0 24 rfl
theorem dX12_voice_40 : decode cX12_voice 40 = .ok (.getfield 59, 3) := mm_dk kX12_voice_0 25 rfl
theorem dX12_voice_43 : decode cX12_voice 43 = .ok (.bipush 16, 2) := mm_dk kX12_voice_0 26 rfl
theorem dX12_voice_45 : decode cX12_voice 45 = .ok (.iload_n 1, 1) := mm_dk kX12_voice_0 27 rfl
theorem dX12_voice_46 : decode cX12_voice 46 = .ok (.imul, 1) := mm_dk kX12_voice_0 28 rfl
theorem dX12_voice_47 : decode cX12_voice 47 = .ok (.iload 4, 2) := mm_dk kX12_voice_0 29 rfl
theorem dX12_voice_49 : decode cX12_voice 49 = .ok (.iadd, 1) := mm_dk kX12_voice_0 30 rfl
theorem dX12_voice_50 : decode cX12_voice 50 = .ok (.aload_n 0, 1) := mm_dk kX12_voice_0 31 rfl
theorem dX12_voice_51 : decode cX12_voice 51 = .ok (.getfield 71, 3) := mm_dk kX12_voice_0 32 rfl
theorem dX12_voice_54 : decode cX12_voice 54 = .ok (.bipush 8, 2) := mm_dk kX12_voice_0 33 rfl
theorem dX12_voice_56 : decode cX12_voice 56 = .ok (.iload_n 1, 1) := mm_dk kX12_voice_0 34 rfl
theorem dX12_voice_57 : decode cX12_voice 57 = .ok (.imul, 1) := mm_dk kX12_voice_0 35 rfl
theorem dX12_voice_58 : decode cX12_voice 58 = .ok (.iload 4, 2) := mm_dk kX12_voice_0 36 rfl
theorem dX12_voice_60 : decode cX12_voice 60 = .ok (.iadd, 1) := mm_dk kX12_voice_0 37 rfl
theorem dX12_voice_61 : decode cX12_voice 61 = .ok (.iaload, 1) := mm_dk kX12_voice_0 38 rfl
theorem dX12_voice_62 : decode cX12_voice 62 = .ok (.iastore, 1) := mm_dk kX12_voice_0 39 rfl
set_option maxRecDepth 100000 in
theorem kX12_voice_1 : ([(63, .iinc 4 1, 3), (66, .goto (-34), 3), (69, .iconst 0, 1), (70, .istore 4, 2), (72, .iload 4, 2), (74, .iconst 4, 1), (75, .if_icmp .ge 343, 3), (78, .iconst 0, 1), (79, .istore 5, 2), (81, .iload 5, 2), (83, .sipush 160, 3), (86, .if_icmp .ge 40, 3), (89, .aload_n 0, 1), (90, .getfield 90, 3), (93, .sipush 160, 3), (96, .iconst 4, 1), (97, .iload_n 1, 1), (98, .imul, 1), (99, .iload 4, 2), (101, .iadd, 1), (102, .imul, 1), (103, .iload 5, 2), (105, .iadd, 1), (106, .aload_n 0, 1), (107, .getfield 53, 3), (110, .sipush 320, 3), (113, .iload_n 1, 1), (114, .imul, 1), (115, .iload 5, 2), (117, .iadd, 1), (118, .iaload, 1), (119, .iastore, 1), (120, .iinc 5 1, 3), (123, .goto (-42), 3), (126, .bipush 28, 2), (128, .iload_n 1, 1), (129, .imul, 1), (130, .bipush 7, 2), (132, .iload 4, 2), (134, .imul, 1)] : List (Nat × Instr × Nat)).all (fun x => decide (decode cX12_voice x.1 = .ok x.2)) = true := by decide +kernel
theorem dX12_voice_63 : decode cX12_voice 63 = .ok (.iinc 4 1, 3) := mm_dk kX12_voice_1 0 rfl
theorem dX12_voice_66 : decode cX12_voice 66 = .ok (.goto (-34), 3) := mm_dk kX12_voice_1 1 rfl
theorem dX12_voice_69 : decode cX12_voice 69 = .ok (.iconst 0, 1) := mm_dk kX12_voice_1 2 rfl
theorem dX12_voice_70 : decode cX12_voice 70 = .ok (.istore 4, 2) := mm_dk kX12_voice_1 3 rfl
theorem dX12_voice_72 : decode cX12_voice 72 = .ok (.iload 4, 2) := mm_dk kX12_voice_1 4 rfl
theorem dX12_voice_74 : decode cX12_voice 74 = .ok (.iconst 4, 1) := mm_dk kX12_voice_1 5 rfl
theorem dX12_voice_75 : decode cX12_voice 75 = .ok (.if_icmp .ge 343, 3) := mm_dk kX12_voice_1 6 rfl
theorem dX12_voice_78 : decode cX12_voice 78 = .ok (.iconst 0, 1) := mm_dk kX12_voice_1 7 rfl
theorem dX12_voice_79 : decode cX12_voice 79 = .ok (.istore 5, 2) := mm_dk kX12_voice_1 8 rfl
theorem dX12_voice_81 : decode cX12_voice 81 = .ok (.iload 5, 2) := mm_dk kX12_voice_1 9 rfl
theorem dX12_voice_83 : decode cX12_voice 83 = .ok (.sipush 160, 3) := mm_dk kX12_voice_1 10 rfl
theorem dX12_voice_86 : decode cX12_voice 86 = .ok (.if_icmp .ge 40, 3) := mm_dk kX12_voice_1 11 rfl
theorem dX12_voice_89 : decode cX12_voice 89 = .ok (.aload_n 0, 1) := mm_dk kX12_voice_1 12 rfl
theorem dX12_voice_90 : decode cX12_voice 90 = .ok (.getfield 90, 3) := mm_dk kX12_voice_1 13 rfl
theorem dX12_voice_93 : decode cX12_voice 93 = .ok (.sipush 160, 3) := mm_dk kX12_voice_1 14 rfl
theorem dX12_voice_96 : decode cX12_voice 96 = .ok (.iconst 4, 1) := mm_dk kX12_voice_1 15 rfl
theorem dX12_voice_97 : decode cX12_voice 97 = .ok (.iload_n 1, 1) := mm_dk kX12_voice_1 16 rfl
theorem dX12_voice_98 : decode cX12_voice 98 = .ok (.imul, 1) := mm_dk kX12_voice_1 17 rfl
theorem dX12_voice_99 : decode cX12_voice 99 = .ok (.iload 4, 2) := mm_dk kX12_voice_1 18 rfl
theorem dX12_voice_101 : decode cX12_voice 101 = .ok (.iadd, 1) := mm_dk kX12_voice_1 19 rfl
theorem dX12_voice_102 : decode cX12_voice 102 = .ok (.imul, 1) := mm_dk kX12_voice_1 20 rfl
theorem dX12_voice_103 : decode cX12_voice 103 = .ok (.iload 5, 2) := mm_dk kX12_voice_1 21 rfl
theorem dX12_voice_105 : decode cX12_voice 105 = .ok (.iadd, 1) := mm_dk kX12_voice_1 22 rfl
theorem dX12_voice_106 : decode cX12_voice 106 = .ok (.aload_n 0, 1) := mm_dk kX12_voice_1 23 rfl
theorem dX12_voice_107 : decode cX12_voice 107 = .ok (.getfield 53, 3) := mm_dk kX12_voice_1 24 rfl
theorem dX12_voice_110 : decode cX12_voice 110 = .ok (.sipush 320, 3) := mm_dk kX12_voice_1 25 rfl
theorem dX12_voice_113 : decode cX12_voice 113 = .ok (.iload_n 1, 1) := mm_dk kX12_voice_1 26 rfl
theorem dX12_voice_114 : decode cX12_voice 114 = .ok (.imul, 1) := mm_dk kX12_voice_1 27 rfl
theorem dX12_voice_115 : decode cX12_voice 115 = .ok (.iload 5, 2) := mm_dk kX12_voice_1 28 rfl
theorem dX12_voice_117 : decode cX12_voice 117 = .ok (.iadd, 1) := mm_dk kX12_voice_1 29 rfl
theorem dX12_voice_118 : decode cX12_voice 118 = .ok (.iaload, 1) := mm_dk kX12_voice_1 30 rfl
theorem dX12_voice_119 : decode cX12_voice 119 = .ok (.iastore, 1) := mm_dk kX12_voice_1 31 rfl
theorem dX12_voice_120 : decode cX12_voice 120 = .ok (.iinc 5 1, 3) := mm_dk kX12_voice_1 32 rfl
theorem dX12_voice_123 : decode cX12_voice 123 = .ok (.goto (-42), 3) := mm_dk kX12_voice_1 33 rfl
theorem dX12_voice_126 : decode cX12_voice 126 = .ok (.bipush 28, 2) := mm_dk kX12_voice_1 34 rfl
theorem dX12_voice_128 : decode cX12_voice 128 = .ok (.iload_n 1, 1) := mm_dk kX12_voice_1 35 rfl
theorem dX12_voice_129 : decode cX12_voice 129 = .ok (.imul, 1) := mm_dk kX12_voice_1 36 rfl
theorem dX12_voice_130 : decode cX12_voice 130 = .ok (.bipush 7, 2) := mm_dk kX12_voice_1 37 rfl
theorem dX12_voice_132 : decode cX12_voice 132 = .ok (.iload 4, 2) := mm_dk kX12_voice_1 38 rfl
theorem dX12_voice_134 : decode cX12_voice 134 = .ok (.imul, 1) := mm_dk kX12_voice_1 39 rfl
set_option maxRecDepth 100000 in
theorem kX12_voice_2 : ([(135, .iadd, 1), (136, .istore 5, 2), (138, .aload_n 0, 1), (139, .bipush 10, 2), (141, .aload_n 0, 1), (142, .getfield 29, 3), (145, .iconst 2, 1), (146, .iload_n 1, 1), (147, .imul, 1), (148, .iaload, 1), (149, .iadd, 1), (150, .invokevirtual 346, 3), (153, .aload_n 0, 1), (154, .iload_n 1, 1), (155, .iload 4, 2), (157, .iload_n 3, 1), (158, .aload_n 0, 1), (159, .getfield 29, 3), (162, .iconst 2, 1), (163, .iload_n 1, 1), (164, .imul, 1), (165, .iaload, 1), (166, .iconst 1, 1), (167, .if_icmp .ne 7, 3), (170, .iconst 1, 1), (171, .goto 4, 3), (174, .iconst 0, 1), (175, .invokevirtual 378, 3), (178, .aload_n 0, 1), (179, .getfield 74, 3), (182, .iload 5, 2), (184, .aload_n 0, 1), (185, .getfield 281, 3), (188, .iastore, 1), (189, .aload_n 0, 1), (190, .getfield 74, 3), (193, .iload 5, 2), (195, .iconst 1, 1), (196, .iadd, 1), (197, .aload_n 0, 1)] : List (Nat × Instr × Nat)).all (fun x => decide (decode cX12_voice x.1 = .ok x.2)) = true := by decide +kernel
theorem dX12_voice_135 : decode cX12_voice 135 = .ok (.iadd, 1) := mm_dk kX12_voice_2 0 rfl
theorem dX12_voice_136 : decode cX12_voice 136 = .ok (.istore 5, 2) := mm_dk kX12_voice_2 1 rfl
theorem dX12_voice_138 : decode cX12_voice 138 = .ok (.aload_n 0, 1) := mm_dk kX12_voice_2 2 rfl
theorem dX12_voice_139 : decode cX12_voice 139 = .ok (.bipush 10, 2) := mm_dk kX12_voice_2 3 rfl
theorem dX12_voice_141 : decode cX12_voice 141 = .ok (.aload_n 0, 1) := mm_dk kX12_voice_2 4 rfl
theorem dX12_voice_142 : decode cX12_voice 142 = .ok (.getfield 29, 3) := mm_dk kX12_voice_2 5 rfl
theorem dX12_voice_145 : decode cX12_voice 145 = .ok (.iconst 2, 1) := mm_dk kX12_voice_2 6 rfl
theorem dX12_voice_146 : decode cX12_voice 146 = .ok (.iload_n 1, 1) := mm_dk kX12_voice_2 7 rfl
theorem dX12_voice_147 : decode cX12_voice 147 = .ok (.imul, 1) := mm_dk kX12_voice_2 8 rfl
theorem dX12_voice_148 : decode cX12_voice 148 = .ok (.iaload, 1) := mm_dk kX12_voice_2 9 rfl
theorem dX12_voice_149 : decode cX12_voice 149 = .ok (.iadd, 1) := mm_dk kX12_voice_2 10 rfl
theorem dX12_voice_150 : decode cX12_voice 150 = .ok (.invokevirtual 346, 3) := mm_dk kX12_voice_2 11 rfl
theorem dX12_voice_153 : decode cX12_voice 153 = .ok (.aload_n 0, 1) := mm_dk kX12_voice_2 12 rfl
theorem dX12_voice_154 : decode cX12_voice 154 = .ok (.iload_n 1, 1) := mm_dk kX12_voice_2 13 rfl
theorem dX12_voice_155 : decode cX12_voice 155 = .ok (.iload 4, 2) := mm_dk kX12_voice_2 14 rfl
theorem dX12_voice_157 : decode cX12_voice 157 = .ok (.iload_n 3, 1) := mm_dk kX12_voice_2 15 rfl
theorem dX12_voice_158 : decode cX12_voice 158 = .ok (.aload_n 0, 1) := mm_dk kX12_voice_2 16 rfl
theorem dX12_voice_159 : decode cX12_voice 159 = .ok (.getfield 29, 3) := mm_dk kX12_voice_2 17 rfl
theorem dX12_voice_162 : decode cX12_voice 162 = .ok (.iconst 2, 1) := mm_dk kX12_voice_2 18 rfl
theorem dX12_voice_163 : decode cX12_voice 163 = .ok (.iload_n 1, 1) := mm_dk kX12_voice_2 19 rfl
theorem dX12_voice_164 : decode cX12_voice 164 = .ok (.imul, 1) := mm_dk kX12_voice_2 20 rfl
theorem dX12_voice_165 : decode cX12_voice 165 = .ok (.iaload, 1) := mm_dk kX12_voice_2 21 rfl
theorem dX12_voice_166 : decode cX12_voice 166 = .ok (.iconst 1, 1) := mm_dk kX12_voice_2 22 rfl
theorem dX12_voice_167 : decode cX12_voice 167 = .ok (.if_icmp .ne 7, 3) := mm_dk kX12_voice_2 23 rfl
theorem dX12_voice_170 : decode cX12_voice 170 = .ok (.iconst 1, 1) := mm_dk kX12_voice_2 24 rfl
theorem dX12_voice_171 : decode cX12_voice 171 = .ok (.goto 4, 3) := mm_dk kX12_voice_2 25 rfl
theorem dX12_voice_174 : decode cX12_voice 174 = .ok (.iconst 0, 1) := mm_dk kX12_voice_2 26 rfl
theorem dX12_voice_175 : decode cX12_voice 175 = .ok (.invokevirtual 378, 3) := mm_dk kX12_voice_2 27 rfl
theorem dX12_voice_178 : decode cX12_voice 178 = .ok (.aload_n 0, 1) := mm_dk kX12_voice_2 28 rfl
theorem dX12_voice_179 : decode cX12_voice 179 = .ok (.getfield 74, 3) := mm_dk kX12_voice_2 29 rfl
theorem dX12_voice_182 : decode cX12_voice 182 = .ok (.iload 5, 2) := mm_dk kX12_voice_2 30 rfl
theorem dX12_voice_184 : decode cX12_voice 184 = .ok (.aload_n 0, 1) := mm_dk kX12_voice_2 31 rfl
theorem dX12_voice_185 : decode cX12_voice 185 = .ok (.getfield 281, 3) := mm_dk kX12_voice_2 32 rfl
theorem dX12_voice_188 : decode cX12_voice 188 = .ok (.iastore, 1) := mm_dk kX12_voice_2 33 rfl
theorem dX12_voice_189 : decode cX12_voice 189 = .ok (.aload_n 0, 1) := mm_dk kX12_voice_2 34 rfl
theorem dX12_voice_190 : decode cX12_voice 190 = .ok (.getfield 74, 3) := mm_dk kX12_voice_2 35 rfl
theorem dX12_voice_193 : decode cX12_voice 193 = .ok (.iload 5, 2) := mm_dk kX12_voice_2 36 rfl
theorem dX12_voice_195 : decode cX12_voice 195 = .ok (.iconst 1, 1) := mm_dk kX12_voice_2 37 rfl
theorem dX12_voice_196 : decode cX12_voice 196 = .ok (.iadd, 1) := mm_dk kX12_voice_2 38 rfl
theorem dX12_voice_197 : decode cX12_voice 197 = .ok (.aload_n 0, 1) := mm_dk kX12_voice_2 39 rfl
set_option maxRecDepth 100000 in
theorem kX12_voice_3 : ([(198, .getfield 284, 3), (201, .iastore, 1), (202, .aload_n 0, 1), (203, .getfield 77, 3), (206, .iconst 4, 1), (207, .iload_n 1, 1), (208, .imul, 1), (209, .iload 4, 2), (211, .iadd, 1), (212, .aload_n 0, 1), (213, .getfield 278, 3), (216, .lastore, 1), (217, .aload_n 0, 1), (218, .bipush 12, 2), (220, .aload_n 0, 1), (221, .getfield 29, 3), (224, .iconst 2, 1), (225, .iload_n 1, 1), (226, .imul, 1), (227, .iconst 1, 1), (228, .iadd, 1), (229, .iaload, 1), (230, .iadd, 1), (231, .invokevirtual 346, 3), (234, .aload_n 0, 1), (235, .iload_n 1, 1), (236, .iload 4, 2), (238, .iload_n 3, 1), (239, .aload_n 0, 1), (240, .getfield 74, 3), (243, .iload 5, 2), (245, .iaload, 1), (246, .aload_n 0, 1), (247, .getfield 74, 3), (250, .iload 5, 2), (252, .iconst 1, 1), (253, .iadd, 1), (254, .iaload, 1), (255, .aload_n 0, 1), (256, .getfield 29, 3)] : List (Nat × Instr × Nat)).all (fun x => decide (decode cX12_voice x.1 = .ok x.2)) = true := by decide +kernel
theorem dX12_voice_198 : decode cX12_voice 198 = .ok (.getfield 284, 3) := mm_dk kX12_voice_3 0 rfl
theorem dX12_voice_201 : decode cX12_voice 201 = .ok (.iastore, 1) := mm_dk kX12_voice_3 1 rfl
theorem dX12_voice_202 : decode cX12_voice 202 = .ok (.aload_n 0, 1) := mm_dk kX12_voice_3 2 rfl
theorem dX12_voice_203 : decode cX12_voice 203 = .ok (.getfield 77, 3) := mm_dk kX12_voice_3 3 rfl
theorem dX12_voice_206 : decode cX12_voice 206 = .ok (.iconst 4, 1) := mm_dk kX12_voice_3 4 rfl
theorem dX12_voice_207 : decode cX12_voice 207 = .ok (.iload_n 1, 1) := mm_dk kX12_voice_3 5 rfl
theorem dX12_voice_208 : decode cX12_voice 208 = .ok (.imul, 1) := mm_dk kX12_voice_3 6 rfl
theorem dX12_voice_209 : decode cX12_voice 209 = .ok (.iload 4, 2) := mm_dk kX12_voice_3 7 rfl
theorem dX12_voice_211 : decode cX12_voice 211 = .ok (.iadd, 1) := mm_dk kX12_voice_3 8 rfl
theorem dX12_voice_212 : decode cX12_voice 212 = .ok (.aload_n 0, 1) := mm_dk kX12_voice_3 9 rfl
theorem dX12_voice_213 : decode cX12_voice 213 = .ok (.getfield 278, 3) := mm_dk kX12_voice_3 10 rfl
theorem dX12_voice_216 : decode cX12_voice 216 = .ok (.lastore, 1) := mm_dk kX12_voice_3 11 rfl
theorem dX12_voice_217 : decode cX12_voice 217 = .ok (.aload_n 0, 1) := mm_dk kX12_voice_3 12 rfl
theorem dX12_voice_218 : decode cX12_voice 218 = .ok (.bipush 12, 2) := mm_dk kX12_voice_3 13 rfl
theorem dX12_voice_220 : decode cX12_voice 220 = .ok (.aload_n 0, 1) := mm_dk kX12_voice_3 14 rfl
theorem dX12_voice_221 : decode cX12_voice 221 = .ok (.getfield 29, 3) := mm_dk kX12_voice_3 15 rfl
theorem dX12_voice_224 : decode cX12_voice 224 = .ok (.iconst 2, 1) := mm_dk kX12_voice_3 16 rfl
theorem dX12_voice_225 : decode cX12_voice 225 = .ok (.iload_n 1, 1) := mm_dk kX12_voice_3 17 rfl
theorem dX12_voice_226 : decode cX12_voice 226 = .ok (.imul, 1) := mm_dk kX12_voice_3 18 rfl
theorem dX12_voice_227 : decode cX12_voice 227 = .ok (.iconst 1, 1) := mm_dk kX12_voice_3 19 rfl
theorem dX12_voice_228 : decode cX12_voice 228 = .ok (.iadd, 1) := mm_dk kX12_voice_3 20 rfl
theorem dX12_voice_229 : decode cX12_voice 229 = .ok (.iaload, 1) := mm_dk kX12_voice_3 21 rfl
theorem dX12_voice_230 : decode cX12_voice 230 = .ok (.iadd, 1) := mm_dk kX12_voice_3 22 rfl
theorem dX12_voice_231 : decode cX12_voice 231 = .ok (.invokevirtual 346, 3) := mm_dk kX12_voice_3 23 rfl
theorem dX12_voice_234 : decode cX12_voice 234 = .ok (.aload_n 0, 1) := mm_dk kX12_voice_3 24 rfl
theorem dX12_voice_235 : decode cX12_voice 235 = .ok (.iload_n 1, 1) := mm_dk kX12_voice_3 25 rfl
theorem dX12_voice_236 : decode cX12_voice 236 = .ok (.iload 4, 2) := mm_dk kX12_voice_3 26 rfl
theorem dX12_voice_238 : decode cX12_voice 238 = .ok (.iload_n 3, 1) := mm_dk kX12_voice_3 27 rfl
theorem dX12_voice_239 : decode cX12_voice 239 = .ok (.aload_n 0, 1) := mm_dk kX12_voice_3 28 rfl
theorem dX12_voice_240 : decode cX12_voice 240 = .ok (.getfield 74, 3) := mm_dk kX12_voice_3 29 rfl
theorem dX12_voice_243 : decode cX12_voice 243 = .ok (.iload 5, 2) := mm_dk kX12_voice_3 30 rfl
theorem dX12_voice_245 : decode cX12_voice 245 = .ok (.iaload, 1) := mm_dk kX12_voice_3 31 rfl
theorem dX12_voice_246 : decode cX12_voice 246 = .ok (.aload_n 0, 1) := mm_dk kX12_voice_3 32 rfl
theorem dX12_voice_247 : decode cX12_voice 247 = .ok (.getfield 74, 3) := mm_dk kX12_voice_3 33 rfl
theorem dX12_voice_250 : decode cX12_voice 250 = .ok (.iload 5, 2) := mm_dk kX12_voice_3 34 rfl
theorem dX12_voice_252 : decode cX12_voice 252 = .ok (.iconst 1, 1) := mm_dk kX12_voice_3 35 rfl
theorem dX12_voice_253 : decode cX12_voice 253 = .ok (.iadd, 1) := mm_dk kX12_voice_3 36 rfl
theorem dX12_voice_254 : decode cX12_voice 254 = .ok (.iaload, 1) := mm_dk kX12_voice_3 37 rfl
theorem dX12_voice_255 : decode cX12_voice 255 = .ok (.aload_n 0, 1) := mm_dk kX12_voice_3 38 rfl
theorem dX12_voice_256 : decode cX12_voice 256 = .ok (.getfield 29, 3) := mm_dk kX12_voice_3 39 rfl
set_option maxRecDepth 100000 in
theorem kX12_voice_4 : ([(259, .iconst 2, 1), (260, .iload_n 1, 1), (261, .imul, 1), (262, .iconst 1, 1), (263, .iadd, 1), (264, .iaload, 1), (265, .iconst 1, 1), (266, .if_icmp .ne 7, 3), (269, .iconst 1, 1), (270, .goto 4, 3), (273, .iconst 0, 1), (274, .invokevirtual 382, 3), (277, .aload_n 0, 1), (278, .getfield 74, 3), (281, .iload 5, 2), (283, .iconst 2, 1), (284, .iadd, 1), (285, .aload_n 0, 1), (286, .getfield 320, 3), (289, .iastore, 1), (290, .aload_n 0, 1), (291, .getfield 74, 3), (294, .iload 5, 2), (296, .iconst 3, 1), (297, .iadd, 1), (298, .aload_n 0, 1), (299, .getfield 323, 3), (302, .iastore, 1), (303, .aload_n 0, 1), (304, .getfield 74, 3), (307, .iload 5, 2), (309, .iconst 4, 1), (310, .iadd, 1), (311, .aload_n 0, 1), (312, .getfield 326, 3), (315, .iastore, 1), (316, .aload_n 0, 1), (317, .getfield 74, 3), (320, .iload 5, 2), (322, .iconst 5, 1)] : List (Nat × Instr × Nat)).all (fun x => decide (decode cX12_voice x.1 = .ok x.2)) = true := by decide +kernel
theorem dX12_voice_259 : decode cX12_voice 259 = .ok (.iconst 2, 1) := mm_dk kX12_voice_4 0 rfl
theorem dX12_voice_260 : decode cX12_voice 260 = .ok (.iload_n 1, 1) := mm_dk kX12_voice_4 1 rfl
theorem dX12_voice_261 : decode cX12_voice 261 = .ok (.imul, 1) := mm_dk kX12_voice_4 2 rfl
theorem dX12_voice_262 : decode cX12_voice 262 = .ok (.iconst 1, 1) := mm_dk kX12_voice_4 3 rfl
theorem dX12_voice_263 : decode cX12_voice 263 = .ok (.iadd, 1) := mm_dk kX12_voice_4 4 rfl
theorem dX12_voice_264 : decode cX12_voice 264 = .ok (.iaload, 1) := mm_dk kX12_voice_4 5 rfl
theorem dX12_voice_265 : decode cX12_voice 265 = .ok (.iconst 1, 1) := mm_dk kX12_voice_4 6 rfl
theorem dX12_voice_266 : decode cX12_voice 266 = .ok (.if_icmp .ne 7, 3) := mm_dk kX12_voice_4 7 rfl
theorem dX12_voice_269 : decode cX12_voice 269 = .ok (.iconst 1, 1) := mm_dk kX12_voice_4 8 rfl
theorem dX12_voice_270 : decode cX12_voice 270 = .ok (.goto 4, 3) := mm_dk kX12_voice_4 9 rfl
theorem dX12_voice_273 : decode cX12_voice 273 = .ok (.iconst 0, 1) := mm_dk kX12_voice_4 10 rfl
theorem dX12_voice_274 : decode cX12_voice 274 = .ok (.invokevirtual 382, 3) := mm_dk kX12_voice_4 11 rfl
theorem dX12_voice_277 : decode cX12_voice 277 = .ok (.aload_n 0, 1) := mm_dk kX12_voice_4 12 rfl
theorem dX12_voice_278 : decode cX12_voice 278 = .ok (.getfield 74, 3) := mm_dk kX12_voice_4 13 rfl
theorem dX12_voice_281 : decode cX12_voice 281 = .ok (.iload 5, 2) := mm_dk kX12_voice_4 14 rfl
theorem dX12_voice_283 : decode cX12_voice 283 = .ok (.iconst 2, 1) := mm_dk kX12_voice_4 15 rfl
theorem dX12_voice_284 : decode cX12_voice 284 = .ok (.iadd, 1) := mm_dk kX12_voice_4 16 rfl
theorem dX12_voice_285 : decode cX12_voice 285 = .ok (.aload_n 0, 1) := mm_dk kX12_voice_4 17 rfl
theorem dX12_voice_286 : decode cX12_voice 286 = .ok (.getfield 320, 3) := mm_dk kX12_voice_4 18 rfl
theorem dX12_voice_289 : decode cX12_voice 289 = .ok (.iastore, 1) := mm_dk kX12_voice_4 19 rfl
theorem dX12_voice_290 : decode cX12_voice 290 = .ok (.aload_n 0, 1) := mm_dk kX12_voice_4 20 rfl
theorem dX12_voice_291 : decode cX12_voice 291 = .ok (.getfield 74, 3) := mm_dk kX12_voice_4 21 rfl
theorem dX12_voice_294 : decode cX12_voice 294 = .ok (.iload 5, 2) := mm_dk kX12_voice_4 22 rfl
theorem dX12_voice_296 : decode cX12_voice 296 = .ok (.iconst 3, 1) := mm_dk kX12_voice_4 23 rfl
theorem dX12_voice_297 : decode cX12_voice 297 = .ok (.iadd, 1) := mm_dk kX12_voice_4 24 rfl
theorem dX12_voice_298 : decode cX12_voice 298 = .ok (.aload_n 0, 1) := mm_dk kX12_voice_4 25 rfl
theorem dX12_voice_299 : decode cX12_voice 299 = .ok (.getfield 323, 3) := mm_dk kX12_voice_4 26 rfl
theorem dX12_voice_302 : decode cX12_voice 302 = .ok (.iastore, 1) := mm_dk kX12_voice_4 27 rfl
theorem dX12_voice_303 : decode cX12_voice 303 = .ok (.aload_n 0, 1) := mm_dk kX12_voice_4 28 rfl
theorem dX12_voice_304 : decode cX12_voice 304 = .ok (.getfield 74, 3) := mm_dk kX12_voice_4 29 rfl
theorem dX12_voice_307 : decode cX12_voice 307 = .ok (.iload 5, 2) := mm_dk kX12_voice_4 30 rfl
theorem dX12_voice_309 : decode cX12_voice 309 = .ok (.iconst 4, 1) := mm_dk kX12_voice_4 31 rfl
theorem dX12_voice_310 : decode cX12_voice 310 = .ok (.iadd, 1) := mm_dk kX12_voice_4 32 rfl
theorem dX12_voice_311 : decode cX12_voice 311 = .ok (.aload_n 0, 1) := mm_dk kX12_voice_4 33 rfl
theorem dX12_voice_312 : decode cX12_voice 312 = .ok (.getfield 326, 3) := mm_dk kX12_voice_4 34 rfl
theorem dX12_voice_315 : decode cX12_voice 315 = .ok (.iastore, 1) := mm_dk kX12_voice_4 35 rfl
theorem dX12_voice_316 : decode cX12_voice 316 = .ok (.aload_n 0, 1) := mm_dk kX12_voice_4 36 rfl
theorem dX12_voice_317 : decode cX12_voice 317 = .ok (.getfield 74, 3) := mm_dk kX12_voice_4 37 rfl
theorem dX12_voice_320 : decode cX12_voice 320 = .ok (.iload 5, 2) := mm_dk kX12_voice_4 38 rfl
theorem dX12_voice_322 : decode cX12_voice 322 = .ok (.iconst 5, 1) := mm_dk kX12_voice_4 39 rfl
set_option maxRecDepth 100000 in
theorem kX12_voice_5 : ([(323, .iadd, 1), (324, .aload_n 0, 1), (325, .getfield 329, 3), (328, .iastore, 1), (329, .aload_n 0, 1), (330, .getfield 74, 3), (333, .iload 5, 2), (335, .bipush 6, 2), (337, .iadd, 1), (338, .aload_n 0, 1), (339, .getfield 301, 3), (342, .iastore, 1), (343, .aload_n 0, 1), (344, .getfield 81, 3), (347, .iconst 4, 1), (348, .iload_n 1, 1), (349, .imul, 1), (350, .iload 4, 2), (352, .iadd, 1), (353, .aload_n 0, 1), (354, .getfield 278, 3), (357, .lastore, 1), (358, .aload_n 0, 1), (359, .bipush 14, 2), (361, .invokevirtual 346, 3), (364, .aload_n 0, 1), (365, .iconst 2, 1), (366, .iload_n 1, 1), (367, .imul, 1), (368, .iload_n 3, 1), (369, .iload 4, 2), (371, .imul, 1), (372, .iload_n 3, 1), (373, .aload_n 0, 1), (374, .getfield 74, 3), (377, .iload 5, 2), (379, .iaload, 1), (380, .aload_n 0, 1), (381, .getfield 74, 3), (384, .iload 5, 2)] : List (Nat × Instr × Nat)).all (fun x => decide (decode cX12_voice x.1 = .ok x.2)) = true := by decide +kernel
theorem dX12_voice_323 : decode cX12_voice 323 = .ok (.iadd, 1) := mm_dk kX12_voice_5 0 rfl
theorem dX12_voice_324 : decode cX12_voice 324 = .ok (.aload_n 0, 1) := mm_dk kX12_voice_5 1 rfl
theorem dX12_voice_325 : decode cX12_voice 325 = .ok (.getfield 329, 3) := mm_dk kX12_voice_5 2 rfl
theorem dX12_voice_328 : decode cX12_voice 328 = .ok (.iastore, 1) := mm_dk kX12_voice_5 3 rfl
theorem dX12_voice_329 : decode cX12_voice 329 = .ok (.aload_n 0, 1) := mm_dk kX12_voice_5 4 rfl
theorem dX12_voice_330 : decode cX12_voice 330 = .ok (.getfield 74, 3) := mm_dk kX12_voice_5 5 rfl
theorem dX12_voice_333 : decode cX12_voice 333 = .ok (.iload 5, 2) := mm_dk kX12_voice_5 6 rfl
theorem dX12_voice_335 : decode cX12_voice 335 = .ok (.bipush 6, 2) := mm_dk kX12_voice_5 7 rfl
theorem dX12_voice_337 : decode cX12_voice 337 = .ok (.iadd, 1) := mm_dk kX12_voice_5 8 rfl
theorem dX12_voice_338 : decode cX12_voice 338 = .ok (.aload_n 0, 1) := mm_dk kX12_voice_5 9 rfl
theorem dX12_voice_339 : decode cX12_voice 339 = .ok (.getfield 301, 3) := mm_dk kX12_voice_5 10 rfl
theorem dX12_voice_342 : decode cX12_voice 342 = .ok (.iastore, 1) := mm_dk kX12_voice_5 11 rfl
theorem dX12_voice_343 : decode cX12_voice 343 = .ok (.aload_n 0, 1) := mm_dk kX12_voice_5 12 rfl
theorem dX12_voice_344 : decode cX12_voice 344 = .ok (.getfield 81, 3) := mm_dk kX12_voice_5 13 rfl
theorem dX12_voice_347 : decode cX12_voice 347 = .ok (.iconst 4, 1) := mm_dk kX12_voice_5 14 rfl
theorem dX12_voice_348 : decode cX12_voice 348 = .ok (.iload_n 1, 1) := mm_dk kX12_voice_5 15 rfl
theorem dX12_voice_349 : decode cX12_voice 349 = .ok (.imul, 1) := mm_dk kX12_voice_5 16 rfl
theorem dX12_voice_350 : decode cX12_voice 350 = .ok (.iload 4, 2) := mm_dk kX12_voice_5 17 rfl
theorem dX12_voice_352 : decode cX12_voice 352 = .ok (.iadd, 1) := mm_dk kX12_voice_5 18 rfl
theorem dX12_voice_353 : decode cX12_voice 353 = .ok (.aload_n 0, 1) := mm_dk kX12_voice_5 19 rfl
theorem dX12_voice_354 : decode cX12_voice 354 = .ok (.getfield 278, 3) := mm_dk kX12_voice_5 20 rfl
theorem dX12_voice_357 : decode cX12_voice 357 = .ok (.lastore, 1) := mm_dk kX12_voice_5 21 rfl
theorem dX12_voice_358 : decode cX12_voice 358 = .ok (.aload_n 0, 1) := mm_dk kX12_voice_5 22 rfl
theorem dX12_voice_359 : decode cX12_voice 359 = .ok (.bipush 14, 2) := mm_dk kX12_voice_5 23 rfl
theorem dX12_voice_361 : decode cX12_voice 361 = .ok (.invokevirtual 346, 3) := mm_dk kX12_voice_5 24 rfl
theorem dX12_voice_364 : decode cX12_voice 364 = .ok (.aload_n 0, 1) := mm_dk kX12_voice_5 25 rfl
theorem dX12_voice_365 : decode cX12_voice 365 = .ok (.iconst 2, 1) := mm_dk kX12_voice_5 26 rfl
theorem dX12_voice_366 : decode cX12_voice 366 = .ok (.iload_n 1, 1) := mm_dk kX12_voice_5 27 rfl
theorem dX12_voice_367 : decode cX12_voice 367 = .ok (.imul, 1) := mm_dk kX12_voice_5 28 rfl
theorem dX12_voice_368 : decode cX12_voice 368 = .ok (.iload_n 3, 1) := mm_dk kX12_voice_5 29 rfl
theorem dX12_voice_369 : decode cX12_voice 369 = .ok (.iload 4, 2) := mm_dk kX12_voice_5 30 rfl
theorem dX12_voice_371 : decode cX12_voice 371 = .ok (.imul, 1) := mm_dk kX12_voice_5 31 rfl
theorem dX12_voice_372 : decode cX12_voice 372 = .ok (.iload_n 3, 1) := mm_dk kX12_voice_5 32 rfl
theorem dX12_voice_373 : decode cX12_voice 373 = .ok (.aload_n 0, 1) := mm_dk kX12_voice_5 33 rfl
theorem dX12_voice_374 : decode cX12_voice 374 = .ok (.getfield 74, 3) := mm_dk kX12_voice_5 34 rfl
theorem dX12_voice_377 : decode cX12_voice 377 = .ok (.iload 5, 2) := mm_dk kX12_voice_5 35 rfl
theorem dX12_voice_379 : decode cX12_voice 379 = .ok (.iaload, 1) := mm_dk kX12_voice_5 36 rfl
theorem dX12_voice_380 : decode cX12_voice 380 = .ok (.aload_n 0, 1) := mm_dk kX12_voice_5 37 rfl
theorem dX12_voice_381 : decode cX12_voice 381 = .ok (.getfield 74, 3) := mm_dk kX12_voice_5 38 rfl
theorem dX12_voice_384 : decode cX12_voice 384 = .ok (.iload 5, 2) := mm_dk kX12_voice_5 39 rfl
set_option maxRecDepth 100000 in
theorem kX12_voice_6 : ([(386, .iconst 1, 1), (387, .iadd, 1), (388, .iaload, 1), (389, .aload_n 0, 1), (390, .getfield 320, 3), (393, .aload_n 0, 1), (394, .getfield 323, 3), (397, .aload_n 0, 1), (398, .getfield 326, 3), (401, .aload_n 0, 1), (402, .getfield 329, 3), (405, .aload_n 0, 1), (406, .getfield 301, 3), (409, .invokevirtual 386, 3), (412, .iinc 4 1, 3), (415, .goto (-343), 3), (418, .aload_n 0, 1), (419, .getfield 62, 3), (422, .iconst 2, 1), (423, .iload_n 1, 1), (424, .imul, 1), (425, .aload_n 0, 1), (426, .getfield 74, 3), (429, .bipush 28, 2), (431, .iload_n 1, 1), (432, .imul, 1), (433, .bipush 21, 2), (435, .iadd, 1), (436, .iaload, 1), (437, .iastore, 1), (438, .return_, 1)] : List (Nat × Instr × Nat)).all (fun x => decide (decode cX12_voice x.1 = .ok x.2)) = true := by decide +kernel
theorem dX12_voice_386 : decode cX12_voice 386 = .ok (.iconst 1, 1) := mm_dk kX12_voice_6 0 rfl
theorem dX12_voice_387 : decode cX12_voice 387 = .ok (.iadd, 1) := mm_dk kX12_voice_6 1 rfl
theorem dX12_voice_388 : decode cX12_voice 388 = .ok (.iaload, 1) := mm_dk kX12_voice_6 2 rfl
theorem dX12_voice_389 : decode cX12_voice 389 = .ok (.aload_n 0, 1) := mm_dk kX12_voice_6 3 rfl
theorem dX12_voice_390 : decode cX12_voice 390 = .ok (.getfield 320, 3) := mm_dk kX12_voice_6 4 rfl
theorem dX12_voice_393 : decode cX12_voice 393 = .ok (.aload_n 0, 1) := mm_dk kX12_voice_6 5 rfl
theorem dX12_voice_394 : decode cX12_voice 394 = .ok (.getfield 323, 3) := mm_dk kX12_voice_6 6 rfl
theorem dX12_voice_397 : decode cX12_voice 397 = .ok (.aload_n 0, 1) := mm_dk kX12_voice_6 7 rfl
theorem dX12_voice_398 : decode cX12_voice 398 = .ok (.getfield 326, 3) := mm_dk kX12_voice_6 8 rfl
theorem dX12_voice_401 : decode cX12_voice 401 = .ok (.aload_n 0, 1) := mm_dk kX12_voice_6 9 rfl
theorem dX12_voice_402 : decode cX12_voice 402 = .ok (.getfield 329, 3) := mm_dk kX12_voice_6 10 rfl
theorem dX12_voice_405 : decode cX12_voice 405 = .ok (.aload_n 0, 1) := mm_dk kX12_voice_6 11 rfl
theorem dX12_voice_406 : decode cX12_voice 406 = .ok (.getfield 301, 3) := mm_dk kX12_voice_6 12 rfl
theorem dX12_voice_409 : decode cX12_voice 409 = .ok (.invokevirtual 386, 3) := mm_dk kX12_voice_6 13 rfl
theorem dX12_voice_412 : decode cX12_voice 412 = .ok (.iinc 4 1, 3) := mm_dk kX12_voice_6 14 rfl
theorem dX12_voice_415 : decode cX12_voice 415 = .ok (.goto (-343), 3) := mm_dk kX12_voice_6 15 rfl
theorem dX12_voice_418 : decode cX12_voice 418 = .ok (.aload_n 0, 1) := mm_dk kX12_voice_6 16 rfl
theorem dX12_voice_419 : decode cX12_voice 419 = .ok (.getfield 62, 3) := mm_dk kX12_voice_6 17 rfl
theorem dX12_voice_422 : decode cX12_voice 422 = .ok (.iconst 2, 1) := mm_dk kX12_voice_6 18 rfl
theorem dX12_voice_423 : decode cX12_voice 423 = .ok (.iload_n 1, 1) := mm_dk kX12_voice_6 19 rfl
theorem dX12_voice_424 : decode cX12_voice 424 = .ok (.imul, 1) := mm_dk kX12_voice_6 20 rfl
theorem dX12_voice_425 : decode cX12_voice 425 = .ok (.aload_n 0, 1) := mm_dk kX12_voice_6 21 rfl
theorem dX12_voice_426 : decode cX12_voice 426 = .ok (.getfield 74, 3) := mm_dk kX12_voice_6 22 rfl
theorem dX12_voice_429 : decode cX12_voice 429 = .ok (.bipush 28, 2) := mm_dk kX12_voice_6 23 rfl
theorem dX12_voice_431 : decode cX12_voice 431 = .ok (.iload_n 1, 1) := mm_dk kX12_voice_6 24 rfl
theorem dX12_voice_432 : decode cX12_voice 432 = .ok (.imul, 1) := mm_dk kX12_voice_6 25 rfl
theorem dX12_voice_433 : decode cX12_voice 433 = .ok (.bipush 21, 2) := mm_dk kX12_voice_6 26 rfl
theorem dX12_voice_435 : decode cX12_voice 435 = .ok (.iadd, 1) := mm_dk kX12_voice_6 27 rfl
theorem dX12_voice_436 : decode cX12_voice 436 = .ok (.iaload, 1) := mm_dk kX12_voice_6 28 rfl
theorem dX12_voice_437 : decode cX12_voice 437 = .ok (.iastore, 1) := mm_dk kX12_voice_6 29 rfl
theorem dX12_voice_438 : decode cX12_voice 438 = .ok (.return_, 1) := mm_dk kX12_voice_6 30 rfl
set_option maxRecDepth 100000 in
theorem kX12_pick_0 : ([(0, .aload_n 0, 1), (1, .iload_n 1, 1), (2, .invokevirtual 238, 3), (5, .ifCond .eq 22, 3), (8, .iload_n 2, 1), (9, .iconst 0, 1), (10, .iconst 3, 1), (11, .invokestatic 227, 3), (14, .ifCond .eq 13, 3), (17, .iload_n 3, 1), (18, .iconst 0, 1), (19, .bipush 6, 2), (21, .invokestatic 227, 3), (24, .ifCond .ne 9, 3), (27, .aload_n 0, 1), (28, .iconst (-1), 1), (29, .invokevirtual 231, 3), (32, .ireturn, 1), (33, .aload_n 0, 1), (34, .getfield 68, 3), (37, .iload_n 1, 1), (38, .iaload, 1), (39, .iconst 1, 1), (40, .if_icmp .eq 12, 3), (43, .aload_n 0, 1), (44, .bipush (-2), 2), (46, .invokevirtual 231, 3), (49, .goto 23, 3), (52, .aload_n 0, 1), (53, .aload_n 0, 1), (54, .getfield 74, 3), (57, .bipush 28, 2), (59, .iload_n 1, 1), (60, .imul, 1), (61, .bipush 7, 2), (63, .iload_n 2, 1), (64, .imul, 1), (65, .iadd, 1), (66, .iload_n 3, 1), (67, .iadd, 1)] : List (Nat × Instr × Nat)).all (fun x => decide (decode cX12_pick x.1 = .ok x.2)) = true := by decide +kernel
theorem dX12_pick_0 : decode cX12_pick 0 = .ok (.aload_n 0, 1) := mm_dk kX12_pick_0 0 rfl
theorem dX12_pick_1 : decode cX12_pick 1 = .ok (.iload_n 1, 1) := mm_dk kX12_pick_0 1 rfl
theorem dX12_pick_2 : decode cX12_pick 2 = .ok (.invokevirtual 238, 3) := mm_dk kX12_pick_0 2 rfl
theorem dX12_pick_5 : decode cX12_pick 5 = .ok (.ifCond .eq 22, 3) := mm_dk kX12_pick_0 3 rfl
theorem dX12_pick_8 : decode cX12_pick 8 = .ok (.iload_n 2, 1) := mm_dk kX12_pick_0 4 rfl
theorem dX12_pick_9 : decode cX12_pick 9 = .ok (.iconst 0, 1) := mm_dk kX12_pick_0 5 rfl
theorem dX12_pick_10 : decode cX12_pick 10 = .ok (.iconst 3, 1) := mm_dk kX12_pick_0 6 rfl
theorem dX12_pick_11 : decode cX12_pick 11 = .ok (.invokestatic 227, 3) := mm_dk kX12_pick_0 7 rfl
theorem dX12_pick_14 : decode cX12_pick 14 = .ok (.ifCond .eq 13, 3) := mm_dk kX12_pick_0 8 rfl
theorem dX12_pick_17 : decode cX12_pick 17 = .ok (.iload_n 3, 1) := mm_dk kX12_pick_0 9 rfl
theorem dX12_pick_18 : decode cX12_pick 18 = .ok (.iconst 0, 1) := mm_dk kX12_pick_0 10 rfl
theorem dX12_pick_19 : decode cX12_pick 19 = .ok (.bipush 6, 2) := mm_dk kX12_pick_0 11 rfl
theorem dX12_pick_21 : decode cX12_pick 21 = .ok (.invokestatic 227, 3) := mm_dk kX12_pick_0 12 rfl
theorem dX12_pick_24 : decode cX12_pick 24 = .ok (.ifCond .ne 9, 3) := mm_dk kX12_pick_0 13 rfl
theorem dX12_pick_27 : decode cX12_pick 27 = .ok (.aload_n 0, 1) := mm_dk kX12_pick_0 14 rfl
theorem dX12_pick_28 : decode cX12_pick 28 = .ok (.iconst (-1), 1) := mm_dk kX12_pick_0 15 rfl
theorem dX12_pick_29 : decode cX12_pick 29 = .ok (.invokevirtual 231, 3) := mm_dk kX12_pick_0 16 rfl
theorem dX12_pick_32 : decode cX12_pick 32 = .ok (.ireturn, 1) := mm_dk kX12_pick_0 17 rfl
theorem dX12_pick_33 : decode cX12_pick 33 = .ok (.aload_n 0, 1) := mm_dk kX12_pick_0 18 rfl
theorem dX12_pick_34 : decode cX12_pick 34 = .ok (.getfield 68, 3) := mm_dk kX12_pick_0 19 rfl
theorem dX12_pick_37 : decode cX12_pick 37 = .ok (.iload_n 1, 1) := mm_dk kX12_pick_0 20 rfl
theorem dX12_pick_38 : decode cX12_pick 38 = .ok (.iaload, 1) := mm_dk kX12_pick_0 21 rfl
theorem dX12_pick_39 : decode cX12_pick 39 = .ok (.iconst 1, 1) := mm_dk kX12_pick_0 22 rfl
theorem dX12_pick_40 : decode cX12_pick 40 = .ok (.if_icmp .eq 12, 3) := mm_dk kX12_pick_0 23 rfl
theorem dX12_pick_43 : decode cX12_pick 43 = .ok (.aload_n 0, 1) := mm_dk kX12_pick_0 24 rfl
theorem dX12_pick_44 : decode cX12_pick 44 = .ok (.bipush (-2), 2) := mm_dk kX12_pick_0 25 rfl
theorem dX12_pick_46 : decode cX12_pick 46 = .ok (.invokevirtual 231, 3) := mm_dk kX12_pick_0 26 rfl
theorem dX12_pick_49 : decode cX12_pick 49 = .ok (.goto 23, 3) := mm_dk kX12_pick_0 27 rfl
theorem dX12_pick_52 : decode cX12_pick 52 = .ok (.aload_n 0, 1) := mm_dk kX12_pick_0 28 rfl
theorem dX12_pick_53 : decode cX12_pick 53 = .ok (.aload_n 0, 1) := mm_dk kX12_pick_0 29 rfl
theorem dX12_pick_54 : decode cX12_pick 54 = .ok (.getfield 74, 3) := mm_dk kX12_pick_0 30 rfl
theorem dX12_pick_57 : decode cX12_pick 57 = .ok (.bipush 28, 2) := mm_dk kX12_pick_0 31 rfl
theorem dX12_pick_59 : decode cX12_pick 59 = .ok (.iload_n 1, 1) := mm_dk kX12_pick_0 32 rfl
theorem dX12_pick_60 : decode cX12_pick 60 = .ok (.imul, 1) := mm_dk kX12_pick_0 33 rfl
theorem dX12_pick_61 : decode cX12_pick 61 = .ok (.bipush 7, 2) := mm_dk kX12_pick_0 34 rfl
theorem dX12_pick_63 : decode cX12_pick 63 = .ok (.iload_n 2, 1) := mm_dk kX12_pick_0 35 rfl
theorem dX12_pick_64 : decode cX12_pick 64 = .ok (.imul, 1) := mm_dk kX12_pick_0 36 rfl
theorem dX12_pick_65 : decode cX12_pick 65 = .ok (.iadd, 1) := mm_dk kX12_pick_0 37 rfl
theorem dX12_pick_66 : decode cX12_pick 66 = .ok (.iload_n 3, 1) := mm_dk kX12_pick_0 38 rfl
theorem dX12_pick_67 : decode cX12_pick 67 = .ok (.iadd, 1) := mm_dk kX12_pick_0 39 rfl
set_option maxRecDepth 100000 in
theorem kX12_pick_1 : ([(68, .iaload, 1), (69, .invokevirtual 235, 3), (72, .ireturn, 1)] : List (Nat × Instr × Nat)).all (fun x => decide (decode cX12_pick x.1 = .ok x.2)) = true := by decide +kernel
theorem dX12_pick_68 : decode cX12_pick 68 = .ok (.iaload, 1) := mm_dk kX12_pick_1 0 rfl
theorem dX12_pick_69 : decode cX12_pick 69 = .ok (.invokevirtual 235, 3) := mm_dk kX12_pick_1 1 rfl
theorem dX12_pick_72 : decode cX12_pick 72 = .ok (.ireturn, 1) := mm_dk kX12_pick_1 2 rfl
set_option maxRecDepth 100000 in
theorem kX12_index_0 : ([(0, .aload_n 0, 1), (1, .iload_n 1, 1), (2, .invokevirtual 238, 3), (5, .ifCond .eq 13, 3), (8, .iload_n 2, 1), (9, .iconst 1, 1), (10, .bipush 8, 2), (12, .invokestatic 227, 3), (15, .ifCond .ne 9, 3), (18, .aload_n 0, 1), (19, .iconst (-1), 1), (20, .invokevirtual 390, 3), (23, .ireturn, 1), (24, .aload_n 0, 1), (25, .getfield 68, 3), (28, .iload_n 1, 1), (29, .iaload, 1), (30, .iconst 1, 1), (31, .if_icmp .eq 12, 3), (34, .aload_n 0, 1), (35, .bipush (-2), 2), (37, .invokevirtual 390, 3), (40, .goto 20, 3), (43, .aload_n 0, 1), (44, .aload_n 0, 1), (45, .getfield 71, 3), (48, .bipush 8, 2), (50, .iload_n 1, 1), (51, .imul, 1), (52, .iload_n 2, 1), (53, .iadd, 1), (54, .iconst 1, 1), (55, .isub, 1), (56, .iaload, 1), (57, .invokevirtual 235, 3), (60, .ireturn, 1)] : List (Nat × Instr × Nat)).all (fun x => decide (decode cX12_index x.1 = .ok x.2)) = true := by decide +kernel
theorem dX12_index_0 : decode cX12_index 0 = .ok (.aload_n 0, 1) := mm_dk kX12_index_0 0 rfl
theorem dX12_index_1 : decode cX12_index 1 = .ok (.iload_n 1, 1) := mm_dk kX12_index_0 1 rfl
theorem dX12_index_2 : decode cX12_index 2 = .ok (.invokevirtual 238, 3) := mm_dk kX12_index_0 2 rfl
theorem dX12_index_5 : decode cX12_index 5 = .ok (.ifCond .eq 13, 3) := mm_dk kX12_index_0 3 rfl
theorem dX12_index_8 : decode cX12_index 8 = .ok (.iload_n 2, 1) := mm_dk kX12_index_0 4 rfl
theorem dX12_index_9 : decode cX12_index 9 = .ok (.iconst 1, 1) := mm_dk kX12_index_0 5 rfl
theorem dX12_index_10 : decode cX12_index 10 = .ok (.bipush 8, 2) := mm_dk kX12_index_0 6 rfl
theorem dX12_index_12 : decode cX12_index 12 = .ok (.invokestatic 227, 3) := mm_dk kX12_index_0 7 rfl
theorem dX12_index_15 : decode cX12_index 15 = .ok (.ifCond .ne 9, 3) := mm_dk kX12_index_0 8 rfl
theorem dX12_index_18 : decode cX12_index 18 = .ok (.aload_n 0, 1) := mm_dk kX12_index_0 9 rfl
theorem dX12_index_19 : decode cX12_index 19 = .ok (.iconst (-1), 1) := mm_dk kX12_index_0 10 rfl
theorem dX12_index_20 : decode cX12_index 20 = .ok (.invokevirtual 390, 3) := mm_dk kX12_index_0 11 rfl
theorem dX12_index_23 : decode cX12_index 23 = .ok (.ireturn, 1) := mm_dk kX12_index_0 12 rfl
theorem dX12_index_24 : decode cX12_index 24 = .ok (.aload_n 0, 1) := mm_dk kX12_index_0 13 rfl
theorem dX12_index_25 : decode cX12_index 25 = .ok (.getfield 68, 3) := mm_dk kX12_index_0 14 rfl
theorem dX12_index_28 : decode cX12_index 28 = .ok (.iload_n 1, 1) := mm_dk kX12_index_0 15 rfl
theorem dX12_index_29 : decode cX12_index 29 = .ok (.iaload, 1) := mm_dk kX12_index_0 16 rfl
theorem dX12_index_30 : decode cX12_index 30 = .ok (.iconst 1, 1) := mm_dk kX12_index_0 17 rfl
theorem dX12_index_31 : decode cX12_index 31 = .ok (.if_icmp .eq 12, 3) := mm_dk kX12_index_0 18 rfl
theorem dX12_index_34 : decode cX12_index 34 = .ok (.aload_n 0, 1) := mm_dk kX12_index_0 19 rfl
theorem dX12_index_35 : decode cX12_index 35 = .ok (.bipush (-2), 2) := mm_dk kX12_index_0 20 rfl
theorem dX12_index_37 : decode cX12_index 37 = .ok (.invokevirtual 390, 3) := mm_dk kX12_index_0 21 rfl
theorem dX12_index_40 : decode cX12_index 40 = .ok (.goto 20, 3) := mm_dk kX12_index_0 22 rfl
theorem dX12_index_43 : decode cX12_index 43 = .ok (.aload_n 0, 1) := mm_dk kX12_index_0 23 rfl
theorem dX12_index_44 : decode cX12_index 44 = .ok (.aload_n 0, 1) := mm_dk kX12_index_0 24 rfl
theorem dX12_index_45 : decode cX12_index 45 = .ok (.getfield 71, 3) := mm_dk kX12_index_0 25 rfl
theorem dX12_index_48 : decode cX12_index 48 = .ok (.bipush 8, 2) := mm_dk kX12_index_0 26 rfl
theorem dX12_index_50 : decode cX12_index 50 = .ok (.iload_n 1, 1) := mm_dk kX12_index_0 27 rfl
theorem dX12_index_51 : decode cX12_index 51 = .ok (.imul, 1) := mm_dk kX12_index_0 28 rfl
theorem dX12_index_52 : decode cX12_index 52 = .ok (.iload_n 2, 1) := mm_dk kX12_index_0 29 rfl
theorem dX12_index_53 : decode cX12_index 53 = .ok (.iadd, 1) := mm_dk kX12_index_0 30 rfl
theorem dX12_index_54 : decode cX12_index 54 = .ok (.iconst 1, 1) := mm_dk kX12_index_0 31 rfl
theorem dX12_index_55 : decode cX12_index 55 = .ok (.isub, 1) := mm_dk kX12_index_0 32 rfl
theorem dX12_index_56 : decode cX12_index 56 = .ok (.iaload, 1) := mm_dk kX12_index_0 33 rfl
theorem dX12_index_57 : decode cX12_index 57 = .ok (.invokevirtual 235, 3) := mm_dk kX12_index_0 34 rfl
theorem dX12_index_60 : decode cX12_index 60 = .ok (.ireturn, 1) := mm_dk kX12_index_0 35 rfl
set_option maxRecDepth 100000 in
theorem kX12_cost_0 : ([(0, .aload_n 0, 1), (1, .iload_n 1, 1), (2, .invokevirtual 238, 3), (5, .ifCond .eq 21, 3), (8, .iload_n 2, 1), (9, .iconst 0, 1), (10, .iconst 3, 1), (11, .invokestatic 227, 3), (14, .ifCond .eq 12, 3), (17, .iload_n 3, 1), (18, .iconst 0, 1), (19, .iconst 1, 1), (20, .invokestatic 227, 3), (23, .ifCond .ne 12, 3), (26, .aload_n 0, 1), (27, .iconst (-1), 1), (28, .putfield 202, 3), (31, .ldc2_w 393, 3), (34, .lreturn, 1), (35, .aload_n 0, 1), (36, .getfield 68, 3), (39, .iload_n 1, 1), (40, .iaload, 1), (41, .iconst 1, 1), (42, .if_icmp .eq 13, 3), (45, .aload_n 0, 1), (46, .bipush (-2), 2), (48, .putfield 202, 3), (51, .ldc2_w 393, 3), (54, .lreturn, 1), (55, .aload_n 0, 1), (56, .iconst 0, 1), (57, .putfield 202, 3), (60, .iload 4, 2), (62, .ifCond .ne 31, 3), (65, .iload_n 3, 1), (66, .ifCond .ne 16, 3), (69, .aload_n 0, 1), (70, .getfield 77, 3), (73, .iconst 4, 1)] : List (Nat × Instr × Nat)).all (fun x => decide (decode cX12_cost x.1 = .ok x.2)) = true := by decide +kernel
theorem dX12_cost_0 : decode cX12_cost 0 = .ok (.aload_n 0, 1) := mm_dk kX12_cost_0 0 rfl
theorem dX12_cost_1 : decode cX12_cost 1 = .ok (.iload_n 1, 1) := mm_dk kX12_cost_0 1 rfl
theorem dX12_cost_2 : decode cX12_cost 2 = .ok (.invokevirtual 238, 3) := mm_dk kX12_cost_0 2 rfl
theorem dX12_cost_5 : decode cX12_cost 5 = .ok (.ifCond .eq 21, 3) := mm_dk kX12_cost_0 3 rfl
theorem dX12_cost_8 : decode cX12_cost 8 = .ok (.iload_n 2, 1) := mm_dk kX12_cost_0 4 rfl
theorem dX12_cost_9 : decode cX12_cost 9 = .ok (.iconst 0, 1) := mm_dk kX12_cost_0 5 rfl
theorem dX12_cost_10 : decode cX12_cost 10 = .ok (.iconst 3, 1) := mm_dk kX12_cost_0 6 rfl
theorem dX12_cost_11 : decode cX12_cost 11 = .ok (.invokestatic 227, 3) := mm_dk kX12_cost_0 7 rfl
theorem dX12_cost_14 : decode cX12_cost 14 = .ok (.ifCond .eq 12, 3) := mm_dk kX12_cost_0 8 rfl
theorem dX12_cost_17 : decode cX12_cost 17 = .ok (.iload_n 3, 1) := mm_dk kX12_cost_0 9 rfl
theorem dX12_cost_18 : decode cX12_cost 18 = .ok (.iconst 0, 1) := mm_dk kX12_cost_0 10 rfl
theorem dX12_cost_19 : decode cX12_cost 19 = .ok (.iconst 1, 1) := mm_dk kX12_cost_0 11 rfl
theorem dX12_cost_20 : decode cX12_cost 20 = .ok (.invokestatic 227, 3) := mm_dk kX12_cost_0 12 rfl
theorem dX12_cost_23 : decode cX12_cost 23 = .ok (.ifCond .ne 12, 3) := mm_dk kX12_cost_0 13 rfl
theorem dX12_cost_26 : decode cX12_cost 26 = .ok (.aload_n 0, 1) := mm_dk kX12_cost_0 14 rfl
theorem dX12_cost_27 : decode cX12_cost 27 = .ok (.iconst (-1), 1) := mm_dk kX12_cost_0 15 rfl
theorem dX12_cost_28 : decode cX12_cost 28 = .ok (.putfield 202, 3) := mm_dk kX12_cost_0 16 rfl
theorem dX12_cost_31 : decode cX12_cost 31 = .ok (.ldc2_w 393, 3) := mm_dk kX12_cost_0 17 rfl
theorem dX12_cost_34 : decode cX12_cost 34 = .ok (.lreturn, 1) := mm_dk kX12_cost_0 18 rfl
theorem dX12_cost_35 : decode cX12_cost 35 = .ok (.aload_n 0, 1) := mm_dk kX12_cost_0 19 rfl
theorem dX12_cost_36 : decode cX12_cost 36 = .ok (.getfield 68, 3) := mm_dk kX12_cost_0 20 rfl
theorem dX12_cost_39 : decode cX12_cost 39 = .ok (.iload_n 1, 1) := mm_dk kX12_cost_0 21 rfl
theorem dX12_cost_40 : decode cX12_cost 40 = .ok (.iaload, 1) := mm_dk kX12_cost_0 22 rfl
theorem dX12_cost_41 : decode cX12_cost 41 = .ok (.iconst 1, 1) := mm_dk kX12_cost_0 23 rfl
theorem dX12_cost_42 : decode cX12_cost 42 = .ok (.if_icmp .eq 13, 3) := mm_dk kX12_cost_0 24 rfl
theorem dX12_cost_45 : decode cX12_cost 45 = .ok (.aload_n 0, 1) := mm_dk kX12_cost_0 25 rfl
theorem dX12_cost_46 : decode cX12_cost 46 = .ok (.bipush (-2), 2) := mm_dk kX12_cost_0 26 rfl
theorem dX12_cost_48 : decode cX12_cost 48 = .ok (.putfield 202, 3) := mm_dk kX12_cost_0 27 rfl
theorem dX12_cost_51 : decode cX12_cost 51 = .ok (.ldc2_w 393, 3) := mm_dk kX12_cost_0 28 rfl
theorem dX12_cost_54 : decode cX12_cost 54 = .ok (.lreturn, 1) := mm_dk kX12_cost_0 29 rfl
theorem dX12_cost_55 : decode cX12_cost 55 = .ok (.aload_n 0, 1) := mm_dk kX12_cost_0 30 rfl
theorem dX12_cost_56 : decode cX12_cost 56 = .ok (.iconst 0, 1) := mm_dk kX12_cost_0 31 rfl
theorem dX12_cost_57 : decode cX12_cost 57 = .ok (.putfield 202, 3) := mm_dk kX12_cost_0 32 rfl
theorem dX12_cost_60 : decode cX12_cost 60 = .ok (.iload 4, 2) := mm_dk kX12_cost_0 33 rfl
theorem dX12_cost_62 : decode cX12_cost 62 = .ok (.ifCond .ne 31, 3) := mm_dk kX12_cost_0 34 rfl
theorem dX12_cost_65 : decode cX12_cost 65 = .ok (.iload_n 3, 1) := mm_dk kX12_cost_0 35 rfl
theorem dX12_cost_66 : decode cX12_cost 66 = .ok (.ifCond .ne 16, 3) := mm_dk kX12_cost_0 36 rfl
theorem dX12_cost_69 : decode cX12_cost 69 = .ok (.aload_n 0, 1) := mm_dk kX12_cost_0 37 rfl
theorem dX12_cost_70 : decode cX12_cost 70 = .ok (.getfield 77, 3) := mm_dk kX12_cost_0 38 rfl
theorem dX12_cost_73 : decode cX12_cost 73 = .ok (.iconst 4, 1) := mm_dk kX12_cost_0 39 rfl
set_option maxRecDepth 100000 in
theorem kX12_cost_1 : ([(74, .iload_n 1, 1), (75, .imul, 1), (76, .iload_n 2, 1), (77, .iadd, 1), (78, .laload, 1), (79, .goto 13, 3), (82, .aload_n 0, 1), (83, .getfield 81, 3), (86, .iconst 4, 1), (87, .iload_n 1, 1), (88, .imul, 1), (89, .iload_n 2, 1), (90, .iadd, 1), (91, .laload, 1), (92, .lreturn, 1), (93, .iload_n 3, 1), (94, .ifCond .ne 19, 3), (97, .aload_n 0, 1), (98, .iload_n 1, 1), (99, .iload_n 2, 1), (100, .aload_n 0, 1), (101, .getfield 84, 3), (104, .iload_n 1, 1), (105, .iaload, 1), (106, .iconst 1, 1), (107, .invokevirtual 378, 3), (110, .goto 46, 3), (113, .aload_n 0, 1), (114, .iload_n 1, 1), (115, .iload_n 2, 1), (116, .aload_n 0, 1), (117, .getfield 84, 3), (120, .iload_n 1, 1), (121, .iaload, 1), (122, .aload_n 0, 1), (123, .getfield 74, 3), (126, .bipush 28, 2), (128, .iload_n 1, 1), (129, .imul, 1), (130, .bipush 7, 2)] : List (Nat × Instr × Nat)).all (fun x => decide (decode cX12_cost x.1 = .ok x.2)) = true := by decide +kernel
theorem dX12_cost_74 : decode cX12_cost 74 = .ok (.iload_n 1, 1) := mm_dk kX12_cost_1 0 rfl
theorem dX12_cost_75 : decode cX12_cost 75 = .ok (.imul, 1) := mm_dk kX12_cost_1 1 rfl
theorem dX12_cost_76 : decode cX12_cost 76 = .ok (.iload_n 2, 1) := mm_dk kX12_cost_1 2 rfl
theorem dX12_cost_77 : decode cX12_cost 77 = .ok (.iadd, 1) := mm_dk kX12_cost_1 3 rfl
theorem dX12_cost_78 : decode cX12_cost 78 = .ok (.laload, 1) := mm_dk kX12_cost_1 4 rfl
theorem dX12_cost_79 : decode cX12_cost 79 = .ok (.goto 13, 3) := mm_dk kX12_cost_1 5 rfl
theorem dX12_cost_82 : decode cX12_cost 82 = .ok (.aload_n 0, 1) := mm_dk kX12_cost_1 6 rfl
theorem dX12_cost_83 : decode cX12_cost 83 = .ok (.getfield 81, 3) := mm_dk kX12_cost_1 7 rfl
theorem dX12_cost_86 : decode cX12_cost 86 = .ok (.iconst 4, 1) := mm_dk kX12_cost_1 8 rfl
theorem dX12_cost_87 : decode cX12_cost 87 = .ok (.iload_n 1, 1) := mm_dk kX12_cost_1 9 rfl
theorem dX12_cost_88 : decode cX12_cost 88 = .ok (.imul, 1) := mm_dk kX12_cost_1 10 rfl
theorem dX12_cost_89 : decode cX12_cost 89 = .ok (.iload_n 2, 1) := mm_dk kX12_cost_1 11 rfl
theorem dX12_cost_90 : decode cX12_cost 90 = .ok (.iadd, 1) := mm_dk kX12_cost_1 12 rfl
theorem dX12_cost_91 : decode cX12_cost 91 = .ok (.laload, 1) := mm_dk kX12_cost_1 13 rfl
theorem dX12_cost_92 : decode cX12_cost 92 = .ok (.lreturn, 1) := mm_dk kX12_cost_1 14 rfl
theorem dX12_cost_93 : decode cX12_cost 93 = .ok (.iload_n 3, 1) := mm_dk kX12_cost_1 15 rfl
theorem dX12_cost_94 : decode cX12_cost 94 = .ok (.ifCond .ne 19, 3) := mm_dk kX12_cost_1 16 rfl
theorem dX12_cost_97 : decode cX12_cost 97 = .ok (.aload_n 0, 1) := mm_dk kX12_cost_1 17 rfl
theorem dX12_cost_98 : decode cX12_cost 98 = .ok (.iload_n 1, 1) := mm_dk kX12_cost_1 18 rfl
theorem dX12_cost_99 : decode cX12_cost 99 = .ok (.iload_n 2, 1) := mm_dk kX12_cost_1 19 rfl
theorem dX12_cost_100 : decode cX12_cost 100 = .ok (.aload_n 0, 1) := mm_dk kX12_cost_1 20 rfl
theorem dX12_cost_101 : decode cX12_cost 101 = .ok (.getfield 84, 3) := mm_dk kX12_cost_1 21 rfl
theorem dX12_cost_104 : decode cX12_cost 104 = .ok (.iload_n 1, 1) := mm_dk kX12_cost_1 22 rfl
theorem dX12_cost_105 : decode cX12_cost 105 = .ok (.iaload, 1) := mm_dk kX12_cost_1 23 rfl
theorem dX12_cost_106 : decode cX12_cost 106 = .ok (.iconst 1, 1) := mm_dk kX12_cost_1 24 rfl
theorem dX12_cost_107 : decode cX12_cost 107 = .ok (.invokevirtual 378, 3) := mm_dk kX12_cost_1 25 rfl
theorem dX12_cost_110 : decode cX12_cost 110 = .ok (.goto 46, 3) := mm_dk kX12_cost_1 26 rfl
theorem dX12_cost_113 : decode cX12_cost 113 = .ok (.aload_n 0, 1) := mm_dk kX12_cost_1 27 rfl
theorem dX12_cost_114 : decode cX12_cost 114 = .ok (.iload_n 1, 1) := mm_dk kX12_cost_1 28 rfl
theorem dX12_cost_115 : decode cX12_cost 115 = .ok (.iload_n 2, 1) := mm_dk kX12_cost_1 29 rfl
theorem dX12_cost_116 : decode cX12_cost 116 = .ok (.aload_n 0, 1) := mm_dk kX12_cost_1 30 rfl
theorem dX12_cost_117 : decode cX12_cost 117 = .ok (.getfield 84, 3) := mm_dk kX12_cost_1 31 rfl
theorem dX12_cost_120 : decode cX12_cost 120 = .ok (.iload_n 1, 1) := mm_dk kX12_cost_1 32 rfl
theorem dX12_cost_121 : decode cX12_cost 121 = .ok (.iaload, 1) := mm_dk kX12_cost_1 33 rfl
theorem dX12_cost_122 : decode cX12_cost 122 = .ok (.aload_n 0, 1) := mm_dk kX12_cost_1 34 rfl
theorem dX12_cost_123 : decode cX12_cost 123 = .ok (.getfield 74, 3) := mm_dk kX12_cost_1 35 rfl
theorem dX12_cost_126 : decode cX12_cost 126 = .ok (.bipush 28, 2) := mm_dk kX12_cost_1 36 rfl
theorem dX12_cost_128 : decode cX12_cost 128 = .ok (.iload_n 1, 1) := mm_dk kX12_cost_1 37 rfl
theorem dX12_cost_129 : decode cX12_cost 129 = .ok (.imul, 1) := mm_dk kX12_cost_1 38 rfl
theorem dX12_cost_130 : decode cX12_cost 130 = .ok (.bipush 7, 2) := mm_dk kX12_cost_1 39 rfl
set_option maxRecDepth 100000 in
theorem kX12_cost_2 : ([(132, .iload_n 2, 1), (133, .imul, 1), (134, .iadd, 1), (135, .iaload, 1), (136, .aload_n 0, 1), (137, .getfield 74, 3), (140, .bipush 28, 2), (142, .iload_n 1, 1), (143, .imul, 1), (144, .bipush 7, 2), (146, .iload_n 2, 1), (147, .imul, 1), (148, .iadd, 1), (149, .iconst 1, 1), (150, .iadd, 1), (151, .iaload, 1), (152, .iconst 1, 1), (153, .invokevirtual 382, 3), (156, .aload_n 0, 1), (157, .getfield 278, 3), (160, .lreturn, 1)] : List (Nat × Instr × Nat)).all (fun x => decide (decode cX12_cost x.1 = .ok x.2)) = true := by decide +kernel
theorem dX12_cost_132 : decode cX12_cost 132 = .ok (.iload_n 2, 1) := mm_dk kX12_cost_2 0 rfl
theorem dX12_cost_133 : decode cX12_cost 133 = .ok (.imul, 1) := mm_dk kX12_cost_2 1 rfl
theorem dX12_cost_134 : decode cX12_cost 134 = .ok (.iadd, 1) := mm_dk kX12_cost_2 2 rfl
theorem dX12_cost_135 : decode cX12_cost 135 = .ok (.iaload, 1) := mm_dk kX12_cost_2 3 rfl
theorem dX12_cost_136 : decode cX12_cost 136 = .ok (.aload_n 0, 1) := mm_dk kX12_cost_2 4 rfl
theorem dX12_cost_137 : decode cX12_cost 137 = .ok (.getfield 74, 3) := mm_dk kX12_cost_2 5 rfl
theorem dX12_cost_140 : decode cX12_cost 140 = .ok (.bipush 28, 2) := mm_dk kX12_cost_2 6 rfl
theorem dX12_cost_142 : decode cX12_cost 142 = .ok (.iload_n 1, 1) := mm_dk kX12_cost_2 7 rfl
theorem dX12_cost_143 : decode cX12_cost 143 = .ok (.imul, 1) := mm_dk kX12_cost_2 8 rfl
theorem dX12_cost_144 : decode cX12_cost 144 = .ok (.bipush 7, 2) := mm_dk kX12_cost_2 9 rfl
theorem dX12_cost_146 : decode cX12_cost 146 = .ok (.iload_n 2, 1) := mm_dk kX12_cost_2 10 rfl
theorem dX12_cost_147 : decode cX12_cost 147 = .ok (.imul, 1) := mm_dk kX12_cost_2 11 rfl
theorem dX12_cost_148 : decode cX12_cost 148 = .ok (.iadd, 1) := mm_dk kX12_cost_2 12 rfl
theorem dX12_cost_149 : decode cX12_cost 149 = .ok (.iconst 1, 1) := mm_dk kX12_cost_2 13 rfl
theorem dX12_cost_150 : decode cX12_cost 150 = .ok (.iadd, 1) := mm_dk kX12_cost_2 14 rfl
theorem dX12_cost_151 : decode cX12_cost 151 = .ok (.iaload, 1) := mm_dk kX12_cost_2 15 rfl
theorem dX12_cost_152 : decode cX12_cost 152 = .ok (.iconst 1, 1) := mm_dk kX12_cost_2 16 rfl
theorem dX12_cost_153 : decode cX12_cost 153 = .ok (.invokevirtual 382, 3) := mm_dk kX12_cost_2 17 rfl
theorem dX12_cost_156 : decode cX12_cost 156 = .ok (.aload_n 0, 1) := mm_dk kX12_cost_2 18 rfl
theorem dX12_cost_157 : decode cX12_cost 157 = .ok (.getfield 278, 3) := mm_dk kX12_cost_2 19 rfl
theorem dX12_cost_160 : decode cX12_cost 160 = .ok (.lreturn, 1) := mm_dk kX12_cost_2 20 rfl
set_option maxRecDepth 100000 in
theorem kX12_isFrame_0 : ([(0, .aload_n 0, 1), (1, .iload_n 1, 1), (2, .invokevirtual 238, 3), (5, .ifCond .eq 21, 3), (8, .iload_n 2, 1), (9, .ifCond .lt 17, 3), (12, .iload_n 2, 1), (13, .aload_n 0, 1), (14, .getfield 93, 3), (17, .iload_n 1, 1), (18, .iaload, 1), (19, .if_icmp .ge 7, 3), (22, .iconst 1, 1), (23, .goto 4, 3), (26, .iconst 0, 1), (27, .ireturn, 1)] : List (Nat × Instr × Nat)).all (fun x => decide (decode cX12_isFrame x.1 = .ok x.2)) = true := by decide +kernel
theorem dX12_isFrame_0 : decode cX12_isFrame 0 = .ok (.aload_n 0, 1) := mm_dk kX12_isFrame_0 0 rfl
theorem dX12_isFrame_1 : decode cX12_isFrame 1 = .ok (.iload_n 1, 1) := mm_dk kX12_isFrame_0 1 rfl
theorem dX12_isFrame_2 : decode cX12_isFrame 2 = .ok (.invokevirtual 238, 3) := mm_dk kX12_isFrame_0 2 rfl
theorem dX12_isFrame_5 : decode cX12_isFrame 5 = .ok (.ifCond .eq 21, 3) := mm_dk kX12_isFrame_0 3 rfl
theorem dX12_isFrame_8 : decode cX12_isFrame 8 = .ok (.iload_n 2, 1) := mm_dk kX12_isFrame_0 4 rfl
theorem dX12_isFrame_9 : decode cX12_isFrame 9 = .ok (.ifCond .lt 17, 3) := mm_dk kX12_isFrame_0 5 rfl
theorem dX12_isFrame_12 : decode cX12_isFrame 12 = .ok (.iload_n 2, 1) := mm_dk kX12_isFrame_0 6 rfl
theorem dX12_isFrame_13 : decode cX12_isFrame 13 = .ok (.aload_n 0, 1) := mm_dk kX12_isFrame_0 7 rfl
theorem dX12_isFrame_14 : decode cX12_isFrame 14 = .ok (.getfield 93, 3) := mm_dk kX12_isFrame_0 8 rfl
theorem dX12_isFrame_17 : decode cX12_isFrame 17 = .ok (.iload_n 1, 1) := mm_dk kX12_isFrame_0 9 rfl
theorem dX12_isFrame_18 : decode cX12_isFrame 18 = .ok (.iaload, 1) := mm_dk kX12_isFrame_0 10 rfl
theorem dX12_isFrame_19 : decode cX12_isFrame 19 = .ok (.if_icmp .ge 7, 3) := mm_dk kX12_isFrame_0 11 rfl
theorem dX12_isFrame_22 : decode cX12_isFrame 22 = .ok (.iconst 1, 1) := mm_dk kX12_isFrame_0 12 rfl
theorem dX12_isFrame_23 : decode cX12_isFrame 23 = .ok (.goto 4, 3) := mm_dk kX12_isFrame_0 13 rfl
theorem dX12_isFrame_26 : decode cX12_isFrame 26 = .ok (.iconst 0, 1) := mm_dk kX12_isFrame_0 14 rfl
theorem dX12_isFrame_27 : decode cX12_isFrame 27 = .ok (.ireturn, 1) := mm_dk kX12_isFrame_0 15 rfl
set_option maxRecDepth 100000 in
theorem kX12_length_0 : ([(0, .aload_n 0, 1), (1, .iload_n 1, 1), (2, .iload_n 2, 1), (3, .invokevirtual 395, 3), (6, .ifCond .ne 9, 3), (9, .aload_n 0, 1), (10, .iconst (-1), 1), (11, .invokevirtual 231, 3), (14, .ireturn, 1), (15, .aload_n 0, 1), (16, .getfield 99, 3), (19, .sipush 250, 3), (22, .iload_n 1, 1), (23, .imul, 1), (24, .iload_n 2, 1), (25, .iadd, 1), (26, .iaload, 1), (27, .iconst 1, 1), (28, .isub, 1), (29, .istore_n 3, 1), (30, .iload_n 3, 1), (31, .ifCond .ge 12, 3), (34, .aload_n 0, 1), (35, .bipush (-4), 2), (37, .invokevirtual 231, 3), (40, .goto 13, 3), (43, .aload_n 0, 1), (44, .aload_n 0, 1), (45, .getfield 102, 3), (48, .iload_n 3, 1), (49, .iaload, 1), (50, .invokevirtual 235, 3), (53, .ireturn, 1)] : List (Nat × Instr × Nat)).all (fun x => decide (decode cX12_length x.1 = .ok x.2)) = true := by decide +kernel
theorem dX12_length_0 : decode cX12_length 0 = .ok (.aload_n 0, 1) := mm_dk kX12_length_0 0 rfl
theorem dX12_length_1 : decode cX12_length 1 = .ok (.iload_n 1, 1) := mm_dk kX12_length_0 1 rfl
theorem dX12_length_2 : decode cX12_length 2 = .ok (.iload_n 2, 1) := mm_dk kX12_length_0 2 rfl
theorem dX12_length_3 : decode cX12_length 3 = .ok (.invokevirtual 395, 3) := mm_dk kX12_length_0 3 rfl
theorem dX12_length_6 : decode cX12_length 6 = .ok (.ifCond .ne 9, 3) := mm_dk kX12_length_0 4 rfl
theorem dX12_length_9 : decode cX12_length 9 = .ok (.aload_n 0, 1) := mm_dk kX12_length_0 5 rfl
theorem dX12_length_10 : decode cX12_length 10 = .ok (.iconst (-1), 1) := mm_dk kX12_length_0 6 rfl
theorem dX12_length_11 : decode cX12_length 11 = .ok (.invokevirtual 231, 3) := mm_dk kX12_length_0 7 rfl
theorem dX12_length_14 : decode cX12_length 14 = .ok (.ireturn, 1) := mm_dk kX12_length_0 8 rfl
theorem dX12_length_15 : decode cX12_length 15 = .ok (.aload_n 0, 1) := mm_dk kX12_length_0 9 rfl
theorem dX12_length_16 : decode cX12_length 16 = .ok (.getfield 99, 3) := mm_dk kX12_length_0 10 rfl
theorem dX12_length_19 : decode cX12_length 19 = .ok (.sipush 250, 3) := mm_dk kX12_length_0 11 rfl
theorem dX12_length_22 : decode cX12_length 22 = .ok (.iload_n 1, 1) := mm_dk kX12_length_0 12 rfl
theorem dX12_length_23 : decode cX12_length 23 = .ok (.imul, 1) := mm_dk kX12_length_0 13 rfl
theorem dX12_length_24 : decode cX12_length 24 = .ok (.iload_n 2, 1) := mm_dk kX12_length_0 14 rfl
theorem dX12_length_25 : decode cX12_length 25 = .ok (.iadd, 1) := mm_dk kX12_length_0 15 rfl
theorem dX12_length_26 : decode cX12_length 26 = .ok (.iaload, 1) := mm_dk kX12_length_0 16 rfl
theorem dX12_length_27 : decode cX12_length 27 = .ok (.iconst 1, 1) := mm_dk kX12_length_0 17 rfl
theorem dX12_length_28 : decode cX12_length 28 = .ok (.isub, 1) := mm_dk kX12_length_0 18 rfl
theorem dX12_length_29 : decode cX12_length 29 = .ok (.istore_n 3, 1) := mm_dk kX12_length_0 19 rfl
theorem dX12_length_30 : decode cX12_length 30 = .ok (.iload_n 3, 1) := mm_dk kX12_length_0 20 rfl
theorem dX12_length_31 : decode cX12_length 31 = .ok (.ifCond .ge 12, 3) := mm_dk kX12_length_0 21 rfl
theorem dX12_length_34 : decode cX12_length 34 = .ok (.aload_n 0, 1) := mm_dk kX12_length_0 22 rfl
theorem dX12_length_35 : decode cX12_length 35 = .ok (.bipush (-4), 2) := mm_dk kX12_length_0 23 rfl
theorem dX12_length_37 : decode cX12_length 37 = .ok (.invokevirtual 231, 3) := mm_dk kX12_length_0 24 rfl
theorem dX12_length_40 : decode cX12_length 40 = .ok (.goto 13, 3) := mm_dk kX12_length_0 25 rfl
theorem dX12_length_43 : decode cX12_length 43 = .ok (.aload_n 0, 1) := mm_dk kX12_length_0 26 rfl
theorem dX12_length_44 : decode cX12_length 44 = .ok (.aload_n 0, 1) := mm_dk kX12_length_0 27 rfl
theorem dX12_length_45 : decode cX12_length 45 = .ok (.getfield 102, 3) := mm_dk kX12_length_0 28 rfl
theorem dX12_length_48 : decode cX12_length 48 = .ok (.iload_n 3, 1) := mm_dk kX12_length_0 29 rfl
theorem dX12_length_49 : decode cX12_length 49 = .ok (.iaload, 1) := mm_dk kX12_length_0 30 rfl
theorem dX12_length_50 : decode cX12_length 50 = .ok (.invokevirtual 235, 3) := mm_dk kX12_length_0 31 rfl
theorem dX12_length_53 : decode cX12_length 53 = .ok (.ireturn, 1) := mm_dk kX12_length_0 32 rfl
set_option maxRecDepth 100000 in
theorem kX12_byteOf_0 : ([(0, .aload_n 0, 1), (1, .iload_n 1, 1), (2, .iload_n 2, 1), (3, .invokevirtual 395, 3), (6, .ifCond .ne 9, 3), (9, .aload_n 0, 1), (10, .iconst (-1), 1), (11, .invokevirtual 231, 3), (14, .ireturn, 1), (15, .aload_n 0, 1), (16, .getfield 99, 3), (19, .sipush 250, 3), (22, .iload_n 1, 1), (23, .imul, 1), (24, .iload_n 2, 1), (25, .iadd, 1), (26, .iaload, 1), (27, .iconst 1, 1), (28, .isub, 1), (29, .istore 4, 2), (31, .iload 4, 2), (33, .ifCond .lt 20, 3), (36, .iload_n 3, 1), (37, .iconst 0, 1), (38, .aload_n 0, 1), (39, .getfield 102, 3), (42, .iload 4, 2), (44, .iaload, 1), (45, .iconst 1, 1), (46, .isub, 1), (47, .invokestatic 227, 3), (50, .ifCond .ne 12, 3), (53, .aload_n 0, 1), (54, .bipush (-4), 2), (56, .invokevirtual 231, 3), (59, .goto 23, 3), (62, .aload_n 0, 1), (63, .aload_n 0, 1), (64, .getfield 109, 3), (67, .bipush 64, 2)] : List (Nat × Instr × Nat)).all (fun x => decide (decode cX12_byteOf x.1 = .ok x.2)) = true := by decide +kernel
theorem dX12_byteOf_0 : decode cX12_byteOf 0 = .ok (.aload_n 0, 1) := mm_dk kX12_byteOf_0 0 rfl
theorem dX12_byteOf_1 : decode cX12_byteOf 1 = .ok (.iload_n 1, 1) := mm_dk kX12_byteOf_0 1 rfl
theorem dX12_byteOf_2 : decode cX12_byteOf 2 = .ok (.iload_n 2, 1) := mm_dk kX12_byteOf_0 2 rfl
theorem dX12_byteOf_3 : decode cX12_byteOf 3 = .ok (.invokevirtual 395, 3) := mm_dk kX12_byteOf_0 3 rfl
theorem dX12_byteOf_6 : decode cX12_byteOf 6 = .ok (.ifCond .ne 9, 3) := mm_dk kX12_byteOf_0 4 rfl
theorem dX12_byteOf_9 : decode cX12_byteOf 9 = .ok (.aload_n 0, 1) := mm_dk kX12_byteOf_0 5 rfl
theorem dX12_byteOf_10 : decode cX12_byteOf 10 = .ok (.iconst (-1), 1) := mm_dk kX12_byteOf_0 6 rfl
theorem dX12_byteOf_11 : decode cX12_byteOf 11 = .ok (.invokevirtual 231, 3) := mm_dk kX12_byteOf_0 7 rfl
theorem dX12_byteOf_14 : decode cX12_byteOf 14 = .ok (.ireturn, 1) := mm_dk kX12_byteOf_0 8 rfl
theorem dX12_byteOf_15 : decode cX12_byteOf 15 = .ok (.aload_n 0, 1) := mm_dk kX12_byteOf_0 9 rfl
theorem dX12_byteOf_16 : decode cX12_byteOf 16 = .ok (.getfield 99, 3) := mm_dk kX12_byteOf_0 10 rfl
theorem dX12_byteOf_19 : decode cX12_byteOf 19 = .ok (.sipush 250, 3) := mm_dk kX12_byteOf_0 11 rfl
theorem dX12_byteOf_22 : decode cX12_byteOf 22 = .ok (.iload_n 1, 1) := mm_dk kX12_byteOf_0 12 rfl
theorem dX12_byteOf_23 : decode cX12_byteOf 23 = .ok (.imul, 1) := mm_dk kX12_byteOf_0 13 rfl
theorem dX12_byteOf_24 : decode cX12_byteOf 24 = .ok (.iload_n 2, 1) := mm_dk kX12_byteOf_0 14 rfl
theorem dX12_byteOf_25 : decode cX12_byteOf 25 = .ok (.iadd, 1) := mm_dk kX12_byteOf_0 15 rfl
theorem dX12_byteOf_26 : decode cX12_byteOf 26 = .ok (.iaload, 1) := mm_dk kX12_byteOf_0 16 rfl
theorem dX12_byteOf_27 : decode cX12_byteOf 27 = .ok (.iconst 1, 1) := mm_dk kX12_byteOf_0 17 rfl
theorem dX12_byteOf_28 : decode cX12_byteOf 28 = .ok (.isub, 1) := mm_dk kX12_byteOf_0 18 rfl
theorem dX12_byteOf_29 : decode cX12_byteOf 29 = .ok (.istore 4, 2) := mm_dk kX12_byteOf_0 19 rfl
theorem dX12_byteOf_31 : decode cX12_byteOf 31 = .ok (.iload 4, 2) := mm_dk kX12_byteOf_0 20 rfl
theorem dX12_byteOf_33 : decode cX12_byteOf 33 = .ok (.ifCond .lt 20, 3) := mm_dk kX12_byteOf_0 21 rfl
theorem dX12_byteOf_36 : decode cX12_byteOf 36 = .ok (.iload_n 3, 1) := mm_dk kX12_byteOf_0 22 rfl
theorem dX12_byteOf_37 : decode cX12_byteOf 37 = .ok (.iconst 0, 1) := mm_dk kX12_byteOf_0 23 rfl
theorem dX12_byteOf_38 : decode cX12_byteOf 38 = .ok (.aload_n 0, 1) := mm_dk kX12_byteOf_0 24 rfl
theorem dX12_byteOf_39 : decode cX12_byteOf 39 = .ok (.getfield 102, 3) := mm_dk kX12_byteOf_0 25 rfl
theorem dX12_byteOf_42 : decode cX12_byteOf 42 = .ok (.iload 4, 2) := mm_dk kX12_byteOf_0 26 rfl
theorem dX12_byteOf_44 : decode cX12_byteOf 44 = .ok (.iaload, 1) := mm_dk kX12_byteOf_0 27 rfl
theorem dX12_byteOf_45 : decode cX12_byteOf 45 = .ok (.iconst 1, 1) := mm_dk kX12_byteOf_0 28 rfl
theorem dX12_byteOf_46 : decode cX12_byteOf 46 = .ok (.isub, 1) := mm_dk kX12_byteOf_0 29 rfl
theorem dX12_byteOf_47 : decode cX12_byteOf 47 = .ok (.invokestatic 227, 3) := mm_dk kX12_byteOf_0 30 rfl
theorem dX12_byteOf_50 : decode cX12_byteOf 50 = .ok (.ifCond .ne 12, 3) := mm_dk kX12_byteOf_0 31 rfl
theorem dX12_byteOf_53 : decode cX12_byteOf 53 = .ok (.aload_n 0, 1) := mm_dk kX12_byteOf_0 32 rfl
theorem dX12_byteOf_54 : decode cX12_byteOf 54 = .ok (.bipush (-4), 2) := mm_dk kX12_byteOf_0 33 rfl
theorem dX12_byteOf_56 : decode cX12_byteOf 56 = .ok (.invokevirtual 231, 3) := mm_dk kX12_byteOf_0 34 rfl
theorem dX12_byteOf_59 : decode cX12_byteOf 59 = .ok (.goto 23, 3) := mm_dk kX12_byteOf_0 35 rfl
theorem dX12_byteOf_62 : decode cX12_byteOf 62 = .ok (.aload_n 0, 1) := mm_dk kX12_byteOf_0 36 rfl
theorem dX12_byteOf_63 : decode cX12_byteOf 63 = .ok (.aload_n 0, 1) := mm_dk kX12_byteOf_0 37 rfl
theorem dX12_byteOf_64 : decode cX12_byteOf 64 = .ok (.getfield 109, 3) := mm_dk kX12_byteOf_0 38 rfl
theorem dX12_byteOf_67 : decode cX12_byteOf 67 = .ok (.bipush 64, 2) := mm_dk kX12_byteOf_0 39 rfl
set_option maxRecDepth 100000 in
theorem kX12_byteOf_1 : ([(69, .iload 4, 2), (71, .imul, 1), (72, .iload_n 3, 1), (73, .iadd, 1), (74, .iaload, 1), (75, .sipush 255, 3), (78, .iand, 1), (79, .invokevirtual 235, 3), (82, .ireturn, 1)] : List (Nat × Instr × Nat)).all (fun x => decide (decode cX12_byteOf x.1 = .ok x.2)) = true := by decide +kernel
theorem dX12_byteOf_69 : decode cX12_byteOf 69 = .ok (.iload 4, 2) := mm_dk kX12_byteOf_1 0 rfl
theorem dX12_byteOf_71 : decode cX12_byteOf 71 = .ok (.imul, 1) := mm_dk kX12_byteOf_1 1 rfl
theorem dX12_byteOf_72 : decode cX12_byteOf 72 = .ok (.iload_n 3, 1) := mm_dk kX12_byteOf_1 2 rfl
theorem dX12_byteOf_73 : decode cX12_byteOf 73 = .ok (.iadd, 1) := mm_dk kX12_byteOf_1 3 rfl
theorem dX12_byteOf_74 : decode cX12_byteOf 74 = .ok (.iaload, 1) := mm_dk kX12_byteOf_1 4 rfl
theorem dX12_byteOf_75 : decode cX12_byteOf 75 = .ok (.sipush 255, 3) := mm_dk kX12_byteOf_1 5 rfl
theorem dX12_byteOf_78 : decode cX12_byteOf 78 = .ok (.iand, 1) := mm_dk kX12_byteOf_1 6 rfl
theorem dX12_byteOf_79 : decode cX12_byteOf 79 = .ok (.invokevirtual 235, 3) := mm_dk kX12_byteOf_1 7 rfl
theorem dX12_byteOf_82 : decode cX12_byteOf 82 = .ok (.ireturn, 1) := mm_dk kX12_byteOf_1 8 rfl
set_option maxRecDepth 100000 in
theorem kX12_label_0 : ([(0, .aload_n 0, 1), (1, .iload_n 1, 1), (2, .iload_n 2, 1), (3, .invokevirtual 395, 3), (6, .ifCond .eq 22, 3), (9, .aload_n 0, 1), (10, .aload_n 0, 1), (11, .getfield 96, 3), (14, .sipush 250, 3), (17, .iload_n 1, 1), (18, .imul, 1), (19, .iload_n 2, 1), (20, .iadd, 1), (21, .iaload, 1), (22, .invokevirtual 235, 3), (25, .goto 8, 3), (28, .aload_n 0, 1), (29, .iconst (-1), 1), (30, .invokevirtual 231, 3), (33, .ireturn, 1)] : List (Nat × Instr × Nat)).all (fun x => decide (decode cX12_label x.1 = .ok x.2)) = true := by decide +kernel
theorem dX12_label_0 : decode cX12_label 0 = .ok (.aload_n 0, 1) := mm_dk kX12_label_0 0 rfl
theorem dX12_label_1 : decode cX12_label 1 = .ok (.iload_n 1, 1) := mm_dk kX12_label_0 1 rfl
theorem dX12_label_2 : decode cX12_label 2 = .ok (.iload_n 2, 1) := mm_dk kX12_label_0 2 rfl
theorem dX12_label_3 : decode cX12_label 3 = .ok (.invokevirtual 395, 3) := mm_dk kX12_label_0 3 rfl
theorem dX12_label_6 : decode cX12_label 6 = .ok (.ifCond .eq 22, 3) := mm_dk kX12_label_0 4 rfl
theorem dX12_label_9 : decode cX12_label 9 = .ok (.aload_n 0, 1) := mm_dk kX12_label_0 5 rfl
theorem dX12_label_10 : decode cX12_label 10 = .ok (.aload_n 0, 1) := mm_dk kX12_label_0 6 rfl
theorem dX12_label_11 : decode cX12_label 11 = .ok (.getfield 96, 3) := mm_dk kX12_label_0 7 rfl
theorem dX12_label_14 : decode cX12_label 14 = .ok (.sipush 250, 3) := mm_dk kX12_label_0 8 rfl
theorem dX12_label_17 : decode cX12_label 17 = .ok (.iload_n 1, 1) := mm_dk kX12_label_0 9 rfl
theorem dX12_label_18 : decode cX12_label 18 = .ok (.imul, 1) := mm_dk kX12_label_0 10 rfl
theorem dX12_label_19 : decode cX12_label 19 = .ok (.iload_n 2, 1) := mm_dk kX12_label_0 11 rfl
theorem dX12_label_20 : decode cX12_label 20 = .ok (.iadd, 1) := mm_dk kX12_label_0 12 rfl
theorem dX12_label_21 : decode cX12_label 21 = .ok (.iaload, 1) := mm_dk kX12_label_0 13 rfl
theorem dX12_label_22 : decode cX12_label 22 = .ok (.invokevirtual 235, 3) := mm_dk kX12_label_0 14 rfl
theorem dX12_label_25 : decode cX12_label 25 = .ok (.goto 8, 3) := mm_dk kX12_label_0 15 rfl
theorem dX12_label_28 : decode cX12_label 28 = .ok (.aload_n 0, 1) := mm_dk kX12_label_0 16 rfl
theorem dX12_label_29 : decode cX12_label 29 = .ok (.iconst (-1), 1) := mm_dk kX12_label_0 17 rfl
theorem dX12_label_30 : decode cX12_label 30 = .ok (.invokevirtual 231, 3) := mm_dk kX12_label_0 18 rfl
theorem dX12_label_33 : decode cX12_label 33 = .ok (.ireturn, 1) := mm_dk kX12_label_0 19 rfl
set_option maxRecDepth 100000 in
theorem kX12_lose_0 : ([(0, .aload_n 0, 1), (1, .iload_n 1, 1), (2, .iload_n 2, 1), (3, .invokevirtual 395, 3), (6, .ifCond .ne 9, 3), (9, .aload_n 0, 1), (10, .iconst (-1), 1), (11, .invokevirtual 231, 3), (14, .ireturn, 1), (15, .aload_n 0, 1), (16, .getfield 99, 3), (19, .sipush 250, 3), (22, .iload_n 1, 1), (23, .imul, 1), (24, .iload_n 2, 1), (25, .iadd, 1), (26, .iconst 0, 1), (27, .iastore, 1), (28, .aload_n 0, 1), (29, .iconst 1, 1), (30, .invokevirtual 235, 3), (33, .ireturn, 1)] : List (Nat × Instr × Nat)).all (fun x => decide (decode cX12_lose x.1 = .ok x.2)) = true := by decide +kernel
theorem dX12_lose_0 : decode cX12_lose 0 = .ok (.aload_n 0, 1) := mm_dk kX12_lose_0 0 rfl
theorem dX12_lose_1 : decode cX12_lose 1 = .ok (.iload_n 1, 1) := mm_dk kX12_lose_0 1 rfl
theorem dX12_lose_2 : decode cX12_lose 2 = .ok (.iload_n 2, 1) := mm_dk kX12_lose_0 2 rfl
theorem dX12_lose_3 : decode cX12_lose 3 = .ok (.invokevirtual 395, 3) := mm_dk kX12_lose_0 3 rfl
theorem dX12_lose_6 : decode cX12_lose 6 = .ok (.ifCond .ne 9, 3) := mm_dk kX12_lose_0 4 rfl
theorem dX12_lose_9 : decode cX12_lose 9 = .ok (.aload_n 0, 1) := mm_dk kX12_lose_0 5 rfl
theorem dX12_lose_10 : decode cX12_lose 10 = .ok (.iconst (-1), 1) := mm_dk kX12_lose_0 6 rfl
theorem dX12_lose_11 : decode cX12_lose 11 = .ok (.invokevirtual 231, 3) := mm_dk kX12_lose_0 7 rfl
theorem dX12_lose_14 : decode cX12_lose 14 = .ok (.ireturn, 1) := mm_dk kX12_lose_0 8 rfl
theorem dX12_lose_15 : decode cX12_lose 15 = .ok (.aload_n 0, 1) := mm_dk kX12_lose_0 9 rfl
theorem dX12_lose_16 : decode cX12_lose 16 = .ok (.getfield 99, 3) := mm_dk kX12_lose_0 10 rfl
theorem dX12_lose_19 : decode cX12_lose 19 = .ok (.sipush 250, 3) := mm_dk kX12_lose_0 11 rfl
theorem dX12_lose_22 : decode cX12_lose 22 = .ok (.iload_n 1, 1) := mm_dk kX12_lose_0 12 rfl
theorem dX12_lose_23 : decode cX12_lose 23 = .ok (.imul, 1) := mm_dk kX12_lose_0 13 rfl
theorem dX12_lose_24 : decode cX12_lose 24 = .ok (.iload_n 2, 1) := mm_dk kX12_lose_0 14 rfl
theorem dX12_lose_25 : decode cX12_lose 25 = .ok (.iadd, 1) := mm_dk kX12_lose_0 15 rfl
theorem dX12_lose_26 : decode cX12_lose 26 = .ok (.iconst 0, 1) := mm_dk kX12_lose_0 16 rfl
theorem dX12_lose_27 : decode cX12_lose 27 = .ok (.iastore, 1) := mm_dk kX12_lose_0 17 rfl
theorem dX12_lose_28 : decode cX12_lose 28 = .ok (.aload_n 0, 1) := mm_dk kX12_lose_0 18 rfl
theorem dX12_lose_29 : decode cX12_lose 29 = .ok (.iconst 1, 1) := mm_dk kX12_lose_0 19 rfl
theorem dX12_lose_30 : decode cX12_lose 30 = .ok (.invokevirtual 235, 3) := mm_dk kX12_lose_0 20 rfl
theorem dX12_lose_33 : decode cX12_lose 33 = .ok (.ireturn, 1) := mm_dk kX12_lose_0 21 rfl
set_option maxRecDepth 100000 in
theorem kX12_cut_0 : ([(0, .aload_n 0, 1), (1, .iload_n 1, 1), (2, .iload_n 2, 1), (3, .invokevirtual 395, 3), (6, .ifCond .ne 9, 3), (9, .aload_n 0, 1), (10, .iconst (-1), 1), (11, .invokevirtual 231, 3), (14, .ireturn, 1), (15, .aload_n 0, 1), (16, .getfield 99, 3), (19, .sipush 250, 3), (22, .iload_n 1, 1), (23, .imul, 1), (24, .iload_n 2, 1), (25, .iadd, 1), (26, .iaload, 1), (27, .iconst 1, 1), (28, .isub, 1), (29, .istore 4, 2), (31, .iload 4, 2), (33, .ifCond .ge 10, 3), (36, .aload_n 0, 1), (37, .bipush (-2), 2), (39, .invokevirtual 231, 3), (42, .ireturn, 1), (43, .aload_n 0, 1), (44, .getfield 102, 3), (47, .iload 4, 2), (49, .iaload, 1), (50, .istore 5, 2), (52, .iload_n 3, 1), (53, .iconst 0, 1), (54, .iload 5, 2), (56, .invokestatic 227, 3), (59, .ifCond .ne 9, 3), (62, .aload_n 0, 1), (63, .iconst (-1), 1), (64, .invokevirtual 231, 3), (67, .ireturn, 1)] : List (Nat × Instr × Nat)).all (fun x => decide (decode cX12_cut x.1 = .ok x.2)) = true := by decide +kernel
theorem dX12_cut_0 : decode cX12_cut 0 = .ok (.aload_n 0, 1) := mm_dk kX12_cut_0 0 rfl
theorem dX12_cut_1 : decode cX12_cut 1 = .ok (.iload_n 1, 1) := mm_dk kX12_cut_0 1 rfl
theorem dX12_cut_2 : decode cX12_cut 2 = .ok (.iload_n 2, 1) := mm_dk kX12_cut_0 2 rfl
theorem dX12_cut_3 : decode cX12_cut 3 = .ok (.invokevirtual 395, 3) := mm_dk kX12_cut_0 3 rfl
theorem dX12_cut_6 : decode cX12_cut 6 = .ok (.ifCond .ne 9, 3) := mm_dk kX12_cut_0 4 rfl
theorem dX12_cut_9 : decode cX12_cut 9 = .ok (.aload_n 0, 1) := mm_dk kX12_cut_0 5 rfl
theorem dX12_cut_10 : decode cX12_cut 10 = .ok (.iconst (-1), 1) := mm_dk kX12_cut_0 6 rfl
theorem dX12_cut_11 : decode cX12_cut 11 = .ok (.invokevirtual 231, 3) := mm_dk kX12_cut_0 7 rfl
theorem dX12_cut_14 : decode cX12_cut 14 = .ok (.ireturn, 1) := mm_dk kX12_cut_0 8 rfl
theorem dX12_cut_15 : decode cX12_cut 15 = .ok (.aload_n 0, 1) := mm_dk kX12_cut_0 9 rfl
theorem dX12_cut_16 : decode cX12_cut 16 = .ok (.getfield 99, 3) := mm_dk kX12_cut_0 10 rfl
theorem dX12_cut_19 : decode cX12_cut 19 = .ok (.sipush 250, 3) := mm_dk kX12_cut_0 11 rfl
theorem dX12_cut_22 : decode cX12_cut 22 = .ok (.iload_n 1, 1) := mm_dk kX12_cut_0 12 rfl
theorem dX12_cut_23 : decode cX12_cut 23 = .ok (.imul, 1) := mm_dk kX12_cut_0 13 rfl
theorem dX12_cut_24 : decode cX12_cut 24 = .ok (.iload_n 2, 1) := mm_dk kX12_cut_0 14 rfl
theorem dX12_cut_25 : decode cX12_cut 25 = .ok (.iadd, 1) := mm_dk kX12_cut_0 15 rfl
theorem dX12_cut_26 : decode cX12_cut 26 = .ok (.iaload, 1) := mm_dk kX12_cut_0 16 rfl
theorem dX12_cut_27 : decode cX12_cut 27 = .ok (.iconst 1, 1) := mm_dk kX12_cut_0 17 rfl
theorem dX12_cut_28 : decode cX12_cut 28 = .ok (.isub, 1) := mm_dk kX12_cut_0 18 rfl
theorem dX12_cut_29 : decode cX12_cut 29 = .ok (.istore 4, 2) := mm_dk kX12_cut_0 19 rfl
theorem dX12_cut_31 : decode cX12_cut 31 = .ok (.iload 4, 2) := mm_dk kX12_cut_0 20 rfl
theorem dX12_cut_33 : decode cX12_cut 33 = .ok (.ifCond .ge 10, 3) := mm_dk kX12_cut_0 21 rfl
theorem dX12_cut_36 : decode cX12_cut 36 = .ok (.aload_n 0, 1) := mm_dk kX12_cut_0 22 rfl
theorem dX12_cut_37 : decode cX12_cut 37 = .ok (.bipush (-2), 2) := mm_dk kX12_cut_0 23 rfl
theorem dX12_cut_39 : decode cX12_cut 39 = .ok (.invokevirtual 231, 3) := mm_dk kX12_cut_0 24 rfl
theorem dX12_cut_42 : decode cX12_cut 42 = .ok (.ireturn, 1) := mm_dk kX12_cut_0 25 rfl
theorem dX12_cut_43 : decode cX12_cut 43 = .ok (.aload_n 0, 1) := mm_dk kX12_cut_0 26 rfl
theorem dX12_cut_44 : decode cX12_cut 44 = .ok (.getfield 102, 3) := mm_dk kX12_cut_0 27 rfl
theorem dX12_cut_47 : decode cX12_cut 47 = .ok (.iload 4, 2) := mm_dk kX12_cut_0 28 rfl
theorem dX12_cut_49 : decode cX12_cut 49 = .ok (.iaload, 1) := mm_dk kX12_cut_0 29 rfl
theorem dX12_cut_50 : decode cX12_cut 50 = .ok (.istore 5, 2) := mm_dk kX12_cut_0 30 rfl
theorem dX12_cut_52 : decode cX12_cut 52 = .ok (.iload_n 3, 1) := mm_dk kX12_cut_0 31 rfl
theorem dX12_cut_53 : decode cX12_cut 53 = .ok (.iconst 0, 1) := mm_dk kX12_cut_0 32 rfl
theorem dX12_cut_54 : decode cX12_cut 54 = .ok (.iload 5, 2) := mm_dk kX12_cut_0 33 rfl
theorem dX12_cut_56 : decode cX12_cut 56 = .ok (.invokestatic 227, 3) := mm_dk kX12_cut_0 34 rfl
theorem dX12_cut_59 : decode cX12_cut 59 = .ok (.ifCond .ne 9, 3) := mm_dk kX12_cut_0 35 rfl
theorem dX12_cut_62 : decode cX12_cut 62 = .ok (.aload_n 0, 1) := mm_dk kX12_cut_0 36 rfl
theorem dX12_cut_63 : decode cX12_cut 63 = .ok (.iconst (-1), 1) := mm_dk kX12_cut_0 37 rfl
theorem dX12_cut_64 : decode cX12_cut 64 = .ok (.invokevirtual 231, 3) := mm_dk kX12_cut_0 38 rfl
theorem dX12_cut_67 : decode cX12_cut 67 = .ok (.ireturn, 1) := mm_dk kX12_cut_0 39 rfl
set_option maxRecDepth 100000 in
theorem kX12_cut_1 : ([(68, .aload_n 0, 1), (69, .iload_n 3, 1), (70, .aload_n 0, 1), (71, .getfield 105, 3), (74, .iload 4, 2), (76, .baload, 1), (77, .invokevirtual 352, 3), (80, .istore 6, 2), (82, .iconst 0, 1), (83, .istore 7, 2), (85, .iload 7, 2), (87, .iload_n 3, 1), (88, .if_icmp .ge 35, 3), (91, .aload_n 0, 1), (92, .getfield 109, 3), (95, .bipush 64, 2), (97, .iload 6, 2), (99, .imul, 1), (100, .iload 7, 2), (102, .iadd, 1), (103, .aload_n 0, 1), (104, .getfield 109, 3), (107, .bipush 64, 2), (109, .iload 4, 2), (111, .imul, 1), (112, .iload 7, 2), (114, .iadd, 1), (115, .iaload, 1), (116, .iastore, 1), (117, .iinc 7 1, 3), (120, .goto (-35), 3), (123, .aload_n 0, 1), (124, .getfield 99, 3), (127, .sipush 250, 3), (130, .iload_n 1, 1), (131, .imul, 1), (132, .iload_n 2, 1), (133, .iadd, 1), (134, .iload 6, 2), (136, .iconst 1, 1)] : List (Nat × Instr × Nat)).all (fun x => decide (decode cX12_cut x.1 = .ok x.2)) = true := by decide +kernel
theorem dX12_cut_68 : decode cX12_cut 68 = .ok (.aload_n 0, 1) := mm_dk kX12_cut_1 0 rfl
theorem dX12_cut_69 : decode cX12_cut 69 = .ok (.iload_n 3, 1) := mm_dk kX12_cut_1 1 rfl
theorem dX12_cut_70 : decode cX12_cut 70 = .ok (.aload_n 0, 1) := mm_dk kX12_cut_1 2 rfl
theorem dX12_cut_71 : decode cX12_cut 71 = .ok (.getfield 105, 3) := mm_dk kX12_cut_1 3 rfl
theorem dX12_cut_74 : decode cX12_cut 74 = .ok (.iload 4, 2) := mm_dk kX12_cut_1 4 rfl
theorem dX12_cut_76 : decode cX12_cut 76 = .ok (.baload, 1) := mm_dk kX12_cut_1 5 rfl
theorem dX12_cut_77 : decode cX12_cut 77 = .ok (.invokevirtual 352, 3) := mm_dk kX12_cut_1 6 rfl
theorem dX12_cut_80 : decode cX12_cut 80 = .ok (.istore 6, 2) := mm_dk kX12_cut_1 7 rfl
theorem dX12_cut_82 : decode cX12_cut 82 = .ok (.iconst 0, 1) := mm_dk kX12_cut_1 8 rfl
theorem dX12_cut_83 : decode cX12_cut 83 = .ok (.istore 7, 2) := mm_dk kX12_cut_1 9 rfl
theorem dX12_cut_85 : decode cX12_cut 85 = .ok (.iload 7, 2) := mm_dk kX12_cut_1 10 rfl
theorem dX12_cut_87 : decode cX12_cut 87 = .ok (.iload_n 3, 1) := mm_dk kX12_cut_1 11 rfl
theorem dX12_cut_88 : decode cX12_cut 88 = .ok (.if_icmp .ge 35, 3) := mm_dk kX12_cut_1 12 rfl
theorem dX12_cut_91 : decode cX12_cut 91 = .ok (.aload_n 0, 1) := mm_dk kX12_cut_1 13 rfl
theorem dX12_cut_92 : decode cX12_cut 92 = .ok (.getfield 109, 3) := mm_dk kX12_cut_1 14 rfl
theorem dX12_cut_95 : decode cX12_cut 95 = .ok (.bipush 64, 2) := mm_dk kX12_cut_1 15 rfl
theorem dX12_cut_97 : decode cX12_cut 97 = .ok (.iload 6, 2) := mm_dk kX12_cut_1 16 rfl
theorem dX12_cut_99 : decode cX12_cut 99 = .ok (.imul, 1) := mm_dk kX12_cut_1 17 rfl
theorem dX12_cut_100 : decode cX12_cut 100 = .ok (.iload 7, 2) := mm_dk kX12_cut_1 18 rfl
theorem dX12_cut_102 : decode cX12_cut 102 = .ok (.iadd, 1) := mm_dk kX12_cut_1 19 rfl
theorem dX12_cut_103 : decode cX12_cut 103 = .ok (.aload_n 0, 1) := mm_dk kX12_cut_1 20 rfl
theorem dX12_cut_104 : decode cX12_cut 104 = .ok (.getfield 109, 3) := mm_dk kX12_cut_1 21 rfl
theorem dX12_cut_107 : decode cX12_cut 107 = .ok (.bipush 64, 2) := mm_dk kX12_cut_1 22 rfl
theorem dX12_cut_109 : decode cX12_cut 109 = .ok (.iload 4, 2) := mm_dk kX12_cut_1 23 rfl
theorem dX12_cut_111 : decode cX12_cut 111 = .ok (.imul, 1) := mm_dk kX12_cut_1 24 rfl
theorem dX12_cut_112 : decode cX12_cut 112 = .ok (.iload 7, 2) := mm_dk kX12_cut_1 25 rfl
theorem dX12_cut_114 : decode cX12_cut 114 = .ok (.iadd, 1) := mm_dk kX12_cut_1 26 rfl
theorem dX12_cut_115 : decode cX12_cut 115 = .ok (.iaload, 1) := mm_dk kX12_cut_1 27 rfl
theorem dX12_cut_116 : decode cX12_cut 116 = .ok (.iastore, 1) := mm_dk kX12_cut_1 28 rfl
theorem dX12_cut_117 : decode cX12_cut 117 = .ok (.iinc 7 1, 3) := mm_dk kX12_cut_1 29 rfl
theorem dX12_cut_120 : decode cX12_cut 120 = .ok (.goto (-35), 3) := mm_dk kX12_cut_1 30 rfl
theorem dX12_cut_123 : decode cX12_cut 123 = .ok (.aload_n 0, 1) := mm_dk kX12_cut_1 31 rfl
theorem dX12_cut_124 : decode cX12_cut 124 = .ok (.getfield 99, 3) := mm_dk kX12_cut_1 32 rfl
theorem dX12_cut_127 : decode cX12_cut 127 = .ok (.sipush 250, 3) := mm_dk kX12_cut_1 33 rfl
theorem dX12_cut_130 : decode cX12_cut 130 = .ok (.iload_n 1, 1) := mm_dk kX12_cut_1 34 rfl
theorem dX12_cut_131 : decode cX12_cut 131 = .ok (.imul, 1) := mm_dk kX12_cut_1 35 rfl
theorem dX12_cut_132 : decode cX12_cut 132 = .ok (.iload_n 2, 1) := mm_dk kX12_cut_1 36 rfl
theorem dX12_cut_133 : decode cX12_cut 133 = .ok (.iadd, 1) := mm_dk kX12_cut_1 37 rfl
theorem dX12_cut_134 : decode cX12_cut 134 = .ok (.iload 6, 2) := mm_dk kX12_cut_1 38 rfl
theorem dX12_cut_136 : decode cX12_cut 136 = .ok (.iconst 1, 1) := mm_dk kX12_cut_1 39 rfl
set_option maxRecDepth 100000 in
theorem kX12_cut_2 : ([(137, .iadd, 1), (138, .iastore, 1), (139, .aload_n 0, 1), (140, .iload 5, 2), (142, .invokevirtual 235, 3), (145, .ireturn, 1)] : List (Nat × Instr × Nat)).all (fun x => decide (decode cX12_cut x.1 = .ok x.2)) = true := by decide +kernel
theorem dX12_cut_137 : decode cX12_cut 137 = .ok (.iadd, 1) := mm_dk kX12_cut_2 0 rfl
theorem dX12_cut_138 : decode cX12_cut 138 = .ok (.iastore, 1) := mm_dk kX12_cut_2 1 rfl
theorem dX12_cut_139 : decode cX12_cut 139 = .ok (.aload_n 0, 1) := mm_dk kX12_cut_2 2 rfl
theorem dX12_cut_140 : decode cX12_cut 140 = .ok (.iload 5, 2) := mm_dk kX12_cut_2 3 rfl
theorem dX12_cut_142 : decode cX12_cut 142 = .ok (.invokevirtual 235, 3) := mm_dk kX12_cut_2 4 rfl
theorem dX12_cut_145 : decode cX12_cut 145 = .ok (.ireturn, 1) := mm_dk kX12_cut_2 5 rfl
set_option maxRecDepth 100000 in
theorem kX12_damage_0 : ([(0, .aload_n 0, 1), (1, .iload_n 1, 1), (2, .iload_n 2, 1), (3, .invokevirtual 395, 3), (6, .ifCond .eq 15, 3), (9, .iload 4, 2), (11, .iconst 1, 1), (12, .sipush 255, 3), (15, .invokestatic 227, 3), (18, .ifCond .ne 9, 3), (21, .aload_n 0, 1), (22, .iconst (-1), 1), (23, .invokevirtual 231, 3), (26, .ireturn, 1), (27, .aload_n 0, 1), (28, .getfield 99, 3), (31, .sipush 250, 3), (34, .iload_n 1, 1), (35, .imul, 1), (36, .iload_n 2, 1), (37, .iadd, 1), (38, .iaload, 1), (39, .iconst 1, 1), (40, .isub, 1), (41, .istore 5, 2), (43, .iload 5, 2), (45, .ifCond .ge 10, 3), (48, .aload_n 0, 1), (49, .bipush (-2), 2), (51, .invokevirtual 231, 3), (54, .ireturn, 1), (55, .iload_n 3, 1), (56, .iconst 0, 1), (57, .aload_n 0, 1), (58, .getfield 102, 3), (61, .iload 5, 2), (63, .iaload, 1), (64, .iconst 1, 1), (65, .isub, 1), (66, .invokestatic 227, 3)] : List (Nat × Instr × Nat)).all (fun x => decide (decode cX12_damage x.1 = .ok x.2)) = true := by decide +kernel
theorem dX12_damage_0 : decode cX12_damage 0 = .ok (.aload_n 0, 1) := mm_dk kX12_damage_0 0 rfl
theorem dX12_damage_1 : decode cX12_damage 1 = .ok (.iload_n 1, 1) := mm_dk kX12_damage_0 1 rfl
theorem dX12_damage_2 : decode cX12_damage 2 = .ok (.iload_n 2, 1) := mm_dk kX12_damage_0 2 rfl
theorem dX12_damage_3 : decode cX12_damage 3 = .ok (.invokevirtual 395, 3) := mm_dk kX12_damage_0 3 rfl
theorem dX12_damage_6 : decode cX12_damage 6 = .ok (.ifCond .eq 15, 3) := mm_dk kX12_damage_0 4 rfl
theorem dX12_damage_9 : decode cX12_damage 9 = .ok (.iload 4, 2) := mm_dk kX12_damage_0 5 rfl
theorem dX12_damage_11 : decode cX12_damage 11 = .ok (.iconst 1, 1) := mm_dk kX12_damage_0 6 rfl
theorem dX12_damage_12 : decode cX12_damage 12 = .ok (.sipush 255, 3) := mm_dk kX12_damage_0 7 rfl
theorem dX12_damage_15 : decode cX12_damage 15 = .ok (.invokestatic 227, 3) := mm_dk kX12_damage_0 8 rfl
theorem dX12_damage_18 : decode cX12_damage 18 = .ok (.ifCond .ne 9, 3) := mm_dk kX12_damage_0 9 rfl
theorem dX12_damage_21 : decode cX12_damage 21 = .ok (.aload_n 0, 1) := mm_dk kX12_damage_0 10 rfl
theorem dX12_damage_22 : decode cX12_damage 22 = .ok (.iconst (-1), 1) := mm_dk kX12_damage_0 11 rfl
theorem dX12_damage_23 : decode cX12_damage 23 = .ok (.invokevirtual 231, 3) := mm_dk kX12_damage_0 12 rfl
theorem dX12_damage_26 : decode cX12_damage 26 = .ok (.ireturn, 1) := mm_dk kX12_damage_0 13 rfl
theorem dX12_damage_27 : decode cX12_damage 27 = .ok (.aload_n 0, 1) := mm_dk kX12_damage_0 14 rfl
theorem dX12_damage_28 : decode cX12_damage 28 = .ok (.getfield 99, 3) := mm_dk kX12_damage_0 15 rfl
theorem dX12_damage_31 : decode cX12_damage 31 = .ok (.sipush 250, 3) := mm_dk kX12_damage_0 16 rfl
theorem dX12_damage_34 : decode cX12_damage 34 = .ok (.iload_n 1, 1) := mm_dk kX12_damage_0 17 rfl
theorem dX12_damage_35 : decode cX12_damage 35 = .ok (.imul, 1) := mm_dk kX12_damage_0 18 rfl
theorem dX12_damage_36 : decode cX12_damage 36 = .ok (.iload_n 2, 1) := mm_dk kX12_damage_0 19 rfl
theorem dX12_damage_37 : decode cX12_damage 37 = .ok (.iadd, 1) := mm_dk kX12_damage_0 20 rfl
theorem dX12_damage_38 : decode cX12_damage 38 = .ok (.iaload, 1) := mm_dk kX12_damage_0 21 rfl
theorem dX12_damage_39 : decode cX12_damage 39 = .ok (.iconst 1, 1) := mm_dk kX12_damage_0 22 rfl
theorem dX12_damage_40 : decode cX12_damage 40 = .ok (.isub, 1) := mm_dk kX12_damage_0 23 rfl
theorem dX12_damage_41 : decode cX12_damage 41 = .ok (.istore 5, 2) := mm_dk kX12_damage_0 24 rfl
theorem dX12_damage_43 : decode cX12_damage 43 = .ok (.iload 5, 2) := mm_dk kX12_damage_0 25 rfl
theorem dX12_damage_45 : decode cX12_damage 45 = .ok (.ifCond .ge 10, 3) := mm_dk kX12_damage_0 26 rfl
theorem dX12_damage_48 : decode cX12_damage 48 = .ok (.aload_n 0, 1) := mm_dk kX12_damage_0 27 rfl
theorem dX12_damage_49 : decode cX12_damage 49 = .ok (.bipush (-2), 2) := mm_dk kX12_damage_0 28 rfl
theorem dX12_damage_51 : decode cX12_damage 51 = .ok (.invokevirtual 231, 3) := mm_dk kX12_damage_0 29 rfl
theorem dX12_damage_54 : decode cX12_damage 54 = .ok (.ireturn, 1) := mm_dk kX12_damage_0 30 rfl
theorem dX12_damage_55 : decode cX12_damage 55 = .ok (.iload_n 3, 1) := mm_dk kX12_damage_0 31 rfl
theorem dX12_damage_56 : decode cX12_damage 56 = .ok (.iconst 0, 1) := mm_dk kX12_damage_0 32 rfl
theorem dX12_damage_57 : decode cX12_damage 57 = .ok (.aload_n 0, 1) := mm_dk kX12_damage_0 33 rfl
theorem dX12_damage_58 : decode cX12_damage 58 = .ok (.getfield 102, 3) := mm_dk kX12_damage_0 34 rfl
theorem dX12_damage_61 : decode cX12_damage 61 = .ok (.iload 5, 2) := mm_dk kX12_damage_0 35 rfl
theorem dX12_damage_63 : decode cX12_damage 63 = .ok (.iaload, 1) := mm_dk kX12_damage_0 36 rfl
theorem dX12_damage_64 : decode cX12_damage 64 = .ok (.iconst 1, 1) := mm_dk kX12_damage_0 37 rfl
theorem dX12_damage_65 : decode cX12_damage 65 = .ok (.isub, 1) := mm_dk kX12_damage_0 38 rfl
theorem dX12_damage_66 : decode cX12_damage 66 = .ok (.invokestatic 227, 3) := mm_dk kX12_damage_0 39 rfl
set_option maxRecDepth 100000 in
theorem kX12_damage_1 : ([(69, .ifCond .ne 10, 3), (72, .aload_n 0, 1), (73, .bipush (-4), 2), (75, .invokevirtual 231, 3), (78, .ireturn, 1), (79, .aload_n 0, 1), (80, .getfield 109, 3), (83, .bipush 64, 2), (85, .iload 5, 2), (87, .imul, 1), (88, .iload_n 3, 1), (89, .iadd, 1), (90, .aload_n 0, 1), (91, .getfield 105, 3), (94, .iload 5, 2), (96, .baload, 1), (97, .ifCond .eq 21, 3), (100, .aload_n 0, 1), (101, .getfield 109, 3), (104, .bipush 64, 2), (106, .iload 5, 2), (108, .imul, 1), (109, .iload_n 3, 1), (110, .iadd, 1), (111, .iaload, 1), (112, .iload 4, 2), (114, .ixor, 1), (115, .goto 19, 3), (118, .aload_n 0, 1), (119, .getfield 109, 3), (122, .bipush 64, 2), (124, .iload 5, 2), (126, .imul, 1), (127, .iload_n 3, 1), (128, .iadd, 1), (129, .iaload, 1), (130, .iload 4, 2), (132, .ixor, 1), (133, .i2b, 1), (134, .iastore, 1)] : List (Nat × Instr × Nat)).all (fun x => decide (decode cX12_damage x.1 = .ok x.2)) = true := by decide +kernel
theorem dX12_damage_69 : decode cX12_damage 69 = .ok (.ifCond .ne 10, 3) := mm_dk kX12_damage_1 0 rfl
theorem dX12_damage_72 : decode cX12_damage 72 = .ok (.aload_n 0, 1) := mm_dk kX12_damage_1 1 rfl
theorem dX12_damage_73 : decode cX12_damage 73 = .ok (.bipush (-4), 2) := mm_dk kX12_damage_1 2 rfl
theorem dX12_damage_75 : decode cX12_damage 75 = .ok (.invokevirtual 231, 3) := mm_dk kX12_damage_1 3 rfl
theorem dX12_damage_78 : decode cX12_damage 78 = .ok (.ireturn, 1) := mm_dk kX12_damage_1 4 rfl
theorem dX12_damage_79 : decode cX12_damage 79 = .ok (.aload_n 0, 1) := mm_dk kX12_damage_1 5 rfl
theorem dX12_damage_80 : decode cX12_damage 80 = .ok (.getfield 109, 3) := mm_dk kX12_damage_1 6 rfl
theorem dX12_damage_83 : decode cX12_damage 83 = .ok (.bipush 64, 2) := mm_dk kX12_damage_1 7 rfl
theorem dX12_damage_85 : decode cX12_damage 85 = .ok (.iload 5, 2) := mm_dk kX12_damage_1 8 rfl
theorem dX12_damage_87 : decode cX12_damage 87 = .ok (.imul, 1) := mm_dk kX12_damage_1 9 rfl
theorem dX12_damage_88 : decode cX12_damage 88 = .ok (.iload_n 3, 1) := mm_dk kX12_damage_1 10 rfl
theorem dX12_damage_89 : decode cX12_damage 89 = .ok (.iadd, 1) := mm_dk kX12_damage_1 11 rfl
theorem dX12_damage_90 : decode cX12_damage 90 = .ok (.aload_n 0, 1) := mm_dk kX12_damage_1 12 rfl
theorem dX12_damage_91 : decode cX12_damage 91 = .ok (.getfield 105, 3) := mm_dk kX12_damage_1 13 rfl
theorem dX12_damage_94 : decode cX12_damage 94 = .ok (.iload 5, 2) := mm_dk kX12_damage_1 14 rfl
theorem dX12_damage_96 : decode cX12_damage 96 = .ok (.baload, 1) := mm_dk kX12_damage_1 15 rfl
theorem dX12_damage_97 : decode cX12_damage 97 = .ok (.ifCond .eq 21, 3) := mm_dk kX12_damage_1 16 rfl
theorem dX12_damage_100 : decode cX12_damage 100 = .ok (.aload_n 0, 1) := mm_dk kX12_damage_1 17 rfl
theorem dX12_damage_101 : decode cX12_damage 101 = .ok (.getfield 109, 3) := mm_dk kX12_damage_1 18 rfl
theorem dX12_damage_104 : decode cX12_damage 104 = .ok (.bipush 64, 2) := mm_dk kX12_damage_1 19 rfl
theorem dX12_damage_106 : decode cX12_damage 106 = .ok (.iload 5, 2) := mm_dk kX12_damage_1 20 rfl
theorem dX12_damage_108 : decode cX12_damage 108 = .ok (.imul, 1) := mm_dk kX12_damage_1 21 rfl
theorem dX12_damage_109 : decode cX12_damage 109 = .ok (.iload_n 3, 1) := mm_dk kX12_damage_1 22 rfl
theorem dX12_damage_110 : decode cX12_damage 110 = .ok (.iadd, 1) := mm_dk kX12_damage_1 23 rfl
theorem dX12_damage_111 : decode cX12_damage 111 = .ok (.iaload, 1) := mm_dk kX12_damage_1 24 rfl
theorem dX12_damage_112 : decode cX12_damage 112 = .ok (.iload 4, 2) := mm_dk kX12_damage_1 25 rfl
theorem dX12_damage_114 : decode cX12_damage 114 = .ok (.ixor, 1) := mm_dk kX12_damage_1 26 rfl
theorem dX12_damage_115 : decode cX12_damage 115 = .ok (.goto 19, 3) := mm_dk kX12_damage_1 27 rfl
theorem dX12_damage_118 : decode cX12_damage 118 = .ok (.aload_n 0, 1) := mm_dk kX12_damage_1 28 rfl
theorem dX12_damage_119 : decode cX12_damage 119 = .ok (.getfield 109, 3) := mm_dk kX12_damage_1 29 rfl
theorem dX12_damage_122 : decode cX12_damage 122 = .ok (.bipush 64, 2) := mm_dk kX12_damage_1 30 rfl
theorem dX12_damage_124 : decode cX12_damage 124 = .ok (.iload 5, 2) := mm_dk kX12_damage_1 31 rfl
theorem dX12_damage_126 : decode cX12_damage 126 = .ok (.imul, 1) := mm_dk kX12_damage_1 32 rfl
theorem dX12_damage_127 : decode cX12_damage 127 = .ok (.iload_n 3, 1) := mm_dk kX12_damage_1 33 rfl
theorem dX12_damage_128 : decode cX12_damage 128 = .ok (.iadd, 1) := mm_dk kX12_damage_1 34 rfl
theorem dX12_damage_129 : decode cX12_damage 129 = .ok (.iaload, 1) := mm_dk kX12_damage_1 35 rfl
theorem dX12_damage_130 : decode cX12_damage 130 = .ok (.iload 4, 2) := mm_dk kX12_damage_1 36 rfl
theorem dX12_damage_132 : decode cX12_damage 132 = .ok (.ixor, 1) := mm_dk kX12_damage_1 37 rfl
theorem dX12_damage_133 : decode cX12_damage 133 = .ok (.i2b, 1) := mm_dk kX12_damage_1 38 rfl
theorem dX12_damage_134 : decode cX12_damage 134 = .ok (.iastore, 1) := mm_dk kX12_damage_1 39 rfl
set_option maxRecDepth 100000 in
theorem kX12_damage_2 : ([(135, .aload_n 0, 1), (136, .aload_n 0, 1), (137, .getfield 109, 3), (140, .bipush 64, 2), (142, .iload 5, 2), (144, .imul, 1), (145, .iload_n 3, 1), (146, .iadd, 1), (147, .iaload, 1), (148, .sipush 255, 3), (151, .iand, 1), (152, .invokevirtual 235, 3), (155, .ireturn, 1)] : List (Nat × Instr × Nat)).all (fun x => decide (decode cX12_damage x.1 = .ok x.2)) = true := by decide +kernel
theorem dX12_damage_135 : decode cX12_damage 135 = .ok (.aload_n 0, 1) := mm_dk kX12_damage_2 0 rfl
theorem dX12_damage_136 : decode cX12_damage 136 = .ok (.aload_n 0, 1) := mm_dk kX12_damage_2 1 rfl
theorem dX12_damage_137 : decode cX12_damage 137 = .ok (.getfield 109, 3) := mm_dk kX12_damage_2 2 rfl
theorem dX12_damage_140 : decode cX12_damage 140 = .ok (.bipush 64, 2) := mm_dk kX12_damage_2 3 rfl
theorem dX12_damage_142 : decode cX12_damage 142 = .ok (.iload 5, 2) := mm_dk kX12_damage_2 4 rfl
theorem dX12_damage_144 : decode cX12_damage 144 = .ok (.imul, 1) := mm_dk kX12_damage_2 5 rfl
theorem dX12_damage_145 : decode cX12_damage 145 = .ok (.iload_n 3, 1) := mm_dk kX12_damage_2 6 rfl
theorem dX12_damage_146 : decode cX12_damage 146 = .ok (.iadd, 1) := mm_dk kX12_damage_2 7 rfl
theorem dX12_damage_147 : decode cX12_damage 147 = .ok (.iaload, 1) := mm_dk kX12_damage_2 8 rfl
theorem dX12_damage_148 : decode cX12_damage 148 = .ok (.sipush 255, 3) := mm_dk kX12_damage_2 9 rfl
theorem dX12_damage_151 : decode cX12_damage 151 = .ok (.iand, 1) := mm_dk kX12_damage_2 10 rfl
theorem dX12_damage_152 : decode cX12_damage 152 = .ok (.invokevirtual 235, 3) := mm_dk kX12_damage_2 11 rfl
theorem dX12_damage_155 : decode cX12_damage 155 = .ok (.ireturn, 1) := mm_dk kX12_damage_2 12 rfl
set_option maxRecDepth 100000 in
theorem kX12_resum_0 : ([(0, .aload_n 0, 1), (1, .iload_n 1, 1), (2, .iload_n 2, 1), (3, .invokevirtual 395, 3), (6, .ifCond .ne 9, 3), (9, .aload_n 0, 1), (10, .iconst (-1), 1), (11, .invokevirtual 231, 3), (14, .ireturn, 1), (15, .aload_n 0, 1), (16, .getfield 99, 3), (19, .sipush 250, 3), (22, .iload_n 1, 1), (23, .imul, 1), (24, .iload_n 2, 1), (25, .iadd, 1), (26, .iaload, 1), (27, .iconst 1, 1), (28, .isub, 1), (29, .istore_n 3, 1), (30, .iload_n 3, 1), (31, .ifCond .lt 21, 3), (34, .aload_n 0, 1), (35, .getfield 105, 3), (38, .iload_n 3, 1), (39, .baload, 1), (40, .ifCond .ne 12, 3), (43, .aload_n 0, 1), (44, .getfield 102, 3), (47, .iload_n 3, 1), (48, .iaload, 1), (49, .ifCond .ne 10, 3), (52, .aload_n 0, 1), (53, .bipush (-2), 2), (55, .invokevirtual 231, 3), (58, .ireturn, 1), (59, .aload_n 0, 1), (60, .getfield 102, 3), (63, .iload_n 3, 1), (64, .iaload, 1)] : List (Nat × Instr × Nat)).all (fun x => decide (decode cX12_resum x.1 = .ok x.2)) = true := by decide +kernel
theorem dX12_resum_0 : decode cX12_resum 0 = .ok (.aload_n 0, 1) := mm_dk kX12_resum_0 0 rfl
theorem dX12_resum_1 : decode cX12_resum 1 = .ok (.iload_n 1, 1) := mm_dk kX12_resum_0 1 rfl
theorem dX12_resum_2 : decode cX12_resum 2 = .ok (.iload_n 2, 1) := mm_dk kX12_resum_0 2 rfl
theorem dX12_resum_3 : decode cX12_resum 3 = .ok (.invokevirtual 395, 3) := mm_dk kX12_resum_0 3 rfl
theorem dX12_resum_6 : decode cX12_resum 6 = .ok (.ifCond .ne 9, 3) := mm_dk kX12_resum_0 4 rfl
theorem dX12_resum_9 : decode cX12_resum 9 = .ok (.aload_n 0, 1) := mm_dk kX12_resum_0 5 rfl
theorem dX12_resum_10 : decode cX12_resum 10 = .ok (.iconst (-1), 1) := mm_dk kX12_resum_0 6 rfl
theorem dX12_resum_11 : decode cX12_resum 11 = .ok (.invokevirtual 231, 3) := mm_dk kX12_resum_0 7 rfl
theorem dX12_resum_14 : decode cX12_resum 14 = .ok (.ireturn, 1) := mm_dk kX12_resum_0 8 rfl
theorem dX12_resum_15 : decode cX12_resum 15 = .ok (.aload_n 0, 1) := mm_dk kX12_resum_0 9 rfl
theorem dX12_resum_16 : decode cX12_resum 16 = .ok (.getfield 99, 3) := mm_dk kX12_resum_0 10 rfl
theorem dX12_resum_19 : decode cX12_resum 19 = .ok (.sipush 250, 3) := mm_dk kX12_resum_0 11 rfl
theorem dX12_resum_22 : decode cX12_resum 22 = .ok (.iload_n 1, 1) := mm_dk kX12_resum_0 12 rfl
theorem dX12_resum_23 : decode cX12_resum 23 = .ok (.imul, 1) := mm_dk kX12_resum_0 13 rfl
theorem dX12_resum_24 : decode cX12_resum 24 = .ok (.iload_n 2, 1) := mm_dk kX12_resum_0 14 rfl
theorem dX12_resum_25 : decode cX12_resum 25 = .ok (.iadd, 1) := mm_dk kX12_resum_0 15 rfl
theorem dX12_resum_26 : decode cX12_resum 26 = .ok (.iaload, 1) := mm_dk kX12_resum_0 16 rfl
theorem dX12_resum_27 : decode cX12_resum 27 = .ok (.iconst 1, 1) := mm_dk kX12_resum_0 17 rfl
theorem dX12_resum_28 : decode cX12_resum 28 = .ok (.isub, 1) := mm_dk kX12_resum_0 18 rfl
theorem dX12_resum_29 : decode cX12_resum 29 = .ok (.istore_n 3, 1) := mm_dk kX12_resum_0 19 rfl
theorem dX12_resum_30 : decode cX12_resum 30 = .ok (.iload_n 3, 1) := mm_dk kX12_resum_0 20 rfl
theorem dX12_resum_31 : decode cX12_resum 31 = .ok (.ifCond .lt 21, 3) := mm_dk kX12_resum_0 21 rfl
theorem dX12_resum_34 : decode cX12_resum 34 = .ok (.aload_n 0, 1) := mm_dk kX12_resum_0 22 rfl
theorem dX12_resum_35 : decode cX12_resum 35 = .ok (.getfield 105, 3) := mm_dk kX12_resum_0 23 rfl
theorem dX12_resum_38 : decode cX12_resum 38 = .ok (.iload_n 3, 1) := mm_dk kX12_resum_0 24 rfl
theorem dX12_resum_39 : decode cX12_resum 39 = .ok (.baload, 1) := mm_dk kX12_resum_0 25 rfl
theorem dX12_resum_40 : decode cX12_resum 40 = .ok (.ifCond .ne 12, 3) := mm_dk kX12_resum_0 26 rfl
theorem dX12_resum_43 : decode cX12_resum 43 = .ok (.aload_n 0, 1) := mm_dk kX12_resum_0 27 rfl
theorem dX12_resum_44 : decode cX12_resum 44 = .ok (.getfield 102, 3) := mm_dk kX12_resum_0 28 rfl
theorem dX12_resum_47 : decode cX12_resum 47 = .ok (.iload_n 3, 1) := mm_dk kX12_resum_0 29 rfl
theorem dX12_resum_48 : decode cX12_resum 48 = .ok (.iaload, 1) := mm_dk kX12_resum_0 30 rfl
theorem dX12_resum_49 : decode cX12_resum 49 = .ok (.ifCond .ne 10, 3) := mm_dk kX12_resum_0 31 rfl
theorem dX12_resum_52 : decode cX12_resum 52 = .ok (.aload_n 0, 1) := mm_dk kX12_resum_0 32 rfl
theorem dX12_resum_53 : decode cX12_resum 53 = .ok (.bipush (-2), 2) := mm_dk kX12_resum_0 33 rfl
theorem dX12_resum_55 : decode cX12_resum 55 = .ok (.invokevirtual 231, 3) := mm_dk kX12_resum_0 34 rfl
theorem dX12_resum_58 : decode cX12_resum 58 = .ok (.ireturn, 1) := mm_dk kX12_resum_0 35 rfl
theorem dX12_resum_59 : decode cX12_resum 59 = .ok (.aload_n 0, 1) := mm_dk kX12_resum_0 36 rfl
theorem dX12_resum_60 : decode cX12_resum 60 = .ok (.getfield 102, 3) := mm_dk kX12_resum_0 37 rfl
theorem dX12_resum_63 : decode cX12_resum 63 = .ok (.iload_n 3, 1) := mm_dk kX12_resum_0 38 rfl
theorem dX12_resum_64 : decode cX12_resum 64 = .ok (.iaload, 1) := mm_dk kX12_resum_0 39 rfl
set_option maxRecDepth 100000 in
theorem kX12_resum_1 : ([(65, .iconst 1, 1), (66, .isub, 1), (67, .istore 4, 2), (69, .aload_n 0, 1), (70, .getfield 109, 3), (73, .bipush 64, 2), (75, .iload_n 3, 1), (76, .imul, 1), (77, .iload 4, 2), (79, .iadd, 1), (80, .aload_n 0, 1), (81, .iload_n 3, 1), (82, .iload 4, 2), (84, .invokevirtual 366, 3), (87, .iastore, 1), (88, .aload_n 0, 1), (89, .aload_n 0, 1), (90, .getfield 109, 3), (93, .bipush 64, 2), (95, .iload_n 3, 1), (96, .imul, 1), (97, .iload 4, 2), (99, .iadd, 1), (100, .iaload, 1), (101, .sipush 255, 3), (104, .iand, 1), (105, .invokevirtual 235, 3), (108, .ireturn, 1)] : List (Nat × Instr × Nat)).all (fun x => decide (decode cX12_resum x.1 = .ok x.2)) = true := by decide +kernel
theorem dX12_resum_65 : decode cX12_resum 65 = .ok (.iconst 1, 1) := mm_dk kX12_resum_1 0 rfl
theorem dX12_resum_66 : decode cX12_resum 66 = .ok (.isub, 1) := mm_dk kX12_resum_1 1 rfl
theorem dX12_resum_67 : decode cX12_resum 67 = .ok (.istore 4, 2) := mm_dk kX12_resum_1 2 rfl
theorem dX12_resum_69 : decode cX12_resum 69 = .ok (.aload_n 0, 1) := mm_dk kX12_resum_1 3 rfl
theorem dX12_resum_70 : decode cX12_resum 70 = .ok (.getfield 109, 3) := mm_dk kX12_resum_1 4 rfl
theorem dX12_resum_73 : decode cX12_resum 73 = .ok (.bipush 64, 2) := mm_dk kX12_resum_1 5 rfl
theorem dX12_resum_75 : decode cX12_resum 75 = .ok (.iload_n 3, 1) := mm_dk kX12_resum_1 6 rfl
theorem dX12_resum_76 : decode cX12_resum 76 = .ok (.imul, 1) := mm_dk kX12_resum_1 7 rfl
theorem dX12_resum_77 : decode cX12_resum 77 = .ok (.iload 4, 2) := mm_dk kX12_resum_1 8 rfl
theorem dX12_resum_79 : decode cX12_resum 79 = .ok (.iadd, 1) := mm_dk kX12_resum_1 9 rfl
theorem dX12_resum_80 : decode cX12_resum 80 = .ok (.aload_n 0, 1) := mm_dk kX12_resum_1 10 rfl
theorem dX12_resum_81 : decode cX12_resum 81 = .ok (.iload_n 3, 1) := mm_dk kX12_resum_1 11 rfl
theorem dX12_resum_82 : decode cX12_resum 82 = .ok (.iload 4, 2) := mm_dk kX12_resum_1 12 rfl
theorem dX12_resum_84 : decode cX12_resum 84 = .ok (.invokevirtual 366, 3) := mm_dk kX12_resum_1 13 rfl
theorem dX12_resum_87 : decode cX12_resum 87 = .ok (.iastore, 1) := mm_dk kX12_resum_1 14 rfl
theorem dX12_resum_88 : decode cX12_resum 88 = .ok (.aload_n 0, 1) := mm_dk kX12_resum_1 15 rfl
theorem dX12_resum_89 : decode cX12_resum 89 = .ok (.aload_n 0, 1) := mm_dk kX12_resum_1 16 rfl
theorem dX12_resum_90 : decode cX12_resum 90 = .ok (.getfield 109, 3) := mm_dk kX12_resum_1 17 rfl
theorem dX12_resum_93 : decode cX12_resum 93 = .ok (.bipush 64, 2) := mm_dk kX12_resum_1 18 rfl
theorem dX12_resum_95 : decode cX12_resum 95 = .ok (.iload_n 3, 1) := mm_dk kX12_resum_1 19 rfl
theorem dX12_resum_96 : decode cX12_resum 96 = .ok (.imul, 1) := mm_dk kX12_resum_1 20 rfl
theorem dX12_resum_97 : decode cX12_resum 97 = .ok (.iload 4, 2) := mm_dk kX12_resum_1 21 rfl
theorem dX12_resum_99 : decode cX12_resum 99 = .ok (.iadd, 1) := mm_dk kX12_resum_1 22 rfl
theorem dX12_resum_100 : decode cX12_resum 100 = .ok (.iaload, 1) := mm_dk kX12_resum_1 23 rfl
theorem dX12_resum_101 : decode cX12_resum 101 = .ok (.sipush 255, 3) := mm_dk kX12_resum_1 24 rfl
theorem dX12_resum_104 : decode cX12_resum 104 = .ok (.iand, 1) := mm_dk kX12_resum_1 25 rfl
theorem dX12_resum_105 : decode cX12_resum 105 = .ok (.invokevirtual 235, 3) := mm_dk kX12_resum_1 26 rfl
theorem dX12_resum_108 : decode cX12_resum 108 = .ok (.ireturn, 1) := mm_dk kX12_resum_1 27 rfl
set_option maxRecDepth 100000 in
theorem kX12_shorts_0 : ([(0, .aload_n 0, 1), (1, .iload_n 1, 1), (2, .iload_n 2, 1), (3, .invokevirtual 395, 3), (6, .ifCond .ne 9, 3), (9, .aload_n 0, 1), (10, .iconst (-1), 1), (11, .invokevirtual 231, 3), (14, .ireturn, 1), (15, .aload_n 0, 1), (16, .getfield 99, 3), (19, .sipush 250, 3), (22, .iload_n 1, 1), (23, .imul, 1), (24, .iload_n 2, 1), (25, .iadd, 1), (26, .iaload, 1), (27, .iconst 1, 1), (28, .isub, 1), (29, .istore_n 3, 1), (30, .iload_n 3, 1), (31, .ifCond .lt 12, 3), (34, .aload_n 0, 1), (35, .getfield 105, 3), (38, .iload_n 3, 1), (39, .baload, 1), (40, .ifCond .eq 10, 3), (43, .aload_n 0, 1), (44, .bipush (-2), 2), (46, .invokevirtual 231, 3), (49, .ireturn, 1), (50, .aload_n 0, 1), (51, .aload_n 0, 1), (52, .getfield 102, 3), (55, .iload_n 3, 1), (56, .iaload, 1), (57, .iconst 1, 1), (58, .invokevirtual 352, 3), (61, .istore 4, 2), (63, .iconst 0, 1)] : List (Nat × Instr × Nat)).all (fun x => decide (decode cX12_shorts x.1 = .ok x.2)) = true := by decide +kernel
theorem dX12_shorts_0 : decode cX12_shorts 0 = .ok (.aload_n 0, 1) := mm_dk kX12_shorts_0 0 rfl
theorem dX12_shorts_1 : decode cX12_shorts 1 = .ok (.iload_n 1, 1) := mm_dk kX12_shorts_0 1 rfl
theorem dX12_shorts_2 : decode cX12_shorts 2 = .ok (.iload_n 2, 1) := mm_dk kX12_shorts_0 2 rfl
theorem dX12_shorts_3 : decode cX12_shorts 3 = .ok (.invokevirtual 395, 3) := mm_dk kX12_shorts_0 3 rfl
theorem dX12_shorts_6 : decode cX12_shorts 6 = .ok (.ifCond .ne 9, 3) := mm_dk kX12_shorts_0 4 rfl
theorem dX12_shorts_9 : decode cX12_shorts 9 = .ok (.aload_n 0, 1) := mm_dk kX12_shorts_0 5 rfl
theorem dX12_shorts_10 : decode cX12_shorts 10 = .ok (.iconst (-1), 1) := mm_dk kX12_shorts_0 6 rfl
theorem dX12_shorts_11 : decode cX12_shorts 11 = .ok (.invokevirtual 231, 3) := mm_dk kX12_shorts_0 7 rfl
theorem dX12_shorts_14 : decode cX12_shorts 14 = .ok (.ireturn, 1) := mm_dk kX12_shorts_0 8 rfl
theorem dX12_shorts_15 : decode cX12_shorts 15 = .ok (.aload_n 0, 1) := mm_dk kX12_shorts_0 9 rfl
theorem dX12_shorts_16 : decode cX12_shorts 16 = .ok (.getfield 99, 3) := mm_dk kX12_shorts_0 10 rfl
theorem dX12_shorts_19 : decode cX12_shorts 19 = .ok (.sipush 250, 3) := mm_dk kX12_shorts_0 11 rfl
theorem dX12_shorts_22 : decode cX12_shorts 22 = .ok (.iload_n 1, 1) := mm_dk kX12_shorts_0 12 rfl
theorem dX12_shorts_23 : decode cX12_shorts 23 = .ok (.imul, 1) := mm_dk kX12_shorts_0 13 rfl
theorem dX12_shorts_24 : decode cX12_shorts 24 = .ok (.iload_n 2, 1) := mm_dk kX12_shorts_0 14 rfl
theorem dX12_shorts_25 : decode cX12_shorts 25 = .ok (.iadd, 1) := mm_dk kX12_shorts_0 15 rfl
theorem dX12_shorts_26 : decode cX12_shorts 26 = .ok (.iaload, 1) := mm_dk kX12_shorts_0 16 rfl
theorem dX12_shorts_27 : decode cX12_shorts 27 = .ok (.iconst 1, 1) := mm_dk kX12_shorts_0 17 rfl
theorem dX12_shorts_28 : decode cX12_shorts 28 = .ok (.isub, 1) := mm_dk kX12_shorts_0 18 rfl
theorem dX12_shorts_29 : decode cX12_shorts 29 = .ok (.istore_n 3, 1) := mm_dk kX12_shorts_0 19 rfl
theorem dX12_shorts_30 : decode cX12_shorts 30 = .ok (.iload_n 3, 1) := mm_dk kX12_shorts_0 20 rfl
theorem dX12_shorts_31 : decode cX12_shorts 31 = .ok (.ifCond .lt 12, 3) := mm_dk kX12_shorts_0 21 rfl
theorem dX12_shorts_34 : decode cX12_shorts 34 = .ok (.aload_n 0, 1) := mm_dk kX12_shorts_0 22 rfl
theorem dX12_shorts_35 : decode cX12_shorts 35 = .ok (.getfield 105, 3) := mm_dk kX12_shorts_0 23 rfl
theorem dX12_shorts_38 : decode cX12_shorts 38 = .ok (.iload_n 3, 1) := mm_dk kX12_shorts_0 24 rfl
theorem dX12_shorts_39 : decode cX12_shorts 39 = .ok (.baload, 1) := mm_dk kX12_shorts_0 25 rfl
theorem dX12_shorts_40 : decode cX12_shorts 40 = .ok (.ifCond .eq 10, 3) := mm_dk kX12_shorts_0 26 rfl
theorem dX12_shorts_43 : decode cX12_shorts 43 = .ok (.aload_n 0, 1) := mm_dk kX12_shorts_0 27 rfl
theorem dX12_shorts_44 : decode cX12_shorts 44 = .ok (.bipush (-2), 2) := mm_dk kX12_shorts_0 28 rfl
theorem dX12_shorts_46 : decode cX12_shorts 46 = .ok (.invokevirtual 231, 3) := mm_dk kX12_shorts_0 29 rfl
theorem dX12_shorts_49 : decode cX12_shorts 49 = .ok (.ireturn, 1) := mm_dk kX12_shorts_0 30 rfl
theorem dX12_shorts_50 : decode cX12_shorts 50 = .ok (.aload_n 0, 1) := mm_dk kX12_shorts_0 31 rfl
theorem dX12_shorts_51 : decode cX12_shorts 51 = .ok (.aload_n 0, 1) := mm_dk kX12_shorts_0 32 rfl
theorem dX12_shorts_52 : decode cX12_shorts 52 = .ok (.getfield 102, 3) := mm_dk kX12_shorts_0 33 rfl
theorem dX12_shorts_55 : decode cX12_shorts 55 = .ok (.iload_n 3, 1) := mm_dk kX12_shorts_0 34 rfl
theorem dX12_shorts_56 : decode cX12_shorts 56 = .ok (.iaload, 1) := mm_dk kX12_shorts_0 35 rfl
theorem dX12_shorts_57 : decode cX12_shorts 57 = .ok (.iconst 1, 1) := mm_dk kX12_shorts_0 36 rfl
theorem dX12_shorts_58 : decode cX12_shorts 58 = .ok (.invokevirtual 352, 3) := mm_dk kX12_shorts_0 37 rfl
theorem dX12_shorts_61 : decode cX12_shorts 61 = .ok (.istore 4, 2) := mm_dk kX12_shorts_0 38 rfl
theorem dX12_shorts_63 : decode cX12_shorts 63 = .ok (.iconst 0, 1) := mm_dk kX12_shorts_0 39 rfl
set_option maxRecDepth 100000 in
theorem kX12_shorts_1 : ([(64, .istore 5, 2), (66, .iload 5, 2), (68, .aload_n 0, 1), (69, .getfield 102, 3), (72, .iload_n 3, 1), (73, .iaload, 1), (74, .if_icmp .ge 34, 3), (77, .aload_n 0, 1), (78, .getfield 109, 3), (81, .bipush 64, 2), (83, .iload 4, 2), (85, .imul, 1), (86, .iload 5, 2), (88, .iadd, 1), (89, .aload_n 0, 1), (90, .getfield 109, 3), (93, .bipush 64, 2), (95, .iload_n 3, 1), (96, .imul, 1), (97, .iload 5, 2), (99, .iadd, 1), (100, .iaload, 1), (101, .iastore, 1), (102, .iinc 5 1, 3), (105, .goto (-39), 3), (108, .aload_n 0, 1), (109, .getfield 99, 3), (112, .sipush 250, 3), (115, .iload_n 1, 1), (116, .imul, 1), (117, .iload_n 2, 1), (118, .iadd, 1), (119, .iload 4, 2), (121, .iconst 1, 1), (122, .iadd, 1), (123, .iastore, 1), (124, .aload_n 0, 1), (125, .iconst 1, 1), (126, .invokevirtual 235, 3), (129, .ireturn, 1)] : List (Nat × Instr × Nat)).all (fun x => decide (decode cX12_shorts x.1 = .ok x.2)) = true := by decide +kernel
theorem dX12_shorts_64 : decode cX12_shorts 64 = .ok (.istore 5, 2) := mm_dk kX12_shorts_1 0 rfl
theorem dX12_shorts_66 : decode cX12_shorts 66 = .ok (.iload 5, 2) := mm_dk kX12_shorts_1 1 rfl
theorem dX12_shorts_68 : decode cX12_shorts 68 = .ok (.aload_n 0, 1) := mm_dk kX12_shorts_1 2 rfl
theorem dX12_shorts_69 : decode cX12_shorts 69 = .ok (.getfield 102, 3) := mm_dk kX12_shorts_1 3 rfl
theorem dX12_shorts_72 : decode cX12_shorts 72 = .ok (.iload_n 3, 1) := mm_dk kX12_shorts_1 4 rfl
theorem dX12_shorts_73 : decode cX12_shorts 73 = .ok (.iaload, 1) := mm_dk kX12_shorts_1 5 rfl
theorem dX12_shorts_74 : decode cX12_shorts 74 = .ok (.if_icmp .ge 34, 3) := mm_dk kX12_shorts_1 6 rfl
theorem dX12_shorts_77 : decode cX12_shorts 77 = .ok (.aload_n 0, 1) := mm_dk kX12_shorts_1 7 rfl
theorem dX12_shorts_78 : decode cX12_shorts 78 = .ok (.getfield 109, 3) := mm_dk kX12_shorts_1 8 rfl
theorem dX12_shorts_81 : decode cX12_shorts 81 = .ok (.bipush 64, 2) := mm_dk kX12_shorts_1 9 rfl
theorem dX12_shorts_83 : decode cX12_shorts 83 = .ok (.iload 4, 2) := mm_dk kX12_shorts_1 10 rfl
theorem dX12_shorts_85 : decode cX12_shorts 85 = .ok (.imul, 1) := mm_dk kX12_shorts_1 11 rfl
theorem dX12_shorts_86 : decode cX12_shorts 86 = .ok (.iload 5, 2) := mm_dk kX12_shorts_1 12 rfl
theorem dX12_shorts_88 : decode cX12_shorts 88 = .ok (.iadd, 1) := mm_dk kX12_shorts_1 13 rfl
theorem dX12_shorts_89 : decode cX12_shorts 89 = .ok (.aload_n 0, 1) := mm_dk kX12_shorts_1 14 rfl
theorem dX12_shorts_90 : decode cX12_shorts 90 = .ok (.getfield 109, 3) := mm_dk kX12_shorts_1 15 rfl
theorem dX12_shorts_93 : decode cX12_shorts 93 = .ok (.bipush 64, 2) := mm_dk kX12_shorts_1 16 rfl
theorem dX12_shorts_95 : decode cX12_shorts 95 = .ok (.iload_n 3, 1) := mm_dk kX12_shorts_1 17 rfl
theorem dX12_shorts_96 : decode cX12_shorts 96 = .ok (.imul, 1) := mm_dk kX12_shorts_1 18 rfl
theorem dX12_shorts_97 : decode cX12_shorts 97 = .ok (.iload 5, 2) := mm_dk kX12_shorts_1 19 rfl
theorem dX12_shorts_99 : decode cX12_shorts 99 = .ok (.iadd, 1) := mm_dk kX12_shorts_1 20 rfl
theorem dX12_shorts_100 : decode cX12_shorts 100 = .ok (.iaload, 1) := mm_dk kX12_shorts_1 21 rfl
theorem dX12_shorts_101 : decode cX12_shorts 101 = .ok (.iastore, 1) := mm_dk kX12_shorts_1 22 rfl
theorem dX12_shorts_102 : decode cX12_shorts 102 = .ok (.iinc 5 1, 3) := mm_dk kX12_shorts_1 23 rfl
theorem dX12_shorts_105 : decode cX12_shorts 105 = .ok (.goto (-39), 3) := mm_dk kX12_shorts_1 24 rfl
theorem dX12_shorts_108 : decode cX12_shorts 108 = .ok (.aload_n 0, 1) := mm_dk kX12_shorts_1 25 rfl
theorem dX12_shorts_109 : decode cX12_shorts 109 = .ok (.getfield 99, 3) := mm_dk kX12_shorts_1 26 rfl
theorem dX12_shorts_112 : decode cX12_shorts 112 = .ok (.sipush 250, 3) := mm_dk kX12_shorts_1 27 rfl
theorem dX12_shorts_115 : decode cX12_shorts 115 = .ok (.iload_n 1, 1) := mm_dk kX12_shorts_1 28 rfl
theorem dX12_shorts_116 : decode cX12_shorts 116 = .ok (.imul, 1) := mm_dk kX12_shorts_1 29 rfl
theorem dX12_shorts_117 : decode cX12_shorts 117 = .ok (.iload_n 2, 1) := mm_dk kX12_shorts_1 30 rfl
theorem dX12_shorts_118 : decode cX12_shorts 118 = .ok (.iadd, 1) := mm_dk kX12_shorts_1 31 rfl
theorem dX12_shorts_119 : decode cX12_shorts 119 = .ok (.iload 4, 2) := mm_dk kX12_shorts_1 32 rfl
theorem dX12_shorts_121 : decode cX12_shorts 121 = .ok (.iconst 1, 1) := mm_dk kX12_shorts_1 33 rfl
theorem dX12_shorts_122 : decode cX12_shorts 122 = .ok (.iadd, 1) := mm_dk kX12_shorts_1 34 rfl
theorem dX12_shorts_123 : decode cX12_shorts 123 = .ok (.iastore, 1) := mm_dk kX12_shorts_1 35 rfl
theorem dX12_shorts_124 : decode cX12_shorts 124 = .ok (.aload_n 0, 1) := mm_dk kX12_shorts_1 36 rfl
theorem dX12_shorts_125 : decode cX12_shorts 125 = .ok (.iconst 1, 1) := mm_dk kX12_shorts_1 37 rfl
theorem dX12_shorts_126 : decode cX12_shorts 126 = .ok (.invokevirtual 235, 3) := mm_dk kX12_shorts_1 38 rfl
theorem dX12_shorts_129 : decode cX12_shorts 129 = .ok (.ireturn, 1) := mm_dk kX12_shorts_1 39 rfl
set_option maxRecDepth 100000 in
theorem kX12_take_0 : ([(0, .iload_n 2, 1), (1, .istore_n 3, 1), (2, .iload_n 3, 1), (3, .iconst 1, 1), (4, .iadd, 1), (5, .aload_n 0, 1), (6, .getfield 93, 3), (9, .iload_n 1, 1), (10, .iaload, 1), (11, .if_icmp .ge 61, 3), (14, .aload_n 0, 1), (15, .getfield 96, 3), (18, .sipush 250, 3), (21, .iload_n 1, 1), (22, .imul, 1), (23, .iload_n 3, 1), (24, .iadd, 1), (25, .aload_n 0, 1), (26, .getfield 96, 3), (29, .sipush 250, 3), (32, .iload_n 1, 1), (33, .imul, 1), (34, .iload_n 3, 1), (35, .iadd, 1), (36, .iconst 1, 1), (37, .iadd, 1), (38, .iaload, 1), (39, .iastore, 1), (40, .aload_n 0, 1), (41, .getfield 99, 3), (44, .sipush 250, 3), (47, .iload_n 1, 1), (48, .imul, 1), (49, .iload_n 3, 1), (50, .iadd, 1), (51, .aload_n 0, 1), (52, .getfield 99, 3), (55, .sipush 250, 3), (58, .iload_n 1, 1), (59, .imul, 1)] : List (Nat × Instr × Nat)).all (fun x => decide (decode cX12_take x.1 = .ok x.2)) = true := by decide +kernel
theorem dX12_take_0 : decode cX12_take 0 = .ok (.iload_n 2, 1) := mm_dk kX12_take_0 0 rfl
theorem dX12_take_1 : decode cX12_take 1 = .ok (.istore_n 3, 1) := mm_dk kX12_take_0 1 rfl
theorem dX12_take_2 : decode cX12_take 2 = .ok (.iload_n 3, 1) := mm_dk kX12_take_0 2 rfl
theorem dX12_take_3 : decode cX12_take 3 = .ok (.iconst 1, 1) := mm_dk kX12_take_0 3 rfl
theorem dX12_take_4 : decode cX12_take 4 = .ok (.iadd, 1) := mm_dk kX12_take_0 4 rfl
theorem dX12_take_5 : decode cX12_take 5 = .ok (.aload_n 0, 1) := mm_dk kX12_take_0 5 rfl
theorem dX12_take_6 : decode cX12_take 6 = .ok (.getfield 93, 3) := mm_dk kX12_take_0 6 rfl
theorem dX12_take_9 : decode cX12_take 9 = .ok (.iload_n 1, 1) := mm_dk kX12_take_0 7 rfl
theorem dX12_take_10 : decode cX12_take 10 = .ok (.iaload, 1) := mm_dk kX12_take_0 8 rfl
theorem dX12_take_11 : decode cX12_take 11 = .ok (.if_icmp .ge 61, 3) := mm_dk kX12_take_0 9 rfl
theorem dX12_take_14 : decode cX12_take 14 = .ok (.aload_n 0, 1) := mm_dk kX12_take_0 10 rfl
theorem dX12_take_15 : decode cX12_take 15 = .ok (.getfield 96, 3) := mm_dk kX12_take_0 11 rfl
theorem dX12_take_18 : decode cX12_take 18 = .ok (.sipush 250, 3) := mm_dk kX12_take_0 12 rfl
theorem dX12_take_21 : decode cX12_take 21 = .ok (.iload_n 1, 1) := mm_dk kX12_take_0 13 rfl
theorem dX12_take_22 : decode cX12_take 22 = .ok (.imul, 1) := mm_dk kX12_take_0 14 rfl
theorem dX12_take_23 : decode cX12_take 23 = .ok (.iload_n 3, 1) := mm_dk kX12_take_0 15 rfl
theorem dX12_take_24 : decode cX12_take 24 = .ok (.iadd, 1) := mm_dk kX12_take_0 16 rfl
theorem dX12_take_25 : decode cX12_take 25 = .ok (.aload_n 0, 1) := mm_dk kX12_take_0 17 rfl
theorem dX12_take_26 : decode cX12_take 26 = .ok (.getfield 96, 3) := mm_dk kX12_take_0 18 rfl
theorem dX12_take_29 : decode cX12_take 29 = .ok (.sipush 250, 3) := mm_dk kX12_take_0 19 rfl
theorem dX12_take_32 : decode cX12_take 32 = .ok (.iload_n 1, 1) := mm_dk kX12_take_0 20 rfl
theorem dX12_take_33 : decode cX12_take 33 = .ok (.imul, 1) := mm_dk kX12_take_0 21 rfl
theorem dX12_take_34 : decode cX12_take 34 = .ok (.iload_n 3, 1) := mm_dk kX12_take_0 22 rfl
theorem dX12_take_35 : decode cX12_take 35 = .ok (.iadd, 1) := mm_dk kX12_take_0 23 rfl
theorem dX12_take_36 : decode cX12_take 36 = .ok (.iconst 1, 1) := mm_dk kX12_take_0 24 rfl
theorem dX12_take_37 : decode cX12_take 37 = .ok (.iadd, 1) := mm_dk kX12_take_0 25 rfl
theorem dX12_take_38 : decode cX12_take 38 = .ok (.iaload, 1) := mm_dk kX12_take_0 26 rfl
theorem dX12_take_39 : decode cX12_take 39 = .ok (.iastore, 1) := mm_dk kX12_take_0 27 rfl
theorem dX12_take_40 : decode cX12_take 40 = .ok (.aload_n 0, 1) := mm_dk kX12_take_0 28 rfl
theorem dX12_take_41 : decode cX12_take 41 = .ok (.getfield 99, 3) := mm_dk kX12_take_0 29 rfl
theorem dX12_take_44 : decode cX12_take 44 = .ok (.sipush 250, 3) := mm_dk kX12_take_0 30 rfl
theorem dX12_take_47 : decode cX12_take 47 = .ok (.iload_n 1, 1) := mm_dk kX12_take_0 31 rfl
theorem dX12_take_48 : decode cX12_take 48 = .ok (.imul, 1) := mm_dk kX12_take_0 32 rfl
theorem dX12_take_49 : decode cX12_take 49 = .ok (.iload_n 3, 1) := mm_dk kX12_take_0 33 rfl
theorem dX12_take_50 : decode cX12_take 50 = .ok (.iadd, 1) := mm_dk kX12_take_0 34 rfl
theorem dX12_take_51 : decode cX12_take 51 = .ok (.aload_n 0, 1) := mm_dk kX12_take_0 35 rfl
theorem dX12_take_52 : decode cX12_take 52 = .ok (.getfield 99, 3) := mm_dk kX12_take_0 36 rfl
theorem dX12_take_55 : decode cX12_take 55 = .ok (.sipush 250, 3) := mm_dk kX12_take_0 37 rfl
theorem dX12_take_58 : decode cX12_take 58 = .ok (.iload_n 1, 1) := mm_dk kX12_take_0 38 rfl
theorem dX12_take_59 : decode cX12_take 59 = .ok (.imul, 1) := mm_dk kX12_take_0 39 rfl
set_option maxRecDepth 100000 in
theorem kX12_take_1 : ([(60, .iload_n 3, 1), (61, .iadd, 1), (62, .iconst 1, 1), (63, .iadd, 1), (64, .iaload, 1), (65, .iastore, 1), (66, .iinc 3 1, 3), (69, .goto (-67), 3), (72, .aload_n 0, 1), (73, .getfield 93, 3), (76, .iload_n 1, 1), (77, .dup2, 1), (78, .iaload, 1), (79, .iconst 1, 1), (80, .isub, 1), (81, .iastore, 1), (82, .return_, 1)] : List (Nat × Instr × Nat)).all (fun x => decide (decode cX12_take x.1 = .ok x.2)) = true := by decide +kernel
theorem dX12_take_60 : decode cX12_take 60 = .ok (.iload_n 3, 1) := mm_dk kX12_take_1 0 rfl
theorem dX12_take_61 : decode cX12_take 61 = .ok (.iadd, 1) := mm_dk kX12_take_1 1 rfl
theorem dX12_take_62 : decode cX12_take 62 = .ok (.iconst 1, 1) := mm_dk kX12_take_1 2 rfl
theorem dX12_take_63 : decode cX12_take 63 = .ok (.iadd, 1) := mm_dk kX12_take_1 3 rfl
theorem dX12_take_64 : decode cX12_take 64 = .ok (.iaload, 1) := mm_dk kX12_take_1 4 rfl
theorem dX12_take_65 : decode cX12_take 65 = .ok (.iastore, 1) := mm_dk kX12_take_1 5 rfl
theorem dX12_take_66 : decode cX12_take 66 = .ok (.iinc 3 1, 3) := mm_dk kX12_take_1 6 rfl
theorem dX12_take_69 : decode cX12_take 69 = .ok (.goto (-67), 3) := mm_dk kX12_take_1 7 rfl
theorem dX12_take_72 : decode cX12_take 72 = .ok (.aload_n 0, 1) := mm_dk kX12_take_1 8 rfl
theorem dX12_take_73 : decode cX12_take 73 = .ok (.getfield 93, 3) := mm_dk kX12_take_1 9 rfl
theorem dX12_take_76 : decode cX12_take 76 = .ok (.iload_n 1, 1) := mm_dk kX12_take_1 10 rfl
theorem dX12_take_77 : decode cX12_take 77 = .ok (.dup2, 1) := mm_dk kX12_take_1 11 rfl
theorem dX12_take_78 : decode cX12_take 78 = .ok (.iaload, 1) := mm_dk kX12_take_1 12 rfl
theorem dX12_take_79 : decode cX12_take 79 = .ok (.iconst 1, 1) := mm_dk kX12_take_1 13 rfl
theorem dX12_take_80 : decode cX12_take 80 = .ok (.isub, 1) := mm_dk kX12_take_1 14 rfl
theorem dX12_take_81 : decode cX12_take 81 = .ok (.iastore, 1) := mm_dk kX12_take_1 15 rfl
theorem dX12_take_82 : decode cX12_take 82 = .ok (.return_, 1) := mm_dk kX12_take_1 16 rfl
set_option maxRecDepth 100000 in
theorem kX12_order_0 : ([(0, .aload_n 0, 1), (1, .iload_n 1, 1), (2, .iload_n 2, 1), (3, .invokevirtual 395, 3), (6, .ifCond .eq 12, 3), (9, .aload_n 0, 1), (10, .iload_n 1, 1), (11, .iload_n 3, 1), (12, .invokevirtual 395, 3), (15, .ifCond .ne 9, 3), (18, .aload_n 0, 1), (19, .iconst (-1), 1), (20, .invokevirtual 231, 3), (23, .ireturn, 1), (24, .aload_n 0, 1), (25, .getfield 96, 3), (28, .sipush 250, 3), (31, .iload_n 1, 1), (32, .imul, 1), (33, .iload_n 2, 1), (34, .iadd, 1), (35, .iaload, 1), (36, .istore 4, 2), (38, .aload_n 0, 1), (39, .getfield 99, 3), (42, .sipush 250, 3), (45, .iload_n 1, 1), (46, .imul, 1), (47, .iload_n 2, 1), (48, .iadd, 1), (49, .iaload, 1), (50, .istore 5, 2), (52, .aload_n 0, 1), (53, .iload_n 1, 1), (54, .iload_n 2, 1), (55, .invokevirtual 399, 3), (58, .aload_n 0, 1), (59, .getfield 93, 3), (62, .iload_n 1, 1), (63, .iaload, 1)] : List (Nat × Instr × Nat)).all (fun x => decide (decode cX12_order x.1 = .ok x.2)) = true := by decide +kernel
theorem dX12_order_0 : decode cX12_order 0 = .ok (.aload_n 0, 1) := mm_dk kX12_order_0 0 rfl
theorem dX12_order_1 : decode cX12_order 1 = .ok (.iload_n 1, 1) := mm_dk kX12_order_0 1 rfl
theorem dX12_order_2 : decode cX12_order 2 = .ok (.iload_n 2, 1) := mm_dk kX12_order_0 2 rfl
theorem dX12_order_3 : decode cX12_order 3 = .ok (.invokevirtual 395, 3) := mm_dk kX12_order_0 3 rfl
theorem dX12_order_6 : decode cX12_order 6 = .ok (.ifCond .eq 12, 3) := mm_dk kX12_order_0 4 rfl
theorem dX12_order_9 : decode cX12_order 9 = .ok (.aload_n 0, 1) := mm_dk kX12_order_0 5 rfl
theorem dX12_order_10 : decode cX12_order 10 = .ok (.iload_n 1, 1) := mm_dk kX12_order_0 6 rfl
theorem dX12_order_11 : decode cX12_order 11 = .ok (.iload_n 3, 1) := mm_dk kX12_order_0 7 rfl
theorem dX12_order_12 : decode cX12_order 12 = .ok (.invokevirtual 395, 3) := mm_dk kX12_order_0 8 rfl
theorem dX12_order_15 : decode cX12_order 15 = .ok (.ifCond .ne 9, 3) := mm_dk kX12_order_0 9 rfl
theorem dX12_order_18 : decode cX12_order 18 = .ok (.aload_n 0, 1) := mm_dk kX12_order_0 10 rfl
theorem dX12_order_19 : decode cX12_order 19 = .ok (.iconst (-1), 1) := mm_dk kX12_order_0 11 rfl
theorem dX12_order_20 : decode cX12_order 20 = .ok (.invokevirtual 231, 3) := mm_dk kX12_order_0 12 rfl
theorem dX12_order_23 : decode cX12_order 23 = .ok (.ireturn, 1) := mm_dk kX12_order_0 13 rfl
theorem dX12_order_24 : decode cX12_order 24 = .ok (.aload_n 0, 1) := mm_dk kX12_order_0 14 rfl
theorem dX12_order_25 : decode cX12_order 25 = .ok (.getfield 96, 3) := mm_dk kX12_order_0 15 rfl
theorem dX12_order_28 : decode cX12_order 28 = .ok (.sipush 250, 3) := mm_dk kX12_order_0 16 rfl
theorem dX12_order_31 : decode cX12_order 31 = .ok (.iload_n 1, 1) := mm_dk kX12_order_0 17 rfl
theorem dX12_order_32 : decode cX12_order 32 = .ok (.imul, 1) := mm_dk kX12_order_0 18 rfl
theorem dX12_order_33 : decode cX12_order 33 = .ok (.iload_n 2, 1) := mm_dk kX12_order_0 19 rfl
theorem dX12_order_34 : decode cX12_order 34 = .ok (.iadd, 1) := mm_dk kX12_order_0 20 rfl
theorem dX12_order_35 : decode cX12_order 35 = .ok (.iaload, 1) := mm_dk kX12_order_0 21 rfl
theorem dX12_order_36 : decode cX12_order 36 = .ok (.istore 4, 2) := mm_dk kX12_order_0 22 rfl
theorem dX12_order_38 : decode cX12_order 38 = .ok (.aload_n 0, 1) := mm_dk kX12_order_0 23 rfl
theorem dX12_order_39 : decode cX12_order 39 = .ok (.getfield 99, 3) := mm_dk kX12_order_0 24 rfl
theorem dX12_order_42 : decode cX12_order 42 = .ok (.sipush 250, 3) := mm_dk kX12_order_0 25 rfl
theorem dX12_order_45 : decode cX12_order 45 = .ok (.iload_n 1, 1) := mm_dk kX12_order_0 26 rfl
theorem dX12_order_46 : decode cX12_order 46 = .ok (.imul, 1) := mm_dk kX12_order_0 27 rfl
theorem dX12_order_47 : decode cX12_order 47 = .ok (.iload_n 2, 1) := mm_dk kX12_order_0 28 rfl
theorem dX12_order_48 : decode cX12_order 48 = .ok (.iadd, 1) := mm_dk kX12_order_0 29 rfl
theorem dX12_order_49 : decode cX12_order 49 = .ok (.iaload, 1) := mm_dk kX12_order_0 30 rfl
theorem dX12_order_50 : decode cX12_order 50 = .ok (.istore 5, 2) := mm_dk kX12_order_0 31 rfl
theorem dX12_order_52 : decode cX12_order 52 = .ok (.aload_n 0, 1) := mm_dk kX12_order_0 32 rfl
theorem dX12_order_53 : decode cX12_order 53 = .ok (.iload_n 1, 1) := mm_dk kX12_order_0 33 rfl
theorem dX12_order_54 : decode cX12_order 54 = .ok (.iload_n 2, 1) := mm_dk kX12_order_0 34 rfl
theorem dX12_order_55 : decode cX12_order 55 = .ok (.invokevirtual 399, 3) := mm_dk kX12_order_0 35 rfl
theorem dX12_order_58 : decode cX12_order 58 = .ok (.aload_n 0, 1) := mm_dk kX12_order_0 36 rfl
theorem dX12_order_59 : decode cX12_order 59 = .ok (.getfield 93, 3) := mm_dk kX12_order_0 37 rfl
theorem dX12_order_62 : decode cX12_order 62 = .ok (.iload_n 1, 1) := mm_dk kX12_order_0 38 rfl
theorem dX12_order_63 : decode cX12_order 63 = .ok (.iaload, 1) := mm_dk kX12_order_0 39 rfl
set_option maxRecDepth 100000 in
theorem kX12_order_1 : ([(64, .istore 6, 2), (66, .iload 6, 2), (68, .iload_n 3, 1), (69, .if_icmp .le 65, 3), (72, .aload_n 0, 1), (73, .getfield 96, 3), (76, .sipush 250, 3), (79, .iload_n 1, 1), (80, .imul, 1), (81, .iload 6, 2), (83, .iadd, 1), (84, .aload_n 0, 1), (85, .getfield 96, 3), (88, .sipush 250, 3), (91, .iload_n 1, 1), (92, .imul, 1), (93, .iload 6, 2), (95, .iadd, 1), (96, .iconst 1, 1), (97, .isub, 1), (98, .iaload, 1), (99, .iastore, 1), (100, .aload_n 0, 1), (101, .getfield 99, 3), (104, .sipush 250, 3), (107, .iload_n 1, 1), (108, .imul, 1), (109, .iload 6, 2), (111, .iadd, 1), (112, .aload_n 0, 1), (113, .getfield 99, 3), (116, .sipush 250, 3), (119, .iload_n 1, 1), (120, .imul, 1), (121, .iload 6, 2), (123, .iadd, 1), (124, .iconst 1, 1), (125, .isub, 1), (126, .iaload, 1), (127, .iastore, 1)] : List (Nat × Instr × Nat)).all (fun x => decide (decode cX12_order x.1 = .ok x.2)) = true := by decide +kernel
theorem dX12_order_64 : decode cX12_order 64 = .ok (.istore 6, 2) := mm_dk kX12_order_1 0 rfl
theorem dX12_order_66 : decode cX12_order 66 = .ok (.iload 6, 2) := mm_dk kX12_order_1 1 rfl
theorem dX12_order_68 : decode cX12_order 68 = .ok (.iload_n 3, 1) := mm_dk kX12_order_1 2 rfl
theorem dX12_order_69 : decode cX12_order 69 = .ok (.if_icmp .le 65, 3) := mm_dk kX12_order_1 3 rfl
theorem dX12_order_72 : decode cX12_order 72 = .ok (.aload_n 0, 1) := mm_dk kX12_order_1 4 rfl
theorem dX12_order_73 : decode cX12_order 73 = .ok (.getfield 96, 3) := mm_dk kX12_order_1 5 rfl
theorem dX12_order_76 : decode cX12_order 76 = .ok (.sipush 250, 3) := mm_dk kX12_order_1 6 rfl
theorem dX12_order_79 : decode cX12_order 79 = .ok (.iload_n 1, 1) := mm_dk kX12_order_1 7 rfl
theorem dX12_order_80 : decode cX12_order 80 = .ok (.imul, 1) := mm_dk kX12_order_1 8 rfl
theorem dX12_order_81 : decode cX12_order 81 = .ok (.iload 6, 2) := mm_dk kX12_order_1 9 rfl
theorem dX12_order_83 : decode cX12_order 83 = .ok (.iadd, 1) := mm_dk kX12_order_1 10 rfl
theorem dX12_order_84 : decode cX12_order 84 = .ok (.aload_n 0, 1) := mm_dk kX12_order_1 11 rfl
theorem dX12_order_85 : decode cX12_order 85 = .ok (.getfield 96, 3) := mm_dk kX12_order_1 12 rfl
theorem dX12_order_88 : decode cX12_order 88 = .ok (.sipush 250, 3) := mm_dk kX12_order_1 13 rfl
theorem dX12_order_91 : decode cX12_order 91 = .ok (.iload_n 1, 1) := mm_dk kX12_order_1 14 rfl
theorem dX12_order_92 : decode cX12_order 92 = .ok (.imul, 1) := mm_dk kX12_order_1 15 rfl
theorem dX12_order_93 : decode cX12_order 93 = .ok (.iload 6, 2) := mm_dk kX12_order_1 16 rfl
theorem dX12_order_95 : decode cX12_order 95 = .ok (.iadd, 1) := mm_dk kX12_order_1 17 rfl
theorem dX12_order_96 : decode cX12_order 96 = .ok (.iconst 1, 1) := mm_dk kX12_order_1 18 rfl
theorem dX12_order_97 : decode cX12_order 97 = .ok (.isub, 1) := mm_dk kX12_order_1 19 rfl
theorem dX12_order_98 : decode cX12_order 98 = .ok (.iaload, 1) := mm_dk kX12_order_1 20 rfl
theorem dX12_order_99 : decode cX12_order 99 = .ok (.iastore, 1) := mm_dk kX12_order_1 21 rfl
theorem dX12_order_100 : decode cX12_order 100 = .ok (.aload_n 0, 1) := mm_dk kX12_order_1 22 rfl
theorem dX12_order_101 : decode cX12_order 101 = .ok (.getfield 99, 3) := mm_dk kX12_order_1 23 rfl
theorem dX12_order_104 : decode cX12_order 104 = .ok (.sipush 250, 3) := mm_dk kX12_order_1 24 rfl
theorem dX12_order_107 : decode cX12_order 107 = .ok (.iload_n 1, 1) := mm_dk kX12_order_1 25 rfl
theorem dX12_order_108 : decode cX12_order 108 = .ok (.imul, 1) := mm_dk kX12_order_1 26 rfl
theorem dX12_order_109 : decode cX12_order 109 = .ok (.iload 6, 2) := mm_dk kX12_order_1 27 rfl
theorem dX12_order_111 : decode cX12_order 111 = .ok (.iadd, 1) := mm_dk kX12_order_1 28 rfl
theorem dX12_order_112 : decode cX12_order 112 = .ok (.aload_n 0, 1) := mm_dk kX12_order_1 29 rfl
theorem dX12_order_113 : decode cX12_order 113 = .ok (.getfield 99, 3) := mm_dk kX12_order_1 30 rfl
theorem dX12_order_116 : decode cX12_order 116 = .ok (.sipush 250, 3) := mm_dk kX12_order_1 31 rfl
theorem dX12_order_119 : decode cX12_order 119 = .ok (.iload_n 1, 1) := mm_dk kX12_order_1 32 rfl
theorem dX12_order_120 : decode cX12_order 120 = .ok (.imul, 1) := mm_dk kX12_order_1 33 rfl
theorem dX12_order_121 : decode cX12_order 121 = .ok (.iload 6, 2) := mm_dk kX12_order_1 34 rfl
theorem dX12_order_123 : decode cX12_order 123 = .ok (.iadd, 1) := mm_dk kX12_order_1 35 rfl
theorem dX12_order_124 : decode cX12_order 124 = .ok (.iconst 1, 1) := mm_dk kX12_order_1 36 rfl
theorem dX12_order_125 : decode cX12_order 125 = .ok (.isub, 1) := mm_dk kX12_order_1 37 rfl
theorem dX12_order_126 : decode cX12_order 126 = .ok (.iaload, 1) := mm_dk kX12_order_1 38 rfl
theorem dX12_order_127 : decode cX12_order 127 = .ok (.iastore, 1) := mm_dk kX12_order_1 39 rfl
set_option maxRecDepth 100000 in
theorem kX12_order_2 : ([(128, .iinc 6 (-1), 3), (131, .goto (-65), 3), (134, .aload_n 0, 1), (135, .getfield 96, 3), (138, .sipush 250, 3), (141, .iload_n 1, 1), (142, .imul, 1), (143, .iload_n 3, 1), (144, .iadd, 1), (145, .iload 4, 2), (147, .iastore, 1), (148, .aload_n 0, 1), (149, .getfield 99, 3), (152, .sipush 250, 3), (155, .iload_n 1, 1), (156, .imul, 1), (157, .iload_n 3, 1), (158, .iadd, 1), (159, .iload 5, 2), (161, .iastore, 1), (162, .aload_n 0, 1), (163, .getfield 93, 3), (166, .iload_n 1, 1), (167, .dup2, 1), (168, .iaload, 1), (169, .iconst 1, 1), (170, .iadd, 1), (171, .iastore, 1), (172, .aload_n 0, 1), (173, .iconst 1, 1), (174, .invokevirtual 235, 3), (177, .ireturn, 1)] : List (Nat × Instr × Nat)).all (fun x => decide (decode cX12_order x.1 = .ok x.2)) = true := by decide +kernel
theorem dX12_order_128 : decode cX12_order 128 = .ok (.iinc 6 (-1), 3) := mm_dk kX12_order_2 0 rfl
theorem dX12_order_131 : decode cX12_order 131 = .ok (.goto (-65), 3) := mm_dk kX12_order_2 1 rfl
theorem dX12_order_134 : decode cX12_order 134 = .ok (.aload_n 0, 1) := mm_dk kX12_order_2 2 rfl
theorem dX12_order_135 : decode cX12_order 135 = .ok (.getfield 96, 3) := mm_dk kX12_order_2 3 rfl
theorem dX12_order_138 : decode cX12_order 138 = .ok (.sipush 250, 3) := mm_dk kX12_order_2 4 rfl
theorem dX12_order_141 : decode cX12_order 141 = .ok (.iload_n 1, 1) := mm_dk kX12_order_2 5 rfl
theorem dX12_order_142 : decode cX12_order 142 = .ok (.imul, 1) := mm_dk kX12_order_2 6 rfl
theorem dX12_order_143 : decode cX12_order 143 = .ok (.iload_n 3, 1) := mm_dk kX12_order_2 7 rfl
theorem dX12_order_144 : decode cX12_order 144 = .ok (.iadd, 1) := mm_dk kX12_order_2 8 rfl
theorem dX12_order_145 : decode cX12_order 145 = .ok (.iload 4, 2) := mm_dk kX12_order_2 9 rfl
theorem dX12_order_147 : decode cX12_order 147 = .ok (.iastore, 1) := mm_dk kX12_order_2 10 rfl
theorem dX12_order_148 : decode cX12_order 148 = .ok (.aload_n 0, 1) := mm_dk kX12_order_2 11 rfl
theorem dX12_order_149 : decode cX12_order 149 = .ok (.getfield 99, 3) := mm_dk kX12_order_2 12 rfl
theorem dX12_order_152 : decode cX12_order 152 = .ok (.sipush 250, 3) := mm_dk kX12_order_2 13 rfl
theorem dX12_order_155 : decode cX12_order 155 = .ok (.iload_n 1, 1) := mm_dk kX12_order_2 14 rfl
theorem dX12_order_156 : decode cX12_order 156 = .ok (.imul, 1) := mm_dk kX12_order_2 15 rfl
theorem dX12_order_157 : decode cX12_order 157 = .ok (.iload_n 3, 1) := mm_dk kX12_order_2 16 rfl
theorem dX12_order_158 : decode cX12_order 158 = .ok (.iadd, 1) := mm_dk kX12_order_2 17 rfl
theorem dX12_order_159 : decode cX12_order 159 = .ok (.iload 5, 2) := mm_dk kX12_order_2 18 rfl
theorem dX12_order_161 : decode cX12_order 161 = .ok (.iastore, 1) := mm_dk kX12_order_2 19 rfl
theorem dX12_order_162 : decode cX12_order 162 = .ok (.aload_n 0, 1) := mm_dk kX12_order_2 20 rfl
theorem dX12_order_163 : decode cX12_order 163 = .ok (.getfield 93, 3) := mm_dk kX12_order_2 21 rfl
theorem dX12_order_166 : decode cX12_order 166 = .ok (.iload_n 1, 1) := mm_dk kX12_order_2 22 rfl
theorem dX12_order_167 : decode cX12_order 167 = .ok (.dup2, 1) := mm_dk kX12_order_2 23 rfl
theorem dX12_order_168 : decode cX12_order 168 = .ok (.iaload, 1) := mm_dk kX12_order_2 24 rfl
theorem dX12_order_169 : decode cX12_order 169 = .ok (.iconst 1, 1) := mm_dk kX12_order_2 25 rfl
theorem dX12_order_170 : decode cX12_order 170 = .ok (.iadd, 1) := mm_dk kX12_order_2 26 rfl
theorem dX12_order_171 : decode cX12_order 171 = .ok (.iastore, 1) := mm_dk kX12_order_2 27 rfl
theorem dX12_order_172 : decode cX12_order 172 = .ok (.aload_n 0, 1) := mm_dk kX12_order_2 28 rfl
theorem dX12_order_173 : decode cX12_order 173 = .ok (.iconst 1, 1) := mm_dk kX12_order_2 29 rfl
theorem dX12_order_174 : decode cX12_order 174 = .ok (.invokevirtual 235, 3) := mm_dk kX12_order_2 30 rfl
theorem dX12_order_177 : decode cX12_order 177 = .ok (.ireturn, 1) := mm_dk kX12_order_2 31 rfl
set_option maxRecDepth 100000 in
theorem kX12_drop_0 : ([(0, .aload_n 0, 1), (1, .iload_n 1, 1), (2, .iload_n 2, 1), (3, .invokevirtual 395, 3), (6, .ifCond .ne 9, 3), (9, .aload_n 0, 1), (10, .iconst (-1), 1), (11, .invokevirtual 231, 3), (14, .ireturn, 1), (15, .aload_n 0, 1), (16, .iload_n 1, 1), (17, .iload_n 2, 1), (18, .invokevirtual 399, 3), (21, .aload_n 0, 1), (22, .aload_n 0, 1), (23, .getfield 93, 3), (26, .iload_n 1, 1), (27, .iaload, 1), (28, .invokevirtual 235, 3), (31, .ireturn, 1)] : List (Nat × Instr × Nat)).all (fun x => decide (decode cX12_drop x.1 = .ok x.2)) = true := by decide +kernel
theorem dX12_drop_0 : decode cX12_drop 0 = .ok (.aload_n 0, 1) := mm_dk kX12_drop_0 0 rfl
theorem dX12_drop_1 : decode cX12_drop 1 = .ok (.iload_n 1, 1) := mm_dk kX12_drop_0 1 rfl
theorem dX12_drop_2 : decode cX12_drop 2 = .ok (.iload_n 2, 1) := mm_dk kX12_drop_0 2 rfl
theorem dX12_drop_3 : decode cX12_drop 3 = .ok (.invokevirtual 395, 3) := mm_dk kX12_drop_0 3 rfl
theorem dX12_drop_6 : decode cX12_drop 6 = .ok (.ifCond .ne 9, 3) := mm_dk kX12_drop_0 4 rfl
theorem dX12_drop_9 : decode cX12_drop 9 = .ok (.aload_n 0, 1) := mm_dk kX12_drop_0 5 rfl
theorem dX12_drop_10 : decode cX12_drop 10 = .ok (.iconst (-1), 1) := mm_dk kX12_drop_0 6 rfl
theorem dX12_drop_11 : decode cX12_drop 11 = .ok (.invokevirtual 231, 3) := mm_dk kX12_drop_0 7 rfl
theorem dX12_drop_14 : decode cX12_drop 14 = .ok (.ireturn, 1) := mm_dk kX12_drop_0 8 rfl
theorem dX12_drop_15 : decode cX12_drop 15 = .ok (.aload_n 0, 1) := mm_dk kX12_drop_0 9 rfl
theorem dX12_drop_16 : decode cX12_drop 16 = .ok (.iload_n 1, 1) := mm_dk kX12_drop_0 10 rfl
theorem dX12_drop_17 : decode cX12_drop 17 = .ok (.iload_n 2, 1) := mm_dk kX12_drop_0 11 rfl
theorem dX12_drop_18 : decode cX12_drop 18 = .ok (.invokevirtual 399, 3) := mm_dk kX12_drop_0 12 rfl
theorem dX12_drop_21 : decode cX12_drop 21 = .ok (.aload_n 0, 1) := mm_dk kX12_drop_0 13 rfl
theorem dX12_drop_22 : decode cX12_drop 22 = .ok (.aload_n 0, 1) := mm_dk kX12_drop_0 14 rfl
theorem dX12_drop_23 : decode cX12_drop 23 = .ok (.getfield 93, 3) := mm_dk kX12_drop_0 15 rfl
theorem dX12_drop_26 : decode cX12_drop 26 = .ok (.iload_n 1, 1) := mm_dk kX12_drop_0 16 rfl
theorem dX12_drop_27 : decode cX12_drop 27 = .ok (.iaload, 1) := mm_dk kX12_drop_0 17 rfl
theorem dX12_drop_28 : decode cX12_drop 28 = .ok (.invokevirtual 235, 3) := mm_dk kX12_drop_0 18 rfl
theorem dX12_drop_31 : decode cX12_drop 31 = .ok (.ireturn, 1) := mm_dk kX12_drop_0 19 rfl
set_option maxRecDepth 100000 in
theorem kX12_again_0 : ([(0, .aload_n 0, 1), (1, .iload_n 1, 1), (2, .iload_n 2, 1), (3, .invokevirtual 395, 3), (6, .ifCond .ne 9, 3), (9, .aload_n 0, 1), (10, .iconst (-1), 1), (11, .invokevirtual 231, 3), (14, .ireturn, 1), (15, .aload_n 0, 1), (16, .getfield 93, 3), (19, .iload_n 1, 1), (20, .iaload, 1), (21, .sipush 250, 3), (24, .if_icmp .ne 10, 3), (27, .aload_n 0, 1), (28, .bipush (-3), 2), (30, .invokevirtual 231, 3), (33, .ireturn, 1), (34, .aload_n 0, 1), (35, .iload_n 1, 1), (36, .aload_n 0, 1), (37, .getfield 96, 3), (40, .sipush 250, 3), (43, .iload_n 1, 1), (44, .imul, 1), (45, .iload_n 2, 1), (46, .iadd, 1), (47, .iaload, 1), (48, .aload_n 0, 1), (49, .getfield 99, 3), (52, .sipush 250, 3), (55, .iload_n 1, 1), (56, .imul, 1), (57, .iload_n 2, 1), (58, .iadd, 1), (59, .iaload, 1), (60, .iconst 1, 1), (61, .isub, 1), (62, .invokevirtual 369, 3)] : List (Nat × Instr × Nat)).all (fun x => decide (decode cX12_again x.1 = .ok x.2)) = true := by decide +kernel
theorem dX12_again_0 : decode cX12_again 0 = .ok (.aload_n 0, 1) := mm_dk kX12_again_0 0 rfl
theorem dX12_again_1 : decode cX12_again 1 = .ok (.iload_n 1, 1) := mm_dk kX12_again_0 1 rfl
theorem dX12_again_2 : decode cX12_again 2 = .ok (.iload_n 2, 1) := mm_dk kX12_again_0 2 rfl
theorem dX12_again_3 : decode cX12_again 3 = .ok (.invokevirtual 395, 3) := mm_dk kX12_again_0 3 rfl
theorem dX12_again_6 : decode cX12_again 6 = .ok (.ifCond .ne 9, 3) := mm_dk kX12_again_0 4 rfl
theorem dX12_again_9 : decode cX12_again 9 = .ok (.aload_n 0, 1) := mm_dk kX12_again_0 5 rfl
theorem dX12_again_10 : decode cX12_again 10 = .ok (.iconst (-1), 1) := mm_dk kX12_again_0 6 rfl
theorem dX12_again_11 : decode cX12_again 11 = .ok (.invokevirtual 231, 3) := mm_dk kX12_again_0 7 rfl
theorem dX12_again_14 : decode cX12_again 14 = .ok (.ireturn, 1) := mm_dk kX12_again_0 8 rfl
theorem dX12_again_15 : decode cX12_again 15 = .ok (.aload_n 0, 1) := mm_dk kX12_again_0 9 rfl
theorem dX12_again_16 : decode cX12_again 16 = .ok (.getfield 93, 3) := mm_dk kX12_again_0 10 rfl
theorem dX12_again_19 : decode cX12_again 19 = .ok (.iload_n 1, 1) := mm_dk kX12_again_0 11 rfl
theorem dX12_again_20 : decode cX12_again 20 = .ok (.iaload, 1) := mm_dk kX12_again_0 12 rfl
theorem dX12_again_21 : decode cX12_again 21 = .ok (.sipush 250, 3) := mm_dk kX12_again_0 13 rfl
theorem dX12_again_24 : decode cX12_again 24 = .ok (.if_icmp .ne 10, 3) := mm_dk kX12_again_0 14 rfl
theorem dX12_again_27 : decode cX12_again 27 = .ok (.aload_n 0, 1) := mm_dk kX12_again_0 15 rfl
theorem dX12_again_28 : decode cX12_again 28 = .ok (.bipush (-3), 2) := mm_dk kX12_again_0 16 rfl
theorem dX12_again_30 : decode cX12_again 30 = .ok (.invokevirtual 231, 3) := mm_dk kX12_again_0 17 rfl
theorem dX12_again_33 : decode cX12_again 33 = .ok (.ireturn, 1) := mm_dk kX12_again_0 18 rfl
theorem dX12_again_34 : decode cX12_again 34 = .ok (.aload_n 0, 1) := mm_dk kX12_again_0 19 rfl
theorem dX12_again_35 : decode cX12_again 35 = .ok (.iload_n 1, 1) := mm_dk kX12_again_0 20 rfl
theorem dX12_again_36 : decode cX12_again 36 = .ok (.aload_n 0, 1) := mm_dk kX12_again_0 21 rfl
theorem dX12_again_37 : decode cX12_again 37 = .ok (.getfield 96, 3) := mm_dk kX12_again_0 22 rfl
theorem dX12_again_40 : decode cX12_again 40 = .ok (.sipush 250, 3) := mm_dk kX12_again_0 23 rfl
theorem dX12_again_43 : decode cX12_again 43 = .ok (.iload_n 1, 1) := mm_dk kX12_again_0 24 rfl
theorem dX12_again_44 : decode cX12_again 44 = .ok (.imul, 1) := mm_dk kX12_again_0 25 rfl
theorem dX12_again_45 : decode cX12_again 45 = .ok (.iload_n 2, 1) := mm_dk kX12_again_0 26 rfl
theorem dX12_again_46 : decode cX12_again 46 = .ok (.iadd, 1) := mm_dk kX12_again_0 27 rfl
theorem dX12_again_47 : decode cX12_again 47 = .ok (.iaload, 1) := mm_dk kX12_again_0 28 rfl
theorem dX12_again_48 : decode cX12_again 48 = .ok (.aload_n 0, 1) := mm_dk kX12_again_0 29 rfl
theorem dX12_again_49 : decode cX12_again 49 = .ok (.getfield 99, 3) := mm_dk kX12_again_0 30 rfl
theorem dX12_again_52 : decode cX12_again 52 = .ok (.sipush 250, 3) := mm_dk kX12_again_0 31 rfl
theorem dX12_again_55 : decode cX12_again 55 = .ok (.iload_n 1, 1) := mm_dk kX12_again_0 32 rfl
theorem dX12_again_56 : decode cX12_again 56 = .ok (.imul, 1) := mm_dk kX12_again_0 33 rfl
theorem dX12_again_57 : decode cX12_again 57 = .ok (.iload_n 2, 1) := mm_dk kX12_again_0 34 rfl
theorem dX12_again_58 : decode cX12_again 58 = .ok (.iadd, 1) := mm_dk kX12_again_0 35 rfl
theorem dX12_again_59 : decode cX12_again 59 = .ok (.iaload, 1) := mm_dk kX12_again_0 36 rfl
theorem dX12_again_60 : decode cX12_again 60 = .ok (.iconst 1, 1) := mm_dk kX12_again_0 37 rfl
theorem dX12_again_61 : decode cX12_again 61 = .ok (.isub, 1) := mm_dk kX12_again_0 38 rfl
theorem dX12_again_62 : decode cX12_again 62 = .ok (.invokevirtual 369, 3) := mm_dk kX12_again_0 39 rfl
set_option maxRecDepth 100000 in
theorem kX12_again_1 : ([(65, .aload_n 0, 1), (66, .aload_n 0, 1), (67, .getfield 93, 3), (70, .iload_n 1, 1), (71, .iaload, 1), (72, .invokevirtual 235, 3), (75, .ireturn, 1)] : List (Nat × Instr × Nat)).all (fun x => decide (decode cX12_again x.1 = .ok x.2)) = true := by decide +kernel
theorem dX12_again_65 : decode cX12_again 65 = .ok (.aload_n 0, 1) := mm_dk kX12_again_1 0 rfl
theorem dX12_again_66 : decode cX12_again 66 = .ok (.aload_n 0, 1) := mm_dk kX12_again_1 1 rfl
theorem dX12_again_67 : decode cX12_again 67 = .ok (.getfield 93, 3) := mm_dk kX12_again_1 2 rfl
theorem dX12_again_70 : decode cX12_again 70 = .ok (.iload_n 1, 1) := mm_dk kX12_again_1 3 rfl
theorem dX12_again_71 : decode cX12_again 71 = .ok (.iaload, 1) := mm_dk kX12_again_1 4 rfl
theorem dX12_again_72 : decode cX12_again 72 = .ok (.invokevirtual 235, 3) := mm_dk kX12_again_1 5 rfl
theorem dX12_again_75 : decode cX12_again 75 = .ok (.ireturn, 1) := mm_dk kX12_again_1 6 rfl
set_option maxRecDepth 100000 in
theorem kX12_type_0 : ([(0, .iload_n 3, 1), (1, .iconst 1, 1), (2, .bipush 8, 2), (4, .invokestatic 227, 3), (7, .ifCond .ne 9, 3), (10, .aload_n 0, 1), (11, .iconst (-1), 1), (12, .invokevirtual 231, 3), (15, .ireturn, 1), (16, .aload_n 0, 1), (17, .getfield 402, 3), (20, .iload_n 3, 1), (21, .iadd, 1), (22, .bipush 64, 2), (24, .if_icmp .le 10, 3), (27, .aload_n 0, 1), (28, .bipush (-3), 2), (30, .invokevirtual 231, 3), (33, .ireturn, 1), (34, .iload_n 3, 1), (35, .iconst 1, 1), (36, .isub, 1), (37, .istore 4, 2), (39, .iload 4, 2), (41, .ifCond .lt 37, 3), (44, .aload_n 0, 1), (45, .getfield 16, 3), (48, .aload_n 0, 1), (49, .getfield 402, 3), (52, .lload_n 1, 1), (53, .bipush 8, 2), (55, .iload 4, 2), (57, .imul, 1), (58, .lshr, 1), (59, .l2i, 1), (60, .i2b, 1), (61, .iastore, 1), (62, .aload_n 0, 1), (63, .dup, 1), (64, .getfield 402, 3)] : List (Nat × Instr × Nat)).all (fun x => decide (decode cX12_type x.1 = .ok x.2)) = true := by decide +kernel
theorem dX12_type_0 : decode cX12_type 0 = .ok (.iload_n 3, 1) := mm_dk kX12_type_0 0 rfl
theorem dX12_type_1 : decode cX12_type 1 = .ok (.iconst 1, 1) := mm_dk kX12_type_0 1 rfl
theorem dX12_type_2 : decode cX12_type 2 = .ok (.bipush 8, 2) := mm_dk kX12_type_0 2 rfl
theorem dX12_type_4 : decode cX12_type 4 = .ok (.invokestatic 227, 3) := mm_dk kX12_type_0 3 rfl
theorem dX12_type_7 : decode cX12_type 7 = .ok (.ifCond .ne 9, 3) := mm_dk kX12_type_0 4 rfl
theorem dX12_type_10 : decode cX12_type 10 = .ok (.aload_n 0, 1) := mm_dk kX12_type_0 5 rfl
theorem dX12_type_11 : decode cX12_type 11 = .ok (.iconst (-1), 1) := mm_dk kX12_type_0 6 rfl
theorem dX12_type_12 : decode cX12_type 12 = .ok (.invokevirtual 231, 3) := mm_dk kX12_type_0 7 rfl
theorem dX12_type_15 : decode cX12_type 15 = .ok (.ireturn, 1) := mm_dk kX12_type_0 8 rfl
theorem dX12_type_16 : decode cX12_type 16 = .ok (.aload_n 0, 1) := mm_dk kX12_type_0 9 rfl
theorem dX12_type_17 : decode cX12_type 17 = .ok (.getfield 402, 3) := mm_dk kX12_type_0 10 rfl
theorem dX12_type_20 : decode cX12_type 20 = .ok (.iload_n 3, 1) := mm_dk kX12_type_0 11 rfl
theorem dX12_type_21 : decode cX12_type 21 = .ok (.iadd, 1) := mm_dk kX12_type_0 12 rfl
theorem dX12_type_22 : decode cX12_type 22 = .ok (.bipush 64, 2) := mm_dk kX12_type_0 13 rfl
theorem dX12_type_24 : decode cX12_type 24 = .ok (.if_icmp .le 10, 3) := mm_dk kX12_type_0 14 rfl
theorem dX12_type_27 : decode cX12_type 27 = .ok (.aload_n 0, 1) := mm_dk kX12_type_0 15 rfl
theorem dX12_type_28 : decode cX12_type 28 = .ok (.bipush (-3), 2) := mm_dk kX12_type_0 16 rfl
theorem dX12_type_30 : decode cX12_type 30 = .ok (.invokevirtual 231, 3) := mm_dk kX12_type_0 17 rfl
theorem dX12_type_33 : decode cX12_type 33 = .ok (.ireturn, 1) := mm_dk kX12_type_0 18 rfl
theorem dX12_type_34 : decode cX12_type 34 = .ok (.iload_n 3, 1) := mm_dk kX12_type_0 19 rfl
theorem dX12_type_35 : decode cX12_type 35 = .ok (.iconst 1, 1) := mm_dk kX12_type_0 20 rfl
theorem dX12_type_36 : decode cX12_type 36 = .ok (.isub, 1) := mm_dk kX12_type_0 21 rfl
theorem dX12_type_37 : decode cX12_type 37 = .ok (.istore 4, 2) := mm_dk kX12_type_0 22 rfl
theorem dX12_type_39 : decode cX12_type 39 = .ok (.iload 4, 2) := mm_dk kX12_type_0 23 rfl
theorem dX12_type_41 : decode cX12_type 41 = .ok (.ifCond .lt 37, 3) := mm_dk kX12_type_0 24 rfl
theorem dX12_type_44 : decode cX12_type 44 = .ok (.aload_n 0, 1) := mm_dk kX12_type_0 25 rfl
theorem dX12_type_45 : decode cX12_type 45 = .ok (.getfield 16, 3) := mm_dk kX12_type_0 26 rfl
theorem dX12_type_48 : decode cX12_type 48 = .ok (.aload_n 0, 1) := mm_dk kX12_type_0 27 rfl
theorem dX12_type_49 : decode cX12_type 49 = .ok (.getfield 402, 3) := mm_dk kX12_type_0 28 rfl
theorem dX12_type_52 : decode cX12_type 52 = .ok (.lload_n 1, 1) := mm_dk kX12_type_0 29 rfl
theorem dX12_type_53 : decode cX12_type 53 = .ok (.bipush 8, 2) := mm_dk kX12_type_0 30 rfl
theorem dX12_type_55 : decode cX12_type 55 = .ok (.iload 4, 2) := mm_dk kX12_type_0 31 rfl
theorem dX12_type_57 : decode cX12_type 57 = .ok (.imul, 1) := mm_dk kX12_type_0 32 rfl
theorem dX12_type_58 : decode cX12_type 58 = .ok (.lshr, 1) := mm_dk kX12_type_0 33 rfl
theorem dX12_type_59 : decode cX12_type 59 = .ok (.l2i, 1) := mm_dk kX12_type_0 34 rfl
theorem dX12_type_60 : decode cX12_type 60 = .ok (.i2b, 1) := mm_dk kX12_type_0 35 rfl
theorem dX12_type_61 : decode cX12_type 61 = .ok (.iastore, 1) := mm_dk kX12_type_0 36 rfl
theorem dX12_type_62 : decode cX12_type 62 = .ok (.aload_n 0, 1) := mm_dk kX12_type_0 37 rfl
theorem dX12_type_63 : decode cX12_type 63 = .ok (.dup, 1) := mm_dk kX12_type_0 38 rfl
theorem dX12_type_64 : decode cX12_type 64 = .ok (.getfield 402, 3) := mm_dk kX12_type_0 39 rfl
set_option maxRecDepth 100000 in
theorem kX12_type_1 : ([(67, .iconst 1, 1), (68, .iadd, 1), (69, .putfield 402, 3), (72, .iinc 4 (-1), 3), (75, .goto (-36), 3), (78, .aload_n 0, 1), (79, .aload_n 0, 1), (80, .getfield 402, 3), (83, .invokevirtual 235, 3), (86, .ireturn, 1)] : List (Nat × Instr × Nat)).all (fun x => decide (decode cX12_type x.1 = .ok x.2)) = true := by decide +kernel
theorem dX12_type_67 : decode cX12_type 67 = .ok (.iconst 1, 1) := mm_dk kX12_type_1 0 rfl
theorem dX12_type_68 : decode cX12_type 68 = .ok (.iadd, 1) := mm_dk kX12_type_1 1 rfl
theorem dX12_type_69 : decode cX12_type 69 = .ok (.putfield 402, 3) := mm_dk kX12_type_1 2 rfl
theorem dX12_type_72 : decode cX12_type 72 = .ok (.iinc 4 (-1), 3) := mm_dk kX12_type_1 3 rfl
theorem dX12_type_75 : decode cX12_type 75 = .ok (.goto (-36), 3) := mm_dk kX12_type_1 4 rfl
theorem dX12_type_78 : decode cX12_type 78 = .ok (.aload_n 0, 1) := mm_dk kX12_type_1 5 rfl
theorem dX12_type_79 : decode cX12_type 79 = .ok (.aload_n 0, 1) := mm_dk kX12_type_1 6 rfl
theorem dX12_type_80 : decode cX12_type 80 = .ok (.getfield 402, 3) := mm_dk kX12_type_1 7 rfl
theorem dX12_type_83 : decode cX12_type 83 = .ok (.invokevirtual 235, 3) := mm_dk kX12_type_1 8 rfl
theorem dX12_type_86 : decode cX12_type 86 = .ok (.ireturn, 1) := mm_dk kX12_type_1 9 rfl
