set_option maxRecDepth 100000 in
theorem kX11_init_0 : ([(0, .aload_n 0, 1), (1, .invokespecial 1, 3), (4, .aload_n 0, 1), (5, .new 7, 3), (8, .dup, 1), (9, .invokespecial 9, 3), (12, .putfield 10, 3), (15, .aload_n 0, 1), (16, .new 16, 3), (19, .dup, 1), (20, .invokespecial 18, 3), (23, .putfield 19, 3), (26, .aload_n 0, 1), (27, .new 23, 3), (30, .dup, 1), (31, .aload_n 0, 1), (32, .getfield 19, 3), (35, .invokespecial 25, 3), (38, .putfield 28, 3), (41, .aload_n 0, 1), (42, .bipush 8, 2), (44, .anewarray 32, 3), (47, .putfield 34, 3), (50, .aload_n 0, 1), (51, .bipush 64, 2), (53, .newarray .byte, 2), (55, .putfield 38, 3), (58, .aload_n 0, 1), (59, .sipush 1284, 3), (62, .newarray .int, 2), (64, .putfield 42, 3), (67, .return_, 1)] : List (Nat × Instr × Nat)).all (fun x => decide (decode cX11_init x.1 = .ok x.2)) = true := by decide +kernel
theorem dX11_init_0 : decode cX11_init 0 = .ok (.aload_n 0, 1) := mm_dk kX11_init_0 0 rfl
theorem dX11_init_1 : decode cX11_init 1 = .ok (.invokespecial 1, 3) := mm_dk kX11_init_0 1 rfl
theorem dX11_init_4 : decode cX11_init 4 = .ok (.aload_n 0, 1) := mm_dk kX11_init_0 2 rfl
theorem dX11_init_5 : decode cX11_init 5 = .ok (.new 7, 3) := mm_dk kX11_init_0 3 rfl
theorem dX11_init_8 : decode cX11_init 8 = .ok (.dup, 1) := mm_dk kX11_init_0 4 rfl
theorem dX11_init_9 : decode cX11_init 9 = .ok (.invokespecial 9, 3) := mm_dk kX11_init_0 5 rfl
theorem dX11_init_12 : decode cX11_init 12 = .ok (.putfield 10, 3) := mm_dk kX11_init_0 6 rfl
theorem dX11_init_15 : decode cX11_init 15 = .ok (.aload_n 0, 1) := mm_dk kX11_init_0 7 rfl
theorem dX11_init_16 : decode cX11_init 16 = .ok (.new 16, 3) := mm_dk kX11_init_0 8 rfl
theorem dX11_init_19 : decode cX11_init 19 = .ok (.dup, 1) := mm_dk kX11_init_0 9 rfl
theorem dX11_init_20 : decode cX11_init 20 = .ok (.invokespecial 18, 3) := mm_dk kX11_init_0 10 rfl
theorem dX11_init_23 : decode cX11_init 23 = .ok (.putfield 19, 3) := mm_dk kX11_init_0 11 rfl
theorem dX11_init_26 : decode cX11_init 26 = .ok (.aload_n 0, 1) := mm_dk kX11_init_0 12 rfl
theorem dX11_init_27 : decode cX11_init 27 = .ok (.new 23, 3) := mm_dk kX11_init_0 13 rfl
theorem dX11_init_30 : decode cX11_init 30 = .ok (.dup, 1) := mm_dk kX11_init_0 14 rfl
theorem dX11_init_31 : decode cX11_init 31 = .ok (.aload_n 0, 1) := mm_dk kX11_init_0 15 rfl
theorem dX11_init_32 : decode cX11_init 32 = .ok (.getfield 19, 3) := mm_dk kX11_init_0 16 rfl
theorem dX11_init_35 : decode cX11_init 35 = .ok (.invokespecial 25, 3) := mm_dk kX11_init_0 17 rfl
theorem dX11_init_38 : decode cX11_init 38 = .ok (.putfield 28, 3) := mm_dk kX11_init_0 18 rfl
theorem dX11_init_41 : decode cX11_init 41 = .ok (.aload_n 0, 1) := mm_dk kX11_init_0 19 rfl
theorem dX11_init_42 : decode cX11_init 42 = .ok (.bipush 8, 2) := mm_dk kX11_init_0 20 rfl
theorem dX11_init_44 : decode cX11_init 44 = .ok (.anewarray 32, 3) := mm_dk kX11_init_0 21 rfl
theorem dX11_init_47 : decode cX11_init 47 = .ok (.putfield 34, 3) := mm_dk kX11_init_0 22 rfl
theorem dX11_init_50 : decode cX11_init 50 = .ok (.aload_n 0, 1) := mm_dk kX11_init_0 23 rfl
theorem dX11_init_51 : decode cX11_init 51 = .ok (.bipush 64, 2) := mm_dk kX11_init_0 24 rfl
theorem dX11_init_53 : decode cX11_init 53 = .ok (.newarray .byte, 2) := mm_dk kX11_init_0 25 rfl
theorem dX11_init_55 : decode cX11_init 55 = .ok (.putfield 38, 3) := mm_dk kX11_init_0 26 rfl
theorem dX11_init_58 : decode cX11_init 58 = .ok (.aload_n 0, 1) := mm_dk kX11_init_0 27 rfl
theorem dX11_init_59 : decode cX11_init 59 = .ok (.sipush 1284, 3) := mm_dk kX11_init_0 28 rfl
theorem dX11_init_62 : decode cX11_init 62 = .ok (.newarray .int, 2) := mm_dk kX11_init_0 29 rfl
theorem dX11_init_64 : decode cX11_init 64 = .ok (.putfield 42, 3) := mm_dk kX11_init_0 30 rfl
theorem dX11_init_67 : decode cX11_init 67 = .ok (.return_, 1) := mm_dk kX11_init_0 31 rfl
set_option maxRecDepth 100000 in
theorem kX11_coder_0 : ([(0, .aload_n 0, 1), (1, .iconst 0, 1), (2, .putfield 46, 3), (5, .iload_n 1, 1), (6, .invokestatic 50, 3), (9, .ifCond .ne 9, 3), (12, .aload_n 0, 1), (13, .iconst (-1), 1), (14, .invokevirtual 54, 3), (17, .ireturn, 1), (18, .aload_n 0, 1), (19, .getfield 58, 3), (22, .bipush 8, 2), (24, .if_icmp .lt 10, 3), (27, .aload_n 0, 1), (28, .bipush (-3), 2), (30, .invokevirtual 54, 3), (33, .ireturn, 1), (34, .aload_n 0, 1), (35, .getfield 34, 3), (38, .aload_n 0, 1), (39, .getfield 58, 3), (42, .new 32, 3), (45, .dup, 1), (46, .iload_n 1, 1), (47, .aload_n 0, 1), (48, .getfield 10, 3), (51, .aload_n 0, 1), (52, .getfield 19, 3), (55, .aload_n 0, 1), (56, .getfield 28, 3), (59, .invokespecial 61, 3), (62, .aastore, 1), (63, .aload_n 0, 1), (64, .dup, 1), (65, .getfield 58, 3), (68, .iconst 1, 1), (69, .iadd, 1), (70, .putfield 58, 3), (73, .aload_n 0, 1)] : List (Nat × Instr × Nat)).all (fun x => decide (decode cX11_coder x.1 = .ok x.2)) = true := by decide +kernel
theorem dX11_coder_0 : decode cX11_coder 0 = .ok (.aload_n 0, 1) := mm_dk kX11_coder_0 0 rfl
theorem dX11_coder_1 : decode cX11_coder 1 = .ok (.iconst 0, 1) := mm_dk kX11_coder_0 1 rfl
theorem dX11_coder_2 : decode cX11_coder 2 = .ok (.putfield 46, 3) := mm_dk kX11_coder_0 2 rfl
theorem dX11_coder_5 : decode cX11_coder 5 = .ok (.iload_n 1, 1) := mm_dk kX11_coder_0 3 rfl
theorem dX11_coder_6 : decode cX11_coder 6 = .ok (.invokestatic 50, 3) := mm_dk kX11_coder_0 4 rfl
theorem dX11_coder_9 : decode cX11_coder 9 = .ok (.ifCond .ne 9, 3) := mm_dk kX11_coder_0 5 rfl
theorem dX11_coder_12 : decode cX11_coder 12 = .ok (.aload_n 0, 1) := mm_dk kX11_coder_0 6 rfl
theorem dX11_coder_13 : decode cX11_coder 13 = .ok (.iconst (-1), 1) := mm_dk kX11_coder_0 7 rfl
theorem dX11_coder_14 : decode cX11_coder 14 = .ok (.invokevirtual 54, 3) := mm_dk kX11_coder_0 8 rfl
theorem dX11_coder_17 : decode cX11_coder 17 = .ok (.ireturn, 1) := mm_dk kX11_coder_0 9 rfl
theorem dX11_coder_18 : decode cX11_coder 18 = .ok (.aload_n 0, 1) := mm_dk kX11_coder_0 10 rfl
theorem dX11_coder_19 : decode cX11_coder 19 = .ok (.getfield 58, 3) := mm_dk kX11_coder_0 11 rfl
theorem dX11_coder_22 : decode cX11_coder 22 = .ok (.bipush 8, 2) := mm_dk kX11_coder_0 12 rfl
theorem dX11_coder_24 : decode cX11_coder 24 = .ok (.if_icmp .lt 10, 3) := mm_dk kX11_coder_0 13 rfl
theorem dX11_coder_27 : decode cX11_coder 27 = .ok (.aload_n 0, 1) := mm_dk kX11_coder_0 14 rfl
theorem dX11_coder_28 : decode cX11_coder 28 = .ok (.bipush (-3), 2) := mm_dk kX11_coder_0 15 rfl
theorem dX11_coder_30 : decode cX11_coder 30 = .ok (.invokevirtual 54, 3) := mm_dk kX11_coder_0 16 rfl
theorem dX11_coder_33 : decode cX11_coder 33 = .ok (.ireturn, 1) := mm_dk kX11_coder_0 17 rfl
theorem dX11_coder_34 : decode cX11_coder 34 = .ok (.aload_n 0, 1) := mm_dk kX11_coder_0 18 rfl
theorem dX11_coder_35 : decode cX11_coder 35 = .ok (.getfield 34, 3) := mm_dk kX11_coder_0 19 rfl
theorem dX11_coder_38 : decode cX11_coder 38 = .ok (.aload_n 0, 1) := mm_dk kX11_coder_0 20 rfl
theorem dX11_coder_39 : decode cX11_coder 39 = .ok (.getfield 58, 3) := mm_dk kX11_coder_0 21 rfl
theorem dX11_coder_42 : decode cX11_coder 42 = .ok (.new 32, 3) := mm_dk kX11_coder_0 22 rfl
theorem dX11_coder_45 : decode cX11_coder 45 = .ok (.dup, 1) := mm_dk kX11_coder_0 23 rfl
theorem dX11_coder_46 : decode cX11_coder 46 = .ok (.iload_n 1, 1) := mm_dk kX11_coder_0 24 rfl
theorem dX11_coder_47 : decode cX11_coder 47 = .ok (.aload_n 0, 1) := mm_dk kX11_coder_0 25 rfl
theorem dX11_coder_48 : decode cX11_coder 48 = .ok (.getfield 10, 3) := mm_dk kX11_coder_0 26 rfl
theorem dX11_coder_51 : decode cX11_coder 51 = .ok (.aload_n 0, 1) := mm_dk kX11_coder_0 27 rfl
theorem dX11_coder_52 : decode cX11_coder 52 = .ok (.getfield 19, 3) := mm_dk kX11_coder_0 28 rfl
theorem dX11_coder_55 : decode cX11_coder 55 = .ok (.aload_n 0, 1) := mm_dk kX11_coder_0 29 rfl
theorem dX11_coder_56 : decode cX11_coder 56 = .ok (.getfield 28, 3) := mm_dk kX11_coder_0 30 rfl
theorem dX11_coder_59 : decode cX11_coder 59 = .ok (.invokespecial 61, 3) := mm_dk kX11_coder_0 31 rfl
theorem dX11_coder_62 : decode cX11_coder 62 = .ok (.aastore, 1) := mm_dk kX11_coder_0 32 rfl
theorem dX11_coder_63 : decode cX11_coder 63 = .ok (.aload_n 0, 1) := mm_dk kX11_coder_0 33 rfl
theorem dX11_coder_64 : decode cX11_coder 64 = .ok (.dup, 1) := mm_dk kX11_coder_0 34 rfl
theorem dX11_coder_65 : decode cX11_coder 65 = .ok (.getfield 58, 3) := mm_dk kX11_coder_0 35 rfl
theorem dX11_coder_68 : decode cX11_coder 68 = .ok (.iconst 1, 1) := mm_dk kX11_coder_0 36 rfl
theorem dX11_coder_69 : decode cX11_coder 69 = .ok (.iadd, 1) := mm_dk kX11_coder_0 37 rfl
theorem dX11_coder_70 : decode cX11_coder 70 = .ok (.putfield 58, 3) := mm_dk kX11_coder_0 38 rfl
theorem dX11_coder_73 : decode cX11_coder 73 = .ok (.aload_n 0, 1) := mm_dk kX11_coder_0 39 rfl
set_option maxRecDepth 100000 in
theorem kX11_coder_1 : ([(74, .getfield 58, 3), (77, .iconst 1, 1), (78, .isub, 1), (79, .ireturn, 1)] : List (Nat × Instr × Nat)).all (fun x => decide (decode cX11_coder x.1 = .ok x.2)) = true := by decide +kernel
theorem dX11_coder_74 : decode cX11_coder 74 = .ok (.getfield 58, 3) := mm_dk kX11_coder_1 0 rfl
theorem dX11_coder_77 : decode cX11_coder 77 = .ok (.iconst 1, 1) := mm_dk kX11_coder_1 1 rfl
theorem dX11_coder_78 : decode cX11_coder 78 = .ok (.isub, 1) := mm_dk kX11_coder_1 2 rfl
theorem dX11_coder_79 : decode cX11_coder 79 = .ok (.ireturn, 1) := mm_dk kX11_coder_1 3 rfl
set_option maxRecDepth 100000 in
theorem kX11_rate_0 : ([(0, .aload_n 0, 1), (1, .iconst 0, 1), (2, .putfield 46, 3), (5, .aload_n 0, 1), (6, .iload_n 1, 1), (7, .invokevirtual 64, 3), (10, .astore_n 3, 1), (11, .aload_n 3, 1), (12, .ifnull 10, 3), (15, .iload_n 2, 1), (16, .invokestatic 50, 3), (19, .ifCond .ne 9, 3), (22, .aload_n 0, 1), (23, .iconst (-1), 1), (24, .invokevirtual 54, 3), (27, .ireturn, 1), (28, .aload_n 3, 1), (29, .getfield 68, 3), (32, .getfield 72, 3), (35, .istore 4, 2), (37, .aload_n 3, 1), (38, .getfield 68, 3), (41, .iload_n 2, 1), (42, .putfield 72, 3), (45, .iload 4, 2), (47, .ireturn, 1)] : List (Nat × Instr × Nat)).all (fun x => decide (decode cX11_rate x.1 = .ok x.2)) = true := by decide +kernel
theorem dX11_rate_0 : decode cX11_rate 0 = .ok (.aload_n 0, 1) := mm_dk kX11_rate_0 0 rfl
theorem dX11_rate_1 : decode cX11_rate 1 = .ok (.iconst 0, 1) := mm_dk kX11_rate_0 1 rfl
theorem dX11_rate_2 : decode cX11_rate 2 = .ok (.putfield 46, 3) := mm_dk kX11_rate_0 2 rfl
theorem dX11_rate_5 : decode cX11_rate 5 = .ok (.aload_n 0, 1) := mm_dk kX11_rate_0 3 rfl
theorem dX11_rate_6 : decode cX11_rate 6 = .ok (.iload_n 1, 1) := mm_dk kX11_rate_0 4 rfl
theorem dX11_rate_7 : decode cX11_rate 7 = .ok (.invokevirtual 64, 3) := mm_dk kX11_rate_0 5 rfl
theorem dX11_rate_10 : decode cX11_rate 10 = .ok (.astore_n 3, 1) := mm_dk kX11_rate_0 6 rfl
theorem dX11_rate_11 : decode cX11_rate 11 = .ok (.aload_n 3, 1) := mm_dk kX11_rate_0 7 rfl
theorem dX11_rate_12 : decode cX11_rate 12 = .ok (.ifnull 10, 3) := mm_dk kX11_rate_0 8 rfl
theorem dX11_rate_15 : decode cX11_rate 15 = .ok (.iload_n 2, 1) := mm_dk kX11_rate_0 9 rfl
theorem dX11_rate_16 : decode cX11_rate 16 = .ok (.invokestatic 50, 3) := mm_dk kX11_rate_0 10 rfl
theorem dX11_rate_19 : decode cX11_rate 19 = .ok (.ifCond .ne 9, 3) := mm_dk kX11_rate_0 11 rfl
theorem dX11_rate_22 : decode cX11_rate 22 = .ok (.aload_n 0, 1) := mm_dk kX11_rate_0 12 rfl
theorem dX11_rate_23 : decode cX11_rate 23 = .ok (.iconst (-1), 1) := mm_dk kX11_rate_0 13 rfl
theorem dX11_rate_24 : decode cX11_rate 24 = .ok (.invokevirtual 54, 3) := mm_dk kX11_rate_0 14 rfl
theorem dX11_rate_27 : decode cX11_rate 27 = .ok (.ireturn, 1) := mm_dk kX11_rate_0 15 rfl
theorem dX11_rate_28 : decode cX11_rate 28 = .ok (.aload_n 3, 1) := mm_dk kX11_rate_0 16 rfl
theorem dX11_rate_29 : decode cX11_rate 29 = .ok (.getfield 68, 3) := mm_dk kX11_rate_0 17 rfl
theorem dX11_rate_32 : decode cX11_rate 32 = .ok (.getfield 72, 3) := mm_dk kX11_rate_0 18 rfl
theorem dX11_rate_35 : decode cX11_rate 35 = .ok (.istore 4, 2) := mm_dk kX11_rate_0 19 rfl
theorem dX11_rate_37 : decode cX11_rate 37 = .ok (.aload_n 3, 1) := mm_dk kX11_rate_0 20 rfl
theorem dX11_rate_38 : decode cX11_rate 38 = .ok (.getfield 68, 3) := mm_dk kX11_rate_0 21 rfl
theorem dX11_rate_41 : decode cX11_rate 41 = .ok (.iload_n 2, 1) := mm_dk kX11_rate_0 22 rfl
theorem dX11_rate_42 : decode cX11_rate 42 = .ok (.putfield 72, 3) := mm_dk kX11_rate_0 23 rfl
theorem dX11_rate_45 : decode cX11_rate 45 = .ok (.iload 4, 2) := mm_dk kX11_rate_0 24 rfl
theorem dX11_rate_47 : decode cX11_rate 47 = .ok (.ireturn, 1) := mm_dk kX11_rate_0 25 rfl
set_option maxRecDepth 100000 in
theorem kX11_emphasis_0 : ([(0, .aload_n 0, 1), (1, .iconst 0, 1), (2, .putfield 46, 3), (5, .aload_n 0, 1), (6, .iload_n 1, 1), (7, .invokevirtual 64, 3), (10, .astore_n 3, 1), (11, .aload_n 3, 1), (12, .ifnonnull 9, 3), (15, .aload_n 0, 1), (16, .iconst (-1), 1), (17, .invokevirtual 54, 3), (20, .ireturn, 1), (21, .aload_n 3, 1), (22, .getfield 68, 3), (25, .getfield 77, 3), (28, .invokestatic 81, 3), (31, .istore 4, 2), (33, .aload_n 3, 1), (34, .getfield 68, 3), (37, .iload_n 2, 1), (38, .putfield 77, 3), (41, .iload 4, 2), (43, .ireturn, 1)] : List (Nat × Instr × Nat)).all (fun x => decide (decode cX11_emphasis x.1 = .ok x.2)) = true := by decide +kernel
theorem dX11_emphasis_0 : decode cX11_emphasis 0 = .ok (.aload_n 0, 1) := mm_dk kX11_emphasis_0 0 rfl
theorem dX11_emphasis_1 : decode cX11_emphasis 1 = .ok (.iconst 0, 1) := mm_dk kX11_emphasis_0 1 rfl
theorem dX11_emphasis_2 : decode cX11_emphasis 2 = .ok (.putfield 46, 3) := mm_dk kX11_emphasis_0 2 rfl
theorem dX11_emphasis_5 : decode cX11_emphasis 5 = .ok (.aload_n 0, 1) := mm_dk kX11_emphasis_0 3 rfl
theorem dX11_emphasis_6 : decode cX11_emphasis 6 = .ok (.iload_n 1, 1) := mm_dk kX11_emphasis_0 4 rfl
theorem dX11_emphasis_7 : decode cX11_emphasis 7 = .ok (.invokevirtual 64, 3) := mm_dk kX11_emphasis_0 5 rfl
theorem dX11_emphasis_10 : decode cX11_emphasis 10 = .ok (.astore_n 3, 1) := mm_dk kX11_emphasis_0 6 rfl
theorem dX11_emphasis_11 : decode cX11_emphasis 11 = .ok (.aload_n 3, 1) := mm_dk kX11_emphasis_0 7 rfl
theorem dX11_emphasis_12 : decode cX11_emphasis 12 = .ok (.ifnonnull 9, 3) := mm_dk kX11_emphasis_0 8 rfl
theorem dX11_emphasis_15 : decode cX11_emphasis 15 = .ok (.aload_n 0, 1) := mm_dk kX11_emphasis_0 9 rfl
theorem dX11_emphasis_16 : decode cX11_emphasis 16 = .ok (.iconst (-1), 1) := mm_dk kX11_emphasis_0 10 rfl
theorem dX11_emphasis_17 : decode cX11_emphasis 17 = .ok (.invokevirtual 54, 3) := mm_dk kX11_emphasis_0 11 rfl
theorem dX11_emphasis_20 : decode cX11_emphasis 20 = .ok (.ireturn, 1) := mm_dk kX11_emphasis_0 12 rfl
theorem dX11_emphasis_21 : decode cX11_emphasis 21 = .ok (.aload_n 3, 1) := mm_dk kX11_emphasis_0 13 rfl
theorem dX11_emphasis_22 : decode cX11_emphasis 22 = .ok (.getfield 68, 3) := mm_dk kX11_emphasis_0 14 rfl
theorem dX11_emphasis_25 : decode cX11_emphasis 25 = .ok (.getfield 77, 3) := mm_dk kX11_emphasis_0 15 rfl
theorem dX11_emphasis_28 : decode cX11_emphasis 28 = .ok (.invokestatic 81, 3) := mm_dk kX11_emphasis_0 16 rfl
theorem dX11_emphasis_31 : decode cX11_emphasis 31 = .ok (.istore 4, 2) := mm_dk kX11_emphasis_0 17 rfl
theorem dX11_emphasis_33 : decode cX11_emphasis 33 = .ok (.aload_n 3, 1) := mm_dk kX11_emphasis_0 18 rfl
theorem dX11_emphasis_34 : decode cX11_emphasis 34 = .ok (.getfield 68, 3) := mm_dk kX11_emphasis_0 19 rfl
theorem dX11_emphasis_37 : decode cX11_emphasis 37 = .ok (.iload_n 2, 1) := mm_dk kX11_emphasis_0 20 rfl
theorem dX11_emphasis_38 : decode cX11_emphasis 38 = .ok (.putfield 77, 3) := mm_dk kX11_emphasis_0 21 rfl
theorem dX11_emphasis_41 : decode cX11_emphasis 41 = .ok (.iload 4, 2) := mm_dk kX11_emphasis_0 22 rfl
theorem dX11_emphasis_43 : decode cX11_emphasis 43 = .ok (.ireturn, 1) := mm_dk kX11_emphasis_0 23 rfl
set_option maxRecDepth 100000 in
theorem kX11_search_0 : ([(0, .aload_n 0, 1), (1, .iconst 0, 1), (2, .putfield 46, 3), (5, .aload_n 0, 1), (6, .iload_n 1, 1), (7, .invokevirtual 64, 3), (10, .astore 4, 2), (12, .aload 4, 2), (14, .ifnull 17, 3), (17, .iload_n 2, 1), (18, .invokestatic 50, 3), (21, .ifCond .eq 10, 3), (24, .iload_n 3, 1), (25, .invokestatic 50, 3), (28, .ifCond .ne 9, 3), (31, .aload_n 0, 1), (32, .iconst (-1), 1), (33, .invokevirtual 54, 3), (36, .ireturn, 1), (37, .aload 4, 2), (39, .getfield 68, 3), (42, .astore 5, 2), (44, .iload_n 2, 1), (45, .ifCond .ne 11, 3), (48, .aload 5, 2), (50, .getfield 85, 3), (53, .goto 8, 3), (56, .aload 5, 2), (58, .getfield 88, 3), (61, .istore 6, 2), (63, .iload_n 2, 1), (64, .ifCond .ne 12, 3), (67, .aload 5, 2), (69, .iload_n 3, 1), (70, .putfield 85, 3), (73, .goto 9, 3), (76, .aload 5, 2), (78, .iload_n 3, 1), (79, .putfield 88, 3), (82, .iload 6, 2)] : List (Nat × Instr × Nat)).all (fun x => decide (decode cX11_search x.1 = .ok x.2)) = true := by decide +kernel
theorem dX11_search_0 : decode cX11_search 0 = .ok (.aload_n 0, 1) := mm_dk kX11_search_0 0 rfl
theorem dX11_search_1 : decode cX11_search 1 = .ok (.iconst 0, 1) := mm_dk kX11_search_0 1 rfl
theorem dX11_search_2 : decode cX11_search 2 = .ok (.putfield 46, 3) := mm_dk kX11_search_0 2 rfl
theorem dX11_search_5 : decode cX11_search 5 = .ok (.aload_n 0, 1) := mm_dk kX11_search_0 3 rfl
theorem dX11_search_6 : decode cX11_search 6 = .ok (.iload_n 1, 1) := mm_dk kX11_search_0 4 rfl
theorem dX11_search_7 : decode cX11_search 7 = .ok (.invokevirtual 64, 3) := mm_dk kX11_search_0 5 rfl
theorem dX11_search_10 : decode cX11_search 10 = .ok (.astore 4, 2) := mm_dk kX11_search_0 6 rfl
theorem dX11_search_12 : decode cX11_search 12 = .ok (.aload 4, 2) := mm_dk kX11_search_0 7 rfl
theorem dX11_search_14 : decode cX11_search 14 = .ok (.ifnull 17, 3) := mm_dk kX11_search_0 8 rfl
theorem dX11_search_17 : decode cX11_search 17 = .ok (.iload_n 2, 1) := mm_dk kX11_search_0 9 rfl
theorem dX11_search_18 : decode cX11_search 18 = .ok (.invokestatic 50, 3) := mm_dk kX11_search_0 10 rfl
theorem dX11_search_21 : decode cX11_search 21 = .ok (.ifCond .eq 10, 3) := mm_dk kX11_search_0 11 rfl
theorem dX11_search_24 : decode cX11_search 24 = .ok (.iload_n 3, 1) := mm_dk kX11_search_0 12 rfl
theorem dX11_search_25 : decode cX11_search 25 = .ok (.invokestatic 50, 3) := mm_dk kX11_search_0 13 rfl
theorem dX11_search_28 : decode cX11_search 28 = .ok (.ifCond .ne 9, 3) := mm_dk kX11_search_0 14 rfl
theorem dX11_search_31 : decode cX11_search 31 = .ok (.aload_n 0, 1) := mm_dk kX11_search_0 15 rfl
theorem dX11_search_32 : decode cX11_search 32 = .ok (.iconst (-1), 1) := mm_dk kX11_search_0 16 rfl
theorem dX11_search_33 : decode cX11_search 33 = .ok (.invokevirtual 54, 3) := mm_dk kX11_search_0 17 rfl
theorem dX11_search_36 : decode cX11_search 36 = .ok (.ireturn, 1) := mm_dk kX11_search_0 18 rfl
theorem dX11_search_37 : decode cX11_search 37 = .ok (.aload 4, 2) := mm_dk kX11_search_0 19 rfl
theorem dX11_search_39 : decode cX11_search 39 = .ok (.getfield 68, 3) := mm_dk kX11_search_0 20 rfl
theorem dX11_search_42 : decode cX11_search 42 = .ok (.astore 5, 2) := mm_dk kX11_search_0 21 rfl
theorem dX11_search_44 : decode cX11_search 44 = .ok (.iload_n 2, 1) := mm_dk kX11_search_0 22 rfl
theorem dX11_search_45 : decode cX11_search 45 = .ok (.ifCond .ne 11, 3) := mm_dk kX11_search_0 23 rfl
theorem dX11_search_48 : decode cX11_search 48 = .ok (.aload 5, 2) := mm_dk kX11_search_0 24 rfl
theorem dX11_search_50 : decode cX11_search 50 = .ok (.getfield 85, 3) := mm_dk kX11_search_0 25 rfl
theorem dX11_search_53 : decode cX11_search 53 = .ok (.goto 8, 3) := mm_dk kX11_search_0 26 rfl
theorem dX11_search_56 : decode cX11_search 56 = .ok (.aload 5, 2) := mm_dk kX11_search_0 27 rfl
theorem dX11_search_58 : decode cX11_search 58 = .ok (.getfield 88, 3) := mm_dk kX11_search_0 28 rfl
theorem dX11_search_61 : decode cX11_search 61 = .ok (.istore 6, 2) := mm_dk kX11_search_0 29 rfl
theorem dX11_search_63 : decode cX11_search 63 = .ok (.iload_n 2, 1) := mm_dk kX11_search_0 30 rfl
theorem dX11_search_64 : decode cX11_search 64 = .ok (.ifCond .ne 12, 3) := mm_dk kX11_search_0 31 rfl
theorem dX11_search_67 : decode cX11_search 67 = .ok (.aload 5, 2) := mm_dk kX11_search_0 32 rfl
theorem dX11_search_69 : decode cX11_search 69 = .ok (.iload_n 3, 1) := mm_dk kX11_search_0 33 rfl
theorem dX11_search_70 : decode cX11_search 70 = .ok (.putfield 85, 3) := mm_dk kX11_search_0 34 rfl
theorem dX11_search_73 : decode cX11_search 73 = .ok (.goto 9, 3) := mm_dk kX11_search_0 35 rfl
theorem dX11_search_76 : decode cX11_search 76 = .ok (.aload 5, 2) := mm_dk kX11_search_0 36 rfl
theorem dX11_search_78 : decode cX11_search 78 = .ok (.iload_n 3, 1) := mm_dk kX11_search_0 37 rfl
theorem dX11_search_79 : decode cX11_search 79 = .ok (.putfield 88, 3) := mm_dk kX11_search_0 38 rfl
theorem dX11_search_82 : decode cX11_search 82 = .ok (.iload 6, 2) := mm_dk kX11_search_0 39 rfl
set_option maxRecDepth 100000 in
theorem kX11_search_1 : ([(84, .ireturn, 1)] : List (Nat × Instr × Nat)).all (fun x => decide (decode cX11_search x.1 = .ok x.2)) = true := by decide +kernel
theorem dX11_search_84 : decode cX11_search 84 = .ok (.ireturn, 1) := mm_dk kX11_search_1 0 rfl
set_option maxRecDepth 100000 in
theorem kX11_silence_0 : ([(0, .aload_n 0, 1), (1, .iconst 0, 1), (2, .putfield 46, 3), (5, .aload_n 0, 1), (6, .iload_n 1, 1), (7, .invokevirtual 64, 3), (10, .astore_n 3, 1), (11, .aload_n 3, 1), (12, .ifnull 13, 3), (15, .iload_n 2, 1), (16, .ifCond .lt 9, 3), (19, .iload_n 2, 1), (20, .ldc 91, 2), (22, .if_icmp .le 9, 3), (25, .aload_n 0, 1), (26, .iconst (-1), 1), (27, .invokevirtual 54, 3), (30, .ireturn, 1), (31, .aload_n 3, 1), (32, .getfield 68, 3), (35, .getfield 92, 3), (38, .istore 4, 2), (40, .aload_n 3, 1), (41, .getfield 68, 3), (44, .iload_n 2, 1), (45, .putfield 92, 3), (48, .iload 4, 2), (50, .ireturn, 1)] : List (Nat × Instr × Nat)).all (fun x => decide (decode cX11_silence x.1 = .ok x.2)) = true := by decide +kernel
theorem dX11_silence_0 : decode cX11_silence 0 = .ok (.aload_n 0, 1) := mm_dk kX11_silence_0 0 rfl
theorem dX11_silence_1 : decode cX11_silence 1 = .ok (.iconst 0, 1) := mm_dk kX11_silence_0 1 rfl
theorem dX11_silence_2 : decode cX11_silence 2 = .ok (.putfield 46, 3) := mm_dk kX11_silence_0 2 rfl
theorem dX11_silence_5 : decode cX11_silence 5 = .ok (.aload_n 0, 1) := mm_dk kX11_silence_0 3 rfl
theorem dX11_silence_6 : decode cX11_silence 6 = .ok (.iload_n 1, 1) := mm_dk kX11_silence_0 4 rfl
theorem dX11_silence_7 : decode cX11_silence 7 = .ok (.invokevirtual 64, 3) := mm_dk kX11_silence_0 5 rfl
theorem dX11_silence_10 : decode cX11_silence 10 = .ok (.astore_n 3, 1) := mm_dk kX11_silence_0 6 rfl
theorem dX11_silence_11 : decode cX11_silence 11 = .ok (.aload_n 3, 1) := mm_dk kX11_silence_0 7 rfl
theorem dX11_silence_12 : decode cX11_silence 12 = .ok (.ifnull 13, 3) := mm_dk kX11_silence_0 8 rfl
theorem dX11_silence_15 : decode cX11_silence 15 = .ok (.iload_n 2, 1) := mm_dk kX11_silence_0 9 rfl
theorem dX11_silence_16 : decode cX11_silence 16 = .ok (.ifCond .lt 9, 3) := mm_dk kX11_silence_0 10 rfl
theorem dX11_silence_19 : decode cX11_silence 19 = .ok (.iload_n 2, 1) := mm_dk kX11_silence_0 11 rfl
theorem dX11_silence_20 : decode cX11_silence 20 = .ok (.ldc 91, 2) := mm_dk kX11_silence_0 12 rfl
theorem dX11_silence_22 : decode cX11_silence 22 = .ok (.if_icmp .le 9, 3) := mm_dk kX11_silence_0 13 rfl
theorem dX11_silence_25 : decode cX11_silence 25 = .ok (.aload_n 0, 1) := mm_dk kX11_silence_0 14 rfl
theorem dX11_silence_26 : decode cX11_silence 26 = .ok (.iconst (-1), 1) := mm_dk kX11_silence_0 15 rfl
theorem dX11_silence_27 : decode cX11_silence 27 = .ok (.invokevirtual 54, 3) := mm_dk kX11_silence_0 16 rfl
theorem dX11_silence_30 : decode cX11_silence 30 = .ok (.ireturn, 1) := mm_dk kX11_silence_0 17 rfl
theorem dX11_silence_31 : decode cX11_silence 31 = .ok (.aload_n 3, 1) := mm_dk kX11_silence_0 18 rfl
theorem dX11_silence_32 : decode cX11_silence 32 = .ok (.getfield 68, 3) := mm_dk kX11_silence_0 19 rfl
theorem dX11_silence_35 : decode cX11_silence 35 = .ok (.getfield 92, 3) := mm_dk kX11_silence_0 20 rfl
theorem dX11_silence_38 : decode cX11_silence 38 = .ok (.istore 4, 2) := mm_dk kX11_silence_0 21 rfl
theorem dX11_silence_40 : decode cX11_silence 40 = .ok (.aload_n 3, 1) := mm_dk kX11_silence_0 22 rfl
theorem dX11_silence_41 : decode cX11_silence 41 = .ok (.getfield 68, 3) := mm_dk kX11_silence_0 23 rfl
theorem dX11_silence_44 : decode cX11_silence 44 = .ok (.iload_n 2, 1) := mm_dk kX11_silence_0 24 rfl
theorem dX11_silence_45 : decode cX11_silence 45 = .ok (.putfield 92, 3) := mm_dk kX11_silence_0 25 rfl
theorem dX11_silence_48 : decode cX11_silence 48 = .ok (.iload 4, 2) := mm_dk kX11_silence_0 26 rfl
theorem dX11_silence_50 : decode cX11_silence 50 = .ok (.ireturn, 1) := mm_dk kX11_silence_0 27 rfl
set_option maxRecDepth 100000 in
theorem kX11_redundancy_0 : ([(0, .aload_n 0, 1), (1, .iconst 0, 1), (2, .putfield 46, 3), (5, .aload_n 0, 1), (6, .iload_n 1, 1), (7, .invokevirtual 64, 3), (10, .astore_n 3, 1), (11, .aload_n 3, 1), (12, .ifnonnull 9, 3), (15, .aload_n 0, 1), (16, .iconst (-1), 1), (17, .invokevirtual 54, 3), (20, .ireturn, 1), (21, .aload_n 3, 1), (22, .getfield 68, 3), (25, .getfield 95, 3), (28, .invokestatic 81, 3), (31, .istore 4, 2), (33, .aload_n 3, 1), (34, .getfield 68, 3), (37, .iload_n 2, 1), (38, .putfield 95, 3), (41, .iload 4, 2), (43, .ireturn, 1)] : List (Nat × Instr × Nat)).all (fun x => decide (decode cX11_redundancy x.1 = .ok x.2)) = true := by decide +kernel
theorem dX11_redundancy_0 : decode cX11_redundancy 0 = .ok (.aload_n 0, 1) := mm_dk kX11_redundancy_0 0 rfl
theorem dX11_redundancy_1 : decode cX11_redundancy 1 = .ok (.iconst 0, 1) := mm_dk kX11_redundancy_0 1 rfl
theorem dX11_redundancy_2 : decode cX11_redundancy 2 = .ok (.putfield 46, 3) := mm_dk kX11_redundancy_0 2 rfl
theorem dX11_redundancy_5 : decode cX11_redundancy 5 = .ok (.aload_n 0, 1) := mm_dk kX11_redundancy_0 3 rfl
theorem dX11_redundancy_6 : decode cX11_redundancy 6 = .ok (.iload_n 1, 1) := mm_dk kX11_redundancy_0 4 rfl
theorem dX11_redundancy_7 : decode cX11_redundancy 7 = .ok (.invokevirtual 64, 3) := mm_dk kX11_redundancy_0 5 rfl
theorem dX11_redundancy_10 : decode cX11_redundancy 10 = .ok (.astore_n 3, 1) := mm_dk kX11_redundancy_0 6 rfl
theorem dX11_redundancy_11 : decode cX11_redundancy 11 = .ok (.aload_n 3, 1) := mm_dk kX11_redundancy_0 7 rfl
theorem dX11_redundancy_12 : decode cX11_redundancy 12 = .ok (.ifnonnull 9, 3) := mm_dk kX11_redundancy_0 8 rfl
theorem dX11_redundancy_15 : decode cX11_redundancy 15 = .ok (.aload_n 0, 1) := mm_dk kX11_redundancy_0 9 rfl
theorem dX11_redundancy_16 : decode cX11_redundancy 16 = .ok (.iconst (-1), 1) := mm_dk kX11_redundancy_0 10 rfl
theorem dX11_redundancy_17 : decode cX11_redundancy 17 = .ok (.invokevirtual 54, 3) := mm_dk kX11_redundancy_0 11 rfl
theorem dX11_redundancy_20 : decode cX11_redundancy 20 = .ok (.ireturn, 1) := mm_dk kX11_redundancy_0 12 rfl
theorem dX11_redundancy_21 : decode cX11_redundancy 21 = .ok (.aload_n 3, 1) := mm_dk kX11_redundancy_0 13 rfl
theorem dX11_redundancy_22 : decode cX11_redundancy 22 = .ok (.getfield 68, 3) := mm_dk kX11_redundancy_0 14 rfl
theorem dX11_redundancy_25 : decode cX11_redundancy 25 = .ok (.getfield 95, 3) := mm_dk kX11_redundancy_0 15 rfl
theorem dX11_redundancy_28 : decode cX11_redundancy 28 = .ok (.invokestatic 81, 3) := mm_dk kX11_redundancy_0 16 rfl
theorem dX11_redundancy_31 : decode cX11_redundancy 31 = .ok (.istore 4, 2) := mm_dk kX11_redundancy_0 17 rfl
theorem dX11_redundancy_33 : decode cX11_redundancy 33 = .ok (.aload_n 3, 1) := mm_dk kX11_redundancy_0 18 rfl
theorem dX11_redundancy_34 : decode cX11_redundancy 34 = .ok (.getfield 68, 3) := mm_dk kX11_redundancy_0 19 rfl
theorem dX11_redundancy_37 : decode cX11_redundancy 37 = .ok (.iload_n 2, 1) := mm_dk kX11_redundancy_0 20 rfl
theorem dX11_redundancy_38 : decode cX11_redundancy 38 = .ok (.putfield 95, 3) := mm_dk kX11_redundancy_0 21 rfl
theorem dX11_redundancy_41 : decode cX11_redundancy 41 = .ok (.iload 4, 2) := mm_dk kX11_redundancy_0 22 rfl
theorem dX11_redundancy_43 : decode cX11_redundancy 43 = .ok (.ireturn, 1) := mm_dk kX11_redundancy_0 23 rfl
set_option maxRecDepth 100000 in
theorem kX11_start_0 : ([(0, .aload_n 0, 1), (1, .iconst 0, 1), (2, .putfield 46, 3), (5, .aload_n 0, 1), (6, .iload_n 1, 1), (7, .invokevirtual 64, 3), (10, .astore_n 3, 1), (11, .aload_n 3, 1), (12, .ifnull 10, 3), (15, .iload_n 2, 1), (16, .invokestatic 98, 3), (19, .ifCond .ne 9, 3), (22, .aload_n 0, 1), (23, .iconst (-1), 1), (24, .invokevirtual 54, 3), (27, .ireturn, 1), (28, .aload_n 3, 1), (29, .getfield 68, 3), (32, .getfield 101, 3), (35, .ifCond .gt 23, 3), (38, .aload_n 3, 1), (39, .getfield 104, 3), (42, .getfield 108, 3), (45, .ifCond .gt 13, 3), (48, .aload_n 3, 1), (49, .getfield 113, 3), (52, .getfield 117, 3), (55, .ifCond .le 10, 3), (58, .aload_n 0, 1), (59, .bipush (-2), 2), (61, .invokevirtual 54, 3), (64, .ireturn, 1), (65, .aload_n 3, 1), (66, .getfield 68, 3), (69, .iload_n 2, 1), (70, .putfield 122, 3), (73, .aload_n 3, 1), (74, .getfield 104, 3), (77, .iload_n 2, 1), (78, .putfield 125, 3)] : List (Nat × Instr × Nat)).all (fun x => decide (decode cX11_start x.1 = .ok x.2)) = true := by decide +kernel
theorem dX11_start_0 : decode cX11_start 0 = .ok (.aload_n 0, 1) := mm_dk kX11_start_0 0 rfl
theorem dX11_start_1 : decode cX11_start 1 = .ok (.iconst 0, 1) := mm_dk kX11_start_0 1 rfl
theorem dX11_start_2 : decode cX11_start 2 = .ok (.putfield 46, 3) := mm_dk kX11_start_0 2 rfl
theorem dX11_start_5 : decode cX11_start 5 = .ok (.aload_n 0, 1) := mm_dk kX11_start_0 3 rfl
theorem dX11_start_6 : decode cX11_start 6 = .ok (.iload_n 1, 1) := mm_dk kX11_start_0 4 rfl
theorem dX11_start_7 : decode cX11_start 7 = .ok (.invokevirtual 64, 3) := mm_dk kX11_start_0 5 rfl
theorem dX11_start_10 : decode cX11_start 10 = .ok (.astore_n 3, 1) := mm_dk kX11_start_0 6 rfl
theorem dX11_start_11 : decode cX11_start 11 = .ok (.aload_n 3, 1) := mm_dk kX11_start_0 7 rfl
theorem dX11_start_12 : decode cX11_start 12 = .ok (.ifnull 10, 3) := mm_dk kX11_start_0 8 rfl
theorem dX11_start_15 : decode cX11_start 15 = .ok (.iload_n 2, 1) := mm_dk kX11_start_0 9 rfl
theorem dX11_start_16 : decode cX11_start 16 = .ok (.invokestatic 98, 3) := mm_dk kX11_start_0 10 rfl
theorem dX11_start_19 : decode cX11_start 19 = .ok (.ifCond .ne 9, 3) := mm_dk kX11_start_0 11 rfl
theorem dX11_start_22 : decode cX11_start 22 = .ok (.aload_n 0, 1) := mm_dk kX11_start_0 12 rfl
theorem dX11_start_23 : decode cX11_start 23 = .ok (.iconst (-1), 1) := mm_dk kX11_start_0 13 rfl
theorem dX11_start_24 : decode cX11_start 24 = .ok (.invokevirtual 54, 3) := mm_dk kX11_start_0 14 rfl
theorem dX11_start_27 : decode cX11_start 27 = .ok (.ireturn, 1) := mm_dk kX11_start_0 15 rfl
theorem dX11_start_28 : decode cX11_start 28 = .ok (.aload_n 3, 1) := mm_dk kX11_start_0 16 rfl
theorem dX11_start_29 : decode cX11_start 29 = .ok (.getfield 68, 3) := mm_dk kX11_start_0 17 rfl
theorem dX11_start_32 : decode cX11_start 32 = .ok (.getfield 101, 3) := mm_dk kX11_start_0 18 rfl
theorem dX11_start_35 : decode cX11_start 35 = .ok (.ifCond .gt 23, 3) := mm_dk kX11_start_0 19 rfl
theorem dX11_start_38 : decode cX11_start 38 = .ok (.aload_n 3, 1) := mm_dk kX11_start_0 20 rfl
theorem dX11_start_39 : decode cX11_start 39 = .ok (.getfield 104, 3) := mm_dk kX11_start_0 21 rfl
theorem dX11_start_42 : decode cX11_start 42 = .ok (.getfield 108, 3) := mm_dk kX11_start_0 22 rfl
theorem dX11_start_45 : decode cX11_start 45 = .ok (.ifCond .gt 13, 3) := mm_dk kX11_start_0 23 rfl
theorem dX11_start_48 : decode cX11_start 48 = .ok (.aload_n 3, 1) := mm_dk kX11_start_0 24 rfl
theorem dX11_start_49 : decode cX11_start 49 = .ok (.getfield 113, 3) := mm_dk kX11_start_0 25 rfl
theorem dX11_start_52 : decode cX11_start 52 = .ok (.getfield 117, 3) := mm_dk kX11_start_0 26 rfl
theorem dX11_start_55 : decode cX11_start 55 = .ok (.ifCond .le 10, 3) := mm_dk kX11_start_0 27 rfl
theorem dX11_start_58 : decode cX11_start 58 = .ok (.aload_n 0, 1) := mm_dk kX11_start_0 28 rfl
theorem dX11_start_59 : decode cX11_start 59 = .ok (.bipush (-2), 2) := mm_dk kX11_start_0 29 rfl
theorem dX11_start_61 : decode cX11_start 61 = .ok (.invokevirtual 54, 3) := mm_dk kX11_start_0 30 rfl
theorem dX11_start_64 : decode cX11_start 64 = .ok (.ireturn, 1) := mm_dk kX11_start_0 31 rfl
theorem dX11_start_65 : decode cX11_start 65 = .ok (.aload_n 3, 1) := mm_dk kX11_start_0 32 rfl
theorem dX11_start_66 : decode cX11_start 66 = .ok (.getfield 68, 3) := mm_dk kX11_start_0 33 rfl
theorem dX11_start_69 : decode cX11_start 69 = .ok (.iload_n 2, 1) := mm_dk kX11_start_0 34 rfl
theorem dX11_start_70 : decode cX11_start 70 = .ok (.putfield 122, 3) := mm_dk kX11_start_0 35 rfl
theorem dX11_start_73 : decode cX11_start 73 = .ok (.aload_n 3, 1) := mm_dk kX11_start_0 36 rfl
theorem dX11_start_74 : decode cX11_start 74 = .ok (.getfield 104, 3) := mm_dk kX11_start_0 37 rfl
theorem dX11_start_77 : decode cX11_start 77 = .ok (.iload_n 2, 1) := mm_dk kX11_start_0 38 rfl
theorem dX11_start_78 : decode cX11_start 78 = .ok (.putfield 125, 3) := mm_dk kX11_start_0 39 rfl
set_option maxRecDepth 100000 in
theorem kX11_start_1 : ([(81, .iconst 1, 1), (82, .ireturn, 1)] : List (Nat × Instr × Nat)).all (fun x => decide (decode cX11_start x.1 = .ok x.2)) = true := by decide +kernel
theorem dX11_start_81 : decode cX11_start 81 = .ok (.iconst 1, 1) := mm_dk kX11_start_1 0 rfl
theorem dX11_start_82 : decode cX11_start 82 = .ok (.ireturn, 1) := mm_dk kX11_start_1 1 rfl
set_option maxRecDepth 100000 in
theorem kX11_sample_0 : ([(0, .aload_n 0, 1), (1, .iconst 0, 1), (2, .putfield 46, 3), (5, .aload_n 0, 1), (6, .iload_n 1, 1), (7, .invokevirtual 64, 3), (10, .astore_n 3, 1), (11, .aload_n 3, 1), (12, .ifnull 10, 3), (15, .iload_n 2, 1), (16, .invokestatic 128, 3), (19, .ifCond .ne 9, 3), (22, .aload_n 0, 1), (23, .iconst (-1), 1), (24, .invokevirtual 54, 3), (27, .ireturn, 1), (28, .aload_n 3, 1), (29, .getfield 131, 3), (32, .sipush 640, 3), (35, .if_icmp .lt 10, 3), (38, .aload_n 0, 1), (39, .bipush (-3), 2), (41, .invokevirtual 54, 3), (44, .ireturn, 1), (45, .aload_n 3, 1), (46, .iload_n 2, 1), (47, .invokevirtual 134, 3), (50, .aload_n 3, 1), (51, .getfield 131, 3), (54, .ireturn, 1)] : List (Nat × Instr × Nat)).all (fun x => decide (decode cX11_sample x.1 = .ok x.2)) = true := by decide +kernel
theorem dX11_sample_0 : decode cX11_sample 0 = .ok (.aload_n 0, 1) := mm_dk kX11_sample_0 0 rfl
theorem dX11_sample_1 : decode cX11_sample 1 = .ok (.iconst 0, 1) := mm_dk kX11_sample_0 1 rfl
theorem dX11_sample_2 : decode cX11_sample 2 = .ok (.putfield 46, 3) := mm_dk kX11_sample_0 2 rfl
theorem dX11_sample_5 : decode cX11_sample 5 = .ok (.aload_n 0, 1) := mm_dk kX11_sample_0 3 rfl
theorem dX11_sample_6 : decode cX11_sample 6 = .ok (.iload_n 1, 1) := mm_dk kX11_sample_0 4 rfl
theorem dX11_sample_7 : decode cX11_sample 7 = .ok (.invokevirtual 64, 3) := mm_dk kX11_sample_0 5 rfl
theorem dX11_sample_10 : decode cX11_sample 10 = .ok (.astore_n 3, 1) := mm_dk kX11_sample_0 6 rfl
theorem dX11_sample_11 : decode cX11_sample 11 = .ok (.aload_n 3, 1) := mm_dk kX11_sample_0 7 rfl
theorem dX11_sample_12 : decode cX11_sample 12 = .ok (.ifnull 10, 3) := mm_dk kX11_sample_0 8 rfl
theorem dX11_sample_15 : decode cX11_sample 15 = .ok (.iload_n 2, 1) := mm_dk kX11_sample_0 9 rfl
theorem dX11_sample_16 : decode cX11_sample 16 = .ok (.invokestatic 128, 3) := mm_dk kX11_sample_0 10 rfl
theorem dX11_sample_19 : decode cX11_sample 19 = .ok (.ifCond .ne 9, 3) := mm_dk kX11_sample_0 11 rfl
theorem dX11_sample_22 : decode cX11_sample 22 = .ok (.aload_n 0, 1) := mm_dk kX11_sample_0 12 rfl
theorem dX11_sample_23 : decode cX11_sample 23 = .ok (.iconst (-1), 1) := mm_dk kX11_sample_0 13 rfl
theorem dX11_sample_24 : decode cX11_sample 24 = .ok (.invokevirtual 54, 3) := mm_dk kX11_sample_0 14 rfl
theorem dX11_sample_27 : decode cX11_sample 27 = .ok (.ireturn, 1) := mm_dk kX11_sample_0 15 rfl
theorem dX11_sample_28 : decode cX11_sample 28 = .ok (.aload_n 3, 1) := mm_dk kX11_sample_0 16 rfl
theorem dX11_sample_29 : decode cX11_sample 29 = .ok (.getfield 131, 3) := mm_dk kX11_sample_0 17 rfl
theorem dX11_sample_32 : decode cX11_sample 32 = .ok (.sipush 640, 3) := mm_dk kX11_sample_0 18 rfl
theorem dX11_sample_35 : decode cX11_sample 35 = .ok (.if_icmp .lt 10, 3) := mm_dk kX11_sample_0 19 rfl
theorem dX11_sample_38 : decode cX11_sample 38 = .ok (.aload_n 0, 1) := mm_dk kX11_sample_0 20 rfl
theorem dX11_sample_39 : decode cX11_sample 39 = .ok (.bipush (-3), 2) := mm_dk kX11_sample_0 21 rfl
theorem dX11_sample_41 : decode cX11_sample 41 = .ok (.invokevirtual 54, 3) := mm_dk kX11_sample_0 22 rfl
theorem dX11_sample_44 : decode cX11_sample 44 = .ok (.ireturn, 1) := mm_dk kX11_sample_0 23 rfl
theorem dX11_sample_45 : decode cX11_sample 45 = .ok (.aload_n 3, 1) := mm_dk kX11_sample_0 24 rfl
theorem dX11_sample_46 : decode cX11_sample 46 = .ok (.iload_n 2, 1) := mm_dk kX11_sample_0 25 rfl
theorem dX11_sample_47 : decode cX11_sample 47 = .ok (.invokevirtual 134, 3) := mm_dk kX11_sample_0 26 rfl
theorem dX11_sample_50 : decode cX11_sample 50 = .ok (.aload_n 3, 1) := mm_dk kX11_sample_0 27 rfl
theorem dX11_sample_51 : decode cX11_sample 51 = .ok (.getfield 131, 3) := mm_dk kX11_sample_0 28 rfl
theorem dX11_sample_54 : decode cX11_sample 54 = .ok (.ireturn, 1) := mm_dk kX11_sample_0 29 rfl
set_option maxRecDepth 100000 in
theorem kX11_wave_0 : ([(0, .aload_n 0, 1), (1, .iconst 0, 1), (2, .putfield 46, 3), (5, .aload_n 0, 1), (6, .iload_n 1, 1), (7, .invokevirtual 64, 3), (10, .astore 6, 2), (12, .aload 6, 2), (14, .ifnull 27, 3), (17, .iload 5, 2), (19, .iconst 1, 1), (20, .if_icmp .lt 21, 3), (23, .iload 5, 2), (25, .sipush 320, 3), (28, .if_icmp .gt 13, 3), (31, .iload_n 2, 1), (32, .iload_n 3, 1), (33, .iload 4, 2), (35, .invokestatic 138, 3), (38, .ifCond .ne 9, 3), (41, .aload_n 0, 1), (42, .iconst (-1), 1), (43, .invokevirtual 54, 3), (46, .ireturn, 1), (47, .iload 5, 2), (49, .sipush 640, 3), (52, .aload 6, 2), (54, .getfield 131, 3), (57, .isub, 1), (58, .if_icmp .le 10, 3), (61, .aload_n 0, 1), (62, .bipush (-3), 2), (64, .invokevirtual 54, 3), (67, .ireturn, 1), (68, .iload_n 3, 1), (69, .i2l, 1), (70, .lstore 7, 2), (72, .iconst 0, 1), (73, .istore 9, 2), (75, .iload 9, 2)] : List (Nat × Instr × Nat)).all (fun x => decide (decode cX11_wave x.1 = .ok x.2)) = true := by decide +kernel
theorem dX11_wave_0 : decode cX11_wave 0 = .ok (.aload_n 0, 1) := mm_dk kX11_wave_0 0 rfl
theorem dX11_wave_1 : decode cX11_wave 1 = .ok (.iconst 0, 1) := mm_dk kX11_wave_0 1 rfl
theorem dX11_wave_2 : decode cX11_wave 2 = .ok (.putfield 46, 3) := mm_dk kX11_wave_0 2 rfl
theorem dX11_wave_5 : decode cX11_wave 5 = .ok (.aload_n 0, 1) := mm_dk kX11_wave_0 3 rfl
theorem dX11_wave_6 : decode cX11_wave 6 = .ok (.iload_n 1, 1) := mm_dk kX11_wave_0 4 rfl
theorem dX11_wave_7 : decode cX11_wave 7 = .ok (.invokevirtual 64, 3) := mm_dk kX11_wave_0 5 rfl
theorem dX11_wave_10 : decode cX11_wave 10 = .ok (.astore 6, 2) := mm_dk kX11_wave_0 6 rfl
theorem dX11_wave_12 : decode cX11_wave 12 = .ok (.aload 6, 2) := mm_dk kX11_wave_0 7 rfl
theorem dX11_wave_14 : decode cX11_wave 14 = .ok (.ifnull 27, 3) := mm_dk kX11_wave_0 8 rfl
theorem dX11_wave_17 : decode cX11_wave 17 = .ok (.iload 5, 2) := mm_dk kX11_wave_0 9 rfl
theorem dX11_wave_19 : decode cX11_wave 19 = .ok (.iconst 1, 1) := mm_dk kX11_wave_0 10 rfl
theorem dX11_wave_20 : decode cX11_wave 20 = .ok (.if_icmp .lt 21, 3) := mm_dk kX11_wave_0 11 rfl
theorem dX11_wave_23 : decode cX11_wave 23 = .ok (.iload 5, 2) := mm_dk kX11_wave_0 12 rfl
theorem dX11_wave_25 : decode cX11_wave 25 = .ok (.sipush 320, 3) := mm_dk kX11_wave_0 13 rfl
theorem dX11_wave_28 : decode cX11_wave 28 = .ok (.if_icmp .gt 13, 3) := mm_dk kX11_wave_0 14 rfl
theorem dX11_wave_31 : decode cX11_wave 31 = .ok (.iload_n 2, 1) := mm_dk kX11_wave_0 15 rfl
theorem dX11_wave_32 : decode cX11_wave 32 = .ok (.iload_n 3, 1) := mm_dk kX11_wave_0 16 rfl
theorem dX11_wave_33 : decode cX11_wave 33 = .ok (.iload 4, 2) := mm_dk kX11_wave_0 17 rfl
theorem dX11_wave_35 : decode cX11_wave 35 = .ok (.invokestatic 138, 3) := mm_dk kX11_wave_0 18 rfl
theorem dX11_wave_38 : decode cX11_wave 38 = .ok (.ifCond .ne 9, 3) := mm_dk kX11_wave_0 19 rfl
theorem dX11_wave_41 : decode cX11_wave 41 = .ok (.aload_n 0, 1) := mm_dk kX11_wave_0 20 rfl
theorem dX11_wave_42 : decode cX11_wave 42 = .ok (.iconst (-1), 1) := mm_dk kX11_wave_0 21 rfl
theorem dX11_wave_43 : decode cX11_wave 43 = .ok (.invokevirtual 54, 3) := mm_dk kX11_wave_0 22 rfl
theorem dX11_wave_46 : decode cX11_wave 46 = .ok (.ireturn, 1) := mm_dk kX11_wave_0 23 rfl
theorem dX11_wave_47 : decode cX11_wave 47 = .ok (.iload 5, 2) := mm_dk kX11_wave_0 24 rfl
theorem dX11_wave_49 : decode cX11_wave 49 = .ok (.sipush 640, 3) := mm_dk kX11_wave_0 25 rfl
theorem dX11_wave_52 : decode cX11_wave 52 = .ok (.aload 6, 2) := mm_dk kX11_wave_0 26 rfl
theorem dX11_wave_54 : decode cX11_wave 54 = .ok (.getfield 131, 3) := mm_dk kX11_wave_0 27 rfl
theorem dX11_wave_57 : decode cX11_wave 57 = .ok (.isub, 1) := mm_dk kX11_wave_0 28 rfl
theorem dX11_wave_58 : decode cX11_wave 58 = .ok (.if_icmp .le 10, 3) := mm_dk kX11_wave_0 29 rfl
theorem dX11_wave_61 : decode cX11_wave 61 = .ok (.aload_n 0, 1) := mm_dk kX11_wave_0 30 rfl
theorem dX11_wave_62 : decode cX11_wave 62 = .ok (.bipush (-3), 2) := mm_dk kX11_wave_0 31 rfl
theorem dX11_wave_64 : decode cX11_wave 64 = .ok (.invokevirtual 54, 3) := mm_dk kX11_wave_0 32 rfl
theorem dX11_wave_67 : decode cX11_wave 67 = .ok (.ireturn, 1) := mm_dk kX11_wave_0 33 rfl
theorem dX11_wave_68 : decode cX11_wave 68 = .ok (.iload_n 3, 1) := mm_dk kX11_wave_0 34 rfl
theorem dX11_wave_69 : decode cX11_wave 69 = .ok (.i2l, 1) := mm_dk kX11_wave_0 35 rfl
theorem dX11_wave_70 : decode cX11_wave 70 = .ok (.lstore 7, 2) := mm_dk kX11_wave_0 36 rfl
theorem dX11_wave_72 : decode cX11_wave 72 = .ok (.iconst 0, 1) := mm_dk kX11_wave_0 37 rfl
theorem dX11_wave_73 : decode cX11_wave 73 = .ok (.istore 9, 2) := mm_dk kX11_wave_0 38 rfl
theorem dX11_wave_75 : decode cX11_wave 75 = .ok (.iload 9, 2) := mm_dk kX11_wave_0 39 rfl
set_option maxRecDepth 100000 in
theorem kX11_wave_1 : ([(77, .iload 5, 2), (79, .if_icmp .ge 49, 3), (82, .lload 7, 2), (84, .invokestatic 142, 3), (87, .lstore 7, 2), (89, .aload 6, 2), (91, .iload_n 2, 1), (92, .iconst 2, 1), (93, .if_icmp .ne 17, 3), (96, .lload 7, 2), (98, .invokestatic 146, 3), (101, .iload 4, 2), (103, .imul, 1), (104, .bipush 7, 2), (106, .ishr, 1), (107, .goto 12, 3), (110, .iload_n 2, 1), (111, .iload_n 3, 1), (112, .iload 4, 2), (114, .iload 9, 2), (116, .invokestatic 150, 3), (119, .invokevirtual 134, 3), (122, .iinc 9 1, 3), (125, .goto (-50), 3), (128, .aload 6, 2), (130, .getfield 131, 3), (133, .ireturn, 1)] : List (Nat × Instr × Nat)).all (fun x => decide (decode cX11_wave x.1 = .ok x.2)) = true := by decide +kernel
theorem dX11_wave_77 : decode cX11_wave 77 = .ok (.iload 5, 2) := mm_dk kX11_wave_1 0 rfl
theorem dX11_wave_79 : decode cX11_wave 79 = .ok (.if_icmp .ge 49, 3) := mm_dk kX11_wave_1 1 rfl
theorem dX11_wave_82 : decode cX11_wave 82 = .ok (.lload 7, 2) := mm_dk kX11_wave_1 2 rfl
theorem dX11_wave_84 : decode cX11_wave 84 = .ok (.invokestatic 142, 3) := mm_dk kX11_wave_1 3 rfl
theorem dX11_wave_87 : decode cX11_wave 87 = .ok (.lstore 7, 2) := mm_dk kX11_wave_1 4 rfl
theorem dX11_wave_89 : decode cX11_wave 89 = .ok (.aload 6, 2) := mm_dk kX11_wave_1 5 rfl
theorem dX11_wave_91 : decode cX11_wave 91 = .ok (.iload_n 2, 1) := mm_dk kX11_wave_1 6 rfl
theorem dX11_wave_92 : decode cX11_wave 92 = .ok (.iconst 2, 1) := mm_dk kX11_wave_1 7 rfl
theorem dX11_wave_93 : decode cX11_wave 93 = .ok (.if_icmp .ne 17, 3) := mm_dk kX11_wave_1 8 rfl
theorem dX11_wave_96 : decode cX11_wave 96 = .ok (.lload 7, 2) := mm_dk kX11_wave_1 9 rfl
theorem dX11_wave_98 : decode cX11_wave 98 = .ok (.invokestatic 146, 3) := mm_dk kX11_wave_1 10 rfl
theorem dX11_wave_101 : decode cX11_wave 101 = .ok (.iload 4, 2) := mm_dk kX11_wave_1 11 rfl
theorem dX11_wave_103 : decode cX11_wave 103 = .ok (.imul, 1) := mm_dk kX11_wave_1 12 rfl
theorem dX11_wave_104 : decode cX11_wave 104 = .ok (.bipush 7, 2) := mm_dk kX11_wave_1 13 rfl
theorem dX11_wave_106 : decode cX11_wave 106 = .ok (.ishr, 1) := mm_dk kX11_wave_1 14 rfl
theorem dX11_wave_107 : decode cX11_wave 107 = .ok (.goto 12, 3) := mm_dk kX11_wave_1 15 rfl
theorem dX11_wave_110 : decode cX11_wave 110 = .ok (.iload_n 2, 1) := mm_dk kX11_wave_1 16 rfl
theorem dX11_wave_111 : decode cX11_wave 111 = .ok (.iload_n 3, 1) := mm_dk kX11_wave_1 17 rfl
theorem dX11_wave_112 : decode cX11_wave 112 = .ok (.iload 4, 2) := mm_dk kX11_wave_1 18 rfl
theorem dX11_wave_114 : decode cX11_wave 114 = .ok (.iload 9, 2) := mm_dk kX11_wave_1 19 rfl
theorem dX11_wave_116 : decode cX11_wave 116 = .ok (.invokestatic 150, 3) := mm_dk kX11_wave_1 20 rfl
theorem dX11_wave_119 : decode cX11_wave 119 = .ok (.invokevirtual 134, 3) := mm_dk kX11_wave_1 21 rfl
theorem dX11_wave_122 : decode cX11_wave 122 = .ok (.iinc 9 1, 3) := mm_dk kX11_wave_1 22 rfl
theorem dX11_wave_125 : decode cX11_wave 125 = .ok (.goto (-50), 3) := mm_dk kX11_wave_1 23 rfl
theorem dX11_wave_128 : decode cX11_wave 128 = .ok (.aload 6, 2) := mm_dk kX11_wave_1 24 rfl
theorem dX11_wave_130 : decode cX11_wave 130 = .ok (.getfield 131, 3) := mm_dk kX11_wave_1 25 rfl
theorem dX11_wave_133 : decode cX11_wave 133 = .ok (.ireturn, 1) := mm_dk kX11_wave_1 26 rfl
set_option maxRecDepth 100000 in
theorem kX11_encode_0 : ([(0, .aload_n 0, 1), (1, .iconst 0, 1), (2, .putfield 46, 3), (5, .aload_n 0, 1), (6, .iload_n 1, 1), (7, .invokevirtual 64, 3), (10, .astore_n 2, 1), (11, .aload_n 2, 1), (12, .ifnonnull 9, 3), (15, .aload_n 0, 1), (16, .iconst (-1), 1), (17, .invokevirtual 54, 3), (20, .ireturn, 1), (21, .aload_n 2, 1), (22, .getfield 131, 3), (25, .aload_n 2, 1), (26, .getfield 68, 3), (29, .getfield 72, 3), (32, .invokestatic 154, 3), (35, .if_icmp .ge 10, 3), (38, .aload_n 0, 1), (39, .bipush (-2), 2), (41, .invokevirtual 54, 3), (44, .ireturn, 1), (45, .aload_n 2, 1), (46, .getfield 113, 3), (49, .invokevirtual 157, 3), (52, .ifCond .eq 10, 3), (55, .aload_n 0, 1), (56, .bipush (-3), 2), (58, .invokevirtual 54, 3), (61, .ireturn, 1), (62, .aload_n 2, 1), (63, .getfield 68, 3), (66, .getfield 122, 3), (69, .istore_n 3, 1), (70, .aload_n 2, 1), (71, .aload_n 2, 1), (72, .getfield 68, 3), (75, .getfield 72, 3)] : List (Nat × Instr × Nat)).all (fun x => decide (decode cX11_encode x.1 = .ok x.2)) = true := by decide +kernel
theorem dX11_encode_0 : decode cX11_encode 0 = .ok (.aload_n 0, 1) := mm_dk kX11_encode_0 0 rfl
theorem dX11_encode_1 : decode cX11_encode 1 = .ok (.iconst 0, 1) := mm_dk kX11_encode_0 1 rfl
theorem dX11_encode_2 : decode cX11_encode 2 = .ok (.putfield 46, 3) := mm_dk kX11_encode_0 2 rfl
theorem dX11_encode_5 : decode cX11_encode 5 = .ok (.aload_n 0, 1) := mm_dk kX11_encode_0 3 rfl
theorem dX11_encode_6 : decode cX11_encode 6 = .ok (.iload_n 1, 1) := mm_dk kX11_encode_0 4 rfl
theorem dX11_encode_7 : decode cX11_encode 7 = .ok (.invokevirtual 64, 3) := mm_dk kX11_encode_0 5 rfl
theorem dX11_encode_10 : decode cX11_encode 10 = .ok (.astore_n 2, 1) := mm_dk kX11_encode_0 6 rfl
theorem dX11_encode_11 : decode cX11_encode 11 = .ok (.aload_n 2, 1) := mm_dk kX11_encode_0 7 rfl
theorem dX11_encode_12 : decode cX11_encode 12 = .ok (.ifnonnull 9, 3) := mm_dk kX11_encode_0 8 rfl
theorem dX11_encode_15 : decode cX11_encode 15 = .ok (.aload_n 0, 1) := mm_dk kX11_encode_0 9 rfl
theorem dX11_encode_16 : decode cX11_encode 16 = .ok (.iconst (-1), 1) := mm_dk kX11_encode_0 10 rfl
theorem dX11_encode_17 : decode cX11_encode 17 = .ok (.invokevirtual 54, 3) := mm_dk kX11_encode_0 11 rfl
theorem dX11_encode_20 : decode cX11_encode 20 = .ok (.ireturn, 1) := mm_dk kX11_encode_0 12 rfl
theorem dX11_encode_21 : decode cX11_encode 21 = .ok (.aload_n 2, 1) := mm_dk kX11_encode_0 13 rfl
theorem dX11_encode_22 : decode cX11_encode 22 = .ok (.getfield 131, 3) := mm_dk kX11_encode_0 14 rfl
theorem dX11_encode_25 : decode cX11_encode 25 = .ok (.aload_n 2, 1) := mm_dk kX11_encode_0 15 rfl
theorem dX11_encode_26 : decode cX11_encode 26 = .ok (.getfield 68, 3) := mm_dk kX11_encode_0 16 rfl
theorem dX11_encode_29 : decode cX11_encode 29 = .ok (.getfield 72, 3) := mm_dk kX11_encode_0 17 rfl
theorem dX11_encode_32 : decode cX11_encode 32 = .ok (.invokestatic 154, 3) := mm_dk kX11_encode_0 18 rfl
theorem dX11_encode_35 : decode cX11_encode 35 = .ok (.if_icmp .ge 10, 3) := mm_dk kX11_encode_0 19 rfl
theorem dX11_encode_38 : decode cX11_encode 38 = .ok (.aload_n 0, 1) := mm_dk kX11_encode_0 20 rfl
theorem dX11_encode_39 : decode cX11_encode 39 = .ok (.bipush (-2), 2) := mm_dk kX11_encode_0 21 rfl
theorem dX11_encode_41 : decode cX11_encode 41 = .ok (.invokevirtual 54, 3) := mm_dk kX11_encode_0 22 rfl
theorem dX11_encode_44 : decode cX11_encode 44 = .ok (.ireturn, 1) := mm_dk kX11_encode_0 23 rfl
theorem dX11_encode_45 : decode cX11_encode 45 = .ok (.aload_n 2, 1) := mm_dk kX11_encode_0 24 rfl
theorem dX11_encode_46 : decode cX11_encode 46 = .ok (.getfield 113, 3) := mm_dk kX11_encode_0 25 rfl
theorem dX11_encode_49 : decode cX11_encode 49 = .ok (.invokevirtual 157, 3) := mm_dk kX11_encode_0 26 rfl
theorem dX11_encode_52 : decode cX11_encode 52 = .ok (.ifCond .eq 10, 3) := mm_dk kX11_encode_0 27 rfl
theorem dX11_encode_55 : decode cX11_encode 55 = .ok (.aload_n 0, 1) := mm_dk kX11_encode_0 28 rfl
theorem dX11_encode_56 : decode cX11_encode 56 = .ok (.bipush (-3), 2) := mm_dk kX11_encode_0 29 rfl
theorem dX11_encode_58 : decode cX11_encode 58 = .ok (.invokevirtual 54, 3) := mm_dk kX11_encode_0 30 rfl
theorem dX11_encode_61 : decode cX11_encode 61 = .ok (.ireturn, 1) := mm_dk kX11_encode_0 31 rfl
theorem dX11_encode_62 : decode cX11_encode 62 = .ok (.aload_n 2, 1) := mm_dk kX11_encode_0 32 rfl
theorem dX11_encode_63 : decode cX11_encode 63 = .ok (.getfield 68, 3) := mm_dk kX11_encode_0 33 rfl
theorem dX11_encode_66 : decode cX11_encode 66 = .ok (.getfield 122, 3) := mm_dk kX11_encode_0 34 rfl
theorem dX11_encode_69 : decode cX11_encode 69 = .ok (.istore_n 3, 1) := mm_dk kX11_encode_0 35 rfl
theorem dX11_encode_70 : decode cX11_encode 70 = .ok (.aload_n 2, 1) := mm_dk kX11_encode_0 36 rfl
theorem dX11_encode_71 : decode cX11_encode 71 = .ok (.aload_n 2, 1) := mm_dk kX11_encode_0 37 rfl
theorem dX11_encode_72 : decode cX11_encode 72 = .ok (.getfield 68, 3) := mm_dk kX11_encode_0 38 rfl
theorem dX11_encode_75 : decode cX11_encode 75 = .ok (.getfield 72, 3) := mm_dk kX11_encode_0 39 rfl
set_option maxRecDepth 100000 in
theorem kX11_encode_1 : ([(78, .invokestatic 154, 3), (81, .aload_n 0, 1), (82, .getfield 19, 3), (85, .getfield 161, 3), (88, .invokevirtual 164, 3), (91, .aload_n 2, 1), (92, .getfield 113, 3), (95, .aload_n 2, 1), (96, .getfield 113, 3), (99, .getfield 117, 3), (102, .new 168, 3), (105, .dup, 1), (106, .iload_n 3, 1), (107, .aload_n 2, 1), (108, .getfield 68, 3), (111, .invokevirtual 170, 3), (114, .aconst_null, 1), (115, .invokespecial 174, 3), (118, .invokevirtual 177, 3), (121, .iload_n 3, 1), (122, .ireturn, 1)] : List (Nat × Instr × Nat)).all (fun x => decide (decode cX11_encode x.1 = .ok x.2)) = true := by decide +kernel
theorem dX11_encode_78 : decode cX11_encode 78 = .ok (.invokestatic 154, 3) := mm_dk kX11_encode_1 0 rfl
theorem dX11_encode_81 : decode cX11_encode 81 = .ok (.aload_n 0, 1) := mm_dk kX11_encode_1 1 rfl
theorem dX11_encode_82 : decode cX11_encode 82 = .ok (.getfield 19, 3) := mm_dk kX11_encode_1 2 rfl
theorem dX11_encode_85 : decode cX11_encode 85 = .ok (.getfield 161, 3) := mm_dk kX11_encode_1 3 rfl
theorem dX11_encode_88 : decode cX11_encode 88 = .ok (.invokevirtual 164, 3) := mm_dk kX11_encode_1 4 rfl
theorem dX11_encode_91 : decode cX11_encode 91 = .ok (.aload_n 2, 1) := mm_dk kX11_encode_1 5 rfl
theorem dX11_encode_92 : decode cX11_encode 92 = .ok (.getfield 113, 3) := mm_dk kX11_encode_1 6 rfl
theorem dX11_encode_95 : decode cX11_encode 95 = .ok (.aload_n 2, 1) := mm_dk kX11_encode_1 7 rfl
theorem dX11_encode_96 : decode cX11_encode 96 = .ok (.getfield 113, 3) := mm_dk kX11_encode_1 8 rfl
theorem dX11_encode_99 : decode cX11_encode 99 = .ok (.getfield 117, 3) := mm_dk kX11_encode_1 9 rfl
theorem dX11_encode_102 : decode cX11_encode 102 = .ok (.new 168, 3) := mm_dk kX11_encode_1 10 rfl
theorem dX11_encode_105 : decode cX11_encode 105 = .ok (.dup, 1) := mm_dk kX11_encode_1 11 rfl
theorem dX11_encode_106 : decode cX11_encode 106 = .ok (.iload_n 3, 1) := mm_dk kX11_encode_1 12 rfl
theorem dX11_encode_107 : decode cX11_encode 107 = .ok (.aload_n 2, 1) := mm_dk kX11_encode_1 13 rfl
theorem dX11_encode_108 : decode cX11_encode 108 = .ok (.getfield 68, 3) := mm_dk kX11_encode_1 14 rfl
theorem dX11_encode_111 : decode cX11_encode 111 = .ok (.invokevirtual 170, 3) := mm_dk kX11_encode_1 15 rfl
theorem dX11_encode_114 : decode cX11_encode 114 = .ok (.aconst_null, 1) := mm_dk kX11_encode_1 16 rfl
theorem dX11_encode_115 : decode cX11_encode 115 = .ok (.invokespecial 174, 3) := mm_dk kX11_encode_1 17 rfl
theorem dX11_encode_118 : decode cX11_encode 118 = .ok (.invokevirtual 177, 3) := mm_dk kX11_encode_1 18 rfl
theorem dX11_encode_121 : decode cX11_encode 121 = .ok (.iload_n 3, 1) := mm_dk kX11_encode_1 19 rfl
theorem dX11_encode_122 : decode cX11_encode 122 = .ok (.ireturn, 1) := mm_dk kX11_encode_1 20 rfl
set_option maxRecDepth 100000 in
theorem kX11_pick_0 : ([(0, .aload_n 0, 1), (1, .aload_n 0, 1), (2, .iload_n 1, 1), (3, .iload_n 2, 1), (4, .invokestatic 181, 3), (7, .ifCond .eq 17, 3), (10, .iload_n 3, 1), (11, .ifCond .lt 13, 3), (14, .iload_n 3, 1), (15, .bipush 6, 2), (17, .if_icmp .gt 7, 3), (20, .iconst 1, 1), (21, .goto 4, 3), (24, .iconst 0, 1), (25, .invokevirtual 184, 3), (28, .putfield 46, 3), (31, .aload_n 0, 1), (32, .getfield 46, 3), (35, .ifCond .eq 10, 3), (38, .aload_n 0, 1), (39, .getfield 46, 3), (42, .goto 21, 3), (45, .aload_n 0, 1), (46, .getfield 34, 3), (49, .iload_n 1, 1), (50, .aaload, 1), (51, .getfield 68, 3), (54, .getfield 188, 3), (57, .iload_n 2, 1), (58, .aaload, 1), (59, .iload_n 3, 1), (60, .invokevirtual 192, 3), (63, .ireturn, 1)] : List (Nat × Instr × Nat)).all (fun x => decide (decode cX11_pick x.1 = .ok x.2)) = true := by decide +kernel
theorem dX11_pick_0 : decode cX11_pick 0 = .ok (.aload_n 0, 1) := mm_dk kX11_pick_0 0 rfl
theorem dX11_pick_1 : decode cX11_pick 1 = .ok (.aload_n 0, 1) := mm_dk kX11_pick_0 1 rfl
theorem dX11_pick_2 : decode cX11_pick 2 = .ok (.iload_n 1, 1) := mm_dk kX11_pick_0 2 rfl
theorem dX11_pick_3 : decode cX11_pick 3 = .ok (.iload_n 2, 1) := mm_dk kX11_pick_0 3 rfl
theorem dX11_pick_4 : decode cX11_pick 4 = .ok (.invokestatic 181, 3) := mm_dk kX11_pick_0 4 rfl
theorem dX11_pick_7 : decode cX11_pick 7 = .ok (.ifCond .eq 17, 3) := mm_dk kX11_pick_0 5 rfl
theorem dX11_pick_10 : decode cX11_pick 10 = .ok (.iload_n 3, 1) := mm_dk kX11_pick_0 6 rfl
theorem dX11_pick_11 : decode cX11_pick 11 = .ok (.ifCond .lt 13, 3) := mm_dk kX11_pick_0 7 rfl
theorem dX11_pick_14 : decode cX11_pick 14 = .ok (.iload_n 3, 1) := mm_dk kX11_pick_0 8 rfl
theorem dX11_pick_15 : decode cX11_pick 15 = .ok (.bipush 6, 2) := mm_dk kX11_pick_0 9 rfl
theorem dX11_pick_17 : decode cX11_pick 17 = .ok (.if_icmp .gt 7, 3) := mm_dk kX11_pick_0 10 rfl
theorem dX11_pick_20 : decode cX11_pick 20 = .ok (.iconst 1, 1) := mm_dk kX11_pick_0 11 rfl
theorem dX11_pick_21 : decode cX11_pick 21 = .ok (.goto 4, 3) := mm_dk kX11_pick_0 12 rfl
theorem dX11_pick_24 : decode cX11_pick 24 = .ok (.iconst 0, 1) := mm_dk kX11_pick_0 13 rfl
theorem dX11_pick_25 : decode cX11_pick 25 = .ok (.invokevirtual 184, 3) := mm_dk kX11_pick_0 14 rfl
theorem dX11_pick_28 : decode cX11_pick 28 = .ok (.putfield 46, 3) := mm_dk kX11_pick_0 15 rfl
theorem dX11_pick_31 : decode cX11_pick 31 = .ok (.aload_n 0, 1) := mm_dk kX11_pick_0 16 rfl
theorem dX11_pick_32 : decode cX11_pick 32 = .ok (.getfield 46, 3) := mm_dk kX11_pick_0 17 rfl
theorem dX11_pick_35 : decode cX11_pick 35 = .ok (.ifCond .eq 10, 3) := mm_dk kX11_pick_0 18 rfl
theorem dX11_pick_38 : decode cX11_pick 38 = .ok (.aload_n 0, 1) := mm_dk kX11_pick_0 19 rfl
theorem dX11_pick_39 : decode cX11_pick 39 = .ok (.getfield 46, 3) := mm_dk kX11_pick_0 20 rfl
theorem dX11_pick_42 : decode cX11_pick 42 = .ok (.goto 21, 3) := mm_dk kX11_pick_0 21 rfl
theorem dX11_pick_45 : decode cX11_pick 45 = .ok (.aload_n 0, 1) := mm_dk kX11_pick_0 22 rfl
theorem dX11_pick_46 : decode cX11_pick 46 = .ok (.getfield 34, 3) := mm_dk kX11_pick_0 23 rfl
theorem dX11_pick_49 : decode cX11_pick 49 = .ok (.iload_n 1, 1) := mm_dk kX11_pick_0 24 rfl
theorem dX11_pick_50 : decode cX11_pick 50 = .ok (.aaload, 1) := mm_dk kX11_pick_0 25 rfl
theorem dX11_pick_51 : decode cX11_pick 51 = .ok (.getfield 68, 3) := mm_dk kX11_pick_0 26 rfl
theorem dX11_pick_54 : decode cX11_pick 54 = .ok (.getfield 188, 3) := mm_dk kX11_pick_0 27 rfl
theorem dX11_pick_57 : decode cX11_pick 57 = .ok (.iload_n 2, 1) := mm_dk kX11_pick_0 28 rfl
theorem dX11_pick_58 : decode cX11_pick 58 = .ok (.aaload, 1) := mm_dk kX11_pick_0 29 rfl
theorem dX11_pick_59 : decode cX11_pick 59 = .ok (.iload_n 3, 1) := mm_dk kX11_pick_0 30 rfl
theorem dX11_pick_60 : decode cX11_pick 60 = .ok (.invokevirtual 192, 3) := mm_dk kX11_pick_0 31 rfl
theorem dX11_pick_63 : decode cX11_pick 63 = .ok (.ireturn, 1) := mm_dk kX11_pick_0 32 rfl
set_option maxRecDepth 100000 in
theorem kX11_index_0 : ([(0, .aload_n 0, 1), (1, .aload_n 0, 1), (2, .iload_n 1, 1), (3, .iload_n 2, 1), (4, .iconst 1, 1), (5, .if_icmp .lt 13, 3), (8, .iload_n 2, 1), (9, .bipush 8, 2), (11, .if_icmp .gt 7, 3), (14, .iconst 1, 1), (15, .goto 4, 3), (18, .iconst 0, 1), (19, .invokevirtual 184, 3), (22, .putfield 46, 3), (25, .aload_n 0, 1), (26, .getfield 46, 3), (29, .ifCond .eq 8, 3), (32, .ldc 197, 2), (34, .goto 22, 3), (37, .aload_n 0, 1), (38, .getfield 34, 3), (41, .iload_n 1, 1), (42, .aaload, 1), (43, .getfield 68, 3), (46, .getfield 198, 3), (49, .getfield 202, 3), (52, .iload_n 2, 1), (53, .iconst 1, 1), (54, .isub, 1), (55, .iaload, 1), (56, .ireturn, 1)] : List (Nat × Instr × Nat)).all (fun x => decide (decode cX11_index x.1 = .ok x.2)) = true := by decide +kernel
theorem dX11_index_0 : decode cX11_index 0 = .ok (.aload_n 0, 1) := mm_dk kX11_index_0 0 rfl
theorem dX11_index_1 : decode cX11_index 1 = .ok (.aload_n 0, 1) := mm_dk kX11_index_0 1 rfl
theorem dX11_index_2 : decode cX11_index 2 = .ok (.iload_n 1, 1) := mm_dk kX11_index_0 2 rfl
theorem dX11_index_3 : decode cX11_index 3 = .ok (.iload_n 2, 1) := mm_dk kX11_index_0 3 rfl
theorem dX11_index_4 : decode cX11_index 4 = .ok (.iconst 1, 1) := mm_dk kX11_index_0 4 rfl
theorem dX11_index_5 : decode cX11_index 5 = .ok (.if_icmp .lt 13, 3) := mm_dk kX11_index_0 5 rfl
theorem dX11_index_8 : decode cX11_index 8 = .ok (.iload_n 2, 1) := mm_dk kX11_index_0 6 rfl
theorem dX11_index_9 : decode cX11_index 9 = .ok (.bipush 8, 2) := mm_dk kX11_index_0 7 rfl
theorem dX11_index_11 : decode cX11_index 11 = .ok (.if_icmp .gt 7, 3) := mm_dk kX11_index_0 8 rfl
theorem dX11_index_14 : decode cX11_index 14 = .ok (.iconst 1, 1) := mm_dk kX11_index_0 9 rfl
theorem dX11_index_15 : decode cX11_index 15 = .ok (.goto 4, 3) := mm_dk kX11_index_0 10 rfl
theorem dX11_index_18 : decode cX11_index 18 = .ok (.iconst 0, 1) := mm_dk kX11_index_0 11 rfl
theorem dX11_index_19 : decode cX11_index 19 = .ok (.invokevirtual 184, 3) := mm_dk kX11_index_0 12 rfl
theorem dX11_index_22 : decode cX11_index 22 = .ok (.putfield 46, 3) := mm_dk kX11_index_0 13 rfl
theorem dX11_index_25 : decode cX11_index 25 = .ok (.aload_n 0, 1) := mm_dk kX11_index_0 14 rfl
theorem dX11_index_26 : decode cX11_index 26 = .ok (.getfield 46, 3) := mm_dk kX11_index_0 15 rfl
theorem dX11_index_29 : decode cX11_index 29 = .ok (.ifCond .eq 8, 3) := mm_dk kX11_index_0 16 rfl
theorem dX11_index_32 : decode cX11_index 32 = .ok (.ldc 197, 2) := mm_dk kX11_index_0 17 rfl
theorem dX11_index_34 : decode cX11_index 34 = .ok (.goto 22, 3) := mm_dk kX11_index_0 18 rfl
theorem dX11_index_37 : decode cX11_index 37 = .ok (.aload_n 0, 1) := mm_dk kX11_index_0 19 rfl
theorem dX11_index_38 : decode cX11_index 38 = .ok (.getfield 34, 3) := mm_dk kX11_index_0 20 rfl
theorem dX11_index_41 : decode cX11_index 41 = .ok (.iload_n 1, 1) := mm_dk kX11_index_0 21 rfl
theorem dX11_index_42 : decode cX11_index 42 = .ok (.aaload, 1) := mm_dk kX11_index_0 22 rfl
theorem dX11_index_43 : decode cX11_index 43 = .ok (.getfield 68, 3) := mm_dk kX11_index_0 23 rfl
theorem dX11_index_46 : decode cX11_index 46 = .ok (.getfield 198, 3) := mm_dk kX11_index_0 24 rfl
theorem dX11_index_49 : decode cX11_index 49 = .ok (.getfield 202, 3) := mm_dk kX11_index_0 25 rfl
theorem dX11_index_52 : decode cX11_index 52 = .ok (.iload_n 2, 1) := mm_dk kX11_index_0 26 rfl
theorem dX11_index_53 : decode cX11_index 53 = .ok (.iconst 1, 1) := mm_dk kX11_index_0 27 rfl
theorem dX11_index_54 : decode cX11_index 54 = .ok (.isub, 1) := mm_dk kX11_index_0 28 rfl
theorem dX11_index_55 : decode cX11_index 55 = .ok (.iaload, 1) := mm_dk kX11_index_0 29 rfl
theorem dX11_index_56 : decode cX11_index 56 = .ok (.ireturn, 1) := mm_dk kX11_index_0 30 rfl
set_option maxRecDepth 100000 in
theorem kX11_cost_0 : ([(0, .aload_n 0, 1), (1, .aload_n 0, 1), (2, .iload_n 1, 1), (3, .iload_n 2, 1), (4, .invokestatic 181, 3), (7, .ifCond .eq 14, 3), (10, .iload_n 3, 1), (11, .invokestatic 50, 3), (14, .ifCond .eq 7, 3), (17, .iconst 1, 1), (18, .goto 4, 3), (21, .iconst 0, 1), (22, .invokevirtual 184, 3), (25, .putfield 46, 3), (28, .aload_n 0, 1), (29, .getfield 46, 3), (32, .ifCond .eq 7, 3), (35, .ldc2_w 207, 3), (38, .lreturn, 1), (39, .aload_n 0, 1), (40, .getfield 34, 3), (43, .iload_n 1, 1), (44, .aaload, 1), (45, .getfield 68, 3), (48, .astore 5, 2), (50, .iload 4, 2), (52, .ifCond .eq 13, 3), (55, .aload 5, 2), (57, .iload_n 2, 1), (58, .iload_n 3, 1), (59, .invokevirtual 209, 3), (62, .goto 14, 3), (65, .aload 5, 2), (67, .getfield 188, 3), (70, .iload_n 2, 1), (71, .aaload, 1), (72, .iload_n 3, 1), (73, .invokevirtual 213, 3), (76, .lreturn, 1)] : List (Nat × Instr × Nat)).all (fun x => decide (decode cX11_cost x.1 = .ok x.2)) = true := by decide +kernel
theorem dX11_cost_0 : decode cX11_cost 0 = .ok (.aload_n 0, 1) := mm_dk kX11_cost_0 0 rfl
theorem dX11_cost_1 : decode cX11_cost 1 = .ok (.aload_n 0, 1) := mm_dk kX11_cost_0 1 rfl
theorem dX11_cost_2 : decode cX11_cost 2 = .ok (.iload_n 1, 1) := mm_dk kX11_cost_0 2 rfl
theorem dX11_cost_3 : decode cX11_cost 3 = .ok (.iload_n 2, 1) := mm_dk kX11_cost_0 3 rfl
theorem dX11_cost_4 : decode cX11_cost 4 = .ok (.invokestatic 181, 3) := mm_dk kX11_cost_0 4 rfl
theorem dX11_cost_7 : decode cX11_cost 7 = .ok (.ifCond .eq 14, 3) := mm_dk kX11_cost_0 5 rfl
theorem dX11_cost_10 : decode cX11_cost 10 = .ok (.iload_n 3, 1) := mm_dk kX11_cost_0 6 rfl
theorem dX11_cost_11 : decode cX11_cost 11 = .ok (.invokestatic 50, 3) := mm_dk kX11_cost_0 7 rfl
theorem dX11_cost_14 : decode cX11_cost 14 = .ok (.ifCond .eq 7, 3) := mm_dk kX11_cost_0 8 rfl
theorem dX11_cost_17 : decode cX11_cost 17 = .ok (.iconst 1, 1) := mm_dk kX11_cost_0 9 rfl
theorem dX11_cost_18 : decode cX11_cost 18 = .ok (.goto 4, 3) := mm_dk kX11_cost_0 10 rfl
theorem dX11_cost_21 : decode cX11_cost 21 = .ok (.iconst 0, 1) := mm_dk kX11_cost_0 11 rfl
theorem dX11_cost_22 : decode cX11_cost 22 = .ok (.invokevirtual 184, 3) := mm_dk kX11_cost_0 12 rfl
theorem dX11_cost_25 : decode cX11_cost 25 = .ok (.putfield 46, 3) := mm_dk kX11_cost_0 13 rfl
theorem dX11_cost_28 : decode cX11_cost 28 = .ok (.aload_n 0, 1) := mm_dk kX11_cost_0 14 rfl
theorem dX11_cost_29 : decode cX11_cost 29 = .ok (.getfield 46, 3) := mm_dk kX11_cost_0 15 rfl
theorem dX11_cost_32 : decode cX11_cost 32 = .ok (.ifCond .eq 7, 3) := mm_dk kX11_cost_0 16 rfl
theorem dX11_cost_35 : decode cX11_cost 35 = .ok (.ldc2_w 207, 3) := mm_dk kX11_cost_0 17 rfl
theorem dX11_cost_38 : decode cX11_cost 38 = .ok (.lreturn, 1) := mm_dk kX11_cost_0 18 rfl
theorem dX11_cost_39 : decode cX11_cost 39 = .ok (.aload_n 0, 1) := mm_dk kX11_cost_0 19 rfl
theorem dX11_cost_40 : decode cX11_cost 40 = .ok (.getfield 34, 3) := mm_dk kX11_cost_0 20 rfl
theorem dX11_cost_43 : decode cX11_cost 43 = .ok (.iload_n 1, 1) := mm_dk kX11_cost_0 21 rfl
theorem dX11_cost_44 : decode cX11_cost 44 = .ok (.aaload, 1) := mm_dk kX11_cost_0 22 rfl
theorem dX11_cost_45 : decode cX11_cost 45 = .ok (.getfield 68, 3) := mm_dk kX11_cost_0 23 rfl
theorem dX11_cost_48 : decode cX11_cost 48 = .ok (.astore 5, 2) := mm_dk kX11_cost_0 24 rfl
theorem dX11_cost_50 : decode cX11_cost 50 = .ok (.iload 4, 2) := mm_dk kX11_cost_0 25 rfl
theorem dX11_cost_52 : decode cX11_cost 52 = .ok (.ifCond .eq 13, 3) := mm_dk kX11_cost_0 26 rfl
theorem dX11_cost_55 : decode cX11_cost 55 = .ok (.aload 5, 2) := mm_dk kX11_cost_0 27 rfl
theorem dX11_cost_57 : decode cX11_cost 57 = .ok (.iload_n 2, 1) := mm_dk kX11_cost_0 28 rfl
theorem dX11_cost_58 : decode cX11_cost 58 = .ok (.iload_n 3, 1) := mm_dk kX11_cost_0 29 rfl
theorem dX11_cost_59 : decode cX11_cost 59 = .ok (.invokevirtual 209, 3) := mm_dk kX11_cost_0 30 rfl
theorem dX11_cost_62 : decode cX11_cost 62 = .ok (.goto 14, 3) := mm_dk kX11_cost_0 31 rfl
theorem dX11_cost_65 : decode cX11_cost 65 = .ok (.aload 5, 2) := mm_dk kX11_cost_0 32 rfl
theorem dX11_cost_67 : decode cX11_cost 67 = .ok (.getfield 188, 3) := mm_dk kX11_cost_0 33 rfl
theorem dX11_cost_70 : decode cX11_cost 70 = .ok (.iload_n 2, 1) := mm_dk kX11_cost_0 34 rfl
theorem dX11_cost_71 : decode cX11_cost 71 = .ok (.aaload, 1) := mm_dk kX11_cost_0 35 rfl
theorem dX11_cost_72 : decode cX11_cost 72 = .ok (.iload_n 3, 1) := mm_dk kX11_cost_0 36 rfl
theorem dX11_cost_73 : decode cX11_cost 73 = .ok (.invokevirtual 213, 3) := mm_dk kX11_cost_0 37 rfl
theorem dX11_cost_76 : decode cX11_cost 76 = .ok (.lreturn, 1) := mm_dk kX11_cost_0 38 rfl
set_option maxRecDepth 100000 in
theorem kX11_length_0 : ([(0, .aload_n 0, 1), (1, .iconst 0, 1), (2, .putfield 46, 3), (5, .aload_n 0, 1), (6, .iload_n 1, 1), (7, .iload_n 2, 1), (8, .invokevirtual 217, 3), (11, .astore_n 3, 1), (12, .aload_n 3, 1), (13, .ifnonnull 9, 3), (16, .aload_n 0, 1), (17, .iconst (-1), 1), (18, .invokevirtual 54, 3), (21, .ireturn, 1), (22, .aload_n 3, 1), (23, .invokevirtual 221, 3), (26, .ifCond .eq 10, 3), (29, .aload_n 3, 1), (30, .invokevirtual 224, 3), (33, .goto 9, 3), (36, .aload_n 0, 1), (37, .bipush (-4), 2), (39, .invokevirtual 54, 3), (42, .ireturn, 1)] : List (Nat × Instr × Nat)).all (fun x => decide (decode cX11_length x.1 = .ok x.2)) = true := by decide +kernel
theorem dX11_length_0 : decode cX11_length 0 = .ok (.aload_n 0, 1) := mm_dk kX11_length_0 0 rfl
theorem dX11_length_1 : decode cX11_length 1 = .ok (.iconst 0, 1) := mm_dk kX11_length_0 1 rfl
theorem dX11_length_2 : decode cX11_length 2 = .ok (.putfield 46, 3) := mm_dk kX11_length_0 2 rfl
theorem dX11_length_5 : decode cX11_length 5 = .ok (.aload_n 0, 1) := mm_dk kX11_length_0 3 rfl
theorem dX11_length_6 : decode cX11_length 6 = .ok (.iload_n 1, 1) := mm_dk kX11_length_0 4 rfl
theorem dX11_length_7 : decode cX11_length 7 = .ok (.iload_n 2, 1) := mm_dk kX11_length_0 5 rfl
theorem dX11_length_8 : decode cX11_length 8 = .ok (.invokevirtual 217, 3) := mm_dk kX11_length_0 6 rfl
theorem dX11_length_11 : decode cX11_length 11 = .ok (.astore_n 3, 1) := mm_dk kX11_length_0 7 rfl
theorem dX11_length_12 : decode cX11_length 12 = .ok (.aload_n 3, 1) := mm_dk kX11_length_0 8 rfl
theorem dX11_length_13 : decode cX11_length 13 = .ok (.ifnonnull 9, 3) := mm_dk kX11_length_0 9 rfl
theorem dX11_length_16 : decode cX11_length 16 = .ok (.aload_n 0, 1) := mm_dk kX11_length_0 10 rfl
theorem dX11_length_17 : decode cX11_length 17 = .ok (.iconst (-1), 1) := mm_dk kX11_length_0 11 rfl
theorem dX11_length_18 : decode cX11_length 18 = .ok (.invokevirtual 54, 3) := mm_dk kX11_length_0 12 rfl
theorem dX11_length_21 : decode cX11_length 21 = .ok (.ireturn, 1) := mm_dk kX11_length_0 13 rfl
theorem dX11_length_22 : decode cX11_length 22 = .ok (.aload_n 3, 1) := mm_dk kX11_length_0 14 rfl
theorem dX11_length_23 : decode cX11_length 23 = .ok (.invokevirtual 221, 3) := mm_dk kX11_length_0 15 rfl
theorem dX11_length_26 : decode cX11_length 26 = .ok (.ifCond .eq 10, 3) := mm_dk kX11_length_0 16 rfl
theorem dX11_length_29 : decode cX11_length 29 = .ok (.aload_n 3, 1) := mm_dk kX11_length_0 17 rfl
theorem dX11_length_30 : decode cX11_length 30 = .ok (.invokevirtual 224, 3) := mm_dk kX11_length_0 18 rfl
theorem dX11_length_33 : decode cX11_length 33 = .ok (.goto 9, 3) := mm_dk kX11_length_0 19 rfl
theorem dX11_length_36 : decode cX11_length 36 = .ok (.aload_n 0, 1) := mm_dk kX11_length_0 20 rfl
theorem dX11_length_37 : decode cX11_length 37 = .ok (.bipush (-4), 2) := mm_dk kX11_length_0 21 rfl
theorem dX11_length_39 : decode cX11_length 39 = .ok (.invokevirtual 54, 3) := mm_dk kX11_length_0 22 rfl
theorem dX11_length_42 : decode cX11_length 42 = .ok (.ireturn, 1) := mm_dk kX11_length_0 23 rfl
set_option maxRecDepth 100000 in
theorem kX11_byteOf_0 : ([(0, .aload_n 0, 1), (1, .iconst 0, 1), (2, .putfield 46, 3), (5, .aload_n 0, 1), (6, .iload_n 1, 1), (7, .iload_n 2, 1), (8, .invokevirtual 217, 3), (11, .astore 4, 2), (13, .aload 4, 2), (15, .ifnonnull 9, 3), (18, .aload_n 0, 1), (19, .iconst (-1), 1), (20, .invokevirtual 54, 3), (23, .ireturn, 1), (24, .aload 4, 2), (26, .iload_n 3, 1), (27, .invokevirtual 227, 3), (30, .ifCond .eq 12, 3), (33, .aload 4, 2), (35, .iload_n 3, 1), (36, .invokevirtual 230, 3), (39, .goto 9, 3), (42, .aload_n 0, 1), (43, .bipush (-4), 2), (45, .invokevirtual 54, 3), (48, .ireturn, 1)] : List (Nat × Instr × Nat)).all (fun x => decide (decode cX11_byteOf x.1 = .ok x.2)) = true := by decide +kernel
theorem dX11_byteOf_0 : decode cX11_byteOf 0 = .ok (.aload_n 0, 1) := mm_dk kX11_byteOf_0 0 rfl
theorem dX11_byteOf_1 : decode cX11_byteOf 1 = .ok (.iconst 0, 1) := mm_dk kX11_byteOf_0 1 rfl
theorem dX11_byteOf_2 : decode cX11_byteOf 2 = .ok (.putfield 46, 3) := mm_dk kX11_byteOf_0 2 rfl
theorem dX11_byteOf_5 : decode cX11_byteOf 5 = .ok (.aload_n 0, 1) := mm_dk kX11_byteOf_0 3 rfl
theorem dX11_byteOf_6 : decode cX11_byteOf 6 = .ok (.iload_n 1, 1) := mm_dk kX11_byteOf_0 4 rfl
theorem dX11_byteOf_7 : decode cX11_byteOf 7 = .ok (.iload_n 2, 1) := mm_dk kX11_byteOf_0 5 rfl
theorem dX11_byteOf_8 : decode cX11_byteOf 8 = .ok (.invokevirtual 217, 3) := mm_dk kX11_byteOf_0 6 rfl
theorem dX11_byteOf_11 : decode cX11_byteOf 11 = .ok (.astore 4, 2) := mm_dk kX11_byteOf_0 7 rfl
theorem dX11_byteOf_13 : decode cX11_byteOf 13 = .ok (.aload 4, 2) := mm_dk kX11_byteOf_0 8 rfl
theorem dX11_byteOf_15 : decode cX11_byteOf 15 = .ok (.ifnonnull 9, 3) := mm_dk kX11_byteOf_0 9 rfl
theorem dX11_byteOf_18 : decode cX11_byteOf 18 = .ok (.aload_n 0, 1) := mm_dk kX11_byteOf_0 10 rfl
theorem dX11_byteOf_19 : decode cX11_byteOf 19 = .ok (.iconst (-1), 1) := mm_dk kX11_byteOf_0 11 rfl
theorem dX11_byteOf_20 : decode cX11_byteOf 20 = .ok (.invokevirtual 54, 3) := mm_dk kX11_byteOf_0 12 rfl
theorem dX11_byteOf_23 : decode cX11_byteOf 23 = .ok (.ireturn, 1) := mm_dk kX11_byteOf_0 13 rfl
theorem dX11_byteOf_24 : decode cX11_byteOf 24 = .ok (.aload 4, 2) := mm_dk kX11_byteOf_0 14 rfl
theorem dX11_byteOf_26 : decode cX11_byteOf 26 = .ok (.iload_n 3, 1) := mm_dk kX11_byteOf_0 15 rfl
theorem dX11_byteOf_27 : decode cX11_byteOf 27 = .ok (.invokevirtual 227, 3) := mm_dk kX11_byteOf_0 16 rfl
theorem dX11_byteOf_30 : decode cX11_byteOf 30 = .ok (.ifCond .eq 12, 3) := mm_dk kX11_byteOf_0 17 rfl
theorem dX11_byteOf_33 : decode cX11_byteOf 33 = .ok (.aload 4, 2) := mm_dk kX11_byteOf_0 18 rfl
theorem dX11_byteOf_35 : decode cX11_byteOf 35 = .ok (.iload_n 3, 1) := mm_dk kX11_byteOf_0 19 rfl
theorem dX11_byteOf_36 : decode cX11_byteOf 36 = .ok (.invokevirtual 230, 3) := mm_dk kX11_byteOf_0 20 rfl
theorem dX11_byteOf_39 : decode cX11_byteOf 39 = .ok (.goto 9, 3) := mm_dk kX11_byteOf_0 21 rfl
theorem dX11_byteOf_42 : decode cX11_byteOf 42 = .ok (.aload_n 0, 1) := mm_dk kX11_byteOf_0 22 rfl
theorem dX11_byteOf_43 : decode cX11_byteOf 43 = .ok (.bipush (-4), 2) := mm_dk kX11_byteOf_0 23 rfl
theorem dX11_byteOf_45 : decode cX11_byteOf 45 = .ok (.invokevirtual 54, 3) := mm_dk kX11_byteOf_0 24 rfl
theorem dX11_byteOf_48 : decode cX11_byteOf 48 = .ok (.ireturn, 1) := mm_dk kX11_byteOf_0 25 rfl
set_option maxRecDepth 100000 in
theorem kX11_label_0 : ([(0, .aload_n 0, 1), (1, .iconst 0, 1), (2, .putfield 46, 3), (5, .aload_n 0, 1), (6, .iload_n 1, 1), (7, .iload_n 2, 1), (8, .invokevirtual 217, 3), (11, .astore_n 3, 1), (12, .aload_n 3, 1), (13, .ifnonnull 11, 3), (16, .aload_n 0, 1), (17, .iconst (-1), 1), (18, .invokevirtual 54, 3), (21, .goto 7, 3), (24, .aload_n 3, 1), (25, .getfield 233, 3), (28, .ireturn, 1)] : List (Nat × Instr × Nat)).all (fun x => decide (decode cX11_label x.1 = .ok x.2)) = true := by decide +kernel
theorem dX11_label_0 : decode cX11_label 0 = .ok (.aload_n 0, 1) := mm_dk kX11_label_0 0 rfl
theorem dX11_label_1 : decode cX11_label 1 = .ok (.iconst 0, 1) := mm_dk kX11_label_0 1 rfl
theorem dX11_label_2 : decode cX11_label 2 = .ok (.putfield 46, 3) := mm_dk kX11_label_0 2 rfl
theorem dX11_label_5 : decode cX11_label 5 = .ok (.aload_n 0, 1) := mm_dk kX11_label_0 3 rfl
theorem dX11_label_6 : decode cX11_label 6 = .ok (.iload_n 1, 1) := mm_dk kX11_label_0 4 rfl
theorem dX11_label_7 : decode cX11_label 7 = .ok (.iload_n 2, 1) := mm_dk kX11_label_0 5 rfl
theorem dX11_label_8 : decode cX11_label 8 = .ok (.invokevirtual 217, 3) := mm_dk kX11_label_0 6 rfl
theorem dX11_label_11 : decode cX11_label 11 = .ok (.astore_n 3, 1) := mm_dk kX11_label_0 7 rfl
theorem dX11_label_12 : decode cX11_label 12 = .ok (.aload_n 3, 1) := mm_dk kX11_label_0 8 rfl
theorem dX11_label_13 : decode cX11_label 13 = .ok (.ifnonnull 11, 3) := mm_dk kX11_label_0 9 rfl
theorem dX11_label_16 : decode cX11_label 16 = .ok (.aload_n 0, 1) := mm_dk kX11_label_0 10 rfl
theorem dX11_label_17 : decode cX11_label 17 = .ok (.iconst (-1), 1) := mm_dk kX11_label_0 11 rfl
theorem dX11_label_18 : decode cX11_label 18 = .ok (.invokevirtual 54, 3) := mm_dk kX11_label_0 12 rfl
theorem dX11_label_21 : decode cX11_label 21 = .ok (.goto 7, 3) := mm_dk kX11_label_0 13 rfl
theorem dX11_label_24 : decode cX11_label 24 = .ok (.aload_n 3, 1) := mm_dk kX11_label_0 14 rfl
theorem dX11_label_25 : decode cX11_label 25 = .ok (.getfield 233, 3) := mm_dk kX11_label_0 15 rfl
theorem dX11_label_28 : decode cX11_label 28 = .ok (.ireturn, 1) := mm_dk kX11_label_0 16 rfl
set_option maxRecDepth 100000 in
theorem kX11_lose_0 : ([(0, .aload_n 0, 1), (1, .iconst 0, 1), (2, .putfield 46, 3), (5, .aload_n 0, 1), (6, .iload_n 1, 1), (7, .iload_n 2, 1), (8, .invokevirtual 217, 3), (11, .astore_n 3, 1), (12, .aload_n 3, 1), (13, .ifnonnull 9, 3), (16, .aload_n 0, 1), (17, .iconst (-1), 1), (18, .invokevirtual 54, 3), (21, .ireturn, 1), (22, .aload_n 3, 1), (23, .aconst_null, 1), (24, .putfield 236, 3), (27, .aload_n 3, 1), (28, .aconst_null, 1), (29, .putfield 239, 3), (32, .iconst 1, 1), (33, .ireturn, 1)] : List (Nat × Instr × Nat)).all (fun x => decide (decode cX11_lose x.1 = .ok x.2)) = true := by decide +kernel
theorem dX11_lose_0 : decode cX11_lose 0 = .ok (.aload_n 0, 1) := mm_dk kX11_lose_0 0 rfl
theorem dX11_lose_1 : decode cX11_lose 1 = .ok (.iconst 0, 1) := mm_dk kX11_lose_0 1 rfl
theorem dX11_lose_2 : decode cX11_lose 2 = .ok (.putfield 46, 3) := mm_dk kX11_lose_0 2 rfl
theorem dX11_lose_5 : decode cX11_lose 5 = .ok (.aload_n 0, 1) := mm_dk kX11_lose_0 3 rfl
theorem dX11_lose_6 : decode cX11_lose 6 = .ok (.iload_n 1, 1) := mm_dk kX11_lose_0 4 rfl
theorem dX11_lose_7 : decode cX11_lose 7 = .ok (.iload_n 2, 1) := mm_dk kX11_lose_0 5 rfl
theorem dX11_lose_8 : decode cX11_lose 8 = .ok (.invokevirtual 217, 3) := mm_dk kX11_lose_0 6 rfl
theorem dX11_lose_11 : decode cX11_lose 11 = .ok (.astore_n 3, 1) := mm_dk kX11_lose_0 7 rfl
theorem dX11_lose_12 : decode cX11_lose 12 = .ok (.aload_n 3, 1) := mm_dk kX11_lose_0 8 rfl
theorem dX11_lose_13 : decode cX11_lose 13 = .ok (.ifnonnull 9, 3) := mm_dk kX11_lose_0 9 rfl
theorem dX11_lose_16 : decode cX11_lose 16 = .ok (.aload_n 0, 1) := mm_dk kX11_lose_0 10 rfl
theorem dX11_lose_17 : decode cX11_lose 17 = .ok (.iconst (-1), 1) := mm_dk kX11_lose_0 11 rfl
theorem dX11_lose_18 : decode cX11_lose 18 = .ok (.invokevirtual 54, 3) := mm_dk kX11_lose_0 12 rfl
theorem dX11_lose_21 : decode cX11_lose 21 = .ok (.ireturn, 1) := mm_dk kX11_lose_0 13 rfl
theorem dX11_lose_22 : decode cX11_lose 22 = .ok (.aload_n 3, 1) := mm_dk kX11_lose_0 14 rfl
theorem dX11_lose_23 : decode cX11_lose 23 = .ok (.aconst_null, 1) := mm_dk kX11_lose_0 15 rfl
theorem dX11_lose_24 : decode cX11_lose 24 = .ok (.putfield 236, 3) := mm_dk kX11_lose_0 16 rfl
theorem dX11_lose_27 : decode cX11_lose 27 = .ok (.aload_n 3, 1) := mm_dk kX11_lose_0 17 rfl
theorem dX11_lose_28 : decode cX11_lose 28 = .ok (.aconst_null, 1) := mm_dk kX11_lose_0 18 rfl
theorem dX11_lose_29 : decode cX11_lose 29 = .ok (.putfield 239, 3) := mm_dk kX11_lose_0 19 rfl
theorem dX11_lose_32 : decode cX11_lose 32 = .ok (.iconst 1, 1) := mm_dk kX11_lose_0 20 rfl
theorem dX11_lose_33 : decode cX11_lose 33 = .ok (.ireturn, 1) := mm_dk kX11_lose_0 21 rfl
set_option maxRecDepth 100000 in
theorem kX11_cut_0 : ([(0, .aload_n 0, 1), (1, .iconst 0, 1), (2, .putfield 46, 3), (5, .aload_n 0, 1), (6, .iload_n 1, 1), (7, .iload_n 2, 1), (8, .invokevirtual 217, 3), (11, .astore 4, 2), (13, .aload 4, 2), (15, .ifnonnull 9, 3), (18, .aload_n 0, 1), (19, .iconst (-1), 1), (20, .invokevirtual 54, 3), (23, .ireturn, 1), (24, .aload 4, 2), (26, .invokevirtual 221, 3), (29, .ifCond .ne 10, 3), (32, .aload_n 0, 1), (33, .bipush (-2), 2), (35, .invokevirtual 54, 3), (38, .ireturn, 1), (39, .aload 4, 2), (41, .invokevirtual 224, 3), (44, .istore 5, 2), (46, .iload_n 3, 1), (47, .ifCond .lt 9, 3), (50, .iload_n 3, 1), (51, .iload 5, 2), (53, .if_icmp .le 9, 3), (56, .aload_n 0, 1), (57, .iconst (-1), 1), (58, .invokevirtual 54, 3), (61, .ireturn, 1), (62, .aload 4, 2), (64, .iload_n 3, 1), (65, .invokevirtual 243, 3), (68, .iload 5, 2), (70, .ireturn, 1)] : List (Nat × Instr × Nat)).all (fun x => decide (decode cX11_cut x.1 = .ok x.2)) = true := by decide +kernel
theorem dX11_cut_0 : decode cX11_cut 0 = .ok (.aload_n 0, 1) := mm_dk kX11_cut_0 0 rfl
theorem dX11_cut_1 : decode cX11_cut 1 = .ok (.iconst 0, 1) := mm_dk kX11_cut_0 1 rfl
theorem dX11_cut_2 : decode cX11_cut 2 = .ok (.putfield 46, 3) := mm_dk kX11_cut_0 2 rfl
theorem dX11_cut_5 : decode cX11_cut 5 = .ok (.aload_n 0, 1) := mm_dk kX11_cut_0 3 rfl
theorem dX11_cut_6 : decode cX11_cut 6 = .ok (.iload_n 1, 1) := mm_dk kX11_cut_0 4 rfl
theorem dX11_cut_7 : decode cX11_cut 7 = .ok (.iload_n 2, 1) := mm_dk kX11_cut_0 5 rfl
theorem dX11_cut_8 : decode cX11_cut 8 = .ok (.invokevirtual 217, 3) := mm_dk kX11_cut_0 6 rfl
theorem dX11_cut_11 : decode cX11_cut 11 = .ok (.astore 4, 2) := mm_dk kX11_cut_0 7 rfl
theorem dX11_cut_13 : decode cX11_cut 13 = .ok (.aload 4, 2) := mm_dk kX11_cut_0 8 rfl
theorem dX11_cut_15 : decode cX11_cut 15 = .ok (.ifnonnull 9, 3) := mm_dk kX11_cut_0 9 rfl
theorem dX11_cut_18 : decode cX11_cut 18 = .ok (.aload_n 0, 1) := mm_dk kX11_cut_0 10 rfl
theorem dX11_cut_19 : decode cX11_cut 19 = .ok (.iconst (-1), 1) := mm_dk kX11_cut_0 11 rfl
theorem dX11_cut_20 : decode cX11_cut 20 = .ok (.invokevirtual 54, 3) := mm_dk kX11_cut_0 12 rfl
theorem dX11_cut_23 : decode cX11_cut 23 = .ok (.ireturn, 1) := mm_dk kX11_cut_0 13 rfl
theorem dX11_cut_24 : decode cX11_cut 24 = .ok (.aload 4, 2) := mm_dk kX11_cut_0 14 rfl
theorem dX11_cut_26 : decode cX11_cut 26 = .ok (.invokevirtual 221, 3) := mm_dk kX11_cut_0 15 rfl
theorem dX11_cut_29 : decode cX11_cut 29 = .ok (.ifCond .ne 10, 3) := mm_dk kX11_cut_0 16 rfl
theorem dX11_cut_32 : decode cX11_cut 32 = .ok (.aload_n 0, 1) := mm_dk kX11_cut_0 17 rfl
theorem dX11_cut_33 : decode cX11_cut 33 = .ok (.bipush (-2), 2) := mm_dk kX11_cut_0 18 rfl
theorem dX11_cut_35 : decode cX11_cut 35 = .ok (.invokevirtual 54, 3) := mm_dk kX11_cut_0 19 rfl
theorem dX11_cut_38 : decode cX11_cut 38 = .ok (.ireturn, 1) := mm_dk kX11_cut_0 20 rfl
theorem dX11_cut_39 : decode cX11_cut 39 = .ok (.aload 4, 2) := mm_dk kX11_cut_0 21 rfl
theorem dX11_cut_41 : decode cX11_cut 41 = .ok (.invokevirtual 224, 3) := mm_dk kX11_cut_0 22 rfl
theorem dX11_cut_44 : decode cX11_cut 44 = .ok (.istore 5, 2) := mm_dk kX11_cut_0 23 rfl
theorem dX11_cut_46 : decode cX11_cut 46 = .ok (.iload_n 3, 1) := mm_dk kX11_cut_0 24 rfl
theorem dX11_cut_47 : decode cX11_cut 47 = .ok (.ifCond .lt 9, 3) := mm_dk kX11_cut_0 25 rfl
theorem dX11_cut_50 : decode cX11_cut 50 = .ok (.iload_n 3, 1) := mm_dk kX11_cut_0 26 rfl
theorem dX11_cut_51 : decode cX11_cut 51 = .ok (.iload 5, 2) := mm_dk kX11_cut_0 27 rfl
theorem dX11_cut_53 : decode cX11_cut 53 = .ok (.if_icmp .le 9, 3) := mm_dk kX11_cut_0 28 rfl
theorem dX11_cut_56 : decode cX11_cut 56 = .ok (.aload_n 0, 1) := mm_dk kX11_cut_0 29 rfl
theorem dX11_cut_57 : decode cX11_cut 57 = .ok (.iconst (-1), 1) := mm_dk kX11_cut_0 30 rfl
theorem dX11_cut_58 : decode cX11_cut 58 = .ok (.invokevirtual 54, 3) := mm_dk kX11_cut_0 31 rfl
theorem dX11_cut_61 : decode cX11_cut 61 = .ok (.ireturn, 1) := mm_dk kX11_cut_0 32 rfl
theorem dX11_cut_62 : decode cX11_cut 62 = .ok (.aload 4, 2) := mm_dk kX11_cut_0 33 rfl
theorem dX11_cut_64 : decode cX11_cut 64 = .ok (.iload_n 3, 1) := mm_dk kX11_cut_0 34 rfl
theorem dX11_cut_65 : decode cX11_cut 65 = .ok (.invokevirtual 243, 3) := mm_dk kX11_cut_0 35 rfl
theorem dX11_cut_68 : decode cX11_cut 68 = .ok (.iload 5, 2) := mm_dk kX11_cut_0 36 rfl
theorem dX11_cut_70 : decode cX11_cut 70 = .ok (.ireturn, 1) := mm_dk kX11_cut_0 37 rfl
set_option maxRecDepth 100000 in
theorem kX11_damage_0 : ([(0, .aload_n 0, 1), (1, .iconst 0, 1), (2, .putfield 46, 3), (5, .aload_n 0, 1), (6, .iload_n 1, 1), (7, .iload_n 2, 1), (8, .invokevirtual 217, 3), (11, .astore 5, 2), (13, .aload 5, 2), (15, .ifnull 17, 3), (18, .iload 4, 2), (20, .iconst 1, 1), (21, .if_icmp .lt 11, 3), (24, .iload 4, 2), (26, .sipush 255, 3), (29, .if_icmp .le 9, 3), (32, .aload_n 0, 1), (33, .iconst (-1), 1), (34, .invokevirtual 54, 3), (37, .ireturn, 1), (38, .aload 5, 2), (40, .invokevirtual 221, 3), (43, .ifCond .ne 10, 3), (46, .aload_n 0, 1), (47, .bipush (-2), 2), (49, .invokevirtual 54, 3), (52, .ireturn, 1), (53, .aload 5, 2), (55, .iload_n 3, 1), (56, .invokevirtual 227, 3), (59, .ifCond .ne 10, 3), (62, .aload_n 0, 1), (63, .bipush (-4), 2), (65, .invokevirtual 54, 3), (68, .ireturn, 1), (69, .aload 5, 2), (71, .iload_n 3, 1), (72, .iload 4, 2), (74, .invokevirtual 246, 3), (77, .aload 5, 2)] : List (Nat × Instr × Nat)).all (fun x => decide (decode cX11_damage x.1 = .ok x.2)) = true := by decide +kernel
theorem dX11_damage_0 : decode cX11_damage 0 = .ok (.aload_n 0, 1) := mm_dk kX11_damage_0 0 rfl
theorem dX11_damage_1 : decode cX11_damage 1 = .ok (.iconst 0, 1) := mm_dk kX11_damage_0 1 rfl
theorem dX11_damage_2 : decode cX11_damage 2 = .ok (.putfield 46, 3) := mm_dk kX11_damage_0 2 rfl
theorem dX11_damage_5 : decode cX11_damage 5 = .ok (.aload_n 0, 1) := mm_dk kX11_damage_0 3 rfl
theorem dX11_damage_6 : decode cX11_damage 6 = .ok (.iload_n 1, 1) := mm_dk kX11_damage_0 4 rfl
theorem dX11_damage_7 : decode cX11_damage 7 = .ok (.iload_n 2, 1) := mm_dk kX11_damage_0 5 rfl
theorem dX11_damage_8 : decode cX11_damage 8 = .ok (.invokevirtual 217, 3) := mm_dk kX11_damage_0 6 rfl
theorem dX11_damage_11 : decode cX11_damage 11 = .ok (.astore 5, 2) := mm_dk kX11_damage_0 7 rfl
theorem dX11_damage_13 : decode cX11_damage 13 = .ok (.aload 5, 2) := mm_dk kX11_damage_0 8 rfl
theorem dX11_damage_15 : decode cX11_damage 15 = .ok (.ifnull 17, 3) := mm_dk kX11_damage_0 9 rfl
theorem dX11_damage_18 : decode cX11_damage 18 = .ok (.iload 4, 2) := mm_dk kX11_damage_0 10 rfl
theorem dX11_damage_20 : decode cX11_damage 20 = .ok (.iconst 1, 1) := mm_dk kX11_damage_0 11 rfl
theorem dX11_damage_21 : decode cX11_damage 21 = .ok (.if_icmp .lt 11, 3) := mm_dk kX11_damage_0 12 rfl
theorem dX11_damage_24 : decode cX11_damage 24 = .ok (.iload 4, 2) := mm_dk kX11_damage_0 13 rfl
theorem dX11_damage_26 : decode cX11_damage 26 = .ok (.sipush 255, 3) := mm_dk kX11_damage_0 14 rfl
theorem dX11_damage_29 : decode cX11_damage 29 = .ok (.if_icmp .le 9, 3) := mm_dk kX11_damage_0 15 rfl
theorem dX11_damage_32 : decode cX11_damage 32 = .ok (.aload_n 0, 1) := mm_dk kX11_damage_0 16 rfl
theorem dX11_damage_33 : decode cX11_damage 33 = .ok (.iconst (-1), 1) := mm_dk kX11_damage_0 17 rfl
theorem dX11_damage_34 : decode cX11_damage 34 = .ok (.invokevirtual 54, 3) := mm_dk kX11_damage_0 18 rfl
theorem dX11_damage_37 : decode cX11_damage 37 = .ok (.ireturn, 1) := mm_dk kX11_damage_0 19 rfl
theorem dX11_damage_38 : decode cX11_damage 38 = .ok (.aload 5, 2) := mm_dk kX11_damage_0 20 rfl
theorem dX11_damage_40 : decode cX11_damage 40 = .ok (.invokevirtual 221, 3) := mm_dk kX11_damage_0 21 rfl
theorem dX11_damage_43 : decode cX11_damage 43 = .ok (.ifCond .ne 10, 3) := mm_dk kX11_damage_0 22 rfl
theorem dX11_damage_46 : decode cX11_damage 46 = .ok (.aload_n 0, 1) := mm_dk kX11_damage_0 23 rfl
theorem dX11_damage_47 : decode cX11_damage 47 = .ok (.bipush (-2), 2) := mm_dk kX11_damage_0 24 rfl
theorem dX11_damage_49 : decode cX11_damage 49 = .ok (.invokevirtual 54, 3) := mm_dk kX11_damage_0 25 rfl
theorem dX11_damage_52 : decode cX11_damage 52 = .ok (.ireturn, 1) := mm_dk kX11_damage_0 26 rfl
theorem dX11_damage_53 : decode cX11_damage 53 = .ok (.aload 5, 2) := mm_dk kX11_damage_0 27 rfl
theorem dX11_damage_55 : decode cX11_damage 55 = .ok (.iload_n 3, 1) := mm_dk kX11_damage_0 28 rfl
theorem dX11_damage_56 : decode cX11_damage 56 = .ok (.invokevirtual 227, 3) := mm_dk kX11_damage_0 29 rfl
theorem dX11_damage_59 : decode cX11_damage 59 = .ok (.ifCond .ne 10, 3) := mm_dk kX11_damage_0 30 rfl
theorem dX11_damage_62 : decode cX11_damage 62 = .ok (.aload_n 0, 1) := mm_dk kX11_damage_0 31 rfl
theorem dX11_damage_63 : decode cX11_damage 63 = .ok (.bipush (-4), 2) := mm_dk kX11_damage_0 32 rfl
theorem dX11_damage_65 : decode cX11_damage 65 = .ok (.invokevirtual 54, 3) := mm_dk kX11_damage_0 33 rfl
theorem dX11_damage_68 : decode cX11_damage 68 = .ok (.ireturn, 1) := mm_dk kX11_damage_0 34 rfl
theorem dX11_damage_69 : decode cX11_damage 69 = .ok (.aload 5, 2) := mm_dk kX11_damage_0 35 rfl
theorem dX11_damage_71 : decode cX11_damage 71 = .ok (.iload_n 3, 1) := mm_dk kX11_damage_0 36 rfl
theorem dX11_damage_72 : decode cX11_damage 72 = .ok (.iload 4, 2) := mm_dk kX11_damage_0 37 rfl
theorem dX11_damage_74 : decode cX11_damage 74 = .ok (.invokevirtual 246, 3) := mm_dk kX11_damage_0 38 rfl
theorem dX11_damage_77 : decode cX11_damage 77 = .ok (.aload 5, 2) := mm_dk kX11_damage_0 39 rfl
set_option maxRecDepth 100000 in
theorem kX11_damage_1 : ([(79, .iload_n 3, 1), (80, .invokevirtual 230, 3), (83, .ireturn, 1)] : List (Nat × Instr × Nat)).all (fun x => decide (decode cX11_damage x.1 = .ok x.2)) = true := by decide +kernel
theorem dX11_damage_79 : decode cX11_damage 79 = .ok (.iload_n 3, 1) := mm_dk kX11_damage_1 0 rfl
theorem dX11_damage_80 : decode cX11_damage 80 = .ok (.invokevirtual 230, 3) := mm_dk kX11_damage_1 1 rfl
theorem dX11_damage_83 : decode cX11_damage 83 = .ok (.ireturn, 1) := mm_dk kX11_damage_1 2 rfl
set_option maxRecDepth 100000 in
theorem kX11_resum_0 : ([(0, .aload_n 0, 1), (1, .iconst 0, 1), (2, .putfield 46, 3), (5, .aload_n 0, 1), (6, .iload_n 1, 1), (7, .iload_n 2, 1), (8, .invokevirtual 217, 3), (11, .astore_n 3, 1), (12, .aload_n 3, 1), (13, .ifnonnull 9, 3), (16, .aload_n 0, 1), (17, .iconst (-1), 1), (18, .invokevirtual 54, 3), (21, .ireturn, 1), (22, .aload_n 3, 1), (23, .getfield 236, 3), (26, .astore 4, 2), (28, .aload 4, 2), (30, .ifnull 9, 3), (33, .aload 4, 2), (35, .arraylength, 1), (36, .ifCond .ne 10, 3), (39, .aload_n 0, 1), (40, .bipush (-2), 2), (42, .invokevirtual 54, 3), (45, .ireturn, 1), (46, .aload 4, 2), (48, .aload 4, 2), (50, .arraylength, 1), (51, .iconst 1, 1), (52, .isub, 1), (53, .aload 4, 2), (55, .invokestatic 250, 3), (58, .bastore, 1), (59, .aload_n 3, 1), (60, .aload 4, 2), (62, .arraylength, 1), (63, .iconst 1, 1), (64, .isub, 1), (65, .invokevirtual 230, 3)] : List (Nat × Instr × Nat)).all (fun x => decide (decode cX11_resum x.1 = .ok x.2)) = true := by decide +kernel
theorem dX11_resum_0 : decode cX11_resum 0 = .ok (.aload_n 0, 1) := mm_dk kX11_resum_0 0 rfl
theorem dX11_resum_1 : decode cX11_resum 1 = .ok (.iconst 0, 1) := mm_dk kX11_resum_0 1 rfl
theorem dX11_resum_2 : decode cX11_resum 2 = .ok (.putfield 46, 3) := mm_dk kX11_resum_0 2 rfl
theorem dX11_resum_5 : decode cX11_resum 5 = .ok (.aload_n 0, 1) := mm_dk kX11_resum_0 3 rfl
theorem dX11_resum_6 : decode cX11_resum 6 = .ok (.iload_n 1, 1) := mm_dk kX11_resum_0 4 rfl
theorem dX11_resum_7 : decode cX11_resum 7 = .ok (.iload_n 2, 1) := mm_dk kX11_resum_0 5 rfl
theorem dX11_resum_8 : decode cX11_resum 8 = .ok (.invokevirtual 217, 3) := mm_dk kX11_resum_0 6 rfl
theorem dX11_resum_11 : decode cX11_resum 11 = .ok (.astore_n 3, 1) := mm_dk kX11_resum_0 7 rfl
theorem dX11_resum_12 : decode cX11_resum 12 = .ok (.aload_n 3, 1) := mm_dk kX11_resum_0 8 rfl
theorem dX11_resum_13 : decode cX11_resum 13 = .ok (.ifnonnull 9, 3) := mm_dk kX11_resum_0 9 rfl
theorem dX11_resum_16 : decode cX11_resum 16 = .ok (.aload_n 0, 1) := mm_dk kX11_resum_0 10 rfl
theorem dX11_resum_17 : decode cX11_resum 17 = .ok (.iconst (-1), 1) := mm_dk kX11_resum_0 11 rfl
theorem dX11_resum_18 : decode cX11_resum 18 = .ok (.invokevirtual 54, 3) := mm_dk kX11_resum_0 12 rfl
theorem dX11_resum_21 : decode cX11_resum 21 = .ok (.ireturn, 1) := mm_dk kX11_resum_0 13 rfl
theorem dX11_resum_22 : decode cX11_resum 22 = .ok (.aload_n 3, 1) := mm_dk kX11_resum_0 14 rfl
theorem dX11_resum_23 : decode cX11_resum 23 = .ok (.getfield 236, 3) := mm_dk kX11_resum_0 15 rfl
theorem dX11_resum_26 : decode cX11_resum 26 = .ok (.astore 4, 2) := mm_dk kX11_resum_0 16 rfl
theorem dX11_resum_28 : decode cX11_resum 28 = .ok (.aload 4, 2) := mm_dk kX11_resum_0 17 rfl
theorem dX11_resum_30 : decode cX11_resum 30 = .ok (.ifnull 9, 3) := mm_dk kX11_resum_0 18 rfl
theorem dX11_resum_33 : decode cX11_resum 33 = .ok (.aload 4, 2) := mm_dk kX11_resum_0 19 rfl
theorem dX11_resum_35 : decode cX11_resum 35 = .ok (.arraylength, 1) := mm_dk kX11_resum_0 20 rfl
theorem dX11_resum_36 : decode cX11_resum 36 = .ok (.ifCond .ne 10, 3) := mm_dk kX11_resum_0 21 rfl
theorem dX11_resum_39 : decode cX11_resum 39 = .ok (.aload_n 0, 1) := mm_dk kX11_resum_0 22 rfl
theorem dX11_resum_40 : decode cX11_resum 40 = .ok (.bipush (-2), 2) := mm_dk kX11_resum_0 23 rfl
theorem dX11_resum_42 : decode cX11_resum 42 = .ok (.invokevirtual 54, 3) := mm_dk kX11_resum_0 24 rfl
theorem dX11_resum_45 : decode cX11_resum 45 = .ok (.ireturn, 1) := mm_dk kX11_resum_0 25 rfl
theorem dX11_resum_46 : decode cX11_resum 46 = .ok (.aload 4, 2) := mm_dk kX11_resum_0 26 rfl
theorem dX11_resum_48 : decode cX11_resum 48 = .ok (.aload 4, 2) := mm_dk kX11_resum_0 27 rfl
theorem dX11_resum_50 : decode cX11_resum 50 = .ok (.arraylength, 1) := mm_dk kX11_resum_0 28 rfl
theorem dX11_resum_51 : decode cX11_resum 51 = .ok (.iconst 1, 1) := mm_dk kX11_resum_0 29 rfl
theorem dX11_resum_52 : decode cX11_resum 52 = .ok (.isub, 1) := mm_dk kX11_resum_0 30 rfl
theorem dX11_resum_53 : decode cX11_resum 53 = .ok (.aload 4, 2) := mm_dk kX11_resum_0 31 rfl
theorem dX11_resum_55 : decode cX11_resum 55 = .ok (.invokestatic 250, 3) := mm_dk kX11_resum_0 32 rfl
theorem dX11_resum_58 : decode cX11_resum 58 = .ok (.bastore, 1) := mm_dk kX11_resum_0 33 rfl
theorem dX11_resum_59 : decode cX11_resum 59 = .ok (.aload_n 3, 1) := mm_dk kX11_resum_0 34 rfl
theorem dX11_resum_60 : decode cX11_resum 60 = .ok (.aload 4, 2) := mm_dk kX11_resum_0 35 rfl
theorem dX11_resum_62 : decode cX11_resum 62 = .ok (.arraylength, 1) := mm_dk kX11_resum_0 36 rfl
theorem dX11_resum_63 : decode cX11_resum 63 = .ok (.iconst 1, 1) := mm_dk kX11_resum_0 37 rfl
theorem dX11_resum_64 : decode cX11_resum 64 = .ok (.isub, 1) := mm_dk kX11_resum_0 38 rfl
theorem dX11_resum_65 : decode cX11_resum 65 = .ok (.invokevirtual 230, 3) := mm_dk kX11_resum_0 39 rfl
set_option maxRecDepth 100000 in
theorem kX11_resum_1 : ([(68, .ireturn, 1)] : List (Nat × Instr × Nat)).all (fun x => decide (decode cX11_resum x.1 = .ok x.2)) = true := by decide +kernel
theorem dX11_resum_68 : decode cX11_resum 68 = .ok (.ireturn, 1) := mm_dk kX11_resum_1 0 rfl
set_option maxRecDepth 100000 in
theorem kX11_shorts_0 : ([(0, .aload_n 0, 1), (1, .iconst 0, 1), (2, .putfield 46, 3), (5, .aload_n 0, 1), (6, .iload_n 1, 1), (7, .iload_n 2, 1), (8, .invokevirtual 217, 3), (11, .astore_n 3, 1), (12, .aload_n 3, 1), (13, .ifnonnull 9, 3), (16, .aload_n 0, 1), (17, .iconst (-1), 1), (18, .invokevirtual 54, 3), (21, .ireturn, 1), (22, .aload_n 3, 1), (23, .getfield 236, 3), (26, .ifnonnull 10, 3), (29, .aload_n 0, 1), (30, .bipush (-2), 2), (32, .invokevirtual 54, 3), (35, .ireturn, 1), (36, .aload_n 3, 1), (37, .invokevirtual 254, 3), (40, .iconst 1, 1), (41, .ireturn, 1)] : List (Nat × Instr × Nat)).all (fun x => decide (decode cX11_shorts x.1 = .ok x.2)) = true := by decide +kernel
theorem dX11_shorts_0 : decode cX11_shorts 0 = .ok (.aload_n 0, 1) := mm_dk kX11_shorts_0 0 rfl
theorem dX11_shorts_1 : decode cX11_shorts 1 = .ok (.iconst 0, 1) := mm_dk kX11_shorts_0 1 rfl
theorem dX11_shorts_2 : decode cX11_shorts 2 = .ok (.putfield 46, 3) := mm_dk kX11_shorts_0 2 rfl
theorem dX11_shorts_5 : decode cX11_shorts 5 = .ok (.aload_n 0, 1) := mm_dk kX11_shorts_0 3 rfl
theorem dX11_shorts_6 : decode cX11_shorts 6 = .ok (.iload_n 1, 1) := mm_dk kX11_shorts_0 4 rfl
theorem dX11_shorts_7 : decode cX11_shorts 7 = .ok (.iload_n 2, 1) := mm_dk kX11_shorts_0 5 rfl
theorem dX11_shorts_8 : decode cX11_shorts 8 = .ok (.invokevirtual 217, 3) := mm_dk kX11_shorts_0 6 rfl
theorem dX11_shorts_11 : decode cX11_shorts 11 = .ok (.astore_n 3, 1) := mm_dk kX11_shorts_0 7 rfl
theorem dX11_shorts_12 : decode cX11_shorts 12 = .ok (.aload_n 3, 1) := mm_dk kX11_shorts_0 8 rfl
theorem dX11_shorts_13 : decode cX11_shorts 13 = .ok (.ifnonnull 9, 3) := mm_dk kX11_shorts_0 9 rfl
theorem dX11_shorts_16 : decode cX11_shorts 16 = .ok (.aload_n 0, 1) := mm_dk kX11_shorts_0 10 rfl
theorem dX11_shorts_17 : decode cX11_shorts 17 = .ok (.iconst (-1), 1) := mm_dk kX11_shorts_0 11 rfl
theorem dX11_shorts_18 : decode cX11_shorts 18 = .ok (.invokevirtual 54, 3) := mm_dk kX11_shorts_0 12 rfl
theorem dX11_shorts_21 : decode cX11_shorts 21 = .ok (.ireturn, 1) := mm_dk kX11_shorts_0 13 rfl
theorem dX11_shorts_22 : decode cX11_shorts 22 = .ok (.aload_n 3, 1) := mm_dk kX11_shorts_0 14 rfl
theorem dX11_shorts_23 : decode cX11_shorts 23 = .ok (.getfield 236, 3) := mm_dk kX11_shorts_0 15 rfl
theorem dX11_shorts_26 : decode cX11_shorts 26 = .ok (.ifnonnull 10, 3) := mm_dk kX11_shorts_0 16 rfl
theorem dX11_shorts_29 : decode cX11_shorts 29 = .ok (.aload_n 0, 1) := mm_dk kX11_shorts_0 17 rfl
theorem dX11_shorts_30 : decode cX11_shorts 30 = .ok (.bipush (-2), 2) := mm_dk kX11_shorts_0 18 rfl
theorem dX11_shorts_32 : decode cX11_shorts 32 = .ok (.invokevirtual 54, 3) := mm_dk kX11_shorts_0 19 rfl
theorem dX11_shorts_35 : decode cX11_shorts 35 = .ok (.ireturn, 1) := mm_dk kX11_shorts_0 20 rfl
theorem dX11_shorts_36 : decode cX11_shorts 36 = .ok (.aload_n 3, 1) := mm_dk kX11_shorts_0 21 rfl
theorem dX11_shorts_37 : decode cX11_shorts 37 = .ok (.invokevirtual 254, 3) := mm_dk kX11_shorts_0 22 rfl
theorem dX11_shorts_40 : decode cX11_shorts 40 = .ok (.iconst 1, 1) := mm_dk kX11_shorts_0 23 rfl
theorem dX11_shorts_41 : decode cX11_shorts 41 = .ok (.ireturn, 1) := mm_dk kX11_shorts_0 24 rfl
set_option maxRecDepth 100000 in
theorem kX11_order_0 : ([(0, .aload_n 0, 1), (1, .iconst 0, 1), (2, .putfield 46, 3), (5, .aload_n 0, 1), (6, .iload_n 1, 1), (7, .iload_n 2, 1), (8, .invokevirtual 217, 3), (11, .ifnull 12, 3), (14, .aload_n 0, 1), (15, .iload_n 1, 1), (16, .iload_n 3, 1), (17, .invokevirtual 217, 3), (20, .ifnonnull 9, 3), (23, .aload_n 0, 1), (24, .iconst (-1), 1), (25, .invokevirtual 54, 3), (28, .ireturn, 1), (29, .aload_n 0, 1), (30, .getfield 34, 3), (33, .iload_n 1, 1), (34, .aaload, 1), (35, .getfield 113, 3), (38, .astore 4, 2), (40, .aload 4, 2), (42, .getfield 257, 3), (45, .iload_n 2, 1), (46, .aaload, 1), (47, .astore 5, 2), (49, .aload 4, 2), (51, .iload_n 2, 1), (52, .invokevirtual 261, 3), (55, .aload 4, 2), (57, .iload_n 3, 1), (58, .aload 5, 2), (60, .invokevirtual 177, 3), (63, .iconst 1, 1), (64, .ireturn, 1)] : List (Nat × Instr × Nat)).all (fun x => decide (decode cX11_order x.1 = .ok x.2)) = true := by decide +kernel
theorem dX11_order_0 : decode cX11_order 0 = .ok (.aload_n 0, 1) := mm_dk kX11_order_0 0 rfl
theorem dX11_order_1 : decode cX11_order 1 = .ok (.iconst 0, 1) := mm_dk kX11_order_0 1 rfl
theorem dX11_order_2 : decode cX11_order 2 = .ok (.putfield 46, 3) := mm_dk kX11_order_0 2 rfl
theorem dX11_order_5 : decode cX11_order 5 = .ok (.aload_n 0, 1) := mm_dk kX11_order_0 3 rfl
theorem dX11_order_6 : decode cX11_order 6 = .ok (.iload_n 1, 1) := mm_dk kX11_order_0 4 rfl
theorem dX11_order_7 : decode cX11_order 7 = .ok (.iload_n 2, 1) := mm_dk kX11_order_0 5 rfl
theorem dX11_order_8 : decode cX11_order 8 = .ok (.invokevirtual 217, 3) := mm_dk kX11_order_0 6 rfl
theorem dX11_order_11 : decode cX11_order 11 = .ok (.ifnull 12, 3) := mm_dk kX11_order_0 7 rfl
theorem dX11_order_14 : decode cX11_order 14 = .ok (.aload_n 0, 1) := mm_dk kX11_order_0 8 rfl
theorem dX11_order_15 : decode cX11_order 15 = .ok (.iload_n 1, 1) := mm_dk kX11_order_0 9 rfl
theorem dX11_order_16 : decode cX11_order 16 = .ok (.iload_n 3, 1) := mm_dk kX11_order_0 10 rfl
theorem dX11_order_17 : decode cX11_order 17 = .ok (.invokevirtual 217, 3) := mm_dk kX11_order_0 11 rfl
theorem dX11_order_20 : decode cX11_order 20 = .ok (.ifnonnull 9, 3) := mm_dk kX11_order_0 12 rfl
theorem dX11_order_23 : decode cX11_order 23 = .ok (.aload_n 0, 1) := mm_dk kX11_order_0 13 rfl
theorem dX11_order_24 : decode cX11_order 24 = .ok (.iconst (-1), 1) := mm_dk kX11_order_0 14 rfl
theorem dX11_order_25 : decode cX11_order 25 = .ok (.invokevirtual 54, 3) := mm_dk kX11_order_0 15 rfl
theorem dX11_order_28 : decode cX11_order 28 = .ok (.ireturn, 1) := mm_dk kX11_order_0 16 rfl
theorem dX11_order_29 : decode cX11_order 29 = .ok (.aload_n 0, 1) := mm_dk kX11_order_0 17 rfl
theorem dX11_order_30 : decode cX11_order 30 = .ok (.getfield 34, 3) := mm_dk kX11_order_0 18 rfl
theorem dX11_order_33 : decode cX11_order 33 = .ok (.iload_n 1, 1) := mm_dk kX11_order_0 19 rfl
theorem dX11_order_34 : decode cX11_order 34 = .ok (.aaload, 1) := mm_dk kX11_order_0 20 rfl
theorem dX11_order_35 : decode cX11_order 35 = .ok (.getfield 113, 3) := mm_dk kX11_order_0 21 rfl
theorem dX11_order_38 : decode cX11_order 38 = .ok (.astore 4, 2) := mm_dk kX11_order_0 22 rfl
theorem dX11_order_40 : decode cX11_order 40 = .ok (.aload 4, 2) := mm_dk kX11_order_0 23 rfl
theorem dX11_order_42 : decode cX11_order 42 = .ok (.getfield 257, 3) := mm_dk kX11_order_0 24 rfl
theorem dX11_order_45 : decode cX11_order 45 = .ok (.iload_n 2, 1) := mm_dk kX11_order_0 25 rfl
theorem dX11_order_46 : decode cX11_order 46 = .ok (.aaload, 1) := mm_dk kX11_order_0 26 rfl
theorem dX11_order_47 : decode cX11_order 47 = .ok (.astore 5, 2) := mm_dk kX11_order_0 27 rfl
theorem dX11_order_49 : decode cX11_order 49 = .ok (.aload 4, 2) := mm_dk kX11_order_0 28 rfl
theorem dX11_order_51 : decode cX11_order 51 = .ok (.iload_n 2, 1) := mm_dk kX11_order_0 29 rfl
theorem dX11_order_52 : decode cX11_order 52 = .ok (.invokevirtual 261, 3) := mm_dk kX11_order_0 30 rfl
theorem dX11_order_55 : decode cX11_order 55 = .ok (.aload 4, 2) := mm_dk kX11_order_0 31 rfl
theorem dX11_order_57 : decode cX11_order 57 = .ok (.iload_n 3, 1) := mm_dk kX11_order_0 32 rfl
theorem dX11_order_58 : decode cX11_order 58 = .ok (.aload 5, 2) := mm_dk kX11_order_0 33 rfl
theorem dX11_order_60 : decode cX11_order 60 = .ok (.invokevirtual 177, 3) := mm_dk kX11_order_0 34 rfl
theorem dX11_order_63 : decode cX11_order 63 = .ok (.iconst 1, 1) := mm_dk kX11_order_0 35 rfl
theorem dX11_order_64 : decode cX11_order 64 = .ok (.ireturn, 1) := mm_dk kX11_order_0 36 rfl
set_option maxRecDepth 100000 in
theorem kX11_drop_0 : ([(0, .aload_n 0, 1), (1, .iconst 0, 1), (2, .putfield 46, 3), (5, .aload_n 0, 1), (6, .iload_n 1, 1), (7, .iload_n 2, 1), (8, .invokevirtual 217, 3), (11, .ifnonnull 9, 3), (14, .aload_n 0, 1), (15, .iconst (-1), 1), (16, .invokevirtual 54, 3), (19, .ireturn, 1), (20, .aload_n 0, 1), (21, .getfield 34, 3), (24, .iload_n 1, 1), (25, .aaload, 1), (26, .getfield 113, 3), (29, .astore_n 3, 1), (30, .aload_n 3, 1), (31, .iload_n 2, 1), (32, .invokevirtual 261, 3), (35, .aload_n 3, 1), (36, .getfield 117, 3), (39, .ireturn, 1)] : List (Nat × Instr × Nat)).all (fun x => decide (decode cX11_drop x.1 = .ok x.2)) = true := by decide +kernel
theorem dX11_drop_0 : decode cX11_drop 0 = .ok (.aload_n 0, 1) := mm_dk kX11_drop_0 0 rfl
theorem dX11_drop_1 : decode cX11_drop 1 = .ok (.iconst 0, 1) := mm_dk kX11_drop_0 1 rfl
theorem dX11_drop_2 : decode cX11_drop 2 = .ok (.putfield 46, 3) := mm_dk kX11_drop_0 2 rfl
theorem dX11_drop_5 : decode cX11_drop 5 = .ok (.aload_n 0, 1) := mm_dk kX11_drop_0 3 rfl
theorem dX11_drop_6 : decode cX11_drop 6 = .ok (.iload_n 1, 1) := mm_dk kX11_drop_0 4 rfl
theorem dX11_drop_7 : decode cX11_drop 7 = .ok (.iload_n 2, 1) := mm_dk kX11_drop_0 5 rfl
theorem dX11_drop_8 : decode cX11_drop 8 = .ok (.invokevirtual 217, 3) := mm_dk kX11_drop_0 6 rfl
theorem dX11_drop_11 : decode cX11_drop 11 = .ok (.ifnonnull 9, 3) := mm_dk kX11_drop_0 7 rfl
theorem dX11_drop_14 : decode cX11_drop 14 = .ok (.aload_n 0, 1) := mm_dk kX11_drop_0 8 rfl
theorem dX11_drop_15 : decode cX11_drop 15 = .ok (.iconst (-1), 1) := mm_dk kX11_drop_0 9 rfl
theorem dX11_drop_16 : decode cX11_drop 16 = .ok (.invokevirtual 54, 3) := mm_dk kX11_drop_0 10 rfl
theorem dX11_drop_19 : decode cX11_drop 19 = .ok (.ireturn, 1) := mm_dk kX11_drop_0 11 rfl
theorem dX11_drop_20 : decode cX11_drop 20 = .ok (.aload_n 0, 1) := mm_dk kX11_drop_0 12 rfl
theorem dX11_drop_21 : decode cX11_drop 21 = .ok (.getfield 34, 3) := mm_dk kX11_drop_0 13 rfl
theorem dX11_drop_24 : decode cX11_drop 24 = .ok (.iload_n 1, 1) := mm_dk kX11_drop_0 14 rfl
theorem dX11_drop_25 : decode cX11_drop 25 = .ok (.aaload, 1) := mm_dk kX11_drop_0 15 rfl
theorem dX11_drop_26 : decode cX11_drop 26 = .ok (.getfield 113, 3) := mm_dk kX11_drop_0 16 rfl
theorem dX11_drop_29 : decode cX11_drop 29 = .ok (.astore_n 3, 1) := mm_dk kX11_drop_0 17 rfl
theorem dX11_drop_30 : decode cX11_drop 30 = .ok (.aload_n 3, 1) := mm_dk kX11_drop_0 18 rfl
theorem dX11_drop_31 : decode cX11_drop 31 = .ok (.iload_n 2, 1) := mm_dk kX11_drop_0 19 rfl
theorem dX11_drop_32 : decode cX11_drop 32 = .ok (.invokevirtual 261, 3) := mm_dk kX11_drop_0 20 rfl
theorem dX11_drop_35 : decode cX11_drop 35 = .ok (.aload_n 3, 1) := mm_dk kX11_drop_0 21 rfl
theorem dX11_drop_36 : decode cX11_drop 36 = .ok (.getfield 117, 3) := mm_dk kX11_drop_0 22 rfl
theorem dX11_drop_39 : decode cX11_drop 39 = .ok (.ireturn, 1) := mm_dk kX11_drop_0 23 rfl
set_option maxRecDepth 100000 in
theorem kX11_again_0 : ([(0, .aload_n 0, 1), (1, .iconst 0, 1), (2, .putfield 46, 3), (5, .aload_n 0, 1), (6, .iload_n 1, 1), (7, .iload_n 2, 1), (8, .invokevirtual 217, 3), (11, .astore_n 3, 1), (12, .aload_n 3, 1), (13, .ifnonnull 9, 3), (16, .aload_n 0, 1), (17, .iconst (-1), 1), (18, .invokevirtual 54, 3), (21, .ireturn, 1), (22, .aload_n 0, 1), (23, .getfield 34, 3), (26, .iload_n 1, 1), (27, .aaload, 1), (28, .getfield 113, 3), (31, .astore 4, 2), (33, .aload 4, 2), (35, .invokevirtual 157, 3), (38, .ifCond .eq 10, 3), (41, .aload_n 0, 1), (42, .bipush (-3), 2), (44, .invokevirtual 54, 3), (47, .ireturn, 1), (48, .aload 4, 2), (50, .aload 4, 2), (52, .getfield 117, 3), (55, .new 168, 3), (58, .dup, 1), (59, .aload_n 3, 1), (60, .getfield 233, 3), (63, .aload_n 3, 1), (64, .getfield 236, 3), (67, .aload_n 3, 1), (68, .getfield 239, 3), (71, .invokespecial 174, 3), (74, .invokevirtual 177, 3)] : List (Nat × Instr × Nat)).all (fun x => decide (decode cX11_again x.1 = .ok x.2)) = true := by decide +kernel
theorem dX11_again_0 : decode cX11_again 0 = .ok (.aload_n 0, 1) := mm_dk kX11_again_0 0 rfl
theorem dX11_again_1 : decode cX11_again 1 = .ok (.iconst 0, 1) := mm_dk kX11_again_0 1 rfl
theorem dX11_again_2 : decode cX11_again 2 = .ok (.putfield 46, 3) := mm_dk kX11_again_0 2 rfl
theorem dX11_again_5 : decode cX11_again 5 = .ok (.aload_n 0, 1) := mm_dk kX11_again_0 3 rfl
theorem dX11_again_6 : decode cX11_again 6 = .ok (.iload_n 1, 1) := mm_dk kX11_again_0 4 rfl
theorem dX11_again_7 : decode cX11_again 7 = .ok (.iload_n 2, 1) := mm_dk kX11_again_0 5 rfl
theorem dX11_again_8 : decode cX11_again 8 = .ok (.invokevirtual 217, 3) := mm_dk kX11_again_0 6 rfl
theorem dX11_again_11 : decode cX11_again 11 = .ok (.astore_n 3, 1) := mm_dk kX11_again_0 7 rfl
theorem dX11_again_12 : decode cX11_again 12 = .ok (.aload_n 3, 1) := mm_dk kX11_again_0 8 rfl
theorem dX11_again_13 : decode cX11_again 13 = .ok (.ifnonnull 9, 3) := mm_dk kX11_again_0 9 rfl
theorem dX11_again_16 : decode cX11_again 16 = .ok (.aload_n 0, 1) := mm_dk kX11_again_0 10 rfl
theorem dX11_again_17 : decode cX11_again 17 = .ok (.iconst (-1), 1) := mm_dk kX11_again_0 11 rfl
theorem dX11_again_18 : decode cX11_again 18 = .ok (.invokevirtual 54, 3) := mm_dk kX11_again_0 12 rfl
theorem dX11_again_21 : decode cX11_again 21 = .ok (.ireturn, 1) := mm_dk kX11_again_0 13 rfl
theorem dX11_again_22 : decode cX11_again 22 = .ok (.aload_n 0, 1) := mm_dk kX11_again_0 14 rfl
theorem dX11_again_23 : decode cX11_again 23 = .ok (.getfield 34, 3) := mm_dk kX11_again_0 15 rfl
theorem dX11_again_26 : decode cX11_again 26 = .ok (.iload_n 1, 1) := mm_dk kX11_again_0 16 rfl
theorem dX11_again_27 : decode cX11_again 27 = .ok (.aaload, 1) := mm_dk kX11_again_0 17 rfl
theorem dX11_again_28 : decode cX11_again 28 = .ok (.getfield 113, 3) := mm_dk kX11_again_0 18 rfl
theorem dX11_again_31 : decode cX11_again 31 = .ok (.astore 4, 2) := mm_dk kX11_again_0 19 rfl
theorem dX11_again_33 : decode cX11_again 33 = .ok (.aload 4, 2) := mm_dk kX11_again_0 20 rfl
theorem dX11_again_35 : decode cX11_again 35 = .ok (.invokevirtual 157, 3) := mm_dk kX11_again_0 21 rfl
theorem dX11_again_38 : decode cX11_again 38 = .ok (.ifCond .eq 10, 3) := mm_dk kX11_again_0 22 rfl
theorem dX11_again_41 : decode cX11_again 41 = .ok (.aload_n 0, 1) := mm_dk kX11_again_0 23 rfl
theorem dX11_again_42 : decode cX11_again 42 = .ok (.bipush (-3), 2) := mm_dk kX11_again_0 24 rfl
theorem dX11_again_44 : decode cX11_again 44 = .ok (.invokevirtual 54, 3) := mm_dk kX11_again_0 25 rfl
theorem dX11_again_47 : decode cX11_again 47 = .ok (.ireturn, 1) := mm_dk kX11_again_0 26 rfl
theorem dX11_again_48 : decode cX11_again 48 = .ok (.aload 4, 2) := mm_dk kX11_again_0 27 rfl
theorem dX11_again_50 : decode cX11_again 50 = .ok (.aload 4, 2) := mm_dk kX11_again_0 28 rfl
theorem dX11_again_52 : decode cX11_again 52 = .ok (.getfield 117, 3) := mm_dk kX11_again_0 29 rfl
theorem dX11_again_55 : decode cX11_again 55 = .ok (.new 168, 3) := mm_dk kX11_again_0 30 rfl
theorem dX11_again_58 : decode cX11_again 58 = .ok (.dup, 1) := mm_dk kX11_again_0 31 rfl
theorem dX11_again_59 : decode cX11_again 59 = .ok (.aload_n 3, 1) := mm_dk kX11_again_0 32 rfl
theorem dX11_again_60 : decode cX11_again 60 = .ok (.getfield 233, 3) := mm_dk kX11_again_0 33 rfl
theorem dX11_again_63 : decode cX11_again 63 = .ok (.aload_n 3, 1) := mm_dk kX11_again_0 34 rfl
theorem dX11_again_64 : decode cX11_again 64 = .ok (.getfield 236, 3) := mm_dk kX11_again_0 35 rfl
theorem dX11_again_67 : decode cX11_again 67 = .ok (.aload_n 3, 1) := mm_dk kX11_again_0 36 rfl
theorem dX11_again_68 : decode cX11_again 68 = .ok (.getfield 239, 3) := mm_dk kX11_again_0 37 rfl
theorem dX11_again_71 : decode cX11_again 71 = .ok (.invokespecial 174, 3) := mm_dk kX11_again_0 38 rfl
theorem dX11_again_74 : decode cX11_again 74 = .ok (.invokevirtual 177, 3) := mm_dk kX11_again_0 39 rfl
set_option maxRecDepth 100000 in
theorem kX11_again_1 : ([(77, .aload 4, 2), (79, .getfield 117, 3), (82, .ireturn, 1)] : List (Nat × Instr × Nat)).all (fun x => decide (decode cX11_again x.1 = .ok x.2)) = true := by decide +kernel
theorem dX11_again_77 : decode cX11_again 77 = .ok (.aload 4, 2) := mm_dk kX11_again_1 0 rfl
theorem dX11_again_79 : decode cX11_again 79 = .ok (.getfield 117, 3) := mm_dk kX11_again_1 1 rfl
theorem dX11_again_82 : decode cX11_again 82 = .ok (.ireturn, 1) := mm_dk kX11_again_1 2 rfl
set_option maxRecDepth 100000 in
theorem kX11_type_0 : ([(0, .aload_n 0, 1), (1, .iconst 0, 1), (2, .putfield 46, 3), (5, .iload_n 3, 1), (6, .iconst 1, 1), (7, .if_icmp .lt 9, 3), (10, .iload_n 3, 1), (11, .bipush 8, 2), (13, .if_icmp .le 9, 3), (16, .aload_n 0, 1), (17, .iconst (-1), 1), (18, .invokevirtual 54, 3), (21, .ireturn, 1), (22, .iload_n 3, 1), (23, .bipush 64, 2), (25, .aload_n 0, 1), (26, .getfield 264, 3), (29, .isub, 1), (30, .if_icmp .le 10, 3), (33, .aload_n 0, 1), (34, .bipush (-3), 2), (36, .invokevirtual 54, 3), (39, .ireturn, 1), (40, .iload_n 3, 1), (41, .iconst 1, 1), (42, .isub, 1), (43, .istore 4, 2), (45, .iload 4, 2), (47, .ifCond .lt 37, 3), (50, .aload_n 0, 1), (51, .getfield 38, 3), (54, .aload_n 0, 1), (55, .getfield 264, 3), (58, .lload_n 1, 1), (59, .bipush 8, 2), (61, .iload 4, 2), (63, .imul, 1), (64, .lshr, 1), (65, .l2i, 1), (66, .i2b, 1)] : List (Nat × Instr × Nat)).all (fun x => decide (decode cX11_type x.1 = .ok x.2)) = true := by decide +kernel
theorem dX11_type_0 : decode cX11_type 0 = .ok (.aload_n 0, 1) := mm_dk kX11_type_0 0 rfl
theorem dX11_type_1 : decode cX11_type 1 = .ok (.iconst 0, 1) := mm_dk kX11_type_0 1 rfl
theorem dX11_type_2 : decode cX11_type 2 = .ok (.putfield 46, 3) := mm_dk kX11_type_0 2 rfl
theorem dX11_type_5 : decode cX11_type 5 = .ok (.iload_n 3, 1) := mm_dk kX11_type_0 3 rfl
theorem dX11_type_6 : decode cX11_type 6 = .ok (.iconst 1, 1) := mm_dk kX11_type_0 4 rfl
theorem dX11_type_7 : decode cX11_type 7 = .ok (.if_icmp .lt 9, 3) := mm_dk kX11_type_0 5 rfl
theorem dX11_type_10 : decode cX11_type 10 = .ok (.iload_n 3, 1) := mm_dk kX11_type_0 6 rfl
theorem dX11_type_11 : decode cX11_type 11 = .ok (.bipush 8, 2) := mm_dk kX11_type_0 7 rfl
theorem dX11_type_13 : decode cX11_type 13 = .ok (.if_icmp .le 9, 3) := mm_dk kX11_type_0 8 rfl
theorem dX11_type_16 : decode cX11_type 16 = .ok (.aload_n 0, 1) := mm_dk kX11_type_0 9 rfl
theorem dX11_type_17 : decode cX11_type 17 = .ok (.iconst (-1), 1) := mm_dk kX11_type_0 10 rfl
theorem dX11_type_18 : decode cX11_type 18 = .ok (.invokevirtual 54, 3) := mm_dk kX11_type_0 11 rfl
theorem dX11_type_21 : decode cX11_type 21 = .ok (.ireturn, 1) := mm_dk kX11_type_0 12 rfl
theorem dX11_type_22 : decode cX11_type 22 = .ok (.iload_n 3, 1) := mm_dk kX11_type_0 13 rfl
theorem dX11_type_23 : decode cX11_type 23 = .ok (.bipush 64, 2) := mm_dk kX11_type_0 14 rfl
theorem dX11_type_25 : decode cX11_type 25 = .ok (.aload_n 0, 1) := mm_dk kX11_type_0 15 rfl
theorem dX11_type_26 : decode cX11_type 26 = .ok (.getfield 264, 3) := mm_dk kX11_type_0 16 rfl
theorem dX11_type_29 : decode cX11_type 29 = .ok (.isub, 1) := mm_dk kX11_type_0 17 rfl
theorem dX11_type_30 : decode cX11_type 30 = .ok (.if_icmp .le 10, 3) := mm_dk kX11_type_0 18 rfl
theorem dX11_type_33 : decode cX11_type 33 = .ok (.aload_n 0, 1) := mm_dk kX11_type_0 19 rfl
theorem dX11_type_34 : decode cX11_type 34 = .ok (.bipush (-3), 2) := mm_dk kX11_type_0 20 rfl
theorem dX11_type_36 : decode cX11_type 36 = .ok (.invokevirtual 54, 3) := mm_dk kX11_type_0 21 rfl
theorem dX11_type_39 : decode cX11_type 39 = .ok (.ireturn, 1) := mm_dk kX11_type_0 22 rfl
theorem dX11_type_40 : decode cX11_type 40 = .ok (.iload_n 3, 1) := mm_dk kX11_type_0 23 rfl
theorem dX11_type_41 : decode cX11_type 41 = .ok (.iconst 1, 1) := mm_dk kX11_type_0 24 rfl
theorem dX11_type_42 : decode cX11_type 42 = .ok (.isub, 1) := mm_dk kX11_type_0 25 rfl
theorem dX11_type_43 : decode cX11_type 43 = .ok (.istore 4, 2) := mm_dk kX11_type_0 26 rfl
theorem dX11_type_45 : decode cX11_type 45 = .ok (.iload 4, 2) := mm_dk kX11_type_0 27 rfl
theorem dX11_type_47 : decode cX11_type 47 = .ok (.ifCond .lt 37, 3) := mm_dk kX11_type_0 28 rfl
theorem dX11_type_50 : decode cX11_type 50 = .ok (.aload_n 0, 1) := mm_dk kX11_type_0 29 rfl
theorem dX11_type_51 : decode cX11_type 51 = .ok (.getfield 38, 3) := mm_dk kX11_type_0 30 rfl
theorem dX11_type_54 : decode cX11_type 54 = .ok (.aload_n 0, 1) := mm_dk kX11_type_0 31 rfl
theorem dX11_type_55 : decode cX11_type 55 = .ok (.getfield 264, 3) := mm_dk kX11_type_0 32 rfl
theorem dX11_type_58 : decode cX11_type 58 = .ok (.lload_n 1, 1) := mm_dk kX11_type_0 33 rfl
theorem dX11_type_59 : decode cX11_type 59 = .ok (.bipush 8, 2) := mm_dk kX11_type_0 34 rfl
theorem dX11_type_61 : decode cX11_type 61 = .ok (.iload 4, 2) := mm_dk kX11_type_0 35 rfl
theorem dX11_type_63 : decode cX11_type 63 = .ok (.imul, 1) := mm_dk kX11_type_0 36 rfl
theorem dX11_type_64 : decode cX11_type 64 = .ok (.lshr, 1) := mm_dk kX11_type_0 37 rfl
theorem dX11_type_65 : decode cX11_type 65 = .ok (.l2i, 1) := mm_dk kX11_type_0 38 rfl
theorem dX11_type_66 : decode cX11_type 66 = .ok (.i2b, 1) := mm_dk kX11_type_0 39 rfl
set_option maxRecDepth 100000 in
theorem kX11_type_1 : ([(67, .bastore, 1), (68, .aload_n 0, 1), (69, .dup, 1), (70, .getfield 264, 3), (73, .iconst 1, 1), (74, .iadd, 1), (75, .putfield 264, 3), (78, .iinc 4 (-1), 3), (81, .goto (-36), 3), (84, .aload_n 0, 1), (85, .getfield 264, 3), (88, .ireturn, 1)] : List (Nat × Instr × Nat)).all (fun x => decide (decode cX11_type x.1 = .ok x.2)) = true := by decide +kernel
theorem dX11_type_67 : decode cX11_type 67 = .ok (.bastore, 1) := mm_dk kX11_type_1 0 rfl
theorem dX11_type_68 : decode cX11_type 68 = .ok (.aload_n 0, 1) := mm_dk kX11_type_1 1 rfl
theorem dX11_type_69 : decode cX11_type 69 = .ok (.dup, 1) := mm_dk kX11_type_1 2 rfl
theorem dX11_type_70 : decode cX11_type 70 = .ok (.getfield 264, 3) := mm_dk kX11_type_1 3 rfl
theorem dX11_type_73 : decode cX11_type 73 = .ok (.iconst 1, 1) := mm_dk kX11_type_1 4 rfl
theorem dX11_type_74 : decode cX11_type 74 = .ok (.iadd, 1) := mm_dk kX11_type_1 5 rfl
theorem dX11_type_75 : decode cX11_type 75 = .ok (.putfield 264, 3) := mm_dk kX11_type_1 6 rfl
theorem dX11_type_78 : decode cX11_type 78 = .ok (.iinc 4 (-1), 3) := mm_dk kX11_type_1 7 rfl
theorem dX11_type_81 : decode cX11_type 81 = .ok (.goto (-36), 3) := mm_dk kX11_type_1 8 rfl
theorem dX11_type_84 : decode cX11_type 84 = .ok (.aload_n 0, 1) := mm_dk kX11_type_1 9 rfl
theorem dX11_type_85 : decode cX11_type 85 = .ok (.getfield 264, 3) := mm_dk kX11_type_1 10 rfl
theorem dX11_type_88 : decode cX11_type 88 = .ok (.ireturn, 1) := mm_dk kX11_type_1 11 rfl
set_option maxRecDepth 100000 in
theorem kX11_feed_0 : ([(0, .aload_n 0, 1), (1, .iconst 0, 1), (2, .putfield 46, 3), (5, .aload_n 0, 1), (6, .iload_n 1, 1), (7, .invokevirtual 64, 3), (10, .astore_n 3, 1), (11, .aload_n 3, 1), (12, .ifnull 10, 3), (15, .iload_n 2, 1), (16, .invokestatic 98, 3), (19, .ifCond .ne 9, 3), (22, .aload_n 0, 1), (23, .iconst (-1), 1), (24, .invokevirtual 54, 3), (27, .ireturn, 1), (28, .aload_n 3, 1), (29, .getfield 113, 3), (32, .astore 4, 2), (34, .aload 4, 2), (36, .invokevirtual 157, 3), (39, .ifCond .eq 10, 3), (42, .aload_n 0, 1), (43, .bipush (-3), 2), (45, .invokevirtual 54, 3), (48, .ireturn, 1), (49, .aload 4, 2), (51, .aload 4, 2), (53, .getfield 117, 3), (56, .new 168, 3), (59, .dup, 1), (60, .iload_n 2, 1), (61, .aload_n 0, 1), (62, .getfield 38, 3), (65, .aload_n 0, 1), (66, .getfield 264, 3), (69, .invokestatic 267, 3), (72, .aconst_null, 1), (73, .invokespecial 174, 3), (76, .invokevirtual 177, 3)] : List (Nat × Instr × Nat)).all (fun x => decide (decode cX11_feed x.1 = .ok x.2)) = true := by decide +kernel
theorem dX11_feed_0 : decode cX11_feed 0 = .ok (.aload_n 0, 1) := mm_dk kX11_feed_0 0 rfl
theorem dX11_feed_1 : decode cX11_feed 1 = .ok (.iconst 0, 1) := mm_dk kX11_feed_0 1 rfl
theorem dX11_feed_2 : decode cX11_feed 2 = .ok (.putfield 46, 3) := mm_dk kX11_feed_0 2 rfl
theorem dX11_feed_5 : decode cX11_feed 5 = .ok (.aload_n 0, 1) := mm_dk kX11_feed_0 3 rfl
theorem dX11_feed_6 : decode cX11_feed 6 = .ok (.iload_n 1, 1) := mm_dk kX11_feed_0 4 rfl
theorem dX11_feed_7 : decode cX11_feed 7 = .ok (.invokevirtual 64, 3) := mm_dk kX11_feed_0 5 rfl
theorem dX11_feed_10 : decode cX11_feed 10 = .ok (.astore_n 3, 1) := mm_dk kX11_feed_0 6 rfl
theorem dX11_feed_11 : decode cX11_feed 11 = .ok (.aload_n 3, 1) := mm_dk kX11_feed_0 7 rfl
theorem dX11_feed_12 : decode cX11_feed 12 = .ok (.ifnull 10, 3) := mm_dk kX11_feed_0 8 rfl
theorem dX11_feed_15 : decode cX11_feed 15 = .ok (.iload_n 2, 1) := mm_dk kX11_feed_0 9 rfl
theorem dX11_feed_16 : decode cX11_feed 16 = .ok (.invokestatic 98, 3) := mm_dk kX11_feed_0 10 rfl
theorem dX11_feed_19 : decode cX11_feed 19 = .ok (.ifCond .ne 9, 3) := mm_dk kX11_feed_0 11 rfl
theorem dX11_feed_22 : decode cX11_feed 22 = .ok (.aload_n 0, 1) := mm_dk kX11_feed_0 12 rfl
theorem dX11_feed_23 : decode cX11_feed 23 = .ok (.iconst (-1), 1) := mm_dk kX11_feed_0 13 rfl
theorem dX11_feed_24 : decode cX11_feed 24 = .ok (.invokevirtual 54, 3) := mm_dk kX11_feed_0 14 rfl
theorem dX11_feed_27 : decode cX11_feed 27 = .ok (.ireturn, 1) := mm_dk kX11_feed_0 15 rfl
theorem dX11_feed_28 : decode cX11_feed 28 = .ok (.aload_n 3, 1) := mm_dk kX11_feed_0 16 rfl
theorem dX11_feed_29 : decode cX11_feed 29 = .ok (.getfield 113, 3) := mm_dk kX11_feed_0 17 rfl
theorem dX11_feed_32 : decode cX11_feed 32 = .ok (.astore 4, 2) := mm_dk kX11_feed_0 18 rfl
theorem dX11_feed_34 : decode cX11_feed 34 = .ok (.aload 4, 2) := mm_dk kX11_feed_0 19 rfl
theorem dX11_feed_36 : decode cX11_feed 36 = .ok (.invokevirtual 157, 3) := mm_dk kX11_feed_0 20 rfl
theorem dX11_feed_39 : decode cX11_feed 39 = .ok (.ifCond .eq 10, 3) := mm_dk kX11_feed_0 21 rfl
theorem dX11_feed_42 : decode cX11_feed 42 = .ok (.aload_n 0, 1) := mm_dk kX11_feed_0 22 rfl
theorem dX11_feed_43 : decode cX11_feed 43 = .ok (.bipush (-3), 2) := mm_dk kX11_feed_0 23 rfl
theorem dX11_feed_45 : decode cX11_feed 45 = .ok (.invokevirtual 54, 3) := mm_dk kX11_feed_0 24 rfl
theorem dX11_feed_48 : decode cX11_feed 48 = .ok (.ireturn, 1) := mm_dk kX11_feed_0 25 rfl
theorem dX11_feed_49 : decode cX11_feed 49 = .ok (.aload 4, 2) := mm_dk kX11_feed_0 26 rfl
theorem dX11_feed_51 : decode cX11_feed 51 = .ok (.aload 4, 2) := mm_dk kX11_feed_0 27 rfl
theorem dX11_feed_53 : decode cX11_feed 53 = .ok (.getfield 117, 3) := mm_dk kX11_feed_0 28 rfl
theorem dX11_feed_56 : decode cX11_feed 56 = .ok (.new 168, 3) := mm_dk kX11_feed_0 29 rfl
theorem dX11_feed_59 : decode cX11_feed 59 = .ok (.dup, 1) := mm_dk kX11_feed_0 30 rfl
theorem dX11_feed_60 : decode cX11_feed 60 = .ok (.iload_n 2, 1) := mm_dk kX11_feed_0 31 rfl
theorem dX11_feed_61 : decode cX11_feed 61 = .ok (.aload_n 0, 1) := mm_dk kX11_feed_0 32 rfl
theorem dX11_feed_62 : decode cX11_feed 62 = .ok (.getfield 38, 3) := mm_dk kX11_feed_0 33 rfl
theorem dX11_feed_65 : decode cX11_feed 65 = .ok (.aload_n 0, 1) := mm_dk kX11_feed_0 34 rfl
theorem dX11_feed_66 : decode cX11_feed 66 = .ok (.getfield 264, 3) := mm_dk kX11_feed_0 35 rfl
theorem dX11_feed_69 : decode cX11_feed 69 = .ok (.invokestatic 267, 3) := mm_dk kX11_feed_0 36 rfl
theorem dX11_feed_72 : decode cX11_feed 72 = .ok (.aconst_null, 1) := mm_dk kX11_feed_0 37 rfl
theorem dX11_feed_73 : decode cX11_feed 73 = .ok (.invokespecial 174, 3) := mm_dk kX11_feed_0 38 rfl
theorem dX11_feed_76 : decode cX11_feed 76 = .ok (.invokevirtual 177, 3) := mm_dk kX11_feed_0 39 rfl
set_option maxRecDepth 100000 in
theorem kX11_feed_1 : ([(79, .aload_n 0, 1), (80, .iconst 0, 1), (81, .putfield 264, 3), (84, .aload 4, 2), (86, .getfield 117, 3), (89, .ireturn, 1)] : List (Nat × Instr × Nat)).all (fun x => decide (decode cX11_feed x.1 = .ok x.2)) = true := by decide +kernel
theorem dX11_feed_79 : decode cX11_feed 79 = .ok (.aload_n 0, 1) := mm_dk kX11_feed_1 0 rfl
theorem dX11_feed_80 : decode cX11_feed 80 = .ok (.iconst 0, 1) := mm_dk kX11_feed_1 1 rfl
theorem dX11_feed_81 : decode cX11_feed 81 = .ok (.putfield 264, 3) := mm_dk kX11_feed_1 2 rfl
theorem dX11_feed_84 : decode cX11_feed 84 = .ok (.aload 4, 2) := mm_dk kX11_feed_1 3 rfl
theorem dX11_feed_86 : decode cX11_feed 86 = .ok (.getfield 117, 3) := mm_dk kX11_feed_1 4 rfl
theorem dX11_feed_89 : decode cX11_feed 89 = .ok (.ireturn, 1) := mm_dk kX11_feed_1 5 rfl
set_option maxRecDepth 100000 in
theorem kX11_decode_0 : ([(0, .aload_n 0, 1), (1, .iconst 0, 1), (2, .putfield 46, 3), (5, .aload_n 0, 1), (6, .iload_n 1, 1), (7, .invokevirtual 64, 3), (10, .astore_n 2, 1), (11, .aload_n 2, 1), (12, .ifnonnull 9, 3), (15, .aload_n 0, 1), (16, .iconst (-1), 1), (17, .invokevirtual 54, 3), (20, .ireturn, 1), (21, .aload_n 2, 1), (22, .getfield 113, 3), (25, .getfield 117, 3), (28, .ifCond .ne 27, 3), (31, .aload_n 2, 1), (32, .getfield 104, 3), (35, .getfield 125, 3), (38, .aload_n 2, 1), (39, .getfield 68, 3), (42, .getfield 122, 3), (45, .if_icmp .ne 10, 3), (48, .aload_n 0, 1), (49, .bipush (-2), 2), (51, .invokevirtual 54, 3), (54, .ireturn, 1), (55, .aload_n 2, 1), (56, .getfield 104, 3), (59, .aload_n 2, 1), (60, .getfield 113, 3), (63, .invokevirtual 273, 3), (66, .aload_n 2, 1), (67, .getfield 104, 3), (70, .getfield 277, 3), (73, .ireturn, 1)] : List (Nat × Instr × Nat)).all (fun x => decide (decode cX11_decode x.1 = .ok x.2)) = true := by decide +kernel
theorem dX11_decode_0 : decode cX11_decode 0 = .ok (.aload_n 0, 1) := mm_dk kX11_decode_0 0 rfl
theorem dX11_decode_1 : decode cX11_decode 1 = .ok (.iconst 0, 1) := mm_dk kX11_decode_0 1 rfl
theorem dX11_decode_2 : decode cX11_decode 2 = .ok (.putfield 46, 3) := mm_dk kX11_decode_0 2 rfl
theorem dX11_decode_5 : decode cX11_decode 5 = .ok (.aload_n 0, 1) := mm_dk kX11_decode_0 3 rfl
theorem dX11_decode_6 : decode cX11_decode 6 = .ok (.iload_n 1, 1) := mm_dk kX11_decode_0 4 rfl
theorem dX11_decode_7 : decode cX11_decode 7 = .ok (.invokevirtual 64, 3) := mm_dk kX11_decode_0 5 rfl
theorem dX11_decode_10 : decode cX11_decode 10 = .ok (.astore_n 2, 1) := mm_dk kX11_decode_0 6 rfl
theorem dX11_decode_11 : decode cX11_decode 11 = .ok (.aload_n 2, 1) := mm_dk kX11_decode_0 7 rfl
theorem dX11_decode_12 : decode cX11_decode 12 = .ok (.ifnonnull 9, 3) := mm_dk kX11_decode_0 8 rfl
theorem dX11_decode_15 : decode cX11_decode 15 = .ok (.aload_n 0, 1) := mm_dk kX11_decode_0 9 rfl
theorem dX11_decode_16 : decode cX11_decode 16 = .ok (.iconst (-1), 1) := mm_dk kX11_decode_0 10 rfl
theorem dX11_decode_17 : decode cX11_decode 17 = .ok (.invokevirtual 54, 3) := mm_dk kX11_decode_0 11 rfl
theorem dX11_decode_20 : decode cX11_decode 20 = .ok (.ireturn, 1) := mm_dk kX11_decode_0 12 rfl
theorem dX11_decode_21 : decode cX11_decode 21 = .ok (.aload_n 2, 1) := mm_dk kX11_decode_0 13 rfl
theorem dX11_decode_22 : decode cX11_decode 22 = .ok (.getfield 113, 3) := mm_dk kX11_decode_0 14 rfl
theorem dX11_decode_25 : decode cX11_decode 25 = .ok (.getfield 117, 3) := mm_dk kX11_decode_0 15 rfl
theorem dX11_decode_28 : decode cX11_decode 28 = .ok (.ifCond .ne 27, 3) := mm_dk kX11_decode_0 16 rfl
theorem dX11_decode_31 : decode cX11_decode 31 = .ok (.aload_n 2, 1) := mm_dk kX11_decode_0 17 rfl
theorem dX11_decode_32 : decode cX11_decode 32 = .ok (.getfield 104, 3) := mm_dk kX11_decode_0 18 rfl
theorem dX11_decode_35 : decode cX11_decode 35 = .ok (.getfield 125, 3) := mm_dk kX11_decode_0 19 rfl
theorem dX11_decode_38 : decode cX11_decode 38 = .ok (.aload_n 2, 1) := mm_dk kX11_decode_0 20 rfl
theorem dX11_decode_39 : decode cX11_decode 39 = .ok (.getfield 68, 3) := mm_dk kX11_decode_0 21 rfl
theorem dX11_decode_42 : decode cX11_decode 42 = .ok (.getfield 122, 3) := mm_dk kX11_decode_0 22 rfl
theorem dX11_decode_45 : decode cX11_decode 45 = .ok (.if_icmp .ne 10, 3) := mm_dk kX11_decode_0 23 rfl
theorem dX11_decode_48 : decode cX11_decode 48 = .ok (.aload_n 0, 1) := mm_dk kX11_decode_0 24 rfl
theorem dX11_decode_49 : decode cX11_decode 49 = .ok (.bipush (-2), 2) := mm_dk kX11_decode_0 25 rfl
theorem dX11_decode_51 : decode cX11_decode 51 = .ok (.invokevirtual 54, 3) := mm_dk kX11_decode_0 26 rfl
theorem dX11_decode_54 : decode cX11_decode 54 = .ok (.ireturn, 1) := mm_dk kX11_decode_0 27 rfl
theorem dX11_decode_55 : decode cX11_decode 55 = .ok (.aload_n 2, 1) := mm_dk kX11_decode_0 28 rfl
theorem dX11_decode_56 : decode cX11_decode 56 = .ok (.getfield 104, 3) := mm_dk kX11_decode_0 29 rfl
theorem dX11_decode_59 : decode cX11_decode 59 = .ok (.aload_n 2, 1) := mm_dk kX11_decode_0 30 rfl
theorem dX11_decode_60 : decode cX11_decode 60 = .ok (.getfield 113, 3) := mm_dk kX11_decode_0 31 rfl
theorem dX11_decode_63 : decode cX11_decode 63 = .ok (.invokevirtual 273, 3) := mm_dk kX11_decode_0 32 rfl
theorem dX11_decode_66 : decode cX11_decode 66 = .ok (.aload_n 2, 1) := mm_dk kX11_decode_0 33 rfl
theorem dX11_decode_67 : decode cX11_decode 67 = .ok (.getfield 104, 3) := mm_dk kX11_decode_0 34 rfl
theorem dX11_decode_70 : decode cX11_decode 70 = .ok (.getfield 277, 3) := mm_dk kX11_decode_0 35 rfl
theorem dX11_decode_73 : decode cX11_decode 73 = .ok (.ireturn, 1) := mm_dk kX11_decode_0 36 rfl
set_option maxRecDepth 100000 in
theorem kX11_out_0 : ([(0, .aload_n 0, 1), (1, .iconst 0, 1), (2, .putfield 46, 3), (5, .aload_n 0, 1), (6, .iload_n 1, 1), (7, .invokevirtual 64, 3), (10, .astore_n 3, 1), (11, .aload_n 3, 1), (12, .ifnonnull 10, 3), (15, .aload_n 0, 1), (16, .invokevirtual 280, 3), (19, .goto 22, 3), (22, .aload_n 0, 1), (23, .aload_n 3, 1), (24, .getfield 104, 3), (27, .getfield 283, 3), (30, .aload_n 3, 1), (31, .getfield 104, 3), (34, .getfield 277, 3), (37, .iload_n 2, 1), (38, .invokevirtual 286, 3), (41, .ireturn, 1)] : List (Nat × Instr × Nat)).all (fun x => decide (decode cX11_out x.1 = .ok x.2)) = true := by decide +kernel
theorem dX11_out_0 : decode cX11_out 0 = .ok (.aload_n 0, 1) := mm_dk kX11_out_0 0 rfl
theorem dX11_out_1 : decode cX11_out 1 = .ok (.iconst 0, 1) := mm_dk kX11_out_0 1 rfl
theorem dX11_out_2 : decode cX11_out 2 = .ok (.putfield 46, 3) := mm_dk kX11_out_0 2 rfl
theorem dX11_out_5 : decode cX11_out 5 = .ok (.aload_n 0, 1) := mm_dk kX11_out_0 3 rfl
theorem dX11_out_6 : decode cX11_out 6 = .ok (.iload_n 1, 1) := mm_dk kX11_out_0 4 rfl
theorem dX11_out_7 : decode cX11_out 7 = .ok (.invokevirtual 64, 3) := mm_dk kX11_out_0 5 rfl
theorem dX11_out_10 : decode cX11_out 10 = .ok (.astore_n 3, 1) := mm_dk kX11_out_0 6 rfl
theorem dX11_out_11 : decode cX11_out 11 = .ok (.aload_n 3, 1) := mm_dk kX11_out_0 7 rfl
theorem dX11_out_12 : decode cX11_out 12 = .ok (.ifnonnull 10, 3) := mm_dk kX11_out_0 8 rfl
theorem dX11_out_15 : decode cX11_out 15 = .ok (.aload_n 0, 1) := mm_dk kX11_out_0 9 rfl
theorem dX11_out_16 : decode cX11_out 16 = .ok (.invokevirtual 280, 3) := mm_dk kX11_out_0 10 rfl
theorem dX11_out_19 : decode cX11_out 19 = .ok (.goto 22, 3) := mm_dk kX11_out_0 11 rfl
theorem dX11_out_22 : decode cX11_out 22 = .ok (.aload_n 0, 1) := mm_dk kX11_out_0 12 rfl
theorem dX11_out_23 : decode cX11_out 23 = .ok (.aload_n 3, 1) := mm_dk kX11_out_0 13 rfl
theorem dX11_out_24 : decode cX11_out 24 = .ok (.getfield 104, 3) := mm_dk kX11_out_0 14 rfl
theorem dX11_out_27 : decode cX11_out 27 = .ok (.getfield 283, 3) := mm_dk kX11_out_0 15 rfl
theorem dX11_out_30 : decode cX11_out 30 = .ok (.aload_n 3, 1) := mm_dk kX11_out_0 16 rfl
theorem dX11_out_31 : decode cX11_out 31 = .ok (.getfield 104, 3) := mm_dk kX11_out_0 17 rfl
theorem dX11_out_34 : decode cX11_out 34 = .ok (.getfield 277, 3) := mm_dk kX11_out_0 18 rfl
theorem dX11_out_37 : decode cX11_out 37 = .ok (.iload_n 2, 1) := mm_dk kX11_out_0 19 rfl
theorem dX11_out_38 : decode cX11_out 38 = .ok (.invokevirtual 286, 3) := mm_dk kX11_out_0 20 rfl
theorem dX11_out_41 : decode cX11_out 41 = .ok (.ireturn, 1) := mm_dk kX11_out_0 21 rfl
set_option maxRecDepth 100000 in
theorem kX11_state_0 : ([(0, .aload_n 0, 1), (1, .iconst 0, 1), (2, .putfield 46, 3), (5, .aload_n 0, 1), (6, .iload_n 1, 1), (7, .iload_n 2, 1), (8, .invokevirtual 290, 3), (11, .astore 5, 2), (13, .aload 5, 2), (15, .ifnonnull 8, 3), (18, .aload_n 0, 1), (19, .invokevirtual 280, 3), (22, .ireturn, 1), (23, .iload_n 3, 1), (24, .tableswitch 93 0 3 #[32, 47, 61, 75], 32), (56, .aload_n 0, 1), (57, .aload 5, 2), (59, .getfield 294, 3), (62, .sipush 160, 3), (65, .iload 4, 2), (67, .invokevirtual 286, 3), (70, .ireturn, 1), (71, .aload_n 0, 1), (72, .aload 5, 2), (74, .getfield 297, 3), (77, .bipush 8, 2), (79, .iload 4, 2), (81, .invokevirtual 286, 3), (84, .ireturn, 1), (85, .aload_n 0, 1), (86, .aload 5, 2), (88, .getfield 202, 3), (91, .bipush 8, 2), (93, .iload 4, 2), (95, .invokevirtual 286, 3), (98, .ireturn, 1), (99, .iload 4, 2), (101, .ifCond .ne 11, 3), (104, .aload 5, 2), (106, .getfield 300, 3)] : List (Nat × Instr × Nat)).all (fun x => decide (decode cX11_state x.1 = .ok x.2)) = true := by decide +kernel
theorem dX11_state_0 : decode cX11_state 0 = .ok (.aload_n 0, 1) := mm_dk kX11_state_0 0 rfl
theorem dX11_state_1 : decode cX11_state 1 = .ok (.iconst 0, 1) := mm_dk kX11_state_0 1 rfl
theorem dX11_state_2 : decode cX11_state 2 = .ok (.putfield 46, 3) := mm_dk kX11_state_0 2 rfl
theorem dX11_state_5 : decode cX11_state 5 = .ok (.aload_n 0, 1) := mm_dk kX11_state_0 3 rfl
theorem dX11_state_6 : decode cX11_state 6 = .ok (.iload_n 1, 1) := mm_dk kX11_state_0 4 rfl
theorem dX11_state_7 : decode cX11_state 7 = .ok (.iload_n 2, 1) := mm_dk kX11_state_0 5 rfl
theorem dX11_state_8 : decode cX11_state 8 = .ok (.invokevirtual 290, 3) := mm_dk kX11_state_0 6 rfl
theorem dX11_state_11 : decode cX11_state 11 = .ok (.astore 5, 2) := mm_dk kX11_state_0 7 rfl
theorem dX11_state_13 : decode cX11_state 13 = .ok (.aload 5, 2) := mm_dk kX11_state_0 8 rfl
theorem dX11_state_15 : decode cX11_state 15 = .ok (.ifnonnull 8, 3) := mm_dk kX11_state_0 9 rfl
theorem dX11_state_18 : decode cX11_state 18 = .ok (.aload_n 0, 1) := mm_dk kX11_state_0 10 rfl
theorem dX11_state_19 : decode cX11_state 19 = .ok (.invokevirtual 280, 3) := mm_dk kX11_state_0 11 rfl
theorem dX11_state_22 : decode cX11_state 22 = .ok (.ireturn, 1) := mm_dk kX11_state_0 12 rfl
theorem dX11_state_23 : decode cX11_state 23 = .ok (.iload_n 3, 1) := mm_dk kX11_state_0 13 rfl
theorem dX11_state_24 : decode cX11_state 24 = .ok (.tableswitch 93 0 3 #[32, 47, 61, 75], 32) := mm_dk kX11_state_0 14 rfl
theorem dX11_state_56 : decode cX11_state 56 = .ok (.aload_n 0, 1) := mm_dk kX11_state_0 15 rfl
theorem dX11_state_57 : decode cX11_state 57 = .ok (.aload 5, 2) := mm_dk kX11_state_0 16 rfl
theorem dX11_state_59 : decode cX11_state 59 = .ok (.getfield 294, 3) := mm_dk kX11_state_0 17 rfl
theorem dX11_state_62 : decode cX11_state 62 = .ok (.sipush 160, 3) := mm_dk kX11_state_0 18 rfl
theorem dX11_state_65 : decode cX11_state 65 = .ok (.iload 4, 2) := mm_dk kX11_state_0 19 rfl
theorem dX11_state_67 : decode cX11_state 67 = .ok (.invokevirtual 286, 3) := mm_dk kX11_state_0 20 rfl
theorem dX11_state_70 : decode cX11_state 70 = .ok (.ireturn, 1) := mm_dk kX11_state_0 21 rfl
theorem dX11_state_71 : decode cX11_state 71 = .ok (.aload_n 0, 1) := mm_dk kX11_state_0 22 rfl
theorem dX11_state_72 : decode cX11_state 72 = .ok (.aload 5, 2) := mm_dk kX11_state_0 23 rfl
theorem dX11_state_74 : decode cX11_state 74 = .ok (.getfield 297, 3) := mm_dk kX11_state_0 24 rfl
theorem dX11_state_77 : decode cX11_state 77 = .ok (.bipush 8, 2) := mm_dk kX11_state_0 25 rfl
theorem dX11_state_79 : decode cX11_state 79 = .ok (.iload 4, 2) := mm_dk kX11_state_0 26 rfl
theorem dX11_state_81 : decode cX11_state 81 = .ok (.invokevirtual 286, 3) := mm_dk kX11_state_0 27 rfl
theorem dX11_state_84 : decode cX11_state 84 = .ok (.ireturn, 1) := mm_dk kX11_state_0 28 rfl
theorem dX11_state_85 : decode cX11_state 85 = .ok (.aload_n 0, 1) := mm_dk kX11_state_0 29 rfl
theorem dX11_state_86 : decode cX11_state 86 = .ok (.aload 5, 2) := mm_dk kX11_state_0 30 rfl
theorem dX11_state_88 : decode cX11_state 88 = .ok (.getfield 202, 3) := mm_dk kX11_state_0 31 rfl
theorem dX11_state_91 : decode cX11_state 91 = .ok (.bipush 8, 2) := mm_dk kX11_state_0 32 rfl
theorem dX11_state_93 : decode cX11_state 93 = .ok (.iload 4, 2) := mm_dk kX11_state_0 33 rfl
theorem dX11_state_95 : decode cX11_state 95 = .ok (.invokevirtual 286, 3) := mm_dk kX11_state_0 34 rfl
theorem dX11_state_98 : decode cX11_state 98 = .ok (.ireturn, 1) := mm_dk kX11_state_0 35 rfl
theorem dX11_state_99 : decode cX11_state 99 = .ok (.iload 4, 2) := mm_dk kX11_state_0 36 rfl
theorem dX11_state_101 : decode cX11_state 101 = .ok (.ifCond .ne 11, 3) := mm_dk kX11_state_0 37 rfl
theorem dX11_state_104 : decode cX11_state 104 = .ok (.aload 5, 2) := mm_dk kX11_state_0 38 rfl
theorem dX11_state_106 : decode cX11_state 106 = .ok (.getfield 300, 3) := mm_dk kX11_state_0 39 rfl
set_option maxRecDepth 100000 in
theorem kX11_state_1 : ([(109, .goto 7, 3), (112, .aload_n 0, 1), (113, .invokevirtual 280, 3), (116, .ireturn, 1), (117, .aload_n 0, 1), (118, .invokevirtual 280, 3), (121, .ireturn, 1)] : List (Nat × Instr × Nat)).all (fun x => decide (decode cX11_state x.1 = .ok x.2)) = true := by decide +kernel
theorem dX11_state_109 : decode cX11_state 109 = .ok (.goto 7, 3) := mm_dk kX11_state_1 0 rfl
theorem dX11_state_112 : decode cX11_state 112 = .ok (.aload_n 0, 1) := mm_dk kX11_state_1 1 rfl
theorem dX11_state_113 : decode cX11_state 113 = .ok (.invokevirtual 280, 3) := mm_dk kX11_state_1 2 rfl
theorem dX11_state_116 : decode cX11_state 116 = .ok (.ireturn, 1) := mm_dk kX11_state_1 3 rfl
theorem dX11_state_117 : decode cX11_state 117 = .ok (.aload_n 0, 1) := mm_dk kX11_state_1 4 rfl
theorem dX11_state_118 : decode cX11_state 118 = .ok (.invokevirtual 280, 3) := mm_dk kX11_state_1 5 rfl
theorem dX11_state_121 : decode cX11_state 121 = .ok (.ireturn, 1) := mm_dk kX11_state_1 6 rfl
set_option maxRecDepth 100000 in
theorem kX11_finding_0 : ([(0, .aload_n 0, 1), (1, .iconst 0, 1), (2, .putfield 46, 3), (5, .aload_n 0, 1), (6, .iload_n 1, 1), (7, .invokevirtual 64, 3), (10, .astore_n 2, 1), (11, .aload_n 2, 1), (12, .ifnonnull 11, 3), (15, .aload_n 0, 1), (16, .iconst (-1), 1), (17, .invokevirtual 54, 3), (20, .goto 10, 3), (23, .aload_n 2, 1), (24, .getfield 104, 3), (27, .getfield 303, 3), (30, .ireturn, 1)] : List (Nat × Instr × Nat)).all (fun x => decide (decode cX11_finding x.1 = .ok x.2)) = true := by decide +kernel
theorem dX11_finding_0 : decode cX11_finding 0 = .ok (.aload_n 0, 1) := mm_dk kX11_finding_0 0 rfl
theorem dX11_finding_1 : decode cX11_finding 1 = .ok (.iconst 0, 1) := mm_dk kX11_finding_0 1 rfl
theorem dX11_finding_2 : decode cX11_finding 2 = .ok (.putfield 46, 3) := mm_dk kX11_finding_0 2 rfl
theorem dX11_finding_5 : decode cX11_finding 5 = .ok (.aload_n 0, 1) := mm_dk kX11_finding_0 3 rfl
theorem dX11_finding_6 : decode cX11_finding 6 = .ok (.iload_n 1, 1) := mm_dk kX11_finding_0 4 rfl
theorem dX11_finding_7 : decode cX11_finding 7 = .ok (.invokevirtual 64, 3) := mm_dk kX11_finding_0 5 rfl
theorem dX11_finding_10 : decode cX11_finding 10 = .ok (.astore_n 2, 1) := mm_dk kX11_finding_0 6 rfl
theorem dX11_finding_11 : decode cX11_finding 11 = .ok (.aload_n 2, 1) := mm_dk kX11_finding_0 7 rfl
theorem dX11_finding_12 : decode cX11_finding 12 = .ok (.ifnonnull 11, 3) := mm_dk kX11_finding_0 8 rfl
theorem dX11_finding_15 : decode cX11_finding 15 = .ok (.aload_n 0, 1) := mm_dk kX11_finding_0 9 rfl
theorem dX11_finding_16 : decode cX11_finding 16 = .ok (.iconst (-1), 1) := mm_dk kX11_finding_0 10 rfl
theorem dX11_finding_17 : decode cX11_finding 17 = .ok (.invokevirtual 54, 3) := mm_dk kX11_finding_0 11 rfl
theorem dX11_finding_20 : decode cX11_finding 20 = .ok (.goto 10, 3) := mm_dk kX11_finding_0 12 rfl
theorem dX11_finding_23 : decode cX11_finding 23 = .ok (.aload_n 2, 1) := mm_dk kX11_finding_0 13 rfl
theorem dX11_finding_24 : decode cX11_finding 24 = .ok (.getfield 104, 3) := mm_dk kX11_finding_0 14 rfl
theorem dX11_finding_27 : decode cX11_finding 27 = .ok (.getfield 303, 3) := mm_dk kX11_finding_0 15 rfl
theorem dX11_finding_30 : decode cX11_finding 30 = .ok (.ireturn, 1) := mm_dk kX11_finding_0 16 rfl
set_option maxRecDepth 100000 in
theorem kX11_repair_0 : ([(0, .aload_n 0, 1), (1, .iconst 0, 1), (2, .putfield 46, 3), (5, .aload_n 0, 1), (6, .iload_n 1, 1), (7, .invokevirtual 64, 3), (10, .astore_n 2, 1), (11, .aload_n 2, 1), (12, .ifnonnull 9, 3), (15, .aload_n 0, 1), (16, .iconst (-1), 1), (17, .invokevirtual 54, 3), (20, .ireturn, 1), (21, .aload_n 2, 1), (22, .getfield 104, 3), (25, .getfield 108, 3), (28, .ifCond .ne 12, 3), (31, .aload_n 0, 1), (32, .bipush (-4), 2), (34, .invokevirtual 54, 3), (37, .goto 10, 3), (40, .aload_n 2, 1), (41, .getfield 104, 3), (44, .getfield 306, 3), (47, .ireturn, 1)] : List (Nat × Instr × Nat)).all (fun x => decide (decode cX11_repair x.1 = .ok x.2)) = true := by decide +kernel
theorem dX11_repair_0 : decode cX11_repair 0 = .ok (.aload_n 0, 1) := mm_dk kX11_repair_0 0 rfl
theorem dX11_repair_1 : decode cX11_repair 1 = .ok (.iconst 0, 1) := mm_dk kX11_repair_0 1 rfl
theorem dX11_repair_2 : decode cX11_repair 2 = .ok (.putfield 46, 3) := mm_dk kX11_repair_0 2 rfl
theorem dX11_repair_5 : decode cX11_repair 5 = .ok (.aload_n 0, 1) := mm_dk kX11_repair_0 3 rfl
theorem dX11_repair_6 : decode cX11_repair 6 = .ok (.iload_n 1, 1) := mm_dk kX11_repair_0 4 rfl
theorem dX11_repair_7 : decode cX11_repair 7 = .ok (.invokevirtual 64, 3) := mm_dk kX11_repair_0 5 rfl
theorem dX11_repair_10 : decode cX11_repair 10 = .ok (.astore_n 2, 1) := mm_dk kX11_repair_0 6 rfl
theorem dX11_repair_11 : decode cX11_repair 11 = .ok (.aload_n 2, 1) := mm_dk kX11_repair_0 7 rfl
theorem dX11_repair_12 : decode cX11_repair 12 = .ok (.ifnonnull 9, 3) := mm_dk kX11_repair_0 8 rfl
theorem dX11_repair_15 : decode cX11_repair 15 = .ok (.aload_n 0, 1) := mm_dk kX11_repair_0 9 rfl
theorem dX11_repair_16 : decode cX11_repair 16 = .ok (.iconst (-1), 1) := mm_dk kX11_repair_0 10 rfl
theorem dX11_repair_17 : decode cX11_repair 17 = .ok (.invokevirtual 54, 3) := mm_dk kX11_repair_0 11 rfl
theorem dX11_repair_20 : decode cX11_repair 20 = .ok (.ireturn, 1) := mm_dk kX11_repair_0 12 rfl
theorem dX11_repair_21 : decode cX11_repair 21 = .ok (.aload_n 2, 1) := mm_dk kX11_repair_0 13 rfl
theorem dX11_repair_22 : decode cX11_repair 22 = .ok (.getfield 104, 3) := mm_dk kX11_repair_0 14 rfl
theorem dX11_repair_25 : decode cX11_repair 25 = .ok (.getfield 108, 3) := mm_dk kX11_repair_0 15 rfl
theorem dX11_repair_28 : decode cX11_repair 28 = .ok (.ifCond .ne 12, 3) := mm_dk kX11_repair_0 16 rfl
theorem dX11_repair_31 : decode cX11_repair 31 = .ok (.aload_n 0, 1) := mm_dk kX11_repair_0 17 rfl
theorem dX11_repair_32 : decode cX11_repair 32 = .ok (.bipush (-4), 2) := mm_dk kX11_repair_0 18 rfl
theorem dX11_repair_34 : decode cX11_repair 34 = .ok (.invokevirtual 54, 3) := mm_dk kX11_repair_0 19 rfl
theorem dX11_repair_37 : decode cX11_repair 37 = .ok (.goto 10, 3) := mm_dk kX11_repair_0 20 rfl
theorem dX11_repair_40 : decode cX11_repair 40 = .ok (.aload_n 2, 1) := mm_dk kX11_repair_0 21 rfl
theorem dX11_repair_41 : decode cX11_repair 41 = .ok (.getfield 104, 3) := mm_dk kX11_repair_0 22 rfl
theorem dX11_repair_44 : decode cX11_repair 44 = .ok (.getfield 306, 3) := mm_dk kX11_repair_0 23 rfl
theorem dX11_repair_47 : decode cX11_repair 47 = .ok (.ireturn, 1) := mm_dk kX11_repair_0 24 rfl
set_option maxRecDepth 100000 in
theorem kX11_stage_0 : ([(0, .aload_n 0, 1), (1, .iconst 0, 1), (2, .putfield 46, 3), (5, .aload_n 0, 1), (6, .iload_n 1, 1), (7, .invokevirtual 64, 3), (10, .astore 4, 2), (12, .aload 4, 2), (14, .ifnull 22, 3), (17, .iload_n 2, 1), (18, .ifCond .lt 18, 3), (21, .iload_n 2, 1), (22, .iconst 4, 1), (23, .if_icmp .ge 13, 3), (26, .iload_n 3, 1), (27, .ifCond .lt 9, 3), (30, .iload_n 3, 1), (31, .bipush 6, 2), (33, .if_icmp .le 9, 3), (36, .aload_n 0, 1), (37, .iconst (-1), 1), (38, .invokevirtual 54, 3), (41, .ireturn, 1), (42, .iload_n 3, 1), (43, .iconst 4, 1), (44, .if_icmp .le 10, 3), (47, .aload_n 0, 1), (48, .bipush (-5), 2), (50, .invokevirtual 54, 3), (53, .ireturn, 1), (54, .aload 4, 2), (56, .getfield 104, 3), (59, .getfield 309, 3), (62, .astore 5, 2), (64, .aload 5, 2), (66, .iload_n 2, 1), (67, .aaload, 1), (68, .getfield 313, 3), (71, .istore 6, 2), (73, .aload 5, 2)] : List (Nat × Instr × Nat)).all (fun x => decide (decode cX11_stage x.1 = .ok x.2)) = true := by decide +kernel
theorem dX11_stage_0 : decode cX11_stage 0 = .ok (.aload_n 0, 1) := mm_dk kX11_stage_0 0 rfl
theorem dX11_stage_1 : decode cX11_stage 1 = .ok (.iconst 0, 1) := mm_dk kX11_stage_0 1 rfl
theorem dX11_stage_2 : decode cX11_stage 2 = .ok (.putfield 46, 3) := mm_dk kX11_stage_0 2 rfl
theorem dX11_stage_5 : decode cX11_stage 5 = .ok (.aload_n 0, 1) := mm_dk kX11_stage_0 3 rfl
theorem dX11_stage_6 : decode cX11_stage 6 = .ok (.iload_n 1, 1) := mm_dk kX11_stage_0 4 rfl
theorem dX11_stage_7 : decode cX11_stage 7 = .ok (.invokevirtual 64, 3) := mm_dk kX11_stage_0 5 rfl
theorem dX11_stage_10 : decode cX11_stage 10 = .ok (.astore 4, 2) := mm_dk kX11_stage_0 6 rfl
theorem dX11_stage_12 : decode cX11_stage 12 = .ok (.aload 4, 2) := mm_dk kX11_stage_0 7 rfl
theorem dX11_stage_14 : decode cX11_stage 14 = .ok (.ifnull 22, 3) := mm_dk kX11_stage_0 8 rfl
theorem dX11_stage_17 : decode cX11_stage 17 = .ok (.iload_n 2, 1) := mm_dk kX11_stage_0 9 rfl
theorem dX11_stage_18 : decode cX11_stage 18 = .ok (.ifCond .lt 18, 3) := mm_dk kX11_stage_0 10 rfl
theorem dX11_stage_21 : decode cX11_stage 21 = .ok (.iload_n 2, 1) := mm_dk kX11_stage_0 11 rfl
theorem dX11_stage_22 : decode cX11_stage 22 = .ok (.iconst 4, 1) := mm_dk kX11_stage_0 12 rfl
theorem dX11_stage_23 : decode cX11_stage 23 = .ok (.if_icmp .ge 13, 3) := mm_dk kX11_stage_0 13 rfl
theorem dX11_stage_26 : decode cX11_stage 26 = .ok (.iload_n 3, 1) := mm_dk kX11_stage_0 14 rfl
theorem dX11_stage_27 : decode cX11_stage 27 = .ok (.ifCond .lt 9, 3) := mm_dk kX11_stage_0 15 rfl
theorem dX11_stage_30 : decode cX11_stage 30 = .ok (.iload_n 3, 1) := mm_dk kX11_stage_0 16 rfl
theorem dX11_stage_31 : decode cX11_stage 31 = .ok (.bipush 6, 2) := mm_dk kX11_stage_0 17 rfl
theorem dX11_stage_33 : decode cX11_stage 33 = .ok (.if_icmp .le 9, 3) := mm_dk kX11_stage_0 18 rfl
theorem dX11_stage_36 : decode cX11_stage 36 = .ok (.aload_n 0, 1) := mm_dk kX11_stage_0 19 rfl
theorem dX11_stage_37 : decode cX11_stage 37 = .ok (.iconst (-1), 1) := mm_dk kX11_stage_0 20 rfl
theorem dX11_stage_38 : decode cX11_stage 38 = .ok (.invokevirtual 54, 3) := mm_dk kX11_stage_0 21 rfl
theorem dX11_stage_41 : decode cX11_stage 41 = .ok (.ireturn, 1) := mm_dk kX11_stage_0 22 rfl
theorem dX11_stage_42 : decode cX11_stage 42 = .ok (.iload_n 3, 1) := mm_dk kX11_stage_0 23 rfl
theorem dX11_stage_43 : decode cX11_stage 43 = .ok (.iconst 4, 1) := mm_dk kX11_stage_0 24 rfl
theorem dX11_stage_44 : decode cX11_stage 44 = .ok (.if_icmp .le 10, 3) := mm_dk kX11_stage_0 25 rfl
theorem dX11_stage_47 : decode cX11_stage 47 = .ok (.aload_n 0, 1) := mm_dk kX11_stage_0 26 rfl
theorem dX11_stage_48 : decode cX11_stage 48 = .ok (.bipush (-5), 2) := mm_dk kX11_stage_0 27 rfl
theorem dX11_stage_50 : decode cX11_stage 50 = .ok (.invokevirtual 54, 3) := mm_dk kX11_stage_0 28 rfl
theorem dX11_stage_53 : decode cX11_stage 53 = .ok (.ireturn, 1) := mm_dk kX11_stage_0 29 rfl
theorem dX11_stage_54 : decode cX11_stage 54 = .ok (.aload 4, 2) := mm_dk kX11_stage_0 30 rfl
theorem dX11_stage_56 : decode cX11_stage 56 = .ok (.getfield 104, 3) := mm_dk kX11_stage_0 31 rfl
theorem dX11_stage_59 : decode cX11_stage 59 = .ok (.getfield 309, 3) := mm_dk kX11_stage_0 32 rfl
theorem dX11_stage_62 : decode cX11_stage 62 = .ok (.astore 5, 2) := mm_dk kX11_stage_0 33 rfl
theorem dX11_stage_64 : decode cX11_stage 64 = .ok (.aload 5, 2) := mm_dk kX11_stage_0 34 rfl
theorem dX11_stage_66 : decode cX11_stage 66 = .ok (.iload_n 2, 1) := mm_dk kX11_stage_0 35 rfl
theorem dX11_stage_67 : decode cX11_stage 67 = .ok (.aaload, 1) := mm_dk kX11_stage_0 36 rfl
theorem dX11_stage_68 : decode cX11_stage 68 = .ok (.getfield 313, 3) := mm_dk kX11_stage_0 37 rfl
theorem dX11_stage_71 : decode cX11_stage 71 = .ok (.istore 6, 2) := mm_dk kX11_stage_0 38 rfl
theorem dX11_stage_73 : decode cX11_stage 73 = .ok (.aload 5, 2) := mm_dk kX11_stage_0 39 rfl
set_option maxRecDepth 100000 in
theorem kX11_stage_1 : ([(75, .iload_n 2, 1), (76, .new 314, 3), (79, .dup, 1), (80, .iload_n 3, 1), (81, .invokespecial 318, 3), (84, .aastore, 1), (85, .iload 6, 2), (87, .ireturn, 1)] : List (Nat × Instr × Nat)).all (fun x => decide (decode cX11_stage x.1 = .ok x.2)) = true := by decide +kernel
theorem dX11_stage_75 : decode cX11_stage 75 = .ok (.iload_n 2, 1) := mm_dk kX11_stage_1 0 rfl
theorem dX11_stage_76 : decode cX11_stage 76 = .ok (.new 314, 3) := mm_dk kX11_stage_1 1 rfl
theorem dX11_stage_79 : decode cX11_stage 79 = .ok (.dup, 1) := mm_dk kX11_stage_1 2 rfl
theorem dX11_stage_80 : decode cX11_stage 80 = .ok (.iload_n 3, 1) := mm_dk kX11_stage_1 3 rfl
theorem dX11_stage_81 : decode cX11_stage 81 = .ok (.invokespecial 318, 3) := mm_dk kX11_stage_1 4 rfl
theorem dX11_stage_84 : decode cX11_stage 84 = .ok (.aastore, 1) := mm_dk kX11_stage_1 5 rfl
theorem dX11_stage_85 : decode cX11_stage 85 = .ok (.iload 6, 2) := mm_dk kX11_stage_1 6 rfl
theorem dX11_stage_87 : decode cX11_stage 87 = .ok (.ireturn, 1) := mm_dk kX11_stage_1 7 rfl
set_option maxRecDepth 100000 in
theorem kX11_join_0 : ([(0, .aload_n 0, 1), (1, .iconst 0, 1), (2, .putfield 46, 3), (5, .aload_n 0, 1), (6, .iload_n 1, 1), (7, .invokevirtual 64, 3), (10, .astore_n 3, 1), (11, .aload_n 3, 1), (12, .ifnull 15, 3), (15, .iload_n 2, 1), (16, .iconst 1, 1), (17, .if_icmp .lt 10, 3), (20, .iload_n 2, 1), (21, .sipush 32767, 3), (24, .if_icmp .le 9, 3), (27, .aload_n 0, 1), (28, .iconst (-1), 1), (29, .invokevirtual 54, 3), (32, .ireturn, 1), (33, .aload_n 3, 1), (34, .getfield 104, 3), (37, .getfield 320, 3), (40, .istore 4, 2), (42, .aload_n 3, 1), (43, .getfield 104, 3), (46, .iload_n 2, 1), (47, .putfield 320, 3), (50, .iload 4, 2), (52, .ireturn, 1)] : List (Nat × Instr × Nat)).all (fun x => decide (decode cX11_join x.1 = .ok x.2)) = true := by decide +kernel
theorem dX11_join_0 : decode cX11_join 0 = .ok (.aload_n 0, 1) := mm_dk kX11_join_0 0 rfl
theorem dX11_join_1 : decode cX11_join 1 = .ok (.iconst 0, 1) := mm_dk kX11_join_0 1 rfl
theorem dX11_join_2 : decode cX11_join 2 = .ok (.putfield 46, 3) := mm_dk kX11_join_0 2 rfl
theorem dX11_join_5 : decode cX11_join 5 = .ok (.aload_n 0, 1) := mm_dk kX11_join_0 3 rfl
theorem dX11_join_6 : decode cX11_join 6 = .ok (.iload_n 1, 1) := mm_dk kX11_join_0 4 rfl
theorem dX11_join_7 : decode cX11_join 7 = .ok (.invokevirtual 64, 3) := mm_dk kX11_join_0 5 rfl
theorem dX11_join_10 : decode cX11_join 10 = .ok (.astore_n 3, 1) := mm_dk kX11_join_0 6 rfl
theorem dX11_join_11 : decode cX11_join 11 = .ok (.aload_n 3, 1) := mm_dk kX11_join_0 7 rfl
theorem dX11_join_12 : decode cX11_join 12 = .ok (.ifnull 15, 3) := mm_dk kX11_join_0 8 rfl
theorem dX11_join_15 : decode cX11_join 15 = .ok (.iload_n 2, 1) := mm_dk kX11_join_0 9 rfl
theorem dX11_join_16 : decode cX11_join 16 = .ok (.iconst 1, 1) := mm_dk kX11_join_0 10 rfl
theorem dX11_join_17 : decode cX11_join 17 = .ok (.if_icmp .lt 10, 3) := mm_dk kX11_join_0 11 rfl
theorem dX11_join_20 : decode cX11_join 20 = .ok (.iload_n 2, 1) := mm_dk kX11_join_0 12 rfl
theorem dX11_join_21 : decode cX11_join 21 = .ok (.sipush 32767, 3) := mm_dk kX11_join_0 13 rfl
theorem dX11_join_24 : decode cX11_join 24 = .ok (.if_icmp .le 9, 3) := mm_dk kX11_join_0 14 rfl
theorem dX11_join_27 : decode cX11_join 27 = .ok (.aload_n 0, 1) := mm_dk kX11_join_0 15 rfl
theorem dX11_join_28 : decode cX11_join 28 = .ok (.iconst (-1), 1) := mm_dk kX11_join_0 16 rfl
theorem dX11_join_29 : decode cX11_join 29 = .ok (.invokevirtual 54, 3) := mm_dk kX11_join_0 17 rfl
theorem dX11_join_32 : decode cX11_join 32 = .ok (.ireturn, 1) := mm_dk kX11_join_0 18 rfl
theorem dX11_join_33 : decode cX11_join 33 = .ok (.aload_n 3, 1) := mm_dk kX11_join_0 19 rfl
theorem dX11_join_34 : decode cX11_join 34 = .ok (.getfield 104, 3) := mm_dk kX11_join_0 20 rfl
theorem dX11_join_37 : decode cX11_join 37 = .ok (.getfield 320, 3) := mm_dk kX11_join_0 21 rfl
theorem dX11_join_40 : decode cX11_join 40 = .ok (.istore 4, 2) := mm_dk kX11_join_0 22 rfl
theorem dX11_join_42 : decode cX11_join 42 = .ok (.aload_n 3, 1) := mm_dk kX11_join_0 23 rfl
theorem dX11_join_43 : decode cX11_join 43 = .ok (.getfield 104, 3) := mm_dk kX11_join_0 24 rfl
theorem dX11_join_46 : decode cX11_join 46 = .ok (.iload_n 2, 1) := mm_dk kX11_join_0 25 rfl
theorem dX11_join_47 : decode cX11_join 47 = .ok (.putfield 320, 3) := mm_dk kX11_join_0 26 rfl
theorem dX11_join_50 : decode cX11_join 50 = .ok (.iload 4, 2) := mm_dk kX11_join_0 27 rfl
theorem dX11_join_52 : decode cX11_join 52 = .ok (.ireturn, 1) := mm_dk kX11_join_0 28 rfl
set_option maxRecDepth 100000 in
theorem kX11_drift_0 : ([(0, .aload_n 0, 1), (1, .iconst 0, 1), (2, .putfield 46, 3), (5, .aload_n 0, 1), (6, .iload_n 1, 1), (7, .invokevirtual 64, 3), (10, .astore_n 3, 1), (11, .aload_n 3, 1), (12, .ifnull 13, 3), (15, .iload_n 2, 1), (16, .iconst (-1), 1), (17, .if_icmp .lt 8, 3), (20, .iload_n 2, 1), (21, .iconst 1, 1), (22, .if_icmp .le 9, 3), (25, .aload_n 0, 1), (26, .iconst (-1), 1), (27, .invokevirtual 54, 3), (30, .ireturn, 1), (31, .aload_n 3, 1), (32, .getfield 104, 3), (35, .getfield 323, 3), (38, .istore 4, 2), (40, .aload_n 3, 1), (41, .getfield 104, 3), (44, .iload_n 2, 1), (45, .putfield 323, 3), (48, .iload 4, 2), (50, .ireturn, 1)] : List (Nat × Instr × Nat)).all (fun x => decide (decode cX11_drift x.1 = .ok x.2)) = true := by decide +kernel
theorem dX11_drift_0 : decode cX11_drift 0 = .ok (.aload_n 0, 1) := mm_dk kX11_drift_0 0 rfl
theorem dX11_drift_1 : decode cX11_drift 1 = .ok (.iconst 0, 1) := mm_dk kX11_drift_0 1 rfl
theorem dX11_drift_2 : decode cX11_drift 2 = .ok (.putfield 46, 3) := mm_dk kX11_drift_0 2 rfl
theorem dX11_drift_5 : decode cX11_drift 5 = .ok (.aload_n 0, 1) := mm_dk kX11_drift_0 3 rfl
theorem dX11_drift_6 : decode cX11_drift 6 = .ok (.iload_n 1, 1) := mm_dk kX11_drift_0 4 rfl
theorem dX11_drift_7 : decode cX11_drift 7 = .ok (.invokevirtual 64, 3) := mm_dk kX11_drift_0 5 rfl
theorem dX11_drift_10 : decode cX11_drift 10 = .ok (.astore_n 3, 1) := mm_dk kX11_drift_0 6 rfl
theorem dX11_drift_11 : decode cX11_drift 11 = .ok (.aload_n 3, 1) := mm_dk kX11_drift_0 7 rfl
theorem dX11_drift_12 : decode cX11_drift 12 = .ok (.ifnull 13, 3) := mm_dk kX11_drift_0 8 rfl
theorem dX11_drift_15 : decode cX11_drift 15 = .ok (.iload_n 2, 1) := mm_dk kX11_drift_0 9 rfl
theorem dX11_drift_16 : decode cX11_drift 16 = .ok (.iconst (-1), 1) := mm_dk kX11_drift_0 10 rfl
theorem dX11_drift_17 : decode cX11_drift 17 = .ok (.if_icmp .lt 8, 3) := mm_dk kX11_drift_0 11 rfl
theorem dX11_drift_20 : decode cX11_drift 20 = .ok (.iload_n 2, 1) := mm_dk kX11_drift_0 12 rfl
theorem dX11_drift_21 : decode cX11_drift 21 = .ok (.iconst 1, 1) := mm_dk kX11_drift_0 13 rfl
theorem dX11_drift_22 : decode cX11_drift 22 = .ok (.if_icmp .le 9, 3) := mm_dk kX11_drift_0 14 rfl
theorem dX11_drift_25 : decode cX11_drift 25 = .ok (.aload_n 0, 1) := mm_dk kX11_drift_0 15 rfl
theorem dX11_drift_26 : decode cX11_drift 26 = .ok (.iconst (-1), 1) := mm_dk kX11_drift_0 16 rfl
theorem dX11_drift_27 : decode cX11_drift 27 = .ok (.invokevirtual 54, 3) := mm_dk kX11_drift_0 17 rfl
theorem dX11_drift_30 : decode cX11_drift 30 = .ok (.ireturn, 1) := mm_dk kX11_drift_0 18 rfl
theorem dX11_drift_31 : decode cX11_drift 31 = .ok (.aload_n 3, 1) := mm_dk kX11_drift_0 19 rfl
theorem dX11_drift_32 : decode cX11_drift 32 = .ok (.getfield 104, 3) := mm_dk kX11_drift_0 20 rfl
theorem dX11_drift_35 : decode cX11_drift 35 = .ok (.getfield 323, 3) := mm_dk kX11_drift_0 21 rfl
theorem dX11_drift_38 : decode cX11_drift 38 = .ok (.istore 4, 2) := mm_dk kX11_drift_0 22 rfl
theorem dX11_drift_40 : decode cX11_drift 40 = .ok (.aload_n 3, 1) := mm_dk kX11_drift_0 23 rfl
theorem dX11_drift_41 : decode cX11_drift 41 = .ok (.getfield 104, 3) := mm_dk kX11_drift_0 24 rfl
theorem dX11_drift_44 : decode cX11_drift 44 = .ok (.iload_n 2, 1) := mm_dk kX11_drift_0 25 rfl
theorem dX11_drift_45 : decode cX11_drift 45 = .ok (.putfield 323, 3) := mm_dk kX11_drift_0 26 rfl
theorem dX11_drift_48 : decode cX11_drift 48 = .ok (.iload 4, 2) := mm_dk kX11_drift_0 27 rfl
theorem dX11_drift_50 : decode cX11_drift 50 = .ok (.ireturn, 1) := mm_dk kX11_drift_0 28 rfl
set_option maxRecDepth 100000 in
theorem kX11_mix_0 : ([(0, .aload_n 0, 1), (1, .iconst 0, 1), (2, .putfield 46, 3), (5, .aload_n 0, 1), (6, .iload_n 1, 1), (7, .invokevirtual 64, 3), (10, .astore 5, 2), (12, .aload_n 0, 1), (13, .iload_n 2, 1), (14, .invokevirtual 64, 3), (17, .astore 6, 2), (19, .aload 5, 2), (21, .ifnull 23, 3), (24, .aload 6, 2), (26, .ifnull 18, 3), (29, .iload_n 3, 1), (30, .invokestatic 326, 3), (33, .ifCond .eq 11, 3), (36, .iload 4, 2), (38, .invokestatic 326, 3), (41, .ifCond .ne 9, 3), (44, .aload_n 0, 1), (45, .iconst (-1), 1), (46, .invokevirtual 54, 3), (49, .ireturn, 1), (50, .aload 5, 2), (52, .getfield 104, 3), (55, .getfield 108, 3), (58, .ifCond .eq 14, 3), (61, .aload 6, 2), (63, .getfield 104, 3), (66, .getfield 108, 3), (69, .ifCond .ne 10, 3), (72, .aload_n 0, 1), (73, .bipush (-2), 2), (75, .invokevirtual 54, 3), (78, .ireturn, 1), (79, .aload_n 0, 1), (80, .aload 5, 2), (82, .getfield 104, 3)] : List (Nat × Instr × Nat)).all (fun x => decide (decode cX11_mix x.1 = .ok x.2)) = true := by decide +kernel
theorem dX11_mix_0 : decode cX11_mix 0 = .ok (.aload_n 0, 1) := mm_dk kX11_mix_0 0 rfl
theorem dX11_mix_1 : decode cX11_mix 1 = .ok (.iconst 0, 1) := mm_dk kX11_mix_0 1 rfl
theorem dX11_mix_2 : decode cX11_mix 2 = .ok (.putfield 46, 3) := mm_dk kX11_mix_0 2 rfl
theorem dX11_mix_5 : decode cX11_mix 5 = .ok (.aload_n 0, 1) := mm_dk kX11_mix_0 3 rfl
theorem dX11_mix_6 : decode cX11_mix 6 = .ok (.iload_n 1, 1) := mm_dk kX11_mix_0 4 rfl
theorem dX11_mix_7 : decode cX11_mix 7 = .ok (.invokevirtual 64, 3) := mm_dk kX11_mix_0 5 rfl
theorem dX11_mix_10 : decode cX11_mix 10 = .ok (.astore 5, 2) := mm_dk kX11_mix_0 6 rfl
theorem dX11_mix_12 : decode cX11_mix 12 = .ok (.aload_n 0, 1) := mm_dk kX11_mix_0 7 rfl
theorem dX11_mix_13 : decode cX11_mix 13 = .ok (.iload_n 2, 1) := mm_dk kX11_mix_0 8 rfl
theorem dX11_mix_14 : decode cX11_mix 14 = .ok (.invokevirtual 64, 3) := mm_dk kX11_mix_0 9 rfl
theorem dX11_mix_17 : decode cX11_mix 17 = .ok (.astore 6, 2) := mm_dk kX11_mix_0 10 rfl
theorem dX11_mix_19 : decode cX11_mix 19 = .ok (.aload 5, 2) := mm_dk kX11_mix_0 11 rfl
theorem dX11_mix_21 : decode cX11_mix 21 = .ok (.ifnull 23, 3) := mm_dk kX11_mix_0 12 rfl
theorem dX11_mix_24 : decode cX11_mix 24 = .ok (.aload 6, 2) := mm_dk kX11_mix_0 13 rfl
theorem dX11_mix_26 : decode cX11_mix 26 = .ok (.ifnull 18, 3) := mm_dk kX11_mix_0 14 rfl
theorem dX11_mix_29 : decode cX11_mix 29 = .ok (.iload_n 3, 1) := mm_dk kX11_mix_0 15 rfl
theorem dX11_mix_30 : decode cX11_mix 30 = .ok (.invokestatic 326, 3) := mm_dk kX11_mix_0 16 rfl
theorem dX11_mix_33 : decode cX11_mix 33 = .ok (.ifCond .eq 11, 3) := mm_dk kX11_mix_0 17 rfl
theorem dX11_mix_36 : decode cX11_mix 36 = .ok (.iload 4, 2) := mm_dk kX11_mix_0 18 rfl
theorem dX11_mix_38 : decode cX11_mix 38 = .ok (.invokestatic 326, 3) := mm_dk kX11_mix_0 19 rfl
theorem dX11_mix_41 : decode cX11_mix 41 = .ok (.ifCond .ne 9, 3) := mm_dk kX11_mix_0 20 rfl
theorem dX11_mix_44 : decode cX11_mix 44 = .ok (.aload_n 0, 1) := mm_dk kX11_mix_0 21 rfl
theorem dX11_mix_45 : decode cX11_mix 45 = .ok (.iconst (-1), 1) := mm_dk kX11_mix_0 22 rfl
theorem dX11_mix_46 : decode cX11_mix 46 = .ok (.invokevirtual 54, 3) := mm_dk kX11_mix_0 23 rfl
theorem dX11_mix_49 : decode cX11_mix 49 = .ok (.ireturn, 1) := mm_dk kX11_mix_0 24 rfl
theorem dX11_mix_50 : decode cX11_mix 50 = .ok (.aload 5, 2) := mm_dk kX11_mix_0 25 rfl
theorem dX11_mix_52 : decode cX11_mix 52 = .ok (.getfield 104, 3) := mm_dk kX11_mix_0 26 rfl
theorem dX11_mix_55 : decode cX11_mix 55 = .ok (.getfield 108, 3) := mm_dk kX11_mix_0 27 rfl
theorem dX11_mix_58 : decode cX11_mix 58 = .ok (.ifCond .eq 14, 3) := mm_dk kX11_mix_0 28 rfl
theorem dX11_mix_61 : decode cX11_mix 61 = .ok (.aload 6, 2) := mm_dk kX11_mix_0 29 rfl
theorem dX11_mix_63 : decode cX11_mix 63 = .ok (.getfield 104, 3) := mm_dk kX11_mix_0 30 rfl
theorem dX11_mix_66 : decode cX11_mix 66 = .ok (.getfield 108, 3) := mm_dk kX11_mix_0 31 rfl
theorem dX11_mix_69 : decode cX11_mix 69 = .ok (.ifCond .ne 10, 3) := mm_dk kX11_mix_0 32 rfl
theorem dX11_mix_72 : decode cX11_mix 72 = .ok (.aload_n 0, 1) := mm_dk kX11_mix_0 33 rfl
theorem dX11_mix_73 : decode cX11_mix 73 = .ok (.bipush (-2), 2) := mm_dk kX11_mix_0 34 rfl
theorem dX11_mix_75 : decode cX11_mix 75 = .ok (.invokevirtual 54, 3) := mm_dk kX11_mix_0 35 rfl
theorem dX11_mix_78 : decode cX11_mix 78 = .ok (.ireturn, 1) := mm_dk kX11_mix_0 36 rfl
theorem dX11_mix_79 : decode cX11_mix 79 = .ok (.aload_n 0, 1) := mm_dk kX11_mix_0 37 rfl
theorem dX11_mix_80 : decode cX11_mix 80 = .ok (.aload 5, 2) := mm_dk kX11_mix_0 38 rfl
theorem dX11_mix_82 : decode cX11_mix 82 = .ok (.getfield 104, 3) := mm_dk kX11_mix_0 39 rfl
set_option maxRecDepth 100000 in
theorem kX11_mix_1 : ([(85, .getfield 277, 3), (88, .aload 6, 2), (90, .getfield 104, 3), (93, .getfield 277, 3), (96, .invokestatic 329, 3), (99, .putfield 335, 3), (102, .iconst 0, 1), (103, .istore 7, 2), (105, .iload 7, 2), (107, .aload_n 0, 1), (108, .getfield 335, 3), (111, .if_icmp .ge 54, 3), (114, .aload_n 0, 1), (115, .getfield 42, 3), (118, .iload 7, 2), (120, .aload_n 0, 1), (121, .getfield 10, 3), (124, .iload_n 3, 1), (125, .aload 5, 2), (127, .getfield 104, 3), (130, .getfield 283, 3), (133, .iload 7, 2), (135, .iaload, 1), (136, .imul, 1), (137, .iload 4, 2), (139, .aload 6, 2), (141, .getfield 104, 3), (144, .getfield 283, 3), (147, .iload 7, 2), (149, .iaload, 1), (150, .imul, 1), (151, .iadd, 1), (152, .iconst 5, 1), (153, .ishr, 1), (154, .i2l, 1), (155, .invokevirtual 338, 3), (158, .iastore, 1), (159, .iinc 7 1, 3), (162, .goto (-57), 3), (165, .aload_n 0, 1)] : List (Nat × Instr × Nat)).all (fun x => decide (decode cX11_mix x.1 = .ok x.2)) = true := by decide +kernel
theorem dX11_mix_85 : decode cX11_mix 85 = .ok (.getfield 277, 3) := mm_dk kX11_mix_1 0 rfl
theorem dX11_mix_88 : decode cX11_mix 88 = .ok (.aload 6, 2) := mm_dk kX11_mix_1 1 rfl
theorem dX11_mix_90 : decode cX11_mix 90 = .ok (.getfield 104, 3) := mm_dk kX11_mix_1 2 rfl
theorem dX11_mix_93 : decode cX11_mix 93 = .ok (.getfield 277, 3) := mm_dk kX11_mix_1 3 rfl
theorem dX11_mix_96 : decode cX11_mix 96 = .ok (.invokestatic 329, 3) := mm_dk kX11_mix_1 4 rfl
theorem dX11_mix_99 : decode cX11_mix 99 = .ok (.putfield 335, 3) := mm_dk kX11_mix_1 5 rfl
theorem dX11_mix_102 : decode cX11_mix 102 = .ok (.iconst 0, 1) := mm_dk kX11_mix_1 6 rfl
theorem dX11_mix_103 : decode cX11_mix 103 = .ok (.istore 7, 2) := mm_dk kX11_mix_1 7 rfl
theorem dX11_mix_105 : decode cX11_mix 105 = .ok (.iload 7, 2) := mm_dk kX11_mix_1 8 rfl
theorem dX11_mix_107 : decode cX11_mix 107 = .ok (.aload_n 0, 1) := mm_dk kX11_mix_1 9 rfl
theorem dX11_mix_108 : decode cX11_mix 108 = .ok (.getfield 335, 3) := mm_dk kX11_mix_1 10 rfl
theorem dX11_mix_111 : decode cX11_mix 111 = .ok (.if_icmp .ge 54, 3) := mm_dk kX11_mix_1 11 rfl
theorem dX11_mix_114 : decode cX11_mix 114 = .ok (.aload_n 0, 1) := mm_dk kX11_mix_1 12 rfl
theorem dX11_mix_115 : decode cX11_mix 115 = .ok (.getfield 42, 3) := mm_dk kX11_mix_1 13 rfl
theorem dX11_mix_118 : decode cX11_mix 118 = .ok (.iload 7, 2) := mm_dk kX11_mix_1 14 rfl
theorem dX11_mix_120 : decode cX11_mix 120 = .ok (.aload_n 0, 1) := mm_dk kX11_mix_1 15 rfl
theorem dX11_mix_121 : decode cX11_mix 121 = .ok (.getfield 10, 3) := mm_dk kX11_mix_1 16 rfl
theorem dX11_mix_124 : decode cX11_mix 124 = .ok (.iload_n 3, 1) := mm_dk kX11_mix_1 17 rfl
theorem dX11_mix_125 : decode cX11_mix 125 = .ok (.aload 5, 2) := mm_dk kX11_mix_1 18 rfl
theorem dX11_mix_127 : decode cX11_mix 127 = .ok (.getfield 104, 3) := mm_dk kX11_mix_1 19 rfl
theorem dX11_mix_130 : decode cX11_mix 130 = .ok (.getfield 283, 3) := mm_dk kX11_mix_1 20 rfl
theorem dX11_mix_133 : decode cX11_mix 133 = .ok (.iload 7, 2) := mm_dk kX11_mix_1 21 rfl
theorem dX11_mix_135 : decode cX11_mix 135 = .ok (.iaload, 1) := mm_dk kX11_mix_1 22 rfl
theorem dX11_mix_136 : decode cX11_mix 136 = .ok (.imul, 1) := mm_dk kX11_mix_1 23 rfl
theorem dX11_mix_137 : decode cX11_mix 137 = .ok (.iload 4, 2) := mm_dk kX11_mix_1 24 rfl
theorem dX11_mix_139 : decode cX11_mix 139 = .ok (.aload 6, 2) := mm_dk kX11_mix_1 25 rfl
theorem dX11_mix_141 : decode cX11_mix 141 = .ok (.getfield 104, 3) := mm_dk kX11_mix_1 26 rfl
theorem dX11_mix_144 : decode cX11_mix 144 = .ok (.getfield 283, 3) := mm_dk kX11_mix_1 27 rfl
theorem dX11_mix_147 : decode cX11_mix 147 = .ok (.iload 7, 2) := mm_dk kX11_mix_1 28 rfl
theorem dX11_mix_149 : decode cX11_mix 149 = .ok (.iaload, 1) := mm_dk kX11_mix_1 29 rfl
theorem dX11_mix_150 : decode cX11_mix 150 = .ok (.imul, 1) := mm_dk kX11_mix_1 30 rfl
theorem dX11_mix_151 : decode cX11_mix 151 = .ok (.iadd, 1) := mm_dk kX11_mix_1 31 rfl
theorem dX11_mix_152 : decode cX11_mix 152 = .ok (.iconst 5, 1) := mm_dk kX11_mix_1 32 rfl
theorem dX11_mix_153 : decode cX11_mix 153 = .ok (.ishr, 1) := mm_dk kX11_mix_1 33 rfl
theorem dX11_mix_154 : decode cX11_mix 154 = .ok (.i2l, 1) := mm_dk kX11_mix_1 34 rfl
theorem dX11_mix_155 : decode cX11_mix 155 = .ok (.invokevirtual 338, 3) := mm_dk kX11_mix_1 35 rfl
theorem dX11_mix_158 : decode cX11_mix 158 = .ok (.iastore, 1) := mm_dk kX11_mix_1 36 rfl
theorem dX11_mix_159 : decode cX11_mix 159 = .ok (.iinc 7 1, 3) := mm_dk kX11_mix_1 37 rfl
theorem dX11_mix_162 : decode cX11_mix 162 = .ok (.goto (-57), 3) := mm_dk kX11_mix_1 38 rfl
theorem dX11_mix_165 : decode cX11_mix 165 = .ok (.aload_n 0, 1) := mm_dk kX11_mix_1 39 rfl
set_option maxRecDepth 100000 in
theorem kX11_mix_2 : ([(166, .getfield 335, 3), (169, .ireturn, 1)] : List (Nat × Instr × Nat)).all (fun x => decide (decode cX11_mix x.1 = .ok x.2)) = true := by decide +kernel
theorem dX11_mix_166 : decode cX11_mix 166 = .ok (.getfield 335, 3) := mm_dk kX11_mix_2 0 rfl
theorem dX11_mix_169 : decode cX11_mix 169 = .ok (.ireturn, 1) := mm_dk kX11_mix_2 1 rfl
set_option maxRecDepth 100000 in
theorem kX11_resample_0 : ([(0, .aload_n 0, 1), (1, .iconst 0, 1), (2, .putfield 46, 3), (5, .aload_n 0, 1), (6, .iload_n 1, 1), (7, .invokevirtual 64, 3), (10, .astore 4, 2), (12, .aload 4, 2), (14, .ifnull 24, 3), (17, .iload_n 2, 1), (18, .iconst 1, 1), (19, .if_icmp .lt 19, 3), (22, .iload_n 2, 1), (23, .iconst 4, 1), (24, .if_icmp .gt 14, 3), (27, .iload_n 3, 1), (28, .iconst 1, 1), (29, .if_icmp .lt 9, 3), (32, .iload_n 3, 1), (33, .bipush 8, 2), (35, .if_icmp .le 9, 3), (38, .aload_n 0, 1), (39, .iconst (-1), 1), (40, .invokevirtual 54, 3), (43, .ireturn, 1), (44, .aload 4, 2), (46, .getfield 104, 3), (49, .getfield 108, 3), (52, .ifCond .ne 10, 3), (55, .aload_n 0, 1), (56, .bipush (-2), 2), (58, .invokevirtual 54, 3), (61, .ireturn, 1), (62, .aload 4, 2), (64, .getfield 104, 3), (67, .getfield 283, 3), (70, .astore 5, 2), (72, .aload 4, 2), (74, .getfield 104, 3), (77, .getfield 277, 3)] : List (Nat × Instr × Nat)).all (fun x => decide (decode cX11_resample x.1 = .ok x.2)) = true := by decide +kernel
theorem dX11_resample_0 : decode cX11_resample 0 = .ok (.aload_n 0, 1) := mm_dk kX11_resample_0 0 rfl
theorem dX11_resample_1 : decode cX11_resample 1 = .ok (.iconst 0, 1) := mm_dk kX11_resample_0 1 rfl
theorem dX11_resample_2 : decode cX11_resample 2 = .ok (.putfield 46, 3) := mm_dk kX11_resample_0 2 rfl
theorem dX11_resample_5 : decode cX11_resample 5 = .ok (.aload_n 0, 1) := mm_dk kX11_resample_0 3 rfl
theorem dX11_resample_6 : decode cX11_resample 6 = .ok (.iload_n 1, 1) := mm_dk kX11_resample_0 4 rfl
theorem dX11_resample_7 : decode cX11_resample 7 = .ok (.invokevirtual 64, 3) := mm_dk kX11_resample_0 5 rfl
theorem dX11_resample_10 : decode cX11_resample 10 = .ok (.astore 4, 2) := mm_dk kX11_resample_0 6 rfl
theorem dX11_resample_12 : decode cX11_resample 12 = .ok (.aload 4, 2) := mm_dk kX11_resample_0 7 rfl
theorem dX11_resample_14 : decode cX11_resample 14 = .ok (.ifnull 24, 3) := mm_dk kX11_resample_0 8 rfl
theorem dX11_resample_17 : decode cX11_resample 17 = .ok (.iload_n 2, 1) := mm_dk kX11_resample_0 9 rfl
theorem dX11_resample_18 : decode cX11_resample 18 = .ok (.iconst 1, 1) := mm_dk kX11_resample_0 10 rfl
theorem dX11_resample_19 : decode cX11_resample 19 = .ok (.if_icmp .lt 19, 3) := mm_dk kX11_resample_0 11 rfl
theorem dX11_resample_22 : decode cX11_resample 22 = .ok (.iload_n 2, 1) := mm_dk kX11_resample_0 12 rfl
theorem dX11_resample_23 : decode cX11_resample 23 = .ok (.iconst 4, 1) := mm_dk kX11_resample_0 13 rfl
theorem dX11_resample_24 : decode cX11_resample 24 = .ok (.if_icmp .gt 14, 3) := mm_dk kX11_resample_0 14 rfl
theorem dX11_resample_27 : decode cX11_resample 27 = .ok (.iload_n 3, 1) := mm_dk kX11_resample_0 15 rfl
theorem dX11_resample_28 : decode cX11_resample 28 = .ok (.iconst 1, 1) := mm_dk kX11_resample_0 16 rfl
theorem dX11_resample_29 : decode cX11_resample 29 = .ok (.if_icmp .lt 9, 3) := mm_dk kX11_resample_0 17 rfl
theorem dX11_resample_32 : decode cX11_resample 32 = .ok (.iload_n 3, 1) := mm_dk kX11_resample_0 18 rfl
theorem dX11_resample_33 : decode cX11_resample 33 = .ok (.bipush 8, 2) := mm_dk kX11_resample_0 19 rfl
theorem dX11_resample_35 : decode cX11_resample 35 = .ok (.if_icmp .le 9, 3) := mm_dk kX11_resample_0 20 rfl
theorem dX11_resample_38 : decode cX11_resample 38 = .ok (.aload_n 0, 1) := mm_dk kX11_resample_0 21 rfl
theorem dX11_resample_39 : decode cX11_resample 39 = .ok (.iconst (-1), 1) := mm_dk kX11_resample_0 22 rfl
theorem dX11_resample_40 : decode cX11_resample 40 = .ok (.invokevirtual 54, 3) := mm_dk kX11_resample_0 23 rfl
theorem dX11_resample_43 : decode cX11_resample 43 = .ok (.ireturn, 1) := mm_dk kX11_resample_0 24 rfl
theorem dX11_resample_44 : decode cX11_resample 44 = .ok (.aload 4, 2) := mm_dk kX11_resample_0 25 rfl
theorem dX11_resample_46 : decode cX11_resample 46 = .ok (.getfield 104, 3) := mm_dk kX11_resample_0 26 rfl
theorem dX11_resample_49 : decode cX11_resample 49 = .ok (.getfield 108, 3) := mm_dk kX11_resample_0 27 rfl
theorem dX11_resample_52 : decode cX11_resample 52 = .ok (.ifCond .ne 10, 3) := mm_dk kX11_resample_0 28 rfl
theorem dX11_resample_55 : decode cX11_resample 55 = .ok (.aload_n 0, 1) := mm_dk kX11_resample_0 29 rfl
theorem dX11_resample_56 : decode cX11_resample 56 = .ok (.bipush (-2), 2) := mm_dk kX11_resample_0 30 rfl
theorem dX11_resample_58 : decode cX11_resample 58 = .ok (.invokevirtual 54, 3) := mm_dk kX11_resample_0 31 rfl
theorem dX11_resample_61 : decode cX11_resample 61 = .ok (.ireturn, 1) := mm_dk kX11_resample_0 32 rfl
theorem dX11_resample_62 : decode cX11_resample 62 = .ok (.aload 4, 2) := mm_dk kX11_resample_0 33 rfl
theorem dX11_resample_64 : decode cX11_resample 64 = .ok (.getfield 104, 3) := mm_dk kX11_resample_0 34 rfl
theorem dX11_resample_67 : decode cX11_resample 67 = .ok (.getfield 283, 3) := mm_dk kX11_resample_0 35 rfl
theorem dX11_resample_70 : decode cX11_resample 70 = .ok (.astore 5, 2) := mm_dk kX11_resample_0 36 rfl
theorem dX11_resample_72 : decode cX11_resample 72 = .ok (.aload 4, 2) := mm_dk kX11_resample_0 37 rfl
theorem dX11_resample_74 : decode cX11_resample 74 = .ok (.getfield 104, 3) := mm_dk kX11_resample_0 38 rfl
theorem dX11_resample_77 : decode cX11_resample 77 = .ok (.getfield 277, 3) := mm_dk kX11_resample_0 39 rfl
set_option maxRecDepth 100000 in
theorem kX11_resample_1 : ([(80, .iconst 1, 1), (81, .isub, 1), (82, .istore 6, 2), (84, .aload_n 0, 1), (85, .aload 4, 2), (87, .getfield 104, 3), (90, .getfield 277, 3), (93, .iload_n 2, 1), (94, .imul, 1), (95, .iload_n 3, 1), (96, .idiv, 1), (97, .putfield 335, 3), (100, .iconst 0, 1), (101, .istore 7, 2), (103, .iload 7, 2), (105, .aload_n 0, 1), (106, .getfield 335, 3), (109, .if_icmp .ge 65, 3), (112, .iload 7, 2), (114, .iload_n 3, 1), (115, .imul, 1), (116, .iload_n 2, 1), (117, .idiv, 1), (118, .istore 8, 2), (120, .iload 7, 2), (122, .iload_n 3, 1), (123, .imul, 1), (124, .iload_n 2, 1), (125, .irem, 1), (126, .istore 9, 2), (128, .aload_n 0, 1), (129, .getfield 42, 3), (132, .iload 7, 2), (134, .aload 5, 2), (136, .iload 8, 2), (138, .iload 6, 2), (140, .invokestatic 329, 3), (143, .iaload, 1), (144, .iload_n 2, 1), (145, .iload 9, 2)] : List (Nat × Instr × Nat)).all (fun x => decide (decode cX11_resample x.1 = .ok x.2)) = true := by decide +kernel
theorem dX11_resample_80 : decode cX11_resample 80 = .ok (.iconst 1, 1) := mm_dk kX11_resample_1 0 rfl
theorem dX11_resample_81 : decode cX11_resample 81 = .ok (.isub, 1) := mm_dk kX11_resample_1 1 rfl
theorem dX11_resample_82 : decode cX11_resample 82 = .ok (.istore 6, 2) := mm_dk kX11_resample_1 2 rfl
theorem dX11_resample_84 : decode cX11_resample 84 = .ok (.aload_n 0, 1) := mm_dk kX11_resample_1 3 rfl
theorem dX11_resample_85 : decode cX11_resample 85 = .ok (.aload 4, 2) := mm_dk kX11_resample_1 4 rfl
theorem dX11_resample_87 : decode cX11_resample 87 = .ok (.getfield 104, 3) := mm_dk kX11_resample_1 5 rfl
theorem dX11_resample_90 : decode cX11_resample 90 = .ok (.getfield 277, 3) := mm_dk kX11_resample_1 6 rfl
theorem dX11_resample_93 : decode cX11_resample 93 = .ok (.iload_n 2, 1) := mm_dk kX11_resample_1 7 rfl
theorem dX11_resample_94 : decode cX11_resample 94 = .ok (.imul, 1) := mm_dk kX11_resample_1 8 rfl
theorem dX11_resample_95 : decode cX11_resample 95 = .ok (.iload_n 3, 1) := mm_dk kX11_resample_1 9 rfl
theorem dX11_resample_96 : decode cX11_resample 96 = .ok (.idiv, 1) := mm_dk kX11_resample_1 10 rfl
theorem dX11_resample_97 : decode cX11_resample 97 = .ok (.putfield 335, 3) := mm_dk kX11_resample_1 11 rfl
theorem dX11_resample_100 : decode cX11_resample 100 = .ok (.iconst 0, 1) := mm_dk kX11_resample_1 12 rfl
theorem dX11_resample_101 : decode cX11_resample 101 = .ok (.istore 7, 2) := mm_dk kX11_resample_1 13 rfl
theorem dX11_resample_103 : decode cX11_resample 103 = .ok (.iload 7, 2) := mm_dk kX11_resample_1 14 rfl
theorem dX11_resample_105 : decode cX11_resample 105 = .ok (.aload_n 0, 1) := mm_dk kX11_resample_1 15 rfl
theorem dX11_resample_106 : decode cX11_resample 106 = .ok (.getfield 335, 3) := mm_dk kX11_resample_1 16 rfl
theorem dX11_resample_109 : decode cX11_resample 109 = .ok (.if_icmp .ge 65, 3) := mm_dk kX11_resample_1 17 rfl
theorem dX11_resample_112 : decode cX11_resample 112 = .ok (.iload 7, 2) := mm_dk kX11_resample_1 18 rfl
theorem dX11_resample_114 : decode cX11_resample 114 = .ok (.iload_n 3, 1) := mm_dk kX11_resample_1 19 rfl
theorem dX11_resample_115 : decode cX11_resample 115 = .ok (.imul, 1) := mm_dk kX11_resample_1 20 rfl
theorem dX11_resample_116 : decode cX11_resample 116 = .ok (.iload_n 2, 1) := mm_dk kX11_resample_1 21 rfl
theorem dX11_resample_117 : decode cX11_resample 117 = .ok (.idiv, 1) := mm_dk kX11_resample_1 22 rfl
theorem dX11_resample_118 : decode cX11_resample 118 = .ok (.istore 8, 2) := mm_dk kX11_resample_1 23 rfl
theorem dX11_resample_120 : decode cX11_resample 120 = .ok (.iload 7, 2) := mm_dk kX11_resample_1 24 rfl
theorem dX11_resample_122 : decode cX11_resample 122 = .ok (.iload_n 3, 1) := mm_dk kX11_resample_1 25 rfl
theorem dX11_resample_123 : decode cX11_resample 123 = .ok (.imul, 1) := mm_dk kX11_resample_1 26 rfl
theorem dX11_resample_124 : decode cX11_resample 124 = .ok (.iload_n 2, 1) := mm_dk kX11_resample_1 27 rfl
theorem dX11_resample_125 : decode cX11_resample 125 = .ok (.irem, 1) := mm_dk kX11_resample_1 28 rfl
theorem dX11_resample_126 : decode cX11_resample 126 = .ok (.istore 9, 2) := mm_dk kX11_resample_1 29 rfl
theorem dX11_resample_128 : decode cX11_resample 128 = .ok (.aload_n 0, 1) := mm_dk kX11_resample_1 30 rfl
theorem dX11_resample_129 : decode cX11_resample 129 = .ok (.getfield 42, 3) := mm_dk kX11_resample_1 31 rfl
theorem dX11_resample_132 : decode cX11_resample 132 = .ok (.iload 7, 2) := mm_dk kX11_resample_1 32 rfl
theorem dX11_resample_134 : decode cX11_resample 134 = .ok (.aload 5, 2) := mm_dk kX11_resample_1 33 rfl
theorem dX11_resample_136 : decode cX11_resample 136 = .ok (.iload 8, 2) := mm_dk kX11_resample_1 34 rfl
theorem dX11_resample_138 : decode cX11_resample 138 = .ok (.iload 6, 2) := mm_dk kX11_resample_1 35 rfl
theorem dX11_resample_140 : decode cX11_resample 140 = .ok (.invokestatic 329, 3) := mm_dk kX11_resample_1 36 rfl
theorem dX11_resample_143 : decode cX11_resample 143 = .ok (.iaload, 1) := mm_dk kX11_resample_1 37 rfl
theorem dX11_resample_144 : decode cX11_resample 144 = .ok (.iload_n 2, 1) := mm_dk kX11_resample_1 38 rfl
theorem dX11_resample_145 : decode cX11_resample 145 = .ok (.iload 9, 2) := mm_dk kX11_resample_1 39 rfl
set_option maxRecDepth 100000 in
theorem kX11_resample_2 : ([(147, .isub, 1), (148, .imul, 1), (149, .aload 5, 2), (151, .iload 8, 2), (153, .iconst 1, 1), (154, .iadd, 1), (155, .iload 6, 2), (157, .invokestatic 329, 3), (160, .iaload, 1), (161, .iload 9, 2), (163, .imul, 1), (164, .iadd, 1), (165, .iload_n 2, 1), (166, .idiv, 1), (167, .iastore, 1), (168, .iinc 7 1, 3), (171, .goto (-68), 3), (174, .aload_n 0, 1), (175, .getfield 335, 3), (178, .ireturn, 1)] : List (Nat × Instr × Nat)).all (fun x => decide (decode cX11_resample x.1 = .ok x.2)) = true := by decide +kernel
theorem dX11_resample_147 : decode cX11_resample 147 = .ok (.isub, 1) := mm_dk kX11_resample_2 0 rfl
theorem dX11_resample_148 : decode cX11_resample 148 = .ok (.imul, 1) := mm_dk kX11_resample_2 1 rfl
theorem dX11_resample_149 : decode cX11_resample 149 = .ok (.aload 5, 2) := mm_dk kX11_resample_2 2 rfl
theorem dX11_resample_151 : decode cX11_resample 151 = .ok (.iload 8, 2) := mm_dk kX11_resample_2 3 rfl
theorem dX11_resample_153 : decode cX11_resample 153 = .ok (.iconst 1, 1) := mm_dk kX11_resample_2 4 rfl
theorem dX11_resample_154 : decode cX11_resample 154 = .ok (.iadd, 1) := mm_dk kX11_resample_2 5 rfl
theorem dX11_resample_155 : decode cX11_resample 155 = .ok (.iload 6, 2) := mm_dk kX11_resample_2 6 rfl
theorem dX11_resample_157 : decode cX11_resample 157 = .ok (.invokestatic 329, 3) := mm_dk kX11_resample_2 7 rfl
theorem dX11_resample_160 : decode cX11_resample 160 = .ok (.iaload, 1) := mm_dk kX11_resample_2 8 rfl
theorem dX11_resample_161 : decode cX11_resample 161 = .ok (.iload 9, 2) := mm_dk kX11_resample_2 9 rfl
theorem dX11_resample_163 : decode cX11_resample 163 = .ok (.imul, 1) := mm_dk kX11_resample_2 10 rfl
theorem dX11_resample_164 : decode cX11_resample 164 = .ok (.iadd, 1) := mm_dk kX11_resample_2 11 rfl
theorem dX11_resample_165 : decode cX11_resample 165 = .ok (.iload_n 2, 1) := mm_dk kX11_resample_2 12 rfl
theorem dX11_resample_166 : decode cX11_resample 166 = .ok (.idiv, 1) := mm_dk kX11_resample_2 13 rfl
theorem dX11_resample_167 : decode cX11_resample 167 = .ok (.iastore, 1) := mm_dk kX11_resample_2 14 rfl
theorem dX11_resample_168 : decode cX11_resample 168 = .ok (.iinc 7 1, 3) := mm_dk kX11_resample_2 15 rfl
theorem dX11_resample_171 : decode cX11_resample 171 = .ok (.goto (-68), 3) := mm_dk kX11_resample_2 16 rfl
theorem dX11_resample_174 : decode cX11_resample 174 = .ok (.aload_n 0, 1) := mm_dk kX11_resample_2 17 rfl
theorem dX11_resample_175 : decode cX11_resample 175 = .ok (.getfield 335, 3) := mm_dk kX11_resample_2 18 rfl
theorem dX11_resample_178 : decode cX11_resample 178 = .ok (.ireturn, 1) := mm_dk kX11_resample_2 19 rfl
set_option maxRecDepth 100000 in
theorem kX11_work_0 : ([(0, .aload_n 0, 1), (1, .iconst 0, 1), (2, .putfield 46, 3), (5, .aload_n 0, 1), (6, .aload_n 0, 1), (7, .getfield 42, 3), (10, .aload_n 0, 1), (11, .getfield 335, 3), (14, .iload_n 1, 1), (15, .invokevirtual 286, 3), (18, .ireturn, 1)] : List (Nat × Instr × Nat)).all (fun x => decide (decode cX11_work x.1 = .ok x.2)) = true := by decide +kernel
theorem dX11_work_0 : decode cX11_work 0 = .ok (.aload_n 0, 1) := mm_dk kX11_work_0 0 rfl
theorem dX11_work_1 : decode cX11_work 1 = .ok (.iconst 0, 1) := mm_dk kX11_work_0 1 rfl
theorem dX11_work_2 : decode cX11_work 2 = .ok (.putfield 46, 3) := mm_dk kX11_work_0 2 rfl
theorem dX11_work_5 : decode cX11_work 5 = .ok (.aload_n 0, 1) := mm_dk kX11_work_0 3 rfl
theorem dX11_work_6 : decode cX11_work 6 = .ok (.aload_n 0, 1) := mm_dk kX11_work_0 4 rfl
theorem dX11_work_7 : decode cX11_work 7 = .ok (.getfield 42, 3) := mm_dk kX11_work_0 5 rfl
theorem dX11_work_10 : decode cX11_work 10 = .ok (.aload_n 0, 1) := mm_dk kX11_work_0 6 rfl
theorem dX11_work_11 : decode cX11_work 11 = .ok (.getfield 335, 3) := mm_dk kX11_work_0 7 rfl
theorem dX11_work_14 : decode cX11_work 14 = .ok (.iload_n 1, 1) := mm_dk kX11_work_0 8 rfl
theorem dX11_work_15 : decode cX11_work 15 = .ok (.invokevirtual 286, 3) := mm_dk kX11_work_0 9 rfl
theorem dX11_work_18 : decode cX11_work 18 = .ok (.ireturn, 1) := mm_dk kX11_work_0 10 rfl
set_option maxRecDepth 100000 in
theorem kX11_trace_0 : ([(0, .aload_n 0, 1), (1, .iconst 0, 1), (2, .putfield 46, 3), (5, .iload_n 1, 1), (6, .ifCond .lt 14, 3), (9, .iload_n 1, 1), (10, .aload_n 0, 1), (11, .getfield 10, 3), (14, .getfield 341, 3), (17, .if_icmp .lt 12, 3), (20, .aload_n 0, 1), (21, .bipush (-4), 2), (23, .invokevirtual 54, 3), (26, .goto 12, 3), (29, .aload_n 0, 1), (30, .getfield 10, 3), (33, .getfield 344, 3), (36, .iload_n 1, 1), (37, .iaload, 1), (38, .ireturn, 1)] : List (Nat × Instr × Nat)).all (fun x => decide (decode cX11_trace x.1 = .ok x.2)) = true := by decide +kernel
theorem dX11_trace_0 : decode cX11_trace 0 = .ok (.aload_n 0, 1) := mm_dk kX11_trace_0 0 rfl
theorem dX11_trace_1 : decode cX11_trace 1 = .ok (.iconst 0, 1) := mm_dk kX11_trace_0 1 rfl
theorem dX11_trace_2 : decode cX11_trace 2 = .ok (.putfield 46, 3) := mm_dk kX11_trace_0 2 rfl
theorem dX11_trace_5 : decode cX11_trace 5 = .ok (.iload_n 1, 1) := mm_dk kX11_trace_0 3 rfl
theorem dX11_trace_6 : decode cX11_trace 6 = .ok (.ifCond .lt 14, 3) := mm_dk kX11_trace_0 4 rfl
theorem dX11_trace_9 : decode cX11_trace 9 = .ok (.iload_n 1, 1) := mm_dk kX11_trace_0 5 rfl
theorem dX11_trace_10 : decode cX11_trace 10 = .ok (.aload_n 0, 1) := mm_dk kX11_trace_0 6 rfl
theorem dX11_trace_11 : decode cX11_trace 11 = .ok (.getfield 10, 3) := mm_dk kX11_trace_0 7 rfl
theorem dX11_trace_14 : decode cX11_trace 14 = .ok (.getfield 341, 3) := mm_dk kX11_trace_0 8 rfl
theorem dX11_trace_17 : decode cX11_trace 17 = .ok (.if_icmp .lt 12, 3) := mm_dk kX11_trace_0 9 rfl
theorem dX11_trace_20 : decode cX11_trace 20 = .ok (.aload_n 0, 1) := mm_dk kX11_trace_0 10 rfl
theorem dX11_trace_21 : decode cX11_trace 21 = .ok (.bipush (-4), 2) := mm_dk kX11_trace_0 11 rfl
theorem dX11_trace_23 : decode cX11_trace 23 = .ok (.invokevirtual 54, 3) := mm_dk kX11_trace_0 12 rfl
theorem dX11_trace_26 : decode cX11_trace 26 = .ok (.goto 12, 3) := mm_dk kX11_trace_0 13 rfl
theorem dX11_trace_29 : decode cX11_trace 29 = .ok (.aload_n 0, 1) := mm_dk kX11_trace_0 14 rfl
theorem dX11_trace_30 : decode cX11_trace 30 = .ok (.getfield 10, 3) := mm_dk kX11_trace_0 15 rfl
theorem dX11_trace_33 : decode cX11_trace 33 = .ok (.getfield 344, 3) := mm_dk kX11_trace_0 16 rfl
theorem dX11_trace_36 : decode cX11_trace 36 = .ok (.iload_n 1, 1) := mm_dk kX11_trace_0 17 rfl
theorem dX11_trace_37 : decode cX11_trace 37 = .ok (.iaload, 1) := mm_dk kX11_trace_0 18 rfl
theorem dX11_trace_38 : decode cX11_trace 38 = .ok (.ireturn, 1) := mm_dk kX11_trace_0 19 rfl
set_option maxRecDepth 100000 in
theorem kX11_count_0 : ([(0, .aload_n 0, 1), (1, .iconst 0, 1), (2, .putfield 46, 3), (5, .aload_n 0, 1), (6, .iload_n 1, 1), (7, .invokevirtual 64, 3), (10, .astore_n 3, 1), (11, .aload_n 3, 1), (12, .ifnull 13, 3), (15, .iload_n 2, 1), (16, .ifCond .lt 9, 3), (19, .iload_n 2, 1), (20, .bipush 9, 2), (22, .if_icmp .le 9, 3), (25, .aload_n 0, 1), (26, .iconst (-1), 1), (27, .invokevirtual 54, 3), (30, .ireturn, 1), (31, .iload_n 2, 1), (32, .tableswitch 121 0 8 #[52, 57, 65, 73, 81, 89, 97, 105, 113], 52), (84, .aload_n 3, 1), (85, .getfield 131, 3), (88, .ireturn, 1), (89, .aload_n 3, 1), (90, .getfield 113, 3), (93, .getfield 117, 3), (96, .ireturn, 1), (97, .aload_n 3, 1), (98, .getfield 104, 3), (101, .getfield 125, 3), (104, .ireturn, 1), (105, .aload_n 3, 1), (106, .getfield 68, 3), (109, .getfield 122, 3), (112, .ireturn, 1), (113, .aload_n 3, 1), (114, .getfield 68, 3), (117, .getfield 101, 3), (120, .ireturn, 1), (121, .aload_n 3, 1)] : List (Nat × Instr × Nat)).all (fun x => decide (decode cX11_count x.1 = .ok x.2)) = true := by decide +kernel
theorem dX11_count_0 : decode cX11_count 0 = .ok (.aload_n 0, 1) := mm_dk kX11_count_0 0 rfl
theorem dX11_count_1 : decode cX11_count 1 = .ok (.iconst 0, 1) := mm_dk kX11_count_0 1 rfl
theorem dX11_count_2 : decode cX11_count 2 = .ok (.putfield 46, 3) := mm_dk kX11_count_0 2 rfl
theorem dX11_count_5 : decode cX11_count 5 = .ok (.aload_n 0, 1) := mm_dk kX11_count_0 3 rfl
theorem dX11_count_6 : decode cX11_count 6 = .ok (.iload_n 1, 1) := mm_dk kX11_count_0 4 rfl
theorem dX11_count_7 : decode cX11_count 7 = .ok (.invokevirtual 64, 3) := mm_dk kX11_count_0 5 rfl
theorem dX11_count_10 : decode cX11_count 10 = .ok (.astore_n 3, 1) := mm_dk kX11_count_0 6 rfl
theorem dX11_count_11 : decode cX11_count 11 = .ok (.aload_n 3, 1) := mm_dk kX11_count_0 7 rfl
theorem dX11_count_12 : decode cX11_count 12 = .ok (.ifnull 13, 3) := mm_dk kX11_count_0 8 rfl
theorem dX11_count_15 : decode cX11_count 15 = .ok (.iload_n 2, 1) := mm_dk kX11_count_0 9 rfl
theorem dX11_count_16 : decode cX11_count 16 = .ok (.ifCond .lt 9, 3) := mm_dk kX11_count_0 10 rfl
theorem dX11_count_19 : decode cX11_count 19 = .ok (.iload_n 2, 1) := mm_dk kX11_count_0 11 rfl
theorem dX11_count_20 : decode cX11_count 20 = .ok (.bipush 9, 2) := mm_dk kX11_count_0 12 rfl
theorem dX11_count_22 : decode cX11_count 22 = .ok (.if_icmp .le 9, 3) := mm_dk kX11_count_0 13 rfl
theorem dX11_count_25 : decode cX11_count 25 = .ok (.aload_n 0, 1) := mm_dk kX11_count_0 14 rfl
theorem dX11_count_26 : decode cX11_count 26 = .ok (.iconst (-1), 1) := mm_dk kX11_count_0 15 rfl
theorem dX11_count_27 : decode cX11_count 27 = .ok (.invokevirtual 54, 3) := mm_dk kX11_count_0 16 rfl
theorem dX11_count_30 : decode cX11_count 30 = .ok (.ireturn, 1) := mm_dk kX11_count_0 17 rfl
theorem dX11_count_31 : decode cX11_count 31 = .ok (.iload_n 2, 1) := mm_dk kX11_count_0 18 rfl
theorem dX11_count_32 : decode cX11_count 32 = .ok (.tableswitch 121 0 8 #[52, 57, 65, 73, 81, 89, 97, 105, 113], 52) := mm_dk kX11_count_0 19 rfl
theorem dX11_count_84 : decode cX11_count 84 = .ok (.aload_n 3, 1) := mm_dk kX11_count_0 20 rfl
theorem dX11_count_85 : decode cX11_count 85 = .ok (.getfield 131, 3) := mm_dk kX11_count_0 21 rfl
theorem dX11_count_88 : decode cX11_count 88 = .ok (.ireturn, 1) := mm_dk kX11_count_0 22 rfl
theorem dX11_count_89 : decode cX11_count 89 = .ok (.aload_n 3, 1) := mm_dk kX11_count_0 23 rfl
theorem dX11_count_90 : decode cX11_count 90 = .ok (.getfield 113, 3) := mm_dk kX11_count_0 24 rfl
theorem dX11_count_93 : decode cX11_count 93 = .ok (.getfield 117, 3) := mm_dk kX11_count_0 25 rfl
theorem dX11_count_96 : decode cX11_count 96 = .ok (.ireturn, 1) := mm_dk kX11_count_0 26 rfl
theorem dX11_count_97 : decode cX11_count 97 = .ok (.aload_n 3, 1) := mm_dk kX11_count_0 27 rfl
theorem dX11_count_98 : decode cX11_count 98 = .ok (.getfield 104, 3) := mm_dk kX11_count_0 28 rfl
theorem dX11_count_101 : decode cX11_count 101 = .ok (.getfield 125, 3) := mm_dk kX11_count_0 29 rfl
theorem dX11_count_104 : decode cX11_count 104 = .ok (.ireturn, 1) := mm_dk kX11_count_0 30 rfl
theorem dX11_count_105 : decode cX11_count 105 = .ok (.aload_n 3, 1) := mm_dk kX11_count_0 31 rfl
theorem dX11_count_106 : decode cX11_count 106 = .ok (.getfield 68, 3) := mm_dk kX11_count_0 32 rfl
theorem dX11_count_109 : decode cX11_count 109 = .ok (.getfield 122, 3) := mm_dk kX11_count_0 33 rfl
theorem dX11_count_112 : decode cX11_count 112 = .ok (.ireturn, 1) := mm_dk kX11_count_0 34 rfl
theorem dX11_count_113 : decode cX11_count 113 = .ok (.aload_n 3, 1) := mm_dk kX11_count_0 35 rfl
theorem dX11_count_114 : decode cX11_count 114 = .ok (.getfield 68, 3) := mm_dk kX11_count_0 36 rfl
theorem dX11_count_117 : decode cX11_count 117 = .ok (.getfield 101, 3) := mm_dk kX11_count_0 37 rfl
theorem dX11_count_120 : decode cX11_count 120 = .ok (.ireturn, 1) := mm_dk kX11_count_0 38 rfl
theorem dX11_count_121 : decode cX11_count 121 = .ok (.aload_n 3, 1) := mm_dk kX11_count_0 39 rfl
set_option maxRecDepth 100000 in
theorem kX11_count_1 : ([(122, .getfield 104, 3), (125, .getfield 108, 3), (128, .ireturn, 1), (129, .aload_n 3, 1), (130, .getfield 104, 3), (133, .getfield 347, 3), (136, .ireturn, 1), (137, .aload_n 3, 1), (138, .getfield 104, 3), (141, .getfield 350, 3), (144, .ireturn, 1), (145, .aload_n 3, 1), (146, .getfield 104, 3), (149, .getfield 353, 3), (152, .ireturn, 1), (153, .aload_n 0, 1), (154, .getfield 19, 3), (157, .invokevirtual 356, 3), (160, .ireturn, 1)] : List (Nat × Instr × Nat)).all (fun x => decide (decode cX11_count x.1 = .ok x.2)) = true := by decide +kernel
theorem dX11_count_122 : decode cX11_count 122 = .ok (.getfield 104, 3) := mm_dk kX11_count_1 0 rfl
theorem dX11_count_125 : decode cX11_count 125 = .ok (.getfield 108, 3) := mm_dk kX11_count_1 1 rfl
theorem dX11_count_128 : decode cX11_count 128 = .ok (.ireturn, 1) := mm_dk kX11_count_1 2 rfl
theorem dX11_count_129 : decode cX11_count 129 = .ok (.aload_n 3, 1) := mm_dk kX11_count_1 3 rfl
theorem dX11_count_130 : decode cX11_count 130 = .ok (.getfield 104, 3) := mm_dk kX11_count_1 4 rfl
theorem dX11_count_133 : decode cX11_count 133 = .ok (.getfield 347, 3) := mm_dk kX11_count_1 5 rfl
theorem dX11_count_136 : decode cX11_count 136 = .ok (.ireturn, 1) := mm_dk kX11_count_1 6 rfl
theorem dX11_count_137 : decode cX11_count 137 = .ok (.aload_n 3, 1) := mm_dk kX11_count_1 7 rfl
theorem dX11_count_138 : decode cX11_count 138 = .ok (.getfield 104, 3) := mm_dk kX11_count_1 8 rfl
theorem dX11_count_141 : decode cX11_count 141 = .ok (.getfield 350, 3) := mm_dk kX11_count_1 9 rfl
theorem dX11_count_144 : decode cX11_count 144 = .ok (.ireturn, 1) := mm_dk kX11_count_1 10 rfl
theorem dX11_count_145 : decode cX11_count 145 = .ok (.aload_n 3, 1) := mm_dk kX11_count_1 11 rfl
theorem dX11_count_146 : decode cX11_count 146 = .ok (.getfield 104, 3) := mm_dk kX11_count_1 12 rfl
theorem dX11_count_149 : decode cX11_count 149 = .ok (.getfield 353, 3) := mm_dk kX11_count_1 13 rfl
theorem dX11_count_152 : decode cX11_count 152 = .ok (.ireturn, 1) := mm_dk kX11_count_1 14 rfl
theorem dX11_count_153 : decode cX11_count 153 = .ok (.aload_n 0, 1) := mm_dk kX11_count_1 15 rfl
theorem dX11_count_154 : decode cX11_count 154 = .ok (.getfield 19, 3) := mm_dk kX11_count_1 16 rfl
theorem dX11_count_157 : decode cX11_count 157 = .ok (.invokevirtual 356, 3) := mm_dk kX11_count_1 17 rfl
theorem dX11_count_160 : decode cX11_count 160 = .ok (.ireturn, 1) := mm_dk kX11_count_1 18 rfl
set_option maxRecDepth 100000 in
theorem kX11_found_0 : ([(0, .aload_n 0, 1), (1, .iconst 0, 1), (2, .putfield 46, 3), (5, .iload_n 1, 1), (6, .iconst 1, 1), (7, .if_icmp .lt 9, 3), (10, .iload_n 1, 1), (11, .bipush 7, 2), (13, .if_icmp .le 11, 3), (16, .aload_n 0, 1), (17, .iconst (-1), 1), (18, .invokevirtual 54, 3), (21, .goto 12, 3), (24, .aload_n 0, 1), (25, .getfield 10, 3), (28, .getfield 359, 3), (31, .iload_n 1, 1), (32, .iaload, 1), (33, .ireturn, 1)] : List (Nat × Instr × Nat)).all (fun x => decide (decode cX11_found x.1 = .ok x.2)) = true := by decide +kernel
theorem dX11_found_0 : decode cX11_found 0 = .ok (.aload_n 0, 1) := mm_dk kX11_found_0 0 rfl
theorem dX11_found_1 : decode cX11_found 1 = .ok (.iconst 0, 1) := mm_dk kX11_found_0 1 rfl
theorem dX11_found_2 : decode cX11_found 2 = .ok (.putfield 46, 3) := mm_dk kX11_found_0 2 rfl
theorem dX11_found_5 : decode cX11_found 5 = .ok (.iload_n 1, 1) := mm_dk kX11_found_0 3 rfl
theorem dX11_found_6 : decode cX11_found 6 = .ok (.iconst 1, 1) := mm_dk kX11_found_0 4 rfl
theorem dX11_found_7 : decode cX11_found 7 = .ok (.if_icmp .lt 9, 3) := mm_dk kX11_found_0 5 rfl
theorem dX11_found_10 : decode cX11_found 10 = .ok (.iload_n 1, 1) := mm_dk kX11_found_0 6 rfl
theorem dX11_found_11 : decode cX11_found 11 = .ok (.bipush 7, 2) := mm_dk kX11_found_0 7 rfl
theorem dX11_found_13 : decode cX11_found 13 = .ok (.if_icmp .le 11, 3) := mm_dk kX11_found_0 8 rfl
theorem dX11_found_16 : decode cX11_found 16 = .ok (.aload_n 0, 1) := mm_dk kX11_found_0 9 rfl
theorem dX11_found_17 : decode cX11_found 17 = .ok (.iconst (-1), 1) := mm_dk kX11_found_0 10 rfl
theorem dX11_found_18 : decode cX11_found 18 = .ok (.invokevirtual 54, 3) := mm_dk kX11_found_0 11 rfl
theorem dX11_found_21 : decode cX11_found 21 = .ok (.goto 12, 3) := mm_dk kX11_found_0 12 rfl
theorem dX11_found_24 : decode cX11_found 24 = .ok (.aload_n 0, 1) := mm_dk kX11_found_0 13 rfl
theorem dX11_found_25 : decode cX11_found 25 = .ok (.getfield 10, 3) := mm_dk kX11_found_0 14 rfl
theorem dX11_found_28 : decode cX11_found 28 = .ok (.getfield 359, 3) := mm_dk kX11_found_0 15 rfl
theorem dX11_found_31 : decode cX11_found 31 = .ok (.iload_n 1, 1) := mm_dk kX11_found_0 16 rfl
theorem dX11_found_32 : decode cX11_found 32 = .ok (.iaload, 1) := mm_dk kX11_found_0 17 rfl
theorem dX11_found_33 : decode cX11_found 33 = .ok (.ireturn, 1) := mm_dk kX11_found_0 18 rfl
set_option maxRecDepth 100000 in
theorem kX11_saturations_0 : ([(0, .aload_n 0, 1), (1, .iconst 0, 1), (2, .putfield 46, 3), (5, .aload_n 0, 1), (6, .getfield 10, 3), (9, .getfield 362, 3), (12, .lreturn, 1)] : List (Nat × Instr × Nat)).all (fun x => decide (decode cX11_saturations x.1 = .ok x.2)) = true := by decide +kernel
theorem dX11_saturations_0 : decode cX11_saturations 0 = .ok (.aload_n 0, 1) := mm_dk kX11_saturations_0 0 rfl
theorem dX11_saturations_1 : decode cX11_saturations 1 = .ok (.iconst 0, 1) := mm_dk kX11_saturations_0 1 rfl
theorem dX11_saturations_2 : decode cX11_saturations 2 = .ok (.putfield 46, 3) := mm_dk kX11_saturations_0 2 rfl
theorem dX11_saturations_5 : decode cX11_saturations 5 = .ok (.aload_n 0, 1) := mm_dk kX11_saturations_0 3 rfl
theorem dX11_saturations_6 : decode cX11_saturations 6 = .ok (.getfield 10, 3) := mm_dk kX11_saturations_0 4 rfl
theorem dX11_saturations_9 : decode cX11_saturations 9 = .ok (.getfield 362, 3) := mm_dk kX11_saturations_0 5 rfl
theorem dX11_saturations_12 : decode cX11_saturations 12 = .ok (.lreturn, 1) := mm_dk kX11_saturations_0 6 rfl
set_option maxRecDepth 100000 in
theorem kX11_digest_0 : ([(0, .aload_n 0, 1), (1, .iconst 0, 1), (2, .putfield 46, 3), (5, .aload_n 0, 1), (6, .iload_n 1, 1), (7, .iload_n 2, 1), (8, .invokevirtual 290, 3), (11, .astore_n 3, 1), (12, .aload_n 3, 1), (13, .ifnonnull 10, 3), (16, .aload_n 0, 1), (17, .iconst (-1), 1), (18, .putfield 46, 3), (21, .iconst 0, 1), (22, .ireturn, 1), (23, .aload_n 3, 1), (24, .invokevirtual 366, 3), (27, .ireturn, 1)] : List (Nat × Instr × Nat)).all (fun x => decide (decode cX11_digest x.1 = .ok x.2)) = true := by decide +kernel
theorem dX11_digest_0 : decode cX11_digest 0 = .ok (.aload_n 0, 1) := mm_dk kX11_digest_0 0 rfl
theorem dX11_digest_1 : decode cX11_digest 1 = .ok (.iconst 0, 1) := mm_dk kX11_digest_0 1 rfl
theorem dX11_digest_2 : decode cX11_digest 2 = .ok (.putfield 46, 3) := mm_dk kX11_digest_0 2 rfl
theorem dX11_digest_5 : decode cX11_digest 5 = .ok (.aload_n 0, 1) := mm_dk kX11_digest_0 3 rfl
theorem dX11_digest_6 : decode cX11_digest 6 = .ok (.iload_n 1, 1) := mm_dk kX11_digest_0 4 rfl
theorem dX11_digest_7 : decode cX11_digest 7 = .ok (.iload_n 2, 1) := mm_dk kX11_digest_0 5 rfl
theorem dX11_digest_8 : decode cX11_digest 8 = .ok (.invokevirtual 290, 3) := mm_dk kX11_digest_0 6 rfl
theorem dX11_digest_11 : decode cX11_digest 11 = .ok (.astore_n 3, 1) := mm_dk kX11_digest_0 7 rfl
theorem dX11_digest_12 : decode cX11_digest 12 = .ok (.aload_n 3, 1) := mm_dk kX11_digest_0 8 rfl
theorem dX11_digest_13 : decode cX11_digest 13 = .ok (.ifnonnull 10, 3) := mm_dk kX11_digest_0 9 rfl
theorem dX11_digest_16 : decode cX11_digest 16 = .ok (.aload_n 0, 1) := mm_dk kX11_digest_0 10 rfl
theorem dX11_digest_17 : decode cX11_digest 17 = .ok (.iconst (-1), 1) := mm_dk kX11_digest_0 11 rfl
theorem dX11_digest_18 : decode cX11_digest 18 = .ok (.putfield 46, 3) := mm_dk kX11_digest_0 12 rfl
theorem dX11_digest_21 : decode cX11_digest 21 = .ok (.iconst 0, 1) := mm_dk kX11_digest_0 13 rfl
theorem dX11_digest_22 : decode cX11_digest 22 = .ok (.ireturn, 1) := mm_dk kX11_digest_0 14 rfl
theorem dX11_digest_23 : decode cX11_digest 23 = .ok (.aload_n 3, 1) := mm_dk kX11_digest_0 15 rfl
theorem dX11_digest_24 : decode cX11_digest 24 = .ok (.invokevirtual 366, 3) := mm_dk kX11_digest_0 16 rfl
theorem dX11_digest_27 : decode cX11_digest 27 = .ok (.ireturn, 1) := mm_dk kX11_digest_0 17 rfl
set_option maxRecDepth 100000 in
theorem kX11_status_0 : ([(0, .aload_n 0, 1), (1, .getfield 46, 3), (4, .ireturn, 1)] : List (Nat × Instr × Nat)).all (fun x => decide (decode cX11_status x.1 = .ok x.2)) = true := by decide +kernel
theorem dX11_status_0 : decode cX11_status 0 = .ok (.aload_n 0, 1) := mm_dk kX11_status_0 0 rfl
theorem dX11_status_1 : decode cX11_status 1 = .ok (.getfield 46, 3) := mm_dk kX11_status_0 1 rfl
theorem dX11_status_4 : decode cX11_status 4 = .ok (.ireturn, 1) := mm_dk kX11_status_0 2 rfl
set_option maxRecDepth 100000 in
theorem kX11_told_0 : ([(0, .aload_n 0, 1), (1, .iconst 0, 1), (2, .putfield 46, 3), (5, .iload_n 1, 1), (6, .tableswitch 53 0 3 #[30, 35, 40, 48], 30), (36, .aload_n 0, 1), (37, .getfield 58, 3), (40, .ireturn, 1), (41, .aload_n 0, 1), (42, .getfield 264, 3), (45, .ireturn, 1), (46, .aload_n 0, 1), (47, .getfield 10, 3), (50, .getfield 341, 3), (53, .ireturn, 1), (54, .aload_n 0, 1), (55, .getfield 335, 3), (58, .ireturn, 1), (59, .aload_n 0, 1), (60, .iconst (-1), 1), (61, .invokevirtual 54, 3), (64, .ireturn, 1)] : List (Nat × Instr × Nat)).all (fun x => decide (decode cX11_told x.1 = .ok x.2)) = true := by decide +kernel
theorem dX11_told_0 : decode cX11_told 0 = .ok (.aload_n 0, 1) := mm_dk kX11_told_0 0 rfl
theorem dX11_told_1 : decode cX11_told 1 = .ok (.iconst 0, 1) := mm_dk kX11_told_0 1 rfl
theorem dX11_told_2 : decode cX11_told 2 = .ok (.putfield 46, 3) := mm_dk kX11_told_0 2 rfl
theorem dX11_told_5 : decode cX11_told 5 = .ok (.iload_n 1, 1) := mm_dk kX11_told_0 3 rfl
theorem dX11_told_6 : decode cX11_told 6 = .ok (.tableswitch 53 0 3 #[30, 35, 40, 48], 30) := mm_dk kX11_told_0 4 rfl
theorem dX11_told_36 : decode cX11_told 36 = .ok (.aload_n 0, 1) := mm_dk kX11_told_0 5 rfl
theorem dX11_told_37 : decode cX11_told 37 = .ok (.getfield 58, 3) := mm_dk kX11_told_0 6 rfl
theorem dX11_told_40 : decode cX11_told 40 = .ok (.ireturn, 1) := mm_dk kX11_told_0 7 rfl
theorem dX11_told_41 : decode cX11_told 41 = .ok (.aload_n 0, 1) := mm_dk kX11_told_0 8 rfl
theorem dX11_told_42 : decode cX11_told 42 = .ok (.getfield 264, 3) := mm_dk kX11_told_0 9 rfl
theorem dX11_told_45 : decode cX11_told 45 = .ok (.ireturn, 1) := mm_dk kX11_told_0 10 rfl
theorem dX11_told_46 : decode cX11_told 46 = .ok (.aload_n 0, 1) := mm_dk kX11_told_0 11 rfl
theorem dX11_told_47 : decode cX11_told 47 = .ok (.getfield 10, 3) := mm_dk kX11_told_0 12 rfl
theorem dX11_told_50 : decode cX11_told 50 = .ok (.getfield 341, 3) := mm_dk kX11_told_0 13 rfl
theorem dX11_told_53 : decode cX11_told 53 = .ok (.ireturn, 1) := mm_dk kX11_told_0 14 rfl
theorem dX11_told_54 : decode cX11_told 54 = .ok (.aload_n 0, 1) := mm_dk kX11_told_0 15 rfl
theorem dX11_told_55 : decode cX11_told 55 = .ok (.getfield 335, 3) := mm_dk kX11_told_0 16 rfl
theorem dX11_told_58 : decode cX11_told 58 = .ok (.ireturn, 1) := mm_dk kX11_told_0 17 rfl
theorem dX11_told_59 : decode cX11_told 59 = .ok (.aload_n 0, 1) := mm_dk kX11_told_0 18 rfl
theorem dX11_told_60 : decode cX11_told 60 = .ok (.iconst (-1), 1) := mm_dk kX11_told_0 19 rfl
theorem dX11_told_61 : decode cX11_told 61 = .ok (.invokevirtual 54, 3) := mm_dk kX11_told_0 20 rfl
theorem dX11_told_64 : decode cX11_told 64 = .ok (.ireturn, 1) := mm_dk kX11_told_0 21 rfl
set_option maxRecDepth 100000 in
theorem kX11_clear_0 : ([(0, .aload_n 0, 1), (1, .iconst 0, 1), (2, .putfield 46, 3), (5, .aload_n 0, 1), (6, .getfield 58, 3), (9, .istore_n 1, 1), (10, .iconst 0, 1), (11, .istore_n 2, 1), (12, .iload_n 2, 1), (13, .bipush 8, 2), (15, .if_icmp .ge 16, 3), (18, .aload_n 0, 1), (19, .getfield 34, 3), (22, .iload_n 2, 1), (23, .aconst_null, 1), (24, .aastore, 1), (25, .iinc 2 1, 3), (28, .goto (-16), 3), (31, .aload_n 0, 1), (32, .iconst 0, 1), (33, .putfield 58, 3), (36, .aload_n 0, 1), (37, .iconst 0, 1), (38, .putfield 264, 3), (41, .aload_n 0, 1), (42, .iconst 0, 1), (43, .putfield 335, 3), (46, .aload_n 0, 1), (47, .getfield 10, 3), (50, .iconst 0, 1), (51, .putfield 341, 3), (54, .iload_n 1, 1), (55, .ireturn, 1)] : List (Nat × Instr × Nat)).all (fun x => decide (decode cX11_clear x.1 = .ok x.2)) = true := by decide +kernel
theorem dX11_clear_0 : decode cX11_clear 0 = .ok (.aload_n 0, 1) := mm_dk kX11_clear_0 0 rfl
theorem dX11_clear_1 : decode cX11_clear 1 = .ok (.iconst 0, 1) := mm_dk kX11_clear_0 1 rfl
theorem dX11_clear_2 : decode cX11_clear 2 = .ok (.putfield 46, 3) := mm_dk kX11_clear_0 2 rfl
theorem dX11_clear_5 : decode cX11_clear 5 = .ok (.aload_n 0, 1) := mm_dk kX11_clear_0 3 rfl
theorem dX11_clear_6 : decode cX11_clear 6 = .ok (.getfield 58, 3) := mm_dk kX11_clear_0 4 rfl
theorem dX11_clear_9 : decode cX11_clear 9 = .ok (.istore_n 1, 1) := mm_dk kX11_clear_0 5 rfl
theorem dX11_clear_10 : decode cX11_clear 10 = .ok (.iconst 0, 1) := mm_dk kX11_clear_0 6 rfl
theorem dX11_clear_11 : decode cX11_clear 11 = .ok (.istore_n 2, 1) := mm_dk kX11_clear_0 7 rfl
theorem dX11_clear_12 : decode cX11_clear 12 = .ok (.iload_n 2, 1) := mm_dk kX11_clear_0 8 rfl
theorem dX11_clear_13 : decode cX11_clear 13 = .ok (.bipush 8, 2) := mm_dk kX11_clear_0 9 rfl
theorem dX11_clear_15 : decode cX11_clear 15 = .ok (.if_icmp .ge 16, 3) := mm_dk kX11_clear_0 10 rfl
theorem dX11_clear_18 : decode cX11_clear 18 = .ok (.aload_n 0, 1) := mm_dk kX11_clear_0 11 rfl
theorem dX11_clear_19 : decode cX11_clear 19 = .ok (.getfield 34, 3) := mm_dk kX11_clear_0 12 rfl
theorem dX11_clear_22 : decode cX11_clear 22 = .ok (.iload_n 2, 1) := mm_dk kX11_clear_0 13 rfl
theorem dX11_clear_23 : decode cX11_clear 23 = .ok (.aconst_null, 1) := mm_dk kX11_clear_0 14 rfl
theorem dX11_clear_24 : decode cX11_clear 24 = .ok (.aastore, 1) := mm_dk kX11_clear_0 15 rfl
theorem dX11_clear_25 : decode cX11_clear 25 = .ok (.iinc 2 1, 3) := mm_dk kX11_clear_0 16 rfl
theorem dX11_clear_28 : decode cX11_clear 28 = .ok (.goto (-16), 3) := mm_dk kX11_clear_0 17 rfl
theorem dX11_clear_31 : decode cX11_clear 31 = .ok (.aload_n 0, 1) := mm_dk kX11_clear_0 18 rfl
theorem dX11_clear_32 : decode cX11_clear 32 = .ok (.iconst 0, 1) := mm_dk kX11_clear_0 19 rfl
theorem dX11_clear_33 : decode cX11_clear 33 = .ok (.putfield 58, 3) := mm_dk kX11_clear_0 20 rfl
theorem dX11_clear_36 : decode cX11_clear 36 = .ok (.aload_n 0, 1) := mm_dk kX11_clear_0 21 rfl
theorem dX11_clear_37 : decode cX11_clear 37 = .ok (.iconst 0, 1) := mm_dk kX11_clear_0 22 rfl
theorem dX11_clear_38 : decode cX11_clear 38 = .ok (.putfield 264, 3) := mm_dk kX11_clear_0 23 rfl
theorem dX11_clear_41 : decode cX11_clear 41 = .ok (.aload_n 0, 1) := mm_dk kX11_clear_0 24 rfl
theorem dX11_clear_42 : decode cX11_clear 42 = .ok (.iconst 0, 1) := mm_dk kX11_clear_0 25 rfl
theorem dX11_clear_43 : decode cX11_clear 43 = .ok (.putfield 335, 3) := mm_dk kX11_clear_0 26 rfl
theorem dX11_clear_46 : decode cX11_clear 46 = .ok (.aload_n 0, 1) := mm_dk kX11_clear_0 27 rfl
theorem dX11_clear_47 : decode cX11_clear 47 = .ok (.getfield 10, 3) := mm_dk kX11_clear_0 28 rfl
theorem dX11_clear_50 : decode cX11_clear 50 = .ok (.iconst 0, 1) := mm_dk kX11_clear_0 29 rfl
theorem dX11_clear_51 : decode cX11_clear 51 = .ok (.putfield 341, 3) := mm_dk kX11_clear_0 30 rfl
theorem dX11_clear_54 : decode cX11_clear 54 = .ok (.iload_n 1, 1) := mm_dk kX11_clear_0 31 rfl
theorem dX11_clear_55 : decode cX11_clear 55 = .ok (.ireturn, 1) := mm_dk kX11_clear_0 32 rfl
set_option maxRecDepth 100000 in
theorem kX11_refuse_0 : ([(0, .aload_n 0, 1), (1, .iload_n 1, 1), (2, .putfield 46, 3), (5, .iload_n 1, 1), (6, .ireturn, 1)] : List (Nat × Instr × Nat)).all (fun x => decide (decode cX11_refuse x.1 = .ok x.2)) = true := by decide +kernel
theorem dX11_refuse_0 : decode cX11_refuse 0 = .ok (.aload_n 0, 1) := mm_dk kX11_refuse_0 0 rfl
theorem dX11_refuse_1 : decode cX11_refuse 1 = .ok (.iload_n 1, 1) := mm_dk kX11_refuse_0 1 rfl
theorem dX11_refuse_2 : decode cX11_refuse 2 = .ok (.putfield 46, 3) := mm_dk kX11_refuse_0 2 rfl
theorem dX11_refuse_5 : decode cX11_refuse 5 = .ok (.iload_n 1, 1) := mm_dk kX11_refuse_0 3 rfl
theorem dX11_refuse_6 : decode cX11_refuse 6 = .ok (.ireturn, 1) := mm_dk kX11_refuse_0 4 rfl
set_option maxRecDepth 100000 in
theorem kX11_unknown_0 : ([(0, .aload_n 0, 1), (1, .iconst (-1), 1), (2, .putfield 46, 3), (5, .ldc 197, 2), (7, .ireturn, 1)] : List (Nat × Instr × Nat)).all (fun x => decide (decode cX11_unknown x.1 = .ok x.2)) = true := by decide +kernel
theorem dX11_unknown_0 : decode cX11_unknown 0 = .ok (.aload_n 0, 1) := mm_dk kX11_unknown_0 0 rfl
theorem dX11_unknown_1 : decode cX11_unknown 1 = .ok (.iconst (-1), 1) := mm_dk kX11_unknown_0 1 rfl
theorem dX11_unknown_2 : decode cX11_unknown 2 = .ok (.putfield 46, 3) := mm_dk kX11_unknown_0 2 rfl
theorem dX11_unknown_5 : decode cX11_unknown 5 = .ok (.ldc 197, 2) := mm_dk kX11_unknown_0 3 rfl
theorem dX11_unknown_7 : decode cX11_unknown 7 = .ok (.ireturn, 1) := mm_dk kX11_unknown_0 4 rfl
set_option maxRecDepth 100000 in
theorem kX11_entry_0 : ([(0, .iload_n 3, 1), (1, .ifCond .lt 8, 3), (4, .iload_n 3, 1), (5, .iload_n 2, 1), (6, .if_icmp .lt 10, 3), (9, .aload_n 0, 1), (10, .invokevirtual 280, 3), (13, .goto 6, 3), (16, .aload_n 1, 1), (17, .iload_n 3, 1), (18, .iaload, 1), (19, .ireturn, 1)] : List (Nat × Instr × Nat)).all (fun x => decide (decode cX11_entry x.1 = .ok x.2)) = true := by decide +kernel
theorem dX11_entry_0 : decode cX11_entry 0 = .ok (.iload_n 3, 1) := mm_dk kX11_entry_0 0 rfl
theorem dX11_entry_1 : decode cX11_entry 1 = .ok (.ifCond .lt 8, 3) := mm_dk kX11_entry_0 1 rfl
theorem dX11_entry_4 : decode cX11_entry 4 = .ok (.iload_n 3, 1) := mm_dk kX11_entry_0 2 rfl
theorem dX11_entry_5 : decode cX11_entry 5 = .ok (.iload_n 2, 1) := mm_dk kX11_entry_0 3 rfl
theorem dX11_entry_6 : decode cX11_entry 6 = .ok (.if_icmp .lt 10, 3) := mm_dk kX11_entry_0 4 rfl
theorem dX11_entry_9 : decode cX11_entry 9 = .ok (.aload_n 0, 1) := mm_dk kX11_entry_0 5 rfl
theorem dX11_entry_10 : decode cX11_entry 10 = .ok (.invokevirtual 280, 3) := mm_dk kX11_entry_0 6 rfl
theorem dX11_entry_13 : decode cX11_entry 13 = .ok (.goto 6, 3) := mm_dk kX11_entry_0 7 rfl
theorem dX11_entry_16 : decode cX11_entry 16 = .ok (.aload_n 1, 1) := mm_dk kX11_entry_0 8 rfl
theorem dX11_entry_17 : decode cX11_entry 17 = .ok (.iload_n 3, 1) := mm_dk kX11_entry_0 9 rfl
theorem dX11_entry_18 : decode cX11_entry 18 = .ok (.iaload, 1) := mm_dk kX11_entry_0 10 rfl
theorem dX11_entry_19 : decode cX11_entry 19 = .ok (.ireturn, 1) := mm_dk kX11_entry_0 11 rfl
set_option maxRecDepth 100000 in
theorem kX11_pickRefusal_0 : ([(0, .aload_n 0, 1), (1, .iload_n 1, 1), (2, .invokevirtual 64, 3), (5, .astore_n 3, 1), (6, .aload_n 3, 1), (7, .ifnull 7, 3), (10, .iload_n 2, 1), (11, .ifCond .ne 5, 3), (14, .iconst (-1), 1), (15, .ireturn, 1), (16, .aload_n 3, 1), (17, .getfield 68, 3), (20, .getfield 369, 3), (23, .ifCond .eq 7, 3), (26, .iconst 0, 1), (27, .goto 5, 3), (30, .bipush (-2), 2), (32, .ireturn, 1)] : List (Nat × Instr × Nat)).all (fun x => decide (decode cX11_pickRefusal x.1 = .ok x.2)) = true := by decide +kernel
theorem dX11_pickRefusal_0 : decode cX11_pickRefusal 0 = .ok (.aload_n 0, 1) := mm_dk kX11_pickRefusal_0 0 rfl
theorem dX11_pickRefusal_1 : decode cX11_pickRefusal 1 = .ok (.iload_n 1, 1) := mm_dk kX11_pickRefusal_0 1 rfl
theorem dX11_pickRefusal_2 : decode cX11_pickRefusal 2 = .ok (.invokevirtual 64, 3) := mm_dk kX11_pickRefusal_0 2 rfl
theorem dX11_pickRefusal_5 : decode cX11_pickRefusal 5 = .ok (.astore_n 3, 1) := mm_dk kX11_pickRefusal_0 3 rfl
theorem dX11_pickRefusal_6 : decode cX11_pickRefusal 6 = .ok (.aload_n 3, 1) := mm_dk kX11_pickRefusal_0 4 rfl
theorem dX11_pickRefusal_7 : decode cX11_pickRefusal 7 = .ok (.ifnull 7, 3) := mm_dk kX11_pickRefusal_0 5 rfl
theorem dX11_pickRefusal_10 : decode cX11_pickRefusal 10 = .ok (.iload_n 2, 1) := mm_dk kX11_pickRefusal_0 6 rfl
theorem dX11_pickRefusal_11 : decode cX11_pickRefusal 11 = .ok (.ifCond .ne 5, 3) := mm_dk kX11_pickRefusal_0 7 rfl
theorem dX11_pickRefusal_14 : decode cX11_pickRefusal 14 = .ok (.iconst (-1), 1) := mm_dk kX11_pickRefusal_0 8 rfl
theorem dX11_pickRefusal_15 : decode cX11_pickRefusal 15 = .ok (.ireturn, 1) := mm_dk kX11_pickRefusal_0 9 rfl
theorem dX11_pickRefusal_16 : decode cX11_pickRefusal 16 = .ok (.aload_n 3, 1) := mm_dk kX11_pickRefusal_0 10 rfl
theorem dX11_pickRefusal_17 : decode cX11_pickRefusal 17 = .ok (.getfield 68, 3) := mm_dk kX11_pickRefusal_0 11 rfl
theorem dX11_pickRefusal_20 : decode cX11_pickRefusal 20 = .ok (.getfield 369, 3) := mm_dk kX11_pickRefusal_0 12 rfl
theorem dX11_pickRefusal_23 : decode cX11_pickRefusal 23 = .ok (.ifCond .eq 7, 3) := mm_dk kX11_pickRefusal_0 13 rfl
theorem dX11_pickRefusal_26 : decode cX11_pickRefusal 26 = .ok (.iconst 0, 1) := mm_dk kX11_pickRefusal_0 14 rfl
theorem dX11_pickRefusal_27 : decode cX11_pickRefusal 27 = .ok (.goto 5, 3) := mm_dk kX11_pickRefusal_0 15 rfl
theorem dX11_pickRefusal_30 : decode cX11_pickRefusal 30 = .ok (.bipush (-2), 2) := mm_dk kX11_pickRefusal_0 16 rfl
theorem dX11_pickRefusal_32 : decode cX11_pickRefusal 32 = .ok (.ireturn, 1) := mm_dk kX11_pickRefusal_0 17 rfl
set_option maxRecDepth 100000 in
theorem kX11_coderAt_0 : ([(0, .iload_n 1, 1), (1, .ifCond .lt 11, 3), (4, .iload_n 1, 1), (5, .aload_n 0, 1), (6, .getfield 58, 3), (9, .if_icmp .lt 7, 3), (12, .aconst_null, 1), (13, .goto 9, 3), (16, .aload_n 0, 1), (17, .getfield 34, 3), (20, .iload_n 1, 1), (21, .aaload, 1), (22, .areturn, 1)] : List (Nat × Instr × Nat)).all (fun x => decide (decode cX11_coderAt x.1 = .ok x.2)) = true := by decide +kernel
theorem dX11_coderAt_0 : decode cX11_coderAt 0 = .ok (.iload_n 1, 1) := mm_dk kX11_coderAt_0 0 rfl
theorem dX11_coderAt_1 : decode cX11_coderAt 1 = .ok (.ifCond .lt 11, 3) := mm_dk kX11_coderAt_0 1 rfl
theorem dX11_coderAt_4 : decode cX11_coderAt 4 = .ok (.iload_n 1, 1) := mm_dk kX11_coderAt_0 2 rfl
theorem dX11_coderAt_5 : decode cX11_coderAt 5 = .ok (.aload_n 0, 1) := mm_dk kX11_coderAt_0 3 rfl
theorem dX11_coderAt_6 : decode cX11_coderAt 6 = .ok (.getfield 58, 3) := mm_dk kX11_coderAt_0 4 rfl
theorem dX11_coderAt_9 : decode cX11_coderAt 9 = .ok (.if_icmp .lt 7, 3) := mm_dk kX11_coderAt_0 5 rfl
theorem dX11_coderAt_12 : decode cX11_coderAt 12 = .ok (.aconst_null, 1) := mm_dk kX11_coderAt_0 6 rfl
theorem dX11_coderAt_13 : decode cX11_coderAt 13 = .ok (.goto 9, 3) := mm_dk kX11_coderAt_0 7 rfl
theorem dX11_coderAt_16 : decode cX11_coderAt 16 = .ok (.aload_n 0, 1) := mm_dk kX11_coderAt_0 8 rfl
theorem dX11_coderAt_17 : decode cX11_coderAt 17 = .ok (.getfield 34, 3) := mm_dk kX11_coderAt_0 9 rfl
theorem dX11_coderAt_20 : decode cX11_coderAt 20 = .ok (.iload_n 1, 1) := mm_dk kX11_coderAt_0 10 rfl
theorem dX11_coderAt_21 : decode cX11_coderAt 21 = .ok (.aaload, 1) := mm_dk kX11_coderAt_0 11 rfl
theorem dX11_coderAt_22 : decode cX11_coderAt 22 = .ok (.areturn, 1) := mm_dk kX11_coderAt_0 12 rfl
set_option maxRecDepth 100000 in
theorem kX11_frameAt_0 : ([(0, .aload_n 0, 1), (1, .iload_n 1, 1), (2, .invokevirtual 64, 3), (5, .astore_n 3, 1), (6, .aload_n 3, 1), (7, .ifnull 18, 3), (10, .iload_n 2, 1), (11, .ifCond .lt 14, 3), (14, .iload_n 2, 1), (15, .aload_n 3, 1), (16, .getfield 113, 3), (19, .getfield 117, 3), (22, .if_icmp .lt 7, 3), (25, .aconst_null, 1), (26, .goto 12, 3), (29, .aload_n 3, 1), (30, .getfield 113, 3), (33, .getfield 257, 3), (36, .iload_n 2, 1), (37, .aaload, 1), (38, .areturn, 1)] : List (Nat × Instr × Nat)).all (fun x => decide (decode cX11_frameAt x.1 = .ok x.2)) = true := by decide +kernel
theorem dX11_frameAt_0 : decode cX11_frameAt 0 = .ok (.aload_n 0, 1) := mm_dk kX11_frameAt_0 0 rfl
theorem dX11_frameAt_1 : decode cX11_frameAt 1 = .ok (.iload_n 1, 1) := mm_dk kX11_frameAt_0 1 rfl
theorem dX11_frameAt_2 : decode cX11_frameAt 2 = .ok (.invokevirtual 64, 3) := mm_dk kX11_frameAt_0 2 rfl
theorem dX11_frameAt_5 : decode cX11_frameAt 5 = .ok (.astore_n 3, 1) := mm_dk kX11_frameAt_0 3 rfl
theorem dX11_frameAt_6 : decode cX11_frameAt 6 = .ok (.aload_n 3, 1) := mm_dk kX11_frameAt_0 4 rfl
theorem dX11_frameAt_7 : decode cX11_frameAt 7 = .ok (.ifnull 18, 3) := mm_dk kX11_frameAt_0 5 rfl
theorem dX11_frameAt_10 : decode cX11_frameAt 10 = .ok (.iload_n 2, 1) := mm_dk kX11_frameAt_0 6 rfl
theorem dX11_frameAt_11 : decode cX11_frameAt 11 = .ok (.ifCond .lt 14, 3) := mm_dk kX11_frameAt_0 7 rfl
theorem dX11_frameAt_14 : decode cX11_frameAt 14 = .ok (.iload_n 2, 1) := mm_dk kX11_frameAt_0 8 rfl
theorem dX11_frameAt_15 : decode cX11_frameAt 15 = .ok (.aload_n 3, 1) := mm_dk kX11_frameAt_0 9 rfl
theorem dX11_frameAt_16 : decode cX11_frameAt 16 = .ok (.getfield 113, 3) := mm_dk kX11_frameAt_0 10 rfl
theorem dX11_frameAt_19 : decode cX11_frameAt 19 = .ok (.getfield 117, 3) := mm_dk kX11_frameAt_0 11 rfl
theorem dX11_frameAt_22 : decode cX11_frameAt 22 = .ok (.if_icmp .lt 7, 3) := mm_dk kX11_frameAt_0 12 rfl
theorem dX11_frameAt_25 : decode cX11_frameAt 25 = .ok (.aconst_null, 1) := mm_dk kX11_frameAt_0 13 rfl
theorem dX11_frameAt_26 : decode cX11_frameAt 26 = .ok (.goto 12, 3) := mm_dk kX11_frameAt_0 14 rfl
theorem dX11_frameAt_29 : decode cX11_frameAt 29 = .ok (.aload_n 3, 1) := mm_dk kX11_frameAt_0 15 rfl
theorem dX11_frameAt_30 : decode cX11_frameAt 30 = .ok (.getfield 113, 3) := mm_dk kX11_frameAt_0 16 rfl
theorem dX11_frameAt_33 : decode cX11_frameAt 33 = .ok (.getfield 257, 3) := mm_dk kX11_frameAt_0 17 rfl
theorem dX11_frameAt_36 : decode cX11_frameAt 36 = .ok (.iload_n 2, 1) := mm_dk kX11_frameAt_0 18 rfl
theorem dX11_frameAt_37 : decode cX11_frameAt 37 = .ok (.aaload, 1) := mm_dk kX11_frameAt_0 19 rfl
theorem dX11_frameAt_38 : decode cX11_frameAt 38 = .ok (.areturn, 1) := mm_dk kX11_frameAt_0 20 rfl
set_option maxRecDepth 100000 in
theorem kX11_memoryOf_0 : ([(0, .aload_n 0, 1), (1, .iload_n 1, 1), (2, .invokevirtual 64, 3), (5, .astore_n 3, 1), (6, .aload_n 3, 1), (7, .ifnull 10, 3), (10, .iload_n 2, 1), (11, .invokestatic 50, 3), (14, .ifCond .ne 5, 3), (17, .aconst_null, 1), (18, .areturn, 1), (19, .iload_n 2, 1), (20, .ifCond .ne 13, 3), (23, .aload_n 3, 1), (24, .getfield 68, 3), (27, .getfield 198, 3), (30, .goto 10, 3), (33, .aload_n 3, 1), (34, .getfield 104, 3), (37, .getfield 372, 3), (40, .areturn, 1)] : List (Nat × Instr × Nat)).all (fun x => decide (decode cX11_memoryOf x.1 = .ok x.2)) = true := by decide +kernel
theorem dX11_memoryOf_0 : decode cX11_memoryOf 0 = .ok (.aload_n 0, 1) := mm_dk kX11_memoryOf_0 0 rfl
theorem dX11_memoryOf_1 : decode cX11_memoryOf 1 = .ok (.iload_n 1, 1) := mm_dk kX11_memoryOf_0 1 rfl
theorem dX11_memoryOf_2 : decode cX11_memoryOf 2 = .ok (.invokevirtual 64, 3) := mm_dk kX11_memoryOf_0 2 rfl
theorem dX11_memoryOf_5 : decode cX11_memoryOf 5 = .ok (.astore_n 3, 1) := mm_dk kX11_memoryOf_0 3 rfl
theorem dX11_memoryOf_6 : decode cX11_memoryOf 6 = .ok (.aload_n 3, 1) := mm_dk kX11_memoryOf_0 4 rfl
theorem dX11_memoryOf_7 : decode cX11_memoryOf 7 = .ok (.ifnull 10, 3) := mm_dk kX11_memoryOf_0 5 rfl
theorem dX11_memoryOf_10 : decode cX11_memoryOf 10 = .ok (.iload_n 2, 1) := mm_dk kX11_memoryOf_0 6 rfl
theorem dX11_memoryOf_11 : decode cX11_memoryOf 11 = .ok (.invokestatic 50, 3) := mm_dk kX11_memoryOf_0 7 rfl
theorem dX11_memoryOf_14 : decode cX11_memoryOf 14 = .ok (.ifCond .ne 5, 3) := mm_dk kX11_memoryOf_0 8 rfl
theorem dX11_memoryOf_17 : decode cX11_memoryOf 17 = .ok (.aconst_null, 1) := mm_dk kX11_memoryOf_0 9 rfl
theorem dX11_memoryOf_18 : decode cX11_memoryOf 18 = .ok (.areturn, 1) := mm_dk kX11_memoryOf_0 10 rfl
theorem dX11_memoryOf_19 : decode cX11_memoryOf 19 = .ok (.iload_n 2, 1) := mm_dk kX11_memoryOf_0 11 rfl
theorem dX11_memoryOf_20 : decode cX11_memoryOf 20 = .ok (.ifCond .ne 13, 3) := mm_dk kX11_memoryOf_0 12 rfl
theorem dX11_memoryOf_23 : decode cX11_memoryOf 23 = .ok (.aload_n 3, 1) := mm_dk kX11_memoryOf_0 13 rfl
theorem dX11_memoryOf_24 : decode cX11_memoryOf 24 = .ok (.getfield 68, 3) := mm_dk kX11_memoryOf_0 14 rfl
theorem dX11_memoryOf_27 : decode cX11_memoryOf 27 = .ok (.getfield 198, 3) := mm_dk kX11_memoryOf_0 15 rfl
theorem dX11_memoryOf_30 : decode cX11_memoryOf 30 = .ok (.goto 10, 3) := mm_dk kX11_memoryOf_0 16 rfl
theorem dX11_memoryOf_33 : decode cX11_memoryOf 33 = .ok (.aload_n 3, 1) := mm_dk kX11_memoryOf_0 17 rfl
theorem dX11_memoryOf_34 : decode cX11_memoryOf 34 = .ok (.getfield 104, 3) := mm_dk kX11_memoryOf_0 18 rfl
theorem dX11_memoryOf_37 : decode cX11_memoryOf 37 = .ok (.getfield 372, 3) := mm_dk kX11_memoryOf_0 19 rfl
theorem dX11_memoryOf_40 : decode cX11_memoryOf 40 = .ok (.areturn, 1) := mm_dk kX11_memoryOf_0 20 rfl
set_option maxRecDepth 100000 in
theorem kX11_isBit_0 : ([(0, .iload_n 0, 1), (1, .ifCond .eq 8, 3), (4, .iload_n 0, 1), (5, .iconst 1, 1), (6, .if_icmp .ne 7, 3), (9, .iconst 1, 1), (10, .goto 4, 3), (13, .iconst 0, 1), (14, .ireturn, 1)] : List (Nat × Instr × Nat)).all (fun x => decide (decode cX11_isBit x.1 = .ok x.2)) = true := by decide +kernel
theorem dX11_isBit_0 : decode cX11_isBit 0 = .ok (.iload_n 0, 1) := mm_dk kX11_isBit_0 0 rfl
theorem dX11_isBit_1 : decode cX11_isBit 1 = .ok (.ifCond .eq 8, 3) := mm_dk kX11_isBit_0 1 rfl
theorem dX11_isBit_4 : decode cX11_isBit 4 = .ok (.iload_n 0, 1) := mm_dk kX11_isBit_0 2 rfl
theorem dX11_isBit_5 : decode cX11_isBit 5 = .ok (.iconst 1, 1) := mm_dk kX11_isBit_0 3 rfl
theorem dX11_isBit_6 : decode cX11_isBit 6 = .ok (.if_icmp .ne 7, 3) := mm_dk kX11_isBit_0 4 rfl
theorem dX11_isBit_9 : decode cX11_isBit 9 = .ok (.iconst 1, 1) := mm_dk kX11_isBit_0 5 rfl
theorem dX11_isBit_10 : decode cX11_isBit 10 = .ok (.goto 4, 3) := mm_dk kX11_isBit_0 6 rfl
theorem dX11_isBit_13 : decode cX11_isBit 13 = .ok (.iconst 0, 1) := mm_dk kX11_isBit_0 7 rfl
theorem dX11_isBit_14 : decode cX11_isBit 14 = .ok (.ireturn, 1) := mm_dk kX11_isBit_0 8 rfl
set_option maxRecDepth 100000 in
theorem kX11_bit_0 : ([(0, .iload_n 0, 1), (1, .ifCond .eq 7, 3), (4, .iconst 1, 1), (5, .goto 4, 3), (8, .iconst 0, 1), (9, .ireturn, 1)] : List (Nat × Instr × Nat)).all (fun x => decide (decode cX11_bit x.1 = .ok x.2)) = true := by decide +kernel
theorem dX11_bit_0 : decode cX11_bit 0 = .ok (.iload_n 0, 1) := mm_dk kX11_bit_0 0 rfl
theorem dX11_bit_1 : decode cX11_bit 1 = .ok (.ifCond .eq 7, 3) := mm_dk kX11_bit_0 1 rfl
theorem dX11_bit_4 : decode cX11_bit 4 = .ok (.iconst 1, 1) := mm_dk kX11_bit_0 2 rfl
theorem dX11_bit_5 : decode cX11_bit 5 = .ok (.goto 4, 3) := mm_dk kX11_bit_0 3 rfl
theorem dX11_bit_8 : decode cX11_bit 8 = .ok (.iconst 0, 1) := mm_dk kX11_bit_0 4 rfl
theorem dX11_bit_9 : decode cX11_bit 9 = .ok (.ireturn, 1) := mm_dk kX11_bit_0 5 rfl
set_option maxRecDepth 100000 in
theorem kX11_isPart_0 : ([(0, .iload_n 0, 1), (1, .ifCond .lt 12, 3), (4, .iload_n 0, 1), (5, .iconst 4, 1), (6, .if_icmp .ge 7, 3), (9, .iconst 1, 1), (10, .goto 4, 3), (13, .iconst 0, 1), (14, .ireturn, 1)] : List (Nat × Instr × Nat)).all (fun x => decide (decode cX11_isPart x.1 = .ok x.2)) = true := by decide +kernel
theorem dX11_isPart_0 : decode cX11_isPart 0 = .ok (.iload_n 0, 1) := mm_dk kX11_isPart_0 0 rfl
theorem dX11_isPart_1 : decode cX11_isPart 1 = .ok (.ifCond .lt 12, 3) := mm_dk kX11_isPart_0 1 rfl
theorem dX11_isPart_4 : decode cX11_isPart 4 = .ok (.iload_n 0, 1) := mm_dk kX11_isPart_0 2 rfl
theorem dX11_isPart_5 : decode cX11_isPart 5 = .ok (.iconst 4, 1) := mm_dk kX11_isPart_0 3 rfl
theorem dX11_isPart_6 : decode cX11_isPart 6 = .ok (.if_icmp .ge 7, 3) := mm_dk kX11_isPart_0 4 rfl
theorem dX11_isPart_9 : decode cX11_isPart 9 = .ok (.iconst 1, 1) := mm_dk kX11_isPart_0 5 rfl
theorem dX11_isPart_10 : decode cX11_isPart 10 = .ok (.goto 4, 3) := mm_dk kX11_isPart_0 6 rfl
theorem dX11_isPart_13 : decode cX11_isPart 13 = .ok (.iconst 0, 1) := mm_dk kX11_isPart_0 7 rfl
theorem dX11_isPart_14 : decode cX11_isPart 14 = .ok (.ireturn, 1) := mm_dk kX11_isPart_0 8 rfl
set_option maxRecDepth 100000 in
theorem kX11_isLabel_0 : ([(0, .iload_n 0, 1), (1, .ifCond .lt 14, 3), (4, .iload_n 0, 1), (5, .ldc_w 375, 3), (8, .if_icmp .ge 7, 3), (11, .iconst 1, 1), (12, .goto 4, 3), (15, .iconst 0, 1), (16, .ireturn, 1)] : List (Nat × Instr × Nat)).all (fun x => decide (decode cX11_isLabel x.1 = .ok x.2)) = true := by decide +kernel
theorem dX11_isLabel_0 : decode cX11_isLabel 0 = .ok (.iload_n 0, 1) := mm_dk kX11_isLabel_0 0 rfl
theorem dX11_isLabel_1 : decode cX11_isLabel 1 = .ok (.ifCond .lt 14, 3) := mm_dk kX11_isLabel_0 1 rfl
theorem dX11_isLabel_4 : decode cX11_isLabel 4 = .ok (.iload_n 0, 1) := mm_dk kX11_isLabel_0 2 rfl
theorem dX11_isLabel_5 : decode cX11_isLabel 5 = .ok (.ldc_w 375, 3) := mm_dk kX11_isLabel_0 3 rfl
theorem dX11_isLabel_8 : decode cX11_isLabel 8 = .ok (.if_icmp .ge 7, 3) := mm_dk kX11_isLabel_0 4 rfl
theorem dX11_isLabel_11 : decode cX11_isLabel 11 = .ok (.iconst 1, 1) := mm_dk kX11_isLabel_0 5 rfl
theorem dX11_isLabel_12 : decode cX11_isLabel 12 = .ok (.goto 4, 3) := mm_dk kX11_isLabel_0 6 rfl
theorem dX11_isLabel_15 : decode cX11_isLabel 15 = .ok (.iconst 0, 1) := mm_dk kX11_isLabel_0 7 rfl
theorem dX11_isLabel_16 : decode cX11_isLabel 16 = .ok (.ireturn, 1) := mm_dk kX11_isLabel_0 8 rfl
set_option maxRecDepth 100000 in
theorem kX11_isSample_0 : ([(0, .iload_n 0, 1), (1, .sipush (-32768), 3), (4, .if_icmp .lt 14, 3), (7, .iload_n 0, 1), (8, .sipush 32767, 3), (11, .if_icmp .gt 7, 3), (14, .iconst 1, 1), (15, .goto 4, 3), (18, .iconst 0, 1), (19, .ireturn, 1)] : List (Nat × Instr × Nat)).all (fun x => decide (decode cX11_isSample x.1 = .ok x.2)) = true := by decide +kernel
theorem dX11_isSample_0 : decode cX11_isSample 0 = .ok (.iload_n 0, 1) := mm_dk kX11_isSample_0 0 rfl
theorem dX11_isSample_1 : decode cX11_isSample 1 = .ok (.sipush (-32768), 3) := mm_dk kX11_isSample_0 1 rfl
theorem dX11_isSample_4 : decode cX11_isSample 4 = .ok (.if_icmp .lt 14, 3) := mm_dk kX11_isSample_0 2 rfl
theorem dX11_isSample_7 : decode cX11_isSample 7 = .ok (.iload_n 0, 1) := mm_dk kX11_isSample_0 3 rfl
theorem dX11_isSample_8 : decode cX11_isSample 8 = .ok (.sipush 32767, 3) := mm_dk kX11_isSample_0 4 rfl
theorem dX11_isSample_11 : decode cX11_isSample 11 = .ok (.if_icmp .gt 7, 3) := mm_dk kX11_isSample_0 5 rfl
theorem dX11_isSample_14 : decode cX11_isSample 14 = .ok (.iconst 1, 1) := mm_dk kX11_isSample_0 6 rfl
theorem dX11_isSample_15 : decode cX11_isSample 15 = .ok (.goto 4, 3) := mm_dk kX11_isSample_0 7 rfl
theorem dX11_isSample_18 : decode cX11_isSample 18 = .ok (.iconst 0, 1) := mm_dk kX11_isSample_0 8 rfl
theorem dX11_isSample_19 : decode cX11_isSample 19 = .ok (.ireturn, 1) := mm_dk kX11_isSample_0 9 rfl
set_option maxRecDepth 100000 in
theorem kX11_isWeight_0 : ([(0, .iload_n 0, 1), (1, .bipush (-32), 2), (3, .if_icmp .lt 13, 3), (6, .iload_n 0, 1), (7, .bipush 32, 2), (9, .if_icmp .gt 7, 3), (12, .iconst 1, 1), (13, .goto 4, 3), (16, .iconst 0, 1), (17, .ireturn, 1)] : List (Nat × Instr × Nat)).all (fun x => decide (decode cX11_isWeight x.1 = .ok x.2)) = true := by decide +kernel
theorem dX11_isWeight_0 : decode cX11_isWeight 0 = .ok (.iload_n 0, 1) := mm_dk kX11_isWeight_0 0 rfl
theorem dX11_isWeight_1 : decode cX11_isWeight 1 = .ok (.bipush (-32), 2) := mm_dk kX11_isWeight_0 1 rfl
theorem dX11_isWeight_3 : decode cX11_isWeight 3 = .ok (.if_icmp .lt 13, 3) := mm_dk kX11_isWeight_0 2 rfl
theorem dX11_isWeight_6 : decode cX11_isWeight 6 = .ok (.iload_n 0, 1) := mm_dk kX11_isWeight_0 3 rfl
theorem dX11_isWeight_7 : decode cX11_isWeight 7 = .ok (.bipush 32, 2) := mm_dk kX11_isWeight_0 4 rfl
theorem dX11_isWeight_9 : decode cX11_isWeight 9 = .ok (.if_icmp .gt 7, 3) := mm_dk kX11_isWeight_0 5 rfl
theorem dX11_isWeight_12 : decode cX11_isWeight 12 = .ok (.iconst 1, 1) := mm_dk kX11_isWeight_0 6 rfl
theorem dX11_isWeight_13 : decode cX11_isWeight 13 = .ok (.goto 4, 3) := mm_dk kX11_isWeight_0 7 rfl
theorem dX11_isWeight_16 : decode cX11_isWeight 16 = .ok (.iconst 0, 1) := mm_dk kX11_isWeight_0 8 rfl
theorem dX11_isWeight_17 : decode cX11_isWeight 17 = .ok (.ireturn, 1) := mm_dk kX11_isWeight_0 9 rfl
set_option maxRecDepth 100000 in
theorem kX11_isWave_0 : ([(0, .iload_n 0, 1), (1, .ifCond .ne 8, 3), (4, .iload_n 1, 1), (5, .invokestatic 128, 3), (8, .ireturn, 1), (9, .iload_n 0, 1), (10, .ifCond .lt 19, 3), (13, .iload_n 0, 1), (14, .iconst 4, 1), (15, .if_icmp .gt 14, 3), (18, .iload_n 2, 1), (19, .ifCond .lt 10, 3), (22, .iload_n 2, 1), (23, .sipush 32767, 3), (26, .if_icmp .le 5, 3), (29, .iconst 0, 1), (30, .ireturn, 1), (31, .iload_n 0, 1), (32, .iconst 2, 1), (33, .if_icmp .ne 15, 3), (36, .iload_n 1, 1), (37, .ifCond .lt 7, 3), (40, .iconst 1, 1), (41, .goto 24, 3), (44, .iconst 0, 1), (45, .goto 20, 3), (48, .iload_n 1, 1), (49, .iconst 2, 1), (50, .if_icmp .lt 14, 3), (53, .iload_n 1, 1), (54, .sipush 640, 3), (57, .if_icmp .gt 7, 3), (60, .iconst 1, 1), (61, .goto 4, 3), (64, .iconst 0, 1), (65, .ireturn, 1)] : List (Nat × Instr × Nat)).all (fun x => decide (decode cX11_isWave x.1 = .ok x.2)) = true := by decide +kernel
theorem dX11_isWave_0 : decode cX11_isWave 0 = .ok (.iload_n 0, 1) := mm_dk kX11_isWave_0 0 rfl
theorem dX11_isWave_1 : decode cX11_isWave 1 = .ok (.ifCond .ne 8, 3) := mm_dk kX11_isWave_0 1 rfl
theorem dX11_isWave_4 : decode cX11_isWave 4 = .ok (.iload_n 1, 1) := mm_dk kX11_isWave_0 2 rfl
theorem dX11_isWave_5 : decode cX11_isWave 5 = .ok (.invokestatic 128, 3) := mm_dk kX11_isWave_0 3 rfl
theorem dX11_isWave_8 : decode cX11_isWave 8 = .ok (.ireturn, 1) := mm_dk kX11_isWave_0 4 rfl
theorem dX11_isWave_9 : decode cX11_isWave 9 = .ok (.iload_n 0, 1) := mm_dk kX11_isWave_0 5 rfl
theorem dX11_isWave_10 : decode cX11_isWave 10 = .ok (.ifCond .lt 19, 3) := mm_dk kX11_isWave_0 6 rfl
theorem dX11_isWave_13 : decode cX11_isWave 13 = .ok (.iload_n 0, 1) := mm_dk kX11_isWave_0 7 rfl
theorem dX11_isWave_14 : decode cX11_isWave 14 = .ok (.iconst 4, 1) := mm_dk kX11_isWave_0 8 rfl
theorem dX11_isWave_15 : decode cX11_isWave 15 = .ok (.if_icmp .gt 14, 3) := mm_dk kX11_isWave_0 9 rfl
theorem dX11_isWave_18 : decode cX11_isWave 18 = .ok (.iload_n 2, 1) := mm_dk kX11_isWave_0 10 rfl
theorem dX11_isWave_19 : decode cX11_isWave 19 = .ok (.ifCond .lt 10, 3) := mm_dk kX11_isWave_0 11 rfl
theorem dX11_isWave_22 : decode cX11_isWave 22 = .ok (.iload_n 2, 1) := mm_dk kX11_isWave_0 12 rfl
theorem dX11_isWave_23 : decode cX11_isWave 23 = .ok (.sipush 32767, 3) := mm_dk kX11_isWave_0 13 rfl
theorem dX11_isWave_26 : decode cX11_isWave 26 = .ok (.if_icmp .le 5, 3) := mm_dk kX11_isWave_0 14 rfl
theorem dX11_isWave_29 : decode cX11_isWave 29 = .ok (.iconst 0, 1) := mm_dk kX11_isWave_0 15 rfl
theorem dX11_isWave_30 : decode cX11_isWave 30 = .ok (.ireturn, 1) := mm_dk kX11_isWave_0 16 rfl
theorem dX11_isWave_31 : decode cX11_isWave 31 = .ok (.iload_n 0, 1) := mm_dk kX11_isWave_0 17 rfl
theorem dX11_isWave_32 : decode cX11_isWave 32 = .ok (.iconst 2, 1) := mm_dk kX11_isWave_0 18 rfl
theorem dX11_isWave_33 : decode cX11_isWave 33 = .ok (.if_icmp .ne 15, 3) := mm_dk kX11_isWave_0 19 rfl
theorem dX11_isWave_36 : decode cX11_isWave 36 = .ok (.iload_n 1, 1) := mm_dk kX11_isWave_0 20 rfl
theorem dX11_isWave_37 : decode cX11_isWave 37 = .ok (.ifCond .lt 7, 3) := mm_dk kX11_isWave_0 21 rfl
theorem dX11_isWave_40 : decode cX11_isWave 40 = .ok (.iconst 1, 1) := mm_dk kX11_isWave_0 22 rfl
theorem dX11_isWave_41 : decode cX11_isWave 41 = .ok (.goto 24, 3) := mm_dk kX11_isWave_0 23 rfl
theorem dX11_isWave_44 : decode cX11_isWave 44 = .ok (.iconst 0, 1) := mm_dk kX11_isWave_0 24 rfl
theorem dX11_isWave_45 : decode cX11_isWave 45 = .ok (.goto 20, 3) := mm_dk kX11_isWave_0 25 rfl
theorem dX11_isWave_48 : decode cX11_isWave 48 = .ok (.iload_n 1, 1) := mm_dk kX11_isWave_0 26 rfl
theorem dX11_isWave_49 : decode cX11_isWave 49 = .ok (.iconst 2, 1) := mm_dk kX11_isWave_0 27 rfl
theorem dX11_isWave_50 : decode cX11_isWave 50 = .ok (.if_icmp .lt 14, 3) := mm_dk kX11_isWave_0 28 rfl
theorem dX11_isWave_53 : decode cX11_isWave 53 = .ok (.iload_n 1, 1) := mm_dk kX11_isWave_0 29 rfl
theorem dX11_isWave_54 : decode cX11_isWave 54 = .ok (.sipush 640, 3) := mm_dk kX11_isWave_0 30 rfl
theorem dX11_isWave_57 : decode cX11_isWave 57 = .ok (.if_icmp .gt 7, 3) := mm_dk kX11_isWave_0 31 rfl
theorem dX11_isWave_60 : decode cX11_isWave 60 = .ok (.iconst 1, 1) := mm_dk kX11_isWave_0 32 rfl
theorem dX11_isWave_61 : decode cX11_isWave 61 = .ok (.goto 4, 3) := mm_dk kX11_isWave_0 33 rfl
theorem dX11_isWave_64 : decode cX11_isWave 64 = .ok (.iconst 0, 1) := mm_dk kX11_isWave_0 34 rfl
theorem dX11_isWave_65 : decode cX11_isWave 65 = .ok (.ireturn, 1) := mm_dk kX11_isWave_0 35 rfl
set_option maxRecDepth 100000 in
theorem kX11_waveAt_0 : ([(0, .iload_n 0, 1), (1, .ifCond .eq 8, 3), (4, .iload_n 1, 1), (5, .iconst 1, 1), (6, .if_icmp .ge 5, 3), (9, .iload_n 1, 1), (10, .ireturn, 1), (11, .iload_n 3, 1), (12, .iload_n 1, 1), (13, .irem, 1), (14, .istore 4, 2), (16, .iload_n 0, 1), (17, .iconst 1, 1), (18, .if_icmp .ne 14, 3), (21, .iconst 2, 1), (22, .iload_n 2, 1), (23, .imul, 1), (24, .iload 4, 2), (26, .imul, 1), (27, .iload_n 1, 1), (28, .idiv, 1), (29, .iload_n 2, 1), (30, .isub, 1), (31, .ireturn, 1), (32, .iload_n 0, 1), (33, .iconst 3, 1), (34, .if_icmp .ne 21, 3), (37, .iconst 2, 1), (38, .iload_n 2, 1), (39, .imul, 1), (40, .iconst 2, 1), (41, .iload 4, 2), (43, .imul, 1), (44, .iload_n 1, 1), (45, .isub, 1), (46, .invokestatic 376, 3), (49, .imul, 1), (50, .iload_n 1, 1), (51, .idiv, 1), (52, .iload_n 2, 1)] : List (Nat × Instr × Nat)).all (fun x => decide (decode cX11_waveAt x.1 = .ok x.2)) = true := by decide +kernel
theorem dX11_waveAt_0 : decode cX11_waveAt 0 = .ok (.iload_n 0, 1) := mm_dk kX11_waveAt_0 0 rfl
theorem dX11_waveAt_1 : decode cX11_waveAt 1 = .ok (.ifCond .eq 8, 3) := mm_dk kX11_waveAt_0 1 rfl
theorem dX11_waveAt_4 : decode cX11_waveAt 4 = .ok (.iload_n 1, 1) := mm_dk kX11_waveAt_0 2 rfl
theorem dX11_waveAt_5 : decode cX11_waveAt 5 = .ok (.iconst 1, 1) := mm_dk kX11_waveAt_0 3 rfl
theorem dX11_waveAt_6 : decode cX11_waveAt 6 = .ok (.if_icmp .ge 5, 3) := mm_dk kX11_waveAt_0 4 rfl
theorem dX11_waveAt_9 : decode cX11_waveAt 9 = .ok (.iload_n 1, 1) := mm_dk kX11_waveAt_0 5 rfl
theorem dX11_waveAt_10 : decode cX11_waveAt 10 = .ok (.ireturn, 1) := mm_dk kX11_waveAt_0 6 rfl
theorem dX11_waveAt_11 : decode cX11_waveAt 11 = .ok (.iload_n 3, 1) := mm_dk kX11_waveAt_0 7 rfl
theorem dX11_waveAt_12 : decode cX11_waveAt 12 = .ok (.iload_n 1, 1) := mm_dk kX11_waveAt_0 8 rfl
theorem dX11_waveAt_13 : decode cX11_waveAt 13 = .ok (.irem, 1) := mm_dk kX11_waveAt_0 9 rfl
theorem dX11_waveAt_14 : decode cX11_waveAt 14 = .ok (.istore 4, 2) := mm_dk kX11_waveAt_0 10 rfl
theorem dX11_waveAt_16 : decode cX11_waveAt 16 = .ok (.iload_n 0, 1) := mm_dk kX11_waveAt_0 11 rfl
theorem dX11_waveAt_17 : decode cX11_waveAt 17 = .ok (.iconst 1, 1) := mm_dk kX11_waveAt_0 12 rfl
theorem dX11_waveAt_18 : decode cX11_waveAt 18 = .ok (.if_icmp .ne 14, 3) := mm_dk kX11_waveAt_0 13 rfl
theorem dX11_waveAt_21 : decode cX11_waveAt 21 = .ok (.iconst 2, 1) := mm_dk kX11_waveAt_0 14 rfl
theorem dX11_waveAt_22 : decode cX11_waveAt 22 = .ok (.iload_n 2, 1) := mm_dk kX11_waveAt_0 15 rfl
theorem dX11_waveAt_23 : decode cX11_waveAt 23 = .ok (.imul, 1) := mm_dk kX11_waveAt_0 16 rfl
theorem dX11_waveAt_24 : decode cX11_waveAt 24 = .ok (.iload 4, 2) := mm_dk kX11_waveAt_0 17 rfl
theorem dX11_waveAt_26 : decode cX11_waveAt 26 = .ok (.imul, 1) := mm_dk kX11_waveAt_0 18 rfl
theorem dX11_waveAt_27 : decode cX11_waveAt 27 = .ok (.iload_n 1, 1) := mm_dk kX11_waveAt_0 19 rfl
theorem dX11_waveAt_28 : decode cX11_waveAt 28 = .ok (.idiv, 1) := mm_dk kX11_waveAt_0 20 rfl
theorem dX11_waveAt_29 : decode cX11_waveAt 29 = .ok (.iload_n 2, 1) := mm_dk kX11_waveAt_0 21 rfl
theorem dX11_waveAt_30 : decode cX11_waveAt 30 = .ok (.isub, 1) := mm_dk kX11_waveAt_0 22 rfl
theorem dX11_waveAt_31 : decode cX11_waveAt 31 = .ok (.ireturn, 1) := mm_dk kX11_waveAt_0 23 rfl
theorem dX11_waveAt_32 : decode cX11_waveAt 32 = .ok (.iload_n 0, 1) := mm_dk kX11_waveAt_0 24 rfl
theorem dX11_waveAt_33 : decode cX11_waveAt 33 = .ok (.iconst 3, 1) := mm_dk kX11_waveAt_0 25 rfl
theorem dX11_waveAt_34 : decode cX11_waveAt 34 = .ok (.if_icmp .ne 21, 3) := mm_dk kX11_waveAt_0 26 rfl
theorem dX11_waveAt_37 : decode cX11_waveAt 37 = .ok (.iconst 2, 1) := mm_dk kX11_waveAt_0 27 rfl
theorem dX11_waveAt_38 : decode cX11_waveAt 38 = .ok (.iload_n 2, 1) := mm_dk kX11_waveAt_0 28 rfl
theorem dX11_waveAt_39 : decode cX11_waveAt 39 = .ok (.imul, 1) := mm_dk kX11_waveAt_0 29 rfl
theorem dX11_waveAt_40 : decode cX11_waveAt 40 = .ok (.iconst 2, 1) := mm_dk kX11_waveAt_0 30 rfl
theorem dX11_waveAt_41 : decode cX11_waveAt 41 = .ok (.iload 4, 2) := mm_dk kX11_waveAt_0 31 rfl
theorem dX11_waveAt_43 : decode cX11_waveAt 43 = .ok (.imul, 1) := mm_dk kX11_waveAt_0 32 rfl
theorem dX11_waveAt_44 : decode cX11_waveAt 44 = .ok (.iload_n 1, 1) := mm_dk kX11_waveAt_0 33 rfl
theorem dX11_waveAt_45 : decode cX11_waveAt 45 = .ok (.isub, 1) := mm_dk kX11_waveAt_0 34 rfl
theorem dX11_waveAt_46 : decode cX11_waveAt 46 = .ok (.invokestatic 376, 3) := mm_dk kX11_waveAt_0 35 rfl
theorem dX11_waveAt_49 : decode cX11_waveAt 49 = .ok (.imul, 1) := mm_dk kX11_waveAt_0 36 rfl
theorem dX11_waveAt_50 : decode cX11_waveAt 50 = .ok (.iload_n 1, 1) := mm_dk kX11_waveAt_0 37 rfl
theorem dX11_waveAt_51 : decode cX11_waveAt 51 = .ok (.idiv, 1) := mm_dk kX11_waveAt_0 38 rfl
theorem dX11_waveAt_52 : decode cX11_waveAt 52 = .ok (.iload_n 2, 1) := mm_dk kX11_waveAt_0 39 rfl
set_option maxRecDepth 100000 in
theorem kX11_waveAt_1 : ([(53, .isub, 1), (54, .ireturn, 1), (55, .iload 4, 2), (57, .ifCond .ne 7, 3), (60, .iload_n 2, 1), (61, .goto 4, 3), (64, .iconst 0, 1), (65, .ireturn, 1)] : List (Nat × Instr × Nat)).all (fun x => decide (decode cX11_waveAt x.1 = .ok x.2)) = true := by decide +kernel
theorem dX11_waveAt_53 : decode cX11_waveAt 53 = .ok (.isub, 1) := mm_dk kX11_waveAt_1 0 rfl
theorem dX11_waveAt_54 : decode cX11_waveAt 54 = .ok (.ireturn, 1) := mm_dk kX11_waveAt_1 1 rfl
theorem dX11_waveAt_55 : decode cX11_waveAt 55 = .ok (.iload 4, 2) := mm_dk kX11_waveAt_1 2 rfl
theorem dX11_waveAt_57 : decode cX11_waveAt 57 = .ok (.ifCond .ne 7, 3) := mm_dk kX11_waveAt_1 3 rfl
theorem dX11_waveAt_60 : decode cX11_waveAt 60 = .ok (.iload_n 2, 1) := mm_dk kX11_waveAt_1 4 rfl
theorem dX11_waveAt_61 : decode cX11_waveAt 61 = .ok (.goto 4, 3) := mm_dk kX11_waveAt_1 5 rfl
theorem dX11_waveAt_64 : decode cX11_waveAt 64 = .ok (.iconst 0, 1) := mm_dk kX11_waveAt_1 6 rfl
theorem dX11_waveAt_65 : decode cX11_waveAt 65 = .ok (.ireturn, 1) := mm_dk kX11_waveAt_1 7 rfl
set_option maxRecDepth 100000 in
theorem kX11_drawnFrom_0 : ([(0, .lload_n 0, 1), (1, .ldc2_w 379, 3), (4, .lmul, 1), (5, .ldc2_w 381, 3), (8, .ladd, 1), (9, .ldc2_w 383, 3), (12, .land, 1), (13, .lreturn, 1)] : List (Nat × Instr × Nat)).all (fun x => decide (decode cX11_drawnFrom x.1 = .ok x.2)) = true := by decide +kernel
theorem dX11_drawnFrom_0 : decode cX11_drawnFrom 0 = .ok (.lload_n 0, 1) := mm_dk kX11_drawnFrom_0 0 rfl
theorem dX11_drawnFrom_1 : decode cX11_drawnFrom 1 = .ok (.ldc2_w 379, 3) := mm_dk kX11_drawnFrom_0 1 rfl
theorem dX11_drawnFrom_4 : decode cX11_drawnFrom 4 = .ok (.lmul, 1) := mm_dk kX11_drawnFrom_0 2 rfl
theorem dX11_drawnFrom_5 : decode cX11_drawnFrom 5 = .ok (.ldc2_w 381, 3) := mm_dk kX11_drawnFrom_0 3 rfl
theorem dX11_drawnFrom_8 : decode cX11_drawnFrom 8 = .ok (.ladd, 1) := mm_dk kX11_drawnFrom_0 4 rfl
theorem dX11_drawnFrom_9 : decode cX11_drawnFrom 9 = .ok (.ldc2_w 383, 3) := mm_dk kX11_drawnFrom_0 5 rfl
theorem dX11_drawnFrom_12 : decode cX11_drawnFrom 12 = .ok (.land, 1) := mm_dk kX11_drawnFrom_0 6 rfl
theorem dX11_drawnFrom_13 : decode cX11_drawnFrom 13 = .ok (.lreturn, 1) := mm_dk kX11_drawnFrom_0 7 rfl
set_option maxRecDepth 100000 in
theorem kX11_drawOf_0 : ([(0, .lload_n 0, 1), (1, .bipush 16, 2), (3, .lshr, 1), (4, .ldc2_w 385, 3), (7, .land, 1), (8, .l2i, 1), (9, .sipush 128, 3), (12, .isub, 1), (13, .ireturn, 1)] : List (Nat × Instr × Nat)).all (fun x => decide (decode cX11_drawOf x.1 = .ok x.2)) = true := by decide +kernel
theorem dX11_drawOf_0 : decode cX11_drawOf 0 = .ok (.lload_n 0, 1) := mm_dk kX11_drawOf_0 0 rfl
theorem dX11_drawOf_1 : decode cX11_drawOf 1 = .ok (.bipush 16, 2) := mm_dk kX11_drawOf_0 1 rfl
theorem dX11_drawOf_3 : decode cX11_drawOf 3 = .ok (.lshr, 1) := mm_dk kX11_drawOf_0 2 rfl
theorem dX11_drawOf_4 : decode cX11_drawOf 4 = .ok (.ldc2_w 385, 3) := mm_dk kX11_drawOf_0 3 rfl
theorem dX11_drawOf_7 : decode cX11_drawOf 7 = .ok (.land, 1) := mm_dk kX11_drawOf_0 4 rfl
theorem dX11_drawOf_8 : decode cX11_drawOf 8 = .ok (.l2i, 1) := mm_dk kX11_drawOf_0 5 rfl
theorem dX11_drawOf_9 : decode cX11_drawOf 9 = .ok (.sipush 128, 3) := mm_dk kX11_drawOf_0 6 rfl
theorem dX11_drawOf_12 : decode cX11_drawOf 12 = .ok (.isub, 1) := mm_dk kX11_drawOf_0 7 rfl
theorem dX11_drawOf_13 : decode cX11_drawOf 13 = .ok (.ireturn, 1) := mm_dk kX11_drawOf_0 8 rfl
set_option maxRecDepth 100000 in
theorem kX11_half_0 : ([(0, .lload_n 0, 1), (1, .lload_n 2, 1), (2, .lmul, 1), (3, .ldc2_w 387, 3), (6, .ladd, 1), (7, .bipush 15, 2), (9, .lshr, 1), (10, .lreturn, 1)] : List (Nat × Instr × Nat)).all (fun x => decide (decode cX11_half x.1 = .ok x.2)) = true := by decide +kernel
theorem dX11_half_0 : decode cX11_half 0 = .ok (.lload_n 0, 1) := mm_dk kX11_half_0 0 rfl
theorem dX11_half_1 : decode cX11_half 1 = .ok (.lload_n 2, 1) := mm_dk kX11_half_0 1 rfl
theorem dX11_half_2 : decode cX11_half 2 = .ok (.lmul, 1) := mm_dk kX11_half_0 2 rfl
theorem dX11_half_3 : decode cX11_half 3 = .ok (.ldc2_w 387, 3) := mm_dk kX11_half_0 3 rfl
theorem dX11_half_6 : decode cX11_half 6 = .ok (.ladd, 1) := mm_dk kX11_half_0 4 rfl
theorem dX11_half_7 : decode cX11_half 7 = .ok (.bipush 15, 2) := mm_dk kX11_half_0 5 rfl
theorem dX11_half_9 : decode cX11_half 9 = .ok (.lshr, 1) := mm_dk kX11_half_0 6 rfl
theorem dX11_half_10 : decode cX11_half 10 = .ok (.lreturn, 1) := mm_dk kX11_half_0 7 rfl
set_option maxRecDepth 100000 in
theorem kX11_frameOf_0 : ([(0, .iload_n 0, 1), (1, .ifCond .ne 9, 3), (4, .sipush 160, 3), (7, .goto 6, 3), (10, .sipush 320, 3), (13, .ireturn, 1)] : List (Nat × Instr × Nat)).all (fun x => decide (decode cX11_frameOf x.1 = .ok x.2)) = true := by decide +kernel
theorem dX11_frameOf_0 : decode cX11_frameOf 0 = .ok (.iload_n 0, 1) := mm_dk kX11_frameOf_0 0 rfl
theorem dX11_frameOf_1 : decode cX11_frameOf 1 = .ok (.ifCond .ne 9, 3) := mm_dk kX11_frameOf_0 1 rfl
theorem dX11_frameOf_4 : decode cX11_frameOf 4 = .ok (.sipush 160, 3) := mm_dk kX11_frameOf_0 2 rfl
theorem dX11_frameOf_7 : decode cX11_frameOf 7 = .ok (.goto 6, 3) := mm_dk kX11_frameOf_0 3 rfl
theorem dX11_frameOf_10 : decode cX11_frameOf 10 = .ok (.sipush 320, 3) := mm_dk kX11_frameOf_0 4 rfl
theorem dX11_frameOf_13 : decode cX11_frameOf 13 = .ok (.ireturn, 1) := mm_dk kX11_frameOf_0 5 rfl
set_option maxRecDepth 100000 in
theorem kX11_partOf_0 : ([(0, .iload_n 0, 1), (1, .invokestatic 154, 3), (4, .iconst 4, 1), (5, .idiv, 1), (6, .ireturn, 1)] : List (Nat × Instr × Nat)).all (fun x => decide (decode cX11_partOf x.1 = .ok x.2)) = true := by decide +kernel
theorem dX11_partOf_0 : decode cX11_partOf 0 = .ok (.iload_n 0, 1) := mm_dk kX11_partOf_0 0 rfl
theorem dX11_partOf_1 : decode cX11_partOf 1 = .ok (.invokestatic 154, 3) := mm_dk kX11_partOf_0 1 rfl
theorem dX11_partOf_4 : decode cX11_partOf 4 = .ok (.iconst 4, 1) := mm_dk kX11_partOf_0 2 rfl
theorem dX11_partOf_5 : decode cX11_partOf 5 = .ok (.idiv, 1) := mm_dk kX11_partOf_0 3 rfl
theorem dX11_partOf_6 : decode cX11_partOf 6 = .ok (.ireturn, 1) := mm_dk kX11_partOf_0 4 rfl
set_option maxRecDepth 100000 in
theorem kX11_lagOf_0 : ([(0, .bipush 20, 2), (2, .iload_n 0, 1), (3, .bipush 127, 2), (5, .iand, 1), (6, .iadd, 1), (7, .ireturn, 1)] : List (Nat × Instr × Nat)).all (fun x => decide (decode cX11_lagOf x.1 = .ok x.2)) = true := by decide +kernel
theorem dX11_lagOf_0 : decode cX11_lagOf 0 = .ok (.bipush 20, 2) := mm_dk kX11_lagOf_0 0 rfl
theorem dX11_lagOf_2 : decode cX11_lagOf 2 = .ok (.iload_n 0, 1) := mm_dk kX11_lagOf_0 1 rfl
theorem dX11_lagOf_3 : decode cX11_lagOf 3 = .ok (.bipush 127, 2) := mm_dk kX11_lagOf_0 2 rfl
theorem dX11_lagOf_5 : decode cX11_lagOf 5 = .ok (.iand, 1) := mm_dk kX11_lagOf_0 3 rfl
theorem dX11_lagOf_6 : decode cX11_lagOf 6 = .ok (.iadd, 1) := mm_dk kX11_lagOf_0 4 rfl
theorem dX11_lagOf_7 : decode cX11_lagOf 7 = .ok (.ireturn, 1) := mm_dk kX11_lagOf_0 5 rfl
set_option maxRecDepth 100000 in
theorem kX11_sumOf_0 : ([(0, .sipush 165, 3), (3, .istore_n 1, 1), (4, .iconst 0, 1), (5, .istore_n 2, 1), (6, .iload_n 2, 1), (7, .aload_n 0, 1), (8, .arraylength, 1), (9, .iconst 1, 1), (10, .isub, 1), (11, .if_icmp .ge 15, 3), (14, .iload_n 1, 1), (15, .aload_n 0, 1), (16, .iload_n 2, 1), (17, .baload, 1), (18, .ixor, 1), (19, .istore_n 1, 1), (20, .iinc 2 1, 3), (23, .goto (-17), 3), (26, .iload_n 1, 1), (27, .i2b, 1), (28, .ireturn, 1)] : List (Nat × Instr × Nat)).all (fun x => decide (decode cX11_sumOf x.1 = .ok x.2)) = true := by decide +kernel
theorem dX11_sumOf_0 : decode cX11_sumOf 0 = .ok (.sipush 165, 3) := mm_dk kX11_sumOf_0 0 rfl
theorem dX11_sumOf_3 : decode cX11_sumOf 3 = .ok (.istore_n 1, 1) := mm_dk kX11_sumOf_0 1 rfl
theorem dX11_sumOf_4 : decode cX11_sumOf 4 = .ok (.iconst 0, 1) := mm_dk kX11_sumOf_0 2 rfl
theorem dX11_sumOf_5 : decode cX11_sumOf 5 = .ok (.istore_n 2, 1) := mm_dk kX11_sumOf_0 3 rfl
theorem dX11_sumOf_6 : decode cX11_sumOf 6 = .ok (.iload_n 2, 1) := mm_dk kX11_sumOf_0 4 rfl
theorem dX11_sumOf_7 : decode cX11_sumOf 7 = .ok (.aload_n 0, 1) := mm_dk kX11_sumOf_0 5 rfl
theorem dX11_sumOf_8 : decode cX11_sumOf 8 = .ok (.arraylength, 1) := mm_dk kX11_sumOf_0 6 rfl
theorem dX11_sumOf_9 : decode cX11_sumOf 9 = .ok (.iconst 1, 1) := mm_dk kX11_sumOf_0 7 rfl
theorem dX11_sumOf_10 : decode cX11_sumOf 10 = .ok (.isub, 1) := mm_dk kX11_sumOf_0 8 rfl
theorem dX11_sumOf_11 : decode cX11_sumOf 11 = .ok (.if_icmp .ge 15, 3) := mm_dk kX11_sumOf_0 9 rfl
theorem dX11_sumOf_14 : decode cX11_sumOf 14 = .ok (.iload_n 1, 1) := mm_dk kX11_sumOf_0 10 rfl
theorem dX11_sumOf_15 : decode cX11_sumOf 15 = .ok (.aload_n 0, 1) := mm_dk kX11_sumOf_0 11 rfl
theorem dX11_sumOf_16 : decode cX11_sumOf 16 = .ok (.iload_n 2, 1) := mm_dk kX11_sumOf_0 12 rfl
theorem dX11_sumOf_17 : decode cX11_sumOf 17 = .ok (.baload, 1) := mm_dk kX11_sumOf_0 13 rfl
theorem dX11_sumOf_18 : decode cX11_sumOf 18 = .ok (.ixor, 1) := mm_dk kX11_sumOf_0 14 rfl
theorem dX11_sumOf_19 : decode cX11_sumOf 19 = .ok (.istore_n 1, 1) := mm_dk kX11_sumOf_0 15 rfl
theorem dX11_sumOf_20 : decode cX11_sumOf 20 = .ok (.iinc 2 1, 3) := mm_dk kX11_sumOf_0 16 rfl
theorem dX11_sumOf_23 : decode cX11_sumOf 23 = .ok (.goto (-17), 3) := mm_dk kX11_sumOf_0 17 rfl
theorem dX11_sumOf_26 : decode cX11_sumOf 26 = .ok (.iload_n 1, 1) := mm_dk kX11_sumOf_0 18 rfl
theorem dX11_sumOf_27 : decode cX11_sumOf 27 = .ok (.i2b, 1) := mm_dk kX11_sumOf_0 19 rfl
theorem dX11_sumOf_28 : decode cX11_sumOf 28 = .ok (.ireturn, 1) := mm_dk kX11_sumOf_0 20 rfl
set_option maxRecDepth 100000 in
theorem kX11_lookBehind_0 : ([(0, .sipush 160, 3), (3, .iload_n 1, 1), (4, .isub, 1), (5, .istore 4, 2), (7, .iconst 0, 1), (8, .istore 5, 2), (10, .iconst 0, 1), (11, .istore 6, 2), (13, .iload 6, 2), (15, .iload_n 3, 1), (16, .if_icmp .ge 38, 3), (19, .aload_n 2, 1), (20, .iload 6, 2), (22, .aload_n 0, 1), (23, .iload 4, 2), (25, .iload 5, 2), (27, .iadd, 1), (28, .iaload, 1), (29, .iastore, 1), (30, .iload 5, 2), (32, .iconst 1, 1), (33, .iadd, 1), (34, .iload_n 1, 1), (35, .if_icmp .ge 10, 3), (38, .iload 5, 2), (40, .iconst 1, 1), (41, .iadd, 1), (42, .goto 4, 3), (45, .iconst 0, 1), (46, .istore 5, 2), (48, .iinc 6 1, 3), (51, .goto (-38), 3), (54, .return_, 1)] : List (Nat × Instr × Nat)).all (fun x => decide (decode cX11_lookBehind x.1 = .ok x.2)) = true := by decide +kernel
theorem dX11_lookBehind_0 : decode cX11_lookBehind 0 = .ok (.sipush 160, 3) := mm_dk kX11_lookBehind_0 0 rfl
theorem dX11_lookBehind_3 : decode cX11_lookBehind 3 = .ok (.iload_n 1, 1) := mm_dk kX11_lookBehind_0 1 rfl
theorem dX11_lookBehind_4 : decode cX11_lookBehind 4 = .ok (.isub, 1) := mm_dk kX11_lookBehind_0 2 rfl
theorem dX11_lookBehind_5 : decode cX11_lookBehind 5 = .ok (.istore 4, 2) := mm_dk kX11_lookBehind_0 3 rfl
theorem dX11_lookBehind_7 : decode cX11_lookBehind 7 = .ok (.iconst 0, 1) := mm_dk kX11_lookBehind_0 4 rfl
theorem dX11_lookBehind_8 : decode cX11_lookBehind 8 = .ok (.istore 5, 2) := mm_dk kX11_lookBehind_0 5 rfl
theorem dX11_lookBehind_10 : decode cX11_lookBehind 10 = .ok (.iconst 0, 1) := mm_dk kX11_lookBehind_0 6 rfl
theorem dX11_lookBehind_11 : decode cX11_lookBehind 11 = .ok (.istore 6, 2) := mm_dk kX11_lookBehind_0 7 rfl
theorem dX11_lookBehind_13 : decode cX11_lookBehind 13 = .ok (.iload 6, 2) := mm_dk kX11_lookBehind_0 8 rfl
theorem dX11_lookBehind_15 : decode cX11_lookBehind 15 = .ok (.iload_n 3, 1) := mm_dk kX11_lookBehind_0 9 rfl
theorem dX11_lookBehind_16 : decode cX11_lookBehind 16 = .ok (.if_icmp .ge 38, 3) := mm_dk kX11_lookBehind_0 10 rfl
theorem dX11_lookBehind_19 : decode cX11_lookBehind 19 = .ok (.aload_n 2, 1) := mm_dk kX11_lookBehind_0 11 rfl
theorem dX11_lookBehind_20 : decode cX11_lookBehind 20 = .ok (.iload 6, 2) := mm_dk kX11_lookBehind_0 12 rfl
theorem dX11_lookBehind_22 : decode cX11_lookBehind 22 = .ok (.aload_n 0, 1) := mm_dk kX11_lookBehind_0 13 rfl
theorem dX11_lookBehind_23 : decode cX11_lookBehind 23 = .ok (.iload 4, 2) := mm_dk kX11_lookBehind_0 14 rfl
theorem dX11_lookBehind_25 : decode cX11_lookBehind 25 = .ok (.iload 5, 2) := mm_dk kX11_lookBehind_0 15 rfl
theorem dX11_lookBehind_27 : decode cX11_lookBehind 27 = .ok (.iadd, 1) := mm_dk kX11_lookBehind_0 16 rfl
theorem dX11_lookBehind_28 : decode cX11_lookBehind 28 = .ok (.iaload, 1) := mm_dk kX11_lookBehind_0 17 rfl
theorem dX11_lookBehind_29 : decode cX11_lookBehind 29 = .ok (.iastore, 1) := mm_dk kX11_lookBehind_0 18 rfl
theorem dX11_lookBehind_30 : decode cX11_lookBehind 30 = .ok (.iload 5, 2) := mm_dk kX11_lookBehind_0 19 rfl
theorem dX11_lookBehind_32 : decode cX11_lookBehind 32 = .ok (.iconst 1, 1) := mm_dk kX11_lookBehind_0 20 rfl
theorem dX11_lookBehind_33 : decode cX11_lookBehind 33 = .ok (.iadd, 1) := mm_dk kX11_lookBehind_0 21 rfl
theorem dX11_lookBehind_34 : decode cX11_lookBehind 34 = .ok (.iload_n 1, 1) := mm_dk kX11_lookBehind_0 22 rfl
theorem dX11_lookBehind_35 : decode cX11_lookBehind 35 = .ok (.if_icmp .ge 10, 3) := mm_dk kX11_lookBehind_0 23 rfl
theorem dX11_lookBehind_38 : decode cX11_lookBehind 38 = .ok (.iload 5, 2) := mm_dk kX11_lookBehind_0 24 rfl
theorem dX11_lookBehind_40 : decode cX11_lookBehind 40 = .ok (.iconst 1, 1) := mm_dk kX11_lookBehind_0 25 rfl
theorem dX11_lookBehind_41 : decode cX11_lookBehind 41 = .ok (.iadd, 1) := mm_dk kX11_lookBehind_0 26 rfl
theorem dX11_lookBehind_42 : decode cX11_lookBehind 42 = .ok (.goto 4, 3) := mm_dk kX11_lookBehind_0 27 rfl
theorem dX11_lookBehind_45 : decode cX11_lookBehind 45 = .ok (.iconst 0, 1) := mm_dk kX11_lookBehind_0 28 rfl
theorem dX11_lookBehind_46 : decode cX11_lookBehind 46 = .ok (.istore 5, 2) := mm_dk kX11_lookBehind_0 29 rfl
theorem dX11_lookBehind_48 : decode cX11_lookBehind 48 = .ok (.iinc 6 1, 3) := mm_dk kX11_lookBehind_0 30 rfl
theorem dX11_lookBehind_51 : decode cX11_lookBehind 51 = .ok (.goto (-38), 3) := mm_dk kX11_lookBehind_0 31 rfl
theorem dX11_lookBehind_54 : decode cX11_lookBehind 54 = .ok (.return_, 1) := mm_dk kX11_lookBehind_0 32 rfl
