theorem mm_dk {c : ByteArray} {L : List (Nat × Instr × Nat)} (h : L.all (fun x => decide (decode c x.1 = .ok x.2)) = true) (i : Nat) {pc : Nat} {a : Instr × Nat} (hi : L[i]? = some (pc, a)) : decode c pc = .ok a := by
  have h1 := List.all_eq_true.mp h (pc, a) (List.mem_of_getElem? hi)
  have h2 : decide (decode c pc = .ok a) = true := h1
  exact of_decide_eq_true h2
set_option maxRecDepth 100000 in
theorem kX0_init_0 : ([(0, .aload_n 0, 1), (1, .invokespecial 3, 3), (4, .aload_n 0, 1), (5, .sipush 640, 3), (8, .newarray .int, 2), (10, .putfield 9, 3), (13, .aload_n 0, 1), (14, .new 15, 3), (17, .dup, 1), (18, .invokespecial 17, 3), (21, .putfield 18, 3), (24, .aload_n 0, 1), (25, .new 22, 3), (28, .dup, 1), (29, .iload_n 1, 1), (30, .aload_n 2, 1), (31, .aload_n 3, 1), (32, .aload 4, 2), (34, .invokespecial 24, 3), (37, .putfield 27, 3), (40, .aload_n 0, 1), (41, .new 31, 3), (44, .dup, 1), (45, .iload_n 1, 1), (46, .aload_n 2, 1), (47, .aload_n 3, 1), (48, .invokespecial 33, 3), (51, .putfield 36, 3), (54, .return_, 1)] : List (Nat × Instr × Nat)).all (fun x => decide (decode cX0_init x.1 = .ok x.2)) = true := by decide +kernel
theorem dX0_init_0 : decode cX0_init 0 = .ok (.aload_n 0, 1) := mm_dk kX0_init_0 0 rfl
theorem dX0_init_1 : decode cX0_init 1 = .ok (.invokespecial 3, 3) := mm_dk kX0_init_0 1 rfl
theorem dX0_init_4 : decode cX0_init 4 = .ok (.aload_n 0, 1) := mm_dk kX0_init_0 2 rfl
theorem dX0_init_5 : decode cX0_init 5 = .ok (.sipush 640, 3) := mm_dk kX0_init_0 3 rfl
theorem dX0_init_8 : decode cX0_init 8 = .ok (.newarray .int, 2) := mm_dk kX0_init_0 4 rfl
theorem dX0_init_10 : decode cX0_init 10 = .ok (.putfield 9, 3) := mm_dk kX0_init_0 5 rfl
theorem dX0_init_13 : decode cX0_init 13 = .ok (.aload_n 0, 1) := mm_dk kX0_init_0 6 rfl
theorem dX0_init_14 : decode cX0_init 14 = .ok (.new 15, 3) := mm_dk kX0_init_0 7 rfl
theorem dX0_init_17 : decode cX0_init 17 = .ok (.dup, 1) := mm_dk kX0_init_0 8 rfl
theorem dX0_init_18 : decode cX0_init 18 = .ok (.invokespecial 17, 3) := mm_dk kX0_init_0 9 rfl
theorem dX0_init_21 : decode cX0_init 21 = .ok (.putfield 18, 3) := mm_dk kX0_init_0 10 rfl
theorem dX0_init_24 : decode cX0_init 24 = .ok (.aload_n 0, 1) := mm_dk kX0_init_0 11 rfl
theorem dX0_init_25 : decode cX0_init 25 = .ok (.new 22, 3) := mm_dk kX0_init_0 12 rfl
theorem dX0_init_28 : decode cX0_init 28 = .ok (.dup, 1) := mm_dk kX0_init_0 13 rfl
theorem dX0_init_29 : decode cX0_init 29 = .ok (.iload_n 1, 1) := mm_dk kX0_init_0 14 rfl
theorem dX0_init_30 : decode cX0_init 30 = .ok (.aload_n 2, 1) := mm_dk kX0_init_0 15 rfl
theorem dX0_init_31 : decode cX0_init 31 = .ok (.aload_n 3, 1) := mm_dk kX0_init_0 16 rfl
theorem dX0_init_32 : decode cX0_init 32 = .ok (.aload 4, 2) := mm_dk kX0_init_0 17 rfl
theorem dX0_init_34 : decode cX0_init 34 = .ok (.invokespecial 24, 3) := mm_dk kX0_init_0 18 rfl
theorem dX0_init_37 : decode cX0_init 37 = .ok (.putfield 27, 3) := mm_dk kX0_init_0 19 rfl
theorem dX0_init_40 : decode cX0_init 40 = .ok (.aload_n 0, 1) := mm_dk kX0_init_0 20 rfl
theorem dX0_init_41 : decode cX0_init 41 = .ok (.new 31, 3) := mm_dk kX0_init_0 21 rfl
theorem dX0_init_44 : decode cX0_init 44 = .ok (.dup, 1) := mm_dk kX0_init_0 22 rfl
theorem dX0_init_45 : decode cX0_init 45 = .ok (.iload_n 1, 1) := mm_dk kX0_init_0 23 rfl
theorem dX0_init_46 : decode cX0_init 46 = .ok (.aload_n 2, 1) := mm_dk kX0_init_0 24 rfl
theorem dX0_init_47 : decode cX0_init 47 = .ok (.aload_n 3, 1) := mm_dk kX0_init_0 25 rfl
theorem dX0_init_48 : decode cX0_init 48 = .ok (.invokespecial 33, 3) := mm_dk kX0_init_0 26 rfl
theorem dX0_init_51 : decode cX0_init 51 = .ok (.putfield 36, 3) := mm_dk kX0_init_0 27 rfl
theorem dX0_init_54 : decode cX0_init 54 = .ok (.return_, 1) := mm_dk kX0_init_0 28 rfl
set_option maxRecDepth 100000 in
theorem kX0_addSample_0 : ([(0, .aload_n 0, 1), (1, .getfield 40, 3), (4, .sipush 640, 3), (7, .if_icmp .ge 23, 3), (10, .aload_n 0, 1), (11, .getfield 9, 3), (14, .aload_n 0, 1), (15, .getfield 40, 3), (18, .iload_n 1, 1), (19, .iastore, 1), (20, .aload_n 0, 1), (21, .dup, 1), (22, .getfield 40, 3), (25, .iconst 1, 1), (26, .iadd, 1), (27, .putfield 40, 3), (30, .return_, 1)] : List (Nat × Instr × Nat)).all (fun x => decide (decode cX0_addSample x.1 = .ok x.2)) = true := by decide +kernel
theorem dX0_addSample_0 : decode cX0_addSample 0 = .ok (.aload_n 0, 1) := mm_dk kX0_addSample_0 0 rfl
theorem dX0_addSample_1 : decode cX0_addSample 1 = .ok (.getfield 40, 3) := mm_dk kX0_addSample_0 1 rfl
theorem dX0_addSample_4 : decode cX0_addSample 4 = .ok (.sipush 640, 3) := mm_dk kX0_addSample_0 2 rfl
theorem dX0_addSample_7 : decode cX0_addSample 7 = .ok (.if_icmp .ge 23, 3) := mm_dk kX0_addSample_0 3 rfl
theorem dX0_addSample_10 : decode cX0_addSample 10 = .ok (.aload_n 0, 1) := mm_dk kX0_addSample_0 4 rfl
theorem dX0_addSample_11 : decode cX0_addSample 11 = .ok (.getfield 9, 3) := mm_dk kX0_addSample_0 5 rfl
theorem dX0_addSample_14 : decode cX0_addSample 14 = .ok (.aload_n 0, 1) := mm_dk kX0_addSample_0 6 rfl
theorem dX0_addSample_15 : decode cX0_addSample 15 = .ok (.getfield 40, 3) := mm_dk kX0_addSample_0 7 rfl
theorem dX0_addSample_18 : decode cX0_addSample 18 = .ok (.iload_n 1, 1) := mm_dk kX0_addSample_0 8 rfl
theorem dX0_addSample_19 : decode cX0_addSample 19 = .ok (.iastore, 1) := mm_dk kX0_addSample_0 9 rfl
theorem dX0_addSample_20 : decode cX0_addSample 20 = .ok (.aload_n 0, 1) := mm_dk kX0_addSample_0 10 rfl
theorem dX0_addSample_21 : decode cX0_addSample 21 = .ok (.dup, 1) := mm_dk kX0_addSample_0 11 rfl
theorem dX0_addSample_22 : decode cX0_addSample 22 = .ok (.getfield 40, 3) := mm_dk kX0_addSample_0 12 rfl
theorem dX0_addSample_25 : decode cX0_addSample 25 = .ok (.iconst 1, 1) := mm_dk kX0_addSample_0 13 rfl
theorem dX0_addSample_26 : decode cX0_addSample 26 = .ok (.iadd, 1) := mm_dk kX0_addSample_0 14 rfl
theorem dX0_addSample_27 : decode cX0_addSample 27 = .ok (.putfield 40, 3) := mm_dk kX0_addSample_0 15 rfl
theorem dX0_addSample_30 : decode cX0_addSample 30 = .ok (.return_, 1) := mm_dk kX0_addSample_0 16 rfl
set_option maxRecDepth 100000 in
theorem kX0_takeWaiting_0 : ([(0, .iload_n 1, 1), (1, .aload_n 0, 1), (2, .getfield 40, 3), (5, .if_icmp .gt 9, 3), (8, .iload_n 1, 1), (9, .aload_n 2, 1), (10, .arraylength, 1), (11, .if_icmp .le 4, 3), (14, .return_, 1), (15, .aload_n 0, 1), (16, .getfield 9, 3), (19, .iconst 0, 1), (20, .aload_n 2, 1), (21, .iconst 0, 1), (22, .iload_n 1, 1), (23, .invokestatic 44, 3), (26, .aload_n 0, 1), (27, .dup, 1), (28, .getfield 40, 3), (31, .iload_n 1, 1), (32, .isub, 1), (33, .putfield 40, 3), (36, .aload_n 0, 1), (37, .getfield 9, 3), (40, .iload_n 1, 1), (41, .aload_n 0, 1), (42, .getfield 9, 3), (45, .iconst 0, 1), (46, .aload_n 0, 1), (47, .getfield 40, 3), (50, .invokestatic 44, 3), (53, .return_, 1)] : List (Nat × Instr × Nat)).all (fun x => decide (decode cX0_takeWaiting x.1 = .ok x.2)) = true := by decide +kernel
theorem dX0_takeWaiting_0 : decode cX0_takeWaiting 0 = .ok (.iload_n 1, 1) := mm_dk kX0_takeWaiting_0 0 rfl
theorem dX0_takeWaiting_1 : decode cX0_takeWaiting 1 = .ok (.aload_n 0, 1) := mm_dk kX0_takeWaiting_0 1 rfl
theorem dX0_takeWaiting_2 : decode cX0_takeWaiting 2 = .ok (.getfield 40, 3) := mm_dk kX0_takeWaiting_0 2 rfl
theorem dX0_takeWaiting_5 : decode cX0_takeWaiting 5 = .ok (.if_icmp .gt 9, 3) := mm_dk kX0_takeWaiting_0 3 rfl
theorem dX0_takeWaiting_8 : decode cX0_takeWaiting 8 = .ok (.iload_n 1, 1) := mm_dk kX0_takeWaiting_0 4 rfl
theorem dX0_takeWaiting_9 : decode cX0_takeWaiting 9 = .ok (.aload_n 2, 1) := mm_dk kX0_takeWaiting_0 5 rfl
theorem dX0_takeWaiting_10 : decode cX0_takeWaiting 10 = .ok (.arraylength, 1) := mm_dk kX0_takeWaiting_0 6 rfl
theorem dX0_takeWaiting_11 : decode cX0_takeWaiting 11 = .ok (.if_icmp .le 4, 3) := mm_dk kX0_takeWaiting_0 7 rfl
theorem dX0_takeWaiting_14 : decode cX0_takeWaiting 14 = .ok (.return_, 1) := mm_dk kX0_takeWaiting_0 8 rfl
theorem dX0_takeWaiting_15 : decode cX0_takeWaiting 15 = .ok (.aload_n 0, 1) := mm_dk kX0_takeWaiting_0 9 rfl
theorem dX0_takeWaiting_16 : decode cX0_takeWaiting 16 = .ok (.getfield 9, 3) := mm_dk kX0_takeWaiting_0 10 rfl
theorem dX0_takeWaiting_19 : decode cX0_takeWaiting 19 = .ok (.iconst 0, 1) := mm_dk kX0_takeWaiting_0 11 rfl
theorem dX0_takeWaiting_20 : decode cX0_takeWaiting 20 = .ok (.aload_n 2, 1) := mm_dk kX0_takeWaiting_0 12 rfl
theorem dX0_takeWaiting_21 : decode cX0_takeWaiting 21 = .ok (.iconst 0, 1) := mm_dk kX0_takeWaiting_0 13 rfl
theorem dX0_takeWaiting_22 : decode cX0_takeWaiting 22 = .ok (.iload_n 1, 1) := mm_dk kX0_takeWaiting_0 14 rfl
theorem dX0_takeWaiting_23 : decode cX0_takeWaiting 23 = .ok (.invokestatic 44, 3) := mm_dk kX0_takeWaiting_0 15 rfl
theorem dX0_takeWaiting_26 : decode cX0_takeWaiting 26 = .ok (.aload_n 0, 1) := mm_dk kX0_takeWaiting_0 16 rfl
theorem dX0_takeWaiting_27 : decode cX0_takeWaiting 27 = .ok (.dup, 1) := mm_dk kX0_takeWaiting_0 17 rfl
theorem dX0_takeWaiting_28 : decode cX0_takeWaiting 28 = .ok (.getfield 40, 3) := mm_dk kX0_takeWaiting_0 18 rfl
theorem dX0_takeWaiting_31 : decode cX0_takeWaiting 31 = .ok (.iload_n 1, 1) := mm_dk kX0_takeWaiting_0 19 rfl
theorem dX0_takeWaiting_32 : decode cX0_takeWaiting 32 = .ok (.isub, 1) := mm_dk kX0_takeWaiting_0 20 rfl
theorem dX0_takeWaiting_33 : decode cX0_takeWaiting 33 = .ok (.putfield 40, 3) := mm_dk kX0_takeWaiting_0 21 rfl
theorem dX0_takeWaiting_36 : decode cX0_takeWaiting 36 = .ok (.aload_n 0, 1) := mm_dk kX0_takeWaiting_0 22 rfl
theorem dX0_takeWaiting_37 : decode cX0_takeWaiting 37 = .ok (.getfield 9, 3) := mm_dk kX0_takeWaiting_0 23 rfl
theorem dX0_takeWaiting_40 : decode cX0_takeWaiting 40 = .ok (.iload_n 1, 1) := mm_dk kX0_takeWaiting_0 24 rfl
theorem dX0_takeWaiting_41 : decode cX0_takeWaiting 41 = .ok (.aload_n 0, 1) := mm_dk kX0_takeWaiting_0 25 rfl
theorem dX0_takeWaiting_42 : decode cX0_takeWaiting 42 = .ok (.getfield 9, 3) := mm_dk kX0_takeWaiting_0 26 rfl
theorem dX0_takeWaiting_45 : decode cX0_takeWaiting 45 = .ok (.iconst 0, 1) := mm_dk kX0_takeWaiting_0 27 rfl
theorem dX0_takeWaiting_46 : decode cX0_takeWaiting 46 = .ok (.aload_n 0, 1) := mm_dk kX0_takeWaiting_0 28 rfl
theorem dX0_takeWaiting_47 : decode cX0_takeWaiting 47 = .ok (.getfield 40, 3) := mm_dk kX0_takeWaiting_0 29 rfl
theorem dX0_takeWaiting_50 : decode cX0_takeWaiting 50 = .ok (.invokestatic 44, 3) := mm_dk kX0_takeWaiting_0 30 rfl
theorem dX0_takeWaiting_53 : decode cX0_takeWaiting 53 = .ok (.return_, 1) := mm_dk kX0_takeWaiting_0 31 rfl
set_option maxRecDepth 100000 in
theorem kX1_init_0 : ([(0, .aload_n 0, 1), (1, .invokespecial 3, 3), (4, .aload_n 0, 1), (5, .new 9, 3), (8, .dup, 1), (9, .invokespecial 11, 3), (12, .putfield 12, 3), (15, .aload_n 0, 1), (16, .iconst 4, 1), (17, .anewarray 18, 3), (20, .dup, 1), (21, .iconst 0, 1), (22, .new 18, 3), (25, .dup, 1), (26, .iconst 0, 1), (27, .invokespecial 20, 3), (30, .aastore, 1), (31, .dup, 1), (32, .iconst 1, 1), (33, .new 18, 3), (36, .dup, 1), (37, .iconst 0, 1), (38, .invokespecial 20, 3), (41, .aastore, 1), (42, .dup, 1), (43, .iconst 2, 1), (44, .new 18, 3), (47, .dup, 1), (48, .iconst 0, 1), (49, .invokespecial 20, 3), (52, .aastore, 1), (53, .dup, 1), (54, .iconst 3, 1), (55, .new 18, 3), (58, .dup, 1), (59, .iconst 0, 1), (60, .invokespecial 20, 3), (63, .aastore, 1), (64, .putfield 23, 3), (67, .aload_n 0, 1)] : List (Nat × Instr × Nat)).all (fun x => decide (decode cX1_init x.1 = .ok x.2)) = true := by decide +kernel
theorem dX1_init_0 : decode cX1_init 0 = .ok (.aload_n 0, 1) := mm_dk kX1_init_0 0 rfl
theorem dX1_init_1 : decode cX1_init 1 = .ok (.invokespecial 3, 3) := mm_dk kX1_init_0 1 rfl
theorem dX1_init_4 : decode cX1_init 4 = .ok (.aload_n 0, 1) := mm_dk kX1_init_0 2 rfl
theorem dX1_init_5 : decode cX1_init 5 = .ok (.new 9, 3) := mm_dk kX1_init_0 3 rfl
theorem dX1_init_8 : decode cX1_init 8 = .ok (.dup, 1) := mm_dk kX1_init_0 4 rfl
theorem dX1_init_9 : decode cX1_init 9 = .ok (.invokespecial 11, 3) := mm_dk kX1_init_0 5 rfl
theorem dX1_init_12 : decode cX1_init 12 = .ok (.putfield 12, 3) := mm_dk kX1_init_0 6 rfl
theorem dX1_init_15 : decode cX1_init 15 = .ok (.aload_n 0, 1) := mm_dk kX1_init_0 7 rfl
theorem dX1_init_16 : decode cX1_init 16 = .ok (.iconst 4, 1) := mm_dk kX1_init_0 8 rfl
theorem dX1_init_17 : decode cX1_init 17 = .ok (.anewarray 18, 3) := mm_dk kX1_init_0 9 rfl
theorem dX1_init_20 : decode cX1_init 20 = .ok (.dup, 1) := mm_dk kX1_init_0 10 rfl
theorem dX1_init_21 : decode cX1_init 21 = .ok (.iconst 0, 1) := mm_dk kX1_init_0 11 rfl
theorem dX1_init_22 : decode cX1_init 22 = .ok (.new 18, 3) := mm_dk kX1_init_0 12 rfl
theorem dX1_init_25 : decode cX1_init 25 = .ok (.dup, 1) := mm_dk kX1_init_0 13 rfl
theorem dX1_init_26 : decode cX1_init 26 = .ok (.iconst 0, 1) := mm_dk kX1_init_0 14 rfl
theorem dX1_init_27 : decode cX1_init 27 = .ok (.invokespecial 20, 3) := mm_dk kX1_init_0 15 rfl
theorem dX1_init_30 : decode cX1_init 30 = .ok (.aastore, 1) := mm_dk kX1_init_0 16 rfl
theorem dX1_init_31 : decode cX1_init 31 = .ok (.dup, 1) := mm_dk kX1_init_0 17 rfl
theorem dX1_init_32 : decode cX1_init 32 = .ok (.iconst 1, 1) := mm_dk kX1_init_0 18 rfl
theorem dX1_init_33 : decode cX1_init 33 = .ok (.new 18, 3) := mm_dk kX1_init_0 19 rfl
theorem dX1_init_36 : decode cX1_init 36 = .ok (.dup, 1) := mm_dk kX1_init_0 20 rfl
theorem dX1_init_37 : decode cX1_init 37 = .ok (.iconst 0, 1) := mm_dk kX1_init_0 21 rfl
theorem dX1_init_38 : decode cX1_init 38 = .ok (.invokespecial 20, 3) := mm_dk kX1_init_0 22 rfl
theorem dX1_init_41 : decode cX1_init 41 = .ok (.aastore, 1) := mm_dk kX1_init_0 23 rfl
theorem dX1_init_42 : decode cX1_init 42 = .ok (.dup, 1) := mm_dk kX1_init_0 24 rfl
theorem dX1_init_43 : decode cX1_init 43 = .ok (.iconst 2, 1) := mm_dk kX1_init_0 25 rfl
theorem dX1_init_44 : decode cX1_init 44 = .ok (.new 18, 3) := mm_dk kX1_init_0 26 rfl
theorem dX1_init_47 : decode cX1_init 47 = .ok (.dup, 1) := mm_dk kX1_init_0 27 rfl
theorem dX1_init_48 : decode cX1_init 48 = .ok (.iconst 0, 1) := mm_dk kX1_init_0 28 rfl
theorem dX1_init_49 : decode cX1_init 49 = .ok (.invokespecial 20, 3) := mm_dk kX1_init_0 29 rfl
theorem dX1_init_52 : decode cX1_init 52 = .ok (.aastore, 1) := mm_dk kX1_init_0 30 rfl
theorem dX1_init_53 : decode cX1_init 53 = .ok (.dup, 1) := mm_dk kX1_init_0 31 rfl
theorem dX1_init_54 : decode cX1_init 54 = .ok (.iconst 3, 1) := mm_dk kX1_init_0 32 rfl
theorem dX1_init_55 : decode cX1_init 55 = .ok (.new 18, 3) := mm_dk kX1_init_0 33 rfl
theorem dX1_init_58 : decode cX1_init 58 = .ok (.dup, 1) := mm_dk kX1_init_0 34 rfl
theorem dX1_init_59 : decode cX1_init 59 = .ok (.iconst 0, 1) := mm_dk kX1_init_0 35 rfl
theorem dX1_init_60 : decode cX1_init 60 = .ok (.invokespecial 20, 3) := mm_dk kX1_init_0 36 rfl
theorem dX1_init_63 : decode cX1_init 63 = .ok (.aastore, 1) := mm_dk kX1_init_0 37 rfl
theorem dX1_init_64 : decode cX1_init 64 = .ok (.putfield 23, 3) := mm_dk kX1_init_0 38 rfl
theorem dX1_init_67 : decode cX1_init 67 = .ok (.aload_n 0, 1) := mm_dk kX1_init_0 39 rfl
set_option maxRecDepth 100000 in
theorem kX1_init_1 : ([(68, .sipush 321, 3), (71, .newarray .int, 2), (73, .putfield 27, 3), (76, .aload_n 0, 1), (77, .sipush 2000, 3), (80, .putfield 31, 3), (83, .aload_n 0, 1), (84, .iload_n 1, 1), (85, .putfield 35, 3), (88, .aload_n 0, 1), (89, .aload_n 2, 1), (90, .putfield 38, 3), (93, .aload_n 0, 1), (94, .aload_n 3, 1), (95, .putfield 42, 3), (98, .aload_n 0, 1), (99, .new 46, 3), (102, .dup, 1), (103, .aload_n 2, 1), (104, .aload_n 3, 1), (105, .invokespecial 48, 3), (108, .putfield 51, 3), (111, .return_, 1)] : List (Nat × Instr × Nat)).all (fun x => decide (decode cX1_init x.1 = .ok x.2)) = true := by decide +kernel
theorem dX1_init_68 : decode cX1_init 68 = .ok (.sipush 321, 3) := mm_dk kX1_init_1 0 rfl
theorem dX1_init_71 : decode cX1_init 71 = .ok (.newarray .int, 2) := mm_dk kX1_init_1 1 rfl
theorem dX1_init_73 : decode cX1_init 73 = .ok (.putfield 27, 3) := mm_dk kX1_init_1 2 rfl
theorem dX1_init_76 : decode cX1_init 76 = .ok (.aload_n 0, 1) := mm_dk kX1_init_1 3 rfl
theorem dX1_init_77 : decode cX1_init 77 = .ok (.sipush 2000, 3) := mm_dk kX1_init_1 4 rfl
theorem dX1_init_80 : decode cX1_init 80 = .ok (.putfield 31, 3) := mm_dk kX1_init_1 5 rfl
theorem dX1_init_83 : decode cX1_init 83 = .ok (.aload_n 0, 1) := mm_dk kX1_init_1 6 rfl
theorem dX1_init_84 : decode cX1_init 84 = .ok (.iload_n 1, 1) := mm_dk kX1_init_1 7 rfl
theorem dX1_init_85 : decode cX1_init 85 = .ok (.putfield 35, 3) := mm_dk kX1_init_1 8 rfl
theorem dX1_init_88 : decode cX1_init 88 = .ok (.aload_n 0, 1) := mm_dk kX1_init_1 9 rfl
theorem dX1_init_89 : decode cX1_init 89 = .ok (.aload_n 2, 1) := mm_dk kX1_init_1 10 rfl
theorem dX1_init_90 : decode cX1_init 90 = .ok (.putfield 38, 3) := mm_dk kX1_init_1 11 rfl
theorem dX1_init_93 : decode cX1_init 93 = .ok (.aload_n 0, 1) := mm_dk kX1_init_1 12 rfl
theorem dX1_init_94 : decode cX1_init 94 = .ok (.aload_n 3, 1) := mm_dk kX1_init_1 13 rfl
theorem dX1_init_95 : decode cX1_init 95 = .ok (.putfield 42, 3) := mm_dk kX1_init_1 14 rfl
theorem dX1_init_98 : decode cX1_init 98 = .ok (.aload_n 0, 1) := mm_dk kX1_init_1 15 rfl
theorem dX1_init_99 : decode cX1_init 99 = .ok (.new 46, 3) := mm_dk kX1_init_1 16 rfl
theorem dX1_init_102 : decode cX1_init 102 = .ok (.dup, 1) := mm_dk kX1_init_1 17 rfl
theorem dX1_init_103 : decode cX1_init 103 = .ok (.aload_n 2, 1) := mm_dk kX1_init_1 18 rfl
theorem dX1_init_104 : decode cX1_init 104 = .ok (.aload_n 3, 1) := mm_dk kX1_init_1 19 rfl
theorem dX1_init_105 : decode cX1_init 105 = .ok (.invokespecial 48, 3) := mm_dk kX1_init_1 20 rfl
theorem dX1_init_108 : decode cX1_init 108 = .ok (.putfield 51, 3) := mm_dk kX1_init_1 21 rfl
theorem dX1_init_111 : decode cX1_init 111 = .ok (.return_, 1) := mm_dk kX1_init_1 22 rfl
set_option maxRecDepth 100000 in
theorem kX1_decodeNext_0 : ([(0, .aload_n 0, 1), (1, .getfield 38, 3), (4, .iconst 0, 1), (5, .putfield 55, 3), (8, .aload_n 0, 1), (9, .dup, 1), (10, .getfield 60, 3), (13, .aload_n 1, 1), (14, .aload_n 0, 1), (15, .getfield 63, 3), (18, .invokevirtual 66, 3), (21, .iadd, 1), (22, .putfield 60, 3), (25, .aload_n 1, 1), (26, .aload_n 0, 1), (27, .getfield 63, 3), (30, .invokevirtual 72, 3), (33, .astore_n 2, 1), (34, .aload_n 0, 1), (35, .aload_n 2, 1), (36, .ifnonnull 10, 3), (39, .aload_n 0, 1), (40, .invokevirtual 76, 3), (43, .goto 8, 3), (46, .aload_n 0, 1), (47, .aload_n 2, 1), (48, .invokevirtual 80, 3), (51, .putfield 84, 3), (54, .aload_n 0, 1), (55, .getfield 84, 3), (58, .ifCond .ne 10, 3), (61, .aload_n 0, 1), (62, .getfield 87, 3), (65, .ifCond .le 7, 3), (68, .iconst 1, 1), (69, .goto 4, 3), (72, .iconst 0, 1), (73, .istore_n 3, 1), (74, .aload_n 0, 1), (75, .getfield 84, 3)] : List (Nat × Instr × Nat)).all (fun x => decide (decode cX1_decodeNext x.1 = .ok x.2)) = true := by decide +kernel
theorem dX1_decodeNext_0 : decode cX1_decodeNext 0 = .ok (.aload_n 0, 1) := mm_dk kX1_decodeNext_0 0 rfl
theorem dX1_decodeNext_1 : decode cX1_decodeNext 1 = .ok (.getfield 38, 3) := mm_dk kX1_decodeNext_0 1 rfl
theorem dX1_decodeNext_4 : decode cX1_decodeNext 4 = .ok (.iconst 0, 1) := mm_dk kX1_decodeNext_0 2 rfl
theorem dX1_decodeNext_5 : decode cX1_decodeNext 5 = .ok (.putfield 55, 3) := mm_dk kX1_decodeNext_0 3 rfl
theorem dX1_decodeNext_8 : decode cX1_decodeNext 8 = .ok (.aload_n 0, 1) := mm_dk kX1_decodeNext_0 4 rfl
theorem dX1_decodeNext_9 : decode cX1_decodeNext 9 = .ok (.dup, 1) := mm_dk kX1_decodeNext_0 5 rfl
theorem dX1_decodeNext_10 : decode cX1_decodeNext 10 = .ok (.getfield 60, 3) := mm_dk kX1_decodeNext_0 6 rfl
theorem dX1_decodeNext_13 : decode cX1_decodeNext 13 = .ok (.aload_n 1, 1) := mm_dk kX1_decodeNext_0 7 rfl
theorem dX1_decodeNext_14 : decode cX1_decodeNext 14 = .ok (.aload_n 0, 1) := mm_dk kX1_decodeNext_0 8 rfl
theorem dX1_decodeNext_15 : decode cX1_decodeNext 15 = .ok (.getfield 63, 3) := mm_dk kX1_decodeNext_0 9 rfl
theorem dX1_decodeNext_18 : decode cX1_decodeNext 18 = .ok (.invokevirtual 66, 3) := mm_dk kX1_decodeNext_0 10 rfl
theorem dX1_decodeNext_21 : decode cX1_decodeNext 21 = .ok (.iadd, 1) := mm_dk kX1_decodeNext_0 11 rfl
theorem dX1_decodeNext_22 : decode cX1_decodeNext 22 = .ok (.putfield 60, 3) := mm_dk kX1_decodeNext_0 12 rfl
theorem dX1_decodeNext_25 : decode cX1_decodeNext 25 = .ok (.aload_n 1, 1) := mm_dk kX1_decodeNext_0 13 rfl
theorem dX1_decodeNext_26 : decode cX1_decodeNext 26 = .ok (.aload_n 0, 1) := mm_dk kX1_decodeNext_0 14 rfl
theorem dX1_decodeNext_27 : decode cX1_decodeNext 27 = .ok (.getfield 63, 3) := mm_dk kX1_decodeNext_0 15 rfl
theorem dX1_decodeNext_30 : decode cX1_decodeNext 30 = .ok (.invokevirtual 72, 3) := mm_dk kX1_decodeNext_0 16 rfl
theorem dX1_decodeNext_33 : decode cX1_decodeNext 33 = .ok (.astore_n 2, 1) := mm_dk kX1_decodeNext_0 17 rfl
theorem dX1_decodeNext_34 : decode cX1_decodeNext 34 = .ok (.aload_n 0, 1) := mm_dk kX1_decodeNext_0 18 rfl
theorem dX1_decodeNext_35 : decode cX1_decodeNext 35 = .ok (.aload_n 2, 1) := mm_dk kX1_decodeNext_0 19 rfl
theorem dX1_decodeNext_36 : decode cX1_decodeNext 36 = .ok (.ifnonnull 10, 3) := mm_dk kX1_decodeNext_0 20 rfl
theorem dX1_decodeNext_39 : decode cX1_decodeNext 39 = .ok (.aload_n 0, 1) := mm_dk kX1_decodeNext_0 21 rfl
theorem dX1_decodeNext_40 : decode cX1_decodeNext 40 = .ok (.invokevirtual 76, 3) := mm_dk kX1_decodeNext_0 22 rfl
theorem dX1_decodeNext_43 : decode cX1_decodeNext 43 = .ok (.goto 8, 3) := mm_dk kX1_decodeNext_0 23 rfl
theorem dX1_decodeNext_46 : decode cX1_decodeNext 46 = .ok (.aload_n 0, 1) := mm_dk kX1_decodeNext_0 24 rfl
theorem dX1_decodeNext_47 : decode cX1_decodeNext 47 = .ok (.aload_n 2, 1) := mm_dk kX1_decodeNext_0 25 rfl
theorem dX1_decodeNext_48 : decode cX1_decodeNext 48 = .ok (.invokevirtual 80, 3) := mm_dk kX1_decodeNext_0 26 rfl
theorem dX1_decodeNext_51 : decode cX1_decodeNext 51 = .ok (.putfield 84, 3) := mm_dk kX1_decodeNext_0 27 rfl
theorem dX1_decodeNext_54 : decode cX1_decodeNext 54 = .ok (.aload_n 0, 1) := mm_dk kX1_decodeNext_0 28 rfl
theorem dX1_decodeNext_55 : decode cX1_decodeNext 55 = .ok (.getfield 84, 3) := mm_dk kX1_decodeNext_0 29 rfl
theorem dX1_decodeNext_58 : decode cX1_decodeNext 58 = .ok (.ifCond .ne 10, 3) := mm_dk kX1_decodeNext_0 30 rfl
theorem dX1_decodeNext_61 : decode cX1_decodeNext 61 = .ok (.aload_n 0, 1) := mm_dk kX1_decodeNext_0 31 rfl
theorem dX1_decodeNext_62 : decode cX1_decodeNext 62 = .ok (.getfield 87, 3) := mm_dk kX1_decodeNext_0 32 rfl
theorem dX1_decodeNext_65 : decode cX1_decodeNext 65 = .ok (.ifCond .le 7, 3) := mm_dk kX1_decodeNext_0 33 rfl
theorem dX1_decodeNext_68 : decode cX1_decodeNext 68 = .ok (.iconst 1, 1) := mm_dk kX1_decodeNext_0 34 rfl
theorem dX1_decodeNext_69 : decode cX1_decodeNext 69 = .ok (.goto 4, 3) := mm_dk kX1_decodeNext_0 35 rfl
theorem dX1_decodeNext_72 : decode cX1_decodeNext 72 = .ok (.iconst 0, 1) := mm_dk kX1_decodeNext_0 36 rfl
theorem dX1_decodeNext_73 : decode cX1_decodeNext 73 = .ok (.istore_n 3, 1) := mm_dk kX1_decodeNext_0 37 rfl
theorem dX1_decodeNext_74 : decode cX1_decodeNext 74 = .ok (.aload_n 0, 1) := mm_dk kX1_decodeNext_0 38 rfl
theorem dX1_decodeNext_75 : decode cX1_decodeNext 75 = .ok (.getfield 84, 3) := mm_dk kX1_decodeNext_0 39 rfl
set_option maxRecDepth 100000 in
theorem kX1_decodeNext_1 : ([(78, .ifCond .ne 20, 3), (81, .aload_n 2, 1), (82, .ifnull 16, 3), (85, .aload_n 0, 1), (86, .aload_n 2, 1), (87, .invokevirtual 90, 3), (90, .aload_n 0, 1), (91, .iconst 0, 1), (92, .putfield 87, 3), (95, .goto 44, 3), (98, .aload_n 0, 1), (99, .getfield 38, 3), (102, .bipush 30, 2), (104, .aload_n 0, 1), (105, .getfield 84, 3), (108, .iadd, 1), (109, .invokevirtual 94, 3), (112, .aload_n 0, 1), (113, .aload_n 1, 1), (114, .aload_n 0, 1), (115, .getfield 63, 3), (118, .iconst 1, 1), (119, .iadd, 1), (120, .ldc 97, 2), (122, .irem, 1), (123, .invokevirtual 98, 3), (126, .invokevirtual 101, 3), (129, .aload_n 0, 1), (130, .dup, 1), (131, .getfield 87, 3), (134, .iconst 1, 1), (135, .iadd, 1), (136, .putfield 87, 3), (139, .aload_n 0, 1), (140, .getfield 35, 3), (143, .invokestatic 104, 3), (146, .istore 4, 2), (148, .aload_n 0, 1), (149, .iload 4, 2), (151, .invokevirtual 107, 3)] : List (Nat × Instr × Nat)).all (fun x => decide (decode cX1_decodeNext x.1 = .ok x.2)) = true := by decide +kernel
theorem dX1_decodeNext_78 : decode cX1_decodeNext 78 = .ok (.ifCond .ne 20, 3) := mm_dk kX1_decodeNext_1 0 rfl
theorem dX1_decodeNext_81 : decode cX1_decodeNext 81 = .ok (.aload_n 2, 1) := mm_dk kX1_decodeNext_1 1 rfl
theorem dX1_decodeNext_82 : decode cX1_decodeNext 82 = .ok (.ifnull 16, 3) := mm_dk kX1_decodeNext_1 2 rfl
theorem dX1_decodeNext_85 : decode cX1_decodeNext 85 = .ok (.aload_n 0, 1) := mm_dk kX1_decodeNext_1 3 rfl
theorem dX1_decodeNext_86 : decode cX1_decodeNext 86 = .ok (.aload_n 2, 1) := mm_dk kX1_decodeNext_1 4 rfl
theorem dX1_decodeNext_87 : decode cX1_decodeNext 87 = .ok (.invokevirtual 90, 3) := mm_dk kX1_decodeNext_1 5 rfl
theorem dX1_decodeNext_90 : decode cX1_decodeNext 90 = .ok (.aload_n 0, 1) := mm_dk kX1_decodeNext_1 6 rfl
theorem dX1_decodeNext_91 : decode cX1_decodeNext 91 = .ok (.iconst 0, 1) := mm_dk kX1_decodeNext_1 7 rfl
theorem dX1_decodeNext_92 : decode cX1_decodeNext 92 = .ok (.putfield 87, 3) := mm_dk kX1_decodeNext_1 8 rfl
theorem dX1_decodeNext_95 : decode cX1_decodeNext 95 = .ok (.goto 44, 3) := mm_dk kX1_decodeNext_1 9 rfl
theorem dX1_decodeNext_98 : decode cX1_decodeNext 98 = .ok (.aload_n 0, 1) := mm_dk kX1_decodeNext_1 10 rfl
theorem dX1_decodeNext_99 : decode cX1_decodeNext 99 = .ok (.getfield 38, 3) := mm_dk kX1_decodeNext_1 11 rfl
theorem dX1_decodeNext_102 : decode cX1_decodeNext 102 = .ok (.bipush 30, 2) := mm_dk kX1_decodeNext_1 12 rfl
theorem dX1_decodeNext_104 : decode cX1_decodeNext 104 = .ok (.aload_n 0, 1) := mm_dk kX1_decodeNext_1 13 rfl
theorem dX1_decodeNext_105 : decode cX1_decodeNext 105 = .ok (.getfield 84, 3) := mm_dk kX1_decodeNext_1 14 rfl
theorem dX1_decodeNext_108 : decode cX1_decodeNext 108 = .ok (.iadd, 1) := mm_dk kX1_decodeNext_1 15 rfl
theorem dX1_decodeNext_109 : decode cX1_decodeNext 109 = .ok (.invokevirtual 94, 3) := mm_dk kX1_decodeNext_1 16 rfl
theorem dX1_decodeNext_112 : decode cX1_decodeNext 112 = .ok (.aload_n 0, 1) := mm_dk kX1_decodeNext_1 17 rfl
theorem dX1_decodeNext_113 : decode cX1_decodeNext 113 = .ok (.aload_n 1, 1) := mm_dk kX1_decodeNext_1 18 rfl
theorem dX1_decodeNext_114 : decode cX1_decodeNext 114 = .ok (.aload_n 0, 1) := mm_dk kX1_decodeNext_1 19 rfl
theorem dX1_decodeNext_115 : decode cX1_decodeNext 115 = .ok (.getfield 63, 3) := mm_dk kX1_decodeNext_1 20 rfl
theorem dX1_decodeNext_118 : decode cX1_decodeNext 118 = .ok (.iconst 1, 1) := mm_dk kX1_decodeNext_1 21 rfl
theorem dX1_decodeNext_119 : decode cX1_decodeNext 119 = .ok (.iadd, 1) := mm_dk kX1_decodeNext_1 22 rfl
theorem dX1_decodeNext_120 : decode cX1_decodeNext 120 = .ok (.ldc 97, 2) := mm_dk kX1_decodeNext_1 23 rfl
theorem dX1_decodeNext_122 : decode cX1_decodeNext 122 = .ok (.irem, 1) := mm_dk kX1_decodeNext_1 24 rfl
theorem dX1_decodeNext_123 : decode cX1_decodeNext 123 = .ok (.invokevirtual 98, 3) := mm_dk kX1_decodeNext_1 25 rfl
theorem dX1_decodeNext_126 : decode cX1_decodeNext 126 = .ok (.invokevirtual 101, 3) := mm_dk kX1_decodeNext_1 26 rfl
theorem dX1_decodeNext_129 : decode cX1_decodeNext 129 = .ok (.aload_n 0, 1) := mm_dk kX1_decodeNext_1 27 rfl
theorem dX1_decodeNext_130 : decode cX1_decodeNext 130 = .ok (.dup, 1) := mm_dk kX1_decodeNext_1 28 rfl
theorem dX1_decodeNext_131 : decode cX1_decodeNext 131 = .ok (.getfield 87, 3) := mm_dk kX1_decodeNext_1 29 rfl
theorem dX1_decodeNext_134 : decode cX1_decodeNext 134 = .ok (.iconst 1, 1) := mm_dk kX1_decodeNext_1 30 rfl
theorem dX1_decodeNext_135 : decode cX1_decodeNext 135 = .ok (.iadd, 1) := mm_dk kX1_decodeNext_1 31 rfl
theorem dX1_decodeNext_136 : decode cX1_decodeNext 136 = .ok (.putfield 87, 3) := mm_dk kX1_decodeNext_1 32 rfl
theorem dX1_decodeNext_139 : decode cX1_decodeNext 139 = .ok (.aload_n 0, 1) := mm_dk kX1_decodeNext_1 33 rfl
theorem dX1_decodeNext_140 : decode cX1_decodeNext 140 = .ok (.getfield 35, 3) := mm_dk kX1_decodeNext_1 34 rfl
theorem dX1_decodeNext_143 : decode cX1_decodeNext 143 = .ok (.invokestatic 104, 3) := mm_dk kX1_decodeNext_1 35 rfl
theorem dX1_decodeNext_146 : decode cX1_decodeNext 146 = .ok (.istore 4, 2) := mm_dk kX1_decodeNext_1 36 rfl
theorem dX1_decodeNext_148 : decode cX1_decodeNext 148 = .ok (.aload_n 0, 1) := mm_dk kX1_decodeNext_1 37 rfl
theorem dX1_decodeNext_149 : decode cX1_decodeNext 149 = .ok (.iload 4, 2) := mm_dk kX1_decodeNext_1 38 rfl
theorem dX1_decodeNext_151 : decode cX1_decodeNext 151 = .ok (.invokevirtual 107, 3) := mm_dk kX1_decodeNext_1 39 rfl
set_option maxRecDepth 100000 in
theorem kX1_decodeNext_2 : ([(154, .iload_n 3, 1), (155, .ifCond .eq 18, 3), (158, .aload_n 0, 1), (159, .getfield 38, 3), (162, .bipush 60, 2), (164, .invokevirtual 94, 3), (167, .aload_n 0, 1), (168, .iload 4, 2), (170, .invokevirtual 110, 3), (173, .aload_n 0, 1), (174, .iload 4, 2), (176, .invokevirtual 113, 3), (179, .aload_n 0, 1), (180, .dup, 1), (181, .getfield 116, 3), (184, .iconst 1, 1), (185, .iadd, 1), (186, .putfield 116, 3), (189, .aload_n 0, 1), (190, .aload_n 0, 1), (191, .getfield 63, 3), (194, .iconst 1, 1), (195, .iadd, 1), (196, .ldc 97, 2), (198, .irem, 1), (199, .putfield 63, 3), (202, .aload_n 0, 1), (203, .getfield 42, 3), (206, .invokevirtual 119, 3), (209, .return_, 1)] : List (Nat × Instr × Nat)).all (fun x => decide (decode cX1_decodeNext x.1 = .ok x.2)) = true := by decide +kernel
theorem dX1_decodeNext_154 : decode cX1_decodeNext 154 = .ok (.iload_n 3, 1) := mm_dk kX1_decodeNext_2 0 rfl
theorem dX1_decodeNext_155 : decode cX1_decodeNext 155 = .ok (.ifCond .eq 18, 3) := mm_dk kX1_decodeNext_2 1 rfl
theorem dX1_decodeNext_158 : decode cX1_decodeNext 158 = .ok (.aload_n 0, 1) := mm_dk kX1_decodeNext_2 2 rfl
theorem dX1_decodeNext_159 : decode cX1_decodeNext 159 = .ok (.getfield 38, 3) := mm_dk kX1_decodeNext_2 3 rfl
theorem dX1_decodeNext_162 : decode cX1_decodeNext 162 = .ok (.bipush 60, 2) := mm_dk kX1_decodeNext_2 4 rfl
theorem dX1_decodeNext_164 : decode cX1_decodeNext 164 = .ok (.invokevirtual 94, 3) := mm_dk kX1_decodeNext_2 5 rfl
theorem dX1_decodeNext_167 : decode cX1_decodeNext 167 = .ok (.aload_n 0, 1) := mm_dk kX1_decodeNext_2 6 rfl
theorem dX1_decodeNext_168 : decode cX1_decodeNext 168 = .ok (.iload 4, 2) := mm_dk kX1_decodeNext_2 7 rfl
theorem dX1_decodeNext_170 : decode cX1_decodeNext 170 = .ok (.invokevirtual 110, 3) := mm_dk kX1_decodeNext_2 8 rfl
theorem dX1_decodeNext_173 : decode cX1_decodeNext 173 = .ok (.aload_n 0, 1) := mm_dk kX1_decodeNext_2 9 rfl
theorem dX1_decodeNext_174 : decode cX1_decodeNext 174 = .ok (.iload 4, 2) := mm_dk kX1_decodeNext_2 10 rfl
theorem dX1_decodeNext_176 : decode cX1_decodeNext 176 = .ok (.invokevirtual 113, 3) := mm_dk kX1_decodeNext_2 11 rfl
theorem dX1_decodeNext_179 : decode cX1_decodeNext 179 = .ok (.aload_n 0, 1) := mm_dk kX1_decodeNext_2 12 rfl
theorem dX1_decodeNext_180 : decode cX1_decodeNext 180 = .ok (.dup, 1) := mm_dk kX1_decodeNext_2 13 rfl
theorem dX1_decodeNext_181 : decode cX1_decodeNext 181 = .ok (.getfield 116, 3) := mm_dk kX1_decodeNext_2 14 rfl
theorem dX1_decodeNext_184 : decode cX1_decodeNext 184 = .ok (.iconst 1, 1) := mm_dk kX1_decodeNext_2 15 rfl
theorem dX1_decodeNext_185 : decode cX1_decodeNext 185 = .ok (.iadd, 1) := mm_dk kX1_decodeNext_2 16 rfl
theorem dX1_decodeNext_186 : decode cX1_decodeNext 186 = .ok (.putfield 116, 3) := mm_dk kX1_decodeNext_2 17 rfl
theorem dX1_decodeNext_189 : decode cX1_decodeNext 189 = .ok (.aload_n 0, 1) := mm_dk kX1_decodeNext_2 18 rfl
theorem dX1_decodeNext_190 : decode cX1_decodeNext 190 = .ok (.aload_n 0, 1) := mm_dk kX1_decodeNext_2 19 rfl
theorem dX1_decodeNext_191 : decode cX1_decodeNext 191 = .ok (.getfield 63, 3) := mm_dk kX1_decodeNext_2 20 rfl
theorem dX1_decodeNext_194 : decode cX1_decodeNext 194 = .ok (.iconst 1, 1) := mm_dk kX1_decodeNext_2 21 rfl
theorem dX1_decodeNext_195 : decode cX1_decodeNext 195 = .ok (.iadd, 1) := mm_dk kX1_decodeNext_2 22 rfl
theorem dX1_decodeNext_196 : decode cX1_decodeNext 196 = .ok (.ldc 97, 2) := mm_dk kX1_decodeNext_2 23 rfl
theorem dX1_decodeNext_198 : decode cX1_decodeNext 198 = .ok (.irem, 1) := mm_dk kX1_decodeNext_2 24 rfl
theorem dX1_decodeNext_199 : decode cX1_decodeNext 199 = .ok (.putfield 63, 3) := mm_dk kX1_decodeNext_2 25 rfl
theorem dX1_decodeNext_202 : decode cX1_decodeNext 202 = .ok (.aload_n 0, 1) := mm_dk kX1_decodeNext_2 26 rfl
theorem dX1_decodeNext_203 : decode cX1_decodeNext 203 = .ok (.getfield 42, 3) := mm_dk kX1_decodeNext_2 27 rfl
theorem dX1_decodeNext_206 : decode cX1_decodeNext 206 = .ok (.invokevirtual 119, 3) := mm_dk kX1_decodeNext_2 28 rfl
theorem dX1_decodeNext_209 : decode cX1_decodeNext 209 = .ok (.return_, 1) := mm_dk kX1_decodeNext_2 29 rfl
set_option maxRecDepth 100000 in
theorem kX1_missed_0 : ([(0, .aload_n 0, 1), (1, .getfield 38, 3), (4, .getfield 124, 3), (7, .bipush 7, 2), (9, .dup2, 1), (10, .iaload, 1), (11, .iconst 1, 1), (12, .iadd, 1), (13, .iastore, 1), (14, .bipush 7, 2), (16, .ireturn, 1)] : List (Nat × Instr × Nat)).all (fun x => decide (decode cX1_missed x.1 = .ok x.2)) = true := by decide +kernel
theorem dX1_missed_0 : decode cX1_missed 0 = .ok (.aload_n 0, 1) := mm_dk kX1_missed_0 0 rfl
theorem dX1_missed_1 : decode cX1_missed 1 = .ok (.getfield 38, 3) := mm_dk kX1_missed_0 1 rfl
theorem dX1_missed_4 : decode cX1_missed 4 = .ok (.getfield 124, 3) := mm_dk kX1_missed_0 2 rfl
theorem dX1_missed_7 : decode cX1_missed 7 = .ok (.bipush 7, 2) := mm_dk kX1_missed_0 3 rfl
theorem dX1_missed_9 : decode cX1_missed 9 = .ok (.dup2, 1) := mm_dk kX1_missed_0 4 rfl
theorem dX1_missed_10 : decode cX1_missed 10 = .ok (.iaload, 1) := mm_dk kX1_missed_0 5 rfl
theorem dX1_missed_11 : decode cX1_missed 11 = .ok (.iconst 1, 1) := mm_dk kX1_missed_0 6 rfl
theorem dX1_missed_12 : decode cX1_missed 12 = .ok (.iadd, 1) := mm_dk kX1_missed_0 7 rfl
theorem dX1_missed_13 : decode cX1_missed 13 = .ok (.iastore, 1) := mm_dk kX1_missed_0 8 rfl
theorem dX1_missed_14 : decode cX1_missed 14 = .ok (.bipush 7, 2) := mm_dk kX1_missed_0 9 rfl
theorem dX1_missed_16 : decode cX1_missed 16 = .ok (.ireturn, 1) := mm_dk kX1_missed_0 10 rfl
set_option maxRecDepth 100000 in
theorem kX1_openedWith_0 : ([(0, .aload_n 0, 1), (1, .getfield 38, 3), (4, .bipush 20, 2), (6, .invokevirtual 94, 3), (9, .aload_n 1, 1), (10, .invokevirtual 127, 3), (13, .istore_n 2, 1), (14, .iload_n 2, 1), (15, .ifCond .eq 16, 3), (18, .aload_n 0, 1), (19, .getfield 38, 3), (22, .getfield 124, 3), (25, .iload_n 2, 1), (26, .dup2, 1), (27, .iaload, 1), (28, .iconst 1, 1), (29, .iadd, 1), (30, .iastore, 1), (31, .aload_n 0, 1), (32, .getfield 38, 3), (35, .bipush 21, 2), (37, .invokevirtual 94, 3), (40, .iload_n 2, 1), (41, .ireturn, 1)] : List (Nat × Instr × Nat)).all (fun x => decide (decode cX1_openedWith x.1 = .ok x.2)) = true := by decide +kernel
theorem dX1_openedWith_0 : decode cX1_openedWith 0 = .ok (.aload_n 0, 1) := mm_dk kX1_openedWith_0 0 rfl
theorem dX1_openedWith_1 : decode cX1_openedWith 1 = .ok (.getfield 38, 3) := mm_dk kX1_openedWith_0 1 rfl
theorem dX1_openedWith_4 : decode cX1_openedWith 4 = .ok (.bipush 20, 2) := mm_dk kX1_openedWith_0 2 rfl
theorem dX1_openedWith_6 : decode cX1_openedWith 6 = .ok (.invokevirtual 94, 3) := mm_dk kX1_openedWith_0 3 rfl
theorem dX1_openedWith_9 : decode cX1_openedWith 9 = .ok (.aload_n 1, 1) := mm_dk kX1_openedWith_0 4 rfl
theorem dX1_openedWith_10 : decode cX1_openedWith 10 = .ok (.invokevirtual 127, 3) := mm_dk kX1_openedWith_0 5 rfl
theorem dX1_openedWith_13 : decode cX1_openedWith 13 = .ok (.istore_n 2, 1) := mm_dk kX1_openedWith_0 6 rfl
theorem dX1_openedWith_14 : decode cX1_openedWith 14 = .ok (.iload_n 2, 1) := mm_dk kX1_openedWith_0 7 rfl
theorem dX1_openedWith_15 : decode cX1_openedWith 15 = .ok (.ifCond .eq 16, 3) := mm_dk kX1_openedWith_0 8 rfl
theorem dX1_openedWith_18 : decode cX1_openedWith 18 = .ok (.aload_n 0, 1) := mm_dk kX1_openedWith_0 9 rfl
theorem dX1_openedWith_19 : decode cX1_openedWith 19 = .ok (.getfield 38, 3) := mm_dk kX1_openedWith_0 10 rfl
theorem dX1_openedWith_22 : decode cX1_openedWith 22 = .ok (.getfield 124, 3) := mm_dk kX1_openedWith_0 11 rfl
theorem dX1_openedWith_25 : decode cX1_openedWith 25 = .ok (.iload_n 2, 1) := mm_dk kX1_openedWith_0 12 rfl
theorem dX1_openedWith_26 : decode cX1_openedWith 26 = .ok (.dup2, 1) := mm_dk kX1_openedWith_0 13 rfl
theorem dX1_openedWith_27 : decode cX1_openedWith 27 = .ok (.iaload, 1) := mm_dk kX1_openedWith_0 14 rfl
theorem dX1_openedWith_28 : decode cX1_openedWith 28 = .ok (.iconst 1, 1) := mm_dk kX1_openedWith_0 15 rfl
theorem dX1_openedWith_29 : decode cX1_openedWith 29 = .ok (.iadd, 1) := mm_dk kX1_openedWith_0 16 rfl
theorem dX1_openedWith_30 : decode cX1_openedWith 30 = .ok (.iastore, 1) := mm_dk kX1_openedWith_0 17 rfl
theorem dX1_openedWith_31 : decode cX1_openedWith 31 = .ok (.aload_n 0, 1) := mm_dk kX1_openedWith_0 18 rfl
theorem dX1_openedWith_32 : decode cX1_openedWith 32 = .ok (.getfield 38, 3) := mm_dk kX1_openedWith_0 19 rfl
theorem dX1_openedWith_35 : decode cX1_openedWith 35 = .ok (.bipush 21, 2) := mm_dk kX1_openedWith_0 20 rfl
theorem dX1_openedWith_37 : decode cX1_openedWith 37 = .ok (.invokevirtual 94, 3) := mm_dk kX1_openedWith_0 21 rfl
theorem dX1_openedWith_40 : decode cX1_openedWith 40 = .ok (.iload_n 2, 1) := mm_dk kX1_openedWith_0 22 rfl
theorem dX1_openedWith_41 : decode cX1_openedWith 41 = .ok (.ireturn, 1) := mm_dk kX1_openedWith_0 23 rfl
set_option maxRecDepth 100000 in
theorem kX1_decodeFrame_0 : ([(0, .aload_n 0, 1), (1, .aload_n 1, 1), (2, .iconst 1, 1), (3, .invokevirtual 132, 3), (6, .iconst 1, 1), (7, .iand, 1), (8, .putfield 35, 3), (11, .aload_n 0, 1), (12, .aload_n 1, 1), (13, .invokevirtual 135, 3), (16, .ifCond .eq 7, 3), (19, .iconst 0, 1), (20, .goto 4, 3), (23, .iconst 1, 1), (24, .putfield 139, 3), (27, .aload_n 0, 1), (28, .getfield 38, 3), (31, .bipush 40, 2), (33, .aload_n 0, 1), (34, .getfield 139, 3), (37, .iadd, 1), (38, .invokevirtual 94, 3), (41, .aload_n 0, 1), (42, .getfield 35, 3), (45, .invokestatic 142, 3), (48, .istore_n 2, 1), (49, .aload_n 0, 1), (50, .getfield 139, 3), (53, .iconst 1, 1), (54, .if_icmp .ne 38, 3), (57, .aload_n 0, 1), (58, .getfield 51, 3), (61, .aload_n 0, 1), (62, .getfield 63, 3), (65, .sipush 256, 3), (68, .aload_n 1, 1), (69, .bipush 6, 2), (71, .invokevirtual 132, 3), (74, .imul, 1), (75, .aload_n 1, 1)] : List (Nat × Instr × Nat)).all (fun x => decide (decode cX1_decodeFrame x.1 = .ok x.2)) = true := by decide +kernel
theorem dX1_decodeFrame_0 : decode cX1_decodeFrame 0 = .ok (.aload_n 0, 1) := mm_dk kX1_decodeFrame_0 0 rfl
theorem dX1_decodeFrame_1 : decode cX1_decodeFrame 1 = .ok (.aload_n 1, 1) := mm_dk kX1_decodeFrame_0 1 rfl
theorem dX1_decodeFrame_2 : decode cX1_decodeFrame 2 = .ok (.iconst 1, 1) := mm_dk kX1_decodeFrame_0 2 rfl
theorem dX1_decodeFrame_3 : decode cX1_decodeFrame 3 = .ok (.invokevirtual 132, 3) := mm_dk kX1_decodeFrame_0 3 rfl
theorem dX1_decodeFrame_6 : decode cX1_decodeFrame 6 = .ok (.iconst 1, 1) := mm_dk kX1_decodeFrame_0 4 rfl
theorem dX1_decodeFrame_7 : decode cX1_decodeFrame 7 = .ok (.iand, 1) := mm_dk kX1_decodeFrame_0 5 rfl
theorem dX1_decodeFrame_8 : decode cX1_decodeFrame 8 = .ok (.putfield 35, 3) := mm_dk kX1_decodeFrame_0 6 rfl
theorem dX1_decodeFrame_11 : decode cX1_decodeFrame 11 = .ok (.aload_n 0, 1) := mm_dk kX1_decodeFrame_0 7 rfl
theorem dX1_decodeFrame_12 : decode cX1_decodeFrame 12 = .ok (.aload_n 1, 1) := mm_dk kX1_decodeFrame_0 8 rfl
theorem dX1_decodeFrame_13 : decode cX1_decodeFrame 13 = .ok (.invokevirtual 135, 3) := mm_dk kX1_decodeFrame_0 9 rfl
theorem dX1_decodeFrame_16 : decode cX1_decodeFrame 16 = .ok (.ifCond .eq 7, 3) := mm_dk kX1_decodeFrame_0 10 rfl
theorem dX1_decodeFrame_19 : decode cX1_decodeFrame 19 = .ok (.iconst 0, 1) := mm_dk kX1_decodeFrame_0 11 rfl
theorem dX1_decodeFrame_20 : decode cX1_decodeFrame 20 = .ok (.goto 4, 3) := mm_dk kX1_decodeFrame_0 12 rfl
theorem dX1_decodeFrame_23 : decode cX1_decodeFrame 23 = .ok (.iconst 1, 1) := mm_dk kX1_decodeFrame_0 13 rfl
theorem dX1_decodeFrame_24 : decode cX1_decodeFrame 24 = .ok (.putfield 139, 3) := mm_dk kX1_decodeFrame_0 14 rfl
theorem dX1_decodeFrame_27 : decode cX1_decodeFrame 27 = .ok (.aload_n 0, 1) := mm_dk kX1_decodeFrame_0 15 rfl
theorem dX1_decodeFrame_28 : decode cX1_decodeFrame 28 = .ok (.getfield 38, 3) := mm_dk kX1_decodeFrame_0 16 rfl
theorem dX1_decodeFrame_31 : decode cX1_decodeFrame 31 = .ok (.bipush 40, 2) := mm_dk kX1_decodeFrame_0 17 rfl
theorem dX1_decodeFrame_33 : decode cX1_decodeFrame 33 = .ok (.aload_n 0, 1) := mm_dk kX1_decodeFrame_0 18 rfl
theorem dX1_decodeFrame_34 : decode cX1_decodeFrame 34 = .ok (.getfield 139, 3) := mm_dk kX1_decodeFrame_0 19 rfl
theorem dX1_decodeFrame_37 : decode cX1_decodeFrame 37 = .ok (.iadd, 1) := mm_dk kX1_decodeFrame_0 20 rfl
theorem dX1_decodeFrame_38 : decode cX1_decodeFrame 38 = .ok (.invokevirtual 94, 3) := mm_dk kX1_decodeFrame_0 21 rfl
theorem dX1_decodeFrame_41 : decode cX1_decodeFrame 41 = .ok (.aload_n 0, 1) := mm_dk kX1_decodeFrame_0 22 rfl
theorem dX1_decodeFrame_42 : decode cX1_decodeFrame 42 = .ok (.getfield 35, 3) := mm_dk kX1_decodeFrame_0 23 rfl
theorem dX1_decodeFrame_45 : decode cX1_decodeFrame 45 = .ok (.invokestatic 142, 3) := mm_dk kX1_decodeFrame_0 24 rfl
theorem dX1_decodeFrame_48 : decode cX1_decodeFrame 48 = .ok (.istore_n 2, 1) := mm_dk kX1_decodeFrame_0 25 rfl
theorem dX1_decodeFrame_49 : decode cX1_decodeFrame 49 = .ok (.aload_n 0, 1) := mm_dk kX1_decodeFrame_0 26 rfl
theorem dX1_decodeFrame_50 : decode cX1_decodeFrame 50 = .ok (.getfield 139, 3) := mm_dk kX1_decodeFrame_0 27 rfl
theorem dX1_decodeFrame_53 : decode cX1_decodeFrame 53 = .ok (.iconst 1, 1) := mm_dk kX1_decodeFrame_0 28 rfl
theorem dX1_decodeFrame_54 : decode cX1_decodeFrame 54 = .ok (.if_icmp .ne 38, 3) := mm_dk kX1_decodeFrame_0 29 rfl
theorem dX1_decodeFrame_57 : decode cX1_decodeFrame 57 = .ok (.aload_n 0, 1) := mm_dk kX1_decodeFrame_0 30 rfl
theorem dX1_decodeFrame_58 : decode cX1_decodeFrame 58 = .ok (.getfield 51, 3) := mm_dk kX1_decodeFrame_0 31 rfl
theorem dX1_decodeFrame_61 : decode cX1_decodeFrame 61 = .ok (.aload_n 0, 1) := mm_dk kX1_decodeFrame_0 32 rfl
theorem dX1_decodeFrame_62 : decode cX1_decodeFrame 62 = .ok (.getfield 63, 3) := mm_dk kX1_decodeFrame_0 33 rfl
theorem dX1_decodeFrame_65 : decode cX1_decodeFrame 65 = .ok (.sipush 256, 3) := mm_dk kX1_decodeFrame_0 34 rfl
theorem dX1_decodeFrame_68 : decode cX1_decodeFrame 68 = .ok (.aload_n 1, 1) := mm_dk kX1_decodeFrame_0 35 rfl
theorem dX1_decodeFrame_69 : decode cX1_decodeFrame 69 = .ok (.bipush 6, 2) := mm_dk kX1_decodeFrame_0 36 rfl
theorem dX1_decodeFrame_71 : decode cX1_decodeFrame 71 = .ok (.invokevirtual 132, 3) := mm_dk kX1_decodeFrame_0 37 rfl
theorem dX1_decodeFrame_74 : decode cX1_decodeFrame 74 = .ok (.imul, 1) := mm_dk kX1_decodeFrame_0 38 rfl
theorem dX1_decodeFrame_75 : decode cX1_decodeFrame 75 = .ok (.aload_n 1, 1) := mm_dk kX1_decodeFrame_0 39 rfl
set_option maxRecDepth 100000 in
theorem kX1_decodeFrame_1 : ([(76, .bipush 7, 2), (78, .invokevirtual 132, 3), (81, .iadd, 1), (82, .iload_n 2, 1), (83, .invokevirtual 145, 3), (86, .aload_n 0, 1), (87, .iconst 0, 1), (88, .putfield 149, 3), (91, .return_, 1), (92, .iconst 0, 1), (93, .istore_n 3, 1), (94, .iload_n 3, 1), (95, .bipush 8, 2), (97, .if_icmp .ge 37, 3), (100, .aload_n 0, 1), (101, .getfield 51, 3), (104, .getfield 152, 3), (107, .iload_n 3, 1), (108, .aload_n 1, 1), (109, .bipush 6, 2), (111, .iload_n 3, 1), (112, .iadd, 1), (113, .invokevirtual 132, 3), (116, .bipush 63, 2), (118, .iand, 1), (119, .bipush 32, 2), (121, .isub, 1), (122, .bipush (-31), 2), (124, .invokestatic 155, 3), (127, .iastore, 1), (128, .iinc 3 1, 3), (131, .goto (-37), 3), (134, .iconst 0, 1), (135, .istore_n 3, 1), (136, .iload_n 3, 1), (137, .iconst 4, 1), (138, .if_icmp .ge 39, 3), (141, .aload_n 0, 1), (142, .getfield 12, 3), (145, .aload_n 1, 1)] : List (Nat × Instr × Nat)).all (fun x => decide (decode cX1_decodeFrame x.1 = .ok x.2)) = true := by decide +kernel
theorem dX1_decodeFrame_76 : decode cX1_decodeFrame 76 = .ok (.bipush 7, 2) := mm_dk kX1_decodeFrame_1 0 rfl
theorem dX1_decodeFrame_78 : decode cX1_decodeFrame 78 = .ok (.invokevirtual 132, 3) := mm_dk kX1_decodeFrame_1 1 rfl
theorem dX1_decodeFrame_81 : decode cX1_decodeFrame 81 = .ok (.iadd, 1) := mm_dk kX1_decodeFrame_1 2 rfl
theorem dX1_decodeFrame_82 : decode cX1_decodeFrame 82 = .ok (.iload_n 2, 1) := mm_dk kX1_decodeFrame_1 3 rfl
theorem dX1_decodeFrame_83 : decode cX1_decodeFrame 83 = .ok (.invokevirtual 145, 3) := mm_dk kX1_decodeFrame_1 4 rfl
theorem dX1_decodeFrame_86 : decode cX1_decodeFrame 86 = .ok (.aload_n 0, 1) := mm_dk kX1_decodeFrame_1 5 rfl
theorem dX1_decodeFrame_87 : decode cX1_decodeFrame 87 = .ok (.iconst 0, 1) := mm_dk kX1_decodeFrame_1 6 rfl
theorem dX1_decodeFrame_88 : decode cX1_decodeFrame 88 = .ok (.putfield 149, 3) := mm_dk kX1_decodeFrame_1 7 rfl
theorem dX1_decodeFrame_91 : decode cX1_decodeFrame 91 = .ok (.return_, 1) := mm_dk kX1_decodeFrame_1 8 rfl
theorem dX1_decodeFrame_92 : decode cX1_decodeFrame 92 = .ok (.iconst 0, 1) := mm_dk kX1_decodeFrame_1 9 rfl
theorem dX1_decodeFrame_93 : decode cX1_decodeFrame 93 = .ok (.istore_n 3, 1) := mm_dk kX1_decodeFrame_1 10 rfl
theorem dX1_decodeFrame_94 : decode cX1_decodeFrame 94 = .ok (.iload_n 3, 1) := mm_dk kX1_decodeFrame_1 11 rfl
theorem dX1_decodeFrame_95 : decode cX1_decodeFrame 95 = .ok (.bipush 8, 2) := mm_dk kX1_decodeFrame_1 12 rfl
theorem dX1_decodeFrame_97 : decode cX1_decodeFrame 97 = .ok (.if_icmp .ge 37, 3) := mm_dk kX1_decodeFrame_1 13 rfl
theorem dX1_decodeFrame_100 : decode cX1_decodeFrame 100 = .ok (.aload_n 0, 1) := mm_dk kX1_decodeFrame_1 14 rfl
theorem dX1_decodeFrame_101 : decode cX1_decodeFrame 101 = .ok (.getfield 51, 3) := mm_dk kX1_decodeFrame_1 15 rfl
theorem dX1_decodeFrame_104 : decode cX1_decodeFrame 104 = .ok (.getfield 152, 3) := mm_dk kX1_decodeFrame_1 16 rfl
theorem dX1_decodeFrame_107 : decode cX1_decodeFrame 107 = .ok (.iload_n 3, 1) := mm_dk kX1_decodeFrame_1 17 rfl
theorem dX1_decodeFrame_108 : decode cX1_decodeFrame 108 = .ok (.aload_n 1, 1) := mm_dk kX1_decodeFrame_1 18 rfl
theorem dX1_decodeFrame_109 : decode cX1_decodeFrame 109 = .ok (.bipush 6, 2) := mm_dk kX1_decodeFrame_1 19 rfl
theorem dX1_decodeFrame_111 : decode cX1_decodeFrame 111 = .ok (.iload_n 3, 1) := mm_dk kX1_decodeFrame_1 20 rfl
theorem dX1_decodeFrame_112 : decode cX1_decodeFrame 112 = .ok (.iadd, 1) := mm_dk kX1_decodeFrame_1 21 rfl
theorem dX1_decodeFrame_113 : decode cX1_decodeFrame 113 = .ok (.invokevirtual 132, 3) := mm_dk kX1_decodeFrame_1 22 rfl
theorem dX1_decodeFrame_116 : decode cX1_decodeFrame 116 = .ok (.bipush 63, 2) := mm_dk kX1_decodeFrame_1 23 rfl
theorem dX1_decodeFrame_118 : decode cX1_decodeFrame 118 = .ok (.iand, 1) := mm_dk kX1_decodeFrame_1 24 rfl
theorem dX1_decodeFrame_119 : decode cX1_decodeFrame 119 = .ok (.bipush 32, 2) := mm_dk kX1_decodeFrame_1 25 rfl
theorem dX1_decodeFrame_121 : decode cX1_decodeFrame 121 = .ok (.isub, 1) := mm_dk kX1_decodeFrame_1 26 rfl
theorem dX1_decodeFrame_122 : decode cX1_decodeFrame 122 = .ok (.bipush (-31), 2) := mm_dk kX1_decodeFrame_1 27 rfl
theorem dX1_decodeFrame_124 : decode cX1_decodeFrame 124 = .ok (.invokestatic 155, 3) := mm_dk kX1_decodeFrame_1 28 rfl
theorem dX1_decodeFrame_127 : decode cX1_decodeFrame 127 = .ok (.iastore, 1) := mm_dk kX1_decodeFrame_1 29 rfl
theorem dX1_decodeFrame_128 : decode cX1_decodeFrame 128 = .ok (.iinc 3 1, 3) := mm_dk kX1_decodeFrame_1 30 rfl
theorem dX1_decodeFrame_131 : decode cX1_decodeFrame 131 = .ok (.goto (-37), 3) := mm_dk kX1_decodeFrame_1 31 rfl
theorem dX1_decodeFrame_134 : decode cX1_decodeFrame 134 = .ok (.iconst 0, 1) := mm_dk kX1_decodeFrame_1 32 rfl
theorem dX1_decodeFrame_135 : decode cX1_decodeFrame 135 = .ok (.istore_n 3, 1) := mm_dk kX1_decodeFrame_1 33 rfl
theorem dX1_decodeFrame_136 : decode cX1_decodeFrame 136 = .ok (.iload_n 3, 1) := mm_dk kX1_decodeFrame_1 34 rfl
theorem dX1_decodeFrame_137 : decode cX1_decodeFrame 137 = .ok (.iconst 4, 1) := mm_dk kX1_decodeFrame_1 35 rfl
theorem dX1_decodeFrame_138 : decode cX1_decodeFrame 138 = .ok (.if_icmp .ge 39, 3) := mm_dk kX1_decodeFrame_1 36 rfl
theorem dX1_decodeFrame_141 : decode cX1_decodeFrame 141 = .ok (.aload_n 0, 1) := mm_dk kX1_decodeFrame_1 37 rfl
theorem dX1_decodeFrame_142 : decode cX1_decodeFrame 142 = .ok (.getfield 12, 3) := mm_dk kX1_decodeFrame_1 38 rfl
theorem dX1_decodeFrame_145 : decode cX1_decodeFrame 145 = .ok (.aload_n 1, 1) := mm_dk kX1_decodeFrame_1 39 rfl
set_option maxRecDepth 100000 in
theorem kX1_decodeFrame_2 : ([(146, .bipush 14, 2), (148, .iconst 5, 1), (149, .iload_n 3, 1), (150, .imul, 1), (151, .iadd, 1), (152, .iload_n 2, 1), (153, .invokevirtual 161, 3), (156, .aload_n 0, 1), (157, .getfield 51, 3), (160, .aload_n 0, 1), (161, .getfield 12, 3), (164, .iload_n 2, 1), (165, .iload_n 3, 1), (166, .iload_n 2, 1), (167, .imul, 1), (168, .invokevirtual 165, 3), (171, .iinc 3 1, 3), (174, .goto (-38), 3), (177, .aload_n 0, 1), (178, .getfield 51, 3), (181, .aload_n 0, 1), (182, .getfield 12, 3), (185, .getfield 169, 3), (188, .putfield 172, 3), (191, .aload_n 0, 1), (192, .getstatic 173, 3), (195, .aload_n 0, 1), (196, .getfield 12, 3), (199, .getfield 176, 3), (202, .iaload, 1), (203, .putfield 149, 3), (206, .return_, 1)] : List (Nat × Instr × Nat)).all (fun x => decide (decode cX1_decodeFrame x.1 = .ok x.2)) = true := by decide +kernel
theorem dX1_decodeFrame_146 : decode cX1_decodeFrame 146 = .ok (.bipush 14, 2) := mm_dk kX1_decodeFrame_2 0 rfl
theorem dX1_decodeFrame_148 : decode cX1_decodeFrame 148 = .ok (.iconst 5, 1) := mm_dk kX1_decodeFrame_2 1 rfl
theorem dX1_decodeFrame_149 : decode cX1_decodeFrame 149 = .ok (.iload_n 3, 1) := mm_dk kX1_decodeFrame_2 2 rfl
theorem dX1_decodeFrame_150 : decode cX1_decodeFrame 150 = .ok (.imul, 1) := mm_dk kX1_decodeFrame_2 3 rfl
theorem dX1_decodeFrame_151 : decode cX1_decodeFrame 151 = .ok (.iadd, 1) := mm_dk kX1_decodeFrame_2 4 rfl
theorem dX1_decodeFrame_152 : decode cX1_decodeFrame 152 = .ok (.iload_n 2, 1) := mm_dk kX1_decodeFrame_2 5 rfl
theorem dX1_decodeFrame_153 : decode cX1_decodeFrame 153 = .ok (.invokevirtual 161, 3) := mm_dk kX1_decodeFrame_2 6 rfl
theorem dX1_decodeFrame_156 : decode cX1_decodeFrame 156 = .ok (.aload_n 0, 1) := mm_dk kX1_decodeFrame_2 7 rfl
theorem dX1_decodeFrame_157 : decode cX1_decodeFrame 157 = .ok (.getfield 51, 3) := mm_dk kX1_decodeFrame_2 8 rfl
theorem dX1_decodeFrame_160 : decode cX1_decodeFrame 160 = .ok (.aload_n 0, 1) := mm_dk kX1_decodeFrame_2 9 rfl
theorem dX1_decodeFrame_161 : decode cX1_decodeFrame 161 = .ok (.getfield 12, 3) := mm_dk kX1_decodeFrame_2 10 rfl
theorem dX1_decodeFrame_164 : decode cX1_decodeFrame 164 = .ok (.iload_n 2, 1) := mm_dk kX1_decodeFrame_2 11 rfl
theorem dX1_decodeFrame_165 : decode cX1_decodeFrame 165 = .ok (.iload_n 3, 1) := mm_dk kX1_decodeFrame_2 12 rfl
theorem dX1_decodeFrame_166 : decode cX1_decodeFrame 166 = .ok (.iload_n 2, 1) := mm_dk kX1_decodeFrame_2 13 rfl
theorem dX1_decodeFrame_167 : decode cX1_decodeFrame 167 = .ok (.imul, 1) := mm_dk kX1_decodeFrame_2 14 rfl
theorem dX1_decodeFrame_168 : decode cX1_decodeFrame 168 = .ok (.invokevirtual 165, 3) := mm_dk kX1_decodeFrame_2 15 rfl
theorem dX1_decodeFrame_171 : decode cX1_decodeFrame 171 = .ok (.iinc 3 1, 3) := mm_dk kX1_decodeFrame_2 16 rfl
theorem dX1_decodeFrame_174 : decode cX1_decodeFrame 174 = .ok (.goto (-38), 3) := mm_dk kX1_decodeFrame_2 17 rfl
theorem dX1_decodeFrame_177 : decode cX1_decodeFrame 177 = .ok (.aload_n 0, 1) := mm_dk kX1_decodeFrame_2 18 rfl
theorem dX1_decodeFrame_178 : decode cX1_decodeFrame 178 = .ok (.getfield 51, 3) := mm_dk kX1_decodeFrame_2 19 rfl
theorem dX1_decodeFrame_181 : decode cX1_decodeFrame 181 = .ok (.aload_n 0, 1) := mm_dk kX1_decodeFrame_2 20 rfl
theorem dX1_decodeFrame_182 : decode cX1_decodeFrame 182 = .ok (.getfield 12, 3) := mm_dk kX1_decodeFrame_2 21 rfl
theorem dX1_decodeFrame_185 : decode cX1_decodeFrame 185 = .ok (.getfield 169, 3) := mm_dk kX1_decodeFrame_2 22 rfl
theorem dX1_decodeFrame_188 : decode cX1_decodeFrame 188 = .ok (.putfield 172, 3) := mm_dk kX1_decodeFrame_2 23 rfl
theorem dX1_decodeFrame_191 : decode cX1_decodeFrame 191 = .ok (.aload_n 0, 1) := mm_dk kX1_decodeFrame_2 24 rfl
theorem dX1_decodeFrame_192 : decode cX1_decodeFrame 192 = .ok (.getstatic 173, 3) := mm_dk kX1_decodeFrame_2 25 rfl
theorem dX1_decodeFrame_195 : decode cX1_decodeFrame 195 = .ok (.aload_n 0, 1) := mm_dk kX1_decodeFrame_2 26 rfl
theorem dX1_decodeFrame_196 : decode cX1_decodeFrame 196 = .ok (.getfield 12, 3) := mm_dk kX1_decodeFrame_2 27 rfl
theorem dX1_decodeFrame_199 : decode cX1_decodeFrame 199 = .ok (.getfield 176, 3) := mm_dk kX1_decodeFrame_2 28 rfl
theorem dX1_decodeFrame_202 : decode cX1_decodeFrame 202 = .ok (.iaload, 1) := mm_dk kX1_decodeFrame_2 29 rfl
theorem dX1_decodeFrame_203 : decode cX1_decodeFrame 203 = .ok (.putfield 149, 3) := mm_dk kX1_decodeFrame_2 30 rfl
theorem dX1_decodeFrame_206 : decode cX1_decodeFrame 206 = .ok (.return_, 1) := mm_dk kX1_decodeFrame_2 31 rfl
set_option maxRecDepth 100000 in
theorem kX1_repairFrom_0 : ([(0, .aload_n 0, 1), (1, .getfield 87, 3), (4, .getstatic 179, 3), (7, .arraylength, 1), (8, .if_icmp .ge 14, 3), (11, .getstatic 179, 3), (14, .aload_n 0, 1), (15, .getfield 87, 3), (18, .iaload, 1), (19, .goto 4, 3), (22, .iconst 0, 1), (23, .istore_n 2, 1), (24, .aload_n 0, 1), (25, .iconst 2, 1), (26, .putfield 139, 3), (29, .aload_n 1, 1), (30, .ifnull 60, 3), (33, .aload_n 0, 1), (34, .aload_n 1, 1), (35, .invokevirtual 80, 3), (38, .ifCond .ne 52, 3), (41, .aload_n 1, 1), (42, .invokevirtual 182, 3), (45, .iconst 2, 1), (46, .if_icmp .lt 44, 3), (49, .aload_n 0, 1), (50, .getfield 51, 3), (53, .aload_n 1, 1), (54, .iconst 0, 1), (55, .invokevirtual 185, 3), (58, .invokestatic 188, 3), (61, .putfield 172, 3), (64, .iconst 5, 1), (65, .aload_n 1, 1), (66, .iconst 1, 1), (67, .invokevirtual 185, 3), (70, .bipush 7, 2), (72, .iand, 1), (73, .imul, 1), (74, .istore_n 2, 1)] : List (Nat × Instr × Nat)).all (fun x => decide (decode cX1_repairFrom x.1 = .ok x.2)) = true := by decide +kernel
theorem dX1_repairFrom_0 : decode cX1_repairFrom 0 = .ok (.aload_n 0, 1) := mm_dk kX1_repairFrom_0 0 rfl
theorem dX1_repairFrom_1 : decode cX1_repairFrom 1 = .ok (.getfield 87, 3) := mm_dk kX1_repairFrom_0 1 rfl
theorem dX1_repairFrom_4 : decode cX1_repairFrom 4 = .ok (.getstatic 179, 3) := mm_dk kX1_repairFrom_0 2 rfl
theorem dX1_repairFrom_7 : decode cX1_repairFrom 7 = .ok (.arraylength, 1) := mm_dk kX1_repairFrom_0 3 rfl
theorem dX1_repairFrom_8 : decode cX1_repairFrom 8 = .ok (.if_icmp .ge 14, 3) := mm_dk kX1_repairFrom_0 4 rfl
theorem dX1_repairFrom_11 : decode cX1_repairFrom 11 = .ok (.getstatic 179, 3) := mm_dk kX1_repairFrom_0 5 rfl
theorem dX1_repairFrom_14 : decode cX1_repairFrom 14 = .ok (.aload_n 0, 1) := mm_dk kX1_repairFrom_0 6 rfl
theorem dX1_repairFrom_15 : decode cX1_repairFrom 15 = .ok (.getfield 87, 3) := mm_dk kX1_repairFrom_0 7 rfl
theorem dX1_repairFrom_18 : decode cX1_repairFrom 18 = .ok (.iaload, 1) := mm_dk kX1_repairFrom_0 8 rfl
theorem dX1_repairFrom_19 : decode cX1_repairFrom 19 = .ok (.goto 4, 3) := mm_dk kX1_repairFrom_0 9 rfl
theorem dX1_repairFrom_22 : decode cX1_repairFrom 22 = .ok (.iconst 0, 1) := mm_dk kX1_repairFrom_0 10 rfl
theorem dX1_repairFrom_23 : decode cX1_repairFrom 23 = .ok (.istore_n 2, 1) := mm_dk kX1_repairFrom_0 11 rfl
theorem dX1_repairFrom_24 : decode cX1_repairFrom 24 = .ok (.aload_n 0, 1) := mm_dk kX1_repairFrom_0 12 rfl
theorem dX1_repairFrom_25 : decode cX1_repairFrom 25 = .ok (.iconst 2, 1) := mm_dk kX1_repairFrom_0 13 rfl
theorem dX1_repairFrom_26 : decode cX1_repairFrom 26 = .ok (.putfield 139, 3) := mm_dk kX1_repairFrom_0 14 rfl
theorem dX1_repairFrom_29 : decode cX1_repairFrom 29 = .ok (.aload_n 1, 1) := mm_dk kX1_repairFrom_0 15 rfl
theorem dX1_repairFrom_30 : decode cX1_repairFrom 30 = .ok (.ifnull 60, 3) := mm_dk kX1_repairFrom_0 16 rfl
theorem dX1_repairFrom_33 : decode cX1_repairFrom 33 = .ok (.aload_n 0, 1) := mm_dk kX1_repairFrom_0 17 rfl
theorem dX1_repairFrom_34 : decode cX1_repairFrom 34 = .ok (.aload_n 1, 1) := mm_dk kX1_repairFrom_0 18 rfl
theorem dX1_repairFrom_35 : decode cX1_repairFrom 35 = .ok (.invokevirtual 80, 3) := mm_dk kX1_repairFrom_0 19 rfl
theorem dX1_repairFrom_38 : decode cX1_repairFrom 38 = .ok (.ifCond .ne 52, 3) := mm_dk kX1_repairFrom_0 20 rfl
theorem dX1_repairFrom_41 : decode cX1_repairFrom 41 = .ok (.aload_n 1, 1) := mm_dk kX1_repairFrom_0 21 rfl
theorem dX1_repairFrom_42 : decode cX1_repairFrom 42 = .ok (.invokevirtual 182, 3) := mm_dk kX1_repairFrom_0 22 rfl
theorem dX1_repairFrom_45 : decode cX1_repairFrom 45 = .ok (.iconst 2, 1) := mm_dk kX1_repairFrom_0 23 rfl
theorem dX1_repairFrom_46 : decode cX1_repairFrom 46 = .ok (.if_icmp .lt 44, 3) := mm_dk kX1_repairFrom_0 24 rfl
theorem dX1_repairFrom_49 : decode cX1_repairFrom 49 = .ok (.aload_n 0, 1) := mm_dk kX1_repairFrom_0 25 rfl
theorem dX1_repairFrom_50 : decode cX1_repairFrom 50 = .ok (.getfield 51, 3) := mm_dk kX1_repairFrom_0 26 rfl
theorem dX1_repairFrom_53 : decode cX1_repairFrom 53 = .ok (.aload_n 1, 1) := mm_dk kX1_repairFrom_0 27 rfl
theorem dX1_repairFrom_54 : decode cX1_repairFrom 54 = .ok (.iconst 0, 1) := mm_dk kX1_repairFrom_0 28 rfl
theorem dX1_repairFrom_55 : decode cX1_repairFrom 55 = .ok (.invokevirtual 185, 3) := mm_dk kX1_repairFrom_0 29 rfl
theorem dX1_repairFrom_58 : decode cX1_repairFrom 58 = .ok (.invokestatic 188, 3) := mm_dk kX1_repairFrom_0 30 rfl
theorem dX1_repairFrom_61 : decode cX1_repairFrom 61 = .ok (.putfield 172, 3) := mm_dk kX1_repairFrom_0 31 rfl
theorem dX1_repairFrom_64 : decode cX1_repairFrom 64 = .ok (.iconst 5, 1) := mm_dk kX1_repairFrom_0 32 rfl
theorem dX1_repairFrom_65 : decode cX1_repairFrom 65 = .ok (.aload_n 1, 1) := mm_dk kX1_repairFrom_0 33 rfl
theorem dX1_repairFrom_66 : decode cX1_repairFrom 66 = .ok (.iconst 1, 1) := mm_dk kX1_repairFrom_0 34 rfl
theorem dX1_repairFrom_67 : decode cX1_repairFrom 67 = .ok (.invokevirtual 185, 3) := mm_dk kX1_repairFrom_0 35 rfl
theorem dX1_repairFrom_70 : decode cX1_repairFrom 70 = .ok (.bipush 7, 2) := mm_dk kX1_repairFrom_0 36 rfl
theorem dX1_repairFrom_72 : decode cX1_repairFrom 72 = .ok (.iand, 1) := mm_dk kX1_repairFrom_0 37 rfl
theorem dX1_repairFrom_73 : decode cX1_repairFrom 73 = .ok (.imul, 1) := mm_dk kX1_repairFrom_0 38 rfl
theorem dX1_repairFrom_74 : decode cX1_repairFrom 74 = .ok (.istore_n 2, 1) := mm_dk kX1_repairFrom_0 39 rfl
set_option maxRecDepth 100000 in
theorem kX1_repairFrom_1 : ([(75, .aload_n 0, 1), (76, .iconst 3, 1), (77, .putfield 139, 3), (80, .aload_n 0, 1), (81, .dup, 1), (82, .getfield 191, 3), (85, .iconst 1, 1), (86, .iadd, 1), (87, .putfield 191, 3), (90, .aload_n 0, 1), (91, .dup, 1), (92, .getfield 194, 3), (95, .iconst 1, 1), (96, .iadd, 1), (97, .putfield 194, 3), (100, .aload_n 0, 1), (101, .getfield 38, 3), (104, .bipush 40, 2), (106, .aload_n 0, 1), (107, .getfield 139, 3), (110, .iadd, 1), (111, .invokevirtual 94, 3), (114, .aload_n 0, 1), (115, .getfield 35, 3), (118, .invokestatic 142, 3), (121, .istore_n 3, 1), (122, .iconst 0, 1), (123, .istore 4, 2), (125, .iload 4, 2), (127, .iconst 4, 1), (128, .if_icmp .ge 22, 3), (131, .aload_n 0, 1), (132, .getfield 51, 3), (135, .iload_n 2, 1), (136, .iload_n 3, 1), (137, .iload 4, 2), (139, .iload_n 3, 1), (140, .imul, 1), (141, .invokevirtual 197, 3), (144, .iinc 4 1, 3)] : List (Nat × Instr × Nat)).all (fun x => decide (decode cX1_repairFrom x.1 = .ok x.2)) = true := by decide +kernel
theorem dX1_repairFrom_75 : decode cX1_repairFrom 75 = .ok (.aload_n 0, 1) := mm_dk kX1_repairFrom_1 0 rfl
theorem dX1_repairFrom_76 : decode cX1_repairFrom 76 = .ok (.iconst 3, 1) := mm_dk kX1_repairFrom_1 1 rfl
theorem dX1_repairFrom_77 : decode cX1_repairFrom 77 = .ok (.putfield 139, 3) := mm_dk kX1_repairFrom_1 2 rfl
theorem dX1_repairFrom_80 : decode cX1_repairFrom 80 = .ok (.aload_n 0, 1) := mm_dk kX1_repairFrom_1 3 rfl
theorem dX1_repairFrom_81 : decode cX1_repairFrom 81 = .ok (.dup, 1) := mm_dk kX1_repairFrom_1 4 rfl
theorem dX1_repairFrom_82 : decode cX1_repairFrom 82 = .ok (.getfield 191, 3) := mm_dk kX1_repairFrom_1 5 rfl
theorem dX1_repairFrom_85 : decode cX1_repairFrom 85 = .ok (.iconst 1, 1) := mm_dk kX1_repairFrom_1 6 rfl
theorem dX1_repairFrom_86 : decode cX1_repairFrom 86 = .ok (.iadd, 1) := mm_dk kX1_repairFrom_1 7 rfl
theorem dX1_repairFrom_87 : decode cX1_repairFrom 87 = .ok (.putfield 191, 3) := mm_dk kX1_repairFrom_1 8 rfl
theorem dX1_repairFrom_90 : decode cX1_repairFrom 90 = .ok (.aload_n 0, 1) := mm_dk kX1_repairFrom_1 9 rfl
theorem dX1_repairFrom_91 : decode cX1_repairFrom 91 = .ok (.dup, 1) := mm_dk kX1_repairFrom_1 10 rfl
theorem dX1_repairFrom_92 : decode cX1_repairFrom 92 = .ok (.getfield 194, 3) := mm_dk kX1_repairFrom_1 11 rfl
theorem dX1_repairFrom_95 : decode cX1_repairFrom 95 = .ok (.iconst 1, 1) := mm_dk kX1_repairFrom_1 12 rfl
theorem dX1_repairFrom_96 : decode cX1_repairFrom 96 = .ok (.iadd, 1) := mm_dk kX1_repairFrom_1 13 rfl
theorem dX1_repairFrom_97 : decode cX1_repairFrom 97 = .ok (.putfield 194, 3) := mm_dk kX1_repairFrom_1 14 rfl
theorem dX1_repairFrom_100 : decode cX1_repairFrom 100 = .ok (.aload_n 0, 1) := mm_dk kX1_repairFrom_1 15 rfl
theorem dX1_repairFrom_101 : decode cX1_repairFrom 101 = .ok (.getfield 38, 3) := mm_dk kX1_repairFrom_1 16 rfl
theorem dX1_repairFrom_104 : decode cX1_repairFrom 104 = .ok (.bipush 40, 2) := mm_dk kX1_repairFrom_1 17 rfl
theorem dX1_repairFrom_106 : decode cX1_repairFrom 106 = .ok (.aload_n 0, 1) := mm_dk kX1_repairFrom_1 18 rfl
theorem dX1_repairFrom_107 : decode cX1_repairFrom 107 = .ok (.getfield 139, 3) := mm_dk kX1_repairFrom_1 19 rfl
theorem dX1_repairFrom_110 : decode cX1_repairFrom 110 = .ok (.iadd, 1) := mm_dk kX1_repairFrom_1 20 rfl
theorem dX1_repairFrom_111 : decode cX1_repairFrom 111 = .ok (.invokevirtual 94, 3) := mm_dk kX1_repairFrom_1 21 rfl
theorem dX1_repairFrom_114 : decode cX1_repairFrom 114 = .ok (.aload_n 0, 1) := mm_dk kX1_repairFrom_1 22 rfl
theorem dX1_repairFrom_115 : decode cX1_repairFrom 115 = .ok (.getfield 35, 3) := mm_dk kX1_repairFrom_1 23 rfl
theorem dX1_repairFrom_118 : decode cX1_repairFrom 118 = .ok (.invokestatic 142, 3) := mm_dk kX1_repairFrom_1 24 rfl
theorem dX1_repairFrom_121 : decode cX1_repairFrom 121 = .ok (.istore_n 3, 1) := mm_dk kX1_repairFrom_1 25 rfl
theorem dX1_repairFrom_122 : decode cX1_repairFrom 122 = .ok (.iconst 0, 1) := mm_dk kX1_repairFrom_1 26 rfl
theorem dX1_repairFrom_123 : decode cX1_repairFrom 123 = .ok (.istore 4, 2) := mm_dk kX1_repairFrom_1 27 rfl
theorem dX1_repairFrom_125 : decode cX1_repairFrom 125 = .ok (.iload 4, 2) := mm_dk kX1_repairFrom_1 28 rfl
theorem dX1_repairFrom_127 : decode cX1_repairFrom 127 = .ok (.iconst 4, 1) := mm_dk kX1_repairFrom_1 29 rfl
theorem dX1_repairFrom_128 : decode cX1_repairFrom 128 = .ok (.if_icmp .ge 22, 3) := mm_dk kX1_repairFrom_1 30 rfl
theorem dX1_repairFrom_131 : decode cX1_repairFrom 131 = .ok (.aload_n 0, 1) := mm_dk kX1_repairFrom_1 31 rfl
theorem dX1_repairFrom_132 : decode cX1_repairFrom 132 = .ok (.getfield 51, 3) := mm_dk kX1_repairFrom_1 32 rfl
theorem dX1_repairFrom_135 : decode cX1_repairFrom 135 = .ok (.iload_n 2, 1) := mm_dk kX1_repairFrom_1 33 rfl
theorem dX1_repairFrom_136 : decode cX1_repairFrom 136 = .ok (.iload_n 3, 1) := mm_dk kX1_repairFrom_1 34 rfl
theorem dX1_repairFrom_137 : decode cX1_repairFrom 137 = .ok (.iload 4, 2) := mm_dk kX1_repairFrom_1 35 rfl
theorem dX1_repairFrom_139 : decode cX1_repairFrom 139 = .ok (.iload_n 3, 1) := mm_dk kX1_repairFrom_1 36 rfl
theorem dX1_repairFrom_140 : decode cX1_repairFrom 140 = .ok (.imul, 1) := mm_dk kX1_repairFrom_1 37 rfl
theorem dX1_repairFrom_141 : decode cX1_repairFrom 141 = .ok (.invokevirtual 197, 3) := mm_dk kX1_repairFrom_1 38 rfl
theorem dX1_repairFrom_144 : decode cX1_repairFrom 144 = .ok (.iinc 4 1, 3) := mm_dk kX1_repairFrom_1 39 rfl
set_option maxRecDepth 100000 in
theorem kX1_repairFrom_2 : ([(147, .goto (-22), 3), (150, .return_, 1)] : List (Nat × Instr × Nat)).all (fun x => decide (decode cX1_repairFrom x.1 = .ok x.2)) = true := by decide +kernel
theorem dX1_repairFrom_147 : decode cX1_repairFrom 147 = .ok (.goto (-22), 3) := mm_dk kX1_repairFrom_2 0 rfl
theorem dX1_repairFrom_150 : decode cX1_repairFrom 150 = .ok (.return_, 1) := mm_dk kX1_repairFrom_2 1 rfl
set_option maxRecDepth 100000 in
theorem kX1_filterAll_0 : ([(0, .iconst 0, 1), (1, .istore_n 2, 1), (2, .iload_n 2, 1), (3, .iconst 4, 1), (4, .if_icmp .ge 41, 3), (7, .aload_n 0, 1), (8, .getfield 23, 3), (11, .iload_n 2, 1), (12, .aaload, 1), (13, .aload_n 0, 1), (14, .getfield 42, 3), (17, .getfield 200, 3), (20, .iload_n 1, 1), (21, .aload_n 0, 1), (22, .getfield 149, 3), (25, .aload_n 0, 1), (26, .getfield 51, 3), (29, .getfield 172, 3), (32, .aload_n 0, 1), (33, .getfield 38, 3), (36, .invokevirtual 203, 3), (39, .iinc 2 1, 3), (42, .goto (-40), 3), (45, .return_, 1)] : List (Nat × Instr × Nat)).all (fun x => decide (decode cX1_filterAll x.1 = .ok x.2)) = true := by decide +kernel
theorem dX1_filterAll_0 : decode cX1_filterAll 0 = .ok (.iconst 0, 1) := mm_dk kX1_filterAll_0 0 rfl
theorem dX1_filterAll_1 : decode cX1_filterAll 1 = .ok (.istore_n 2, 1) := mm_dk kX1_filterAll_0 1 rfl
theorem dX1_filterAll_2 : decode cX1_filterAll 2 = .ok (.iload_n 2, 1) := mm_dk kX1_filterAll_0 2 rfl
theorem dX1_filterAll_3 : decode cX1_filterAll 3 = .ok (.iconst 4, 1) := mm_dk kX1_filterAll_0 3 rfl
theorem dX1_filterAll_4 : decode cX1_filterAll 4 = .ok (.if_icmp .ge 41, 3) := mm_dk kX1_filterAll_0 4 rfl
theorem dX1_filterAll_7 : decode cX1_filterAll 7 = .ok (.aload_n 0, 1) := mm_dk kX1_filterAll_0 5 rfl
theorem dX1_filterAll_8 : decode cX1_filterAll 8 = .ok (.getfield 23, 3) := mm_dk kX1_filterAll_0 6 rfl
theorem dX1_filterAll_11 : decode cX1_filterAll 11 = .ok (.iload_n 2, 1) := mm_dk kX1_filterAll_0 7 rfl
theorem dX1_filterAll_12 : decode cX1_filterAll 12 = .ok (.aaload, 1) := mm_dk kX1_filterAll_0 8 rfl
theorem dX1_filterAll_13 : decode cX1_filterAll 13 = .ok (.aload_n 0, 1) := mm_dk kX1_filterAll_0 9 rfl
theorem dX1_filterAll_14 : decode cX1_filterAll 14 = .ok (.getfield 42, 3) := mm_dk kX1_filterAll_0 10 rfl
theorem dX1_filterAll_17 : decode cX1_filterAll 17 = .ok (.getfield 200, 3) := mm_dk kX1_filterAll_0 11 rfl
theorem dX1_filterAll_20 : decode cX1_filterAll 20 = .ok (.iload_n 1, 1) := mm_dk kX1_filterAll_0 12 rfl
theorem dX1_filterAll_21 : decode cX1_filterAll 21 = .ok (.aload_n 0, 1) := mm_dk kX1_filterAll_0 13 rfl
theorem dX1_filterAll_22 : decode cX1_filterAll 22 = .ok (.getfield 149, 3) := mm_dk kX1_filterAll_0 14 rfl
theorem dX1_filterAll_25 : decode cX1_filterAll 25 = .ok (.aload_n 0, 1) := mm_dk kX1_filterAll_0 15 rfl
theorem dX1_filterAll_26 : decode cX1_filterAll 26 = .ok (.getfield 51, 3) := mm_dk kX1_filterAll_0 16 rfl
theorem dX1_filterAll_29 : decode cX1_filterAll 29 = .ok (.getfield 172, 3) := mm_dk kX1_filterAll_0 17 rfl
theorem dX1_filterAll_32 : decode cX1_filterAll 32 = .ok (.aload_n 0, 1) := mm_dk kX1_filterAll_0 18 rfl
theorem dX1_filterAll_33 : decode cX1_filterAll 33 = .ok (.getfield 38, 3) := mm_dk kX1_filterAll_0 19 rfl
theorem dX1_filterAll_36 : decode cX1_filterAll 36 = .ok (.invokevirtual 203, 3) := mm_dk kX1_filterAll_0 20 rfl
theorem dX1_filterAll_39 : decode cX1_filterAll 39 = .ok (.iinc 2 1, 3) := mm_dk kX1_filterAll_0 21 rfl
theorem dX1_filterAll_42 : decode cX1_filterAll 42 = .ok (.goto (-40), 3) := mm_dk kX1_filterAll_0 22 rfl
theorem dX1_filterAll_45 : decode cX1_filterAll 45 = .ok (.return_, 1) := mm_dk kX1_filterAll_0 23 rfl
set_option maxRecDepth 100000 in
theorem kX1_joinOn_0 : ([(0, .aload_n 0, 1), (1, .getfield 42, 3), (4, .getfield 200, 3), (7, .astore_n 2, 1), (8, .aload_n 0, 1), (9, .getfield 31, 3), (12, .aload_n 2, 1), (13, .iload_n 1, 1), (14, .invokestatic 207, 3), (17, .aload_n 0, 1), (18, .getfield 27, 3), (21, .aload_n 0, 1), (22, .getfield 211, 3), (25, .invokestatic 207, 3), (28, .invokestatic 155, 3), (31, .invokestatic 155, 3), (34, .istore_n 3, 1), (35, .aload_n 0, 1), (36, .getfield 211, 3), (39, .ifCond .le 17, 3), (42, .aload_n 0, 1), (43, .getfield 27, 3), (46, .aload_n 0, 1), (47, .getfield 211, 3), (50, .iconst 1, 1), (51, .isub, 1), (52, .iaload, 1), (53, .goto 4, 3), (56, .iconst 0, 1), (57, .istore 4, 2), (59, .iconst 0, 1), (60, .istore 5, 2), (62, .iload 5, 2), (64, .iload_n 1, 1), (65, .if_icmp .ge 37, 3), (68, .aload_n 2, 1), (69, .iload 5, 2), (71, .iload 4, 2), (73, .iload_n 3, 1), (74, .isub, 1)] : List (Nat × Instr × Nat)).all (fun x => decide (decode cX1_joinOn x.1 = .ok x.2)) = true := by decide +kernel
theorem dX1_joinOn_0 : decode cX1_joinOn 0 = .ok (.aload_n 0, 1) := mm_dk kX1_joinOn_0 0 rfl
theorem dX1_joinOn_1 : decode cX1_joinOn 1 = .ok (.getfield 42, 3) := mm_dk kX1_joinOn_0 1 rfl
theorem dX1_joinOn_4 : decode cX1_joinOn 4 = .ok (.getfield 200, 3) := mm_dk kX1_joinOn_0 2 rfl
theorem dX1_joinOn_7 : decode cX1_joinOn 7 = .ok (.astore_n 2, 1) := mm_dk kX1_joinOn_0 3 rfl
theorem dX1_joinOn_8 : decode cX1_joinOn 8 = .ok (.aload_n 0, 1) := mm_dk kX1_joinOn_0 4 rfl
theorem dX1_joinOn_9 : decode cX1_joinOn 9 = .ok (.getfield 31, 3) := mm_dk kX1_joinOn_0 5 rfl
theorem dX1_joinOn_12 : decode cX1_joinOn 12 = .ok (.aload_n 2, 1) := mm_dk kX1_joinOn_0 6 rfl
theorem dX1_joinOn_13 : decode cX1_joinOn 13 = .ok (.iload_n 1, 1) := mm_dk kX1_joinOn_0 7 rfl
theorem dX1_joinOn_14 : decode cX1_joinOn 14 = .ok (.invokestatic 207, 3) := mm_dk kX1_joinOn_0 8 rfl
theorem dX1_joinOn_17 : decode cX1_joinOn 17 = .ok (.aload_n 0, 1) := mm_dk kX1_joinOn_0 9 rfl
theorem dX1_joinOn_18 : decode cX1_joinOn 18 = .ok (.getfield 27, 3) := mm_dk kX1_joinOn_0 10 rfl
theorem dX1_joinOn_21 : decode cX1_joinOn 21 = .ok (.aload_n 0, 1) := mm_dk kX1_joinOn_0 11 rfl
theorem dX1_joinOn_22 : decode cX1_joinOn 22 = .ok (.getfield 211, 3) := mm_dk kX1_joinOn_0 12 rfl
theorem dX1_joinOn_25 : decode cX1_joinOn 25 = .ok (.invokestatic 207, 3) := mm_dk kX1_joinOn_0 13 rfl
theorem dX1_joinOn_28 : decode cX1_joinOn 28 = .ok (.invokestatic 155, 3) := mm_dk kX1_joinOn_0 14 rfl
theorem dX1_joinOn_31 : decode cX1_joinOn 31 = .ok (.invokestatic 155, 3) := mm_dk kX1_joinOn_0 15 rfl
theorem dX1_joinOn_34 : decode cX1_joinOn 34 = .ok (.istore_n 3, 1) := mm_dk kX1_joinOn_0 16 rfl
theorem dX1_joinOn_35 : decode cX1_joinOn 35 = .ok (.aload_n 0, 1) := mm_dk kX1_joinOn_0 17 rfl
theorem dX1_joinOn_36 : decode cX1_joinOn 36 = .ok (.getfield 211, 3) := mm_dk kX1_joinOn_0 18 rfl
theorem dX1_joinOn_39 : decode cX1_joinOn 39 = .ok (.ifCond .le 17, 3) := mm_dk kX1_joinOn_0 19 rfl
theorem dX1_joinOn_42 : decode cX1_joinOn 42 = .ok (.aload_n 0, 1) := mm_dk kX1_joinOn_0 20 rfl
theorem dX1_joinOn_43 : decode cX1_joinOn 43 = .ok (.getfield 27, 3) := mm_dk kX1_joinOn_0 21 rfl
theorem dX1_joinOn_46 : decode cX1_joinOn 46 = .ok (.aload_n 0, 1) := mm_dk kX1_joinOn_0 22 rfl
theorem dX1_joinOn_47 : decode cX1_joinOn 47 = .ok (.getfield 211, 3) := mm_dk kX1_joinOn_0 23 rfl
theorem dX1_joinOn_50 : decode cX1_joinOn 50 = .ok (.iconst 1, 1) := mm_dk kX1_joinOn_0 24 rfl
theorem dX1_joinOn_51 : decode cX1_joinOn 51 = .ok (.isub, 1) := mm_dk kX1_joinOn_0 25 rfl
theorem dX1_joinOn_52 : decode cX1_joinOn 52 = .ok (.iaload, 1) := mm_dk kX1_joinOn_0 26 rfl
theorem dX1_joinOn_53 : decode cX1_joinOn 53 = .ok (.goto 4, 3) := mm_dk kX1_joinOn_0 27 rfl
theorem dX1_joinOn_56 : decode cX1_joinOn 56 = .ok (.iconst 0, 1) := mm_dk kX1_joinOn_0 28 rfl
theorem dX1_joinOn_57 : decode cX1_joinOn 57 = .ok (.istore 4, 2) := mm_dk kX1_joinOn_0 29 rfl
theorem dX1_joinOn_59 : decode cX1_joinOn 59 = .ok (.iconst 0, 1) := mm_dk kX1_joinOn_0 30 rfl
theorem dX1_joinOn_60 : decode cX1_joinOn 60 = .ok (.istore 5, 2) := mm_dk kX1_joinOn_0 31 rfl
theorem dX1_joinOn_62 : decode cX1_joinOn 62 = .ok (.iload 5, 2) := mm_dk kX1_joinOn_0 32 rfl
theorem dX1_joinOn_64 : decode cX1_joinOn 64 = .ok (.iload_n 1, 1) := mm_dk kX1_joinOn_0 33 rfl
theorem dX1_joinOn_65 : decode cX1_joinOn 65 = .ok (.if_icmp .ge 37, 3) := mm_dk kX1_joinOn_0 34 rfl
theorem dX1_joinOn_68 : decode cX1_joinOn 68 = .ok (.aload_n 2, 1) := mm_dk kX1_joinOn_0 35 rfl
theorem dX1_joinOn_69 : decode cX1_joinOn 69 = .ok (.iload 5, 2) := mm_dk kX1_joinOn_0 36 rfl
theorem dX1_joinOn_71 : decode cX1_joinOn 71 = .ok (.iload 4, 2) := mm_dk kX1_joinOn_0 37 rfl
theorem dX1_joinOn_73 : decode cX1_joinOn 73 = .ok (.iload_n 3, 1) := mm_dk kX1_joinOn_0 38 rfl
theorem dX1_joinOn_74 : decode cX1_joinOn 74 = .ok (.isub, 1) := mm_dk kX1_joinOn_0 39 rfl
set_option maxRecDepth 100000 in
theorem kX1_joinOn_1 : ([(75, .iload 4, 2), (77, .iload_n 3, 1), (78, .iadd, 1), (79, .aload_n 2, 1), (80, .iload 5, 2), (82, .iaload, 1), (83, .invokestatic 214, 3), (86, .invokestatic 155, 3), (89, .iastore, 1), (90, .aload_n 2, 1), (91, .iload 5, 2), (93, .iaload, 1), (94, .istore 4, 2), (96, .iinc 5 1, 3), (99, .goto (-37), 3), (102, .return_, 1)] : List (Nat × Instr × Nat)).all (fun x => decide (decode cX1_joinOn x.1 = .ok x.2)) = true := by decide +kernel
theorem dX1_joinOn_75 : decode cX1_joinOn 75 = .ok (.iload 4, 2) := mm_dk kX1_joinOn_1 0 rfl
theorem dX1_joinOn_77 : decode cX1_joinOn 77 = .ok (.iload_n 3, 1) := mm_dk kX1_joinOn_1 1 rfl
theorem dX1_joinOn_78 : decode cX1_joinOn 78 = .ok (.iadd, 1) := mm_dk kX1_joinOn_1 2 rfl
theorem dX1_joinOn_79 : decode cX1_joinOn 79 = .ok (.aload_n 2, 1) := mm_dk kX1_joinOn_1 3 rfl
theorem dX1_joinOn_80 : decode cX1_joinOn 80 = .ok (.iload 5, 2) := mm_dk kX1_joinOn_1 4 rfl
theorem dX1_joinOn_82 : decode cX1_joinOn 82 = .ok (.iaload, 1) := mm_dk kX1_joinOn_1 5 rfl
theorem dX1_joinOn_83 : decode cX1_joinOn 83 = .ok (.invokestatic 214, 3) := mm_dk kX1_joinOn_1 6 rfl
theorem dX1_joinOn_86 : decode cX1_joinOn 86 = .ok (.invokestatic 155, 3) := mm_dk kX1_joinOn_1 7 rfl
theorem dX1_joinOn_89 : decode cX1_joinOn 89 = .ok (.iastore, 1) := mm_dk kX1_joinOn_1 8 rfl
theorem dX1_joinOn_90 : decode cX1_joinOn 90 = .ok (.aload_n 2, 1) := mm_dk kX1_joinOn_1 9 rfl
theorem dX1_joinOn_91 : decode cX1_joinOn 91 = .ok (.iload 5, 2) := mm_dk kX1_joinOn_1 10 rfl
theorem dX1_joinOn_93 : decode cX1_joinOn 93 = .ok (.iaload, 1) := mm_dk kX1_joinOn_1 11 rfl
theorem dX1_joinOn_94 : decode cX1_joinOn 94 = .ok (.istore 4, 2) := mm_dk kX1_joinOn_1 12 rfl
theorem dX1_joinOn_96 : decode cX1_joinOn 96 = .ok (.iinc 5 1, 3) := mm_dk kX1_joinOn_1 13 rfl
theorem dX1_joinOn_99 : decode cX1_joinOn 99 = .ok (.goto (-37), 3) := mm_dk kX1_joinOn_1 14 rfl
theorem dX1_joinOn_102 : decode cX1_joinOn 102 = .ok (.return_, 1) := mm_dk kX1_joinOn_1 15 rfl
set_option maxRecDepth 100000 in
theorem kX1_greatestStep_0 : ([(0, .iconst 0, 1), (1, .istore_n 2, 1), (2, .iconst 1, 1), (3, .istore_n 3, 1), (4, .iload_n 3, 1), (5, .iload_n 1, 1), (6, .if_icmp .ge 26, 3), (9, .iload_n 2, 1), (10, .aload_n 0, 1), (11, .iload_n 3, 1), (12, .iaload, 1), (13, .aload_n 0, 1), (14, .iload_n 3, 1), (15, .iconst 1, 1), (16, .isub, 1), (17, .iaload, 1), (18, .isub, 1), (19, .invokestatic 217, 3), (22, .invokestatic 155, 3), (25, .istore_n 2, 1), (26, .iinc 3 1, 3), (29, .goto (-25), 3), (32, .iload_n 2, 1), (33, .ireturn, 1)] : List (Nat × Instr × Nat)).all (fun x => decide (decode cX1_greatestStep x.1 = .ok x.2)) = true := by decide +kernel
theorem dX1_greatestStep_0 : decode cX1_greatestStep 0 = .ok (.iconst 0, 1) := mm_dk kX1_greatestStep_0 0 rfl
theorem dX1_greatestStep_1 : decode cX1_greatestStep 1 = .ok (.istore_n 2, 1) := mm_dk kX1_greatestStep_0 1 rfl
theorem dX1_greatestStep_2 : decode cX1_greatestStep 2 = .ok (.iconst 1, 1) := mm_dk kX1_greatestStep_0 2 rfl
theorem dX1_greatestStep_3 : decode cX1_greatestStep 3 = .ok (.istore_n 3, 1) := mm_dk kX1_greatestStep_0 3 rfl
theorem dX1_greatestStep_4 : decode cX1_greatestStep 4 = .ok (.iload_n 3, 1) := mm_dk kX1_greatestStep_0 4 rfl
theorem dX1_greatestStep_5 : decode cX1_greatestStep 5 = .ok (.iload_n 1, 1) := mm_dk kX1_greatestStep_0 5 rfl
theorem dX1_greatestStep_6 : decode cX1_greatestStep 6 = .ok (.if_icmp .ge 26, 3) := mm_dk kX1_greatestStep_0 6 rfl
theorem dX1_greatestStep_9 : decode cX1_greatestStep 9 = .ok (.iload_n 2, 1) := mm_dk kX1_greatestStep_0 7 rfl
theorem dX1_greatestStep_10 : decode cX1_greatestStep 10 = .ok (.aload_n 0, 1) := mm_dk kX1_greatestStep_0 8 rfl
theorem dX1_greatestStep_11 : decode cX1_greatestStep 11 = .ok (.iload_n 3, 1) := mm_dk kX1_greatestStep_0 9 rfl
theorem dX1_greatestStep_12 : decode cX1_greatestStep 12 = .ok (.iaload, 1) := mm_dk kX1_greatestStep_0 10 rfl
theorem dX1_greatestStep_13 : decode cX1_greatestStep 13 = .ok (.aload_n 0, 1) := mm_dk kX1_greatestStep_0 11 rfl
theorem dX1_greatestStep_14 : decode cX1_greatestStep 14 = .ok (.iload_n 3, 1) := mm_dk kX1_greatestStep_0 12 rfl
theorem dX1_greatestStep_15 : decode cX1_greatestStep 15 = .ok (.iconst 1, 1) := mm_dk kX1_greatestStep_0 13 rfl
theorem dX1_greatestStep_16 : decode cX1_greatestStep 16 = .ok (.isub, 1) := mm_dk kX1_greatestStep_0 14 rfl
theorem dX1_greatestStep_17 : decode cX1_greatestStep 17 = .ok (.iaload, 1) := mm_dk kX1_greatestStep_0 15 rfl
theorem dX1_greatestStep_18 : decode cX1_greatestStep 18 = .ok (.isub, 1) := mm_dk kX1_greatestStep_0 16 rfl
theorem dX1_greatestStep_19 : decode cX1_greatestStep 19 = .ok (.invokestatic 217, 3) := mm_dk kX1_greatestStep_0 17 rfl
theorem dX1_greatestStep_22 : decode cX1_greatestStep 22 = .ok (.invokestatic 155, 3) := mm_dk kX1_greatestStep_0 18 rfl
theorem dX1_greatestStep_25 : decode cX1_greatestStep 25 = .ok (.istore_n 2, 1) := mm_dk kX1_greatestStep_0 19 rfl
theorem dX1_greatestStep_26 : decode cX1_greatestStep 26 = .ok (.iinc 3 1, 3) := mm_dk kX1_greatestStep_0 20 rfl
theorem dX1_greatestStep_29 : decode cX1_greatestStep 29 = .ok (.goto (-25), 3) := mm_dk kX1_greatestStep_0 21 rfl
theorem dX1_greatestStep_32 : decode cX1_greatestStep 32 = .ok (.iload_n 2, 1) := mm_dk kX1_greatestStep_0 22 rfl
theorem dX1_greatestStep_33 : decode cX1_greatestStep 33 = .ok (.ireturn, 1) := mm_dk kX1_greatestStep_0 23 rfl
set_option maxRecDepth 100000 in
theorem kX1_bringOut_0 : ([(0, .aload_n 0, 1), (1, .getfield 42, 3), (4, .getfield 200, 3), (7, .astore_n 2, 1), (8, .iload_n 1, 1), (9, .iconst 2, 1), (10, .idiv, 1), (11, .istore_n 3, 1), (12, .aload_n 0, 1), (13, .iload_n 1, 1), (14, .aload_n 0, 1), (15, .getfield 220, 3), (18, .iadd, 1), (19, .putfield 211, 3), (22, .aload_n 2, 1), (23, .iconst 0, 1), (24, .aload_n 0, 1), (25, .getfield 27, 3), (28, .iconst 0, 1), (29, .iload_n 3, 1), (30, .invokestatic 223, 3), (33, .aload_n 0, 1), (34, .getfield 220, 3), (37, .iconst 1, 1), (38, .if_icmp .ne 20, 3), (41, .aload_n 0, 1), (42, .getfield 27, 3), (45, .iload_n 3, 1), (46, .aload_n 2, 1), (47, .iload_n 3, 1), (48, .iconst 1, 1), (49, .isub, 1), (50, .iaload, 1), (51, .aload_n 2, 1), (52, .iload_n 3, 1), (53, .iaload, 1), (54, .iadd, 1), (55, .iconst 1, 1), (56, .ishr, 1), (57, .iastore, 1)] : List (Nat × Instr × Nat)).all (fun x => decide (decode cX1_bringOut x.1 = .ok x.2)) = true := by decide +kernel
theorem dX1_bringOut_0 : decode cX1_bringOut 0 = .ok (.aload_n 0, 1) := mm_dk kX1_bringOut_0 0 rfl
theorem dX1_bringOut_1 : decode cX1_bringOut 1 = .ok (.getfield 42, 3) := mm_dk kX1_bringOut_0 1 rfl
theorem dX1_bringOut_4 : decode cX1_bringOut 4 = .ok (.getfield 200, 3) := mm_dk kX1_bringOut_0 2 rfl
theorem dX1_bringOut_7 : decode cX1_bringOut 7 = .ok (.astore_n 2, 1) := mm_dk kX1_bringOut_0 3 rfl
theorem dX1_bringOut_8 : decode cX1_bringOut 8 = .ok (.iload_n 1, 1) := mm_dk kX1_bringOut_0 4 rfl
theorem dX1_bringOut_9 : decode cX1_bringOut 9 = .ok (.iconst 2, 1) := mm_dk kX1_bringOut_0 5 rfl
theorem dX1_bringOut_10 : decode cX1_bringOut 10 = .ok (.idiv, 1) := mm_dk kX1_bringOut_0 6 rfl
theorem dX1_bringOut_11 : decode cX1_bringOut 11 = .ok (.istore_n 3, 1) := mm_dk kX1_bringOut_0 7 rfl
theorem dX1_bringOut_12 : decode cX1_bringOut 12 = .ok (.aload_n 0, 1) := mm_dk kX1_bringOut_0 8 rfl
theorem dX1_bringOut_13 : decode cX1_bringOut 13 = .ok (.iload_n 1, 1) := mm_dk kX1_bringOut_0 9 rfl
theorem dX1_bringOut_14 : decode cX1_bringOut 14 = .ok (.aload_n 0, 1) := mm_dk kX1_bringOut_0 10 rfl
theorem dX1_bringOut_15 : decode cX1_bringOut 15 = .ok (.getfield 220, 3) := mm_dk kX1_bringOut_0 11 rfl
theorem dX1_bringOut_18 : decode cX1_bringOut 18 = .ok (.iadd, 1) := mm_dk kX1_bringOut_0 12 rfl
theorem dX1_bringOut_19 : decode cX1_bringOut 19 = .ok (.putfield 211, 3) := mm_dk kX1_bringOut_0 13 rfl
theorem dX1_bringOut_22 : decode cX1_bringOut 22 = .ok (.aload_n 2, 1) := mm_dk kX1_bringOut_0 14 rfl
theorem dX1_bringOut_23 : decode cX1_bringOut 23 = .ok (.iconst 0, 1) := mm_dk kX1_bringOut_0 15 rfl
theorem dX1_bringOut_24 : decode cX1_bringOut 24 = .ok (.aload_n 0, 1) := mm_dk kX1_bringOut_0 16 rfl
theorem dX1_bringOut_25 : decode cX1_bringOut 25 = .ok (.getfield 27, 3) := mm_dk kX1_bringOut_0 17 rfl
theorem dX1_bringOut_28 : decode cX1_bringOut 28 = .ok (.iconst 0, 1) := mm_dk kX1_bringOut_0 18 rfl
theorem dX1_bringOut_29 : decode cX1_bringOut 29 = .ok (.iload_n 3, 1) := mm_dk kX1_bringOut_0 19 rfl
theorem dX1_bringOut_30 : decode cX1_bringOut 30 = .ok (.invokestatic 223, 3) := mm_dk kX1_bringOut_0 20 rfl
theorem dX1_bringOut_33 : decode cX1_bringOut 33 = .ok (.aload_n 0, 1) := mm_dk kX1_bringOut_0 21 rfl
theorem dX1_bringOut_34 : decode cX1_bringOut 34 = .ok (.getfield 220, 3) := mm_dk kX1_bringOut_0 22 rfl
theorem dX1_bringOut_37 : decode cX1_bringOut 37 = .ok (.iconst 1, 1) := mm_dk kX1_bringOut_0 23 rfl
theorem dX1_bringOut_38 : decode cX1_bringOut 38 = .ok (.if_icmp .ne 20, 3) := mm_dk kX1_bringOut_0 24 rfl
theorem dX1_bringOut_41 : decode cX1_bringOut 41 = .ok (.aload_n 0, 1) := mm_dk kX1_bringOut_0 25 rfl
theorem dX1_bringOut_42 : decode cX1_bringOut 42 = .ok (.getfield 27, 3) := mm_dk kX1_bringOut_0 26 rfl
theorem dX1_bringOut_45 : decode cX1_bringOut 45 = .ok (.iload_n 3, 1) := mm_dk kX1_bringOut_0 27 rfl
theorem dX1_bringOut_46 : decode cX1_bringOut 46 = .ok (.aload_n 2, 1) := mm_dk kX1_bringOut_0 28 rfl
theorem dX1_bringOut_47 : decode cX1_bringOut 47 = .ok (.iload_n 3, 1) := mm_dk kX1_bringOut_0 29 rfl
theorem dX1_bringOut_48 : decode cX1_bringOut 48 = .ok (.iconst 1, 1) := mm_dk kX1_bringOut_0 30 rfl
theorem dX1_bringOut_49 : decode cX1_bringOut 49 = .ok (.isub, 1) := mm_dk kX1_bringOut_0 31 rfl
theorem dX1_bringOut_50 : decode cX1_bringOut 50 = .ok (.iaload, 1) := mm_dk kX1_bringOut_0 32 rfl
theorem dX1_bringOut_51 : decode cX1_bringOut 51 = .ok (.aload_n 2, 1) := mm_dk kX1_bringOut_0 33 rfl
theorem dX1_bringOut_52 : decode cX1_bringOut 52 = .ok (.iload_n 3, 1) := mm_dk kX1_bringOut_0 34 rfl
theorem dX1_bringOut_53 : decode cX1_bringOut 53 = .ok (.iaload, 1) := mm_dk kX1_bringOut_0 35 rfl
theorem dX1_bringOut_54 : decode cX1_bringOut 54 = .ok (.iadd, 1) := mm_dk kX1_bringOut_0 36 rfl
theorem dX1_bringOut_55 : decode cX1_bringOut 55 = .ok (.iconst 1, 1) := mm_dk kX1_bringOut_0 37 rfl
theorem dX1_bringOut_56 : decode cX1_bringOut 56 = .ok (.ishr, 1) := mm_dk kX1_bringOut_0 38 rfl
theorem dX1_bringOut_57 : decode cX1_bringOut 57 = .ok (.iastore, 1) := mm_dk kX1_bringOut_0 39 rfl
set_option maxRecDepth 100000 in
theorem kX1_bringOut_1 : ([(58, .aload_n 0, 1), (59, .getfield 220, 3), (62, .iconst (-1), 1), (63, .if_icmp .ne 9, 3), (66, .iload_n 3, 1), (67, .iconst 1, 1), (68, .iadd, 1), (69, .goto 4, 3), (72, .iload_n 3, 1), (73, .istore 4, 2), (75, .aload_n 2, 1), (76, .iload 4, 2), (78, .aload_n 0, 1), (79, .getfield 27, 3), (82, .iload 4, 2), (84, .aload_n 0, 1), (85, .getfield 220, 3), (88, .iadd, 1), (89, .iload_n 1, 1), (90, .iload 4, 2), (92, .isub, 1), (93, .invokestatic 223, 3), (96, .aload_n 0, 1), (97, .iconst 0, 1), (98, .putfield 220, 3), (101, .return_, 1)] : List (Nat × Instr × Nat)).all (fun x => decide (decode cX1_bringOut x.1 = .ok x.2)) = true := by decide +kernel
theorem dX1_bringOut_58 : decode cX1_bringOut 58 = .ok (.aload_n 0, 1) := mm_dk kX1_bringOut_1 0 rfl
theorem dX1_bringOut_59 : decode cX1_bringOut 59 = .ok (.getfield 220, 3) := mm_dk kX1_bringOut_1 1 rfl
theorem dX1_bringOut_62 : decode cX1_bringOut 62 = .ok (.iconst (-1), 1) := mm_dk kX1_bringOut_1 2 rfl
theorem dX1_bringOut_63 : decode cX1_bringOut 63 = .ok (.if_icmp .ne 9, 3) := mm_dk kX1_bringOut_1 3 rfl
theorem dX1_bringOut_66 : decode cX1_bringOut 66 = .ok (.iload_n 3, 1) := mm_dk kX1_bringOut_1 4 rfl
theorem dX1_bringOut_67 : decode cX1_bringOut 67 = .ok (.iconst 1, 1) := mm_dk kX1_bringOut_1 5 rfl
theorem dX1_bringOut_68 : decode cX1_bringOut 68 = .ok (.iadd, 1) := mm_dk kX1_bringOut_1 6 rfl
theorem dX1_bringOut_69 : decode cX1_bringOut 69 = .ok (.goto 4, 3) := mm_dk kX1_bringOut_1 7 rfl
theorem dX1_bringOut_72 : decode cX1_bringOut 72 = .ok (.iload_n 3, 1) := mm_dk kX1_bringOut_1 8 rfl
theorem dX1_bringOut_73 : decode cX1_bringOut 73 = .ok (.istore 4, 2) := mm_dk kX1_bringOut_1 9 rfl
theorem dX1_bringOut_75 : decode cX1_bringOut 75 = .ok (.aload_n 2, 1) := mm_dk kX1_bringOut_1 10 rfl
theorem dX1_bringOut_76 : decode cX1_bringOut 76 = .ok (.iload 4, 2) := mm_dk kX1_bringOut_1 11 rfl
theorem dX1_bringOut_78 : decode cX1_bringOut 78 = .ok (.aload_n 0, 1) := mm_dk kX1_bringOut_1 12 rfl
theorem dX1_bringOut_79 : decode cX1_bringOut 79 = .ok (.getfield 27, 3) := mm_dk kX1_bringOut_1 13 rfl
theorem dX1_bringOut_82 : decode cX1_bringOut 82 = .ok (.iload 4, 2) := mm_dk kX1_bringOut_1 14 rfl
theorem dX1_bringOut_84 : decode cX1_bringOut 84 = .ok (.aload_n 0, 1) := mm_dk kX1_bringOut_1 15 rfl
theorem dX1_bringOut_85 : decode cX1_bringOut 85 = .ok (.getfield 220, 3) := mm_dk kX1_bringOut_1 16 rfl
theorem dX1_bringOut_88 : decode cX1_bringOut 88 = .ok (.iadd, 1) := mm_dk kX1_bringOut_1 17 rfl
theorem dX1_bringOut_89 : decode cX1_bringOut 89 = .ok (.iload_n 1, 1) := mm_dk kX1_bringOut_1 18 rfl
theorem dX1_bringOut_90 : decode cX1_bringOut 90 = .ok (.iload 4, 2) := mm_dk kX1_bringOut_1 19 rfl
theorem dX1_bringOut_92 : decode cX1_bringOut 92 = .ok (.isub, 1) := mm_dk kX1_bringOut_1 20 rfl
theorem dX1_bringOut_93 : decode cX1_bringOut 93 = .ok (.invokestatic 223, 3) := mm_dk kX1_bringOut_1 21 rfl
theorem dX1_bringOut_96 : decode cX1_bringOut 96 = .ok (.aload_n 0, 1) := mm_dk kX1_bringOut_1 22 rfl
theorem dX1_bringOut_97 : decode cX1_bringOut 97 = .ok (.iconst 0, 1) := mm_dk kX1_bringOut_1 23 rfl
theorem dX1_bringOut_98 : decode cX1_bringOut 98 = .ok (.putfield 220, 3) := mm_dk kX1_bringOut_1 24 rfl
theorem dX1_bringOut_101 : decode cX1_bringOut 101 = .ok (.return_, 1) := mm_dk kX1_bringOut_1 25 rfl
set_option maxRecDepth 100000 in
theorem kX2_init_0 : ([(0, .aload_n 0, 1), (1, .invokespecial 3, 3), (4, .aload_n 0, 1), (5, .bipush 8, 2), (7, .newarray .int, 2), (9, .putfield 9, 3), (12, .aload_n 0, 1), (13, .iconst 4, 1), (14, .anewarray 15, 3), (17, .dup, 1), (18, .iconst 0, 1), (19, .new 15, 3), (22, .dup, 1), (23, .invokespecial 17, 3), (26, .aastore, 1), (27, .dup, 1), (28, .iconst 1, 1), (29, .new 15, 3), (32, .dup, 1), (33, .invokespecial 17, 3), (36, .aastore, 1), (37, .dup, 1), (38, .iconst 2, 1), (39, .new 15, 3), (42, .dup, 1), (43, .invokespecial 17, 3), (46, .aastore, 1), (47, .dup, 1), (48, .iconst 3, 1), (49, .new 15, 3), (52, .dup, 1), (53, .invokespecial 17, 3), (56, .aastore, 1), (57, .putfield 18, 3), (60, .aload_n 0, 1), (61, .sipush 320, 3), (64, .newarray .int, 2), (66, .putfield 22, 3), (69, .aload_n 0, 1), (70, .sipush 480, 3)] : List (Nat × Instr × Nat)).all (fun x => decide (decode cX2_init x.1 = .ok x.2)) = true := by decide +kernel
theorem dX2_init_0 : decode cX2_init 0 = .ok (.aload_n 0, 1) := mm_dk kX2_init_0 0 rfl
theorem dX2_init_1 : decode cX2_init 1 = .ok (.invokespecial 3, 3) := mm_dk kX2_init_0 1 rfl
theorem dX2_init_4 : decode cX2_init 4 = .ok (.aload_n 0, 1) := mm_dk kX2_init_0 2 rfl
theorem dX2_init_5 : decode cX2_init 5 = .ok (.bipush 8, 2) := mm_dk kX2_init_0 3 rfl
theorem dX2_init_7 : decode cX2_init 7 = .ok (.newarray .int, 2) := mm_dk kX2_init_0 4 rfl
theorem dX2_init_9 : decode cX2_init 9 = .ok (.putfield 9, 3) := mm_dk kX2_init_0 5 rfl
theorem dX2_init_12 : decode cX2_init 12 = .ok (.aload_n 0, 1) := mm_dk kX2_init_0 6 rfl
theorem dX2_init_13 : decode cX2_init 13 = .ok (.iconst 4, 1) := mm_dk kX2_init_0 7 rfl
theorem dX2_init_14 : decode cX2_init 14 = .ok (.anewarray 15, 3) := mm_dk kX2_init_0 8 rfl
theorem dX2_init_17 : decode cX2_init 17 = .ok (.dup, 1) := mm_dk kX2_init_0 9 rfl
theorem dX2_init_18 : decode cX2_init 18 = .ok (.iconst 0, 1) := mm_dk kX2_init_0 10 rfl
theorem dX2_init_19 : decode cX2_init 19 = .ok (.new 15, 3) := mm_dk kX2_init_0 11 rfl
theorem dX2_init_22 : decode cX2_init 22 = .ok (.dup, 1) := mm_dk kX2_init_0 12 rfl
theorem dX2_init_23 : decode cX2_init 23 = .ok (.invokespecial 17, 3) := mm_dk kX2_init_0 13 rfl
theorem dX2_init_26 : decode cX2_init 26 = .ok (.aastore, 1) := mm_dk kX2_init_0 14 rfl
theorem dX2_init_27 : decode cX2_init 27 = .ok (.dup, 1) := mm_dk kX2_init_0 15 rfl
theorem dX2_init_28 : decode cX2_init 28 = .ok (.iconst 1, 1) := mm_dk kX2_init_0 16 rfl
theorem dX2_init_29 : decode cX2_init 29 = .ok (.new 15, 3) := mm_dk kX2_init_0 17 rfl
theorem dX2_init_32 : decode cX2_init 32 = .ok (.dup, 1) := mm_dk kX2_init_0 18 rfl
theorem dX2_init_33 : decode cX2_init 33 = .ok (.invokespecial 17, 3) := mm_dk kX2_init_0 19 rfl
theorem dX2_init_36 : decode cX2_init 36 = .ok (.aastore, 1) := mm_dk kX2_init_0 20 rfl
theorem dX2_init_37 : decode cX2_init 37 = .ok (.dup, 1) := mm_dk kX2_init_0 21 rfl
theorem dX2_init_38 : decode cX2_init 38 = .ok (.iconst 2, 1) := mm_dk kX2_init_0 22 rfl
theorem dX2_init_39 : decode cX2_init 39 = .ok (.new 15, 3) := mm_dk kX2_init_0 23 rfl
theorem dX2_init_42 : decode cX2_init 42 = .ok (.dup, 1) := mm_dk kX2_init_0 24 rfl
theorem dX2_init_43 : decode cX2_init 43 = .ok (.invokespecial 17, 3) := mm_dk kX2_init_0 25 rfl
theorem dX2_init_46 : decode cX2_init 46 = .ok (.aastore, 1) := mm_dk kX2_init_0 26 rfl
theorem dX2_init_47 : decode cX2_init 47 = .ok (.dup, 1) := mm_dk kX2_init_0 27 rfl
theorem dX2_init_48 : decode cX2_init 48 = .ok (.iconst 3, 1) := mm_dk kX2_init_0 28 rfl
theorem dX2_init_49 : decode cX2_init 49 = .ok (.new 15, 3) := mm_dk kX2_init_0 29 rfl
theorem dX2_init_52 : decode cX2_init 52 = .ok (.dup, 1) := mm_dk kX2_init_0 30 rfl
theorem dX2_init_53 : decode cX2_init 53 = .ok (.invokespecial 17, 3) := mm_dk kX2_init_0 31 rfl
theorem dX2_init_56 : decode cX2_init 56 = .ok (.aastore, 1) := mm_dk kX2_init_0 32 rfl
theorem dX2_init_57 : decode cX2_init 57 = .ok (.putfield 18, 3) := mm_dk kX2_init_0 33 rfl
theorem dX2_init_60 : decode cX2_init 60 = .ok (.aload_n 0, 1) := mm_dk kX2_init_0 34 rfl
theorem dX2_init_61 : decode cX2_init 61 = .ok (.sipush 320, 3) := mm_dk kX2_init_0 35 rfl
theorem dX2_init_64 : decode cX2_init 64 = .ok (.newarray .int, 2) := mm_dk kX2_init_0 36 rfl
theorem dX2_init_66 : decode cX2_init 66 = .ok (.putfield 22, 3) := mm_dk kX2_init_0 37 rfl
theorem dX2_init_69 : decode cX2_init 69 = .ok (.aload_n 0, 1) := mm_dk kX2_init_0 38 rfl
theorem dX2_init_70 : decode cX2_init 70 = .ok (.sipush 480, 3) := mm_dk kX2_init_0 39 rfl
set_option maxRecDepth 100000 in
theorem kX2_init_1 : ([(73, .newarray .int, 2), (75, .putfield 25, 3), (78, .aload_n 0, 1), (79, .iload_n 1, 1), (80, .putfield 28, 3), (83, .aload_n 0, 1), (84, .aload_n 2, 1), (85, .putfield 32, 3), (88, .aload_n 0, 1), (89, .aload_n 3, 1), (90, .putfield 36, 3), (93, .aload_n 0, 1), (94, .aload 4, 2), (96, .putfield 40, 3), (99, .aload_n 0, 1), (100, .new 44, 3), (103, .dup, 1), (104, .aload_n 2, 1), (105, .aload_n 3, 1), (106, .invokespecial 46, 3), (109, .putfield 49, 3), (112, .return_, 1)] : List (Nat × Instr × Nat)).all (fun x => decide (decode cX2_init x.1 = .ok x.2)) = true := by decide +kernel
theorem dX2_init_73 : decode cX2_init 73 = .ok (.newarray .int, 2) := mm_dk kX2_init_1 0 rfl
theorem dX2_init_75 : decode cX2_init 75 = .ok (.putfield 25, 3) := mm_dk kX2_init_1 1 rfl
theorem dX2_init_78 : decode cX2_init 78 = .ok (.aload_n 0, 1) := mm_dk kX2_init_1 2 rfl
theorem dX2_init_79 : decode cX2_init 79 = .ok (.iload_n 1, 1) := mm_dk kX2_init_1 3 rfl
theorem dX2_init_80 : decode cX2_init 80 = .ok (.putfield 28, 3) := mm_dk kX2_init_1 4 rfl
theorem dX2_init_83 : decode cX2_init 83 = .ok (.aload_n 0, 1) := mm_dk kX2_init_1 5 rfl
theorem dX2_init_84 : decode cX2_init 84 = .ok (.aload_n 2, 1) := mm_dk kX2_init_1 6 rfl
theorem dX2_init_85 : decode cX2_init 85 = .ok (.putfield 32, 3) := mm_dk kX2_init_1 7 rfl
theorem dX2_init_88 : decode cX2_init 88 = .ok (.aload_n 0, 1) := mm_dk kX2_init_1 8 rfl
theorem dX2_init_89 : decode cX2_init 89 = .ok (.aload_n 3, 1) := mm_dk kX2_init_1 9 rfl
theorem dX2_init_90 : decode cX2_init 90 = .ok (.putfield 36, 3) := mm_dk kX2_init_1 10 rfl
theorem dX2_init_93 : decode cX2_init 93 = .ok (.aload_n 0, 1) := mm_dk kX2_init_1 11 rfl
theorem dX2_init_94 : decode cX2_init 94 = .ok (.aload 4, 2) := mm_dk kX2_init_1 12 rfl
theorem dX2_init_96 : decode cX2_init 96 = .ok (.putfield 40, 3) := mm_dk kX2_init_1 13 rfl
theorem dX2_init_99 : decode cX2_init 99 = .ok (.aload_n 0, 1) := mm_dk kX2_init_1 14 rfl
theorem dX2_init_100 : decode cX2_init 100 = .ok (.new 44, 3) := mm_dk kX2_init_1 15 rfl
theorem dX2_init_103 : decode cX2_init 103 = .ok (.dup, 1) := mm_dk kX2_init_1 16 rfl
theorem dX2_init_104 : decode cX2_init 104 = .ok (.aload_n 2, 1) := mm_dk kX2_init_1 17 rfl
theorem dX2_init_105 : decode cX2_init 105 = .ok (.aload_n 3, 1) := mm_dk kX2_init_1 18 rfl
theorem dX2_init_106 : decode cX2_init 106 = .ok (.invokespecial 46, 3) := mm_dk kX2_init_1 19 rfl
theorem dX2_init_109 : decode cX2_init 109 = .ok (.putfield 49, 3) := mm_dk kX2_init_1 20 rfl
theorem dX2_init_112 : decode cX2_init 112 = .ok (.return_, 1) := mm_dk kX2_init_1 21 rfl
set_option maxRecDepth 100000 in
theorem kX2_encodeFrame_0 : ([(0, .aload_n 0, 1), (1, .getfield 32, 3), (4, .iconst 0, 1), (5, .putfield 53, 3), (8, .aload_n 0, 1), (9, .getfield 28, 3), (12, .invokestatic 58, 3), (15, .istore_n 1, 1), (16, .aload_n 0, 1), (17, .iload_n 1, 1), (18, .invokevirtual 62, 3), (21, .istore_n 2, 1), (22, .aload_n 0, 1), (23, .getfield 18, 3), (26, .iconst 3, 1), (27, .aaload, 1), (28, .getfield 65, 3), (31, .bipush 20, 2), (33, .isub, 1), (34, .istore_n 3, 1), (35, .aload_n 0, 1), (36, .getfield 18, 3), (39, .iconst 3, 1), (40, .aaload, 1), (41, .getfield 68, 3), (44, .istore 4, 2), (46, .iload_n 2, 1), (47, .aload_n 0, 1), (48, .getfield 71, 3), (51, .if_icmp .lt 7, 3), (54, .iconst 1, 1), (55, .goto 4, 3), (58, .iconst 0, 1), (59, .istore 5, 2), (61, .iload 5, 2), (63, .ifCond .eq 23, 3), (66, .aload_n 0, 1), (67, .iload_n 1, 1), (68, .invokevirtual 74, 3), (71, .aload_n 0, 1)] : List (Nat × Instr × Nat)).all (fun x => decide (decode cX2_encodeFrame x.1 = .ok x.2)) = true := by decide +kernel
theorem dX2_encodeFrame_0 : decode cX2_encodeFrame 0 = .ok (.aload_n 0, 1) := mm_dk kX2_encodeFrame_0 0 rfl
theorem dX2_encodeFrame_1 : decode cX2_encodeFrame 1 = .ok (.getfield 32, 3) := mm_dk kX2_encodeFrame_0 1 rfl
theorem dX2_encodeFrame_4 : decode cX2_encodeFrame 4 = .ok (.iconst 0, 1) := mm_dk kX2_encodeFrame_0 2 rfl
theorem dX2_encodeFrame_5 : decode cX2_encodeFrame 5 = .ok (.putfield 53, 3) := mm_dk kX2_encodeFrame_0 3 rfl
theorem dX2_encodeFrame_8 : decode cX2_encodeFrame 8 = .ok (.aload_n 0, 1) := mm_dk kX2_encodeFrame_0 4 rfl
theorem dX2_encodeFrame_9 : decode cX2_encodeFrame 9 = .ok (.getfield 28, 3) := mm_dk kX2_encodeFrame_0 5 rfl
theorem dX2_encodeFrame_12 : decode cX2_encodeFrame 12 = .ok (.invokestatic 58, 3) := mm_dk kX2_encodeFrame_0 6 rfl
theorem dX2_encodeFrame_15 : decode cX2_encodeFrame 15 = .ok (.istore_n 1, 1) := mm_dk kX2_encodeFrame_0 7 rfl
theorem dX2_encodeFrame_16 : decode cX2_encodeFrame 16 = .ok (.aload_n 0, 1) := mm_dk kX2_encodeFrame_0 8 rfl
theorem dX2_encodeFrame_17 : decode cX2_encodeFrame 17 = .ok (.iload_n 1, 1) := mm_dk kX2_encodeFrame_0 9 rfl
theorem dX2_encodeFrame_18 : decode cX2_encodeFrame 18 = .ok (.invokevirtual 62, 3) := mm_dk kX2_encodeFrame_0 10 rfl
theorem dX2_encodeFrame_21 : decode cX2_encodeFrame 21 = .ok (.istore_n 2, 1) := mm_dk kX2_encodeFrame_0 11 rfl
theorem dX2_encodeFrame_22 : decode cX2_encodeFrame 22 = .ok (.aload_n 0, 1) := mm_dk kX2_encodeFrame_0 12 rfl
theorem dX2_encodeFrame_23 : decode cX2_encodeFrame 23 = .ok (.getfield 18, 3) := mm_dk kX2_encodeFrame_0 13 rfl
theorem dX2_encodeFrame_26 : decode cX2_encodeFrame 26 = .ok (.iconst 3, 1) := mm_dk kX2_encodeFrame_0 14 rfl
theorem dX2_encodeFrame_27 : decode cX2_encodeFrame 27 = .ok (.aaload, 1) := mm_dk kX2_encodeFrame_0 15 rfl
theorem dX2_encodeFrame_28 : decode cX2_encodeFrame 28 = .ok (.getfield 65, 3) := mm_dk kX2_encodeFrame_0 16 rfl
theorem dX2_encodeFrame_31 : decode cX2_encodeFrame 31 = .ok (.bipush 20, 2) := mm_dk kX2_encodeFrame_0 17 rfl
theorem dX2_encodeFrame_33 : decode cX2_encodeFrame 33 = .ok (.isub, 1) := mm_dk kX2_encodeFrame_0 18 rfl
theorem dX2_encodeFrame_34 : decode cX2_encodeFrame 34 = .ok (.istore_n 3, 1) := mm_dk kX2_encodeFrame_0 19 rfl
theorem dX2_encodeFrame_35 : decode cX2_encodeFrame 35 = .ok (.aload_n 0, 1) := mm_dk kX2_encodeFrame_0 20 rfl
theorem dX2_encodeFrame_36 : decode cX2_encodeFrame 36 = .ok (.getfield 18, 3) := mm_dk kX2_encodeFrame_0 21 rfl
theorem dX2_encodeFrame_39 : decode cX2_encodeFrame 39 = .ok (.iconst 3, 1) := mm_dk kX2_encodeFrame_0 22 rfl
theorem dX2_encodeFrame_40 : decode cX2_encodeFrame 40 = .ok (.aaload, 1) := mm_dk kX2_encodeFrame_0 23 rfl
theorem dX2_encodeFrame_41 : decode cX2_encodeFrame 41 = .ok (.getfield 68, 3) := mm_dk kX2_encodeFrame_0 24 rfl
theorem dX2_encodeFrame_44 : decode cX2_encodeFrame 44 = .ok (.istore 4, 2) := mm_dk kX2_encodeFrame_0 25 rfl
theorem dX2_encodeFrame_46 : decode cX2_encodeFrame 46 = .ok (.iload_n 2, 1) := mm_dk kX2_encodeFrame_0 26 rfl
theorem dX2_encodeFrame_47 : decode cX2_encodeFrame 47 = .ok (.aload_n 0, 1) := mm_dk kX2_encodeFrame_0 27 rfl
theorem dX2_encodeFrame_48 : decode cX2_encodeFrame 48 = .ok (.getfield 71, 3) := mm_dk kX2_encodeFrame_0 28 rfl
theorem dX2_encodeFrame_51 : decode cX2_encodeFrame 51 = .ok (.if_icmp .lt 7, 3) := mm_dk kX2_encodeFrame_0 29 rfl
theorem dX2_encodeFrame_54 : decode cX2_encodeFrame 54 = .ok (.iconst 1, 1) := mm_dk kX2_encodeFrame_0 30 rfl
theorem dX2_encodeFrame_55 : decode cX2_encodeFrame 55 = .ok (.goto 4, 3) := mm_dk kX2_encodeFrame_0 31 rfl
theorem dX2_encodeFrame_58 : decode cX2_encodeFrame 58 = .ok (.iconst 0, 1) := mm_dk kX2_encodeFrame_0 32 rfl
theorem dX2_encodeFrame_59 : decode cX2_encodeFrame 59 = .ok (.istore 5, 2) := mm_dk kX2_encodeFrame_0 33 rfl
theorem dX2_encodeFrame_61 : decode cX2_encodeFrame 61 = .ok (.iload 5, 2) := mm_dk kX2_encodeFrame_0 34 rfl
theorem dX2_encodeFrame_63 : decode cX2_encodeFrame 63 = .ok (.ifCond .eq 23, 3) := mm_dk kX2_encodeFrame_0 35 rfl
theorem dX2_encodeFrame_66 : decode cX2_encodeFrame 66 = .ok (.aload_n 0, 1) := mm_dk kX2_encodeFrame_0 36 rfl
theorem dX2_encodeFrame_67 : decode cX2_encodeFrame 67 = .ok (.iload_n 1, 1) := mm_dk kX2_encodeFrame_0 37 rfl
theorem dX2_encodeFrame_68 : decode cX2_encodeFrame 68 = .ok (.invokevirtual 74, 3) := mm_dk kX2_encodeFrame_0 38 rfl
theorem dX2_encodeFrame_71 : decode cX2_encodeFrame 71 = .ok (.aload_n 0, 1) := mm_dk kX2_encodeFrame_0 39 rfl
set_option maxRecDepth 100000 in
theorem kX2_encodeFrame_1 : ([(72, .iload_n 1, 1), (73, .invokevirtual 78, 3), (76, .aload_n 0, 1), (77, .iload_n 1, 1), (78, .iconst 4, 1), (79, .idiv, 1), (80, .invokevirtual 81, 3), (83, .goto 35, 3), (86, .aload_n 0, 1), (87, .getfield 32, 3), (90, .iconst 2, 1), (91, .invokevirtual 84, 3), (94, .aload_n 0, 1), (95, .getfield 32, 3), (98, .bipush 14, 2), (100, .invokevirtual 84, 3), (103, .aload_n 0, 1), (104, .getfield 49, 3), (107, .aload_n 0, 1), (108, .getfield 87, 3), (111, .iload_n 2, 1), (112, .iload_n 1, 1), (113, .iconst 4, 1), (114, .idiv, 1), (115, .invokevirtual 90, 3), (118, .aload_n 0, 1), (119, .getfield 32, 3), (122, .bipush 15, 2), (124, .invokevirtual 84, 3), (127, .aload_n 0, 1), (128, .iload 5, 2), (130, .invokevirtual 94, 3), (133, .astore 6, 2), (135, .aload_n 0, 1), (136, .aload 6, 2), (138, .iload 5, 2), (140, .iload_n 2, 1), (141, .invokevirtual 98, 3), (144, .aload 6, 2), (146, .iconst 5, 1)] : List (Nat × Instr × Nat)).all (fun x => decide (decode cX2_encodeFrame x.1 = .ok x.2)) = true := by decide +kernel
theorem dX2_encodeFrame_72 : decode cX2_encodeFrame 72 = .ok (.iload_n 1, 1) := mm_dk kX2_encodeFrame_1 0 rfl
theorem dX2_encodeFrame_73 : decode cX2_encodeFrame 73 = .ok (.invokevirtual 78, 3) := mm_dk kX2_encodeFrame_1 1 rfl
theorem dX2_encodeFrame_76 : decode cX2_encodeFrame 76 = .ok (.aload_n 0, 1) := mm_dk kX2_encodeFrame_1 2 rfl
theorem dX2_encodeFrame_77 : decode cX2_encodeFrame 77 = .ok (.iload_n 1, 1) := mm_dk kX2_encodeFrame_1 3 rfl
theorem dX2_encodeFrame_78 : decode cX2_encodeFrame 78 = .ok (.iconst 4, 1) := mm_dk kX2_encodeFrame_1 4 rfl
theorem dX2_encodeFrame_79 : decode cX2_encodeFrame 79 = .ok (.idiv, 1) := mm_dk kX2_encodeFrame_1 5 rfl
theorem dX2_encodeFrame_80 : decode cX2_encodeFrame 80 = .ok (.invokevirtual 81, 3) := mm_dk kX2_encodeFrame_1 6 rfl
theorem dX2_encodeFrame_83 : decode cX2_encodeFrame 83 = .ok (.goto 35, 3) := mm_dk kX2_encodeFrame_1 7 rfl
theorem dX2_encodeFrame_86 : decode cX2_encodeFrame 86 = .ok (.aload_n 0, 1) := mm_dk kX2_encodeFrame_1 8 rfl
theorem dX2_encodeFrame_87 : decode cX2_encodeFrame 87 = .ok (.getfield 32, 3) := mm_dk kX2_encodeFrame_1 9 rfl
theorem dX2_encodeFrame_90 : decode cX2_encodeFrame 90 = .ok (.iconst 2, 1) := mm_dk kX2_encodeFrame_1 10 rfl
theorem dX2_encodeFrame_91 : decode cX2_encodeFrame 91 = .ok (.invokevirtual 84, 3) := mm_dk kX2_encodeFrame_1 11 rfl
theorem dX2_encodeFrame_94 : decode cX2_encodeFrame 94 = .ok (.aload_n 0, 1) := mm_dk kX2_encodeFrame_1 12 rfl
theorem dX2_encodeFrame_95 : decode cX2_encodeFrame 95 = .ok (.getfield 32, 3) := mm_dk kX2_encodeFrame_1 13 rfl
theorem dX2_encodeFrame_98 : decode cX2_encodeFrame 98 = .ok (.bipush 14, 2) := mm_dk kX2_encodeFrame_1 14 rfl
theorem dX2_encodeFrame_100 : decode cX2_encodeFrame 100 = .ok (.invokevirtual 84, 3) := mm_dk kX2_encodeFrame_1 15 rfl
theorem dX2_encodeFrame_103 : decode cX2_encodeFrame 103 = .ok (.aload_n 0, 1) := mm_dk kX2_encodeFrame_1 16 rfl
theorem dX2_encodeFrame_104 : decode cX2_encodeFrame 104 = .ok (.getfield 49, 3) := mm_dk kX2_encodeFrame_1 17 rfl
theorem dX2_encodeFrame_107 : decode cX2_encodeFrame 107 = .ok (.aload_n 0, 1) := mm_dk kX2_encodeFrame_1 18 rfl
theorem dX2_encodeFrame_108 : decode cX2_encodeFrame 108 = .ok (.getfield 87, 3) := mm_dk kX2_encodeFrame_1 19 rfl
theorem dX2_encodeFrame_111 : decode cX2_encodeFrame 111 = .ok (.iload_n 2, 1) := mm_dk kX2_encodeFrame_1 20 rfl
theorem dX2_encodeFrame_112 : decode cX2_encodeFrame 112 = .ok (.iload_n 1, 1) := mm_dk kX2_encodeFrame_1 21 rfl
theorem dX2_encodeFrame_113 : decode cX2_encodeFrame 113 = .ok (.iconst 4, 1) := mm_dk kX2_encodeFrame_1 22 rfl
theorem dX2_encodeFrame_114 : decode cX2_encodeFrame 114 = .ok (.idiv, 1) := mm_dk kX2_encodeFrame_1 23 rfl
theorem dX2_encodeFrame_115 : decode cX2_encodeFrame 115 = .ok (.invokevirtual 90, 3) := mm_dk kX2_encodeFrame_1 24 rfl
theorem dX2_encodeFrame_118 : decode cX2_encodeFrame 118 = .ok (.aload_n 0, 1) := mm_dk kX2_encodeFrame_1 25 rfl
theorem dX2_encodeFrame_119 : decode cX2_encodeFrame 119 = .ok (.getfield 32, 3) := mm_dk kX2_encodeFrame_1 26 rfl
theorem dX2_encodeFrame_122 : decode cX2_encodeFrame 122 = .ok (.bipush 15, 2) := mm_dk kX2_encodeFrame_1 27 rfl
theorem dX2_encodeFrame_124 : decode cX2_encodeFrame 124 = .ok (.invokevirtual 84, 3) := mm_dk kX2_encodeFrame_1 28 rfl
theorem dX2_encodeFrame_127 : decode cX2_encodeFrame 127 = .ok (.aload_n 0, 1) := mm_dk kX2_encodeFrame_1 29 rfl
theorem dX2_encodeFrame_128 : decode cX2_encodeFrame 128 = .ok (.iload 5, 2) := mm_dk kX2_encodeFrame_1 30 rfl
theorem dX2_encodeFrame_130 : decode cX2_encodeFrame 130 = .ok (.invokevirtual 94, 3) := mm_dk kX2_encodeFrame_1 31 rfl
theorem dX2_encodeFrame_133 : decode cX2_encodeFrame 133 = .ok (.astore 6, 2) := mm_dk kX2_encodeFrame_1 32 rfl
theorem dX2_encodeFrame_135 : decode cX2_encodeFrame 135 = .ok (.aload_n 0, 1) := mm_dk kX2_encodeFrame_1 33 rfl
theorem dX2_encodeFrame_136 : decode cX2_encodeFrame 136 = .ok (.aload 6, 2) := mm_dk kX2_encodeFrame_1 34 rfl
theorem dX2_encodeFrame_138 : decode cX2_encodeFrame 138 = .ok (.iload 5, 2) := mm_dk kX2_encodeFrame_1 35 rfl
theorem dX2_encodeFrame_140 : decode cX2_encodeFrame 140 = .ok (.iload_n 2, 1) := mm_dk kX2_encodeFrame_1 36 rfl
theorem dX2_encodeFrame_141 : decode cX2_encodeFrame 141 = .ok (.invokevirtual 98, 3) := mm_dk kX2_encodeFrame_1 37 rfl
theorem dX2_encodeFrame_144 : decode cX2_encodeFrame 144 = .ok (.aload 6, 2) := mm_dk kX2_encodeFrame_1 38 rfl
theorem dX2_encodeFrame_146 : decode cX2_encodeFrame 146 = .ok (.iconst 5, 1) := mm_dk kX2_encodeFrame_1 39 rfl
set_option maxRecDepth 100000 in
theorem kX2_encodeFrame_2 : ([(147, .baload, 1), (148, .iconst 2, 1), (149, .if_icmp .ne 24, 3), (152, .aload 6, 2), (154, .aload 6, 2), (156, .arraylength, 1), (157, .iconst 3, 1), (158, .isub, 1), (159, .iload_n 3, 1), (160, .i2b, 1), (161, .bastore, 1), (162, .aload 6, 2), (164, .aload 6, 2), (166, .arraylength, 1), (167, .iconst 2, 1), (168, .isub, 1), (169, .iload 4, 2), (171, .i2b, 1), (172, .bastore, 1), (173, .aload 6, 2), (175, .aload 6, 2), (177, .arraylength, 1), (178, .iconst 1, 1), (179, .isub, 1), (180, .aload 6, 2), (182, .invokestatic 102, 3), (185, .bastore, 1), (186, .aload_n 0, 1), (187, .iload 5, 2), (189, .putfield 106, 3), (192, .aload_n 0, 1), (193, .aload_n 0, 1), (194, .getfield 28, 3), (197, .putfield 110, 3), (200, .aload_n 0, 1), (201, .dup, 1), (202, .getfield 113, 3), (205, .iconst 1, 1), (206, .iadd, 1), (207, .putfield 113, 3)] : List (Nat × Instr × Nat)).all (fun x => decide (decode cX2_encodeFrame x.1 = .ok x.2)) = true := by decide +kernel
theorem dX2_encodeFrame_147 : decode cX2_encodeFrame 147 = .ok (.baload, 1) := mm_dk kX2_encodeFrame_2 0 rfl
theorem dX2_encodeFrame_148 : decode cX2_encodeFrame 148 = .ok (.iconst 2, 1) := mm_dk kX2_encodeFrame_2 1 rfl
theorem dX2_encodeFrame_149 : decode cX2_encodeFrame 149 = .ok (.if_icmp .ne 24, 3) := mm_dk kX2_encodeFrame_2 2 rfl
theorem dX2_encodeFrame_152 : decode cX2_encodeFrame 152 = .ok (.aload 6, 2) := mm_dk kX2_encodeFrame_2 3 rfl
theorem dX2_encodeFrame_154 : decode cX2_encodeFrame 154 = .ok (.aload 6, 2) := mm_dk kX2_encodeFrame_2 4 rfl
theorem dX2_encodeFrame_156 : decode cX2_encodeFrame 156 = .ok (.arraylength, 1) := mm_dk kX2_encodeFrame_2 5 rfl
theorem dX2_encodeFrame_157 : decode cX2_encodeFrame 157 = .ok (.iconst 3, 1) := mm_dk kX2_encodeFrame_2 6 rfl
theorem dX2_encodeFrame_158 : decode cX2_encodeFrame 158 = .ok (.isub, 1) := mm_dk kX2_encodeFrame_2 7 rfl
theorem dX2_encodeFrame_159 : decode cX2_encodeFrame 159 = .ok (.iload_n 3, 1) := mm_dk kX2_encodeFrame_2 8 rfl
theorem dX2_encodeFrame_160 : decode cX2_encodeFrame 160 = .ok (.i2b, 1) := mm_dk kX2_encodeFrame_2 9 rfl
theorem dX2_encodeFrame_161 : decode cX2_encodeFrame 161 = .ok (.bastore, 1) := mm_dk kX2_encodeFrame_2 10 rfl
theorem dX2_encodeFrame_162 : decode cX2_encodeFrame 162 = .ok (.aload 6, 2) := mm_dk kX2_encodeFrame_2 11 rfl
theorem dX2_encodeFrame_164 : decode cX2_encodeFrame 164 = .ok (.aload 6, 2) := mm_dk kX2_encodeFrame_2 12 rfl
theorem dX2_encodeFrame_166 : decode cX2_encodeFrame 166 = .ok (.arraylength, 1) := mm_dk kX2_encodeFrame_2 13 rfl
theorem dX2_encodeFrame_167 : decode cX2_encodeFrame 167 = .ok (.iconst 2, 1) := mm_dk kX2_encodeFrame_2 14 rfl
theorem dX2_encodeFrame_168 : decode cX2_encodeFrame 168 = .ok (.isub, 1) := mm_dk kX2_encodeFrame_2 15 rfl
theorem dX2_encodeFrame_169 : decode cX2_encodeFrame 169 = .ok (.iload 4, 2) := mm_dk kX2_encodeFrame_2 16 rfl
theorem dX2_encodeFrame_171 : decode cX2_encodeFrame 171 = .ok (.i2b, 1) := mm_dk kX2_encodeFrame_2 17 rfl
theorem dX2_encodeFrame_172 : decode cX2_encodeFrame 172 = .ok (.bastore, 1) := mm_dk kX2_encodeFrame_2 18 rfl
theorem dX2_encodeFrame_173 : decode cX2_encodeFrame 173 = .ok (.aload 6, 2) := mm_dk kX2_encodeFrame_2 19 rfl
theorem dX2_encodeFrame_175 : decode cX2_encodeFrame 175 = .ok (.aload 6, 2) := mm_dk kX2_encodeFrame_2 20 rfl
theorem dX2_encodeFrame_177 : decode cX2_encodeFrame 177 = .ok (.arraylength, 1) := mm_dk kX2_encodeFrame_2 21 rfl
theorem dX2_encodeFrame_178 : decode cX2_encodeFrame 178 = .ok (.iconst 1, 1) := mm_dk kX2_encodeFrame_2 22 rfl
theorem dX2_encodeFrame_179 : decode cX2_encodeFrame 179 = .ok (.isub, 1) := mm_dk kX2_encodeFrame_2 23 rfl
theorem dX2_encodeFrame_180 : decode cX2_encodeFrame 180 = .ok (.aload 6, 2) := mm_dk kX2_encodeFrame_2 24 rfl
theorem dX2_encodeFrame_182 : decode cX2_encodeFrame 182 = .ok (.invokestatic 102, 3) := mm_dk kX2_encodeFrame_2 25 rfl
theorem dX2_encodeFrame_185 : decode cX2_encodeFrame 185 = .ok (.bastore, 1) := mm_dk kX2_encodeFrame_2 26 rfl
theorem dX2_encodeFrame_186 : decode cX2_encodeFrame 186 = .ok (.aload_n 0, 1) := mm_dk kX2_encodeFrame_2 27 rfl
theorem dX2_encodeFrame_187 : decode cX2_encodeFrame 187 = .ok (.iload 5, 2) := mm_dk kX2_encodeFrame_2 28 rfl
theorem dX2_encodeFrame_189 : decode cX2_encodeFrame 189 = .ok (.putfield 106, 3) := mm_dk kX2_encodeFrame_2 29 rfl
theorem dX2_encodeFrame_192 : decode cX2_encodeFrame 192 = .ok (.aload_n 0, 1) := mm_dk kX2_encodeFrame_2 30 rfl
theorem dX2_encodeFrame_193 : decode cX2_encodeFrame 193 = .ok (.aload_n 0, 1) := mm_dk kX2_encodeFrame_2 31 rfl
theorem dX2_encodeFrame_194 : decode cX2_encodeFrame 194 = .ok (.getfield 28, 3) := mm_dk kX2_encodeFrame_2 32 rfl
theorem dX2_encodeFrame_197 : decode cX2_encodeFrame 197 = .ok (.putfield 110, 3) := mm_dk kX2_encodeFrame_2 33 rfl
theorem dX2_encodeFrame_200 : decode cX2_encodeFrame 200 = .ok (.aload_n 0, 1) := mm_dk kX2_encodeFrame_2 34 rfl
theorem dX2_encodeFrame_201 : decode cX2_encodeFrame 201 = .ok (.dup, 1) := mm_dk kX2_encodeFrame_2 35 rfl
theorem dX2_encodeFrame_202 : decode cX2_encodeFrame 202 = .ok (.getfield 113, 3) := mm_dk kX2_encodeFrame_2 36 rfl
theorem dX2_encodeFrame_205 : decode cX2_encodeFrame 205 = .ok (.iconst 1, 1) := mm_dk kX2_encodeFrame_2 37 rfl
theorem dX2_encodeFrame_206 : decode cX2_encodeFrame 206 = .ok (.iadd, 1) := mm_dk kX2_encodeFrame_2 38 rfl
theorem dX2_encodeFrame_207 : decode cX2_encodeFrame 207 = .ok (.putfield 113, 3) := mm_dk kX2_encodeFrame_2 39 rfl
set_option maxRecDepth 100000 in
theorem kX2_encodeFrame_3 : ([(210, .aload_n 0, 1), (211, .aload_n 0, 1), (212, .getfield 87, 3), (215, .iconst 1, 1), (216, .iadd, 1), (217, .ldc 116, 2), (219, .irem, 1), (220, .putfield 87, 3), (223, .aload_n 0, 1), (224, .getfield 36, 3), (227, .invokevirtual 117, 3), (230, .aload 6, 2), (232, .areturn, 1)] : List (Nat × Instr × Nat)).all (fun x => decide (decode cX2_encodeFrame x.1 = .ok x.2)) = true := by decide +kernel
theorem dX2_encodeFrame_210 : decode cX2_encodeFrame 210 = .ok (.aload_n 0, 1) := mm_dk kX2_encodeFrame_3 0 rfl
theorem dX2_encodeFrame_211 : decode cX2_encodeFrame 211 = .ok (.aload_n 0, 1) := mm_dk kX2_encodeFrame_3 1 rfl
theorem dX2_encodeFrame_212 : decode cX2_encodeFrame 212 = .ok (.getfield 87, 3) := mm_dk kX2_encodeFrame_3 2 rfl
theorem dX2_encodeFrame_215 : decode cX2_encodeFrame 215 = .ok (.iconst 1, 1) := mm_dk kX2_encodeFrame_3 3 rfl
theorem dX2_encodeFrame_216 : decode cX2_encodeFrame 216 = .ok (.iadd, 1) := mm_dk kX2_encodeFrame_3 4 rfl
theorem dX2_encodeFrame_217 : decode cX2_encodeFrame 217 = .ok (.ldc 116, 2) := mm_dk kX2_encodeFrame_3 5 rfl
theorem dX2_encodeFrame_219 : decode cX2_encodeFrame 219 = .ok (.irem, 1) := mm_dk kX2_encodeFrame_3 6 rfl
theorem dX2_encodeFrame_220 : decode cX2_encodeFrame 220 = .ok (.putfield 87, 3) := mm_dk kX2_encodeFrame_3 7 rfl
theorem dX2_encodeFrame_223 : decode cX2_encodeFrame 223 = .ok (.aload_n 0, 1) := mm_dk kX2_encodeFrame_3 8 rfl
theorem dX2_encodeFrame_224 : decode cX2_encodeFrame 224 = .ok (.getfield 36, 3) := mm_dk kX2_encodeFrame_3 9 rfl
theorem dX2_encodeFrame_227 : decode cX2_encodeFrame 227 = .ok (.invokevirtual 117, 3) := mm_dk kX2_encodeFrame_3 10 rfl
theorem dX2_encodeFrame_230 : decode cX2_encodeFrame 230 = .ok (.aload 6, 2) := mm_dk kX2_encodeFrame_3 11 rfl
theorem dX2_encodeFrame_232 : decode cX2_encodeFrame 232 = .ok (.areturn, 1) := mm_dk kX2_encodeFrame_3 12 rfl
set_option maxRecDepth 100000 in
theorem kX2_framed_0 : ([(0, .aload_n 0, 1), (1, .getfield 32, 3), (4, .iconst 1, 1), (5, .invokevirtual 84, 3), (8, .aload_n 0, 1), (9, .getfield 36, 3), (12, .getfield 122, 3), (15, .astore_n 2, 1), (16, .aload_n 2, 1), (17, .iload_n 1, 1), (18, .iconst 1, 1), (19, .isub, 1), (20, .iaload, 1), (21, .istore_n 3, 1), (22, .iconst 0, 1), (23, .istore 4, 2), (25, .iload_n 1, 1), (26, .iconst 1, 1), (27, .isub, 1), (28, .istore 5, 2), (30, .iload 5, 2), (32, .ifCond .lt 73, 3), (35, .aload_n 0, 1), (36, .getfield 125, 3), (39, .ifCond .eq 46, 3), (42, .aload_n 2, 1), (43, .iload 5, 2), (45, .aload_n 0, 1), (46, .getfield 32, 3), (49, .aload_n 2, 1), (50, .iload 5, 2), (52, .iaload, 1), (53, .i2l, 1), (54, .iload 5, 2), (56, .ifCond .le 13, 3), (59, .aload_n 2, 1), (60, .iload 5, 2), (62, .iconst 1, 1), (63, .isub, 1), (64, .iaload, 1)] : List (Nat × Instr × Nat)).all (fun x => decide (decode cX2_framed x.1 = .ok x.2)) = true := by decide +kernel
theorem dX2_framed_0 : decode cX2_framed 0 = .ok (.aload_n 0, 1) := mm_dk kX2_framed_0 0 rfl
theorem dX2_framed_1 : decode cX2_framed 1 = .ok (.getfield 32, 3) := mm_dk kX2_framed_0 1 rfl
theorem dX2_framed_4 : decode cX2_framed 4 = .ok (.iconst 1, 1) := mm_dk kX2_framed_0 2 rfl
theorem dX2_framed_5 : decode cX2_framed 5 = .ok (.invokevirtual 84, 3) := mm_dk kX2_framed_0 3 rfl
theorem dX2_framed_8 : decode cX2_framed 8 = .ok (.aload_n 0, 1) := mm_dk kX2_framed_0 4 rfl
theorem dX2_framed_9 : decode cX2_framed 9 = .ok (.getfield 36, 3) := mm_dk kX2_framed_0 5 rfl
theorem dX2_framed_12 : decode cX2_framed 12 = .ok (.getfield 122, 3) := mm_dk kX2_framed_0 6 rfl
theorem dX2_framed_15 : decode cX2_framed 15 = .ok (.astore_n 2, 1) := mm_dk kX2_framed_0 7 rfl
theorem dX2_framed_16 : decode cX2_framed 16 = .ok (.aload_n 2, 1) := mm_dk kX2_framed_0 8 rfl
theorem dX2_framed_17 : decode cX2_framed 17 = .ok (.iload_n 1, 1) := mm_dk kX2_framed_0 9 rfl
theorem dX2_framed_18 : decode cX2_framed 18 = .ok (.iconst 1, 1) := mm_dk kX2_framed_0 10 rfl
theorem dX2_framed_19 : decode cX2_framed 19 = .ok (.isub, 1) := mm_dk kX2_framed_0 11 rfl
theorem dX2_framed_20 : decode cX2_framed 20 = .ok (.iaload, 1) := mm_dk kX2_framed_0 12 rfl
theorem dX2_framed_21 : decode cX2_framed 21 = .ok (.istore_n 3, 1) := mm_dk kX2_framed_0 13 rfl
theorem dX2_framed_22 : decode cX2_framed 22 = .ok (.iconst 0, 1) := mm_dk kX2_framed_0 14 rfl
theorem dX2_framed_23 : decode cX2_framed 23 = .ok (.istore 4, 2) := mm_dk kX2_framed_0 15 rfl
theorem dX2_framed_25 : decode cX2_framed 25 = .ok (.iload_n 1, 1) := mm_dk kX2_framed_0 16 rfl
theorem dX2_framed_26 : decode cX2_framed 26 = .ok (.iconst 1, 1) := mm_dk kX2_framed_0 17 rfl
theorem dX2_framed_27 : decode cX2_framed 27 = .ok (.isub, 1) := mm_dk kX2_framed_0 18 rfl
theorem dX2_framed_28 : decode cX2_framed 28 = .ok (.istore 5, 2) := mm_dk kX2_framed_0 19 rfl
theorem dX2_framed_30 : decode cX2_framed 30 = .ok (.iload 5, 2) := mm_dk kX2_framed_0 20 rfl
theorem dX2_framed_32 : decode cX2_framed 32 = .ok (.ifCond .lt 73, 3) := mm_dk kX2_framed_0 21 rfl
theorem dX2_framed_35 : decode cX2_framed 35 = .ok (.aload_n 0, 1) := mm_dk kX2_framed_0 22 rfl
theorem dX2_framed_36 : decode cX2_framed 36 = .ok (.getfield 125, 3) := mm_dk kX2_framed_0 23 rfl
theorem dX2_framed_39 : decode cX2_framed 39 = .ok (.ifCond .eq 46, 3) := mm_dk kX2_framed_0 24 rfl
theorem dX2_framed_42 : decode cX2_framed 42 = .ok (.aload_n 2, 1) := mm_dk kX2_framed_0 25 rfl
theorem dX2_framed_43 : decode cX2_framed 43 = .ok (.iload 5, 2) := mm_dk kX2_framed_0 26 rfl
theorem dX2_framed_45 : decode cX2_framed 45 = .ok (.aload_n 0, 1) := mm_dk kX2_framed_0 27 rfl
theorem dX2_framed_46 : decode cX2_framed 46 = .ok (.getfield 32, 3) := mm_dk kX2_framed_0 28 rfl
theorem dX2_framed_49 : decode cX2_framed 49 = .ok (.aload_n 2, 1) := mm_dk kX2_framed_0 29 rfl
theorem dX2_framed_50 : decode cX2_framed 50 = .ok (.iload 5, 2) := mm_dk kX2_framed_0 30 rfl
theorem dX2_framed_52 : decode cX2_framed 52 = .ok (.iaload, 1) := mm_dk kX2_framed_0 31 rfl
theorem dX2_framed_53 : decode cX2_framed 53 = .ok (.i2l, 1) := mm_dk kX2_framed_0 32 rfl
theorem dX2_framed_54 : decode cX2_framed 54 = .ok (.iload 5, 2) := mm_dk kX2_framed_0 33 rfl
theorem dX2_framed_56 : decode cX2_framed 56 = .ok (.ifCond .le 13, 3) := mm_dk kX2_framed_0 34 rfl
theorem dX2_framed_59 : decode cX2_framed 59 = .ok (.aload_n 2, 1) := mm_dk kX2_framed_0 35 rfl
theorem dX2_framed_60 : decode cX2_framed 60 = .ok (.iload 5, 2) := mm_dk kX2_framed_0 36 rfl
theorem dX2_framed_62 : decode cX2_framed 62 = .ok (.iconst 1, 1) := mm_dk kX2_framed_0 37 rfl
theorem dX2_framed_63 : decode cX2_framed 63 = .ok (.isub, 1) := mm_dk kX2_framed_0 38 rfl
theorem dX2_framed_64 : decode cX2_framed 64 = .ok (.iaload, 1) := mm_dk kX2_framed_0 39 rfl
set_option maxRecDepth 100000 in
theorem kX2_framed_1 : ([(65, .i2l, 1), (66, .goto 8, 3), (69, .aload_n 0, 1), (70, .getfield 128, 3), (73, .i2l, 1), (74, .ldc2_w 131, 3), (77, .invokestatic 133, 3), (80, .lsub, 1), (81, .invokevirtual 137, 3), (84, .iastore, 1), (85, .iload 4, 2), (87, .aload_n 2, 1), (88, .iload 5, 2), (90, .iaload, 1), (91, .invokestatic 141, 3), (94, .invokestatic 146, 3), (97, .istore 4, 2), (99, .iinc 5 (-1), 3), (102, .goto (-72), 3), (105, .aload_n 0, 1), (106, .iload_n 3, 1), (107, .putfield 128, 3), (110, .iload 4, 2), (112, .ireturn, 1)] : List (Nat × Instr × Nat)).all (fun x => decide (decode cX2_framed x.1 = .ok x.2)) = true := by decide +kernel
theorem dX2_framed_65 : decode cX2_framed 65 = .ok (.i2l, 1) := mm_dk kX2_framed_1 0 rfl
theorem dX2_framed_66 : decode cX2_framed 66 = .ok (.goto 8, 3) := mm_dk kX2_framed_1 1 rfl
theorem dX2_framed_69 : decode cX2_framed 69 = .ok (.aload_n 0, 1) := mm_dk kX2_framed_1 2 rfl
theorem dX2_framed_70 : decode cX2_framed 70 = .ok (.getfield 128, 3) := mm_dk kX2_framed_1 3 rfl
theorem dX2_framed_73 : decode cX2_framed 73 = .ok (.i2l, 1) := mm_dk kX2_framed_1 4 rfl
theorem dX2_framed_74 : decode cX2_framed 74 = .ok (.ldc2_w 131, 3) := mm_dk kX2_framed_1 5 rfl
theorem dX2_framed_77 : decode cX2_framed 77 = .ok (.invokestatic 133, 3) := mm_dk kX2_framed_1 6 rfl
theorem dX2_framed_80 : decode cX2_framed 80 = .ok (.lsub, 1) := mm_dk kX2_framed_1 7 rfl
theorem dX2_framed_81 : decode cX2_framed 81 = .ok (.invokevirtual 137, 3) := mm_dk kX2_framed_1 8 rfl
theorem dX2_framed_84 : decode cX2_framed 84 = .ok (.iastore, 1) := mm_dk kX2_framed_1 9 rfl
theorem dX2_framed_85 : decode cX2_framed 85 = .ok (.iload 4, 2) := mm_dk kX2_framed_1 10 rfl
theorem dX2_framed_87 : decode cX2_framed 87 = .ok (.aload_n 2, 1) := mm_dk kX2_framed_1 11 rfl
theorem dX2_framed_88 : decode cX2_framed 88 = .ok (.iload 5, 2) := mm_dk kX2_framed_1 12 rfl
theorem dX2_framed_90 : decode cX2_framed 90 = .ok (.iaload, 1) := mm_dk kX2_framed_1 13 rfl
theorem dX2_framed_91 : decode cX2_framed 91 = .ok (.invokestatic 141, 3) := mm_dk kX2_framed_1 14 rfl
theorem dX2_framed_94 : decode cX2_framed 94 = .ok (.invokestatic 146, 3) := mm_dk kX2_framed_1 15 rfl
theorem dX2_framed_97 : decode cX2_framed 97 = .ok (.istore 4, 2) := mm_dk kX2_framed_1 16 rfl
theorem dX2_framed_99 : decode cX2_framed 99 = .ok (.iinc 5 (-1), 3) := mm_dk kX2_framed_1 17 rfl
theorem dX2_framed_102 : decode cX2_framed 102 = .ok (.goto (-72), 3) := mm_dk kX2_framed_1 18 rfl
theorem dX2_framed_105 : decode cX2_framed 105 = .ok (.aload_n 0, 1) := mm_dk kX2_framed_1 19 rfl
theorem dX2_framed_106 : decode cX2_framed 106 = .ok (.iload_n 3, 1) := mm_dk kX2_framed_1 20 rfl
theorem dX2_framed_107 : decode cX2_framed 107 = .ok (.putfield 128, 3) := mm_dk kX2_framed_1 21 rfl
theorem dX2_framed_110 : decode cX2_framed 110 = .ok (.iload 4, 2) := mm_dk kX2_framed_1 22 rfl
theorem dX2_framed_112 : decode cX2_framed 112 = .ok (.ireturn, 1) := mm_dk kX2_framed_1 23 rfl
set_option maxRecDepth 100000 in
theorem kX2_predict_0 : ([(0, .aload_n 0, 1), (1, .getfield 32, 3), (4, .iconst 3, 1), (5, .invokevirtual 84, 3), (8, .aload_n 0, 1), (9, .getfield 49, 3), (12, .getfield 150, 3), (15, .iconst 0, 1), (16, .invokestatic 153, 3), (19, .aload_n 0, 1), (20, .iload_n 1, 1), (21, .invokevirtual 159, 3), (24, .aload_n 0, 1), (25, .invokevirtual 162, 3), (28, .return_, 1)] : List (Nat × Instr × Nat)).all (fun x => decide (decode cX2_predict x.1 = .ok x.2)) = true := by decide +kernel
theorem dX2_predict_0 : decode cX2_predict 0 = .ok (.aload_n 0, 1) := mm_dk kX2_predict_0 0 rfl
theorem dX2_predict_1 : decode cX2_predict 1 = .ok (.getfield 32, 3) := mm_dk kX2_predict_0 1 rfl
theorem dX2_predict_4 : decode cX2_predict 4 = .ok (.iconst 3, 1) := mm_dk kX2_predict_0 2 rfl
theorem dX2_predict_5 : decode cX2_predict 5 = .ok (.invokevirtual 84, 3) := mm_dk kX2_predict_0 3 rfl
theorem dX2_predict_8 : decode cX2_predict 8 = .ok (.aload_n 0, 1) := mm_dk kX2_predict_0 4 rfl
theorem dX2_predict_9 : decode cX2_predict 9 = .ok (.getfield 49, 3) := mm_dk kX2_predict_0 5 rfl
theorem dX2_predict_12 : decode cX2_predict 12 = .ok (.getfield 150, 3) := mm_dk kX2_predict_0 6 rfl
theorem dX2_predict_15 : decode cX2_predict 15 = .ok (.iconst 0, 1) := mm_dk kX2_predict_0 7 rfl
theorem dX2_predict_16 : decode cX2_predict 16 = .ok (.invokestatic 153, 3) := mm_dk kX2_predict_0 8 rfl
theorem dX2_predict_19 : decode cX2_predict 19 = .ok (.aload_n 0, 1) := mm_dk kX2_predict_0 9 rfl
theorem dX2_predict_20 : decode cX2_predict 20 = .ok (.iload_n 1, 1) := mm_dk kX2_predict_0 10 rfl
theorem dX2_predict_21 : decode cX2_predict 21 = .ok (.invokevirtual 159, 3) := mm_dk kX2_predict_0 11 rfl
theorem dX2_predict_24 : decode cX2_predict 24 = .ok (.aload_n 0, 1) := mm_dk kX2_predict_0 12 rfl
theorem dX2_predict_25 : decode cX2_predict 25 = .ok (.invokevirtual 162, 3) := mm_dk kX2_predict_0 13 rfl
theorem dX2_predict_28 : decode cX2_predict 28 = .ok (.return_, 1) := mm_dk kX2_predict_0 14 rfl
set_option maxRecDepth 100000 in
theorem kX2_whiten_0 : ([(0, .aload_n 0, 1), (1, .getfield 32, 3), (4, .iconst 4, 1), (5, .invokevirtual 84, 3), (8, .iconst 0, 1), (9, .istore_n 2, 1), (10, .iload_n 2, 1), (11, .iload_n 1, 1), (12, .if_icmp .ge 28, 3), (15, .aload_n 0, 1), (16, .getfield 22, 3), (19, .iload_n 2, 1), (20, .aload_n 0, 1), (21, .aload_n 0, 1), (22, .getfield 36, 3), (25, .getfield 122, 3), (28, .iload_n 2, 1), (29, .iaload, 1), (30, .invokevirtual 165, 3), (33, .iastore, 1), (34, .iinc 2 1, 3), (37, .goto (-27), 3), (40, .return_, 1)] : List (Nat × Instr × Nat)).all (fun x => decide (decode cX2_whiten x.1 = .ok x.2)) = true := by decide +kernel
theorem dX2_whiten_0 : decode cX2_whiten 0 = .ok (.aload_n 0, 1) := mm_dk kX2_whiten_0 0 rfl
theorem dX2_whiten_1 : decode cX2_whiten 1 = .ok (.getfield 32, 3) := mm_dk kX2_whiten_0 1 rfl
theorem dX2_whiten_4 : decode cX2_whiten 4 = .ok (.iconst 4, 1) := mm_dk kX2_whiten_0 2 rfl
theorem dX2_whiten_5 : decode cX2_whiten 5 = .ok (.invokevirtual 84, 3) := mm_dk kX2_whiten_0 3 rfl
theorem dX2_whiten_8 : decode cX2_whiten 8 = .ok (.iconst 0, 1) := mm_dk kX2_whiten_0 4 rfl
theorem dX2_whiten_9 : decode cX2_whiten 9 = .ok (.istore_n 2, 1) := mm_dk kX2_whiten_0 5 rfl
theorem dX2_whiten_10 : decode cX2_whiten 10 = .ok (.iload_n 2, 1) := mm_dk kX2_whiten_0 6 rfl
theorem dX2_whiten_11 : decode cX2_whiten 11 = .ok (.iload_n 1, 1) := mm_dk kX2_whiten_0 7 rfl
theorem dX2_whiten_12 : decode cX2_whiten 12 = .ok (.if_icmp .ge 28, 3) := mm_dk kX2_whiten_0 8 rfl
theorem dX2_whiten_15 : decode cX2_whiten 15 = .ok (.aload_n 0, 1) := mm_dk kX2_whiten_0 9 rfl
theorem dX2_whiten_16 : decode cX2_whiten 16 = .ok (.getfield 22, 3) := mm_dk kX2_whiten_0 10 rfl
theorem dX2_whiten_19 : decode cX2_whiten 19 = .ok (.iload_n 2, 1) := mm_dk kX2_whiten_0 11 rfl
theorem dX2_whiten_20 : decode cX2_whiten 20 = .ok (.aload_n 0, 1) := mm_dk kX2_whiten_0 12 rfl
theorem dX2_whiten_21 : decode cX2_whiten 21 = .ok (.aload_n 0, 1) := mm_dk kX2_whiten_0 13 rfl
theorem dX2_whiten_22 : decode cX2_whiten 22 = .ok (.getfield 36, 3) := mm_dk kX2_whiten_0 14 rfl
theorem dX2_whiten_25 : decode cX2_whiten 25 = .ok (.getfield 122, 3) := mm_dk kX2_whiten_0 15 rfl
theorem dX2_whiten_28 : decode cX2_whiten 28 = .ok (.iload_n 2, 1) := mm_dk kX2_whiten_0 16 rfl
theorem dX2_whiten_29 : decode cX2_whiten 29 = .ok (.iaload, 1) := mm_dk kX2_whiten_0 17 rfl
theorem dX2_whiten_30 : decode cX2_whiten 30 = .ok (.invokevirtual 165, 3) := mm_dk kX2_whiten_0 18 rfl
theorem dX2_whiten_33 : decode cX2_whiten 33 = .ok (.iastore, 1) := mm_dk kX2_whiten_0 19 rfl
theorem dX2_whiten_34 : decode cX2_whiten 34 = .ok (.iinc 2 1, 3) := mm_dk kX2_whiten_0 20 rfl
theorem dX2_whiten_37 : decode cX2_whiten 37 = .ok (.goto (-27), 3) := mm_dk kX2_whiten_0 21 rfl
theorem dX2_whiten_40 : decode cX2_whiten 40 = .ok (.return_, 1) := mm_dk kX2_whiten_0 22 rfl
set_option maxRecDepth 100000 in
theorem kX2_encodeParts_0 : ([(0, .aload_n 0, 1), (1, .getfield 49, 3), (4, .getfield 168, 3), (7, .iconst 0, 1), (8, .aload_n 0, 1), (9, .getfield 25, 3), (12, .iconst 0, 1), (13, .sipush 160, 3), (16, .invokestatic 171, 3), (19, .iconst 0, 1), (20, .istore_n 2, 1), (21, .iload_n 2, 1), (22, .iconst 4, 1), (23, .if_icmp .ge 149, 3), (26, .aload_n 0, 1), (27, .getfield 18, 3), (30, .iload_n 2, 1), (31, .aaload, 1), (32, .astore_n 3, 1), (33, .aload_n 0, 1), (34, .getfield 40, 3), (37, .aload_n 0, 1), (38, .getfield 22, 3), (41, .aload_n 0, 1), (42, .getfield 25, 3), (45, .iload_n 2, 1), (46, .iload_n 1, 1), (47, .imul, 1), (48, .iload_n 1, 1), (49, .invokevirtual 177, 3), (52, .aload_n 0, 1), (53, .getfield 32, 3), (56, .bipush 10, 2), (58, .aload_n 0, 1), (59, .getfield 183, 3), (62, .iadd, 1), (63, .invokevirtual 84, 3), (66, .aload_n 0, 1), (67, .getfield 40, 3), (70, .aload_n 0, 1)] : List (Nat × Instr × Nat)).all (fun x => decide (decode cX2_encodeParts x.1 = .ok x.2)) = true := by decide +kernel
theorem dX2_encodeParts_0 : decode cX2_encodeParts 0 = .ok (.aload_n 0, 1) := mm_dk kX2_encodeParts_0 0 rfl
theorem dX2_encodeParts_1 : decode cX2_encodeParts 1 = .ok (.getfield 49, 3) := mm_dk kX2_encodeParts_0 1 rfl
theorem dX2_encodeParts_4 : decode cX2_encodeParts 4 = .ok (.getfield 168, 3) := mm_dk kX2_encodeParts_0 2 rfl
theorem dX2_encodeParts_7 : decode cX2_encodeParts 7 = .ok (.iconst 0, 1) := mm_dk kX2_encodeParts_0 3 rfl
theorem dX2_encodeParts_8 : decode cX2_encodeParts 8 = .ok (.aload_n 0, 1) := mm_dk kX2_encodeParts_0 4 rfl
theorem dX2_encodeParts_9 : decode cX2_encodeParts 9 = .ok (.getfield 25, 3) := mm_dk kX2_encodeParts_0 5 rfl
theorem dX2_encodeParts_12 : decode cX2_encodeParts 12 = .ok (.iconst 0, 1) := mm_dk kX2_encodeParts_0 6 rfl
theorem dX2_encodeParts_13 : decode cX2_encodeParts 13 = .ok (.sipush 160, 3) := mm_dk kX2_encodeParts_0 7 rfl
theorem dX2_encodeParts_16 : decode cX2_encodeParts 16 = .ok (.invokestatic 171, 3) := mm_dk kX2_encodeParts_0 8 rfl
theorem dX2_encodeParts_19 : decode cX2_encodeParts 19 = .ok (.iconst 0, 1) := mm_dk kX2_encodeParts_0 9 rfl
theorem dX2_encodeParts_20 : decode cX2_encodeParts 20 = .ok (.istore_n 2, 1) := mm_dk kX2_encodeParts_0 10 rfl
theorem dX2_encodeParts_21 : decode cX2_encodeParts 21 = .ok (.iload_n 2, 1) := mm_dk kX2_encodeParts_0 11 rfl
theorem dX2_encodeParts_22 : decode cX2_encodeParts 22 = .ok (.iconst 4, 1) := mm_dk kX2_encodeParts_0 12 rfl
theorem dX2_encodeParts_23 : decode cX2_encodeParts 23 = .ok (.if_icmp .ge 149, 3) := mm_dk kX2_encodeParts_0 13 rfl
theorem dX2_encodeParts_26 : decode cX2_encodeParts 26 = .ok (.aload_n 0, 1) := mm_dk kX2_encodeParts_0 14 rfl
theorem dX2_encodeParts_27 : decode cX2_encodeParts 27 = .ok (.getfield 18, 3) := mm_dk kX2_encodeParts_0 15 rfl
theorem dX2_encodeParts_30 : decode cX2_encodeParts 30 = .ok (.iload_n 2, 1) := mm_dk kX2_encodeParts_0 16 rfl
theorem dX2_encodeParts_31 : decode cX2_encodeParts 31 = .ok (.aaload, 1) := mm_dk kX2_encodeParts_0 17 rfl
theorem dX2_encodeParts_32 : decode cX2_encodeParts 32 = .ok (.astore_n 3, 1) := mm_dk kX2_encodeParts_0 18 rfl
theorem dX2_encodeParts_33 : decode cX2_encodeParts 33 = .ok (.aload_n 0, 1) := mm_dk kX2_encodeParts_0 19 rfl
theorem dX2_encodeParts_34 : decode cX2_encodeParts 34 = .ok (.getfield 40, 3) := mm_dk kX2_encodeParts_0 20 rfl
theorem dX2_encodeParts_37 : decode cX2_encodeParts 37 = .ok (.aload_n 0, 1) := mm_dk kX2_encodeParts_0 21 rfl
theorem dX2_encodeParts_38 : decode cX2_encodeParts 38 = .ok (.getfield 22, 3) := mm_dk kX2_encodeParts_0 22 rfl
theorem dX2_encodeParts_41 : decode cX2_encodeParts 41 = .ok (.aload_n 0, 1) := mm_dk kX2_encodeParts_0 23 rfl
theorem dX2_encodeParts_42 : decode cX2_encodeParts 42 = .ok (.getfield 25, 3) := mm_dk kX2_encodeParts_0 24 rfl
theorem dX2_encodeParts_45 : decode cX2_encodeParts 45 = .ok (.iload_n 2, 1) := mm_dk kX2_encodeParts_0 25 rfl
theorem dX2_encodeParts_46 : decode cX2_encodeParts 46 = .ok (.iload_n 1, 1) := mm_dk kX2_encodeParts_0 26 rfl
theorem dX2_encodeParts_47 : decode cX2_encodeParts 47 = .ok (.imul, 1) := mm_dk kX2_encodeParts_0 27 rfl
theorem dX2_encodeParts_48 : decode cX2_encodeParts 48 = .ok (.iload_n 1, 1) := mm_dk kX2_encodeParts_0 28 rfl
theorem dX2_encodeParts_49 : decode cX2_encodeParts 49 = .ok (.invokevirtual 177, 3) := mm_dk kX2_encodeParts_0 29 rfl
theorem dX2_encodeParts_52 : decode cX2_encodeParts 52 = .ok (.aload_n 0, 1) := mm_dk kX2_encodeParts_0 30 rfl
theorem dX2_encodeParts_53 : decode cX2_encodeParts 53 = .ok (.getfield 32, 3) := mm_dk kX2_encodeParts_0 31 rfl
theorem dX2_encodeParts_56 : decode cX2_encodeParts 56 = .ok (.bipush 10, 2) := mm_dk kX2_encodeParts_0 32 rfl
theorem dX2_encodeParts_58 : decode cX2_encodeParts 58 = .ok (.aload_n 0, 1) := mm_dk kX2_encodeParts_0 33 rfl
theorem dX2_encodeParts_59 : decode cX2_encodeParts 59 = .ok (.getfield 183, 3) := mm_dk kX2_encodeParts_0 34 rfl
theorem dX2_encodeParts_62 : decode cX2_encodeParts 62 = .ok (.iadd, 1) := mm_dk kX2_encodeParts_0 35 rfl
theorem dX2_encodeParts_63 : decode cX2_encodeParts 63 = .ok (.invokevirtual 84, 3) := mm_dk kX2_encodeParts_0 36 rfl
theorem dX2_encodeParts_66 : decode cX2_encodeParts 66 = .ok (.aload_n 0, 1) := mm_dk kX2_encodeParts_0 37 rfl
theorem dX2_encodeParts_67 : decode cX2_encodeParts 67 = .ok (.getfield 40, 3) := mm_dk kX2_encodeParts_0 38 rfl
theorem dX2_encodeParts_70 : decode cX2_encodeParts 70 = .ok (.aload_n 0, 1) := mm_dk kX2_encodeParts_0 39 rfl
set_option maxRecDepth 100000 in
theorem kX2_encodeParts_1 : ([(71, .getfield 183, 3), (74, .iconst 1, 1), (75, .if_icmp .ne 7, 3), (78, .iconst 1, 1), (79, .goto 4, 3), (82, .iconst 0, 1), (83, .aload_n 3, 1), (84, .invokevirtual 186, 3), (87, .aload_n 0, 1), (88, .getfield 32, 3), (91, .bipush 12, 2), (93, .aload_n 0, 1), (94, .getfield 190, 3), (97, .iadd, 1), (98, .invokevirtual 84, 3), (101, .aload_n 0, 1), (102, .getfield 40, 3), (105, .aload_n 0, 1), (106, .getfield 190, 3), (109, .iconst 1, 1), (110, .if_icmp .ne 7, 3), (113, .iconst 1, 1), (114, .goto 4, 3), (117, .iconst 0, 1), (118, .aload_n 3, 1), (119, .invokevirtual 193, 3), (122, .aload_n 0, 1), (123, .getfield 32, 3), (126, .bipush 14, 2), (128, .invokevirtual 84, 3), (131, .aload_n 0, 1), (132, .getfield 49, 3), (135, .aload_n 3, 1), (136, .iload_n 1, 1), (137, .iload_n 2, 1), (138, .iload_n 1, 1), (139, .imul, 1), (140, .invokevirtual 196, 3), (143, .aload_n 0, 1), (144, .getfield 36, 3)] : List (Nat × Instr × Nat)).all (fun x => decide (decode cX2_encodeParts x.1 = .ok x.2)) = true := by decide +kernel
theorem dX2_encodeParts_71 : decode cX2_encodeParts 71 = .ok (.getfield 183, 3) := mm_dk kX2_encodeParts_1 0 rfl
theorem dX2_encodeParts_74 : decode cX2_encodeParts 74 = .ok (.iconst 1, 1) := mm_dk kX2_encodeParts_1 1 rfl
theorem dX2_encodeParts_75 : decode cX2_encodeParts 75 = .ok (.if_icmp .ne 7, 3) := mm_dk kX2_encodeParts_1 2 rfl
theorem dX2_encodeParts_78 : decode cX2_encodeParts 78 = .ok (.iconst 1, 1) := mm_dk kX2_encodeParts_1 3 rfl
theorem dX2_encodeParts_79 : decode cX2_encodeParts 79 = .ok (.goto 4, 3) := mm_dk kX2_encodeParts_1 4 rfl
theorem dX2_encodeParts_82 : decode cX2_encodeParts 82 = .ok (.iconst 0, 1) := mm_dk kX2_encodeParts_1 5 rfl
theorem dX2_encodeParts_83 : decode cX2_encodeParts 83 = .ok (.aload_n 3, 1) := mm_dk kX2_encodeParts_1 6 rfl
theorem dX2_encodeParts_84 : decode cX2_encodeParts 84 = .ok (.invokevirtual 186, 3) := mm_dk kX2_encodeParts_1 7 rfl
theorem dX2_encodeParts_87 : decode cX2_encodeParts 87 = .ok (.aload_n 0, 1) := mm_dk kX2_encodeParts_1 8 rfl
theorem dX2_encodeParts_88 : decode cX2_encodeParts 88 = .ok (.getfield 32, 3) := mm_dk kX2_encodeParts_1 9 rfl
theorem dX2_encodeParts_91 : decode cX2_encodeParts 91 = .ok (.bipush 12, 2) := mm_dk kX2_encodeParts_1 10 rfl
theorem dX2_encodeParts_93 : decode cX2_encodeParts 93 = .ok (.aload_n 0, 1) := mm_dk kX2_encodeParts_1 11 rfl
theorem dX2_encodeParts_94 : decode cX2_encodeParts 94 = .ok (.getfield 190, 3) := mm_dk kX2_encodeParts_1 12 rfl
theorem dX2_encodeParts_97 : decode cX2_encodeParts 97 = .ok (.iadd, 1) := mm_dk kX2_encodeParts_1 13 rfl
theorem dX2_encodeParts_98 : decode cX2_encodeParts 98 = .ok (.invokevirtual 84, 3) := mm_dk kX2_encodeParts_1 14 rfl
theorem dX2_encodeParts_101 : decode cX2_encodeParts 101 = .ok (.aload_n 0, 1) := mm_dk kX2_encodeParts_1 15 rfl
theorem dX2_encodeParts_102 : decode cX2_encodeParts 102 = .ok (.getfield 40, 3) := mm_dk kX2_encodeParts_1 16 rfl
theorem dX2_encodeParts_105 : decode cX2_encodeParts 105 = .ok (.aload_n 0, 1) := mm_dk kX2_encodeParts_1 17 rfl
theorem dX2_encodeParts_106 : decode cX2_encodeParts 106 = .ok (.getfield 190, 3) := mm_dk kX2_encodeParts_1 18 rfl
theorem dX2_encodeParts_109 : decode cX2_encodeParts 109 = .ok (.iconst 1, 1) := mm_dk kX2_encodeParts_1 19 rfl
theorem dX2_encodeParts_110 : decode cX2_encodeParts 110 = .ok (.if_icmp .ne 7, 3) := mm_dk kX2_encodeParts_1 20 rfl
theorem dX2_encodeParts_113 : decode cX2_encodeParts 113 = .ok (.iconst 1, 1) := mm_dk kX2_encodeParts_1 21 rfl
theorem dX2_encodeParts_114 : decode cX2_encodeParts 114 = .ok (.goto 4, 3) := mm_dk kX2_encodeParts_1 22 rfl
theorem dX2_encodeParts_117 : decode cX2_encodeParts 117 = .ok (.iconst 0, 1) := mm_dk kX2_encodeParts_1 23 rfl
theorem dX2_encodeParts_118 : decode cX2_encodeParts 118 = .ok (.aload_n 3, 1) := mm_dk kX2_encodeParts_1 24 rfl
theorem dX2_encodeParts_119 : decode cX2_encodeParts 119 = .ok (.invokevirtual 193, 3) := mm_dk kX2_encodeParts_1 25 rfl
theorem dX2_encodeParts_122 : decode cX2_encodeParts 122 = .ok (.aload_n 0, 1) := mm_dk kX2_encodeParts_1 26 rfl
theorem dX2_encodeParts_123 : decode cX2_encodeParts 123 = .ok (.getfield 32, 3) := mm_dk kX2_encodeParts_1 27 rfl
theorem dX2_encodeParts_126 : decode cX2_encodeParts 126 = .ok (.bipush 14, 2) := mm_dk kX2_encodeParts_1 28 rfl
theorem dX2_encodeParts_128 : decode cX2_encodeParts 128 = .ok (.invokevirtual 84, 3) := mm_dk kX2_encodeParts_1 29 rfl
theorem dX2_encodeParts_131 : decode cX2_encodeParts 131 = .ok (.aload_n 0, 1) := mm_dk kX2_encodeParts_1 30 rfl
theorem dX2_encodeParts_132 : decode cX2_encodeParts 132 = .ok (.getfield 49, 3) := mm_dk kX2_encodeParts_1 31 rfl
theorem dX2_encodeParts_135 : decode cX2_encodeParts 135 = .ok (.aload_n 3, 1) := mm_dk kX2_encodeParts_1 32 rfl
theorem dX2_encodeParts_136 : decode cX2_encodeParts 136 = .ok (.iload_n 1, 1) := mm_dk kX2_encodeParts_1 33 rfl
theorem dX2_encodeParts_137 : decode cX2_encodeParts 137 = .ok (.iload_n 2, 1) := mm_dk kX2_encodeParts_1 34 rfl
theorem dX2_encodeParts_138 : decode cX2_encodeParts 138 = .ok (.iload_n 1, 1) := mm_dk kX2_encodeParts_1 35 rfl
theorem dX2_encodeParts_139 : decode cX2_encodeParts 139 = .ok (.imul, 1) := mm_dk kX2_encodeParts_1 36 rfl
theorem dX2_encodeParts_140 : decode cX2_encodeParts 140 = .ok (.invokevirtual 196, 3) := mm_dk kX2_encodeParts_1 37 rfl
theorem dX2_encodeParts_143 : decode cX2_encodeParts 143 = .ok (.aload_n 0, 1) := mm_dk kX2_encodeParts_1 38 rfl
theorem dX2_encodeParts_144 : decode cX2_encodeParts 144 = .ok (.getfield 36, 3) := mm_dk kX2_encodeParts_1 39 rfl
set_option maxRecDepth 100000 in
theorem kX2_encodeParts_2 : ([(147, .getfield 200, 3), (150, .iconst 0, 1), (151, .aload_n 0, 1), (152, .getfield 25, 3), (155, .sipush 160, 3), (158, .iload_n 2, 1), (159, .iload_n 1, 1), (160, .imul, 1), (161, .iadd, 1), (162, .iload_n 1, 1), (163, .invokestatic 171, 3), (166, .iinc 2 1, 3), (169, .goto (-148), 3), (172, .aload_n 0, 1), (173, .getfield 49, 3), (176, .aload_n 0, 1), (177, .getfield 18, 3), (180, .iconst 3, 1), (181, .aaload, 1), (182, .getfield 65, 3), (185, .putfield 203, 3), (188, .return_, 1)] : List (Nat × Instr × Nat)).all (fun x => decide (decode cX2_encodeParts x.1 = .ok x.2)) = true := by decide +kernel
theorem dX2_encodeParts_147 : decode cX2_encodeParts 147 = .ok (.getfield 200, 3) := mm_dk kX2_encodeParts_2 0 rfl
theorem dX2_encodeParts_150 : decode cX2_encodeParts 150 = .ok (.iconst 0, 1) := mm_dk kX2_encodeParts_2 1 rfl
theorem dX2_encodeParts_151 : decode cX2_encodeParts 151 = .ok (.aload_n 0, 1) := mm_dk kX2_encodeParts_2 2 rfl
theorem dX2_encodeParts_152 : decode cX2_encodeParts 152 = .ok (.getfield 25, 3) := mm_dk kX2_encodeParts_2 3 rfl
theorem dX2_encodeParts_155 : decode cX2_encodeParts 155 = .ok (.sipush 160, 3) := mm_dk kX2_encodeParts_2 4 rfl
theorem dX2_encodeParts_158 : decode cX2_encodeParts 158 = .ok (.iload_n 2, 1) := mm_dk kX2_encodeParts_2 5 rfl
theorem dX2_encodeParts_159 : decode cX2_encodeParts 159 = .ok (.iload_n 1, 1) := mm_dk kX2_encodeParts_2 6 rfl
theorem dX2_encodeParts_160 : decode cX2_encodeParts 160 = .ok (.imul, 1) := mm_dk kX2_encodeParts_2 7 rfl
theorem dX2_encodeParts_161 : decode cX2_encodeParts 161 = .ok (.iadd, 1) := mm_dk kX2_encodeParts_2 8 rfl
theorem dX2_encodeParts_162 : decode cX2_encodeParts 162 = .ok (.iload_n 1, 1) := mm_dk kX2_encodeParts_2 9 rfl
theorem dX2_encodeParts_163 : decode cX2_encodeParts 163 = .ok (.invokestatic 171, 3) := mm_dk kX2_encodeParts_2 10 rfl
theorem dX2_encodeParts_166 : decode cX2_encodeParts 166 = .ok (.iinc 2 1, 3) := mm_dk kX2_encodeParts_2 11 rfl
theorem dX2_encodeParts_169 : decode cX2_encodeParts 169 = .ok (.goto (-148), 3) := mm_dk kX2_encodeParts_2 12 rfl
theorem dX2_encodeParts_172 : decode cX2_encodeParts 172 = .ok (.aload_n 0, 1) := mm_dk kX2_encodeParts_2 13 rfl
theorem dX2_encodeParts_173 : decode cX2_encodeParts 173 = .ok (.getfield 49, 3) := mm_dk kX2_encodeParts_2 14 rfl
theorem dX2_encodeParts_176 : decode cX2_encodeParts 176 = .ok (.aload_n 0, 1) := mm_dk kX2_encodeParts_2 15 rfl
theorem dX2_encodeParts_177 : decode cX2_encodeParts 177 = .ok (.getfield 18, 3) := mm_dk kX2_encodeParts_2 16 rfl
theorem dX2_encodeParts_180 : decode cX2_encodeParts 180 = .ok (.iconst 3, 1) := mm_dk kX2_encodeParts_2 17 rfl
theorem dX2_encodeParts_181 : decode cX2_encodeParts 181 = .ok (.aaload, 1) := mm_dk kX2_encodeParts_2 18 rfl
theorem dX2_encodeParts_182 : decode cX2_encodeParts 182 = .ok (.getfield 65, 3) := mm_dk kX2_encodeParts_2 19 rfl
theorem dX2_encodeParts_185 : decode cX2_encodeParts 185 = .ok (.putfield 203, 3) := mm_dk kX2_encodeParts_2 20 rfl
theorem dX2_encodeParts_188 : decode cX2_encodeParts 188 = .ok (.return_, 1) := mm_dk kX2_encodeParts_2 21 rfl
set_option maxRecDepth 100000 in
theorem kX2_correlate_0 : ([(0, .aload_n 0, 1), (1, .getfield 36, 3), (4, .getfield 122, 3), (7, .astore_n 2, 1), (8, .aload_n 0, 1), (9, .getfield 36, 3), (12, .getfield 204, 3), (15, .astore_n 3, 1), (16, .iconst 0, 1), (17, .istore 4, 2), (19, .iload 4, 2), (21, .bipush 8, 2), (23, .if_icmp .gt 53, 3), (26, .lconst 0, 1), (27, .lstore 5, 2), (29, .iload 4, 2), (31, .istore 7, 2), (33, .iload 7, 2), (35, .iload_n 1, 1), (36, .if_icmp .ge 28, 3), (39, .lload 5, 2), (41, .aload_n 2, 1), (42, .iload 7, 2), (44, .iaload, 1), (45, .i2l, 1), (46, .aload_n 2, 1), (47, .iload 7, 2), (49, .iload 4, 2), (51, .isub, 1), (52, .iaload, 1), (53, .i2l, 1), (54, .lmul, 1), (55, .ladd, 1), (56, .lstore 5, 2), (58, .iinc 7 1, 3), (61, .goto (-28), 3), (64, .aload_n 3, 1), (65, .iload 4, 2), (67, .lload 5, 2), (69, .lastore, 1)] : List (Nat × Instr × Nat)).all (fun x => decide (decode cX2_correlate x.1 = .ok x.2)) = true := by decide +kernel
theorem dX2_correlate_0 : decode cX2_correlate 0 = .ok (.aload_n 0, 1) := mm_dk kX2_correlate_0 0 rfl
theorem dX2_correlate_1 : decode cX2_correlate 1 = .ok (.getfield 36, 3) := mm_dk kX2_correlate_0 1 rfl
theorem dX2_correlate_4 : decode cX2_correlate 4 = .ok (.getfield 122, 3) := mm_dk kX2_correlate_0 2 rfl
theorem dX2_correlate_7 : decode cX2_correlate 7 = .ok (.astore_n 2, 1) := mm_dk kX2_correlate_0 3 rfl
theorem dX2_correlate_8 : decode cX2_correlate 8 = .ok (.aload_n 0, 1) := mm_dk kX2_correlate_0 4 rfl
theorem dX2_correlate_9 : decode cX2_correlate 9 = .ok (.getfield 36, 3) := mm_dk kX2_correlate_0 5 rfl
theorem dX2_correlate_12 : decode cX2_correlate 12 = .ok (.getfield 204, 3) := mm_dk kX2_correlate_0 6 rfl
theorem dX2_correlate_15 : decode cX2_correlate 15 = .ok (.astore_n 3, 1) := mm_dk kX2_correlate_0 7 rfl
theorem dX2_correlate_16 : decode cX2_correlate 16 = .ok (.iconst 0, 1) := mm_dk kX2_correlate_0 8 rfl
theorem dX2_correlate_17 : decode cX2_correlate 17 = .ok (.istore 4, 2) := mm_dk kX2_correlate_0 9 rfl
theorem dX2_correlate_19 : decode cX2_correlate 19 = .ok (.iload 4, 2) := mm_dk kX2_correlate_0 10 rfl
theorem dX2_correlate_21 : decode cX2_correlate 21 = .ok (.bipush 8, 2) := mm_dk kX2_correlate_0 11 rfl
theorem dX2_correlate_23 : decode cX2_correlate 23 = .ok (.if_icmp .gt 53, 3) := mm_dk kX2_correlate_0 12 rfl
theorem dX2_correlate_26 : decode cX2_correlate 26 = .ok (.lconst 0, 1) := mm_dk kX2_correlate_0 13 rfl
theorem dX2_correlate_27 : decode cX2_correlate 27 = .ok (.lstore 5, 2) := mm_dk kX2_correlate_0 14 rfl
theorem dX2_correlate_29 : decode cX2_correlate 29 = .ok (.iload 4, 2) := mm_dk kX2_correlate_0 15 rfl
theorem dX2_correlate_31 : decode cX2_correlate 31 = .ok (.istore 7, 2) := mm_dk kX2_correlate_0 16 rfl
theorem dX2_correlate_33 : decode cX2_correlate 33 = .ok (.iload 7, 2) := mm_dk kX2_correlate_0 17 rfl
theorem dX2_correlate_35 : decode cX2_correlate 35 = .ok (.iload_n 1, 1) := mm_dk kX2_correlate_0 18 rfl
theorem dX2_correlate_36 : decode cX2_correlate 36 = .ok (.if_icmp .ge 28, 3) := mm_dk kX2_correlate_0 19 rfl
theorem dX2_correlate_39 : decode cX2_correlate 39 = .ok (.lload 5, 2) := mm_dk kX2_correlate_0 20 rfl
theorem dX2_correlate_41 : decode cX2_correlate 41 = .ok (.aload_n 2, 1) := mm_dk kX2_correlate_0 21 rfl
theorem dX2_correlate_42 : decode cX2_correlate 42 = .ok (.iload 7, 2) := mm_dk kX2_correlate_0 22 rfl
theorem dX2_correlate_44 : decode cX2_correlate 44 = .ok (.iaload, 1) := mm_dk kX2_correlate_0 23 rfl
theorem dX2_correlate_45 : decode cX2_correlate 45 = .ok (.i2l, 1) := mm_dk kX2_correlate_0 24 rfl
theorem dX2_correlate_46 : decode cX2_correlate 46 = .ok (.aload_n 2, 1) := mm_dk kX2_correlate_0 25 rfl
theorem dX2_correlate_47 : decode cX2_correlate 47 = .ok (.iload 7, 2) := mm_dk kX2_correlate_0 26 rfl
theorem dX2_correlate_49 : decode cX2_correlate 49 = .ok (.iload 4, 2) := mm_dk kX2_correlate_0 27 rfl
theorem dX2_correlate_51 : decode cX2_correlate 51 = .ok (.isub, 1) := mm_dk kX2_correlate_0 28 rfl
theorem dX2_correlate_52 : decode cX2_correlate 52 = .ok (.iaload, 1) := mm_dk kX2_correlate_0 29 rfl
theorem dX2_correlate_53 : decode cX2_correlate 53 = .ok (.i2l, 1) := mm_dk kX2_correlate_0 30 rfl
theorem dX2_correlate_54 : decode cX2_correlate 54 = .ok (.lmul, 1) := mm_dk kX2_correlate_0 31 rfl
theorem dX2_correlate_55 : decode cX2_correlate 55 = .ok (.ladd, 1) := mm_dk kX2_correlate_0 32 rfl
theorem dX2_correlate_56 : decode cX2_correlate 56 = .ok (.lstore 5, 2) := mm_dk kX2_correlate_0 33 rfl
theorem dX2_correlate_58 : decode cX2_correlate 58 = .ok (.iinc 7 1, 3) := mm_dk kX2_correlate_0 34 rfl
theorem dX2_correlate_61 : decode cX2_correlate 61 = .ok (.goto (-28), 3) := mm_dk kX2_correlate_0 35 rfl
theorem dX2_correlate_64 : decode cX2_correlate 64 = .ok (.aload_n 3, 1) := mm_dk kX2_correlate_0 36 rfl
theorem dX2_correlate_65 : decode cX2_correlate 65 = .ok (.iload 4, 2) := mm_dk kX2_correlate_0 37 rfl
theorem dX2_correlate_67 : decode cX2_correlate 67 = .ok (.lload 5, 2) := mm_dk kX2_correlate_0 38 rfl
theorem dX2_correlate_69 : decode cX2_correlate 69 = .ok (.lastore, 1) := mm_dk kX2_correlate_0 39 rfl
set_option maxRecDepth 100000 in
theorem kX2_correlate_1 : ([(70, .iinc 4 1, 3), (73, .goto (-54), 3), (76, .iconst 0, 1), (77, .istore 4, 2), (79, .iload 4, 2), (81, .bipush 40, 2), (83, .if_icmp .ge 22, 3), (86, .aload_n 3, 1), (87, .iconst 0, 1), (88, .laload, 1), (89, .iload 4, 2), (91, .lshr, 1), (92, .ldc2_w 208, 3), (95, .lcmp, 1), (96, .ifCond .lt 9, 3), (99, .iinc 4 1, 3), (102, .goto (-23), 3), (105, .iconst 0, 1), (106, .istore 5, 2), (108, .iload 5, 2), (110, .bipush 8, 2), (112, .if_icmp .gt 18, 3), (115, .aload_n 3, 1), (116, .iload 5, 2), (118, .dup2, 1), (119, .laload, 1), (120, .iload 4, 2), (122, .lshr, 1), (123, .lastore, 1), (124, .iinc 5 1, 3), (127, .goto (-19), 3), (130, .return_, 1)] : List (Nat × Instr × Nat)).all (fun x => decide (decode cX2_correlate x.1 = .ok x.2)) = true := by decide +kernel
theorem dX2_correlate_70 : decode cX2_correlate 70 = .ok (.iinc 4 1, 3) := mm_dk kX2_correlate_1 0 rfl
theorem dX2_correlate_73 : decode cX2_correlate 73 = .ok (.goto (-54), 3) := mm_dk kX2_correlate_1 1 rfl
theorem dX2_correlate_76 : decode cX2_correlate 76 = .ok (.iconst 0, 1) := mm_dk kX2_correlate_1 2 rfl
theorem dX2_correlate_77 : decode cX2_correlate 77 = .ok (.istore 4, 2) := mm_dk kX2_correlate_1 3 rfl
theorem dX2_correlate_79 : decode cX2_correlate 79 = .ok (.iload 4, 2) := mm_dk kX2_correlate_1 4 rfl
theorem dX2_correlate_81 : decode cX2_correlate 81 = .ok (.bipush 40, 2) := mm_dk kX2_correlate_1 5 rfl
theorem dX2_correlate_83 : decode cX2_correlate 83 = .ok (.if_icmp .ge 22, 3) := mm_dk kX2_correlate_1 6 rfl
theorem dX2_correlate_86 : decode cX2_correlate 86 = .ok (.aload_n 3, 1) := mm_dk kX2_correlate_1 7 rfl
theorem dX2_correlate_87 : decode cX2_correlate 87 = .ok (.iconst 0, 1) := mm_dk kX2_correlate_1 8 rfl
theorem dX2_correlate_88 : decode cX2_correlate 88 = .ok (.laload, 1) := mm_dk kX2_correlate_1 9 rfl
theorem dX2_correlate_89 : decode cX2_correlate 89 = .ok (.iload 4, 2) := mm_dk kX2_correlate_1 10 rfl
theorem dX2_correlate_91 : decode cX2_correlate 91 = .ok (.lshr, 1) := mm_dk kX2_correlate_1 11 rfl
theorem dX2_correlate_92 : decode cX2_correlate 92 = .ok (.ldc2_w 208, 3) := mm_dk kX2_correlate_1 12 rfl
theorem dX2_correlate_95 : decode cX2_correlate 95 = .ok (.lcmp, 1) := mm_dk kX2_correlate_1 13 rfl
theorem dX2_correlate_96 : decode cX2_correlate 96 = .ok (.ifCond .lt 9, 3) := mm_dk kX2_correlate_1 14 rfl
theorem dX2_correlate_99 : decode cX2_correlate 99 = .ok (.iinc 4 1, 3) := mm_dk kX2_correlate_1 15 rfl
theorem dX2_correlate_102 : decode cX2_correlate 102 = .ok (.goto (-23), 3) := mm_dk kX2_correlate_1 16 rfl
theorem dX2_correlate_105 : decode cX2_correlate 105 = .ok (.iconst 0, 1) := mm_dk kX2_correlate_1 17 rfl
theorem dX2_correlate_106 : decode cX2_correlate 106 = .ok (.istore 5, 2) := mm_dk kX2_correlate_1 18 rfl
theorem dX2_correlate_108 : decode cX2_correlate 108 = .ok (.iload 5, 2) := mm_dk kX2_correlate_1 19 rfl
theorem dX2_correlate_110 : decode cX2_correlate 110 = .ok (.bipush 8, 2) := mm_dk kX2_correlate_1 20 rfl
theorem dX2_correlate_112 : decode cX2_correlate 112 = .ok (.if_icmp .gt 18, 3) := mm_dk kX2_correlate_1 21 rfl
theorem dX2_correlate_115 : decode cX2_correlate 115 = .ok (.aload_n 3, 1) := mm_dk kX2_correlate_1 22 rfl
theorem dX2_correlate_116 : decode cX2_correlate 116 = .ok (.iload 5, 2) := mm_dk kX2_correlate_1 23 rfl
theorem dX2_correlate_118 : decode cX2_correlate 118 = .ok (.dup2, 1) := mm_dk kX2_correlate_1 24 rfl
theorem dX2_correlate_119 : decode cX2_correlate 119 = .ok (.laload, 1) := mm_dk kX2_correlate_1 25 rfl
theorem dX2_correlate_120 : decode cX2_correlate 120 = .ok (.iload 4, 2) := mm_dk kX2_correlate_1 26 rfl
theorem dX2_correlate_122 : decode cX2_correlate 122 = .ok (.lshr, 1) := mm_dk kX2_correlate_1 27 rfl
theorem dX2_correlate_123 : decode cX2_correlate 123 = .ok (.lastore, 1) := mm_dk kX2_correlate_1 28 rfl
theorem dX2_correlate_124 : decode cX2_correlate 124 = .ok (.iinc 5 1, 3) := mm_dk kX2_correlate_1 29 rfl
theorem dX2_correlate_127 : decode cX2_correlate 127 = .ok (.goto (-19), 3) := mm_dk kX2_correlate_1 30 rfl
theorem dX2_correlate_130 : decode cX2_correlate 130 = .ok (.return_, 1) := mm_dk kX2_correlate_1 31 rfl
set_option maxRecDepth 100000 in
theorem kX2_reflect_0 : ([(0, .aload_n 0, 1), (1, .getfield 36, 3), (4, .getfield 204, 3), (7, .astore_n 1, 1), (8, .aload_n 1, 1), (9, .iconst 0, 1), (10, .laload, 1), (11, .lconst 0, 1), (12, .lcmp, 1), (13, .ifCond .ne 4, 3), (16, .return_, 1), (17, .aload_n 1, 1), (18, .iconst 0, 1), (19, .dup2, 1), (20, .laload, 1), (21, .aload_n 1, 1), (22, .iconst 0, 1), (23, .laload, 1), (24, .bipush 10, 2), (26, .lshr, 1), (27, .lconst 1, 1), (28, .ladd, 1), (29, .ladd, 1), (30, .lastore, 1), (31, .aload_n 1, 1), (32, .iconst 1, 1), (33, .aload_n 0, 1), (34, .getfield 36, 3), (37, .getfield 210, 3), (40, .iconst 1, 1), (41, .bipush 7, 2), (43, .invokestatic 171, 3), (46, .iconst 1, 1), (47, .istore_n 2, 1), (48, .iload_n 2, 1), (49, .bipush 8, 2), (51, .if_icmp .gt 84, 3), (54, .aload_n 1, 1), (55, .iconst 0, 1), (56, .laload, 1)] : List (Nat × Instr × Nat)).all (fun x => decide (decode cX2_reflect x.1 = .ok x.2)) = true := by decide +kernel
theorem dX2_reflect_0 : decode cX2_reflect 0 = .ok (.aload_n 0, 1) := mm_dk kX2_reflect_0 0 rfl
theorem dX2_reflect_1 : decode cX2_reflect 1 = .ok (.getfield 36, 3) := mm_dk kX2_reflect_0 1 rfl
theorem dX2_reflect_4 : decode cX2_reflect 4 = .ok (.getfield 204, 3) := mm_dk kX2_reflect_0 2 rfl
theorem dX2_reflect_7 : decode cX2_reflect 7 = .ok (.astore_n 1, 1) := mm_dk kX2_reflect_0 3 rfl
theorem dX2_reflect_8 : decode cX2_reflect 8 = .ok (.aload_n 1, 1) := mm_dk kX2_reflect_0 4 rfl
theorem dX2_reflect_9 : decode cX2_reflect 9 = .ok (.iconst 0, 1) := mm_dk kX2_reflect_0 5 rfl
theorem dX2_reflect_10 : decode cX2_reflect 10 = .ok (.laload, 1) := mm_dk kX2_reflect_0 6 rfl
theorem dX2_reflect_11 : decode cX2_reflect 11 = .ok (.lconst 0, 1) := mm_dk kX2_reflect_0 7 rfl
theorem dX2_reflect_12 : decode cX2_reflect 12 = .ok (.lcmp, 1) := mm_dk kX2_reflect_0 8 rfl
theorem dX2_reflect_13 : decode cX2_reflect 13 = .ok (.ifCond .ne 4, 3) := mm_dk kX2_reflect_0 9 rfl
theorem dX2_reflect_16 : decode cX2_reflect 16 = .ok (.return_, 1) := mm_dk kX2_reflect_0 10 rfl
theorem dX2_reflect_17 : decode cX2_reflect 17 = .ok (.aload_n 1, 1) := mm_dk kX2_reflect_0 11 rfl
theorem dX2_reflect_18 : decode cX2_reflect 18 = .ok (.iconst 0, 1) := mm_dk kX2_reflect_0 12 rfl
theorem dX2_reflect_19 : decode cX2_reflect 19 = .ok (.dup2, 1) := mm_dk kX2_reflect_0 13 rfl
theorem dX2_reflect_20 : decode cX2_reflect 20 = .ok (.laload, 1) := mm_dk kX2_reflect_0 14 rfl
theorem dX2_reflect_21 : decode cX2_reflect 21 = .ok (.aload_n 1, 1) := mm_dk kX2_reflect_0 15 rfl
theorem dX2_reflect_22 : decode cX2_reflect 22 = .ok (.iconst 0, 1) := mm_dk kX2_reflect_0 16 rfl
theorem dX2_reflect_23 : decode cX2_reflect 23 = .ok (.laload, 1) := mm_dk kX2_reflect_0 17 rfl
theorem dX2_reflect_24 : decode cX2_reflect 24 = .ok (.bipush 10, 2) := mm_dk kX2_reflect_0 18 rfl
theorem dX2_reflect_26 : decode cX2_reflect 26 = .ok (.lshr, 1) := mm_dk kX2_reflect_0 19 rfl
theorem dX2_reflect_27 : decode cX2_reflect 27 = .ok (.lconst 1, 1) := mm_dk kX2_reflect_0 20 rfl
theorem dX2_reflect_28 : decode cX2_reflect 28 = .ok (.ladd, 1) := mm_dk kX2_reflect_0 21 rfl
theorem dX2_reflect_29 : decode cX2_reflect 29 = .ok (.ladd, 1) := mm_dk kX2_reflect_0 22 rfl
theorem dX2_reflect_30 : decode cX2_reflect 30 = .ok (.lastore, 1) := mm_dk kX2_reflect_0 23 rfl
theorem dX2_reflect_31 : decode cX2_reflect 31 = .ok (.aload_n 1, 1) := mm_dk kX2_reflect_0 24 rfl
theorem dX2_reflect_32 : decode cX2_reflect 32 = .ok (.iconst 1, 1) := mm_dk kX2_reflect_0 25 rfl
theorem dX2_reflect_33 : decode cX2_reflect 33 = .ok (.aload_n 0, 1) := mm_dk kX2_reflect_0 26 rfl
theorem dX2_reflect_34 : decode cX2_reflect 34 = .ok (.getfield 36, 3) := mm_dk kX2_reflect_0 27 rfl
theorem dX2_reflect_37 : decode cX2_reflect 37 = .ok (.getfield 210, 3) := mm_dk kX2_reflect_0 28 rfl
theorem dX2_reflect_40 : decode cX2_reflect 40 = .ok (.iconst 1, 1) := mm_dk kX2_reflect_0 29 rfl
theorem dX2_reflect_41 : decode cX2_reflect 41 = .ok (.bipush 7, 2) := mm_dk kX2_reflect_0 30 rfl
theorem dX2_reflect_43 : decode cX2_reflect 43 = .ok (.invokestatic 171, 3) := mm_dk kX2_reflect_0 31 rfl
theorem dX2_reflect_46 : decode cX2_reflect 46 = .ok (.iconst 1, 1) := mm_dk kX2_reflect_0 32 rfl
theorem dX2_reflect_47 : decode cX2_reflect 47 = .ok (.istore_n 2, 1) := mm_dk kX2_reflect_0 33 rfl
theorem dX2_reflect_48 : decode cX2_reflect 48 = .ok (.iload_n 2, 1) := mm_dk kX2_reflect_0 34 rfl
theorem dX2_reflect_49 : decode cX2_reflect 49 = .ok (.bipush 8, 2) := mm_dk kX2_reflect_0 35 rfl
theorem dX2_reflect_51 : decode cX2_reflect 51 = .ok (.if_icmp .gt 84, 3) := mm_dk kX2_reflect_0 36 rfl
theorem dX2_reflect_54 : decode cX2_reflect 54 = .ok (.aload_n 1, 1) := mm_dk kX2_reflect_0 37 rfl
theorem dX2_reflect_55 : decode cX2_reflect 55 = .ok (.iconst 0, 1) := mm_dk kX2_reflect_0 38 rfl
theorem dX2_reflect_56 : decode cX2_reflect 56 = .ok (.laload, 1) := mm_dk kX2_reflect_0 39 rfl
set_option maxRecDepth 100000 in
theorem kX2_reflect_1 : ([(57, .lconst 0, 1), (58, .lcmp, 1), (59, .ifCond .le 16, 3), (62, .aload_n 1, 1), (63, .iconst 1, 1), (64, .laload, 1), (65, .invokestatic 213, 3), (68, .aload_n 1, 1), (69, .iconst 0, 1), (70, .laload, 1), (71, .lcmp, 1), (72, .ifCond .lt 4, 3), (75, .return_, 1), (76, .ldc2_w 216, 3), (79, .aload_n 1, 1), (80, .iconst 1, 1), (81, .laload, 1), (82, .lmul, 1), (83, .aload_n 1, 1), (84, .iconst 0, 1), (85, .laload, 1), (86, .ldiv, 1), (87, .lstore_n 3, 1), (88, .aload_n 0, 1), (89, .getfield 49, 3), (92, .getfield 150, 3), (95, .iload_n 2, 1), (96, .iconst 1, 1), (97, .isub, 1), (98, .aload_n 0, 1), (99, .getfield 32, 3), (102, .lload_n 3, 1), (103, .ldc2_w 218, 3), (106, .ladd, 1), (107, .bipush 10, 2), (109, .lshr, 1), (110, .invokevirtual 220, 3), (113, .iastore, 1), (114, .iload_n 2, 1), (115, .bipush 8, 2)] : List (Nat × Instr × Nat)).all (fun x => decide (decode cX2_reflect x.1 = .ok x.2)) = true := by decide +kernel
theorem dX2_reflect_57 : decode cX2_reflect 57 = .ok (.lconst 0, 1) := mm_dk kX2_reflect_1 0 rfl
theorem dX2_reflect_58 : decode cX2_reflect 58 = .ok (.lcmp, 1) := mm_dk kX2_reflect_1 1 rfl
theorem dX2_reflect_59 : decode cX2_reflect 59 = .ok (.ifCond .le 16, 3) := mm_dk kX2_reflect_1 2 rfl
theorem dX2_reflect_62 : decode cX2_reflect 62 = .ok (.aload_n 1, 1) := mm_dk kX2_reflect_1 3 rfl
theorem dX2_reflect_63 : decode cX2_reflect 63 = .ok (.iconst 1, 1) := mm_dk kX2_reflect_1 4 rfl
theorem dX2_reflect_64 : decode cX2_reflect 64 = .ok (.laload, 1) := mm_dk kX2_reflect_1 5 rfl
theorem dX2_reflect_65 : decode cX2_reflect 65 = .ok (.invokestatic 213, 3) := mm_dk kX2_reflect_1 6 rfl
theorem dX2_reflect_68 : decode cX2_reflect 68 = .ok (.aload_n 1, 1) := mm_dk kX2_reflect_1 7 rfl
theorem dX2_reflect_69 : decode cX2_reflect 69 = .ok (.iconst 0, 1) := mm_dk kX2_reflect_1 8 rfl
theorem dX2_reflect_70 : decode cX2_reflect 70 = .ok (.laload, 1) := mm_dk kX2_reflect_1 9 rfl
theorem dX2_reflect_71 : decode cX2_reflect 71 = .ok (.lcmp, 1) := mm_dk kX2_reflect_1 10 rfl
theorem dX2_reflect_72 : decode cX2_reflect 72 = .ok (.ifCond .lt 4, 3) := mm_dk kX2_reflect_1 11 rfl
theorem dX2_reflect_75 : decode cX2_reflect 75 = .ok (.return_, 1) := mm_dk kX2_reflect_1 12 rfl
theorem dX2_reflect_76 : decode cX2_reflect 76 = .ok (.ldc2_w 216, 3) := mm_dk kX2_reflect_1 13 rfl
theorem dX2_reflect_79 : decode cX2_reflect 79 = .ok (.aload_n 1, 1) := mm_dk kX2_reflect_1 14 rfl
theorem dX2_reflect_80 : decode cX2_reflect 80 = .ok (.iconst 1, 1) := mm_dk kX2_reflect_1 15 rfl
theorem dX2_reflect_81 : decode cX2_reflect 81 = .ok (.laload, 1) := mm_dk kX2_reflect_1 16 rfl
theorem dX2_reflect_82 : decode cX2_reflect 82 = .ok (.lmul, 1) := mm_dk kX2_reflect_1 17 rfl
theorem dX2_reflect_83 : decode cX2_reflect 83 = .ok (.aload_n 1, 1) := mm_dk kX2_reflect_1 18 rfl
theorem dX2_reflect_84 : decode cX2_reflect 84 = .ok (.iconst 0, 1) := mm_dk kX2_reflect_1 19 rfl
theorem dX2_reflect_85 : decode cX2_reflect 85 = .ok (.laload, 1) := mm_dk kX2_reflect_1 20 rfl
theorem dX2_reflect_86 : decode cX2_reflect 86 = .ok (.ldiv, 1) := mm_dk kX2_reflect_1 21 rfl
theorem dX2_reflect_87 : decode cX2_reflect 87 = .ok (.lstore_n 3, 1) := mm_dk kX2_reflect_1 22 rfl
theorem dX2_reflect_88 : decode cX2_reflect 88 = .ok (.aload_n 0, 1) := mm_dk kX2_reflect_1 23 rfl
theorem dX2_reflect_89 : decode cX2_reflect 89 = .ok (.getfield 49, 3) := mm_dk kX2_reflect_1 24 rfl
theorem dX2_reflect_92 : decode cX2_reflect 92 = .ok (.getfield 150, 3) := mm_dk kX2_reflect_1 25 rfl
theorem dX2_reflect_95 : decode cX2_reflect 95 = .ok (.iload_n 2, 1) := mm_dk kX2_reflect_1 26 rfl
theorem dX2_reflect_96 : decode cX2_reflect 96 = .ok (.iconst 1, 1) := mm_dk kX2_reflect_1 27 rfl
theorem dX2_reflect_97 : decode cX2_reflect 97 = .ok (.isub, 1) := mm_dk kX2_reflect_1 28 rfl
theorem dX2_reflect_98 : decode cX2_reflect 98 = .ok (.aload_n 0, 1) := mm_dk kX2_reflect_1 29 rfl
theorem dX2_reflect_99 : decode cX2_reflect 99 = .ok (.getfield 32, 3) := mm_dk kX2_reflect_1 30 rfl
theorem dX2_reflect_102 : decode cX2_reflect 102 = .ok (.lload_n 3, 1) := mm_dk kX2_reflect_1 31 rfl
theorem dX2_reflect_103 : decode cX2_reflect 103 = .ok (.ldc2_w 218, 3) := mm_dk kX2_reflect_1 32 rfl
theorem dX2_reflect_106 : decode cX2_reflect 106 = .ok (.ladd, 1) := mm_dk kX2_reflect_1 33 rfl
theorem dX2_reflect_107 : decode cX2_reflect 107 = .ok (.bipush 10, 2) := mm_dk kX2_reflect_1 34 rfl
theorem dX2_reflect_109 : decode cX2_reflect 109 = .ok (.lshr, 1) := mm_dk kX2_reflect_1 35 rfl
theorem dX2_reflect_110 : decode cX2_reflect 110 = .ok (.invokevirtual 220, 3) := mm_dk kX2_reflect_1 36 rfl
theorem dX2_reflect_113 : decode cX2_reflect 113 = .ok (.iastore, 1) := mm_dk kX2_reflect_1 37 rfl
theorem dX2_reflect_114 : decode cX2_reflect 114 = .ok (.iload_n 2, 1) := mm_dk kX2_reflect_1 38 rfl
theorem dX2_reflect_115 : decode cX2_reflect 115 = .ok (.bipush 8, 2) := mm_dk kX2_reflect_1 39 rfl
set_option maxRecDepth 100000 in
theorem kX2_reflect_2 : ([(117, .if_icmp .ge 12, 3), (120, .aload_n 0, 1), (121, .bipush 8, 2), (123, .iload_n 2, 1), (124, .isub, 1), (125, .lload_n 3, 1), (126, .invokevirtual 223, 3), (129, .iinc 2 1, 3), (132, .goto (-84), 3), (135, .return_, 1)] : List (Nat × Instr × Nat)).all (fun x => decide (decode cX2_reflect x.1 = .ok x.2)) = true := by decide +kernel
theorem dX2_reflect_117 : decode cX2_reflect 117 = .ok (.if_icmp .ge 12, 3) := mm_dk kX2_reflect_2 0 rfl
theorem dX2_reflect_120 : decode cX2_reflect 120 = .ok (.aload_n 0, 1) := mm_dk kX2_reflect_2 1 rfl
theorem dX2_reflect_121 : decode cX2_reflect 121 = .ok (.bipush 8, 2) := mm_dk kX2_reflect_2 2 rfl
theorem dX2_reflect_123 : decode cX2_reflect 123 = .ok (.iload_n 2, 1) := mm_dk kX2_reflect_2 3 rfl
theorem dX2_reflect_124 : decode cX2_reflect 124 = .ok (.isub, 1) := mm_dk kX2_reflect_2 4 rfl
theorem dX2_reflect_125 : decode cX2_reflect 125 = .ok (.lload_n 3, 1) := mm_dk kX2_reflect_2 5 rfl
theorem dX2_reflect_126 : decode cX2_reflect 126 = .ok (.invokevirtual 223, 3) := mm_dk kX2_reflect_2 6 rfl
theorem dX2_reflect_129 : decode cX2_reflect 129 = .ok (.iinc 2 1, 3) := mm_dk kX2_reflect_2 7 rfl
theorem dX2_reflect_132 : decode cX2_reflect 132 = .ok (.goto (-84), 3) := mm_dk kX2_reflect_2 8 rfl
theorem dX2_reflect_135 : decode cX2_reflect 135 = .ok (.return_, 1) := mm_dk kX2_reflect_2 9 rfl
set_option maxRecDepth 100000 in
theorem kX2_reflectOnce_0 : ([(0, .aload_n 0, 1), (1, .getfield 36, 3), (4, .getfield 204, 3), (7, .astore 4, 2), (9, .aload_n 0, 1), (10, .getfield 36, 3), (13, .getfield 210, 3), (16, .astore 5, 2), (18, .aload 4, 2), (20, .iconst 0, 1), (21, .aload_n 0, 1), (22, .getfield 32, 3), (25, .aload 4, 2), (27, .iconst 0, 1), (28, .laload, 1), (29, .aload 4, 2), (31, .iconst 1, 1), (32, .laload, 1), (33, .lload_n 2, 1), (34, .invokestatic 133, 3), (37, .ladd, 1), (38, .invokevirtual 227, 3), (41, .lastore, 1), (42, .iconst 1, 1), (43, .istore 6, 2), (45, .iload 6, 2), (47, .iload_n 1, 1), (48, .if_icmp .gt 67, 3), (51, .aload 4, 2), (53, .iload 6, 2), (55, .iconst 1, 1), (56, .iadd, 1), (57, .laload, 1), (58, .lstore 7, 2), (60, .aload 5, 2), (62, .iload 6, 2), (64, .laload, 1), (65, .lstore 9, 2), (67, .aload 4, 2), (69, .iload 6, 2)] : List (Nat × Instr × Nat)).all (fun x => decide (decode cX2_reflectOnce x.1 = .ok x.2)) = true := by decide +kernel
theorem dX2_reflectOnce_0 : decode cX2_reflectOnce 0 = .ok (.aload_n 0, 1) := mm_dk kX2_reflectOnce_0 0 rfl
theorem dX2_reflectOnce_1 : decode cX2_reflectOnce 1 = .ok (.getfield 36, 3) := mm_dk kX2_reflectOnce_0 1 rfl
theorem dX2_reflectOnce_4 : decode cX2_reflectOnce 4 = .ok (.getfield 204, 3) := mm_dk kX2_reflectOnce_0 2 rfl
theorem dX2_reflectOnce_7 : decode cX2_reflectOnce 7 = .ok (.astore 4, 2) := mm_dk kX2_reflectOnce_0 3 rfl
theorem dX2_reflectOnce_9 : decode cX2_reflectOnce 9 = .ok (.aload_n 0, 1) := mm_dk kX2_reflectOnce_0 4 rfl
theorem dX2_reflectOnce_10 : decode cX2_reflectOnce 10 = .ok (.getfield 36, 3) := mm_dk kX2_reflectOnce_0 5 rfl
theorem dX2_reflectOnce_13 : decode cX2_reflectOnce 13 = .ok (.getfield 210, 3) := mm_dk kX2_reflectOnce_0 6 rfl
theorem dX2_reflectOnce_16 : decode cX2_reflectOnce 16 = .ok (.astore 5, 2) := mm_dk kX2_reflectOnce_0 7 rfl
theorem dX2_reflectOnce_18 : decode cX2_reflectOnce 18 = .ok (.aload 4, 2) := mm_dk kX2_reflectOnce_0 8 rfl
theorem dX2_reflectOnce_20 : decode cX2_reflectOnce 20 = .ok (.iconst 0, 1) := mm_dk kX2_reflectOnce_0 9 rfl
theorem dX2_reflectOnce_21 : decode cX2_reflectOnce 21 = .ok (.aload_n 0, 1) := mm_dk kX2_reflectOnce_0 10 rfl
theorem dX2_reflectOnce_22 : decode cX2_reflectOnce 22 = .ok (.getfield 32, 3) := mm_dk kX2_reflectOnce_0 11 rfl
theorem dX2_reflectOnce_25 : decode cX2_reflectOnce 25 = .ok (.aload 4, 2) := mm_dk kX2_reflectOnce_0 12 rfl
theorem dX2_reflectOnce_27 : decode cX2_reflectOnce 27 = .ok (.iconst 0, 1) := mm_dk kX2_reflectOnce_0 13 rfl
theorem dX2_reflectOnce_28 : decode cX2_reflectOnce 28 = .ok (.laload, 1) := mm_dk kX2_reflectOnce_0 14 rfl
theorem dX2_reflectOnce_29 : decode cX2_reflectOnce 29 = .ok (.aload 4, 2) := mm_dk kX2_reflectOnce_0 15 rfl
theorem dX2_reflectOnce_31 : decode cX2_reflectOnce 31 = .ok (.iconst 1, 1) := mm_dk kX2_reflectOnce_0 16 rfl
theorem dX2_reflectOnce_32 : decode cX2_reflectOnce 32 = .ok (.laload, 1) := mm_dk kX2_reflectOnce_0 17 rfl
theorem dX2_reflectOnce_33 : decode cX2_reflectOnce 33 = .ok (.lload_n 2, 1) := mm_dk kX2_reflectOnce_0 18 rfl
theorem dX2_reflectOnce_34 : decode cX2_reflectOnce 34 = .ok (.invokestatic 133, 3) := mm_dk kX2_reflectOnce_0 19 rfl
theorem dX2_reflectOnce_37 : decode cX2_reflectOnce 37 = .ok (.ladd, 1) := mm_dk kX2_reflectOnce_0 20 rfl
theorem dX2_reflectOnce_38 : decode cX2_reflectOnce 38 = .ok (.invokevirtual 227, 3) := mm_dk kX2_reflectOnce_0 21 rfl
theorem dX2_reflectOnce_41 : decode cX2_reflectOnce 41 = .ok (.lastore, 1) := mm_dk kX2_reflectOnce_0 22 rfl
theorem dX2_reflectOnce_42 : decode cX2_reflectOnce 42 = .ok (.iconst 1, 1) := mm_dk kX2_reflectOnce_0 23 rfl
theorem dX2_reflectOnce_43 : decode cX2_reflectOnce 43 = .ok (.istore 6, 2) := mm_dk kX2_reflectOnce_0 24 rfl
theorem dX2_reflectOnce_45 : decode cX2_reflectOnce 45 = .ok (.iload 6, 2) := mm_dk kX2_reflectOnce_0 25 rfl
theorem dX2_reflectOnce_47 : decode cX2_reflectOnce 47 = .ok (.iload_n 1, 1) := mm_dk kX2_reflectOnce_0 26 rfl
theorem dX2_reflectOnce_48 : decode cX2_reflectOnce 48 = .ok (.if_icmp .gt 67, 3) := mm_dk kX2_reflectOnce_0 27 rfl
theorem dX2_reflectOnce_51 : decode cX2_reflectOnce 51 = .ok (.aload 4, 2) := mm_dk kX2_reflectOnce_0 28 rfl
theorem dX2_reflectOnce_53 : decode cX2_reflectOnce 53 = .ok (.iload 6, 2) := mm_dk kX2_reflectOnce_0 29 rfl
theorem dX2_reflectOnce_55 : decode cX2_reflectOnce 55 = .ok (.iconst 1, 1) := mm_dk kX2_reflectOnce_0 30 rfl
theorem dX2_reflectOnce_56 : decode cX2_reflectOnce 56 = .ok (.iadd, 1) := mm_dk kX2_reflectOnce_0 31 rfl
theorem dX2_reflectOnce_57 : decode cX2_reflectOnce 57 = .ok (.laload, 1) := mm_dk kX2_reflectOnce_0 32 rfl
theorem dX2_reflectOnce_58 : decode cX2_reflectOnce 58 = .ok (.lstore 7, 2) := mm_dk kX2_reflectOnce_0 33 rfl
theorem dX2_reflectOnce_60 : decode cX2_reflectOnce 60 = .ok (.aload 5, 2) := mm_dk kX2_reflectOnce_0 34 rfl
theorem dX2_reflectOnce_62 : decode cX2_reflectOnce 62 = .ok (.iload 6, 2) := mm_dk kX2_reflectOnce_0 35 rfl
theorem dX2_reflectOnce_64 : decode cX2_reflectOnce 64 = .ok (.laload, 1) := mm_dk kX2_reflectOnce_0 36 rfl
theorem dX2_reflectOnce_65 : decode cX2_reflectOnce 65 = .ok (.lstore 9, 2) := mm_dk kX2_reflectOnce_0 37 rfl
theorem dX2_reflectOnce_67 : decode cX2_reflectOnce 67 = .ok (.aload 4, 2) := mm_dk kX2_reflectOnce_0 38 rfl
theorem dX2_reflectOnce_69 : decode cX2_reflectOnce 69 = .ok (.iload 6, 2) := mm_dk kX2_reflectOnce_0 39 rfl
set_option maxRecDepth 100000 in
theorem kX2_reflectOnce_1 : ([(71, .aload_n 0, 1), (72, .getfield 32, 3), (75, .lload 7, 2), (77, .lload 9, 2), (79, .lload_n 2, 1), (80, .invokestatic 133, 3), (83, .ladd, 1), (84, .invokevirtual 227, 3), (87, .lastore, 1), (88, .aload 5, 2), (90, .iload 6, 2), (92, .aload_n 0, 1), (93, .getfield 32, 3), (96, .lload 9, 2), (98, .lload 7, 2), (100, .lload_n 2, 1), (101, .invokestatic 133, 3), (104, .ladd, 1), (105, .invokevirtual 227, 3), (108, .lastore, 1), (109, .iinc 6 1, 3), (112, .goto (-67), 3), (115, .return_, 1)] : List (Nat × Instr × Nat)).all (fun x => decide (decode cX2_reflectOnce x.1 = .ok x.2)) = true := by decide +kernel
theorem dX2_reflectOnce_71 : decode cX2_reflectOnce 71 = .ok (.aload_n 0, 1) := mm_dk kX2_reflectOnce_1 0 rfl
theorem dX2_reflectOnce_72 : decode cX2_reflectOnce 72 = .ok (.getfield 32, 3) := mm_dk kX2_reflectOnce_1 1 rfl
theorem dX2_reflectOnce_75 : decode cX2_reflectOnce 75 = .ok (.lload 7, 2) := mm_dk kX2_reflectOnce_1 2 rfl
theorem dX2_reflectOnce_77 : decode cX2_reflectOnce 77 = .ok (.lload 9, 2) := mm_dk kX2_reflectOnce_1 3 rfl
theorem dX2_reflectOnce_79 : decode cX2_reflectOnce 79 = .ok (.lload_n 2, 1) := mm_dk kX2_reflectOnce_1 4 rfl
theorem dX2_reflectOnce_80 : decode cX2_reflectOnce 80 = .ok (.invokestatic 133, 3) := mm_dk kX2_reflectOnce_1 5 rfl
theorem dX2_reflectOnce_83 : decode cX2_reflectOnce 83 = .ok (.ladd, 1) := mm_dk kX2_reflectOnce_1 6 rfl
theorem dX2_reflectOnce_84 : decode cX2_reflectOnce 84 = .ok (.invokevirtual 227, 3) := mm_dk kX2_reflectOnce_1 7 rfl
theorem dX2_reflectOnce_87 : decode cX2_reflectOnce 87 = .ok (.lastore, 1) := mm_dk kX2_reflectOnce_1 8 rfl
theorem dX2_reflectOnce_88 : decode cX2_reflectOnce 88 = .ok (.aload 5, 2) := mm_dk kX2_reflectOnce_1 9 rfl
theorem dX2_reflectOnce_90 : decode cX2_reflectOnce 90 = .ok (.iload 6, 2) := mm_dk kX2_reflectOnce_1 10 rfl
theorem dX2_reflectOnce_92 : decode cX2_reflectOnce 92 = .ok (.aload_n 0, 1) := mm_dk kX2_reflectOnce_1 11 rfl
theorem dX2_reflectOnce_93 : decode cX2_reflectOnce 93 = .ok (.getfield 32, 3) := mm_dk kX2_reflectOnce_1 12 rfl
theorem dX2_reflectOnce_96 : decode cX2_reflectOnce 96 = .ok (.lload 9, 2) := mm_dk kX2_reflectOnce_1 13 rfl
theorem dX2_reflectOnce_98 : decode cX2_reflectOnce 98 = .ok (.lload 7, 2) := mm_dk kX2_reflectOnce_1 14 rfl
theorem dX2_reflectOnce_100 : decode cX2_reflectOnce 100 = .ok (.lload_n 2, 1) := mm_dk kX2_reflectOnce_1 15 rfl
theorem dX2_reflectOnce_101 : decode cX2_reflectOnce 101 = .ok (.invokestatic 133, 3) := mm_dk kX2_reflectOnce_1 16 rfl
theorem dX2_reflectOnce_104 : decode cX2_reflectOnce 104 = .ok (.ladd, 1) := mm_dk kX2_reflectOnce_1 17 rfl
theorem dX2_reflectOnce_105 : decode cX2_reflectOnce 105 = .ok (.invokevirtual 227, 3) := mm_dk kX2_reflectOnce_1 18 rfl
theorem dX2_reflectOnce_108 : decode cX2_reflectOnce 108 = .ok (.lastore, 1) := mm_dk kX2_reflectOnce_1 19 rfl
theorem dX2_reflectOnce_109 : decode cX2_reflectOnce 109 = .ok (.iinc 6 1, 3) := mm_dk kX2_reflectOnce_1 20 rfl
theorem dX2_reflectOnce_112 : decode cX2_reflectOnce 112 = .ok (.goto (-67), 3) := mm_dk kX2_reflectOnce_1 21 rfl
theorem dX2_reflectOnce_115 : decode cX2_reflectOnce 115 = .ok (.return_, 1) := mm_dk kX2_reflectOnce_1 22 rfl
set_option maxRecDepth 100000 in
theorem kX2_restOf_0 : ([(0, .iload_n 1, 1), (1, .istore_n 2, 1), (2, .iload_n 1, 1), (3, .istore_n 3, 1), (4, .iconst 0, 1), (5, .istore 4, 2), (7, .iload 4, 2), (9, .bipush 8, 2), (11, .if_icmp .ge 86, 3), (14, .sipush 1024, 3), (17, .aload_n 0, 1), (18, .getfield 49, 3), (21, .getfield 150, 3), (24, .iload 4, 2), (26, .iaload, 1), (27, .imul, 1), (28, .istore 5, 2), (30, .aload_n 0, 1), (31, .getfield 9, 3), (34, .iload 4, 2), (36, .iaload, 1), (37, .istore 6, 2), (39, .aload_n 0, 1), (40, .getfield 9, 3), (43, .iload 4, 2), (45, .iload_n 3, 1), (46, .iastore, 1), (47, .aload_n 0, 1), (48, .getfield 32, 3), (51, .iload_n 2, 1), (52, .i2l, 1), (53, .iload 6, 2), (55, .i2l, 1), (56, .iload 5, 2), (58, .i2l, 1), (59, .invokestatic 133, 3), (62, .ladd, 1), (63, .invokevirtual 137, 3), (66, .istore 7, 2), (68, .aload_n 0, 1)] : List (Nat × Instr × Nat)).all (fun x => decide (decode cX2_restOf x.1 = .ok x.2)) = true := by decide +kernel
theorem dX2_restOf_0 : decode cX2_restOf 0 = .ok (.iload_n 1, 1) := mm_dk kX2_restOf_0 0 rfl
theorem dX2_restOf_1 : decode cX2_restOf 1 = .ok (.istore_n 2, 1) := mm_dk kX2_restOf_0 1 rfl
theorem dX2_restOf_2 : decode cX2_restOf 2 = .ok (.iload_n 1, 1) := mm_dk kX2_restOf_0 2 rfl
theorem dX2_restOf_3 : decode cX2_restOf 3 = .ok (.istore_n 3, 1) := mm_dk kX2_restOf_0 3 rfl
theorem dX2_restOf_4 : decode cX2_restOf 4 = .ok (.iconst 0, 1) := mm_dk kX2_restOf_0 4 rfl
theorem dX2_restOf_5 : decode cX2_restOf 5 = .ok (.istore 4, 2) := mm_dk kX2_restOf_0 5 rfl
theorem dX2_restOf_7 : decode cX2_restOf 7 = .ok (.iload 4, 2) := mm_dk kX2_restOf_0 6 rfl
theorem dX2_restOf_9 : decode cX2_restOf 9 = .ok (.bipush 8, 2) := mm_dk kX2_restOf_0 7 rfl
theorem dX2_restOf_11 : decode cX2_restOf 11 = .ok (.if_icmp .ge 86, 3) := mm_dk kX2_restOf_0 8 rfl
theorem dX2_restOf_14 : decode cX2_restOf 14 = .ok (.sipush 1024, 3) := mm_dk kX2_restOf_0 9 rfl
theorem dX2_restOf_17 : decode cX2_restOf 17 = .ok (.aload_n 0, 1) := mm_dk kX2_restOf_0 10 rfl
theorem dX2_restOf_18 : decode cX2_restOf 18 = .ok (.getfield 49, 3) := mm_dk kX2_restOf_0 11 rfl
theorem dX2_restOf_21 : decode cX2_restOf 21 = .ok (.getfield 150, 3) := mm_dk kX2_restOf_0 12 rfl
theorem dX2_restOf_24 : decode cX2_restOf 24 = .ok (.iload 4, 2) := mm_dk kX2_restOf_0 13 rfl
theorem dX2_restOf_26 : decode cX2_restOf 26 = .ok (.iaload, 1) := mm_dk kX2_restOf_0 14 rfl
theorem dX2_restOf_27 : decode cX2_restOf 27 = .ok (.imul, 1) := mm_dk kX2_restOf_0 15 rfl
theorem dX2_restOf_28 : decode cX2_restOf 28 = .ok (.istore 5, 2) := mm_dk kX2_restOf_0 16 rfl
theorem dX2_restOf_30 : decode cX2_restOf 30 = .ok (.aload_n 0, 1) := mm_dk kX2_restOf_0 17 rfl
theorem dX2_restOf_31 : decode cX2_restOf 31 = .ok (.getfield 9, 3) := mm_dk kX2_restOf_0 18 rfl
theorem dX2_restOf_34 : decode cX2_restOf 34 = .ok (.iload 4, 2) := mm_dk kX2_restOf_0 19 rfl
theorem dX2_restOf_36 : decode cX2_restOf 36 = .ok (.iaload, 1) := mm_dk kX2_restOf_0 20 rfl
theorem dX2_restOf_37 : decode cX2_restOf 37 = .ok (.istore 6, 2) := mm_dk kX2_restOf_0 21 rfl
theorem dX2_restOf_39 : decode cX2_restOf 39 = .ok (.aload_n 0, 1) := mm_dk kX2_restOf_0 22 rfl
theorem dX2_restOf_40 : decode cX2_restOf 40 = .ok (.getfield 9, 3) := mm_dk kX2_restOf_0 23 rfl
theorem dX2_restOf_43 : decode cX2_restOf 43 = .ok (.iload 4, 2) := mm_dk kX2_restOf_0 24 rfl
theorem dX2_restOf_45 : decode cX2_restOf 45 = .ok (.iload_n 3, 1) := mm_dk kX2_restOf_0 25 rfl
theorem dX2_restOf_46 : decode cX2_restOf 46 = .ok (.iastore, 1) := mm_dk kX2_restOf_0 26 rfl
theorem dX2_restOf_47 : decode cX2_restOf 47 = .ok (.aload_n 0, 1) := mm_dk kX2_restOf_0 27 rfl
theorem dX2_restOf_48 : decode cX2_restOf 48 = .ok (.getfield 32, 3) := mm_dk kX2_restOf_0 28 rfl
theorem dX2_restOf_51 : decode cX2_restOf 51 = .ok (.iload_n 2, 1) := mm_dk kX2_restOf_0 29 rfl
theorem dX2_restOf_52 : decode cX2_restOf 52 = .ok (.i2l, 1) := mm_dk kX2_restOf_0 30 rfl
theorem dX2_restOf_53 : decode cX2_restOf 53 = .ok (.iload 6, 2) := mm_dk kX2_restOf_0 31 rfl
theorem dX2_restOf_55 : decode cX2_restOf 55 = .ok (.i2l, 1) := mm_dk kX2_restOf_0 32 rfl
theorem dX2_restOf_56 : decode cX2_restOf 56 = .ok (.iload 5, 2) := mm_dk kX2_restOf_0 33 rfl
theorem dX2_restOf_58 : decode cX2_restOf 58 = .ok (.i2l, 1) := mm_dk kX2_restOf_0 34 rfl
theorem dX2_restOf_59 : decode cX2_restOf 59 = .ok (.invokestatic 133, 3) := mm_dk kX2_restOf_0 35 rfl
theorem dX2_restOf_62 : decode cX2_restOf 62 = .ok (.ladd, 1) := mm_dk kX2_restOf_0 36 rfl
theorem dX2_restOf_63 : decode cX2_restOf 63 = .ok (.invokevirtual 137, 3) := mm_dk kX2_restOf_0 37 rfl
theorem dX2_restOf_66 : decode cX2_restOf 66 = .ok (.istore 7, 2) := mm_dk kX2_restOf_0 38 rfl
theorem dX2_restOf_68 : decode cX2_restOf 68 = .ok (.aload_n 0, 1) := mm_dk kX2_restOf_0 39 rfl
set_option maxRecDepth 100000 in
theorem kX2_restOf_1 : ([(69, .getfield 32, 3), (72, .iload 6, 2), (74, .i2l, 1), (75, .iload_n 2, 1), (76, .i2l, 1), (77, .iload 5, 2), (79, .i2l, 1), (80, .invokestatic 133, 3), (83, .ladd, 1), (84, .invokevirtual 137, 3), (87, .istore_n 3, 1), (88, .iload 7, 2), (90, .istore_n 2, 1), (91, .iinc 4 1, 3), (94, .goto (-87), 3), (97, .iload_n 2, 1), (98, .ireturn, 1)] : List (Nat × Instr × Nat)).all (fun x => decide (decode cX2_restOf x.1 = .ok x.2)) = true := by decide +kernel
theorem dX2_restOf_69 : decode cX2_restOf 69 = .ok (.getfield 32, 3) := mm_dk kX2_restOf_1 0 rfl
theorem dX2_restOf_72 : decode cX2_restOf 72 = .ok (.iload 6, 2) := mm_dk kX2_restOf_1 1 rfl
theorem dX2_restOf_74 : decode cX2_restOf 74 = .ok (.i2l, 1) := mm_dk kX2_restOf_1 2 rfl
theorem dX2_restOf_75 : decode cX2_restOf 75 = .ok (.iload_n 2, 1) := mm_dk kX2_restOf_1 3 rfl
theorem dX2_restOf_76 : decode cX2_restOf 76 = .ok (.i2l, 1) := mm_dk kX2_restOf_1 4 rfl
theorem dX2_restOf_77 : decode cX2_restOf 77 = .ok (.iload 5, 2) := mm_dk kX2_restOf_1 5 rfl
theorem dX2_restOf_79 : decode cX2_restOf 79 = .ok (.i2l, 1) := mm_dk kX2_restOf_1 6 rfl
theorem dX2_restOf_80 : decode cX2_restOf 80 = .ok (.invokestatic 133, 3) := mm_dk kX2_restOf_1 7 rfl
theorem dX2_restOf_83 : decode cX2_restOf 83 = .ok (.ladd, 1) := mm_dk kX2_restOf_1 8 rfl
theorem dX2_restOf_84 : decode cX2_restOf 84 = .ok (.invokevirtual 137, 3) := mm_dk kX2_restOf_1 9 rfl
theorem dX2_restOf_87 : decode cX2_restOf 87 = .ok (.istore_n 3, 1) := mm_dk kX2_restOf_1 10 rfl
theorem dX2_restOf_88 : decode cX2_restOf 88 = .ok (.iload 7, 2) := mm_dk kX2_restOf_1 11 rfl
theorem dX2_restOf_90 : decode cX2_restOf 90 = .ok (.istore_n 2, 1) := mm_dk kX2_restOf_1 12 rfl
theorem dX2_restOf_91 : decode cX2_restOf 91 = .ok (.iinc 4 1, 3) := mm_dk kX2_restOf_1 13 rfl
theorem dX2_restOf_94 : decode cX2_restOf 94 = .ok (.goto (-87), 3) := mm_dk kX2_restOf_1 14 rfl
theorem dX2_restOf_97 : decode cX2_restOf 97 = .ok (.iload_n 2, 1) := mm_dk kX2_restOf_1 15 rfl
theorem dX2_restOf_98 : decode cX2_restOf 98 = .ok (.ireturn, 1) := mm_dk kX2_restOf_1 16 rfl
set_option maxRecDepth 100000 in
theorem kX2_headed_0 : ([(0, .iload_n 1, 1), (1, .ifCond .eq 8, 3), (4, .bipush 28, 2), (6, .goto 4, 3), (9, .iconst 2, 1), (10, .istore_n 2, 1), (11, .aload_n 0, 1), (12, .getfield 230, 3), (15, .ifCond .eq 14, 3), (18, .aload_n 0, 1), (19, .getfield 106, 3), (22, .ifCond .eq 7, 3), (25, .iconst 2, 1), (26, .goto 4, 3), (29, .iconst 0, 1), (30, .istore_n 3, 1), (31, .bipush 6, 2), (33, .iload_n 2, 1), (34, .iadd, 1), (35, .iload_n 3, 1), (36, .iadd, 1), (37, .iconst 1, 1), (38, .iadd, 1), (39, .newarray .byte, 2), (41, .astore 4, 2), (43, .aload 4, 2), (45, .iconst 0, 1), (46, .iload_n 1, 1), (47, .ifCond .eq 7, 3), (50, .iconst 1, 1), (51, .goto 4, 3), (54, .iconst 2, 1), (55, .i2b, 1), (56, .bastore, 1), (57, .aload 4, 2), (59, .iconst 1, 1), (60, .aload_n 0, 1), (61, .getfield 28, 3), (64, .i2b, 1), (65, .bastore, 1)] : List (Nat × Instr × Nat)).all (fun x => decide (decode cX2_headed x.1 = .ok x.2)) = true := by decide +kernel
theorem dX2_headed_0 : decode cX2_headed 0 = .ok (.iload_n 1, 1) := mm_dk kX2_headed_0 0 rfl
theorem dX2_headed_1 : decode cX2_headed 1 = .ok (.ifCond .eq 8, 3) := mm_dk kX2_headed_0 1 rfl
theorem dX2_headed_4 : decode cX2_headed 4 = .ok (.bipush 28, 2) := mm_dk kX2_headed_0 2 rfl
theorem dX2_headed_6 : decode cX2_headed 6 = .ok (.goto 4, 3) := mm_dk kX2_headed_0 3 rfl
theorem dX2_headed_9 : decode cX2_headed 9 = .ok (.iconst 2, 1) := mm_dk kX2_headed_0 4 rfl
theorem dX2_headed_10 : decode cX2_headed 10 = .ok (.istore_n 2, 1) := mm_dk kX2_headed_0 5 rfl
theorem dX2_headed_11 : decode cX2_headed 11 = .ok (.aload_n 0, 1) := mm_dk kX2_headed_0 6 rfl
theorem dX2_headed_12 : decode cX2_headed 12 = .ok (.getfield 230, 3) := mm_dk kX2_headed_0 7 rfl
theorem dX2_headed_15 : decode cX2_headed 15 = .ok (.ifCond .eq 14, 3) := mm_dk kX2_headed_0 8 rfl
theorem dX2_headed_18 : decode cX2_headed 18 = .ok (.aload_n 0, 1) := mm_dk kX2_headed_0 9 rfl
theorem dX2_headed_19 : decode cX2_headed 19 = .ok (.getfield 106, 3) := mm_dk kX2_headed_0 10 rfl
theorem dX2_headed_22 : decode cX2_headed 22 = .ok (.ifCond .eq 7, 3) := mm_dk kX2_headed_0 11 rfl
theorem dX2_headed_25 : decode cX2_headed 25 = .ok (.iconst 2, 1) := mm_dk kX2_headed_0 12 rfl
theorem dX2_headed_26 : decode cX2_headed 26 = .ok (.goto 4, 3) := mm_dk kX2_headed_0 13 rfl
theorem dX2_headed_29 : decode cX2_headed 29 = .ok (.iconst 0, 1) := mm_dk kX2_headed_0 14 rfl
theorem dX2_headed_30 : decode cX2_headed 30 = .ok (.istore_n 3, 1) := mm_dk kX2_headed_0 15 rfl
theorem dX2_headed_31 : decode cX2_headed 31 = .ok (.bipush 6, 2) := mm_dk kX2_headed_0 16 rfl
theorem dX2_headed_33 : decode cX2_headed 33 = .ok (.iload_n 2, 1) := mm_dk kX2_headed_0 17 rfl
theorem dX2_headed_34 : decode cX2_headed 34 = .ok (.iadd, 1) := mm_dk kX2_headed_0 18 rfl
theorem dX2_headed_35 : decode cX2_headed 35 = .ok (.iload_n 3, 1) := mm_dk kX2_headed_0 19 rfl
theorem dX2_headed_36 : decode cX2_headed 36 = .ok (.iadd, 1) := mm_dk kX2_headed_0 20 rfl
theorem dX2_headed_37 : decode cX2_headed 37 = .ok (.iconst 1, 1) := mm_dk kX2_headed_0 21 rfl
theorem dX2_headed_38 : decode cX2_headed 38 = .ok (.iadd, 1) := mm_dk kX2_headed_0 22 rfl
theorem dX2_headed_39 : decode cX2_headed 39 = .ok (.newarray .byte, 2) := mm_dk kX2_headed_0 23 rfl
theorem dX2_headed_41 : decode cX2_headed 41 = .ok (.astore 4, 2) := mm_dk kX2_headed_0 24 rfl
theorem dX2_headed_43 : decode cX2_headed 43 = .ok (.aload 4, 2) := mm_dk kX2_headed_0 25 rfl
theorem dX2_headed_45 : decode cX2_headed 45 = .ok (.iconst 0, 1) := mm_dk kX2_headed_0 26 rfl
theorem dX2_headed_46 : decode cX2_headed 46 = .ok (.iload_n 1, 1) := mm_dk kX2_headed_0 27 rfl
theorem dX2_headed_47 : decode cX2_headed 47 = .ok (.ifCond .eq 7, 3) := mm_dk kX2_headed_0 28 rfl
theorem dX2_headed_50 : decode cX2_headed 50 = .ok (.iconst 1, 1) := mm_dk kX2_headed_0 29 rfl
theorem dX2_headed_51 : decode cX2_headed 51 = .ok (.goto 4, 3) := mm_dk kX2_headed_0 30 rfl
theorem dX2_headed_54 : decode cX2_headed 54 = .ok (.iconst 2, 1) := mm_dk kX2_headed_0 31 rfl
theorem dX2_headed_55 : decode cX2_headed 55 = .ok (.i2b, 1) := mm_dk kX2_headed_0 32 rfl
theorem dX2_headed_56 : decode cX2_headed 56 = .ok (.bastore, 1) := mm_dk kX2_headed_0 33 rfl
theorem dX2_headed_57 : decode cX2_headed 57 = .ok (.aload 4, 2) := mm_dk kX2_headed_0 34 rfl
theorem dX2_headed_59 : decode cX2_headed 59 = .ok (.iconst 1, 1) := mm_dk kX2_headed_0 35 rfl
theorem dX2_headed_60 : decode cX2_headed 60 = .ok (.aload_n 0, 1) := mm_dk kX2_headed_0 36 rfl
theorem dX2_headed_61 : decode cX2_headed 61 = .ok (.getfield 28, 3) := mm_dk kX2_headed_0 37 rfl
theorem dX2_headed_64 : decode cX2_headed 64 = .ok (.i2b, 1) := mm_dk kX2_headed_0 38 rfl
theorem dX2_headed_65 : decode cX2_headed 65 = .ok (.bastore, 1) := mm_dk kX2_headed_0 39 rfl
set_option maxRecDepth 100000 in
theorem kX2_headed_1 : ([(66, .aload 4, 2), (68, .iconst 2, 1), (69, .iload_n 2, 1), (70, .i2b, 1), (71, .bastore, 1), (72, .aload 4, 2), (74, .iconst 3, 1), (75, .aload_n 0, 1), (76, .getfield 87, 3), (79, .bipush 8, 2), (81, .ishr, 1), (82, .i2b, 1), (83, .bastore, 1), (84, .aload 4, 2), (86, .iconst 4, 1), (87, .aload_n 0, 1), (88, .getfield 87, 3), (91, .i2b, 1), (92, .bastore, 1), (93, .aload 4, 2), (95, .iconst 5, 1), (96, .iload_n 3, 1), (97, .i2b, 1), (98, .bastore, 1), (99, .aload 4, 2), (101, .areturn, 1)] : List (Nat × Instr × Nat)).all (fun x => decide (decode cX2_headed x.1 = .ok x.2)) = true := by decide +kernel
theorem dX2_headed_66 : decode cX2_headed 66 = .ok (.aload 4, 2) := mm_dk kX2_headed_1 0 rfl
theorem dX2_headed_68 : decode cX2_headed 68 = .ok (.iconst 2, 1) := mm_dk kX2_headed_1 1 rfl
theorem dX2_headed_69 : decode cX2_headed 69 = .ok (.iload_n 2, 1) := mm_dk kX2_headed_1 2 rfl
theorem dX2_headed_70 : decode cX2_headed 70 = .ok (.i2b, 1) := mm_dk kX2_headed_1 3 rfl
theorem dX2_headed_71 : decode cX2_headed 71 = .ok (.bastore, 1) := mm_dk kX2_headed_1 4 rfl
theorem dX2_headed_72 : decode cX2_headed 72 = .ok (.aload 4, 2) := mm_dk kX2_headed_1 5 rfl
theorem dX2_headed_74 : decode cX2_headed 74 = .ok (.iconst 3, 1) := mm_dk kX2_headed_1 6 rfl
theorem dX2_headed_75 : decode cX2_headed 75 = .ok (.aload_n 0, 1) := mm_dk kX2_headed_1 7 rfl
theorem dX2_headed_76 : decode cX2_headed 76 = .ok (.getfield 87, 3) := mm_dk kX2_headed_1 8 rfl
theorem dX2_headed_79 : decode cX2_headed 79 = .ok (.bipush 8, 2) := mm_dk kX2_headed_1 9 rfl
theorem dX2_headed_81 : decode cX2_headed 81 = .ok (.ishr, 1) := mm_dk kX2_headed_1 10 rfl
theorem dX2_headed_82 : decode cX2_headed 82 = .ok (.i2b, 1) := mm_dk kX2_headed_1 11 rfl
theorem dX2_headed_83 : decode cX2_headed 83 = .ok (.bastore, 1) := mm_dk kX2_headed_1 12 rfl
theorem dX2_headed_84 : decode cX2_headed 84 = .ok (.aload 4, 2) := mm_dk kX2_headed_1 13 rfl
theorem dX2_headed_86 : decode cX2_headed 86 = .ok (.iconst 4, 1) := mm_dk kX2_headed_1 14 rfl
theorem dX2_headed_87 : decode cX2_headed 87 = .ok (.aload_n 0, 1) := mm_dk kX2_headed_1 15 rfl
theorem dX2_headed_88 : decode cX2_headed 88 = .ok (.getfield 87, 3) := mm_dk kX2_headed_1 16 rfl
theorem dX2_headed_91 : decode cX2_headed 91 = .ok (.i2b, 1) := mm_dk kX2_headed_1 17 rfl
theorem dX2_headed_92 : decode cX2_headed 92 = .ok (.bastore, 1) := mm_dk kX2_headed_1 18 rfl
theorem dX2_headed_93 : decode cX2_headed 93 = .ok (.aload 4, 2) := mm_dk kX2_headed_1 19 rfl
theorem dX2_headed_95 : decode cX2_headed 95 = .ok (.iconst 5, 1) := mm_dk kX2_headed_1 20 rfl
theorem dX2_headed_96 : decode cX2_headed 96 = .ok (.iload_n 3, 1) := mm_dk kX2_headed_1 21 rfl
theorem dX2_headed_97 : decode cX2_headed 97 = .ok (.i2b, 1) := mm_dk kX2_headed_1 22 rfl
theorem dX2_headed_98 : decode cX2_headed 98 = .ok (.bastore, 1) := mm_dk kX2_headed_1 23 rfl
theorem dX2_headed_99 : decode cX2_headed 99 = .ok (.aload 4, 2) := mm_dk kX2_headed_1 24 rfl
theorem dX2_headed_101 : decode cX2_headed 101 = .ok (.areturn, 1) := mm_dk kX2_headed_1 25 rfl
set_option maxRecDepth 100000 in
theorem kX2_writeBody_0 : ([(0, .iload_n 2, 1), (1, .ifCond .ne 19, 3), (4, .aload_n 1, 1), (5, .bipush 6, 2), (7, .iload_n 3, 1), (8, .bipush 8, 2), (10, .ishr, 1), (11, .i2b, 1), (12, .bastore, 1), (13, .aload_n 1, 1), (14, .bipush 7, 2), (16, .iload_n 3, 1), (17, .i2b, 1), (18, .bastore, 1), (19, .return_, 1), (20, .iconst 0, 1), (21, .istore 4, 2), (23, .iload 4, 2), (25, .bipush 8, 2), (27, .if_icmp .ge 30, 3), (30, .aload_n 1, 1), (31, .bipush 6, 2), (33, .iload 4, 2), (35, .iadd, 1), (36, .aload_n 0, 1), (37, .getfield 49, 3), (40, .getfield 150, 3), (43, .iload 4, 2), (45, .iaload, 1), (46, .bipush 32, 2), (48, .iadd, 1), (49, .i2b, 1), (50, .bastore, 1), (51, .iinc 4 1, 3), (54, .goto (-31), 3), (57, .iconst 0, 1), (58, .istore 4, 2), (60, .iload 4, 2), (62, .iconst 4, 1), (63, .if_icmp .ge 27, 3)] : List (Nat × Instr × Nat)).all (fun x => decide (decode cX2_writeBody x.1 = .ok x.2)) = true := by decide +kernel
theorem dX2_writeBody_0 : decode cX2_writeBody 0 = .ok (.iload_n 2, 1) := mm_dk kX2_writeBody_0 0 rfl
theorem dX2_writeBody_1 : decode cX2_writeBody 1 = .ok (.ifCond .ne 19, 3) := mm_dk kX2_writeBody_0 1 rfl
theorem dX2_writeBody_4 : decode cX2_writeBody 4 = .ok (.aload_n 1, 1) := mm_dk kX2_writeBody_0 2 rfl
theorem dX2_writeBody_5 : decode cX2_writeBody 5 = .ok (.bipush 6, 2) := mm_dk kX2_writeBody_0 3 rfl
theorem dX2_writeBody_7 : decode cX2_writeBody 7 = .ok (.iload_n 3, 1) := mm_dk kX2_writeBody_0 4 rfl
theorem dX2_writeBody_8 : decode cX2_writeBody 8 = .ok (.bipush 8, 2) := mm_dk kX2_writeBody_0 5 rfl
theorem dX2_writeBody_10 : decode cX2_writeBody 10 = .ok (.ishr, 1) := mm_dk kX2_writeBody_0 6 rfl
theorem dX2_writeBody_11 : decode cX2_writeBody 11 = .ok (.i2b, 1) := mm_dk kX2_writeBody_0 7 rfl
theorem dX2_writeBody_12 : decode cX2_writeBody 12 = .ok (.bastore, 1) := mm_dk kX2_writeBody_0 8 rfl
theorem dX2_writeBody_13 : decode cX2_writeBody 13 = .ok (.aload_n 1, 1) := mm_dk kX2_writeBody_0 9 rfl
theorem dX2_writeBody_14 : decode cX2_writeBody 14 = .ok (.bipush 7, 2) := mm_dk kX2_writeBody_0 10 rfl
theorem dX2_writeBody_16 : decode cX2_writeBody 16 = .ok (.iload_n 3, 1) := mm_dk kX2_writeBody_0 11 rfl
theorem dX2_writeBody_17 : decode cX2_writeBody 17 = .ok (.i2b, 1) := mm_dk kX2_writeBody_0 12 rfl
theorem dX2_writeBody_18 : decode cX2_writeBody 18 = .ok (.bastore, 1) := mm_dk kX2_writeBody_0 13 rfl
theorem dX2_writeBody_19 : decode cX2_writeBody 19 = .ok (.return_, 1) := mm_dk kX2_writeBody_0 14 rfl
theorem dX2_writeBody_20 : decode cX2_writeBody 20 = .ok (.iconst 0, 1) := mm_dk kX2_writeBody_0 15 rfl
theorem dX2_writeBody_21 : decode cX2_writeBody 21 = .ok (.istore 4, 2) := mm_dk kX2_writeBody_0 16 rfl
theorem dX2_writeBody_23 : decode cX2_writeBody 23 = .ok (.iload 4, 2) := mm_dk kX2_writeBody_0 17 rfl
theorem dX2_writeBody_25 : decode cX2_writeBody 25 = .ok (.bipush 8, 2) := mm_dk kX2_writeBody_0 18 rfl
theorem dX2_writeBody_27 : decode cX2_writeBody 27 = .ok (.if_icmp .ge 30, 3) := mm_dk kX2_writeBody_0 19 rfl
theorem dX2_writeBody_30 : decode cX2_writeBody 30 = .ok (.aload_n 1, 1) := mm_dk kX2_writeBody_0 20 rfl
theorem dX2_writeBody_31 : decode cX2_writeBody 31 = .ok (.bipush 6, 2) := mm_dk kX2_writeBody_0 21 rfl
theorem dX2_writeBody_33 : decode cX2_writeBody 33 = .ok (.iload 4, 2) := mm_dk kX2_writeBody_0 22 rfl
theorem dX2_writeBody_35 : decode cX2_writeBody 35 = .ok (.iadd, 1) := mm_dk kX2_writeBody_0 23 rfl
theorem dX2_writeBody_36 : decode cX2_writeBody 36 = .ok (.aload_n 0, 1) := mm_dk kX2_writeBody_0 24 rfl
theorem dX2_writeBody_37 : decode cX2_writeBody 37 = .ok (.getfield 49, 3) := mm_dk kX2_writeBody_0 25 rfl
theorem dX2_writeBody_40 : decode cX2_writeBody 40 = .ok (.getfield 150, 3) := mm_dk kX2_writeBody_0 26 rfl
theorem dX2_writeBody_43 : decode cX2_writeBody 43 = .ok (.iload 4, 2) := mm_dk kX2_writeBody_0 27 rfl
theorem dX2_writeBody_45 : decode cX2_writeBody 45 = .ok (.iaload, 1) := mm_dk kX2_writeBody_0 28 rfl
theorem dX2_writeBody_46 : decode cX2_writeBody 46 = .ok (.bipush 32, 2) := mm_dk kX2_writeBody_0 29 rfl
theorem dX2_writeBody_48 : decode cX2_writeBody 48 = .ok (.iadd, 1) := mm_dk kX2_writeBody_0 30 rfl
theorem dX2_writeBody_49 : decode cX2_writeBody 49 = .ok (.i2b, 1) := mm_dk kX2_writeBody_0 31 rfl
theorem dX2_writeBody_50 : decode cX2_writeBody 50 = .ok (.bastore, 1) := mm_dk kX2_writeBody_0 32 rfl
theorem dX2_writeBody_51 : decode cX2_writeBody 51 = .ok (.iinc 4 1, 3) := mm_dk kX2_writeBody_0 33 rfl
theorem dX2_writeBody_54 : decode cX2_writeBody 54 = .ok (.goto (-31), 3) := mm_dk kX2_writeBody_0 34 rfl
theorem dX2_writeBody_57 : decode cX2_writeBody 57 = .ok (.iconst 0, 1) := mm_dk kX2_writeBody_0 35 rfl
theorem dX2_writeBody_58 : decode cX2_writeBody 58 = .ok (.istore 4, 2) := mm_dk kX2_writeBody_0 36 rfl
theorem dX2_writeBody_60 : decode cX2_writeBody 60 = .ok (.iload 4, 2) := mm_dk kX2_writeBody_0 37 rfl
theorem dX2_writeBody_62 : decode cX2_writeBody 62 = .ok (.iconst 4, 1) := mm_dk kX2_writeBody_0 38 rfl
theorem dX2_writeBody_63 : decode cX2_writeBody 63 = .ok (.if_icmp .ge 27, 3) := mm_dk kX2_writeBody_0 39 rfl
set_option maxRecDepth 100000 in
theorem kX2_writeBody_1 : ([(66, .aload_n 0, 1), (67, .getfield 18, 3), (70, .iload 4, 2), (72, .aaload, 1), (73, .aload_n 1, 1), (74, .bipush 14, 2), (76, .iconst 5, 1), (77, .iload 4, 2), (79, .imul, 1), (80, .iadd, 1), (81, .invokevirtual 233, 3), (84, .iinc 4 1, 3), (87, .goto (-27), 3), (90, .return_, 1)] : List (Nat × Instr × Nat)).all (fun x => decide (decode cX2_writeBody x.1 = .ok x.2)) = true := by decide +kernel
theorem dX2_writeBody_66 : decode cX2_writeBody 66 = .ok (.aload_n 0, 1) := mm_dk kX2_writeBody_1 0 rfl
theorem dX2_writeBody_67 : decode cX2_writeBody 67 = .ok (.getfield 18, 3) := mm_dk kX2_writeBody_1 1 rfl
theorem dX2_writeBody_70 : decode cX2_writeBody 70 = .ok (.iload 4, 2) := mm_dk kX2_writeBody_1 2 rfl
theorem dX2_writeBody_72 : decode cX2_writeBody 72 = .ok (.aaload, 1) := mm_dk kX2_writeBody_1 3 rfl
theorem dX2_writeBody_73 : decode cX2_writeBody 73 = .ok (.aload_n 1, 1) := mm_dk kX2_writeBody_1 4 rfl
theorem dX2_writeBody_74 : decode cX2_writeBody 74 = .ok (.bipush 14, 2) := mm_dk kX2_writeBody_1 5 rfl
theorem dX2_writeBody_76 : decode cX2_writeBody 76 = .ok (.iconst 5, 1) := mm_dk kX2_writeBody_1 6 rfl
theorem dX2_writeBody_77 : decode cX2_writeBody 77 = .ok (.iload 4, 2) := mm_dk kX2_writeBody_1 7 rfl
theorem dX2_writeBody_79 : decode cX2_writeBody 79 = .ok (.imul, 1) := mm_dk kX2_writeBody_1 8 rfl
theorem dX2_writeBody_80 : decode cX2_writeBody 80 = .ok (.iadd, 1) := mm_dk kX2_writeBody_1 9 rfl
theorem dX2_writeBody_81 : decode cX2_writeBody 81 = .ok (.invokevirtual 233, 3) := mm_dk kX2_writeBody_1 10 rfl
theorem dX2_writeBody_84 : decode cX2_writeBody 84 = .ok (.iinc 4 1, 3) := mm_dk kX2_writeBody_1 11 rfl
theorem dX2_writeBody_87 : decode cX2_writeBody 87 = .ok (.goto (-27), 3) := mm_dk kX2_writeBody_1 12 rfl
theorem dX2_writeBody_90 : decode cX2_writeBody 90 = .ok (.return_, 1) := mm_dk kX2_writeBody_1 13 rfl
set_option maxRecDepth 100000 in
theorem kX2_wholeCost_0 : ([(0, .aload_n 0, 1), (1, .getfield 110, 3), (4, .invokestatic 237, 3), (7, .istore_n 3, 1), (8, .aload_n 0, 1), (9, .getfield 40, 3), (12, .getfield 240, 3), (15, .astore 4, 2), (17, .aload_n 0, 1), (18, .getfield 40, 3), (21, .aload_n 0, 1), (22, .getfield 22, 3), (25, .aload_n 0, 1), (26, .getfield 25, 3), (29, .iload_n 1, 1), (30, .iload_n 3, 1), (31, .imul, 1), (32, .iload_n 3, 1), (33, .invokevirtual 177, 3), (36, .iload_n 2, 1), (37, .ifCond .ne 16, 3), (40, .aload_n 0, 1), (41, .getfield 40, 3), (44, .iconst 1, 1), (45, .aload 4, 2), (47, .invokevirtual 186, 3), (50, .goto 41, 3), (53, .aload 4, 2), (55, .aload_n 0, 1), (56, .getfield 18, 3), (59, .iload_n 1, 1), (60, .aaload, 1), (61, .getfield 65, 3), (64, .putfield 65, 3), (67, .aload 4, 2), (69, .aload_n 0, 1), (70, .getfield 18, 3), (73, .iload_n 1, 1), (74, .aaload, 1), (75, .getfield 68, 3)] : List (Nat × Instr × Nat)).all (fun x => decide (decode cX2_wholeCost x.1 = .ok x.2)) = true := by decide +kernel
theorem dX2_wholeCost_0 : decode cX2_wholeCost 0 = .ok (.aload_n 0, 1) := mm_dk kX2_wholeCost_0 0 rfl
theorem dX2_wholeCost_1 : decode cX2_wholeCost 1 = .ok (.getfield 110, 3) := mm_dk kX2_wholeCost_0 1 rfl
theorem dX2_wholeCost_4 : decode cX2_wholeCost 4 = .ok (.invokestatic 237, 3) := mm_dk kX2_wholeCost_0 2 rfl
theorem dX2_wholeCost_7 : decode cX2_wholeCost 7 = .ok (.istore_n 3, 1) := mm_dk kX2_wholeCost_0 3 rfl
theorem dX2_wholeCost_8 : decode cX2_wholeCost 8 = .ok (.aload_n 0, 1) := mm_dk kX2_wholeCost_0 4 rfl
theorem dX2_wholeCost_9 : decode cX2_wholeCost 9 = .ok (.getfield 40, 3) := mm_dk kX2_wholeCost_0 5 rfl
theorem dX2_wholeCost_12 : decode cX2_wholeCost 12 = .ok (.getfield 240, 3) := mm_dk kX2_wholeCost_0 6 rfl
theorem dX2_wholeCost_15 : decode cX2_wholeCost 15 = .ok (.astore 4, 2) := mm_dk kX2_wholeCost_0 7 rfl
theorem dX2_wholeCost_17 : decode cX2_wholeCost 17 = .ok (.aload_n 0, 1) := mm_dk kX2_wholeCost_0 8 rfl
theorem dX2_wholeCost_18 : decode cX2_wholeCost 18 = .ok (.getfield 40, 3) := mm_dk kX2_wholeCost_0 9 rfl
theorem dX2_wholeCost_21 : decode cX2_wholeCost 21 = .ok (.aload_n 0, 1) := mm_dk kX2_wholeCost_0 10 rfl
theorem dX2_wholeCost_22 : decode cX2_wholeCost 22 = .ok (.getfield 22, 3) := mm_dk kX2_wholeCost_0 11 rfl
theorem dX2_wholeCost_25 : decode cX2_wholeCost 25 = .ok (.aload_n 0, 1) := mm_dk kX2_wholeCost_0 12 rfl
theorem dX2_wholeCost_26 : decode cX2_wholeCost 26 = .ok (.getfield 25, 3) := mm_dk kX2_wholeCost_0 13 rfl
theorem dX2_wholeCost_29 : decode cX2_wholeCost 29 = .ok (.iload_n 1, 1) := mm_dk kX2_wholeCost_0 14 rfl
theorem dX2_wholeCost_30 : decode cX2_wholeCost 30 = .ok (.iload_n 3, 1) := mm_dk kX2_wholeCost_0 15 rfl
theorem dX2_wholeCost_31 : decode cX2_wholeCost 31 = .ok (.imul, 1) := mm_dk kX2_wholeCost_0 16 rfl
theorem dX2_wholeCost_32 : decode cX2_wholeCost 32 = .ok (.iload_n 3, 1) := mm_dk kX2_wholeCost_0 17 rfl
theorem dX2_wholeCost_33 : decode cX2_wholeCost 33 = .ok (.invokevirtual 177, 3) := mm_dk kX2_wholeCost_0 18 rfl
theorem dX2_wholeCost_36 : decode cX2_wholeCost 36 = .ok (.iload_n 2, 1) := mm_dk kX2_wholeCost_0 19 rfl
theorem dX2_wholeCost_37 : decode cX2_wholeCost 37 = .ok (.ifCond .ne 16, 3) := mm_dk kX2_wholeCost_0 20 rfl
theorem dX2_wholeCost_40 : decode cX2_wholeCost 40 = .ok (.aload_n 0, 1) := mm_dk kX2_wholeCost_0 21 rfl
theorem dX2_wholeCost_41 : decode cX2_wholeCost 41 = .ok (.getfield 40, 3) := mm_dk kX2_wholeCost_0 22 rfl
theorem dX2_wholeCost_44 : decode cX2_wholeCost 44 = .ok (.iconst 1, 1) := mm_dk kX2_wholeCost_0 23 rfl
theorem dX2_wholeCost_45 : decode cX2_wholeCost 45 = .ok (.aload 4, 2) := mm_dk kX2_wholeCost_0 24 rfl
theorem dX2_wholeCost_47 : decode cX2_wholeCost 47 = .ok (.invokevirtual 186, 3) := mm_dk kX2_wholeCost_0 25 rfl
theorem dX2_wholeCost_50 : decode cX2_wholeCost 50 = .ok (.goto 41, 3) := mm_dk kX2_wholeCost_0 26 rfl
theorem dX2_wholeCost_53 : decode cX2_wholeCost 53 = .ok (.aload 4, 2) := mm_dk kX2_wholeCost_0 27 rfl
theorem dX2_wholeCost_55 : decode cX2_wholeCost 55 = .ok (.aload_n 0, 1) := mm_dk kX2_wholeCost_0 28 rfl
theorem dX2_wholeCost_56 : decode cX2_wholeCost 56 = .ok (.getfield 18, 3) := mm_dk kX2_wholeCost_0 29 rfl
theorem dX2_wholeCost_59 : decode cX2_wholeCost 59 = .ok (.iload_n 1, 1) := mm_dk kX2_wholeCost_0 30 rfl
theorem dX2_wholeCost_60 : decode cX2_wholeCost 60 = .ok (.aaload, 1) := mm_dk kX2_wholeCost_0 31 rfl
theorem dX2_wholeCost_61 : decode cX2_wholeCost 61 = .ok (.getfield 65, 3) := mm_dk kX2_wholeCost_0 32 rfl
theorem dX2_wholeCost_64 : decode cX2_wholeCost 64 = .ok (.putfield 65, 3) := mm_dk kX2_wholeCost_0 33 rfl
theorem dX2_wholeCost_67 : decode cX2_wholeCost 67 = .ok (.aload 4, 2) := mm_dk kX2_wholeCost_0 34 rfl
theorem dX2_wholeCost_69 : decode cX2_wholeCost 69 = .ok (.aload_n 0, 1) := mm_dk kX2_wholeCost_0 35 rfl
theorem dX2_wholeCost_70 : decode cX2_wholeCost 70 = .ok (.getfield 18, 3) := mm_dk kX2_wholeCost_0 36 rfl
theorem dX2_wholeCost_73 : decode cX2_wholeCost 73 = .ok (.iload_n 1, 1) := mm_dk kX2_wholeCost_0 37 rfl
theorem dX2_wholeCost_74 : decode cX2_wholeCost 74 = .ok (.aaload, 1) := mm_dk kX2_wholeCost_0 38 rfl
theorem dX2_wholeCost_75 : decode cX2_wholeCost 75 = .ok (.getfield 68, 3) := mm_dk kX2_wholeCost_0 39 rfl
set_option maxRecDepth 100000 in
theorem kX2_wholeCost_1 : ([(78, .putfield 68, 3), (81, .aload_n 0, 1), (82, .getfield 40, 3), (85, .iconst 1, 1), (86, .aload 4, 2), (88, .invokevirtual 193, 3), (91, .aload_n 0, 1), (92, .getfield 36, 3), (95, .invokevirtual 117, 3), (98, .aload 4, 2), (100, .iload_n 2, 1), (101, .invokevirtual 244, 3), (104, .lreturn, 1)] : List (Nat × Instr × Nat)).all (fun x => decide (decode cX2_wholeCost x.1 = .ok x.2)) = true := by decide +kernel
theorem dX2_wholeCost_78 : decode cX2_wholeCost 78 = .ok (.putfield 68, 3) := mm_dk kX2_wholeCost_1 0 rfl
theorem dX2_wholeCost_81 : decode cX2_wholeCost 81 = .ok (.aload_n 0, 1) := mm_dk kX2_wholeCost_1 1 rfl
theorem dX2_wholeCost_82 : decode cX2_wholeCost 82 = .ok (.getfield 40, 3) := mm_dk kX2_wholeCost_1 2 rfl
theorem dX2_wholeCost_85 : decode cX2_wholeCost 85 = .ok (.iconst 1, 1) := mm_dk kX2_wholeCost_1 3 rfl
theorem dX2_wholeCost_86 : decode cX2_wholeCost 86 = .ok (.aload 4, 2) := mm_dk kX2_wholeCost_1 4 rfl
theorem dX2_wholeCost_88 : decode cX2_wholeCost 88 = .ok (.invokevirtual 193, 3) := mm_dk kX2_wholeCost_1 5 rfl
theorem dX2_wholeCost_91 : decode cX2_wholeCost 91 = .ok (.aload_n 0, 1) := mm_dk kX2_wholeCost_1 6 rfl
theorem dX2_wholeCost_92 : decode cX2_wholeCost 92 = .ok (.getfield 36, 3) := mm_dk kX2_wholeCost_1 7 rfl
theorem dX2_wholeCost_95 : decode cX2_wholeCost 95 = .ok (.invokevirtual 117, 3) := mm_dk kX2_wholeCost_1 8 rfl
theorem dX2_wholeCost_98 : decode cX2_wholeCost 98 = .ok (.aload 4, 2) := mm_dk kX2_wholeCost_1 9 rfl
theorem dX2_wholeCost_100 : decode cX2_wholeCost 100 = .ok (.iload_n 2, 1) := mm_dk kX2_wholeCost_1 10 rfl
theorem dX2_wholeCost_101 : decode cX2_wholeCost 101 = .ok (.invokevirtual 244, 3) := mm_dk kX2_wholeCost_1 11 rfl
theorem dX2_wholeCost_104 : decode cX2_wholeCost 104 = .ok (.lreturn, 1) := mm_dk kX2_wholeCost_1 12 rfl
set_option maxRecDepth 100000 in
theorem kX3_init_0 : ([(0, .aload_n 0, 1), (1, .invokespecial 3, 3), (4, .aload_n 0, 1), (5, .lconst 1, 1), (6, .putfield 9, 3), (9, .aload_n 0, 1), (10, .iload_n 1, 1), (11, .putfield 15, 3), (14, .aload_n 0, 1), (15, .iload_n 1, 1), (16, .iconst 3, 1), (17, .if_icmp .ne 9, 3), (20, .sipush 160, 3), (23, .goto 4, 3), (26, .iconst 0, 1), (27, .newarray .int, 2), (29, .putfield 19, 3), (32, .return_, 1)] : List (Nat × Instr × Nat)).all (fun x => decide (decode cX3_init x.1 = .ok x.2)) = true := by decide +kernel
theorem dX3_init_0 : decode cX3_init 0 = .ok (.aload_n 0, 1) := mm_dk kX3_init_0 0 rfl
theorem dX3_init_1 : decode cX3_init 1 = .ok (.invokespecial 3, 3) := mm_dk kX3_init_0 1 rfl
theorem dX3_init_4 : decode cX3_init 4 = .ok (.aload_n 0, 1) := mm_dk kX3_init_0 2 rfl
theorem dX3_init_5 : decode cX3_init 5 = .ok (.lconst 1, 1) := mm_dk kX3_init_0 3 rfl
theorem dX3_init_6 : decode cX3_init 6 = .ok (.putfield 9, 3) := mm_dk kX3_init_0 4 rfl
theorem dX3_init_9 : decode cX3_init 9 = .ok (.aload_n 0, 1) := mm_dk kX3_init_0 5 rfl
theorem dX3_init_10 : decode cX3_init 10 = .ok (.iload_n 1, 1) := mm_dk kX3_init_0 6 rfl
theorem dX3_init_11 : decode cX3_init 11 = .ok (.putfield 15, 3) := mm_dk kX3_init_0 7 rfl
theorem dX3_init_14 : decode cX3_init 14 = .ok (.aload_n 0, 1) := mm_dk kX3_init_0 8 rfl
theorem dX3_init_15 : decode cX3_init 15 = .ok (.iload_n 1, 1) := mm_dk kX3_init_0 9 rfl
theorem dX3_init_16 : decode cX3_init 16 = .ok (.iconst 3, 1) := mm_dk kX3_init_0 10 rfl
theorem dX3_init_17 : decode cX3_init 17 = .ok (.if_icmp .ne 9, 3) := mm_dk kX3_init_0 11 rfl
theorem dX3_init_20 : decode cX3_init 20 = .ok (.sipush 160, 3) := mm_dk kX3_init_0 12 rfl
theorem dX3_init_23 : decode cX3_init 23 = .ok (.goto 4, 3) := mm_dk kX3_init_0 13 rfl
theorem dX3_init_26 : decode cX3_init 26 = .ok (.iconst 0, 1) := mm_dk kX3_init_0 14 rfl
theorem dX3_init_27 : decode cX3_init 27 = .ok (.newarray .int, 2) := mm_dk kX3_init_0 15 rfl
theorem dX3_init_29 : decode cX3_init 29 = .ok (.putfield 19, 3) := mm_dk kX3_init_0 16 rfl
theorem dX3_init_32 : decode cX3_init 32 = .ok (.return_, 1) := mm_dk kX3_init_0 17 rfl
set_option maxRecDepth 100000 in
theorem kX3_pass_0 : ([(0, .aload_n 0, 1), (1, .getfield 15, 3), (4, .ifCond .eq 15, 3), (7, .aload 5, 2), (9, .bipush 50, 2), (11, .aload_n 0, 1), (12, .getfield 15, 3), (15, .iadd, 1), (16, .invokevirtual 23, 3), (19, .aload_n 0, 1), (20, .getfield 15, 3), (23, .tableswitch 93 1 4 #[29, 43, 54, 82], 29), (52, .aload_n 0, 1), (53, .aload_n 1, 1), (54, .iload_n 2, 1), (55, .iload_n 3, 1), (56, .iconst 4, 1), (57, .ishr, 1), (58, .aload 5, 2), (60, .invokevirtual 29, 3), (63, .goto 53, 3), (66, .aload_n 0, 1), (67, .aload_n 1, 1), (68, .iload_n 2, 1), (69, .aload 5, 2), (71, .invokevirtual 33, 3), (74, .goto 42, 3), (77, .aload 5, 2), (79, .bipush 52, 2), (81, .invokevirtual 23, 3), (84, .aload_n 0, 1), (85, .aload_n 1, 1), (86, .iload_n 2, 1), (87, .aload 5, 2), (89, .invokevirtual 33, 3), (92, .aload_n 0, 1), (93, .aload_n 1, 1), (94, .iload_n 2, 1), (95, .iload 4, 2), (97, .aload 5, 2)] : List (Nat × Instr × Nat)).all (fun x => decide (decode cX3_pass x.1 = .ok x.2)) = true := by decide +kernel
theorem dX3_pass_0 : decode cX3_pass 0 = .ok (.aload_n 0, 1) := mm_dk kX3_pass_0 0 rfl
theorem dX3_pass_1 : decode cX3_pass 1 = .ok (.getfield 15, 3) := mm_dk kX3_pass_0 1 rfl
theorem dX3_pass_4 : decode cX3_pass 4 = .ok (.ifCond .eq 15, 3) := mm_dk kX3_pass_0 2 rfl
theorem dX3_pass_7 : decode cX3_pass 7 = .ok (.aload 5, 2) := mm_dk kX3_pass_0 3 rfl
theorem dX3_pass_9 : decode cX3_pass 9 = .ok (.bipush 50, 2) := mm_dk kX3_pass_0 4 rfl
theorem dX3_pass_11 : decode cX3_pass 11 = .ok (.aload_n 0, 1) := mm_dk kX3_pass_0 5 rfl
theorem dX3_pass_12 : decode cX3_pass 12 = .ok (.getfield 15, 3) := mm_dk kX3_pass_0 6 rfl
theorem dX3_pass_15 : decode cX3_pass 15 = .ok (.iadd, 1) := mm_dk kX3_pass_0 7 rfl
theorem dX3_pass_16 : decode cX3_pass 16 = .ok (.invokevirtual 23, 3) := mm_dk kX3_pass_0 8 rfl
theorem dX3_pass_19 : decode cX3_pass 19 = .ok (.aload_n 0, 1) := mm_dk kX3_pass_0 9 rfl
theorem dX3_pass_20 : decode cX3_pass 20 = .ok (.getfield 15, 3) := mm_dk kX3_pass_0 10 rfl
theorem dX3_pass_23 : decode cX3_pass 23 = .ok (.tableswitch 93 1 4 #[29, 43, 54, 82], 29) := mm_dk kX3_pass_0 11 rfl
theorem dX3_pass_52 : decode cX3_pass 52 = .ok (.aload_n 0, 1) := mm_dk kX3_pass_0 12 rfl
theorem dX3_pass_53 : decode cX3_pass 53 = .ok (.aload_n 1, 1) := mm_dk kX3_pass_0 13 rfl
theorem dX3_pass_54 : decode cX3_pass 54 = .ok (.iload_n 2, 1) := mm_dk kX3_pass_0 14 rfl
theorem dX3_pass_55 : decode cX3_pass 55 = .ok (.iload_n 3, 1) := mm_dk kX3_pass_0 15 rfl
theorem dX3_pass_56 : decode cX3_pass 56 = .ok (.iconst 4, 1) := mm_dk kX3_pass_0 16 rfl
theorem dX3_pass_57 : decode cX3_pass 57 = .ok (.ishr, 1) := mm_dk kX3_pass_0 17 rfl
theorem dX3_pass_58 : decode cX3_pass 58 = .ok (.aload 5, 2) := mm_dk kX3_pass_0 18 rfl
theorem dX3_pass_60 : decode cX3_pass 60 = .ok (.invokevirtual 29, 3) := mm_dk kX3_pass_0 19 rfl
theorem dX3_pass_63 : decode cX3_pass 63 = .ok (.goto 53, 3) := mm_dk kX3_pass_0 20 rfl
theorem dX3_pass_66 : decode cX3_pass 66 = .ok (.aload_n 0, 1) := mm_dk kX3_pass_0 21 rfl
theorem dX3_pass_67 : decode cX3_pass 67 = .ok (.aload_n 1, 1) := mm_dk kX3_pass_0 22 rfl
theorem dX3_pass_68 : decode cX3_pass 68 = .ok (.iload_n 2, 1) := mm_dk kX3_pass_0 23 rfl
theorem dX3_pass_69 : decode cX3_pass 69 = .ok (.aload 5, 2) := mm_dk kX3_pass_0 24 rfl
theorem dX3_pass_71 : decode cX3_pass 71 = .ok (.invokevirtual 33, 3) := mm_dk kX3_pass_0 25 rfl
theorem dX3_pass_74 : decode cX3_pass 74 = .ok (.goto 42, 3) := mm_dk kX3_pass_0 26 rfl
theorem dX3_pass_77 : decode cX3_pass 77 = .ok (.aload 5, 2) := mm_dk kX3_pass_0 27 rfl
theorem dX3_pass_79 : decode cX3_pass 79 = .ok (.bipush 52, 2) := mm_dk kX3_pass_0 28 rfl
theorem dX3_pass_81 : decode cX3_pass 81 = .ok (.invokevirtual 23, 3) := mm_dk kX3_pass_0 29 rfl
theorem dX3_pass_84 : decode cX3_pass 84 = .ok (.aload_n 0, 1) := mm_dk kX3_pass_0 30 rfl
theorem dX3_pass_85 : decode cX3_pass 85 = .ok (.aload_n 1, 1) := mm_dk kX3_pass_0 31 rfl
theorem dX3_pass_86 : decode cX3_pass 86 = .ok (.iload_n 2, 1) := mm_dk kX3_pass_0 32 rfl
theorem dX3_pass_87 : decode cX3_pass 87 = .ok (.aload 5, 2) := mm_dk kX3_pass_0 33 rfl
theorem dX3_pass_89 : decode cX3_pass 89 = .ok (.invokevirtual 33, 3) := mm_dk kX3_pass_0 34 rfl
theorem dX3_pass_92 : decode cX3_pass 92 = .ok (.aload_n 0, 1) := mm_dk kX3_pass_0 35 rfl
theorem dX3_pass_93 : decode cX3_pass 93 = .ok (.aload_n 1, 1) := mm_dk kX3_pass_0 36 rfl
theorem dX3_pass_94 : decode cX3_pass 94 = .ok (.iload_n 2, 1) := mm_dk kX3_pass_0 37 rfl
theorem dX3_pass_95 : decode cX3_pass 95 = .ok (.iload 4, 2) := mm_dk kX3_pass_0 38 rfl
theorem dX3_pass_97 : decode cX3_pass 97 = .ok (.aload 5, 2) := mm_dk kX3_pass_0 39 rfl
set_option maxRecDepth 100000 in
theorem kX3_pass_1 : ([(99, .invokevirtual 37, 3), (102, .goto 14, 3), (105, .aload_n 0, 1), (106, .aload_n 1, 1), (107, .iload_n 2, 1), (108, .aload 5, 2), (110, .invokevirtual 40, 3), (113, .goto 3, 3), (116, .return_, 1)] : List (Nat × Instr × Nat)).all (fun x => decide (decode cX3_pass x.1 = .ok x.2)) = true := by decide +kernel
theorem dX3_pass_99 : decode cX3_pass 99 = .ok (.invokevirtual 37, 3) := mm_dk kX3_pass_1 0 rfl
theorem dX3_pass_102 : decode cX3_pass 102 = .ok (.goto 14, 3) := mm_dk kX3_pass_1 1 rfl
theorem dX3_pass_105 : decode cX3_pass 105 = .ok (.aload_n 0, 1) := mm_dk kX3_pass_1 2 rfl
theorem dX3_pass_106 : decode cX3_pass 106 = .ok (.aload_n 1, 1) := mm_dk kX3_pass_1 3 rfl
theorem dX3_pass_107 : decode cX3_pass 107 = .ok (.iload_n 2, 1) := mm_dk kX3_pass_1 4 rfl
theorem dX3_pass_108 : decode cX3_pass 108 = .ok (.aload 5, 2) := mm_dk kX3_pass_1 5 rfl
theorem dX3_pass_110 : decode cX3_pass 110 = .ok (.invokevirtual 40, 3) := mm_dk kX3_pass_1 6 rfl
theorem dX3_pass_113 : decode cX3_pass 113 = .ok (.goto 3, 3) := mm_dk kX3_pass_1 7 rfl
theorem dX3_pass_116 : decode cX3_pass 116 = .ok (.return_, 1) := mm_dk kX3_pass_1 8 rfl
set_option maxRecDepth 100000 in
theorem kX3_addNoise_0 : ([(0, .iconst 0, 1), (1, .istore 5, 2), (3, .iload 5, 2), (5, .iload_n 2, 1), (6, .if_icmp .ge 47, 3), (9, .aload_n 0, 1), (10, .aload_n 0, 1), (11, .getfield 9, 3), (14, .invokestatic 43, 3), (17, .putfield 9, 3), (20, .aload_n 1, 1), (21, .iload 5, 2), (23, .aload 4, 2), (25, .aload_n 1, 1), (26, .iload 5, 2), (28, .iaload, 1), (29, .aload_n 0, 1), (30, .getfield 9, 3), (33, .invokestatic 47, 3), (36, .iload_n 3, 1), (37, .imul, 1), (38, .bipush 8, 2), (40, .ishr, 1), (41, .iadd, 1), (42, .i2l, 1), (43, .invokevirtual 51, 3), (46, .iastore, 1), (47, .iinc 5 1, 3), (50, .goto (-47), 3), (53, .return_, 1)] : List (Nat × Instr × Nat)).all (fun x => decide (decode cX3_addNoise x.1 = .ok x.2)) = true := by decide +kernel
theorem dX3_addNoise_0 : decode cX3_addNoise 0 = .ok (.iconst 0, 1) := mm_dk kX3_addNoise_0 0 rfl
theorem dX3_addNoise_1 : decode cX3_addNoise 1 = .ok (.istore 5, 2) := mm_dk kX3_addNoise_0 1 rfl
theorem dX3_addNoise_3 : decode cX3_addNoise 3 = .ok (.iload 5, 2) := mm_dk kX3_addNoise_0 2 rfl
theorem dX3_addNoise_5 : decode cX3_addNoise 5 = .ok (.iload_n 2, 1) := mm_dk kX3_addNoise_0 3 rfl
theorem dX3_addNoise_6 : decode cX3_addNoise 6 = .ok (.if_icmp .ge 47, 3) := mm_dk kX3_addNoise_0 4 rfl
theorem dX3_addNoise_9 : decode cX3_addNoise 9 = .ok (.aload_n 0, 1) := mm_dk kX3_addNoise_0 5 rfl
theorem dX3_addNoise_10 : decode cX3_addNoise 10 = .ok (.aload_n 0, 1) := mm_dk kX3_addNoise_0 6 rfl
theorem dX3_addNoise_11 : decode cX3_addNoise 11 = .ok (.getfield 9, 3) := mm_dk kX3_addNoise_0 7 rfl
theorem dX3_addNoise_14 : decode cX3_addNoise 14 = .ok (.invokestatic 43, 3) := mm_dk kX3_addNoise_0 8 rfl
theorem dX3_addNoise_17 : decode cX3_addNoise 17 = .ok (.putfield 9, 3) := mm_dk kX3_addNoise_0 9 rfl
theorem dX3_addNoise_20 : decode cX3_addNoise 20 = .ok (.aload_n 1, 1) := mm_dk kX3_addNoise_0 10 rfl
theorem dX3_addNoise_21 : decode cX3_addNoise 21 = .ok (.iload 5, 2) := mm_dk kX3_addNoise_0 11 rfl
theorem dX3_addNoise_23 : decode cX3_addNoise 23 = .ok (.aload 4, 2) := mm_dk kX3_addNoise_0 12 rfl
theorem dX3_addNoise_25 : decode cX3_addNoise 25 = .ok (.aload_n 1, 1) := mm_dk kX3_addNoise_0 13 rfl
theorem dX3_addNoise_26 : decode cX3_addNoise 26 = .ok (.iload 5, 2) := mm_dk kX3_addNoise_0 14 rfl
theorem dX3_addNoise_28 : decode cX3_addNoise 28 = .ok (.iaload, 1) := mm_dk kX3_addNoise_0 15 rfl
theorem dX3_addNoise_29 : decode cX3_addNoise 29 = .ok (.aload_n 0, 1) := mm_dk kX3_addNoise_0 16 rfl
theorem dX3_addNoise_30 : decode cX3_addNoise 30 = .ok (.getfield 9, 3) := mm_dk kX3_addNoise_0 17 rfl
theorem dX3_addNoise_33 : decode cX3_addNoise 33 = .ok (.invokestatic 47, 3) := mm_dk kX3_addNoise_0 18 rfl
theorem dX3_addNoise_36 : decode cX3_addNoise 36 = .ok (.iload_n 3, 1) := mm_dk kX3_addNoise_0 19 rfl
theorem dX3_addNoise_37 : decode cX3_addNoise 37 = .ok (.imul, 1) := mm_dk kX3_addNoise_0 20 rfl
theorem dX3_addNoise_38 : decode cX3_addNoise 38 = .ok (.bipush 8, 2) := mm_dk kX3_addNoise_0 21 rfl
theorem dX3_addNoise_40 : decode cX3_addNoise 40 = .ok (.ishr, 1) := mm_dk kX3_addNoise_0 22 rfl
theorem dX3_addNoise_41 : decode cX3_addNoise 41 = .ok (.iadd, 1) := mm_dk kX3_addNoise_0 23 rfl
theorem dX3_addNoise_42 : decode cX3_addNoise 42 = .ok (.i2l, 1) := mm_dk kX3_addNoise_0 24 rfl
theorem dX3_addNoise_43 : decode cX3_addNoise 43 = .ok (.invokevirtual 51, 3) := mm_dk kX3_addNoise_0 25 rfl
theorem dX3_addNoise_46 : decode cX3_addNoise 46 = .ok (.iastore, 1) := mm_dk kX3_addNoise_0 26 rfl
theorem dX3_addNoise_47 : decode cX3_addNoise 47 = .ok (.iinc 5 1, 3) := mm_dk kX3_addNoise_0 27 rfl
theorem dX3_addNoise_50 : decode cX3_addNoise 50 = .ok (.goto (-47), 3) := mm_dk kX3_addNoise_0 28 rfl
theorem dX3_addNoise_53 : decode cX3_addNoise 53 = .ok (.return_, 1) := mm_dk kX3_addNoise_0 29 rfl
set_option maxRecDepth 100000 in
theorem kX3_tilt_0 : ([(0, .iconst 0, 1), (1, .istore 4, 2), (3, .iload 4, 2), (5, .iload_n 2, 1), (6, .if_icmp .ge 44, 3), (9, .aload_n 1, 1), (10, .iload 4, 2), (12, .iaload, 1), (13, .istore 5, 2), (15, .aload_n 1, 1), (16, .iload 4, 2), (18, .aload_n 3, 1), (19, .iload 5, 2), (21, .i2l, 1), (22, .aload_n 0, 1), (23, .getfield 54, 3), (26, .i2l, 1), (27, .ldc2_w 57, 3), (30, .invokestatic 59, 3), (33, .lsub, 1), (34, .invokevirtual 51, 3), (37, .iastore, 1), (38, .aload_n 0, 1), (39, .iload 5, 2), (41, .putfield 54, 3), (44, .iinc 4 1, 3), (47, .goto (-44), 3), (50, .return_, 1)] : List (Nat × Instr × Nat)).all (fun x => decide (decode cX3_tilt x.1 = .ok x.2)) = true := by decide +kernel
theorem dX3_tilt_0 : decode cX3_tilt 0 = .ok (.iconst 0, 1) := mm_dk kX3_tilt_0 0 rfl
theorem dX3_tilt_1 : decode cX3_tilt 1 = .ok (.istore 4, 2) := mm_dk kX3_tilt_0 1 rfl
theorem dX3_tilt_3 : decode cX3_tilt 3 = .ok (.iload 4, 2) := mm_dk kX3_tilt_0 2 rfl
theorem dX3_tilt_5 : decode cX3_tilt 5 = .ok (.iload_n 2, 1) := mm_dk kX3_tilt_0 3 rfl
theorem dX3_tilt_6 : decode cX3_tilt 6 = .ok (.if_icmp .ge 44, 3) := mm_dk kX3_tilt_0 4 rfl
theorem dX3_tilt_9 : decode cX3_tilt 9 = .ok (.aload_n 1, 1) := mm_dk kX3_tilt_0 5 rfl
theorem dX3_tilt_10 : decode cX3_tilt 10 = .ok (.iload 4, 2) := mm_dk kX3_tilt_0 6 rfl
theorem dX3_tilt_12 : decode cX3_tilt 12 = .ok (.iaload, 1) := mm_dk kX3_tilt_0 7 rfl
theorem dX3_tilt_13 : decode cX3_tilt 13 = .ok (.istore 5, 2) := mm_dk kX3_tilt_0 8 rfl
theorem dX3_tilt_15 : decode cX3_tilt 15 = .ok (.aload_n 1, 1) := mm_dk kX3_tilt_0 9 rfl
theorem dX3_tilt_16 : decode cX3_tilt 16 = .ok (.iload 4, 2) := mm_dk kX3_tilt_0 10 rfl
theorem dX3_tilt_18 : decode cX3_tilt 18 = .ok (.aload_n 3, 1) := mm_dk kX3_tilt_0 11 rfl
theorem dX3_tilt_19 : decode cX3_tilt 19 = .ok (.iload 5, 2) := mm_dk kX3_tilt_0 12 rfl
theorem dX3_tilt_21 : decode cX3_tilt 21 = .ok (.i2l, 1) := mm_dk kX3_tilt_0 13 rfl
theorem dX3_tilt_22 : decode cX3_tilt 22 = .ok (.aload_n 0, 1) := mm_dk kX3_tilt_0 14 rfl
theorem dX3_tilt_23 : decode cX3_tilt 23 = .ok (.getfield 54, 3) := mm_dk kX3_tilt_0 15 rfl
theorem dX3_tilt_26 : decode cX3_tilt 26 = .ok (.i2l, 1) := mm_dk kX3_tilt_0 16 rfl
theorem dX3_tilt_27 : decode cX3_tilt 27 = .ok (.ldc2_w 57, 3) := mm_dk kX3_tilt_0 17 rfl
theorem dX3_tilt_30 : decode cX3_tilt 30 = .ok (.invokestatic 59, 3) := mm_dk kX3_tilt_0 18 rfl
theorem dX3_tilt_33 : decode cX3_tilt 33 = .ok (.lsub, 1) := mm_dk kX3_tilt_0 19 rfl
theorem dX3_tilt_34 : decode cX3_tilt 34 = .ok (.invokevirtual 51, 3) := mm_dk kX3_tilt_0 20 rfl
theorem dX3_tilt_37 : decode cX3_tilt 37 = .ok (.iastore, 1) := mm_dk kX3_tilt_0 21 rfl
theorem dX3_tilt_38 : decode cX3_tilt 38 = .ok (.aload_n 0, 1) := mm_dk kX3_tilt_0 22 rfl
theorem dX3_tilt_39 : decode cX3_tilt 39 = .ok (.iload 5, 2) := mm_dk kX3_tilt_0 23 rfl
theorem dX3_tilt_41 : decode cX3_tilt 41 = .ok (.putfield 54, 3) := mm_dk kX3_tilt_0 24 rfl
theorem dX3_tilt_44 : decode cX3_tilt 44 = .ok (.iinc 4 1, 3) := mm_dk kX3_tilt_0 25 rfl
theorem dX3_tilt_47 : decode cX3_tilt 47 = .ok (.goto (-44), 3) := mm_dk kX3_tilt_0 26 rfl
theorem dX3_tilt_50 : decode cX3_tilt 50 = .ok (.return_, 1) := mm_dk kX3_tilt_0 27 rfl
set_option maxRecDepth 100000 in
theorem kX3_comb_0 : ([(0, .iconst 0, 1), (1, .istore 5, 2), (3, .iload 5, 2), (5, .iload_n 2, 1), (6, .if_icmp .ge 63, 3), (9, .iload 5, 2), (11, .iload_n 3, 1), (12, .if_icmp .ge 19, 3), (15, .aload_n 0, 1), (16, .getfield 19, 3), (19, .sipush 160, 3), (22, .iload 5, 2), (24, .iadd, 1), (25, .iload_n 3, 1), (26, .isub, 1), (27, .iaload, 1), (28, .goto 9, 3), (31, .aload_n 1, 1), (32, .iload 5, 2), (34, .iload_n 3, 1), (35, .isub, 1), (36, .iaload, 1), (37, .istore 6, 2), (39, .aload_n 1, 1), (40, .iload 5, 2), (42, .aload 4, 2), (44, .aload_n 1, 1), (45, .iload 5, 2), (47, .iaload, 1), (48, .i2l, 1), (49, .iload 6, 2), (51, .i2l, 1), (52, .ldc2_w 63, 3), (55, .invokestatic 59, 3), (58, .ladd, 1), (59, .invokevirtual 51, 3), (62, .iastore, 1), (63, .iinc 5 1, 3), (66, .goto (-63), 3), (69, .aload_n 1, 1)] : List (Nat × Instr × Nat)).all (fun x => decide (decode cX3_comb x.1 = .ok x.2)) = true := by decide +kernel
theorem dX3_comb_0 : decode cX3_comb 0 = .ok (.iconst 0, 1) := mm_dk kX3_comb_0 0 rfl
theorem dX3_comb_1 : decode cX3_comb 1 = .ok (.istore 5, 2) := mm_dk kX3_comb_0 1 rfl
theorem dX3_comb_3 : decode cX3_comb 3 = .ok (.iload 5, 2) := mm_dk kX3_comb_0 2 rfl
theorem dX3_comb_5 : decode cX3_comb 5 = .ok (.iload_n 2, 1) := mm_dk kX3_comb_0 3 rfl
theorem dX3_comb_6 : decode cX3_comb 6 = .ok (.if_icmp .ge 63, 3) := mm_dk kX3_comb_0 4 rfl
theorem dX3_comb_9 : decode cX3_comb 9 = .ok (.iload 5, 2) := mm_dk kX3_comb_0 5 rfl
theorem dX3_comb_11 : decode cX3_comb 11 = .ok (.iload_n 3, 1) := mm_dk kX3_comb_0 6 rfl
theorem dX3_comb_12 : decode cX3_comb 12 = .ok (.if_icmp .ge 19, 3) := mm_dk kX3_comb_0 7 rfl
theorem dX3_comb_15 : decode cX3_comb 15 = .ok (.aload_n 0, 1) := mm_dk kX3_comb_0 8 rfl
theorem dX3_comb_16 : decode cX3_comb 16 = .ok (.getfield 19, 3) := mm_dk kX3_comb_0 9 rfl
theorem dX3_comb_19 : decode cX3_comb 19 = .ok (.sipush 160, 3) := mm_dk kX3_comb_0 10 rfl
theorem dX3_comb_22 : decode cX3_comb 22 = .ok (.iload 5, 2) := mm_dk kX3_comb_0 11 rfl
theorem dX3_comb_24 : decode cX3_comb 24 = .ok (.iadd, 1) := mm_dk kX3_comb_0 12 rfl
theorem dX3_comb_25 : decode cX3_comb 25 = .ok (.iload_n 3, 1) := mm_dk kX3_comb_0 13 rfl
theorem dX3_comb_26 : decode cX3_comb 26 = .ok (.isub, 1) := mm_dk kX3_comb_0 14 rfl
theorem dX3_comb_27 : decode cX3_comb 27 = .ok (.iaload, 1) := mm_dk kX3_comb_0 15 rfl
theorem dX3_comb_28 : decode cX3_comb 28 = .ok (.goto 9, 3) := mm_dk kX3_comb_0 16 rfl
theorem dX3_comb_31 : decode cX3_comb 31 = .ok (.aload_n 1, 1) := mm_dk kX3_comb_0 17 rfl
theorem dX3_comb_32 : decode cX3_comb 32 = .ok (.iload 5, 2) := mm_dk kX3_comb_0 18 rfl
theorem dX3_comb_34 : decode cX3_comb 34 = .ok (.iload_n 3, 1) := mm_dk kX3_comb_0 19 rfl
theorem dX3_comb_35 : decode cX3_comb 35 = .ok (.isub, 1) := mm_dk kX3_comb_0 20 rfl
theorem dX3_comb_36 : decode cX3_comb 36 = .ok (.iaload, 1) := mm_dk kX3_comb_0 21 rfl
theorem dX3_comb_37 : decode cX3_comb 37 = .ok (.istore 6, 2) := mm_dk kX3_comb_0 22 rfl
theorem dX3_comb_39 : decode cX3_comb 39 = .ok (.aload_n 1, 1) := mm_dk kX3_comb_0 23 rfl
theorem dX3_comb_40 : decode cX3_comb 40 = .ok (.iload 5, 2) := mm_dk kX3_comb_0 24 rfl
theorem dX3_comb_42 : decode cX3_comb 42 = .ok (.aload 4, 2) := mm_dk kX3_comb_0 25 rfl
theorem dX3_comb_44 : decode cX3_comb 44 = .ok (.aload_n 1, 1) := mm_dk kX3_comb_0 26 rfl
theorem dX3_comb_45 : decode cX3_comb 45 = .ok (.iload 5, 2) := mm_dk kX3_comb_0 27 rfl
theorem dX3_comb_47 : decode cX3_comb 47 = .ok (.iaload, 1) := mm_dk kX3_comb_0 28 rfl
theorem dX3_comb_48 : decode cX3_comb 48 = .ok (.i2l, 1) := mm_dk kX3_comb_0 29 rfl
theorem dX3_comb_49 : decode cX3_comb 49 = .ok (.iload 6, 2) := mm_dk kX3_comb_0 30 rfl
theorem dX3_comb_51 : decode cX3_comb 51 = .ok (.i2l, 1) := mm_dk kX3_comb_0 31 rfl
theorem dX3_comb_52 : decode cX3_comb 52 = .ok (.ldc2_w 63, 3) := mm_dk kX3_comb_0 32 rfl
theorem dX3_comb_55 : decode cX3_comb 55 = .ok (.invokestatic 59, 3) := mm_dk kX3_comb_0 33 rfl
theorem dX3_comb_58 : decode cX3_comb 58 = .ok (.ladd, 1) := mm_dk kX3_comb_0 34 rfl
theorem dX3_comb_59 : decode cX3_comb 59 = .ok (.invokevirtual 51, 3) := mm_dk kX3_comb_0 35 rfl
theorem dX3_comb_62 : decode cX3_comb 62 = .ok (.iastore, 1) := mm_dk kX3_comb_0 36 rfl
theorem dX3_comb_63 : decode cX3_comb 63 = .ok (.iinc 5 1, 3) := mm_dk kX3_comb_0 37 rfl
theorem dX3_comb_66 : decode cX3_comb 66 = .ok (.goto (-63), 3) := mm_dk kX3_comb_0 38 rfl
theorem dX3_comb_69 : decode cX3_comb 69 = .ok (.aload_n 1, 1) := mm_dk kX3_comb_0 39 rfl
set_option maxRecDepth 100000 in
theorem kX3_comb_1 : ([(70, .iload_n 2, 1), (71, .sipush 160, 3), (74, .isub, 1), (75, .aload_n 0, 1), (76, .getfield 19, 3), (79, .iconst 0, 1), (80, .sipush 160, 3), (83, .invokestatic 65, 3), (86, .return_, 1)] : List (Nat × Instr × Nat)).all (fun x => decide (decode cX3_comb x.1 = .ok x.2)) = true := by decide +kernel
theorem dX3_comb_70 : decode cX3_comb 70 = .ok (.iload_n 2, 1) := mm_dk kX3_comb_1 0 rfl
theorem dX3_comb_71 : decode cX3_comb 71 = .ok (.sipush 160, 3) := mm_dk kX3_comb_1 1 rfl
theorem dX3_comb_74 : decode cX3_comb 74 = .ok (.isub, 1) := mm_dk kX3_comb_1 2 rfl
theorem dX3_comb_75 : decode cX3_comb 75 = .ok (.aload_n 0, 1) := mm_dk kX3_comb_1 3 rfl
theorem dX3_comb_76 : decode cX3_comb 76 = .ok (.getfield 19, 3) := mm_dk kX3_comb_1 4 rfl
theorem dX3_comb_79 : decode cX3_comb 79 = .ok (.iconst 0, 1) := mm_dk kX3_comb_1 5 rfl
theorem dX3_comb_80 : decode cX3_comb 80 = .ok (.sipush 160, 3) := mm_dk kX3_comb_1 6 rfl
theorem dX3_comb_83 : decode cX3_comb 83 = .ok (.invokestatic 65, 3) := mm_dk kX3_comb_1 7 rfl
theorem dX3_comb_86 : decode cX3_comb 86 = .ok (.return_, 1) := mm_dk kX3_comb_1 8 rfl
set_option maxRecDepth 100000 in
theorem kX3_emphasize_0 : ([(0, .iconst 0, 1), (1, .istore 4, 2), (3, .iload 4, 2), (5, .iload_n 2, 1), (6, .if_icmp .ge 42, 3), (9, .aload_n 0, 1), (10, .aload_n 3, 1), (11, .aload_n 1, 1), (12, .iload 4, 2), (14, .iaload, 1), (15, .i2l, 1), (16, .aload_n 0, 1), (17, .getfield 71, 3), (20, .i2l, 1), (21, .ldc2_w 74, 3), (24, .invokestatic 59, 3), (27, .ladd, 1), (28, .invokevirtual 51, 3), (31, .putfield 71, 3), (34, .aload_n 1, 1), (35, .iload 4, 2), (37, .aload_n 0, 1), (38, .getfield 71, 3), (41, .iastore, 1), (42, .iinc 4 1, 3), (45, .goto (-42), 3), (48, .return_, 1)] : List (Nat × Instr × Nat)).all (fun x => decide (decode cX3_emphasize x.1 = .ok x.2)) = true := by decide +kernel
theorem dX3_emphasize_0 : decode cX3_emphasize 0 = .ok (.iconst 0, 1) := mm_dk kX3_emphasize_0 0 rfl
theorem dX3_emphasize_1 : decode cX3_emphasize 1 = .ok (.istore 4, 2) := mm_dk kX3_emphasize_0 1 rfl
theorem dX3_emphasize_3 : decode cX3_emphasize 3 = .ok (.iload 4, 2) := mm_dk kX3_emphasize_0 2 rfl
theorem dX3_emphasize_5 : decode cX3_emphasize 5 = .ok (.iload_n 2, 1) := mm_dk kX3_emphasize_0 3 rfl
theorem dX3_emphasize_6 : decode cX3_emphasize 6 = .ok (.if_icmp .ge 42, 3) := mm_dk kX3_emphasize_0 4 rfl
theorem dX3_emphasize_9 : decode cX3_emphasize 9 = .ok (.aload_n 0, 1) := mm_dk kX3_emphasize_0 5 rfl
theorem dX3_emphasize_10 : decode cX3_emphasize 10 = .ok (.aload_n 3, 1) := mm_dk kX3_emphasize_0 6 rfl
theorem dX3_emphasize_11 : decode cX3_emphasize 11 = .ok (.aload_n 1, 1) := mm_dk kX3_emphasize_0 7 rfl
theorem dX3_emphasize_12 : decode cX3_emphasize 12 = .ok (.iload 4, 2) := mm_dk kX3_emphasize_0 8 rfl
theorem dX3_emphasize_14 : decode cX3_emphasize 14 = .ok (.iaload, 1) := mm_dk kX3_emphasize_0 9 rfl
theorem dX3_emphasize_15 : decode cX3_emphasize 15 = .ok (.i2l, 1) := mm_dk kX3_emphasize_0 10 rfl
theorem dX3_emphasize_16 : decode cX3_emphasize 16 = .ok (.aload_n 0, 1) := mm_dk kX3_emphasize_0 11 rfl
theorem dX3_emphasize_17 : decode cX3_emphasize 17 = .ok (.getfield 71, 3) := mm_dk kX3_emphasize_0 12 rfl
theorem dX3_emphasize_20 : decode cX3_emphasize 20 = .ok (.i2l, 1) := mm_dk kX3_emphasize_0 13 rfl
theorem dX3_emphasize_21 : decode cX3_emphasize 21 = .ok (.ldc2_w 74, 3) := mm_dk kX3_emphasize_0 14 rfl
theorem dX3_emphasize_24 : decode cX3_emphasize 24 = .ok (.invokestatic 59, 3) := mm_dk kX3_emphasize_0 15 rfl
theorem dX3_emphasize_27 : decode cX3_emphasize 27 = .ok (.ladd, 1) := mm_dk kX3_emphasize_0 16 rfl
theorem dX3_emphasize_28 : decode cX3_emphasize 28 = .ok (.invokevirtual 51, 3) := mm_dk kX3_emphasize_0 17 rfl
theorem dX3_emphasize_31 : decode cX3_emphasize 31 = .ok (.putfield 71, 3) := mm_dk kX3_emphasize_0 18 rfl
theorem dX3_emphasize_34 : decode cX3_emphasize 34 = .ok (.aload_n 1, 1) := mm_dk kX3_emphasize_0 19 rfl
theorem dX3_emphasize_35 : decode cX3_emphasize 35 = .ok (.iload 4, 2) := mm_dk kX3_emphasize_0 20 rfl
theorem dX3_emphasize_37 : decode cX3_emphasize 37 = .ok (.aload_n 0, 1) := mm_dk kX3_emphasize_0 21 rfl
theorem dX3_emphasize_38 : decode cX3_emphasize 38 = .ok (.getfield 71, 3) := mm_dk kX3_emphasize_0 22 rfl
theorem dX3_emphasize_41 : decode cX3_emphasize 41 = .ok (.iastore, 1) := mm_dk kX3_emphasize_0 23 rfl
theorem dX3_emphasize_42 : decode cX3_emphasize 42 = .ok (.iinc 4 1, 3) := mm_dk kX3_emphasize_0 24 rfl
theorem dX3_emphasize_45 : decode cX3_emphasize 45 = .ok (.goto (-42), 3) := mm_dk kX3_emphasize_0 25 rfl
theorem dX3_emphasize_48 : decode cX3_emphasize 48 = .ok (.return_, 1) := mm_dk kX3_emphasize_0 26 rfl
set_option maxRecDepth 100000 in
theorem kX4_init_0 : ([(0, .aload_n 0, 1), (1, .invokespecial 3, 3), (4, .aload_n 0, 1), (5, .iload_n 1, 1), (6, .putfield 9, 3), (9, .aload_n 0, 1), (10, .aload_n 2, 1), (11, .putfield 15, 3), (14, .aload_n 0, 1), (15, .aload_n 3, 1), (16, .putfield 19, 3), (19, .return_, 1)] : List (Nat × Instr × Nat)).all (fun x => decide (decode cX4_init x.1 = .ok x.2)) = true := by decide +kernel
theorem dX4_init_0 : decode cX4_init 0 = .ok (.aload_n 0, 1) := mm_dk kX4_init_0 0 rfl
theorem dX4_init_1 : decode cX4_init 1 = .ok (.invokespecial 3, 3) := mm_dk kX4_init_0 1 rfl
theorem dX4_init_4 : decode cX4_init 4 = .ok (.aload_n 0, 1) := mm_dk kX4_init_0 2 rfl
theorem dX4_init_5 : decode cX4_init 5 = .ok (.iload_n 1, 1) := mm_dk kX4_init_0 3 rfl
theorem dX4_init_6 : decode cX4_init 6 = .ok (.putfield 9, 3) := mm_dk kX4_init_0 4 rfl
theorem dX4_init_9 : decode cX4_init 9 = .ok (.aload_n 0, 1) := mm_dk kX4_init_0 5 rfl
theorem dX4_init_10 : decode cX4_init 10 = .ok (.aload_n 2, 1) := mm_dk kX4_init_0 6 rfl
theorem dX4_init_11 : decode cX4_init 11 = .ok (.putfield 15, 3) := mm_dk kX4_init_0 7 rfl
theorem dX4_init_14 : decode cX4_init 14 = .ok (.aload_n 0, 1) := mm_dk kX4_init_0 8 rfl
theorem dX4_init_15 : decode cX4_init 15 = .ok (.aload_n 3, 1) := mm_dk kX4_init_0 9 rfl
theorem dX4_init_16 : decode cX4_init 16 = .ok (.putfield 19, 3) := mm_dk kX4_init_0 10 rfl
theorem dX4_init_19 : decode cX4_init 19 = .ok (.return_, 1) := mm_dk kX4_init_0 11 rfl
set_option maxRecDepth 100000 in
theorem kX4_hasRow_0 : ([(0, .aload_n 0, 1), (1, .getfield 15, 3), (4, .ifnonnull 10, 3), (7, .aload_n 0, 1), (8, .getfield 19, 3), (11, .ifnull 7, 3), (14, .iconst 1, 1), (15, .goto 4, 3), (18, .iconst 0, 1), (19, .ireturn, 1)] : List (Nat × Instr × Nat)).all (fun x => decide (decode cX4_hasRow x.1 = .ok x.2)) = true := by decide +kernel
theorem dX4_hasRow_0 : decode cX4_hasRow 0 = .ok (.aload_n 0, 1) := mm_dk kX4_hasRow_0 0 rfl
theorem dX4_hasRow_1 : decode cX4_hasRow 1 = .ok (.getfield 15, 3) := mm_dk kX4_hasRow_0 1 rfl
theorem dX4_hasRow_4 : decode cX4_hasRow 4 = .ok (.ifnonnull 10, 3) := mm_dk kX4_hasRow_0 2 rfl
theorem dX4_hasRow_7 : decode cX4_hasRow 7 = .ok (.aload_n 0, 1) := mm_dk kX4_hasRow_0 3 rfl
theorem dX4_hasRow_8 : decode cX4_hasRow 8 = .ok (.getfield 19, 3) := mm_dk kX4_hasRow_0 4 rfl
theorem dX4_hasRow_11 : decode cX4_hasRow 11 = .ok (.ifnull 7, 3) := mm_dk kX4_hasRow_0 5 rfl
theorem dX4_hasRow_14 : decode cX4_hasRow 14 = .ok (.iconst 1, 1) := mm_dk kX4_hasRow_0 6 rfl
theorem dX4_hasRow_15 : decode cX4_hasRow 15 = .ok (.goto 4, 3) := mm_dk kX4_hasRow_0 7 rfl
theorem dX4_hasRow_18 : decode cX4_hasRow 18 = .ok (.iconst 0, 1) := mm_dk kX4_hasRow_0 8 rfl
theorem dX4_hasRow_19 : decode cX4_hasRow 19 = .ok (.ireturn, 1) := mm_dk kX4_hasRow_0 9 rfl
set_option maxRecDepth 100000 in
theorem kX4_size_0 : ([(0, .aload_n 0, 1), (1, .getfield 15, 3), (4, .ifnull 9, 3), (7, .aload_n 0, 1), (8, .getfield 15, 3), (11, .arraylength, 1), (12, .ireturn, 1), (13, .aload_n 0, 1), (14, .getfield 19, 3), (17, .ifnull 11, 3), (20, .aload_n 0, 1), (21, .getfield 19, 3), (24, .arraylength, 1), (25, .goto 4, 3), (28, .iconst 0, 1), (29, .ireturn, 1)] : List (Nat × Instr × Nat)).all (fun x => decide (decode cX4_size x.1 = .ok x.2)) = true := by decide +kernel
theorem dX4_size_0 : decode cX4_size 0 = .ok (.aload_n 0, 1) := mm_dk kX4_size_0 0 rfl
theorem dX4_size_1 : decode cX4_size 1 = .ok (.getfield 15, 3) := mm_dk kX4_size_0 1 rfl
theorem dX4_size_4 : decode cX4_size 4 = .ok (.ifnull 9, 3) := mm_dk kX4_size_0 2 rfl
theorem dX4_size_7 : decode cX4_size 7 = .ok (.aload_n 0, 1) := mm_dk kX4_size_0 3 rfl
theorem dX4_size_8 : decode cX4_size 8 = .ok (.getfield 15, 3) := mm_dk kX4_size_0 4 rfl
theorem dX4_size_11 : decode cX4_size 11 = .ok (.arraylength, 1) := mm_dk kX4_size_0 5 rfl
theorem dX4_size_12 : decode cX4_size 12 = .ok (.ireturn, 1) := mm_dk kX4_size_0 6 rfl
theorem dX4_size_13 : decode cX4_size 13 = .ok (.aload_n 0, 1) := mm_dk kX4_size_0 7 rfl
theorem dX4_size_14 : decode cX4_size 14 = .ok (.getfield 19, 3) := mm_dk kX4_size_0 8 rfl
theorem dX4_size_17 : decode cX4_size 17 = .ok (.ifnull 11, 3) := mm_dk kX4_size_0 9 rfl
theorem dX4_size_20 : decode cX4_size 20 = .ok (.aload_n 0, 1) := mm_dk kX4_size_0 10 rfl
theorem dX4_size_21 : decode cX4_size 21 = .ok (.getfield 19, 3) := mm_dk kX4_size_0 11 rfl
theorem dX4_size_24 : decode cX4_size 24 = .ok (.arraylength, 1) := mm_dk kX4_size_0 12 rfl
theorem dX4_size_25 : decode cX4_size 25 = .ok (.goto 4, 3) := mm_dk kX4_size_0 13 rfl
theorem dX4_size_28 : decode cX4_size 28 = .ok (.iconst 0, 1) := mm_dk kX4_size_0 14 rfl
theorem dX4_size_29 : decode cX4_size 29 = .ok (.ireturn, 1) := mm_dk kX4_size_0 15 rfl
set_option maxRecDepth 100000 in
theorem kX4_has_0 : ([(0, .iload_n 1, 1), (1, .ifCond .lt 15, 3), (4, .iload_n 1, 1), (5, .aload_n 0, 1), (6, .invokevirtual 23, 3), (9, .if_icmp .ge 7, 3), (12, .iconst 1, 1), (13, .goto 4, 3), (16, .iconst 0, 1), (17, .ireturn, 1)] : List (Nat × Instr × Nat)).all (fun x => decide (decode cX4_has x.1 = .ok x.2)) = true := by decide +kernel
theorem dX4_has_0 : decode cX4_has 0 = .ok (.iload_n 1, 1) := mm_dk kX4_has_0 0 rfl
theorem dX4_has_1 : decode cX4_has 1 = .ok (.ifCond .lt 15, 3) := mm_dk kX4_has_0 1 rfl
theorem dX4_has_4 : decode cX4_has 4 = .ok (.iload_n 1, 1) := mm_dk kX4_has_0 2 rfl
theorem dX4_has_5 : decode cX4_has 5 = .ok (.aload_n 0, 1) := mm_dk kX4_has_0 3 rfl
theorem dX4_has_6 : decode cX4_has 6 = .ok (.invokevirtual 23, 3) := mm_dk kX4_has_0 4 rfl
theorem dX4_has_9 : decode cX4_has 9 = .ok (.if_icmp .ge 7, 3) := mm_dk kX4_has_0 5 rfl
theorem dX4_has_12 : decode cX4_has 12 = .ok (.iconst 1, 1) := mm_dk kX4_has_0 6 rfl
theorem dX4_has_13 : decode cX4_has 13 = .ok (.goto 4, 3) := mm_dk kX4_has_0 7 rfl
theorem dX4_has_16 : decode cX4_has 16 = .ok (.iconst 0, 1) := mm_dk kX4_has_0 8 rfl
theorem dX4_has_17 : decode cX4_has 17 = .ok (.ireturn, 1) := mm_dk kX4_has_0 9 rfl
set_option maxRecDepth 100000 in
theorem kX4_read_0 : ([(0, .aload_n 0, 1), (1, .iload_n 1, 1), (2, .invokevirtual 27, 3), (5, .ifCond .ne 5, 3), (8, .iconst 0, 1), (9, .ireturn, 1), (10, .aload_n 0, 1), (11, .getfield 15, 3), (14, .ifnull 13, 3), (17, .aload_n 0, 1), (18, .getfield 15, 3), (21, .iload_n 1, 1), (22, .baload, 1), (23, .i2s, 1), (24, .goto 9, 3), (27, .aload_n 0, 1), (28, .getfield 19, 3), (31, .iload_n 1, 1), (32, .saload, 1), (33, .sipush 255, 3), (36, .iand, 1), (37, .ireturn, 1)] : List (Nat × Instr × Nat)).all (fun x => decide (decode cX4_read x.1 = .ok x.2)) = true := by decide +kernel
theorem dX4_read_0 : decode cX4_read 0 = .ok (.aload_n 0, 1) := mm_dk kX4_read_0 0 rfl
theorem dX4_read_1 : decode cX4_read 1 = .ok (.iload_n 1, 1) := mm_dk kX4_read_0 1 rfl
theorem dX4_read_2 : decode cX4_read 2 = .ok (.invokevirtual 27, 3) := mm_dk kX4_read_0 2 rfl
theorem dX4_read_5 : decode cX4_read 5 = .ok (.ifCond .ne 5, 3) := mm_dk kX4_read_0 3 rfl
theorem dX4_read_8 : decode cX4_read 8 = .ok (.iconst 0, 1) := mm_dk kX4_read_0 4 rfl
theorem dX4_read_9 : decode cX4_read 9 = .ok (.ireturn, 1) := mm_dk kX4_read_0 5 rfl
theorem dX4_read_10 : decode cX4_read 10 = .ok (.aload_n 0, 1) := mm_dk kX4_read_0 6 rfl
theorem dX4_read_11 : decode cX4_read 11 = .ok (.getfield 15, 3) := mm_dk kX4_read_0 7 rfl
theorem dX4_read_14 : decode cX4_read 14 = .ok (.ifnull 13, 3) := mm_dk kX4_read_0 8 rfl
theorem dX4_read_17 : decode cX4_read 17 = .ok (.aload_n 0, 1) := mm_dk kX4_read_0 9 rfl
theorem dX4_read_18 : decode cX4_read 18 = .ok (.getfield 15, 3) := mm_dk kX4_read_0 10 rfl
theorem dX4_read_21 : decode cX4_read 21 = .ok (.iload_n 1, 1) := mm_dk kX4_read_0 11 rfl
theorem dX4_read_22 : decode cX4_read 22 = .ok (.baload, 1) := mm_dk kX4_read_0 12 rfl
theorem dX4_read_23 : decode cX4_read 23 = .ok (.i2s, 1) := mm_dk kX4_read_0 13 rfl
theorem dX4_read_24 : decode cX4_read 24 = .ok (.goto 9, 3) := mm_dk kX4_read_0 14 rfl
theorem dX4_read_27 : decode cX4_read 27 = .ok (.aload_n 0, 1) := mm_dk kX4_read_0 15 rfl
theorem dX4_read_28 : decode cX4_read 28 = .ok (.getfield 19, 3) := mm_dk kX4_read_0 16 rfl
theorem dX4_read_31 : decode cX4_read 31 = .ok (.iload_n 1, 1) := mm_dk kX4_read_0 17 rfl
theorem dX4_read_32 : decode cX4_read 32 = .ok (.saload, 1) := mm_dk kX4_read_0 18 rfl
theorem dX4_read_33 : decode cX4_read 33 = .ok (.sipush 255, 3) := mm_dk kX4_read_0 19 rfl
theorem dX4_read_36 : decode cX4_read 36 = .ok (.iand, 1) := mm_dk kX4_read_0 20 rfl
theorem dX4_read_37 : decode cX4_read 37 = .ok (.ireturn, 1) := mm_dk kX4_read_0 21 rfl
set_option maxRecDepth 100000 in
theorem kX4_flip_0 : ([(0, .aload_n 0, 1), (1, .iload_n 1, 1), (2, .invokevirtual 27, 3), (5, .ifCond .ne 4, 3), (8, .return_, 1), (9, .aload_n 0, 1), (10, .getfield 15, 3), (13, .ifnull 21, 3), (16, .aload_n 0, 1), (17, .getfield 15, 3), (20, .iload_n 1, 1), (21, .aload_n 0, 1), (22, .getfield 15, 3), (25, .iload_n 1, 1), (26, .baload, 1), (27, .iload_n 2, 1), (28, .ixor, 1), (29, .i2b, 1), (30, .bastore, 1), (31, .goto 18, 3), (34, .aload_n 0, 1), (35, .getfield 19, 3), (38, .iload_n 1, 1), (39, .aload_n 0, 1), (40, .getfield 19, 3), (43, .iload_n 1, 1), (44, .saload, 1), (45, .iload_n 2, 1), (46, .ixor, 1), (47, .i2s, 1), (48, .sastore, 1), (49, .return_, 1)] : List (Nat × Instr × Nat)).all (fun x => decide (decode cX4_flip x.1 = .ok x.2)) = true := by decide +kernel
theorem dX4_flip_0 : decode cX4_flip 0 = .ok (.aload_n 0, 1) := mm_dk kX4_flip_0 0 rfl
theorem dX4_flip_1 : decode cX4_flip 1 = .ok (.iload_n 1, 1) := mm_dk kX4_flip_0 1 rfl
theorem dX4_flip_2 : decode cX4_flip 2 = .ok (.invokevirtual 27, 3) := mm_dk kX4_flip_0 2 rfl
theorem dX4_flip_5 : decode cX4_flip 5 = .ok (.ifCond .ne 4, 3) := mm_dk kX4_flip_0 3 rfl
theorem dX4_flip_8 : decode cX4_flip 8 = .ok (.return_, 1) := mm_dk kX4_flip_0 4 rfl
theorem dX4_flip_9 : decode cX4_flip 9 = .ok (.aload_n 0, 1) := mm_dk kX4_flip_0 5 rfl
theorem dX4_flip_10 : decode cX4_flip 10 = .ok (.getfield 15, 3) := mm_dk kX4_flip_0 6 rfl
theorem dX4_flip_13 : decode cX4_flip 13 = .ok (.ifnull 21, 3) := mm_dk kX4_flip_0 7 rfl
theorem dX4_flip_16 : decode cX4_flip 16 = .ok (.aload_n 0, 1) := mm_dk kX4_flip_0 8 rfl
theorem dX4_flip_17 : decode cX4_flip 17 = .ok (.getfield 15, 3) := mm_dk kX4_flip_0 9 rfl
theorem dX4_flip_20 : decode cX4_flip 20 = .ok (.iload_n 1, 1) := mm_dk kX4_flip_0 10 rfl
theorem dX4_flip_21 : decode cX4_flip 21 = .ok (.aload_n 0, 1) := mm_dk kX4_flip_0 11 rfl
theorem dX4_flip_22 : decode cX4_flip 22 = .ok (.getfield 15, 3) := mm_dk kX4_flip_0 12 rfl
theorem dX4_flip_25 : decode cX4_flip 25 = .ok (.iload_n 1, 1) := mm_dk kX4_flip_0 13 rfl
theorem dX4_flip_26 : decode cX4_flip 26 = .ok (.baload, 1) := mm_dk kX4_flip_0 14 rfl
theorem dX4_flip_27 : decode cX4_flip 27 = .ok (.iload_n 2, 1) := mm_dk kX4_flip_0 15 rfl
theorem dX4_flip_28 : decode cX4_flip 28 = .ok (.ixor, 1) := mm_dk kX4_flip_0 16 rfl
theorem dX4_flip_29 : decode cX4_flip 29 = .ok (.i2b, 1) := mm_dk kX4_flip_0 17 rfl
theorem dX4_flip_30 : decode cX4_flip 30 = .ok (.bastore, 1) := mm_dk kX4_flip_0 18 rfl
theorem dX4_flip_31 : decode cX4_flip 31 = .ok (.goto 18, 3) := mm_dk kX4_flip_0 19 rfl
theorem dX4_flip_34 : decode cX4_flip 34 = .ok (.aload_n 0, 1) := mm_dk kX4_flip_0 20 rfl
theorem dX4_flip_35 : decode cX4_flip 35 = .ok (.getfield 19, 3) := mm_dk kX4_flip_0 21 rfl
theorem dX4_flip_38 : decode cX4_flip 38 = .ok (.iload_n 1, 1) := mm_dk kX4_flip_0 22 rfl
theorem dX4_flip_39 : decode cX4_flip 39 = .ok (.aload_n 0, 1) := mm_dk kX4_flip_0 23 rfl
theorem dX4_flip_40 : decode cX4_flip 40 = .ok (.getfield 19, 3) := mm_dk kX4_flip_0 24 rfl
theorem dX4_flip_43 : decode cX4_flip 43 = .ok (.iload_n 1, 1) := mm_dk kX4_flip_0 25 rfl
theorem dX4_flip_44 : decode cX4_flip 44 = .ok (.saload, 1) := mm_dk kX4_flip_0 26 rfl
theorem dX4_flip_45 : decode cX4_flip 45 = .ok (.iload_n 2, 1) := mm_dk kX4_flip_0 27 rfl
theorem dX4_flip_46 : decode cX4_flip 46 = .ok (.ixor, 1) := mm_dk kX4_flip_0 28 rfl
theorem dX4_flip_47 : decode cX4_flip 47 = .ok (.i2s, 1) := mm_dk kX4_flip_0 29 rfl
theorem dX4_flip_48 : decode cX4_flip 48 = .ok (.sastore, 1) := mm_dk kX4_flip_0 30 rfl
theorem dX4_flip_49 : decode cX4_flip 49 = .ok (.return_, 1) := mm_dk kX4_flip_0 31 rfl
set_option maxRecDepth 100000 in
theorem kX4_shorten_0 : ([(0, .iload_n 1, 1), (1, .ifCond .lt 11, 3), (4, .iload_n 1, 1), (5, .aload_n 0, 1), (6, .invokevirtual 23, 3), (9, .if_icmp .le 4, 3), (12, .return_, 1), (13, .aload_n 0, 1), (14, .getfield 15, 3), (17, .ifnull 18, 3), (20, .aload_n 0, 1), (21, .aload_n 0, 1), (22, .getfield 15, 3), (25, .iload_n 1, 1), (26, .invokestatic 31, 3), (29, .putfield 15, 3), (32, .goto 22, 3), (35, .aload_n 0, 1), (36, .getfield 19, 3), (39, .ifnull 15, 3), (42, .aload_n 0, 1), (43, .aload_n 0, 1), (44, .getfield 19, 3), (47, .iload_n 1, 1), (48, .invokestatic 37, 3), (51, .putfield 19, 3), (54, .return_, 1)] : List (Nat × Instr × Nat)).all (fun x => decide (decode cX4_shorten x.1 = .ok x.2)) = true := by decide +kernel
theorem dX4_shorten_0 : decode cX4_shorten 0 = .ok (.iload_n 1, 1) := mm_dk kX4_shorten_0 0 rfl
theorem dX4_shorten_1 : decode cX4_shorten 1 = .ok (.ifCond .lt 11, 3) := mm_dk kX4_shorten_0 1 rfl
theorem dX4_shorten_4 : decode cX4_shorten 4 = .ok (.iload_n 1, 1) := mm_dk kX4_shorten_0 2 rfl
theorem dX4_shorten_5 : decode cX4_shorten 5 = .ok (.aload_n 0, 1) := mm_dk kX4_shorten_0 3 rfl
theorem dX4_shorten_6 : decode cX4_shorten 6 = .ok (.invokevirtual 23, 3) := mm_dk kX4_shorten_0 4 rfl
theorem dX4_shorten_9 : decode cX4_shorten 9 = .ok (.if_icmp .le 4, 3) := mm_dk kX4_shorten_0 5 rfl
theorem dX4_shorten_12 : decode cX4_shorten 12 = .ok (.return_, 1) := mm_dk kX4_shorten_0 6 rfl
theorem dX4_shorten_13 : decode cX4_shorten 13 = .ok (.aload_n 0, 1) := mm_dk kX4_shorten_0 7 rfl
theorem dX4_shorten_14 : decode cX4_shorten 14 = .ok (.getfield 15, 3) := mm_dk kX4_shorten_0 8 rfl
theorem dX4_shorten_17 : decode cX4_shorten 17 = .ok (.ifnull 18, 3) := mm_dk kX4_shorten_0 9 rfl
theorem dX4_shorten_20 : decode cX4_shorten 20 = .ok (.aload_n 0, 1) := mm_dk kX4_shorten_0 10 rfl
theorem dX4_shorten_21 : decode cX4_shorten 21 = .ok (.aload_n 0, 1) := mm_dk kX4_shorten_0 11 rfl
theorem dX4_shorten_22 : decode cX4_shorten 22 = .ok (.getfield 15, 3) := mm_dk kX4_shorten_0 12 rfl
theorem dX4_shorten_25 : decode cX4_shorten 25 = .ok (.iload_n 1, 1) := mm_dk kX4_shorten_0 13 rfl
theorem dX4_shorten_26 : decode cX4_shorten 26 = .ok (.invokestatic 31, 3) := mm_dk kX4_shorten_0 14 rfl
theorem dX4_shorten_29 : decode cX4_shorten 29 = .ok (.putfield 15, 3) := mm_dk kX4_shorten_0 15 rfl
theorem dX4_shorten_32 : decode cX4_shorten 32 = .ok (.goto 22, 3) := mm_dk kX4_shorten_0 16 rfl
theorem dX4_shorten_35 : decode cX4_shorten 35 = .ok (.aload_n 0, 1) := mm_dk kX4_shorten_0 17 rfl
theorem dX4_shorten_36 : decode cX4_shorten 36 = .ok (.getfield 19, 3) := mm_dk kX4_shorten_0 18 rfl
theorem dX4_shorten_39 : decode cX4_shorten 39 = .ok (.ifnull 15, 3) := mm_dk kX4_shorten_0 19 rfl
theorem dX4_shorten_42 : decode cX4_shorten 42 = .ok (.aload_n 0, 1) := mm_dk kX4_shorten_0 20 rfl
theorem dX4_shorten_43 : decode cX4_shorten 43 = .ok (.aload_n 0, 1) := mm_dk kX4_shorten_0 21 rfl
theorem dX4_shorten_44 : decode cX4_shorten 44 = .ok (.getfield 19, 3) := mm_dk kX4_shorten_0 22 rfl
theorem dX4_shorten_47 : decode cX4_shorten 47 = .ok (.iload_n 1, 1) := mm_dk kX4_shorten_0 23 rfl
theorem dX4_shorten_48 : decode cX4_shorten 48 = .ok (.invokestatic 37, 3) := mm_dk kX4_shorten_0 24 rfl
theorem dX4_shorten_51 : decode cX4_shorten 51 = .ok (.putfield 19, 3) := mm_dk kX4_shorten_0 25 rfl
theorem dX4_shorten_54 : decode cX4_shorten 54 = .ok (.return_, 1) := mm_dk kX4_shorten_0 26 rfl
set_option maxRecDepth 100000 in
theorem kX4_widen_0 : ([(0, .aload_n 0, 1), (1, .getfield 15, 3), (4, .ifnonnull 4, 3), (7, .return_, 1), (8, .aload_n 0, 1), (9, .aload_n 0, 1), (10, .getfield 15, 3), (13, .arraylength, 1), (14, .newarray .short, 2), (16, .putfield 19, 3), (19, .iconst 0, 1), (20, .istore_n 1, 1), (21, .iload_n 1, 1), (22, .aload_n 0, 1), (23, .getfield 15, 3), (26, .arraylength, 1), (27, .if_icmp .ge 22, 3), (30, .aload_n 0, 1), (31, .getfield 19, 3), (34, .iload_n 1, 1), (35, .aload_n 0, 1), (36, .getfield 15, 3), (39, .iload_n 1, 1), (40, .baload, 1), (41, .i2s, 1), (42, .sastore, 1), (43, .iinc 1 1, 3), (46, .goto (-25), 3), (49, .aload_n 0, 1), (50, .aconst_null, 1), (51, .putfield 15, 3), (54, .return_, 1)] : List (Nat × Instr × Nat)).all (fun x => decide (decode cX4_widen x.1 = .ok x.2)) = true := by decide +kernel
theorem dX4_widen_0 : decode cX4_widen 0 = .ok (.aload_n 0, 1) := mm_dk kX4_widen_0 0 rfl
theorem dX4_widen_1 : decode cX4_widen 1 = .ok (.getfield 15, 3) := mm_dk kX4_widen_0 1 rfl
theorem dX4_widen_4 : decode cX4_widen 4 = .ok (.ifnonnull 4, 3) := mm_dk kX4_widen_0 2 rfl
theorem dX4_widen_7 : decode cX4_widen 7 = .ok (.return_, 1) := mm_dk kX4_widen_0 3 rfl
theorem dX4_widen_8 : decode cX4_widen 8 = .ok (.aload_n 0, 1) := mm_dk kX4_widen_0 4 rfl
theorem dX4_widen_9 : decode cX4_widen 9 = .ok (.aload_n 0, 1) := mm_dk kX4_widen_0 5 rfl
theorem dX4_widen_10 : decode cX4_widen 10 = .ok (.getfield 15, 3) := mm_dk kX4_widen_0 6 rfl
theorem dX4_widen_13 : decode cX4_widen 13 = .ok (.arraylength, 1) := mm_dk kX4_widen_0 7 rfl
theorem dX4_widen_14 : decode cX4_widen 14 = .ok (.newarray .short, 2) := mm_dk kX4_widen_0 8 rfl
theorem dX4_widen_16 : decode cX4_widen 16 = .ok (.putfield 19, 3) := mm_dk kX4_widen_0 9 rfl
theorem dX4_widen_19 : decode cX4_widen 19 = .ok (.iconst 0, 1) := mm_dk kX4_widen_0 10 rfl
theorem dX4_widen_20 : decode cX4_widen 20 = .ok (.istore_n 1, 1) := mm_dk kX4_widen_0 11 rfl
theorem dX4_widen_21 : decode cX4_widen 21 = .ok (.iload_n 1, 1) := mm_dk kX4_widen_0 12 rfl
theorem dX4_widen_22 : decode cX4_widen 22 = .ok (.aload_n 0, 1) := mm_dk kX4_widen_0 13 rfl
theorem dX4_widen_23 : decode cX4_widen 23 = .ok (.getfield 15, 3) := mm_dk kX4_widen_0 14 rfl
theorem dX4_widen_26 : decode cX4_widen 26 = .ok (.arraylength, 1) := mm_dk kX4_widen_0 15 rfl
theorem dX4_widen_27 : decode cX4_widen 27 = .ok (.if_icmp .ge 22, 3) := mm_dk kX4_widen_0 16 rfl
theorem dX4_widen_30 : decode cX4_widen 30 = .ok (.aload_n 0, 1) := mm_dk kX4_widen_0 17 rfl
theorem dX4_widen_31 : decode cX4_widen 31 = .ok (.getfield 19, 3) := mm_dk kX4_widen_0 18 rfl
theorem dX4_widen_34 : decode cX4_widen 34 = .ok (.iload_n 1, 1) := mm_dk kX4_widen_0 19 rfl
theorem dX4_widen_35 : decode cX4_widen 35 = .ok (.aload_n 0, 1) := mm_dk kX4_widen_0 20 rfl
theorem dX4_widen_36 : decode cX4_widen 36 = .ok (.getfield 15, 3) := mm_dk kX4_widen_0 21 rfl
theorem dX4_widen_39 : decode cX4_widen 39 = .ok (.iload_n 1, 1) := mm_dk kX4_widen_0 22 rfl
theorem dX4_widen_40 : decode cX4_widen 40 = .ok (.baload, 1) := mm_dk kX4_widen_0 23 rfl
theorem dX4_widen_41 : decode cX4_widen 41 = .ok (.i2s, 1) := mm_dk kX4_widen_0 24 rfl
theorem dX4_widen_42 : decode cX4_widen 42 = .ok (.sastore, 1) := mm_dk kX4_widen_0 25 rfl
theorem dX4_widen_43 : decode cX4_widen 43 = .ok (.iinc 1 1, 3) := mm_dk kX4_widen_0 26 rfl
theorem dX4_widen_46 : decode cX4_widen 46 = .ok (.goto (-25), 3) := mm_dk kX4_widen_0 27 rfl
theorem dX4_widen_49 : decode cX4_widen 49 = .ok (.aload_n 0, 1) := mm_dk kX4_widen_0 28 rfl
theorem dX4_widen_50 : decode cX4_widen 50 = .ok (.aconst_null, 1) := mm_dk kX4_widen_0 29 rfl
theorem dX4_widen_51 : decode cX4_widen 51 = .ok (.putfield 15, 3) := mm_dk kX4_widen_0 30 rfl
theorem dX4_widen_54 : decode cX4_widen 54 = .ok (.return_, 1) := mm_dk kX4_widen_0 31 rfl
set_option maxRecDepth 100000 in
theorem kX4_openingFinding_0 : ([(0, .aload_n 0, 1), (1, .getfield 15, 3), (4, .ifnonnull 16, 3), (7, .aload_n 0, 1), (8, .getfield 19, 3), (11, .ifnonnull 7, 3), (14, .iconst 1, 1), (15, .goto 4, 3), (18, .iconst 2, 1), (19, .ireturn, 1), (20, .aload_n 0, 1), (21, .getfield 15, 3), (24, .arraylength, 1), (25, .bipush 6, 2), (27, .if_icmp .ge 5, 3), (30, .iconst 3, 1), (31, .ireturn, 1), (32, .aload_n 0, 1), (33, .getfield 15, 3), (36, .aload_n 0, 1), (37, .getfield 15, 3), (40, .arraylength, 1), (41, .iconst 1, 1), (42, .isub, 1), (43, .baload, 1), (44, .aload_n 0, 1), (45, .getfield 15, 3), (48, .invokestatic 40, 3), (51, .if_icmp .eq 5, 3), (54, .iconst 4, 1), (55, .ireturn, 1), (56, .bipush 6, 2), (58, .aload_n 0, 1), (59, .getfield 15, 3), (62, .iconst 2, 1), (63, .baload, 1), (64, .iadd, 1), (65, .istore_n 1, 1), (66, .iload_n 1, 1), (67, .bipush 6, 2)] : List (Nat × Instr × Nat)).all (fun x => decide (decode cX4_openingFinding x.1 = .ok x.2)) = true := by decide +kernel
theorem dX4_openingFinding_0 : decode cX4_openingFinding 0 = .ok (.aload_n 0, 1) := mm_dk kX4_openingFinding_0 0 rfl
theorem dX4_openingFinding_1 : decode cX4_openingFinding 1 = .ok (.getfield 15, 3) := mm_dk kX4_openingFinding_0 1 rfl
theorem dX4_openingFinding_4 : decode cX4_openingFinding 4 = .ok (.ifnonnull 16, 3) := mm_dk kX4_openingFinding_0 2 rfl
theorem dX4_openingFinding_7 : decode cX4_openingFinding 7 = .ok (.aload_n 0, 1) := mm_dk kX4_openingFinding_0 3 rfl
theorem dX4_openingFinding_8 : decode cX4_openingFinding 8 = .ok (.getfield 19, 3) := mm_dk kX4_openingFinding_0 4 rfl
theorem dX4_openingFinding_11 : decode cX4_openingFinding 11 = .ok (.ifnonnull 7, 3) := mm_dk kX4_openingFinding_0 5 rfl
theorem dX4_openingFinding_14 : decode cX4_openingFinding 14 = .ok (.iconst 1, 1) := mm_dk kX4_openingFinding_0 6 rfl
theorem dX4_openingFinding_15 : decode cX4_openingFinding 15 = .ok (.goto 4, 3) := mm_dk kX4_openingFinding_0 7 rfl
theorem dX4_openingFinding_18 : decode cX4_openingFinding 18 = .ok (.iconst 2, 1) := mm_dk kX4_openingFinding_0 8 rfl
theorem dX4_openingFinding_19 : decode cX4_openingFinding 19 = .ok (.ireturn, 1) := mm_dk kX4_openingFinding_0 9 rfl
theorem dX4_openingFinding_20 : decode cX4_openingFinding 20 = .ok (.aload_n 0, 1) := mm_dk kX4_openingFinding_0 10 rfl
theorem dX4_openingFinding_21 : decode cX4_openingFinding 21 = .ok (.getfield 15, 3) := mm_dk kX4_openingFinding_0 11 rfl
theorem dX4_openingFinding_24 : decode cX4_openingFinding 24 = .ok (.arraylength, 1) := mm_dk kX4_openingFinding_0 12 rfl
theorem dX4_openingFinding_25 : decode cX4_openingFinding 25 = .ok (.bipush 6, 2) := mm_dk kX4_openingFinding_0 13 rfl
theorem dX4_openingFinding_27 : decode cX4_openingFinding 27 = .ok (.if_icmp .ge 5, 3) := mm_dk kX4_openingFinding_0 14 rfl
theorem dX4_openingFinding_30 : decode cX4_openingFinding 30 = .ok (.iconst 3, 1) := mm_dk kX4_openingFinding_0 15 rfl
theorem dX4_openingFinding_31 : decode cX4_openingFinding 31 = .ok (.ireturn, 1) := mm_dk kX4_openingFinding_0 16 rfl
theorem dX4_openingFinding_32 : decode cX4_openingFinding 32 = .ok (.aload_n 0, 1) := mm_dk kX4_openingFinding_0 17 rfl
theorem dX4_openingFinding_33 : decode cX4_openingFinding 33 = .ok (.getfield 15, 3) := mm_dk kX4_openingFinding_0 18 rfl
theorem dX4_openingFinding_36 : decode cX4_openingFinding 36 = .ok (.aload_n 0, 1) := mm_dk kX4_openingFinding_0 19 rfl
theorem dX4_openingFinding_37 : decode cX4_openingFinding 37 = .ok (.getfield 15, 3) := mm_dk kX4_openingFinding_0 20 rfl
theorem dX4_openingFinding_40 : decode cX4_openingFinding 40 = .ok (.arraylength, 1) := mm_dk kX4_openingFinding_0 21 rfl
theorem dX4_openingFinding_41 : decode cX4_openingFinding 41 = .ok (.iconst 1, 1) := mm_dk kX4_openingFinding_0 22 rfl
theorem dX4_openingFinding_42 : decode cX4_openingFinding 42 = .ok (.isub, 1) := mm_dk kX4_openingFinding_0 23 rfl
theorem dX4_openingFinding_43 : decode cX4_openingFinding 43 = .ok (.baload, 1) := mm_dk kX4_openingFinding_0 24 rfl
theorem dX4_openingFinding_44 : decode cX4_openingFinding 44 = .ok (.aload_n 0, 1) := mm_dk kX4_openingFinding_0 25 rfl
theorem dX4_openingFinding_45 : decode cX4_openingFinding 45 = .ok (.getfield 15, 3) := mm_dk kX4_openingFinding_0 26 rfl
theorem dX4_openingFinding_48 : decode cX4_openingFinding 48 = .ok (.invokestatic 40, 3) := mm_dk kX4_openingFinding_0 27 rfl
theorem dX4_openingFinding_51 : decode cX4_openingFinding 51 = .ok (.if_icmp .eq 5, 3) := mm_dk kX4_openingFinding_0 28 rfl
theorem dX4_openingFinding_54 : decode cX4_openingFinding 54 = .ok (.iconst 4, 1) := mm_dk kX4_openingFinding_0 29 rfl
theorem dX4_openingFinding_55 : decode cX4_openingFinding 55 = .ok (.ireturn, 1) := mm_dk kX4_openingFinding_0 30 rfl
theorem dX4_openingFinding_56 : decode cX4_openingFinding 56 = .ok (.bipush 6, 2) := mm_dk kX4_openingFinding_0 31 rfl
theorem dX4_openingFinding_58 : decode cX4_openingFinding 58 = .ok (.aload_n 0, 1) := mm_dk kX4_openingFinding_0 32 rfl
theorem dX4_openingFinding_59 : decode cX4_openingFinding 59 = .ok (.getfield 15, 3) := mm_dk kX4_openingFinding_0 33 rfl
theorem dX4_openingFinding_62 : decode cX4_openingFinding 62 = .ok (.iconst 2, 1) := mm_dk kX4_openingFinding_0 34 rfl
theorem dX4_openingFinding_63 : decode cX4_openingFinding 63 = .ok (.baload, 1) := mm_dk kX4_openingFinding_0 35 rfl
theorem dX4_openingFinding_64 : decode cX4_openingFinding 64 = .ok (.iadd, 1) := mm_dk kX4_openingFinding_0 36 rfl
theorem dX4_openingFinding_65 : decode cX4_openingFinding 65 = .ok (.istore_n 1, 1) := mm_dk kX4_openingFinding_0 37 rfl
theorem dX4_openingFinding_66 : decode cX4_openingFinding 66 = .ok (.iload_n 1, 1) := mm_dk kX4_openingFinding_0 38 rfl
theorem dX4_openingFinding_67 : decode cX4_openingFinding 67 = .ok (.bipush 6, 2) := mm_dk kX4_openingFinding_0 39 rfl
set_option maxRecDepth 100000 in
theorem kX4_openingFinding_1 : ([(69, .if_icmp .ge 5, 3), (72, .iconst 5, 1), (73, .ireturn, 1), (74, .iload_n 1, 1), (75, .aload_n 0, 1), (76, .getfield 15, 3), (79, .arraylength, 1), (80, .if_icmp .le 5, 3), (83, .iconst 3, 1), (84, .ireturn, 1), (85, .aload_n 0, 1), (86, .getfield 15, 3), (89, .iconst 5, 1), (90, .baload, 1), (91, .ifCond .ge 5, 3), (94, .iconst 5, 1), (95, .ireturn, 1), (96, .iload_n 1, 1), (97, .aload_n 0, 1), (98, .getfield 15, 3), (101, .iconst 5, 1), (102, .baload, 1), (103, .iadd, 1), (104, .aload_n 0, 1), (105, .getfield 15, 3), (108, .arraylength, 1), (109, .if_icmp .le 5, 3), (112, .iconst 3, 1), (113, .ireturn, 1), (114, .aload_n 0, 1), (115, .getfield 15, 3), (118, .iconst 2, 1), (119, .baload, 1), (120, .aload_n 0, 1), (121, .invokevirtual 44, 3), (124, .ifCond .eq 8, 3), (127, .bipush 28, 2), (129, .goto 4, 3), (132, .iconst 2, 1), (133, .if_icmp .ge 8, 3)] : List (Nat × Instr × Nat)).all (fun x => decide (decode cX4_openingFinding x.1 = .ok x.2)) = true := by decide +kernel
theorem dX4_openingFinding_69 : decode cX4_openingFinding 69 = .ok (.if_icmp .ge 5, 3) := mm_dk kX4_openingFinding_1 0 rfl
theorem dX4_openingFinding_72 : decode cX4_openingFinding 72 = .ok (.iconst 5, 1) := mm_dk kX4_openingFinding_1 1 rfl
theorem dX4_openingFinding_73 : decode cX4_openingFinding 73 = .ok (.ireturn, 1) := mm_dk kX4_openingFinding_1 2 rfl
theorem dX4_openingFinding_74 : decode cX4_openingFinding 74 = .ok (.iload_n 1, 1) := mm_dk kX4_openingFinding_1 3 rfl
theorem dX4_openingFinding_75 : decode cX4_openingFinding 75 = .ok (.aload_n 0, 1) := mm_dk kX4_openingFinding_1 4 rfl
theorem dX4_openingFinding_76 : decode cX4_openingFinding 76 = .ok (.getfield 15, 3) := mm_dk kX4_openingFinding_1 5 rfl
theorem dX4_openingFinding_79 : decode cX4_openingFinding 79 = .ok (.arraylength, 1) := mm_dk kX4_openingFinding_1 6 rfl
theorem dX4_openingFinding_80 : decode cX4_openingFinding 80 = .ok (.if_icmp .le 5, 3) := mm_dk kX4_openingFinding_1 7 rfl
theorem dX4_openingFinding_83 : decode cX4_openingFinding 83 = .ok (.iconst 3, 1) := mm_dk kX4_openingFinding_1 8 rfl
theorem dX4_openingFinding_84 : decode cX4_openingFinding 84 = .ok (.ireturn, 1) := mm_dk kX4_openingFinding_1 9 rfl
theorem dX4_openingFinding_85 : decode cX4_openingFinding 85 = .ok (.aload_n 0, 1) := mm_dk kX4_openingFinding_1 10 rfl
theorem dX4_openingFinding_86 : decode cX4_openingFinding 86 = .ok (.getfield 15, 3) := mm_dk kX4_openingFinding_1 11 rfl
theorem dX4_openingFinding_89 : decode cX4_openingFinding 89 = .ok (.iconst 5, 1) := mm_dk kX4_openingFinding_1 12 rfl
theorem dX4_openingFinding_90 : decode cX4_openingFinding 90 = .ok (.baload, 1) := mm_dk kX4_openingFinding_1 13 rfl
theorem dX4_openingFinding_91 : decode cX4_openingFinding 91 = .ok (.ifCond .ge 5, 3) := mm_dk kX4_openingFinding_1 14 rfl
theorem dX4_openingFinding_94 : decode cX4_openingFinding 94 = .ok (.iconst 5, 1) := mm_dk kX4_openingFinding_1 15 rfl
theorem dX4_openingFinding_95 : decode cX4_openingFinding 95 = .ok (.ireturn, 1) := mm_dk kX4_openingFinding_1 16 rfl
theorem dX4_openingFinding_96 : decode cX4_openingFinding 96 = .ok (.iload_n 1, 1) := mm_dk kX4_openingFinding_1 17 rfl
theorem dX4_openingFinding_97 : decode cX4_openingFinding 97 = .ok (.aload_n 0, 1) := mm_dk kX4_openingFinding_1 18 rfl
theorem dX4_openingFinding_98 : decode cX4_openingFinding 98 = .ok (.getfield 15, 3) := mm_dk kX4_openingFinding_1 19 rfl
theorem dX4_openingFinding_101 : decode cX4_openingFinding 101 = .ok (.iconst 5, 1) := mm_dk kX4_openingFinding_1 20 rfl
theorem dX4_openingFinding_102 : decode cX4_openingFinding 102 = .ok (.baload, 1) := mm_dk kX4_openingFinding_1 21 rfl
theorem dX4_openingFinding_103 : decode cX4_openingFinding 103 = .ok (.iadd, 1) := mm_dk kX4_openingFinding_1 22 rfl
theorem dX4_openingFinding_104 : decode cX4_openingFinding 104 = .ok (.aload_n 0, 1) := mm_dk kX4_openingFinding_1 23 rfl
theorem dX4_openingFinding_105 : decode cX4_openingFinding 105 = .ok (.getfield 15, 3) := mm_dk kX4_openingFinding_1 24 rfl
theorem dX4_openingFinding_108 : decode cX4_openingFinding 108 = .ok (.arraylength, 1) := mm_dk kX4_openingFinding_1 25 rfl
theorem dX4_openingFinding_109 : decode cX4_openingFinding 109 = .ok (.if_icmp .le 5, 3) := mm_dk kX4_openingFinding_1 26 rfl
theorem dX4_openingFinding_112 : decode cX4_openingFinding 112 = .ok (.iconst 3, 1) := mm_dk kX4_openingFinding_1 27 rfl
theorem dX4_openingFinding_113 : decode cX4_openingFinding 113 = .ok (.ireturn, 1) := mm_dk kX4_openingFinding_1 28 rfl
theorem dX4_openingFinding_114 : decode cX4_openingFinding 114 = .ok (.aload_n 0, 1) := mm_dk kX4_openingFinding_1 29 rfl
theorem dX4_openingFinding_115 : decode cX4_openingFinding 115 = .ok (.getfield 15, 3) := mm_dk kX4_openingFinding_1 30 rfl
theorem dX4_openingFinding_118 : decode cX4_openingFinding 118 = .ok (.iconst 2, 1) := mm_dk kX4_openingFinding_1 31 rfl
theorem dX4_openingFinding_119 : decode cX4_openingFinding 119 = .ok (.baload, 1) := mm_dk kX4_openingFinding_1 32 rfl
theorem dX4_openingFinding_120 : decode cX4_openingFinding 120 = .ok (.aload_n 0, 1) := mm_dk kX4_openingFinding_1 33 rfl
theorem dX4_openingFinding_121 : decode cX4_openingFinding 121 = .ok (.invokevirtual 44, 3) := mm_dk kX4_openingFinding_1 34 rfl
theorem dX4_openingFinding_124 : decode cX4_openingFinding 124 = .ok (.ifCond .eq 8, 3) := mm_dk kX4_openingFinding_1 35 rfl
theorem dX4_openingFinding_127 : decode cX4_openingFinding 127 = .ok (.bipush 28, 2) := mm_dk kX4_openingFinding_1 36 rfl
theorem dX4_openingFinding_129 : decode cX4_openingFinding 129 = .ok (.goto 4, 3) := mm_dk kX4_openingFinding_1 37 rfl
theorem dX4_openingFinding_132 : decode cX4_openingFinding 132 = .ok (.iconst 2, 1) := mm_dk kX4_openingFinding_1 38 rfl
theorem dX4_openingFinding_133 : decode cX4_openingFinding 133 = .ok (.if_icmp .ge 8, 3) := mm_dk kX4_openingFinding_1 39 rfl
set_option maxRecDepth 100000 in
theorem kX4_openingFinding_2 : ([(136, .bipush 6, 2), (138, .goto 4, 3), (141, .iconst 0, 1), (142, .ireturn, 1)] : List (Nat × Instr × Nat)).all (fun x => decide (decode cX4_openingFinding x.1 = .ok x.2)) = true := by decide +kernel
theorem dX4_openingFinding_136 : decode cX4_openingFinding 136 = .ok (.bipush 6, 2) := mm_dk kX4_openingFinding_2 0 rfl
theorem dX4_openingFinding_138 : decode cX4_openingFinding 138 = .ok (.goto 4, 3) := mm_dk kX4_openingFinding_2 1 rfl
theorem dX4_openingFinding_141 : decode cX4_openingFinding 141 = .ok (.iconst 0, 1) := mm_dk kX4_openingFinding_2 2 rfl
theorem dX4_openingFinding_142 : decode cX4_openingFinding 142 = .ok (.ireturn, 1) := mm_dk kX4_openingFinding_2 3 rfl
set_option maxRecDepth 100000 in
theorem kX4_at_0 : ([(0, .aload_n 0, 1), (1, .getfield 15, 3), (4, .ifnull 16, 3), (7, .iload_n 1, 1), (8, .ifCond .lt 12, 3), (11, .iload_n 1, 1), (12, .aload_n 0, 1), (13, .getfield 15, 3), (16, .arraylength, 1), (17, .if_icmp .lt 7, 3), (20, .iconst 0, 1), (21, .goto 13, 3), (24, .aload_n 0, 1), (25, .getfield 15, 3), (28, .iload_n 1, 1), (29, .baload, 1), (30, .sipush 255, 3), (33, .iand, 1), (34, .ireturn, 1)] : List (Nat × Instr × Nat)).all (fun x => decide (decode cX4_at x.1 = .ok x.2)) = true := by decide +kernel
theorem dX4_at_0 : decode cX4_at 0 = .ok (.aload_n 0, 1) := mm_dk kX4_at_0 0 rfl
theorem dX4_at_1 : decode cX4_at 1 = .ok (.getfield 15, 3) := mm_dk kX4_at_0 1 rfl
theorem dX4_at_4 : decode cX4_at 4 = .ok (.ifnull 16, 3) := mm_dk kX4_at_0 2 rfl
theorem dX4_at_7 : decode cX4_at 7 = .ok (.iload_n 1, 1) := mm_dk kX4_at_0 3 rfl
theorem dX4_at_8 : decode cX4_at 8 = .ok (.ifCond .lt 12, 3) := mm_dk kX4_at_0 4 rfl
theorem dX4_at_11 : decode cX4_at 11 = .ok (.iload_n 1, 1) := mm_dk kX4_at_0 5 rfl
theorem dX4_at_12 : decode cX4_at 12 = .ok (.aload_n 0, 1) := mm_dk kX4_at_0 6 rfl
theorem dX4_at_13 : decode cX4_at 13 = .ok (.getfield 15, 3) := mm_dk kX4_at_0 7 rfl
theorem dX4_at_16 : decode cX4_at 16 = .ok (.arraylength, 1) := mm_dk kX4_at_0 8 rfl
theorem dX4_at_17 : decode cX4_at 17 = .ok (.if_icmp .lt 7, 3) := mm_dk kX4_at_0 9 rfl
theorem dX4_at_20 : decode cX4_at 20 = .ok (.iconst 0, 1) := mm_dk kX4_at_0 10 rfl
theorem dX4_at_21 : decode cX4_at 21 = .ok (.goto 13, 3) := mm_dk kX4_at_0 11 rfl
theorem dX4_at_24 : decode cX4_at 24 = .ok (.aload_n 0, 1) := mm_dk kX4_at_0 12 rfl
theorem dX4_at_25 : decode cX4_at 25 = .ok (.getfield 15, 3) := mm_dk kX4_at_0 13 rfl
theorem dX4_at_28 : decode cX4_at 28 = .ok (.iload_n 1, 1) := mm_dk kX4_at_0 14 rfl
theorem dX4_at_29 : decode cX4_at 29 = .ok (.baload, 1) := mm_dk kX4_at_0 15 rfl
theorem dX4_at_30 : decode cX4_at 30 = .ok (.sipush 255, 3) := mm_dk kX4_at_0 16 rfl
theorem dX4_at_33 : decode cX4_at 33 = .ok (.iand, 1) := mm_dk kX4_at_0 17 rfl
theorem dX4_at_34 : decode cX4_at 34 = .ok (.ireturn, 1) := mm_dk kX4_at_0 18 rfl
set_option maxRecDepth 100000 in
theorem kX4_isVoice_0 : ([(0, .aload_n 0, 1), (1, .iconst 0, 1), (2, .invokevirtual 48, 3), (5, .iconst 1, 1), (6, .iand, 1), (7, .iconst 1, 1), (8, .if_icmp .ne 7, 3), (11, .iconst 1, 1), (12, .goto 4, 3), (15, .iconst 0, 1), (16, .ireturn, 1)] : List (Nat × Instr × Nat)).all (fun x => decide (decode cX4_isVoice x.1 = .ok x.2)) = true := by decide +kernel
theorem dX4_isVoice_0 : decode cX4_isVoice 0 = .ok (.aload_n 0, 1) := mm_dk kX4_isVoice_0 0 rfl
theorem dX4_isVoice_1 : decode cX4_isVoice 1 = .ok (.iconst 0, 1) := mm_dk kX4_isVoice_0 1 rfl
theorem dX4_isVoice_2 : decode cX4_isVoice 2 = .ok (.invokevirtual 48, 3) := mm_dk kX4_isVoice_0 2 rfl
theorem dX4_isVoice_5 : decode cX4_isVoice 5 = .ok (.iconst 1, 1) := mm_dk kX4_isVoice_0 3 rfl
theorem dX4_isVoice_6 : decode cX4_isVoice 6 = .ok (.iand, 1) := mm_dk kX4_isVoice_0 4 rfl
theorem dX4_isVoice_7 : decode cX4_isVoice 7 = .ok (.iconst 1, 1) := mm_dk kX4_isVoice_0 5 rfl
theorem dX4_isVoice_8 : decode cX4_isVoice 8 = .ok (.if_icmp .ne 7, 3) := mm_dk kX4_isVoice_0 6 rfl
theorem dX4_isVoice_11 : decode cX4_isVoice 11 = .ok (.iconst 1, 1) := mm_dk kX4_isVoice_0 7 rfl
theorem dX4_isVoice_12 : decode cX4_isVoice 12 = .ok (.goto 4, 3) := mm_dk kX4_isVoice_0 8 rfl
theorem dX4_isVoice_15 : decode cX4_isVoice 15 = .ok (.iconst 0, 1) := mm_dk kX4_isVoice_0 9 rfl
theorem dX4_isVoice_16 : decode cX4_isVoice 16 = .ok (.ireturn, 1) := mm_dk kX4_isVoice_0 10 rfl
set_option maxRecDepth 100000 in
theorem kX4_spareBytes_0 : ([(0, .aload_n 0, 1), (1, .iconst 5, 1), (2, .invokevirtual 48, 3), (5, .ireturn, 1)] : List (Nat × Instr × Nat)).all (fun x => decide (decode cX4_spareBytes x.1 = .ok x.2)) = true := by decide +kernel
theorem dX4_spareBytes_0 : decode cX4_spareBytes 0 = .ok (.aload_n 0, 1) := mm_dk kX4_spareBytes_0 0 rfl
theorem dX4_spareBytes_1 : decode cX4_spareBytes 1 = .ok (.iconst 5, 1) := mm_dk kX4_spareBytes_0 1 rfl
theorem dX4_spareBytes_2 : decode cX4_spareBytes 2 = .ok (.invokevirtual 48, 3) := mm_dk kX4_spareBytes_0 2 rfl
theorem dX4_spareBytes_5 : decode cX4_spareBytes 5 = .ok (.ireturn, 1) := mm_dk kX4_spareBytes_0 3 rfl
set_option maxRecDepth 100000 in
theorem kX4_spare_0 : ([(0, .aload_n 0, 1), (1, .bipush 6, 2), (3, .aload_n 0, 1), (4, .iconst 2, 1), (5, .invokevirtual 48, 3), (8, .iadd, 1), (9, .iload_n 1, 1), (10, .iadd, 1), (11, .invokevirtual 48, 3), (14, .ireturn, 1)] : List (Nat × Instr × Nat)).all (fun x => decide (decode cX4_spare x.1 = .ok x.2)) = true := by decide +kernel
theorem dX4_spare_0 : decode cX4_spare 0 = .ok (.aload_n 0, 1) := mm_dk kX4_spare_0 0 rfl
theorem dX4_spare_1 : decode cX4_spare 1 = .ok (.bipush 6, 2) := mm_dk kX4_spare_0 1 rfl
theorem dX4_spare_3 : decode cX4_spare 3 = .ok (.aload_n 0, 1) := mm_dk kX4_spare_0 2 rfl
theorem dX4_spare_4 : decode cX4_spare 4 = .ok (.iconst 2, 1) := mm_dk kX4_spare_0 3 rfl
theorem dX4_spare_5 : decode cX4_spare 5 = .ok (.invokevirtual 48, 3) := mm_dk kX4_spare_0 4 rfl
theorem dX4_spare_8 : decode cX4_spare 8 = .ok (.iadd, 1) := mm_dk kX4_spare_0 5 rfl
theorem dX4_spare_9 : decode cX4_spare 9 = .ok (.iload_n 1, 1) := mm_dk kX4_spare_0 6 rfl
theorem dX4_spare_10 : decode cX4_spare 10 = .ok (.iadd, 1) := mm_dk kX4_spare_0 7 rfl
theorem dX4_spare_11 : decode cX4_spare 11 = .ok (.invokevirtual 48, 3) := mm_dk kX4_spare_0 8 rfl
theorem dX4_spare_14 : decode cX4_spare 14 = .ok (.ireturn, 1) := mm_dk kX4_spare_0 9 rfl
set_option maxRecDepth 100000 in
theorem kX5_init_0 : ([(0, .aload_n 0, 1), (1, .invokespecial 3, 3), (4, .aload_n 0, 1), (5, .sipush 250, 3), (8, .anewarray 9, 3), (11, .putfield 11, 3), (14, .return_, 1)] : List (Nat × Instr × Nat)).all (fun x => decide (decode cX5_init x.1 = .ok x.2)) = true := by decide +kernel
theorem dX5_init_0 : decode cX5_init 0 = .ok (.aload_n 0, 1) := mm_dk kX5_init_0 0 rfl
theorem dX5_init_1 : decode cX5_init 1 = .ok (.invokespecial 3, 3) := mm_dk kX5_init_0 1 rfl
theorem dX5_init_4 : decode cX5_init 4 = .ok (.aload_n 0, 1) := mm_dk kX5_init_0 2 rfl
theorem dX5_init_5 : decode cX5_init 5 = .ok (.sipush 250, 3) := mm_dk kX5_init_0 3 rfl
theorem dX5_init_8 : decode cX5_init 8 = .ok (.anewarray 9, 3) := mm_dk kX5_init_0 4 rfl
theorem dX5_init_11 : decode cX5_init 11 = .ok (.putfield 11, 3) := mm_dk kX5_init_0 5 rfl
theorem dX5_init_14 : decode cX5_init 14 = .ok (.return_, 1) := mm_dk kX5_init_0 6 rfl
set_option maxRecDepth 100000 in
theorem kX5_isFull_0 : ([(0, .aload_n 0, 1), (1, .getfield 17, 3), (4, .sipush 250, 3), (7, .if_icmp .lt 7, 3), (10, .iconst 1, 1), (11, .goto 4, 3), (14, .iconst 0, 1), (15, .ireturn, 1)] : List (Nat × Instr × Nat)).all (fun x => decide (decode cX5_isFull x.1 = .ok x.2)) = true := by decide +kernel
theorem dX5_isFull_0 : decode cX5_isFull 0 = .ok (.aload_n 0, 1) := mm_dk kX5_isFull_0 0 rfl
theorem dX5_isFull_1 : decode cX5_isFull 1 = .ok (.getfield 17, 3) := mm_dk kX5_isFull_0 1 rfl
theorem dX5_isFull_4 : decode cX5_isFull 4 = .ok (.sipush 250, 3) := mm_dk kX5_isFull_0 2 rfl
theorem dX5_isFull_7 : decode cX5_isFull 7 = .ok (.if_icmp .lt 7, 3) := mm_dk kX5_isFull_0 3 rfl
theorem dX5_isFull_10 : decode cX5_isFull 10 = .ok (.iconst 1, 1) := mm_dk kX5_isFull_0 4 rfl
theorem dX5_isFull_11 : decode cX5_isFull 11 = .ok (.goto 4, 3) := mm_dk kX5_isFull_0 5 rfl
theorem dX5_isFull_14 : decode cX5_isFull 14 = .ok (.iconst 0, 1) := mm_dk kX5_isFull_0 6 rfl
theorem dX5_isFull_15 : decode cX5_isFull 15 = .ok (.ireturn, 1) := mm_dk kX5_isFull_0 7 rfl
set_option maxRecDepth 100000 in
theorem kX5_insert_0 : ([(0, .aload_n 0, 1), (1, .invokevirtual 21, 3), (4, .ifCond .ne 15, 3), (7, .iload_n 1, 1), (8, .ifCond .lt 11, 3), (11, .iload_n 1, 1), (12, .aload_n 0, 1), (13, .getfield 17, 3), (16, .if_icmp .le 4, 3), (19, .return_, 1), (20, .aload_n 0, 1), (21, .getfield 17, 3), (24, .istore_n 3, 1), (25, .iload_n 3, 1), (26, .iload_n 1, 1), (27, .if_icmp .le 23, 3), (30, .aload_n 0, 1), (31, .getfield 11, 3), (34, .iload_n 3, 1), (35, .aload_n 0, 1), (36, .getfield 11, 3), (39, .iload_n 3, 1), (40, .iconst 1, 1), (41, .isub, 1), (42, .aaload, 1), (43, .aastore, 1), (44, .iinc 3 (-1), 3), (47, .goto (-22), 3), (50, .aload_n 0, 1), (51, .getfield 11, 3), (54, .iload_n 1, 1), (55, .aload_n 2, 1), (56, .aastore, 1), (57, .aload_n 0, 1), (58, .dup, 1), (59, .getfield 17, 3), (62, .iconst 1, 1), (63, .iadd, 1), (64, .putfield 17, 3), (67, .return_, 1)] : List (Nat × Instr × Nat)).all (fun x => decide (decode cX5_insert x.1 = .ok x.2)) = true := by decide +kernel
theorem dX5_insert_0 : decode cX5_insert 0 = .ok (.aload_n 0, 1) := mm_dk kX5_insert_0 0 rfl
theorem dX5_insert_1 : decode cX5_insert 1 = .ok (.invokevirtual 21, 3) := mm_dk kX5_insert_0 1 rfl
theorem dX5_insert_4 : decode cX5_insert 4 = .ok (.ifCond .ne 15, 3) := mm_dk kX5_insert_0 2 rfl
theorem dX5_insert_7 : decode cX5_insert 7 = .ok (.iload_n 1, 1) := mm_dk kX5_insert_0 3 rfl
theorem dX5_insert_8 : decode cX5_insert 8 = .ok (.ifCond .lt 11, 3) := mm_dk kX5_insert_0 4 rfl
theorem dX5_insert_11 : decode cX5_insert 11 = .ok (.iload_n 1, 1) := mm_dk kX5_insert_0 5 rfl
theorem dX5_insert_12 : decode cX5_insert 12 = .ok (.aload_n 0, 1) := mm_dk kX5_insert_0 6 rfl
theorem dX5_insert_13 : decode cX5_insert 13 = .ok (.getfield 17, 3) := mm_dk kX5_insert_0 7 rfl
theorem dX5_insert_16 : decode cX5_insert 16 = .ok (.if_icmp .le 4, 3) := mm_dk kX5_insert_0 8 rfl
theorem dX5_insert_19 : decode cX5_insert 19 = .ok (.return_, 1) := mm_dk kX5_insert_0 9 rfl
theorem dX5_insert_20 : decode cX5_insert 20 = .ok (.aload_n 0, 1) := mm_dk kX5_insert_0 10 rfl
theorem dX5_insert_21 : decode cX5_insert 21 = .ok (.getfield 17, 3) := mm_dk kX5_insert_0 11 rfl
theorem dX5_insert_24 : decode cX5_insert 24 = .ok (.istore_n 3, 1) := mm_dk kX5_insert_0 12 rfl
theorem dX5_insert_25 : decode cX5_insert 25 = .ok (.iload_n 3, 1) := mm_dk kX5_insert_0 13 rfl
theorem dX5_insert_26 : decode cX5_insert 26 = .ok (.iload_n 1, 1) := mm_dk kX5_insert_0 14 rfl
theorem dX5_insert_27 : decode cX5_insert 27 = .ok (.if_icmp .le 23, 3) := mm_dk kX5_insert_0 15 rfl
theorem dX5_insert_30 : decode cX5_insert 30 = .ok (.aload_n 0, 1) := mm_dk kX5_insert_0 16 rfl
theorem dX5_insert_31 : decode cX5_insert 31 = .ok (.getfield 11, 3) := mm_dk kX5_insert_0 17 rfl
theorem dX5_insert_34 : decode cX5_insert 34 = .ok (.iload_n 3, 1) := mm_dk kX5_insert_0 18 rfl
theorem dX5_insert_35 : decode cX5_insert 35 = .ok (.aload_n 0, 1) := mm_dk kX5_insert_0 19 rfl
theorem dX5_insert_36 : decode cX5_insert 36 = .ok (.getfield 11, 3) := mm_dk kX5_insert_0 20 rfl
theorem dX5_insert_39 : decode cX5_insert 39 = .ok (.iload_n 3, 1) := mm_dk kX5_insert_0 21 rfl
theorem dX5_insert_40 : decode cX5_insert 40 = .ok (.iconst 1, 1) := mm_dk kX5_insert_0 22 rfl
theorem dX5_insert_41 : decode cX5_insert 41 = .ok (.isub, 1) := mm_dk kX5_insert_0 23 rfl
theorem dX5_insert_42 : decode cX5_insert 42 = .ok (.aaload, 1) := mm_dk kX5_insert_0 24 rfl
theorem dX5_insert_43 : decode cX5_insert 43 = .ok (.aastore, 1) := mm_dk kX5_insert_0 25 rfl
theorem dX5_insert_44 : decode cX5_insert 44 = .ok (.iinc 3 (-1), 3) := mm_dk kX5_insert_0 26 rfl
theorem dX5_insert_47 : decode cX5_insert 47 = .ok (.goto (-22), 3) := mm_dk kX5_insert_0 27 rfl
theorem dX5_insert_50 : decode cX5_insert 50 = .ok (.aload_n 0, 1) := mm_dk kX5_insert_0 28 rfl
theorem dX5_insert_51 : decode cX5_insert 51 = .ok (.getfield 11, 3) := mm_dk kX5_insert_0 29 rfl
theorem dX5_insert_54 : decode cX5_insert 54 = .ok (.iload_n 1, 1) := mm_dk kX5_insert_0 30 rfl
theorem dX5_insert_55 : decode cX5_insert 55 = .ok (.aload_n 2, 1) := mm_dk kX5_insert_0 31 rfl
theorem dX5_insert_56 : decode cX5_insert 56 = .ok (.aastore, 1) := mm_dk kX5_insert_0 32 rfl
theorem dX5_insert_57 : decode cX5_insert 57 = .ok (.aload_n 0, 1) := mm_dk kX5_insert_0 33 rfl
theorem dX5_insert_58 : decode cX5_insert 58 = .ok (.dup, 1) := mm_dk kX5_insert_0 34 rfl
theorem dX5_insert_59 : decode cX5_insert 59 = .ok (.getfield 17, 3) := mm_dk kX5_insert_0 35 rfl
theorem dX5_insert_62 : decode cX5_insert 62 = .ok (.iconst 1, 1) := mm_dk kX5_insert_0 36 rfl
theorem dX5_insert_63 : decode cX5_insert 63 = .ok (.iadd, 1) := mm_dk kX5_insert_0 37 rfl
theorem dX5_insert_64 : decode cX5_insert 64 = .ok (.putfield 17, 3) := mm_dk kX5_insert_0 38 rfl
theorem dX5_insert_67 : decode cX5_insert 67 = .ok (.return_, 1) := mm_dk kX5_insert_0 39 rfl
set_option maxRecDepth 100000 in
theorem kX5_remove_0 : ([(0, .iload_n 1, 1), (1, .ifCond .lt 11, 3), (4, .iload_n 1, 1), (5, .aload_n 0, 1), (6, .getfield 17, 3), (9, .if_icmp .lt 4, 3), (12, .return_, 1), (13, .aload_n 0, 1), (14, .dup, 1), (15, .getfield 17, 3), (18, .iconst 1, 1), (19, .isub, 1), (20, .putfield 17, 3), (23, .iload_n 1, 1), (24, .istore_n 2, 1), (25, .iload_n 2, 1), (26, .aload_n 0, 1), (27, .getfield 17, 3), (30, .if_icmp .ge 23, 3), (33, .aload_n 0, 1), (34, .getfield 11, 3), (37, .iload_n 2, 1), (38, .aload_n 0, 1), (39, .getfield 11, 3), (42, .iload_n 2, 1), (43, .iconst 1, 1), (44, .iadd, 1), (45, .aaload, 1), (46, .aastore, 1), (47, .iinc 2 1, 3), (50, .goto (-25), 3), (53, .aload_n 0, 1), (54, .getfield 11, 3), (57, .aload_n 0, 1), (58, .getfield 17, 3), (61, .aconst_null, 1), (62, .aastore, 1), (63, .return_, 1)] : List (Nat × Instr × Nat)).all (fun x => decide (decode cX5_remove x.1 = .ok x.2)) = true := by decide +kernel
theorem dX5_remove_0 : decode cX5_remove 0 = .ok (.iload_n 1, 1) := mm_dk kX5_remove_0 0 rfl
theorem dX5_remove_1 : decode cX5_remove 1 = .ok (.ifCond .lt 11, 3) := mm_dk kX5_remove_0 1 rfl
theorem dX5_remove_4 : decode cX5_remove 4 = .ok (.iload_n 1, 1) := mm_dk kX5_remove_0 2 rfl
theorem dX5_remove_5 : decode cX5_remove 5 = .ok (.aload_n 0, 1) := mm_dk kX5_remove_0 3 rfl
theorem dX5_remove_6 : decode cX5_remove 6 = .ok (.getfield 17, 3) := mm_dk kX5_remove_0 4 rfl
theorem dX5_remove_9 : decode cX5_remove 9 = .ok (.if_icmp .lt 4, 3) := mm_dk kX5_remove_0 5 rfl
theorem dX5_remove_12 : decode cX5_remove 12 = .ok (.return_, 1) := mm_dk kX5_remove_0 6 rfl
theorem dX5_remove_13 : decode cX5_remove 13 = .ok (.aload_n 0, 1) := mm_dk kX5_remove_0 7 rfl
theorem dX5_remove_14 : decode cX5_remove 14 = .ok (.dup, 1) := mm_dk kX5_remove_0 8 rfl
theorem dX5_remove_15 : decode cX5_remove 15 = .ok (.getfield 17, 3) := mm_dk kX5_remove_0 9 rfl
theorem dX5_remove_18 : decode cX5_remove 18 = .ok (.iconst 1, 1) := mm_dk kX5_remove_0 10 rfl
theorem dX5_remove_19 : decode cX5_remove 19 = .ok (.isub, 1) := mm_dk kX5_remove_0 11 rfl
theorem dX5_remove_20 : decode cX5_remove 20 = .ok (.putfield 17, 3) := mm_dk kX5_remove_0 12 rfl
theorem dX5_remove_23 : decode cX5_remove 23 = .ok (.iload_n 1, 1) := mm_dk kX5_remove_0 13 rfl
theorem dX5_remove_24 : decode cX5_remove 24 = .ok (.istore_n 2, 1) := mm_dk kX5_remove_0 14 rfl
theorem dX5_remove_25 : decode cX5_remove 25 = .ok (.iload_n 2, 1) := mm_dk kX5_remove_0 15 rfl
theorem dX5_remove_26 : decode cX5_remove 26 = .ok (.aload_n 0, 1) := mm_dk kX5_remove_0 16 rfl
theorem dX5_remove_27 : decode cX5_remove 27 = .ok (.getfield 17, 3) := mm_dk kX5_remove_0 17 rfl
theorem dX5_remove_30 : decode cX5_remove 30 = .ok (.if_icmp .ge 23, 3) := mm_dk kX5_remove_0 18 rfl
theorem dX5_remove_33 : decode cX5_remove 33 = .ok (.aload_n 0, 1) := mm_dk kX5_remove_0 19 rfl
theorem dX5_remove_34 : decode cX5_remove 34 = .ok (.getfield 11, 3) := mm_dk kX5_remove_0 20 rfl
theorem dX5_remove_37 : decode cX5_remove 37 = .ok (.iload_n 2, 1) := mm_dk kX5_remove_0 21 rfl
theorem dX5_remove_38 : decode cX5_remove 38 = .ok (.aload_n 0, 1) := mm_dk kX5_remove_0 22 rfl
theorem dX5_remove_39 : decode cX5_remove 39 = .ok (.getfield 11, 3) := mm_dk kX5_remove_0 23 rfl
theorem dX5_remove_42 : decode cX5_remove 42 = .ok (.iload_n 2, 1) := mm_dk kX5_remove_0 24 rfl
theorem dX5_remove_43 : decode cX5_remove 43 = .ok (.iconst 1, 1) := mm_dk kX5_remove_0 25 rfl
theorem dX5_remove_44 : decode cX5_remove 44 = .ok (.iadd, 1) := mm_dk kX5_remove_0 26 rfl
theorem dX5_remove_45 : decode cX5_remove 45 = .ok (.aaload, 1) := mm_dk kX5_remove_0 27 rfl
theorem dX5_remove_46 : decode cX5_remove 46 = .ok (.aastore, 1) := mm_dk kX5_remove_0 28 rfl
theorem dX5_remove_47 : decode cX5_remove 47 = .ok (.iinc 2 1, 3) := mm_dk kX5_remove_0 29 rfl
theorem dX5_remove_50 : decode cX5_remove 50 = .ok (.goto (-25), 3) := mm_dk kX5_remove_0 30 rfl
theorem dX5_remove_53 : decode cX5_remove 53 = .ok (.aload_n 0, 1) := mm_dk kX5_remove_0 31 rfl
theorem dX5_remove_54 : decode cX5_remove 54 = .ok (.getfield 11, 3) := mm_dk kX5_remove_0 32 rfl
theorem dX5_remove_57 : decode cX5_remove 57 = .ok (.aload_n 0, 1) := mm_dk kX5_remove_0 33 rfl
theorem dX5_remove_58 : decode cX5_remove 58 = .ok (.getfield 17, 3) := mm_dk kX5_remove_0 34 rfl
theorem dX5_remove_61 : decode cX5_remove 61 = .ok (.aconst_null, 1) := mm_dk kX5_remove_0 35 rfl
theorem dX5_remove_62 : decode cX5_remove 62 = .ok (.aastore, 1) := mm_dk kX5_remove_0 36 rfl
theorem dX5_remove_63 : decode cX5_remove 63 = .ok (.return_, 1) := mm_dk kX5_remove_0 37 rfl
set_option maxRecDepth 100000 in
theorem kX5_placeOf_0 : ([(0, .iconst 0, 1), (1, .istore_n 2, 1), (2, .iload_n 2, 1), (3, .aload_n 0, 1), (4, .getfield 17, 3), (7, .if_icmp .ge 24, 3), (10, .aload_n 0, 1), (11, .getfield 11, 3), (14, .iload_n 2, 1), (15, .aaload, 1), (16, .getfield 25, 3), (19, .iload_n 1, 1), (20, .if_icmp .ne 5, 3), (23, .iload_n 2, 1), (24, .ireturn, 1), (25, .iinc 2 1, 3), (28, .goto (-26), 3), (31, .iconst (-1), 1), (32, .ireturn, 1)] : List (Nat × Instr × Nat)).all (fun x => decide (decode cX5_placeOf x.1 = .ok x.2)) = true := by decide +kernel
theorem dX5_placeOf_0 : decode cX5_placeOf 0 = .ok (.iconst 0, 1) := mm_dk kX5_placeOf_0 0 rfl
theorem dX5_placeOf_1 : decode cX5_placeOf 1 = .ok (.istore_n 2, 1) := mm_dk kX5_placeOf_0 1 rfl
theorem dX5_placeOf_2 : decode cX5_placeOf 2 = .ok (.iload_n 2, 1) := mm_dk kX5_placeOf_0 2 rfl
theorem dX5_placeOf_3 : decode cX5_placeOf 3 = .ok (.aload_n 0, 1) := mm_dk kX5_placeOf_0 3 rfl
theorem dX5_placeOf_4 : decode cX5_placeOf 4 = .ok (.getfield 17, 3) := mm_dk kX5_placeOf_0 4 rfl
theorem dX5_placeOf_7 : decode cX5_placeOf 7 = .ok (.if_icmp .ge 24, 3) := mm_dk kX5_placeOf_0 5 rfl
theorem dX5_placeOf_10 : decode cX5_placeOf 10 = .ok (.aload_n 0, 1) := mm_dk kX5_placeOf_0 6 rfl
theorem dX5_placeOf_11 : decode cX5_placeOf 11 = .ok (.getfield 11, 3) := mm_dk kX5_placeOf_0 7 rfl
theorem dX5_placeOf_14 : decode cX5_placeOf 14 = .ok (.iload_n 2, 1) := mm_dk kX5_placeOf_0 8 rfl
theorem dX5_placeOf_15 : decode cX5_placeOf 15 = .ok (.aaload, 1) := mm_dk kX5_placeOf_0 9 rfl
theorem dX5_placeOf_16 : decode cX5_placeOf 16 = .ok (.getfield 25, 3) := mm_dk kX5_placeOf_0 10 rfl
theorem dX5_placeOf_19 : decode cX5_placeOf 19 = .ok (.iload_n 1, 1) := mm_dk kX5_placeOf_0 11 rfl
theorem dX5_placeOf_20 : decode cX5_placeOf 20 = .ok (.if_icmp .ne 5, 3) := mm_dk kX5_placeOf_0 12 rfl
theorem dX5_placeOf_23 : decode cX5_placeOf 23 = .ok (.iload_n 2, 1) := mm_dk kX5_placeOf_0 13 rfl
theorem dX5_placeOf_24 : decode cX5_placeOf 24 = .ok (.ireturn, 1) := mm_dk kX5_placeOf_0 14 rfl
theorem dX5_placeOf_25 : decode cX5_placeOf 25 = .ok (.iinc 2 1, 3) := mm_dk kX5_placeOf_0 15 rfl
theorem dX5_placeOf_28 : decode cX5_placeOf 28 = .ok (.goto (-26), 3) := mm_dk kX5_placeOf_0 16 rfl
theorem dX5_placeOf_31 : decode cX5_placeOf 31 = .ok (.iconst (-1), 1) := mm_dk kX5_placeOf_0 17 rfl
theorem dX5_placeOf_32 : decode cX5_placeOf 32 = .ok (.ireturn, 1) := mm_dk kX5_placeOf_0 18 rfl
set_option maxRecDepth 100000 in
theorem kX5_first_0 : ([(0, .aload_n 0, 1), (1, .iload_n 1, 1), (2, .invokevirtual 28, 3), (5, .istore_n 2, 1), (6, .iload_n 2, 1), (7, .ifCond .ge 7, 3), (10, .aconst_null, 1), (11, .goto 9, 3), (14, .aload_n 0, 1), (15, .getfield 11, 3), (18, .iload_n 2, 1), (19, .aaload, 1), (20, .areturn, 1)] : List (Nat × Instr × Nat)).all (fun x => decide (decode cX5_first x.1 = .ok x.2)) = true := by decide +kernel
theorem dX5_first_0 : decode cX5_first 0 = .ok (.aload_n 0, 1) := mm_dk kX5_first_0 0 rfl
theorem dX5_first_1 : decode cX5_first 1 = .ok (.iload_n 1, 1) := mm_dk kX5_first_0 1 rfl
theorem dX5_first_2 : decode cX5_first 2 = .ok (.invokevirtual 28, 3) := mm_dk kX5_first_0 2 rfl
theorem dX5_first_5 : decode cX5_first 5 = .ok (.istore_n 2, 1) := mm_dk kX5_first_0 3 rfl
theorem dX5_first_6 : decode cX5_first 6 = .ok (.iload_n 2, 1) := mm_dk kX5_first_0 4 rfl
theorem dX5_first_7 : decode cX5_first 7 = .ok (.ifCond .ge 7, 3) := mm_dk kX5_first_0 5 rfl
theorem dX5_first_10 : decode cX5_first 10 = .ok (.aconst_null, 1) := mm_dk kX5_first_0 6 rfl
theorem dX5_first_11 : decode cX5_first 11 = .ok (.goto 9, 3) := mm_dk kX5_first_0 7 rfl
theorem dX5_first_14 : decode cX5_first 14 = .ok (.aload_n 0, 1) := mm_dk kX5_first_0 8 rfl
theorem dX5_first_15 : decode cX5_first 15 = .ok (.getfield 11, 3) := mm_dk kX5_first_0 9 rfl
theorem dX5_first_18 : decode cX5_first 18 = .ok (.iload_n 2, 1) := mm_dk kX5_first_0 10 rfl
theorem dX5_first_19 : decode cX5_first 19 = .ok (.aaload, 1) := mm_dk kX5_first_0 11 rfl
theorem dX5_first_20 : decode cX5_first 20 = .ok (.areturn, 1) := mm_dk kX5_first_0 12 rfl
set_option maxRecDepth 100000 in
theorem kX5_takeFirst_0 : ([(0, .aload_n 0, 1), (1, .iload_n 1, 1), (2, .invokevirtual 28, 3), (5, .istore_n 2, 1), (6, .iload_n 2, 1), (7, .ifCond .ge 5, 3), (10, .aconst_null, 1), (11, .areturn, 1), (12, .aload_n 0, 1), (13, .getfield 11, 3), (16, .iload_n 2, 1), (17, .aaload, 1), (18, .astore_n 3, 1), (19, .aload_n 0, 1), (20, .iload_n 2, 1), (21, .invokevirtual 32, 3), (24, .aload_n 3, 1), (25, .areturn, 1)] : List (Nat × Instr × Nat)).all (fun x => decide (decode cX5_takeFirst x.1 = .ok x.2)) = true := by decide +kernel
theorem dX5_takeFirst_0 : decode cX5_takeFirst 0 = .ok (.aload_n 0, 1) := mm_dk kX5_takeFirst_0 0 rfl
theorem dX5_takeFirst_1 : decode cX5_takeFirst 1 = .ok (.iload_n 1, 1) := mm_dk kX5_takeFirst_0 1 rfl
theorem dX5_takeFirst_2 : decode cX5_takeFirst 2 = .ok (.invokevirtual 28, 3) := mm_dk kX5_takeFirst_0 2 rfl
theorem dX5_takeFirst_5 : decode cX5_takeFirst 5 = .ok (.istore_n 2, 1) := mm_dk kX5_takeFirst_0 3 rfl
theorem dX5_takeFirst_6 : decode cX5_takeFirst 6 = .ok (.iload_n 2, 1) := mm_dk kX5_takeFirst_0 4 rfl
theorem dX5_takeFirst_7 : decode cX5_takeFirst 7 = .ok (.ifCond .ge 5, 3) := mm_dk kX5_takeFirst_0 5 rfl
theorem dX5_takeFirst_10 : decode cX5_takeFirst 10 = .ok (.aconst_null, 1) := mm_dk kX5_takeFirst_0 6 rfl
theorem dX5_takeFirst_11 : decode cX5_takeFirst 11 = .ok (.areturn, 1) := mm_dk kX5_takeFirst_0 7 rfl
theorem dX5_takeFirst_12 : decode cX5_takeFirst 12 = .ok (.aload_n 0, 1) := mm_dk kX5_takeFirst_0 8 rfl
theorem dX5_takeFirst_13 : decode cX5_takeFirst 13 = .ok (.getfield 11, 3) := mm_dk kX5_takeFirst_0 9 rfl
theorem dX5_takeFirst_16 : decode cX5_takeFirst 16 = .ok (.iload_n 2, 1) := mm_dk kX5_takeFirst_0 10 rfl
theorem dX5_takeFirst_17 : decode cX5_takeFirst 17 = .ok (.aaload, 1) := mm_dk kX5_takeFirst_0 11 rfl
theorem dX5_takeFirst_18 : decode cX5_takeFirst 18 = .ok (.astore_n 3, 1) := mm_dk kX5_takeFirst_0 12 rfl
theorem dX5_takeFirst_19 : decode cX5_takeFirst 19 = .ok (.aload_n 0, 1) := mm_dk kX5_takeFirst_0 13 rfl
theorem dX5_takeFirst_20 : decode cX5_takeFirst 20 = .ok (.iload_n 2, 1) := mm_dk kX5_takeFirst_0 14 rfl
theorem dX5_takeFirst_21 : decode cX5_takeFirst 21 = .ok (.invokevirtual 32, 3) := mm_dk kX5_takeFirst_0 15 rfl
theorem dX5_takeFirst_24 : decode cX5_takeFirst 24 = .ok (.aload_n 3, 1) := mm_dk kX5_takeFirst_0 16 rfl
theorem dX5_takeFirst_25 : decode cX5_takeFirst 25 = .ok (.areturn, 1) := mm_dk kX5_takeFirst_0 17 rfl
set_option maxRecDepth 100000 in
theorem kX5_removeLate_0 : ([(0, .iconst 0, 1), (1, .istore_n 2, 1), (2, .aload_n 0, 1), (3, .getfield 17, 3), (6, .iconst 1, 1), (7, .isub, 1), (8, .istore_n 3, 1), (9, .iload_n 3, 1), (10, .ifCond .lt 36, 3), (13, .aload_n 0, 1), (14, .getfield 11, 3), (17, .iload_n 3, 1), (18, .aaload, 1), (19, .getfield 25, 3), (22, .iload_n 1, 1), (23, .isub, 1), (24, .ldc 36, 2), (26, .iand, 1), (27, .ldc 37, 2), (29, .if_icmp .lt 11, 3), (32, .aload_n 0, 1), (33, .iload_n 3, 1), (34, .invokevirtual 32, 3), (37, .iinc 2 1, 3), (40, .iinc 3 (-1), 3), (43, .goto (-34), 3), (46, .iload_n 2, 1), (47, .ireturn, 1)] : List (Nat × Instr × Nat)).all (fun x => decide (decode cX5_removeLate x.1 = .ok x.2)) = true := by decide +kernel
theorem dX5_removeLate_0 : decode cX5_removeLate 0 = .ok (.iconst 0, 1) := mm_dk kX5_removeLate_0 0 rfl
theorem dX5_removeLate_1 : decode cX5_removeLate 1 = .ok (.istore_n 2, 1) := mm_dk kX5_removeLate_0 1 rfl
theorem dX5_removeLate_2 : decode cX5_removeLate 2 = .ok (.aload_n 0, 1) := mm_dk kX5_removeLate_0 2 rfl
theorem dX5_removeLate_3 : decode cX5_removeLate 3 = .ok (.getfield 17, 3) := mm_dk kX5_removeLate_0 3 rfl
theorem dX5_removeLate_6 : decode cX5_removeLate 6 = .ok (.iconst 1, 1) := mm_dk kX5_removeLate_0 4 rfl
theorem dX5_removeLate_7 : decode cX5_removeLate 7 = .ok (.isub, 1) := mm_dk kX5_removeLate_0 5 rfl
theorem dX5_removeLate_8 : decode cX5_removeLate 8 = .ok (.istore_n 3, 1) := mm_dk kX5_removeLate_0 6 rfl
theorem dX5_removeLate_9 : decode cX5_removeLate 9 = .ok (.iload_n 3, 1) := mm_dk kX5_removeLate_0 7 rfl
theorem dX5_removeLate_10 : decode cX5_removeLate 10 = .ok (.ifCond .lt 36, 3) := mm_dk kX5_removeLate_0 8 rfl
theorem dX5_removeLate_13 : decode cX5_removeLate 13 = .ok (.aload_n 0, 1) := mm_dk kX5_removeLate_0 9 rfl
theorem dX5_removeLate_14 : decode cX5_removeLate 14 = .ok (.getfield 11, 3) := mm_dk kX5_removeLate_0 10 rfl
theorem dX5_removeLate_17 : decode cX5_removeLate 17 = .ok (.iload_n 3, 1) := mm_dk kX5_removeLate_0 11 rfl
theorem dX5_removeLate_18 : decode cX5_removeLate 18 = .ok (.aaload, 1) := mm_dk kX5_removeLate_0 12 rfl
theorem dX5_removeLate_19 : decode cX5_removeLate 19 = .ok (.getfield 25, 3) := mm_dk kX5_removeLate_0 13 rfl
theorem dX5_removeLate_22 : decode cX5_removeLate 22 = .ok (.iload_n 1, 1) := mm_dk kX5_removeLate_0 14 rfl
theorem dX5_removeLate_23 : decode cX5_removeLate 23 = .ok (.isub, 1) := mm_dk kX5_removeLate_0 15 rfl
theorem dX5_removeLate_24 : decode cX5_removeLate 24 = .ok (.ldc 36, 2) := mm_dk kX5_removeLate_0 16 rfl
theorem dX5_removeLate_26 : decode cX5_removeLate 26 = .ok (.iand, 1) := mm_dk kX5_removeLate_0 17 rfl
theorem dX5_removeLate_27 : decode cX5_removeLate 27 = .ok (.ldc 37, 2) := mm_dk kX5_removeLate_0 18 rfl
theorem dX5_removeLate_29 : decode cX5_removeLate 29 = .ok (.if_icmp .lt 11, 3) := mm_dk kX5_removeLate_0 19 rfl
theorem dX5_removeLate_32 : decode cX5_removeLate 32 = .ok (.aload_n 0, 1) := mm_dk kX5_removeLate_0 20 rfl
theorem dX5_removeLate_33 : decode cX5_removeLate 33 = .ok (.iload_n 3, 1) := mm_dk kX5_removeLate_0 21 rfl
theorem dX5_removeLate_34 : decode cX5_removeLate 34 = .ok (.invokevirtual 32, 3) := mm_dk kX5_removeLate_0 22 rfl
theorem dX5_removeLate_37 : decode cX5_removeLate 37 = .ok (.iinc 2 1, 3) := mm_dk kX5_removeLate_0 23 rfl
theorem dX5_removeLate_40 : decode cX5_removeLate 40 = .ok (.iinc 3 (-1), 3) := mm_dk kX5_removeLate_0 24 rfl
theorem dX5_removeLate_43 : decode cX5_removeLate 43 = .ok (.goto (-34), 3) := mm_dk kX5_removeLate_0 25 rfl
theorem dX5_removeLate_46 : decode cX5_removeLate 46 = .ok (.iload_n 2, 1) := mm_dk kX5_removeLate_0 26 rfl
theorem dX5_removeLate_47 : decode cX5_removeLate 47 = .ok (.ireturn, 1) := mm_dk kX5_removeLate_0 27 rfl
set_option maxRecDepth 100000 in
theorem kX6_init_0 : ([(0, .aload_n 0, 1), (1, .invokespecial 3, 3), (4, .aload_n 0, 1), (5, .sipush 160, 3), (8, .newarray .int, 2), (10, .putfield 9, 3), (13, .aload_n 0, 1), (14, .bipush 8, 2), (16, .newarray .int, 2), (18, .putfield 15, 3), (21, .aload_n 0, 1), (22, .bipush 8, 2), (24, .newarray .int, 2), (26, .putfield 18, 3), (29, .aload_n 0, 1), (30, .bipush 40, 2), (32, .putfield 21, 3), (35, .aload_n 0, 1), (36, .aload_n 1, 1), (37, .putfield 25, 3), (40, .aload_n 0, 1), (41, .aload_n 2, 1), (42, .putfield 29, 3), (45, .return_, 1)] : List (Nat × Instr × Nat)).all (fun x => decide (decode cX6_init x.1 = .ok x.2)) = true := by decide +kernel
theorem dX6_init_0 : decode cX6_init 0 = .ok (.aload_n 0, 1) := mm_dk kX6_init_0 0 rfl
theorem dX6_init_1 : decode cX6_init 1 = .ok (.invokespecial 3, 3) := mm_dk kX6_init_0 1 rfl
theorem dX6_init_4 : decode cX6_init 4 = .ok (.aload_n 0, 1) := mm_dk kX6_init_0 2 rfl
theorem dX6_init_5 : decode cX6_init 5 = .ok (.sipush 160, 3) := mm_dk kX6_init_0 3 rfl
theorem dX6_init_8 : decode cX6_init 8 = .ok (.newarray .int, 2) := mm_dk kX6_init_0 4 rfl
theorem dX6_init_10 : decode cX6_init 10 = .ok (.putfield 9, 3) := mm_dk kX6_init_0 5 rfl
theorem dX6_init_13 : decode cX6_init 13 = .ok (.aload_n 0, 1) := mm_dk kX6_init_0 6 rfl
theorem dX6_init_14 : decode cX6_init 14 = .ok (.bipush 8, 2) := mm_dk kX6_init_0 7 rfl
theorem dX6_init_16 : decode cX6_init 16 = .ok (.newarray .int, 2) := mm_dk kX6_init_0 8 rfl
theorem dX6_init_18 : decode cX6_init 18 = .ok (.putfield 15, 3) := mm_dk kX6_init_0 9 rfl
theorem dX6_init_21 : decode cX6_init 21 = .ok (.aload_n 0, 1) := mm_dk kX6_init_0 10 rfl
theorem dX6_init_22 : decode cX6_init 22 = .ok (.bipush 8, 2) := mm_dk kX6_init_0 11 rfl
theorem dX6_init_24 : decode cX6_init 24 = .ok (.newarray .int, 2) := mm_dk kX6_init_0 12 rfl
theorem dX6_init_26 : decode cX6_init 26 = .ok (.putfield 18, 3) := mm_dk kX6_init_0 13 rfl
theorem dX6_init_29 : decode cX6_init 29 = .ok (.aload_n 0, 1) := mm_dk kX6_init_0 14 rfl
theorem dX6_init_30 : decode cX6_init 30 = .ok (.bipush 40, 2) := mm_dk kX6_init_0 15 rfl
theorem dX6_init_32 : decode cX6_init 32 = .ok (.putfield 21, 3) := mm_dk kX6_init_0 16 rfl
theorem dX6_init_35 : decode cX6_init 35 = .ok (.aload_n 0, 1) := mm_dk kX6_init_0 17 rfl
theorem dX6_init_36 : decode cX6_init 36 = .ok (.aload_n 1, 1) := mm_dk kX6_init_0 18 rfl
theorem dX6_init_37 : decode cX6_init 37 = .ok (.putfield 25, 3) := mm_dk kX6_init_0 19 rfl
theorem dX6_init_40 : decode cX6_init 40 = .ok (.aload_n 0, 1) := mm_dk kX6_init_0 20 rfl
theorem dX6_init_41 : decode cX6_init 41 = .ok (.aload_n 2, 1) := mm_dk kX6_init_0 21 rfl
theorem dX6_init_42 : decode cX6_init 42 = .ok (.putfield 29, 3) := mm_dk kX6_init_0 22 rfl
theorem dX6_init_45 : decode cX6_init 45 = .ok (.return_, 1) := mm_dk kX6_init_0 23 rfl
set_option maxRecDepth 100000 in
theorem kX6_speak_0 : ([(0, .aload_n 0, 1), (1, .getfield 9, 3), (4, .aload_n 1, 1), (5, .getfield 33, 3), (8, .aload_n 0, 1), (9, .getfield 29, 3), (12, .getfield 36, 3), (15, .iload_n 2, 1), (16, .invokestatic 41, 3), (19, .aload_n 1, 1), (20, .aload_n 0, 1), (21, .getfield 29, 3), (24, .getfield 45, 3), (27, .iload_n 2, 1), (28, .invokevirtual 48, 3), (31, .getstatic 52, 3), (34, .aload_n 1, 1), (35, .getfield 55, 3), (38, .iaload, 1), (39, .istore 4, 2), (41, .iconst 0, 1), (42, .istore 5, 2), (44, .iload 5, 2), (46, .iload_n 2, 1), (47, .if_icmp .ge 66, 3), (50, .iconst 5, 1), (51, .aload_n 1, 1), (52, .getfield 58, 3), (55, .imul, 1), (56, .aload_n 0, 1), (57, .getfield 29, 3), (60, .getfield 36, 3), (63, .iload 5, 2), (65, .iaload, 1), (66, .imul, 1), (67, .iconst 5, 1), (68, .ishr, 1), (69, .istore 6, 2), (71, .aload_n 0, 1), (72, .getfield 29, 3)] : List (Nat × Instr × Nat)).all (fun x => decide (decode cX6_speak x.1 = .ok x.2)) = true := by decide +kernel
theorem dX6_speak_0 : decode cX6_speak 0 = .ok (.aload_n 0, 1) := mm_dk kX6_speak_0 0 rfl
theorem dX6_speak_1 : decode cX6_speak 1 = .ok (.getfield 9, 3) := mm_dk kX6_speak_0 1 rfl
theorem dX6_speak_4 : decode cX6_speak 4 = .ok (.aload_n 1, 1) := mm_dk kX6_speak_0 2 rfl
theorem dX6_speak_5 : decode cX6_speak 5 = .ok (.getfield 33, 3) := mm_dk kX6_speak_0 3 rfl
theorem dX6_speak_8 : decode cX6_speak 8 = .ok (.aload_n 0, 1) := mm_dk kX6_speak_0 4 rfl
theorem dX6_speak_9 : decode cX6_speak 9 = .ok (.getfield 29, 3) := mm_dk kX6_speak_0 5 rfl
theorem dX6_speak_12 : decode cX6_speak 12 = .ok (.getfield 36, 3) := mm_dk kX6_speak_0 6 rfl
theorem dX6_speak_15 : decode cX6_speak 15 = .ok (.iload_n 2, 1) := mm_dk kX6_speak_0 7 rfl
theorem dX6_speak_16 : decode cX6_speak 16 = .ok (.invokestatic 41, 3) := mm_dk kX6_speak_0 8 rfl
theorem dX6_speak_19 : decode cX6_speak 19 = .ok (.aload_n 1, 1) := mm_dk kX6_speak_0 9 rfl
theorem dX6_speak_20 : decode cX6_speak 20 = .ok (.aload_n 0, 1) := mm_dk kX6_speak_0 10 rfl
theorem dX6_speak_21 : decode cX6_speak 21 = .ok (.getfield 29, 3) := mm_dk kX6_speak_0 11 rfl
theorem dX6_speak_24 : decode cX6_speak 24 = .ok (.getfield 45, 3) := mm_dk kX6_speak_0 12 rfl
theorem dX6_speak_27 : decode cX6_speak 27 = .ok (.iload_n 2, 1) := mm_dk kX6_speak_0 13 rfl
theorem dX6_speak_28 : decode cX6_speak 28 = .ok (.invokevirtual 48, 3) := mm_dk kX6_speak_0 14 rfl
theorem dX6_speak_31 : decode cX6_speak 31 = .ok (.getstatic 52, 3) := mm_dk kX6_speak_0 15 rfl
theorem dX6_speak_34 : decode cX6_speak 34 = .ok (.aload_n 1, 1) := mm_dk kX6_speak_0 16 rfl
theorem dX6_speak_35 : decode cX6_speak 35 = .ok (.getfield 55, 3) := mm_dk kX6_speak_0 17 rfl
theorem dX6_speak_38 : decode cX6_speak 38 = .ok (.iaload, 1) := mm_dk kX6_speak_0 18 rfl
theorem dX6_speak_39 : decode cX6_speak 39 = .ok (.istore 4, 2) := mm_dk kX6_speak_0 19 rfl
theorem dX6_speak_41 : decode cX6_speak 41 = .ok (.iconst 0, 1) := mm_dk kX6_speak_0 20 rfl
theorem dX6_speak_42 : decode cX6_speak 42 = .ok (.istore 5, 2) := mm_dk kX6_speak_0 21 rfl
theorem dX6_speak_44 : decode cX6_speak 44 = .ok (.iload 5, 2) := mm_dk kX6_speak_0 22 rfl
theorem dX6_speak_46 : decode cX6_speak 46 = .ok (.iload_n 2, 1) := mm_dk kX6_speak_0 23 rfl
theorem dX6_speak_47 : decode cX6_speak 47 = .ok (.if_icmp .ge 66, 3) := mm_dk kX6_speak_0 24 rfl
theorem dX6_speak_50 : decode cX6_speak 50 = .ok (.iconst 5, 1) := mm_dk kX6_speak_0 25 rfl
theorem dX6_speak_51 : decode cX6_speak 51 = .ok (.aload_n 1, 1) := mm_dk kX6_speak_0 26 rfl
theorem dX6_speak_52 : decode cX6_speak 52 = .ok (.getfield 58, 3) := mm_dk kX6_speak_0 27 rfl
theorem dX6_speak_55 : decode cX6_speak 55 = .ok (.imul, 1) := mm_dk kX6_speak_0 28 rfl
theorem dX6_speak_56 : decode cX6_speak 56 = .ok (.aload_n 0, 1) := mm_dk kX6_speak_0 29 rfl
theorem dX6_speak_57 : decode cX6_speak 57 = .ok (.getfield 29, 3) := mm_dk kX6_speak_0 30 rfl
theorem dX6_speak_60 : decode cX6_speak 60 = .ok (.getfield 36, 3) := mm_dk kX6_speak_0 31 rfl
theorem dX6_speak_63 : decode cX6_speak 63 = .ok (.iload 5, 2) := mm_dk kX6_speak_0 32 rfl
theorem dX6_speak_65 : decode cX6_speak 65 = .ok (.iaload, 1) := mm_dk kX6_speak_0 33 rfl
theorem dX6_speak_66 : decode cX6_speak 66 = .ok (.imul, 1) := mm_dk kX6_speak_0 34 rfl
theorem dX6_speak_67 : decode cX6_speak 67 = .ok (.iconst 5, 1) := mm_dk kX6_speak_0 35 rfl
theorem dX6_speak_68 : decode cX6_speak 68 = .ok (.ishr, 1) := mm_dk kX6_speak_0 36 rfl
theorem dX6_speak_69 : decode cX6_speak 69 = .ok (.istore 6, 2) := mm_dk kX6_speak_0 37 rfl
theorem dX6_speak_71 : decode cX6_speak 71 = .ok (.aload_n 0, 1) := mm_dk kX6_speak_0 38 rfl
theorem dX6_speak_72 : decode cX6_speak 72 = .ok (.getfield 29, 3) := mm_dk kX6_speak_0 39 rfl
set_option maxRecDepth 100000 in
theorem kX6_speak_1 : ([(75, .getfield 61, 3), (78, .iload 5, 2), (80, .aload_n 0, 1), (81, .getfield 25, 3), (84, .iload 6, 2), (86, .iload 4, 2), (88, .aload_n 0, 1), (89, .getfield 29, 3), (92, .getfield 45, 3), (95, .iload 5, 2), (97, .iaload, 1), (98, .imul, 1), (99, .iconst 5, 1), (100, .ishr, 1), (101, .iadd, 1), (102, .i2l, 1), (103, .invokevirtual 64, 3), (106, .iastore, 1), (107, .iinc 5 1, 3), (110, .goto (-66), 3), (113, .aload_n 0, 1), (114, .iload_n 2, 1), (115, .iload_n 3, 1), (116, .invokevirtual 70, 3), (119, .return_, 1)] : List (Nat × Instr × Nat)).all (fun x => decide (decode cX6_speak x.1 = .ok x.2)) = true := by decide +kernel
theorem dX6_speak_75 : decode cX6_speak 75 = .ok (.getfield 61, 3) := mm_dk kX6_speak_1 0 rfl
theorem dX6_speak_78 : decode cX6_speak 78 = .ok (.iload 5, 2) := mm_dk kX6_speak_1 1 rfl
theorem dX6_speak_80 : decode cX6_speak 80 = .ok (.aload_n 0, 1) := mm_dk kX6_speak_1 2 rfl
theorem dX6_speak_81 : decode cX6_speak 81 = .ok (.getfield 25, 3) := mm_dk kX6_speak_1 3 rfl
theorem dX6_speak_84 : decode cX6_speak 84 = .ok (.iload 6, 2) := mm_dk kX6_speak_1 4 rfl
theorem dX6_speak_86 : decode cX6_speak 86 = .ok (.iload 4, 2) := mm_dk kX6_speak_1 5 rfl
theorem dX6_speak_88 : decode cX6_speak 88 = .ok (.aload_n 0, 1) := mm_dk kX6_speak_1 6 rfl
theorem dX6_speak_89 : decode cX6_speak 89 = .ok (.getfield 29, 3) := mm_dk kX6_speak_1 7 rfl
theorem dX6_speak_92 : decode cX6_speak 92 = .ok (.getfield 45, 3) := mm_dk kX6_speak_1 8 rfl
theorem dX6_speak_95 : decode cX6_speak 95 = .ok (.iload 5, 2) := mm_dk kX6_speak_1 9 rfl
theorem dX6_speak_97 : decode cX6_speak 97 = .ok (.iaload, 1) := mm_dk kX6_speak_1 10 rfl
theorem dX6_speak_98 : decode cX6_speak 98 = .ok (.imul, 1) := mm_dk kX6_speak_1 11 rfl
theorem dX6_speak_99 : decode cX6_speak 99 = .ok (.iconst 5, 1) := mm_dk kX6_speak_1 12 rfl
theorem dX6_speak_100 : decode cX6_speak 100 = .ok (.ishr, 1) := mm_dk kX6_speak_1 13 rfl
theorem dX6_speak_101 : decode cX6_speak 101 = .ok (.iadd, 1) := mm_dk kX6_speak_1 14 rfl
theorem dX6_speak_102 : decode cX6_speak 102 = .ok (.i2l, 1) := mm_dk kX6_speak_1 15 rfl
theorem dX6_speak_103 : decode cX6_speak 103 = .ok (.invokevirtual 64, 3) := mm_dk kX6_speak_1 16 rfl
theorem dX6_speak_106 : decode cX6_speak 106 = .ok (.iastore, 1) := mm_dk kX6_speak_1 17 rfl
theorem dX6_speak_107 : decode cX6_speak 107 = .ok (.iinc 5 1, 3) := mm_dk kX6_speak_1 18 rfl
theorem dX6_speak_110 : decode cX6_speak 110 = .ok (.goto (-66), 3) := mm_dk kX6_speak_1 19 rfl
theorem dX6_speak_113 : decode cX6_speak 113 = .ok (.aload_n 0, 1) := mm_dk kX6_speak_1 20 rfl
theorem dX6_speak_114 : decode cX6_speak 114 = .ok (.iload_n 2, 1) := mm_dk kX6_speak_1 21 rfl
theorem dX6_speak_115 : decode cX6_speak 115 = .ok (.iload_n 3, 1) := mm_dk kX6_speak_1 22 rfl
theorem dX6_speak_116 : decode cX6_speak 116 = .ok (.invokevirtual 70, 3) := mm_dk kX6_speak_1 23 rfl
theorem dX6_speak_119 : decode cX6_speak 119 = .ok (.return_, 1) := mm_dk kX6_speak_1 24 rfl
set_option maxRecDepth 100000 in
theorem kX6_echo_0 : ([(0, .aload_n 0, 1), (1, .getfield 9, 3), (4, .aload_n 0, 1), (5, .getfield 21, 3), (8, .aload_n 0, 1), (9, .getfield 29, 3), (12, .getfield 36, 3), (15, .iload_n 2, 1), (16, .invokestatic 41, 3), (19, .iconst 0, 1), (20, .istore 4, 2), (22, .iload 4, 2), (24, .iload_n 2, 1), (25, .if_icmp .ge 41, 3), (28, .aload_n 0, 1), (29, .getfield 29, 3), (32, .getfield 61, 3), (35, .iload 4, 2), (37, .aload_n 0, 1), (38, .getfield 25, 3), (41, .iload_n 1, 1), (42, .aload_n 0, 1), (43, .getfield 29, 3), (46, .getfield 36, 3), (49, .iload 4, 2), (51, .iaload, 1), (52, .imul, 1), (53, .iconst 5, 1), (54, .ishr, 1), (55, .i2l, 1), (56, .invokevirtual 64, 3), (59, .iastore, 1), (60, .iinc 4 1, 3), (63, .goto (-41), 3), (66, .aload_n 0, 1), (67, .iload_n 2, 1), (68, .iload_n 3, 1), (69, .invokevirtual 70, 3), (72, .return_, 1)] : List (Nat × Instr × Nat)).all (fun x => decide (decode cX6_echo x.1 = .ok x.2)) = true := by decide +kernel
theorem dX6_echo_0 : decode cX6_echo 0 = .ok (.aload_n 0, 1) := mm_dk kX6_echo_0 0 rfl
theorem dX6_echo_1 : decode cX6_echo 1 = .ok (.getfield 9, 3) := mm_dk kX6_echo_0 1 rfl
theorem dX6_echo_4 : decode cX6_echo 4 = .ok (.aload_n 0, 1) := mm_dk kX6_echo_0 2 rfl
theorem dX6_echo_5 : decode cX6_echo 5 = .ok (.getfield 21, 3) := mm_dk kX6_echo_0 3 rfl
theorem dX6_echo_8 : decode cX6_echo 8 = .ok (.aload_n 0, 1) := mm_dk kX6_echo_0 4 rfl
theorem dX6_echo_9 : decode cX6_echo 9 = .ok (.getfield 29, 3) := mm_dk kX6_echo_0 5 rfl
theorem dX6_echo_12 : decode cX6_echo 12 = .ok (.getfield 36, 3) := mm_dk kX6_echo_0 6 rfl
theorem dX6_echo_15 : decode cX6_echo 15 = .ok (.iload_n 2, 1) := mm_dk kX6_echo_0 7 rfl
theorem dX6_echo_16 : decode cX6_echo 16 = .ok (.invokestatic 41, 3) := mm_dk kX6_echo_0 8 rfl
theorem dX6_echo_19 : decode cX6_echo 19 = .ok (.iconst 0, 1) := mm_dk kX6_echo_0 9 rfl
theorem dX6_echo_20 : decode cX6_echo 20 = .ok (.istore 4, 2) := mm_dk kX6_echo_0 10 rfl
theorem dX6_echo_22 : decode cX6_echo 22 = .ok (.iload 4, 2) := mm_dk kX6_echo_0 11 rfl
theorem dX6_echo_24 : decode cX6_echo 24 = .ok (.iload_n 2, 1) := mm_dk kX6_echo_0 12 rfl
theorem dX6_echo_25 : decode cX6_echo 25 = .ok (.if_icmp .ge 41, 3) := mm_dk kX6_echo_0 13 rfl
theorem dX6_echo_28 : decode cX6_echo 28 = .ok (.aload_n 0, 1) := mm_dk kX6_echo_0 14 rfl
theorem dX6_echo_29 : decode cX6_echo 29 = .ok (.getfield 29, 3) := mm_dk kX6_echo_0 15 rfl
theorem dX6_echo_32 : decode cX6_echo 32 = .ok (.getfield 61, 3) := mm_dk kX6_echo_0 16 rfl
theorem dX6_echo_35 : decode cX6_echo 35 = .ok (.iload 4, 2) := mm_dk kX6_echo_0 17 rfl
theorem dX6_echo_37 : decode cX6_echo 37 = .ok (.aload_n 0, 1) := mm_dk kX6_echo_0 18 rfl
theorem dX6_echo_38 : decode cX6_echo 38 = .ok (.getfield 25, 3) := mm_dk kX6_echo_0 19 rfl
theorem dX6_echo_41 : decode cX6_echo 41 = .ok (.iload_n 1, 1) := mm_dk kX6_echo_0 20 rfl
theorem dX6_echo_42 : decode cX6_echo 42 = .ok (.aload_n 0, 1) := mm_dk kX6_echo_0 21 rfl
theorem dX6_echo_43 : decode cX6_echo 43 = .ok (.getfield 29, 3) := mm_dk kX6_echo_0 22 rfl
theorem dX6_echo_46 : decode cX6_echo 46 = .ok (.getfield 36, 3) := mm_dk kX6_echo_0 23 rfl
theorem dX6_echo_49 : decode cX6_echo 49 = .ok (.iload 4, 2) := mm_dk kX6_echo_0 24 rfl
theorem dX6_echo_51 : decode cX6_echo 51 = .ok (.iaload, 1) := mm_dk kX6_echo_0 25 rfl
theorem dX6_echo_52 : decode cX6_echo 52 = .ok (.imul, 1) := mm_dk kX6_echo_0 26 rfl
theorem dX6_echo_53 : decode cX6_echo 53 = .ok (.iconst 5, 1) := mm_dk kX6_echo_0 27 rfl
theorem dX6_echo_54 : decode cX6_echo 54 = .ok (.ishr, 1) := mm_dk kX6_echo_0 28 rfl
theorem dX6_echo_55 : decode cX6_echo 55 = .ok (.i2l, 1) := mm_dk kX6_echo_0 29 rfl
theorem dX6_echo_56 : decode cX6_echo 56 = .ok (.invokevirtual 64, 3) := mm_dk kX6_echo_0 30 rfl
theorem dX6_echo_59 : decode cX6_echo 59 = .ok (.iastore, 1) := mm_dk kX6_echo_0 31 rfl
theorem dX6_echo_60 : decode cX6_echo 60 = .ok (.iinc 4 1, 3) := mm_dk kX6_echo_0 32 rfl
theorem dX6_echo_63 : decode cX6_echo 63 = .ok (.goto (-41), 3) := mm_dk kX6_echo_0 33 rfl
theorem dX6_echo_66 : decode cX6_echo 66 = .ok (.aload_n 0, 1) := mm_dk kX6_echo_0 34 rfl
theorem dX6_echo_67 : decode cX6_echo 67 = .ok (.iload_n 2, 1) := mm_dk kX6_echo_0 35 rfl
theorem dX6_echo_68 : decode cX6_echo 68 = .ok (.iload_n 3, 1) := mm_dk kX6_echo_0 36 rfl
theorem dX6_echo_69 : decode cX6_echo 69 = .ok (.invokevirtual 70, 3) := mm_dk kX6_echo_0 37 rfl
theorem dX6_echo_72 : decode cX6_echo 72 = .ok (.return_, 1) := mm_dk kX6_echo_0 38 rfl
set_option maxRecDepth 100000 in
theorem kX6_hush_0 : ([(0, .aload_n 0, 1), (1, .getfield 18, 3), (4, .iconst 0, 1), (5, .invokestatic 74, 3), (8, .iload_n 1, 1), (9, .i2l, 1), (10, .lstore 4, 2), (12, .iconst 0, 1), (13, .istore 6, 2), (15, .iload 6, 2), (17, .iconst 4, 1), (18, .if_icmp .ge 68, 3), (21, .iconst 0, 1), (22, .istore 7, 2), (24, .iload 7, 2), (26, .iload_n 3, 1), (27, .if_icmp .ge 44, 3), (30, .lload 4, 2), (32, .invokestatic 79, 3), (35, .lstore 4, 2), (37, .aload_n 0, 1), (38, .getfield 29, 3), (41, .getfield 61, 3), (44, .iload 7, 2), (46, .aload_n 0, 1), (47, .getfield 25, 3), (50, .lload 4, 2), (52, .invokestatic 83, 3), (55, .iload_n 2, 1), (56, .imul, 1), (57, .bipush 8, 2), (59, .ishr, 1), (60, .i2l, 1), (61, .invokevirtual 64, 3), (64, .iastore, 1), (65, .iinc 7 1, 3), (68, .goto (-44), 3), (71, .aload_n 0, 1), (72, .iload_n 3, 1), (73, .iload 6, 2)] : List (Nat × Instr × Nat)).all (fun x => decide (decode cX6_hush x.1 = .ok x.2)) = true := by decide +kernel
theorem dX6_hush_0 : decode cX6_hush 0 = .ok (.aload_n 0, 1) := mm_dk kX6_hush_0 0 rfl
theorem dX6_hush_1 : decode cX6_hush 1 = .ok (.getfield 18, 3) := mm_dk kX6_hush_0 1 rfl
theorem dX6_hush_4 : decode cX6_hush 4 = .ok (.iconst 0, 1) := mm_dk kX6_hush_0 2 rfl
theorem dX6_hush_5 : decode cX6_hush 5 = .ok (.invokestatic 74, 3) := mm_dk kX6_hush_0 3 rfl
theorem dX6_hush_8 : decode cX6_hush 8 = .ok (.iload_n 1, 1) := mm_dk kX6_hush_0 4 rfl
theorem dX6_hush_9 : decode cX6_hush 9 = .ok (.i2l, 1) := mm_dk kX6_hush_0 5 rfl
theorem dX6_hush_10 : decode cX6_hush 10 = .ok (.lstore 4, 2) := mm_dk kX6_hush_0 6 rfl
theorem dX6_hush_12 : decode cX6_hush 12 = .ok (.iconst 0, 1) := mm_dk kX6_hush_0 7 rfl
theorem dX6_hush_13 : decode cX6_hush 13 = .ok (.istore 6, 2) := mm_dk kX6_hush_0 8 rfl
theorem dX6_hush_15 : decode cX6_hush 15 = .ok (.iload 6, 2) := mm_dk kX6_hush_0 9 rfl
theorem dX6_hush_17 : decode cX6_hush 17 = .ok (.iconst 4, 1) := mm_dk kX6_hush_0 10 rfl
theorem dX6_hush_18 : decode cX6_hush 18 = .ok (.if_icmp .ge 68, 3) := mm_dk kX6_hush_0 11 rfl
theorem dX6_hush_21 : decode cX6_hush 21 = .ok (.iconst 0, 1) := mm_dk kX6_hush_0 12 rfl
theorem dX6_hush_22 : decode cX6_hush 22 = .ok (.istore 7, 2) := mm_dk kX6_hush_0 13 rfl
theorem dX6_hush_24 : decode cX6_hush 24 = .ok (.iload 7, 2) := mm_dk kX6_hush_0 14 rfl
theorem dX6_hush_26 : decode cX6_hush 26 = .ok (.iload_n 3, 1) := mm_dk kX6_hush_0 15 rfl
theorem dX6_hush_27 : decode cX6_hush 27 = .ok (.if_icmp .ge 44, 3) := mm_dk kX6_hush_0 16 rfl
theorem dX6_hush_30 : decode cX6_hush 30 = .ok (.lload 4, 2) := mm_dk kX6_hush_0 17 rfl
theorem dX6_hush_32 : decode cX6_hush 32 = .ok (.invokestatic 79, 3) := mm_dk kX6_hush_0 18 rfl
theorem dX6_hush_35 : decode cX6_hush 35 = .ok (.lstore 4, 2) := mm_dk kX6_hush_0 19 rfl
theorem dX6_hush_37 : decode cX6_hush 37 = .ok (.aload_n 0, 1) := mm_dk kX6_hush_0 20 rfl
theorem dX6_hush_38 : decode cX6_hush 38 = .ok (.getfield 29, 3) := mm_dk kX6_hush_0 21 rfl
theorem dX6_hush_41 : decode cX6_hush 41 = .ok (.getfield 61, 3) := mm_dk kX6_hush_0 22 rfl
theorem dX6_hush_44 : decode cX6_hush 44 = .ok (.iload 7, 2) := mm_dk kX6_hush_0 23 rfl
theorem dX6_hush_46 : decode cX6_hush 46 = .ok (.aload_n 0, 1) := mm_dk kX6_hush_0 24 rfl
theorem dX6_hush_47 : decode cX6_hush 47 = .ok (.getfield 25, 3) := mm_dk kX6_hush_0 25 rfl
theorem dX6_hush_50 : decode cX6_hush 50 = .ok (.lload 4, 2) := mm_dk kX6_hush_0 26 rfl
theorem dX6_hush_52 : decode cX6_hush 52 = .ok (.invokestatic 83, 3) := mm_dk kX6_hush_0 27 rfl
theorem dX6_hush_55 : decode cX6_hush 55 = .ok (.iload_n 2, 1) := mm_dk kX6_hush_0 28 rfl
theorem dX6_hush_56 : decode cX6_hush 56 = .ok (.imul, 1) := mm_dk kX6_hush_0 29 rfl
theorem dX6_hush_57 : decode cX6_hush 57 = .ok (.bipush 8, 2) := mm_dk kX6_hush_0 30 rfl
theorem dX6_hush_59 : decode cX6_hush 59 = .ok (.ishr, 1) := mm_dk kX6_hush_0 31 rfl
theorem dX6_hush_60 : decode cX6_hush 60 = .ok (.i2l, 1) := mm_dk kX6_hush_0 32 rfl
theorem dX6_hush_61 : decode cX6_hush 61 = .ok (.invokevirtual 64, 3) := mm_dk kX6_hush_0 33 rfl
theorem dX6_hush_64 : decode cX6_hush 64 = .ok (.iastore, 1) := mm_dk kX6_hush_0 34 rfl
theorem dX6_hush_65 : decode cX6_hush 65 = .ok (.iinc 7 1, 3) := mm_dk kX6_hush_0 35 rfl
theorem dX6_hush_68 : decode cX6_hush 68 = .ok (.goto (-44), 3) := mm_dk kX6_hush_0 36 rfl
theorem dX6_hush_71 : decode cX6_hush 71 = .ok (.aload_n 0, 1) := mm_dk kX6_hush_0 37 rfl
theorem dX6_hush_72 : decode cX6_hush 72 = .ok (.iload_n 3, 1) := mm_dk kX6_hush_0 38 rfl
theorem dX6_hush_73 : decode cX6_hush 73 = .ok (.iload 6, 2) := mm_dk kX6_hush_0 39 rfl
set_option maxRecDepth 100000 in
theorem kX6_hush_1 : ([(75, .iload_n 3, 1), (76, .imul, 1), (77, .invokevirtual 70, 3), (80, .iinc 6 1, 3), (83, .goto (-68), 3), (86, .return_, 1)] : List (Nat × Instr × Nat)).all (fun x => decide (decode cX6_hush x.1 = .ok x.2)) = true := by decide +kernel
theorem dX6_hush_75 : decode cX6_hush 75 = .ok (.iload_n 3, 1) := mm_dk kX6_hush_1 0 rfl
theorem dX6_hush_76 : decode cX6_hush 76 = .ok (.imul, 1) := mm_dk kX6_hush_1 1 rfl
theorem dX6_hush_77 : decode cX6_hush 77 = .ok (.invokevirtual 70, 3) := mm_dk kX6_hush_1 2 rfl
theorem dX6_hush_80 : decode cX6_hush 80 = .ok (.iinc 6 1, 3) := mm_dk kX6_hush_1 3 rfl
theorem dX6_hush_83 : decode cX6_hush 83 = .ok (.goto (-68), 3) := mm_dk kX6_hush_1 4 rfl
theorem dX6_hush_86 : decode cX6_hush 86 = .ok (.return_, 1) := mm_dk kX6_hush_1 5 rfl
set_option maxRecDepth 100000 in
theorem kX6_settle_0 : ([(0, .aload_n 0, 1), (1, .getfield 9, 3), (4, .iload_n 1, 1), (5, .aload_n 0, 1), (6, .getfield 9, 3), (9, .iconst 0, 1), (10, .sipush 160, 3), (13, .iload_n 1, 1), (14, .isub, 1), (15, .invokestatic 86, 3), (18, .aload_n 0, 1), (19, .getfield 29, 3), (22, .getfield 61, 3), (25, .iconst 0, 1), (26, .aload_n 0, 1), (27, .getfield 9, 3), (30, .sipush 160, 3), (33, .iload_n 1, 1), (34, .isub, 1), (35, .iload_n 1, 1), (36, .invokestatic 86, 3), (39, .iconst 0, 1), (40, .istore_n 3, 1), (41, .iload_n 3, 1), (42, .iload_n 1, 1), (43, .if_icmp .ge 33, 3), (46, .aload_n 0, 1), (47, .getfield 29, 3), (50, .getfield 92, 3), (53, .iload_n 2, 1), (54, .iload_n 3, 1), (55, .iadd, 1), (56, .aload_n 0, 1), (57, .aload_n 0, 1), (58, .getfield 29, 3), (61, .getfield 61, 3), (64, .iload_n 3, 1), (65, .iaload, 1), (66, .invokevirtual 95, 3), (69, .iastore, 1)] : List (Nat × Instr × Nat)).all (fun x => decide (decode cX6_settle x.1 = .ok x.2)) = true := by decide +kernel
theorem dX6_settle_0 : decode cX6_settle 0 = .ok (.aload_n 0, 1) := mm_dk kX6_settle_0 0 rfl
theorem dX6_settle_1 : decode cX6_settle 1 = .ok (.getfield 9, 3) := mm_dk kX6_settle_0 1 rfl
theorem dX6_settle_4 : decode cX6_settle 4 = .ok (.iload_n 1, 1) := mm_dk kX6_settle_0 2 rfl
theorem dX6_settle_5 : decode cX6_settle 5 = .ok (.aload_n 0, 1) := mm_dk kX6_settle_0 3 rfl
theorem dX6_settle_6 : decode cX6_settle 6 = .ok (.getfield 9, 3) := mm_dk kX6_settle_0 4 rfl
theorem dX6_settle_9 : decode cX6_settle 9 = .ok (.iconst 0, 1) := mm_dk kX6_settle_0 5 rfl
theorem dX6_settle_10 : decode cX6_settle 10 = .ok (.sipush 160, 3) := mm_dk kX6_settle_0 6 rfl
theorem dX6_settle_13 : decode cX6_settle 13 = .ok (.iload_n 1, 1) := mm_dk kX6_settle_0 7 rfl
theorem dX6_settle_14 : decode cX6_settle 14 = .ok (.isub, 1) := mm_dk kX6_settle_0 8 rfl
theorem dX6_settle_15 : decode cX6_settle 15 = .ok (.invokestatic 86, 3) := mm_dk kX6_settle_0 9 rfl
theorem dX6_settle_18 : decode cX6_settle 18 = .ok (.aload_n 0, 1) := mm_dk kX6_settle_0 10 rfl
theorem dX6_settle_19 : decode cX6_settle 19 = .ok (.getfield 29, 3) := mm_dk kX6_settle_0 11 rfl
theorem dX6_settle_22 : decode cX6_settle 22 = .ok (.getfield 61, 3) := mm_dk kX6_settle_0 12 rfl
theorem dX6_settle_25 : decode cX6_settle 25 = .ok (.iconst 0, 1) := mm_dk kX6_settle_0 13 rfl
theorem dX6_settle_26 : decode cX6_settle 26 = .ok (.aload_n 0, 1) := mm_dk kX6_settle_0 14 rfl
theorem dX6_settle_27 : decode cX6_settle 27 = .ok (.getfield 9, 3) := mm_dk kX6_settle_0 15 rfl
theorem dX6_settle_30 : decode cX6_settle 30 = .ok (.sipush 160, 3) := mm_dk kX6_settle_0 16 rfl
theorem dX6_settle_33 : decode cX6_settle 33 = .ok (.iload_n 1, 1) := mm_dk kX6_settle_0 17 rfl
theorem dX6_settle_34 : decode cX6_settle 34 = .ok (.isub, 1) := mm_dk kX6_settle_0 18 rfl
theorem dX6_settle_35 : decode cX6_settle 35 = .ok (.iload_n 1, 1) := mm_dk kX6_settle_0 19 rfl
theorem dX6_settle_36 : decode cX6_settle 36 = .ok (.invokestatic 86, 3) := mm_dk kX6_settle_0 20 rfl
theorem dX6_settle_39 : decode cX6_settle 39 = .ok (.iconst 0, 1) := mm_dk kX6_settle_0 21 rfl
theorem dX6_settle_40 : decode cX6_settle 40 = .ok (.istore_n 3, 1) := mm_dk kX6_settle_0 22 rfl
theorem dX6_settle_41 : decode cX6_settle 41 = .ok (.iload_n 3, 1) := mm_dk kX6_settle_0 23 rfl
theorem dX6_settle_42 : decode cX6_settle 42 = .ok (.iload_n 1, 1) := mm_dk kX6_settle_0 24 rfl
theorem dX6_settle_43 : decode cX6_settle 43 = .ok (.if_icmp .ge 33, 3) := mm_dk kX6_settle_0 25 rfl
theorem dX6_settle_46 : decode cX6_settle 46 = .ok (.aload_n 0, 1) := mm_dk kX6_settle_0 26 rfl
theorem dX6_settle_47 : decode cX6_settle 47 = .ok (.getfield 29, 3) := mm_dk kX6_settle_0 27 rfl
theorem dX6_settle_50 : decode cX6_settle 50 = .ok (.getfield 92, 3) := mm_dk kX6_settle_0 28 rfl
theorem dX6_settle_53 : decode cX6_settle 53 = .ok (.iload_n 2, 1) := mm_dk kX6_settle_0 29 rfl
theorem dX6_settle_54 : decode cX6_settle 54 = .ok (.iload_n 3, 1) := mm_dk kX6_settle_0 30 rfl
theorem dX6_settle_55 : decode cX6_settle 55 = .ok (.iadd, 1) := mm_dk kX6_settle_0 31 rfl
theorem dX6_settle_56 : decode cX6_settle 56 = .ok (.aload_n 0, 1) := mm_dk kX6_settle_0 32 rfl
theorem dX6_settle_57 : decode cX6_settle 57 = .ok (.aload_n 0, 1) := mm_dk kX6_settle_0 33 rfl
theorem dX6_settle_58 : decode cX6_settle 58 = .ok (.getfield 29, 3) := mm_dk kX6_settle_0 34 rfl
theorem dX6_settle_61 : decode cX6_settle 61 = .ok (.getfield 61, 3) := mm_dk kX6_settle_0 35 rfl
theorem dX6_settle_64 : decode cX6_settle 64 = .ok (.iload_n 3, 1) := mm_dk kX6_settle_0 36 rfl
theorem dX6_settle_65 : decode cX6_settle 65 = .ok (.iaload, 1) := mm_dk kX6_settle_0 37 rfl
theorem dX6_settle_66 : decode cX6_settle 66 = .ok (.invokevirtual 95, 3) := mm_dk kX6_settle_0 38 rfl
theorem dX6_settle_69 : decode cX6_settle 69 = .ok (.iastore, 1) := mm_dk kX6_settle_0 39 rfl
set_option maxRecDepth 100000 in
theorem kX6_settle_1 : ([(70, .iinc 3 1, 3), (73, .goto (-32), 3), (76, .return_, 1)] : List (Nat × Instr × Nat)).all (fun x => decide (decode cX6_settle x.1 = .ok x.2)) = true := by decide +kernel
theorem dX6_settle_70 : decode cX6_settle 70 = .ok (.iinc 3 1, 3) := mm_dk kX6_settle_1 0 rfl
theorem dX6_settle_73 : decode cX6_settle 73 = .ok (.goto (-32), 3) := mm_dk kX6_settle_1 1 rfl
theorem dX6_settle_76 : decode cX6_settle 76 = .ok (.return_, 1) := mm_dk kX6_settle_1 2 rfl
set_option maxRecDepth 100000 in
theorem kX6_synthesized_0 : ([(0, .iload_n 1, 1), (1, .istore_n 2, 1), (2, .bipush 8, 2), (4, .istore_n 3, 1), (5, .iload_n 3, 1), (6, .iconst 1, 1), (7, .if_icmp .lt 88, 3), (10, .sipush 1024, 3), (13, .aload_n 0, 1), (14, .getfield 18, 3), (17, .iload_n 3, 1), (18, .iconst 1, 1), (19, .isub, 1), (20, .iaload, 1), (21, .imul, 1), (22, .istore 4, 2), (24, .aload_n 0, 1), (25, .getfield 15, 3), (28, .iload_n 3, 1), (29, .iconst 1, 1), (30, .isub, 1), (31, .iaload, 1), (32, .istore 5, 2), (34, .aload_n 0, 1), (35, .getfield 25, 3), (38, .iload_n 2, 1), (39, .i2l, 1), (40, .iload 5, 2), (42, .i2l, 1), (43, .iload 4, 2), (45, .i2l, 1), (46, .invokestatic 99, 3), (49, .lsub, 1), (50, .invokevirtual 64, 3), (53, .istore_n 2, 1), (54, .aload_n 0, 1), (55, .getfield 25, 3), (58, .iload 5, 2), (60, .i2l, 1), (61, .iload_n 2, 1)] : List (Nat × Instr × Nat)).all (fun x => decide (decode cX6_synthesized x.1 = .ok x.2)) = true := by decide +kernel
theorem dX6_synthesized_0 : decode cX6_synthesized 0 = .ok (.iload_n 1, 1) := mm_dk kX6_synthesized_0 0 rfl
theorem dX6_synthesized_1 : decode cX6_synthesized 1 = .ok (.istore_n 2, 1) := mm_dk kX6_synthesized_0 1 rfl
theorem dX6_synthesized_2 : decode cX6_synthesized 2 = .ok (.bipush 8, 2) := mm_dk kX6_synthesized_0 2 rfl
theorem dX6_synthesized_4 : decode cX6_synthesized 4 = .ok (.istore_n 3, 1) := mm_dk kX6_synthesized_0 3 rfl
theorem dX6_synthesized_5 : decode cX6_synthesized 5 = .ok (.iload_n 3, 1) := mm_dk kX6_synthesized_0 4 rfl
theorem dX6_synthesized_6 : decode cX6_synthesized 6 = .ok (.iconst 1, 1) := mm_dk kX6_synthesized_0 5 rfl
theorem dX6_synthesized_7 : decode cX6_synthesized 7 = .ok (.if_icmp .lt 88, 3) := mm_dk kX6_synthesized_0 6 rfl
theorem dX6_synthesized_10 : decode cX6_synthesized 10 = .ok (.sipush 1024, 3) := mm_dk kX6_synthesized_0 7 rfl
theorem dX6_synthesized_13 : decode cX6_synthesized 13 = .ok (.aload_n 0, 1) := mm_dk kX6_synthesized_0 8 rfl
theorem dX6_synthesized_14 : decode cX6_synthesized 14 = .ok (.getfield 18, 3) := mm_dk kX6_synthesized_0 9 rfl
theorem dX6_synthesized_17 : decode cX6_synthesized 17 = .ok (.iload_n 3, 1) := mm_dk kX6_synthesized_0 10 rfl
theorem dX6_synthesized_18 : decode cX6_synthesized 18 = .ok (.iconst 1, 1) := mm_dk kX6_synthesized_0 11 rfl
theorem dX6_synthesized_19 : decode cX6_synthesized 19 = .ok (.isub, 1) := mm_dk kX6_synthesized_0 12 rfl
theorem dX6_synthesized_20 : decode cX6_synthesized 20 = .ok (.iaload, 1) := mm_dk kX6_synthesized_0 13 rfl
theorem dX6_synthesized_21 : decode cX6_synthesized 21 = .ok (.imul, 1) := mm_dk kX6_synthesized_0 14 rfl
theorem dX6_synthesized_22 : decode cX6_synthesized 22 = .ok (.istore 4, 2) := mm_dk kX6_synthesized_0 15 rfl
theorem dX6_synthesized_24 : decode cX6_synthesized 24 = .ok (.aload_n 0, 1) := mm_dk kX6_synthesized_0 16 rfl
theorem dX6_synthesized_25 : decode cX6_synthesized 25 = .ok (.getfield 15, 3) := mm_dk kX6_synthesized_0 17 rfl
theorem dX6_synthesized_28 : decode cX6_synthesized 28 = .ok (.iload_n 3, 1) := mm_dk kX6_synthesized_0 18 rfl
theorem dX6_synthesized_29 : decode cX6_synthesized 29 = .ok (.iconst 1, 1) := mm_dk kX6_synthesized_0 19 rfl
theorem dX6_synthesized_30 : decode cX6_synthesized 30 = .ok (.isub, 1) := mm_dk kX6_synthesized_0 20 rfl
theorem dX6_synthesized_31 : decode cX6_synthesized 31 = .ok (.iaload, 1) := mm_dk kX6_synthesized_0 21 rfl
theorem dX6_synthesized_32 : decode cX6_synthesized 32 = .ok (.istore 5, 2) := mm_dk kX6_synthesized_0 22 rfl
theorem dX6_synthesized_34 : decode cX6_synthesized 34 = .ok (.aload_n 0, 1) := mm_dk kX6_synthesized_0 23 rfl
theorem dX6_synthesized_35 : decode cX6_synthesized 35 = .ok (.getfield 25, 3) := mm_dk kX6_synthesized_0 24 rfl
theorem dX6_synthesized_38 : decode cX6_synthesized 38 = .ok (.iload_n 2, 1) := mm_dk kX6_synthesized_0 25 rfl
theorem dX6_synthesized_39 : decode cX6_synthesized 39 = .ok (.i2l, 1) := mm_dk kX6_synthesized_0 26 rfl
theorem dX6_synthesized_40 : decode cX6_synthesized 40 = .ok (.iload 5, 2) := mm_dk kX6_synthesized_0 27 rfl
theorem dX6_synthesized_42 : decode cX6_synthesized 42 = .ok (.i2l, 1) := mm_dk kX6_synthesized_0 28 rfl
theorem dX6_synthesized_43 : decode cX6_synthesized 43 = .ok (.iload 4, 2) := mm_dk kX6_synthesized_0 29 rfl
theorem dX6_synthesized_45 : decode cX6_synthesized 45 = .ok (.i2l, 1) := mm_dk kX6_synthesized_0 30 rfl
theorem dX6_synthesized_46 : decode cX6_synthesized 46 = .ok (.invokestatic 99, 3) := mm_dk kX6_synthesized_0 31 rfl
theorem dX6_synthesized_49 : decode cX6_synthesized 49 = .ok (.lsub, 1) := mm_dk kX6_synthesized_0 32 rfl
theorem dX6_synthesized_50 : decode cX6_synthesized 50 = .ok (.invokevirtual 64, 3) := mm_dk kX6_synthesized_0 33 rfl
theorem dX6_synthesized_53 : decode cX6_synthesized 53 = .ok (.istore_n 2, 1) := mm_dk kX6_synthesized_0 34 rfl
theorem dX6_synthesized_54 : decode cX6_synthesized 54 = .ok (.aload_n 0, 1) := mm_dk kX6_synthesized_0 35 rfl
theorem dX6_synthesized_55 : decode cX6_synthesized 55 = .ok (.getfield 25, 3) := mm_dk kX6_synthesized_0 36 rfl
theorem dX6_synthesized_58 : decode cX6_synthesized 58 = .ok (.iload 5, 2) := mm_dk kX6_synthesized_0 37 rfl
theorem dX6_synthesized_60 : decode cX6_synthesized 60 = .ok (.i2l, 1) := mm_dk kX6_synthesized_0 38 rfl
theorem dX6_synthesized_61 : decode cX6_synthesized 61 = .ok (.iload_n 2, 1) := mm_dk kX6_synthesized_0 39 rfl
set_option maxRecDepth 100000 in
theorem kX6_synthesized_1 : ([(62, .i2l, 1), (63, .iload 4, 2), (65, .i2l, 1), (66, .invokestatic 99, 3), (69, .ladd, 1), (70, .invokevirtual 64, 3), (73, .istore 6, 2), (75, .iload_n 3, 1), (76, .bipush 8, 2), (78, .if_icmp .ge 11, 3), (81, .aload_n 0, 1), (82, .getfield 15, 3), (85, .iload_n 3, 1), (86, .iload 6, 2), (88, .iastore, 1), (89, .iinc 3 (-1), 3), (92, .goto (-87), 3), (95, .aload_n 0, 1), (96, .getfield 15, 3), (99, .iconst 0, 1), (100, .iload_n 2, 1), (101, .iastore, 1), (102, .iload_n 2, 1), (103, .ireturn, 1)] : List (Nat × Instr × Nat)).all (fun x => decide (decode cX6_synthesized x.1 = .ok x.2)) = true := by decide +kernel
theorem dX6_synthesized_62 : decode cX6_synthesized 62 = .ok (.i2l, 1) := mm_dk kX6_synthesized_1 0 rfl
theorem dX6_synthesized_63 : decode cX6_synthesized 63 = .ok (.iload 4, 2) := mm_dk kX6_synthesized_1 1 rfl
theorem dX6_synthesized_65 : decode cX6_synthesized 65 = .ok (.i2l, 1) := mm_dk kX6_synthesized_1 2 rfl
theorem dX6_synthesized_66 : decode cX6_synthesized 66 = .ok (.invokestatic 99, 3) := mm_dk kX6_synthesized_1 3 rfl
theorem dX6_synthesized_69 : decode cX6_synthesized 69 = .ok (.ladd, 1) := mm_dk kX6_synthesized_1 4 rfl
theorem dX6_synthesized_70 : decode cX6_synthesized 70 = .ok (.invokevirtual 64, 3) := mm_dk kX6_synthesized_1 5 rfl
theorem dX6_synthesized_73 : decode cX6_synthesized 73 = .ok (.istore 6, 2) := mm_dk kX6_synthesized_1 6 rfl
theorem dX6_synthesized_75 : decode cX6_synthesized 75 = .ok (.iload_n 3, 1) := mm_dk kX6_synthesized_1 7 rfl
theorem dX6_synthesized_76 : decode cX6_synthesized 76 = .ok (.bipush 8, 2) := mm_dk kX6_synthesized_1 8 rfl
theorem dX6_synthesized_78 : decode cX6_synthesized 78 = .ok (.if_icmp .ge 11, 3) := mm_dk kX6_synthesized_1 9 rfl
theorem dX6_synthesized_81 : decode cX6_synthesized 81 = .ok (.aload_n 0, 1) := mm_dk kX6_synthesized_1 10 rfl
theorem dX6_synthesized_82 : decode cX6_synthesized 82 = .ok (.getfield 15, 3) := mm_dk kX6_synthesized_1 11 rfl
theorem dX6_synthesized_85 : decode cX6_synthesized 85 = .ok (.iload_n 3, 1) := mm_dk kX6_synthesized_1 12 rfl
theorem dX6_synthesized_86 : decode cX6_synthesized 86 = .ok (.iload 6, 2) := mm_dk kX6_synthesized_1 13 rfl
theorem dX6_synthesized_88 : decode cX6_synthesized 88 = .ok (.iastore, 1) := mm_dk kX6_synthesized_1 14 rfl
theorem dX6_synthesized_89 : decode cX6_synthesized 89 = .ok (.iinc 3 (-1), 3) := mm_dk kX6_synthesized_1 15 rfl
theorem dX6_synthesized_92 : decode cX6_synthesized 92 = .ok (.goto (-87), 3) := mm_dk kX6_synthesized_1 16 rfl
theorem dX6_synthesized_95 : decode cX6_synthesized 95 = .ok (.aload_n 0, 1) := mm_dk kX6_synthesized_1 17 rfl
theorem dX6_synthesized_96 : decode cX6_synthesized 96 = .ok (.getfield 15, 3) := mm_dk kX6_synthesized_1 18 rfl
theorem dX6_synthesized_99 : decode cX6_synthesized 99 = .ok (.iconst 0, 1) := mm_dk kX6_synthesized_1 19 rfl
theorem dX6_synthesized_100 : decode cX6_synthesized 100 = .ok (.iload_n 2, 1) := mm_dk kX6_synthesized_1 20 rfl
theorem dX6_synthesized_101 : decode cX6_synthesized 101 = .ok (.iastore, 1) := mm_dk kX6_synthesized_1 21 rfl
theorem dX6_synthesized_102 : decode cX6_synthesized 102 = .ok (.iload_n 2, 1) := mm_dk kX6_synthesized_1 22 rfl
theorem dX6_synthesized_103 : decode cX6_synthesized 103 = .ok (.ireturn, 1) := mm_dk kX6_synthesized_1 23 rfl
set_option maxRecDepth 100000 in
theorem kX6_digested_0 : ([(0, .bipush 7, 2), (2, .aload_n 0, 1), (3, .getfield 9, 3), (6, .invokestatic 103, 3), (9, .istore_n 1, 1), (10, .iload_n 1, 1), (11, .aload_n 0, 1), (12, .getfield 15, 3), (15, .invokestatic 103, 3), (18, .istore_n 1, 1), (19, .iload_n 1, 1), (20, .aload_n 0, 1), (21, .getfield 18, 3), (24, .invokestatic 103, 3), (27, .istore_n 1, 1), (28, .bipush 31, 2), (30, .iload_n 1, 1), (31, .imul, 1), (32, .aload_n 0, 1), (33, .getfield 21, 3), (36, .iadd, 1), (37, .ireturn, 1)] : List (Nat × Instr × Nat)).all (fun x => decide (decode cX6_digested x.1 = .ok x.2)) = true := by decide +kernel
theorem dX6_digested_0 : decode cX6_digested 0 = .ok (.bipush 7, 2) := mm_dk kX6_digested_0 0 rfl
theorem dX6_digested_2 : decode cX6_digested 2 = .ok (.aload_n 0, 1) := mm_dk kX6_digested_0 1 rfl
theorem dX6_digested_3 : decode cX6_digested 3 = .ok (.getfield 9, 3) := mm_dk kX6_digested_0 2 rfl
theorem dX6_digested_6 : decode cX6_digested 6 = .ok (.invokestatic 103, 3) := mm_dk kX6_digested_0 3 rfl
theorem dX6_digested_9 : decode cX6_digested 9 = .ok (.istore_n 1, 1) := mm_dk kX6_digested_0 4 rfl
theorem dX6_digested_10 : decode cX6_digested 10 = .ok (.iload_n 1, 1) := mm_dk kX6_digested_0 5 rfl
theorem dX6_digested_11 : decode cX6_digested 11 = .ok (.aload_n 0, 1) := mm_dk kX6_digested_0 6 rfl
theorem dX6_digested_12 : decode cX6_digested 12 = .ok (.getfield 15, 3) := mm_dk kX6_digested_0 7 rfl
theorem dX6_digested_15 : decode cX6_digested 15 = .ok (.invokestatic 103, 3) := mm_dk kX6_digested_0 8 rfl
theorem dX6_digested_18 : decode cX6_digested 18 = .ok (.istore_n 1, 1) := mm_dk kX6_digested_0 9 rfl
theorem dX6_digested_19 : decode cX6_digested 19 = .ok (.iload_n 1, 1) := mm_dk kX6_digested_0 10 rfl
theorem dX6_digested_20 : decode cX6_digested 20 = .ok (.aload_n 0, 1) := mm_dk kX6_digested_0 11 rfl
theorem dX6_digested_21 : decode cX6_digested 21 = .ok (.getfield 18, 3) := mm_dk kX6_digested_0 12 rfl
theorem dX6_digested_24 : decode cX6_digested 24 = .ok (.invokestatic 103, 3) := mm_dk kX6_digested_0 13 rfl
theorem dX6_digested_27 : decode cX6_digested 27 = .ok (.istore_n 1, 1) := mm_dk kX6_digested_0 14 rfl
theorem dX6_digested_28 : decode cX6_digested 28 = .ok (.bipush 31, 2) := mm_dk kX6_digested_0 15 rfl
theorem dX6_digested_30 : decode cX6_digested 30 = .ok (.iload_n 1, 1) := mm_dk kX6_digested_0 16 rfl
theorem dX6_digested_31 : decode cX6_digested 31 = .ok (.imul, 1) := mm_dk kX6_digested_0 17 rfl
theorem dX6_digested_32 : decode cX6_digested 32 = .ok (.aload_n 0, 1) := mm_dk kX6_digested_0 18 rfl
theorem dX6_digested_33 : decode cX6_digested 33 = .ok (.getfield 21, 3) := mm_dk kX6_digested_0 19 rfl
theorem dX6_digested_36 : decode cX6_digested 36 = .ok (.iadd, 1) := mm_dk kX6_digested_0 20 rfl
theorem dX6_digested_37 : decode cX6_digested 37 = .ok (.ireturn, 1) := mm_dk kX6_digested_0 21 rfl
set_option maxRecDepth 100000 in
theorem kX6_digestRow_0 : ([(0, .iload_n 0, 1), (1, .istore_n 2, 1), (2, .aload_n 1, 1), (3, .astore_n 3, 1), (4, .aload_n 3, 1), (5, .arraylength, 1), (6, .istore 4, 2), (8, .iconst 0, 1), (9, .istore 5, 2), (11, .iload 5, 2), (13, .iload 4, 2), (15, .if_icmp .ge 23, 3), (18, .aload_n 3, 1), (19, .iload 5, 2), (21, .iaload, 1), (22, .istore 6, 2), (24, .bipush 31, 2), (26, .iload_n 2, 1), (27, .imul, 1), (28, .iload 6, 2), (30, .iadd, 1), (31, .istore_n 2, 1), (32, .iinc 5 1, 3), (35, .goto (-24), 3), (38, .iload_n 2, 1), (39, .ireturn, 1)] : List (Nat × Instr × Nat)).all (fun x => decide (decode cX6_digestRow x.1 = .ok x.2)) = true := by decide +kernel
theorem dX6_digestRow_0 : decode cX6_digestRow 0 = .ok (.iload_n 0, 1) := mm_dk kX6_digestRow_0 0 rfl
theorem dX6_digestRow_1 : decode cX6_digestRow 1 = .ok (.istore_n 2, 1) := mm_dk kX6_digestRow_0 1 rfl
theorem dX6_digestRow_2 : decode cX6_digestRow 2 = .ok (.aload_n 1, 1) := mm_dk kX6_digestRow_0 2 rfl
theorem dX6_digestRow_3 : decode cX6_digestRow 3 = .ok (.astore_n 3, 1) := mm_dk kX6_digestRow_0 3 rfl
theorem dX6_digestRow_4 : decode cX6_digestRow 4 = .ok (.aload_n 3, 1) := mm_dk kX6_digestRow_0 4 rfl
theorem dX6_digestRow_5 : decode cX6_digestRow 5 = .ok (.arraylength, 1) := mm_dk kX6_digestRow_0 5 rfl
theorem dX6_digestRow_6 : decode cX6_digestRow 6 = .ok (.istore 4, 2) := mm_dk kX6_digestRow_0 6 rfl
theorem dX6_digestRow_8 : decode cX6_digestRow 8 = .ok (.iconst 0, 1) := mm_dk kX6_digestRow_0 7 rfl
theorem dX6_digestRow_9 : decode cX6_digestRow 9 = .ok (.istore 5, 2) := mm_dk kX6_digestRow_0 8 rfl
theorem dX6_digestRow_11 : decode cX6_digestRow 11 = .ok (.iload 5, 2) := mm_dk kX6_digestRow_0 9 rfl
theorem dX6_digestRow_13 : decode cX6_digestRow 13 = .ok (.iload 4, 2) := mm_dk kX6_digestRow_0 10 rfl
theorem dX6_digestRow_15 : decode cX6_digestRow 15 = .ok (.if_icmp .ge 23, 3) := mm_dk kX6_digestRow_0 11 rfl
theorem dX6_digestRow_18 : decode cX6_digestRow 18 = .ok (.aload_n 3, 1) := mm_dk kX6_digestRow_0 12 rfl
theorem dX6_digestRow_19 : decode cX6_digestRow 19 = .ok (.iload 5, 2) := mm_dk kX6_digestRow_0 13 rfl
theorem dX6_digestRow_21 : decode cX6_digestRow 21 = .ok (.iaload, 1) := mm_dk kX6_digestRow_0 14 rfl
theorem dX6_digestRow_22 : decode cX6_digestRow 22 = .ok (.istore 6, 2) := mm_dk kX6_digestRow_0 15 rfl
theorem dX6_digestRow_24 : decode cX6_digestRow 24 = .ok (.bipush 31, 2) := mm_dk kX6_digestRow_0 16 rfl
theorem dX6_digestRow_26 : decode cX6_digestRow 26 = .ok (.iload_n 2, 1) := mm_dk kX6_digestRow_0 17 rfl
theorem dX6_digestRow_27 : decode cX6_digestRow 27 = .ok (.imul, 1) := mm_dk kX6_digestRow_0 18 rfl
theorem dX6_digestRow_28 : decode cX6_digestRow 28 = .ok (.iload 6, 2) := mm_dk kX6_digestRow_0 19 rfl
theorem dX6_digestRow_30 : decode cX6_digestRow 30 = .ok (.iadd, 1) := mm_dk kX6_digestRow_0 20 rfl
theorem dX6_digestRow_31 : decode cX6_digestRow 31 = .ok (.istore_n 2, 1) := mm_dk kX6_digestRow_0 21 rfl
theorem dX6_digestRow_32 : decode cX6_digestRow 32 = .ok (.iinc 5 1, 3) := mm_dk kX6_digestRow_0 22 rfl
theorem dX6_digestRow_35 : decode cX6_digestRow 35 = .ok (.goto (-24), 3) := mm_dk kX6_digestRow_0 23 rfl
theorem dX6_digestRow_38 : decode cX6_digestRow 38 = .ok (.iload_n 2, 1) := mm_dk kX6_digestRow_0 24 rfl
theorem dX6_digestRow_39 : decode cX6_digestRow 39 = .ok (.ireturn, 1) := mm_dk kX6_digestRow_0 25 rfl
set_option maxRecDepth 100000 in
theorem kX7_init_0 : ([(0, .aload_n 0, 1), (1, .invokespecial 3, 3), (4, .aload_n 0, 1), (5, .bipush 20, 2), (7, .putfield 9, 3), (10, .aload_n 0, 1), (11, .iconst 1, 1), (12, .putfield 15, 3), (15, .return_, 1)] : List (Nat × Instr × Nat)).all (fun x => decide (decode cX7_init x.1 = .ok x.2)) = true := by decide +kernel
theorem dX7_init_0 : decode cX7_init 0 = .ok (.aload_n 0, 1) := mm_dk kX7_init_0 0 rfl
theorem dX7_init_1 : decode cX7_init 1 = .ok (.invokespecial 3, 3) := mm_dk kX7_init_0 1 rfl
theorem dX7_init_4 : decode cX7_init 4 = .ok (.aload_n 0, 1) := mm_dk kX7_init_0 2 rfl
theorem dX7_init_5 : decode cX7_init 5 = .ok (.bipush 20, 2) := mm_dk kX7_init_0 3 rfl
theorem dX7_init_7 : decode cX7_init 7 = .ok (.putfield 9, 3) := mm_dk kX7_init_0 4 rfl
theorem dX7_init_10 : decode cX7_init 10 = .ok (.aload_n 0, 1) := mm_dk kX7_init_0 5 rfl
theorem dX7_init_11 : decode cX7_init 11 = .ok (.iconst 1, 1) := mm_dk kX7_init_0 6 rfl
theorem dX7_init_12 : decode cX7_init 12 = .ok (.putfield 15, 3) := mm_dk kX7_init_0 7 rfl
theorem dX7_init_15 : decode cX7_init 15 = .ok (.return_, 1) := mm_dk kX7_init_0 8 rfl
set_option maxRecDepth 100000 in
theorem kX7_choice_0 : ([(0, .iload_n 1, 1), (1, .tableswitch 69 0 5 #[39, 44, 49, 54, 59, 64], 39), (40, .aload_n 0, 1), (41, .getfield 9, 3), (44, .ireturn, 1), (45, .aload_n 0, 1), (46, .getfield 18, 3), (49, .ireturn, 1), (50, .aload_n 0, 1), (51, .getfield 21, 3), (54, .ireturn, 1), (55, .aload_n 0, 1), (56, .getfield 24, 3), (59, .ireturn, 1), (60, .aload_n 0, 1), (61, .getfield 15, 3), (64, .ireturn, 1), (65, .aload_n 0, 1), (66, .getfield 27, 3), (69, .ireturn, 1), (70, .aload_n 0, 1), (71, .getfield 30, 3), (74, .ireturn, 1)] : List (Nat × Instr × Nat)).all (fun x => decide (decode cX7_choice x.1 = .ok x.2)) = true := by decide +kernel
theorem dX7_choice_0 : decode cX7_choice 0 = .ok (.iload_n 1, 1) := mm_dk kX7_choice_0 0 rfl
theorem dX7_choice_1 : decode cX7_choice 1 = .ok (.tableswitch 69 0 5 #[39, 44, 49, 54, 59, 64], 39) := mm_dk kX7_choice_0 1 rfl
theorem dX7_choice_40 : decode cX7_choice 40 = .ok (.aload_n 0, 1) := mm_dk kX7_choice_0 2 rfl
theorem dX7_choice_41 : decode cX7_choice 41 = .ok (.getfield 9, 3) := mm_dk kX7_choice_0 3 rfl
theorem dX7_choice_44 : decode cX7_choice 44 = .ok (.ireturn, 1) := mm_dk kX7_choice_0 4 rfl
theorem dX7_choice_45 : decode cX7_choice 45 = .ok (.aload_n 0, 1) := mm_dk kX7_choice_0 5 rfl
theorem dX7_choice_46 : decode cX7_choice 46 = .ok (.getfield 18, 3) := mm_dk kX7_choice_0 6 rfl
theorem dX7_choice_49 : decode cX7_choice 49 = .ok (.ireturn, 1) := mm_dk kX7_choice_0 7 rfl
theorem dX7_choice_50 : decode cX7_choice 50 = .ok (.aload_n 0, 1) := mm_dk kX7_choice_0 8 rfl
theorem dX7_choice_51 : decode cX7_choice 51 = .ok (.getfield 21, 3) := mm_dk kX7_choice_0 9 rfl
theorem dX7_choice_54 : decode cX7_choice 54 = .ok (.ireturn, 1) := mm_dk kX7_choice_0 10 rfl
theorem dX7_choice_55 : decode cX7_choice 55 = .ok (.aload_n 0, 1) := mm_dk kX7_choice_0 11 rfl
theorem dX7_choice_56 : decode cX7_choice 56 = .ok (.getfield 24, 3) := mm_dk kX7_choice_0 12 rfl
theorem dX7_choice_59 : decode cX7_choice 59 = .ok (.ireturn, 1) := mm_dk kX7_choice_0 13 rfl
theorem dX7_choice_60 : decode cX7_choice 60 = .ok (.aload_n 0, 1) := mm_dk kX7_choice_0 14 rfl
theorem dX7_choice_61 : decode cX7_choice 61 = .ok (.getfield 15, 3) := mm_dk kX7_choice_0 15 rfl
theorem dX7_choice_64 : decode cX7_choice 64 = .ok (.ireturn, 1) := mm_dk kX7_choice_0 16 rfl
theorem dX7_choice_65 : decode cX7_choice 65 = .ok (.aload_n 0, 1) := mm_dk kX7_choice_0 17 rfl
theorem dX7_choice_66 : decode cX7_choice 66 = .ok (.getfield 27, 3) := mm_dk kX7_choice_0 18 rfl
theorem dX7_choice_69 : decode cX7_choice 69 = .ok (.ireturn, 1) := mm_dk kX7_choice_0 19 rfl
theorem dX7_choice_70 : decode cX7_choice 70 = .ok (.aload_n 0, 1) := mm_dk kX7_choice_0 20 rfl
theorem dX7_choice_71 : decode cX7_choice 71 = .ok (.getfield 30, 3) := mm_dk kX7_choice_0 21 rfl
theorem dX7_choice_74 : decode cX7_choice 74 = .ok (.ireturn, 1) := mm_dk kX7_choice_0 22 rfl
set_option maxRecDepth 100000 in
theorem kX7_costOf_0 : ([(0, .iload_n 1, 1), (1, .ifCond .ne 10, 3), (4, .aload_n 0, 1), (5, .getfield 33, 3), (8, .goto 7, 3), (11, .aload_n 0, 1), (12, .getfield 37, 3), (15, .lreturn, 1)] : List (Nat × Instr × Nat)).all (fun x => decide (decode cX7_costOf x.1 = .ok x.2)) = true := by decide +kernel
theorem dX7_costOf_0 : decode cX7_costOf 0 = .ok (.iload_n 1, 1) := mm_dk kX7_costOf_0 0 rfl
theorem dX7_costOf_1 : decode cX7_costOf 1 = .ok (.ifCond .ne 10, 3) := mm_dk kX7_costOf_0 1 rfl
theorem dX7_costOf_4 : decode cX7_costOf 4 = .ok (.aload_n 0, 1) := mm_dk kX7_costOf_0 2 rfl
theorem dX7_costOf_5 : decode cX7_costOf 5 = .ok (.getfield 33, 3) := mm_dk kX7_costOf_0 3 rfl
theorem dX7_costOf_8 : decode cX7_costOf 8 = .ok (.goto 7, 3) := mm_dk kX7_costOf_0 4 rfl
theorem dX7_costOf_11 : decode cX7_costOf 11 = .ok (.aload_n 0, 1) := mm_dk kX7_costOf_0 5 rfl
theorem dX7_costOf_12 : decode cX7_costOf 12 = .ok (.getfield 37, 3) := mm_dk kX7_costOf_0 6 rfl
theorem dX7_costOf_15 : decode cX7_costOf 15 = .ok (.lreturn, 1) := mm_dk kX7_costOf_0 7 rfl
set_option maxRecDepth 100000 in
theorem kX7_drawPulses_0 : ([(0, .aload_n 1, 1), (1, .iconst 0, 1), (2, .invokestatic 40, 3), (5, .aload_n 1, 1), (6, .iload_n 2, 1), (7, .aload_n 0, 1), (8, .getfield 21, 3), (11, .aload_n 0, 1), (12, .getfield 24, 3), (15, .invokestatic 46, 3), (18, .aload_n 1, 1), (19, .iload_n 2, 1), (20, .aload_n 0, 1), (21, .getfield 15, 3), (24, .aload_n 0, 1), (25, .getfield 27, 3), (28, .invokestatic 46, 3), (31, .return_, 1)] : List (Nat × Instr × Nat)).all (fun x => decide (decode cX7_drawPulses x.1 = .ok x.2)) = true := by decide +kernel
theorem dX7_drawPulses_0 : decode cX7_drawPulses 0 = .ok (.aload_n 1, 1) := mm_dk kX7_drawPulses_0 0 rfl
theorem dX7_drawPulses_1 : decode cX7_drawPulses 1 = .ok (.iconst 0, 1) := mm_dk kX7_drawPulses_0 1 rfl
theorem dX7_drawPulses_2 : decode cX7_drawPulses 2 = .ok (.invokestatic 40, 3) := mm_dk kX7_drawPulses_0 2 rfl
theorem dX7_drawPulses_5 : decode cX7_drawPulses 5 = .ok (.aload_n 1, 1) := mm_dk kX7_drawPulses_0 3 rfl
theorem dX7_drawPulses_6 : decode cX7_drawPulses 6 = .ok (.iload_n 2, 1) := mm_dk kX7_drawPulses_0 4 rfl
theorem dX7_drawPulses_7 : decode cX7_drawPulses 7 = .ok (.aload_n 0, 1) := mm_dk kX7_drawPulses_0 5 rfl
theorem dX7_drawPulses_8 : decode cX7_drawPulses 8 = .ok (.getfield 21, 3) := mm_dk kX7_drawPulses_0 6 rfl
theorem dX7_drawPulses_11 : decode cX7_drawPulses 11 = .ok (.aload_n 0, 1) := mm_dk kX7_drawPulses_0 7 rfl
theorem dX7_drawPulses_12 : decode cX7_drawPulses 12 = .ok (.getfield 24, 3) := mm_dk kX7_drawPulses_0 8 rfl
theorem dX7_drawPulses_15 : decode cX7_drawPulses 15 = .ok (.invokestatic 46, 3) := mm_dk kX7_drawPulses_0 9 rfl
theorem dX7_drawPulses_18 : decode cX7_drawPulses 18 = .ok (.aload_n 1, 1) := mm_dk kX7_drawPulses_0 10 rfl
theorem dX7_drawPulses_19 : decode cX7_drawPulses 19 = .ok (.iload_n 2, 1) := mm_dk kX7_drawPulses_0 11 rfl
theorem dX7_drawPulses_20 : decode cX7_drawPulses 20 = .ok (.aload_n 0, 1) := mm_dk kX7_drawPulses_0 12 rfl
theorem dX7_drawPulses_21 : decode cX7_drawPulses 21 = .ok (.getfield 15, 3) := mm_dk kX7_drawPulses_0 13 rfl
theorem dX7_drawPulses_24 : decode cX7_drawPulses 24 = .ok (.aload_n 0, 1) := mm_dk kX7_drawPulses_0 14 rfl
theorem dX7_drawPulses_25 : decode cX7_drawPulses 25 = .ok (.getfield 27, 3) := mm_dk kX7_drawPulses_0 15 rfl
theorem dX7_drawPulses_28 : decode cX7_drawPulses 28 = .ok (.invokestatic 46, 3) := mm_dk kX7_drawPulses_0 16 rfl
theorem dX7_drawPulses_31 : decode cX7_drawPulses 31 = .ok (.return_, 1) := mm_dk kX7_drawPulses_0 17 rfl
set_option maxRecDepth 100000 in
theorem kX7_addPulse_0 : ([(0, .iconst 0, 1), (1, .istore 4, 2), (3, .iload 4, 2), (5, .getstatic 50, 3), (8, .arraylength, 1), (9, .if_icmp .ge 46, 3), (12, .iload_n 2, 1), (13, .iload 4, 2), (15, .iadd, 1), (16, .iload_n 1, 1), (17, .if_icmp .ge 38, 3), (20, .aload_n 0, 1), (21, .iload_n 2, 1), (22, .iload 4, 2), (24, .iadd, 1), (25, .dup2, 1), (26, .iaload, 1), (27, .iload_n 3, 1), (28, .ifCond .ne 12, 3), (31, .getstatic 50, 3), (34, .iload 4, 2), (36, .iaload, 1), (37, .goto 10, 3), (40, .getstatic 50, 3), (43, .iload 4, 2), (45, .iaload, 1), (46, .ineg, 1), (47, .iadd, 1), (48, .iastore, 1), (49, .iinc 4 1, 3), (52, .goto (-49), 3), (55, .return_, 1)] : List (Nat × Instr × Nat)).all (fun x => decide (decode cX7_addPulse x.1 = .ok x.2)) = true := by decide +kernel
theorem dX7_addPulse_0 : decode cX7_addPulse 0 = .ok (.iconst 0, 1) := mm_dk kX7_addPulse_0 0 rfl
theorem dX7_addPulse_1 : decode cX7_addPulse 1 = .ok (.istore 4, 2) := mm_dk kX7_addPulse_0 1 rfl
theorem dX7_addPulse_3 : decode cX7_addPulse 3 = .ok (.iload 4, 2) := mm_dk kX7_addPulse_0 2 rfl
theorem dX7_addPulse_5 : decode cX7_addPulse 5 = .ok (.getstatic 50, 3) := mm_dk kX7_addPulse_0 3 rfl
theorem dX7_addPulse_8 : decode cX7_addPulse 8 = .ok (.arraylength, 1) := mm_dk kX7_addPulse_0 4 rfl
theorem dX7_addPulse_9 : decode cX7_addPulse 9 = .ok (.if_icmp .ge 46, 3) := mm_dk kX7_addPulse_0 5 rfl
theorem dX7_addPulse_12 : decode cX7_addPulse 12 = .ok (.iload_n 2, 1) := mm_dk kX7_addPulse_0 6 rfl
theorem dX7_addPulse_13 : decode cX7_addPulse 13 = .ok (.iload 4, 2) := mm_dk kX7_addPulse_0 7 rfl
theorem dX7_addPulse_15 : decode cX7_addPulse 15 = .ok (.iadd, 1) := mm_dk kX7_addPulse_0 8 rfl
theorem dX7_addPulse_16 : decode cX7_addPulse 16 = .ok (.iload_n 1, 1) := mm_dk kX7_addPulse_0 9 rfl
theorem dX7_addPulse_17 : decode cX7_addPulse 17 = .ok (.if_icmp .ge 38, 3) := mm_dk kX7_addPulse_0 10 rfl
theorem dX7_addPulse_20 : decode cX7_addPulse 20 = .ok (.aload_n 0, 1) := mm_dk kX7_addPulse_0 11 rfl
theorem dX7_addPulse_21 : decode cX7_addPulse 21 = .ok (.iload_n 2, 1) := mm_dk kX7_addPulse_0 12 rfl
theorem dX7_addPulse_22 : decode cX7_addPulse 22 = .ok (.iload 4, 2) := mm_dk kX7_addPulse_0 13 rfl
theorem dX7_addPulse_24 : decode cX7_addPulse 24 = .ok (.iadd, 1) := mm_dk kX7_addPulse_0 14 rfl
theorem dX7_addPulse_25 : decode cX7_addPulse 25 = .ok (.dup2, 1) := mm_dk kX7_addPulse_0 15 rfl
theorem dX7_addPulse_26 : decode cX7_addPulse 26 = .ok (.iaload, 1) := mm_dk kX7_addPulse_0 16 rfl
theorem dX7_addPulse_27 : decode cX7_addPulse 27 = .ok (.iload_n 3, 1) := mm_dk kX7_addPulse_0 17 rfl
theorem dX7_addPulse_28 : decode cX7_addPulse 28 = .ok (.ifCond .ne 12, 3) := mm_dk kX7_addPulse_0 18 rfl
theorem dX7_addPulse_31 : decode cX7_addPulse 31 = .ok (.getstatic 50, 3) := mm_dk kX7_addPulse_0 19 rfl
theorem dX7_addPulse_34 : decode cX7_addPulse 34 = .ok (.iload 4, 2) := mm_dk kX7_addPulse_0 20 rfl
theorem dX7_addPulse_36 : decode cX7_addPulse 36 = .ok (.iaload, 1) := mm_dk kX7_addPulse_0 21 rfl
theorem dX7_addPulse_37 : decode cX7_addPulse 37 = .ok (.goto 10, 3) := mm_dk kX7_addPulse_0 22 rfl
theorem dX7_addPulse_40 : decode cX7_addPulse 40 = .ok (.getstatic 50, 3) := mm_dk kX7_addPulse_0 23 rfl
theorem dX7_addPulse_43 : decode cX7_addPulse 43 = .ok (.iload 4, 2) := mm_dk kX7_addPulse_0 24 rfl
theorem dX7_addPulse_45 : decode cX7_addPulse 45 = .ok (.iaload, 1) := mm_dk kX7_addPulse_0 25 rfl
theorem dX7_addPulse_46 : decode cX7_addPulse 46 = .ok (.ineg, 1) := mm_dk kX7_addPulse_0 26 rfl
theorem dX7_addPulse_47 : decode cX7_addPulse 47 = .ok (.iadd, 1) := mm_dk kX7_addPulse_0 27 rfl
theorem dX7_addPulse_48 : decode cX7_addPulse 48 = .ok (.iastore, 1) := mm_dk kX7_addPulse_0 28 rfl
theorem dX7_addPulse_49 : decode cX7_addPulse 49 = .ok (.iinc 4 1, 3) := mm_dk kX7_addPulse_0 29 rfl
theorem dX7_addPulse_52 : decode cX7_addPulse 52 = .ok (.goto (-49), 3) := mm_dk kX7_addPulse_0 30 rfl
theorem dX7_addPulse_55 : decode cX7_addPulse 55 = .ok (.return_, 1) := mm_dk kX7_addPulse_0 31 rfl
set_option maxRecDepth 100000 in
theorem kX7_write_0 : ([(0, .aload_n 1, 1), (1, .iload_n 2, 1), (2, .aload_n 0, 1), (3, .getfield 9, 3), (6, .bipush 20, 2), (8, .isub, 1), (9, .i2b, 1), (10, .bastore, 1), (11, .aload_n 1, 1), (12, .iload_n 2, 1), (13, .iconst 1, 1), (14, .iadd, 1), (15, .aload_n 0, 1), (16, .getfield 18, 3), (19, .i2b, 1), (20, .bastore, 1), (21, .aload_n 1, 1), (22, .iload_n 2, 1), (23, .iconst 2, 1), (24, .iadd, 1), (25, .aload_n 0, 1), (26, .getfield 21, 3), (29, .aload_n 0, 1), (30, .getfield 24, 3), (33, .iadd, 1), (34, .i2b, 1), (35, .bastore, 1), (36, .aload_n 1, 1), (37, .iload_n 2, 1), (38, .iconst 3, 1), (39, .iadd, 1), (40, .aload_n 0, 1), (41, .getfield 15, 3), (44, .iconst 1, 1), (45, .isub, 1), (46, .aload_n 0, 1), (47, .getfield 27, 3), (50, .iadd, 1), (51, .i2b, 1), (52, .bastore, 1)] : List (Nat × Instr × Nat)).all (fun x => decide (decode cX7_write x.1 = .ok x.2)) = true := by decide +kernel
theorem dX7_write_0 : decode cX7_write 0 = .ok (.aload_n 1, 1) := mm_dk kX7_write_0 0 rfl
theorem dX7_write_1 : decode cX7_write 1 = .ok (.iload_n 2, 1) := mm_dk kX7_write_0 1 rfl
theorem dX7_write_2 : decode cX7_write 2 = .ok (.aload_n 0, 1) := mm_dk kX7_write_0 2 rfl
theorem dX7_write_3 : decode cX7_write 3 = .ok (.getfield 9, 3) := mm_dk kX7_write_0 3 rfl
theorem dX7_write_6 : decode cX7_write 6 = .ok (.bipush 20, 2) := mm_dk kX7_write_0 4 rfl
theorem dX7_write_8 : decode cX7_write 8 = .ok (.isub, 1) := mm_dk kX7_write_0 5 rfl
theorem dX7_write_9 : decode cX7_write 9 = .ok (.i2b, 1) := mm_dk kX7_write_0 6 rfl
theorem dX7_write_10 : decode cX7_write 10 = .ok (.bastore, 1) := mm_dk kX7_write_0 7 rfl
theorem dX7_write_11 : decode cX7_write 11 = .ok (.aload_n 1, 1) := mm_dk kX7_write_0 8 rfl
theorem dX7_write_12 : decode cX7_write 12 = .ok (.iload_n 2, 1) := mm_dk kX7_write_0 9 rfl
theorem dX7_write_13 : decode cX7_write 13 = .ok (.iconst 1, 1) := mm_dk kX7_write_0 10 rfl
theorem dX7_write_14 : decode cX7_write 14 = .ok (.iadd, 1) := mm_dk kX7_write_0 11 rfl
theorem dX7_write_15 : decode cX7_write 15 = .ok (.aload_n 0, 1) := mm_dk kX7_write_0 12 rfl
theorem dX7_write_16 : decode cX7_write 16 = .ok (.getfield 18, 3) := mm_dk kX7_write_0 13 rfl
theorem dX7_write_19 : decode cX7_write 19 = .ok (.i2b, 1) := mm_dk kX7_write_0 14 rfl
theorem dX7_write_20 : decode cX7_write 20 = .ok (.bastore, 1) := mm_dk kX7_write_0 15 rfl
theorem dX7_write_21 : decode cX7_write 21 = .ok (.aload_n 1, 1) := mm_dk kX7_write_0 16 rfl
theorem dX7_write_22 : decode cX7_write 22 = .ok (.iload_n 2, 1) := mm_dk kX7_write_0 17 rfl
theorem dX7_write_23 : decode cX7_write 23 = .ok (.iconst 2, 1) := mm_dk kX7_write_0 18 rfl
theorem dX7_write_24 : decode cX7_write 24 = .ok (.iadd, 1) := mm_dk kX7_write_0 19 rfl
theorem dX7_write_25 : decode cX7_write 25 = .ok (.aload_n 0, 1) := mm_dk kX7_write_0 20 rfl
theorem dX7_write_26 : decode cX7_write 26 = .ok (.getfield 21, 3) := mm_dk kX7_write_0 21 rfl
theorem dX7_write_29 : decode cX7_write 29 = .ok (.aload_n 0, 1) := mm_dk kX7_write_0 22 rfl
theorem dX7_write_30 : decode cX7_write 30 = .ok (.getfield 24, 3) := mm_dk kX7_write_0 23 rfl
theorem dX7_write_33 : decode cX7_write 33 = .ok (.iadd, 1) := mm_dk kX7_write_0 24 rfl
theorem dX7_write_34 : decode cX7_write 34 = .ok (.i2b, 1) := mm_dk kX7_write_0 25 rfl
theorem dX7_write_35 : decode cX7_write 35 = .ok (.bastore, 1) := mm_dk kX7_write_0 26 rfl
theorem dX7_write_36 : decode cX7_write 36 = .ok (.aload_n 1, 1) := mm_dk kX7_write_0 27 rfl
theorem dX7_write_37 : decode cX7_write 37 = .ok (.iload_n 2, 1) := mm_dk kX7_write_0 28 rfl
theorem dX7_write_38 : decode cX7_write 38 = .ok (.iconst 3, 1) := mm_dk kX7_write_0 29 rfl
theorem dX7_write_39 : decode cX7_write 39 = .ok (.iadd, 1) := mm_dk kX7_write_0 30 rfl
theorem dX7_write_40 : decode cX7_write 40 = .ok (.aload_n 0, 1) := mm_dk kX7_write_0 31 rfl
theorem dX7_write_41 : decode cX7_write 41 = .ok (.getfield 15, 3) := mm_dk kX7_write_0 32 rfl
theorem dX7_write_44 : decode cX7_write 44 = .ok (.iconst 1, 1) := mm_dk kX7_write_0 33 rfl
theorem dX7_write_45 : decode cX7_write 45 = .ok (.isub, 1) := mm_dk kX7_write_0 34 rfl
theorem dX7_write_46 : decode cX7_write 46 = .ok (.aload_n 0, 1) := mm_dk kX7_write_0 35 rfl
theorem dX7_write_47 : decode cX7_write 47 = .ok (.getfield 27, 3) := mm_dk kX7_write_0 36 rfl
theorem dX7_write_50 : decode cX7_write 50 = .ok (.iadd, 1) := mm_dk kX7_write_0 37 rfl
theorem dX7_write_51 : decode cX7_write 51 = .ok (.i2b, 1) := mm_dk kX7_write_0 38 rfl
theorem dX7_write_52 : decode cX7_write 52 = .ok (.bastore, 1) := mm_dk kX7_write_0 39 rfl
set_option maxRecDepth 100000 in
theorem kX7_write_1 : ([(53, .aload_n 1, 1), (54, .iload_n 2, 1), (55, .iconst 4, 1), (56, .iadd, 1), (57, .aload_n 0, 1), (58, .getfield 30, 3), (61, .i2b, 1), (62, .bastore, 1), (63, .return_, 1)] : List (Nat × Instr × Nat)).all (fun x => decide (decode cX7_write x.1 = .ok x.2)) = true := by decide +kernel
theorem dX7_write_53 : decode cX7_write 53 = .ok (.aload_n 1, 1) := mm_dk kX7_write_1 0 rfl
theorem dX7_write_54 : decode cX7_write 54 = .ok (.iload_n 2, 1) := mm_dk kX7_write_1 1 rfl
theorem dX7_write_55 : decode cX7_write 55 = .ok (.iconst 4, 1) := mm_dk kX7_write_1 2 rfl
theorem dX7_write_56 : decode cX7_write 56 = .ok (.iadd, 1) := mm_dk kX7_write_1 3 rfl
theorem dX7_write_57 : decode cX7_write 57 = .ok (.aload_n 0, 1) := mm_dk kX7_write_1 4 rfl
theorem dX7_write_58 : decode cX7_write 58 = .ok (.getfield 30, 3) := mm_dk kX7_write_1 5 rfl
theorem dX7_write_61 : decode cX7_write 61 = .ok (.i2b, 1) := mm_dk kX7_write_1 6 rfl
theorem dX7_write_62 : decode cX7_write 62 = .ok (.bastore, 1) := mm_dk kX7_write_1 7 rfl
theorem dX7_write_63 : decode cX7_write 63 = .ok (.return_, 1) := mm_dk kX7_write_1 8 rfl
set_option maxRecDepth 100000 in
theorem kX7_readFrom_0 : ([(0, .aload_n 0, 1), (1, .aload_n 1, 1), (2, .iload_n 2, 1), (3, .invokevirtual 54, 3), (6, .invokestatic 60, 3), (9, .putfield 9, 3), (12, .aload_n 0, 1), (13, .aload_n 1, 1), (14, .iload_n 2, 1), (15, .iconst 1, 1), (16, .iadd, 1), (17, .invokevirtual 54, 3), (20, .bipush 7, 2), (22, .iand, 1), (23, .putfield 18, 3), (26, .aload_n 0, 1), (27, .aload_n 1, 1), (28, .iload_n 2, 1), (29, .iconst 2, 1), (30, .iadd, 1), (31, .invokevirtual 54, 3), (34, .iload_n 3, 1), (35, .invokestatic 63, 3), (38, .putfield 21, 3), (41, .aload_n 0, 1), (42, .aload_n 1, 1), (43, .iload_n 2, 1), (44, .iconst 2, 1), (45, .iadd, 1), (46, .invokevirtual 54, 3), (49, .iconst 1, 1), (50, .iand, 1), (51, .putfield 24, 3), (54, .aload_n 0, 1), (55, .aload_n 1, 1), (56, .iload_n 2, 1), (57, .iconst 3, 1), (58, .iadd, 1), (59, .invokevirtual 54, 3), (62, .iload_n 3, 1)] : List (Nat × Instr × Nat)).all (fun x => decide (decode cX7_readFrom x.1 = .ok x.2)) = true := by decide +kernel
theorem dX7_readFrom_0 : decode cX7_readFrom 0 = .ok (.aload_n 0, 1) := mm_dk kX7_readFrom_0 0 rfl
theorem dX7_readFrom_1 : decode cX7_readFrom 1 = .ok (.aload_n 1, 1) := mm_dk kX7_readFrom_0 1 rfl
theorem dX7_readFrom_2 : decode cX7_readFrom 2 = .ok (.iload_n 2, 1) := mm_dk kX7_readFrom_0 2 rfl
theorem dX7_readFrom_3 : decode cX7_readFrom 3 = .ok (.invokevirtual 54, 3) := mm_dk kX7_readFrom_0 3 rfl
theorem dX7_readFrom_6 : decode cX7_readFrom 6 = .ok (.invokestatic 60, 3) := mm_dk kX7_readFrom_0 4 rfl
theorem dX7_readFrom_9 : decode cX7_readFrom 9 = .ok (.putfield 9, 3) := mm_dk kX7_readFrom_0 5 rfl
theorem dX7_readFrom_12 : decode cX7_readFrom 12 = .ok (.aload_n 0, 1) := mm_dk kX7_readFrom_0 6 rfl
theorem dX7_readFrom_13 : decode cX7_readFrom 13 = .ok (.aload_n 1, 1) := mm_dk kX7_readFrom_0 7 rfl
theorem dX7_readFrom_14 : decode cX7_readFrom 14 = .ok (.iload_n 2, 1) := mm_dk kX7_readFrom_0 8 rfl
theorem dX7_readFrom_15 : decode cX7_readFrom 15 = .ok (.iconst 1, 1) := mm_dk kX7_readFrom_0 9 rfl
theorem dX7_readFrom_16 : decode cX7_readFrom 16 = .ok (.iadd, 1) := mm_dk kX7_readFrom_0 10 rfl
theorem dX7_readFrom_17 : decode cX7_readFrom 17 = .ok (.invokevirtual 54, 3) := mm_dk kX7_readFrom_0 11 rfl
theorem dX7_readFrom_20 : decode cX7_readFrom 20 = .ok (.bipush 7, 2) := mm_dk kX7_readFrom_0 12 rfl
theorem dX7_readFrom_22 : decode cX7_readFrom 22 = .ok (.iand, 1) := mm_dk kX7_readFrom_0 13 rfl
theorem dX7_readFrom_23 : decode cX7_readFrom 23 = .ok (.putfield 18, 3) := mm_dk kX7_readFrom_0 14 rfl
theorem dX7_readFrom_26 : decode cX7_readFrom 26 = .ok (.aload_n 0, 1) := mm_dk kX7_readFrom_0 15 rfl
theorem dX7_readFrom_27 : decode cX7_readFrom 27 = .ok (.aload_n 1, 1) := mm_dk kX7_readFrom_0 16 rfl
theorem dX7_readFrom_28 : decode cX7_readFrom 28 = .ok (.iload_n 2, 1) := mm_dk kX7_readFrom_0 17 rfl
theorem dX7_readFrom_29 : decode cX7_readFrom 29 = .ok (.iconst 2, 1) := mm_dk kX7_readFrom_0 18 rfl
theorem dX7_readFrom_30 : decode cX7_readFrom 30 = .ok (.iadd, 1) := mm_dk kX7_readFrom_0 19 rfl
theorem dX7_readFrom_31 : decode cX7_readFrom 31 = .ok (.invokevirtual 54, 3) := mm_dk kX7_readFrom_0 20 rfl
theorem dX7_readFrom_34 : decode cX7_readFrom 34 = .ok (.iload_n 3, 1) := mm_dk kX7_readFrom_0 21 rfl
theorem dX7_readFrom_35 : decode cX7_readFrom 35 = .ok (.invokestatic 63, 3) := mm_dk kX7_readFrom_0 22 rfl
theorem dX7_readFrom_38 : decode cX7_readFrom 38 = .ok (.putfield 21, 3) := mm_dk kX7_readFrom_0 23 rfl
theorem dX7_readFrom_41 : decode cX7_readFrom 41 = .ok (.aload_n 0, 1) := mm_dk kX7_readFrom_0 24 rfl
theorem dX7_readFrom_42 : decode cX7_readFrom 42 = .ok (.aload_n 1, 1) := mm_dk kX7_readFrom_0 25 rfl
theorem dX7_readFrom_43 : decode cX7_readFrom 43 = .ok (.iload_n 2, 1) := mm_dk kX7_readFrom_0 26 rfl
theorem dX7_readFrom_44 : decode cX7_readFrom 44 = .ok (.iconst 2, 1) := mm_dk kX7_readFrom_0 27 rfl
theorem dX7_readFrom_45 : decode cX7_readFrom 45 = .ok (.iadd, 1) := mm_dk kX7_readFrom_0 28 rfl
theorem dX7_readFrom_46 : decode cX7_readFrom 46 = .ok (.invokevirtual 54, 3) := mm_dk kX7_readFrom_0 29 rfl
theorem dX7_readFrom_49 : decode cX7_readFrom 49 = .ok (.iconst 1, 1) := mm_dk kX7_readFrom_0 30 rfl
theorem dX7_readFrom_50 : decode cX7_readFrom 50 = .ok (.iand, 1) := mm_dk kX7_readFrom_0 31 rfl
theorem dX7_readFrom_51 : decode cX7_readFrom 51 = .ok (.putfield 24, 3) := mm_dk kX7_readFrom_0 32 rfl
theorem dX7_readFrom_54 : decode cX7_readFrom 54 = .ok (.aload_n 0, 1) := mm_dk kX7_readFrom_0 33 rfl
theorem dX7_readFrom_55 : decode cX7_readFrom 55 = .ok (.aload_n 1, 1) := mm_dk kX7_readFrom_0 34 rfl
theorem dX7_readFrom_56 : decode cX7_readFrom 56 = .ok (.iload_n 2, 1) := mm_dk kX7_readFrom_0 35 rfl
theorem dX7_readFrom_57 : decode cX7_readFrom 57 = .ok (.iconst 3, 1) := mm_dk kX7_readFrom_0 36 rfl
theorem dX7_readFrom_58 : decode cX7_readFrom 58 = .ok (.iadd, 1) := mm_dk kX7_readFrom_0 37 rfl
theorem dX7_readFrom_59 : decode cX7_readFrom 59 = .ok (.invokevirtual 54, 3) := mm_dk kX7_readFrom_0 38 rfl
theorem dX7_readFrom_62 : decode cX7_readFrom 62 = .ok (.iload_n 3, 1) := mm_dk kX7_readFrom_0 39 rfl
set_option maxRecDepth 100000 in
theorem kX7_readFrom_1 : ([(63, .invokestatic 63, 3), (66, .iconst 1, 1), (67, .iadd, 1), (68, .putfield 15, 3), (71, .aload_n 0, 1), (72, .aload_n 1, 1), (73, .iload_n 2, 1), (74, .iconst 3, 1), (75, .iadd, 1), (76, .invokevirtual 54, 3), (79, .iconst 1, 1), (80, .iand, 1), (81, .putfield 27, 3), (84, .aload_n 0, 1), (85, .aload_n 1, 1), (86, .iload_n 2, 1), (87, .iconst 4, 1), (88, .iadd, 1), (89, .invokevirtual 54, 3), (92, .bipush 63, 2), (94, .iand, 1), (95, .bipush 51, 2), (97, .invokestatic 67, 3), (100, .putfield 30, 3), (103, .return_, 1)] : List (Nat × Instr × Nat)).all (fun x => decide (decode cX7_readFrom x.1 = .ok x.2)) = true := by decide +kernel
theorem dX7_readFrom_63 : decode cX7_readFrom 63 = .ok (.invokestatic 63, 3) := mm_dk kX7_readFrom_1 0 rfl
theorem dX7_readFrom_66 : decode cX7_readFrom 66 = .ok (.iconst 1, 1) := mm_dk kX7_readFrom_1 1 rfl
theorem dX7_readFrom_67 : decode cX7_readFrom 67 = .ok (.iadd, 1) := mm_dk kX7_readFrom_1 2 rfl
theorem dX7_readFrom_68 : decode cX7_readFrom 68 = .ok (.putfield 15, 3) := mm_dk kX7_readFrom_1 3 rfl
theorem dX7_readFrom_71 : decode cX7_readFrom 71 = .ok (.aload_n 0, 1) := mm_dk kX7_readFrom_1 4 rfl
theorem dX7_readFrom_72 : decode cX7_readFrom 72 = .ok (.aload_n 1, 1) := mm_dk kX7_readFrom_1 5 rfl
theorem dX7_readFrom_73 : decode cX7_readFrom 73 = .ok (.iload_n 2, 1) := mm_dk kX7_readFrom_1 6 rfl
theorem dX7_readFrom_74 : decode cX7_readFrom 74 = .ok (.iconst 3, 1) := mm_dk kX7_readFrom_1 7 rfl
theorem dX7_readFrom_75 : decode cX7_readFrom 75 = .ok (.iadd, 1) := mm_dk kX7_readFrom_1 8 rfl
theorem dX7_readFrom_76 : decode cX7_readFrom 76 = .ok (.invokevirtual 54, 3) := mm_dk kX7_readFrom_1 9 rfl
theorem dX7_readFrom_79 : decode cX7_readFrom 79 = .ok (.iconst 1, 1) := mm_dk kX7_readFrom_1 10 rfl
theorem dX7_readFrom_80 : decode cX7_readFrom 80 = .ok (.iand, 1) := mm_dk kX7_readFrom_1 11 rfl
theorem dX7_readFrom_81 : decode cX7_readFrom 81 = .ok (.putfield 27, 3) := mm_dk kX7_readFrom_1 12 rfl
theorem dX7_readFrom_84 : decode cX7_readFrom 84 = .ok (.aload_n 0, 1) := mm_dk kX7_readFrom_1 13 rfl
theorem dX7_readFrom_85 : decode cX7_readFrom 85 = .ok (.aload_n 1, 1) := mm_dk kX7_readFrom_1 14 rfl
theorem dX7_readFrom_86 : decode cX7_readFrom 86 = .ok (.iload_n 2, 1) := mm_dk kX7_readFrom_1 15 rfl
theorem dX7_readFrom_87 : decode cX7_readFrom 87 = .ok (.iconst 4, 1) := mm_dk kX7_readFrom_1 16 rfl
theorem dX7_readFrom_88 : decode cX7_readFrom 88 = .ok (.iadd, 1) := mm_dk kX7_readFrom_1 17 rfl
theorem dX7_readFrom_89 : decode cX7_readFrom 89 = .ok (.invokevirtual 54, 3) := mm_dk kX7_readFrom_1 18 rfl
theorem dX7_readFrom_92 : decode cX7_readFrom 92 = .ok (.bipush 63, 2) := mm_dk kX7_readFrom_1 19 rfl
theorem dX7_readFrom_94 : decode cX7_readFrom 94 = .ok (.iand, 1) := mm_dk kX7_readFrom_1 20 rfl
theorem dX7_readFrom_95 : decode cX7_readFrom 95 = .ok (.bipush 51, 2) := mm_dk kX7_readFrom_1 21 rfl
theorem dX7_readFrom_97 : decode cX7_readFrom 97 = .ok (.invokestatic 67, 3) := mm_dk kX7_readFrom_1 22 rfl
theorem dX7_readFrom_100 : decode cX7_readFrom 100 = .ok (.putfield 30, 3) := mm_dk kX7_readFrom_1 23 rfl
theorem dX7_readFrom_103 : decode cX7_readFrom 103 = .ok (.return_, 1) := mm_dk kX7_readFrom_1 24 rfl
set_option maxRecDepth 100000 in
theorem kX7_placeOf_0 : ([(0, .iload_n 1, 1), (1, .iconst 2, 1), (2, .idiv, 1), (3, .istore_n 2, 1), (4, .iload_n 2, 1), (5, .iconst 1, 1), (6, .if_icmp .ge 7, 3), (9, .iconst 0, 1), (10, .goto 10, 3), (13, .iconst 2, 1), (14, .iload_n 0, 1), (15, .iconst 2, 1), (16, .idiv, 1), (17, .iload_n 2, 1), (18, .irem, 1), (19, .imul, 1), (20, .ireturn, 1)] : List (Nat × Instr × Nat)).all (fun x => decide (decode cX7_placeOf x.1 = .ok x.2)) = true := by decide +kernel
theorem dX7_placeOf_0 : decode cX7_placeOf 0 = .ok (.iload_n 1, 1) := mm_dk kX7_placeOf_0 0 rfl
theorem dX7_placeOf_1 : decode cX7_placeOf 1 = .ok (.iconst 2, 1) := mm_dk kX7_placeOf_0 1 rfl
theorem dX7_placeOf_2 : decode cX7_placeOf 2 = .ok (.idiv, 1) := mm_dk kX7_placeOf_0 2 rfl
theorem dX7_placeOf_3 : decode cX7_placeOf 3 = .ok (.istore_n 2, 1) := mm_dk kX7_placeOf_0 3 rfl
theorem dX7_placeOf_4 : decode cX7_placeOf 4 = .ok (.iload_n 2, 1) := mm_dk kX7_placeOf_0 4 rfl
theorem dX7_placeOf_5 : decode cX7_placeOf 5 = .ok (.iconst 1, 1) := mm_dk kX7_placeOf_0 5 rfl
theorem dX7_placeOf_6 : decode cX7_placeOf 6 = .ok (.if_icmp .ge 7, 3) := mm_dk kX7_placeOf_0 6 rfl
theorem dX7_placeOf_9 : decode cX7_placeOf 9 = .ok (.iconst 0, 1) := mm_dk kX7_placeOf_0 7 rfl
theorem dX7_placeOf_10 : decode cX7_placeOf 10 = .ok (.goto 10, 3) := mm_dk kX7_placeOf_0 8 rfl
theorem dX7_placeOf_13 : decode cX7_placeOf 13 = .ok (.iconst 2, 1) := mm_dk kX7_placeOf_0 9 rfl
theorem dX7_placeOf_14 : decode cX7_placeOf 14 = .ok (.iload_n 0, 1) := mm_dk kX7_placeOf_0 10 rfl
theorem dX7_placeOf_15 : decode cX7_placeOf 15 = .ok (.iconst 2, 1) := mm_dk kX7_placeOf_0 11 rfl
theorem dX7_placeOf_16 : decode cX7_placeOf 16 = .ok (.idiv, 1) := mm_dk kX7_placeOf_0 12 rfl
theorem dX7_placeOf_17 : decode cX7_placeOf 17 = .ok (.iload_n 2, 1) := mm_dk kX7_placeOf_0 13 rfl
theorem dX7_placeOf_18 : decode cX7_placeOf 18 = .ok (.irem, 1) := mm_dk kX7_placeOf_0 14 rfl
theorem dX7_placeOf_19 : decode cX7_placeOf 19 = .ok (.imul, 1) := mm_dk kX7_placeOf_0 15 rfl
theorem dX7_placeOf_20 : decode cX7_placeOf 20 = .ok (.ireturn, 1) := mm_dk kX7_placeOf_0 16 rfl
set_option maxRecDepth 100000 in
theorem kX8_init_0 : ([(0, .aload_n 0, 1), (1, .invokespecial 3, 3), (4, .aload_n 0, 1), (5, .sipush 320, 3), (8, .newarray .int, 2), (10, .putfield 9, 3), (13, .aload_n 0, 1), (14, .sipush 321, 3), (17, .newarray .int, 2), (19, .putfield 15, 3), (22, .aload_n 0, 1), (23, .bipush 80, 2), (25, .newarray .int, 2), (27, .putfield 18, 3), (30, .aload_n 0, 1), (31, .bipush 80, 2), (33, .newarray .int, 2), (35, .putfield 21, 3), (38, .aload_n 0, 1), (39, .bipush 80, 2), (41, .newarray .int, 2), (43, .putfield 24, 3), (46, .aload_n 0, 1), (47, .sipush 160, 3), (50, .newarray .int, 2), (52, .putfield 27, 3), (55, .aload_n 0, 1), (56, .bipush 80, 2), (58, .newarray .int, 2), (60, .putfield 30, 3), (63, .aload_n 0, 1), (64, .bipush 80, 2), (66, .newarray .int, 2), (68, .putfield 33, 3), (71, .aload_n 0, 1), (72, .bipush 80, 2), (74, .newarray .int, 2), (76, .putfield 36, 3), (79, .aload_n 0, 1), (80, .bipush 80, 2)] : List (Nat × Instr × Nat)).all (fun x => decide (decode cX8_init x.1 = .ok x.2)) = true := by decide +kernel
theorem dX8_init_0 : decode cX8_init 0 = .ok (.aload_n 0, 1) := mm_dk kX8_init_0 0 rfl
theorem dX8_init_1 : decode cX8_init 1 = .ok (.invokespecial 3, 3) := mm_dk kX8_init_0 1 rfl
theorem dX8_init_4 : decode cX8_init 4 = .ok (.aload_n 0, 1) := mm_dk kX8_init_0 2 rfl
theorem dX8_init_5 : decode cX8_init 5 = .ok (.sipush 320, 3) := mm_dk kX8_init_0 3 rfl
theorem dX8_init_8 : decode cX8_init 8 = .ok (.newarray .int, 2) := mm_dk kX8_init_0 4 rfl
theorem dX8_init_10 : decode cX8_init 10 = .ok (.putfield 9, 3) := mm_dk kX8_init_0 5 rfl
theorem dX8_init_13 : decode cX8_init 13 = .ok (.aload_n 0, 1) := mm_dk kX8_init_0 6 rfl
theorem dX8_init_14 : decode cX8_init 14 = .ok (.sipush 321, 3) := mm_dk kX8_init_0 7 rfl
theorem dX8_init_17 : decode cX8_init 17 = .ok (.newarray .int, 2) := mm_dk kX8_init_0 8 rfl
theorem dX8_init_19 : decode cX8_init 19 = .ok (.putfield 15, 3) := mm_dk kX8_init_0 9 rfl
theorem dX8_init_22 : decode cX8_init 22 = .ok (.aload_n 0, 1) := mm_dk kX8_init_0 10 rfl
theorem dX8_init_23 : decode cX8_init 23 = .ok (.bipush 80, 2) := mm_dk kX8_init_0 11 rfl
theorem dX8_init_25 : decode cX8_init 25 = .ok (.newarray .int, 2) := mm_dk kX8_init_0 12 rfl
theorem dX8_init_27 : decode cX8_init 27 = .ok (.putfield 18, 3) := mm_dk kX8_init_0 13 rfl
theorem dX8_init_30 : decode cX8_init 30 = .ok (.aload_n 0, 1) := mm_dk kX8_init_0 14 rfl
theorem dX8_init_31 : decode cX8_init 31 = .ok (.bipush 80, 2) := mm_dk kX8_init_0 15 rfl
theorem dX8_init_33 : decode cX8_init 33 = .ok (.newarray .int, 2) := mm_dk kX8_init_0 16 rfl
theorem dX8_init_35 : decode cX8_init 35 = .ok (.putfield 21, 3) := mm_dk kX8_init_0 17 rfl
theorem dX8_init_38 : decode cX8_init 38 = .ok (.aload_n 0, 1) := mm_dk kX8_init_0 18 rfl
theorem dX8_init_39 : decode cX8_init 39 = .ok (.bipush 80, 2) := mm_dk kX8_init_0 19 rfl
theorem dX8_init_41 : decode cX8_init 41 = .ok (.newarray .int, 2) := mm_dk kX8_init_0 20 rfl
theorem dX8_init_43 : decode cX8_init 43 = .ok (.putfield 24, 3) := mm_dk kX8_init_0 21 rfl
theorem dX8_init_46 : decode cX8_init 46 = .ok (.aload_n 0, 1) := mm_dk kX8_init_0 22 rfl
theorem dX8_init_47 : decode cX8_init 47 = .ok (.sipush 160, 3) := mm_dk kX8_init_0 23 rfl
theorem dX8_init_50 : decode cX8_init 50 = .ok (.newarray .int, 2) := mm_dk kX8_init_0 24 rfl
theorem dX8_init_52 : decode cX8_init 52 = .ok (.putfield 27, 3) := mm_dk kX8_init_0 25 rfl
theorem dX8_init_55 : decode cX8_init 55 = .ok (.aload_n 0, 1) := mm_dk kX8_init_0 26 rfl
theorem dX8_init_56 : decode cX8_init 56 = .ok (.bipush 80, 2) := mm_dk kX8_init_0 27 rfl
theorem dX8_init_58 : decode cX8_init 58 = .ok (.newarray .int, 2) := mm_dk kX8_init_0 28 rfl
theorem dX8_init_60 : decode cX8_init 60 = .ok (.putfield 30, 3) := mm_dk kX8_init_0 29 rfl
theorem dX8_init_63 : decode cX8_init 63 = .ok (.aload_n 0, 1) := mm_dk kX8_init_0 30 rfl
theorem dX8_init_64 : decode cX8_init 64 = .ok (.bipush 80, 2) := mm_dk kX8_init_0 31 rfl
theorem dX8_init_66 : decode cX8_init 66 = .ok (.newarray .int, 2) := mm_dk kX8_init_0 32 rfl
theorem dX8_init_68 : decode cX8_init 68 = .ok (.putfield 33, 3) := mm_dk kX8_init_0 33 rfl
theorem dX8_init_71 : decode cX8_init 71 = .ok (.aload_n 0, 1) := mm_dk kX8_init_0 34 rfl
theorem dX8_init_72 : decode cX8_init 72 = .ok (.bipush 80, 2) := mm_dk kX8_init_0 35 rfl
theorem dX8_init_74 : decode cX8_init 74 = .ok (.newarray .int, 2) := mm_dk kX8_init_0 36 rfl
theorem dX8_init_76 : decode cX8_init 76 = .ok (.putfield 36, 3) := mm_dk kX8_init_0 37 rfl
theorem dX8_init_79 : decode cX8_init 79 = .ok (.aload_n 0, 1) := mm_dk kX8_init_0 38 rfl
theorem dX8_init_80 : decode cX8_init 80 = .ok (.bipush 80, 2) := mm_dk kX8_init_0 39 rfl
set_option maxRecDepth 100000 in
theorem kX8_init_1 : ([(82, .newarray .int, 2), (84, .putfield 39, 3), (87, .aload_n 0, 1), (88, .bipush 9, 2), (90, .newarray .long, 2), (92, .putfield 42, 3), (95, .aload_n 0, 1), (96, .bipush 8, 2), (98, .newarray .long, 2), (100, .putfield 46, 3), (103, .return_, 1)] : List (Nat × Instr × Nat)).all (fun x => decide (decode cX8_init x.1 = .ok x.2)) = true := by decide +kernel
theorem dX8_init_82 : decode cX8_init 82 = .ok (.newarray .int, 2) := mm_dk kX8_init_1 0 rfl
theorem dX8_init_84 : decode cX8_init 84 = .ok (.putfield 39, 3) := mm_dk kX8_init_1 1 rfl
theorem dX8_init_87 : decode cX8_init 87 = .ok (.aload_n 0, 1) := mm_dk kX8_init_1 2 rfl
theorem dX8_init_88 : decode cX8_init 88 = .ok (.bipush 9, 2) := mm_dk kX8_init_1 3 rfl
theorem dX8_init_90 : decode cX8_init 90 = .ok (.newarray .long, 2) := mm_dk kX8_init_1 4 rfl
theorem dX8_init_92 : decode cX8_init 92 = .ok (.putfield 42, 3) := mm_dk kX8_init_1 5 rfl
theorem dX8_init_95 : decode cX8_init 95 = .ok (.aload_n 0, 1) := mm_dk kX8_init_1 6 rfl
theorem dX8_init_96 : decode cX8_init 96 = .ok (.bipush 8, 2) := mm_dk kX8_init_1 7 rfl
theorem dX8_init_98 : decode cX8_init 98 = .ok (.newarray .long, 2) := mm_dk kX8_init_1 8 rfl
theorem dX8_init_100 : decode cX8_init 100 = .ok (.putfield 46, 3) := mm_dk kX8_init_1 9 rfl
theorem dX8_init_103 : decode cX8_init 103 = .ok (.return_, 1) := mm_dk kX8_init_1 10 rfl
set_option maxRecDepth 100000 in
theorem kX8_wipe_0 : ([(0, .aload_n 0, 1), (1, .getfield 9, 3), (4, .iconst 0, 1), (5, .invokestatic 49, 3), (8, .aload_n 0, 1), (9, .getfield 15, 3), (12, .iconst 0, 1), (13, .invokestatic 49, 3), (16, .aload_n 0, 1), (17, .getfield 18, 3), (20, .iconst 0, 1), (21, .invokestatic 49, 3), (24, .aload_n 0, 1), (25, .getfield 21, 3), (28, .iconst 0, 1), (29, .invokestatic 49, 3), (32, .aload_n 0, 1), (33, .getfield 24, 3), (36, .iconst 0, 1), (37, .invokestatic 49, 3), (40, .aload_n 0, 1), (41, .getfield 27, 3), (44, .iconst 0, 1), (45, .invokestatic 49, 3), (48, .aload_n 0, 1), (49, .getfield 30, 3), (52, .iconst 0, 1), (53, .invokestatic 49, 3), (56, .aload_n 0, 1), (57, .getfield 33, 3), (60, .iconst 0, 1), (61, .invokestatic 49, 3), (64, .aload_n 0, 1), (65, .getfield 36, 3), (68, .iconst 0, 1), (69, .invokestatic 49, 3), (72, .aload_n 0, 1), (73, .getfield 39, 3), (76, .iconst 0, 1), (77, .invokestatic 49, 3)] : List (Nat × Instr × Nat)).all (fun x => decide (decode cX8_wipe x.1 = .ok x.2)) = true := by decide +kernel
theorem dX8_wipe_0 : decode cX8_wipe 0 = .ok (.aload_n 0, 1) := mm_dk kX8_wipe_0 0 rfl
theorem dX8_wipe_1 : decode cX8_wipe 1 = .ok (.getfield 9, 3) := mm_dk kX8_wipe_0 1 rfl
theorem dX8_wipe_4 : decode cX8_wipe 4 = .ok (.iconst 0, 1) := mm_dk kX8_wipe_0 2 rfl
theorem dX8_wipe_5 : decode cX8_wipe 5 = .ok (.invokestatic 49, 3) := mm_dk kX8_wipe_0 3 rfl
theorem dX8_wipe_8 : decode cX8_wipe 8 = .ok (.aload_n 0, 1) := mm_dk kX8_wipe_0 4 rfl
theorem dX8_wipe_9 : decode cX8_wipe 9 = .ok (.getfield 15, 3) := mm_dk kX8_wipe_0 5 rfl
theorem dX8_wipe_12 : decode cX8_wipe 12 = .ok (.iconst 0, 1) := mm_dk kX8_wipe_0 6 rfl
theorem dX8_wipe_13 : decode cX8_wipe 13 = .ok (.invokestatic 49, 3) := mm_dk kX8_wipe_0 7 rfl
theorem dX8_wipe_16 : decode cX8_wipe 16 = .ok (.aload_n 0, 1) := mm_dk kX8_wipe_0 8 rfl
theorem dX8_wipe_17 : decode cX8_wipe 17 = .ok (.getfield 18, 3) := mm_dk kX8_wipe_0 9 rfl
theorem dX8_wipe_20 : decode cX8_wipe 20 = .ok (.iconst 0, 1) := mm_dk kX8_wipe_0 10 rfl
theorem dX8_wipe_21 : decode cX8_wipe 21 = .ok (.invokestatic 49, 3) := mm_dk kX8_wipe_0 11 rfl
theorem dX8_wipe_24 : decode cX8_wipe 24 = .ok (.aload_n 0, 1) := mm_dk kX8_wipe_0 12 rfl
theorem dX8_wipe_25 : decode cX8_wipe 25 = .ok (.getfield 21, 3) := mm_dk kX8_wipe_0 13 rfl
theorem dX8_wipe_28 : decode cX8_wipe 28 = .ok (.iconst 0, 1) := mm_dk kX8_wipe_0 14 rfl
theorem dX8_wipe_29 : decode cX8_wipe 29 = .ok (.invokestatic 49, 3) := mm_dk kX8_wipe_0 15 rfl
theorem dX8_wipe_32 : decode cX8_wipe 32 = .ok (.aload_n 0, 1) := mm_dk kX8_wipe_0 16 rfl
theorem dX8_wipe_33 : decode cX8_wipe 33 = .ok (.getfield 24, 3) := mm_dk kX8_wipe_0 17 rfl
theorem dX8_wipe_36 : decode cX8_wipe 36 = .ok (.iconst 0, 1) := mm_dk kX8_wipe_0 18 rfl
theorem dX8_wipe_37 : decode cX8_wipe 37 = .ok (.invokestatic 49, 3) := mm_dk kX8_wipe_0 19 rfl
theorem dX8_wipe_40 : decode cX8_wipe 40 = .ok (.aload_n 0, 1) := mm_dk kX8_wipe_0 20 rfl
theorem dX8_wipe_41 : decode cX8_wipe 41 = .ok (.getfield 27, 3) := mm_dk kX8_wipe_0 21 rfl
theorem dX8_wipe_44 : decode cX8_wipe 44 = .ok (.iconst 0, 1) := mm_dk kX8_wipe_0 22 rfl
theorem dX8_wipe_45 : decode cX8_wipe 45 = .ok (.invokestatic 49, 3) := mm_dk kX8_wipe_0 23 rfl
theorem dX8_wipe_48 : decode cX8_wipe 48 = .ok (.aload_n 0, 1) := mm_dk kX8_wipe_0 24 rfl
theorem dX8_wipe_49 : decode cX8_wipe 49 = .ok (.getfield 30, 3) := mm_dk kX8_wipe_0 25 rfl
theorem dX8_wipe_52 : decode cX8_wipe 52 = .ok (.iconst 0, 1) := mm_dk kX8_wipe_0 26 rfl
theorem dX8_wipe_53 : decode cX8_wipe 53 = .ok (.invokestatic 49, 3) := mm_dk kX8_wipe_0 27 rfl
theorem dX8_wipe_56 : decode cX8_wipe 56 = .ok (.aload_n 0, 1) := mm_dk kX8_wipe_0 28 rfl
theorem dX8_wipe_57 : decode cX8_wipe 57 = .ok (.getfield 33, 3) := mm_dk kX8_wipe_0 29 rfl
theorem dX8_wipe_60 : decode cX8_wipe 60 = .ok (.iconst 0, 1) := mm_dk kX8_wipe_0 30 rfl
theorem dX8_wipe_61 : decode cX8_wipe 61 = .ok (.invokestatic 49, 3) := mm_dk kX8_wipe_0 31 rfl
theorem dX8_wipe_64 : decode cX8_wipe 64 = .ok (.aload_n 0, 1) := mm_dk kX8_wipe_0 32 rfl
theorem dX8_wipe_65 : decode cX8_wipe 65 = .ok (.getfield 36, 3) := mm_dk kX8_wipe_0 33 rfl
theorem dX8_wipe_68 : decode cX8_wipe 68 = .ok (.iconst 0, 1) := mm_dk kX8_wipe_0 34 rfl
theorem dX8_wipe_69 : decode cX8_wipe 69 = .ok (.invokestatic 49, 3) := mm_dk kX8_wipe_0 35 rfl
theorem dX8_wipe_72 : decode cX8_wipe 72 = .ok (.aload_n 0, 1) := mm_dk kX8_wipe_0 36 rfl
theorem dX8_wipe_73 : decode cX8_wipe 73 = .ok (.getfield 39, 3) := mm_dk kX8_wipe_0 37 rfl
theorem dX8_wipe_76 : decode cX8_wipe 76 = .ok (.iconst 0, 1) := mm_dk kX8_wipe_0 38 rfl
theorem dX8_wipe_77 : decode cX8_wipe 77 = .ok (.invokestatic 49, 3) := mm_dk kX8_wipe_0 39 rfl
set_option maxRecDepth 100000 in
theorem kX8_wipe_1 : ([(80, .aload_n 0, 1), (81, .getfield 42, 3), (84, .lconst 0, 1), (85, .invokestatic 55, 3), (88, .aload_n 0, 1), (89, .getfield 46, 3), (92, .lconst 0, 1), (93, .invokestatic 55, 3), (96, .return_, 1)] : List (Nat × Instr × Nat)).all (fun x => decide (decode cX8_wipe x.1 = .ok x.2)) = true := by decide +kernel
theorem dX8_wipe_80 : decode cX8_wipe 80 = .ok (.aload_n 0, 1) := mm_dk kX8_wipe_1 0 rfl
theorem dX8_wipe_81 : decode cX8_wipe 81 = .ok (.getfield 42, 3) := mm_dk kX8_wipe_1 1 rfl
theorem dX8_wipe_84 : decode cX8_wipe 84 = .ok (.lconst 0, 1) := mm_dk kX8_wipe_1 2 rfl
theorem dX8_wipe_85 : decode cX8_wipe 85 = .ok (.invokestatic 55, 3) := mm_dk kX8_wipe_1 3 rfl
theorem dX8_wipe_88 : decode cX8_wipe 88 = .ok (.aload_n 0, 1) := mm_dk kX8_wipe_1 4 rfl
theorem dX8_wipe_89 : decode cX8_wipe 89 = .ok (.getfield 46, 3) := mm_dk kX8_wipe_1 5 rfl
theorem dX8_wipe_92 : decode cX8_wipe 92 = .ok (.lconst 0, 1) := mm_dk kX8_wipe_1 6 rfl
theorem dX8_wipe_93 : decode cX8_wipe 93 = .ok (.invokestatic 55, 3) := mm_dk kX8_wipe_1 7 rfl
theorem dX8_wipe_96 : decode cX8_wipe 96 = .ok (.return_, 1) := mm_dk kX8_wipe_1 8 rfl
set_option maxRecDepth 100000 in
theorem kX8_leftovers_0 : ([(0, .aload_n 0, 1), (1, .getfield 9, 3), (4, .invokestatic 58, 3), (7, .aload_n 0, 1), (8, .getfield 15, 3), (11, .invokestatic 58, 3), (14, .iadd, 1), (15, .aload_n 0, 1), (16, .getfield 18, 3), (19, .invokestatic 58, 3), (22, .iadd, 1), (23, .aload_n 0, 1), (24, .getfield 21, 3), (27, .invokestatic 58, 3), (30, .iadd, 1), (31, .aload_n 0, 1), (32, .getfield 24, 3), (35, .invokestatic 58, 3), (38, .iadd, 1), (39, .aload_n 0, 1), (40, .getfield 27, 3), (43, .invokestatic 58, 3), (46, .iadd, 1), (47, .aload_n 0, 1), (48, .getfield 30, 3), (51, .invokestatic 58, 3), (54, .iadd, 1), (55, .aload_n 0, 1), (56, .getfield 33, 3), (59, .invokestatic 58, 3), (62, .iadd, 1), (63, .aload_n 0, 1), (64, .getfield 36, 3), (67, .invokestatic 58, 3), (70, .iadd, 1), (71, .aload_n 0, 1), (72, .getfield 39, 3), (75, .invokestatic 58, 3), (78, .iadd, 1), (79, .aload_n 0, 1)] : List (Nat × Instr × Nat)).all (fun x => decide (decode cX8_leftovers x.1 = .ok x.2)) = true := by decide +kernel
theorem dX8_leftovers_0 : decode cX8_leftovers 0 = .ok (.aload_n 0, 1) := mm_dk kX8_leftovers_0 0 rfl
theorem dX8_leftovers_1 : decode cX8_leftovers 1 = .ok (.getfield 9, 3) := mm_dk kX8_leftovers_0 1 rfl
theorem dX8_leftovers_4 : decode cX8_leftovers 4 = .ok (.invokestatic 58, 3) := mm_dk kX8_leftovers_0 2 rfl
theorem dX8_leftovers_7 : decode cX8_leftovers 7 = .ok (.aload_n 0, 1) := mm_dk kX8_leftovers_0 3 rfl
theorem dX8_leftovers_8 : decode cX8_leftovers 8 = .ok (.getfield 15, 3) := mm_dk kX8_leftovers_0 4 rfl
theorem dX8_leftovers_11 : decode cX8_leftovers 11 = .ok (.invokestatic 58, 3) := mm_dk kX8_leftovers_0 5 rfl
theorem dX8_leftovers_14 : decode cX8_leftovers 14 = .ok (.iadd, 1) := mm_dk kX8_leftovers_0 6 rfl
theorem dX8_leftovers_15 : decode cX8_leftovers 15 = .ok (.aload_n 0, 1) := mm_dk kX8_leftovers_0 7 rfl
theorem dX8_leftovers_16 : decode cX8_leftovers 16 = .ok (.getfield 18, 3) := mm_dk kX8_leftovers_0 8 rfl
theorem dX8_leftovers_19 : decode cX8_leftovers 19 = .ok (.invokestatic 58, 3) := mm_dk kX8_leftovers_0 9 rfl
theorem dX8_leftovers_22 : decode cX8_leftovers 22 = .ok (.iadd, 1) := mm_dk kX8_leftovers_0 10 rfl
theorem dX8_leftovers_23 : decode cX8_leftovers 23 = .ok (.aload_n 0, 1) := mm_dk kX8_leftovers_0 11 rfl
theorem dX8_leftovers_24 : decode cX8_leftovers 24 = .ok (.getfield 21, 3) := mm_dk kX8_leftovers_0 12 rfl
theorem dX8_leftovers_27 : decode cX8_leftovers 27 = .ok (.invokestatic 58, 3) := mm_dk kX8_leftovers_0 13 rfl
theorem dX8_leftovers_30 : decode cX8_leftovers 30 = .ok (.iadd, 1) := mm_dk kX8_leftovers_0 14 rfl
theorem dX8_leftovers_31 : decode cX8_leftovers 31 = .ok (.aload_n 0, 1) := mm_dk kX8_leftovers_0 15 rfl
theorem dX8_leftovers_32 : decode cX8_leftovers 32 = .ok (.getfield 24, 3) := mm_dk kX8_leftovers_0 16 rfl
theorem dX8_leftovers_35 : decode cX8_leftovers 35 = .ok (.invokestatic 58, 3) := mm_dk kX8_leftovers_0 17 rfl
theorem dX8_leftovers_38 : decode cX8_leftovers 38 = .ok (.iadd, 1) := mm_dk kX8_leftovers_0 18 rfl
theorem dX8_leftovers_39 : decode cX8_leftovers 39 = .ok (.aload_n 0, 1) := mm_dk kX8_leftovers_0 19 rfl
theorem dX8_leftovers_40 : decode cX8_leftovers 40 = .ok (.getfield 27, 3) := mm_dk kX8_leftovers_0 20 rfl
theorem dX8_leftovers_43 : decode cX8_leftovers 43 = .ok (.invokestatic 58, 3) := mm_dk kX8_leftovers_0 21 rfl
theorem dX8_leftovers_46 : decode cX8_leftovers 46 = .ok (.iadd, 1) := mm_dk kX8_leftovers_0 22 rfl
theorem dX8_leftovers_47 : decode cX8_leftovers 47 = .ok (.aload_n 0, 1) := mm_dk kX8_leftovers_0 23 rfl
theorem dX8_leftovers_48 : decode cX8_leftovers 48 = .ok (.getfield 30, 3) := mm_dk kX8_leftovers_0 24 rfl
theorem dX8_leftovers_51 : decode cX8_leftovers 51 = .ok (.invokestatic 58, 3) := mm_dk kX8_leftovers_0 25 rfl
theorem dX8_leftovers_54 : decode cX8_leftovers 54 = .ok (.iadd, 1) := mm_dk kX8_leftovers_0 26 rfl
theorem dX8_leftovers_55 : decode cX8_leftovers 55 = .ok (.aload_n 0, 1) := mm_dk kX8_leftovers_0 27 rfl
theorem dX8_leftovers_56 : decode cX8_leftovers 56 = .ok (.getfield 33, 3) := mm_dk kX8_leftovers_0 28 rfl
theorem dX8_leftovers_59 : decode cX8_leftovers 59 = .ok (.invokestatic 58, 3) := mm_dk kX8_leftovers_0 29 rfl
theorem dX8_leftovers_62 : decode cX8_leftovers 62 = .ok (.iadd, 1) := mm_dk kX8_leftovers_0 30 rfl
theorem dX8_leftovers_63 : decode cX8_leftovers 63 = .ok (.aload_n 0, 1) := mm_dk kX8_leftovers_0 31 rfl
theorem dX8_leftovers_64 : decode cX8_leftovers 64 = .ok (.getfield 36, 3) := mm_dk kX8_leftovers_0 32 rfl
theorem dX8_leftovers_67 : decode cX8_leftovers 67 = .ok (.invokestatic 58, 3) := mm_dk kX8_leftovers_0 33 rfl
theorem dX8_leftovers_70 : decode cX8_leftovers 70 = .ok (.iadd, 1) := mm_dk kX8_leftovers_0 34 rfl
theorem dX8_leftovers_71 : decode cX8_leftovers 71 = .ok (.aload_n 0, 1) := mm_dk kX8_leftovers_0 35 rfl
theorem dX8_leftovers_72 : decode cX8_leftovers 72 = .ok (.getfield 39, 3) := mm_dk kX8_leftovers_0 36 rfl
theorem dX8_leftovers_75 : decode cX8_leftovers 75 = .ok (.invokestatic 58, 3) := mm_dk kX8_leftovers_0 37 rfl
theorem dX8_leftovers_78 : decode cX8_leftovers 78 = .ok (.iadd, 1) := mm_dk kX8_leftovers_0 38 rfl
theorem dX8_leftovers_79 : decode cX8_leftovers 79 = .ok (.aload_n 0, 1) := mm_dk kX8_leftovers_0 39 rfl
set_option maxRecDepth 100000 in
theorem kX8_leftovers_1 : ([(80, .getfield 42, 3), (83, .invokestatic 62, 3), (86, .iadd, 1), (87, .aload_n 0, 1), (88, .getfield 46, 3), (91, .invokestatic 62, 3), (94, .iadd, 1), (95, .ireturn, 1)] : List (Nat × Instr × Nat)).all (fun x => decide (decode cX8_leftovers x.1 = .ok x.2)) = true := by decide +kernel
theorem dX8_leftovers_80 : decode cX8_leftovers 80 = .ok (.getfield 42, 3) := mm_dk kX8_leftovers_1 0 rfl
theorem dX8_leftovers_83 : decode cX8_leftovers 83 = .ok (.invokestatic 62, 3) := mm_dk kX8_leftovers_1 1 rfl
theorem dX8_leftovers_86 : decode cX8_leftovers 86 = .ok (.iadd, 1) := mm_dk kX8_leftovers_1 2 rfl
theorem dX8_leftovers_87 : decode cX8_leftovers 87 = .ok (.aload_n 0, 1) := mm_dk kX8_leftovers_1 3 rfl
theorem dX8_leftovers_88 : decode cX8_leftovers 88 = .ok (.getfield 46, 3) := mm_dk kX8_leftovers_1 4 rfl
theorem dX8_leftovers_91 : decode cX8_leftovers 91 = .ok (.invokestatic 62, 3) := mm_dk kX8_leftovers_1 5 rfl
theorem dX8_leftovers_94 : decode cX8_leftovers 94 = .ok (.iadd, 1) := mm_dk kX8_leftovers_1 6 rfl
theorem dX8_leftovers_95 : decode cX8_leftovers 95 = .ok (.ireturn, 1) := mm_dk kX8_leftovers_1 7 rfl
set_option maxRecDepth 100000 in
theorem kX8_inRow_0 : ([(0, .iconst 0, 1), (1, .istore_n 1, 1), (2, .aload_n 0, 1), (3, .astore_n 2, 1), (4, .aload_n 2, 1), (5, .arraylength, 1), (6, .istore_n 3, 1), (7, .iconst 0, 1), (8, .istore 4, 2), (10, .iload 4, 2), (12, .iload_n 3, 1), (13, .if_icmp .ge 28, 3), (16, .aload_n 2, 1), (17, .iload 4, 2), (19, .iaload, 1), (20, .istore 5, 2), (22, .iload_n 1, 1), (23, .iload 5, 2), (25, .ifCond .ne 7, 3), (28, .iconst 0, 1), (29, .goto 4, 3), (32, .iconst 1, 1), (33, .iadd, 1), (34, .istore_n 1, 1), (35, .iinc 4 1, 3), (38, .goto (-28), 3), (41, .iload_n 1, 1), (42, .ireturn, 1)] : List (Nat × Instr × Nat)).all (fun x => decide (decode cX8_inRow x.1 = .ok x.2)) = true := by decide +kernel
theorem dX8_inRow_0 : decode cX8_inRow 0 = .ok (.iconst 0, 1) := mm_dk kX8_inRow_0 0 rfl
theorem dX8_inRow_1 : decode cX8_inRow 1 = .ok (.istore_n 1, 1) := mm_dk kX8_inRow_0 1 rfl
theorem dX8_inRow_2 : decode cX8_inRow 2 = .ok (.aload_n 0, 1) := mm_dk kX8_inRow_0 2 rfl
theorem dX8_inRow_3 : decode cX8_inRow 3 = .ok (.astore_n 2, 1) := mm_dk kX8_inRow_0 3 rfl
theorem dX8_inRow_4 : decode cX8_inRow 4 = .ok (.aload_n 2, 1) := mm_dk kX8_inRow_0 4 rfl
theorem dX8_inRow_5 : decode cX8_inRow 5 = .ok (.arraylength, 1) := mm_dk kX8_inRow_0 5 rfl
theorem dX8_inRow_6 : decode cX8_inRow 6 = .ok (.istore_n 3, 1) := mm_dk kX8_inRow_0 6 rfl
theorem dX8_inRow_7 : decode cX8_inRow 7 = .ok (.iconst 0, 1) := mm_dk kX8_inRow_0 7 rfl
theorem dX8_inRow_8 : decode cX8_inRow 8 = .ok (.istore 4, 2) := mm_dk kX8_inRow_0 8 rfl
theorem dX8_inRow_10 : decode cX8_inRow 10 = .ok (.iload 4, 2) := mm_dk kX8_inRow_0 9 rfl
theorem dX8_inRow_12 : decode cX8_inRow 12 = .ok (.iload_n 3, 1) := mm_dk kX8_inRow_0 10 rfl
theorem dX8_inRow_13 : decode cX8_inRow 13 = .ok (.if_icmp .ge 28, 3) := mm_dk kX8_inRow_0 11 rfl
theorem dX8_inRow_16 : decode cX8_inRow 16 = .ok (.aload_n 2, 1) := mm_dk kX8_inRow_0 12 rfl
theorem dX8_inRow_17 : decode cX8_inRow 17 = .ok (.iload 4, 2) := mm_dk kX8_inRow_0 13 rfl
theorem dX8_inRow_19 : decode cX8_inRow 19 = .ok (.iaload, 1) := mm_dk kX8_inRow_0 14 rfl
theorem dX8_inRow_20 : decode cX8_inRow 20 = .ok (.istore 5, 2) := mm_dk kX8_inRow_0 15 rfl
theorem dX8_inRow_22 : decode cX8_inRow 22 = .ok (.iload_n 1, 1) := mm_dk kX8_inRow_0 16 rfl
theorem dX8_inRow_23 : decode cX8_inRow 23 = .ok (.iload 5, 2) := mm_dk kX8_inRow_0 17 rfl
theorem dX8_inRow_25 : decode cX8_inRow 25 = .ok (.ifCond .ne 7, 3) := mm_dk kX8_inRow_0 18 rfl
theorem dX8_inRow_28 : decode cX8_inRow 28 = .ok (.iconst 0, 1) := mm_dk kX8_inRow_0 19 rfl
theorem dX8_inRow_29 : decode cX8_inRow 29 = .ok (.goto 4, 3) := mm_dk kX8_inRow_0 20 rfl
theorem dX8_inRow_32 : decode cX8_inRow 32 = .ok (.iconst 1, 1) := mm_dk kX8_inRow_0 21 rfl
theorem dX8_inRow_33 : decode cX8_inRow 33 = .ok (.iadd, 1) := mm_dk kX8_inRow_0 22 rfl
theorem dX8_inRow_34 : decode cX8_inRow 34 = .ok (.istore_n 1, 1) := mm_dk kX8_inRow_0 23 rfl
theorem dX8_inRow_35 : decode cX8_inRow 35 = .ok (.iinc 4 1, 3) := mm_dk kX8_inRow_0 24 rfl
theorem dX8_inRow_38 : decode cX8_inRow 38 = .ok (.goto (-28), 3) := mm_dk kX8_inRow_0 25 rfl
theorem dX8_inRow_41 : decode cX8_inRow 41 = .ok (.iload_n 1, 1) := mm_dk kX8_inRow_0 26 rfl
theorem dX8_inRow_42 : decode cX8_inRow 42 = .ok (.ireturn, 1) := mm_dk kX8_inRow_0 27 rfl
set_option maxRecDepth 100000 in
theorem kX8_inLongRow_0 : ([(0, .iconst 0, 1), (1, .istore_n 1, 1), (2, .aload_n 0, 1), (3, .astore_n 2, 1), (4, .aload_n 2, 1), (5, .arraylength, 1), (6, .istore_n 3, 1), (7, .iconst 0, 1), (8, .istore 4, 2), (10, .iload 4, 2), (12, .iload_n 3, 1), (13, .if_icmp .ge 30, 3), (16, .aload_n 2, 1), (17, .iload 4, 2), (19, .laload, 1), (20, .lstore 5, 2), (22, .iload_n 1, 1), (23, .lload 5, 2), (25, .lconst 0, 1), (26, .lcmp, 1), (27, .ifCond .ne 7, 3), (30, .iconst 0, 1), (31, .goto 4, 3), (34, .iconst 1, 1), (35, .iadd, 1), (36, .istore_n 1, 1), (37, .iinc 4 1, 3), (40, .goto (-30), 3), (43, .iload_n 1, 1), (44, .ireturn, 1)] : List (Nat × Instr × Nat)).all (fun x => decide (decode cX8_inLongRow x.1 = .ok x.2)) = true := by decide +kernel
theorem dX8_inLongRow_0 : decode cX8_inLongRow 0 = .ok (.iconst 0, 1) := mm_dk kX8_inLongRow_0 0 rfl
theorem dX8_inLongRow_1 : decode cX8_inLongRow 1 = .ok (.istore_n 1, 1) := mm_dk kX8_inLongRow_0 1 rfl
theorem dX8_inLongRow_2 : decode cX8_inLongRow 2 = .ok (.aload_n 0, 1) := mm_dk kX8_inLongRow_0 2 rfl
theorem dX8_inLongRow_3 : decode cX8_inLongRow 3 = .ok (.astore_n 2, 1) := mm_dk kX8_inLongRow_0 3 rfl
theorem dX8_inLongRow_4 : decode cX8_inLongRow 4 = .ok (.aload_n 2, 1) := mm_dk kX8_inLongRow_0 4 rfl
theorem dX8_inLongRow_5 : decode cX8_inLongRow 5 = .ok (.arraylength, 1) := mm_dk kX8_inLongRow_0 5 rfl
theorem dX8_inLongRow_6 : decode cX8_inLongRow 6 = .ok (.istore_n 3, 1) := mm_dk kX8_inLongRow_0 6 rfl
theorem dX8_inLongRow_7 : decode cX8_inLongRow 7 = .ok (.iconst 0, 1) := mm_dk kX8_inLongRow_0 7 rfl
theorem dX8_inLongRow_8 : decode cX8_inLongRow 8 = .ok (.istore 4, 2) := mm_dk kX8_inLongRow_0 8 rfl
theorem dX8_inLongRow_10 : decode cX8_inLongRow 10 = .ok (.iload 4, 2) := mm_dk kX8_inLongRow_0 9 rfl
theorem dX8_inLongRow_12 : decode cX8_inLongRow 12 = .ok (.iload_n 3, 1) := mm_dk kX8_inLongRow_0 10 rfl
theorem dX8_inLongRow_13 : decode cX8_inLongRow 13 = .ok (.if_icmp .ge 30, 3) := mm_dk kX8_inLongRow_0 11 rfl
theorem dX8_inLongRow_16 : decode cX8_inLongRow 16 = .ok (.aload_n 2, 1) := mm_dk kX8_inLongRow_0 12 rfl
theorem dX8_inLongRow_17 : decode cX8_inLongRow 17 = .ok (.iload 4, 2) := mm_dk kX8_inLongRow_0 13 rfl
theorem dX8_inLongRow_19 : decode cX8_inLongRow 19 = .ok (.laload, 1) := mm_dk kX8_inLongRow_0 14 rfl
theorem dX8_inLongRow_20 : decode cX8_inLongRow 20 = .ok (.lstore 5, 2) := mm_dk kX8_inLongRow_0 15 rfl
theorem dX8_inLongRow_22 : decode cX8_inLongRow 22 = .ok (.iload_n 1, 1) := mm_dk kX8_inLongRow_0 16 rfl
theorem dX8_inLongRow_23 : decode cX8_inLongRow 23 = .ok (.lload 5, 2) := mm_dk kX8_inLongRow_0 17 rfl
theorem dX8_inLongRow_25 : decode cX8_inLongRow 25 = .ok (.lconst 0, 1) := mm_dk kX8_inLongRow_0 18 rfl
theorem dX8_inLongRow_26 : decode cX8_inLongRow 26 = .ok (.lcmp, 1) := mm_dk kX8_inLongRow_0 19 rfl
theorem dX8_inLongRow_27 : decode cX8_inLongRow 27 = .ok (.ifCond .ne 7, 3) := mm_dk kX8_inLongRow_0 20 rfl
theorem dX8_inLongRow_30 : decode cX8_inLongRow 30 = .ok (.iconst 0, 1) := mm_dk kX8_inLongRow_0 21 rfl
theorem dX8_inLongRow_31 : decode cX8_inLongRow 31 = .ok (.goto 4, 3) := mm_dk kX8_inLongRow_0 22 rfl
theorem dX8_inLongRow_34 : decode cX8_inLongRow 34 = .ok (.iconst 1, 1) := mm_dk kX8_inLongRow_0 23 rfl
theorem dX8_inLongRow_35 : decode cX8_inLongRow 35 = .ok (.iadd, 1) := mm_dk kX8_inLongRow_0 24 rfl
theorem dX8_inLongRow_36 : decode cX8_inLongRow 36 = .ok (.istore_n 1, 1) := mm_dk kX8_inLongRow_0 25 rfl
theorem dX8_inLongRow_37 : decode cX8_inLongRow 37 = .ok (.iinc 4 1, 3) := mm_dk kX8_inLongRow_0 26 rfl
theorem dX8_inLongRow_40 : decode cX8_inLongRow 40 = .ok (.goto (-30), 3) := mm_dk kX8_inLongRow_0 27 rfl
theorem dX8_inLongRow_43 : decode cX8_inLongRow 43 = .ok (.iload_n 1, 1) := mm_dk kX8_inLongRow_0 28 rfl
theorem dX8_inLongRow_44 : decode cX8_inLongRow 44 = .ok (.ireturn, 1) := mm_dk kX8_inLongRow_0 29 rfl
set_option maxRecDepth 100000 in
theorem kX9_init_0 : ([(0, .aload_n 0, 1), (1, .invokespecial 3, 3), (4, .aload_n 0, 1), (5, .new 9, 3), (8, .dup, 1), (9, .invokespecial 11, 3), (12, .putfield 12, 3), (15, .aload_n 0, 1), (16, .aload_n 1, 1), (17, .putfield 18, 3), (20, .return_, 1)] : List (Nat × Instr × Nat)).all (fun x => decide (decode cX9_init x.1 = .ok x.2)) = true := by decide +kernel
theorem dX9_init_0 : decode cX9_init 0 = .ok (.aload_n 0, 1) := mm_dk kX9_init_0 0 rfl
theorem dX9_init_1 : decode cX9_init 1 = .ok (.invokespecial 3, 3) := mm_dk kX9_init_0 1 rfl
theorem dX9_init_4 : decode cX9_init 4 = .ok (.aload_n 0, 1) := mm_dk kX9_init_0 2 rfl
theorem dX9_init_5 : decode cX9_init 5 = .ok (.new 9, 3) := mm_dk kX9_init_0 3 rfl
theorem dX9_init_8 : decode cX9_init 8 = .ok (.dup, 1) := mm_dk kX9_init_0 4 rfl
theorem dX9_init_9 : decode cX9_init 9 = .ok (.invokespecial 11, 3) := mm_dk kX9_init_0 5 rfl
theorem dX9_init_12 : decode cX9_init 12 = .ok (.putfield 12, 3) := mm_dk kX9_init_0 6 rfl
theorem dX9_init_15 : decode cX9_init 15 = .ok (.aload_n 0, 1) := mm_dk kX9_init_0 7 rfl
theorem dX9_init_16 : decode cX9_init 16 = .ok (.aload_n 1, 1) := mm_dk kX9_init_0 8 rfl
theorem dX9_init_17 : decode cX9_init 17 = .ok (.putfield 18, 3) := mm_dk kX9_init_0 9 rfl
theorem dX9_init_20 : decode cX9_init 20 = .ok (.return_, 1) := mm_dk kX9_init_0 10 rfl
set_option maxRecDepth 100000 in
theorem kX9_load_0 : ([(0, .aload_n 0, 1), (1, .iload 4, 2), (3, .putfield 22, 3), (6, .aload_n 1, 1), (7, .iload_n 3, 1), (8, .aload_n 0, 1), (9, .getfield 18, 3), (12, .getfield 26, 3), (15, .iconst 0, 1), (16, .iload 4, 2), (18, .invokestatic 32, 3), (21, .aload_n 2, 1), (22, .iload_n 3, 1), (23, .aload_n 0, 1), (24, .getfield 18, 3), (27, .getfield 38, 3), (30, .iconst 0, 1), (31, .sipush 160, 3), (34, .invokestatic 32, 3), (37, .return_, 1)] : List (Nat × Instr × Nat)).all (fun x => decide (decode cX9_load x.1 = .ok x.2)) = true := by decide +kernel
theorem dX9_load_0 : decode cX9_load 0 = .ok (.aload_n 0, 1) := mm_dk kX9_load_0 0 rfl
theorem dX9_load_1 : decode cX9_load 1 = .ok (.iload 4, 2) := mm_dk kX9_load_0 1 rfl
theorem dX9_load_3 : decode cX9_load 3 = .ok (.putfield 22, 3) := mm_dk kX9_load_0 2 rfl
theorem dX9_load_6 : decode cX9_load 6 = .ok (.aload_n 1, 1) := mm_dk kX9_load_0 3 rfl
theorem dX9_load_7 : decode cX9_load 7 = .ok (.iload_n 3, 1) := mm_dk kX9_load_0 4 rfl
theorem dX9_load_8 : decode cX9_load 8 = .ok (.aload_n 0, 1) := mm_dk kX9_load_0 5 rfl
theorem dX9_load_9 : decode cX9_load 9 = .ok (.getfield 18, 3) := mm_dk kX9_load_0 6 rfl
theorem dX9_load_12 : decode cX9_load 12 = .ok (.getfield 26, 3) := mm_dk kX9_load_0 7 rfl
theorem dX9_load_15 : decode cX9_load 15 = .ok (.iconst 0, 1) := mm_dk kX9_load_0 8 rfl
theorem dX9_load_16 : decode cX9_load 16 = .ok (.iload 4, 2) := mm_dk kX9_load_0 9 rfl
theorem dX9_load_18 : decode cX9_load 18 = .ok (.invokestatic 32, 3) := mm_dk kX9_load_0 10 rfl
theorem dX9_load_21 : decode cX9_load 21 = .ok (.aload_n 2, 1) := mm_dk kX9_load_0 11 rfl
theorem dX9_load_22 : decode cX9_load 22 = .ok (.iload_n 3, 1) := mm_dk kX9_load_0 12 rfl
theorem dX9_load_23 : decode cX9_load 23 = .ok (.aload_n 0, 1) := mm_dk kX9_load_0 13 rfl
theorem dX9_load_24 : decode cX9_load 24 = .ok (.getfield 18, 3) := mm_dk kX9_load_0 14 rfl
theorem dX9_load_27 : decode cX9_load 27 = .ok (.getfield 38, 3) := mm_dk kX9_load_0 15 rfl
theorem dX9_load_30 : decode cX9_load 30 = .ok (.iconst 0, 1) := mm_dk kX9_load_0 16 rfl
theorem dX9_load_31 : decode cX9_load 31 = .ok (.sipush 160, 3) := mm_dk kX9_load_0 17 rfl
theorem dX9_load_34 : decode cX9_load 34 = .ok (.invokestatic 32, 3) := mm_dk kX9_load_0 18 rfl
theorem dX9_load_37 : decode cX9_load 37 = .ok (.return_, 1) := mm_dk kX9_load_0 19 rfl
set_option maxRecDepth 100000 in
theorem kX9_findPitch_0 : ([(0, .iload_n 1, 1), (1, .ifCond .eq 15, 3), (4, .aload_n 0, 1), (5, .bipush 20, 2), (7, .sipush 147, 3), (10, .iconst 1, 1), (11, .aload_n 2, 1), (12, .invokevirtual 41, 3), (15, .return_, 1), (16, .aload_n 0, 1), (17, .bipush 20, 2), (19, .sipush 144, 3), (22, .iconst 4, 1), (23, .aload_n 2, 1), (24, .invokevirtual 41, 3), (27, .aload_n 2, 1), (28, .getfield 45, 3), (31, .istore_n 3, 1), (32, .aload_n 0, 1), (33, .bipush 20, 2), (35, .iload_n 3, 1), (36, .iconst 3, 1), (37, .isub, 1), (38, .invokestatic 48, 3), (41, .sipush 147, 3), (44, .iload_n 3, 1), (45, .iconst 3, 1), (46, .iadd, 1), (47, .invokestatic 54, 3), (50, .iconst 1, 1), (51, .aload_n 2, 1), (52, .invokevirtual 41, 3), (55, .return_, 1)] : List (Nat × Instr × Nat)).all (fun x => decide (decode cX9_findPitch x.1 = .ok x.2)) = true := by decide +kernel
theorem dX9_findPitch_0 : decode cX9_findPitch 0 = .ok (.iload_n 1, 1) := mm_dk kX9_findPitch_0 0 rfl
theorem dX9_findPitch_1 : decode cX9_findPitch 1 = .ok (.ifCond .eq 15, 3) := mm_dk kX9_findPitch_0 1 rfl
theorem dX9_findPitch_4 : decode cX9_findPitch 4 = .ok (.aload_n 0, 1) := mm_dk kX9_findPitch_0 2 rfl
theorem dX9_findPitch_5 : decode cX9_findPitch 5 = .ok (.bipush 20, 2) := mm_dk kX9_findPitch_0 3 rfl
theorem dX9_findPitch_7 : decode cX9_findPitch 7 = .ok (.sipush 147, 3) := mm_dk kX9_findPitch_0 4 rfl
theorem dX9_findPitch_10 : decode cX9_findPitch 10 = .ok (.iconst 1, 1) := mm_dk kX9_findPitch_0 5 rfl
theorem dX9_findPitch_11 : decode cX9_findPitch 11 = .ok (.aload_n 2, 1) := mm_dk kX9_findPitch_0 6 rfl
theorem dX9_findPitch_12 : decode cX9_findPitch 12 = .ok (.invokevirtual 41, 3) := mm_dk kX9_findPitch_0 7 rfl
theorem dX9_findPitch_15 : decode cX9_findPitch 15 = .ok (.return_, 1) := mm_dk kX9_findPitch_0 8 rfl
theorem dX9_findPitch_16 : decode cX9_findPitch 16 = .ok (.aload_n 0, 1) := mm_dk kX9_findPitch_0 9 rfl
theorem dX9_findPitch_17 : decode cX9_findPitch 17 = .ok (.bipush 20, 2) := mm_dk kX9_findPitch_0 10 rfl
theorem dX9_findPitch_19 : decode cX9_findPitch 19 = .ok (.sipush 144, 3) := mm_dk kX9_findPitch_0 11 rfl
theorem dX9_findPitch_22 : decode cX9_findPitch 22 = .ok (.iconst 4, 1) := mm_dk kX9_findPitch_0 12 rfl
theorem dX9_findPitch_23 : decode cX9_findPitch 23 = .ok (.aload_n 2, 1) := mm_dk kX9_findPitch_0 13 rfl
theorem dX9_findPitch_24 : decode cX9_findPitch 24 = .ok (.invokevirtual 41, 3) := mm_dk kX9_findPitch_0 14 rfl
theorem dX9_findPitch_27 : decode cX9_findPitch 27 = .ok (.aload_n 2, 1) := mm_dk kX9_findPitch_0 15 rfl
theorem dX9_findPitch_28 : decode cX9_findPitch 28 = .ok (.getfield 45, 3) := mm_dk kX9_findPitch_0 16 rfl
theorem dX9_findPitch_31 : decode cX9_findPitch 31 = .ok (.istore_n 3, 1) := mm_dk kX9_findPitch_0 17 rfl
theorem dX9_findPitch_32 : decode cX9_findPitch 32 = .ok (.aload_n 0, 1) := mm_dk kX9_findPitch_0 18 rfl
theorem dX9_findPitch_33 : decode cX9_findPitch 33 = .ok (.bipush 20, 2) := mm_dk kX9_findPitch_0 19 rfl
theorem dX9_findPitch_35 : decode cX9_findPitch 35 = .ok (.iload_n 3, 1) := mm_dk kX9_findPitch_0 20 rfl
theorem dX9_findPitch_36 : decode cX9_findPitch 36 = .ok (.iconst 3, 1) := mm_dk kX9_findPitch_0 21 rfl
theorem dX9_findPitch_37 : decode cX9_findPitch 37 = .ok (.isub, 1) := mm_dk kX9_findPitch_0 22 rfl
theorem dX9_findPitch_38 : decode cX9_findPitch 38 = .ok (.invokestatic 48, 3) := mm_dk kX9_findPitch_0 23 rfl
theorem dX9_findPitch_41 : decode cX9_findPitch 41 = .ok (.sipush 147, 3) := mm_dk kX9_findPitch_0 24 rfl
theorem dX9_findPitch_44 : decode cX9_findPitch 44 = .ok (.iload_n 3, 1) := mm_dk kX9_findPitch_0 25 rfl
theorem dX9_findPitch_45 : decode cX9_findPitch 45 = .ok (.iconst 3, 1) := mm_dk kX9_findPitch_0 26 rfl
theorem dX9_findPitch_46 : decode cX9_findPitch 46 = .ok (.iadd, 1) := mm_dk kX9_findPitch_0 27 rfl
theorem dX9_findPitch_47 : decode cX9_findPitch 47 = .ok (.invokestatic 54, 3) := mm_dk kX9_findPitch_0 28 rfl
theorem dX9_findPitch_50 : decode cX9_findPitch 50 = .ok (.iconst 1, 1) := mm_dk kX9_findPitch_0 29 rfl
theorem dX9_findPitch_51 : decode cX9_findPitch 51 = .ok (.aload_n 2, 1) := mm_dk kX9_findPitch_0 30 rfl
theorem dX9_findPitch_52 : decode cX9_findPitch 52 = .ok (.invokevirtual 41, 3) := mm_dk kX9_findPitch_0 31 rfl
theorem dX9_findPitch_55 : decode cX9_findPitch 55 = .ok (.return_, 1) := mm_dk kX9_findPitch_0 32 rfl
set_option maxRecDepth 100000 in
theorem kX9_tryLags_0 : ([(0, .aload 4, 2), (2, .bipush 20, 2), (4, .putfield 45, 3), (7, .aload 4, 2), (9, .iconst 0, 1), (10, .putfield 57, 3), (13, .aload 4, 2), (15, .lconst 0, 1), (16, .putfield 60, 3), (19, .iload_n 1, 1), (20, .istore 5, 2), (22, .iload 5, 2), (24, .iload_n 2, 1), (25, .if_icmp .gt 20, 3), (28, .aload_n 0, 1), (29, .iload 5, 2), (31, .aload 4, 2), (33, .invokevirtual 64, 3), (36, .iload 5, 2), (38, .iload_n 3, 1), (39, .iadd, 1), (40, .istore 5, 2), (42, .goto (-20), 3), (45, .return_, 1)] : List (Nat × Instr × Nat)).all (fun x => decide (decode cX9_tryLags x.1 = .ok x.2)) = true := by decide +kernel
theorem dX9_tryLags_0 : decode cX9_tryLags 0 = .ok (.aload 4, 2) := mm_dk kX9_tryLags_0 0 rfl
theorem dX9_tryLags_2 : decode cX9_tryLags 2 = .ok (.bipush 20, 2) := mm_dk kX9_tryLags_0 1 rfl
theorem dX9_tryLags_4 : decode cX9_tryLags 4 = .ok (.putfield 45, 3) := mm_dk kX9_tryLags_0 2 rfl
theorem dX9_tryLags_7 : decode cX9_tryLags 7 = .ok (.aload 4, 2) := mm_dk kX9_tryLags_0 3 rfl
theorem dX9_tryLags_9 : decode cX9_tryLags 9 = .ok (.iconst 0, 1) := mm_dk kX9_tryLags_0 4 rfl
theorem dX9_tryLags_10 : decode cX9_tryLags 10 = .ok (.putfield 57, 3) := mm_dk kX9_tryLags_0 5 rfl
theorem dX9_tryLags_13 : decode cX9_tryLags 13 = .ok (.aload 4, 2) := mm_dk kX9_tryLags_0 6 rfl
theorem dX9_tryLags_15 : decode cX9_tryLags 15 = .ok (.lconst 0, 1) := mm_dk kX9_tryLags_0 7 rfl
theorem dX9_tryLags_16 : decode cX9_tryLags 16 = .ok (.putfield 60, 3) := mm_dk kX9_tryLags_0 8 rfl
theorem dX9_tryLags_19 : decode cX9_tryLags 19 = .ok (.iload_n 1, 1) := mm_dk kX9_tryLags_0 9 rfl
theorem dX9_tryLags_20 : decode cX9_tryLags 20 = .ok (.istore 5, 2) := mm_dk kX9_tryLags_0 10 rfl
theorem dX9_tryLags_22 : decode cX9_tryLags 22 = .ok (.iload 5, 2) := mm_dk kX9_tryLags_0 11 rfl
theorem dX9_tryLags_24 : decode cX9_tryLags 24 = .ok (.iload_n 2, 1) := mm_dk kX9_tryLags_0 12 rfl
theorem dX9_tryLags_25 : decode cX9_tryLags 25 = .ok (.if_icmp .gt 20, 3) := mm_dk kX9_tryLags_0 13 rfl
theorem dX9_tryLags_28 : decode cX9_tryLags 28 = .ok (.aload_n 0, 1) := mm_dk kX9_tryLags_0 14 rfl
theorem dX9_tryLags_29 : decode cX9_tryLags 29 = .ok (.iload 5, 2) := mm_dk kX9_tryLags_0 15 rfl
theorem dX9_tryLags_31 : decode cX9_tryLags 31 = .ok (.aload 4, 2) := mm_dk kX9_tryLags_0 16 rfl
theorem dX9_tryLags_33 : decode cX9_tryLags 33 = .ok (.invokevirtual 64, 3) := mm_dk kX9_tryLags_0 17 rfl
theorem dX9_tryLags_36 : decode cX9_tryLags 36 = .ok (.iload 5, 2) := mm_dk kX9_tryLags_0 18 rfl
theorem dX9_tryLags_38 : decode cX9_tryLags 38 = .ok (.iload_n 3, 1) := mm_dk kX9_tryLags_0 19 rfl
theorem dX9_tryLags_39 : decode cX9_tryLags 39 = .ok (.iadd, 1) := mm_dk kX9_tryLags_0 20 rfl
theorem dX9_tryLags_40 : decode cX9_tryLags 40 = .ok (.istore 5, 2) := mm_dk kX9_tryLags_0 21 rfl
theorem dX9_tryLags_42 : decode cX9_tryLags 42 = .ok (.goto (-20), 3) := mm_dk kX9_tryLags_0 22 rfl
theorem dX9_tryLags_45 : decode cX9_tryLags 45 = .ok (.return_, 1) := mm_dk kX9_tryLags_0 23 rfl
set_option maxRecDepth 100000 in
theorem kX9_tryLag_0 : ([(0, .aload_n 0, 1), (1, .getfield 18, 3), (4, .getfield 38, 3), (7, .iload_n 1, 1), (8, .aload_n 0, 1), (9, .getfield 18, 3), (12, .getfield 68, 3), (15, .aload_n 0, 1), (16, .getfield 22, 3), (19, .invokestatic 71, 3), (22, .lconst 0, 1), (23, .lstore_n 3, 1), (24, .lconst 0, 1), (25, .lstore 5, 2), (27, .iconst 0, 1), (28, .istore 7, 2), (30, .iload 7, 2), (32, .aload_n 0, 1), (33, .getfield 22, 3), (36, .if_icmp .ge 49, 3), (39, .aload_n 0, 1), (40, .getfield 18, 3), (43, .getfield 68, 3), (46, .iload 7, 2), (48, .iaload, 1), (49, .i2l, 1), (50, .lstore 8, 2), (52, .lload_n 3, 1), (53, .lload 8, 2), (55, .lload 8, 2), (57, .lmul, 1), (58, .ladd, 1), (59, .lstore_n 3, 1), (60, .lload 5, 2), (62, .lload 8, 2), (64, .aload_n 0, 1), (65, .getfield 18, 3), (68, .getfield 26, 3), (71, .iload 7, 2), (73, .iaload, 1)] : List (Nat × Instr × Nat)).all (fun x => decide (decode cX9_tryLag x.1 = .ok x.2)) = true := by decide +kernel
theorem dX9_tryLag_0 : decode cX9_tryLag 0 = .ok (.aload_n 0, 1) := mm_dk kX9_tryLag_0 0 rfl
theorem dX9_tryLag_1 : decode cX9_tryLag 1 = .ok (.getfield 18, 3) := mm_dk kX9_tryLag_0 1 rfl
theorem dX9_tryLag_4 : decode cX9_tryLag 4 = .ok (.getfield 38, 3) := mm_dk kX9_tryLag_0 2 rfl
theorem dX9_tryLag_7 : decode cX9_tryLag 7 = .ok (.iload_n 1, 1) := mm_dk kX9_tryLag_0 3 rfl
theorem dX9_tryLag_8 : decode cX9_tryLag 8 = .ok (.aload_n 0, 1) := mm_dk kX9_tryLag_0 4 rfl
theorem dX9_tryLag_9 : decode cX9_tryLag 9 = .ok (.getfield 18, 3) := mm_dk kX9_tryLag_0 5 rfl
theorem dX9_tryLag_12 : decode cX9_tryLag 12 = .ok (.getfield 68, 3) := mm_dk kX9_tryLag_0 6 rfl
theorem dX9_tryLag_15 : decode cX9_tryLag 15 = .ok (.aload_n 0, 1) := mm_dk kX9_tryLag_0 7 rfl
theorem dX9_tryLag_16 : decode cX9_tryLag 16 = .ok (.getfield 22, 3) := mm_dk kX9_tryLag_0 8 rfl
theorem dX9_tryLag_19 : decode cX9_tryLag 19 = .ok (.invokestatic 71, 3) := mm_dk kX9_tryLag_0 9 rfl
theorem dX9_tryLag_22 : decode cX9_tryLag 22 = .ok (.lconst 0, 1) := mm_dk kX9_tryLag_0 10 rfl
theorem dX9_tryLag_23 : decode cX9_tryLag 23 = .ok (.lstore_n 3, 1) := mm_dk kX9_tryLag_0 11 rfl
theorem dX9_tryLag_24 : decode cX9_tryLag 24 = .ok (.lconst 0, 1) := mm_dk kX9_tryLag_0 12 rfl
theorem dX9_tryLag_25 : decode cX9_tryLag 25 = .ok (.lstore 5, 2) := mm_dk kX9_tryLag_0 13 rfl
theorem dX9_tryLag_27 : decode cX9_tryLag 27 = .ok (.iconst 0, 1) := mm_dk kX9_tryLag_0 14 rfl
theorem dX9_tryLag_28 : decode cX9_tryLag 28 = .ok (.istore 7, 2) := mm_dk kX9_tryLag_0 15 rfl
theorem dX9_tryLag_30 : decode cX9_tryLag 30 = .ok (.iload 7, 2) := mm_dk kX9_tryLag_0 16 rfl
theorem dX9_tryLag_32 : decode cX9_tryLag 32 = .ok (.aload_n 0, 1) := mm_dk kX9_tryLag_0 17 rfl
theorem dX9_tryLag_33 : decode cX9_tryLag 33 = .ok (.getfield 22, 3) := mm_dk kX9_tryLag_0 18 rfl
theorem dX9_tryLag_36 : decode cX9_tryLag 36 = .ok (.if_icmp .ge 49, 3) := mm_dk kX9_tryLag_0 19 rfl
theorem dX9_tryLag_39 : decode cX9_tryLag 39 = .ok (.aload_n 0, 1) := mm_dk kX9_tryLag_0 20 rfl
theorem dX9_tryLag_40 : decode cX9_tryLag 40 = .ok (.getfield 18, 3) := mm_dk kX9_tryLag_0 21 rfl
theorem dX9_tryLag_43 : decode cX9_tryLag 43 = .ok (.getfield 68, 3) := mm_dk kX9_tryLag_0 22 rfl
theorem dX9_tryLag_46 : decode cX9_tryLag 46 = .ok (.iload 7, 2) := mm_dk kX9_tryLag_0 23 rfl
theorem dX9_tryLag_48 : decode cX9_tryLag 48 = .ok (.iaload, 1) := mm_dk kX9_tryLag_0 24 rfl
theorem dX9_tryLag_49 : decode cX9_tryLag 49 = .ok (.i2l, 1) := mm_dk kX9_tryLag_0 25 rfl
theorem dX9_tryLag_50 : decode cX9_tryLag 50 = .ok (.lstore 8, 2) := mm_dk kX9_tryLag_0 26 rfl
theorem dX9_tryLag_52 : decode cX9_tryLag 52 = .ok (.lload_n 3, 1) := mm_dk kX9_tryLag_0 27 rfl
theorem dX9_tryLag_53 : decode cX9_tryLag 53 = .ok (.lload 8, 2) := mm_dk kX9_tryLag_0 28 rfl
theorem dX9_tryLag_55 : decode cX9_tryLag 55 = .ok (.lload 8, 2) := mm_dk kX9_tryLag_0 29 rfl
theorem dX9_tryLag_57 : decode cX9_tryLag 57 = .ok (.lmul, 1) := mm_dk kX9_tryLag_0 30 rfl
theorem dX9_tryLag_58 : decode cX9_tryLag 58 = .ok (.ladd, 1) := mm_dk kX9_tryLag_0 31 rfl
theorem dX9_tryLag_59 : decode cX9_tryLag 59 = .ok (.lstore_n 3, 1) := mm_dk kX9_tryLag_0 32 rfl
theorem dX9_tryLag_60 : decode cX9_tryLag 60 = .ok (.lload 5, 2) := mm_dk kX9_tryLag_0 33 rfl
theorem dX9_tryLag_62 : decode cX9_tryLag 62 = .ok (.lload 8, 2) := mm_dk kX9_tryLag_0 34 rfl
theorem dX9_tryLag_64 : decode cX9_tryLag 64 = .ok (.aload_n 0, 1) := mm_dk kX9_tryLag_0 35 rfl
theorem dX9_tryLag_65 : decode cX9_tryLag 65 = .ok (.getfield 18, 3) := mm_dk kX9_tryLag_0 36 rfl
theorem dX9_tryLag_68 : decode cX9_tryLag 68 = .ok (.getfield 26, 3) := mm_dk kX9_tryLag_0 37 rfl
theorem dX9_tryLag_71 : decode cX9_tryLag 71 = .ok (.iload 7, 2) := mm_dk kX9_tryLag_0 38 rfl
theorem dX9_tryLag_73 : decode cX9_tryLag 73 = .ok (.iaload, 1) := mm_dk kX9_tryLag_0 39 rfl
set_option maxRecDepth 100000 in
theorem kX9_tryLag_1 : ([(74, .i2l, 1), (75, .lmul, 1), (76, .ladd, 1), (77, .lstore 5, 2), (79, .iinc 7 1, 3), (82, .goto (-52), 3), (85, .iconst 1, 1), (86, .istore 7, 2), (88, .iload 7, 2), (90, .bipush 7, 2), (92, .if_icmp .gt 60, 3), (95, .bipush 25, 2), (97, .iload 7, 2), (99, .imul, 1), (100, .iload 7, 2), (102, .imul, 1), (103, .i2l, 1), (104, .lload_n 3, 1), (105, .lmul, 1), (106, .sipush 320, 3), (109, .iload 7, 2), (111, .imul, 1), (112, .i2l, 1), (113, .lload 5, 2), (115, .lmul, 1), (116, .lsub, 1), (117, .lstore 8, 2), (119, .lload 8, 2), (121, .aload_n 2, 1), (122, .getfield 60, 3), (125, .lcmp, 1), (126, .ifCond .ge 20, 3), (129, .aload_n 2, 1), (130, .iload_n 1, 1), (131, .putfield 45, 3), (134, .aload_n 2, 1), (135, .iload 7, 2), (137, .putfield 57, 3), (140, .aload_n 2, 1), (141, .lload 8, 2)] : List (Nat × Instr × Nat)).all (fun x => decide (decode cX9_tryLag x.1 = .ok x.2)) = true := by decide +kernel
theorem dX9_tryLag_74 : decode cX9_tryLag 74 = .ok (.i2l, 1) := mm_dk kX9_tryLag_1 0 rfl
theorem dX9_tryLag_75 : decode cX9_tryLag 75 = .ok (.lmul, 1) := mm_dk kX9_tryLag_1 1 rfl
theorem dX9_tryLag_76 : decode cX9_tryLag 76 = .ok (.ladd, 1) := mm_dk kX9_tryLag_1 2 rfl
theorem dX9_tryLag_77 : decode cX9_tryLag 77 = .ok (.lstore 5, 2) := mm_dk kX9_tryLag_1 3 rfl
theorem dX9_tryLag_79 : decode cX9_tryLag 79 = .ok (.iinc 7 1, 3) := mm_dk kX9_tryLag_1 4 rfl
theorem dX9_tryLag_82 : decode cX9_tryLag 82 = .ok (.goto (-52), 3) := mm_dk kX9_tryLag_1 5 rfl
theorem dX9_tryLag_85 : decode cX9_tryLag 85 = .ok (.iconst 1, 1) := mm_dk kX9_tryLag_1 6 rfl
theorem dX9_tryLag_86 : decode cX9_tryLag 86 = .ok (.istore 7, 2) := mm_dk kX9_tryLag_1 7 rfl
theorem dX9_tryLag_88 : decode cX9_tryLag 88 = .ok (.iload 7, 2) := mm_dk kX9_tryLag_1 8 rfl
theorem dX9_tryLag_90 : decode cX9_tryLag 90 = .ok (.bipush 7, 2) := mm_dk kX9_tryLag_1 9 rfl
theorem dX9_tryLag_92 : decode cX9_tryLag 92 = .ok (.if_icmp .gt 60, 3) := mm_dk kX9_tryLag_1 10 rfl
theorem dX9_tryLag_95 : decode cX9_tryLag 95 = .ok (.bipush 25, 2) := mm_dk kX9_tryLag_1 11 rfl
theorem dX9_tryLag_97 : decode cX9_tryLag 97 = .ok (.iload 7, 2) := mm_dk kX9_tryLag_1 12 rfl
theorem dX9_tryLag_99 : decode cX9_tryLag 99 = .ok (.imul, 1) := mm_dk kX9_tryLag_1 13 rfl
theorem dX9_tryLag_100 : decode cX9_tryLag 100 = .ok (.iload 7, 2) := mm_dk kX9_tryLag_1 14 rfl
theorem dX9_tryLag_102 : decode cX9_tryLag 102 = .ok (.imul, 1) := mm_dk kX9_tryLag_1 15 rfl
theorem dX9_tryLag_103 : decode cX9_tryLag 103 = .ok (.i2l, 1) := mm_dk kX9_tryLag_1 16 rfl
theorem dX9_tryLag_104 : decode cX9_tryLag 104 = .ok (.lload_n 3, 1) := mm_dk kX9_tryLag_1 17 rfl
theorem dX9_tryLag_105 : decode cX9_tryLag 105 = .ok (.lmul, 1) := mm_dk kX9_tryLag_1 18 rfl
theorem dX9_tryLag_106 : decode cX9_tryLag 106 = .ok (.sipush 320, 3) := mm_dk kX9_tryLag_1 19 rfl
theorem dX9_tryLag_109 : decode cX9_tryLag 109 = .ok (.iload 7, 2) := mm_dk kX9_tryLag_1 20 rfl
theorem dX9_tryLag_111 : decode cX9_tryLag 111 = .ok (.imul, 1) := mm_dk kX9_tryLag_1 21 rfl
theorem dX9_tryLag_112 : decode cX9_tryLag 112 = .ok (.i2l, 1) := mm_dk kX9_tryLag_1 22 rfl
theorem dX9_tryLag_113 : decode cX9_tryLag 113 = .ok (.lload 5, 2) := mm_dk kX9_tryLag_1 23 rfl
theorem dX9_tryLag_115 : decode cX9_tryLag 115 = .ok (.lmul, 1) := mm_dk kX9_tryLag_1 24 rfl
theorem dX9_tryLag_116 : decode cX9_tryLag 116 = .ok (.lsub, 1) := mm_dk kX9_tryLag_1 25 rfl
theorem dX9_tryLag_117 : decode cX9_tryLag 117 = .ok (.lstore 8, 2) := mm_dk kX9_tryLag_1 26 rfl
theorem dX9_tryLag_119 : decode cX9_tryLag 119 = .ok (.lload 8, 2) := mm_dk kX9_tryLag_1 27 rfl
theorem dX9_tryLag_121 : decode cX9_tryLag 121 = .ok (.aload_n 2, 1) := mm_dk kX9_tryLag_1 28 rfl
theorem dX9_tryLag_122 : decode cX9_tryLag 122 = .ok (.getfield 60, 3) := mm_dk kX9_tryLag_1 29 rfl
theorem dX9_tryLag_125 : decode cX9_tryLag 125 = .ok (.lcmp, 1) := mm_dk kX9_tryLag_1 30 rfl
theorem dX9_tryLag_126 : decode cX9_tryLag 126 = .ok (.ifCond .ge 20, 3) := mm_dk kX9_tryLag_1 31 rfl
theorem dX9_tryLag_129 : decode cX9_tryLag 129 = .ok (.aload_n 2, 1) := mm_dk kX9_tryLag_1 32 rfl
theorem dX9_tryLag_130 : decode cX9_tryLag 130 = .ok (.iload_n 1, 1) := mm_dk kX9_tryLag_1 33 rfl
theorem dX9_tryLag_131 : decode cX9_tryLag 131 = .ok (.putfield 45, 3) := mm_dk kX9_tryLag_1 34 rfl
theorem dX9_tryLag_134 : decode cX9_tryLag 134 = .ok (.aload_n 2, 1) := mm_dk kX9_tryLag_1 35 rfl
theorem dX9_tryLag_135 : decode cX9_tryLag 135 = .ok (.iload 7, 2) := mm_dk kX9_tryLag_1 36 rfl
theorem dX9_tryLag_137 : decode cX9_tryLag 137 = .ok (.putfield 57, 3) := mm_dk kX9_tryLag_1 37 rfl
theorem dX9_tryLag_140 : decode cX9_tryLag 140 = .ok (.aload_n 2, 1) := mm_dk kX9_tryLag_1 38 rfl
theorem dX9_tryLag_141 : decode cX9_tryLag 141 = .ok (.lload 8, 2) := mm_dk kX9_tryLag_1 39 rfl
set_option maxRecDepth 100000 in
theorem kX9_tryLag_2 : ([(143, .putfield 60, 3), (146, .iinc 7 1, 3), (149, .goto (-61), 3), (152, .return_, 1)] : List (Nat × Instr × Nat)).all (fun x => decide (decode cX9_tryLag x.1 = .ok x.2)) = true := by decide +kernel
theorem dX9_tryLag_143 : decode cX9_tryLag 143 = .ok (.putfield 60, 3) := mm_dk kX9_tryLag_2 0 rfl
theorem dX9_tryLag_146 : decode cX9_tryLag 146 = .ok (.iinc 7 1, 3) := mm_dk kX9_tryLag_2 1 rfl
theorem dX9_tryLag_149 : decode cX9_tryLag 149 = .ok (.goto (-61), 3) := mm_dk kX9_tryLag_2 2 rfl
theorem dX9_tryLag_152 : decode cX9_tryLag 152 = .ok (.return_, 1) := mm_dk kX9_tryLag_2 3 rfl
set_option maxRecDepth 100000 in
theorem kX9_findPulses_0 : ([(0, .aload_n 0, 1), (1, .aload_n 2, 1), (2, .invokevirtual 75, 3), (5, .iload_n 1, 1), (6, .ifCond .eq 11, 3), (9, .aload_n 0, 1), (10, .aload_n 2, 1), (11, .invokevirtual 79, 3), (14, .goto 29, 3), (17, .aload_n 0, 1), (18, .aload_n 2, 1), (19, .invokevirtual 82, 3), (22, .aload_n 0, 1), (23, .ldc2_w 85, 3), (26, .putfield 87, 3), (29, .aload_n 0, 1), (30, .aload_n 2, 1), (31, .getfield 90, 3), (34, .aload_n 2, 1), (35, .getfield 93, 3), (38, .aload_n 2, 1), (39, .invokevirtual 96, 3), (42, .pop, 1), (43, .aload_n 2, 1), (44, .aload_n 0, 1), (45, .getfield 87, 3), (48, .putfield 100, 3), (51, .aload_n 2, 1), (52, .aload_n 0, 1), (53, .getfield 103, 3), (56, .putfield 106, 3), (59, .return_, 1)] : List (Nat × Instr × Nat)).all (fun x => decide (decode cX9_findPulses x.1 = .ok x.2)) = true := by decide +kernel
theorem dX9_findPulses_0 : decode cX9_findPulses 0 = .ok (.aload_n 0, 1) := mm_dk kX9_findPulses_0 0 rfl
theorem dX9_findPulses_1 : decode cX9_findPulses 1 = .ok (.aload_n 2, 1) := mm_dk kX9_findPulses_0 1 rfl
theorem dX9_findPulses_2 : decode cX9_findPulses 2 = .ok (.invokevirtual 75, 3) := mm_dk kX9_findPulses_0 2 rfl
theorem dX9_findPulses_5 : decode cX9_findPulses 5 = .ok (.iload_n 1, 1) := mm_dk kX9_findPulses_0 3 rfl
theorem dX9_findPulses_6 : decode cX9_findPulses 6 = .ok (.ifCond .eq 11, 3) := mm_dk kX9_findPulses_0 4 rfl
theorem dX9_findPulses_9 : decode cX9_findPulses 9 = .ok (.aload_n 0, 1) := mm_dk kX9_findPulses_0 5 rfl
theorem dX9_findPulses_10 : decode cX9_findPulses 10 = .ok (.aload_n 2, 1) := mm_dk kX9_findPulses_0 6 rfl
theorem dX9_findPulses_11 : decode cX9_findPulses 11 = .ok (.invokevirtual 79, 3) := mm_dk kX9_findPulses_0 7 rfl
theorem dX9_findPulses_14 : decode cX9_findPulses 14 = .ok (.goto 29, 3) := mm_dk kX9_findPulses_0 8 rfl
theorem dX9_findPulses_17 : decode cX9_findPulses 17 = .ok (.aload_n 0, 1) := mm_dk kX9_findPulses_0 9 rfl
theorem dX9_findPulses_18 : decode cX9_findPulses 18 = .ok (.aload_n 2, 1) := mm_dk kX9_findPulses_0 10 rfl
theorem dX9_findPulses_19 : decode cX9_findPulses 19 = .ok (.invokevirtual 82, 3) := mm_dk kX9_findPulses_0 11 rfl
theorem dX9_findPulses_22 : decode cX9_findPulses 22 = .ok (.aload_n 0, 1) := mm_dk kX9_findPulses_0 12 rfl
theorem dX9_findPulses_23 : decode cX9_findPulses 23 = .ok (.ldc2_w 85, 3) := mm_dk kX9_findPulses_0 13 rfl
theorem dX9_findPulses_26 : decode cX9_findPulses 26 = .ok (.putfield 87, 3) := mm_dk kX9_findPulses_0 14 rfl
theorem dX9_findPulses_29 : decode cX9_findPulses 29 = .ok (.aload_n 0, 1) := mm_dk kX9_findPulses_0 15 rfl
theorem dX9_findPulses_30 : decode cX9_findPulses 30 = .ok (.aload_n 2, 1) := mm_dk kX9_findPulses_0 16 rfl
theorem dX9_findPulses_31 : decode cX9_findPulses 31 = .ok (.getfield 90, 3) := mm_dk kX9_findPulses_0 17 rfl
theorem dX9_findPulses_34 : decode cX9_findPulses 34 = .ok (.aload_n 2, 1) := mm_dk kX9_findPulses_0 18 rfl
theorem dX9_findPulses_35 : decode cX9_findPulses 35 = .ok (.getfield 93, 3) := mm_dk kX9_findPulses_0 19 rfl
theorem dX9_findPulses_38 : decode cX9_findPulses 38 = .ok (.aload_n 2, 1) := mm_dk kX9_findPulses_0 20 rfl
theorem dX9_findPulses_39 : decode cX9_findPulses 39 = .ok (.invokevirtual 96, 3) := mm_dk kX9_findPulses_0 21 rfl
theorem dX9_findPulses_42 : decode cX9_findPulses 42 = .ok (.pop, 1) := mm_dk kX9_findPulses_0 22 rfl
theorem dX9_findPulses_43 : decode cX9_findPulses 43 = .ok (.aload_n 2, 1) := mm_dk kX9_findPulses_0 23 rfl
theorem dX9_findPulses_44 : decode cX9_findPulses 44 = .ok (.aload_n 0, 1) := mm_dk kX9_findPulses_0 24 rfl
theorem dX9_findPulses_45 : decode cX9_findPulses 45 = .ok (.getfield 87, 3) := mm_dk kX9_findPulses_0 25 rfl
theorem dX9_findPulses_48 : decode cX9_findPulses 48 = .ok (.putfield 100, 3) := mm_dk kX9_findPulses_0 26 rfl
theorem dX9_findPulses_51 : decode cX9_findPulses 51 = .ok (.aload_n 2, 1) := mm_dk kX9_findPulses_0 27 rfl
theorem dX9_findPulses_52 : decode cX9_findPulses 52 = .ok (.aload_n 0, 1) := mm_dk kX9_findPulses_0 28 rfl
theorem dX9_findPulses_53 : decode cX9_findPulses 53 = .ok (.getfield 103, 3) := mm_dk kX9_findPulses_0 29 rfl
theorem dX9_findPulses_56 : decode cX9_findPulses 56 = .ok (.putfield 106, 3) := mm_dk kX9_findPulses_0 30 rfl
theorem dX9_findPulses_59 : decode cX9_findPulses 59 = .ok (.return_, 1) := mm_dk kX9_findPulses_0 31 rfl
set_option maxRecDepth 100000 in
theorem kX9_weighPlaces_0 : ([(0, .aload_n 0, 1), (1, .getfield 18, 3), (4, .getfield 38, 3), (7, .aload_n 1, 1), (8, .getfield 45, 3), (11, .aload_n 0, 1), (12, .getfield 18, 3), (15, .getfield 68, 3), (18, .aload_n 0, 1), (19, .getfield 22, 3), (22, .invokestatic 71, 3), (25, .iconst 0, 1), (26, .istore_n 2, 1), (27, .iload_n 2, 1), (28, .aload_n 0, 1), (29, .getfield 22, 3), (32, .if_icmp .ge 46, 3), (35, .aload_n 0, 1), (36, .getfield 18, 3), (39, .getfield 109, 3), (42, .iload_n 2, 1), (43, .aload_n 0, 1), (44, .getfield 18, 3), (47, .getfield 26, 3), (50, .iload_n 2, 1), (51, .iaload, 1), (52, .iconst 5, 1), (53, .aload_n 1, 1), (54, .getfield 57, 3), (57, .imul, 1), (58, .aload_n 0, 1), (59, .getfield 18, 3), (62, .getfield 68, 3), (65, .iload_n 2, 1), (66, .iaload, 1), (67, .imul, 1), (68, .iconst 5, 1), (69, .ishr, 1), (70, .isub, 1), (71, .iastore, 1)] : List (Nat × Instr × Nat)).all (fun x => decide (decode cX9_weighPlaces x.1 = .ok x.2)) = true := by decide +kernel
theorem dX9_weighPlaces_0 : decode cX9_weighPlaces 0 = .ok (.aload_n 0, 1) := mm_dk kX9_weighPlaces_0 0 rfl
theorem dX9_weighPlaces_1 : decode cX9_weighPlaces 1 = .ok (.getfield 18, 3) := mm_dk kX9_weighPlaces_0 1 rfl
theorem dX9_weighPlaces_4 : decode cX9_weighPlaces 4 = .ok (.getfield 38, 3) := mm_dk kX9_weighPlaces_0 2 rfl
theorem dX9_weighPlaces_7 : decode cX9_weighPlaces 7 = .ok (.aload_n 1, 1) := mm_dk kX9_weighPlaces_0 3 rfl
theorem dX9_weighPlaces_8 : decode cX9_weighPlaces 8 = .ok (.getfield 45, 3) := mm_dk kX9_weighPlaces_0 4 rfl
theorem dX9_weighPlaces_11 : decode cX9_weighPlaces 11 = .ok (.aload_n 0, 1) := mm_dk kX9_weighPlaces_0 5 rfl
theorem dX9_weighPlaces_12 : decode cX9_weighPlaces 12 = .ok (.getfield 18, 3) := mm_dk kX9_weighPlaces_0 6 rfl
theorem dX9_weighPlaces_15 : decode cX9_weighPlaces 15 = .ok (.getfield 68, 3) := mm_dk kX9_weighPlaces_0 7 rfl
theorem dX9_weighPlaces_18 : decode cX9_weighPlaces 18 = .ok (.aload_n 0, 1) := mm_dk kX9_weighPlaces_0 8 rfl
theorem dX9_weighPlaces_19 : decode cX9_weighPlaces 19 = .ok (.getfield 22, 3) := mm_dk kX9_weighPlaces_0 9 rfl
theorem dX9_weighPlaces_22 : decode cX9_weighPlaces 22 = .ok (.invokestatic 71, 3) := mm_dk kX9_weighPlaces_0 10 rfl
theorem dX9_weighPlaces_25 : decode cX9_weighPlaces 25 = .ok (.iconst 0, 1) := mm_dk kX9_weighPlaces_0 11 rfl
theorem dX9_weighPlaces_26 : decode cX9_weighPlaces 26 = .ok (.istore_n 2, 1) := mm_dk kX9_weighPlaces_0 12 rfl
theorem dX9_weighPlaces_27 : decode cX9_weighPlaces 27 = .ok (.iload_n 2, 1) := mm_dk kX9_weighPlaces_0 13 rfl
theorem dX9_weighPlaces_28 : decode cX9_weighPlaces 28 = .ok (.aload_n 0, 1) := mm_dk kX9_weighPlaces_0 14 rfl
theorem dX9_weighPlaces_29 : decode cX9_weighPlaces 29 = .ok (.getfield 22, 3) := mm_dk kX9_weighPlaces_0 15 rfl
theorem dX9_weighPlaces_32 : decode cX9_weighPlaces 32 = .ok (.if_icmp .ge 46, 3) := mm_dk kX9_weighPlaces_0 16 rfl
theorem dX9_weighPlaces_35 : decode cX9_weighPlaces 35 = .ok (.aload_n 0, 1) := mm_dk kX9_weighPlaces_0 17 rfl
theorem dX9_weighPlaces_36 : decode cX9_weighPlaces 36 = .ok (.getfield 18, 3) := mm_dk kX9_weighPlaces_0 18 rfl
theorem dX9_weighPlaces_39 : decode cX9_weighPlaces 39 = .ok (.getfield 109, 3) := mm_dk kX9_weighPlaces_0 19 rfl
theorem dX9_weighPlaces_42 : decode cX9_weighPlaces 42 = .ok (.iload_n 2, 1) := mm_dk kX9_weighPlaces_0 20 rfl
theorem dX9_weighPlaces_43 : decode cX9_weighPlaces 43 = .ok (.aload_n 0, 1) := mm_dk kX9_weighPlaces_0 21 rfl
theorem dX9_weighPlaces_44 : decode cX9_weighPlaces 44 = .ok (.getfield 18, 3) := mm_dk kX9_weighPlaces_0 22 rfl
theorem dX9_weighPlaces_47 : decode cX9_weighPlaces 47 = .ok (.getfield 26, 3) := mm_dk kX9_weighPlaces_0 23 rfl
theorem dX9_weighPlaces_50 : decode cX9_weighPlaces 50 = .ok (.iload_n 2, 1) := mm_dk kX9_weighPlaces_0 24 rfl
theorem dX9_weighPlaces_51 : decode cX9_weighPlaces 51 = .ok (.iaload, 1) := mm_dk kX9_weighPlaces_0 25 rfl
theorem dX9_weighPlaces_52 : decode cX9_weighPlaces 52 = .ok (.iconst 5, 1) := mm_dk kX9_weighPlaces_0 26 rfl
theorem dX9_weighPlaces_53 : decode cX9_weighPlaces 53 = .ok (.aload_n 1, 1) := mm_dk kX9_weighPlaces_0 27 rfl
theorem dX9_weighPlaces_54 : decode cX9_weighPlaces 54 = .ok (.getfield 57, 3) := mm_dk kX9_weighPlaces_0 28 rfl
theorem dX9_weighPlaces_57 : decode cX9_weighPlaces 57 = .ok (.imul, 1) := mm_dk kX9_weighPlaces_0 29 rfl
theorem dX9_weighPlaces_58 : decode cX9_weighPlaces 58 = .ok (.aload_n 0, 1) := mm_dk kX9_weighPlaces_0 30 rfl
theorem dX9_weighPlaces_59 : decode cX9_weighPlaces 59 = .ok (.getfield 18, 3) := mm_dk kX9_weighPlaces_0 31 rfl
theorem dX9_weighPlaces_62 : decode cX9_weighPlaces 62 = .ok (.getfield 68, 3) := mm_dk kX9_weighPlaces_0 32 rfl
theorem dX9_weighPlaces_65 : decode cX9_weighPlaces 65 = .ok (.iload_n 2, 1) := mm_dk kX9_weighPlaces_0 33 rfl
theorem dX9_weighPlaces_66 : decode cX9_weighPlaces 66 = .ok (.iaload, 1) := mm_dk kX9_weighPlaces_0 34 rfl
theorem dX9_weighPlaces_67 : decode cX9_weighPlaces 67 = .ok (.imul, 1) := mm_dk kX9_weighPlaces_0 35 rfl
theorem dX9_weighPlaces_68 : decode cX9_weighPlaces 68 = .ok (.iconst 5, 1) := mm_dk kX9_weighPlaces_0 36 rfl
theorem dX9_weighPlaces_69 : decode cX9_weighPlaces 69 = .ok (.ishr, 1) := mm_dk kX9_weighPlaces_0 37 rfl
theorem dX9_weighPlaces_70 : decode cX9_weighPlaces 70 = .ok (.isub, 1) := mm_dk kX9_weighPlaces_0 38 rfl
theorem dX9_weighPlaces_71 : decode cX9_weighPlaces 71 = .ok (.iastore, 1) := mm_dk kX9_weighPlaces_0 39 rfl
set_option maxRecDepth 100000 in
theorem kX9_weighPlaces_1 : ([(72, .iinc 2 1, 3), (75, .goto (-48), 3), (78, .iconst 0, 1), (79, .istore_n 2, 1), (80, .iload_n 2, 1), (81, .aload_n 0, 1), (82, .getfield 22, 3), (85, .if_icmp .ge 87, 3), (88, .iconst 0, 1), (89, .istore_n 3, 1), (90, .iconst 0, 1), (91, .istore 4, 2), (93, .iload 4, 2), (95, .getstatic 112, 3), (98, .arraylength, 1), (99, .if_icmp .ge 42, 3), (102, .iload_n 2, 1), (103, .iload 4, 2), (105, .iadd, 1), (106, .aload_n 0, 1), (107, .getfield 22, 3), (110, .if_icmp .ge 31, 3), (113, .iload_n 3, 1), (114, .getstatic 112, 3), (117, .iload 4, 2), (119, .iaload, 1), (120, .aload_n 0, 1), (121, .getfield 18, 3), (124, .getfield 109, 3), (127, .iload_n 2, 1), (128, .iload 4, 2), (130, .iadd, 1), (131, .iaload, 1), (132, .imul, 1), (133, .iadd, 1), (134, .istore_n 3, 1), (135, .iinc 4 1, 3), (138, .goto (-45), 3), (141, .aload_n 0, 1), (142, .getfield 18, 3)] : List (Nat × Instr × Nat)).all (fun x => decide (decode cX9_weighPlaces x.1 = .ok x.2)) = true := by decide +kernel
theorem dX9_weighPlaces_72 : decode cX9_weighPlaces 72 = .ok (.iinc 2 1, 3) := mm_dk kX9_weighPlaces_1 0 rfl
theorem dX9_weighPlaces_75 : decode cX9_weighPlaces 75 = .ok (.goto (-48), 3) := mm_dk kX9_weighPlaces_1 1 rfl
theorem dX9_weighPlaces_78 : decode cX9_weighPlaces 78 = .ok (.iconst 0, 1) := mm_dk kX9_weighPlaces_1 2 rfl
theorem dX9_weighPlaces_79 : decode cX9_weighPlaces 79 = .ok (.istore_n 2, 1) := mm_dk kX9_weighPlaces_1 3 rfl
theorem dX9_weighPlaces_80 : decode cX9_weighPlaces 80 = .ok (.iload_n 2, 1) := mm_dk kX9_weighPlaces_1 4 rfl
theorem dX9_weighPlaces_81 : decode cX9_weighPlaces 81 = .ok (.aload_n 0, 1) := mm_dk kX9_weighPlaces_1 5 rfl
theorem dX9_weighPlaces_82 : decode cX9_weighPlaces 82 = .ok (.getfield 22, 3) := mm_dk kX9_weighPlaces_1 6 rfl
theorem dX9_weighPlaces_85 : decode cX9_weighPlaces 85 = .ok (.if_icmp .ge 87, 3) := mm_dk kX9_weighPlaces_1 7 rfl
theorem dX9_weighPlaces_88 : decode cX9_weighPlaces 88 = .ok (.iconst 0, 1) := mm_dk kX9_weighPlaces_1 8 rfl
theorem dX9_weighPlaces_89 : decode cX9_weighPlaces 89 = .ok (.istore_n 3, 1) := mm_dk kX9_weighPlaces_1 9 rfl
theorem dX9_weighPlaces_90 : decode cX9_weighPlaces 90 = .ok (.iconst 0, 1) := mm_dk kX9_weighPlaces_1 10 rfl
theorem dX9_weighPlaces_91 : decode cX9_weighPlaces 91 = .ok (.istore 4, 2) := mm_dk kX9_weighPlaces_1 11 rfl
theorem dX9_weighPlaces_93 : decode cX9_weighPlaces 93 = .ok (.iload 4, 2) := mm_dk kX9_weighPlaces_1 12 rfl
theorem dX9_weighPlaces_95 : decode cX9_weighPlaces 95 = .ok (.getstatic 112, 3) := mm_dk kX9_weighPlaces_1 13 rfl
theorem dX9_weighPlaces_98 : decode cX9_weighPlaces 98 = .ok (.arraylength, 1) := mm_dk kX9_weighPlaces_1 14 rfl
theorem dX9_weighPlaces_99 : decode cX9_weighPlaces 99 = .ok (.if_icmp .ge 42, 3) := mm_dk kX9_weighPlaces_1 15 rfl
theorem dX9_weighPlaces_102 : decode cX9_weighPlaces 102 = .ok (.iload_n 2, 1) := mm_dk kX9_weighPlaces_1 16 rfl
theorem dX9_weighPlaces_103 : decode cX9_weighPlaces 103 = .ok (.iload 4, 2) := mm_dk kX9_weighPlaces_1 17 rfl
theorem dX9_weighPlaces_105 : decode cX9_weighPlaces 105 = .ok (.iadd, 1) := mm_dk kX9_weighPlaces_1 18 rfl
theorem dX9_weighPlaces_106 : decode cX9_weighPlaces 106 = .ok (.aload_n 0, 1) := mm_dk kX9_weighPlaces_1 19 rfl
theorem dX9_weighPlaces_107 : decode cX9_weighPlaces 107 = .ok (.getfield 22, 3) := mm_dk kX9_weighPlaces_1 20 rfl
theorem dX9_weighPlaces_110 : decode cX9_weighPlaces 110 = .ok (.if_icmp .ge 31, 3) := mm_dk kX9_weighPlaces_1 21 rfl
theorem dX9_weighPlaces_113 : decode cX9_weighPlaces 113 = .ok (.iload_n 3, 1) := mm_dk kX9_weighPlaces_1 22 rfl
theorem dX9_weighPlaces_114 : decode cX9_weighPlaces 114 = .ok (.getstatic 112, 3) := mm_dk kX9_weighPlaces_1 23 rfl
theorem dX9_weighPlaces_117 : decode cX9_weighPlaces 117 = .ok (.iload 4, 2) := mm_dk kX9_weighPlaces_1 24 rfl
theorem dX9_weighPlaces_119 : decode cX9_weighPlaces 119 = .ok (.iaload, 1) := mm_dk kX9_weighPlaces_1 25 rfl
theorem dX9_weighPlaces_120 : decode cX9_weighPlaces 120 = .ok (.aload_n 0, 1) := mm_dk kX9_weighPlaces_1 26 rfl
theorem dX9_weighPlaces_121 : decode cX9_weighPlaces 121 = .ok (.getfield 18, 3) := mm_dk kX9_weighPlaces_1 27 rfl
theorem dX9_weighPlaces_124 : decode cX9_weighPlaces 124 = .ok (.getfield 109, 3) := mm_dk kX9_weighPlaces_1 28 rfl
theorem dX9_weighPlaces_127 : decode cX9_weighPlaces 127 = .ok (.iload_n 2, 1) := mm_dk kX9_weighPlaces_1 29 rfl
theorem dX9_weighPlaces_128 : decode cX9_weighPlaces 128 = .ok (.iload 4, 2) := mm_dk kX9_weighPlaces_1 30 rfl
theorem dX9_weighPlaces_130 : decode cX9_weighPlaces 130 = .ok (.iadd, 1) := mm_dk kX9_weighPlaces_1 31 rfl
theorem dX9_weighPlaces_131 : decode cX9_weighPlaces 131 = .ok (.iaload, 1) := mm_dk kX9_weighPlaces_1 32 rfl
theorem dX9_weighPlaces_132 : decode cX9_weighPlaces 132 = .ok (.imul, 1) := mm_dk kX9_weighPlaces_1 33 rfl
theorem dX9_weighPlaces_133 : decode cX9_weighPlaces 133 = .ok (.iadd, 1) := mm_dk kX9_weighPlaces_1 34 rfl
theorem dX9_weighPlaces_134 : decode cX9_weighPlaces 134 = .ok (.istore_n 3, 1) := mm_dk kX9_weighPlaces_1 35 rfl
theorem dX9_weighPlaces_135 : decode cX9_weighPlaces 135 = .ok (.iinc 4 1, 3) := mm_dk kX9_weighPlaces_1 36 rfl
theorem dX9_weighPlaces_138 : decode cX9_weighPlaces 138 = .ok (.goto (-45), 3) := mm_dk kX9_weighPlaces_1 37 rfl
theorem dX9_weighPlaces_141 : decode cX9_weighPlaces 141 = .ok (.aload_n 0, 1) := mm_dk kX9_weighPlaces_1 38 rfl
theorem dX9_weighPlaces_142 : decode cX9_weighPlaces 142 = .ok (.getfield 18, 3) := mm_dk kX9_weighPlaces_1 39 rfl
set_option maxRecDepth 100000 in
theorem kX9_weighPlaces_2 : ([(145, .getfield 115, 3), (148, .iload_n 2, 1), (149, .iload_n 3, 1), (150, .iastore, 1), (151, .aload_n 0, 1), (152, .getfield 18, 3), (155, .getfield 118, 3), (158, .iload_n 2, 1), (159, .aload_n 0, 1), (160, .iload_n 2, 1), (161, .iload_n 2, 1), (162, .invokevirtual 121, 3), (165, .iastore, 1), (166, .iinc 2 1, 3), (169, .goto (-89), 3), (172, .return_, 1)] : List (Nat × Instr × Nat)).all (fun x => decide (decode cX9_weighPlaces x.1 = .ok x.2)) = true := by decide +kernel
theorem dX9_weighPlaces_145 : decode cX9_weighPlaces 145 = .ok (.getfield 115, 3) := mm_dk kX9_weighPlaces_2 0 rfl
theorem dX9_weighPlaces_148 : decode cX9_weighPlaces 148 = .ok (.iload_n 2, 1) := mm_dk kX9_weighPlaces_2 1 rfl
theorem dX9_weighPlaces_149 : decode cX9_weighPlaces 149 = .ok (.iload_n 3, 1) := mm_dk kX9_weighPlaces_2 2 rfl
theorem dX9_weighPlaces_150 : decode cX9_weighPlaces 150 = .ok (.iastore, 1) := mm_dk kX9_weighPlaces_2 3 rfl
theorem dX9_weighPlaces_151 : decode cX9_weighPlaces 151 = .ok (.aload_n 0, 1) := mm_dk kX9_weighPlaces_2 4 rfl
theorem dX9_weighPlaces_152 : decode cX9_weighPlaces 152 = .ok (.getfield 18, 3) := mm_dk kX9_weighPlaces_2 5 rfl
theorem dX9_weighPlaces_155 : decode cX9_weighPlaces 155 = .ok (.getfield 118, 3) := mm_dk kX9_weighPlaces_2 6 rfl
theorem dX9_weighPlaces_158 : decode cX9_weighPlaces 158 = .ok (.iload_n 2, 1) := mm_dk kX9_weighPlaces_2 7 rfl
theorem dX9_weighPlaces_159 : decode cX9_weighPlaces 159 = .ok (.aload_n 0, 1) := mm_dk kX9_weighPlaces_2 8 rfl
theorem dX9_weighPlaces_160 : decode cX9_weighPlaces 160 = .ok (.iload_n 2, 1) := mm_dk kX9_weighPlaces_2 9 rfl
theorem dX9_weighPlaces_161 : decode cX9_weighPlaces 161 = .ok (.iload_n 2, 1) := mm_dk kX9_weighPlaces_2 10 rfl
theorem dX9_weighPlaces_162 : decode cX9_weighPlaces 162 = .ok (.invokevirtual 121, 3) := mm_dk kX9_weighPlaces_2 11 rfl
theorem dX9_weighPlaces_165 : decode cX9_weighPlaces 165 = .ok (.iastore, 1) := mm_dk kX9_weighPlaces_2 12 rfl
theorem dX9_weighPlaces_166 : decode cX9_weighPlaces 166 = .ok (.iinc 2 1, 3) := mm_dk kX9_weighPlaces_2 13 rfl
theorem dX9_weighPlaces_169 : decode cX9_weighPlaces 169 = .ok (.goto (-89), 3) := mm_dk kX9_weighPlaces_2 14 rfl
theorem dX9_weighPlaces_172 : decode cX9_weighPlaces 172 = .ok (.return_, 1) := mm_dk kX9_weighPlaces_2 15 rfl
set_option maxRecDepth 100000 in
theorem kX9_overlap_0 : ([(0, .iconst 0, 1), (1, .istore_n 3, 1), (2, .iload_n 2, 1), (3, .iload_n 1, 1), (4, .isub, 1), (5, .istore 4, 2), (7, .iconst 0, 1), (8, .istore 5, 2), (10, .iload 4, 2), (12, .iload 5, 2), (14, .iadd, 1), (15, .getstatic 112, 3), (18, .arraylength, 1), (19, .if_icmp .ge 39, 3), (22, .iload_n 2, 1), (23, .iload 5, 2), (25, .iadd, 1), (26, .aload_n 0, 1), (27, .getfield 22, 3), (30, .if_icmp .ge 28, 3), (33, .iload_n 3, 1), (34, .getstatic 112, 3), (37, .iload 4, 2), (39, .iload 5, 2), (41, .iadd, 1), (42, .iaload, 1), (43, .getstatic 112, 3), (46, .iload 5, 2), (48, .iaload, 1), (49, .imul, 1), (50, .iadd, 1), (51, .istore_n 3, 1), (52, .iinc 5 1, 3), (55, .goto (-45), 3), (58, .iload_n 3, 1), (59, .ireturn, 1)] : List (Nat × Instr × Nat)).all (fun x => decide (decode cX9_overlap x.1 = .ok x.2)) = true := by decide +kernel
theorem dX9_overlap_0 : decode cX9_overlap 0 = .ok (.iconst 0, 1) := mm_dk kX9_overlap_0 0 rfl
theorem dX9_overlap_1 : decode cX9_overlap 1 = .ok (.istore_n 3, 1) := mm_dk kX9_overlap_0 1 rfl
theorem dX9_overlap_2 : decode cX9_overlap 2 = .ok (.iload_n 2, 1) := mm_dk kX9_overlap_0 2 rfl
theorem dX9_overlap_3 : decode cX9_overlap 3 = .ok (.iload_n 1, 1) := mm_dk kX9_overlap_0 3 rfl
theorem dX9_overlap_4 : decode cX9_overlap 4 = .ok (.isub, 1) := mm_dk kX9_overlap_0 4 rfl
theorem dX9_overlap_5 : decode cX9_overlap 5 = .ok (.istore 4, 2) := mm_dk kX9_overlap_0 5 rfl
theorem dX9_overlap_7 : decode cX9_overlap 7 = .ok (.iconst 0, 1) := mm_dk kX9_overlap_0 6 rfl
theorem dX9_overlap_8 : decode cX9_overlap 8 = .ok (.istore 5, 2) := mm_dk kX9_overlap_0 7 rfl
theorem dX9_overlap_10 : decode cX9_overlap 10 = .ok (.iload 4, 2) := mm_dk kX9_overlap_0 8 rfl
theorem dX9_overlap_12 : decode cX9_overlap 12 = .ok (.iload 5, 2) := mm_dk kX9_overlap_0 9 rfl
theorem dX9_overlap_14 : decode cX9_overlap 14 = .ok (.iadd, 1) := mm_dk kX9_overlap_0 10 rfl
theorem dX9_overlap_15 : decode cX9_overlap 15 = .ok (.getstatic 112, 3) := mm_dk kX9_overlap_0 11 rfl
theorem dX9_overlap_18 : decode cX9_overlap 18 = .ok (.arraylength, 1) := mm_dk kX9_overlap_0 12 rfl
theorem dX9_overlap_19 : decode cX9_overlap 19 = .ok (.if_icmp .ge 39, 3) := mm_dk kX9_overlap_0 13 rfl
theorem dX9_overlap_22 : decode cX9_overlap 22 = .ok (.iload_n 2, 1) := mm_dk kX9_overlap_0 14 rfl
theorem dX9_overlap_23 : decode cX9_overlap 23 = .ok (.iload 5, 2) := mm_dk kX9_overlap_0 15 rfl
theorem dX9_overlap_25 : decode cX9_overlap 25 = .ok (.iadd, 1) := mm_dk kX9_overlap_0 16 rfl
theorem dX9_overlap_26 : decode cX9_overlap 26 = .ok (.aload_n 0, 1) := mm_dk kX9_overlap_0 17 rfl
theorem dX9_overlap_27 : decode cX9_overlap 27 = .ok (.getfield 22, 3) := mm_dk kX9_overlap_0 18 rfl
theorem dX9_overlap_30 : decode cX9_overlap 30 = .ok (.if_icmp .ge 28, 3) := mm_dk kX9_overlap_0 19 rfl
theorem dX9_overlap_33 : decode cX9_overlap 33 = .ok (.iload_n 3, 1) := mm_dk kX9_overlap_0 20 rfl
theorem dX9_overlap_34 : decode cX9_overlap 34 = .ok (.getstatic 112, 3) := mm_dk kX9_overlap_0 21 rfl
theorem dX9_overlap_37 : decode cX9_overlap 37 = .ok (.iload 4, 2) := mm_dk kX9_overlap_0 22 rfl
theorem dX9_overlap_39 : decode cX9_overlap 39 = .ok (.iload 5, 2) := mm_dk kX9_overlap_0 23 rfl
theorem dX9_overlap_41 : decode cX9_overlap 41 = .ok (.iadd, 1) := mm_dk kX9_overlap_0 24 rfl
theorem dX9_overlap_42 : decode cX9_overlap 42 = .ok (.iaload, 1) := mm_dk kX9_overlap_0 25 rfl
theorem dX9_overlap_43 : decode cX9_overlap 43 = .ok (.getstatic 112, 3) := mm_dk kX9_overlap_0 26 rfl
theorem dX9_overlap_46 : decode cX9_overlap 46 = .ok (.iload 5, 2) := mm_dk kX9_overlap_0 27 rfl
theorem dX9_overlap_48 : decode cX9_overlap 48 = .ok (.iaload, 1) := mm_dk kX9_overlap_0 28 rfl
theorem dX9_overlap_49 : decode cX9_overlap 49 = .ok (.imul, 1) := mm_dk kX9_overlap_0 29 rfl
theorem dX9_overlap_50 : decode cX9_overlap 50 = .ok (.iadd, 1) := mm_dk kX9_overlap_0 30 rfl
theorem dX9_overlap_51 : decode cX9_overlap 51 = .ok (.istore_n 3, 1) := mm_dk kX9_overlap_0 31 rfl
theorem dX9_overlap_52 : decode cX9_overlap 52 = .ok (.iinc 5 1, 3) := mm_dk kX9_overlap_0 32 rfl
theorem dX9_overlap_55 : decode cX9_overlap 55 = .ok (.goto (-45), 3) := mm_dk kX9_overlap_0 33 rfl
theorem dX9_overlap_58 : decode cX9_overlap 58 = .ok (.iload_n 3, 1) := mm_dk kX9_overlap_0 34 rfl
theorem dX9_overlap_59 : decode cX9_overlap 59 = .ok (.ireturn, 1) := mm_dk kX9_overlap_0 35 rfl
set_option maxRecDepth 100000 in
theorem kX9_findEven_0 : ([(0, .aload_n 0, 1), (1, .ldc2_w 85, 3), (4, .putfield 87, 3), (7, .iconst 0, 1), (8, .istore_n 2, 1), (9, .iload_n 2, 1), (10, .aload_n 0, 1), (11, .getfield 22, 3), (14, .if_icmp .ge 63, 3), (17, .iconst 0, 1), (18, .istore_n 3, 1), (19, .iload_n 3, 1), (20, .iconst 1, 1), (21, .if_icmp .gt 50, 3), (24, .aload_n 0, 1), (25, .aload_n 0, 1), (26, .getfield 18, 3), (29, .getfield 118, 3), (32, .iload_n 2, 1), (33, .iaload, 1), (34, .i2l, 1), (35, .aload_n 0, 1), (36, .getfield 18, 3), (39, .getfield 115, 3), (42, .iload_n 2, 1), (43, .iaload, 1), (44, .iload_n 3, 1), (45, .invokestatic 124, 3), (48, .i2l, 1), (49, .invokevirtual 127, 3), (52, .ifCond .eq 13, 3), (55, .aload_n 1, 1), (56, .iload_n 2, 1), (57, .putfield 90, 3), (60, .aload_n 1, 1), (61, .iload_n 3, 1), (62, .putfield 93, 3), (65, .iinc 3 1, 3), (68, .goto (-49), 3), (71, .iinc 2 2, 3)] : List (Nat × Instr × Nat)).all (fun x => decide (decode cX9_findEven x.1 = .ok x.2)) = true := by decide +kernel
theorem dX9_findEven_0 : decode cX9_findEven 0 = .ok (.aload_n 0, 1) := mm_dk kX9_findEven_0 0 rfl
theorem dX9_findEven_1 : decode cX9_findEven 1 = .ok (.ldc2_w 85, 3) := mm_dk kX9_findEven_0 1 rfl
theorem dX9_findEven_4 : decode cX9_findEven 4 = .ok (.putfield 87, 3) := mm_dk kX9_findEven_0 2 rfl
theorem dX9_findEven_7 : decode cX9_findEven 7 = .ok (.iconst 0, 1) := mm_dk kX9_findEven_0 3 rfl
theorem dX9_findEven_8 : decode cX9_findEven 8 = .ok (.istore_n 2, 1) := mm_dk kX9_findEven_0 4 rfl
theorem dX9_findEven_9 : decode cX9_findEven 9 = .ok (.iload_n 2, 1) := mm_dk kX9_findEven_0 5 rfl
theorem dX9_findEven_10 : decode cX9_findEven 10 = .ok (.aload_n 0, 1) := mm_dk kX9_findEven_0 6 rfl
theorem dX9_findEven_11 : decode cX9_findEven 11 = .ok (.getfield 22, 3) := mm_dk kX9_findEven_0 7 rfl
theorem dX9_findEven_14 : decode cX9_findEven 14 = .ok (.if_icmp .ge 63, 3) := mm_dk kX9_findEven_0 8 rfl
theorem dX9_findEven_17 : decode cX9_findEven 17 = .ok (.iconst 0, 1) := mm_dk kX9_findEven_0 9 rfl
theorem dX9_findEven_18 : decode cX9_findEven 18 = .ok (.istore_n 3, 1) := mm_dk kX9_findEven_0 10 rfl
theorem dX9_findEven_19 : decode cX9_findEven 19 = .ok (.iload_n 3, 1) := mm_dk kX9_findEven_0 11 rfl
theorem dX9_findEven_20 : decode cX9_findEven 20 = .ok (.iconst 1, 1) := mm_dk kX9_findEven_0 12 rfl
theorem dX9_findEven_21 : decode cX9_findEven 21 = .ok (.if_icmp .gt 50, 3) := mm_dk kX9_findEven_0 13 rfl
theorem dX9_findEven_24 : decode cX9_findEven 24 = .ok (.aload_n 0, 1) := mm_dk kX9_findEven_0 14 rfl
theorem dX9_findEven_25 : decode cX9_findEven 25 = .ok (.aload_n 0, 1) := mm_dk kX9_findEven_0 15 rfl
theorem dX9_findEven_26 : decode cX9_findEven 26 = .ok (.getfield 18, 3) := mm_dk kX9_findEven_0 16 rfl
theorem dX9_findEven_29 : decode cX9_findEven 29 = .ok (.getfield 118, 3) := mm_dk kX9_findEven_0 17 rfl
theorem dX9_findEven_32 : decode cX9_findEven 32 = .ok (.iload_n 2, 1) := mm_dk kX9_findEven_0 18 rfl
theorem dX9_findEven_33 : decode cX9_findEven 33 = .ok (.iaload, 1) := mm_dk kX9_findEven_0 19 rfl
theorem dX9_findEven_34 : decode cX9_findEven 34 = .ok (.i2l, 1) := mm_dk kX9_findEven_0 20 rfl
theorem dX9_findEven_35 : decode cX9_findEven 35 = .ok (.aload_n 0, 1) := mm_dk kX9_findEven_0 21 rfl
theorem dX9_findEven_36 : decode cX9_findEven 36 = .ok (.getfield 18, 3) := mm_dk kX9_findEven_0 22 rfl
theorem dX9_findEven_39 : decode cX9_findEven 39 = .ok (.getfield 115, 3) := mm_dk kX9_findEven_0 23 rfl
theorem dX9_findEven_42 : decode cX9_findEven 42 = .ok (.iload_n 2, 1) := mm_dk kX9_findEven_0 24 rfl
theorem dX9_findEven_43 : decode cX9_findEven 43 = .ok (.iaload, 1) := mm_dk kX9_findEven_0 25 rfl
theorem dX9_findEven_44 : decode cX9_findEven 44 = .ok (.iload_n 3, 1) := mm_dk kX9_findEven_0 26 rfl
theorem dX9_findEven_45 : decode cX9_findEven 45 = .ok (.invokestatic 124, 3) := mm_dk kX9_findEven_0 27 rfl
theorem dX9_findEven_48 : decode cX9_findEven 48 = .ok (.i2l, 1) := mm_dk kX9_findEven_0 28 rfl
theorem dX9_findEven_49 : decode cX9_findEven 49 = .ok (.invokevirtual 127, 3) := mm_dk kX9_findEven_0 29 rfl
theorem dX9_findEven_52 : decode cX9_findEven 52 = .ok (.ifCond .eq 13, 3) := mm_dk kX9_findEven_0 30 rfl
theorem dX9_findEven_55 : decode cX9_findEven 55 = .ok (.aload_n 1, 1) := mm_dk kX9_findEven_0 31 rfl
theorem dX9_findEven_56 : decode cX9_findEven 56 = .ok (.iload_n 2, 1) := mm_dk kX9_findEven_0 32 rfl
theorem dX9_findEven_57 : decode cX9_findEven 57 = .ok (.putfield 90, 3) := mm_dk kX9_findEven_0 33 rfl
theorem dX9_findEven_60 : decode cX9_findEven 60 = .ok (.aload_n 1, 1) := mm_dk kX9_findEven_0 34 rfl
theorem dX9_findEven_61 : decode cX9_findEven 61 = .ok (.iload_n 3, 1) := mm_dk kX9_findEven_0 35 rfl
theorem dX9_findEven_62 : decode cX9_findEven 62 = .ok (.putfield 93, 3) := mm_dk kX9_findEven_0 36 rfl
theorem dX9_findEven_65 : decode cX9_findEven 65 = .ok (.iinc 3 1, 3) := mm_dk kX9_findEven_0 37 rfl
theorem dX9_findEven_68 : decode cX9_findEven 68 = .ok (.goto (-49), 3) := mm_dk kX9_findEven_0 38 rfl
theorem dX9_findEven_71 : decode cX9_findEven 71 = .ok (.iinc 2 2, 3) := mm_dk kX9_findEven_0 39 rfl
set_option maxRecDepth 100000 in
theorem kX9_findEven_1 : ([(74, .goto (-65), 3), (77, .return_, 1)] : List (Nat × Instr × Nat)).all (fun x => decide (decode cX9_findEven x.1 = .ok x.2)) = true := by decide +kernel
theorem dX9_findEven_74 : decode cX9_findEven 74 = .ok (.goto (-65), 3) := mm_dk kX9_findEven_1 0 rfl
theorem dX9_findEven_77 : decode cX9_findEven 77 = .ok (.return_, 1) := mm_dk kX9_findEven_1 1 rfl
set_option maxRecDepth 100000 in
theorem kX9_findPair_0 : ([(0, .aload_n 0, 1), (1, .ldc2_w 85, 3), (4, .putfield 87, 3), (7, .iconst 0, 1), (8, .istore_n 2, 1), (9, .iload_n 2, 1), (10, .aload_n 0, 1), (11, .getfield 22, 3), (14, .if_icmp .ge 42, 3), (17, .iconst 0, 1), (18, .istore_n 3, 1), (19, .iload_n 3, 1), (20, .iconst 1, 1), (21, .if_icmp .gt 29, 3), (24, .aload_n 0, 1), (25, .iload_n 2, 1), (26, .iload_n 3, 1), (27, .aload_n 1, 1), (28, .invokevirtual 96, 3), (31, .ifCond .eq 13, 3), (34, .aload_n 1, 1), (35, .iload_n 2, 1), (36, .putfield 90, 3), (39, .aload_n 1, 1), (40, .iload_n 3, 1), (41, .putfield 93, 3), (44, .iinc 3 1, 3), (47, .goto (-28), 3), (50, .iinc 2 2, 3), (53, .goto (-44), 3), (56, .return_, 1)] : List (Nat × Instr × Nat)).all (fun x => decide (decode cX9_findPair x.1 = .ok x.2)) = true := by decide +kernel
theorem dX9_findPair_0 : decode cX9_findPair 0 = .ok (.aload_n 0, 1) := mm_dk kX9_findPair_0 0 rfl
theorem dX9_findPair_1 : decode cX9_findPair 1 = .ok (.ldc2_w 85, 3) := mm_dk kX9_findPair_0 1 rfl
theorem dX9_findPair_4 : decode cX9_findPair 4 = .ok (.putfield 87, 3) := mm_dk kX9_findPair_0 2 rfl
theorem dX9_findPair_7 : decode cX9_findPair 7 = .ok (.iconst 0, 1) := mm_dk kX9_findPair_0 3 rfl
theorem dX9_findPair_8 : decode cX9_findPair 8 = .ok (.istore_n 2, 1) := mm_dk kX9_findPair_0 4 rfl
theorem dX9_findPair_9 : decode cX9_findPair 9 = .ok (.iload_n 2, 1) := mm_dk kX9_findPair_0 5 rfl
theorem dX9_findPair_10 : decode cX9_findPair 10 = .ok (.aload_n 0, 1) := mm_dk kX9_findPair_0 6 rfl
theorem dX9_findPair_11 : decode cX9_findPair 11 = .ok (.getfield 22, 3) := mm_dk kX9_findPair_0 7 rfl
theorem dX9_findPair_14 : decode cX9_findPair 14 = .ok (.if_icmp .ge 42, 3) := mm_dk kX9_findPair_0 8 rfl
theorem dX9_findPair_17 : decode cX9_findPair 17 = .ok (.iconst 0, 1) := mm_dk kX9_findPair_0 9 rfl
theorem dX9_findPair_18 : decode cX9_findPair 18 = .ok (.istore_n 3, 1) := mm_dk kX9_findPair_0 10 rfl
theorem dX9_findPair_19 : decode cX9_findPair 19 = .ok (.iload_n 3, 1) := mm_dk kX9_findPair_0 11 rfl
theorem dX9_findPair_20 : decode cX9_findPair 20 = .ok (.iconst 1, 1) := mm_dk kX9_findPair_0 12 rfl
theorem dX9_findPair_21 : decode cX9_findPair 21 = .ok (.if_icmp .gt 29, 3) := mm_dk kX9_findPair_0 13 rfl
theorem dX9_findPair_24 : decode cX9_findPair 24 = .ok (.aload_n 0, 1) := mm_dk kX9_findPair_0 14 rfl
theorem dX9_findPair_25 : decode cX9_findPair 25 = .ok (.iload_n 2, 1) := mm_dk kX9_findPair_0 15 rfl
theorem dX9_findPair_26 : decode cX9_findPair 26 = .ok (.iload_n 3, 1) := mm_dk kX9_findPair_0 16 rfl
theorem dX9_findPair_27 : decode cX9_findPair 27 = .ok (.aload_n 1, 1) := mm_dk kX9_findPair_0 17 rfl
theorem dX9_findPair_28 : decode cX9_findPair 28 = .ok (.invokevirtual 96, 3) := mm_dk kX9_findPair_0 18 rfl
theorem dX9_findPair_31 : decode cX9_findPair 31 = .ok (.ifCond .eq 13, 3) := mm_dk kX9_findPair_0 19 rfl
theorem dX9_findPair_34 : decode cX9_findPair 34 = .ok (.aload_n 1, 1) := mm_dk kX9_findPair_0 20 rfl
theorem dX9_findPair_35 : decode cX9_findPair 35 = .ok (.iload_n 2, 1) := mm_dk kX9_findPair_0 21 rfl
theorem dX9_findPair_36 : decode cX9_findPair 36 = .ok (.putfield 90, 3) := mm_dk kX9_findPair_0 22 rfl
theorem dX9_findPair_39 : decode cX9_findPair 39 = .ok (.aload_n 1, 1) := mm_dk kX9_findPair_0 23 rfl
theorem dX9_findPair_40 : decode cX9_findPair 40 = .ok (.iload_n 3, 1) := mm_dk kX9_findPair_0 24 rfl
theorem dX9_findPair_41 : decode cX9_findPair 41 = .ok (.putfield 93, 3) := mm_dk kX9_findPair_0 25 rfl
theorem dX9_findPair_44 : decode cX9_findPair 44 = .ok (.iinc 3 1, 3) := mm_dk kX9_findPair_0 26 rfl
theorem dX9_findPair_47 : decode cX9_findPair 47 = .ok (.goto (-28), 3) := mm_dk kX9_findPair_0 27 rfl
theorem dX9_findPair_50 : decode cX9_findPair 50 = .ok (.iinc 2 2, 3) := mm_dk kX9_findPair_0 28 rfl
theorem dX9_findPair_53 : decode cX9_findPair 53 = .ok (.goto (-44), 3) := mm_dk kX9_findPair_0 29 rfl
theorem dX9_findPair_56 : decode cX9_findPair 56 = .ok (.return_, 1) := mm_dk kX9_findPair_0 30 rfl
set_option maxRecDepth 100000 in
theorem kX9_findOdd_0 : ([(0, .iconst 0, 1), (1, .istore 4, 2), (3, .aload_n 0, 1), (4, .getfield 18, 3), (7, .getfield 115, 3), (10, .iload_n 1, 1), (11, .iaload, 1), (12, .iload_n 2, 1), (13, .invokestatic 124, 3), (16, .istore 5, 2), (18, .iconst 1, 1), (19, .istore 6, 2), (21, .iload 6, 2), (23, .aload_n 0, 1), (24, .getfield 22, 3), (27, .if_icmp .ge 120, 3), (30, .aload_n 0, 1), (31, .iload_n 1, 1), (32, .iload 6, 2), (34, .invokestatic 54, 3), (37, .iload_n 1, 1), (38, .iload 6, 2), (40, .invokestatic 48, 3), (43, .invokevirtual 121, 3), (46, .istore 7, 2), (48, .iconst 0, 1), (49, .istore 8, 2), (51, .iload 8, 2), (53, .iconst 1, 1), (54, .if_icmp .gt 87, 3), (57, .aload_n 0, 1), (58, .getfield 18, 3), (61, .getfield 118, 3), (64, .iload_n 1, 1), (65, .iaload, 1), (66, .aload_n 0, 1), (67, .getfield 18, 3), (70, .getfield 118, 3), (73, .iload 6, 2), (75, .iaload, 1)] : List (Nat × Instr × Nat)).all (fun x => decide (decode cX9_findOdd x.1 = .ok x.2)) = true := by decide +kernel
theorem dX9_findOdd_0 : decode cX9_findOdd 0 = .ok (.iconst 0, 1) := mm_dk kX9_findOdd_0 0 rfl
theorem dX9_findOdd_1 : decode cX9_findOdd 1 = .ok (.istore 4, 2) := mm_dk kX9_findOdd_0 1 rfl
theorem dX9_findOdd_3 : decode cX9_findOdd 3 = .ok (.aload_n 0, 1) := mm_dk kX9_findOdd_0 2 rfl
theorem dX9_findOdd_4 : decode cX9_findOdd 4 = .ok (.getfield 18, 3) := mm_dk kX9_findOdd_0 3 rfl
theorem dX9_findOdd_7 : decode cX9_findOdd 7 = .ok (.getfield 115, 3) := mm_dk kX9_findOdd_0 4 rfl
theorem dX9_findOdd_10 : decode cX9_findOdd 10 = .ok (.iload_n 1, 1) := mm_dk kX9_findOdd_0 5 rfl
theorem dX9_findOdd_11 : decode cX9_findOdd 11 = .ok (.iaload, 1) := mm_dk kX9_findOdd_0 6 rfl
theorem dX9_findOdd_12 : decode cX9_findOdd 12 = .ok (.iload_n 2, 1) := mm_dk kX9_findOdd_0 7 rfl
theorem dX9_findOdd_13 : decode cX9_findOdd 13 = .ok (.invokestatic 124, 3) := mm_dk kX9_findOdd_0 8 rfl
theorem dX9_findOdd_16 : decode cX9_findOdd 16 = .ok (.istore 5, 2) := mm_dk kX9_findOdd_0 9 rfl
theorem dX9_findOdd_18 : decode cX9_findOdd 18 = .ok (.iconst 1, 1) := mm_dk kX9_findOdd_0 10 rfl
theorem dX9_findOdd_19 : decode cX9_findOdd 19 = .ok (.istore 6, 2) := mm_dk kX9_findOdd_0 11 rfl
theorem dX9_findOdd_21 : decode cX9_findOdd 21 = .ok (.iload 6, 2) := mm_dk kX9_findOdd_0 12 rfl
theorem dX9_findOdd_23 : decode cX9_findOdd 23 = .ok (.aload_n 0, 1) := mm_dk kX9_findOdd_0 13 rfl
theorem dX9_findOdd_24 : decode cX9_findOdd 24 = .ok (.getfield 22, 3) := mm_dk kX9_findOdd_0 14 rfl
theorem dX9_findOdd_27 : decode cX9_findOdd 27 = .ok (.if_icmp .ge 120, 3) := mm_dk kX9_findOdd_0 15 rfl
theorem dX9_findOdd_30 : decode cX9_findOdd 30 = .ok (.aload_n 0, 1) := mm_dk kX9_findOdd_0 16 rfl
theorem dX9_findOdd_31 : decode cX9_findOdd 31 = .ok (.iload_n 1, 1) := mm_dk kX9_findOdd_0 17 rfl
theorem dX9_findOdd_32 : decode cX9_findOdd 32 = .ok (.iload 6, 2) := mm_dk kX9_findOdd_0 18 rfl
theorem dX9_findOdd_34 : decode cX9_findOdd 34 = .ok (.invokestatic 54, 3) := mm_dk kX9_findOdd_0 19 rfl
theorem dX9_findOdd_37 : decode cX9_findOdd 37 = .ok (.iload_n 1, 1) := mm_dk kX9_findOdd_0 20 rfl
theorem dX9_findOdd_38 : decode cX9_findOdd 38 = .ok (.iload 6, 2) := mm_dk kX9_findOdd_0 21 rfl
theorem dX9_findOdd_40 : decode cX9_findOdd 40 = .ok (.invokestatic 48, 3) := mm_dk kX9_findOdd_0 22 rfl
theorem dX9_findOdd_43 : decode cX9_findOdd 43 = .ok (.invokevirtual 121, 3) := mm_dk kX9_findOdd_0 23 rfl
theorem dX9_findOdd_46 : decode cX9_findOdd 46 = .ok (.istore 7, 2) := mm_dk kX9_findOdd_0 24 rfl
theorem dX9_findOdd_48 : decode cX9_findOdd 48 = .ok (.iconst 0, 1) := mm_dk kX9_findOdd_0 25 rfl
theorem dX9_findOdd_49 : decode cX9_findOdd 49 = .ok (.istore 8, 2) := mm_dk kX9_findOdd_0 26 rfl
theorem dX9_findOdd_51 : decode cX9_findOdd 51 = .ok (.iload 8, 2) := mm_dk kX9_findOdd_0 27 rfl
theorem dX9_findOdd_53 : decode cX9_findOdd 53 = .ok (.iconst 1, 1) := mm_dk kX9_findOdd_0 28 rfl
theorem dX9_findOdd_54 : decode cX9_findOdd 54 = .ok (.if_icmp .gt 87, 3) := mm_dk kX9_findOdd_0 29 rfl
theorem dX9_findOdd_57 : decode cX9_findOdd 57 = .ok (.aload_n 0, 1) := mm_dk kX9_findOdd_0 30 rfl
theorem dX9_findOdd_58 : decode cX9_findOdd 58 = .ok (.getfield 18, 3) := mm_dk kX9_findOdd_0 31 rfl
theorem dX9_findOdd_61 : decode cX9_findOdd 61 = .ok (.getfield 118, 3) := mm_dk kX9_findOdd_0 32 rfl
theorem dX9_findOdd_64 : decode cX9_findOdd 64 = .ok (.iload_n 1, 1) := mm_dk kX9_findOdd_0 33 rfl
theorem dX9_findOdd_65 : decode cX9_findOdd 65 = .ok (.iaload, 1) := mm_dk kX9_findOdd_0 34 rfl
theorem dX9_findOdd_66 : decode cX9_findOdd 66 = .ok (.aload_n 0, 1) := mm_dk kX9_findOdd_0 35 rfl
theorem dX9_findOdd_67 : decode cX9_findOdd 67 = .ok (.getfield 18, 3) := mm_dk kX9_findOdd_0 36 rfl
theorem dX9_findOdd_70 : decode cX9_findOdd 70 = .ok (.getfield 118, 3) := mm_dk kX9_findOdd_0 37 rfl
theorem dX9_findOdd_73 : decode cX9_findOdd 73 = .ok (.iload 6, 2) := mm_dk kX9_findOdd_0 38 rfl
theorem dX9_findOdd_75 : decode cX9_findOdd 75 = .ok (.iaload, 1) := mm_dk kX9_findOdd_0 39 rfl
set_option maxRecDepth 100000 in
theorem kX9_findOdd_1 : ([(76, .iadd, 1), (77, .iconst 2, 1), (78, .iload 7, 2), (80, .iload 8, 2), (82, .iload_n 2, 1), (83, .ixor, 1), (84, .invokestatic 124, 3), (87, .imul, 1), (88, .iadd, 1), (89, .istore 9, 2), (91, .aload_n 0, 1), (92, .iload 9, 2), (94, .i2l, 1), (95, .iload 5, 2), (97, .aload_n 0, 1), (98, .getfield 18, 3), (101, .getfield 115, 3), (104, .iload 6, 2), (106, .iaload, 1), (107, .iload 8, 2), (109, .invokestatic 124, 3), (112, .iadd, 1), (113, .i2l, 1), (114, .invokevirtual 127, 3), (117, .ifCond .eq 18, 3), (120, .aload_n 3, 1), (121, .iload 6, 2), (123, .putfield 131, 3), (126, .aload_n 3, 1), (127, .iload 8, 2), (129, .putfield 134, 3), (132, .iconst 1, 1), (133, .istore 4, 2), (135, .iinc 8 1, 3), (138, .goto (-87), 3), (141, .iinc 6 2, 3), (144, .goto (-123), 3), (147, .iload 4, 2), (149, .ireturn, 1)] : List (Nat × Instr × Nat)).all (fun x => decide (decode cX9_findOdd x.1 = .ok x.2)) = true := by decide +kernel
theorem dX9_findOdd_76 : decode cX9_findOdd 76 = .ok (.iadd, 1) := mm_dk kX9_findOdd_1 0 rfl
theorem dX9_findOdd_77 : decode cX9_findOdd 77 = .ok (.iconst 2, 1) := mm_dk kX9_findOdd_1 1 rfl
theorem dX9_findOdd_78 : decode cX9_findOdd 78 = .ok (.iload 7, 2) := mm_dk kX9_findOdd_1 2 rfl
theorem dX9_findOdd_80 : decode cX9_findOdd 80 = .ok (.iload 8, 2) := mm_dk kX9_findOdd_1 3 rfl
theorem dX9_findOdd_82 : decode cX9_findOdd 82 = .ok (.iload_n 2, 1) := mm_dk kX9_findOdd_1 4 rfl
theorem dX9_findOdd_83 : decode cX9_findOdd 83 = .ok (.ixor, 1) := mm_dk kX9_findOdd_1 5 rfl
theorem dX9_findOdd_84 : decode cX9_findOdd 84 = .ok (.invokestatic 124, 3) := mm_dk kX9_findOdd_1 6 rfl
theorem dX9_findOdd_87 : decode cX9_findOdd 87 = .ok (.imul, 1) := mm_dk kX9_findOdd_1 7 rfl
theorem dX9_findOdd_88 : decode cX9_findOdd 88 = .ok (.iadd, 1) := mm_dk kX9_findOdd_1 8 rfl
theorem dX9_findOdd_89 : decode cX9_findOdd 89 = .ok (.istore 9, 2) := mm_dk kX9_findOdd_1 9 rfl
theorem dX9_findOdd_91 : decode cX9_findOdd 91 = .ok (.aload_n 0, 1) := mm_dk kX9_findOdd_1 10 rfl
theorem dX9_findOdd_92 : decode cX9_findOdd 92 = .ok (.iload 9, 2) := mm_dk kX9_findOdd_1 11 rfl
theorem dX9_findOdd_94 : decode cX9_findOdd 94 = .ok (.i2l, 1) := mm_dk kX9_findOdd_1 12 rfl
theorem dX9_findOdd_95 : decode cX9_findOdd 95 = .ok (.iload 5, 2) := mm_dk kX9_findOdd_1 13 rfl
theorem dX9_findOdd_97 : decode cX9_findOdd 97 = .ok (.aload_n 0, 1) := mm_dk kX9_findOdd_1 14 rfl
theorem dX9_findOdd_98 : decode cX9_findOdd 98 = .ok (.getfield 18, 3) := mm_dk kX9_findOdd_1 15 rfl
theorem dX9_findOdd_101 : decode cX9_findOdd 101 = .ok (.getfield 115, 3) := mm_dk kX9_findOdd_1 16 rfl
theorem dX9_findOdd_104 : decode cX9_findOdd 104 = .ok (.iload 6, 2) := mm_dk kX9_findOdd_1 17 rfl
theorem dX9_findOdd_106 : decode cX9_findOdd 106 = .ok (.iaload, 1) := mm_dk kX9_findOdd_1 18 rfl
theorem dX9_findOdd_107 : decode cX9_findOdd 107 = .ok (.iload 8, 2) := mm_dk kX9_findOdd_1 19 rfl
theorem dX9_findOdd_109 : decode cX9_findOdd 109 = .ok (.invokestatic 124, 3) := mm_dk kX9_findOdd_1 20 rfl
theorem dX9_findOdd_112 : decode cX9_findOdd 112 = .ok (.iadd, 1) := mm_dk kX9_findOdd_1 21 rfl
theorem dX9_findOdd_113 : decode cX9_findOdd 113 = .ok (.i2l, 1) := mm_dk kX9_findOdd_1 22 rfl
theorem dX9_findOdd_114 : decode cX9_findOdd 114 = .ok (.invokevirtual 127, 3) := mm_dk kX9_findOdd_1 23 rfl
theorem dX9_findOdd_117 : decode cX9_findOdd 117 = .ok (.ifCond .eq 18, 3) := mm_dk kX9_findOdd_1 24 rfl
theorem dX9_findOdd_120 : decode cX9_findOdd 120 = .ok (.aload_n 3, 1) := mm_dk kX9_findOdd_1 25 rfl
theorem dX9_findOdd_121 : decode cX9_findOdd 121 = .ok (.iload 6, 2) := mm_dk kX9_findOdd_1 26 rfl
theorem dX9_findOdd_123 : decode cX9_findOdd 123 = .ok (.putfield 131, 3) := mm_dk kX9_findOdd_1 27 rfl
theorem dX9_findOdd_126 : decode cX9_findOdd 126 = .ok (.aload_n 3, 1) := mm_dk kX9_findOdd_1 28 rfl
theorem dX9_findOdd_127 : decode cX9_findOdd 127 = .ok (.iload 8, 2) := mm_dk kX9_findOdd_1 29 rfl
theorem dX9_findOdd_129 : decode cX9_findOdd 129 = .ok (.putfield 134, 3) := mm_dk kX9_findOdd_1 30 rfl
theorem dX9_findOdd_132 : decode cX9_findOdd 132 = .ok (.iconst 1, 1) := mm_dk kX9_findOdd_1 31 rfl
theorem dX9_findOdd_133 : decode cX9_findOdd 133 = .ok (.istore 4, 2) := mm_dk kX9_findOdd_1 32 rfl
theorem dX9_findOdd_135 : decode cX9_findOdd 135 = .ok (.iinc 8 1, 3) := mm_dk kX9_findOdd_1 33 rfl
theorem dX9_findOdd_138 : decode cX9_findOdd 138 = .ok (.goto (-87), 3) := mm_dk kX9_findOdd_1 34 rfl
theorem dX9_findOdd_141 : decode cX9_findOdd 141 = .ok (.iinc 6 2, 3) := mm_dk kX9_findOdd_1 35 rfl
theorem dX9_findOdd_144 : decode cX9_findOdd 144 = .ok (.goto (-123), 3) := mm_dk kX9_findOdd_1 36 rfl
theorem dX9_findOdd_147 : decode cX9_findOdd 147 = .ok (.iload 4, 2) := mm_dk kX9_findOdd_1 37 rfl
theorem dX9_findOdd_149 : decode cX9_findOdd 149 = .ok (.ireturn, 1) := mm_dk kX9_findOdd_1 38 rfl
set_option maxRecDepth 100000 in
theorem kX9_turned_0 : ([(0, .iload_n 1, 1), (1, .ifCond .ne 7, 3), (4, .iload_n 0, 1), (5, .goto 5, 3), (8, .iload_n 0, 1), (9, .ineg, 1), (10, .ireturn, 1)] : List (Nat × Instr × Nat)).all (fun x => decide (decode cX9_turned x.1 = .ok x.2)) = true := by decide +kernel
theorem dX9_turned_0 : decode cX9_turned 0 = .ok (.iload_n 1, 1) := mm_dk kX9_turned_0 0 rfl
theorem dX9_turned_1 : decode cX9_turned 1 = .ok (.ifCond .ne 7, 3) := mm_dk kX9_turned_0 1 rfl
theorem dX9_turned_4 : decode cX9_turned 4 = .ok (.iload_n 0, 1) := mm_dk kX9_turned_0 2 rfl
theorem dX9_turned_5 : decode cX9_turned 5 = .ok (.goto 5, 3) := mm_dk kX9_turned_0 3 rfl
theorem dX9_turned_8 : decode cX9_turned 8 = .ok (.iload_n 0, 1) := mm_dk kX9_turned_0 4 rfl
theorem dX9_turned_9 : decode cX9_turned 9 = .ok (.ineg, 1) := mm_dk kX9_turned_0 5 rfl
theorem dX9_turned_10 : decode cX9_turned 10 = .ok (.ireturn, 1) := mm_dk kX9_turned_0 6 rfl
set_option maxRecDepth 100000 in
theorem kX9_betters_0 : ([(0, .lload_n 3, 1), (1, .lconst 0, 1), (2, .lcmp, 1), (3, .ifCond .le 13, 3), (6, .ldc2_w 137, 3), (9, .lload_n 3, 1), (10, .lmul, 1), (11, .lload_n 3, 1), (12, .lmul, 1), (13, .goto 4, 3), (16, .lconst 0, 1), (17, .lstore 5, 2), (19, .lload 5, 2), (21, .aload_n 0, 1), (22, .getfield 87, 3), (25, .lload_n 1, 1), (26, .lmul, 1), (27, .lcmp, 1), (28, .ifCond .lt 5, 3), (31, .iconst 0, 1), (32, .ireturn, 1), (33, .iconst 0, 1), (34, .istore 7, 2), (36, .ldc2_w 85, 3), (39, .lstore 8, 2), (41, .iconst 0, 1), (42, .istore 10, 2), (44, .iload 10, 2), (46, .bipush 51, 2), (48, .if_icmp .gt 74, 3), (51, .getstatic 139, 3), (54, .iload 10, 2), (56, .iaload, 1), (57, .i2l, 1), (58, .getstatic 139, 3), (61, .iload 10, 2), (63, .iaload, 1), (64, .i2l, 1), (65, .lload_n 1, 1), (66, .lmul, 1)] : List (Nat × Instr × Nat)).all (fun x => decide (decode cX9_betters x.1 = .ok x.2)) = true := by decide +kernel
theorem dX9_betters_0 : decode cX9_betters 0 = .ok (.lload_n 3, 1) := mm_dk kX9_betters_0 0 rfl
theorem dX9_betters_1 : decode cX9_betters 1 = .ok (.lconst 0, 1) := mm_dk kX9_betters_0 1 rfl
theorem dX9_betters_2 : decode cX9_betters 2 = .ok (.lcmp, 1) := mm_dk kX9_betters_0 2 rfl
theorem dX9_betters_3 : decode cX9_betters 3 = .ok (.ifCond .le 13, 3) := mm_dk kX9_betters_0 3 rfl
theorem dX9_betters_6 : decode cX9_betters 6 = .ok (.ldc2_w 137, 3) := mm_dk kX9_betters_0 4 rfl
theorem dX9_betters_9 : decode cX9_betters 9 = .ok (.lload_n 3, 1) := mm_dk kX9_betters_0 5 rfl
theorem dX9_betters_10 : decode cX9_betters 10 = .ok (.lmul, 1) := mm_dk kX9_betters_0 6 rfl
theorem dX9_betters_11 : decode cX9_betters 11 = .ok (.lload_n 3, 1) := mm_dk kX9_betters_0 7 rfl
theorem dX9_betters_12 : decode cX9_betters 12 = .ok (.lmul, 1) := mm_dk kX9_betters_0 8 rfl
theorem dX9_betters_13 : decode cX9_betters 13 = .ok (.goto 4, 3) := mm_dk kX9_betters_0 9 rfl
theorem dX9_betters_16 : decode cX9_betters 16 = .ok (.lconst 0, 1) := mm_dk kX9_betters_0 10 rfl
theorem dX9_betters_17 : decode cX9_betters 17 = .ok (.lstore 5, 2) := mm_dk kX9_betters_0 11 rfl
theorem dX9_betters_19 : decode cX9_betters 19 = .ok (.lload 5, 2) := mm_dk kX9_betters_0 12 rfl
theorem dX9_betters_21 : decode cX9_betters 21 = .ok (.aload_n 0, 1) := mm_dk kX9_betters_0 13 rfl
theorem dX9_betters_22 : decode cX9_betters 22 = .ok (.getfield 87, 3) := mm_dk kX9_betters_0 14 rfl
theorem dX9_betters_25 : decode cX9_betters 25 = .ok (.lload_n 1, 1) := mm_dk kX9_betters_0 15 rfl
theorem dX9_betters_26 : decode cX9_betters 26 = .ok (.lmul, 1) := mm_dk kX9_betters_0 16 rfl
theorem dX9_betters_27 : decode cX9_betters 27 = .ok (.lcmp, 1) := mm_dk kX9_betters_0 17 rfl
theorem dX9_betters_28 : decode cX9_betters 28 = .ok (.ifCond .lt 5, 3) := mm_dk kX9_betters_0 18 rfl
theorem dX9_betters_31 : decode cX9_betters 31 = .ok (.iconst 0, 1) := mm_dk kX9_betters_0 19 rfl
theorem dX9_betters_32 : decode cX9_betters 32 = .ok (.ireturn, 1) := mm_dk kX9_betters_0 20 rfl
theorem dX9_betters_33 : decode cX9_betters 33 = .ok (.iconst 0, 1) := mm_dk kX9_betters_0 21 rfl
theorem dX9_betters_34 : decode cX9_betters 34 = .ok (.istore 7, 2) := mm_dk kX9_betters_0 22 rfl
theorem dX9_betters_36 : decode cX9_betters 36 = .ok (.ldc2_w 85, 3) := mm_dk kX9_betters_0 23 rfl
theorem dX9_betters_39 : decode cX9_betters 39 = .ok (.lstore 8, 2) := mm_dk kX9_betters_0 24 rfl
theorem dX9_betters_41 : decode cX9_betters 41 = .ok (.iconst 0, 1) := mm_dk kX9_betters_0 25 rfl
theorem dX9_betters_42 : decode cX9_betters 42 = .ok (.istore 10, 2) := mm_dk kX9_betters_0 26 rfl
theorem dX9_betters_44 : decode cX9_betters 44 = .ok (.iload 10, 2) := mm_dk kX9_betters_0 27 rfl
theorem dX9_betters_46 : decode cX9_betters 46 = .ok (.bipush 51, 2) := mm_dk kX9_betters_0 28 rfl
theorem dX9_betters_48 : decode cX9_betters 48 = .ok (.if_icmp .gt 74, 3) := mm_dk kX9_betters_0 29 rfl
theorem dX9_betters_51 : decode cX9_betters 51 = .ok (.getstatic 139, 3) := mm_dk kX9_betters_0 30 rfl
theorem dX9_betters_54 : decode cX9_betters 54 = .ok (.iload 10, 2) := mm_dk kX9_betters_0 31 rfl
theorem dX9_betters_56 : decode cX9_betters 56 = .ok (.iaload, 1) := mm_dk kX9_betters_0 32 rfl
theorem dX9_betters_57 : decode cX9_betters 57 = .ok (.i2l, 1) := mm_dk kX9_betters_0 33 rfl
theorem dX9_betters_58 : decode cX9_betters 58 = .ok (.getstatic 139, 3) := mm_dk kX9_betters_0 34 rfl
theorem dX9_betters_61 : decode cX9_betters 61 = .ok (.iload 10, 2) := mm_dk kX9_betters_0 35 rfl
theorem dX9_betters_63 : decode cX9_betters 63 = .ok (.iaload, 1) := mm_dk kX9_betters_0 36 rfl
theorem dX9_betters_64 : decode cX9_betters 64 = .ok (.i2l, 1) := mm_dk kX9_betters_0 37 rfl
theorem dX9_betters_65 : decode cX9_betters 65 = .ok (.lload_n 1, 1) := mm_dk kX9_betters_0 38 rfl
theorem dX9_betters_66 : decode cX9_betters 66 = .ok (.lmul, 1) := mm_dk kX9_betters_0 39 rfl
set_option maxRecDepth 100000 in
theorem kX9_betters_1 : ([(67, .ldc2_w 142, 3), (70, .lload_n 3, 1), (71, .lmul, 1), (72, .lsub, 1), (73, .lmul, 1), (74, .lstore 11, 2), (76, .lload 11, 2), (78, .lload 8, 2), (80, .lcmp, 1), (81, .ifCond .lt 6, 3), (84, .goto 38, 3), (87, .lload 11, 2), (89, .lstore 8, 2), (91, .lload 11, 2), (93, .aload_n 0, 1), (94, .getfield 87, 3), (97, .lcmp, 1), (98, .ifCond .ge 18, 3), (101, .aload_n 0, 1), (102, .lload 11, 2), (104, .putfield 87, 3), (107, .aload_n 0, 1), (108, .iload 10, 2), (110, .putfield 103, 3), (113, .iconst 1, 1), (114, .istore 7, 2), (116, .iinc 10 1, 3), (119, .goto (-75), 3), (122, .iload 7, 2), (124, .ireturn, 1)] : List (Nat × Instr × Nat)).all (fun x => decide (decode cX9_betters x.1 = .ok x.2)) = true := by decide +kernel
theorem dX9_betters_67 : decode cX9_betters 67 = .ok (.ldc2_w 142, 3) := mm_dk kX9_betters_1 0 rfl
theorem dX9_betters_70 : decode cX9_betters 70 = .ok (.lload_n 3, 1) := mm_dk kX9_betters_1 1 rfl
theorem dX9_betters_71 : decode cX9_betters 71 = .ok (.lmul, 1) := mm_dk kX9_betters_1 2 rfl
theorem dX9_betters_72 : decode cX9_betters 72 = .ok (.lsub, 1) := mm_dk kX9_betters_1 3 rfl
theorem dX9_betters_73 : decode cX9_betters 73 = .ok (.lmul, 1) := mm_dk kX9_betters_1 4 rfl
theorem dX9_betters_74 : decode cX9_betters 74 = .ok (.lstore 11, 2) := mm_dk kX9_betters_1 5 rfl
theorem dX9_betters_76 : decode cX9_betters 76 = .ok (.lload 11, 2) := mm_dk kX9_betters_1 6 rfl
theorem dX9_betters_78 : decode cX9_betters 78 = .ok (.lload 8, 2) := mm_dk kX9_betters_1 7 rfl
theorem dX9_betters_80 : decode cX9_betters 80 = .ok (.lcmp, 1) := mm_dk kX9_betters_1 8 rfl
theorem dX9_betters_81 : decode cX9_betters 81 = .ok (.ifCond .lt 6, 3) := mm_dk kX9_betters_1 9 rfl
theorem dX9_betters_84 : decode cX9_betters 84 = .ok (.goto 38, 3) := mm_dk kX9_betters_1 10 rfl
theorem dX9_betters_87 : decode cX9_betters 87 = .ok (.lload 11, 2) := mm_dk kX9_betters_1 11 rfl
theorem dX9_betters_89 : decode cX9_betters 89 = .ok (.lstore 8, 2) := mm_dk kX9_betters_1 12 rfl
theorem dX9_betters_91 : decode cX9_betters 91 = .ok (.lload 11, 2) := mm_dk kX9_betters_1 13 rfl
theorem dX9_betters_93 : decode cX9_betters 93 = .ok (.aload_n 0, 1) := mm_dk kX9_betters_1 14 rfl
theorem dX9_betters_94 : decode cX9_betters 94 = .ok (.getfield 87, 3) := mm_dk kX9_betters_1 15 rfl
theorem dX9_betters_97 : decode cX9_betters 97 = .ok (.lcmp, 1) := mm_dk kX9_betters_1 16 rfl
theorem dX9_betters_98 : decode cX9_betters 98 = .ok (.ifCond .ge 18, 3) := mm_dk kX9_betters_1 17 rfl
theorem dX9_betters_101 : decode cX9_betters 101 = .ok (.aload_n 0, 1) := mm_dk kX9_betters_1 18 rfl
theorem dX9_betters_102 : decode cX9_betters 102 = .ok (.lload 11, 2) := mm_dk kX9_betters_1 19 rfl
theorem dX9_betters_104 : decode cX9_betters 104 = .ok (.putfield 87, 3) := mm_dk kX9_betters_1 20 rfl
theorem dX9_betters_107 : decode cX9_betters 107 = .ok (.aload_n 0, 1) := mm_dk kX9_betters_1 21 rfl
theorem dX9_betters_108 : decode cX9_betters 108 = .ok (.iload 10, 2) := mm_dk kX9_betters_1 22 rfl
theorem dX9_betters_110 : decode cX9_betters 110 = .ok (.putfield 103, 3) := mm_dk kX9_betters_1 23 rfl
theorem dX9_betters_113 : decode cX9_betters 113 = .ok (.iconst 1, 1) := mm_dk kX9_betters_1 24 rfl
theorem dX9_betters_114 : decode cX9_betters 114 = .ok (.istore 7, 2) := mm_dk kX9_betters_1 25 rfl
theorem dX9_betters_116 : decode cX9_betters 116 = .ok (.iinc 10 1, 3) := mm_dk kX9_betters_1 26 rfl
theorem dX9_betters_119 : decode cX9_betters 119 = .ok (.goto (-75), 3) := mm_dk kX9_betters_1 27 rfl
theorem dX9_betters_122 : decode cX9_betters 122 = .ok (.iload 7, 2) := mm_dk kX9_betters_1 28 rfl
theorem dX9_betters_124 : decode cX9_betters 124 = .ok (.ireturn, 1) := mm_dk kX9_betters_1 29 rfl
set_option maxRecDepth 100000 in
theorem kX10_init_0 : ([(0, .aload_n 0, 1), (1, .invokespecial 3, 3), (4, .aload_n 0, 1), (5, .bipush 8, 2), (7, .newarray .int, 2), (9, .putfield 9, 3), (12, .aload_n 0, 1), (13, .bipush 32, 2), (15, .newarray .int, 2), (17, .putfield 15, 3), (20, .return_, 1)] : List (Nat × Instr × Nat)).all (fun x => decide (decode cX10_init x.1 = .ok x.2)) = true := by decide +kernel
theorem dX10_init_0 : decode cX10_init 0 = .ok (.aload_n 0, 1) := mm_dk kX10_init_0 0 rfl
theorem dX10_init_1 : decode cX10_init 1 = .ok (.invokespecial 3, 3) := mm_dk kX10_init_0 1 rfl
theorem dX10_init_4 : decode cX10_init 4 = .ok (.aload_n 0, 1) := mm_dk kX10_init_0 2 rfl
theorem dX10_init_5 : decode cX10_init 5 = .ok (.bipush 8, 2) := mm_dk kX10_init_0 3 rfl
theorem dX10_init_7 : decode cX10_init 7 = .ok (.newarray .int, 2) := mm_dk kX10_init_0 4 rfl
theorem dX10_init_9 : decode cX10_init 9 = .ok (.putfield 9, 3) := mm_dk kX10_init_0 5 rfl
theorem dX10_init_12 : decode cX10_init 12 = .ok (.aload_n 0, 1) := mm_dk kX10_init_0 6 rfl
theorem dX10_init_13 : decode cX10_init 13 = .ok (.bipush 32, 2) := mm_dk kX10_init_0 7 rfl
theorem dX10_init_15 : decode cX10_init 15 = .ok (.newarray .int, 2) := mm_dk kX10_init_0 8 rfl
theorem dX10_init_17 : decode cX10_init 17 = .ok (.putfield 15, 3) := mm_dk kX10_init_0 9 rfl
theorem dX10_init_20 : decode cX10_init 20 = .ok (.return_, 1) := mm_dk kX10_init_0 10 rfl
set_option maxRecDepth 100000 in
theorem kX10_mark_0 : ([(0, .aload_n 0, 1), (1, .getfield 18, 3), (4, .bipush 32, 2), (6, .if_icmp .ge 23, 3), (9, .aload_n 0, 1), (10, .getfield 15, 3), (13, .aload_n 0, 1), (14, .getfield 18, 3), (17, .iload_n 1, 1), (18, .iastore, 1), (19, .aload_n 0, 1), (20, .dup, 1), (21, .getfield 18, 3), (24, .iconst 1, 1), (25, .iadd, 1), (26, .putfield 18, 3), (29, .return_, 1)] : List (Nat × Instr × Nat)).all (fun x => decide (decode cX10_mark x.1 = .ok x.2)) = true := by decide +kernel
theorem dX10_mark_0 : decode cX10_mark 0 = .ok (.aload_n 0, 1) := mm_dk kX10_mark_0 0 rfl
theorem dX10_mark_1 : decode cX10_mark 1 = .ok (.getfield 18, 3) := mm_dk kX10_mark_0 1 rfl
theorem dX10_mark_4 : decode cX10_mark 4 = .ok (.bipush 32, 2) := mm_dk kX10_mark_0 2 rfl
theorem dX10_mark_6 : decode cX10_mark 6 = .ok (.if_icmp .ge 23, 3) := mm_dk kX10_mark_0 3 rfl
theorem dX10_mark_9 : decode cX10_mark 9 = .ok (.aload_n 0, 1) := mm_dk kX10_mark_0 4 rfl
theorem dX10_mark_10 : decode cX10_mark 10 = .ok (.getfield 15, 3) := mm_dk kX10_mark_0 5 rfl
theorem dX10_mark_13 : decode cX10_mark 13 = .ok (.aload_n 0, 1) := mm_dk kX10_mark_0 6 rfl
theorem dX10_mark_14 : decode cX10_mark 14 = .ok (.getfield 18, 3) := mm_dk kX10_mark_0 7 rfl
theorem dX10_mark_17 : decode cX10_mark 17 = .ok (.iload_n 1, 1) := mm_dk kX10_mark_0 8 rfl
theorem dX10_mark_18 : decode cX10_mark 18 = .ok (.iastore, 1) := mm_dk kX10_mark_0 9 rfl
theorem dX10_mark_19 : decode cX10_mark 19 = .ok (.aload_n 0, 1) := mm_dk kX10_mark_0 10 rfl
theorem dX10_mark_20 : decode cX10_mark 20 = .ok (.dup, 1) := mm_dk kX10_mark_0 11 rfl
theorem dX10_mark_21 : decode cX10_mark 21 = .ok (.getfield 18, 3) := mm_dk kX10_mark_0 12 rfl
theorem dX10_mark_24 : decode cX10_mark 24 = .ok (.iconst 1, 1) := mm_dk kX10_mark_0 13 rfl
theorem dX10_mark_25 : decode cX10_mark 25 = .ok (.iadd, 1) := mm_dk kX10_mark_0 14 rfl
theorem dX10_mark_26 : decode cX10_mark 26 = .ok (.putfield 18, 3) := mm_dk kX10_mark_0 15 rfl
theorem dX10_mark_29 : decode cX10_mark 29 = .ok (.return_, 1) := mm_dk kX10_mark_0 16 rfl
set_option maxRecDepth 100000 in
theorem kX10_narrow_0 : ([(0, .lload_n 1, 1), (1, .ldc2_w 22, 3), (4, .lcmp, 1), (5, .ifCond .ge 17, 3), (8, .aload_n 0, 1), (9, .dup, 1), (10, .getfield 24, 3), (13, .lconst 1, 1), (14, .ladd, 1), (15, .putfield 24, 3), (18, .sipush (-32768), 3), (21, .ireturn, 1), (22, .lload_n 1, 1), (23, .ldc2_w 28, 3), (26, .lcmp, 1), (27, .ifCond .le 17, 3), (30, .aload_n 0, 1), (31, .dup, 1), (32, .getfield 24, 3), (35, .lconst 1, 1), (36, .ladd, 1), (37, .putfield 24, 3), (40, .sipush 32767, 3), (43, .ireturn, 1), (44, .lload_n 1, 1), (45, .l2i, 1), (46, .ireturn, 1)] : List (Nat × Instr × Nat)).all (fun x => decide (decode cX10_narrow x.1 = .ok x.2)) = true := by decide +kernel
theorem dX10_narrow_0 : decode cX10_narrow 0 = .ok (.lload_n 1, 1) := mm_dk kX10_narrow_0 0 rfl
theorem dX10_narrow_1 : decode cX10_narrow 1 = .ok (.ldc2_w 22, 3) := mm_dk kX10_narrow_0 1 rfl
theorem dX10_narrow_4 : decode cX10_narrow 4 = .ok (.lcmp, 1) := mm_dk kX10_narrow_0 2 rfl
theorem dX10_narrow_5 : decode cX10_narrow 5 = .ok (.ifCond .ge 17, 3) := mm_dk kX10_narrow_0 3 rfl
theorem dX10_narrow_8 : decode cX10_narrow 8 = .ok (.aload_n 0, 1) := mm_dk kX10_narrow_0 4 rfl
theorem dX10_narrow_9 : decode cX10_narrow 9 = .ok (.dup, 1) := mm_dk kX10_narrow_0 5 rfl
theorem dX10_narrow_10 : decode cX10_narrow 10 = .ok (.getfield 24, 3) := mm_dk kX10_narrow_0 6 rfl
theorem dX10_narrow_13 : decode cX10_narrow 13 = .ok (.lconst 1, 1) := mm_dk kX10_narrow_0 7 rfl
theorem dX10_narrow_14 : decode cX10_narrow 14 = .ok (.ladd, 1) := mm_dk kX10_narrow_0 8 rfl
theorem dX10_narrow_15 : decode cX10_narrow 15 = .ok (.putfield 24, 3) := mm_dk kX10_narrow_0 9 rfl
theorem dX10_narrow_18 : decode cX10_narrow 18 = .ok (.sipush (-32768), 3) := mm_dk kX10_narrow_0 10 rfl
theorem dX10_narrow_21 : decode cX10_narrow 21 = .ok (.ireturn, 1) := mm_dk kX10_narrow_0 11 rfl
theorem dX10_narrow_22 : decode cX10_narrow 22 = .ok (.lload_n 1, 1) := mm_dk kX10_narrow_0 12 rfl
theorem dX10_narrow_23 : decode cX10_narrow 23 = .ok (.ldc2_w 28, 3) := mm_dk kX10_narrow_0 13 rfl
theorem dX10_narrow_26 : decode cX10_narrow 26 = .ok (.lcmp, 1) := mm_dk kX10_narrow_0 14 rfl
theorem dX10_narrow_27 : decode cX10_narrow 27 = .ok (.ifCond .le 17, 3) := mm_dk kX10_narrow_0 15 rfl
theorem dX10_narrow_30 : decode cX10_narrow 30 = .ok (.aload_n 0, 1) := mm_dk kX10_narrow_0 16 rfl
theorem dX10_narrow_31 : decode cX10_narrow 31 = .ok (.dup, 1) := mm_dk kX10_narrow_0 17 rfl
theorem dX10_narrow_32 : decode cX10_narrow 32 = .ok (.getfield 24, 3) := mm_dk kX10_narrow_0 18 rfl
theorem dX10_narrow_35 : decode cX10_narrow 35 = .ok (.lconst 1, 1) := mm_dk kX10_narrow_0 19 rfl
theorem dX10_narrow_36 : decode cX10_narrow 36 = .ok (.ladd, 1) := mm_dk kX10_narrow_0 20 rfl
theorem dX10_narrow_37 : decode cX10_narrow 37 = .ok (.putfield 24, 3) := mm_dk kX10_narrow_0 21 rfl
theorem dX10_narrow_40 : decode cX10_narrow 40 = .ok (.sipush 32767, 3) := mm_dk kX10_narrow_0 22 rfl
theorem dX10_narrow_43 : decode cX10_narrow 43 = .ok (.ireturn, 1) := mm_dk kX10_narrow_0 23 rfl
theorem dX10_narrow_44 : decode cX10_narrow 44 = .ok (.lload_n 1, 1) := mm_dk kX10_narrow_0 24 rfl
theorem dX10_narrow_45 : decode cX10_narrow 45 = .ok (.l2i, 1) := mm_dk kX10_narrow_0 25 rfl
theorem dX10_narrow_46 : decode cX10_narrow 46 = .ok (.ireturn, 1) := mm_dk kX10_narrow_0 26 rfl
set_option maxRecDepth 100000 in
theorem kX10_bounded_0 : ([(0, .ldc2_w 30, 3), (3, .ldc2_w 32, 3), (6, .lload_n 1, 1), (7, .invokestatic 34, 3), (10, .invokestatic 40, 3), (13, .lstore_n 3, 1), (14, .aload_n 0, 1), (15, .dup, 1), (16, .getfield 24, 3), (19, .lload_n 3, 1), (20, .lload_n 1, 1), (21, .lcmp, 1), (22, .ifCond .ne 7, 3), (25, .lconst 0, 1), (26, .goto 4, 3), (29, .lconst 1, 1), (30, .ladd, 1), (31, .putfield 24, 3), (34, .lload_n 3, 1), (35, .lreturn, 1)] : List (Nat × Instr × Nat)).all (fun x => decide (decode cX10_bounded x.1 = .ok x.2)) = true := by decide +kernel
theorem dX10_bounded_0 : decode cX10_bounded 0 = .ok (.ldc2_w 30, 3) := mm_dk kX10_bounded_0 0 rfl
theorem dX10_bounded_3 : decode cX10_bounded 3 = .ok (.ldc2_w 32, 3) := mm_dk kX10_bounded_0 1 rfl
theorem dX10_bounded_6 : decode cX10_bounded 6 = .ok (.lload_n 1, 1) := mm_dk kX10_bounded_0 2 rfl
theorem dX10_bounded_7 : decode cX10_bounded 7 = .ok (.invokestatic 34, 3) := mm_dk kX10_bounded_0 3 rfl
theorem dX10_bounded_10 : decode cX10_bounded 10 = .ok (.invokestatic 40, 3) := mm_dk kX10_bounded_0 4 rfl
theorem dX10_bounded_13 : decode cX10_bounded 13 = .ok (.lstore_n 3, 1) := mm_dk kX10_bounded_0 5 rfl
theorem dX10_bounded_14 : decode cX10_bounded 14 = .ok (.aload_n 0, 1) := mm_dk kX10_bounded_0 6 rfl
theorem dX10_bounded_15 : decode cX10_bounded 15 = .ok (.dup, 1) := mm_dk kX10_bounded_0 7 rfl
theorem dX10_bounded_16 : decode cX10_bounded 16 = .ok (.getfield 24, 3) := mm_dk kX10_bounded_0 8 rfl
theorem dX10_bounded_19 : decode cX10_bounded 19 = .ok (.lload_n 3, 1) := mm_dk kX10_bounded_0 9 rfl
theorem dX10_bounded_20 : decode cX10_bounded 20 = .ok (.lload_n 1, 1) := mm_dk kX10_bounded_0 10 rfl
theorem dX10_bounded_21 : decode cX10_bounded 21 = .ok (.lcmp, 1) := mm_dk kX10_bounded_0 11 rfl
theorem dX10_bounded_22 : decode cX10_bounded 22 = .ok (.ifCond .ne 7, 3) := mm_dk kX10_bounded_0 12 rfl
theorem dX10_bounded_25 : decode cX10_bounded 25 = .ok (.lconst 0, 1) := mm_dk kX10_bounded_0 13 rfl
theorem dX10_bounded_26 : decode cX10_bounded 26 = .ok (.goto 4, 3) := mm_dk kX10_bounded_0 14 rfl
theorem dX10_bounded_29 : decode cX10_bounded 29 = .ok (.lconst 1, 1) := mm_dk kX10_bounded_0 15 rfl
theorem dX10_bounded_30 : decode cX10_bounded 30 = .ok (.ladd, 1) := mm_dk kX10_bounded_0 16 rfl
theorem dX10_bounded_31 : decode cX10_bounded 31 = .ok (.putfield 24, 3) := mm_dk kX10_bounded_0 17 rfl
theorem dX10_bounded_34 : decode cX10_bounded 34 = .ok (.lload_n 3, 1) := mm_dk kX10_bounded_0 18 rfl
theorem dX10_bounded_35 : decode cX10_bounded 35 = .ok (.lreturn, 1) := mm_dk kX10_bounded_0 19 rfl
set_option maxRecDepth 100000 in
theorem kX10_nearestIndex_0 : ([(0, .ldc2_w 43, 3), (3, .ldc2_w 45, 3), (6, .lload_n 1, 1), (7, .invokestatic 34, 3), (10, .invokestatic 40, 3), (13, .lstore_n 3, 1), (14, .aload_n 0, 1), (15, .dup, 1), (16, .getfield 24, 3), (19, .lload_n 3, 1), (20, .lload_n 1, 1), (21, .lcmp, 1), (22, .ifCond .ne 7, 3), (25, .lconst 0, 1), (26, .goto 4, 3), (29, .lconst 1, 1), (30, .ladd, 1), (31, .putfield 24, 3), (34, .lload_n 3, 1), (35, .l2i, 1), (36, .ireturn, 1)] : List (Nat × Instr × Nat)).all (fun x => decide (decode cX10_nearestIndex x.1 = .ok x.2)) = true := by decide +kernel
theorem dX10_nearestIndex_0 : decode cX10_nearestIndex 0 = .ok (.ldc2_w 43, 3) := mm_dk kX10_nearestIndex_0 0 rfl
theorem dX10_nearestIndex_3 : decode cX10_nearestIndex 3 = .ok (.ldc2_w 45, 3) := mm_dk kX10_nearestIndex_0 1 rfl
theorem dX10_nearestIndex_6 : decode cX10_nearestIndex 6 = .ok (.lload_n 1, 1) := mm_dk kX10_nearestIndex_0 2 rfl
theorem dX10_nearestIndex_7 : decode cX10_nearestIndex 7 = .ok (.invokestatic 34, 3) := mm_dk kX10_nearestIndex_0 3 rfl
theorem dX10_nearestIndex_10 : decode cX10_nearestIndex 10 = .ok (.invokestatic 40, 3) := mm_dk kX10_nearestIndex_0 4 rfl
theorem dX10_nearestIndex_13 : decode cX10_nearestIndex 13 = .ok (.lstore_n 3, 1) := mm_dk kX10_nearestIndex_0 5 rfl
theorem dX10_nearestIndex_14 : decode cX10_nearestIndex 14 = .ok (.aload_n 0, 1) := mm_dk kX10_nearestIndex_0 6 rfl
theorem dX10_nearestIndex_15 : decode cX10_nearestIndex 15 = .ok (.dup, 1) := mm_dk kX10_nearestIndex_0 7 rfl
theorem dX10_nearestIndex_16 : decode cX10_nearestIndex 16 = .ok (.getfield 24, 3) := mm_dk kX10_nearestIndex_0 8 rfl
theorem dX10_nearestIndex_19 : decode cX10_nearestIndex 19 = .ok (.lload_n 3, 1) := mm_dk kX10_nearestIndex_0 9 rfl
theorem dX10_nearestIndex_20 : decode cX10_nearestIndex 20 = .ok (.lload_n 1, 1) := mm_dk kX10_nearestIndex_0 10 rfl
theorem dX10_nearestIndex_21 : decode cX10_nearestIndex 21 = .ok (.lcmp, 1) := mm_dk kX10_nearestIndex_0 11 rfl
theorem dX10_nearestIndex_22 : decode cX10_nearestIndex 22 = .ok (.ifCond .ne 7, 3) := mm_dk kX10_nearestIndex_0 12 rfl
theorem dX10_nearestIndex_25 : decode cX10_nearestIndex 25 = .ok (.lconst 0, 1) := mm_dk kX10_nearestIndex_0 13 rfl
theorem dX10_nearestIndex_26 : decode cX10_nearestIndex 26 = .ok (.goto 4, 3) := mm_dk kX10_nearestIndex_0 14 rfl
theorem dX10_nearestIndex_29 : decode cX10_nearestIndex 29 = .ok (.lconst 1, 1) := mm_dk kX10_nearestIndex_0 15 rfl
theorem dX10_nearestIndex_30 : decode cX10_nearestIndex 30 = .ok (.ladd, 1) := mm_dk kX10_nearestIndex_0 16 rfl
theorem dX10_nearestIndex_31 : decode cX10_nearestIndex 31 = .ok (.putfield 24, 3) := mm_dk kX10_nearestIndex_0 17 rfl
theorem dX10_nearestIndex_34 : decode cX10_nearestIndex 34 = .ok (.lload_n 3, 1) := mm_dk kX10_nearestIndex_0 18 rfl
theorem dX10_nearestIndex_35 : decode cX10_nearestIndex 35 = .ok (.l2i, 1) := mm_dk kX10_nearestIndex_0 19 rfl
theorem dX10_nearestIndex_36 : decode cX10_nearestIndex 36 = .ok (.ireturn, 1) := mm_dk kX10_nearestIndex_0 20 rfl
set_option maxRecDepth 100000 in
theorem kJ9_abs_0f7a4_0 : ([(0, .iload_n 0, 1), (1, .ifCond .ge 8, 3), (4, .iload_n 0, 1), (5, .ineg, 1), (6, .goto 4, 3), (9, .iload_n 0, 1), (10, .ireturn, 1)] : List (Nat × Instr × Nat)).all (fun x => decide (decode cJ9_abs_0f7a4 x.1 = .ok x.2)) = true := by decide +kernel
theorem dJ9_abs_0f7a4_0 : decode cJ9_abs_0f7a4 0 = .ok (.iload_n 0, 1) := mm_dk kJ9_abs_0f7a4_0 0 rfl
theorem dJ9_abs_0f7a4_1 : decode cJ9_abs_0f7a4 1 = .ok (.ifCond .ge 8, 3) := mm_dk kJ9_abs_0f7a4_0 1 rfl
theorem dJ9_abs_0f7a4_4 : decode cJ9_abs_0f7a4 4 = .ok (.iload_n 0, 1) := mm_dk kJ9_abs_0f7a4_0 2 rfl
theorem dJ9_abs_0f7a4_5 : decode cJ9_abs_0f7a4 5 = .ok (.ineg, 1) := mm_dk kJ9_abs_0f7a4_0 3 rfl
theorem dJ9_abs_0f7a4_6 : decode cJ9_abs_0f7a4 6 = .ok (.goto 4, 3) := mm_dk kJ9_abs_0f7a4_0 4 rfl
theorem dJ9_abs_0f7a4_9 : decode cJ9_abs_0f7a4 9 = .ok (.iload_n 0, 1) := mm_dk kJ9_abs_0f7a4_0 5 rfl
theorem dJ9_abs_0f7a4_10 : decode cJ9_abs_0f7a4 10 = .ok (.ireturn, 1) := mm_dk kJ9_abs_0f7a4_0 6 rfl
set_option maxRecDepth 100000 in
theorem kJ9_abs_067f4_0 : ([(0, .lload_n 0, 1), (1, .lconst 0, 1), (2, .lcmp, 1), (3, .ifCond .ge 8, 3), (6, .lload_n 0, 1), (7, .lneg, 1), (8, .goto 4, 3), (11, .lload_n 0, 1), (12, .lreturn, 1)] : List (Nat × Instr × Nat)).all (fun x => decide (decode cJ9_abs_067f4 x.1 = .ok x.2)) = true := by decide +kernel
theorem dJ9_abs_067f4_0 : decode cJ9_abs_067f4 0 = .ok (.lload_n 0, 1) := mm_dk kJ9_abs_067f4_0 0 rfl
theorem dJ9_abs_067f4_1 : decode cJ9_abs_067f4 1 = .ok (.lconst 0, 1) := mm_dk kJ9_abs_067f4_0 1 rfl
theorem dJ9_abs_067f4_2 : decode cJ9_abs_067f4 2 = .ok (.lcmp, 1) := mm_dk kJ9_abs_067f4_0 2 rfl
theorem dJ9_abs_067f4_3 : decode cJ9_abs_067f4 3 = .ok (.ifCond .ge 8, 3) := mm_dk kJ9_abs_067f4_0 3 rfl
theorem dJ9_abs_067f4_6 : decode cJ9_abs_067f4 6 = .ok (.lload_n 0, 1) := mm_dk kJ9_abs_067f4_0 4 rfl
theorem dJ9_abs_067f4_7 : decode cJ9_abs_067f4 7 = .ok (.lneg, 1) := mm_dk kJ9_abs_067f4_0 5 rfl
theorem dJ9_abs_067f4_8 : decode cJ9_abs_067f4 8 = .ok (.goto 4, 3) := mm_dk kJ9_abs_067f4_0 6 rfl
theorem dJ9_abs_067f4_11 : decode cJ9_abs_067f4 11 = .ok (.lload_n 0, 1) := mm_dk kJ9_abs_067f4_0 7 rfl
theorem dJ9_abs_067f4_12 : decode cJ9_abs_067f4 12 = .ok (.lreturn, 1) := mm_dk kJ9_abs_067f4_0 8 rfl
set_option maxRecDepth 100000 in
theorem kJ9_max_7cf53_0 : ([(0, .iload_n 0, 1), (1, .iload_n 1, 1), (2, .if_icmp .lt 7, 3), (5, .iload_n 0, 1), (6, .goto 4, 3), (9, .iload_n 1, 1), (10, .ireturn, 1)] : List (Nat × Instr × Nat)).all (fun x => decide (decode cJ9_max_7cf53 x.1 = .ok x.2)) = true := by decide +kernel
theorem dJ9_max_7cf53_0 : decode cJ9_max_7cf53 0 = .ok (.iload_n 0, 1) := mm_dk kJ9_max_7cf53_0 0 rfl
theorem dJ9_max_7cf53_1 : decode cJ9_max_7cf53 1 = .ok (.iload_n 1, 1) := mm_dk kJ9_max_7cf53_0 1 rfl
theorem dJ9_max_7cf53_2 : decode cJ9_max_7cf53 2 = .ok (.if_icmp .lt 7, 3) := mm_dk kJ9_max_7cf53_0 2 rfl
theorem dJ9_max_7cf53_5 : decode cJ9_max_7cf53 5 = .ok (.iload_n 0, 1) := mm_dk kJ9_max_7cf53_0 3 rfl
theorem dJ9_max_7cf53_6 : decode cJ9_max_7cf53 6 = .ok (.goto 4, 3) := mm_dk kJ9_max_7cf53_0 4 rfl
theorem dJ9_max_7cf53_9 : decode cJ9_max_7cf53 9 = .ok (.iload_n 1, 1) := mm_dk kJ9_max_7cf53_0 5 rfl
theorem dJ9_max_7cf53_10 : decode cJ9_max_7cf53 10 = .ok (.ireturn, 1) := mm_dk kJ9_max_7cf53_0 6 rfl
set_option maxRecDepth 100000 in
theorem kJ9_max_f86c9_0 : ([(0, .lload_n 0, 1), (1, .lload_n 2, 1), (2, .lcmp, 1), (3, .ifCond .lt 7, 3), (6, .lload_n 0, 1), (7, .goto 4, 3), (10, .lload_n 2, 1), (11, .lreturn, 1)] : List (Nat × Instr × Nat)).all (fun x => decide (decode cJ9_max_f86c9 x.1 = .ok x.2)) = true := by decide +kernel
theorem dJ9_max_f86c9_0 : decode cJ9_max_f86c9 0 = .ok (.lload_n 0, 1) := mm_dk kJ9_max_f86c9_0 0 rfl
theorem dJ9_max_f86c9_1 : decode cJ9_max_f86c9 1 = .ok (.lload_n 2, 1) := mm_dk kJ9_max_f86c9_0 1 rfl
theorem dJ9_max_f86c9_2 : decode cJ9_max_f86c9 2 = .ok (.lcmp, 1) := mm_dk kJ9_max_f86c9_0 2 rfl
theorem dJ9_max_f86c9_3 : decode cJ9_max_f86c9 3 = .ok (.ifCond .lt 7, 3) := mm_dk kJ9_max_f86c9_0 3 rfl
theorem dJ9_max_f86c9_6 : decode cJ9_max_f86c9 6 = .ok (.lload_n 0, 1) := mm_dk kJ9_max_f86c9_0 4 rfl
theorem dJ9_max_f86c9_7 : decode cJ9_max_f86c9 7 = .ok (.goto 4, 3) := mm_dk kJ9_max_f86c9_0 5 rfl
theorem dJ9_max_f86c9_10 : decode cJ9_max_f86c9 10 = .ok (.lload_n 2, 1) := mm_dk kJ9_max_f86c9_0 6 rfl
theorem dJ9_max_f86c9_11 : decode cJ9_max_f86c9 11 = .ok (.lreturn, 1) := mm_dk kJ9_max_f86c9_0 7 rfl
set_option maxRecDepth 100000 in
theorem kJ9_min_7cf53_0 : ([(0, .iload_n 0, 1), (1, .iload_n 1, 1), (2, .if_icmp .gt 7, 3), (5, .iload_n 0, 1), (6, .goto 4, 3), (9, .iload_n 1, 1), (10, .ireturn, 1)] : List (Nat × Instr × Nat)).all (fun x => decide (decode cJ9_min_7cf53 x.1 = .ok x.2)) = true := by decide +kernel
theorem dJ9_min_7cf53_0 : decode cJ9_min_7cf53 0 = .ok (.iload_n 0, 1) := mm_dk kJ9_min_7cf53_0 0 rfl
theorem dJ9_min_7cf53_1 : decode cJ9_min_7cf53 1 = .ok (.iload_n 1, 1) := mm_dk kJ9_min_7cf53_0 1 rfl
theorem dJ9_min_7cf53_2 : decode cJ9_min_7cf53 2 = .ok (.if_icmp .gt 7, 3) := mm_dk kJ9_min_7cf53_0 2 rfl
theorem dJ9_min_7cf53_5 : decode cJ9_min_7cf53 5 = .ok (.iload_n 0, 1) := mm_dk kJ9_min_7cf53_0 3 rfl
theorem dJ9_min_7cf53_6 : decode cJ9_min_7cf53 6 = .ok (.goto 4, 3) := mm_dk kJ9_min_7cf53_0 4 rfl
theorem dJ9_min_7cf53_9 : decode cJ9_min_7cf53 9 = .ok (.iload_n 1, 1) := mm_dk kJ9_min_7cf53_0 5 rfl
theorem dJ9_min_7cf53_10 : decode cJ9_min_7cf53 10 = .ok (.ireturn, 1) := mm_dk kJ9_min_7cf53_0 6 rfl
set_option maxRecDepth 100000 in
theorem kJ9_min_f86c9_0 : ([(0, .lload_n 0, 1), (1, .lload_n 2, 1), (2, .lcmp, 1), (3, .ifCond .gt 7, 3), (6, .lload_n 0, 1), (7, .goto 4, 3), (10, .lload_n 2, 1), (11, .lreturn, 1)] : List (Nat × Instr × Nat)).all (fun x => decide (decode cJ9_min_f86c9 x.1 = .ok x.2)) = true := by decide +kernel
theorem dJ9_min_f86c9_0 : decode cJ9_min_f86c9 0 = .ok (.lload_n 0, 1) := mm_dk kJ9_min_f86c9_0 0 rfl
theorem dJ9_min_f86c9_1 : decode cJ9_min_f86c9 1 = .ok (.lload_n 2, 1) := mm_dk kJ9_min_f86c9_0 1 rfl
theorem dJ9_min_f86c9_2 : decode cJ9_min_f86c9 2 = .ok (.lcmp, 1) := mm_dk kJ9_min_f86c9_0 2 rfl
theorem dJ9_min_f86c9_3 : decode cJ9_min_f86c9 3 = .ok (.ifCond .gt 7, 3) := mm_dk kJ9_min_f86c9_0 3 rfl
theorem dJ9_min_f86c9_6 : decode cJ9_min_f86c9 6 = .ok (.lload_n 0, 1) := mm_dk kJ9_min_f86c9_0 4 rfl
theorem dJ9_min_f86c9_7 : decode cJ9_min_f86c9 7 = .ok (.goto 4, 3) := mm_dk kJ9_min_f86c9_0 5 rfl
theorem dJ9_min_f86c9_10 : decode cJ9_min_f86c9 10 = .ok (.lload_n 2, 1) := mm_dk kJ9_min_f86c9_0 6 rfl
theorem dJ9_min_f86c9_11 : decode cJ9_min_f86c9 11 = .ok (.lreturn, 1) := mm_dk kJ9_min_f86c9_0 7 rfl
set_option maxRecDepth 100000 in
theorem kJ7_fill_d0a16_0 : ([(0, .iconst 0, 1), (1, .istore_n 3, 1), (2, .aload_n 0, 1), (3, .arraylength, 1), (4, .istore 4, 2), (6, .iload_n 3, 1), (7, .iload 4, 2), (9, .if_icmp .ge 13, 3), (12, .aload_n 0, 1), (13, .iload_n 3, 1), (14, .lload_n 1, 1), (15, .lastore, 1), (16, .iinc 3 1, 3), (19, .goto (-13), 3), (22, .return_, 1)] : List (Nat × Instr × Nat)).all (fun x => decide (decode cJ7_fill_d0a16 x.1 = .ok x.2)) = true := by decide +kernel
theorem dJ7_fill_d0a16_0 : decode cJ7_fill_d0a16 0 = .ok (.iconst 0, 1) := mm_dk kJ7_fill_d0a16_0 0 rfl
theorem dJ7_fill_d0a16_1 : decode cJ7_fill_d0a16 1 = .ok (.istore_n 3, 1) := mm_dk kJ7_fill_d0a16_0 1 rfl
theorem dJ7_fill_d0a16_2 : decode cJ7_fill_d0a16 2 = .ok (.aload_n 0, 1) := mm_dk kJ7_fill_d0a16_0 2 rfl
theorem dJ7_fill_d0a16_3 : decode cJ7_fill_d0a16 3 = .ok (.arraylength, 1) := mm_dk kJ7_fill_d0a16_0 3 rfl
theorem dJ7_fill_d0a16_4 : decode cJ7_fill_d0a16 4 = .ok (.istore 4, 2) := mm_dk kJ7_fill_d0a16_0 4 rfl
theorem dJ7_fill_d0a16_6 : decode cJ7_fill_d0a16 6 = .ok (.iload_n 3, 1) := mm_dk kJ7_fill_d0a16_0 5 rfl
theorem dJ7_fill_d0a16_7 : decode cJ7_fill_d0a16 7 = .ok (.iload 4, 2) := mm_dk kJ7_fill_d0a16_0 6 rfl
theorem dJ7_fill_d0a16_9 : decode cJ7_fill_d0a16 9 = .ok (.if_icmp .ge 13, 3) := mm_dk kJ7_fill_d0a16_0 7 rfl
theorem dJ7_fill_d0a16_12 : decode cJ7_fill_d0a16 12 = .ok (.aload_n 0, 1) := mm_dk kJ7_fill_d0a16_0 8 rfl
theorem dJ7_fill_d0a16_13 : decode cJ7_fill_d0a16 13 = .ok (.iload_n 3, 1) := mm_dk kJ7_fill_d0a16_0 9 rfl
theorem dJ7_fill_d0a16_14 : decode cJ7_fill_d0a16 14 = .ok (.lload_n 1, 1) := mm_dk kJ7_fill_d0a16_0 10 rfl
theorem dJ7_fill_d0a16_15 : decode cJ7_fill_d0a16 15 = .ok (.lastore, 1) := mm_dk kJ7_fill_d0a16_0 11 rfl
theorem dJ7_fill_d0a16_16 : decode cJ7_fill_d0a16 16 = .ok (.iinc 3 1, 3) := mm_dk kJ7_fill_d0a16_0 12 rfl
theorem dJ7_fill_d0a16_19 : decode cJ7_fill_d0a16 19 = .ok (.goto (-13), 3) := mm_dk kJ7_fill_d0a16_0 13 rfl
theorem dJ7_fill_d0a16_22 : decode cJ7_fill_d0a16 22 = .ok (.return_, 1) := mm_dk kJ7_fill_d0a16_0 14 rfl
set_option maxRecDepth 100000 in
theorem kJ7_fill_53178_0 : ([(0, .iconst 0, 1), (1, .istore_n 2, 1), (2, .aload_n 0, 1), (3, .arraylength, 1), (4, .istore_n 3, 1), (5, .iload_n 2, 1), (6, .iload_n 3, 1), (7, .if_icmp .ge 13, 3), (10, .aload_n 0, 1), (11, .iload_n 2, 1), (12, .iload_n 1, 1), (13, .iastore, 1), (14, .iinc 2 1, 3), (17, .goto (-12), 3), (20, .return_, 1)] : List (Nat × Instr × Nat)).all (fun x => decide (decode cJ7_fill_53178 x.1 = .ok x.2)) = true := by decide +kernel
theorem dJ7_fill_53178_0 : decode cJ7_fill_53178 0 = .ok (.iconst 0, 1) := mm_dk kJ7_fill_53178_0 0 rfl
theorem dJ7_fill_53178_1 : decode cJ7_fill_53178 1 = .ok (.istore_n 2, 1) := mm_dk kJ7_fill_53178_0 1 rfl
theorem dJ7_fill_53178_2 : decode cJ7_fill_53178 2 = .ok (.aload_n 0, 1) := mm_dk kJ7_fill_53178_0 2 rfl
theorem dJ7_fill_53178_3 : decode cJ7_fill_53178 3 = .ok (.arraylength, 1) := mm_dk kJ7_fill_53178_0 3 rfl
theorem dJ7_fill_53178_4 : decode cJ7_fill_53178 4 = .ok (.istore_n 3, 1) := mm_dk kJ7_fill_53178_0 4 rfl
theorem dJ7_fill_53178_5 : decode cJ7_fill_53178 5 = .ok (.iload_n 2, 1) := mm_dk kJ7_fill_53178_0 5 rfl
theorem dJ7_fill_53178_6 : decode cJ7_fill_53178 6 = .ok (.iload_n 3, 1) := mm_dk kJ7_fill_53178_0 6 rfl
theorem dJ7_fill_53178_7 : decode cJ7_fill_53178 7 = .ok (.if_icmp .ge 13, 3) := mm_dk kJ7_fill_53178_0 7 rfl
theorem dJ7_fill_53178_10 : decode cJ7_fill_53178 10 = .ok (.aload_n 0, 1) := mm_dk kJ7_fill_53178_0 8 rfl
theorem dJ7_fill_53178_11 : decode cJ7_fill_53178 11 = .ok (.iload_n 2, 1) := mm_dk kJ7_fill_53178_0 9 rfl
theorem dJ7_fill_53178_12 : decode cJ7_fill_53178 12 = .ok (.iload_n 1, 1) := mm_dk kJ7_fill_53178_0 10 rfl
theorem dJ7_fill_53178_13 : decode cJ7_fill_53178 13 = .ok (.iastore, 1) := mm_dk kJ7_fill_53178_0 11 rfl
theorem dJ7_fill_53178_14 : decode cJ7_fill_53178 14 = .ok (.iinc 2 1, 3) := mm_dk kJ7_fill_53178_0 12 rfl
theorem dJ7_fill_53178_17 : decode cJ7_fill_53178 17 = .ok (.goto (-12), 3) := mm_dk kJ7_fill_53178_0 13 rfl
theorem dJ7_fill_53178_20 : decode cJ7_fill_53178 20 = .ok (.return_, 1) := mm_dk kJ7_fill_53178_0 14 rfl
set_option maxRecDepth 100000 in
theorem kJ7_copyOf_9075b_0 : ([(0, .iload_n 1, 1), (1, .aload_n 0, 1), (2, .arraylength, 1), (3, .if_icmp .ne 11, 3), (6, .aload_n 0, 1), (7, .invokevirtual 310, 3), (10, .checkcast 311, 3), (13, .areturn, 1), (14, .iload_n 1, 1), (15, .newarray .byte, 2), (17, .astore_n 2, 1), (18, .aload_n 0, 1), (19, .iconst 0, 1), (20, .aload_n 2, 1), (21, .iconst 0, 1), (22, .aload_n 0, 1), (23, .arraylength, 1), (24, .iload_n 1, 1), (25, .invokestatic 304, 3), (28, .invokestatic 150, 3), (31, .aload_n 2, 1), (32, .areturn, 1)] : List (Nat × Instr × Nat)).all (fun x => decide (decode cJ7_copyOf_9075b x.1 = .ok x.2)) = true := by decide +kernel
theorem dJ7_copyOf_9075b_0 : decode cJ7_copyOf_9075b 0 = .ok (.iload_n 1, 1) := mm_dk kJ7_copyOf_9075b_0 0 rfl
theorem dJ7_copyOf_9075b_1 : decode cJ7_copyOf_9075b 1 = .ok (.aload_n 0, 1) := mm_dk kJ7_copyOf_9075b_0 1 rfl
theorem dJ7_copyOf_9075b_2 : decode cJ7_copyOf_9075b 2 = .ok (.arraylength, 1) := mm_dk kJ7_copyOf_9075b_0 2 rfl
theorem dJ7_copyOf_9075b_3 : decode cJ7_copyOf_9075b 3 = .ok (.if_icmp .ne 11, 3) := mm_dk kJ7_copyOf_9075b_0 3 rfl
theorem dJ7_copyOf_9075b_6 : decode cJ7_copyOf_9075b 6 = .ok (.aload_n 0, 1) := mm_dk kJ7_copyOf_9075b_0 4 rfl
theorem dJ7_copyOf_9075b_7 : decode cJ7_copyOf_9075b 7 = .ok (.invokevirtual 310, 3) := mm_dk kJ7_copyOf_9075b_0 5 rfl
theorem dJ7_copyOf_9075b_10 : decode cJ7_copyOf_9075b 10 = .ok (.checkcast 311, 3) := mm_dk kJ7_copyOf_9075b_0 6 rfl
theorem dJ7_copyOf_9075b_13 : decode cJ7_copyOf_9075b 13 = .ok (.areturn, 1) := mm_dk kJ7_copyOf_9075b_0 7 rfl
theorem dJ7_copyOf_9075b_14 : decode cJ7_copyOf_9075b 14 = .ok (.iload_n 1, 1) := mm_dk kJ7_copyOf_9075b_0 8 rfl
theorem dJ7_copyOf_9075b_15 : decode cJ7_copyOf_9075b 15 = .ok (.newarray .byte, 2) := mm_dk kJ7_copyOf_9075b_0 9 rfl
theorem dJ7_copyOf_9075b_17 : decode cJ7_copyOf_9075b 17 = .ok (.astore_n 2, 1) := mm_dk kJ7_copyOf_9075b_0 10 rfl
theorem dJ7_copyOf_9075b_18 : decode cJ7_copyOf_9075b 18 = .ok (.aload_n 0, 1) := mm_dk kJ7_copyOf_9075b_0 11 rfl
theorem dJ7_copyOf_9075b_19 : decode cJ7_copyOf_9075b 19 = .ok (.iconst 0, 1) := mm_dk kJ7_copyOf_9075b_0 12 rfl
theorem dJ7_copyOf_9075b_20 : decode cJ7_copyOf_9075b 20 = .ok (.aload_n 2, 1) := mm_dk kJ7_copyOf_9075b_0 13 rfl
theorem dJ7_copyOf_9075b_21 : decode cJ7_copyOf_9075b 21 = .ok (.iconst 0, 1) := mm_dk kJ7_copyOf_9075b_0 14 rfl
theorem dJ7_copyOf_9075b_22 : decode cJ7_copyOf_9075b 22 = .ok (.aload_n 0, 1) := mm_dk kJ7_copyOf_9075b_0 15 rfl
theorem dJ7_copyOf_9075b_23 : decode cJ7_copyOf_9075b 23 = .ok (.arraylength, 1) := mm_dk kJ7_copyOf_9075b_0 16 rfl
theorem dJ7_copyOf_9075b_24 : decode cJ7_copyOf_9075b 24 = .ok (.iload_n 1, 1) := mm_dk kJ7_copyOf_9075b_0 17 rfl
theorem dJ7_copyOf_9075b_25 : decode cJ7_copyOf_9075b 25 = .ok (.invokestatic 304, 3) := mm_dk kJ7_copyOf_9075b_0 18 rfl
theorem dJ7_copyOf_9075b_28 : decode cJ7_copyOf_9075b 28 = .ok (.invokestatic 150, 3) := mm_dk kJ7_copyOf_9075b_0 19 rfl
theorem dJ7_copyOf_9075b_31 : decode cJ7_copyOf_9075b 31 = .ok (.aload_n 2, 1) := mm_dk kJ7_copyOf_9075b_0 20 rfl
theorem dJ7_copyOf_9075b_32 : decode cJ7_copyOf_9075b 32 = .ok (.areturn, 1) := mm_dk kJ7_copyOf_9075b_0 21 rfl
set_option maxRecDepth 100000 in
theorem kJ7_copyOf_974b1_0 : ([(0, .iload_n 1, 1), (1, .aload_n 0, 1), (2, .arraylength, 1), (3, .if_icmp .ne 11, 3), (6, .aload_n 0, 1), (7, .invokevirtual 313, 3), (10, .checkcast 314, 3), (13, .areturn, 1), (14, .iload_n 1, 1), (15, .newarray .short, 2), (17, .astore_n 2, 1), (18, .aload_n 0, 1), (19, .iconst 0, 1), (20, .aload_n 2, 1), (21, .iconst 0, 1), (22, .aload_n 0, 1), (23, .arraylength, 1), (24, .iload_n 1, 1), (25, .invokestatic 304, 3), (28, .invokestatic 150, 3), (31, .aload_n 2, 1), (32, .areturn, 1)] : List (Nat × Instr × Nat)).all (fun x => decide (decode cJ7_copyOf_974b1 x.1 = .ok x.2)) = true := by decide +kernel
theorem dJ7_copyOf_974b1_0 : decode cJ7_copyOf_974b1 0 = .ok (.iload_n 1, 1) := mm_dk kJ7_copyOf_974b1_0 0 rfl
theorem dJ7_copyOf_974b1_1 : decode cJ7_copyOf_974b1 1 = .ok (.aload_n 0, 1) := mm_dk kJ7_copyOf_974b1_0 1 rfl
theorem dJ7_copyOf_974b1_2 : decode cJ7_copyOf_974b1 2 = .ok (.arraylength, 1) := mm_dk kJ7_copyOf_974b1_0 2 rfl
theorem dJ7_copyOf_974b1_3 : decode cJ7_copyOf_974b1 3 = .ok (.if_icmp .ne 11, 3) := mm_dk kJ7_copyOf_974b1_0 3 rfl
theorem dJ7_copyOf_974b1_6 : decode cJ7_copyOf_974b1 6 = .ok (.aload_n 0, 1) := mm_dk kJ7_copyOf_974b1_0 4 rfl
theorem dJ7_copyOf_974b1_7 : decode cJ7_copyOf_974b1 7 = .ok (.invokevirtual 313, 3) := mm_dk kJ7_copyOf_974b1_0 5 rfl
theorem dJ7_copyOf_974b1_10 : decode cJ7_copyOf_974b1 10 = .ok (.checkcast 314, 3) := mm_dk kJ7_copyOf_974b1_0 6 rfl
theorem dJ7_copyOf_974b1_13 : decode cJ7_copyOf_974b1 13 = .ok (.areturn, 1) := mm_dk kJ7_copyOf_974b1_0 7 rfl
theorem dJ7_copyOf_974b1_14 : decode cJ7_copyOf_974b1 14 = .ok (.iload_n 1, 1) := mm_dk kJ7_copyOf_974b1_0 8 rfl
theorem dJ7_copyOf_974b1_15 : decode cJ7_copyOf_974b1 15 = .ok (.newarray .short, 2) := mm_dk kJ7_copyOf_974b1_0 9 rfl
theorem dJ7_copyOf_974b1_17 : decode cJ7_copyOf_974b1 17 = .ok (.astore_n 2, 1) := mm_dk kJ7_copyOf_974b1_0 10 rfl
theorem dJ7_copyOf_974b1_18 : decode cJ7_copyOf_974b1 18 = .ok (.aload_n 0, 1) := mm_dk kJ7_copyOf_974b1_0 11 rfl
theorem dJ7_copyOf_974b1_19 : decode cJ7_copyOf_974b1 19 = .ok (.iconst 0, 1) := mm_dk kJ7_copyOf_974b1_0 12 rfl
theorem dJ7_copyOf_974b1_20 : decode cJ7_copyOf_974b1 20 = .ok (.aload_n 2, 1) := mm_dk kJ7_copyOf_974b1_0 13 rfl
theorem dJ7_copyOf_974b1_21 : decode cJ7_copyOf_974b1 21 = .ok (.iconst 0, 1) := mm_dk kJ7_copyOf_974b1_0 14 rfl
theorem dJ7_copyOf_974b1_22 : decode cJ7_copyOf_974b1 22 = .ok (.aload_n 0, 1) := mm_dk kJ7_copyOf_974b1_0 15 rfl
theorem dJ7_copyOf_974b1_23 : decode cJ7_copyOf_974b1 23 = .ok (.arraylength, 1) := mm_dk kJ7_copyOf_974b1_0 16 rfl
theorem dJ7_copyOf_974b1_24 : decode cJ7_copyOf_974b1 24 = .ok (.iload_n 1, 1) := mm_dk kJ7_copyOf_974b1_0 17 rfl
theorem dJ7_copyOf_974b1_25 : decode cJ7_copyOf_974b1 25 = .ok (.invokestatic 304, 3) := mm_dk kJ7_copyOf_974b1_0 18 rfl
theorem dJ7_copyOf_974b1_28 : decode cJ7_copyOf_974b1 28 = .ok (.invokestatic 150, 3) := mm_dk kJ7_copyOf_974b1_0 19 rfl
theorem dJ7_copyOf_974b1_31 : decode cJ7_copyOf_974b1 31 = .ok (.aload_n 2, 1) := mm_dk kJ7_copyOf_974b1_0 20 rfl
theorem dJ7_copyOf_974b1_32 : decode cJ7_copyOf_974b1 32 = .ok (.areturn, 1) := mm_dk kJ7_copyOf_974b1_0 21 rfl
